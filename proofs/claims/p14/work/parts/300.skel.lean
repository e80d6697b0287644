section
/-! THE CLAIM OUT OF ONE WALK OF THE LAW'S BODY. Your part is whole_start (and what it stands on); all else here is the same for every law, but numbers. -/
def R_law : String := "HillSchoolLaw"
def lw_P (b : Addr) (xs : List Int32) (args : Array Value) (s : State) : Prop := args = #[.ref b] ∧ s.IntsAt b xs ∧ xs.length ≤ 3072 ∧ (Jvm.Cond.and given_1 narrow_1).before args s = true
def lw_Q (_ : Array Value) (s : State) (o : Outcome) (t : State) : Prop := o = .returned (some (.int 1)) ∧ Framed s o t [] 600000 7302250
def lw_Z (below : List Frame) (a : Array Value) (s : State) : State → Prop := fun t => ∃ o, t.status = .running ∧ Ended t below o ∧ lw_Q a s o t
/-- the law's own end, with 1 on the stack, nothing written that was there before, its room as the claim has it -/
theorem lw_ret {p : Program} {l : Launch} {e : Env} {s : State} {m : MethodId} {below : List Frame} {meth : Method} {c : Code} {b : Nat} (hx : p.tables.exec = Jvm.exec) (hb : c.code = code) (hr : meth.sig.returnType = ret) (hlocks : meth.locks = false) {pc : Nat} {H : Heap} {ls : Array Slot} (hdg : decode code pc = .ok (.ireturn, 1)) : W p l e room_1 s m #[Value.ref b] below meth c H [] 600000 7302250 (lw_Z below #[Value.ref b] s) (F0 m pc ls [.int 1]) := by
  intro T hT X
  obtain ⟨fs, hret, hrun, hended, hW, hframe⟩ := X.leave (v := some (.int 1)) (hlocks := hlocks) (fun h => by rw [hr] at h; cases h)
  have hmeth' : T.vm.method? m = some meth := X.method'
  refine ⟨T.setFrames fs, ?_, .returned (some (.int 1)), hrun, hended, rfl, ⟨_, rfl⟩, hW, hframe⟩
  jvm_step X.here [X.here.top, hx, hb, hdg, hmeth', hr, ret, narrow_b1]
  (try refine ⟨rfl, ?_⟩); (try refine ⟨rfl, ?_⟩)
  first | (intro acts; rw [hret _ acts rfl rfl rfl]) | rw [hret _ _ rfl rfl rfl]
  exact Steps.refl _
/-- what holds at the law's entry: the machine, the code, the tables' words (any of lw_tbl by 'hts w (by decide +kernel)'), the script of L ints xs at the cell b, what the Statement gives of the start (any of its parts by flat_of_before) -/
def lw_At (p : Program) (s : State) (m : MethodId) (meth : Method) (c : Code) (b L : Nat) (xs : Nat → Int32) : Prop :=
  p.tables.exec = Jvm.exec ∧ c.code = code ∧ meth.sig.returnType = ret ∧ c.maxLocals = 4 ∧ s.vm.findClass R_law = some m.cls ∧ (∀ w ∈ lw_tbl, w.before #[Value.ref b] s = true) ∧ va_X b L xs s s.heap ∧ b < s.heap.size ∧ meth.locks = false ∧ (Jvm.Cond.and given_1 narrow_1).before #[Value.ref b] s = true
end
section
theorem zw_526 : (Jvm.Cond.methodLink "HillSchoolLaw" (13 : Nat) ({ cls := "HillSchool", name := "column", desc := "()I" } : Jvm.MethodName)) ∈ zall := zmemG (zmj_2 183 rfl) rfl
theorem zw_527 : (Jvm.Cond.instanceMethod ({ cls := "HillSchool", name := "column", desc := "()I" } : Jvm.MethodName)) ∈ zall := zmemG (zmj_2 184 rfl) rfl
theorem zw_528 : (Jvm.Cond.selects "HillSchool" ({ cls := "HillSchool", name := "column", desc := "()I" } : Jvm.MethodName) ({ cls := "HillSchool", name := "column", desc := "()I" } : Jvm.MethodName)) ∈ zall := zmemG (zmj_2 185 rfl) rfl
theorem zw_542 : (Jvm.Cond.methodLink "HillSchoolLaw" (18 : Nat) ({ cls := "HillSchool", name := "stone", desc := "(II)I" } : Jvm.MethodName)) ∈ zall := zmemG (zmj_2 199 rfl) rfl
theorem zw_543 : (Jvm.Cond.instanceMethod ({ cls := "HillSchool", name := "stone", desc := "(II)I" } : Jvm.MethodName)) ∈ zall := zmemG (zmj_2 200 rfl) rfl
theorem zw_544 : (Jvm.Cond.selects "HillSchool" ({ cls := "HillSchool", name := "stone", desc := "(II)I" } : Jvm.MethodName) ({ cls := "HillSchool", name := "stone", desc := "(II)I" } : Jvm.MethodName)) ∈ zall := zmemG (zmj_2 201 rfl) rfl
theorem zw_559 : (Jvm.Cond.methodLink "HillSchoolLaw" (23 : Nat) ({ cls := "HillSchool", name := "lift", desc := "(I)I" } : Jvm.MethodName)) ∈ zall := zmemG (zmj_2 216 rfl) rfl
theorem zw_560 : (Jvm.Cond.instanceMethod ({ cls := "HillSchool", name := "lift", desc := "(I)I" } : Jvm.MethodName)) ∈ zall := zmemG (zmj_2 217 rfl) rfl
theorem zw_561 : (Jvm.Cond.selects "HillSchool" ({ cls := "HillSchool", name := "lift", desc := "(I)I" } : Jvm.MethodName) ({ cls := "HillSchool", name := "lift", desc := "(I)I" } : Jvm.MethodName)) ∈ zall := zmemG (zmj_2 218 rfl) rfl
theorem zw_572 : (Jvm.Cond.methodLink "HillSchoolLaw" (28 : Nat) ({ cls := "HillSchool", name := "of", desc := "(II)I" } : Jvm.MethodName)) ∈ zall := zmemG (zmj_2 229 rfl) rfl
theorem zw_573 : (Jvm.Cond.instanceMethod ({ cls := "HillSchool", name := "of", desc := "(II)I" } : Jvm.MethodName)) ∈ zall := zmemG (zmj_2 230 rfl) rfl
theorem zw_574 : (Jvm.Cond.selects "HillSchool" ({ cls := "HillSchool", name := "of", desc := "(II)I" } : Jvm.MethodName) ({ cls := "HillSchool", name := "of", desc := "(II)I" } : Jvm.MethodName)) ∈ zall := zmemG (zmj_2 231 rfl) rfl
theorem zw_580 : (Jvm.Cond.methodLink "HillSchoolLaw" (32 : Nat) ({ cls := "HillSchool", name := "weight", desc := "(I)I" } : Jvm.MethodName)) ∈ zall := zmemG (zmj_2 237 rfl) rfl
theorem zw_581 : (Jvm.Cond.instanceMethod ({ cls := "HillSchool", name := "weight", desc := "(I)I" } : Jvm.MethodName)) ∈ zall := zmemG (zmj_2 238 rfl) rfl
theorem zw_582 : (Jvm.Cond.selects "HillSchool" ({ cls := "HillSchool", name := "weight", desc := "(I)I" } : Jvm.MethodName) ({ cls := "HillSchool", name := "weight", desc := "(I)I" } : Jvm.MethodName)) ∈ zall := zmemG (zmj_2 239 rfl) rfl
theorem zw_589 : (Jvm.Cond.methodLink "HillSchoolLaw" (36 : Nat) ({ cls := "HillSchool", name := "child", desc := "(I)I" } : Jvm.MethodName)) ∈ zall := zmemG (zmj_3 6 rfl) rfl
theorem zw_590 : (Jvm.Cond.instanceMethod ({ cls := "HillSchool", name := "child", desc := "(I)I" } : Jvm.MethodName)) ∈ zall := zmemG (zmj_3 7 rfl) rfl
theorem zw_591 : (Jvm.Cond.selects "HillSchool" ({ cls := "HillSchool", name := "child", desc := "(I)I" } : Jvm.MethodName) ({ cls := "HillSchool", name := "child", desc := "(I)I" } : Jvm.MethodName)) ∈ zall := zmemG (zmj_3 8 rfl) rfl
theorem zw_597 : (Jvm.Cond.methodLink "HillSchoolLaw" (40 : Nat) ({ cls := "HillSchool", name := "expel", desc := "(II)I" } : Jvm.MethodName)) ∈ zall := zmemG (zmj_3 14 rfl) rfl
theorem zw_598 : (Jvm.Cond.instanceMethod ({ cls := "HillSchool", name := "expel", desc := "(II)I" } : Jvm.MethodName)) ∈ zall := zmemG (zmj_3 15 rfl) rfl
theorem zw_599 : (Jvm.Cond.selects "HillSchool" ({ cls := "HillSchool", name := "expel", desc := "(II)I" } : Jvm.MethodName) ({ cls := "HillSchool", name := "expel", desc := "(II)I" } : Jvm.MethodName)) ∈ zall := zmemG (zmj_3 16 rfl) rfl
theorem zw_605 : (Jvm.Cond.methodLink "HillSchoolLaw" (44 : Nat) ({ cls := "HillSchool", name := "fact", desc := "(II)I" } : Jvm.MethodName)) ∈ zall := zmemG (zmj_3 22 rfl) rfl
theorem zw_606 : (Jvm.Cond.instanceMethod ({ cls := "HillSchool", name := "fact", desc := "(II)I" } : Jvm.MethodName)) ∈ zall := zmemG (zmj_3 23 rfl) rfl
theorem zw_607 : (Jvm.Cond.selects "HillSchool" ({ cls := "HillSchool", name := "fact", desc := "(II)I" } : Jvm.MethodName) ({ cls := "HillSchool", name := "fact", desc := "(II)I" } : Jvm.MethodName)) ∈ zall := zmemG (zmj_3 24 rfl) rfl
theorem zw_609 : (Jvm.Cond.methodLink "HillSchoolLaw" (48 : Nat) ({ cls := "HillSchool", name := "parish", desc := "(I)I" } : Jvm.MethodName)) ∈ zall := zmemG (zmj_3 26 rfl) rfl
theorem zw_610 : (Jvm.Cond.instanceMethod ({ cls := "HillSchool", name := "parish", desc := "(I)I" } : Jvm.MethodName)) ∈ zall := zmemG (zmj_3 27 rfl) rfl
theorem zw_611 : (Jvm.Cond.selects "HillSchool" ({ cls := "HillSchool", name := "parish", desc := "(I)I" } : Jvm.MethodName) ({ cls := "HillSchool", name := "parish", desc := "(I)I" } : Jvm.MethodName)) ∈ zall := zmemG (zmj_3 28 rfl) rfl
theorem zw_613 : (Jvm.Cond.methodLink "HillSchoolLaw" (52 : Nat) ({ cls := "HillSchool", name := "terms", desc := "(II)I" } : Jvm.MethodName)) ∈ zall := zmemG (zmj_3 30 rfl) rfl
theorem zw_614 : (Jvm.Cond.instanceMethod ({ cls := "HillSchool", name := "terms", desc := "(II)I" } : Jvm.MethodName)) ∈ zall := zmemG (zmj_3 31 rfl) rfl
theorem zw_615 : (Jvm.Cond.selects "HillSchool" ({ cls := "HillSchool", name := "terms", desc := "(II)I" } : Jvm.MethodName) ({ cls := "HillSchool", name := "terms", desc := "(II)I" } : Jvm.MethodName)) ∈ zall := zmemG (zmj_3 32 rfl) rfl
theorem zw_622 : (Jvm.Cond.methodLink "HillSchoolLaw" (56 : Nat) ({ cls := "HillSchool", name := "feed", desc := "(IIIII)I" } : Jvm.MethodName)) ∈ zall := zmemG (zmj_3 39 rfl) rfl
theorem zw_623 : (Jvm.Cond.instanceMethod ({ cls := "HillSchool", name := "feed", desc := "(IIIII)I" } : Jvm.MethodName)) ∈ zall := zmemG (zmj_3 40 rfl) rfl
theorem zw_624 : (Jvm.Cond.selects "HillSchool" ({ cls := "HillSchool", name := "feed", desc := "(IIIII)I" } : Jvm.MethodName) ({ cls := "HillSchool", name := "feed", desc := "(IIIII)I" } : Jvm.MethodName)) ∈ zall := zmemG (zmj_3 41 rfl) rfl
theorem zw_630 : (Jvm.Cond.methodLink "HillSchoolLaw" (61 : Nat) ({ cls := "HillSchool", name := "end", desc := "(I)I" } : Jvm.MethodName)) ∈ zall := zmemG (zmj_3 47 rfl) rfl
theorem zw_631 : (Jvm.Cond.instanceMethod ({ cls := "HillSchool", name := "end", desc := "(I)I" } : Jvm.MethodName)) ∈ zall := zmemG (zmj_3 48 rfl) rfl
theorem zw_632 : (Jvm.Cond.selects "HillSchool" ({ cls := "HillSchool", name := "end", desc := "(I)I" } : Jvm.MethodName) ({ cls := "HillSchool", name := "end", desc := "(I)I" } : Jvm.MethodName)) ∈ zall := zmemG (zmj_3 49 rfl) rfl
theorem zw_634 : (Jvm.Cond.methodLink "HillSchoolLaw" (65 : Nat) ({ cls := "HillSchool", name := "row", desc := "()I" } : Jvm.MethodName)) ∈ zall := zmemG (zmj_3 51 rfl) rfl
theorem zw_635 : (Jvm.Cond.instanceMethod ({ cls := "HillSchool", name := "row", desc := "()I" } : Jvm.MethodName)) ∈ zall := zmemG (zmj_3 52 rfl) rfl
theorem zw_636 : (Jvm.Cond.selects "HillSchool" ({ cls := "HillSchool", name := "row", desc := "()I" } : Jvm.MethodName) ({ cls := "HillSchool", name := "row", desc := "()I" } : Jvm.MethodName)) ∈ zall := zmemG (zmj_3 53 rfl) rfl
theorem zw_638 : (Jvm.Cond.methodLink "HillSchoolLaw" (69 : Nat) ({ cls := "HillSchool", name := "gravel", desc := "()I" } : Jvm.MethodName)) ∈ zall := zmemG (zmj_3 55 rfl) rfl
theorem zw_639 : (Jvm.Cond.instanceMethod ({ cls := "HillSchool", name := "gravel", desc := "()I" } : Jvm.MethodName)) ∈ zall := zmemG (zmj_3 56 rfl) rfl
theorem zw_640 : (Jvm.Cond.selects "HillSchool" ({ cls := "HillSchool", name := "gravel", desc := "()I" } : Jvm.MethodName) ({ cls := "HillSchool", name := "gravel", desc := "()I" } : Jvm.MethodName)) ∈ zall := zmemG (zmj_3 57 rfl) rfl
theorem zw_642 : (Jvm.Cond.methodLink "HillSchoolLaw" (73 : Nat) ({ cls := "HillSchool", name := "law", desc := "()I" } : Jvm.MethodName)) ∈ zall := zmemG (zmj_3 59 rfl) rfl
theorem zw_643 : (Jvm.Cond.instanceMethod ({ cls := "HillSchool", name := "law", desc := "()I" } : Jvm.MethodName)) ∈ zall := zmemG (zmj_3 60 rfl) rfl
theorem zw_644 : (Jvm.Cond.selects "HillSchool" ({ cls := "HillSchool", name := "law", desc := "()I" } : Jvm.MethodName) ({ cls := "HillSchool", name := "law", desc := "()I" } : Jvm.MethodName)) ∈ zall := zmemG (zmj_3 61 rfl) rfl
theorem zw_787 : (Jvm.Cond.methodLink "HillSchoolLaw" (77 : Nat) ({ cls := "HillSchool", name := "fault", desc := "()I" } : Jvm.MethodName)) ∈ zall := zmemG (zmj_3 204 rfl) rfl
theorem zw_788 : (Jvm.Cond.instanceMethod ({ cls := "HillSchool", name := "fault", desc := "()I" } : Jvm.MethodName)) ∈ zall := zmemG (zmj_3 205 rfl) rfl
theorem zw_789 : (Jvm.Cond.selects "HillSchool" ({ cls := "HillSchool", name := "fault", desc := "()I" } : Jvm.MethodName) ({ cls := "HillSchool", name := "fault", desc := "()I" } : Jvm.MethodName)) ∈ zall := zmemG (zmj_3 206 rfl) rfl
theorem zw_791 : (Jvm.Cond.methodLink "HillSchoolLaw" (81 : Nat) ({ cls := "HillSchool", name := "force", desc := "(I)I" } : Jvm.MethodName)) ∈ zall := zmemG (zmj_3 208 rfl) rfl
theorem zw_792 : (Jvm.Cond.instanceMethod ({ cls := "HillSchool", name := "force", desc := "(I)I" } : Jvm.MethodName)) ∈ zall := zmemG (zmj_3 209 rfl) rfl
theorem zw_793 : (Jvm.Cond.selects "HillSchool" ({ cls := "HillSchool", name := "force", desc := "(I)I" } : Jvm.MethodName) ({ cls := "HillSchool", name := "force", desc := "(I)I" } : Jvm.MethodName)) ∈ zall := zmemG (zmj_3 210 rfl) rfl
theorem zw_795 : (Jvm.Cond.methodLink "HillSchoolLaw" (85 : Nat) ({ cls := "HillSchool", name := "can", desc := "(III)I" } : Jvm.MethodName)) ∈ zall := zmemG (zmj_3 212 rfl) rfl
theorem zw_796 : (Jvm.Cond.instanceMethod ({ cls := "HillSchool", name := "can", desc := "(III)I" } : Jvm.MethodName)) ∈ zall := zmemG (zmj_3 213 rfl) rfl
theorem zw_797 : (Jvm.Cond.selects "HillSchool" ({ cls := "HillSchool", name := "can", desc := "(III)I" } : Jvm.MethodName) ({ cls := "HillSchool", name := "can", desc := "(III)I" } : Jvm.MethodName)) ∈ zall := zmemG (zmj_3 214 rfl) rfl
theorem zw_841 : (Jvm.Cond.methodLink "HillSchoolLaw" (90 : Nat) ({ cls := "HillSchool", name := "tires", desc := "(III)I" } : Jvm.MethodName)) ∈ zall := zmemG (zmj_4 18 rfl) rfl
theorem zw_842 : (Jvm.Cond.instanceMethod ({ cls := "HillSchool", name := "tires", desc := "(III)I" } : Jvm.MethodName)) ∈ zall := zmemG (zmj_4 19 rfl) rfl
theorem zw_843 : (Jvm.Cond.selects "HillSchool" ({ cls := "HillSchool", name := "tires", desc := "(III)I" } : Jvm.MethodName) ({ cls := "HillSchool", name := "tires", desc := "(III)I" } : Jvm.MethodName)) ∈ zall := zmemG (zmj_4 20 rfl) rfl
theorem zw_845 : (Jvm.Cond.methodLink "HillSchoolLaw" (94 : Nat) ({ cls := "HillSchool", name := "carry", desc := "(III)I" } : Jvm.MethodName)) ∈ zall := zmemG (zmj_4 22 rfl) rfl
theorem zw_846 : (Jvm.Cond.instanceMethod ({ cls := "HillSchool", name := "carry", desc := "(III)I" } : Jvm.MethodName)) ∈ zall := zmemG (zmj_4 23 rfl) rfl
theorem zw_847 : (Jvm.Cond.selects "HillSchool" ({ cls := "HillSchool", name := "carry", desc := "(III)I" } : Jvm.MethodName) ({ cls := "HillSchool", name := "carry", desc := "(III)I" } : Jvm.MethodName)) ∈ zall := zmemG (zmj_4 24 rfl) rfl
theorem zw_855 : (Jvm.Cond.methodLink "HillSchoolLaw" (98 : Nat) ({ cls := "HillSchool", name := "exchange", desc := "(IIII)I" } : Jvm.MethodName)) ∈ zall := zmemG (zmj_4 32 rfl) rfl
theorem zw_856 : (Jvm.Cond.instanceMethod ({ cls := "HillSchool", name := "exchange", desc := "(IIII)I" } : Jvm.MethodName)) ∈ zall := zmemG (zmj_4 33 rfl) rfl
theorem zw_857 : (Jvm.Cond.selects "HillSchool" ({ cls := "HillSchool", name := "exchange", desc := "(IIII)I" } : Jvm.MethodName) ({ cls := "HillSchool", name := "exchange", desc := "(IIII)I" } : Jvm.MethodName)) ∈ zall := zmemG (zmj_4 34 rfl) rfl
theorem zw_860 : (Jvm.Cond.methodLink "HillSchoolLaw" (103 : Nat) ({ cls := "HillSchool", name := "steep", desc := "()I" } : Jvm.MethodName)) ∈ zall := zmemG (zmj_4 37 rfl) rfl
theorem zw_861 : (Jvm.Cond.instanceMethod ({ cls := "HillSchool", name := "steep", desc := "()I" } : Jvm.MethodName)) ∈ zall := zmemG (zmj_4 38 rfl) rfl
theorem zw_862 : (Jvm.Cond.selects "HillSchool" ({ cls := "HillSchool", name := "steep", desc := "()I" } : Jvm.MethodName) ({ cls := "HillSchool", name := "steep", desc := "()I" } : Jvm.MethodName)) ∈ zall := zmemG (zmj_4 39 rfl) rfl
theorem zw_872 : (Jvm.Cond.methodLink "HillSchoolLaw" (107 : Nat) ({ cls := "HillSchool", name := "slide", desc := "()I" } : Jvm.MethodName)) ∈ zall := zmemG (zmj_4 49 rfl) rfl
theorem zw_873 : (Jvm.Cond.instanceMethod ({ cls := "HillSchool", name := "slide", desc := "()I" } : Jvm.MethodName)) ∈ zall := zmemG (zmj_4 50 rfl) rfl
theorem zw_874 : (Jvm.Cond.selects "HillSchool" ({ cls := "HillSchool", name := "slide", desc := "()I" } : Jvm.MethodName) ({ cls := "HillSchool", name := "slide", desc := "()I" } : Jvm.MethodName)) ∈ zall := zmemG (zmj_4 51 rfl) rfl
theorem zw_882 : (Jvm.Cond.methodLink "HillSchoolLaw" (111 : Nat) ({ cls := "HillSchool", name := "shade", desc := "(I)I" } : Jvm.MethodName)) ∈ zall := zmemG (zmj_4 59 rfl) rfl
theorem zw_883 : (Jvm.Cond.instanceMethod ({ cls := "HillSchool", name := "shade", desc := "(I)I" } : Jvm.MethodName)) ∈ zall := zmemG (zmj_4 60 rfl) rfl
theorem zw_884 : (Jvm.Cond.selects "HillSchool" ({ cls := "HillSchool", name := "shade", desc := "(I)I" } : Jvm.MethodName) ({ cls := "HillSchool", name := "shade", desc := "(I)I" } : Jvm.MethodName)) ∈ zall := zmemG (zmj_4 61 rfl) rfl
theorem zw_906 : (Jvm.Cond.methodLink "HillSchoolLaw" (115 : Nat) ({ cls := "HillSchool", name := "gains", desc := "(IIII)I" } : Jvm.MethodName)) ∈ zall := zmemG (zmj_4 83 rfl) rfl
theorem zw_907 : (Jvm.Cond.instanceMethod ({ cls := "HillSchool", name := "gains", desc := "(IIII)I" } : Jvm.MethodName)) ∈ zall := zmemG (zmj_4 84 rfl) rfl
theorem zw_908 : (Jvm.Cond.selects "HillSchool" ({ cls := "HillSchool", name := "gains", desc := "(IIII)I" } : Jvm.MethodName) ({ cls := "HillSchool", name := "gains", desc := "(IIII)I" } : Jvm.MethodName)) ∈ zall := zmemG (zmj_4 85 rfl) rfl
theorem zw_910 : (Jvm.Cond.methodLink "HillSchoolLaw" (119 : Nat) ({ cls := "HillSchool", name := "goal", desc := "(II)I" } : Jvm.MethodName)) ∈ zall := zmemG (zmj_4 87 rfl) rfl
theorem zw_911 : (Jvm.Cond.instanceMethod ({ cls := "HillSchool", name := "goal", desc := "(II)I" } : Jvm.MethodName)) ∈ zall := zmemG (zmj_4 88 rfl) rfl
theorem zw_912 : (Jvm.Cond.selects "HillSchool" ({ cls := "HillSchool", name := "goal", desc := "(II)I" } : Jvm.MethodName) ({ cls := "HillSchool", name := "goal", desc := "(II)I" } : Jvm.MethodName)) ∈ zall := zmemG (zmj_4 89 rfl) rfl
theorem zw_914 : (Jvm.Cond.methodLink "HillSchoolLaw" (123 : Nat) ({ cls := "HillSchool", name := "plan", desc := "(III)I" } : Jvm.MethodName)) ∈ zall := zmemG (zmj_4 91 rfl) rfl
theorem zw_915 : (Jvm.Cond.instanceMethod ({ cls := "HillSchool", name := "plan", desc := "(III)I" } : Jvm.MethodName)) ∈ zall := zmemG (zmj_4 92 rfl) rfl
theorem zw_916 : (Jvm.Cond.selects "HillSchool" ({ cls := "HillSchool", name := "plan", desc := "(III)I" } : Jvm.MethodName) ({ cls := "HillSchool", name := "plan", desc := "(III)I" } : Jvm.MethodName)) ∈ zall := zmemG (zmj_4 93 rfl) rfl
theorem zw_1025 : (Jvm.Cond.methodLink "HillSchoolLaw" (127 : Nat) ({ cls := "HillSchool", name := "weighs", desc := "(I)I" } : Jvm.MethodName)) ∈ zall := zmemG (zmj_4 202 rfl) rfl
theorem zw_1026 : (Jvm.Cond.instanceMethod ({ cls := "HillSchool", name := "weighs", desc := "(I)I" } : Jvm.MethodName)) ∈ zall := zmemG (zmj_4 203 rfl) rfl
theorem zw_1027 : (Jvm.Cond.selects "HillSchool" ({ cls := "HillSchool", name := "weighs", desc := "(I)I" } : Jvm.MethodName) ({ cls := "HillSchool", name := "weighs", desc := "(I)I" } : Jvm.MethodName)) ∈ zall := zmemG (zmj_4 204 rfl) rfl
theorem zw_1042 : (Jvm.Cond.methodLink "HillSchoolLaw" (131 : Nat) ({ cls := "HillSchool", name := "trips", desc := "(II)I" } : Jvm.MethodName)) ∈ zall := zmemG (zmj_4 219 rfl) rfl
theorem zw_1043 : (Jvm.Cond.instanceMethod ({ cls := "HillSchool", name := "trips", desc := "(II)I" } : Jvm.MethodName)) ∈ zall := zmemG (zmj_4 220 rfl) rfl
theorem zw_1044 : (Jvm.Cond.selects "HillSchool" ({ cls := "HillSchool", name := "trips", desc := "(II)I" } : Jvm.MethodName) ({ cls := "HillSchool", name := "trips", desc := "(II)I" } : Jvm.MethodName)) ∈ zall := zmemG (zmj_4 221 rfl) rfl
theorem zw_1046 : (Jvm.Cond.methodLink "HillSchoolLaw" (135 : Nat) ({ cls := "HillSchool", name := "culprits", desc := "(III)I" } : Jvm.MethodName)) ∈ zall := zmemG (zmj_4 223 rfl) rfl
theorem zw_1047 : (Jvm.Cond.instanceMethod ({ cls := "HillSchool", name := "culprits", desc := "(III)I" } : Jvm.MethodName)) ∈ zall := zmemG (zmj_4 224 rfl) rfl
theorem zw_1048 : (Jvm.Cond.selects "HillSchool" ({ cls := "HillSchool", name := "culprits", desc := "(III)I" } : Jvm.MethodName) ({ cls := "HillSchool", name := "culprits", desc := "(III)I" } : Jvm.MethodName)) ∈ zall := zmemG (zmj_4 225 rfl) rfl
theorem zw_1071 : (Jvm.Cond.methodLink "HillSchoolLaw" (139 : Nat) ({ cls := "HillSchool", name := "duel", desc := "(III)I" } : Jvm.MethodName)) ∈ zall := zmemG (zmj_5 8 rfl) rfl
theorem zw_1072 : (Jvm.Cond.instanceMethod ({ cls := "HillSchool", name := "duel", desc := "(III)I" } : Jvm.MethodName)) ∈ zall := zmemG (zmj_5 9 rfl) rfl
theorem zw_1073 : (Jvm.Cond.selects "HillSchool" ({ cls := "HillSchool", name := "duel", desc := "(III)I" } : Jvm.MethodName) ({ cls := "HillSchool", name := "duel", desc := "(III)I" } : Jvm.MethodName)) ∈ zall := zmemG (zmj_5 10 rfl) rfl
theorem zw_1097 : (Jvm.Cond.methodLink "HillSchoolLaw" (143 : Nat) ({ cls := "HillSchool", name := "layers", desc := "(I)I" } : Jvm.MethodName)) ∈ zall := zmemG (zmj_5 34 rfl) rfl
theorem zw_1098 : (Jvm.Cond.instanceMethod ({ cls := "HillSchool", name := "layers", desc := "(I)I" } : Jvm.MethodName)) ∈ zall := zmemG (zmj_5 35 rfl) rfl
theorem zw_1099 : (Jvm.Cond.selects "HillSchool" ({ cls := "HillSchool", name := "layers", desc := "(I)I" } : Jvm.MethodName) ({ cls := "HillSchool", name := "layers", desc := "(I)I" } : Jvm.MethodName)) ∈ zall := zmemG (zmj_5 36 rfl) rfl
theorem zw_1105 : (Jvm.Cond.methodLink "HillSchoolLaw" (147 : Nat) ({ cls := "HillSchool", name := "rain", desc := "(II)I" } : Jvm.MethodName)) ∈ zall := zmemG (zmj_5 42 rfl) rfl
theorem zw_1106 : (Jvm.Cond.instanceMethod ({ cls := "HillSchool", name := "rain", desc := "(II)I" } : Jvm.MethodName)) ∈ zall := zmemG (zmj_5 43 rfl) rfl
theorem zw_1107 : (Jvm.Cond.selects "HillSchool" ({ cls := "HillSchool", name := "rain", desc := "(II)I" } : Jvm.MethodName) ({ cls := "HillSchool", name := "rain", desc := "(II)I" } : Jvm.MethodName)) ∈ zall := zmemG (zmj_5 44 rfl) rfl
theorem zw_1124 : (Jvm.Cond.methodLink "HillSchoolLaw" (151 : Nat) ({ cls := "HillSchool", name := "rained", desc := "(II)I" } : Jvm.MethodName)) ∈ zall := zmemG (zmj_5 61 rfl) rfl
theorem zw_1125 : (Jvm.Cond.instanceMethod ({ cls := "HillSchool", name := "rained", desc := "(II)I" } : Jvm.MethodName)) ∈ zall := zmemG (zmj_5 62 rfl) rfl
theorem zw_1126 : (Jvm.Cond.selects "HillSchool" ({ cls := "HillSchool", name := "rained", desc := "(II)I" } : Jvm.MethodName) ({ cls := "HillSchool", name := "rained", desc := "(II)I" } : Jvm.MethodName)) ∈ zall := zmemG (zmj_5 63 rfl) rfl
theorem zw_1128 : (Jvm.Cond.methodLink "HillSchoolLaw" (155 : Nat) ({ cls := "HillSchool", name := "image", desc := "(I)I" } : Jvm.MethodName)) ∈ zall := zmemG (zmj_5 65 rfl) rfl
theorem zw_1129 : (Jvm.Cond.instanceMethod ({ cls := "HillSchool", name := "image", desc := "(I)I" } : Jvm.MethodName)) ∈ zall := zmemG (zmj_5 66 rfl) rfl
theorem zw_1130 : (Jvm.Cond.selects "HillSchool" ({ cls := "HillSchool", name := "image", desc := "(I)I" } : Jvm.MethodName) ({ cls := "HillSchool", name := "image", desc := "(I)I" } : Jvm.MethodName)) ∈ zall := zmemG (zmj_5 67 rfl) rfl
theorem zw_1137 : (Jvm.Cond.methodLink "HillSchoolLaw" (159 : Nat) ({ cls := "HillSchool", name := "back", desc := "(I)I" } : Jvm.MethodName)) ∈ zall := zmemG (zmj_5 74 rfl) rfl
theorem zw_1138 : (Jvm.Cond.instanceMethod ({ cls := "HillSchool", name := "back", desc := "(I)I" } : Jvm.MethodName)) ∈ zall := zmemG (zmj_5 75 rfl) rfl
theorem zw_1139 : (Jvm.Cond.selects "HillSchool" ({ cls := "HillSchool", name := "back", desc := "(I)I" } : Jvm.MethodName) ({ cls := "HillSchool", name := "back", desc := "(I)I" } : Jvm.MethodName)) ∈ zall := zmemG (zmj_5 76 rfl) rfl
theorem zw_1141 : (Jvm.Cond.methodLink "HillSchoolLaw" (163 : Nat) ({ cls := "HillSchool", name := "count", desc := "(I)I" } : Jvm.MethodName)) ∈ zall := zmemG (zmj_5 78 rfl) rfl
theorem zw_1142 : (Jvm.Cond.instanceMethod ({ cls := "HillSchool", name := "count", desc := "(I)I" } : Jvm.MethodName)) ∈ zall := zmemG (zmj_5 79 rfl) rfl
theorem zw_1143 : (Jvm.Cond.selects "HillSchool" ({ cls := "HillSchool", name := "count", desc := "(I)I" } : Jvm.MethodName) ({ cls := "HillSchool", name := "count", desc := "(I)I" } : Jvm.MethodName)) ∈ zall := zmemG (zmj_5 80 rfl) rfl
theorem zw_1146 : (Jvm.Cond.methodLink "HillSchoolLaw" (167 : Nat) ({ cls := "HillSchool", name := "status", desc := "()I" } : Jvm.MethodName)) ∈ zall := zmemG (zmj_5 83 rfl) rfl
theorem zw_1147 : (Jvm.Cond.instanceMethod ({ cls := "HillSchool", name := "status", desc := "()I" } : Jvm.MethodName)) ∈ zall := zmemG (zmj_5 84 rfl) rfl
theorem zw_1148 : (Jvm.Cond.selects "HillSchool" ({ cls := "HillSchool", name := "status", desc := "()I" } : Jvm.MethodName) ({ cls := "HillSchool", name := "status", desc := "()I" } : Jvm.MethodName)) ∈ zall := zmemG (zmj_5 85 rfl) rfl
theorem zw_1325 : (Jvm.Cond.methodLink "HillSchoolLaw" (158 : Nat) ({ cls := "HillSchoolModel", name := "image", desc := "(I)I" } : Jvm.MethodName)) ∈ zall := zmemG (zmj_6 22 rfl) rfl
theorem zw_1326 : (Jvm.Cond.instanceMethod ({ cls := "HillSchoolModel", name := "image", desc := "(I)I" } : Jvm.MethodName)) ∈ zall := zmemG (zmj_6 23 rfl) rfl
theorem zw_1327 : (Jvm.Cond.selects "HillSchoolModel" ({ cls := "HillSchoolModel", name := "image", desc := "(I)I" } : Jvm.MethodName) ({ cls := "HillSchoolModel", name := "image", desc := "(I)I" } : Jvm.MethodName)) ∈ zall := zmemG (zmj_6 24 rfl) rfl
theorem zw_1336 : (Jvm.Cond.methodLink "HillSchoolLaw" (162 : Nat) ({ cls := "HillSchoolModel", name := "back", desc := "(I)I" } : Jvm.MethodName)) ∈ zall := zmemG (zmj_6 33 rfl) rfl
theorem zw_1337 : (Jvm.Cond.instanceMethod ({ cls := "HillSchoolModel", name := "back", desc := "(I)I" } : Jvm.MethodName)) ∈ zall := zmemG (zmj_6 34 rfl) rfl
theorem zw_1338 : (Jvm.Cond.selects "HillSchoolModel" ({ cls := "HillSchoolModel", name := "back", desc := "(I)I" } : Jvm.MethodName) ({ cls := "HillSchoolModel", name := "back", desc := "(I)I" } : Jvm.MethodName)) ∈ zall := zmemG (zmj_6 35 rfl) rfl
theorem zw_1340 : (Jvm.Cond.methodLink "HillSchoolLaw" (17 : Nat) ({ cls := "HillSchoolModel", name := "column", desc := "()I" } : Jvm.MethodName)) ∈ zall := zmemG (zmj_6 37 rfl) rfl
theorem zw_1341 : (Jvm.Cond.instanceMethod ({ cls := "HillSchoolModel", name := "column", desc := "()I" } : Jvm.MethodName)) ∈ zall := zmemG (zmj_6 38 rfl) rfl
theorem zw_1342 : (Jvm.Cond.selects "HillSchoolModel" ({ cls := "HillSchoolModel", name := "column", desc := "()I" } : Jvm.MethodName) ({ cls := "HillSchoolModel", name := "column", desc := "()I" } : Jvm.MethodName)) ∈ zall := zmemG (zmj_6 39 rfl) rfl
theorem zw_1348 : (Jvm.Cond.methodLink "HillSchoolLaw" (22 : Nat) ({ cls := "HillSchoolModel", name := "stone", desc := "(II)I" } : Jvm.MethodName)) ∈ zall := zmemG (zmj_6 45 rfl) rfl
theorem zw_1349 : (Jvm.Cond.instanceMethod ({ cls := "HillSchoolModel", name := "stone", desc := "(II)I" } : Jvm.MethodName)) ∈ zall := zmemG (zmj_6 46 rfl) rfl
theorem zw_1350 : (Jvm.Cond.selects "HillSchoolModel" ({ cls := "HillSchoolModel", name := "stone", desc := "(II)I" } : Jvm.MethodName) ({ cls := "HillSchoolModel", name := "stone", desc := "(II)I" } : Jvm.MethodName)) ∈ zall := zmemG (zmj_6 47 rfl) rfl
theorem zw_1360 : (Jvm.Cond.methodLink "HillSchoolLaw" (27 : Nat) ({ cls := "HillSchoolModel", name := "lift", desc := "(I)I" } : Jvm.MethodName)) ∈ zall := zmemG (zmj_6 57 rfl) rfl
theorem zw_1361 : (Jvm.Cond.instanceMethod ({ cls := "HillSchoolModel", name := "lift", desc := "(I)I" } : Jvm.MethodName)) ∈ zall := zmemG (zmj_6 58 rfl) rfl
theorem zw_1362 : (Jvm.Cond.selects "HillSchoolModel" ({ cls := "HillSchoolModel", name := "lift", desc := "(I)I" } : Jvm.MethodName) ({ cls := "HillSchoolModel", name := "lift", desc := "(I)I" } : Jvm.MethodName)) ∈ zall := zmemG (zmj_6 59 rfl) rfl
theorem zw_1364 : (Jvm.Cond.methodLink "HillSchoolLaw" (31 : Nat) ({ cls := "HillSchoolModel", name := "of", desc := "(II)I" } : Jvm.MethodName)) ∈ zall := zmemG (zmj_6 61 rfl) rfl
theorem zw_1365 : (Jvm.Cond.instanceMethod ({ cls := "HillSchoolModel", name := "of", desc := "(II)I" } : Jvm.MethodName)) ∈ zall := zmemG (zmj_6 62 rfl) rfl
theorem zw_1366 : (Jvm.Cond.selects "HillSchoolModel" ({ cls := "HillSchoolModel", name := "of", desc := "(II)I" } : Jvm.MethodName) ({ cls := "HillSchoolModel", name := "of", desc := "(II)I" } : Jvm.MethodName)) ∈ zall := zmemG (zmj_6 63 rfl) rfl
theorem zw_1368 : (Jvm.Cond.methodLink "HillSchoolLaw" (35 : Nat) ({ cls := "HillSchoolModel", name := "weight", desc := "(I)I" } : Jvm.MethodName)) ∈ zall := zmemG (zmj_6 65 rfl) rfl
theorem zw_1369 : (Jvm.Cond.instanceMethod ({ cls := "HillSchoolModel", name := "weight", desc := "(I)I" } : Jvm.MethodName)) ∈ zall := zmemG (zmj_6 66 rfl) rfl
theorem zw_1370 : (Jvm.Cond.selects "HillSchoolModel" ({ cls := "HillSchoolModel", name := "weight", desc := "(I)I" } : Jvm.MethodName) ({ cls := "HillSchoolModel", name := "weight", desc := "(I)I" } : Jvm.MethodName)) ∈ zall := zmemG (zmj_6 67 rfl) rfl
theorem zw_1372 : (Jvm.Cond.methodLink "HillSchoolLaw" (39 : Nat) ({ cls := "HillSchoolModel", name := "child", desc := "(I)I" } : Jvm.MethodName)) ∈ zall := zmemG (zmj_6 69 rfl) rfl
theorem zw_1373 : (Jvm.Cond.instanceMethod ({ cls := "HillSchoolModel", name := "child", desc := "(I)I" } : Jvm.MethodName)) ∈ zall := zmemG (zmj_6 70 rfl) rfl
theorem zw_1374 : (Jvm.Cond.selects "HillSchoolModel" ({ cls := "HillSchoolModel", name := "child", desc := "(I)I" } : Jvm.MethodName) ({ cls := "HillSchoolModel", name := "child", desc := "(I)I" } : Jvm.MethodName)) ∈ zall := zmemG (zmj_6 71 rfl) rfl
theorem zw_1377 : (Jvm.Cond.methodLink "HillSchoolLaw" (43 : Nat) ({ cls := "HillSchoolModel", name := "expel", desc := "(II)I" } : Jvm.MethodName)) ∈ zall := zmemG (zmj_6 74 rfl) rfl
theorem zw_1378 : (Jvm.Cond.instanceMethod ({ cls := "HillSchoolModel", name := "expel", desc := "(II)I" } : Jvm.MethodName)) ∈ zall := zmemG (zmj_6 75 rfl) rfl
theorem zw_1379 : (Jvm.Cond.selects "HillSchoolModel" ({ cls := "HillSchoolModel", name := "expel", desc := "(II)I" } : Jvm.MethodName) ({ cls := "HillSchoolModel", name := "expel", desc := "(II)I" } : Jvm.MethodName)) ∈ zall := zmemG (zmj_6 76 rfl) rfl
theorem zw_1389 : (Jvm.Cond.methodLink "HillSchoolLaw" (47 : Nat) ({ cls := "HillSchoolModel", name := "fact", desc := "(II)I" } : Jvm.MethodName)) ∈ zall := zmemG (zmj_6 86 rfl) rfl
theorem zw_1390 : (Jvm.Cond.instanceMethod ({ cls := "HillSchoolModel", name := "fact", desc := "(II)I" } : Jvm.MethodName)) ∈ zall := zmemG (zmj_6 87 rfl) rfl
theorem zw_1391 : (Jvm.Cond.selects "HillSchoolModel" ({ cls := "HillSchoolModel", name := "fact", desc := "(II)I" } : Jvm.MethodName) ({ cls := "HillSchoolModel", name := "fact", desc := "(II)I" } : Jvm.MethodName)) ∈ zall := zmemG (zmj_6 88 rfl) rfl
theorem zw_1394 : (Jvm.Cond.methodLink "HillSchoolLaw" (51 : Nat) ({ cls := "HillSchoolModel", name := "parish", desc := "(I)I" } : Jvm.MethodName)) ∈ zall := zmemG (zmj_6 91 rfl) rfl
theorem zw_1395 : (Jvm.Cond.instanceMethod ({ cls := "HillSchoolModel", name := "parish", desc := "(I)I" } : Jvm.MethodName)) ∈ zall := zmemG (zmj_6 92 rfl) rfl
theorem zw_1396 : (Jvm.Cond.selects "HillSchoolModel" ({ cls := "HillSchoolModel", name := "parish", desc := "(I)I" } : Jvm.MethodName) ({ cls := "HillSchoolModel", name := "parish", desc := "(I)I" } : Jvm.MethodName)) ∈ zall := zmemG (zmj_6 93 rfl) rfl
theorem zw_1398 : (Jvm.Cond.methodLink "HillSchoolLaw" (55 : Nat) ({ cls := "HillSchoolModel", name := "terms", desc := "(II)I" } : Jvm.MethodName)) ∈ zall := zmemG (zmj_6 95 rfl) rfl
theorem zw_1399 : (Jvm.Cond.instanceMethod ({ cls := "HillSchoolModel", name := "terms", desc := "(II)I" } : Jvm.MethodName)) ∈ zall := zmemG (zmj_6 96 rfl) rfl
theorem zw_1400 : (Jvm.Cond.selects "HillSchoolModel" ({ cls := "HillSchoolModel", name := "terms", desc := "(II)I" } : Jvm.MethodName) ({ cls := "HillSchoolModel", name := "terms", desc := "(II)I" } : Jvm.MethodName)) ∈ zall := zmemG (zmj_6 97 rfl) rfl
theorem zw_1407 : (Jvm.Cond.methodLink "HillSchoolLaw" (68 : Nat) ({ cls := "HillSchoolModel", name := "row", desc := "()I" } : Jvm.MethodName)) ∈ zall := zmemG (zmj_6 104 rfl) rfl
theorem zw_1408 : (Jvm.Cond.instanceMethod ({ cls := "HillSchoolModel", name := "row", desc := "()I" } : Jvm.MethodName)) ∈ zall := zmemG (zmj_6 105 rfl) rfl
theorem zw_1409 : (Jvm.Cond.selects "HillSchoolModel" ({ cls := "HillSchoolModel", name := "row", desc := "()I" } : Jvm.MethodName) ({ cls := "HillSchoolModel", name := "row", desc := "()I" } : Jvm.MethodName)) ∈ zall := zmemG (zmj_6 106 rfl) rfl
theorem zw_1411 : (Jvm.Cond.methodLink "HillSchoolLaw" (72 : Nat) ({ cls := "HillSchoolModel", name := "gravel", desc := "()I" } : Jvm.MethodName)) ∈ zall := zmemG (zmj_6 108 rfl) rfl
theorem zw_1412 : (Jvm.Cond.instanceMethod ({ cls := "HillSchoolModel", name := "gravel", desc := "()I" } : Jvm.MethodName)) ∈ zall := zmemG (zmj_6 109 rfl) rfl
theorem zw_1413 : (Jvm.Cond.selects "HillSchoolModel" ({ cls := "HillSchoolModel", name := "gravel", desc := "()I" } : Jvm.MethodName) ({ cls := "HillSchoolModel", name := "gravel", desc := "()I" } : Jvm.MethodName)) ∈ zall := zmemG (zmj_6 110 rfl) rfl
theorem zw_1415 : (Jvm.Cond.methodLink "HillSchoolLaw" (60 : Nat) ({ cls := "HillSchoolModel", name := "feed", desc := "(IIIII)I" } : Jvm.MethodName)) ∈ zall := zmemG (zmj_6 112 rfl) rfl
theorem zw_1416 : (Jvm.Cond.instanceMethod ({ cls := "HillSchoolModel", name := "feed", desc := "(IIIII)I" } : Jvm.MethodName)) ∈ zall := zmemG (zmj_6 113 rfl) rfl
theorem zw_1417 : (Jvm.Cond.selects "HillSchoolModel" ({ cls := "HillSchoolModel", name := "feed", desc := "(IIIII)I" } : Jvm.MethodName) ({ cls := "HillSchoolModel", name := "feed", desc := "(IIIII)I" } : Jvm.MethodName)) ∈ zall := zmemG (zmj_6 114 rfl) rfl
theorem zw_1423 : (Jvm.Cond.methodLink "HillSchoolLaw" (64 : Nat) ({ cls := "HillSchoolModel", name := "end", desc := "(I)I" } : Jvm.MethodName)) ∈ zall := zmemG (zmj_6 120 rfl) rfl
theorem zw_1424 : (Jvm.Cond.instanceMethod ({ cls := "HillSchoolModel", name := "end", desc := "(I)I" } : Jvm.MethodName)) ∈ zall := zmemG (zmj_6 121 rfl) rfl
theorem zw_1425 : (Jvm.Cond.selects "HillSchoolModel" ({ cls := "HillSchoolModel", name := "end", desc := "(I)I" } : Jvm.MethodName) ({ cls := "HillSchoolModel", name := "end", desc := "(I)I" } : Jvm.MethodName)) ∈ zall := zmemG (zmj_6 122 rfl) rfl
theorem zw_1427 : (Jvm.Cond.methodLink "HillSchoolLaw" (80 : Nat) ({ cls := "HillSchoolModel", name := "fault", desc := "()I" } : Jvm.MethodName)) ∈ zall := zmemG (zmj_6 124 rfl) rfl
theorem zw_1428 : (Jvm.Cond.instanceMethod ({ cls := "HillSchoolModel", name := "fault", desc := "()I" } : Jvm.MethodName)) ∈ zall := zmemG (zmj_6 125 rfl) rfl
theorem zw_1429 : (Jvm.Cond.selects "HillSchoolModel" ({ cls := "HillSchoolModel", name := "fault", desc := "()I" } : Jvm.MethodName) ({ cls := "HillSchoolModel", name := "fault", desc := "()I" } : Jvm.MethodName)) ∈ zall := zmemG (zmj_6 126 rfl) rfl
theorem zw_1431 : (Jvm.Cond.methodLink "HillSchoolLaw" (76 : Nat) ({ cls := "HillSchoolModel", name := "law", desc := "()I" } : Jvm.MethodName)) ∈ zall := zmemG (zmj_6 128 rfl) rfl
theorem zw_1432 : (Jvm.Cond.instanceMethod ({ cls := "HillSchoolModel", name := "law", desc := "()I" } : Jvm.MethodName)) ∈ zall := zmemG (zmj_6 129 rfl) rfl
theorem zw_1433 : (Jvm.Cond.selects "HillSchoolModel" ({ cls := "HillSchoolModel", name := "law", desc := "()I" } : Jvm.MethodName) ({ cls := "HillSchoolModel", name := "law", desc := "()I" } : Jvm.MethodName)) ∈ zall := zmemG (zmj_6 130 rfl) rfl
theorem zw_1537 : (Jvm.Cond.methodLink "HillSchoolLaw" (84 : Nat) ({ cls := "HillSchoolModel", name := "force", desc := "(I)I" } : Jvm.MethodName)) ∈ zall := zmemG (zmj_6 234 rfl) rfl
theorem zw_1538 : (Jvm.Cond.instanceMethod ({ cls := "HillSchoolModel", name := "force", desc := "(I)I" } : Jvm.MethodName)) ∈ zall := zmemG (zmj_6 235 rfl) rfl
theorem zw_1539 : (Jvm.Cond.selects "HillSchoolModel" ({ cls := "HillSchoolModel", name := "force", desc := "(I)I" } : Jvm.MethodName) ({ cls := "HillSchoolModel", name := "force", desc := "(I)I" } : Jvm.MethodName)) ∈ zall := zmemG (zmj_6 236 rfl) rfl
theorem zw_1541 : (Jvm.Cond.methodLink "HillSchoolLaw" (89 : Nat) ({ cls := "HillSchoolModel", name := "can", desc := "(III)I" } : Jvm.MethodName)) ∈ zall := zmemG (zmj_6 238 rfl) rfl
theorem zw_1542 : (Jvm.Cond.instanceMethod ({ cls := "HillSchoolModel", name := "can", desc := "(III)I" } : Jvm.MethodName)) ∈ zall := zmemG (zmj_6 239 rfl) rfl
theorem zw_1543 : (Jvm.Cond.selects "HillSchoolModel" ({ cls := "HillSchoolModel", name := "can", desc := "(III)I" } : Jvm.MethodName) ({ cls := "HillSchoolModel", name := "can", desc := "(III)I" } : Jvm.MethodName)) ∈ zall := zmemG (zmj_7 0 rfl) rfl
theorem zw_1582 : (Jvm.Cond.methodLink "HillSchoolLaw" (93 : Nat) ({ cls := "HillSchoolModel", name := "tires", desc := "(III)I" } : Jvm.MethodName)) ∈ zall := zmemG (zmj_7 39 rfl) rfl
theorem zw_1583 : (Jvm.Cond.instanceMethod ({ cls := "HillSchoolModel", name := "tires", desc := "(III)I" } : Jvm.MethodName)) ∈ zall := zmemG (zmj_7 40 rfl) rfl
theorem zw_1584 : (Jvm.Cond.selects "HillSchoolModel" ({ cls := "HillSchoolModel", name := "tires", desc := "(III)I" } : Jvm.MethodName) ({ cls := "HillSchoolModel", name := "tires", desc := "(III)I" } : Jvm.MethodName)) ∈ zall := zmemG (zmj_7 41 rfl) rfl
theorem zw_1586 : (Jvm.Cond.methodLink "HillSchoolLaw" (97 : Nat) ({ cls := "HillSchoolModel", name := "carry", desc := "(III)I" } : Jvm.MethodName)) ∈ zall := zmemG (zmj_7 43 rfl) rfl
theorem zw_1587 : (Jvm.Cond.instanceMethod ({ cls := "HillSchoolModel", name := "carry", desc := "(III)I" } : Jvm.MethodName)) ∈ zall := zmemG (zmj_7 44 rfl) rfl
theorem zw_1588 : (Jvm.Cond.selects "HillSchoolModel" ({ cls := "HillSchoolModel", name := "carry", desc := "(III)I" } : Jvm.MethodName) ({ cls := "HillSchoolModel", name := "carry", desc := "(III)I" } : Jvm.MethodName)) ∈ zall := zmemG (zmj_7 45 rfl) rfl
theorem zw_1598 : (Jvm.Cond.methodLink "HillSchoolLaw" (102 : Nat) ({ cls := "HillSchoolModel", name := "exchange", desc := "(IIII)I" } : Jvm.MethodName)) ∈ zall := zmemG (zmj_7 55 rfl) rfl
theorem zw_1599 : (Jvm.Cond.instanceMethod ({ cls := "HillSchoolModel", name := "exchange", desc := "(IIII)I" } : Jvm.MethodName)) ∈ zall := zmemG (zmj_7 56 rfl) rfl
theorem zw_1600 : (Jvm.Cond.selects "HillSchoolModel" ({ cls := "HillSchoolModel", name := "exchange", desc := "(IIII)I" } : Jvm.MethodName) ({ cls := "HillSchoolModel", name := "exchange", desc := "(IIII)I" } : Jvm.MethodName)) ∈ zall := zmemG (zmj_7 57 rfl) rfl
theorem zw_1602 : (Jvm.Cond.methodLink "HillSchoolLaw" (106 : Nat) ({ cls := "HillSchoolModel", name := "steep", desc := "()I" } : Jvm.MethodName)) ∈ zall := zmemG (zmj_7 59 rfl) rfl
theorem zw_1603 : (Jvm.Cond.instanceMethod ({ cls := "HillSchoolModel", name := "steep", desc := "()I" } : Jvm.MethodName)) ∈ zall := zmemG (zmj_7 60 rfl) rfl
theorem zw_1604 : (Jvm.Cond.selects "HillSchoolModel" ({ cls := "HillSchoolModel", name := "steep", desc := "()I" } : Jvm.MethodName) ({ cls := "HillSchoolModel", name := "steep", desc := "()I" } : Jvm.MethodName)) ∈ zall := zmemG (zmj_7 61 rfl) rfl
theorem zw_1614 : (Jvm.Cond.methodLink "HillSchoolLaw" (110 : Nat) ({ cls := "HillSchoolModel", name := "slide", desc := "()I" } : Jvm.MethodName)) ∈ zall := zmemG (zmj_7 71 rfl) rfl
theorem zw_1615 : (Jvm.Cond.instanceMethod ({ cls := "HillSchoolModel", name := "slide", desc := "()I" } : Jvm.MethodName)) ∈ zall := zmemG (zmj_7 72 rfl) rfl
theorem zw_1616 : (Jvm.Cond.selects "HillSchoolModel" ({ cls := "HillSchoolModel", name := "slide", desc := "()I" } : Jvm.MethodName) ({ cls := "HillSchoolModel", name := "slide", desc := "()I" } : Jvm.MethodName)) ∈ zall := zmemG (zmj_7 73 rfl) rfl
theorem zw_1622 : (Jvm.Cond.methodLink "HillSchoolLaw" (114 : Nat) ({ cls := "HillSchoolModel", name := "shade", desc := "(I)I" } : Jvm.MethodName)) ∈ zall := zmemG (zmj_7 79 rfl) rfl
theorem zw_1623 : (Jvm.Cond.instanceMethod ({ cls := "HillSchoolModel", name := "shade", desc := "(I)I" } : Jvm.MethodName)) ∈ zall := zmemG (zmj_7 80 rfl) rfl
theorem zw_1624 : (Jvm.Cond.selects "HillSchoolModel" ({ cls := "HillSchoolModel", name := "shade", desc := "(I)I" } : Jvm.MethodName) ({ cls := "HillSchoolModel", name := "shade", desc := "(I)I" } : Jvm.MethodName)) ∈ zall := zmemG (zmj_7 81 rfl) rfl
theorem zw_1638 : (Jvm.Cond.methodLink "HillSchoolLaw" (118 : Nat) ({ cls := "HillSchoolModel", name := "gains", desc := "(IIII)I" } : Jvm.MethodName)) ∈ zall := zmemG (zmj_7 95 rfl) rfl
theorem zw_1639 : (Jvm.Cond.instanceMethod ({ cls := "HillSchoolModel", name := "gains", desc := "(IIII)I" } : Jvm.MethodName)) ∈ zall := zmemG (zmj_7 96 rfl) rfl
theorem zw_1640 : (Jvm.Cond.selects "HillSchoolModel" ({ cls := "HillSchoolModel", name := "gains", desc := "(IIII)I" } : Jvm.MethodName) ({ cls := "HillSchoolModel", name := "gains", desc := "(IIII)I" } : Jvm.MethodName)) ∈ zall := zmemG (zmj_7 97 rfl) rfl
theorem zw_1642 : (Jvm.Cond.methodLink "HillSchoolLaw" (122 : Nat) ({ cls := "HillSchoolModel", name := "goal", desc := "(II)I" } : Jvm.MethodName)) ∈ zall := zmemG (zmj_7 99 rfl) rfl
theorem zw_1643 : (Jvm.Cond.instanceMethod ({ cls := "HillSchoolModel", name := "goal", desc := "(II)I" } : Jvm.MethodName)) ∈ zall := zmemG (zmj_7 100 rfl) rfl
theorem zw_1644 : (Jvm.Cond.selects "HillSchoolModel" ({ cls := "HillSchoolModel", name := "goal", desc := "(II)I" } : Jvm.MethodName) ({ cls := "HillSchoolModel", name := "goal", desc := "(II)I" } : Jvm.MethodName)) ∈ zall := zmemG (zmj_7 101 rfl) rfl
theorem zw_1646 : (Jvm.Cond.methodLink "HillSchoolLaw" (126 : Nat) ({ cls := "HillSchoolModel", name := "plan", desc := "(III)I" } : Jvm.MethodName)) ∈ zall := zmemG (zmj_7 103 rfl) rfl
theorem zw_1647 : (Jvm.Cond.instanceMethod ({ cls := "HillSchoolModel", name := "plan", desc := "(III)I" } : Jvm.MethodName)) ∈ zall := zmemG (zmj_7 104 rfl) rfl
theorem zw_1648 : (Jvm.Cond.selects "HillSchoolModel" ({ cls := "HillSchoolModel", name := "plan", desc := "(III)I" } : Jvm.MethodName) ({ cls := "HillSchoolModel", name := "plan", desc := "(III)I" } : Jvm.MethodName)) ∈ zall := zmemG (zmj_7 105 rfl) rfl
theorem zw_1720 : (Jvm.Cond.methodLink "HillSchoolLaw" (130 : Nat) ({ cls := "HillSchoolModel", name := "weighs", desc := "(I)I" } : Jvm.MethodName)) ∈ zall := zmemG (zmj_7 177 rfl) rfl
theorem zw_1721 : (Jvm.Cond.instanceMethod ({ cls := "HillSchoolModel", name := "weighs", desc := "(I)I" } : Jvm.MethodName)) ∈ zall := zmemG (zmj_7 178 rfl) rfl
theorem zw_1722 : (Jvm.Cond.selects "HillSchoolModel" ({ cls := "HillSchoolModel", name := "weighs", desc := "(I)I" } : Jvm.MethodName) ({ cls := "HillSchoolModel", name := "weighs", desc := "(I)I" } : Jvm.MethodName)) ∈ zall := zmemG (zmj_7 179 rfl) rfl
theorem zw_1725 : (Jvm.Cond.methodLink "HillSchoolLaw" (134 : Nat) ({ cls := "HillSchoolModel", name := "trips", desc := "(II)I" } : Jvm.MethodName)) ∈ zall := zmemG (zmj_7 182 rfl) rfl
theorem zw_1726 : (Jvm.Cond.instanceMethod ({ cls := "HillSchoolModel", name := "trips", desc := "(II)I" } : Jvm.MethodName)) ∈ zall := zmemG (zmj_7 183 rfl) rfl
theorem zw_1727 : (Jvm.Cond.selects "HillSchoolModel" ({ cls := "HillSchoolModel", name := "trips", desc := "(II)I" } : Jvm.MethodName) ({ cls := "HillSchoolModel", name := "trips", desc := "(II)I" } : Jvm.MethodName)) ∈ zall := zmemG (zmj_7 184 rfl) rfl
theorem zw_1729 : (Jvm.Cond.methodLink "HillSchoolLaw" (138 : Nat) ({ cls := "HillSchoolModel", name := "culprits", desc := "(III)I" } : Jvm.MethodName)) ∈ zall := zmemG (zmj_7 186 rfl) rfl
theorem zw_1730 : (Jvm.Cond.instanceMethod ({ cls := "HillSchoolModel", name := "culprits", desc := "(III)I" } : Jvm.MethodName)) ∈ zall := zmemG (zmj_7 187 rfl) rfl
theorem zw_1731 : (Jvm.Cond.selects "HillSchoolModel" ({ cls := "HillSchoolModel", name := "culprits", desc := "(III)I" } : Jvm.MethodName) ({ cls := "HillSchoolModel", name := "culprits", desc := "(III)I" } : Jvm.MethodName)) ∈ zall := zmemG (zmj_7 188 rfl) rfl
theorem zw_1742 : (Jvm.Cond.methodLink "HillSchoolLaw" (142 : Nat) ({ cls := "HillSchoolModel", name := "duel", desc := "(III)I" } : Jvm.MethodName)) ∈ zall := zmemG (zmj_7 199 rfl) rfl
theorem zw_1743 : (Jvm.Cond.instanceMethod ({ cls := "HillSchoolModel", name := "duel", desc := "(III)I" } : Jvm.MethodName)) ∈ zall := zmemG (zmj_7 200 rfl) rfl
theorem zw_1744 : (Jvm.Cond.selects "HillSchoolModel" ({ cls := "HillSchoolModel", name := "duel", desc := "(III)I" } : Jvm.MethodName) ({ cls := "HillSchoolModel", name := "duel", desc := "(III)I" } : Jvm.MethodName)) ∈ zall := zmemG (zmj_7 201 rfl) rfl
theorem zw_1762 : (Jvm.Cond.methodLink "HillSchoolLaw" (146 : Nat) ({ cls := "HillSchoolModel", name := "layers", desc := "(I)I" } : Jvm.MethodName)) ∈ zall := zmemG (zmj_7 219 rfl) rfl
theorem zw_1763 : (Jvm.Cond.instanceMethod ({ cls := "HillSchoolModel", name := "layers", desc := "(I)I" } : Jvm.MethodName)) ∈ zall := zmemG (zmj_7 220 rfl) rfl
theorem zw_1764 : (Jvm.Cond.selects "HillSchoolModel" ({ cls := "HillSchoolModel", name := "layers", desc := "(I)I" } : Jvm.MethodName) ({ cls := "HillSchoolModel", name := "layers", desc := "(I)I" } : Jvm.MethodName)) ∈ zall := zmemG (zmj_7 221 rfl) rfl
theorem zw_1766 : (Jvm.Cond.methodLink "HillSchoolLaw" (150 : Nat) ({ cls := "HillSchoolModel", name := "rain", desc := "(II)I" } : Jvm.MethodName)) ∈ zall := zmemG (zmj_7 223 rfl) rfl
theorem zw_1767 : (Jvm.Cond.instanceMethod ({ cls := "HillSchoolModel", name := "rain", desc := "(II)I" } : Jvm.MethodName)) ∈ zall := zmemG (zmj_7 224 rfl) rfl
theorem zw_1768 : (Jvm.Cond.selects "HillSchoolModel" ({ cls := "HillSchoolModel", name := "rain", desc := "(II)I" } : Jvm.MethodName) ({ cls := "HillSchoolModel", name := "rain", desc := "(II)I" } : Jvm.MethodName)) ∈ zall := zmemG (zmj_7 225 rfl) rfl
theorem zw_1774 : (Jvm.Cond.methodLink "HillSchoolLaw" (154 : Nat) ({ cls := "HillSchoolModel", name := "rained", desc := "(II)I" } : Jvm.MethodName)) ∈ zall := zmemG (zmj_7 231 rfl) rfl
theorem zw_1775 : (Jvm.Cond.instanceMethod ({ cls := "HillSchoolModel", name := "rained", desc := "(II)I" } : Jvm.MethodName)) ∈ zall := zmemG (zmj_7 232 rfl) rfl
theorem zw_1776 : (Jvm.Cond.selects "HillSchoolModel" ({ cls := "HillSchoolModel", name := "rained", desc := "(II)I" } : Jvm.MethodName) ({ cls := "HillSchoolModel", name := "rained", desc := "(II)I" } : Jvm.MethodName)) ∈ zall := zmemG (zmj_7 233 rfl) rfl
theorem zw_1778 : (Jvm.Cond.methodLink "HillSchoolLaw" (166 : Nat) ({ cls := "HillSchoolModel", name := "count", desc := "(I)I" } : Jvm.MethodName)) ∈ zall := zmemG (zmj_7 235 rfl) rfl
theorem zw_1779 : (Jvm.Cond.instanceMethod ({ cls := "HillSchoolModel", name := "count", desc := "(I)I" } : Jvm.MethodName)) ∈ zall := zmemG (zmj_7 236 rfl) rfl
theorem zw_1780 : (Jvm.Cond.selects "HillSchoolModel" ({ cls := "HillSchoolModel", name := "count", desc := "(I)I" } : Jvm.MethodName) ({ cls := "HillSchoolModel", name := "count", desc := "(I)I" } : Jvm.MethodName)) ∈ zall := zmemG (zmj_7 237 rfl) rfl
theorem zw_1784 : (Jvm.Cond.methodLink "HillSchoolLaw" (170 : Nat) ({ cls := "HillSchoolModel", name := "status", desc := "()I" } : Jvm.MethodName)) ∈ zall := zmemG (zmj_8 1 rfl) rfl
theorem zw_1785 : (Jvm.Cond.instanceMethod ({ cls := "HillSchoolModel", name := "status", desc := "()I" } : Jvm.MethodName)) ∈ zall := zmemG (zmj_8 2 rfl) rfl
theorem zw_1786 : (Jvm.Cond.selects "HillSchoolModel" ({ cls := "HillSchoolModel", name := "status", desc := "()I" } : Jvm.MethodName) ({ cls := "HillSchoolModel", name := "status", desc := "()I" } : Jvm.MethodName)) ∈ zall := zmemG (zmj_8 3 rfl) rfl
set_option maxRecDepth 100000 in
noncomputable def ztL_law (p : Nat) : Option (Jvm.ClassFile.Instr × Nat) := bif Nat.ble 745 p then (bif Nat.ble 1022 p then (bif Nat.ble 1159 p then (bif Nat.ble 1227 p then (bif Nat.ble 1265 p then (bif Nat.ble 1283 p then (bif Nat.ble 1296 p then (bif Nat.ble 1304 p then (bif Nat.ble 1310 p then (bif Nat.ble 1311 p then (bif Nat.beq p 1311 then some (.ireturn, 1) else none) else (bif Nat.beq p 1310 then some (.iconst 1, 1) else none)) else (bif Nat.ble 1307 p then (bif Nat.beq p 1307 then some (.goto (-1289), 3) else none) else (bif Nat.beq p 1304 then some (.iinc 3 6, 3) else none))) else (bif Nat.ble 1300 p then (bif Nat.ble 1301 p then (bif Nat.beq p 1301 then some (.goto 3, 3) else none) else (bif Nat.beq p 1300 then some (.pop, 1) else none)) else (bif Nat.ble 1297 p then (bif Nat.beq p 1297 then some (.invokevirtual 170, 3) else none) else (bif Nat.beq p 1296 then some (.aload_n 2, 1) else none)))) else (bif Nat.ble 1288 p then (bif Nat.ble 1292 p then (bif Nat.ble 1295 p then (bif Nat.beq p 1295 then some (.pop, 1) else none) else (bif Nat.beq p 1292 then some (.invokevirtual 167, 3) else none)) else (bif Nat.ble 1291 p then (bif Nat.beq p 1291 then some (.aload_n 1, 1) else none) else (bif Nat.beq p 1288 then some (.goto 16, 3) else none))) else (bif Nat.ble 1284 p then (bif Nat.ble 1287 p then (bif Nat.beq p 1287 then some (.pop, 1) else none) else (bif Nat.beq p 1284 then some (.invokevirtual 166, 3) else none)) else (bif Nat.beq p 1283 then some (.iaload, 1) else none)))) else (bif Nat.ble 1274 p then (bif Nat.ble 1279 p then (bif Nat.ble 1281 p then (bif Nat.ble 1282 p then (bif Nat.beq p 1282 then some (.iadd, 1) else none) else (bif Nat.beq p 1281 then some (.iconst 1, 1) else none)) else (bif Nat.ble 1280 p then (bif Nat.beq p 1280 then some (.iload_n 3, 1) else none) else (bif Nat.beq p 1279 then some (.aload_n 0, 1) else none))) else (bif Nat.ble 1277 p then (bif Nat.ble 1278 p then (bif Nat.beq p 1278 then some (.aload_n 2, 1) else none) else (bif Nat.beq p 1277 then some (.pop, 1) else none)) else (bif Nat.beq p 1274 then some (.invokevirtual 163, 3) else none))) else (bif Nat.ble 1270 p then (bif Nat.ble 1272 p then (bif Nat.ble 1273 p then (bif Nat.beq p 1273 then some (.iaload, 1) else none) else (bif Nat.beq p 1272 then some (.iadd, 1) else none)) else (bif Nat.ble 1271 p then (bif Nat.beq p 1271 then some (.iconst 1, 1) else none) else (bif Nat.beq p 1270 then some (.iload_n 3, 1) else none))) else (bif Nat.ble 1268 p then (bif Nat.ble 1269 p then (bif Nat.beq p 1269 then some (.aload_n 0, 1) else none) else (bif Nat.beq p 1268 then some (.aload_n 1, 1) else none)) else (bif Nat.beq p 1265 then some (.goto 39, 3) else none))))) else (bif Nat.ble 1247 p then (bif Nat.ble 1256 p then (bif Nat.ble 1259 p then (bif Nat.ble 1261 p then (bif Nat.ble 1264 p then (bif Nat.beq p 1264 then some (.pop, 1) else none) else (bif Nat.beq p 1261 then some (.invokevirtual 162, 3) else none)) else (bif Nat.ble 1260 p then (bif Nat.beq p 1260 then some (.iaload, 1) else none) else (bif Nat.beq p 1259 then some (.iadd, 1) else none))) else (bif Nat.ble 1257 p then (bif Nat.ble 1258 p then (bif Nat.beq p 1258 then some (.iconst 1, 1) else none) else (bif Nat.beq p 1257 then some (.iload_n 3, 1) else none)) else (bif Nat.beq p 1256 then some (.aload_n 0, 1) else none))) else (bif Nat.ble 1250 p then (bif Nat.ble 1254 p then (bif Nat.ble 1255 p then (bif Nat.beq p 1255 then some (.aload_n 2, 1) else none) else (bif Nat.beq p 1254 then some (.pop, 1) else none)) else (bif Nat.ble 1251 p then (bif Nat.beq p 1251 then some (.invokevirtual 159, 3) else none) else (bif Nat.beq p 1250 then some (.iaload, 1) else none))) else (bif Nat.ble 1248 p then (bif Nat.ble 1249 p then (bif Nat.beq p 1249 then some (.iadd, 1) else none) else (bif Nat.beq p 1248 then some (.iconst 1, 1) else none)) else (bif Nat.beq p 1247 then some (.iload_n 3, 1) else none)))) else (bif Nat.ble 1236 p then (bif Nat.ble 1241 p then (bif Nat.ble 1245 p then (bif Nat.ble 1246 p then (bif Nat.beq p 1246 then some (.aload_n 0, 1) else none) else (bif Nat.beq p 1245 then some (.aload_n 1, 1) else none)) else (bif Nat.ble 1242 p then (bif Nat.beq p 1242 then some (.goto 62, 3) else none) else (bif Nat.beq p 1241 then some (.pop, 1) else none))) else (bif Nat.ble 1237 p then (bif Nat.ble 1238 p then (bif Nat.beq p 1238 then some (.invokevirtual 158, 3) else none) else (bif Nat.beq p 1237 then some (.iaload, 1) else none)) else (bif Nat.beq p 1236 then some (.iadd, 1) else none))) else (bif Nat.ble 1232 p then (bif Nat.ble 1234 p then (bif Nat.ble 1235 p then (bif Nat.beq p 1235 then some (.iconst 1, 1) else none) else (bif Nat.beq p 1234 then some (.iload_n 3, 1) else none)) else (bif Nat.ble 1233 p then (bif Nat.beq p 1233 then some (.aload_n 0, 1) else none) else (bif Nat.beq p 1232 then some (.aload_n 2, 1) else none))) else (bif Nat.ble 1228 p then (bif Nat.ble 1231 p then (bif Nat.beq p 1231 then some (.pop, 1) else none) else (bif Nat.beq p 1228 then some (.invokevirtual 155, 3) else none)) else (bif Nat.beq p 1227 then some (.iaload, 1) else none)))))) else (bif Nat.ble 1193 p then (bif Nat.ble 1209 p then (bif Nat.ble 1218 p then (bif Nat.ble 1223 p then (bif Nat.ble 1225 p then (bif Nat.ble 1226 p then (bif Nat.beq p 1226 then some (.iadd, 1) else none) else (bif Nat.beq p 1225 then some (.iconst 1, 1) else none)) else (bif Nat.ble 1224 p then (bif Nat.beq p 1224 then some (.iload_n 3, 1) else none) else (bif Nat.beq p 1223 then some (.aload_n 0, 1) else none))) else (bif Nat.ble 1219 p then (bif Nat.ble 1222 p then (bif Nat.beq p 1222 then some (.aload_n 1, 1) else none) else (bif Nat.beq p 1219 then some (.goto 85, 3) else none)) else (bif Nat.beq p 1218 then some (.pop, 1) else none))) else (bif Nat.ble 1212 p then (bif Nat.ble 1214 p then (bif Nat.ble 1215 p then (bif Nat.beq p 1215 then some (.invokevirtual 154, 3) else none) else (bif Nat.beq p 1214 then some (.iaload, 1) else none)) else (bif Nat.ble 1213 p then (bif Nat.beq p 1213 then some (.iadd, 1) else none) else (bif Nat.beq p 1212 then some (.iconst 2, 1) else none))) else (bif Nat.ble 1210 p then (bif Nat.ble 1211 p then (bif Nat.beq p 1211 then some (.iload_n 3, 1) else none) else (bif Nat.beq p 1210 then some (.aload_n 0, 1) else none)) else (bif Nat.beq p 1209 then some (.iaload, 1) else none)))) else (bif Nat.ble 1200 p then (bif Nat.ble 1205 p then (bif Nat.ble 1207 p then (bif Nat.ble 1208 p then (bif Nat.beq p 1208 then some (.iadd, 1) else none) else (bif Nat.beq p 1207 then some (.iconst 1, 1) else none)) else (bif Nat.ble 1206 p then (bif Nat.beq p 1206 then some (.iload_n 3, 1) else none) else (bif Nat.beq p 1205 then some (.aload_n 0, 1) else none))) else (bif Nat.ble 1203 p then (bif Nat.ble 1204 p then (bif Nat.beq p 1204 then some (.aload_n 2, 1) else none) else (bif Nat.beq p 1203 then some (.pop, 1) else none)) else (bif Nat.beq p 1200 then some (.invokevirtual 151, 3) else none))) else (bif Nat.ble 1196 p then (bif Nat.ble 1198 p then (bif Nat.ble 1199 p then (bif Nat.beq p 1199 then some (.iaload, 1) else none) else (bif Nat.beq p 1198 then some (.iadd, 1) else none)) else (bif Nat.ble 1197 p then (bif Nat.beq p 1197 then some (.iconst 2, 1) else none) else (bif Nat.beq p 1196 then some (.iload_n 3, 1) else none))) else (bif Nat.ble 1194 p then (bif Nat.ble 1195 p then (bif Nat.beq p 1195 then some (.aload_n 0, 1) else none) else (bif Nat.beq p 1194 then some (.iaload, 1) else none)) else (bif Nat.beq p 1193 then some (.iadd, 1) else none))))) else (bif Nat.ble 1175 p then (bif Nat.ble 1182 p then (bif Nat.ble 1189 p then (bif Nat.ble 1191 p then (bif Nat.ble 1192 p then (bif Nat.beq p 1192 then some (.iconst 1, 1) else none) else (bif Nat.beq p 1191 then some (.iload_n 3, 1) else none)) else (bif Nat.ble 1190 p then (bif Nat.beq p 1190 then some (.aload_n 0, 1) else none) else (bif Nat.beq p 1189 then some (.aload_n 1, 1) else none))) else (bif Nat.ble 1185 p then (bif Nat.ble 1186 p then (bif Nat.beq p 1186 then some (.goto 118, 3) else none) else (bif Nat.beq p 1185 then some (.pop, 1) else none)) else (bif Nat.beq p 1182 then some (.invokevirtual 150, 3) else none))) else (bif Nat.ble 1178 p then (bif Nat.ble 1180 p then (bif Nat.ble 1181 p then (bif Nat.beq p 1181 then some (.iaload, 1) else none) else (bif Nat.beq p 1180 then some (.iadd, 1) else none)) else (bif Nat.ble 1179 p then (bif Nat.beq p 1179 then some (.iconst 2, 1) else none) else (bif Nat.beq p 1178 then some (.iload_n 3, 1) else none))) else (bif Nat.ble 1176 p then (bif Nat.ble 1177 p then (bif Nat.beq p 1177 then some (.aload_n 0, 1) else none) else (bif Nat.beq p 1176 then some (.iaload, 1) else none)) else (bif Nat.beq p 1175 then some (.iadd, 1) else none)))) else (bif Nat.ble 1166 p then (bif Nat.ble 1171 p then (bif Nat.ble 1173 p then (bif Nat.ble 1174 p then (bif Nat.beq p 1174 then some (.iconst 1, 1) else none) else (bif Nat.beq p 1173 then some (.iload_n 3, 1) else none)) else (bif Nat.ble 1172 p then (bif Nat.beq p 1172 then some (.aload_n 0, 1) else none) else (bif Nat.beq p 1171 then some (.aload_n 2, 1) else none))) else (bif Nat.ble 1167 p then (bif Nat.ble 1170 p then (bif Nat.beq p 1170 then some (.pop, 1) else none) else (bif Nat.beq p 1167 then some (.invokevirtual 147, 3) else none)) else (bif Nat.beq p 1166 then some (.iaload, 1) else none))) else (bif Nat.ble 1162 p then (bif Nat.ble 1164 p then (bif Nat.ble 1165 p then (bif Nat.beq p 1165 then some (.iadd, 1) else none) else (bif Nat.beq p 1164 then some (.iconst 2, 1) else none)) else (bif Nat.ble 1163 p then (bif Nat.beq p 1163 then some (.iload_n 3, 1) else none) else (bif Nat.beq p 1162 then some (.aload_n 0, 1) else none))) else (bif Nat.ble 1160 p then (bif Nat.ble 1161 p then (bif Nat.beq p 1161 then some (.iaload, 1) else none) else (bif Nat.beq p 1160 then some (.iadd, 1) else none)) else (bif Nat.beq p 1159 then some (.iconst 1, 1) else none))))))) else (bif Nat.ble 1090 p then (bif Nat.ble 1120 p then (bif Nat.ble 1138 p then (bif Nat.ble 1147 p then (bif Nat.ble 1153 p then (bif Nat.ble 1157 p then (bif Nat.ble 1158 p then (bif Nat.beq p 1158 then some (.iload_n 3, 1) else none) else (bif Nat.beq p 1157 then some (.aload_n 0, 1) else none)) else (bif Nat.ble 1156 p then (bif Nat.beq p 1156 then some (.aload_n 1, 1) else none) else (bif Nat.beq p 1153 then some (.goto 151, 3) else none))) else (bif Nat.ble 1149 p then (bif Nat.ble 1152 p then (bif Nat.beq p 1152 then some (.pop, 1) else none) else (bif Nat.beq p 1149 then some (.invokevirtual 146, 3) else none)) else (bif Nat.ble 1148 p then (bif Nat.beq p 1148 then some (.iaload, 1) else none) else (bif Nat.beq p 1147 then some (.iadd, 1) else none)))) else (bif Nat.ble 1143 p then (bif Nat.ble 1145 p then (bif Nat.ble 1146 p then (bif Nat.beq p 1146 then some (.iconst 1, 1) else none) else (bif Nat.beq p 1145 then some (.iload_n 3, 1) else none)) else (bif Nat.ble 1144 p then (bif Nat.beq p 1144 then some (.aload_n 0, 1) else none) else (bif Nat.beq p 1143 then some (.aload_n 2, 1) else none))) else (bif Nat.ble 1139 p then (bif Nat.ble 1142 p then (bif Nat.beq p 1142 then some (.pop, 1) else none) else (bif Nat.beq p 1139 then some (.invokevirtual 143, 3) else none)) else (bif Nat.beq p 1138 then some (.iaload, 1) else none)))) else (bif Nat.ble 1129 p then (bif Nat.ble 1134 p then (bif Nat.ble 1136 p then (bif Nat.ble 1137 p then (bif Nat.beq p 1137 then some (.iadd, 1) else none) else (bif Nat.beq p 1136 then some (.iconst 1, 1) else none)) else (bif Nat.ble 1135 p then (bif Nat.beq p 1135 then some (.iload_n 3, 1) else none) else (bif Nat.beq p 1134 then some (.aload_n 0, 1) else none))) else (bif Nat.ble 1130 p then (bif Nat.ble 1133 p then (bif Nat.beq p 1133 then some (.aload_n 1, 1) else none) else (bif Nat.beq p 1130 then some (.goto 174, 3) else none)) else (bif Nat.beq p 1129 then some (.pop, 1) else none))) else (bif Nat.ble 1123 p then (bif Nat.ble 1125 p then (bif Nat.ble 1126 p then (bif Nat.beq p 1126 then some (.invokevirtual 142, 3) else none) else (bif Nat.beq p 1125 then some (.iaload, 1) else none)) else (bif Nat.ble 1124 p then (bif Nat.beq p 1124 then some (.iadd, 1) else none) else (bif Nat.beq p 1123 then some (.iconst 3, 1) else none))) else (bif Nat.ble 1121 p then (bif Nat.ble 1122 p then (bif Nat.beq p 1122 then some (.iload_n 3, 1) else none) else (bif Nat.beq p 1121 then some (.aload_n 0, 1) else none)) else (bif Nat.beq p 1120 then some (.iaload, 1) else none))))) else (bif Nat.ble 1104 p then (bif Nat.ble 1113 p then (bif Nat.ble 1116 p then (bif Nat.ble 1118 p then (bif Nat.ble 1119 p then (bif Nat.beq p 1119 then some (.iadd, 1) else none) else (bif Nat.beq p 1118 then some (.iconst 2, 1) else none)) else (bif Nat.ble 1117 p then (bif Nat.beq p 1117 then some (.iload_n 3, 1) else none) else (bif Nat.beq p 1116 then some (.aload_n 0, 1) else none))) else (bif Nat.ble 1114 p then (bif Nat.ble 1115 p then (bif Nat.beq p 1115 then some (.iaload, 1) else none) else (bif Nat.beq p 1114 then some (.iadd, 1) else none)) else (bif Nat.beq p 1113 then some (.iconst 1, 1) else none))) else (bif Nat.ble 1109 p then (bif Nat.ble 1111 p then (bif Nat.ble 1112 p then (bif Nat.beq p 1112 then some (.iload_n 3, 1) else none) else (bif Nat.beq p 1111 then some (.aload_n 0, 1) else none)) else (bif Nat.ble 1110 p then (bif Nat.beq p 1110 then some (.aload_n 2, 1) else none) else (bif Nat.beq p 1109 then some (.pop, 1) else none))) else (bif Nat.ble 1105 p then (bif Nat.ble 1106 p then (bif Nat.beq p 1106 then some (.invokevirtual 139, 3) else none) else (bif Nat.beq p 1105 then some (.iaload, 1) else none)) else (bif Nat.beq p 1104 then some (.iadd, 1) else none)))) else (bif Nat.ble 1097 p then (bif Nat.ble 1100 p then (bif Nat.ble 1102 p then (bif Nat.ble 1103 p then (bif Nat.beq p 1103 then some (.iconst 3, 1) else none) else (bif Nat.beq p 1102 then some (.iload_n 3, 1) else none)) else (bif Nat.ble 1101 p then (bif Nat.beq p 1101 then some (.aload_n 0, 1) else none) else (bif Nat.beq p 1100 then some (.iaload, 1) else none))) else (bif Nat.ble 1098 p then (bif Nat.ble 1099 p then (bif Nat.beq p 1099 then some (.iadd, 1) else none) else (bif Nat.beq p 1098 then some (.iconst 2, 1) else none)) else (bif Nat.beq p 1097 then some (.iload_n 3, 1) else none))) else (bif Nat.ble 1093 p then (bif Nat.ble 1095 p then (bif Nat.ble 1096 p then (bif Nat.beq p 1096 then some (.aload_n 0, 1) else none) else (bif Nat.beq p 1095 then some (.iaload, 1) else none)) else (bif Nat.ble 1094 p then (bif Nat.beq p 1094 then some (.iadd, 1) else none) else (bif Nat.beq p 1093 then some (.iconst 1, 1) else none))) else (bif Nat.ble 1091 p then (bif Nat.ble 1092 p then (bif Nat.beq p 1092 then some (.iload_n 3, 1) else none) else (bif Nat.beq p 1091 then some (.aload_n 0, 1) else none)) else (bif Nat.beq p 1090 then some (.aload_n 1, 1) else none)))))) else (bif Nat.ble 1056 p then (bif Nat.ble 1072 p then (bif Nat.ble 1079 p then (bif Nat.ble 1082 p then (bif Nat.ble 1086 p then (bif Nat.ble 1087 p then (bif Nat.beq p 1087 then some (.goto 217, 3) else none) else (bif Nat.beq p 1086 then some (.pop, 1) else none)) else (bif Nat.ble 1083 p then (bif Nat.beq p 1083 then some (.invokevirtual 138, 3) else none) else (bif Nat.beq p 1082 then some (.iaload, 1) else none))) else (bif Nat.ble 1080 p then (bif Nat.ble 1081 p then (bif Nat.beq p 1081 then some (.iadd, 1) else none) else (bif Nat.beq p 1080 then some (.iconst 3, 1) else none)) else (bif Nat.beq p 1079 then some (.iload_n 3, 1) else none))) else (bif Nat.ble 1075 p then (bif Nat.ble 1077 p then (bif Nat.ble 1078 p then (bif Nat.beq p 1078 then some (.aload_n 0, 1) else none) else (bif Nat.beq p 1077 then some (.iaload, 1) else none)) else (bif Nat.ble 1076 p then (bif Nat.beq p 1076 then some (.iadd, 1) else none) else (bif Nat.beq p 1075 then some (.iconst 2, 1) else none))) else (bif Nat.ble 1073 p then (bif Nat.ble 1074 p then (bif Nat.beq p 1074 then some (.iload_n 3, 1) else none) else (bif Nat.beq p 1073 then some (.aload_n 0, 1) else none)) else (bif Nat.beq p 1072 then some (.iaload, 1) else none)))) else (bif Nat.ble 1063 p then (bif Nat.ble 1068 p then (bif Nat.ble 1070 p then (bif Nat.ble 1071 p then (bif Nat.beq p 1071 then some (.iadd, 1) else none) else (bif Nat.beq p 1070 then some (.iconst 1, 1) else none)) else (bif Nat.ble 1069 p then (bif Nat.beq p 1069 then some (.iload_n 3, 1) else none) else (bif Nat.beq p 1068 then some (.aload_n 0, 1) else none))) else (bif Nat.ble 1066 p then (bif Nat.ble 1067 p then (bif Nat.beq p 1067 then some (.aload_n 2, 1) else none) else (bif Nat.beq p 1066 then some (.pop, 1) else none)) else (bif Nat.beq p 1063 then some (.invokevirtual 135, 3) else none))) else (bif Nat.ble 1059 p then (bif Nat.ble 1061 p then (bif Nat.ble 1062 p then (bif Nat.beq p 1062 then some (.iaload, 1) else none) else (bif Nat.beq p 1061 then some (.iadd, 1) else none)) else (bif Nat.ble 1060 p then (bif Nat.beq p 1060 then some (.iconst 3, 1) else none) else (bif Nat.beq p 1059 then some (.iload_n 3, 1) else none))) else (bif Nat.ble 1057 p then (bif Nat.ble 1058 p then (bif Nat.beq p 1058 then some (.aload_n 0, 1) else none) else (bif Nat.beq p 1057 then some (.iaload, 1) else none)) else (bif Nat.beq p 1056 then some (.iadd, 1) else none))))) else (bif Nat.ble 1038 p then (bif Nat.ble 1049 p then (bif Nat.ble 1052 p then (bif Nat.ble 1054 p then (bif Nat.ble 1055 p then (bif Nat.beq p 1055 then some (.iconst 2, 1) else none) else (bif Nat.beq p 1054 then some (.iload_n 3, 1) else none)) else (bif Nat.ble 1053 p then (bif Nat.beq p 1053 then some (.aload_n 0, 1) else none) else (bif Nat.beq p 1052 then some (.iaload, 1) else none))) else (bif Nat.ble 1050 p then (bif Nat.ble 1051 p then (bif Nat.beq p 1051 then some (.iadd, 1) else none) else (bif Nat.beq p 1050 then some (.iconst 1, 1) else none)) else (bif Nat.beq p 1049 then some (.iload_n 3, 1) else none))) else (bif Nat.ble 1043 p then (bif Nat.ble 1047 p then (bif Nat.ble 1048 p then (bif Nat.beq p 1048 then some (.aload_n 0, 1) else none) else (bif Nat.beq p 1047 then some (.aload_n 1, 1) else none)) else (bif Nat.ble 1044 p then (bif Nat.beq p 1044 then some (.goto 260, 3) else none) else (bif Nat.beq p 1043 then some (.pop, 1) else none))) else (bif Nat.ble 1039 p then (bif Nat.ble 1040 p then (bif Nat.beq p 1040 then some (.invokevirtual 134, 3) else none) else (bif Nat.beq p 1039 then some (.iaload, 1) else none)) else (bif Nat.beq p 1038 then some (.iadd, 1) else none)))) else (bif Nat.ble 1031 p then (bif Nat.ble 1034 p then (bif Nat.ble 1036 p then (bif Nat.ble 1037 p then (bif Nat.beq p 1037 then some (.iconst 2, 1) else none) else (bif Nat.beq p 1036 then some (.iload_n 3, 1) else none)) else (bif Nat.ble 1035 p then (bif Nat.beq p 1035 then some (.aload_n 0, 1) else none) else (bif Nat.beq p 1034 then some (.iaload, 1) else none))) else (bif Nat.ble 1032 p then (bif Nat.ble 1033 p then (bif Nat.beq p 1033 then some (.iadd, 1) else none) else (bif Nat.beq p 1032 then some (.iconst 1, 1) else none)) else (bif Nat.beq p 1031 then some (.iload_n 3, 1) else none))) else (bif Nat.ble 1025 p then (bif Nat.ble 1029 p then (bif Nat.ble 1030 p then (bif Nat.beq p 1030 then some (.aload_n 0, 1) else none) else (bif Nat.beq p 1029 then some (.aload_n 2, 1) else none)) else (bif Nat.ble 1028 p then (bif Nat.beq p 1028 then some (.pop, 1) else none) else (bif Nat.beq p 1025 then some (.invokevirtual 131, 3) else none))) else (bif Nat.ble 1023 p then (bif Nat.ble 1024 p then (bif Nat.beq p 1024 then some (.iaload, 1) else none) else (bif Nat.beq p 1023 then some (.iadd, 1) else none)) else (bif Nat.beq p 1022 then some (.iconst 2, 1) else none)))))))) else (bif Nat.ble 887 p then (bif Nat.ble 953 p then (bif Nat.ble 983 p then (bif Nat.ble 1003 p then (bif Nat.ble 1014 p then (bif Nat.ble 1018 p then (bif Nat.ble 1020 p then (bif Nat.ble 1021 p then (bif Nat.beq p 1021 then some (.iload_n 3, 1) else none) else (bif Nat.beq p 1020 then some (.aload_n 0, 1) else none)) else (bif Nat.ble 1019 p then (bif Nat.beq p 1019 then some (.iaload, 1) else none) else (bif Nat.beq p 1018 then some (.iadd, 1) else none))) else (bif Nat.ble 1016 p then (bif Nat.ble 1017 p then (bif Nat.beq p 1017 then some (.iconst 1, 1) else none) else (bif Nat.beq p 1016 then some (.iload_n 3, 1) else none)) else (bif Nat.ble 1015 p then (bif Nat.beq p 1015 then some (.aload_n 0, 1) else none) else (bif Nat.beq p 1014 then some (.aload_n 1, 1) else none)))) else (bif Nat.ble 1006 p then (bif Nat.ble 1010 p then (bif Nat.ble 1011 p then (bif Nat.beq p 1011 then some (.goto 293, 3) else none) else (bif Nat.beq p 1010 then some (.pop, 1) else none)) else (bif Nat.ble 1007 p then (bif Nat.beq p 1007 then some (.invokevirtual 130, 3) else none) else (bif Nat.beq p 1006 then some (.iaload, 1) else none))) else (bif Nat.ble 1004 p then (bif Nat.ble 1005 p then (bif Nat.beq p 1005 then some (.iadd, 1) else none) else (bif Nat.beq p 1004 then some (.iconst 1, 1) else none)) else (bif Nat.beq p 1003 then some (.iload_n 3, 1) else none)))) else (bif Nat.ble 994 p then (bif Nat.ble 997 p then (bif Nat.ble 1001 p then (bif Nat.ble 1002 p then (bif Nat.beq p 1002 then some (.aload_n 0, 1) else none) else (bif Nat.beq p 1001 then some (.aload_n 2, 1) else none)) else (bif Nat.ble 1000 p then (bif Nat.beq p 1000 then some (.pop, 1) else none) else (bif Nat.beq p 997 then some (.invokevirtual 127, 3) else none))) else (bif Nat.ble 995 p then (bif Nat.ble 996 p then (bif Nat.beq p 996 then some (.iaload, 1) else none) else (bif Nat.beq p 995 then some (.iadd, 1) else none)) else (bif Nat.beq p 994 then some (.iconst 1, 1) else none))) else (bif Nat.ble 988 p then (bif Nat.ble 992 p then (bif Nat.ble 993 p then (bif Nat.beq p 993 then some (.iload_n 3, 1) else none) else (bif Nat.beq p 992 then some (.aload_n 0, 1) else none)) else (bif Nat.ble 991 p then (bif Nat.beq p 991 then some (.aload_n 1, 1) else none) else (bif Nat.beq p 988 then some (.goto 316, 3) else none))) else (bif Nat.ble 984 p then (bif Nat.ble 987 p then (bif Nat.beq p 987 then some (.pop, 1) else none) else (bif Nat.beq p 984 then some (.invokevirtual 126, 3) else none)) else (bif Nat.beq p 983 then some (.iaload, 1) else none))))) else (bif Nat.ble 969 p then (bif Nat.ble 976 p then (bif Nat.ble 979 p then (bif Nat.ble 981 p then (bif Nat.ble 982 p then (bif Nat.beq p 982 then some (.iadd, 1) else none) else (bif Nat.beq p 981 then some (.iconst 3, 1) else none)) else (bif Nat.ble 980 p then (bif Nat.beq p 980 then some (.iload_n 3, 1) else none) else (bif Nat.beq p 979 then some (.aload_n 0, 1) else none))) else (bif Nat.ble 977 p then (bif Nat.ble 978 p then (bif Nat.beq p 978 then some (.iaload, 1) else none) else (bif Nat.beq p 977 then some (.iadd, 1) else none)) else (bif Nat.beq p 976 then some (.iconst 2, 1) else none))) else (bif Nat.ble 972 p then (bif Nat.ble 974 p then (bif Nat.ble 975 p then (bif Nat.beq p 975 then some (.iload_n 3, 1) else none) else (bif Nat.beq p 974 then some (.aload_n 0, 1) else none)) else (bif Nat.ble 973 p then (bif Nat.beq p 973 then some (.iaload, 1) else none) else (bif Nat.beq p 972 then some (.iadd, 1) else none))) else (bif Nat.ble 970 p then (bif Nat.ble 971 p then (bif Nat.beq p 971 then some (.iconst 1, 1) else none) else (bif Nat.beq p 970 then some (.iload_n 3, 1) else none)) else (bif Nat.beq p 969 then some (.aload_n 0, 1) else none)))) else (bif Nat.ble 960 p then (bif Nat.ble 963 p then (bif Nat.ble 967 p then (bif Nat.ble 968 p then (bif Nat.beq p 968 then some (.aload_n 2, 1) else none) else (bif Nat.beq p 967 then some (.pop, 1) else none)) else (bif Nat.ble 964 p then (bif Nat.beq p 964 then some (.invokevirtual 123, 3) else none) else (bif Nat.beq p 963 then some (.iaload, 1) else none))) else (bif Nat.ble 961 p then (bif Nat.ble 962 p then (bif Nat.beq p 962 then some (.iadd, 1) else none) else (bif Nat.beq p 961 then some (.iconst 3, 1) else none)) else (bif Nat.beq p 960 then some (.iload_n 3, 1) else none))) else (bif Nat.ble 956 p then (bif Nat.ble 958 p then (bif Nat.ble 959 p then (bif Nat.beq p 959 then some (.aload_n 0, 1) else none) else (bif Nat.beq p 958 then some (.iaload, 1) else none)) else (bif Nat.ble 957 p then (bif Nat.beq p 957 then some (.iadd, 1) else none) else (bif Nat.beq p 956 then some (.iconst 2, 1) else none))) else (bif Nat.ble 954 p then (bif Nat.ble 955 p then (bif Nat.beq p 955 then some (.iload_n 3, 1) else none) else (bif Nat.beq p 954 then some (.aload_n 0, 1) else none)) else (bif Nat.beq p 953 then some (.iaload, 1) else none)))))) else (bif Nat.ble 919 p then (bif Nat.ble 935 p then (bif Nat.ble 944 p then (bif Nat.ble 949 p then (bif Nat.ble 951 p then (bif Nat.ble 952 p then (bif Nat.beq p 952 then some (.iadd, 1) else none) else (bif Nat.beq p 951 then some (.iconst 1, 1) else none)) else (bif Nat.ble 950 p then (bif Nat.beq p 950 then some (.iload_n 3, 1) else none) else (bif Nat.beq p 949 then some (.aload_n 0, 1) else none))) else (bif Nat.ble 945 p then (bif Nat.ble 948 p then (bif Nat.beq p 948 then some (.aload_n 1, 1) else none) else (bif Nat.beq p 945 then some (.goto 359, 3) else none)) else (bif Nat.beq p 944 then some (.pop, 1) else none))) else (bif Nat.ble 938 p then (bif Nat.ble 940 p then (bif Nat.ble 941 p then (bif Nat.beq p 941 then some (.invokevirtual 122, 3) else none) else (bif Nat.beq p 940 then some (.iaload, 1) else none)) else (bif Nat.ble 939 p then (bif Nat.beq p 939 then some (.iadd, 1) else none) else (bif Nat.beq p 938 then some (.iconst 2, 1) else none))) else (bif Nat.ble 936 p then (bif Nat.ble 937 p then (bif Nat.beq p 937 then some (.iload_n 3, 1) else none) else (bif Nat.beq p 936 then some (.aload_n 0, 1) else none)) else (bif Nat.beq p 935 then some (.iaload, 1) else none)))) else (bif Nat.ble 926 p then (bif Nat.ble 931 p then (bif Nat.ble 933 p then (bif Nat.ble 934 p then (bif Nat.beq p 934 then some (.iadd, 1) else none) else (bif Nat.beq p 933 then some (.iconst 1, 1) else none)) else (bif Nat.ble 932 p then (bif Nat.beq p 932 then some (.iload_n 3, 1) else none) else (bif Nat.beq p 931 then some (.aload_n 0, 1) else none))) else (bif Nat.ble 929 p then (bif Nat.ble 930 p then (bif Nat.beq p 930 then some (.aload_n 2, 1) else none) else (bif Nat.beq p 929 then some (.pop, 1) else none)) else (bif Nat.beq p 926 then some (.invokevirtual 119, 3) else none))) else (bif Nat.ble 922 p then (bif Nat.ble 924 p then (bif Nat.ble 925 p then (bif Nat.beq p 925 then some (.iaload, 1) else none) else (bif Nat.beq p 924 then some (.iadd, 1) else none)) else (bif Nat.ble 923 p then (bif Nat.beq p 923 then some (.iconst 2, 1) else none) else (bif Nat.beq p 922 then some (.iload_n 3, 1) else none))) else (bif Nat.ble 920 p then (bif Nat.ble 921 p then (bif Nat.beq p 921 then some (.aload_n 0, 1) else none) else (bif Nat.beq p 920 then some (.iaload, 1) else none)) else (bif Nat.beq p 919 then some (.iadd, 1) else none))))) else (bif Nat.ble 901 p then (bif Nat.ble 908 p then (bif Nat.ble 915 p then (bif Nat.ble 917 p then (bif Nat.ble 918 p then (bif Nat.beq p 918 then some (.iconst 1, 1) else none) else (bif Nat.beq p 917 then some (.iload_n 3, 1) else none)) else (bif Nat.ble 916 p then (bif Nat.beq p 916 then some (.aload_n 0, 1) else none) else (bif Nat.beq p 915 then some (.aload_n 1, 1) else none))) else (bif Nat.ble 911 p then (bif Nat.ble 912 p then (bif Nat.beq p 912 then some (.goto 392, 3) else none) else (bif Nat.beq p 911 then some (.pop, 1) else none)) else (bif Nat.beq p 908 then some (.invokevirtual 118, 3) else none))) else (bif Nat.ble 904 p then (bif Nat.ble 906 p then (bif Nat.ble 907 p then (bif Nat.beq p 907 then some (.iaload, 1) else none) else (bif Nat.beq p 906 then some (.iadd, 1) else none)) else (bif Nat.ble 905 p then (bif Nat.beq p 905 then some (.iconst 4, 1) else none) else (bif Nat.beq p 904 then some (.iload_n 3, 1) else none))) else (bif Nat.ble 902 p then (bif Nat.ble 903 p then (bif Nat.beq p 903 then some (.aload_n 0, 1) else none) else (bif Nat.beq p 902 then some (.iaload, 1) else none)) else (bif Nat.beq p 901 then some (.iadd, 1) else none)))) else (bif Nat.ble 894 p then (bif Nat.ble 897 p then (bif Nat.ble 899 p then (bif Nat.ble 900 p then (bif Nat.beq p 900 then some (.iconst 3, 1) else none) else (bif Nat.beq p 899 then some (.iload_n 3, 1) else none)) else (bif Nat.ble 898 p then (bif Nat.beq p 898 then some (.aload_n 0, 1) else none) else (bif Nat.beq p 897 then some (.iaload, 1) else none))) else (bif Nat.ble 895 p then (bif Nat.ble 896 p then (bif Nat.beq p 896 then some (.iadd, 1) else none) else (bif Nat.beq p 895 then some (.iconst 2, 1) else none)) else (bif Nat.beq p 894 then some (.iload_n 3, 1) else none))) else (bif Nat.ble 890 p then (bif Nat.ble 892 p then (bif Nat.ble 893 p then (bif Nat.beq p 893 then some (.aload_n 0, 1) else none) else (bif Nat.beq p 892 then some (.iaload, 1) else none)) else (bif Nat.ble 891 p then (bif Nat.beq p 891 then some (.iadd, 1) else none) else (bif Nat.beq p 890 then some (.iconst 1, 1) else none))) else (bif Nat.ble 888 p then (bif Nat.ble 889 p then (bif Nat.beq p 889 then some (.iload_n 3, 1) else none) else (bif Nat.beq p 888 then some (.aload_n 0, 1) else none)) else (bif Nat.beq p 887 then some (.aload_n 2, 1) else none))))))) else (bif Nat.ble 809 p then (bif Nat.ble 853 p then (bif Nat.ble 871 p then (bif Nat.ble 878 p then (bif Nat.ble 881 p then (bif Nat.ble 883 p then (bif Nat.ble 886 p then (bif Nat.beq p 886 then some (.pop, 1) else none) else (bif Nat.beq p 883 then some (.invokevirtual 115, 3) else none)) else (bif Nat.ble 882 p then (bif Nat.beq p 882 then some (.iaload, 1) else none) else (bif Nat.beq p 881 then some (.iadd, 1) else none))) else (bif Nat.ble 879 p then (bif Nat.ble 880 p then (bif Nat.beq p 880 then some (.iconst 4, 1) else none) else (bif Nat.beq p 879 then some (.iload_n 3, 1) else none)) else (bif Nat.beq p 878 then some (.aload_n 0, 1) else none))) else (bif Nat.ble 874 p then (bif Nat.ble 876 p then (bif Nat.ble 877 p then (bif Nat.beq p 877 then some (.iaload, 1) else none) else (bif Nat.beq p 876 then some (.iadd, 1) else none)) else (bif Nat.ble 875 p then (bif Nat.beq p 875 then some (.iconst 3, 1) else none) else (bif Nat.beq p 874 then some (.iload_n 3, 1) else none))) else (bif Nat.ble 872 p then (bif Nat.ble 873 p then (bif Nat.beq p 873 then some (.aload_n 0, 1) else none) else (bif Nat.beq p 872 then some (.iaload, 1) else none)) else (bif Nat.beq p 871 then some (.iadd, 1) else none)))) else (bif Nat.ble 864 p then (bif Nat.ble 867 p then (bif Nat.ble 869 p then (bif Nat.ble 870 p then (bif Nat.beq p 870 then some (.iconst 2, 1) else none) else (bif Nat.beq p 869 then some (.iload_n 3, 1) else none)) else (bif Nat.ble 868 p then (bif Nat.beq p 868 then some (.aload_n 0, 1) else none) else (bif Nat.beq p 867 then some (.iaload, 1) else none))) else (bif Nat.ble 865 p then (bif Nat.ble 866 p then (bif Nat.beq p 866 then some (.iadd, 1) else none) else (bif Nat.beq p 865 then some (.iconst 1, 1) else none)) else (bif Nat.beq p 864 then some (.iload_n 3, 1) else none))) else (bif Nat.ble 858 p then (bif Nat.ble 862 p then (bif Nat.ble 863 p then (bif Nat.beq p 863 then some (.aload_n 0, 1) else none) else (bif Nat.beq p 862 then some (.aload_n 1, 1) else none)) else (bif Nat.ble 859 p then (bif Nat.beq p 859 then some (.goto 445, 3) else none) else (bif Nat.beq p 858 then some (.pop, 1) else none))) else (bif Nat.ble 854 p then (bif Nat.ble 855 p then (bif Nat.beq p 855 then some (.invokevirtual 114, 3) else none) else (bif Nat.beq p 854 then some (.iaload, 1) else none)) else (bif Nat.beq p 853 then some (.iadd, 1) else none))))) else (bif Nat.ble 835 p then (bif Nat.ble 844 p then (bif Nat.ble 849 p then (bif Nat.ble 851 p then (bif Nat.ble 852 p then (bif Nat.beq p 852 then some (.iconst 1, 1) else none) else (bif Nat.beq p 851 then some (.iload_n 3, 1) else none)) else (bif Nat.ble 850 p then (bif Nat.beq p 850 then some (.aload_n 0, 1) else none) else (bif Nat.beq p 849 then some (.aload_n 2, 1) else none))) else (bif Nat.ble 845 p then (bif Nat.ble 848 p then (bif Nat.beq p 848 then some (.pop, 1) else none) else (bif Nat.beq p 845 then some (.invokevirtual 111, 3) else none)) else (bif Nat.beq p 844 then some (.iaload, 1) else none))) else (bif Nat.ble 840 p then (bif Nat.ble 842 p then (bif Nat.ble 843 p then (bif Nat.beq p 843 then some (.iadd, 1) else none) else (bif Nat.beq p 842 then some (.iconst 1, 1) else none)) else (bif Nat.ble 841 p then (bif Nat.beq p 841 then some (.iload_n 3, 1) else none) else (bif Nat.beq p 840 then some (.aload_n 0, 1) else none))) else (bif Nat.ble 836 p then (bif Nat.ble 839 p then (bif Nat.beq p 839 then some (.aload_n 1, 1) else none) else (bif Nat.beq p 836 then some (.goto 468, 3) else none)) else (bif Nat.beq p 835 then some (.pop, 1) else none)))) else (bif Nat.ble 822 p then (bif Nat.ble 827 p then (bif Nat.ble 831 p then (bif Nat.ble 832 p then (bif Nat.beq p 832 then some (.invokevirtual 110, 3) else none) else (bif Nat.beq p 831 then some (.aload_n 2, 1) else none)) else (bif Nat.ble 830 p then (bif Nat.beq p 830 then some (.pop, 1) else none) else (bif Nat.beq p 827 then some (.invokevirtual 107, 3) else none))) else (bif Nat.ble 823 p then (bif Nat.ble 826 p then (bif Nat.beq p 826 then some (.aload_n 1, 1) else none) else (bif Nat.beq p 823 then some (.goto 481, 3) else none)) else (bif Nat.beq p 822 then some (.pop, 1) else none))) else (bif Nat.ble 814 p then (bif Nat.ble 818 p then (bif Nat.ble 819 p then (bif Nat.beq p 819 then some (.invokevirtual 106, 3) else none) else (bif Nat.beq p 818 then some (.aload_n 2, 1) else none)) else (bif Nat.ble 817 p then (bif Nat.beq p 817 then some (.pop, 1) else none) else (bif Nat.beq p 814 then some (.invokevirtual 103, 3) else none))) else (bif Nat.ble 810 p then (bif Nat.ble 813 p then (bif Nat.beq p 813 then some (.aload_n 1, 1) else none) else (bif Nat.beq p 810 then some (.goto 494, 3) else none)) else (bif Nat.beq p 809 then some (.pop, 1) else none)))))) else (bif Nat.ble 777 p then (bif Nat.ble 793 p then (bif Nat.ble 800 p then (bif Nat.ble 803 p then (bif Nat.ble 805 p then (bif Nat.ble 806 p then (bif Nat.beq p 806 then some (.invokevirtual 102, 3) else none) else (bif Nat.beq p 805 then some (.iaload, 1) else none)) else (bif Nat.ble 804 p then (bif Nat.beq p 804 then some (.iadd, 1) else none) else (bif Nat.beq p 803 then some (.iconst 4, 1) else none))) else (bif Nat.ble 801 p then (bif Nat.ble 802 p then (bif Nat.beq p 802 then some (.iload_n 3, 1) else none) else (bif Nat.beq p 801 then some (.aload_n 0, 1) else none)) else (bif Nat.beq p 800 then some (.iaload, 1) else none))) else (bif Nat.ble 796 p then (bif Nat.ble 798 p then (bif Nat.ble 799 p then (bif Nat.beq p 799 then some (.iadd, 1) else none) else (bif Nat.beq p 798 then some (.iconst 3, 1) else none)) else (bif Nat.ble 797 p then (bif Nat.beq p 797 then some (.iload_n 3, 1) else none) else (bif Nat.beq p 796 then some (.aload_n 0, 1) else none))) else (bif Nat.ble 794 p then (bif Nat.ble 795 p then (bif Nat.beq p 795 then some (.iaload, 1) else none) else (bif Nat.beq p 794 then some (.iadd, 1) else none)) else (bif Nat.beq p 793 then some (.iconst 2, 1) else none)))) else (bif Nat.ble 786 p then (bif Nat.ble 789 p then (bif Nat.ble 791 p then (bif Nat.ble 792 p then (bif Nat.beq p 792 then some (.iload_n 3, 1) else none) else (bif Nat.beq p 791 then some (.aload_n 0, 1) else none)) else (bif Nat.ble 790 p then (bif Nat.beq p 790 then some (.iaload, 1) else none) else (bif Nat.beq p 789 then some (.iadd, 1) else none))) else (bif Nat.ble 787 p then (bif Nat.ble 788 p then (bif Nat.beq p 788 then some (.iconst 1, 1) else none) else (bif Nat.beq p 787 then some (.iload_n 3, 1) else none)) else (bif Nat.beq p 786 then some (.aload_n 0, 1) else none))) else (bif Nat.ble 780 p then (bif Nat.ble 784 p then (bif Nat.ble 785 p then (bif Nat.beq p 785 then some (.aload_n 2, 1) else none) else (bif Nat.beq p 784 then some (.pop, 1) else none)) else (bif Nat.ble 781 p then (bif Nat.beq p 781 then some (.invokevirtual 98, 3) else none) else (bif Nat.beq p 780 then some (.iaload, 1) else none))) else (bif Nat.ble 778 p then (bif Nat.ble 779 p then (bif Nat.beq p 779 then some (.iadd, 1) else none) else (bif Nat.beq p 778 then some (.iconst 4, 1) else none)) else (bif Nat.beq p 777 then some (.iload_n 3, 1) else none))))) else (bif Nat.ble 763 p then (bif Nat.ble 770 p then (bif Nat.ble 773 p then (bif Nat.ble 775 p then (bif Nat.ble 776 p then (bif Nat.beq p 776 then some (.aload_n 0, 1) else none) else (bif Nat.beq p 775 then some (.iaload, 1) else none)) else (bif Nat.ble 774 p then (bif Nat.beq p 774 then some (.iadd, 1) else none) else (bif Nat.beq p 773 then some (.iconst 3, 1) else none))) else (bif Nat.ble 771 p then (bif Nat.ble 772 p then (bif Nat.beq p 772 then some (.iload_n 3, 1) else none) else (bif Nat.beq p 771 then some (.aload_n 0, 1) else none)) else (bif Nat.beq p 770 then some (.iaload, 1) else none))) else (bif Nat.ble 766 p then (bif Nat.ble 768 p then (bif Nat.ble 769 p then (bif Nat.beq p 769 then some (.iadd, 1) else none) else (bif Nat.beq p 768 then some (.iconst 2, 1) else none)) else (bif Nat.ble 767 p then (bif Nat.beq p 767 then some (.iload_n 3, 1) else none) else (bif Nat.beq p 766 then some (.aload_n 0, 1) else none))) else (bif Nat.ble 764 p then (bif Nat.ble 765 p then (bif Nat.beq p 765 then some (.iaload, 1) else none) else (bif Nat.beq p 764 then some (.iadd, 1) else none)) else (bif Nat.beq p 763 then some (.iconst 1, 1) else none)))) else (bif Nat.ble 752 p then (bif Nat.ble 757 p then (bif Nat.ble 761 p then (bif Nat.ble 762 p then (bif Nat.beq p 762 then some (.iload_n 3, 1) else none) else (bif Nat.beq p 761 then some (.aload_n 0, 1) else none)) else (bif Nat.ble 760 p then (bif Nat.beq p 760 then some (.aload_n 1, 1) else none) else (bif Nat.beq p 757 then some (.goto 547, 3) else none))) else (bif Nat.ble 753 p then (bif Nat.ble 756 p then (bif Nat.beq p 756 then some (.pop, 1) else none) else (bif Nat.beq p 753 then some (.invokevirtual 97, 3) else none)) else (bif Nat.beq p 752 then some (.iaload, 1) else none))) else (bif Nat.ble 748 p then (bif Nat.ble 750 p then (bif Nat.ble 751 p then (bif Nat.beq p 751 then some (.iadd, 1) else none) else (bif Nat.beq p 750 then some (.iconst 3, 1) else none)) else (bif Nat.ble 749 p then (bif Nat.beq p 749 then some (.iload_n 3, 1) else none) else (bif Nat.beq p 748 then some (.aload_n 0, 1) else none))) else (bif Nat.ble 746 p then (bif Nat.ble 747 p then (bif Nat.beq p 747 then some (.iaload, 1) else none) else (bif Nat.beq p 746 then some (.iadd, 1) else none)) else (bif Nat.beq p 745 then some (.iconst 2, 1) else none))))))))) else (bif Nat.ble 459 p then (bif Nat.ble 612 p then (bif Nat.ble 680 p then (bif Nat.ble 710 p then (bif Nat.ble 728 p then (bif Nat.ble 737 p then (bif Nat.ble 741 p then (bif Nat.ble 743 p then (bif Nat.ble 744 p then (bif Nat.beq p 744 then some (.iload_n 3, 1) else none) else (bif Nat.beq p 743 then some (.aload_n 0, 1) else none)) else (bif Nat.ble 742 p then (bif Nat.beq p 742 then some (.iaload, 1) else none) else (bif Nat.beq p 741 then some (.iadd, 1) else none))) else (bif Nat.ble 739 p then (bif Nat.ble 740 p then (bif Nat.beq p 740 then some (.iconst 1, 1) else none) else (bif Nat.beq p 739 then some (.iload_n 3, 1) else none)) else (bif Nat.ble 738 p then (bif Nat.beq p 738 then some (.aload_n 0, 1) else none) else (bif Nat.beq p 737 then some (.aload_n 2, 1) else none)))) else (bif Nat.ble 731 p then (bif Nat.ble 733 p then (bif Nat.ble 736 p then (bif Nat.beq p 736 then some (.pop, 1) else none) else (bif Nat.beq p 733 then some (.invokevirtual 94, 3) else none)) else (bif Nat.ble 732 p then (bif Nat.beq p 732 then some (.iaload, 1) else none) else (bif Nat.beq p 731 then some (.iadd, 1) else none))) else (bif Nat.ble 729 p then (bif Nat.ble 730 p then (bif Nat.beq p 730 then some (.iconst 3, 1) else none) else (bif Nat.beq p 729 then some (.iload_n 3, 1) else none)) else (bif Nat.beq p 728 then some (.aload_n 0, 1) else none)))) else (bif Nat.ble 721 p then (bif Nat.ble 724 p then (bif Nat.ble 726 p then (bif Nat.ble 727 p then (bif Nat.beq p 727 then some (.iaload, 1) else none) else (bif Nat.beq p 726 then some (.iadd, 1) else none)) else (bif Nat.ble 725 p then (bif Nat.beq p 725 then some (.iconst 2, 1) else none) else (bif Nat.beq p 724 then some (.iload_n 3, 1) else none))) else (bif Nat.ble 722 p then (bif Nat.ble 723 p then (bif Nat.beq p 723 then some (.aload_n 0, 1) else none) else (bif Nat.beq p 722 then some (.iaload, 1) else none)) else (bif Nat.beq p 721 then some (.iadd, 1) else none))) else (bif Nat.ble 717 p then (bif Nat.ble 719 p then (bif Nat.ble 720 p then (bif Nat.beq p 720 then some (.iconst 1, 1) else none) else (bif Nat.beq p 719 then some (.iload_n 3, 1) else none)) else (bif Nat.ble 718 p then (bif Nat.beq p 718 then some (.aload_n 0, 1) else none) else (bif Nat.beq p 717 then some (.aload_n 1, 1) else none))) else (bif Nat.ble 713 p then (bif Nat.ble 714 p then (bif Nat.beq p 714 then some (.goto 590, 3) else none) else (bif Nat.beq p 713 then some (.pop, 1) else none)) else (bif Nat.beq p 710 then some (.invokevirtual 93, 3) else none))))) else (bif Nat.ble 696 p then (bif Nat.ble 703 p then (bif Nat.ble 706 p then (bif Nat.ble 708 p then (bif Nat.ble 709 p then (bif Nat.beq p 709 then some (.iaload, 1) else none) else (bif Nat.beq p 708 then some (.iadd, 1) else none)) else (bif Nat.ble 707 p then (bif Nat.beq p 707 then some (.iconst 3, 1) else none) else (bif Nat.beq p 706 then some (.iload_n 3, 1) else none))) else (bif Nat.ble 704 p then (bif Nat.ble 705 p then (bif Nat.beq p 705 then some (.aload_n 0, 1) else none) else (bif Nat.beq p 704 then some (.iaload, 1) else none)) else (bif Nat.beq p 703 then some (.iadd, 1) else none))) else (bif Nat.ble 699 p then (bif Nat.ble 701 p then (bif Nat.ble 702 p then (bif Nat.beq p 702 then some (.iconst 2, 1) else none) else (bif Nat.beq p 701 then some (.iload_n 3, 1) else none)) else (bif Nat.ble 700 p then (bif Nat.beq p 700 then some (.aload_n 0, 1) else none) else (bif Nat.beq p 699 then some (.iaload, 1) else none))) else (bif Nat.ble 697 p then (bif Nat.ble 698 p then (bif Nat.beq p 698 then some (.iadd, 1) else none) else (bif Nat.beq p 697 then some (.iconst 1, 1) else none)) else (bif Nat.beq p 696 then some (.iload_n 3, 1) else none)))) else (bif Nat.ble 687 p then (bif Nat.ble 690 p then (bif Nat.ble 694 p then (bif Nat.ble 695 p then (bif Nat.beq p 695 then some (.aload_n 0, 1) else none) else (bif Nat.beq p 694 then some (.aload_n 2, 1) else none)) else (bif Nat.ble 693 p then (bif Nat.beq p 693 then some (.pop, 1) else none) else (bif Nat.beq p 690 then some (.invokevirtual 90, 3) else none))) else (bif Nat.ble 688 p then (bif Nat.ble 689 p then (bif Nat.beq p 689 then some (.iaload, 1) else none) else (bif Nat.beq p 688 then some (.iadd, 1) else none)) else (bif Nat.beq p 687 then some (.iconst 3, 1) else none))) else (bif Nat.ble 683 p then (bif Nat.ble 685 p then (bif Nat.ble 686 p then (bif Nat.beq p 686 then some (.iload_n 3, 1) else none) else (bif Nat.beq p 685 then some (.aload_n 0, 1) else none)) else (bif Nat.ble 684 p then (bif Nat.beq p 684 then some (.iaload, 1) else none) else (bif Nat.beq p 683 then some (.iadd, 1) else none))) else (bif Nat.ble 681 p then (bif Nat.ble 682 p then (bif Nat.beq p 682 then some (.iconst 2, 1) else none) else (bif Nat.beq p 681 then some (.iload_n 3, 1) else none)) else (bif Nat.beq p 680 then some (.aload_n 0, 1) else none)))))) else (bif Nat.ble 646 p then (bif Nat.ble 662 p then (bif Nat.ble 671 p then (bif Nat.ble 676 p then (bif Nat.ble 678 p then (bif Nat.ble 679 p then (bif Nat.beq p 679 then some (.iaload, 1) else none) else (bif Nat.beq p 678 then some (.iadd, 1) else none)) else (bif Nat.ble 677 p then (bif Nat.beq p 677 then some (.iconst 1, 1) else none) else (bif Nat.beq p 676 then some (.iload_n 3, 1) else none))) else (bif Nat.ble 674 p then (bif Nat.ble 675 p then (bif Nat.beq p 675 then some (.aload_n 0, 1) else none) else (bif Nat.beq p 674 then some (.aload_n 1, 1) else none)) else (bif Nat.beq p 671 then some (.goto 633, 3) else none))) else (bif Nat.ble 665 p then (bif Nat.ble 667 p then (bif Nat.ble 670 p then (bif Nat.beq p 670 then some (.pop, 1) else none) else (bif Nat.beq p 667 then some (.invokevirtual 89, 3) else none)) else (bif Nat.ble 666 p then (bif Nat.beq p 666 then some (.iaload, 1) else none) else (bif Nat.beq p 665 then some (.iadd, 1) else none))) else (bif Nat.ble 663 p then (bif Nat.ble 664 p then (bif Nat.beq p 664 then some (.iconst 3, 1) else none) else (bif Nat.beq p 663 then some (.iload_n 3, 1) else none)) else (bif Nat.beq p 662 then some (.aload_n 0, 1) else none)))) else (bif Nat.ble 655 p then (bif Nat.ble 658 p then (bif Nat.ble 660 p then (bif Nat.ble 661 p then (bif Nat.beq p 661 then some (.iaload, 1) else none) else (bif Nat.beq p 660 then some (.iadd, 1) else none)) else (bif Nat.ble 659 p then (bif Nat.beq p 659 then some (.iconst 2, 1) else none) else (bif Nat.beq p 658 then some (.iload_n 3, 1) else none))) else (bif Nat.ble 656 p then (bif Nat.ble 657 p then (bif Nat.beq p 657 then some (.aload_n 0, 1) else none) else (bif Nat.beq p 656 then some (.iaload, 1) else none)) else (bif Nat.beq p 655 then some (.iadd, 1) else none))) else (bif Nat.ble 651 p then (bif Nat.ble 653 p then (bif Nat.ble 654 p then (bif Nat.beq p 654 then some (.iconst 1, 1) else none) else (bif Nat.beq p 653 then some (.iload_n 3, 1) else none)) else (bif Nat.ble 652 p then (bif Nat.beq p 652 then some (.aload_n 0, 1) else none) else (bif Nat.beq p 651 then some (.aload_n 2, 1) else none))) else (bif Nat.ble 647 p then (bif Nat.ble 650 p then (bif Nat.beq p 650 then some (.pop, 1) else none) else (bif Nat.beq p 647 then some (.invokevirtual 85, 3) else none)) else (bif Nat.beq p 646 then some (.iaload, 1) else none))))) else (bif Nat.ble 632 p then (bif Nat.ble 639 p then (bif Nat.ble 642 p then (bif Nat.ble 644 p then (bif Nat.ble 645 p then (bif Nat.beq p 645 then some (.iadd, 1) else none) else (bif Nat.beq p 644 then some (.iconst 3, 1) else none)) else (bif Nat.ble 643 p then (bif Nat.beq p 643 then some (.iload_n 3, 1) else none) else (bif Nat.beq p 642 then some (.aload_n 0, 1) else none))) else (bif Nat.ble 640 p then (bif Nat.ble 641 p then (bif Nat.beq p 641 then some (.iaload, 1) else none) else (bif Nat.beq p 640 then some (.iadd, 1) else none)) else (bif Nat.beq p 639 then some (.iconst 2, 1) else none))) else (bif Nat.ble 635 p then (bif Nat.ble 637 p then (bif Nat.ble 638 p then (bif Nat.beq p 638 then some (.iload_n 3, 1) else none) else (bif Nat.beq p 637 then some (.aload_n 0, 1) else none)) else (bif Nat.ble 636 p then (bif Nat.beq p 636 then some (.iaload, 1) else none) else (bif Nat.beq p 635 then some (.iadd, 1) else none))) else (bif Nat.ble 633 p then (bif Nat.ble 634 p then (bif Nat.beq p 634 then some (.iconst 1, 1) else none) else (bif Nat.beq p 633 then some (.iload_n 3, 1) else none)) else (bif Nat.beq p 632 then some (.aload_n 0, 1) else none)))) else (bif Nat.ble 621 p then (bif Nat.ble 624 p then (bif Nat.ble 628 p then (bif Nat.ble 631 p then (bif Nat.beq p 631 then some (.aload_n 1, 1) else none) else (bif Nat.beq p 628 then some (.goto 676, 3) else none)) else (bif Nat.ble 627 p then (bif Nat.beq p 627 then some (.pop, 1) else none) else (bif Nat.beq p 624 then some (.invokevirtual 84, 3) else none))) else (bif Nat.ble 622 p then (bif Nat.ble 623 p then (bif Nat.beq p 623 then some (.iaload, 1) else none) else (bif Nat.beq p 622 then some (.iadd, 1) else none)) else (bif Nat.beq p 621 then some (.iconst 1, 1) else none))) else (bif Nat.ble 617 p then (bif Nat.ble 619 p then (bif Nat.ble 620 p then (bif Nat.beq p 620 then some (.iload_n 3, 1) else none) else (bif Nat.beq p 619 then some (.aload_n 0, 1) else none)) else (bif Nat.ble 618 p then (bif Nat.beq p 618 then some (.aload_n 2, 1) else none) else (bif Nat.beq p 617 then some (.pop, 1) else none))) else (bif Nat.ble 613 p then (bif Nat.ble 614 p then (bif Nat.beq p 614 then some (.invokevirtual 81, 3) else none) else (bif Nat.beq p 613 then some (.iaload, 1) else none)) else (bif Nat.beq p 612 then some (.iadd, 1) else none))))))) else (bif Nat.ble 521 p then (bif Nat.ble 561 p then (bif Nat.ble 587 p then (bif Nat.ble 600 p then (bif Nat.ble 608 p then (bif Nat.ble 610 p then (bif Nat.ble 611 p then (bif Nat.beq p 611 then some (.iconst 1, 1) else none) else (bif Nat.beq p 610 then some (.iload_n 3, 1) else none)) else (bif Nat.ble 609 p then (bif Nat.beq p 609 then some (.aload_n 0, 1) else none) else (bif Nat.beq p 608 then some (.aload_n 1, 1) else none))) else (bif Nat.ble 604 p then (bif Nat.ble 605 p then (bif Nat.beq p 605 then some (.goto 699, 3) else none) else (bif Nat.beq p 604 then some (.pop, 1) else none)) else (bif Nat.ble 601 p then (bif Nat.beq p 601 then some (.invokevirtual 80, 3) else none) else (bif Nat.beq p 600 then some (.aload_n 2, 1) else none)))) else (bif Nat.ble 592 p then (bif Nat.ble 596 p then (bif Nat.ble 599 p then (bif Nat.beq p 599 then some (.pop, 1) else none) else (bif Nat.beq p 596 then some (.invokevirtual 77, 3) else none)) else (bif Nat.ble 595 p then (bif Nat.beq p 595 then some (.aload_n 1, 1) else none) else (bif Nat.beq p 592 then some (.goto 712, 3) else none))) else (bif Nat.ble 588 p then (bif Nat.ble 591 p then (bif Nat.beq p 591 then some (.pop, 1) else none) else (bif Nat.beq p 588 then some (.invokevirtual 76, 3) else none)) else (bif Nat.beq p 587 then some (.aload_n 2, 1) else none)))) else (bif Nat.ble 574 p then (bif Nat.ble 579 p then (bif Nat.ble 583 p then (bif Nat.ble 586 p then (bif Nat.beq p 586 then some (.pop, 1) else none) else (bif Nat.beq p 583 then some (.invokevirtual 73, 3) else none)) else (bif Nat.ble 582 p then (bif Nat.beq p 582 then some (.aload_n 1, 1) else none) else (bif Nat.beq p 579 then some (.goto 725, 3) else none))) else (bif Nat.ble 575 p then (bif Nat.ble 578 p then (bif Nat.beq p 578 then some (.pop, 1) else none) else (bif Nat.beq p 575 then some (.invokevirtual 72, 3) else none)) else (bif Nat.beq p 574 then some (.aload_n 2, 1) else none))) else (bif Nat.ble 568 p then (bif Nat.ble 570 p then (bif Nat.ble 573 p then (bif Nat.beq p 573 then some (.pop, 1) else none) else (bif Nat.beq p 570 then some (.invokevirtual 69, 3) else none)) else (bif Nat.ble 569 p then (bif Nat.beq p 569 then some (.aload_n 1, 1) else none) else (bif Nat.beq p 568 then some (.ireturn, 1) else none))) else (bif Nat.ble 564 p then (bif Nat.ble 567 p then (bif Nat.beq p 567 then some (.iconst 0, 1) else none) else (bif Nat.beq p 564 then some (.if_icmp .eq 740, 3) else none)) else (bif Nat.beq p 561 then some (.invokevirtual 68, 3) else none))))) else (bif Nat.ble 539 p then (bif Nat.ble 548 p then (bif Nat.ble 553 p then (bif Nat.ble 557 p then (bif Nat.ble 560 p then (bif Nat.beq p 560 then some (.aload_n 2, 1) else none) else (bif Nat.beq p 557 then some (.invokevirtual 65, 3) else none)) else (bif Nat.ble 556 p then (bif Nat.beq p 556 then some (.aload_n 1, 1) else none) else (bif Nat.beq p 553 then some (.goto 751, 3) else none))) else (bif Nat.ble 549 p then (bif Nat.ble 552 p then (bif Nat.beq p 552 then some (.pop, 1) else none) else (bif Nat.beq p 549 then some (.invokevirtual 64, 3) else none)) else (bif Nat.beq p 548 then some (.iaload, 1) else none))) else (bif Nat.ble 544 p then (bif Nat.ble 546 p then (bif Nat.ble 547 p then (bif Nat.beq p 547 then some (.iadd, 1) else none) else (bif Nat.beq p 546 then some (.iconst 1, 1) else none)) else (bif Nat.ble 545 p then (bif Nat.beq p 545 then some (.iload_n 3, 1) else none) else (bif Nat.beq p 544 then some (.aload_n 0, 1) else none))) else (bif Nat.ble 542 p then (bif Nat.ble 543 p then (bif Nat.beq p 543 then some (.aload_n 2, 1) else none) else (bif Nat.beq p 542 then some (.pop, 1) else none)) else (bif Nat.beq p 539 then some (.invokevirtual 61, 3) else none)))) else (bif Nat.ble 530 p then (bif Nat.ble 535 p then (bif Nat.ble 537 p then (bif Nat.ble 538 p then (bif Nat.beq p 538 then some (.iaload, 1) else none) else (bif Nat.beq p 537 then some (.iadd, 1) else none)) else (bif Nat.ble 536 p then (bif Nat.beq p 536 then some (.iconst 1, 1) else none) else (bif Nat.beq p 535 then some (.iload_n 3, 1) else none))) else (bif Nat.ble 533 p then (bif Nat.ble 534 p then (bif Nat.beq p 534 then some (.aload_n 0, 1) else none) else (bif Nat.beq p 533 then some (.aload_n 1, 1) else none)) else (bif Nat.beq p 530 then some (.goto 774, 3) else none))) else (bif Nat.ble 524 p then (bif Nat.ble 526 p then (bif Nat.ble 529 p then (bif Nat.beq p 529 then some (.pop, 1) else none) else (bif Nat.beq p 526 then some (.invokevirtual 60, 3) else none)) else (bif Nat.ble 525 p then (bif Nat.beq p 525 then some (.iaload, 1) else none) else (bif Nat.beq p 524 then some (.iadd, 1) else none))) else (bif Nat.ble 522 p then (bif Nat.ble 523 p then (bif Nat.beq p 523 then some (.iconst 5, 1) else none) else (bif Nat.beq p 522 then some (.iload_n 3, 1) else none)) else (bif Nat.beq p 521 then some (.aload_n 0, 1) else none)))))) else (bif Nat.ble 491 p then (bif Nat.ble 507 p then (bif Nat.ble 514 p then (bif Nat.ble 517 p then (bif Nat.ble 519 p then (bif Nat.ble 520 p then (bif Nat.beq p 520 then some (.iaload, 1) else none) else (bif Nat.beq p 519 then some (.iadd, 1) else none)) else (bif Nat.ble 518 p then (bif Nat.beq p 518 then some (.iconst 4, 1) else none) else (bif Nat.beq p 517 then some (.iload_n 3, 1) else none))) else (bif Nat.ble 515 p then (bif Nat.ble 516 p then (bif Nat.beq p 516 then some (.aload_n 0, 1) else none) else (bif Nat.beq p 515 then some (.iaload, 1) else none)) else (bif Nat.beq p 514 then some (.iadd, 1) else none))) else (bif Nat.ble 510 p then (bif Nat.ble 512 p then (bif Nat.ble 513 p then (bif Nat.beq p 513 then some (.iconst 3, 1) else none) else (bif Nat.beq p 512 then some (.iload_n 3, 1) else none)) else (bif Nat.ble 511 p then (bif Nat.beq p 511 then some (.aload_n 0, 1) else none) else (bif Nat.beq p 510 then some (.iaload, 1) else none))) else (bif Nat.ble 508 p then (bif Nat.ble 509 p then (bif Nat.beq p 509 then some (.iadd, 1) else none) else (bif Nat.beq p 508 then some (.iconst 2, 1) else none)) else (bif Nat.beq p 507 then some (.iload_n 3, 1) else none)))) else (bif Nat.ble 500 p then (bif Nat.ble 503 p then (bif Nat.ble 505 p then (bif Nat.ble 506 p then (bif Nat.beq p 506 then some (.aload_n 0, 1) else none) else (bif Nat.beq p 505 then some (.iaload, 1) else none)) else (bif Nat.ble 504 p then (bif Nat.beq p 504 then some (.iadd, 1) else none) else (bif Nat.beq p 503 then some (.iconst 1, 1) else none))) else (bif Nat.ble 501 p then (bif Nat.ble 502 p then (bif Nat.beq p 502 then some (.iload_n 3, 1) else none) else (bif Nat.beq p 501 then some (.aload_n 0, 1) else none)) else (bif Nat.beq p 500 then some (.aload_n 2, 1) else none))) else (bif Nat.ble 494 p then (bif Nat.ble 496 p then (bif Nat.ble 499 p then (bif Nat.beq p 499 then some (.pop, 1) else none) else (bif Nat.beq p 496 then some (.invokevirtual 56, 3) else none)) else (bif Nat.ble 495 p then (bif Nat.beq p 495 then some (.iaload, 1) else none) else (bif Nat.beq p 494 then some (.iadd, 1) else none))) else (bif Nat.ble 492 p then (bif Nat.ble 493 p then (bif Nat.beq p 493 then some (.iconst 5, 1) else none) else (bif Nat.beq p 492 then some (.iload_n 3, 1) else none)) else (bif Nat.beq p 491 then some (.aload_n 0, 1) else none))))) else (bif Nat.ble 477 p then (bif Nat.ble 484 p then (bif Nat.ble 487 p then (bif Nat.ble 489 p then (bif Nat.ble 490 p then (bif Nat.beq p 490 then some (.iaload, 1) else none) else (bif Nat.beq p 489 then some (.iadd, 1) else none)) else (bif Nat.ble 488 p then (bif Nat.beq p 488 then some (.iconst 4, 1) else none) else (bif Nat.beq p 487 then some (.iload_n 3, 1) else none))) else (bif Nat.ble 485 p then (bif Nat.ble 486 p then (bif Nat.beq p 486 then some (.aload_n 0, 1) else none) else (bif Nat.beq p 485 then some (.iaload, 1) else none)) else (bif Nat.beq p 484 then some (.iadd, 1) else none))) else (bif Nat.ble 480 p then (bif Nat.ble 482 p then (bif Nat.ble 483 p then (bif Nat.beq p 483 then some (.iconst 3, 1) else none) else (bif Nat.beq p 482 then some (.iload_n 3, 1) else none)) else (bif Nat.ble 481 p then (bif Nat.beq p 481 then some (.aload_n 0, 1) else none) else (bif Nat.beq p 480 then some (.iaload, 1) else none))) else (bif Nat.ble 478 p then (bif Nat.ble 479 p then (bif Nat.beq p 479 then some (.iadd, 1) else none) else (bif Nat.beq p 478 then some (.iconst 2, 1) else none)) else (bif Nat.beq p 477 then some (.iload_n 3, 1) else none)))) else (bif Nat.ble 470 p then (bif Nat.ble 473 p then (bif Nat.ble 475 p then (bif Nat.ble 476 p then (bif Nat.beq p 476 then some (.aload_n 0, 1) else none) else (bif Nat.beq p 475 then some (.iaload, 1) else none)) else (bif Nat.ble 474 p then (bif Nat.beq p 474 then some (.iadd, 1) else none) else (bif Nat.beq p 473 then some (.iconst 1, 1) else none))) else (bif Nat.ble 471 p then (bif Nat.ble 472 p then (bif Nat.beq p 472 then some (.iload_n 3, 1) else none) else (bif Nat.beq p 471 then some (.aload_n 0, 1) else none)) else (bif Nat.beq p 470 then some (.aload_n 1, 1) else none))) else (bif Nat.ble 462 p then (bif Nat.ble 466 p then (bif Nat.ble 467 p then (bif Nat.beq p 467 then some (.goto 837, 3) else none) else (bif Nat.beq p 466 then some (.pop, 1) else none)) else (bif Nat.ble 463 p then (bif Nat.beq p 463 then some (.invokevirtual 55, 3) else none) else (bif Nat.beq p 462 then some (.iaload, 1) else none))) else (bif Nat.ble 460 p then (bif Nat.ble 461 p then (bif Nat.beq p 461 then some (.iadd, 1) else none) else (bif Nat.beq p 460 then some (.iconst 2, 1) else none)) else (bif Nat.beq p 459 then some (.iload_n 3, 1) else none)))))))) else (bif Nat.ble 316 p then (bif Nat.ble 388 p then (bif Nat.ble 424 p then (bif Nat.ble 442 p then (bif Nat.ble 451 p then (bif Nat.ble 455 p then (bif Nat.ble 457 p then (bif Nat.ble 458 p then (bif Nat.beq p 458 then some (.aload_n 0, 1) else none) else (bif Nat.beq p 457 then some (.iaload, 1) else none)) else (bif Nat.ble 456 p then (bif Nat.beq p 456 then some (.iadd, 1) else none) else (bif Nat.beq p 455 then some (.iconst 1, 1) else none))) else (bif Nat.ble 453 p then (bif Nat.ble 454 p then (bif Nat.beq p 454 then some (.iload_n 3, 1) else none) else (bif Nat.beq p 453 then some (.aload_n 0, 1) else none)) else (bif Nat.ble 452 p then (bif Nat.beq p 452 then some (.aload_n 2, 1) else none) else (bif Nat.beq p 451 then some (.pop, 1) else none)))) else (bif Nat.ble 445 p then (bif Nat.ble 447 p then (bif Nat.ble 448 p then (bif Nat.beq p 448 then some (.invokevirtual 52, 3) else none) else (bif Nat.beq p 447 then some (.iaload, 1) else none)) else (bif Nat.ble 446 p then (bif Nat.beq p 446 then some (.iadd, 1) else none) else (bif Nat.beq p 445 then some (.iconst 2, 1) else none))) else (bif Nat.ble 443 p then (bif Nat.ble 444 p then (bif Nat.beq p 444 then some (.iload_n 3, 1) else none) else (bif Nat.beq p 443 then some (.aload_n 0, 1) else none)) else (bif Nat.beq p 442 then some (.iaload, 1) else none)))) else (bif Nat.ble 433 p then (bif Nat.ble 438 p then (bif Nat.ble 440 p then (bif Nat.ble 441 p then (bif Nat.beq p 441 then some (.iadd, 1) else none) else (bif Nat.beq p 440 then some (.iconst 1, 1) else none)) else (bif Nat.ble 439 p then (bif Nat.beq p 439 then some (.iload_n 3, 1) else none) else (bif Nat.beq p 438 then some (.aload_n 0, 1) else none))) else (bif Nat.ble 434 p then (bif Nat.ble 437 p then (bif Nat.beq p 437 then some (.aload_n 1, 1) else none) else (bif Nat.beq p 434 then some (.goto 870, 3) else none)) else (bif Nat.beq p 433 then some (.pop, 1) else none))) else (bif Nat.ble 427 p then (bif Nat.ble 429 p then (bif Nat.ble 430 p then (bif Nat.beq p 430 then some (.invokevirtual 51, 3) else none) else (bif Nat.beq p 429 then some (.iaload, 1) else none)) else (bif Nat.ble 428 p then (bif Nat.beq p 428 then some (.iadd, 1) else none) else (bif Nat.beq p 427 then some (.iconst 1, 1) else none))) else (bif Nat.ble 425 p then (bif Nat.ble 426 p then (bif Nat.beq p 426 then some (.iload_n 3, 1) else none) else (bif Nat.beq p 425 then some (.aload_n 0, 1) else none)) else (bif Nat.beq p 424 then some (.aload_n 2, 1) else none))))) else (bif Nat.ble 404 p then (bif Nat.ble 415 p then (bif Nat.ble 418 p then (bif Nat.ble 420 p then (bif Nat.ble 423 p then (bif Nat.beq p 423 then some (.pop, 1) else none) else (bif Nat.beq p 420 then some (.invokevirtual 48, 3) else none)) else (bif Nat.ble 419 p then (bif Nat.beq p 419 then some (.iaload, 1) else none) else (bif Nat.beq p 418 then some (.iadd, 1) else none))) else (bif Nat.ble 416 p then (bif Nat.ble 417 p then (bif Nat.beq p 417 then some (.iconst 1, 1) else none) else (bif Nat.beq p 416 then some (.iload_n 3, 1) else none)) else (bif Nat.beq p 415 then some (.aload_n 0, 1) else none))) else (bif Nat.ble 407 p then (bif Nat.ble 411 p then (bif Nat.ble 414 p then (bif Nat.beq p 414 then some (.aload_n 1, 1) else none) else (bif Nat.beq p 411 then some (.goto 893, 3) else none)) else (bif Nat.ble 410 p then (bif Nat.beq p 410 then some (.pop, 1) else none) else (bif Nat.beq p 407 then some (.invokevirtual 47, 3) else none))) else (bif Nat.ble 405 p then (bif Nat.ble 406 p then (bif Nat.beq p 406 then some (.iaload, 1) else none) else (bif Nat.beq p 405 then some (.iadd, 1) else none)) else (bif Nat.beq p 404 then some (.iconst 2, 1) else none)))) else (bif Nat.ble 397 p then (bif Nat.ble 400 p then (bif Nat.ble 402 p then (bif Nat.ble 403 p then (bif Nat.beq p 403 then some (.iload_n 3, 1) else none) else (bif Nat.beq p 402 then some (.aload_n 0, 1) else none)) else (bif Nat.ble 401 p then (bif Nat.beq p 401 then some (.iaload, 1) else none) else (bif Nat.beq p 400 then some (.iadd, 1) else none))) else (bif Nat.ble 398 p then (bif Nat.ble 399 p then (bif Nat.beq p 399 then some (.iconst 1, 1) else none) else (bif Nat.beq p 398 then some (.iload_n 3, 1) else none)) else (bif Nat.beq p 397 then some (.aload_n 0, 1) else none))) else (bif Nat.ble 391 p then (bif Nat.ble 395 p then (bif Nat.ble 396 p then (bif Nat.beq p 396 then some (.aload_n 2, 1) else none) else (bif Nat.beq p 395 then some (.pop, 1) else none)) else (bif Nat.ble 392 p then (bif Nat.beq p 392 then some (.invokevirtual 44, 3) else none) else (bif Nat.beq p 391 then some (.iaload, 1) else none))) else (bif Nat.ble 389 p then (bif Nat.ble 390 p then (bif Nat.beq p 390 then some (.iadd, 1) else none) else (bif Nat.beq p 389 then some (.iconst 2, 1) else none)) else (bif Nat.beq p 388 then some (.iload_n 3, 1) else none)))))) else (bif Nat.ble 354 p then (bif Nat.ble 370 p then (bif Nat.ble 381 p then (bif Nat.ble 384 p then (bif Nat.ble 386 p then (bif Nat.ble 387 p then (bif Nat.beq p 387 then some (.aload_n 0, 1) else none) else (bif Nat.beq p 386 then some (.iaload, 1) else none)) else (bif Nat.ble 385 p then (bif Nat.beq p 385 then some (.iadd, 1) else none) else (bif Nat.beq p 384 then some (.iconst 1, 1) else none))) else (bif Nat.ble 382 p then (bif Nat.ble 383 p then (bif Nat.beq p 383 then some (.iload_n 3, 1) else none) else (bif Nat.beq p 382 then some (.aload_n 0, 1) else none)) else (bif Nat.beq p 381 then some (.aload_n 1, 1) else none))) else (bif Nat.ble 373 p then (bif Nat.ble 377 p then (bif Nat.ble 378 p then (bif Nat.beq p 378 then some (.goto 926, 3) else none) else (bif Nat.beq p 377 then some (.pop, 1) else none)) else (bif Nat.ble 374 p then (bif Nat.beq p 374 then some (.invokevirtual 43, 3) else none) else (bif Nat.beq p 373 then some (.iaload, 1) else none))) else (bif Nat.ble 371 p then (bif Nat.ble 372 p then (bif Nat.beq p 372 then some (.iadd, 1) else none) else (bif Nat.beq p 371 then some (.iconst 2, 1) else none)) else (bif Nat.beq p 370 then some (.iload_n 3, 1) else none)))) else (bif Nat.ble 363 p then (bif Nat.ble 366 p then (bif Nat.ble 368 p then (bif Nat.ble 369 p then (bif Nat.beq p 369 then some (.aload_n 0, 1) else none) else (bif Nat.beq p 368 then some (.iaload, 1) else none)) else (bif Nat.ble 367 p then (bif Nat.beq p 367 then some (.iadd, 1) else none) else (bif Nat.beq p 366 then some (.iconst 1, 1) else none))) else (bif Nat.ble 364 p then (bif Nat.ble 365 p then (bif Nat.beq p 365 then some (.iload_n 3, 1) else none) else (bif Nat.beq p 364 then some (.aload_n 0, 1) else none)) else (bif Nat.beq p 363 then some (.aload_n 2, 1) else none))) else (bif Nat.ble 357 p then (bif Nat.ble 359 p then (bif Nat.ble 362 p then (bif Nat.beq p 362 then some (.pop, 1) else none) else (bif Nat.beq p 359 then some (.invokevirtual 40, 3) else none)) else (bif Nat.ble 358 p then (bif Nat.beq p 358 then some (.iaload, 1) else none) else (bif Nat.beq p 357 then some (.iadd, 1) else none))) else (bif Nat.ble 355 p then (bif Nat.ble 356 p then (bif Nat.beq p 356 then some (.iconst 2, 1) else none) else (bif Nat.beq p 355 then some (.iload_n 3, 1) else none)) else (bif Nat.beq p 354 then some (.aload_n 0, 1) else none))))) else (bif Nat.ble 336 p then (bif Nat.ble 345 p then (bif Nat.ble 350 p then (bif Nat.ble 352 p then (bif Nat.ble 353 p then (bif Nat.beq p 353 then some (.iaload, 1) else none) else (bif Nat.beq p 352 then some (.iadd, 1) else none)) else (bif Nat.ble 351 p then (bif Nat.beq p 351 then some (.iconst 1, 1) else none) else (bif Nat.beq p 350 then some (.iload_n 3, 1) else none))) else (bif Nat.ble 348 p then (bif Nat.ble 349 p then (bif Nat.beq p 349 then some (.aload_n 0, 1) else none) else (bif Nat.beq p 348 then some (.aload_n 1, 1) else none)) else (bif Nat.beq p 345 then some (.goto 959, 3) else none))) else (bif Nat.ble 339 p then (bif Nat.ble 341 p then (bif Nat.ble 344 p then (bif Nat.beq p 344 then some (.pop, 1) else none) else (bif Nat.beq p 341 then some (.invokevirtual 39, 3) else none)) else (bif Nat.ble 340 p then (bif Nat.beq p 340 then some (.iaload, 1) else none) else (bif Nat.beq p 339 then some (.iadd, 1) else none))) else (bif Nat.ble 337 p then (bif Nat.ble 338 p then (bif Nat.beq p 338 then some (.iconst 1, 1) else none) else (bif Nat.beq p 337 then some (.iload_n 3, 1) else none)) else (bif Nat.beq p 336 then some (.aload_n 0, 1) else none)))) else (bif Nat.ble 327 p then (bif Nat.ble 330 p then (bif Nat.ble 334 p then (bif Nat.ble 335 p then (bif Nat.beq p 335 then some (.aload_n 2, 1) else none) else (bif Nat.beq p 334 then some (.pop, 1) else none)) else (bif Nat.ble 331 p then (bif Nat.beq p 331 then some (.invokevirtual 36, 3) else none) else (bif Nat.beq p 330 then some (.iaload, 1) else none))) else (bif Nat.ble 328 p then (bif Nat.ble 329 p then (bif Nat.beq p 329 then some (.iadd, 1) else none) else (bif Nat.beq p 328 then some (.iconst 1, 1) else none)) else (bif Nat.beq p 327 then some (.iload_n 3, 1) else none))) else (bif Nat.ble 321 p then (bif Nat.ble 325 p then (bif Nat.ble 326 p then (bif Nat.beq p 326 then some (.aload_n 0, 1) else none) else (bif Nat.beq p 325 then some (.aload_n 1, 1) else none)) else (bif Nat.ble 322 p then (bif Nat.beq p 322 then some (.goto 982, 3) else none) else (bif Nat.beq p 321 then some (.pop, 1) else none))) else (bif Nat.ble 317 p then (bif Nat.ble 318 p then (bif Nat.beq p 318 then some (.invokevirtual 35, 3) else none) else (bif Nat.beq p 317 then some (.iaload, 1) else none)) else (bif Nat.beq p 316 then some (.iadd, 1) else none))))))) else (bif Nat.ble 246 p then (bif Nat.ble 280 p then (bif Nat.ble 298 p then (bif Nat.ble 307 p then (bif Nat.ble 312 p then (bif Nat.ble 314 p then (bif Nat.ble 315 p then (bif Nat.beq p 315 then some (.iconst 1, 1) else none) else (bif Nat.beq p 314 then some (.iload_n 3, 1) else none)) else (bif Nat.ble 313 p then (bif Nat.beq p 313 then some (.aload_n 0, 1) else none) else (bif Nat.beq p 312 then some (.aload_n 2, 1) else none))) else (bif Nat.ble 308 p then (bif Nat.ble 311 p then (bif Nat.beq p 311 then some (.pop, 1) else none) else (bif Nat.beq p 308 then some (.invokevirtual 32, 3) else none)) else (bif Nat.beq p 307 then some (.iaload, 1) else none))) else (bif Nat.ble 303 p then (bif Nat.ble 305 p then (bif Nat.ble 306 p then (bif Nat.beq p 306 then some (.iadd, 1) else none) else (bif Nat.beq p 305 then some (.iconst 1, 1) else none)) else (bif Nat.ble 304 p then (bif Nat.beq p 304 then some (.iload_n 3, 1) else none) else (bif Nat.beq p 303 then some (.aload_n 0, 1) else none))) else (bif Nat.ble 299 p then (bif Nat.ble 302 p then (bif Nat.beq p 302 then some (.aload_n 1, 1) else none) else (bif Nat.beq p 299 then some (.goto 1005, 3) else none)) else (bif Nat.beq p 298 then some (.pop, 1) else none)))) else (bif Nat.ble 289 p then (bif Nat.ble 292 p then (bif Nat.ble 294 p then (bif Nat.ble 295 p then (bif Nat.beq p 295 then some (.invokevirtual 31, 3) else none) else (bif Nat.beq p 294 then some (.iaload, 1) else none)) else (bif Nat.ble 293 p then (bif Nat.beq p 293 then some (.iadd, 1) else none) else (bif Nat.beq p 292 then some (.iconst 2, 1) else none))) else (bif Nat.ble 290 p then (bif Nat.ble 291 p then (bif Nat.beq p 291 then some (.iload_n 3, 1) else none) else (bif Nat.beq p 290 then some (.aload_n 0, 1) else none)) else (bif Nat.beq p 289 then some (.iaload, 1) else none))) else (bif Nat.ble 285 p then (bif Nat.ble 287 p then (bif Nat.ble 288 p then (bif Nat.beq p 288 then some (.iadd, 1) else none) else (bif Nat.beq p 287 then some (.iconst 1, 1) else none)) else (bif Nat.ble 286 p then (bif Nat.beq p 286 then some (.iload_n 3, 1) else none) else (bif Nat.beq p 285 then some (.aload_n 0, 1) else none))) else (bif Nat.ble 283 p then (bif Nat.ble 284 p then (bif Nat.beq p 284 then some (.aload_n 2, 1) else none) else (bif Nat.beq p 283 then some (.pop, 1) else none)) else (bif Nat.beq p 280 then some (.invokevirtual 28, 3) else none))))) else (bif Nat.ble 262 p then (bif Nat.ble 273 p then (bif Nat.ble 276 p then (bif Nat.ble 278 p then (bif Nat.ble 279 p then (bif Nat.beq p 279 then some (.iaload, 1) else none) else (bif Nat.beq p 278 then some (.iadd, 1) else none)) else (bif Nat.ble 277 p then (bif Nat.beq p 277 then some (.iconst 2, 1) else none) else (bif Nat.beq p 276 then some (.iload_n 3, 1) else none))) else (bif Nat.ble 274 p then (bif Nat.ble 275 p then (bif Nat.beq p 275 then some (.aload_n 0, 1) else none) else (bif Nat.beq p 274 then some (.iaload, 1) else none)) else (bif Nat.beq p 273 then some (.iadd, 1) else none))) else (bif Nat.ble 269 p then (bif Nat.ble 271 p then (bif Nat.ble 272 p then (bif Nat.beq p 272 then some (.iconst 1, 1) else none) else (bif Nat.beq p 271 then some (.iload_n 3, 1) else none)) else (bif Nat.ble 270 p then (bif Nat.beq p 270 then some (.aload_n 0, 1) else none) else (bif Nat.beq p 269 then some (.aload_n 1, 1) else none))) else (bif Nat.ble 265 p then (bif Nat.ble 266 p then (bif Nat.beq p 266 then some (.goto 1038, 3) else none) else (bif Nat.beq p 265 then some (.pop, 1) else none)) else (bif Nat.beq p 262 then some (.invokevirtual 27, 3) else none)))) else (bif Nat.ble 255 p then (bif Nat.ble 258 p then (bif Nat.ble 260 p then (bif Nat.ble 261 p then (bif Nat.beq p 261 then some (.iaload, 1) else none) else (bif Nat.beq p 260 then some (.iadd, 1) else none)) else (bif Nat.ble 259 p then (bif Nat.beq p 259 then some (.iconst 1, 1) else none) else (bif Nat.beq p 258 then some (.iload_n 3, 1) else none))) else (bif Nat.ble 256 p then (bif Nat.ble 257 p then (bif Nat.beq p 257 then some (.aload_n 0, 1) else none) else (bif Nat.beq p 256 then some (.aload_n 2, 1) else none)) else (bif Nat.beq p 255 then some (.pop, 1) else none))) else (bif Nat.ble 249 p then (bif Nat.ble 251 p then (bif Nat.ble 252 p then (bif Nat.beq p 252 then some (.invokevirtual 23, 3) else none) else (bif Nat.beq p 251 then some (.iaload, 1) else none)) else (bif Nat.ble 250 p then (bif Nat.beq p 250 then some (.iadd, 1) else none) else (bif Nat.beq p 249 then some (.iconst 1, 1) else none))) else (bif Nat.ble 247 p then (bif Nat.ble 248 p then (bif Nat.beq p 248 then some (.iload_n 3, 1) else none) else (bif Nat.beq p 247 then some (.aload_n 0, 1) else none)) else (bif Nat.beq p 246 then some (.aload_n 1, 1) else none)))))) else (bif Nat.ble 210 p then (bif Nat.ble 228 p then (bif Nat.ble 235 p then (bif Nat.ble 238 p then (bif Nat.ble 242 p then (bif Nat.ble 243 p then (bif Nat.beq p 243 then some (.goto 1061, 3) else none) else (bif Nat.beq p 242 then some (.pop, 1) else none)) else (bif Nat.ble 239 p then (bif Nat.beq p 239 then some (.invokevirtual 22, 3) else none) else (bif Nat.beq p 238 then some (.iaload, 1) else none))) else (bif Nat.ble 236 p then (bif Nat.ble 237 p then (bif Nat.beq p 237 then some (.iadd, 1) else none) else (bif Nat.beq p 236 then some (.iconst 2, 1) else none)) else (bif Nat.beq p 235 then some (.iload_n 3, 1) else none))) else (bif Nat.ble 231 p then (bif Nat.ble 233 p then (bif Nat.ble 234 p then (bif Nat.beq p 234 then some (.aload_n 0, 1) else none) else (bif Nat.beq p 233 then some (.iaload, 1) else none)) else (bif Nat.ble 232 p then (bif Nat.beq p 232 then some (.iadd, 1) else none) else (bif Nat.beq p 231 then some (.iconst 1, 1) else none))) else (bif Nat.ble 229 p then (bif Nat.ble 230 p then (bif Nat.beq p 230 then some (.iload_n 3, 1) else none) else (bif Nat.beq p 229 then some (.aload_n 0, 1) else none)) else (bif Nat.beq p 228 then some (.aload_n 2, 1) else none)))) else (bif Nat.ble 219 p then (bif Nat.ble 222 p then (bif Nat.ble 224 p then (bif Nat.ble 227 p then (bif Nat.beq p 227 then some (.pop, 1) else none) else (bif Nat.beq p 224 then some (.invokevirtual 18, 3) else none)) else (bif Nat.ble 223 p then (bif Nat.beq p 223 then some (.iaload, 1) else none) else (bif Nat.beq p 222 then some (.iadd, 1) else none))) else (bif Nat.ble 220 p then (bif Nat.ble 221 p then (bif Nat.beq p 221 then some (.iconst 2, 1) else none) else (bif Nat.beq p 220 then some (.iload_n 3, 1) else none)) else (bif Nat.beq p 219 then some (.aload_n 0, 1) else none))) else (bif Nat.ble 215 p then (bif Nat.ble 217 p then (bif Nat.ble 218 p then (bif Nat.beq p 218 then some (.iaload, 1) else none) else (bif Nat.beq p 217 then some (.iadd, 1) else none)) else (bif Nat.ble 216 p then (bif Nat.beq p 216 then some (.iconst 1, 1) else none) else (bif Nat.beq p 215 then some (.iload_n 3, 1) else none))) else (bif Nat.ble 213 p then (bif Nat.ble 214 p then (bif Nat.beq p 214 then some (.aload_n 0, 1) else none) else (bif Nat.beq p 213 then some (.aload_n 1, 1) else none)) else (bif Nat.beq p 210 then some (.goto 1094, 3) else none))))) else (bif Nat.ble 23 p then (bif Nat.ble 33 p then (bif Nat.ble 204 p then (bif Nat.ble 206 p then (bif Nat.ble 209 p then (bif Nat.beq p 209 then some (.pop, 1) else none) else (bif Nat.beq p 206 then some (.invokevirtual 17, 3) else none)) else (bif Nat.ble 205 p then (bif Nat.beq p 205 then some (.aload_n 2, 1) else none) else (bif Nat.beq p 204 then some (.pop, 1) else none))) else (bif Nat.ble 200 p then (bif Nat.ble 201 p then (bif Nat.beq p 201 then some (.invokevirtual 13, 3) else none) else (bif Nat.beq p 200 then some (.aload_n 1, 1) else none)) else (bif Nat.beq p 33 then some (.tableswitch 1271 0 37 #[167, 180, 213, 236, 269, 292, 315, 348, 381, 404, 437, 500, 523, 536, 549, 562, 575, 598, 641, 684, 727, 780, 793, 806, 829, 882, 915, 958, 981, 1014, 1057, 1100, 1123, 1156, 1189, 1212, 1235, 1258], 167) else none))) else (bif Nat.ble 28 p then (bif Nat.ble 30 p then (bif Nat.ble 32 p then (bif Nat.beq p 32 then some (.iand, 1) else none) else (bif Nat.beq p 30 then some (.bipush 63, 2) else none)) else (bif Nat.ble 29 p then (bif Nat.beq p 29 then some (.iaload, 1) else none) else (bif Nat.beq p 28 then some (.iload_n 3, 1) else none))) else (bif Nat.ble 24 p then (bif Nat.ble 27 p then (bif Nat.beq p 27 then some (.aload_n 0, 1) else none) else (bif Nat.beq p 24 then some (.if_icmp .gt 1286, 3) else none)) else (bif Nat.beq p 23 then some (.isub, 1) else none)))) else (bif Nat.ble 15 p then (bif Nat.ble 18 p then (bif Nat.ble 20 p then (bif Nat.ble 21 p then (bif Nat.beq p 21 then some (.bipush 6, 2) else none) else (bif Nat.beq p 20 then some (.arraylength, 1) else none)) else (bif Nat.ble 19 p then (bif Nat.beq p 19 then some (.aload_n 0, 1) else none) else (bif Nat.beq p 18 then some (.iload_n 3, 1) else none))) else (bif Nat.ble 16 p then (bif Nat.ble 17 p then (bif Nat.beq p 17 then some (.istore_n 3, 1) else none) else (bif Nat.beq p 16 then some (.iconst 0, 1) else none)) else (bif Nat.beq p 15 then some (.astore_n 2, 1) else none))) else (bif Nat.ble 7 p then (bif Nat.ble 11 p then (bif Nat.ble 12 p then (bif Nat.beq p 12 then some (.invokespecial 12, 3) else none) else (bif Nat.beq p 11 then some (.dup, 1) else none)) else (bif Nat.ble 8 p then (bif Nat.beq p 8 then some (.new 10, 3) else none) else (bif Nat.beq p 7 then some (.astore_n 1, 1) else none))) else (bif Nat.ble 3 p then (bif Nat.ble 4 p then (bif Nat.beq p 4 then some (.invokespecial 9, 3) else none) else (bif Nat.beq p 3 then some (.dup, 1) else none)) else (bif Nat.beq p 0 then some (.new 7, 3) else none)))))))))
set_option maxRecDepth 100000 in
theorem zkL_law : (zbig cL_law.data.toList = 2742660013117760252108958188879615830498729613837416691795863953150153957809354774034734683164065154943466627711531646564089620374144018277480203239300554953654668732274644721090462621652090584465460911932535785265389628562712657992196753101461684859255886459553234464746677841488100679628480504505210786619488952740205016098576268151177658909993426810629144366131874348753299948608564337363470618956547264967880450967059820672841958047241048206352778149969761288134857895166505576923463213865615186977897889181823570154898643755429124707261016409299947408441235237273081280298880002604736946444723886015946755209478058300408826162860558266896173693428143374908586689089665331031818448500713832526990557551776283339256923287956792275999281420875541434728041854807489184702815974954346302225849272866510166517642341126872034802943667516076152692167887258843671049684026599734916789935585705322441601963560103003267382344507479108035541087289547913766149742984711587532850274540640963032580364986321079791166433700408565025908423718951027413372803420361882172103248193833401110599397531987395892815303299837536007574084956012639804741466886231936635836973709599870640974199086205868247305171466082150630609543673718161801904680784079288399623214203133968126556469710587107995807552718321587386401852943663642316234703440072571689221677085894253841607527233032577293665455554024838637198236490158177729117212701315791943699928756948869587592559880803558542026477250527401437157418509313490539003361783412293554038719742645018553869418214987191330619879345185604309038290291314152667707902996513125686178651624452746761204536892262310839758174501652939514296313777766555796838738162661502140070072809775020871435498294374836851142386489877891327284854399070826970658695379273559803573978175694905034007468426772318837008780240520931977792671755985926390584963034972789329332814286555844711023761607220553231844105475123743652914378388386999072626640801482778987699764084775606845393817718224671633504847291341356964886499793851526384893546903140130909415223946733911350422289384535397539057259660714236096640512792936190146496618535863922882040169534312404702152021918683775382661928201880486547237488582103647033275444217979736876096004287595418028862854591939282368598680689523360002652491563053204235745240763882231486838573187726891735274451618011792747398148349556580632539899124323911143947492887185190066092714769564725219894757108328177571378754842691120019493843202190571287871694909022114484256007158787545684253986361455559480051281098058080515664401013438867971065159999678979175597840951286857990267911128233098820787832098659276240308814103597273980850897832280231626772771285113108330036413808073984538159941781617779291289508252469639746668554913576551354977792377130674802037723699490493427210332241747879750846284951138314579194297330309416064144822437346103661030685643207217662065313759579728827099379644773747502757027612142837627276429700654006004891084258652875047259520670194668362227961103705839298559907982106500302821669216808242006546883452745361875487475566713639998556259747444819887883716794783795533069357021540080746149062356959419 ∧ cL_law.data.toList.length = 1312) ∧ zdk cL_law 2742660013117760252108958188879615830498729613837416691795863953150153957809354774034734683164065154943466627711531646564089620374144018277480203239300554953654668732274644721090462621652090584465460911932535785265389628562712657992196753101461684859255886459553234464746677841488100679628480504505210786619488952740205016098576268151177658909993426810629144366131874348753299948608564337363470618956547264967880450967059820672841958047241048206352778149969761288134857895166505576923463213865615186977897889181823570154898643755429124707261016409299947408441235237273081280298880002604736946444723886015946755209478058300408826162860558266896173693428143374908586689089665331031818448500713832526990557551776283339256923287956792275999281420875541434728041854807489184702815974954346302225849272866510166517642341126872034802943667516076152692167887258843671049684026599734916789935585705322441601963560103003267382344507479108035541087289547913766149742984711587532850274540640963032580364986321079791166433700408565025908423718951027413372803420361882172103248193833401110599397531987395892815303299837536007574084956012639804741466886231936635836973709599870640974199086205868247305171466082150630609543673718161801904680784079288399623214203133968126556469710587107995807552718321587386401852943663642316234703440072571689221677085894253841607527233032577293665455554024838637198236490158177729117212701315791943699928756948869587592559880803558542026477250527401437157418509313490539003361783412293554038719742645018553869418214987191330619879345185604309038290291314152667707902996513125686178651624452746761204536892262310839758174501652939514296313777766555796838738162661502140070072809775020871435498294374836851142386489877891327284854399070826970658695379273559803573978175694905034007468426772318837008780240520931977792671755985926390584963034972789329332814286555844711023761607220553231844105475123743652914378388386999072626640801482778987699764084775606845393817718224671633504847291341356964886499793851526384893546903140130909415223946733911350422289384535397539057259660714236096640512792936190146496618535863922882040169534312404702152021918683775382661928201880486547237488582103647033275444217979736876096004287595418028862854591939282368598680689523360002652491563053204235745240763882231486838573187726891735274451618011792747398148349556580632539899124323911143947492887185190066092714769564725219894757108328177571378754842691120019493843202190571287871694909022114484256007158787545684253986361455559480051281098058080515664401013438867971065159999678979175597840951286857990267911128233098820787832098659276240308814103597273980850897832280231626772771285113108330036413808073984538159941781617779291289508252469639746668554913576551354977792377130674802037723699490493427210332241747879750846284951138314579194297330309416064144822437346103661030685643207217662065313759579728827099379644773747502757027612142837627276429700654006004891084258652875047259520670194668362227961103705839298559907982106500302821669216808242006546883452745361875487475566713639998556259747444819887883716794783795533069357021540080746149062356959419 1312 ztL_law 1311 = true := by decide +kernel
noncomputable def wd_LW_law (cA : Nat → ClassId) (qa : Nat → Nat) (σ : Nat → Int) (τ : Nat → Nat → Int) : va_W := [((qa 0), .inr (10, [.ref (qa 1), .ref (qa 2), .ref (qa 3), .ref (qa 4), .int (Int32.ofInt (σ 0)), .int (Int32.ofInt (σ 1)), .int (Int32.ofInt (σ 2)), .ref (qa 5), .int (Int32.ofInt (σ 3)), .ref (qa 6), .ref (qa 7), .ref (qa 8), .ref (qa 9), .ref (qa 10), .ref (qa 11), .ref (qa 12)])), ((qa 13), .inr (11, [.int (Int32.ofInt (σ 4)), .int (Int32.ofInt (σ 5)), .ref (qa 14), .ref (qa 15), .ref (qa 16), .ref (qa 17), .int (Int32.ofInt (σ 6)), .ref (qa 18), .int (Int32.ofInt (σ 7)), .int (Int32.ofInt (σ 8)), .int (Int32.ofInt (σ 9)), .int (Int32.ofInt (σ 10)), .long (Int64.ofInt (σ 11)), .int (Int32.ofInt (σ 12)), .int (Int32.ofInt (σ 13)), .int (Int32.ofInt (σ 14)), .ref (qa 19), .int (Int32.ofInt (σ 15)), .ref (qa 20), .ref (qa 21), .int (Int32.ofInt (σ 16)), .ref (qa 22), .ref (qa 23), .int (Int32.ofInt (σ 17)), .int (Int32.ofInt (σ 18)), .ref (qa 24), .int (Int32.ofInt (σ 19)), .ref (qa 25), .ref (qa 26), .int (Int32.ofInt (σ 20)), .long (Int64.ofInt (σ 21)), .long (Int64.ofInt (σ 22)), .ref (qa 27), .ref (qa 28), .ref (qa 29), .ref (qa 30), .ref (qa 31), .int (Int32.ofInt (σ 23)), .ref (qa 32), .ref (qa 33), .ref (qa 34), .ref (qa 35), .ref (qa 36), .ref (qa 37), .ref (qa 38), .ref (qa 39), .ref (qa 40), .ref (qa 41), .ref (qa 42), .ref (qa 43), .long (Int64.ofInt (σ 24)), .ref (qa 44), .int (Int32.ofInt (σ 25))])), ((qa 1), .inr (2, [.ref (qa 45), .int (Int32.ofInt (σ 26)), .ref (qa 46), .ref (qa 47), .ref (qa 48), .int (Int32.ofInt (σ 27)), .ref (qa 49), .ref (qa 50), .ref (qa 51), .int (Int32.ofInt (σ 28)), .ref (qa 52), .ref (qa 53), .int (Int32.ofInt (σ 29)), .int (Int32.ofInt (σ 30))])), ((qa 2), .inl (cA 3, 2, .inr (.inr (.inr (.inr (zr [(qa 54), (qa 55)])))))), ((qa 3), .inl (cA 1, 2, .inl (za (τ 0)))), ((qa 4), .inl (cA 0, 400, .inl (za (τ 1)))), ((qa 5), .inl (cA 0, 7, .inl (za (τ 2)))), ((qa 6), .inr (4, [.ref (qa 56), .int (Int32.ofInt (σ 31)), .ref (qa 57), .ref (qa 58), .ref (qa 59), .int (Int32.ofInt (σ 32)), .int (Int32.ofInt (σ 33))])), ((qa 7), .inr (3, [.ref (qa 1), .ref (qa 60), .ref (qa 61), .int (Int32.ofInt (σ 34)), .int (Int32.ofInt (σ 35)), .int (Int32.ofInt (σ 36))])), ((qa 8), .inr (0, [.ref (qa 1), .ref (qa 7), .ref (qa 62)])), ((qa 9), .inr (7, [.ref (qa 1), .ref (qa 8), .ref (qa 63), .ref (qa 64), .ref (qa 65), .ref (qa 66), .ref (qa 67), .ref (qa 68), .ref (qa 69), .ref (qa 70), .ref (qa 71), .ref (qa 72), .ref (qa 73), .int (Int32.ofInt (σ 37)), .int (Int32.ofInt (σ 38)), .int (Int32.ofInt (σ 39))])), ((qa 10), .inr (9, [.ref (qa 1), .ref (qa 8), .ref (qa 74), .ref (qa 75), .ref (qa 76), .int (Int32.ofInt (σ 40)), .int (Int32.ofInt (σ 41)), .int (Int32.ofInt (σ 42)), .int (Int32.ofInt (σ 43))])), ((qa 11), .inr (8, [.ref (qa 1), .ref (qa 77), .int (Int32.ofInt (σ 44)), .int (Int32.ofInt (σ 45)), .int (Int32.ofInt (σ 46)), .int (Int32.ofInt (σ 47)), .int (Int32.ofInt (σ 48)), .ref (qa 78)])), ((qa 12), .inr (5, [.ref (qa 79)])), ((qa 14), .inl (cA 0, 7, .inl (za (τ 3)))), ((qa 15), .inl (cA 0, 5580, .inl (za (τ 4)))), ((qa 16), .inl (cA 0, 11160, .inl (za (τ 5)))), ((qa 17), .inl (cA 1, 2, .inl (za (τ 6)))), ((qa 18), .inl (cA 0, 400, .inl (za (τ 7)))), ((qa 19), .inl (cA 0, 96, .inl (za (τ 8)))), ((qa 20), .inl (cA 0, 400, .inl (za (τ 9)))), ((qa 21), .inl (cA 0, 400, .inl (za (τ 10)))), ((qa 22), .inl (cA 0, 400, .inl (za (τ 11)))), ((qa 23), .inl (cA 0, 400, .inl (za (τ 12)))), ((qa 24), .inl (cA 2, 8, .inr (.inl (zl (τ 13))))), ((qa 25), .inl (cA 2, 13, .inr (.inl (zl (τ 14))))), ((qa 26), .inl (cA 2, 400, .inr (.inl (zl (τ 15))))), ((qa 27), .inl (cA 0, 12, .inl (za (τ 16)))), ((qa 28), .inl (cA 0, 120, .inl (za (τ 17)))), ((qa 29), .inl (cA 0, 5, .inl (za (τ 18)))), ((qa 30), .inl (cA 0, 6720, .inl (za (τ 19)))), ((qa 31), .inl (cA 0, 16384, .inl (za (τ 20)))), ((qa 32), .inl (cA 0, 107520, .inl (za (τ 21)))), ((qa 33), .inl (cA 2, 6720, .inr (.inl (zl (τ 22))))), ((qa 34), .inl (cA 0, 12000, .inl (za (τ 23)))), ((qa 35), .inl (cA 0, 20, .inl (za (τ 24)))), ((qa 36), .inl (cA 0, 4, .inl (za (τ 25)))), ((qa 37), .inl (cA 1, 6720, .inl (za (τ 26)))), ((qa 38), .inl (cA 2, 107520, .inr (.inl (zl (τ 27))))), ((qa 39), .inl (cA 2, 3601, .inr (.inl (zl (τ 28))))), ((qa 40), .inl (cA 0, 6, .inl (za (τ 29)))), ((qa 41), .inl (cA 0, 5, .inl (za (τ 30)))), ((qa 42), .inl (cA 0, 5, .inl (za (τ 31)))), ((qa 43), .inl (cA 0, 5, .inl (za (τ 32)))), ((qa 44), .inl (cA 0, 24, .inl (za (τ 33)))), ((qa 45), .inr (1, [.int (Int32.ofInt (σ 49)), .ref (qa 80), .ref (qa 81)])), ((qa 46), .inl (cA 0, 6, .inl (za (τ 34)))), ((qa 47), .inl (cA 0, 6, .inl (za (τ 35)))), ((qa 48), .inl (cA 0, 6, .inl (za (τ 36)))), ((qa 49), .inl (cA 0, 6, .inl (za (τ 37)))), ((qa 50), .inl (cA 0, 4, .inl (za (τ 38)))), ((qa 51), .inl (cA 0, 12, .inl (za (τ 39)))), ((qa 52), .inl (cA 0, 2544, .inl (za (τ 40)))), ((qa 53), .inl (cA 0, 6, .inl (za (τ 41)))), ((qa 54), .inr (2, [.ref (qa 82), .int (Int32.ofInt (σ 50)), .ref (qa 83), .ref (qa 84), .ref (qa 85), .int (Int32.ofInt (σ 51)), .ref (qa 86), .ref (qa 87), .ref (qa 88), .int (Int32.ofInt (σ 52)), .ref (qa 89), .ref (qa 90), .int (Int32.ofInt (σ 53)), .int (Int32.ofInt (σ 54))])), ((qa 55), .inr (2, [.ref (qa 91), .int (Int32.ofInt (σ 55)), .ref (qa 92), .ref (qa 93), .ref (qa 94), .int (Int32.ofInt (σ 56)), .ref (qa 95), .ref (qa 96), .ref (qa 97), .int (Int32.ofInt (σ 57)), .ref (qa 98), .ref (qa 99), .int (Int32.ofInt (σ 58)), .int (Int32.ofInt (σ 59))])), ((qa 56), .inl (cA 0, 424, .inl (za (τ 42)))), ((qa 57), .inl (cA 0, 401, .inl (za (τ 43)))), ((qa 58), .inl (cA 0, 401, .inl (za (τ 44)))), ((qa 59), .inl (cA 0, 401, .inl (za (τ 45)))), ((qa 60), .inl (cA 0, 8, .inl (za (τ 46)))), ((qa 61), .inl (cA 0, 32, .inl (za (τ 47)))), ((qa 62), .inl (cA 0, 48000, .inl (za (τ 48)))), ((qa 63), .inl (cA 4, 3, .inr (.inr (.inr (.inr (zr [(qa 100), (qa 101), (qa 102)])))))), ((qa 64), .inl (cA 0, 16384, .inl (za (τ 49)))), ((qa 65), .inl (cA 2, 6720, .inr (.inl (zl (τ 50))))), ((qa 66), .inl (cA 2, 6720, .inr (.inl (zl (τ 51))))), ((qa 67), .inl (cA 0, 6720, .inl (za (τ 52)))), ((qa 68), .inl (cA 0, 6720, .inl (za (τ 53)))), ((qa 69), .inl (cA 0, 6720, .inl (za (τ 54)))), ((qa 70), .inl (cA 0, 6720, .inl (za (τ 55)))), ((qa 71), .inl (cA 0, 6, .inl (za (τ 56)))), ((qa 72), .inl (cA 0, 4, .inl (za (τ 57)))), ((qa 73), .inl (cA 0, 4, .inl (za (τ 58)))), ((qa 74), .inr (1, [.int (Int32.ofInt (σ 60)), .ref (qa 103), .ref (qa 104)])), ((qa 75), .inl (cA 0, 5, .inl (za (τ 59)))), ((qa 76), .inl (cA 0, 5, .inl (za (τ 60)))), ((qa 77), .inl (cA 0, 3601, .inl (za (τ 61)))), ((qa 78), .inl (cA 0, 6, .inl (za (τ 62)))), ((qa 79), .inr (1, [.int (Int32.ofInt (σ 61)), .ref (qa 105), .ref (qa 106)])), ((qa 80), .inl (cA 0, 12, .inl (za (τ 63)))), ((qa 81), .inl (cA 0, 120, .inl (za (τ 64)))), ((qa 82), .inr (1, [.int (Int32.ofInt (σ 62)), .ref (qa 107), .ref (qa 108)])), ((qa 83), .inl (cA 0, 6, .inl (za (τ 65)))), ((qa 84), .inl (cA 0, 6, .inl (za (τ 66)))), ((qa 85), .inl (cA 0, 6, .inl (za (τ 67)))), ((qa 86), .inl (cA 0, 6, .inl (za (τ 68)))), ((qa 87), .inl (cA 0, 4, .inl (za (τ 69)))), ((qa 88), .inl (cA 0, 12, .inl (za (τ 70)))), ((qa 89), .inl (cA 0, 2544, .inl (za (τ 71)))), ((qa 90), .inl (cA 0, 6, .inl (za (τ 72)))), ((qa 91), .inr (1, [.int (Int32.ofInt (σ 63)), .ref (qa 109), .ref (qa 110)])), ((qa 92), .inl (cA 0, 6, .inl (za (τ 73)))), ((qa 93), .inl (cA 0, 6, .inl (za (τ 74)))), ((qa 94), .inl (cA 0, 6, .inl (za (τ 75)))), ((qa 95), .inl (cA 0, 6, .inl (za (τ 76)))), ((qa 96), .inl (cA 0, 4, .inl (za (τ 77)))), ((qa 97), .inl (cA 0, 12, .inl (za (τ 78)))), ((qa 98), .inl (cA 0, 2544, .inl (za (τ 79)))), ((qa 99), .inl (cA 0, 6, .inl (za (τ 80)))), ((qa 100), .inr (6, [.int (Int32.ofInt (σ 64)), .int (Int32.ofInt (σ 65)), .int (Int32.ofInt (σ 66)), .ref (qa 111)])), ((qa 101), .inr (6, [.int (Int32.ofInt (σ 67)), .int (Int32.ofInt (σ 68)), .int (Int32.ofInt (σ 69)), .ref (qa 112)])), ((qa 102), .inr (6, [.int (Int32.ofInt (σ 70)), .int (Int32.ofInt (σ 71)), .int (Int32.ofInt (σ 72)), .ref (qa 113)])), ((qa 103), .inl (cA 0, 12, .inl (za (τ 81)))), ((qa 104), .inl (cA 0, 120, .inl (za (τ 82)))), ((qa 105), .inl (cA 0, 12, .inl (za (τ 83)))), ((qa 106), .inl (cA 0, 120, .inl (za (τ 84)))), ((qa 107), .inl (cA 0, 12, .inl (za (τ 85)))), ((qa 108), .inl (cA 0, 120, .inl (za (τ 86)))), ((qa 109), .inl (cA 0, 12, .inl (za (τ 87)))), ((qa 110), .inl (cA 0, 120, .inl (za (τ 88)))), ((qa 111), .inl (cA 0, 6720, .inl (za (τ 89)))), ((qa 112), .inl (cA 0, 6720, .inl (za (τ 90)))), ((qa 113), .inl (cA 0, 6720, .inl (za (τ 91))))]
noncomputable def f_LW_law_1304 (L : Nat) (zx : Nat → Int) (k18 : Int → (Nat → Int) → (Nat → Nat → Int) → Option (Int)) (x3 : Int) (σ : Nat → Int) (τ : Nat → Nat → Int) : Option (Int) :=
  zn (x3 + 6) fun v1 =>
  k18 v1 σ τ
noncomputable def f_LW_law_18_b (L : Nat) (zx : Nat → Int)  (k18 : Int → (Nat → Int) → (Nat → Nat → Int) → Option (Int)) (x3 : Int) (σ : Nat → Int) (τ : Nat → Nat → Int) : Option (Int) :=
  zn (L : Int) fun v2 =>
  zn (v2 - 6) fun v3 =>
  if zi_w v3 < zi_w x3 then
    some 1
  else
    zg L zx x3 fun v4 =>
    zn (zi_and v4 63) fun v5 =>
    if zi_w v5 = 0 then
      zd7 (f_HS_column (σ 3) (σ 30) (τ 2) (σ 49) (τ 39) (τ 63)) fun v6 v7 v8 a9 v10 a11 a12 =>
      zd5 (f_HM_column (σ 4) (σ 5) (τ 3) (τ 4)) fun v13 v14 v15 a16 a17 =>
      f_LW_law_1304 L zx k18 x3 (zst σ [(3, v7), (4, v14), (5, v15), (30, v8), (49, v10)]) (zta τ [(2, a9), (3, a16), (4, a17), (39, a11), (63, a12)])
    else if zi_w v5 = 1 then
      zn (x3 + 1) fun v18 =>
      zg L zx v18 fun v19 =>
      zn (x3 + 2) fun v20 =>
      zg L zx v20 fun v21 =>
      zd6 (f_HS_stone v19 v21 (σ 49) (σ 3) (σ 30) (τ 2) (τ 63) (τ 64)) fun v22 v23 v24 a25 a26 a27 =>
      zn (x3 + 1) fun v28 =>
      zg L zx v28 fun v29 =>
      zn (x3 + 2) fun v30 =>
      zg L zx v30 fun v31 =>
      zd5 (f_HM_stone v29 v31 (σ 4) (σ 5) (τ 3) (τ 4)) fun v32 v33 v34 a35 a36 =>
      f_LW_law_1304 L zx k18 x3 (zst σ [(3, v23), (4, v33), (5, v34), (30, v24)]) (zta τ [(2, a25), (3, a35), (4, a36), (63, a26), (64, a27)])
    else if zi_w v5 = 2 then
      zn (x3 + 1) fun v37 =>
      zg L zx v37 fun v38 =>
      zd5 (f_HS_lift v38 (σ 49) (τ 64) (σ 3) (σ 30) (τ 2) (τ 63)) fun v39 v40 v41 a42 a43 =>
      zn (x3 + 1) fun v44 =>
      zg L zx v44 fun v45 =>
      zd5 (f_HM_lift v45 (σ 4) (σ 5) (τ 3) (τ 4)) fun v46 v47 v48 a49 a50 =>
      f_LW_law_1304 L zx k18 x3 (zst σ [(3, v40), (4, v47), (5, v48), (30, v41)]) (zta τ [(2, a42), (3, a49), (4, a50), (63, a43)])
    else if zi_w v5 = 3 then
      zn (x3 + 1) fun v51 =>
      zg L zx v51 fun v52 =>
      zn (x3 + 2) fun v53 =>
      zg L zx v53 fun v54 =>
      zd1 (f_HS_of v52 v54 (σ 49) (τ 63) (τ 64)) fun v55 =>
      zn (x3 + 1) fun v56 =>
      zg L zx v56 fun v57 =>
      zn (x3 + 2) fun v58 =>
      zg L zx v58 fun v59 =>
      zd2 (f_HM_of v57 v59 (τ 4) (σ 4)) fun v60 v61 =>
      f_LW_law_1304 L zx k18 x3 (zst σ [(4, v61)]) τ
    else if zi_w v5 = 4 then
      zn (x3 + 1) fun v62 =>
      zg L zx v62 fun v63 =>
      zd1 (f_HS_weight v63 (σ 49) (τ 63) (τ 64)) fun v64 =>
      zn (x3 + 1) fun v65 =>
      zg L zx v65 fun v66 =>
      zd2 (f_HM_weight v66 (τ 4) (σ 4)) fun v67 v68 =>
      f_LW_law_1304 L zx k18 x3 (zst σ [(4, v68)]) τ
    else if zi_w v5 = 5 then
      zn (x3 + 1) fun v69 =>
      zg L zx v69 fun v70 =>
      zd8 (f_HS_child v70 (σ 3) (σ 26) (σ 30) (τ 2) (τ 34) (τ 35) (τ 36)) fun v71 v72 v73 v74 a75 a76 a77 a78 =>
      zn (x3 + 1) fun v79 =>
      zg L zx v79 fun v80 =>
      zd5 (f_HM_child v80 (σ 4) (σ 5) (τ 3) (τ 4)) fun v81 v82 v83 a84 a85 =>
      f_LW_law_1304 L zx k18 x3 (zst σ [(3, v72), (4, v82), (5, v83), (26, v73), (30, v74)]) (zta τ [(2, a75), (3, a84), (4, a85), (34, a76), (35, a77), (36, a78)])
    else if zi_w v5 = 6 then
      zn (x3 + 1) fun v86 =>
      zg L zx v86 fun v87 =>
      zn (x3 + 2) fun v88 =>
      zg L zx v88 fun v89 =>
      zd5 (f_HS_expel v87 v89 (σ 26) (σ 3) (σ 30) (τ 2) (τ 35)) fun v90 v91 v92 a93 a94 =>
      zn (x3 + 1) fun v95 =>
      zg L zx v95 fun v96 =>
      zn (x3 + 2) fun v97 =>
      zg L zx v97 fun v98 =>
      zd5 (f_HM_expel v96 v98 (σ 4) (σ 5) (τ 3) (τ 4)) fun v99 v100 v101 a102 a103 =>
      f_LW_law_1304 L zx k18 x3 (zst σ [(3, v91), (4, v100), (5, v101), (30, v92)]) (zta τ [(2, a93), (3, a102), (4, a103), (35, a94)])
    else if zi_w v5 = 7 then
      zn (x3 + 1) fun v104 =>
      zg L zx v104 fun v105 =>
      zn (x3 + 2) fun v106 =>
      zg L zx v106 fun v107 =>
      zd1 (f_HS_fact v105 v107 (σ 26) (τ 34) (τ 35) (τ 36)) fun v108 =>
      zn (x3 + 1) fun v109 =>
      zg L zx v109 fun v110 =>
      zn (x3 + 2) fun v111 =>
      zg L zx v111 fun v112 =>
      zd2 (f_HM_fact v110 v112 (τ 4) (σ 4)) fun v113 v114 =>
      f_LW_law_1304 L zx k18 x3 (zst σ [(4, v114)]) τ
    else if zi_w v5 = 8 then
      zn (x3 + 1) fun v115 =>
      zg L zx v115 fun v116 =>
      zd6 (f_HS_parish v116 (σ 49) (σ 3) (σ 27) (σ 30) (τ 2) (τ 37)) fun v117 v118 v119 v120 a121 a122 =>
      zn (x3 + 1) fun v123 =>
      zg L zx v123 fun v124 =>
      zd5 (f_HM_parish v124 (σ 4) (σ 5) (τ 3) (τ 4)) fun v125 v126 v127 a128 a129 =>
      f_LW_law_1304 L zx k18 x3 (zst σ [(3, v118), (4, v126), (5, v127), (27, v119), (30, v120)]) (zta τ [(2, a121), (3, a128), (4, a129), (37, a122)])
    else if zi_w v5 = 9 then
      zn (x3 + 1) fun v130 =>
      zg L zx v130 fun v131 =>
      zn (x3 + 2) fun v132 =>
      zg L zx v132 fun v133 =>
      zd5 (f_HS_terms v131 v133 (σ 3) (σ 30) (τ 2) (τ 38)) fun v134 v135 v136 a137 a138 =>
      zn (x3 + 1) fun v139 =>
      zg L zx v139 fun v140 =>
      zn (x3 + 2) fun v141 =>
      zg L zx v141 fun v142 =>
      zd5 (f_HM_terms v140 v142 (σ 4) (σ 5) (τ 3) (τ 4)) fun v143 v144 v145 a146 a147 =>
      f_LW_law_1304 L zx k18 x3 (zst σ [(3, v135), (4, v144), (5, v145), (30, v136)]) (zta τ [(2, a137), (3, a146), (4, a147), (38, a138)])
    else if zi_w v5 = 10 then
      zn (x3 + 1) fun v148 =>
      zg L zx v148 fun v149 =>
      zn (x3 + 2) fun v150 =>
      zg L zx v150 fun v151 =>
      zn (x3 + 3) fun v152 =>
      zg L zx v152 fun v153 =>
      zn (x3 + 4) fun v154 =>
      zg L zx v154 fun v155 =>
      zn (x3 + 5) fun v156 =>
      zg L zx v156 fun v157 =>
      zd3 (f_HS_feed v149 v151 v153 v155 v157 (σ 0) (τ 1)) fun v158 v159 a160 =>
      zn (x3 + 1) fun v161 =>
      zg L zx v161 fun v162 =>
      zn (x3 + 2) fun v163 =>
      zg L zx v163 fun v164 =>
      zn (x3 + 3) fun v165 =>
      zg L zx v165 fun v166 =>
      zn (x3 + 4) fun v167 =>
      zg L zx v167 fun v168 =>
      zn (x3 + 5) fun v169 =>
      zg L zx v169 fun v170 =>
      zd4 (f_HM_feed v162 v164 v166 v168 v170 (σ 4) (σ 7) (τ 7)) fun v171 v172 v173 a174 =>
      f_LW_law_1304 L zx k18 x3 (zst σ [(0, v159), (4, v172), (7, v173)]) (zta τ [(1, a160), (7, a174)])
    else if zi_w v5 = 11 then
      zn (x3 + 1) fun v175 =>
      zg L zx v175 fun v176 =>
      zd2 (f_HS_end v176 (σ 0)) fun v177 v178 =>
      zn (x3 + 1) fun v179 =>
      zg L zx v179 fun v180 =>
      zd3 (f_HM_end v180 (σ 4) (σ 7)) fun v181 v182 v183 =>
      f_LW_law_1304 L zx k18 x3 (zst σ [(0, v178), (4, v182), (7, v183)]) τ
    else if zi_w v5 = 12 then
      zd8 (f_HS_row (τ 1) (σ 49) (σ 0) (σ 2) (σ 3) (σ 30) (τ 2) (τ 63) (τ 64)) fun v184 v185 v186 v187 v188 a189 a190 a191 =>
      zd7 (f_HM_row (τ 7) (σ 4) (σ 5) (σ 6) (σ 7) (τ 3) (τ 4)) fun v192 v193 v194 v195 v196 a197 a198 =>
      if zi_w v184 = zi_w v192 then
        f_LW_law_1304 L zx k18 x3 (zst σ [(0, v185), (2, v186), (3, v187), (4, v193), (5, v194), (6, v195), (7, v196), (30, v188)]) (zta τ [(2, a189), (3, a197), (4, a198), (63, a190), (64, a191)])
      else
        some 0
    else if zi_w v5 = 13 then
      zd1 (f_HS_gravel (σ 2)) fun v199 =>
      zd2 (f_HM_gravel (σ 6) (σ 4)) fun v200 v201 =>
      f_LW_law_1304 L zx k18 x3 (zst σ [(4, v201)]) τ
    else if zi_w v5 = 14 then
      zd16 (f_HS_law (τ 1) (σ 0) (σ 1) (σ 3) (σ 28) (σ 30) (τ 2) (σ 31) (σ 32) (σ 33) (τ 40) (τ 41) (τ 42) (τ 43) (τ 44) (τ 45)) fun v202 v203 v204 v205 v206 v207 a208 v209 v210 v211 a212 a213 a214 a215 a216 a217 =>
      zd22 (f_HM_law (τ 7) (τ 13) (σ 4) (σ 5) (σ 7) (σ 8) (σ 9) (σ 10) (σ 11) (σ 12) (σ 13) (σ 14) (σ 15) (σ 16) (σ 17) (σ 18) (τ 3) (τ 4) (τ 8) (τ 9) (τ 10) (τ 11) (τ 12)) fun v218 v219 v220 v221 v222 v223 v224 v225 v226 v227 v228 v229 v230 v231 v232 a233 a234 a235 a236 a237 a238 a239 =>
      f_LW_law_1304 L zx k18 x3 (zst σ [(0, v203), (1, v204), (3, v205), (4, v219), (5, v220), (7, v221), (8, v222), (9, v223), (10, v224), (11, v225), (12, v226), (13, v227), (14, v228), (15, v229), (16, v230), (17, v231), (18, v232), (28, v206), (30, v207), (31, v209), (32, v210), (33, v211)]) (zta τ [(2, a208), (3, a233), (4, a234), (8, a235), (9, a236), (10, a237), (11, a238), (12, a239), (40, a212), (41, a213), (42, a214), (43, a215), (44, a216), (45, a217)])
    else if zi_w v5 = 15 then
      zd1 (f_HS_fault (σ 1)) fun v240 =>
      zd2 (f_HM_fault (σ 12) (σ 4)) fun v241 v242 =>
      f_LW_law_1304 L zx k18 x3 (zst σ [(4, v242)]) τ
    else if zi_w v5 = 16 then
      zn (x3 + 1) fun v243 =>
      zg L zx v243 fun v244 =>
      zd5 (f_HS_force v244 (σ 28) (σ 3) (σ 29) (σ 30) (τ 2)) fun v245 v246 v247 v248 a249 =>
      zn (x3 + 1) fun v250 =>
      zg L zx v250 fun v251 =>
      zd5 (f_HM_force v251 (σ 4) (σ 5) (τ 3) (τ 4)) fun v252 v253 v254 a255 a256 =>
      f_LW_law_1304 L zx k18 x3 (zst σ [(3, v246), (4, v253), (5, v254), (29, v247), (30, v248)]) (zta τ [(2, a249), (3, a255), (4, a256)])
    else if zi_w v5 = 17 then
      zn (x3 + 1) fun v257 =>
      zg L zx v257 fun v258 =>
      zn (x3 + 2) fun v259 =>
      zg L zx v259 fun v260 =>
      zn (x3 + 3) fun v261 =>
      zg L zx v261 fun v262 =>
      zd6 (f_HS_can v258 v260 v262 (σ 26) (σ 28) (σ 29) (σ 49) (τ 34) (τ 35) (τ 38) (τ 40) (τ 41) (τ 63) (τ 64) (σ 34) (σ 35) (σ 36) (τ 46) (τ 47)) fun v263 v264 v265 v266 a267 a268 =>
      zn (x3 + 1) fun v269 =>
      zg L zx v269 fun v270 =>
      zn (x3 + 2) fun v271 =>
      zg L zx v271 fun v272 =>
      zn (x3 + 3) fun v273 =>
      zg L zx v273 fun v274 =>
      zd10 (f_HM_can v270 v272 v274 (τ 4) (σ 4) (σ 19) (σ 20) (σ 21) (σ 22) (τ 14) (τ 15) (τ 16) (τ 17)) fun v275 v276 v277 v278 v279 v280 a281 a282 a283 a284 =>
      f_LW_law_1304 L zx k18 x3 (zst σ [(4, v276), (19, v277), (20, v278), (21, v279), (22, v280), (34, v264), (35, v265), (36, v266)]) (zta τ [(14, a281), (15, a282), (16, a283), (17, a284), (46, a267), (47, a268)])
    else if zi_w v5 = 18 then
      zn (x3 + 1) fun v285 =>
      zg L zx v285 fun v286 =>
      zn (x3 + 2) fun v287 =>
      zg L zx v287 fun v288 =>
      zn (x3 + 3) fun v289 =>
      zg L zx v289 fun v290 =>
      zd6 (f_HS_tires v286 v288 v290 (σ 26) (σ 28) (σ 29) (σ 49) (τ 34) (τ 35) (τ 38) (τ 40) (τ 41) (τ 63) (τ 64) (σ 34) (σ 35) (σ 36) (τ 46) (τ 47)) fun v291 v292 v293 v294 a295 a296 =>
      zn (x3 + 1) fun v297 =>
      zg L zx v297 fun v298 =>
      zn (x3 + 2) fun v299 =>
      zg L zx v299 fun v300 =>
      zn (x3 + 3) fun v301 =>
      zg L zx v301 fun v302 =>
      zd10 (f_HM_tires v298 v300 v302 (τ 4) (σ 4) (σ 19) (σ 20) (σ 21) (σ 22) (τ 14) (τ 15) (τ 16) (τ 17)) fun v303 v304 v305 v306 v307 v308 a309 a310 a311 a312 =>
      f_LW_law_1304 L zx k18 x3 (zst σ [(4, v304), (19, v305), (20, v306), (21, v307), (22, v308), (34, v292), (35, v293), (36, v294)]) (zta τ [(14, a309), (15, a310), (16, a311), (17, a312), (46, a295), (47, a296)])
    else if zi_w v5 = 19 then
      zn (x3 + 1) fun v313 =>
      zg L zx v313 fun v314 =>
      zn (x3 + 2) fun v315 =>
      zg L zx v315 fun v316 =>
      zn (x3 + 3) fun v317 =>
      zg L zx v317 fun v318 =>
      zd11 (f_HS_carry v314 v316 v318 (σ 26) (σ 28) (σ 29) (σ 49) (τ 34) (τ 35) (τ 38) (τ 40) (τ 41) (σ 3) (σ 30) (τ 2) (σ 34) (σ 35) (σ 36) (τ 46) (τ 47) (τ 63) (τ 64)) fun v319 v320 v321 a322 v323 v324 v325 a326 a327 a328 a329 =>
      zn (x3 + 1) fun v330 =>
      zg L zx v330 fun v331 =>
      zn (x3 + 2) fun v332 =>
      zg L zx v332 fun v333 =>
      zn (x3 + 3) fun v334 =>
      zg L zx v334 fun v335 =>
      zd13 (f_HM_carry v331 v333 v335 (σ 4) (σ 5) (σ 19) (σ 20) (σ 21) (σ 22) (τ 3) (τ 4) (τ 14) (τ 15) (τ 16) (τ 17)) fun v336 v337 v338 v339 v340 v341 v342 a343 a344 a345 a346 a347 a348 =>
      f_LW_law_1304 L zx k18 x3 (zst σ [(3, v320), (4, v337), (5, v338), (19, v339), (20, v340), (21, v341), (22, v342), (30, v321), (34, v323), (35, v324), (36, v325)]) (zta τ [(2, a322), (3, a343), (4, a344), (14, a345), (15, a346), (16, a347), (17, a348), (46, a326), (47, a327), (63, a328), (64, a329)])
    else if zi_w v5 = 20 then
      zn (x3 + 1) fun v349 =>
      zg L zx v349 fun v350 =>
      zn (x3 + 2) fun v351 =>
      zg L zx v351 fun v352 =>
      zn (x3 + 3) fun v353 =>
      zg L zx v353 fun v354 =>
      zn (x3 + 4) fun v355 =>
      zg L zx v355 fun v356 =>
      zd11 (f_HS_exchange v350 v352 v354 v356 (σ 26) (σ 28) (σ 29) (σ 49) (τ 34) (τ 35) (τ 38) (τ 40) (τ 41) (σ 3) (σ 30) (τ 2) (σ 34) (σ 35) (σ 36) (τ 46) (τ 47) (τ 63) (τ 64)) fun v357 v358 v359 a360 v361 v362 v363 a364 a365 a366 a367 =>
      zn (x3 + 1) fun v368 =>
      zg L zx v368 fun v369 =>
      zn (x3 + 2) fun v370 =>
      zg L zx v370 fun v371 =>
      zn (x3 + 3) fun v372 =>
      zg L zx v372 fun v373 =>
      zn (x3 + 4) fun v374 =>
      zg L zx v374 fun v375 =>
      zd13 (f_HM_exchange v369 v371 v373 v375 (σ 4) (σ 5) (σ 19) (σ 20) (σ 21) (σ 22) (τ 3) (τ 4) (τ 14) (τ 15) (τ 16) (τ 17)) fun v376 v377 v378 v379 v380 v381 v382 a383 a384 a385 a386 a387 a388 =>
      f_LW_law_1304 L zx k18 x3 (zst σ [(3, v358), (4, v377), (5, v378), (19, v379), (20, v380), (21, v381), (22, v382), (30, v359), (34, v361), (35, v362), (36, v363)]) (zta τ [(2, a360), (3, a383), (4, a384), (14, a385), (15, a386), (16, a387), (17, a388), (46, a364), (47, a365), (63, a366), (64, a367)])
    else if zi_w v5 = 21 then
      zd1 (f_HS_steep (σ 49) (τ 38) (τ 63)) fun v389 =>
      zd4 (f_HM_steep (τ 4) (σ 4) (τ 16) (τ 17)) fun v390 v391 a392 a393 =>
      f_LW_law_1304 L zx k18 x3 (zst σ [(4, v391)]) (zta τ [(16, a392), (17, a393)])
    else if zi_w v5 = 22 then
      zd4 (f_HS_slide (σ 49) (τ 38) (σ 30) (τ 63) (τ 64)) fun v394 v395 a396 a397 =>
      zd5 (f_HM_slide (σ 4) (τ 4) (τ 16) (τ 17)) fun v398 v399 a400 a401 a402 =>
      f_LW_law_1304 L zx k18 x3 (zst σ [(4, v399), (30, v395)]) (zta τ [(4, a400), (16, a401), (17, a402), (63, a396), (64, a397)])
    else if zi_w v5 = 23 then
      zn (x3 + 1) fun v403 =>
      zg L zx v403 fun v404 =>
      zd1 (f_HS_shade v404 (σ 27) (σ 49) (τ 37) (τ 38) (τ 63)) fun v405 =>
      zn (x3 + 1) fun v406 =>
      zg L zx v406 fun v407 =>
      zd4 (f_HM_shade v407 (τ 4) (σ 4) (τ 16) (τ 17)) fun v408 v409 a410 a411 =>
      f_LW_law_1304 L zx k18 x3 (zst σ [(4, v409)]) (zta τ [(16, a410), (17, a411)])
    else if zi_w v5 = 24 then
      zn (x3 + 1) fun v412 =>
      zg L zx v412 fun v413 =>
      zn (x3 + 2) fun v414 =>
      zg L zx v414 fun v415 =>
      zn (x3 + 3) fun v416 =>
      zg L zx v416 fun v417 =>
      zn (x3 + 4) fun v418 =>
      zg L zx v418 fun v419 =>
      zd8 (f_HS_gains v413 v415 v417 v419 (σ 26) (σ 27) (σ 28) (σ 29) (σ 49) (τ 34) (τ 35) (τ 37) (τ 38) (τ 40) (τ 41) (σ 34) (σ 35) (σ 36) (τ 46) (τ 47) (τ 63) (τ 64)) fun v420 v421 v422 v423 a424 a425 a426 a427 =>
      zn (x3 + 1) fun v428 =>
      zg L zx v428 fun v429 =>
      zn (x3 + 2) fun v430 =>
      zg L zx v430 fun v431 =>
      zn (x3 + 3) fun v432 =>
      zg L zx v432 fun v433 =>
      zn (x3 + 4) fun v434 =>
      zg L zx v434 fun v435 =>
      zd10 (f_HM_gains v429 v431 v433 v435 (τ 4) (σ 4) (σ 19) (σ 20) (σ 21) (σ 22) (τ 14) (τ 15) (τ 16) (τ 17)) fun v436 v437 v438 v439 v440 v441 a442 a443 a444 a445 =>
      f_LW_law_1304 L zx k18 x3 (zst σ [(4, v437), (19, v438), (20, v439), (21, v440), (22, v441), (34, v421), (35, v422), (36, v423)]) (zta τ [(14, a442), (15, a443), (16, a444), (17, a445), (46, a424), (47, a425), (63, a426), (64, a427)])
    else if zi_w v5 = 25 then
      zn (x3 + 1) fun v446 =>
      zg L zx v446 fun v447 =>
      zn (x3 + 2) fun v448 =>
      zg L zx v448 fun v449 =>
      zd5 (f_HS_goal v447 v449 (σ 49) (σ 3) (σ 30) (τ 2) (τ 39)) fun v450 v451 v452 a453 a454 =>
      zn (x3 + 1) fun v455 =>
      zg L zx v455 fun v456 =>
      zn (x3 + 2) fun v457 =>
      zg L zx v457 fun v458 =>
      zd5 (f_HM_goal v456 v458 (σ 4) (σ 5) (τ 3) (τ 4)) fun v459 v460 v461 a462 a463 =>
      f_LW_law_1304 L zx k18 x3 (zst σ [(3, v451), (4, v460), (5, v461), (30, v452)]) (zta τ [(2, a453), (3, a462), (4, a463), (39, a454)])
    else if zi_w v5 = 26 then
      zn (x3 + 1) fun v464 =>
      zg L zx v464 fun v465 =>
      zn (x3 + 2) fun v466 =>
      zg L zx v466 fun v467 =>
      zn (x3 + 3) fun v468 =>
      zg L zx v468 fun v469 =>
      zd32 (f_HS_plan v465 v467 v469 (σ 26) (σ 28) (σ 29) (σ 30) (σ 49) (τ 34) (τ 35) (τ 38) (τ 39) (τ 40) (τ 41) (τ 63) (τ 64) (σ 34) (σ 35) (σ 36) (σ 37) (σ 38) (σ 39) (τ 46) (τ 47) (τ 48) (τ 49) (τ 50) (τ 51) (τ 52) (τ 53) (τ 54) (τ 55) (τ 56) (τ 57) (τ 58) (σ 64) (σ 65) (σ 66) (σ 67) (σ 68) (σ 69) (σ 70) (σ 71) (σ 72) (τ 89) (τ 90) (τ 91)) fun v470 v471 v472 v473 v474 v475 v476 a477 a478 a479 a480 a481 a482 a483 a484 a485 a486 a487 a488 a489 v490 v491 v492 v493 v494 v495 v496 v497 v498 a499 a500 a501 =>
      zn (x3 + 1) fun v502 =>
      zg L zx v502 fun v503 =>
      zn (x3 + 2) fun v504 =>
      zg L zx v504 fun v505 =>
      zn (x3 + 3) fun v506 =>
      zg L zx v506 fun v507 =>
      zd19 (f_HM_plan v503 v505 v507 (τ 4) (σ 4) (σ 19) (σ 20) (σ 21) (σ 22) (σ 23) (τ 14) (τ 15) (τ 18) (τ 19) (τ 20) (τ 21) (τ 22) (τ 23) (τ 24) (τ 25) (τ 26) (τ 27)) fun v508 v509 v510 v511 v512 v513 v514 a515 a516 a517 a518 a519 a520 a521 a522 a523 a524 a525 a526 =>
      f_LW_law_1304 L zx k18 x3 (zst σ [(4, v509), (19, v510), (20, v511), (21, v512), (22, v513), (23, v514), (34, v471), (35, v472), (36, v473), (37, v474), (38, v475), (39, v476), (64, v490), (65, v491), (66, v492), (67, v493), (68, v494), (69, v495), (70, v496), (71, v497), (72, v498)]) (zta τ [(14, a515), (15, a516), (18, a517), (19, a518), (20, a519), (21, a520), (22, a521), (23, a522), (24, a523), (25, a524), (26, a525), (27, a526), (46, a477), (47, a478), (48, a479), (49, a480), (50, a481), (51, a482), (52, a483), (53, a484), (54, a485), (55, a486), (56, a487), (57, a488), (58, a489), (89, a499), (90, a500), (91, a501)])
    else if zi_w v5 = 27 then
      zn (x3 + 1) fun v527 =>
      zg L zx v527 fun v528 =>
      zd3 (f_HS_weighs v528 (σ 30) (σ 49) (τ 63) (τ 64) (σ 44) (τ 61)) fun v529 v530 a531 =>
      zn (x3 + 1) fun v532 =>
      zg L zx v532 fun v533 =>
      zd3 (f_HM_weighs v533 (τ 4) (σ 4) (τ 28)) fun v534 v535 a536 =>
      f_LW_law_1304 L zx k18 x3 (zst σ [(4, v535), (44, v530)]) (zta τ [(28, a536), (61, a531)])
    else if zi_w v5 = 28 then
      zn (x3 + 1) fun v537 =>
      zg L zx v537 fun v538 =>
      zn (x3 + 2) fun v539 =>
      zg L zx v539 fun v540 =>
      zd5 (f_HS_trips v538 v540 (σ 26) (σ 3) (σ 30) (τ 2) (τ 36)) fun v541 v542 v543 a544 a545 =>
      zn (x3 + 1) fun v546 =>
      zg L zx v546 fun v547 =>
      zn (x3 + 2) fun v548 =>
      zg L zx v548 fun v549 =>
      zd5 (f_HM_trips v547 v549 (σ 4) (σ 5) (τ 3) (τ 4)) fun v550 v551 v552 a553 a554 =>
      f_LW_law_1304 L zx k18 x3 (zst σ [(3, v542), (4, v551), (5, v552), (30, v543)]) (zta τ [(2, a544), (3, a553), (4, a554), (36, a545)])
    else if zi_w v5 = 29 then
      zn (x3 + 1) fun v555 =>
      zg L zx v555 fun v556 =>
      zn (x3 + 2) fun v557 =>
      zg L zx v557 fun v558 =>
      zn (x3 + 3) fun v559 =>
      zg L zx v559 fun v560 =>
      zd6 (f_HS_culprits v556 v558 v560 (σ 26) (τ 36) (σ 45) (σ 46) (σ 47) (σ 48) (τ 62)) fun v561 v562 v563 v564 v565 a566 =>
      zn (x3 + 1) fun v567 =>
      zg L zx v567 fun v568 =>
      zn (x3 + 2) fun v569 =>
      zg L zx v569 fun v570 =>
      zn (x3 + 3) fun v571 =>
      zg L zx v571 fun v572 =>
      zd3 (f_HM_culprits v568 v570 v572 (τ 4) (σ 4) (τ 29)) fun v573 v574 a575 =>
      f_LW_law_1304 L zx k18 x3 (zst σ [(4, v574), (45, v562), (46, v563), (47, v564), (48, v565)]) (zta τ [(29, a575), (62, a566)])
    else if zi_w v5 = 30 then
      zn (x3 + 1) fun v576 =>
      zg L zx v576 fun v577 =>
      zn (x3 + 2) fun v578 =>
      zg L zx v578 fun v579 =>
      zn (x3 + 3) fun v580 =>
      zg L zx v580 fun v581 =>
      zd16 (f_HS_duel v577 v579 v581 (σ 26) (σ 27) (σ 28) (σ 29) (σ 30) (σ 49) (τ 34) (τ 35) (τ 37) (τ 38) (τ 40) (τ 41) (τ 63) (τ 64) (σ 34) (σ 35) (σ 36) (σ 40) (σ 41) (σ 42) (σ 43) (τ 46) (τ 47) (τ 48) (σ 60) (τ 59) (τ 60) (τ 81) (τ 82)) fun v582 v583 v584 v585 v586 v587 v588 v589 a590 a591 a592 v593 a594 a595 a596 a597 =>
      zn (x3 + 1) fun v598 =>
      zg L zx v598 fun v599 =>
      zn (x3 + 2) fun v600 =>
      zg L zx v600 fun v601 =>
      zn (x3 + 3) fun v602 =>
      zg L zx v602 fun v603 =>
      zd13 (f_HM_duel v599 v601 v603 (τ 4) (σ 4) (σ 19) (σ 20) (σ 21) (σ 22) (τ 14) (τ 15) (τ 16) (τ 17) (τ 30) (τ 31) (τ 32)) fun v604 v605 v606 v607 v608 v609 a610 a611 a612 a613 a614 a615 a616 =>
      f_LW_law_1304 L zx k18 x3 (zst σ [(4, v605), (19, v606), (20, v607), (21, v608), (22, v609), (34, v583), (35, v584), (36, v585), (40, v586), (41, v587), (42, v588), (43, v589), (60, v593)]) (zta τ [(14, a610), (15, a611), (16, a612), (17, a613), (30, a614), (31, a615), (32, a616), (46, a590), (47, a591), (48, a592), (59, a594), (60, a595), (81, a596), (82, a597)])
    else if zi_w v5 = 31 then
      zn (x3 + 1) fun v617 =>
      zg L zx v617 fun v618 =>
      zd1 (f_HS_layers v618 (σ 49) (τ 63) (τ 64)) fun v619 =>
      zn (x3 + 1) fun v620 =>
      zg L zx v620 fun v621 =>
      zd2 (f_HM_layers v621 (τ 4) (σ 4)) fun v622 v623 =>
      f_LW_law_1304 L zx k18 x3 (zst σ [(4, v623)]) τ
    else if zi_w v5 = 32 then
      zn (x3 + 1) fun v624 =>
      zg L zx v624 fun v625 =>
      zn (x3 + 2) fun v626 =>
      zg L zx v626 fun v627 =>
      zd7 (f_HS_rain v625 v627 (σ 49) (τ 38) (τ 63) (τ 64) (σ 3) (σ 30) (τ 2) (σ 61) (τ 83) (τ 84)) fun v628 v629 v630 a631 v632 a633 a634 =>
      zn (x3 + 1) fun v635 =>
      zg L zx v635 fun v636 =>
      zn (x3 + 2) fun v637 =>
      zg L zx v637 fun v638 =>
      zd9 (f_HM_rain v636 v638 (τ 4) (σ 4) (σ 5) (σ 24) (σ 25) (τ 3) (τ 16) (τ 17) (τ 33)) fun v639 v640 v641 v642 v643 a644 a645 a646 a647 =>
      f_LW_law_1304 L zx k18 x3 (zst σ [(3, v629), (4, v640), (5, v641), (24, v642), (25, v643), (30, v630), (61, v632)]) (zta τ [(2, a631), (3, a644), (16, a645), (17, a646), (33, a647), (83, a633), (84, a634)])
    else if zi_w v5 = 33 then
      zn (x3 + 1) fun v648 =>
      zg L zx v648 fun v649 =>
      zn (x3 + 2) fun v650 =>
      zg L zx v650 fun v651 =>
      zd1 (f_HS_rained v649 v651 (σ 61) (τ 83) (τ 84)) fun v652 =>
      zn (x3 + 1) fun v653 =>
      zg L zx v653 fun v654 =>
      zn (x3 + 2) fun v655 =>
      zg L zx v655 fun v656 =>
      zd2 (f_HM_rained v654 v656 (σ 25) (τ 33) (σ 4)) fun v657 v658 =>
      f_LW_law_1304 L zx k18 x3 (zst σ [(4, v658)]) τ
    else if zi_w v5 = 34 then
      zn (x3 + 1) fun v659 =>
      zg L zx v659 fun v660 =>
      zd35 (f_HS_image v660 (σ 26) (σ 27) (σ 28) (σ 29) (σ 49) (τ 34) (τ 35) (τ 36) (τ 37) (τ 38) (τ 39) (τ 40) (τ 41) (τ 63) (τ 64) (σ 3) (σ 30) (τ 0) (τ 2) (σ 50) (σ 51) (σ 52) (σ 53) (σ 55) (σ 56) (σ 57) (σ 58) (σ 62) (τ 65) (τ 66) (τ 67) (τ 68) (τ 69) (τ 70) (τ 71) (τ 72) (σ 63) (τ 73) (τ 74) (τ 75) (τ 76) (τ 77) (τ 78) (τ 79) (τ 80) (τ 85) (τ 86) (τ 87) (τ 88)) fun v661 v662 v663 a664 a665 v666 v667 v668 v669 v670 v671 v672 v673 v674 a675 a676 a677 a678 a679 a680 a681 a682 v683 a684 a685 a686 a687 a688 a689 a690 a691 a692 a693 a694 a695 =>
      zn (x3 + 1) fun v696 =>
      zg L zx v696 fun v697 =>
      zd6 (f_HM_image v697 (τ 4) (σ 4) (σ 5) (τ 3) (τ 5) (τ 6)) fun v698 v699 v700 a701 a702 a703 =>
      f_LW_law_1304 L zx k18 x3 (zst σ [(3, v662), (4, v699), (5, v700), (30, v663), (50, v666), (51, v667), (52, v668), (53, v669), (55, v670), (56, v671), (57, v672), (58, v673), (62, v674), (63, v683)]) (zta τ [(0, a664), (2, a665), (3, a701), (5, a702), (6, a703), (65, a675), (66, a676), (67, a677), (68, a678), (69, a679), (70, a680), (71, a681), (72, a682), (73, a684), (74, a685), (75, a686), (76, a687), (77, a688), (78, a689), (79, a690), (80, a691), (85, a692), (86, a693), (87, a694), (88, a695)])
    else if zi_w v5 = 35 then
      zn (x3 + 1) fun v704 =>
      zg L zx v704 fun v705 =>
      zd19 (f_HS_back v705 (τ 0) (σ 50) (σ 51) (σ 52) (σ 53) (σ 55) (σ 56) (σ 57) (σ 58) (σ 62) (τ 65) (τ 66) (τ 67) (τ 68) (τ 69) (τ 70) (τ 71) (τ 72) (σ 63) (τ 73) (τ 74) (τ 75) (τ 76) (τ 77) (τ 78) (τ 79) (τ 80) (τ 85) (τ 86) (τ 87) (τ 88) (σ 3) (σ 26) (σ 27) (σ 28) (σ 29) (σ 30) (τ 2) (σ 49) (τ 34) (τ 35) (τ 36) (τ 37) (τ 38) (τ 39) (τ 40) (τ 41) (τ 63) (τ 64)) fun v706 v707 v708 v709 v710 v711 v712 a713 v714 a715 a716 a717 a718 a719 a720 a721 a722 a723 a724 =>
      zn (x3 + 1) fun v725 =>
      zg L zx v725 fun v726 =>
      zd5 (f_HM_back v726 (τ 5) (τ 6) (σ 4) (σ 5) (τ 3) (τ 4)) fun v727 v728 v729 a730 a731 =>
      f_LW_law_1304 L zx k18 x3 (zst σ [(3, v707), (4, v728), (5, v729), (26, v708), (27, v709), (28, v710), (29, v711), (30, v712), (49, v714)]) (zta τ [(2, a713), (3, a730), (4, a731), (34, a715), (35, a716), (36, a717), (37, a718), (38, a719), (39, a720), (40, a721), (41, a722), (63, a723), (64, a724)])
    else if zi_w v5 = 36 then
      zn (x3 + 1) fun v732 =>
      zg L zx v732 fun v733 =>
      zd1 (f_HS_count v733 (σ 0) (σ 26) (σ 27) (σ 28) (σ 29) (τ 2) (σ 49) (τ 38) (τ 63)) fun v734 =>
      zn (x3 + 1) fun v735 =>
      zg L zx v735 fun v736 =>
      zd2 (f_HM_count v736 (σ 7) (τ 3) (τ 4) (σ 4)) fun v737 v738 =>
      f_LW_law_1304 L zx k18 x3 (zst σ [(4, v738)]) τ
    else if zi_w v5 = 37 then
      zd1 (f_HS_status (σ 3)) fun v739 =>
      zd2 (f_HM_status (σ 5) (σ 4)) fun v740 v741 =>
      f_LW_law_1304 L zx k18 x3 (zst σ [(4, v741)]) τ
    else
      f_LW_law_1304 L zx k18 x3 σ τ
noncomputable def f_LW_law_18 (L : Nat) (zx : Nat → Int)  : Nat → Int → (Nat → Int) → (Nat → Nat → Int) → Option (Int)
  | 0 => fun _ _ _ => none
  | n + 1 => fun y0 y1 y2 => f_LW_law_18_b L zx  (f_LW_law_18 L zx n) y0 y1 y2
noncomputable def ga_LW_law_200 (L : Nat) (zx : Nat → Int) (k18 : Int → (Nat → Int) → (Nat → Nat → Int) → Option (Int)) (x3 : Int) (σ : Nat → Int) (τ : Nat → Nat → Int) : Option (Int) :=
  zd7 (f_HS_column (σ 3) (σ 30) (τ 2) (σ 49) (τ 39) (τ 63)) fun v1 v2 v3 a4 v5 a6 a7 =>
  zd5 (f_HM_column (σ 4) (σ 5) (τ 3) (τ 4)) fun v8 v9 v10 a11 a12 =>
  f_LW_law_1304 L zx k18 x3 (zst σ [(3, v2), (4, v9), (5, v10), (30, v3), (49, v5)]) (zta τ [(2, a4), (3, a11), (4, a12), (39, a6), (63, a7)])
noncomputable def ga_LW_law_213 (L : Nat) (zx : Nat → Int) (k18 : Int → (Nat → Int) → (Nat → Nat → Int) → Option (Int)) (x3 : Int) (σ : Nat → Int) (τ : Nat → Nat → Int) : Option (Int) :=
  zn (x3 + 1) fun v1 =>
  zg L zx v1 fun v2 =>
  zn (x3 + 2) fun v3 =>
  zg L zx v3 fun v4 =>
  zd6 (f_HS_stone v2 v4 (σ 49) (σ 3) (σ 30) (τ 2) (τ 63) (τ 64)) fun v5 v6 v7 a8 a9 a10 =>
  zn (x3 + 1) fun v11 =>
  zg L zx v11 fun v12 =>
  zn (x3 + 2) fun v13 =>
  zg L zx v13 fun v14 =>
  zd5 (f_HM_stone v12 v14 (σ 4) (σ 5) (τ 3) (τ 4)) fun v15 v16 v17 a18 a19 =>
  f_LW_law_1304 L zx k18 x3 (zst σ [(3, v6), (4, v16), (5, v17), (30, v7)]) (zta τ [(2, a8), (3, a18), (4, a19), (63, a9), (64, a10)])
noncomputable def ga_LW_law_246 (L : Nat) (zx : Nat → Int) (k18 : Int → (Nat → Int) → (Nat → Nat → Int) → Option (Int)) (x3 : Int) (σ : Nat → Int) (τ : Nat → Nat → Int) : Option (Int) :=
  zn (x3 + 1) fun v1 =>
  zg L zx v1 fun v2 =>
  zd5 (f_HS_lift v2 (σ 49) (τ 64) (σ 3) (σ 30) (τ 2) (τ 63)) fun v3 v4 v5 a6 a7 =>
  zn (x3 + 1) fun v8 =>
  zg L zx v8 fun v9 =>
  zd5 (f_HM_lift v9 (σ 4) (σ 5) (τ 3) (τ 4)) fun v10 v11 v12 a13 a14 =>
  f_LW_law_1304 L zx k18 x3 (zst σ [(3, v4), (4, v11), (5, v12), (30, v5)]) (zta τ [(2, a6), (3, a13), (4, a14), (63, a7)])
noncomputable def ga_LW_law_269 (L : Nat) (zx : Nat → Int) (k18 : Int → (Nat → Int) → (Nat → Nat → Int) → Option (Int)) (x3 : Int) (σ : Nat → Int) (τ : Nat → Nat → Int) : Option (Int) :=
  zn (x3 + 1) fun v1 =>
  zg L zx v1 fun v2 =>
  zn (x3 + 2) fun v3 =>
  zg L zx v3 fun v4 =>
  zd1 (f_HS_of v2 v4 (σ 49) (τ 63) (τ 64)) fun v5 =>
  zn (x3 + 1) fun v6 =>
  zg L zx v6 fun v7 =>
  zn (x3 + 2) fun v8 =>
  zg L zx v8 fun v9 =>
  zd2 (f_HM_of v7 v9 (τ 4) (σ 4)) fun v10 v11 =>
  f_LW_law_1304 L zx k18 x3 (zst σ [(4, v11)]) τ
noncomputable def ga_LW_law_302 (L : Nat) (zx : Nat → Int) (k18 : Int → (Nat → Int) → (Nat → Nat → Int) → Option (Int)) (x3 : Int) (σ : Nat → Int) (τ : Nat → Nat → Int) : Option (Int) :=
  zn (x3 + 1) fun v1 =>
  zg L zx v1 fun v2 =>
  zd1 (f_HS_weight v2 (σ 49) (τ 63) (τ 64)) fun v3 =>
  zn (x3 + 1) fun v4 =>
  zg L zx v4 fun v5 =>
  zd2 (f_HM_weight v5 (τ 4) (σ 4)) fun v6 v7 =>
  f_LW_law_1304 L zx k18 x3 (zst σ [(4, v7)]) τ
noncomputable def ga_LW_law_325 (L : Nat) (zx : Nat → Int) (k18 : Int → (Nat → Int) → (Nat → Nat → Int) → Option (Int)) (x3 : Int) (σ : Nat → Int) (τ : Nat → Nat → Int) : Option (Int) :=
  zn (x3 + 1) fun v1 =>
  zg L zx v1 fun v2 =>
  zd8 (f_HS_child v2 (σ 3) (σ 26) (σ 30) (τ 2) (τ 34) (τ 35) (τ 36)) fun v3 v4 v5 v6 a7 a8 a9 a10 =>
  zn (x3 + 1) fun v11 =>
  zg L zx v11 fun v12 =>
  zd5 (f_HM_child v12 (σ 4) (σ 5) (τ 3) (τ 4)) fun v13 v14 v15 a16 a17 =>
  f_LW_law_1304 L zx k18 x3 (zst σ [(3, v4), (4, v14), (5, v15), (26, v5), (30, v6)]) (zta τ [(2, a7), (3, a16), (4, a17), (34, a8), (35, a9), (36, a10)])
noncomputable def ga_LW_law_348 (L : Nat) (zx : Nat → Int) (k18 : Int → (Nat → Int) → (Nat → Nat → Int) → Option (Int)) (x3 : Int) (σ : Nat → Int) (τ : Nat → Nat → Int) : Option (Int) :=
  zn (x3 + 1) fun v1 =>
  zg L zx v1 fun v2 =>
  zn (x3 + 2) fun v3 =>
  zg L zx v3 fun v4 =>
  zd5 (f_HS_expel v2 v4 (σ 26) (σ 3) (σ 30) (τ 2) (τ 35)) fun v5 v6 v7 a8 a9 =>
  zn (x3 + 1) fun v10 =>
  zg L zx v10 fun v11 =>
  zn (x3 + 2) fun v12 =>
  zg L zx v12 fun v13 =>
  zd5 (f_HM_expel v11 v13 (σ 4) (σ 5) (τ 3) (τ 4)) fun v14 v15 v16 a17 a18 =>
  f_LW_law_1304 L zx k18 x3 (zst σ [(3, v6), (4, v15), (5, v16), (30, v7)]) (zta τ [(2, a8), (3, a17), (4, a18), (35, a9)])
noncomputable def ga_LW_law_381 (L : Nat) (zx : Nat → Int) (k18 : Int → (Nat → Int) → (Nat → Nat → Int) → Option (Int)) (x3 : Int) (σ : Nat → Int) (τ : Nat → Nat → Int) : Option (Int) :=
  zn (x3 + 1) fun v1 =>
  zg L zx v1 fun v2 =>
  zn (x3 + 2) fun v3 =>
  zg L zx v3 fun v4 =>
  zd1 (f_HS_fact v2 v4 (σ 26) (τ 34) (τ 35) (τ 36)) fun v5 =>
  zn (x3 + 1) fun v6 =>
  zg L zx v6 fun v7 =>
  zn (x3 + 2) fun v8 =>
  zg L zx v8 fun v9 =>
  zd2 (f_HM_fact v7 v9 (τ 4) (σ 4)) fun v10 v11 =>
  f_LW_law_1304 L zx k18 x3 (zst σ [(4, v11)]) τ
noncomputable def ga_LW_law_414 (L : Nat) (zx : Nat → Int) (k18 : Int → (Nat → Int) → (Nat → Nat → Int) → Option (Int)) (x3 : Int) (σ : Nat → Int) (τ : Nat → Nat → Int) : Option (Int) :=
  zn (x3 + 1) fun v1 =>
  zg L zx v1 fun v2 =>
  zd6 (f_HS_parish v2 (σ 49) (σ 3) (σ 27) (σ 30) (τ 2) (τ 37)) fun v3 v4 v5 v6 a7 a8 =>
  zn (x3 + 1) fun v9 =>
  zg L zx v9 fun v10 =>
  zd5 (f_HM_parish v10 (σ 4) (σ 5) (τ 3) (τ 4)) fun v11 v12 v13 a14 a15 =>
  f_LW_law_1304 L zx k18 x3 (zst σ [(3, v4), (4, v12), (5, v13), (27, v5), (30, v6)]) (zta τ [(2, a7), (3, a14), (4, a15), (37, a8)])
noncomputable def ga_LW_law_437 (L : Nat) (zx : Nat → Int) (k18 : Int → (Nat → Int) → (Nat → Nat → Int) → Option (Int)) (x3 : Int) (σ : Nat → Int) (τ : Nat → Nat → Int) : Option (Int) :=
  zn (x3 + 1) fun v1 =>
  zg L zx v1 fun v2 =>
  zn (x3 + 2) fun v3 =>
  zg L zx v3 fun v4 =>
  zd5 (f_HS_terms v2 v4 (σ 3) (σ 30) (τ 2) (τ 38)) fun v5 v6 v7 a8 a9 =>
  zn (x3 + 1) fun v10 =>
  zg L zx v10 fun v11 =>
  zn (x3 + 2) fun v12 =>
  zg L zx v12 fun v13 =>
  zd5 (f_HM_terms v11 v13 (σ 4) (σ 5) (τ 3) (τ 4)) fun v14 v15 v16 a17 a18 =>
  f_LW_law_1304 L zx k18 x3 (zst σ [(3, v6), (4, v15), (5, v16), (30, v7)]) (zta τ [(2, a8), (3, a17), (4, a18), (38, a9)])
noncomputable def ga_LW_law_470 (L : Nat) (zx : Nat → Int) (k18 : Int → (Nat → Int) → (Nat → Nat → Int) → Option (Int)) (x3 : Int) (σ : Nat → Int) (τ : Nat → Nat → Int) : Option (Int) :=
  zn (x3 + 1) fun v1 =>
  zg L zx v1 fun v2 =>
  zn (x3 + 2) fun v3 =>
  zg L zx v3 fun v4 =>
  zn (x3 + 3) fun v5 =>
  zg L zx v5 fun v6 =>
  zn (x3 + 4) fun v7 =>
  zg L zx v7 fun v8 =>
  zn (x3 + 5) fun v9 =>
  zg L zx v9 fun v10 =>
  zd3 (f_HS_feed v2 v4 v6 v8 v10 (σ 0) (τ 1)) fun v11 v12 a13 =>
  zn (x3 + 1) fun v14 =>
  zg L zx v14 fun v15 =>
  zn (x3 + 2) fun v16 =>
  zg L zx v16 fun v17 =>
  zn (x3 + 3) fun v18 =>
  zg L zx v18 fun v19 =>
  zn (x3 + 4) fun v20 =>
  zg L zx v20 fun v21 =>
  zn (x3 + 5) fun v22 =>
  zg L zx v22 fun v23 =>
  zd4 (f_HM_feed v15 v17 v19 v21 v23 (σ 4) (σ 7) (τ 7)) fun v24 v25 v26 a27 =>
  f_LW_law_1304 L zx k18 x3 (zst σ [(0, v12), (4, v25), (7, v26)]) (zta τ [(1, a13), (7, a27)])
noncomputable def ga_LW_law_533 (L : Nat) (zx : Nat → Int) (k18 : Int → (Nat → Int) → (Nat → Nat → Int) → Option (Int)) (x3 : Int) (σ : Nat → Int) (τ : Nat → Nat → Int) : Option (Int) :=
  zn (x3 + 1) fun v1 =>
  zg L zx v1 fun v2 =>
  zd2 (f_HS_end v2 (σ 0)) fun v3 v4 =>
  zn (x3 + 1) fun v5 =>
  zg L zx v5 fun v6 =>
  zd3 (f_HM_end v6 (σ 4) (σ 7)) fun v7 v8 v9 =>
  f_LW_law_1304 L zx k18 x3 (zst σ [(0, v4), (4, v8), (7, v9)]) τ
noncomputable def ga_LW_law_556 (L : Nat) (zx : Nat → Int) (k18 : Int → (Nat → Int) → (Nat → Nat → Int) → Option (Int)) (x3 : Int) (σ : Nat → Int) (τ : Nat → Nat → Int) : Option (Int) :=
  zd8 (f_HS_row (τ 1) (σ 49) (σ 0) (σ 2) (σ 3) (σ 30) (τ 2) (τ 63) (τ 64)) fun v1 v2 v3 v4 v5 a6 a7 a8 =>
  zd7 (f_HM_row (τ 7) (σ 4) (σ 5) (σ 6) (σ 7) (τ 3) (τ 4)) fun v9 v10 v11 v12 v13 a14 a15 =>
  if zi_w v1 = zi_w v9 then
    f_LW_law_1304 L zx k18 x3 (zst σ [(0, v2), (2, v3), (3, v4), (4, v10), (5, v11), (6, v12), (7, v13), (30, v5)]) (zta τ [(2, a6), (3, a14), (4, a15), (63, a7), (64, a8)])
  else
    some 0
noncomputable def ga_LW_law_569 (L : Nat) (zx : Nat → Int) (k18 : Int → (Nat → Int) → (Nat → Nat → Int) → Option (Int)) (x3 : Int) (σ : Nat → Int) (τ : Nat → Nat → Int) : Option (Int) :=
  zd1 (f_HS_gravel (σ 2)) fun v1 =>
  zd2 (f_HM_gravel (σ 6) (σ 4)) fun v2 v3 =>
  f_LW_law_1304 L zx k18 x3 (zst σ [(4, v3)]) τ
noncomputable def ga_LW_law_582 (L : Nat) (zx : Nat → Int) (k18 : Int → (Nat → Int) → (Nat → Nat → Int) → Option (Int)) (x3 : Int) (σ : Nat → Int) (τ : Nat → Nat → Int) : Option (Int) :=
  zd16 (f_HS_law (τ 1) (σ 0) (σ 1) (σ 3) (σ 28) (σ 30) (τ 2) (σ 31) (σ 32) (σ 33) (τ 40) (τ 41) (τ 42) (τ 43) (τ 44) (τ 45)) fun v1 v2 v3 v4 v5 v6 a7 v8 v9 v10 a11 a12 a13 a14 a15 a16 =>
  zd22 (f_HM_law (τ 7) (τ 13) (σ 4) (σ 5) (σ 7) (σ 8) (σ 9) (σ 10) (σ 11) (σ 12) (σ 13) (σ 14) (σ 15) (σ 16) (σ 17) (σ 18) (τ 3) (τ 4) (τ 8) (τ 9) (τ 10) (τ 11) (τ 12)) fun v17 v18 v19 v20 v21 v22 v23 v24 v25 v26 v27 v28 v29 v30 v31 a32 a33 a34 a35 a36 a37 a38 =>
  f_LW_law_1304 L zx k18 x3 (zst σ [(0, v2), (1, v3), (3, v4), (4, v18), (5, v19), (7, v20), (8, v21), (9, v22), (10, v23), (11, v24), (12, v25), (13, v26), (14, v27), (15, v28), (16, v29), (17, v30), (18, v31), (28, v5), (30, v6), (31, v8), (32, v9), (33, v10)]) (zta τ [(2, a7), (3, a32), (4, a33), (8, a34), (9, a35), (10, a36), (11, a37), (12, a38), (40, a11), (41, a12), (42, a13), (43, a14), (44, a15), (45, a16)])
noncomputable def ga_LW_law_595 (L : Nat) (zx : Nat → Int) (k18 : Int → (Nat → Int) → (Nat → Nat → Int) → Option (Int)) (x3 : Int) (σ : Nat → Int) (τ : Nat → Nat → Int) : Option (Int) :=
  zd1 (f_HS_fault (σ 1)) fun v1 =>
  zd2 (f_HM_fault (σ 12) (σ 4)) fun v2 v3 =>
  f_LW_law_1304 L zx k18 x3 (zst σ [(4, v3)]) τ
noncomputable def ga_LW_law_608 (L : Nat) (zx : Nat → Int) (k18 : Int → (Nat → Int) → (Nat → Nat → Int) → Option (Int)) (x3 : Int) (σ : Nat → Int) (τ : Nat → Nat → Int) : Option (Int) :=
  zn (x3 + 1) fun v1 =>
  zg L zx v1 fun v2 =>
  zd5 (f_HS_force v2 (σ 28) (σ 3) (σ 29) (σ 30) (τ 2)) fun v3 v4 v5 v6 a7 =>
  zn (x3 + 1) fun v8 =>
  zg L zx v8 fun v9 =>
  zd5 (f_HM_force v9 (σ 4) (σ 5) (τ 3) (τ 4)) fun v10 v11 v12 a13 a14 =>
  f_LW_law_1304 L zx k18 x3 (zst σ [(3, v4), (4, v11), (5, v12), (29, v5), (30, v6)]) (zta τ [(2, a7), (3, a13), (4, a14)])
noncomputable def ga_LW_law_631 (L : Nat) (zx : Nat → Int) (k18 : Int → (Nat → Int) → (Nat → Nat → Int) → Option (Int)) (x3 : Int) (σ : Nat → Int) (τ : Nat → Nat → Int) : Option (Int) :=
  zn (x3 + 1) fun v1 =>
  zg L zx v1 fun v2 =>
  zn (x3 + 2) fun v3 =>
  zg L zx v3 fun v4 =>
  zn (x3 + 3) fun v5 =>
  zg L zx v5 fun v6 =>
  zd6 (f_HS_can v2 v4 v6 (σ 26) (σ 28) (σ 29) (σ 49) (τ 34) (τ 35) (τ 38) (τ 40) (τ 41) (τ 63) (τ 64) (σ 34) (σ 35) (σ 36) (τ 46) (τ 47)) fun v7 v8 v9 v10 a11 a12 =>
  zn (x3 + 1) fun v13 =>
  zg L zx v13 fun v14 =>
  zn (x3 + 2) fun v15 =>
  zg L zx v15 fun v16 =>
  zn (x3 + 3) fun v17 =>
  zg L zx v17 fun v18 =>
  zd10 (f_HM_can v14 v16 v18 (τ 4) (σ 4) (σ 19) (σ 20) (σ 21) (σ 22) (τ 14) (τ 15) (τ 16) (τ 17)) fun v19 v20 v21 v22 v23 v24 a25 a26 a27 a28 =>
  f_LW_law_1304 L zx k18 x3 (zst σ [(4, v20), (19, v21), (20, v22), (21, v23), (22, v24), (34, v8), (35, v9), (36, v10)]) (zta τ [(14, a25), (15, a26), (16, a27), (17, a28), (46, a11), (47, a12)])
noncomputable def ga_LW_law_674 (L : Nat) (zx : Nat → Int) (k18 : Int → (Nat → Int) → (Nat → Nat → Int) → Option (Int)) (x3 : Int) (σ : Nat → Int) (τ : Nat → Nat → Int) : Option (Int) :=
  zn (x3 + 1) fun v1 =>
  zg L zx v1 fun v2 =>
  zn (x3 + 2) fun v3 =>
  zg L zx v3 fun v4 =>
  zn (x3 + 3) fun v5 =>
  zg L zx v5 fun v6 =>
  zd6 (f_HS_tires v2 v4 v6 (σ 26) (σ 28) (σ 29) (σ 49) (τ 34) (τ 35) (τ 38) (τ 40) (τ 41) (τ 63) (τ 64) (σ 34) (σ 35) (σ 36) (τ 46) (τ 47)) fun v7 v8 v9 v10 a11 a12 =>
  zn (x3 + 1) fun v13 =>
  zg L zx v13 fun v14 =>
  zn (x3 + 2) fun v15 =>
  zg L zx v15 fun v16 =>
  zn (x3 + 3) fun v17 =>
  zg L zx v17 fun v18 =>
  zd10 (f_HM_tires v14 v16 v18 (τ 4) (σ 4) (σ 19) (σ 20) (σ 21) (σ 22) (τ 14) (τ 15) (τ 16) (τ 17)) fun v19 v20 v21 v22 v23 v24 a25 a26 a27 a28 =>
  f_LW_law_1304 L zx k18 x3 (zst σ [(4, v20), (19, v21), (20, v22), (21, v23), (22, v24), (34, v8), (35, v9), (36, v10)]) (zta τ [(14, a25), (15, a26), (16, a27), (17, a28), (46, a11), (47, a12)])
noncomputable def ga_LW_law_717 (L : Nat) (zx : Nat → Int) (k18 : Int → (Nat → Int) → (Nat → Nat → Int) → Option (Int)) (x3 : Int) (σ : Nat → Int) (τ : Nat → Nat → Int) : Option (Int) :=
  zn (x3 + 1) fun v1 =>
  zg L zx v1 fun v2 =>
  zn (x3 + 2) fun v3 =>
  zg L zx v3 fun v4 =>
  zn (x3 + 3) fun v5 =>
  zg L zx v5 fun v6 =>
  zd11 (f_HS_carry v2 v4 v6 (σ 26) (σ 28) (σ 29) (σ 49) (τ 34) (τ 35) (τ 38) (τ 40) (τ 41) (σ 3) (σ 30) (τ 2) (σ 34) (σ 35) (σ 36) (τ 46) (τ 47) (τ 63) (τ 64)) fun v7 v8 v9 a10 v11 v12 v13 a14 a15 a16 a17 =>
  zn (x3 + 1) fun v18 =>
  zg L zx v18 fun v19 =>
  zn (x3 + 2) fun v20 =>
  zg L zx v20 fun v21 =>
  zn (x3 + 3) fun v22 =>
  zg L zx v22 fun v23 =>
  zd13 (f_HM_carry v19 v21 v23 (σ 4) (σ 5) (σ 19) (σ 20) (σ 21) (σ 22) (τ 3) (τ 4) (τ 14) (τ 15) (τ 16) (τ 17)) fun v24 v25 v26 v27 v28 v29 v30 a31 a32 a33 a34 a35 a36 =>
  f_LW_law_1304 L zx k18 x3 (zst σ [(3, v8), (4, v25), (5, v26), (19, v27), (20, v28), (21, v29), (22, v30), (30, v9), (34, v11), (35, v12), (36, v13)]) (zta τ [(2, a10), (3, a31), (4, a32), (14, a33), (15, a34), (16, a35), (17, a36), (46, a14), (47, a15), (63, a16), (64, a17)])
noncomputable def ga_LW_law_760 (L : Nat) (zx : Nat → Int) (k18 : Int → (Nat → Int) → (Nat → Nat → Int) → Option (Int)) (x3 : Int) (σ : Nat → Int) (τ : Nat → Nat → Int) : Option (Int) :=
  zn (x3 + 1) fun v1 =>
  zg L zx v1 fun v2 =>
  zn (x3 + 2) fun v3 =>
  zg L zx v3 fun v4 =>
  zn (x3 + 3) fun v5 =>
  zg L zx v5 fun v6 =>
  zn (x3 + 4) fun v7 =>
  zg L zx v7 fun v8 =>
  zd11 (f_HS_exchange v2 v4 v6 v8 (σ 26) (σ 28) (σ 29) (σ 49) (τ 34) (τ 35) (τ 38) (τ 40) (τ 41) (σ 3) (σ 30) (τ 2) (σ 34) (σ 35) (σ 36) (τ 46) (τ 47) (τ 63) (τ 64)) fun v9 v10 v11 a12 v13 v14 v15 a16 a17 a18 a19 =>
  zn (x3 + 1) fun v20 =>
  zg L zx v20 fun v21 =>
  zn (x3 + 2) fun v22 =>
  zg L zx v22 fun v23 =>
  zn (x3 + 3) fun v24 =>
  zg L zx v24 fun v25 =>
  zn (x3 + 4) fun v26 =>
  zg L zx v26 fun v27 =>
  zd13 (f_HM_exchange v21 v23 v25 v27 (σ 4) (σ 5) (σ 19) (σ 20) (σ 21) (σ 22) (τ 3) (τ 4) (τ 14) (τ 15) (τ 16) (τ 17)) fun v28 v29 v30 v31 v32 v33 v34 a35 a36 a37 a38 a39 a40 =>
  f_LW_law_1304 L zx k18 x3 (zst σ [(3, v10), (4, v29), (5, v30), (19, v31), (20, v32), (21, v33), (22, v34), (30, v11), (34, v13), (35, v14), (36, v15)]) (zta τ [(2, a12), (3, a35), (4, a36), (14, a37), (15, a38), (16, a39), (17, a40), (46, a16), (47, a17), (63, a18), (64, a19)])
noncomputable def ga_LW_law_813 (L : Nat) (zx : Nat → Int) (k18 : Int → (Nat → Int) → (Nat → Nat → Int) → Option (Int)) (x3 : Int) (σ : Nat → Int) (τ : Nat → Nat → Int) : Option (Int) :=
  zd1 (f_HS_steep (σ 49) (τ 38) (τ 63)) fun v1 =>
  zd4 (f_HM_steep (τ 4) (σ 4) (τ 16) (τ 17)) fun v2 v3 a4 a5 =>
  f_LW_law_1304 L zx k18 x3 (zst σ [(4, v3)]) (zta τ [(16, a4), (17, a5)])
noncomputable def ga_LW_law_826 (L : Nat) (zx : Nat → Int) (k18 : Int → (Nat → Int) → (Nat → Nat → Int) → Option (Int)) (x3 : Int) (σ : Nat → Int) (τ : Nat → Nat → Int) : Option (Int) :=
  zd4 (f_HS_slide (σ 49) (τ 38) (σ 30) (τ 63) (τ 64)) fun v1 v2 a3 a4 =>
  zd5 (f_HM_slide (σ 4) (τ 4) (τ 16) (τ 17)) fun v5 v6 a7 a8 a9 =>
  f_LW_law_1304 L zx k18 x3 (zst σ [(4, v6), (30, v2)]) (zta τ [(4, a7), (16, a8), (17, a9), (63, a3), (64, a4)])
noncomputable def ga_LW_law_839 (L : Nat) (zx : Nat → Int) (k18 : Int → (Nat → Int) → (Nat → Nat → Int) → Option (Int)) (x3 : Int) (σ : Nat → Int) (τ : Nat → Nat → Int) : Option (Int) :=
  zn (x3 + 1) fun v1 =>
  zg L zx v1 fun v2 =>
  zd1 (f_HS_shade v2 (σ 27) (σ 49) (τ 37) (τ 38) (τ 63)) fun v3 =>
  zn (x3 + 1) fun v4 =>
  zg L zx v4 fun v5 =>
  zd4 (f_HM_shade v5 (τ 4) (σ 4) (τ 16) (τ 17)) fun v6 v7 a8 a9 =>
  f_LW_law_1304 L zx k18 x3 (zst σ [(4, v7)]) (zta τ [(16, a8), (17, a9)])
noncomputable def ga_LW_law_862 (L : Nat) (zx : Nat → Int) (k18 : Int → (Nat → Int) → (Nat → Nat → Int) → Option (Int)) (x3 : Int) (σ : Nat → Int) (τ : Nat → Nat → Int) : Option (Int) :=
  zn (x3 + 1) fun v1 =>
  zg L zx v1 fun v2 =>
  zn (x3 + 2) fun v3 =>
  zg L zx v3 fun v4 =>
  zn (x3 + 3) fun v5 =>
  zg L zx v5 fun v6 =>
  zn (x3 + 4) fun v7 =>
  zg L zx v7 fun v8 =>
  zd8 (f_HS_gains v2 v4 v6 v8 (σ 26) (σ 27) (σ 28) (σ 29) (σ 49) (τ 34) (τ 35) (τ 37) (τ 38) (τ 40) (τ 41) (σ 34) (σ 35) (σ 36) (τ 46) (τ 47) (τ 63) (τ 64)) fun v9 v10 v11 v12 a13 a14 a15 a16 =>
  zn (x3 + 1) fun v17 =>
  zg L zx v17 fun v18 =>
  zn (x3 + 2) fun v19 =>
  zg L zx v19 fun v20 =>
  zn (x3 + 3) fun v21 =>
  zg L zx v21 fun v22 =>
  zn (x3 + 4) fun v23 =>
  zg L zx v23 fun v24 =>
  zd10 (f_HM_gains v18 v20 v22 v24 (τ 4) (σ 4) (σ 19) (σ 20) (σ 21) (σ 22) (τ 14) (τ 15) (τ 16) (τ 17)) fun v25 v26 v27 v28 v29 v30 a31 a32 a33 a34 =>
  f_LW_law_1304 L zx k18 x3 (zst σ [(4, v26), (19, v27), (20, v28), (21, v29), (22, v30), (34, v10), (35, v11), (36, v12)]) (zta τ [(14, a31), (15, a32), (16, a33), (17, a34), (46, a13), (47, a14), (63, a15), (64, a16)])
noncomputable def ga_LW_law_915 (L : Nat) (zx : Nat → Int) (k18 : Int → (Nat → Int) → (Nat → Nat → Int) → Option (Int)) (x3 : Int) (σ : Nat → Int) (τ : Nat → Nat → Int) : Option (Int) :=
  zn (x3 + 1) fun v1 =>
  zg L zx v1 fun v2 =>
  zn (x3 + 2) fun v3 =>
  zg L zx v3 fun v4 =>
  zd5 (f_HS_goal v2 v4 (σ 49) (σ 3) (σ 30) (τ 2) (τ 39)) fun v5 v6 v7 a8 a9 =>
  zn (x3 + 1) fun v10 =>
  zg L zx v10 fun v11 =>
  zn (x3 + 2) fun v12 =>
  zg L zx v12 fun v13 =>
  zd5 (f_HM_goal v11 v13 (σ 4) (σ 5) (τ 3) (τ 4)) fun v14 v15 v16 a17 a18 =>
  f_LW_law_1304 L zx k18 x3 (zst σ [(3, v6), (4, v15), (5, v16), (30, v7)]) (zta τ [(2, a8), (3, a17), (4, a18), (39, a9)])
noncomputable def ga_LW_law_948 (L : Nat) (zx : Nat → Int) (k18 : Int → (Nat → Int) → (Nat → Nat → Int) → Option (Int)) (x3 : Int) (σ : Nat → Int) (τ : Nat → Nat → Int) : Option (Int) :=
  zn (x3 + 1) fun v1 =>
  zg L zx v1 fun v2 =>
  zn (x3 + 2) fun v3 =>
  zg L zx v3 fun v4 =>
  zn (x3 + 3) fun v5 =>
  zg L zx v5 fun v6 =>
  zd32 (f_HS_plan v2 v4 v6 (σ 26) (σ 28) (σ 29) (σ 30) (σ 49) (τ 34) (τ 35) (τ 38) (τ 39) (τ 40) (τ 41) (τ 63) (τ 64) (σ 34) (σ 35) (σ 36) (σ 37) (σ 38) (σ 39) (τ 46) (τ 47) (τ 48) (τ 49) (τ 50) (τ 51) (τ 52) (τ 53) (τ 54) (τ 55) (τ 56) (τ 57) (τ 58) (σ 64) (σ 65) (σ 66) (σ 67) (σ 68) (σ 69) (σ 70) (σ 71) (σ 72) (τ 89) (τ 90) (τ 91)) fun v7 v8 v9 v10 v11 v12 v13 a14 a15 a16 a17 a18 a19 a20 a21 a22 a23 a24 a25 a26 v27 v28 v29 v30 v31 v32 v33 v34 v35 a36 a37 a38 =>
  zn (x3 + 1) fun v39 =>
  zg L zx v39 fun v40 =>
  zn (x3 + 2) fun v41 =>
  zg L zx v41 fun v42 =>
  zn (x3 + 3) fun v43 =>
  zg L zx v43 fun v44 =>
  zd19 (f_HM_plan v40 v42 v44 (τ 4) (σ 4) (σ 19) (σ 20) (σ 21) (σ 22) (σ 23) (τ 14) (τ 15) (τ 18) (τ 19) (τ 20) (τ 21) (τ 22) (τ 23) (τ 24) (τ 25) (τ 26) (τ 27)) fun v45 v46 v47 v48 v49 v50 v51 a52 a53 a54 a55 a56 a57 a58 a59 a60 a61 a62 a63 =>
  f_LW_law_1304 L zx k18 x3 (zst σ [(4, v46), (19, v47), (20, v48), (21, v49), (22, v50), (23, v51), (34, v8), (35, v9), (36, v10), (37, v11), (38, v12), (39, v13), (64, v27), (65, v28), (66, v29), (67, v30), (68, v31), (69, v32), (70, v33), (71, v34), (72, v35)]) (zta τ [(14, a52), (15, a53), (18, a54), (19, a55), (20, a56), (21, a57), (22, a58), (23, a59), (24, a60), (25, a61), (26, a62), (27, a63), (46, a14), (47, a15), (48, a16), (49, a17), (50, a18), (51, a19), (52, a20), (53, a21), (54, a22), (55, a23), (56, a24), (57, a25), (58, a26), (89, a36), (90, a37), (91, a38)])
noncomputable def ga_LW_law_991 (L : Nat) (zx : Nat → Int) (k18 : Int → (Nat → Int) → (Nat → Nat → Int) → Option (Int)) (x3 : Int) (σ : Nat → Int) (τ : Nat → Nat → Int) : Option (Int) :=
  zn (x3 + 1) fun v1 =>
  zg L zx v1 fun v2 =>
  zd3 (f_HS_weighs v2 (σ 30) (σ 49) (τ 63) (τ 64) (σ 44) (τ 61)) fun v3 v4 a5 =>
  zn (x3 + 1) fun v6 =>
  zg L zx v6 fun v7 =>
  zd3 (f_HM_weighs v7 (τ 4) (σ 4) (τ 28)) fun v8 v9 a10 =>
  f_LW_law_1304 L zx k18 x3 (zst σ [(4, v9), (44, v4)]) (zta τ [(28, a10), (61, a5)])
noncomputable def ga_LW_law_1014 (L : Nat) (zx : Nat → Int) (k18 : Int → (Nat → Int) → (Nat → Nat → Int) → Option (Int)) (x3 : Int) (σ : Nat → Int) (τ : Nat → Nat → Int) : Option (Int) :=
  zn (x3 + 1) fun v1 =>
  zg L zx v1 fun v2 =>
  zn (x3 + 2) fun v3 =>
  zg L zx v3 fun v4 =>
  zd5 (f_HS_trips v2 v4 (σ 26) (σ 3) (σ 30) (τ 2) (τ 36)) fun v5 v6 v7 a8 a9 =>
  zn (x3 + 1) fun v10 =>
  zg L zx v10 fun v11 =>
  zn (x3 + 2) fun v12 =>
  zg L zx v12 fun v13 =>
  zd5 (f_HM_trips v11 v13 (σ 4) (σ 5) (τ 3) (τ 4)) fun v14 v15 v16 a17 a18 =>
  f_LW_law_1304 L zx k18 x3 (zst σ [(3, v6), (4, v15), (5, v16), (30, v7)]) (zta τ [(2, a8), (3, a17), (4, a18), (36, a9)])
noncomputable def ga_LW_law_1047 (L : Nat) (zx : Nat → Int) (k18 : Int → (Nat → Int) → (Nat → Nat → Int) → Option (Int)) (x3 : Int) (σ : Nat → Int) (τ : Nat → Nat → Int) : Option (Int) :=
  zn (x3 + 1) fun v1 =>
  zg L zx v1 fun v2 =>
  zn (x3 + 2) fun v3 =>
  zg L zx v3 fun v4 =>
  zn (x3 + 3) fun v5 =>
  zg L zx v5 fun v6 =>
  zd6 (f_HS_culprits v2 v4 v6 (σ 26) (τ 36) (σ 45) (σ 46) (σ 47) (σ 48) (τ 62)) fun v7 v8 v9 v10 v11 a12 =>
  zn (x3 + 1) fun v13 =>
  zg L zx v13 fun v14 =>
  zn (x3 + 2) fun v15 =>
  zg L zx v15 fun v16 =>
  zn (x3 + 3) fun v17 =>
  zg L zx v17 fun v18 =>
  zd3 (f_HM_culprits v14 v16 v18 (τ 4) (σ 4) (τ 29)) fun v19 v20 a21 =>
  f_LW_law_1304 L zx k18 x3 (zst σ [(4, v20), (45, v8), (46, v9), (47, v10), (48, v11)]) (zta τ [(29, a21), (62, a12)])
noncomputable def ga_LW_law_1090 (L : Nat) (zx : Nat → Int) (k18 : Int → (Nat → Int) → (Nat → Nat → Int) → Option (Int)) (x3 : Int) (σ : Nat → Int) (τ : Nat → Nat → Int) : Option (Int) :=
  zn (x3 + 1) fun v1 =>
  zg L zx v1 fun v2 =>
  zn (x3 + 2) fun v3 =>
  zg L zx v3 fun v4 =>
  zn (x3 + 3) fun v5 =>
  zg L zx v5 fun v6 =>
  zd16 (f_HS_duel v2 v4 v6 (σ 26) (σ 27) (σ 28) (σ 29) (σ 30) (σ 49) (τ 34) (τ 35) (τ 37) (τ 38) (τ 40) (τ 41) (τ 63) (τ 64) (σ 34) (σ 35) (σ 36) (σ 40) (σ 41) (σ 42) (σ 43) (τ 46) (τ 47) (τ 48) (σ 60) (τ 59) (τ 60) (τ 81) (τ 82)) fun v7 v8 v9 v10 v11 v12 v13 v14 a15 a16 a17 v18 a19 a20 a21 a22 =>
  zn (x3 + 1) fun v23 =>
  zg L zx v23 fun v24 =>
  zn (x3 + 2) fun v25 =>
  zg L zx v25 fun v26 =>
  zn (x3 + 3) fun v27 =>
  zg L zx v27 fun v28 =>
  zd13 (f_HM_duel v24 v26 v28 (τ 4) (σ 4) (σ 19) (σ 20) (σ 21) (σ 22) (τ 14) (τ 15) (τ 16) (τ 17) (τ 30) (τ 31) (τ 32)) fun v29 v30 v31 v32 v33 v34 a35 a36 a37 a38 a39 a40 a41 =>
  f_LW_law_1304 L zx k18 x3 (zst σ [(4, v30), (19, v31), (20, v32), (21, v33), (22, v34), (34, v8), (35, v9), (36, v10), (40, v11), (41, v12), (42, v13), (43, v14), (60, v18)]) (zta τ [(14, a35), (15, a36), (16, a37), (17, a38), (30, a39), (31, a40), (32, a41), (46, a15), (47, a16), (48, a17), (59, a19), (60, a20), (81, a21), (82, a22)])
noncomputable def ga_LW_law_1133 (L : Nat) (zx : Nat → Int) (k18 : Int → (Nat → Int) → (Nat → Nat → Int) → Option (Int)) (x3 : Int) (σ : Nat → Int) (τ : Nat → Nat → Int) : Option (Int) :=
  zn (x3 + 1) fun v1 =>
  zg L zx v1 fun v2 =>
  zd1 (f_HS_layers v2 (σ 49) (τ 63) (τ 64)) fun v3 =>
  zn (x3 + 1) fun v4 =>
  zg L zx v4 fun v5 =>
  zd2 (f_HM_layers v5 (τ 4) (σ 4)) fun v6 v7 =>
  f_LW_law_1304 L zx k18 x3 (zst σ [(4, v7)]) τ
noncomputable def ga_LW_law_1156 (L : Nat) (zx : Nat → Int) (k18 : Int → (Nat → Int) → (Nat → Nat → Int) → Option (Int)) (x3 : Int) (σ : Nat → Int) (τ : Nat → Nat → Int) : Option (Int) :=
  zn (x3 + 1) fun v1 =>
  zg L zx v1 fun v2 =>
  zn (x3 + 2) fun v3 =>
  zg L zx v3 fun v4 =>
  zd7 (f_HS_rain v2 v4 (σ 49) (τ 38) (τ 63) (τ 64) (σ 3) (σ 30) (τ 2) (σ 61) (τ 83) (τ 84)) fun v5 v6 v7 a8 v9 a10 a11 =>
  zn (x3 + 1) fun v12 =>
  zg L zx v12 fun v13 =>
  zn (x3 + 2) fun v14 =>
  zg L zx v14 fun v15 =>
  zd9 (f_HM_rain v13 v15 (τ 4) (σ 4) (σ 5) (σ 24) (σ 25) (τ 3) (τ 16) (τ 17) (τ 33)) fun v16 v17 v18 v19 v20 a21 a22 a23 a24 =>
  f_LW_law_1304 L zx k18 x3 (zst σ [(3, v6), (4, v17), (5, v18), (24, v19), (25, v20), (30, v7), (61, v9)]) (zta τ [(2, a8), (3, a21), (16, a22), (17, a23), (33, a24), (83, a10), (84, a11)])
noncomputable def ga_LW_law_1189 (L : Nat) (zx : Nat → Int) (k18 : Int → (Nat → Int) → (Nat → Nat → Int) → Option (Int)) (x3 : Int) (σ : Nat → Int) (τ : Nat → Nat → Int) : Option (Int) :=
  zn (x3 + 1) fun v1 =>
  zg L zx v1 fun v2 =>
  zn (x3 + 2) fun v3 =>
  zg L zx v3 fun v4 =>
  zd1 (f_HS_rained v2 v4 (σ 61) (τ 83) (τ 84)) fun v5 =>
  zn (x3 + 1) fun v6 =>
  zg L zx v6 fun v7 =>
  zn (x3 + 2) fun v8 =>
  zg L zx v8 fun v9 =>
  zd2 (f_HM_rained v7 v9 (σ 25) (τ 33) (σ 4)) fun v10 v11 =>
  f_LW_law_1304 L zx k18 x3 (zst σ [(4, v11)]) τ
noncomputable def ga_LW_law_1222 (L : Nat) (zx : Nat → Int) (k18 : Int → (Nat → Int) → (Nat → Nat → Int) → Option (Int)) (x3 : Int) (σ : Nat → Int) (τ : Nat → Nat → Int) : Option (Int) :=
  zn (x3 + 1) fun v1 =>
  zg L zx v1 fun v2 =>
  zd35 (f_HS_image v2 (σ 26) (σ 27) (σ 28) (σ 29) (σ 49) (τ 34) (τ 35) (τ 36) (τ 37) (τ 38) (τ 39) (τ 40) (τ 41) (τ 63) (τ 64) (σ 3) (σ 30) (τ 0) (τ 2) (σ 50) (σ 51) (σ 52) (σ 53) (σ 55) (σ 56) (σ 57) (σ 58) (σ 62) (τ 65) (τ 66) (τ 67) (τ 68) (τ 69) (τ 70) (τ 71) (τ 72) (σ 63) (τ 73) (τ 74) (τ 75) (τ 76) (τ 77) (τ 78) (τ 79) (τ 80) (τ 85) (τ 86) (τ 87) (τ 88)) fun v3 v4 v5 a6 a7 v8 v9 v10 v11 v12 v13 v14 v15 v16 a17 a18 a19 a20 a21 a22 a23 a24 v25 a26 a27 a28 a29 a30 a31 a32 a33 a34 a35 a36 a37 =>
  zn (x3 + 1) fun v38 =>
  zg L zx v38 fun v39 =>
  zd6 (f_HM_image v39 (τ 4) (σ 4) (σ 5) (τ 3) (τ 5) (τ 6)) fun v40 v41 v42 a43 a44 a45 =>
  f_LW_law_1304 L zx k18 x3 (zst σ [(3, v4), (4, v41), (5, v42), (30, v5), (50, v8), (51, v9), (52, v10), (53, v11), (55, v12), (56, v13), (57, v14), (58, v15), (62, v16), (63, v25)]) (zta τ [(0, a6), (2, a7), (3, a43), (5, a44), (6, a45), (65, a17), (66, a18), (67, a19), (68, a20), (69, a21), (70, a22), (71, a23), (72, a24), (73, a26), (74, a27), (75, a28), (76, a29), (77, a30), (78, a31), (79, a32), (80, a33), (85, a34), (86, a35), (87, a36), (88, a37)])
noncomputable def ga_LW_law_1245 (L : Nat) (zx : Nat → Int) (k18 : Int → (Nat → Int) → (Nat → Nat → Int) → Option (Int)) (x3 : Int) (σ : Nat → Int) (τ : Nat → Nat → Int) : Option (Int) :=
  zn (x3 + 1) fun v1 =>
  zg L zx v1 fun v2 =>
  zd19 (f_HS_back v2 (τ 0) (σ 50) (σ 51) (σ 52) (σ 53) (σ 55) (σ 56) (σ 57) (σ 58) (σ 62) (τ 65) (τ 66) (τ 67) (τ 68) (τ 69) (τ 70) (τ 71) (τ 72) (σ 63) (τ 73) (τ 74) (τ 75) (τ 76) (τ 77) (τ 78) (τ 79) (τ 80) (τ 85) (τ 86) (τ 87) (τ 88) (σ 3) (σ 26) (σ 27) (σ 28) (σ 29) (σ 30) (τ 2) (σ 49) (τ 34) (τ 35) (τ 36) (τ 37) (τ 38) (τ 39) (τ 40) (τ 41) (τ 63) (τ 64)) fun v3 v4 v5 v6 v7 v8 v9 a10 v11 a12 a13 a14 a15 a16 a17 a18 a19 a20 a21 =>
  zn (x3 + 1) fun v22 =>
  zg L zx v22 fun v23 =>
  zd5 (f_HM_back v23 (τ 5) (τ 6) (σ 4) (σ 5) (τ 3) (τ 4)) fun v24 v25 v26 a27 a28 =>
  f_LW_law_1304 L zx k18 x3 (zst σ [(3, v4), (4, v25), (5, v26), (26, v5), (27, v6), (28, v7), (29, v8), (30, v9), (49, v11)]) (zta τ [(2, a10), (3, a27), (4, a28), (34, a12), (35, a13), (36, a14), (37, a15), (38, a16), (39, a17), (40, a18), (41, a19), (63, a20), (64, a21)])
noncomputable def ga_LW_law_1268 (L : Nat) (zx : Nat → Int) (k18 : Int → (Nat → Int) → (Nat → Nat → Int) → Option (Int)) (x3 : Int) (σ : Nat → Int) (τ : Nat → Nat → Int) : Option (Int) :=
  zn (x3 + 1) fun v1 =>
  zg L zx v1 fun v2 =>
  zd1 (f_HS_count v2 (σ 0) (σ 26) (σ 27) (σ 28) (σ 29) (τ 2) (σ 49) (τ 38) (τ 63)) fun v3 =>
  zn (x3 + 1) fun v4 =>
  zg L zx v4 fun v5 =>
  zd2 (f_HM_count v5 (σ 7) (τ 3) (τ 4) (σ 4)) fun v6 v7 =>
  f_LW_law_1304 L zx k18 x3 (zst σ [(4, v7)]) τ
noncomputable def ga_LW_law_1291 (L : Nat) (zx : Nat → Int) (k18 : Int → (Nat → Int) → (Nat → Nat → Int) → Option (Int)) (x3 : Int) (σ : Nat → Int) (τ : Nat → Nat → Int) : Option (Int) :=
  zd1 (f_HS_status (σ 3)) fun v1 =>
  zd2 (f_HM_status (σ 5) (σ 4)) fun v2 v3 =>
  f_LW_law_1304 L zx k18 x3 (zst σ [(4, v3)]) τ
noncomputable def fa_LW_law_18_b (L : Nat) (zx : Nat → Int)  (k18 : Int → (Nat → Int) → (Nat → Nat → Int) → Option (Int)) (x3 : Int) (σ : Nat → Int) (τ : Nat → Nat → Int) : Option (Int) :=
  zn (L : Int) fun v1 =>
  zn (v1 - 6) fun v2 =>
  if zi_w v2 < zi_w x3 then
    some 1
  else
    zg L zx x3 fun v3 =>
    zn (zi_and v3 63) fun v4 =>
    if zi_w v4 = 0 then
      ga_LW_law_200 L zx k18 x3 σ τ
    else if zi_w v4 = 1 then
      ga_LW_law_213 L zx k18 x3 σ τ
    else if zi_w v4 = 2 then
      ga_LW_law_246 L zx k18 x3 σ τ
    else if zi_w v4 = 3 then
      ga_LW_law_269 L zx k18 x3 σ τ
    else if zi_w v4 = 4 then
      ga_LW_law_302 L zx k18 x3 σ τ
    else if zi_w v4 = 5 then
      ga_LW_law_325 L zx k18 x3 σ τ
    else if zi_w v4 = 6 then
      ga_LW_law_348 L zx k18 x3 σ τ
    else if zi_w v4 = 7 then
      ga_LW_law_381 L zx k18 x3 σ τ
    else if zi_w v4 = 8 then
      ga_LW_law_414 L zx k18 x3 σ τ
    else if zi_w v4 = 9 then
      ga_LW_law_437 L zx k18 x3 σ τ
    else if zi_w v4 = 10 then
      ga_LW_law_470 L zx k18 x3 σ τ
    else if zi_w v4 = 11 then
      ga_LW_law_533 L zx k18 x3 σ τ
    else if zi_w v4 = 12 then
      ga_LW_law_556 L zx k18 x3 σ τ
    else if zi_w v4 = 13 then
      ga_LW_law_569 L zx k18 x3 σ τ
    else if zi_w v4 = 14 then
      ga_LW_law_582 L zx k18 x3 σ τ
    else if zi_w v4 = 15 then
      ga_LW_law_595 L zx k18 x3 σ τ
    else if zi_w v4 = 16 then
      ga_LW_law_608 L zx k18 x3 σ τ
    else if zi_w v4 = 17 then
      ga_LW_law_631 L zx k18 x3 σ τ
    else if zi_w v4 = 18 then
      ga_LW_law_674 L zx k18 x3 σ τ
    else if zi_w v4 = 19 then
      ga_LW_law_717 L zx k18 x3 σ τ
    else if zi_w v4 = 20 then
      ga_LW_law_760 L zx k18 x3 σ τ
    else if zi_w v4 = 21 then
      ga_LW_law_813 L zx k18 x3 σ τ
    else if zi_w v4 = 22 then
      ga_LW_law_826 L zx k18 x3 σ τ
    else if zi_w v4 = 23 then
      ga_LW_law_839 L zx k18 x3 σ τ
    else if zi_w v4 = 24 then
      ga_LW_law_862 L zx k18 x3 σ τ
    else if zi_w v4 = 25 then
      ga_LW_law_915 L zx k18 x3 σ τ
    else if zi_w v4 = 26 then
      ga_LW_law_948 L zx k18 x3 σ τ
    else if zi_w v4 = 27 then
      ga_LW_law_991 L zx k18 x3 σ τ
    else if zi_w v4 = 28 then
      ga_LW_law_1014 L zx k18 x3 σ τ
    else if zi_w v4 = 29 then
      ga_LW_law_1047 L zx k18 x3 σ τ
    else if zi_w v4 = 30 then
      ga_LW_law_1090 L zx k18 x3 σ τ
    else if zi_w v4 = 31 then
      ga_LW_law_1133 L zx k18 x3 σ τ
    else if zi_w v4 = 32 then
      ga_LW_law_1156 L zx k18 x3 σ τ
    else if zi_w v4 = 33 then
      ga_LW_law_1189 L zx k18 x3 σ τ
    else if zi_w v4 = 34 then
      ga_LW_law_1222 L zx k18 x3 σ τ
    else if zi_w v4 = 35 then
      ga_LW_law_1245 L zx k18 x3 σ τ
    else if zi_w v4 = 36 then
      ga_LW_law_1268 L zx k18 x3 σ τ
    else if zi_w v4 = 37 then
      ga_LW_law_1291 L zx k18 x3 σ τ
    else
      f_LW_law_1304 L zx k18 x3 σ τ
theorem ef_LW_law_18_b (L : Nat) (zx : Nat → Int)  (k18 : Int → (Nat → Int) → (Nat → Nat → Int) → Option (Int)) (x3 : Int) (σ : Nat → Int) (τ : Nat → Nat → Int) : f_LW_law_18_b L zx k18 x3 σ τ = fa_LW_law_18_b L zx k18 x3 σ τ := rfl
set_option maxHeartbeats 40000000 in
set_option maxRecDepth 100000 in
theorem law_loop {p : Program} {l : Launch} {e : Env} {s : State} {m : MethodId} {below : List Frame} {meth : Method} {c : Code} {dC : Nat → ClassId} {dI : Nat → Nat → Nat} {cA : Nat → ClassId} {ev : zEv} {b L : Nat} {xs : Nat → Int32} {A : Nat → Prop} (C0 : lw_At p s m meth c b L xs) (hK : va_K (dC, dI) vwCl (tyl cA) s) (hA : ∀ q, s.heap.size ≤ q → A q) (hA2 : ∀ q, A q → s.heap.size ≤ q) (hbA : ¬ A b) (hE : zE ev A s s.heap) (qa : Nat → Nat) : ∀ (n : Nat), ∀ (x3 : Int) (σ : Nat → Int) (τ : Nat → Nat → Int) (H : Heap) (locs : List Loc) (ls : Array Slot), f_LW_law_18 L (fun j => (xs j).toInt) n x3 σ τ = some 1 → va_P (dC, dI) vwCl (wd_LW_law cA qa σ τ) H → va_D A (wd_LW_law cA qa σ τ) → va_S A s.heap H locs → lv_has ls 4 [(0, .ref b), (1, .ref (qa 0)), (2, .ref (qa 13)), (3, .int (Int32.ofInt x3))] → W p l e room_1 s m #[Value.ref b] below meth c H locs 600000 7302250 (lw_Z below #[Value.ref b] s) (F0 m 18 ls []) := by
  obtain ⟨hx, hb, hr, hml, hown, hts, hX, hbl, hlocks, hgv⟩ := C0
  have hown : s.vm.findClass "HillSchoolLaw" = some m.cls := hown
  have hz : ∀ w ∈ zall, w.before #[Value.ref b] s = true := fun w h => hts w (zall_in w h)
  have b_1304 : ∀ (k18 : Int → (Nat → Int) → (Nat → Nat → Int) → Option (Int)) (_ : ∀ (x3 : Int) (σ : Nat → Int) (τ : Nat → Nat → Int) (H : Heap) (locs : List Loc) (ls : Array Slot), k18 x3 σ τ = some 1 → va_P (dC, dI) vwCl (wd_LW_law cA qa σ τ) H → va_D A (wd_LW_law cA qa σ τ) → va_S A s.heap H locs → lv_has ls 4 [(0, .ref b), (1, .ref (qa 0)), (2, .ref (qa 13)), (3, .int (Int32.ofInt x3))] → W p l e room_1 s m #[Value.ref b] below meth c H locs 600000 7302250 (lw_Z below #[Value.ref b] s) (F0 m 18 ls [])), ∀ (x3 : Int) (σ : Nat → Int) (τ : Nat → Nat → Int) (H : Heap) (locs : List Loc) (ls : Array Slot), f_LW_law_1304 L (fun j => (xs j).toInt) k18 x3 σ τ = some 1 → va_P (dC, dI) vwCl (wd_LW_law cA qa σ τ) H → va_D A (wd_LW_law cA qa σ τ) → va_S A s.heap H locs → lv_has ls 4 [(0, .ref b), (1, .ref (qa 0)), (2, .ref (qa 13)), (3, .int (Int32.ofInt x3))] → W p l e room_1 s m #[Value.ref b] below meth c H locs 600000 7302250 (lw_Z below #[Value.ref b] s) (F0 m 1304 ls []) := by
    intro k18 ih18 x3 σ τ H locs ls hf hP hD hS hl
    unfold f_LW_law_1304 at hf
    refine xi_iinc hx hb (zdt zkL_law 1304 rfl) hl (k := 3) rfl (by decide) hf (fun v1 ls hl hf => ?_)
    have hl : lv_has ls 4 [(3, .int (Int32.ofInt v1)), (0, .ref b), (1, .ref (qa 0)), (2, .ref (qa 13))] := hl
    refine lv_goto (tgt := 18) hx hb (zdt zkL_law 1307 rfl) (by decide) ?_
    exact ih18 _ _ _ _ _ _ hf hP hD hS (lv_sub hl [1, 2, 3, 0] rfl)
  have b_200 : ∀ (k18 : Int → (Nat → Int) → (Nat → Nat → Int) → Option (Int)) (_ : ∀ (x3 : Int) (σ : Nat → Int) (τ : Nat → Nat → Int) (H : Heap) (locs : List Loc) (ls : Array Slot), k18 x3 σ τ = some 1 → va_P (dC, dI) vwCl (wd_LW_law cA qa σ τ) H → va_D A (wd_LW_law cA qa σ τ) → va_S A s.heap H locs → lv_has ls 4 [(0, .ref b), (1, .ref (qa 0)), (2, .ref (qa 13)), (3, .int (Int32.ofInt x3))] → W p l e room_1 s m #[Value.ref b] below meth c H locs 600000 7302250 (lw_Z below #[Value.ref b] s) (F0 m 18 ls [])), ∀ (x3 : Int) (σ : Nat → Int) (τ : Nat → Nat → Int) (H : Heap) (locs : List Loc) (ls : Array Slot), ga_LW_law_200 L (fun j => (xs j).toInt) k18 x3 σ τ = some 1 → va_P (dC, dI) vwCl (wd_LW_law cA qa σ τ) H → va_D A (wd_LW_law cA qa σ τ) → va_S A s.heap H locs → lv_has ls 4 [(0, .ref b), (1, .ref (qa 0)), (2, .ref (qa 13)), (3, .int (Int32.ofInt x3))] → W p l e room_1 s m #[Value.ref b] below meth c H locs 600000 7302250 (lw_Z below #[Value.ref b] s) (F0 m 200 ls []) := by
    intro k18 ih18 x3 σ τ H locs ls hf hP hD hS hl
    unfold ga_LW_law_200 at hf
    refine lv_aload_n hx hb (zdt zkL_law 200 rfl) rfl (lv_at hl 1 rfl) ?_
    refine xe_d7 hf (fun v1 v2 v3 a4 v5 a6 a7 hg hf => ?_)
    have hC : ([0, 2, 6, 45, 51, 80] : List Nat).map (fun i => (wd_LW_law cA qa σ τ)[i]?) = (wd_HS_column cA (qa 0) (qa 1) (qa 2) (qa 3) (qa 4) (qa 5) (qa 6) (qa 7) (qa 8) (qa 9) (qa 10) (qa 11) (qa 12) (qa 45) (qa 46) (qa 47) (qa 48) (qa 49) (qa 50) (qa 51) (qa 52) (qa 53) (qa 80) (qa 81) (σ 0) (σ 1) (σ 2) (σ 26) (σ 27) (σ 28) (σ 29) (σ 3) (σ 30) (τ 2) (σ 49) (τ 39) (τ 63)).map some := rfl
    refine xv_afterI (ws' := (wd_LW_law cA qa (zst σ [(3, v2), (30, v3), (49, v5)]) (zta τ [(2, a4), (39, a6), (63, a7)]))) (isC := [0, 2, 6, 45, 51, 80]) (ps := [some 0, none, some 1, none, none, none, some 2, none, none, none, none, none, none, none, none, none, none, none, none, none, none, none, none, none, none, none, none, none, none, none, none, none, none, none, none, none, none, none, none, none, none, none, none, none, none, some 3, none, none, none, none, none, some 4, none, none, none, none, none, none, none, none, none, none, none, none, none, none, none, none, none, none, none, none, none, none, none, none, none, none, none, none, some 5, none, none, none, none, none, none, none, none, none, none, none, none, none, none, none, none, none, none, none, none, none, none, none, none, none, none, none, none, none, none, none, none, none]) (va_runV (As := []) (rest := []) ⟨hx, hb, hml, hown, hts⟩ (c_HS_column l ev dC dI cA (qa 0) (qa 1) (qa 2) (qa 3) (qa 4) (qa 5) (qa 6) (qa 7) (qa 8) (qa 9) (qa 10) (qa 11) (qa 12) (qa 45) (qa 46) (qa 47) (qa 48) (qa 49) (qa 50) (qa 51) (qa 52) (qa 53) (qa 80) (qa 81) ((σ 0)) ((σ 1)) ((σ 2)) ((σ 26)) ((σ 27)) ((σ 28)) ((σ 29)) hg H.size) (cwV 0 hts (zgVL zw_526 zw_527 zw_528 zw_104 zw_529) rfl rfl rfl hd_HS_column ⟨Nat.le_of_ble_eq_true rfl, Nat.le_of_ble_eq_true rfl⟩) (xv_preV (T := TX10) (N := 16) hE hA hS hK hP hD (isC := [0, 2, 6, 45, 51, 80]) (by decide +kernel) hC (q0 := 0) (ci := 10) rfl rfl) rfl rfl hl.1 rfl (lv_room (Nat.le_of_ble_eq_true rfl)) (zdt zkL_law 201 rfl) ⟨Nat.le_refl _, Nat.le_refl _⟩) hP hD hS hA (by decide +kernel) rfl hC rfl rfl (fun H locs hP hD hS => ?_)
    refine lv_pop hx hb (zdt zkL_law 204 rfl) rfl ?_
    refine lv_aload_n hx hb (zdt zkL_law 205 rfl) rfl (lv_at hl 2 rfl) ?_
    refine xe_d5 hf (fun v8 v9 v10 a11 a12 hg hf => ?_)
    have hC : ([1, 14, 15] : List Nat).map (fun i => (wd_LW_law cA qa (zst σ [(3, v2), (30, v3), (49, v5)]) (zta τ [(2, a4), (39, a6), (63, a7)]))[i]?) = (wd_HM_column cA (qa 13) (qa 14) (qa 15) (qa 16) (qa 17) (qa 18) (qa 19) (qa 20) (qa 21) (qa 22) (qa 23) (qa 24) (qa 25) (qa 26) (qa 27) (qa 28) (qa 29) (qa 30) (qa 31) (qa 32) (qa 33) (qa 34) (qa 35) (qa 36) (qa 37) (qa 38) (qa 39) (qa 40) (qa 41) (qa 42) (qa 43) (qa 44) (σ 6) (σ 7) (σ 8) (σ 9) (σ 10) (σ 11) (σ 12) (σ 13) (σ 14) (σ 15) (σ 16) (σ 17) (σ 18) (σ 19) (σ 20) (σ 21) (σ 22) (σ 23) (σ 24) (σ 25) (σ 4) (σ 5) (τ 3) (τ 4)).map some := rfl
    refine xv_afterI (ws' := (wd_LW_law cA qa (zst σ [(3, v2), (4, v9), (5, v10), (30, v3), (49, v5)]) (zta τ [(2, a4), (3, a11), (4, a12), (39, a6), (63, a7)]))) (isC := [1, 14, 15]) (ps := [none, some 0, none, none, none, none, none, none, none, none, none, none, none, none, some 1, some 2, none, none, none, none, none, none, none, none, none, none, none, none, none, none, none, none, none, none, none, none, none, none, none, none, none, none, none, none, none, none, none, none, none, none, none, none, none, none, none, none, none, none, none, none, none, none, none, none, none, none, none, none, none, none, none, none, none, none, none, none, none, none, none, none, none, none, none, none, none, none, none, none, none, none, none, none, none, none, none, none, none, none, none, none, none, none, none, none, none, none, none, none, none, none, none, none, none, none]) (va_runV (As := []) (rest := []) ⟨hx, hb, hml, hown, hts⟩ (c_HM_column l ev dC dI cA (qa 13) (qa 14) (qa 15) (qa 16) (qa 17) (qa 18) (qa 19) (qa 20) (qa 21) (qa 22) (qa 23) (qa 24) (qa 25) (qa 26) (qa 27) (qa 28) (qa 29) (qa 30) (qa 31) (qa 32) (qa 33) (qa 34) (qa 35) (qa 36) (qa 37) (qa 38) (qa 39) (qa 40) (qa 41) (qa 42) (qa 43) (qa 44) ((σ 6)) ((σ 7)) ((σ 8)) ((σ 9)) ((σ 10)) ((σ 11)) ((σ 12)) ((σ 13)) ((σ 14)) ((σ 15)) ((σ 16)) ((σ 17)) ((σ 18)) ((σ 19)) ((σ 20)) ((σ 21)) ((σ 22)) ((σ 23)) ((σ 24)) ((σ 25)) hg H.size) (cwV 0 hts (zgVL zw_1340 zw_1341 zw_1342 zw_115 zw_1343) rfl rfl rfl hd_HM_column ⟨Nat.le_of_ble_eq_true rfl, Nat.le_of_ble_eq_true rfl⟩) (xv_preV (T := TX11) (N := 53) hE hA hS hK hP hD (isC := [1, 14, 15]) (by decide +kernel) hC (q0 := 1) (ci := 11) rfl rfl) rfl rfl hl.1 rfl (lv_room (Nat.le_of_ble_eq_true rfl)) (zdt zkL_law 206 rfl) ⟨Nat.le_refl _, Nat.le_refl _⟩) hP hD hS hA (by decide +kernel) rfl hC rfl rfl (fun H locs hP hD hS => ?_)
    refine lv_pop hx hb (zdt zkL_law 209 rfl) rfl ?_
    refine lv_goto (tgt := 1304) hx hb (zdt zkL_law 210 rfl) (by decide) ?_
    exact b_1304 _ ih18 _ _ _ _ _ _ hf hP hD hS (lv_sub hl [0, 1, 2, 3] rfl)
  have b_213 : ∀ (k18 : Int → (Nat → Int) → (Nat → Nat → Int) → Option (Int)) (_ : ∀ (x3 : Int) (σ : Nat → Int) (τ : Nat → Nat → Int) (H : Heap) (locs : List Loc) (ls : Array Slot), k18 x3 σ τ = some 1 → va_P (dC, dI) vwCl (wd_LW_law cA qa σ τ) H → va_D A (wd_LW_law cA qa σ τ) → va_S A s.heap H locs → lv_has ls 4 [(0, .ref b), (1, .ref (qa 0)), (2, .ref (qa 13)), (3, .int (Int32.ofInt x3))] → W p l e room_1 s m #[Value.ref b] below meth c H locs 600000 7302250 (lw_Z below #[Value.ref b] s) (F0 m 18 ls [])), ∀ (x3 : Int) (σ : Nat → Int) (τ : Nat → Nat → Int) (H : Heap) (locs : List Loc) (ls : Array Slot), ga_LW_law_213 L (fun j => (xs j).toInt) k18 x3 σ τ = some 1 → va_P (dC, dI) vwCl (wd_LW_law cA qa σ τ) H → va_D A (wd_LW_law cA qa σ τ) → va_S A s.heap H locs → lv_has ls 4 [(0, .ref b), (1, .ref (qa 0)), (2, .ref (qa 13)), (3, .int (Int32.ofInt x3))] → W p l e room_1 s m #[Value.ref b] below meth c H locs 600000 7302250 (lw_Z below #[Value.ref b] s) (F0 m 213 ls []) := by
    intro k18 ih18 x3 σ τ H locs ls hf hP hD hS hl
    unfold ga_LW_law_213 at hf
    refine lv_aload_n hx hb (zdt zkL_law 213 rfl) rfl (lv_at hl 1 rfl) ?_
    refine lv_aload_n hx hb (zdt zkL_law 214 rfl) rfl (lv_at hl 0 rfl) ?_
    refine lv_iload_n hx hb (zdt zkL_law 215 rfl) rfl (lv_at hl 3 rfl) ?_
    refine lv_iconst (v := Int32.ofInt 1) hx hb (zdt zkL_law 216 rfl) rfl ?_
    refine xi_iadd hx hb (zdt zkL_law 217 rfl) hf (fun v1 hf => ?_)
    refine xi_lld hx hb hX hbl hbA hS (zdt zkL_law 218 rfl) hf (fun v2 hf => ?_)
    refine lv_aload_n hx hb (zdt zkL_law 219 rfl) rfl (lv_at hl 0 rfl) ?_
    refine lv_iload_n hx hb (zdt zkL_law 220 rfl) rfl (lv_at hl 3 rfl) ?_
    refine lv_iconst (v := Int32.ofInt 2) hx hb (zdt zkL_law 221 rfl) rfl ?_
    refine xi_iadd hx hb (zdt zkL_law 222 rfl) hf (fun v3 hf => ?_)
    refine xi_lld hx hb hX hbl hbA hS (zdt zkL_law 223 rfl) hf (fun v4 hf => ?_)
    refine xe_d6 hf (fun v5 v6 v7 a8 a9 a10 hg hf => ?_)
    have hC : ([0, 2, 6, 45, 80, 81] : List Nat).map (fun i => (wd_LW_law cA qa σ τ)[i]?) = (wd_HS_stone cA (qa 0) (qa 1) (qa 2) (qa 3) (qa 4) (qa 5) (qa 6) (qa 7) (qa 8) (qa 9) (qa 10) (qa 11) (qa 12) (qa 45) (qa 46) (qa 47) (qa 48) (qa 49) (qa 50) (qa 51) (qa 52) (qa 53) (qa 80) (qa 81) (σ 0) (σ 1) (σ 2) (σ 26) (σ 27) (σ 28) (σ 29) (σ 49) (σ 3) (σ 30) (τ 2) (τ 63) (τ 64)).map some := rfl
    refine xv_afterI (ws' := (wd_LW_law cA qa (zst σ [(3, v6), (30, v7)]) (zta τ [(2, a8), (63, a9), (64, a10)]))) (isC := [0, 2, 6, 45, 80, 81]) (ps := [some 0, none, some 1, none, none, none, some 2, none, none, none, none, none, none, none, none, none, none, none, none, none, none, none, none, none, none, none, none, none, none, none, none, none, none, none, none, none, none, none, none, none, none, none, none, none, none, some 3, none, none, none, none, none, none, none, none, none, none, none, none, none, none, none, none, none, none, none, none, none, none, none, none, none, none, none, none, none, none, none, none, none, none, some 4, some 5, none, none, none, none, none, none, none, none, none, none, none, none, none, none, none, none, none, none, none, none, none, none, none, none, none, none, none, none, none, none, none, none]) (va_runV (As := [.int (Int32.ofInt v2), .int (Int32.ofInt v4)]) (rest := []) ⟨hx, hb, hml, hown, hts⟩ (c_HS_stone l ev dC dI cA (qa 0) (qa 1) (qa 2) (qa 3) (qa 4) (qa 5) (qa 6) (qa 7) (qa 8) (qa 9) (qa 10) (qa 11) (qa 12) (qa 45) (qa 46) (qa 47) (qa 48) (qa 49) (qa 50) (qa 51) (qa 52) (qa 53) (qa 80) (qa 81) ((σ 0)) ((σ 1)) ((σ 2)) ((σ 26)) ((σ 27)) ((σ 28)) ((σ 29)) hg H.size) (cwV 2 hts (zgVL zw_542 zw_543 zw_544 zw_104 zw_545) rfl rfl rfl hd_HS_stone ⟨Nat.le_of_ble_eq_true rfl, Nat.le_of_ble_eq_true rfl⟩) (xv_preV (T := TX10) (N := 16) hE hA hS hK hP hD (isC := [0, 2, 6, 45, 80, 81]) (by decide +kernel) hC (q0 := 0) (ci := 10) rfl rfl) rfl rfl hl.1 rfl (lv_room (Nat.le_of_ble_eq_true rfl)) (zdt zkL_law 224 rfl) ⟨Nat.le_refl _, Nat.le_refl _⟩) hP hD hS hA (by decide +kernel) rfl hC rfl rfl (fun H locs hP hD hS => ?_)
    refine lv_pop hx hb (zdt zkL_law 227 rfl) rfl ?_
    refine lv_aload_n hx hb (zdt zkL_law 228 rfl) rfl (lv_at hl 2 rfl) ?_
    refine lv_aload_n hx hb (zdt zkL_law 229 rfl) rfl (lv_at hl 0 rfl) ?_
    refine lv_iload_n hx hb (zdt zkL_law 230 rfl) rfl (lv_at hl 3 rfl) ?_
    refine lv_iconst (v := Int32.ofInt 1) hx hb (zdt zkL_law 231 rfl) rfl ?_
    refine xi_iadd hx hb (zdt zkL_law 232 rfl) hf (fun v11 hf => ?_)
    refine xi_lld hx hb hX hbl hbA hS (zdt zkL_law 233 rfl) hf (fun v12 hf => ?_)
    refine lv_aload_n hx hb (zdt zkL_law 234 rfl) rfl (lv_at hl 0 rfl) ?_
    refine lv_iload_n hx hb (zdt zkL_law 235 rfl) rfl (lv_at hl 3 rfl) ?_
    refine lv_iconst (v := Int32.ofInt 2) hx hb (zdt zkL_law 236 rfl) rfl ?_
    refine xi_iadd hx hb (zdt zkL_law 237 rfl) hf (fun v13 hf => ?_)
    refine xi_lld hx hb hX hbl hbA hS (zdt zkL_law 238 rfl) hf (fun v14 hf => ?_)
    refine xe_d5 hf (fun v15 v16 v17 a18 a19 hg hf => ?_)
    have hC : ([1, 14, 15] : List Nat).map (fun i => (wd_LW_law cA qa (zst σ [(3, v6), (30, v7)]) (zta τ [(2, a8), (63, a9), (64, a10)]))[i]?) = (wd_HM_stone cA (qa 13) (qa 14) (qa 15) (qa 16) (qa 17) (qa 18) (qa 19) (qa 20) (qa 21) (qa 22) (qa 23) (qa 24) (qa 25) (qa 26) (qa 27) (qa 28) (qa 29) (qa 30) (qa 31) (qa 32) (qa 33) (qa 34) (qa 35) (qa 36) (qa 37) (qa 38) (qa 39) (qa 40) (qa 41) (qa 42) (qa 43) (qa 44) (σ 6) (σ 7) (σ 8) (σ 9) (σ 10) (σ 11) (σ 12) (σ 13) (σ 14) (σ 15) (σ 16) (σ 17) (σ 18) (σ 19) (σ 20) (σ 21) (σ 22) (σ 23) (σ 24) (σ 25) (σ 4) (σ 5) (τ 3) (τ 4)).map some := rfl
    refine xv_afterI (ws' := (wd_LW_law cA qa (zst σ [(3, v6), (4, v16), (5, v17), (30, v7)]) (zta τ [(2, a8), (3, a18), (4, a19), (63, a9), (64, a10)]))) (isC := [1, 14, 15]) (ps := [none, some 0, none, none, none, none, none, none, none, none, none, none, none, none, some 1, some 2, none, none, none, none, none, none, none, none, none, none, none, none, none, none, none, none, none, none, none, none, none, none, none, none, none, none, none, none, none, none, none, none, none, none, none, none, none, none, none, none, none, none, none, none, none, none, none, none, none, none, none, none, none, none, none, none, none, none, none, none, none, none, none, none, none, none, none, none, none, none, none, none, none, none, none, none, none, none, none, none, none, none, none, none, none, none, none, none, none, none, none, none, none, none, none, none, none, none]) (va_runV (As := [.int (Int32.ofInt v12), .int (Int32.ofInt v14)]) (rest := []) ⟨hx, hb, hml, hown, hts⟩ (c_HM_stone l ev dC dI cA (qa 13) (qa 14) (qa 15) (qa 16) (qa 17) (qa 18) (qa 19) (qa 20) (qa 21) (qa 22) (qa 23) (qa 24) (qa 25) (qa 26) (qa 27) (qa 28) (qa 29) (qa 30) (qa 31) (qa 32) (qa 33) (qa 34) (qa 35) (qa 36) (qa 37) (qa 38) (qa 39) (qa 40) (qa 41) (qa 42) (qa 43) (qa 44) ((σ 6)) ((σ 7)) ((σ 8)) ((σ 9)) ((σ 10)) ((σ 11)) ((σ 12)) ((σ 13)) ((σ 14)) ((σ 15)) ((σ 16)) ((σ 17)) ((σ 18)) ((σ 19)) ((σ 20)) ((σ 21)) ((σ 22)) ((σ 23)) ((σ 24)) ((σ 25)) hg H.size) (cwV 2 hts (zgVL zw_1348 zw_1349 zw_1350 zw_115 zw_1351) rfl rfl rfl hd_HM_stone ⟨Nat.le_of_ble_eq_true rfl, Nat.le_of_ble_eq_true rfl⟩) (xv_preV (T := TX11) (N := 53) hE hA hS hK hP hD (isC := [1, 14, 15]) (by decide +kernel) hC (q0 := 1) (ci := 11) rfl rfl) rfl rfl hl.1 rfl (lv_room (Nat.le_of_ble_eq_true rfl)) (zdt zkL_law 239 rfl) ⟨Nat.le_refl _, Nat.le_refl _⟩) hP hD hS hA (by decide +kernel) rfl hC rfl rfl (fun H locs hP hD hS => ?_)
    refine lv_pop hx hb (zdt zkL_law 242 rfl) rfl ?_
    refine lv_goto (tgt := 1304) hx hb (zdt zkL_law 243 rfl) (by decide) ?_
    exact b_1304 _ ih18 _ _ _ _ _ _ hf hP hD hS (lv_sub hl [0, 1, 2, 3] rfl)
  have b_246 : ∀ (k18 : Int → (Nat → Int) → (Nat → Nat → Int) → Option (Int)) (_ : ∀ (x3 : Int) (σ : Nat → Int) (τ : Nat → Nat → Int) (H : Heap) (locs : List Loc) (ls : Array Slot), k18 x3 σ τ = some 1 → va_P (dC, dI) vwCl (wd_LW_law cA qa σ τ) H → va_D A (wd_LW_law cA qa σ τ) → va_S A s.heap H locs → lv_has ls 4 [(0, .ref b), (1, .ref (qa 0)), (2, .ref (qa 13)), (3, .int (Int32.ofInt x3))] → W p l e room_1 s m #[Value.ref b] below meth c H locs 600000 7302250 (lw_Z below #[Value.ref b] s) (F0 m 18 ls [])), ∀ (x3 : Int) (σ : Nat → Int) (τ : Nat → Nat → Int) (H : Heap) (locs : List Loc) (ls : Array Slot), ga_LW_law_246 L (fun j => (xs j).toInt) k18 x3 σ τ = some 1 → va_P (dC, dI) vwCl (wd_LW_law cA qa σ τ) H → va_D A (wd_LW_law cA qa σ τ) → va_S A s.heap H locs → lv_has ls 4 [(0, .ref b), (1, .ref (qa 0)), (2, .ref (qa 13)), (3, .int (Int32.ofInt x3))] → W p l e room_1 s m #[Value.ref b] below meth c H locs 600000 7302250 (lw_Z below #[Value.ref b] s) (F0 m 246 ls []) := by
    intro k18 ih18 x3 σ τ H locs ls hf hP hD hS hl
    unfold ga_LW_law_246 at hf
    refine lv_aload_n hx hb (zdt zkL_law 246 rfl) rfl (lv_at hl 1 rfl) ?_
    refine lv_aload_n hx hb (zdt zkL_law 247 rfl) rfl (lv_at hl 0 rfl) ?_
    refine lv_iload_n hx hb (zdt zkL_law 248 rfl) rfl (lv_at hl 3 rfl) ?_
    refine lv_iconst (v := Int32.ofInt 1) hx hb (zdt zkL_law 249 rfl) rfl ?_
    refine xi_iadd hx hb (zdt zkL_law 250 rfl) hf (fun v1 hf => ?_)
    refine xi_lld hx hb hX hbl hbA hS (zdt zkL_law 251 rfl) hf (fun v2 hf => ?_)
    refine xe_d5 hf (fun v3 v4 v5 a6 a7 hg hf => ?_)
    have hC : ([0, 2, 6, 45, 80, 81] : List Nat).map (fun i => (wd_LW_law cA qa σ τ)[i]?) = (wd_HS_lift cA (qa 0) (qa 1) (qa 2) (qa 3) (qa 4) (qa 5) (qa 6) (qa 7) (qa 8) (qa 9) (qa 10) (qa 11) (qa 12) (qa 45) (qa 46) (qa 47) (qa 48) (qa 49) (qa 50) (qa 51) (qa 52) (qa 53) (qa 80) (qa 81) (σ 0) (σ 1) (σ 2) (σ 26) (σ 27) (σ 28) (σ 29) (σ 49) (τ 64) (σ 3) (σ 30) (τ 2) (τ 63)).map some := rfl
    refine xv_afterI (ws' := (wd_LW_law cA qa (zst σ [(3, v4), (30, v5)]) (zta τ [(2, a6), (63, a7)]))) (isC := [0, 2, 6, 45, 80, 81]) (ps := [some 0, none, some 1, none, none, none, some 2, none, none, none, none, none, none, none, none, none, none, none, none, none, none, none, none, none, none, none, none, none, none, none, none, none, none, none, none, none, none, none, none, none, none, none, none, none, none, some 3, none, none, none, none, none, none, none, none, none, none, none, none, none, none, none, none, none, none, none, none, none, none, none, none, none, none, none, none, none, none, none, none, none, none, some 4, some 5, none, none, none, none, none, none, none, none, none, none, none, none, none, none, none, none, none, none, none, none, none, none, none, none, none, none, none, none, none, none, none, none]) (va_runV (As := [.int (Int32.ofInt v2)]) (rest := []) ⟨hx, hb, hml, hown, hts⟩ (c_HS_lift l ev dC dI cA (qa 0) (qa 1) (qa 2) (qa 3) (qa 4) (qa 5) (qa 6) (qa 7) (qa 8) (qa 9) (qa 10) (qa 11) (qa 12) (qa 45) (qa 46) (qa 47) (qa 48) (qa 49) (qa 50) (qa 51) (qa 52) (qa 53) (qa 80) (qa 81) ((σ 0)) ((σ 1)) ((σ 2)) ((σ 26)) ((σ 27)) ((σ 28)) ((σ 29)) hg H.size) (cwV 1 hts (zgVL zw_559 zw_560 zw_561 zw_104 zw_562) rfl rfl rfl hd_HS_lift ⟨Nat.le_of_ble_eq_true rfl, Nat.le_of_ble_eq_true rfl⟩) (xv_preV (T := TX10) (N := 16) hE hA hS hK hP hD (isC := [0, 2, 6, 45, 80, 81]) (by decide +kernel) hC (q0 := 0) (ci := 10) rfl rfl) rfl rfl hl.1 rfl (lv_room (Nat.le_of_ble_eq_true rfl)) (zdt zkL_law 252 rfl) ⟨Nat.le_refl _, Nat.le_refl _⟩) hP hD hS hA (by decide +kernel) rfl hC rfl rfl (fun H locs hP hD hS => ?_)
    refine lv_pop hx hb (zdt zkL_law 255 rfl) rfl ?_
    refine lv_aload_n hx hb (zdt zkL_law 256 rfl) rfl (lv_at hl 2 rfl) ?_
    refine lv_aload_n hx hb (zdt zkL_law 257 rfl) rfl (lv_at hl 0 rfl) ?_
    refine lv_iload_n hx hb (zdt zkL_law 258 rfl) rfl (lv_at hl 3 rfl) ?_
    refine lv_iconst (v := Int32.ofInt 1) hx hb (zdt zkL_law 259 rfl) rfl ?_
    refine xi_iadd hx hb (zdt zkL_law 260 rfl) hf (fun v8 hf => ?_)
    refine xi_lld hx hb hX hbl hbA hS (zdt zkL_law 261 rfl) hf (fun v9 hf => ?_)
    refine xe_d5 hf (fun v10 v11 v12 a13 a14 hg hf => ?_)
    have hC : ([1, 14, 15] : List Nat).map (fun i => (wd_LW_law cA qa (zst σ [(3, v4), (30, v5)]) (zta τ [(2, a6), (63, a7)]))[i]?) = (wd_HM_lift cA (qa 13) (qa 14) (qa 15) (qa 16) (qa 17) (qa 18) (qa 19) (qa 20) (qa 21) (qa 22) (qa 23) (qa 24) (qa 25) (qa 26) (qa 27) (qa 28) (qa 29) (qa 30) (qa 31) (qa 32) (qa 33) (qa 34) (qa 35) (qa 36) (qa 37) (qa 38) (qa 39) (qa 40) (qa 41) (qa 42) (qa 43) (qa 44) (σ 6) (σ 7) (σ 8) (σ 9) (σ 10) (σ 11) (σ 12) (σ 13) (σ 14) (σ 15) (σ 16) (σ 17) (σ 18) (σ 19) (σ 20) (σ 21) (σ 22) (σ 23) (σ 24) (σ 25) (σ 4) (σ 5) (τ 3) (τ 4)).map some := rfl
    refine xv_afterI (ws' := (wd_LW_law cA qa (zst σ [(3, v4), (4, v11), (5, v12), (30, v5)]) (zta τ [(2, a6), (3, a13), (4, a14), (63, a7)]))) (isC := [1, 14, 15]) (ps := [none, some 0, none, none, none, none, none, none, none, none, none, none, none, none, some 1, some 2, none, none, none, none, none, none, none, none, none, none, none, none, none, none, none, none, none, none, none, none, none, none, none, none, none, none, none, none, none, none, none, none, none, none, none, none, none, none, none, none, none, none, none, none, none, none, none, none, none, none, none, none, none, none, none, none, none, none, none, none, none, none, none, none, none, none, none, none, none, none, none, none, none, none, none, none, none, none, none, none, none, none, none, none, none, none, none, none, none, none, none, none, none, none, none, none, none, none]) (va_runV (As := [.int (Int32.ofInt v9)]) (rest := []) ⟨hx, hb, hml, hown, hts⟩ (c_HM_lift l ev dC dI cA (qa 13) (qa 14) (qa 15) (qa 16) (qa 17) (qa 18) (qa 19) (qa 20) (qa 21) (qa 22) (qa 23) (qa 24) (qa 25) (qa 26) (qa 27) (qa 28) (qa 29) (qa 30) (qa 31) (qa 32) (qa 33) (qa 34) (qa 35) (qa 36) (qa 37) (qa 38) (qa 39) (qa 40) (qa 41) (qa 42) (qa 43) (qa 44) ((σ 6)) ((σ 7)) ((σ 8)) ((σ 9)) ((σ 10)) ((σ 11)) ((σ 12)) ((σ 13)) ((σ 14)) ((σ 15)) ((σ 16)) ((σ 17)) ((σ 18)) ((σ 19)) ((σ 20)) ((σ 21)) ((σ 22)) ((σ 23)) ((σ 24)) ((σ 25)) hg H.size) (cwV 1 hts (zgVL zw_1360 zw_1361 zw_1362 zw_115 zw_1363) rfl rfl rfl hd_HM_lift ⟨Nat.le_of_ble_eq_true rfl, Nat.le_of_ble_eq_true rfl⟩) (xv_preV (T := TX11) (N := 53) hE hA hS hK hP hD (isC := [1, 14, 15]) (by decide +kernel) hC (q0 := 1) (ci := 11) rfl rfl) rfl rfl hl.1 rfl (lv_room (Nat.le_of_ble_eq_true rfl)) (zdt zkL_law 262 rfl) ⟨Nat.le_refl _, Nat.le_refl _⟩) hP hD hS hA (by decide +kernel) rfl hC rfl rfl (fun H locs hP hD hS => ?_)
    refine lv_pop hx hb (zdt zkL_law 265 rfl) rfl ?_
    refine lv_goto (tgt := 1304) hx hb (zdt zkL_law 266 rfl) (by decide) ?_
    exact b_1304 _ ih18 _ _ _ _ _ _ hf hP hD hS (lv_sub hl [0, 1, 2, 3] rfl)
  have b_269 : ∀ (k18 : Int → (Nat → Int) → (Nat → Nat → Int) → Option (Int)) (_ : ∀ (x3 : Int) (σ : Nat → Int) (τ : Nat → Nat → Int) (H : Heap) (locs : List Loc) (ls : Array Slot), k18 x3 σ τ = some 1 → va_P (dC, dI) vwCl (wd_LW_law cA qa σ τ) H → va_D A (wd_LW_law cA qa σ τ) → va_S A s.heap H locs → lv_has ls 4 [(0, .ref b), (1, .ref (qa 0)), (2, .ref (qa 13)), (3, .int (Int32.ofInt x3))] → W p l e room_1 s m #[Value.ref b] below meth c H locs 600000 7302250 (lw_Z below #[Value.ref b] s) (F0 m 18 ls [])), ∀ (x3 : Int) (σ : Nat → Int) (τ : Nat → Nat → Int) (H : Heap) (locs : List Loc) (ls : Array Slot), ga_LW_law_269 L (fun j => (xs j).toInt) k18 x3 σ τ = some 1 → va_P (dC, dI) vwCl (wd_LW_law cA qa σ τ) H → va_D A (wd_LW_law cA qa σ τ) → va_S A s.heap H locs → lv_has ls 4 [(0, .ref b), (1, .ref (qa 0)), (2, .ref (qa 13)), (3, .int (Int32.ofInt x3))] → W p l e room_1 s m #[Value.ref b] below meth c H locs 600000 7302250 (lw_Z below #[Value.ref b] s) (F0 m 269 ls []) := by
    intro k18 ih18 x3 σ τ H locs ls hf hP hD hS hl
    unfold ga_LW_law_269 at hf
    refine lv_aload_n hx hb (zdt zkL_law 269 rfl) rfl (lv_at hl 1 rfl) ?_
    refine lv_aload_n hx hb (zdt zkL_law 270 rfl) rfl (lv_at hl 0 rfl) ?_
    refine lv_iload_n hx hb (zdt zkL_law 271 rfl) rfl (lv_at hl 3 rfl) ?_
    refine lv_iconst (v := Int32.ofInt 1) hx hb (zdt zkL_law 272 rfl) rfl ?_
    refine xi_iadd hx hb (zdt zkL_law 273 rfl) hf (fun v1 hf => ?_)
    refine xi_lld hx hb hX hbl hbA hS (zdt zkL_law 274 rfl) hf (fun v2 hf => ?_)
    refine lv_aload_n hx hb (zdt zkL_law 275 rfl) rfl (lv_at hl 0 rfl) ?_
    refine lv_iload_n hx hb (zdt zkL_law 276 rfl) rfl (lv_at hl 3 rfl) ?_
    refine lv_iconst (v := Int32.ofInt 2) hx hb (zdt zkL_law 277 rfl) rfl ?_
    refine xi_iadd hx hb (zdt zkL_law 278 rfl) hf (fun v3 hf => ?_)
    refine xi_lld hx hb hX hbl hbA hS (zdt zkL_law 279 rfl) hf (fun v4 hf => ?_)
    refine xe_d1 hf (fun v5 hg hf => ?_)
    have hC : ([0, 2, 45, 80, 81] : List Nat).map (fun i => (wd_LW_law cA qa σ τ)[i]?) = (wd_HS_of cA (qa 0) (qa 1) (qa 2) (qa 3) (qa 4) (qa 5) (qa 6) (qa 7) (qa 8) (qa 9) (qa 10) (qa 11) (qa 12) (qa 45) (qa 46) (qa 47) (qa 48) (qa 49) (qa 50) (qa 51) (qa 52) (qa 53) (qa 80) (qa 81) (σ 0) (σ 1) (σ 2) (σ 3) (σ 26) (σ 27) (σ 28) (σ 29) (σ 30) (σ 49) (τ 63) (τ 64)).map some := rfl
    refine xv_afterI (ws' := (wd_LW_law cA qa σ τ)) (isC := [0, 2, 45, 80, 81]) (ps := [some 0, none, some 1, none, none, none, none, none, none, none, none, none, none, none, none, none, none, none, none, none, none, none, none, none, none, none, none, none, none, none, none, none, none, none, none, none, none, none, none, none, none, none, none, none, none, some 2, none, none, none, none, none, none, none, none, none, none, none, none, none, none, none, none, none, none, none, none, none, none, none, none, none, none, none, none, none, none, none, none, none, none, some 3, some 4, none, none, none, none, none, none, none, none, none, none, none, none, none, none, none, none, none, none, none, none, none, none, none, none, none, none, none, none, none, none, none, none]) (va_runV (As := [.int (Int32.ofInt v2), .int (Int32.ofInt v4)]) (rest := []) ⟨hx, hb, hml, hown, hts⟩ (c_HS_of l ev dC dI cA (qa 0) (qa 1) (qa 2) (qa 3) (qa 4) (qa 5) (qa 6) (qa 7) (qa 8) (qa 9) (qa 10) (qa 11) (qa 12) (qa 45) (qa 46) (qa 47) (qa 48) (qa 49) (qa 50) (qa 51) (qa 52) (qa 53) (qa 80) (qa 81) ((σ 0)) ((σ 1)) ((σ 2)) ((σ 3)) ((σ 26)) ((σ 27)) ((σ 28)) ((σ 29)) ((σ 30)) hg H.size) (cwV 2 hts (zgVL zw_572 zw_573 zw_574 zw_104 zw_575) rfl rfl rfl hd_HS_of ⟨Nat.le_of_ble_eq_true rfl, Nat.le_of_ble_eq_true rfl⟩) (xv_preV (T := TX10) (N := 16) hE hA hS hK hP hD (isC := [0, 2, 45, 80, 81]) (by decide +kernel) hC (q0 := 0) (ci := 10) rfl rfl) rfl rfl hl.1 rfl (lv_room (Nat.le_of_ble_eq_true rfl)) (zdt zkL_law 280 rfl) ⟨Nat.le_refl _, Nat.le_refl _⟩) hP hD hS hA (by decide +kernel) rfl hC rfl rfl (fun H locs hP hD hS => ?_)
    refine lv_pop hx hb (zdt zkL_law 283 rfl) rfl ?_
    refine lv_aload_n hx hb (zdt zkL_law 284 rfl) rfl (lv_at hl 2 rfl) ?_
    refine lv_aload_n hx hb (zdt zkL_law 285 rfl) rfl (lv_at hl 0 rfl) ?_
    refine lv_iload_n hx hb (zdt zkL_law 286 rfl) rfl (lv_at hl 3 rfl) ?_
    refine lv_iconst (v := Int32.ofInt 1) hx hb (zdt zkL_law 287 rfl) rfl ?_
    refine xi_iadd hx hb (zdt zkL_law 288 rfl) hf (fun v6 hf => ?_)
    refine xi_lld hx hb hX hbl hbA hS (zdt zkL_law 289 rfl) hf (fun v7 hf => ?_)
    refine lv_aload_n hx hb (zdt zkL_law 290 rfl) rfl (lv_at hl 0 rfl) ?_
    refine lv_iload_n hx hb (zdt zkL_law 291 rfl) rfl (lv_at hl 3 rfl) ?_
    refine lv_iconst (v := Int32.ofInt 2) hx hb (zdt zkL_law 292 rfl) rfl ?_
    refine xi_iadd hx hb (zdt zkL_law 293 rfl) hf (fun v8 hf => ?_)
    refine xi_lld hx hb hX hbl hbA hS (zdt zkL_law 294 rfl) hf (fun v9 hf => ?_)
    refine xe_d2 hf (fun v10 v11 hg hf => ?_)
    have hC : ([1, 15] : List Nat).map (fun i => (wd_LW_law cA qa σ τ)[i]?) = (wd_HM_of cA (qa 13) (qa 14) (qa 15) (qa 16) (qa 17) (qa 18) (qa 19) (qa 20) (qa 21) (qa 22) (qa 23) (qa 24) (qa 25) (qa 26) (qa 27) (qa 28) (qa 29) (qa 30) (qa 31) (qa 32) (qa 33) (qa 34) (qa 35) (qa 36) (qa 37) (qa 38) (qa 39) (qa 40) (qa 41) (qa 42) (qa 43) (qa 44) (σ 5) (σ 6) (σ 7) (σ 8) (σ 9) (σ 10) (σ 11) (σ 12) (σ 13) (σ 14) (σ 15) (σ 16) (σ 17) (σ 18) (σ 19) (σ 20) (σ 21) (σ 22) (σ 23) (σ 24) (σ 25) (τ 4) (σ 4)).map some := rfl
    refine xv_afterI (ws' := (wd_LW_law cA qa (zst σ [(4, v11)]) τ)) (isC := [1, 15]) (ps := [none, some 0, none, none, none, none, none, none, none, none, none, none, none, none, none, some 1, none, none, none, none, none, none, none, none, none, none, none, none, none, none, none, none, none, none, none, none, none, none, none, none, none, none, none, none, none, none, none, none, none, none, none, none, none, none, none, none, none, none, none, none, none, none, none, none, none, none, none, none, none, none, none, none, none, none, none, none, none, none, none, none, none, none, none, none, none, none, none, none, none, none, none, none, none, none, none, none, none, none, none, none, none, none, none, none, none, none, none, none, none, none, none, none, none, none]) (va_runV (As := [.int (Int32.ofInt v7), .int (Int32.ofInt v9)]) (rest := []) ⟨hx, hb, hml, hown, hts⟩ (c_HM_of l ev dC dI cA (qa 13) (qa 14) (qa 15) (qa 16) (qa 17) (qa 18) (qa 19) (qa 20) (qa 21) (qa 22) (qa 23) (qa 24) (qa 25) (qa 26) (qa 27) (qa 28) (qa 29) (qa 30) (qa 31) (qa 32) (qa 33) (qa 34) (qa 35) (qa 36) (qa 37) (qa 38) (qa 39) (qa 40) (qa 41) (qa 42) (qa 43) (qa 44) ((σ 5)) ((σ 6)) ((σ 7)) ((σ 8)) ((σ 9)) ((σ 10)) ((σ 11)) ((σ 12)) ((σ 13)) ((σ 14)) ((σ 15)) ((σ 16)) ((σ 17)) ((σ 18)) ((σ 19)) ((σ 20)) ((σ 21)) ((σ 22)) ((σ 23)) ((σ 24)) ((σ 25)) hg H.size) (cwV 2 hts (zgVL zw_1364 zw_1365 zw_1366 zw_115 zw_1367) rfl rfl rfl hd_HM_of ⟨Nat.le_of_ble_eq_true rfl, Nat.le_of_ble_eq_true rfl⟩) (xv_preV (T := TX11) (N := 53) hE hA hS hK hP hD (isC := [1, 15]) (by decide +kernel) hC (q0 := 1) (ci := 11) rfl rfl) rfl rfl hl.1 rfl (lv_room (Nat.le_of_ble_eq_true rfl)) (zdt zkL_law 295 rfl) ⟨Nat.le_refl _, Nat.le_refl _⟩) hP hD hS hA (by decide +kernel) rfl hC rfl rfl (fun H locs hP hD hS => ?_)
    refine lv_pop hx hb (zdt zkL_law 298 rfl) rfl ?_
    refine lv_goto (tgt := 1304) hx hb (zdt zkL_law 299 rfl) (by decide) ?_
    exact b_1304 _ ih18 _ _ _ _ _ _ hf hP hD hS (lv_sub hl [0, 1, 2, 3] rfl)
  have b_302 : ∀ (k18 : Int → (Nat → Int) → (Nat → Nat → Int) → Option (Int)) (_ : ∀ (x3 : Int) (σ : Nat → Int) (τ : Nat → Nat → Int) (H : Heap) (locs : List Loc) (ls : Array Slot), k18 x3 σ τ = some 1 → va_P (dC, dI) vwCl (wd_LW_law cA qa σ τ) H → va_D A (wd_LW_law cA qa σ τ) → va_S A s.heap H locs → lv_has ls 4 [(0, .ref b), (1, .ref (qa 0)), (2, .ref (qa 13)), (3, .int (Int32.ofInt x3))] → W p l e room_1 s m #[Value.ref b] below meth c H locs 600000 7302250 (lw_Z below #[Value.ref b] s) (F0 m 18 ls [])), ∀ (x3 : Int) (σ : Nat → Int) (τ : Nat → Nat → Int) (H : Heap) (locs : List Loc) (ls : Array Slot), ga_LW_law_302 L (fun j => (xs j).toInt) k18 x3 σ τ = some 1 → va_P (dC, dI) vwCl (wd_LW_law cA qa σ τ) H → va_D A (wd_LW_law cA qa σ τ) → va_S A s.heap H locs → lv_has ls 4 [(0, .ref b), (1, .ref (qa 0)), (2, .ref (qa 13)), (3, .int (Int32.ofInt x3))] → W p l e room_1 s m #[Value.ref b] below meth c H locs 600000 7302250 (lw_Z below #[Value.ref b] s) (F0 m 302 ls []) := by
    intro k18 ih18 x3 σ τ H locs ls hf hP hD hS hl
    unfold ga_LW_law_302 at hf
    refine lv_aload_n hx hb (zdt zkL_law 302 rfl) rfl (lv_at hl 1 rfl) ?_
    refine lv_aload_n hx hb (zdt zkL_law 303 rfl) rfl (lv_at hl 0 rfl) ?_
    refine lv_iload_n hx hb (zdt zkL_law 304 rfl) rfl (lv_at hl 3 rfl) ?_
    refine lv_iconst (v := Int32.ofInt 1) hx hb (zdt zkL_law 305 rfl) rfl ?_
    refine xi_iadd hx hb (zdt zkL_law 306 rfl) hf (fun v1 hf => ?_)
    refine xi_lld hx hb hX hbl hbA hS (zdt zkL_law 307 rfl) hf (fun v2 hf => ?_)
    refine xe_d1 hf (fun v3 hg hf => ?_)
    have hC : ([0, 2, 45, 80, 81] : List Nat).map (fun i => (wd_LW_law cA qa σ τ)[i]?) = (wd_HS_weight cA (qa 0) (qa 1) (qa 2) (qa 3) (qa 4) (qa 5) (qa 6) (qa 7) (qa 8) (qa 9) (qa 10) (qa 11) (qa 12) (qa 45) (qa 46) (qa 47) (qa 48) (qa 49) (qa 50) (qa 51) (qa 52) (qa 53) (qa 80) (qa 81) (σ 0) (σ 1) (σ 2) (σ 3) (σ 26) (σ 27) (σ 28) (σ 29) (σ 30) (σ 49) (τ 63) (τ 64)).map some := rfl
    refine xv_afterI (ws' := (wd_LW_law cA qa σ τ)) (isC := [0, 2, 45, 80, 81]) (ps := [some 0, none, some 1, none, none, none, none, none, none, none, none, none, none, none, none, none, none, none, none, none, none, none, none, none, none, none, none, none, none, none, none, none, none, none, none, none, none, none, none, none, none, none, none, none, none, some 2, none, none, none, none, none, none, none, none, none, none, none, none, none, none, none, none, none, none, none, none, none, none, none, none, none, none, none, none, none, none, none, none, none, none, some 3, some 4, none, none, none, none, none, none, none, none, none, none, none, none, none, none, none, none, none, none, none, none, none, none, none, none, none, none, none, none, none, none, none, none]) (va_runV (As := [.int (Int32.ofInt v2)]) (rest := []) ⟨hx, hb, hml, hown, hts⟩ (c_HS_weight l ev dC dI cA (qa 0) (qa 1) (qa 2) (qa 3) (qa 4) (qa 5) (qa 6) (qa 7) (qa 8) (qa 9) (qa 10) (qa 11) (qa 12) (qa 45) (qa 46) (qa 47) (qa 48) (qa 49) (qa 50) (qa 51) (qa 52) (qa 53) (qa 80) (qa 81) ((σ 0)) ((σ 1)) ((σ 2)) ((σ 3)) ((σ 26)) ((σ 27)) ((σ 28)) ((σ 29)) ((σ 30)) hg H.size) (cwV 1 hts (zgVL zw_580 zw_581 zw_582 zw_104 zw_583) rfl rfl rfl hd_HS_weight ⟨Nat.le_of_ble_eq_true rfl, Nat.le_of_ble_eq_true rfl⟩) (xv_preV (T := TX10) (N := 16) hE hA hS hK hP hD (isC := [0, 2, 45, 80, 81]) (by decide +kernel) hC (q0 := 0) (ci := 10) rfl rfl) rfl rfl hl.1 rfl (lv_room (Nat.le_of_ble_eq_true rfl)) (zdt zkL_law 308 rfl) ⟨Nat.le_refl _, Nat.le_refl _⟩) hP hD hS hA (by decide +kernel) rfl hC rfl rfl (fun H locs hP hD hS => ?_)
    refine lv_pop hx hb (zdt zkL_law 311 rfl) rfl ?_
    refine lv_aload_n hx hb (zdt zkL_law 312 rfl) rfl (lv_at hl 2 rfl) ?_
    refine lv_aload_n hx hb (zdt zkL_law 313 rfl) rfl (lv_at hl 0 rfl) ?_
    refine lv_iload_n hx hb (zdt zkL_law 314 rfl) rfl (lv_at hl 3 rfl) ?_
    refine lv_iconst (v := Int32.ofInt 1) hx hb (zdt zkL_law 315 rfl) rfl ?_
    refine xi_iadd hx hb (zdt zkL_law 316 rfl) hf (fun v4 hf => ?_)
    refine xi_lld hx hb hX hbl hbA hS (zdt zkL_law 317 rfl) hf (fun v5 hf => ?_)
    refine xe_d2 hf (fun v6 v7 hg hf => ?_)
    have hC : ([1, 15] : List Nat).map (fun i => (wd_LW_law cA qa σ τ)[i]?) = (wd_HM_weight cA (qa 13) (qa 14) (qa 15) (qa 16) (qa 17) (qa 18) (qa 19) (qa 20) (qa 21) (qa 22) (qa 23) (qa 24) (qa 25) (qa 26) (qa 27) (qa 28) (qa 29) (qa 30) (qa 31) (qa 32) (qa 33) (qa 34) (qa 35) (qa 36) (qa 37) (qa 38) (qa 39) (qa 40) (qa 41) (qa 42) (qa 43) (qa 44) (σ 5) (σ 6) (σ 7) (σ 8) (σ 9) (σ 10) (σ 11) (σ 12) (σ 13) (σ 14) (σ 15) (σ 16) (σ 17) (σ 18) (σ 19) (σ 20) (σ 21) (σ 22) (σ 23) (σ 24) (σ 25) (τ 4) (σ 4)).map some := rfl
    refine xv_afterI (ws' := (wd_LW_law cA qa (zst σ [(4, v7)]) τ)) (isC := [1, 15]) (ps := [none, some 0, none, none, none, none, none, none, none, none, none, none, none, none, none, some 1, none, none, none, none, none, none, none, none, none, none, none, none, none, none, none, none, none, none, none, none, none, none, none, none, none, none, none, none, none, none, none, none, none, none, none, none, none, none, none, none, none, none, none, none, none, none, none, none, none, none, none, none, none, none, none, none, none, none, none, none, none, none, none, none, none, none, none, none, none, none, none, none, none, none, none, none, none, none, none, none, none, none, none, none, none, none, none, none, none, none, none, none, none, none, none, none, none, none]) (va_runV (As := [.int (Int32.ofInt v5)]) (rest := []) ⟨hx, hb, hml, hown, hts⟩ (c_HM_weight l ev dC dI cA (qa 13) (qa 14) (qa 15) (qa 16) (qa 17) (qa 18) (qa 19) (qa 20) (qa 21) (qa 22) (qa 23) (qa 24) (qa 25) (qa 26) (qa 27) (qa 28) (qa 29) (qa 30) (qa 31) (qa 32) (qa 33) (qa 34) (qa 35) (qa 36) (qa 37) (qa 38) (qa 39) (qa 40) (qa 41) (qa 42) (qa 43) (qa 44) ((σ 5)) ((σ 6)) ((σ 7)) ((σ 8)) ((σ 9)) ((σ 10)) ((σ 11)) ((σ 12)) ((σ 13)) ((σ 14)) ((σ 15)) ((σ 16)) ((σ 17)) ((σ 18)) ((σ 19)) ((σ 20)) ((σ 21)) ((σ 22)) ((σ 23)) ((σ 24)) ((σ 25)) hg H.size) (cwV 1 hts (zgVL zw_1368 zw_1369 zw_1370 zw_115 zw_1371) rfl rfl rfl hd_HM_weight ⟨Nat.le_of_ble_eq_true rfl, Nat.le_of_ble_eq_true rfl⟩) (xv_preV (T := TX11) (N := 53) hE hA hS hK hP hD (isC := [1, 15]) (by decide +kernel) hC (q0 := 1) (ci := 11) rfl rfl) rfl rfl hl.1 rfl (lv_room (Nat.le_of_ble_eq_true rfl)) (zdt zkL_law 318 rfl) ⟨Nat.le_refl _, Nat.le_refl _⟩) hP hD hS hA (by decide +kernel) rfl hC rfl rfl (fun H locs hP hD hS => ?_)
    refine lv_pop hx hb (zdt zkL_law 321 rfl) rfl ?_
    refine lv_goto (tgt := 1304) hx hb (zdt zkL_law 322 rfl) (by decide) ?_
    exact b_1304 _ ih18 _ _ _ _ _ _ hf hP hD hS (lv_sub hl [0, 1, 2, 3] rfl)
  have b_325 : ∀ (k18 : Int → (Nat → Int) → (Nat → Nat → Int) → Option (Int)) (_ : ∀ (x3 : Int) (σ : Nat → Int) (τ : Nat → Nat → Int) (H : Heap) (locs : List Loc) (ls : Array Slot), k18 x3 σ τ = some 1 → va_P (dC, dI) vwCl (wd_LW_law cA qa σ τ) H → va_D A (wd_LW_law cA qa σ τ) → va_S A s.heap H locs → lv_has ls 4 [(0, .ref b), (1, .ref (qa 0)), (2, .ref (qa 13)), (3, .int (Int32.ofInt x3))] → W p l e room_1 s m #[Value.ref b] below meth c H locs 600000 7302250 (lw_Z below #[Value.ref b] s) (F0 m 18 ls [])), ∀ (x3 : Int) (σ : Nat → Int) (τ : Nat → Nat → Int) (H : Heap) (locs : List Loc) (ls : Array Slot), ga_LW_law_325 L (fun j => (xs j).toInt) k18 x3 σ τ = some 1 → va_P (dC, dI) vwCl (wd_LW_law cA qa σ τ) H → va_D A (wd_LW_law cA qa σ τ) → va_S A s.heap H locs → lv_has ls 4 [(0, .ref b), (1, .ref (qa 0)), (2, .ref (qa 13)), (3, .int (Int32.ofInt x3))] → W p l e room_1 s m #[Value.ref b] below meth c H locs 600000 7302250 (lw_Z below #[Value.ref b] s) (F0 m 325 ls []) := by
    intro k18 ih18 x3 σ τ H locs ls hf hP hD hS hl
    unfold ga_LW_law_325 at hf
    refine lv_aload_n hx hb (zdt zkL_law 325 rfl) rfl (lv_at hl 1 rfl) ?_
    refine lv_aload_n hx hb (zdt zkL_law 326 rfl) rfl (lv_at hl 0 rfl) ?_
    refine lv_iload_n hx hb (zdt zkL_law 327 rfl) rfl (lv_at hl 3 rfl) ?_
    refine lv_iconst (v := Int32.ofInt 1) hx hb (zdt zkL_law 328 rfl) rfl ?_
    refine xi_iadd hx hb (zdt zkL_law 329 rfl) hf (fun v1 hf => ?_)
    refine xi_lld hx hb hX hbl hbA hS (zdt zkL_law 330 rfl) hf (fun v2 hf => ?_)
    refine xe_d8 hf (fun v3 v4 v5 v6 a7 a8 a9 a10 hg hf => ?_)
    have hC : ([0, 2, 6, 46, 47, 48] : List Nat).map (fun i => (wd_LW_law cA qa σ τ)[i]?) = (wd_HS_child cA (qa 0) (qa 1) (qa 2) (qa 3) (qa 4) (qa 5) (qa 6) (qa 7) (qa 8) (qa 9) (qa 10) (qa 11) (qa 12) (qa 45) (qa 46) (qa 47) (qa 48) (qa 49) (qa 50) (qa 51) (qa 52) (qa 53) (σ 0) (σ 1) (σ 2) (σ 27) (σ 28) (σ 29) (σ 3) (σ 26) (σ 30) (τ 2) (τ 34) (τ 35) (τ 36)).map some := rfl
    refine xv_afterI (ws' := (wd_LW_law cA qa (zst σ [(3, v4), (26, v5), (30, v6)]) (zta τ [(2, a7), (34, a8), (35, a9), (36, a10)]))) (isC := [0, 2, 6, 46, 47, 48]) (ps := [some 0, none, some 1, none, none, none, some 2, none, none, none, none, none, none, none, none, none, none, none, none, none, none, none, none, none, none, none, none, none, none, none, none, none, none, none, none, none, none, none, none, none, none, none, none, none, none, none, some 3, some 4, some 5, none, none, none, none, none, none, none, none, none, none, none, none, none, none, none, none, none, none, none, none, none, none, none, none, none, none, none, none, none, none, none, none, none, none, none, none, none, none, none, none, none, none, none, none, none, none, none, none, none, none, none, none, none, none, none, none, none, none, none, none, none, none, none, none, none]) (va_runV (As := [.int (Int32.ofInt v2)]) (rest := []) ⟨hx, hb, hml, hown, hts⟩ (c_HS_child l ev dC dI cA (qa 0) (qa 1) (qa 2) (qa 3) (qa 4) (qa 5) (qa 6) (qa 7) (qa 8) (qa 9) (qa 10) (qa 11) (qa 12) (qa 45) (qa 46) (qa 47) (qa 48) (qa 49) (qa 50) (qa 51) (qa 52) (qa 53) ((σ 0)) ((σ 1)) ((σ 2)) ((σ 27)) ((σ 28)) ((σ 29)) hg H.size) (cwV 1 hts (zgVL zw_589 zw_590 zw_591 zw_104 zw_592) rfl rfl rfl hd_HS_child ⟨Nat.le_of_ble_eq_true rfl, Nat.le_of_ble_eq_true rfl⟩) (xv_preV (T := TX10) (N := 16) hE hA hS hK hP hD (isC := [0, 2, 6, 46, 47, 48]) (by decide +kernel) hC (q0 := 0) (ci := 10) rfl rfl) rfl rfl hl.1 rfl (lv_room (Nat.le_of_ble_eq_true rfl)) (zdt zkL_law 331 rfl) ⟨Nat.le_refl _, Nat.le_refl _⟩) hP hD hS hA (by decide +kernel) rfl hC rfl rfl (fun H locs hP hD hS => ?_)
    refine lv_pop hx hb (zdt zkL_law 334 rfl) rfl ?_
    refine lv_aload_n hx hb (zdt zkL_law 335 rfl) rfl (lv_at hl 2 rfl) ?_
    refine lv_aload_n hx hb (zdt zkL_law 336 rfl) rfl (lv_at hl 0 rfl) ?_
    refine lv_iload_n hx hb (zdt zkL_law 337 rfl) rfl (lv_at hl 3 rfl) ?_
    refine lv_iconst (v := Int32.ofInt 1) hx hb (zdt zkL_law 338 rfl) rfl ?_
    refine xi_iadd hx hb (zdt zkL_law 339 rfl) hf (fun v11 hf => ?_)
    refine xi_lld hx hb hX hbl hbA hS (zdt zkL_law 340 rfl) hf (fun v12 hf => ?_)
    refine xe_d5 hf (fun v13 v14 v15 a16 a17 hg hf => ?_)
    have hC : ([1, 14, 15] : List Nat).map (fun i => (wd_LW_law cA qa (zst σ [(3, v4), (26, v5), (30, v6)]) (zta τ [(2, a7), (34, a8), (35, a9), (36, a10)]))[i]?) = (wd_HM_child cA (qa 13) (qa 14) (qa 15) (qa 16) (qa 17) (qa 18) (qa 19) (qa 20) (qa 21) (qa 22) (qa 23) (qa 24) (qa 25) (qa 26) (qa 27) (qa 28) (qa 29) (qa 30) (qa 31) (qa 32) (qa 33) (qa 34) (qa 35) (qa 36) (qa 37) (qa 38) (qa 39) (qa 40) (qa 41) (qa 42) (qa 43) (qa 44) (σ 6) (σ 7) (σ 8) (σ 9) (σ 10) (σ 11) (σ 12) (σ 13) (σ 14) (σ 15) (σ 16) (σ 17) (σ 18) (σ 19) (σ 20) (σ 21) (σ 22) (σ 23) (σ 24) (σ 25) (σ 4) (σ 5) (τ 3) (τ 4)).map some := rfl
    refine xv_afterI (ws' := (wd_LW_law cA qa (zst σ [(3, v4), (4, v14), (5, v15), (26, v5), (30, v6)]) (zta τ [(2, a7), (3, a16), (4, a17), (34, a8), (35, a9), (36, a10)]))) (isC := [1, 14, 15]) (ps := [none, some 0, none, none, none, none, none, none, none, none, none, none, none, none, some 1, some 2, none, none, none, none, none, none, none, none, none, none, none, none, none, none, none, none, none, none, none, none, none, none, none, none, none, none, none, none, none, none, none, none, none, none, none, none, none, none, none, none, none, none, none, none, none, none, none, none, none, none, none, none, none, none, none, none, none, none, none, none, none, none, none, none, none, none, none, none, none, none, none, none, none, none, none, none, none, none, none, none, none, none, none, none, none, none, none, none, none, none, none, none, none, none, none, none, none, none]) (va_runV (As := [.int (Int32.ofInt v12)]) (rest := []) ⟨hx, hb, hml, hown, hts⟩ (c_HM_child l ev dC dI cA (qa 13) (qa 14) (qa 15) (qa 16) (qa 17) (qa 18) (qa 19) (qa 20) (qa 21) (qa 22) (qa 23) (qa 24) (qa 25) (qa 26) (qa 27) (qa 28) (qa 29) (qa 30) (qa 31) (qa 32) (qa 33) (qa 34) (qa 35) (qa 36) (qa 37) (qa 38) (qa 39) (qa 40) (qa 41) (qa 42) (qa 43) (qa 44) ((σ 6)) ((σ 7)) ((σ 8)) ((σ 9)) ((σ 10)) ((σ 11)) ((σ 12)) ((σ 13)) ((σ 14)) ((σ 15)) ((σ 16)) ((σ 17)) ((σ 18)) ((σ 19)) ((σ 20)) ((σ 21)) ((σ 22)) ((σ 23)) ((σ 24)) ((σ 25)) hg H.size) (cwV 1 hts (zgVL zw_1372 zw_1373 zw_1374 zw_115 zw_1375) rfl rfl rfl hd_HM_child ⟨Nat.le_of_ble_eq_true rfl, Nat.le_of_ble_eq_true rfl⟩) (xv_preV (T := TX11) (N := 53) hE hA hS hK hP hD (isC := [1, 14, 15]) (by decide +kernel) hC (q0 := 1) (ci := 11) rfl rfl) rfl rfl hl.1 rfl (lv_room (Nat.le_of_ble_eq_true rfl)) (zdt zkL_law 341 rfl) ⟨Nat.le_refl _, Nat.le_refl _⟩) hP hD hS hA (by decide +kernel) rfl hC rfl rfl (fun H locs hP hD hS => ?_)
    refine lv_pop hx hb (zdt zkL_law 344 rfl) rfl ?_
    refine lv_goto (tgt := 1304) hx hb (zdt zkL_law 345 rfl) (by decide) ?_
    exact b_1304 _ ih18 _ _ _ _ _ _ hf hP hD hS (lv_sub hl [0, 1, 2, 3] rfl)
  have b_348 : ∀ (k18 : Int → (Nat → Int) → (Nat → Nat → Int) → Option (Int)) (_ : ∀ (x3 : Int) (σ : Nat → Int) (τ : Nat → Nat → Int) (H : Heap) (locs : List Loc) (ls : Array Slot), k18 x3 σ τ = some 1 → va_P (dC, dI) vwCl (wd_LW_law cA qa σ τ) H → va_D A (wd_LW_law cA qa σ τ) → va_S A s.heap H locs → lv_has ls 4 [(0, .ref b), (1, .ref (qa 0)), (2, .ref (qa 13)), (3, .int (Int32.ofInt x3))] → W p l e room_1 s m #[Value.ref b] below meth c H locs 600000 7302250 (lw_Z below #[Value.ref b] s) (F0 m 18 ls [])), ∀ (x3 : Int) (σ : Nat → Int) (τ : Nat → Nat → Int) (H : Heap) (locs : List Loc) (ls : Array Slot), ga_LW_law_348 L (fun j => (xs j).toInt) k18 x3 σ τ = some 1 → va_P (dC, dI) vwCl (wd_LW_law cA qa σ τ) H → va_D A (wd_LW_law cA qa σ τ) → va_S A s.heap H locs → lv_has ls 4 [(0, .ref b), (1, .ref (qa 0)), (2, .ref (qa 13)), (3, .int (Int32.ofInt x3))] → W p l e room_1 s m #[Value.ref b] below meth c H locs 600000 7302250 (lw_Z below #[Value.ref b] s) (F0 m 348 ls []) := by
    intro k18 ih18 x3 σ τ H locs ls hf hP hD hS hl
    unfold ga_LW_law_348 at hf
    refine lv_aload_n hx hb (zdt zkL_law 348 rfl) rfl (lv_at hl 1 rfl) ?_
    refine lv_aload_n hx hb (zdt zkL_law 349 rfl) rfl (lv_at hl 0 rfl) ?_
    refine lv_iload_n hx hb (zdt zkL_law 350 rfl) rfl (lv_at hl 3 rfl) ?_
    refine lv_iconst (v := Int32.ofInt 1) hx hb (zdt zkL_law 351 rfl) rfl ?_
    refine xi_iadd hx hb (zdt zkL_law 352 rfl) hf (fun v1 hf => ?_)
    refine xi_lld hx hb hX hbl hbA hS (zdt zkL_law 353 rfl) hf (fun v2 hf => ?_)
    refine lv_aload_n hx hb (zdt zkL_law 354 rfl) rfl (lv_at hl 0 rfl) ?_
    refine lv_iload_n hx hb (zdt zkL_law 355 rfl) rfl (lv_at hl 3 rfl) ?_
    refine lv_iconst (v := Int32.ofInt 2) hx hb (zdt zkL_law 356 rfl) rfl ?_
    refine xi_iadd hx hb (zdt zkL_law 357 rfl) hf (fun v3 hf => ?_)
    refine xi_lld hx hb hX hbl hbA hS (zdt zkL_law 358 rfl) hf (fun v4 hf => ?_)
    refine xe_d5 hf (fun v5 v6 v7 a8 a9 hg hf => ?_)
    have hC : ([0, 2, 6, 47] : List Nat).map (fun i => (wd_LW_law cA qa σ τ)[i]?) = (wd_HS_expel cA (qa 0) (qa 1) (qa 2) (qa 3) (qa 4) (qa 5) (qa 6) (qa 7) (qa 8) (qa 9) (qa 10) (qa 11) (qa 12) (qa 45) (qa 46) (qa 47) (qa 48) (qa 49) (qa 50) (qa 51) (qa 52) (qa 53) (σ 0) (σ 1) (σ 2) (σ 27) (σ 28) (σ 29) (σ 26) (σ 3) (σ 30) (τ 2) (τ 35)).map some := rfl
    refine xv_afterI (ws' := (wd_LW_law cA qa (zst σ [(3, v6), (30, v7)]) (zta τ [(2, a8), (35, a9)]))) (isC := [0, 2, 6, 47]) (ps := [some 0, none, some 1, none, none, none, some 2, none, none, none, none, none, none, none, none, none, none, none, none, none, none, none, none, none, none, none, none, none, none, none, none, none, none, none, none, none, none, none, none, none, none, none, none, none, none, none, none, some 3, none, none, none, none, none, none, none, none, none, none, none, none, none, none, none, none, none, none, none, none, none, none, none, none, none, none, none, none, none, none, none, none, none, none, none, none, none, none, none, none, none, none, none, none, none, none, none, none, none, none, none, none, none, none, none, none, none, none, none, none, none, none, none, none, none, none]) (va_runV (As := [.int (Int32.ofInt v2), .int (Int32.ofInt v4)]) (rest := []) ⟨hx, hb, hml, hown, hts⟩ (c_HS_expel l ev dC dI cA (qa 0) (qa 1) (qa 2) (qa 3) (qa 4) (qa 5) (qa 6) (qa 7) (qa 8) (qa 9) (qa 10) (qa 11) (qa 12) (qa 45) (qa 46) (qa 47) (qa 48) (qa 49) (qa 50) (qa 51) (qa 52) (qa 53) ((σ 0)) ((σ 1)) ((σ 2)) ((σ 27)) ((σ 28)) ((σ 29)) hg H.size) (cwV 2 hts (zgVL zw_597 zw_598 zw_599 zw_104 zw_600) rfl rfl rfl hd_HS_expel ⟨Nat.le_of_ble_eq_true rfl, Nat.le_of_ble_eq_true rfl⟩) (xv_preV (T := TX10) (N := 16) hE hA hS hK hP hD (isC := [0, 2, 6, 47]) (by decide +kernel) hC (q0 := 0) (ci := 10) rfl rfl) rfl rfl hl.1 rfl (lv_room (Nat.le_of_ble_eq_true rfl)) (zdt zkL_law 359 rfl) ⟨Nat.le_refl _, Nat.le_refl _⟩) hP hD hS hA (by decide +kernel) rfl hC rfl rfl (fun H locs hP hD hS => ?_)
    refine lv_pop hx hb (zdt zkL_law 362 rfl) rfl ?_
    refine lv_aload_n hx hb (zdt zkL_law 363 rfl) rfl (lv_at hl 2 rfl) ?_
    refine lv_aload_n hx hb (zdt zkL_law 364 rfl) rfl (lv_at hl 0 rfl) ?_
    refine lv_iload_n hx hb (zdt zkL_law 365 rfl) rfl (lv_at hl 3 rfl) ?_
    refine lv_iconst (v := Int32.ofInt 1) hx hb (zdt zkL_law 366 rfl) rfl ?_
    refine xi_iadd hx hb (zdt zkL_law 367 rfl) hf (fun v10 hf => ?_)
    refine xi_lld hx hb hX hbl hbA hS (zdt zkL_law 368 rfl) hf (fun v11 hf => ?_)
    refine lv_aload_n hx hb (zdt zkL_law 369 rfl) rfl (lv_at hl 0 rfl) ?_
    refine lv_iload_n hx hb (zdt zkL_law 370 rfl) rfl (lv_at hl 3 rfl) ?_
    refine lv_iconst (v := Int32.ofInt 2) hx hb (zdt zkL_law 371 rfl) rfl ?_
    refine xi_iadd hx hb (zdt zkL_law 372 rfl) hf (fun v12 hf => ?_)
    refine xi_lld hx hb hX hbl hbA hS (zdt zkL_law 373 rfl) hf (fun v13 hf => ?_)
    refine xe_d5 hf (fun v14 v15 v16 a17 a18 hg hf => ?_)
    have hC : ([1, 14, 15] : List Nat).map (fun i => (wd_LW_law cA qa (zst σ [(3, v6), (30, v7)]) (zta τ [(2, a8), (35, a9)]))[i]?) = (wd_HM_expel cA (qa 13) (qa 14) (qa 15) (qa 16) (qa 17) (qa 18) (qa 19) (qa 20) (qa 21) (qa 22) (qa 23) (qa 24) (qa 25) (qa 26) (qa 27) (qa 28) (qa 29) (qa 30) (qa 31) (qa 32) (qa 33) (qa 34) (qa 35) (qa 36) (qa 37) (qa 38) (qa 39) (qa 40) (qa 41) (qa 42) (qa 43) (qa 44) (σ 6) (σ 7) (σ 8) (σ 9) (σ 10) (σ 11) (σ 12) (σ 13) (σ 14) (σ 15) (σ 16) (σ 17) (σ 18) (σ 19) (σ 20) (σ 21) (σ 22) (σ 23) (σ 24) (σ 25) (σ 4) (σ 5) (τ 3) (τ 4)).map some := rfl
    refine xv_afterI (ws' := (wd_LW_law cA qa (zst σ [(3, v6), (4, v15), (5, v16), (30, v7)]) (zta τ [(2, a8), (3, a17), (4, a18), (35, a9)]))) (isC := [1, 14, 15]) (ps := [none, some 0, none, none, none, none, none, none, none, none, none, none, none, none, some 1, some 2, none, none, none, none, none, none, none, none, none, none, none, none, none, none, none, none, none, none, none, none, none, none, none, none, none, none, none, none, none, none, none, none, none, none, none, none, none, none, none, none, none, none, none, none, none, none, none, none, none, none, none, none, none, none, none, none, none, none, none, none, none, none, none, none, none, none, none, none, none, none, none, none, none, none, none, none, none, none, none, none, none, none, none, none, none, none, none, none, none, none, none, none, none, none, none, none, none, none]) (va_runV (As := [.int (Int32.ofInt v11), .int (Int32.ofInt v13)]) (rest := []) ⟨hx, hb, hml, hown, hts⟩ (c_HM_expel l ev dC dI cA (qa 13) (qa 14) (qa 15) (qa 16) (qa 17) (qa 18) (qa 19) (qa 20) (qa 21) (qa 22) (qa 23) (qa 24) (qa 25) (qa 26) (qa 27) (qa 28) (qa 29) (qa 30) (qa 31) (qa 32) (qa 33) (qa 34) (qa 35) (qa 36) (qa 37) (qa 38) (qa 39) (qa 40) (qa 41) (qa 42) (qa 43) (qa 44) ((σ 6)) ((σ 7)) ((σ 8)) ((σ 9)) ((σ 10)) ((σ 11)) ((σ 12)) ((σ 13)) ((σ 14)) ((σ 15)) ((σ 16)) ((σ 17)) ((σ 18)) ((σ 19)) ((σ 20)) ((σ 21)) ((σ 22)) ((σ 23)) ((σ 24)) ((σ 25)) hg H.size) (cwV 2 hts (zgVL zw_1377 zw_1378 zw_1379 zw_115 zw_1380) rfl rfl rfl hd_HM_expel ⟨Nat.le_of_ble_eq_true rfl, Nat.le_of_ble_eq_true rfl⟩) (xv_preV (T := TX11) (N := 53) hE hA hS hK hP hD (isC := [1, 14, 15]) (by decide +kernel) hC (q0 := 1) (ci := 11) rfl rfl) rfl rfl hl.1 rfl (lv_room (Nat.le_of_ble_eq_true rfl)) (zdt zkL_law 374 rfl) ⟨Nat.le_refl _, Nat.le_refl _⟩) hP hD hS hA (by decide +kernel) rfl hC rfl rfl (fun H locs hP hD hS => ?_)
    refine lv_pop hx hb (zdt zkL_law 377 rfl) rfl ?_
    refine lv_goto (tgt := 1304) hx hb (zdt zkL_law 378 rfl) (by decide) ?_
    exact b_1304 _ ih18 _ _ _ _ _ _ hf hP hD hS (lv_sub hl [0, 1, 2, 3] rfl)
  have b_381 : ∀ (k18 : Int → (Nat → Int) → (Nat → Nat → Int) → Option (Int)) (_ : ∀ (x3 : Int) (σ : Nat → Int) (τ : Nat → Nat → Int) (H : Heap) (locs : List Loc) (ls : Array Slot), k18 x3 σ τ = some 1 → va_P (dC, dI) vwCl (wd_LW_law cA qa σ τ) H → va_D A (wd_LW_law cA qa σ τ) → va_S A s.heap H locs → lv_has ls 4 [(0, .ref b), (1, .ref (qa 0)), (2, .ref (qa 13)), (3, .int (Int32.ofInt x3))] → W p l e room_1 s m #[Value.ref b] below meth c H locs 600000 7302250 (lw_Z below #[Value.ref b] s) (F0 m 18 ls [])), ∀ (x3 : Int) (σ : Nat → Int) (τ : Nat → Nat → Int) (H : Heap) (locs : List Loc) (ls : Array Slot), ga_LW_law_381 L (fun j => (xs j).toInt) k18 x3 σ τ = some 1 → va_P (dC, dI) vwCl (wd_LW_law cA qa σ τ) H → va_D A (wd_LW_law cA qa σ τ) → va_S A s.heap H locs → lv_has ls 4 [(0, .ref b), (1, .ref (qa 0)), (2, .ref (qa 13)), (3, .int (Int32.ofInt x3))] → W p l e room_1 s m #[Value.ref b] below meth c H locs 600000 7302250 (lw_Z below #[Value.ref b] s) (F0 m 381 ls []) := by
    intro k18 ih18 x3 σ τ H locs ls hf hP hD hS hl
    unfold ga_LW_law_381 at hf
    refine lv_aload_n hx hb (zdt zkL_law 381 rfl) rfl (lv_at hl 1 rfl) ?_
    refine lv_aload_n hx hb (zdt zkL_law 382 rfl) rfl (lv_at hl 0 rfl) ?_
    refine lv_iload_n hx hb (zdt zkL_law 383 rfl) rfl (lv_at hl 3 rfl) ?_
    refine lv_iconst (v := Int32.ofInt 1) hx hb (zdt zkL_law 384 rfl) rfl ?_
    refine xi_iadd hx hb (zdt zkL_law 385 rfl) hf (fun v1 hf => ?_)
    refine xi_lld hx hb hX hbl hbA hS (zdt zkL_law 386 rfl) hf (fun v2 hf => ?_)
    refine lv_aload_n hx hb (zdt zkL_law 387 rfl) rfl (lv_at hl 0 rfl) ?_
    refine lv_iload_n hx hb (zdt zkL_law 388 rfl) rfl (lv_at hl 3 rfl) ?_
    refine lv_iconst (v := Int32.ofInt 2) hx hb (zdt zkL_law 389 rfl) rfl ?_
    refine xi_iadd hx hb (zdt zkL_law 390 rfl) hf (fun v3 hf => ?_)
    refine xi_lld hx hb hX hbl hbA hS (zdt zkL_law 391 rfl) hf (fun v4 hf => ?_)
    refine xe_d1 hf (fun v5 hg hf => ?_)
    have hC : ([0, 2, 46, 47, 48] : List Nat).map (fun i => (wd_LW_law cA qa σ τ)[i]?) = (wd_HS_fact cA (qa 0) (qa 1) (qa 2) (qa 3) (qa 4) (qa 5) (qa 6) (qa 7) (qa 8) (qa 9) (qa 10) (qa 11) (qa 12) (qa 45) (qa 46) (qa 47) (qa 48) (qa 49) (qa 50) (qa 51) (qa 52) (qa 53) (σ 0) (σ 1) (σ 2) (σ 3) (σ 27) (σ 28) (σ 29) (σ 30) (σ 26) (τ 34) (τ 35) (τ 36)).map some := rfl
    refine xv_afterI (ws' := (wd_LW_law cA qa σ τ)) (isC := [0, 2, 46, 47, 48]) (ps := [some 0, none, some 1, none, none, none, none, none, none, none, none, none, none, none, none, none, none, none, none, none, none, none, none, none, none, none, none, none, none, none, none, none, none, none, none, none, none, none, none, none, none, none, none, none, none, none, some 2, some 3, some 4, none, none, none, none, none, none, none, none, none, none, none, none, none, none, none, none, none, none, none, none, none, none, none, none, none, none, none, none, none, none, none, none, none, none, none, none, none, none, none, none, none, none, none, none, none, none, none, none, none, none, none, none, none, none, none, none, none, none, none, none, none, none, none, none, none]) (va_runV (As := [.int (Int32.ofInt v2), .int (Int32.ofInt v4)]) (rest := []) ⟨hx, hb, hml, hown, hts⟩ (c_HS_fact l ev dC dI cA (qa 0) (qa 1) (qa 2) (qa 3) (qa 4) (qa 5) (qa 6) (qa 7) (qa 8) (qa 9) (qa 10) (qa 11) (qa 12) (qa 45) (qa 46) (qa 47) (qa 48) (qa 49) (qa 50) (qa 51) (qa 52) (qa 53) ((σ 0)) ((σ 1)) ((σ 2)) ((σ 3)) ((σ 27)) ((σ 28)) ((σ 29)) ((σ 30)) hg H.size) (cwV 2 hts (zgVL zw_605 zw_606 zw_607 zw_104 zw_608) rfl rfl rfl hd_HS_fact ⟨Nat.le_of_ble_eq_true rfl, Nat.le_of_ble_eq_true rfl⟩) (xv_preV (T := TX10) (N := 16) hE hA hS hK hP hD (isC := [0, 2, 46, 47, 48]) (by decide +kernel) hC (q0 := 0) (ci := 10) rfl rfl) rfl rfl hl.1 rfl (lv_room (Nat.le_of_ble_eq_true rfl)) (zdt zkL_law 392 rfl) ⟨Nat.le_refl _, Nat.le_refl _⟩) hP hD hS hA (by decide +kernel) rfl hC rfl rfl (fun H locs hP hD hS => ?_)
    refine lv_pop hx hb (zdt zkL_law 395 rfl) rfl ?_
    refine lv_aload_n hx hb (zdt zkL_law 396 rfl) rfl (lv_at hl 2 rfl) ?_
    refine lv_aload_n hx hb (zdt zkL_law 397 rfl) rfl (lv_at hl 0 rfl) ?_
    refine lv_iload_n hx hb (zdt zkL_law 398 rfl) rfl (lv_at hl 3 rfl) ?_
    refine lv_iconst (v := Int32.ofInt 1) hx hb (zdt zkL_law 399 rfl) rfl ?_
    refine xi_iadd hx hb (zdt zkL_law 400 rfl) hf (fun v6 hf => ?_)
    refine xi_lld hx hb hX hbl hbA hS (zdt zkL_law 401 rfl) hf (fun v7 hf => ?_)
    refine lv_aload_n hx hb (zdt zkL_law 402 rfl) rfl (lv_at hl 0 rfl) ?_
    refine lv_iload_n hx hb (zdt zkL_law 403 rfl) rfl (lv_at hl 3 rfl) ?_
    refine lv_iconst (v := Int32.ofInt 2) hx hb (zdt zkL_law 404 rfl) rfl ?_
    refine xi_iadd hx hb (zdt zkL_law 405 rfl) hf (fun v8 hf => ?_)
    refine xi_lld hx hb hX hbl hbA hS (zdt zkL_law 406 rfl) hf (fun v9 hf => ?_)
    refine xe_d2 hf (fun v10 v11 hg hf => ?_)
    have hC : ([1, 15] : List Nat).map (fun i => (wd_LW_law cA qa σ τ)[i]?) = (wd_HM_fact cA (qa 13) (qa 14) (qa 15) (qa 16) (qa 17) (qa 18) (qa 19) (qa 20) (qa 21) (qa 22) (qa 23) (qa 24) (qa 25) (qa 26) (qa 27) (qa 28) (qa 29) (qa 30) (qa 31) (qa 32) (qa 33) (qa 34) (qa 35) (qa 36) (qa 37) (qa 38) (qa 39) (qa 40) (qa 41) (qa 42) (qa 43) (qa 44) (σ 5) (σ 6) (σ 7) (σ 8) (σ 9) (σ 10) (σ 11) (σ 12) (σ 13) (σ 14) (σ 15) (σ 16) (σ 17) (σ 18) (σ 19) (σ 20) (σ 21) (σ 22) (σ 23) (σ 24) (σ 25) (τ 4) (σ 4)).map some := rfl
    refine xv_afterI (ws' := (wd_LW_law cA qa (zst σ [(4, v11)]) τ)) (isC := [1, 15]) (ps := [none, some 0, none, none, none, none, none, none, none, none, none, none, none, none, none, some 1, none, none, none, none, none, none, none, none, none, none, none, none, none, none, none, none, none, none, none, none, none, none, none, none, none, none, none, none, none, none, none, none, none, none, none, none, none, none, none, none, none, none, none, none, none, none, none, none, none, none, none, none, none, none, none, none, none, none, none, none, none, none, none, none, none, none, none, none, none, none, none, none, none, none, none, none, none, none, none, none, none, none, none, none, none, none, none, none, none, none, none, none, none, none, none, none, none, none]) (va_runV (As := [.int (Int32.ofInt v7), .int (Int32.ofInt v9)]) (rest := []) ⟨hx, hb, hml, hown, hts⟩ (c_HM_fact l ev dC dI cA (qa 13) (qa 14) (qa 15) (qa 16) (qa 17) (qa 18) (qa 19) (qa 20) (qa 21) (qa 22) (qa 23) (qa 24) (qa 25) (qa 26) (qa 27) (qa 28) (qa 29) (qa 30) (qa 31) (qa 32) (qa 33) (qa 34) (qa 35) (qa 36) (qa 37) (qa 38) (qa 39) (qa 40) (qa 41) (qa 42) (qa 43) (qa 44) ((σ 5)) ((σ 6)) ((σ 7)) ((σ 8)) ((σ 9)) ((σ 10)) ((σ 11)) ((σ 12)) ((σ 13)) ((σ 14)) ((σ 15)) ((σ 16)) ((σ 17)) ((σ 18)) ((σ 19)) ((σ 20)) ((σ 21)) ((σ 22)) ((σ 23)) ((σ 24)) ((σ 25)) hg H.size) (cwV 2 hts (zgVL zw_1389 zw_1390 zw_1391 zw_115 zw_1392) rfl rfl rfl hd_HM_fact ⟨Nat.le_of_ble_eq_true rfl, Nat.le_of_ble_eq_true rfl⟩) (xv_preV (T := TX11) (N := 53) hE hA hS hK hP hD (isC := [1, 15]) (by decide +kernel) hC (q0 := 1) (ci := 11) rfl rfl) rfl rfl hl.1 rfl (lv_room (Nat.le_of_ble_eq_true rfl)) (zdt zkL_law 407 rfl) ⟨Nat.le_refl _, Nat.le_refl _⟩) hP hD hS hA (by decide +kernel) rfl hC rfl rfl (fun H locs hP hD hS => ?_)
    refine lv_pop hx hb (zdt zkL_law 410 rfl) rfl ?_
    refine lv_goto (tgt := 1304) hx hb (zdt zkL_law 411 rfl) (by decide) ?_
    exact b_1304 _ ih18 _ _ _ _ _ _ hf hP hD hS (lv_sub hl [0, 1, 2, 3] rfl)
  have b_414 : ∀ (k18 : Int → (Nat → Int) → (Nat → Nat → Int) → Option (Int)) (_ : ∀ (x3 : Int) (σ : Nat → Int) (τ : Nat → Nat → Int) (H : Heap) (locs : List Loc) (ls : Array Slot), k18 x3 σ τ = some 1 → va_P (dC, dI) vwCl (wd_LW_law cA qa σ τ) H → va_D A (wd_LW_law cA qa σ τ) → va_S A s.heap H locs → lv_has ls 4 [(0, .ref b), (1, .ref (qa 0)), (2, .ref (qa 13)), (3, .int (Int32.ofInt x3))] → W p l e room_1 s m #[Value.ref b] below meth c H locs 600000 7302250 (lw_Z below #[Value.ref b] s) (F0 m 18 ls [])), ∀ (x3 : Int) (σ : Nat → Int) (τ : Nat → Nat → Int) (H : Heap) (locs : List Loc) (ls : Array Slot), ga_LW_law_414 L (fun j => (xs j).toInt) k18 x3 σ τ = some 1 → va_P (dC, dI) vwCl (wd_LW_law cA qa σ τ) H → va_D A (wd_LW_law cA qa σ τ) → va_S A s.heap H locs → lv_has ls 4 [(0, .ref b), (1, .ref (qa 0)), (2, .ref (qa 13)), (3, .int (Int32.ofInt x3))] → W p l e room_1 s m #[Value.ref b] below meth c H locs 600000 7302250 (lw_Z below #[Value.ref b] s) (F0 m 414 ls []) := by
    intro k18 ih18 x3 σ τ H locs ls hf hP hD hS hl
    unfold ga_LW_law_414 at hf
    refine lv_aload_n hx hb (zdt zkL_law 414 rfl) rfl (lv_at hl 1 rfl) ?_
    refine lv_aload_n hx hb (zdt zkL_law 415 rfl) rfl (lv_at hl 0 rfl) ?_
    refine lv_iload_n hx hb (zdt zkL_law 416 rfl) rfl (lv_at hl 3 rfl) ?_
    refine lv_iconst (v := Int32.ofInt 1) hx hb (zdt zkL_law 417 rfl) rfl ?_
    refine xi_iadd hx hb (zdt zkL_law 418 rfl) hf (fun v1 hf => ?_)
    refine xi_lld hx hb hX hbl hbA hS (zdt zkL_law 419 rfl) hf (fun v2 hf => ?_)
    refine xe_d6 hf (fun v3 v4 v5 v6 a7 a8 hg hf => ?_)
    have hC : ([0, 2, 6, 45, 49] : List Nat).map (fun i => (wd_LW_law cA qa σ τ)[i]?) = (wd_HS_parish cA (qa 0) (qa 1) (qa 2) (qa 3) (qa 4) (qa 5) (qa 6) (qa 7) (qa 8) (qa 9) (qa 10) (qa 11) (qa 12) (qa 45) (qa 46) (qa 47) (qa 48) (qa 49) (qa 50) (qa 51) (qa 52) (qa 53) (qa 80) (qa 81) (σ 0) (σ 1) (σ 2) (σ 26) (σ 28) (σ 29) (σ 49) (σ 3) (σ 27) (σ 30) (τ 2) (τ 37)).map some := rfl
    refine xv_afterI (ws' := (wd_LW_law cA qa (zst σ [(3, v4), (27, v5), (30, v6)]) (zta τ [(2, a7), (37, a8)]))) (isC := [0, 2, 6, 45, 49]) (ps := [some 0, none, some 1, none, none, none, some 2, none, none, none, none, none, none, none, none, none, none, none, none, none, none, none, none, none, none, none, none, none, none, none, none, none, none, none, none, none, none, none, none, none, none, none, none, none, none, some 3, none, none, none, some 4, none, none, none, none, none, none, none, none, none, none, none, none, none, none, none, none, none, none, none, none, none, none, none, none, none, none, none, none, none, none, none, none, none, none, none, none, none, none, none, none, none, none, none, none, none, none, none, none, none, none, none, none, none, none, none, none, none, none, none, none, none, none, none, none]) (va_runV (As := [.int (Int32.ofInt v2)]) (rest := []) ⟨hx, hb, hml, hown, hts⟩ (c_HS_parish l ev dC dI cA (qa 0) (qa 1) (qa 2) (qa 3) (qa 4) (qa 5) (qa 6) (qa 7) (qa 8) (qa 9) (qa 10) (qa 11) (qa 12) (qa 45) (qa 46) (qa 47) (qa 48) (qa 49) (qa 50) (qa 51) (qa 52) (qa 53) (qa 80) (qa 81) ((σ 0)) ((σ 1)) ((σ 2)) ((σ 26)) ((σ 28)) ((σ 29)) hg H.size) (cwV 1 hts (zgVL zw_609 zw_610 zw_611 zw_104 zw_612) rfl rfl rfl hd_HS_parish ⟨Nat.le_of_ble_eq_true rfl, Nat.le_of_ble_eq_true rfl⟩) (xv_preV (T := TX10) (N := 16) hE hA hS hK hP hD (isC := [0, 2, 6, 45, 49]) (by decide +kernel) hC (q0 := 0) (ci := 10) rfl rfl) rfl rfl hl.1 rfl (lv_room (Nat.le_of_ble_eq_true rfl)) (zdt zkL_law 420 rfl) ⟨Nat.le_refl _, Nat.le_refl _⟩) hP hD hS hA (by decide +kernel) rfl hC rfl rfl (fun H locs hP hD hS => ?_)
    refine lv_pop hx hb (zdt zkL_law 423 rfl) rfl ?_
    refine lv_aload_n hx hb (zdt zkL_law 424 rfl) rfl (lv_at hl 2 rfl) ?_
    refine lv_aload_n hx hb (zdt zkL_law 425 rfl) rfl (lv_at hl 0 rfl) ?_
    refine lv_iload_n hx hb (zdt zkL_law 426 rfl) rfl (lv_at hl 3 rfl) ?_
    refine lv_iconst (v := Int32.ofInt 1) hx hb (zdt zkL_law 427 rfl) rfl ?_
    refine xi_iadd hx hb (zdt zkL_law 428 rfl) hf (fun v9 hf => ?_)
    refine xi_lld hx hb hX hbl hbA hS (zdt zkL_law 429 rfl) hf (fun v10 hf => ?_)
    refine xe_d5 hf (fun v11 v12 v13 a14 a15 hg hf => ?_)
    have hC : ([1, 14, 15] : List Nat).map (fun i => (wd_LW_law cA qa (zst σ [(3, v4), (27, v5), (30, v6)]) (zta τ [(2, a7), (37, a8)]))[i]?) = (wd_HM_parish cA (qa 13) (qa 14) (qa 15) (qa 16) (qa 17) (qa 18) (qa 19) (qa 20) (qa 21) (qa 22) (qa 23) (qa 24) (qa 25) (qa 26) (qa 27) (qa 28) (qa 29) (qa 30) (qa 31) (qa 32) (qa 33) (qa 34) (qa 35) (qa 36) (qa 37) (qa 38) (qa 39) (qa 40) (qa 41) (qa 42) (qa 43) (qa 44) (σ 6) (σ 7) (σ 8) (σ 9) (σ 10) (σ 11) (σ 12) (σ 13) (σ 14) (σ 15) (σ 16) (σ 17) (σ 18) (σ 19) (σ 20) (σ 21) (σ 22) (σ 23) (σ 24) (σ 25) (σ 4) (σ 5) (τ 3) (τ 4)).map some := rfl
    refine xv_afterI (ws' := (wd_LW_law cA qa (zst σ [(3, v4), (4, v12), (5, v13), (27, v5), (30, v6)]) (zta τ [(2, a7), (3, a14), (4, a15), (37, a8)]))) (isC := [1, 14, 15]) (ps := [none, some 0, none, none, none, none, none, none, none, none, none, none, none, none, some 1, some 2, none, none, none, none, none, none, none, none, none, none, none, none, none, none, none, none, none, none, none, none, none, none, none, none, none, none, none, none, none, none, none, none, none, none, none, none, none, none, none, none, none, none, none, none, none, none, none, none, none, none, none, none, none, none, none, none, none, none, none, none, none, none, none, none, none, none, none, none, none, none, none, none, none, none, none, none, none, none, none, none, none, none, none, none, none, none, none, none, none, none, none, none, none, none, none, none, none, none]) (va_runV (As := [.int (Int32.ofInt v10)]) (rest := []) ⟨hx, hb, hml, hown, hts⟩ (c_HM_parish l ev dC dI cA (qa 13) (qa 14) (qa 15) (qa 16) (qa 17) (qa 18) (qa 19) (qa 20) (qa 21) (qa 22) (qa 23) (qa 24) (qa 25) (qa 26) (qa 27) (qa 28) (qa 29) (qa 30) (qa 31) (qa 32) (qa 33) (qa 34) (qa 35) (qa 36) (qa 37) (qa 38) (qa 39) (qa 40) (qa 41) (qa 42) (qa 43) (qa 44) ((σ 6)) ((σ 7)) ((σ 8)) ((σ 9)) ((σ 10)) ((σ 11)) ((σ 12)) ((σ 13)) ((σ 14)) ((σ 15)) ((σ 16)) ((σ 17)) ((σ 18)) ((σ 19)) ((σ 20)) ((σ 21)) ((σ 22)) ((σ 23)) ((σ 24)) ((σ 25)) hg H.size) (cwV 1 hts (zgVL zw_1394 zw_1395 zw_1396 zw_115 zw_1397) rfl rfl rfl hd_HM_parish ⟨Nat.le_of_ble_eq_true rfl, Nat.le_of_ble_eq_true rfl⟩) (xv_preV (T := TX11) (N := 53) hE hA hS hK hP hD (isC := [1, 14, 15]) (by decide +kernel) hC (q0 := 1) (ci := 11) rfl rfl) rfl rfl hl.1 rfl (lv_room (Nat.le_of_ble_eq_true rfl)) (zdt zkL_law 430 rfl) ⟨Nat.le_refl _, Nat.le_refl _⟩) hP hD hS hA (by decide +kernel) rfl hC rfl rfl (fun H locs hP hD hS => ?_)
    refine lv_pop hx hb (zdt zkL_law 433 rfl) rfl ?_
    refine lv_goto (tgt := 1304) hx hb (zdt zkL_law 434 rfl) (by decide) ?_
    exact b_1304 _ ih18 _ _ _ _ _ _ hf hP hD hS (lv_sub hl [0, 1, 2, 3] rfl)
  have b_437 : ∀ (k18 : Int → (Nat → Int) → (Nat → Nat → Int) → Option (Int)) (_ : ∀ (x3 : Int) (σ : Nat → Int) (τ : Nat → Nat → Int) (H : Heap) (locs : List Loc) (ls : Array Slot), k18 x3 σ τ = some 1 → va_P (dC, dI) vwCl (wd_LW_law cA qa σ τ) H → va_D A (wd_LW_law cA qa σ τ) → va_S A s.heap H locs → lv_has ls 4 [(0, .ref b), (1, .ref (qa 0)), (2, .ref (qa 13)), (3, .int (Int32.ofInt x3))] → W p l e room_1 s m #[Value.ref b] below meth c H locs 600000 7302250 (lw_Z below #[Value.ref b] s) (F0 m 18 ls [])), ∀ (x3 : Int) (σ : Nat → Int) (τ : Nat → Nat → Int) (H : Heap) (locs : List Loc) (ls : Array Slot), ga_LW_law_437 L (fun j => (xs j).toInt) k18 x3 σ τ = some 1 → va_P (dC, dI) vwCl (wd_LW_law cA qa σ τ) H → va_D A (wd_LW_law cA qa σ τ) → va_S A s.heap H locs → lv_has ls 4 [(0, .ref b), (1, .ref (qa 0)), (2, .ref (qa 13)), (3, .int (Int32.ofInt x3))] → W p l e room_1 s m #[Value.ref b] below meth c H locs 600000 7302250 (lw_Z below #[Value.ref b] s) (F0 m 437 ls []) := by
    intro k18 ih18 x3 σ τ H locs ls hf hP hD hS hl
    unfold ga_LW_law_437 at hf
    refine lv_aload_n hx hb (zdt zkL_law 437 rfl) rfl (lv_at hl 1 rfl) ?_
    refine lv_aload_n hx hb (zdt zkL_law 438 rfl) rfl (lv_at hl 0 rfl) ?_
    refine lv_iload_n hx hb (zdt zkL_law 439 rfl) rfl (lv_at hl 3 rfl) ?_
    refine lv_iconst (v := Int32.ofInt 1) hx hb (zdt zkL_law 440 rfl) rfl ?_
    refine xi_iadd hx hb (zdt zkL_law 441 rfl) hf (fun v1 hf => ?_)
    refine xi_lld hx hb hX hbl hbA hS (zdt zkL_law 442 rfl) hf (fun v2 hf => ?_)
    refine lv_aload_n hx hb (zdt zkL_law 443 rfl) rfl (lv_at hl 0 rfl) ?_
    refine lv_iload_n hx hb (zdt zkL_law 444 rfl) rfl (lv_at hl 3 rfl) ?_
    refine lv_iconst (v := Int32.ofInt 2) hx hb (zdt zkL_law 445 rfl) rfl ?_
    refine xi_iadd hx hb (zdt zkL_law 446 rfl) hf (fun v3 hf => ?_)
    refine xi_lld hx hb hX hbl hbA hS (zdt zkL_law 447 rfl) hf (fun v4 hf => ?_)
    refine xe_d5 hf (fun v5 v6 v7 a8 a9 hg hf => ?_)
    have hC : ([0, 2, 6, 50] : List Nat).map (fun i => (wd_LW_law cA qa σ τ)[i]?) = (wd_HS_terms cA (qa 0) (qa 1) (qa 2) (qa 3) (qa 4) (qa 5) (qa 6) (qa 7) (qa 8) (qa 9) (qa 10) (qa 11) (qa 12) (qa 45) (qa 46) (qa 47) (qa 48) (qa 49) (qa 50) (qa 51) (qa 52) (qa 53) (σ 0) (σ 1) (σ 2) (σ 26) (σ 27) (σ 28) (σ 29) (σ 3) (σ 30) (τ 2) (τ 38)).map some := rfl
    refine xv_afterI (ws' := (wd_LW_law cA qa (zst σ [(3, v6), (30, v7)]) (zta τ [(2, a8), (38, a9)]))) (isC := [0, 2, 6, 50]) (ps := [some 0, none, some 1, none, none, none, some 2, none, none, none, none, none, none, none, none, none, none, none, none, none, none, none, none, none, none, none, none, none, none, none, none, none, none, none, none, none, none, none, none, none, none, none, none, none, none, none, none, none, none, none, some 3, none, none, none, none, none, none, none, none, none, none, none, none, none, none, none, none, none, none, none, none, none, none, none, none, none, none, none, none, none, none, none, none, none, none, none, none, none, none, none, none, none, none, none, none, none, none, none, none, none, none, none, none, none, none, none, none, none, none, none, none, none, none, none]) (va_runV (As := [.int (Int32.ofInt v2), .int (Int32.ofInt v4)]) (rest := []) ⟨hx, hb, hml, hown, hts⟩ (c_HS_terms l ev dC dI cA (qa 0) (qa 1) (qa 2) (qa 3) (qa 4) (qa 5) (qa 6) (qa 7) (qa 8) (qa 9) (qa 10) (qa 11) (qa 12) (qa 45) (qa 46) (qa 47) (qa 48) (qa 49) (qa 50) (qa 51) (qa 52) (qa 53) ((σ 0)) ((σ 1)) ((σ 2)) ((σ 26)) ((σ 27)) ((σ 28)) ((σ 29)) hg H.size) (cwV 2 hts (zgVL zw_613 zw_614 zw_615 zw_104 zw_616) rfl rfl rfl hd_HS_terms ⟨Nat.le_of_ble_eq_true rfl, Nat.le_of_ble_eq_true rfl⟩) (xv_preV (T := TX10) (N := 16) hE hA hS hK hP hD (isC := [0, 2, 6, 50]) (by decide +kernel) hC (q0 := 0) (ci := 10) rfl rfl) rfl rfl hl.1 rfl (lv_room (Nat.le_of_ble_eq_true rfl)) (zdt zkL_law 448 rfl) ⟨Nat.le_refl _, Nat.le_refl _⟩) hP hD hS hA (by decide +kernel) rfl hC rfl rfl (fun H locs hP hD hS => ?_)
    refine lv_pop hx hb (zdt zkL_law 451 rfl) rfl ?_
    refine lv_aload_n hx hb (zdt zkL_law 452 rfl) rfl (lv_at hl 2 rfl) ?_
    refine lv_aload_n hx hb (zdt zkL_law 453 rfl) rfl (lv_at hl 0 rfl) ?_
    refine lv_iload_n hx hb (zdt zkL_law 454 rfl) rfl (lv_at hl 3 rfl) ?_
    refine lv_iconst (v := Int32.ofInt 1) hx hb (zdt zkL_law 455 rfl) rfl ?_
    refine xi_iadd hx hb (zdt zkL_law 456 rfl) hf (fun v10 hf => ?_)
    refine xi_lld hx hb hX hbl hbA hS (zdt zkL_law 457 rfl) hf (fun v11 hf => ?_)
    refine lv_aload_n hx hb (zdt zkL_law 458 rfl) rfl (lv_at hl 0 rfl) ?_
    refine lv_iload_n hx hb (zdt zkL_law 459 rfl) rfl (lv_at hl 3 rfl) ?_
    refine lv_iconst (v := Int32.ofInt 2) hx hb (zdt zkL_law 460 rfl) rfl ?_
    refine xi_iadd hx hb (zdt zkL_law 461 rfl) hf (fun v12 hf => ?_)
    refine xi_lld hx hb hX hbl hbA hS (zdt zkL_law 462 rfl) hf (fun v13 hf => ?_)
    refine xe_d5 hf (fun v14 v15 v16 a17 a18 hg hf => ?_)
    have hC : ([1, 14, 15] : List Nat).map (fun i => (wd_LW_law cA qa (zst σ [(3, v6), (30, v7)]) (zta τ [(2, a8), (38, a9)]))[i]?) = (wd_HM_terms cA (qa 13) (qa 14) (qa 15) (qa 16) (qa 17) (qa 18) (qa 19) (qa 20) (qa 21) (qa 22) (qa 23) (qa 24) (qa 25) (qa 26) (qa 27) (qa 28) (qa 29) (qa 30) (qa 31) (qa 32) (qa 33) (qa 34) (qa 35) (qa 36) (qa 37) (qa 38) (qa 39) (qa 40) (qa 41) (qa 42) (qa 43) (qa 44) (σ 6) (σ 7) (σ 8) (σ 9) (σ 10) (σ 11) (σ 12) (σ 13) (σ 14) (σ 15) (σ 16) (σ 17) (σ 18) (σ 19) (σ 20) (σ 21) (σ 22) (σ 23) (σ 24) (σ 25) (σ 4) (σ 5) (τ 3) (τ 4)).map some := rfl
    refine xv_afterI (ws' := (wd_LW_law cA qa (zst σ [(3, v6), (4, v15), (5, v16), (30, v7)]) (zta τ [(2, a8), (3, a17), (4, a18), (38, a9)]))) (isC := [1, 14, 15]) (ps := [none, some 0, none, none, none, none, none, none, none, none, none, none, none, none, some 1, some 2, none, none, none, none, none, none, none, none, none, none, none, none, none, none, none, none, none, none, none, none, none, none, none, none, none, none, none, none, none, none, none, none, none, none, none, none, none, none, none, none, none, none, none, none, none, none, none, none, none, none, none, none, none, none, none, none, none, none, none, none, none, none, none, none, none, none, none, none, none, none, none, none, none, none, none, none, none, none, none, none, none, none, none, none, none, none, none, none, none, none, none, none, none, none, none, none, none, none]) (va_runV (As := [.int (Int32.ofInt v11), .int (Int32.ofInt v13)]) (rest := []) ⟨hx, hb, hml, hown, hts⟩ (c_HM_terms l ev dC dI cA (qa 13) (qa 14) (qa 15) (qa 16) (qa 17) (qa 18) (qa 19) (qa 20) (qa 21) (qa 22) (qa 23) (qa 24) (qa 25) (qa 26) (qa 27) (qa 28) (qa 29) (qa 30) (qa 31) (qa 32) (qa 33) (qa 34) (qa 35) (qa 36) (qa 37) (qa 38) (qa 39) (qa 40) (qa 41) (qa 42) (qa 43) (qa 44) ((σ 6)) ((σ 7)) ((σ 8)) ((σ 9)) ((σ 10)) ((σ 11)) ((σ 12)) ((σ 13)) ((σ 14)) ((σ 15)) ((σ 16)) ((σ 17)) ((σ 18)) ((σ 19)) ((σ 20)) ((σ 21)) ((σ 22)) ((σ 23)) ((σ 24)) ((σ 25)) hg H.size) (cwV 2 hts (zgVL zw_1398 zw_1399 zw_1400 zw_115 zw_1401) rfl rfl rfl hd_HM_terms ⟨Nat.le_of_ble_eq_true rfl, Nat.le_of_ble_eq_true rfl⟩) (xv_preV (T := TX11) (N := 53) hE hA hS hK hP hD (isC := [1, 14, 15]) (by decide +kernel) hC (q0 := 1) (ci := 11) rfl rfl) rfl rfl hl.1 rfl (lv_room (Nat.le_of_ble_eq_true rfl)) (zdt zkL_law 463 rfl) ⟨Nat.le_refl _, Nat.le_refl _⟩) hP hD hS hA (by decide +kernel) rfl hC rfl rfl (fun H locs hP hD hS => ?_)
    refine lv_pop hx hb (zdt zkL_law 466 rfl) rfl ?_
    refine lv_goto (tgt := 1304) hx hb (zdt zkL_law 467 rfl) (by decide) ?_
    exact b_1304 _ ih18 _ _ _ _ _ _ hf hP hD hS (lv_sub hl [0, 1, 2, 3] rfl)
  have b_470 : ∀ (k18 : Int → (Nat → Int) → (Nat → Nat → Int) → Option (Int)) (_ : ∀ (x3 : Int) (σ : Nat → Int) (τ : Nat → Nat → Int) (H : Heap) (locs : List Loc) (ls : Array Slot), k18 x3 σ τ = some 1 → va_P (dC, dI) vwCl (wd_LW_law cA qa σ τ) H → va_D A (wd_LW_law cA qa σ τ) → va_S A s.heap H locs → lv_has ls 4 [(0, .ref b), (1, .ref (qa 0)), (2, .ref (qa 13)), (3, .int (Int32.ofInt x3))] → W p l e room_1 s m #[Value.ref b] below meth c H locs 600000 7302250 (lw_Z below #[Value.ref b] s) (F0 m 18 ls [])), ∀ (x3 : Int) (σ : Nat → Int) (τ : Nat → Nat → Int) (H : Heap) (locs : List Loc) (ls : Array Slot), ga_LW_law_470 L (fun j => (xs j).toInt) k18 x3 σ τ = some 1 → va_P (dC, dI) vwCl (wd_LW_law cA qa σ τ) H → va_D A (wd_LW_law cA qa σ τ) → va_S A s.heap H locs → lv_has ls 4 [(0, .ref b), (1, .ref (qa 0)), (2, .ref (qa 13)), (3, .int (Int32.ofInt x3))] → W p l e room_1 s m #[Value.ref b] below meth c H locs 600000 7302250 (lw_Z below #[Value.ref b] s) (F0 m 470 ls []) := by
    intro k18 ih18 x3 σ τ H locs ls hf hP hD hS hl
    unfold ga_LW_law_470 at hf
    refine lv_aload_n hx hb (zdt zkL_law 470 rfl) rfl (lv_at hl 1 rfl) ?_
    refine lv_aload_n hx hb (zdt zkL_law 471 rfl) rfl (lv_at hl 0 rfl) ?_
    refine lv_iload_n hx hb (zdt zkL_law 472 rfl) rfl (lv_at hl 3 rfl) ?_
    refine lv_iconst (v := Int32.ofInt 1) hx hb (zdt zkL_law 473 rfl) rfl ?_
    refine xi_iadd hx hb (zdt zkL_law 474 rfl) hf (fun v1 hf => ?_)
    refine xi_lld hx hb hX hbl hbA hS (zdt zkL_law 475 rfl) hf (fun v2 hf => ?_)
    refine lv_aload_n hx hb (zdt zkL_law 476 rfl) rfl (lv_at hl 0 rfl) ?_
    refine lv_iload_n hx hb (zdt zkL_law 477 rfl) rfl (lv_at hl 3 rfl) ?_
    refine lv_iconst (v := Int32.ofInt 2) hx hb (zdt zkL_law 478 rfl) rfl ?_
    refine xi_iadd hx hb (zdt zkL_law 479 rfl) hf (fun v3 hf => ?_)
    refine xi_lld hx hb hX hbl hbA hS (zdt zkL_law 480 rfl) hf (fun v4 hf => ?_)
    refine lv_aload_n hx hb (zdt zkL_law 481 rfl) rfl (lv_at hl 0 rfl) ?_
    refine lv_iload_n hx hb (zdt zkL_law 482 rfl) rfl (lv_at hl 3 rfl) ?_
    refine lv_iconst (v := Int32.ofInt 3) hx hb (zdt zkL_law 483 rfl) rfl ?_
    refine xi_iadd hx hb (zdt zkL_law 484 rfl) hf (fun v5 hf => ?_)
    refine xi_lld hx hb hX hbl hbA hS (zdt zkL_law 485 rfl) hf (fun v6 hf => ?_)
    refine lv_aload_n hx hb (zdt zkL_law 486 rfl) rfl (lv_at hl 0 rfl) ?_
    refine lv_iload_n hx hb (zdt zkL_law 487 rfl) rfl (lv_at hl 3 rfl) ?_
    refine lv_iconst (v := Int32.ofInt 4) hx hb (zdt zkL_law 488 rfl) rfl ?_
    refine xi_iadd hx hb (zdt zkL_law 489 rfl) hf (fun v7 hf => ?_)
    refine xi_lld hx hb hX hbl hbA hS (zdt zkL_law 490 rfl) hf (fun v8 hf => ?_)
    refine lv_aload_n hx hb (zdt zkL_law 491 rfl) rfl (lv_at hl 0 rfl) ?_
    refine lv_iload_n hx hb (zdt zkL_law 492 rfl) rfl (lv_at hl 3 rfl) ?_
    refine lv_iconst (v := Int32.ofInt 5) hx hb (zdt zkL_law 493 rfl) rfl ?_
    refine xi_iadd hx hb (zdt zkL_law 494 rfl) hf (fun v9 hf => ?_)
    refine xi_lld hx hb hX hbl hbA hS (zdt zkL_law 495 rfl) hf (fun v10 hf => ?_)
    refine xe_d3 hf (fun v11 v12 a13 hg hf => ?_)
    have hC : ([0, 5] : List Nat).map (fun i => (wd_LW_law cA qa σ τ)[i]?) = (wd_HS_feed cA (qa 0) (qa 1) (qa 2) (qa 3) (qa 4) (qa 5) (qa 6) (qa 7) (qa 8) (qa 9) (qa 10) (qa 11) (qa 12) (σ 1) (σ 2) (σ 3) (σ 0) (τ 1)).map some := rfl
    refine xv_afterI (ws' := (wd_LW_law cA qa (zst σ [(0, v12)]) (zta τ [(1, a13)]))) (isC := [0, 5]) (ps := [some 0, none, none, none, none, some 1, none, none, none, none, none, none, none, none, none, none, none, none, none, none, none, none, none, none, none, none, none, none, none, none, none, none, none, none, none, none, none, none, none, none, none, none, none, none, none, none, none, none, none, none, none, none, none, none, none, none, none, none, none, none, none, none, none, none, none, none, none, none, none, none, none, none, none, none, none, none, none, none, none, none, none, none, none, none, none, none, none, none, none, none, none, none, none, none, none, none, none, none, none, none, none, none, none, none, none, none, none, none, none, none, none, none, none, none]) (va_runV (As := [.int (Int32.ofInt v2), .int (Int32.ofInt v4), .int (Int32.ofInt v6), .int (Int32.ofInt v8), .int (Int32.ofInt v10)]) (rest := []) ⟨hx, hb, hml, hown, hts⟩ (c_HS_feed l ev dC dI cA (qa 0) (qa 1) (qa 2) (qa 3) (qa 4) (qa 5) (qa 6) (qa 7) (qa 8) (qa 9) (qa 10) (qa 11) (qa 12) ((σ 1)) ((σ 2)) ((σ 3)) hg H.size) (cwV 5 hts (zgVL zw_622 zw_623 zw_624 zw_104 zw_625) rfl rfl rfl hd_HS_feed ⟨Nat.le_of_ble_eq_true rfl, Nat.le_of_ble_eq_true rfl⟩) (xv_preV (T := TX10) (N := 16) hE hA hS hK hP hD (isC := [0, 5]) (by decide +kernel) hC (q0 := 0) (ci := 10) rfl rfl) rfl rfl hl.1 rfl (lv_room (Nat.le_of_ble_eq_true rfl)) (zdt zkL_law 496 rfl) ⟨Nat.le_refl _, Nat.le_refl _⟩) hP hD hS hA (by decide +kernel) rfl hC rfl rfl (fun H locs hP hD hS => ?_)
    refine lv_pop hx hb (zdt zkL_law 499 rfl) rfl ?_
    refine lv_aload_n hx hb (zdt zkL_law 500 rfl) rfl (lv_at hl 2 rfl) ?_
    refine lv_aload_n hx hb (zdt zkL_law 501 rfl) rfl (lv_at hl 0 rfl) ?_
    refine lv_iload_n hx hb (zdt zkL_law 502 rfl) rfl (lv_at hl 3 rfl) ?_
    refine lv_iconst (v := Int32.ofInt 1) hx hb (zdt zkL_law 503 rfl) rfl ?_
    refine xi_iadd hx hb (zdt zkL_law 504 rfl) hf (fun v14 hf => ?_)
    refine xi_lld hx hb hX hbl hbA hS (zdt zkL_law 505 rfl) hf (fun v15 hf => ?_)
    refine lv_aload_n hx hb (zdt zkL_law 506 rfl) rfl (lv_at hl 0 rfl) ?_
    refine lv_iload_n hx hb (zdt zkL_law 507 rfl) rfl (lv_at hl 3 rfl) ?_
    refine lv_iconst (v := Int32.ofInt 2) hx hb (zdt zkL_law 508 rfl) rfl ?_
    refine xi_iadd hx hb (zdt zkL_law 509 rfl) hf (fun v16 hf => ?_)
    refine xi_lld hx hb hX hbl hbA hS (zdt zkL_law 510 rfl) hf (fun v17 hf => ?_)
    refine lv_aload_n hx hb (zdt zkL_law 511 rfl) rfl (lv_at hl 0 rfl) ?_
    refine lv_iload_n hx hb (zdt zkL_law 512 rfl) rfl (lv_at hl 3 rfl) ?_
    refine lv_iconst (v := Int32.ofInt 3) hx hb (zdt zkL_law 513 rfl) rfl ?_
    refine xi_iadd hx hb (zdt zkL_law 514 rfl) hf (fun v18 hf => ?_)
    refine xi_lld hx hb hX hbl hbA hS (zdt zkL_law 515 rfl) hf (fun v19 hf => ?_)
    refine lv_aload_n hx hb (zdt zkL_law 516 rfl) rfl (lv_at hl 0 rfl) ?_
    refine lv_iload_n hx hb (zdt zkL_law 517 rfl) rfl (lv_at hl 3 rfl) ?_
    refine lv_iconst (v := Int32.ofInt 4) hx hb (zdt zkL_law 518 rfl) rfl ?_
    refine xi_iadd hx hb (zdt zkL_law 519 rfl) hf (fun v20 hf => ?_)
    refine xi_lld hx hb hX hbl hbA hS (zdt zkL_law 520 rfl) hf (fun v21 hf => ?_)
    refine lv_aload_n hx hb (zdt zkL_law 521 rfl) rfl (lv_at hl 0 rfl) ?_
    refine lv_iload_n hx hb (zdt zkL_law 522 rfl) rfl (lv_at hl 3 rfl) ?_
    refine lv_iconst (v := Int32.ofInt 5) hx hb (zdt zkL_law 523 rfl) rfl ?_
    refine xi_iadd hx hb (zdt zkL_law 524 rfl) hf (fun v22 hf => ?_)
    refine xi_lld hx hb hX hbl hbA hS (zdt zkL_law 525 rfl) hf (fun v23 hf => ?_)
    refine xe_d4 hf (fun v24 v25 v26 a27 hg hf => ?_)
    have hC : ([1, 18] : List Nat).map (fun i => (wd_LW_law cA qa (zst σ [(0, v12)]) (zta τ [(1, a13)]))[i]?) = (wd_HM_feed cA (qa 13) (qa 14) (qa 15) (qa 16) (qa 17) (qa 18) (qa 19) (qa 20) (qa 21) (qa 22) (qa 23) (qa 24) (qa 25) (qa 26) (qa 27) (qa 28) (qa 29) (qa 30) (qa 31) (qa 32) (qa 33) (qa 34) (qa 35) (qa 36) (qa 37) (qa 38) (qa 39) (qa 40) (qa 41) (qa 42) (qa 43) (qa 44) (σ 5) (σ 6) (σ 8) (σ 9) (σ 10) (σ 11) (σ 12) (σ 13) (σ 14) (σ 15) (σ 16) (σ 17) (σ 18) (σ 19) (σ 20) (σ 21) (σ 22) (σ 23) (σ 24) (σ 25) (σ 4) (σ 7) (τ 7)).map some := rfl
    refine xv_afterI (ws' := (wd_LW_law cA qa (zst σ [(0, v12), (4, v25), (7, v26)]) (zta τ [(1, a13), (7, a27)]))) (isC := [1, 18]) (ps := [none, some 0, none, none, none, none, none, none, none, none, none, none, none, none, none, none, none, none, some 1, none, none, none, none, none, none, none, none, none, none, none, none, none, none, none, none, none, none, none, none, none, none, none, none, none, none, none, none, none, none, none, none, none, none, none, none, none, none, none, none, none, none, none, none, none, none, none, none, none, none, none, none, none, none, none, none, none, none, none, none, none, none, none, none, none, none, none, none, none, none, none, none, none, none, none, none, none, none, none, none, none, none, none, none, none, none, none, none, none, none, none, none, none, none, none]) (va_runV (As := [.int (Int32.ofInt v15), .int (Int32.ofInt v17), .int (Int32.ofInt v19), .int (Int32.ofInt v21), .int (Int32.ofInt v23)]) (rest := []) ⟨hx, hb, hml, hown, hts⟩ (c_HM_feed l ev dC dI cA (qa 13) (qa 14) (qa 15) (qa 16) (qa 17) (qa 18) (qa 19) (qa 20) (qa 21) (qa 22) (qa 23) (qa 24) (qa 25) (qa 26) (qa 27) (qa 28) (qa 29) (qa 30) (qa 31) (qa 32) (qa 33) (qa 34) (qa 35) (qa 36) (qa 37) (qa 38) (qa 39) (qa 40) (qa 41) (qa 42) (qa 43) (qa 44) ((σ 5)) ((σ 6)) ((σ 8)) ((σ 9)) ((σ 10)) ((σ 11)) ((σ 12)) ((σ 13)) ((σ 14)) ((σ 15)) ((σ 16)) ((σ 17)) ((σ 18)) ((σ 19)) ((σ 20)) ((σ 21)) ((σ 22)) ((σ 23)) ((σ 24)) ((σ 25)) hg H.size) (cwV 5 hts (zgVL zw_1415 zw_1416 zw_1417 zw_115 zw_1418) rfl rfl rfl hd_HM_feed ⟨Nat.le_of_ble_eq_true rfl, Nat.le_of_ble_eq_true rfl⟩) (xv_preV (T := TX11) (N := 53) hE hA hS hK hP hD (isC := [1, 18]) (by decide +kernel) hC (q0 := 1) (ci := 11) rfl rfl) rfl rfl hl.1 rfl (lv_room (Nat.le_of_ble_eq_true rfl)) (zdt zkL_law 526 rfl) ⟨Nat.le_refl _, Nat.le_refl _⟩) hP hD hS hA (by decide +kernel) rfl hC rfl rfl (fun H locs hP hD hS => ?_)
    refine lv_pop hx hb (zdt zkL_law 529 rfl) rfl ?_
    refine lv_goto (tgt := 1304) hx hb (zdt zkL_law 530 rfl) (by decide) ?_
    exact b_1304 _ ih18 _ _ _ _ _ _ hf hP hD hS (lv_sub hl [0, 1, 2, 3] rfl)
  have b_533 : ∀ (k18 : Int → (Nat → Int) → (Nat → Nat → Int) → Option (Int)) (_ : ∀ (x3 : Int) (σ : Nat → Int) (τ : Nat → Nat → Int) (H : Heap) (locs : List Loc) (ls : Array Slot), k18 x3 σ τ = some 1 → va_P (dC, dI) vwCl (wd_LW_law cA qa σ τ) H → va_D A (wd_LW_law cA qa σ τ) → va_S A s.heap H locs → lv_has ls 4 [(0, .ref b), (1, .ref (qa 0)), (2, .ref (qa 13)), (3, .int (Int32.ofInt x3))] → W p l e room_1 s m #[Value.ref b] below meth c H locs 600000 7302250 (lw_Z below #[Value.ref b] s) (F0 m 18 ls [])), ∀ (x3 : Int) (σ : Nat → Int) (τ : Nat → Nat → Int) (H : Heap) (locs : List Loc) (ls : Array Slot), ga_LW_law_533 L (fun j => (xs j).toInt) k18 x3 σ τ = some 1 → va_P (dC, dI) vwCl (wd_LW_law cA qa σ τ) H → va_D A (wd_LW_law cA qa σ τ) → va_S A s.heap H locs → lv_has ls 4 [(0, .ref b), (1, .ref (qa 0)), (2, .ref (qa 13)), (3, .int (Int32.ofInt x3))] → W p l e room_1 s m #[Value.ref b] below meth c H locs 600000 7302250 (lw_Z below #[Value.ref b] s) (F0 m 533 ls []) := by
    intro k18 ih18 x3 σ τ H locs ls hf hP hD hS hl
    unfold ga_LW_law_533 at hf
    refine lv_aload_n hx hb (zdt zkL_law 533 rfl) rfl (lv_at hl 1 rfl) ?_
    refine lv_aload_n hx hb (zdt zkL_law 534 rfl) rfl (lv_at hl 0 rfl) ?_
    refine lv_iload_n hx hb (zdt zkL_law 535 rfl) rfl (lv_at hl 3 rfl) ?_
    refine lv_iconst (v := Int32.ofInt 1) hx hb (zdt zkL_law 536 rfl) rfl ?_
    refine xi_iadd hx hb (zdt zkL_law 537 rfl) hf (fun v1 hf => ?_)
    refine xi_lld hx hb hX hbl hbA hS (zdt zkL_law 538 rfl) hf (fun v2 hf => ?_)
    refine xe_d2 hf (fun v3 v4 hg hf => ?_)
    have hC : ([0] : List Nat).map (fun i => (wd_LW_law cA qa σ τ)[i]?) = (wd_HS_end cA (qa 0) (qa 1) (qa 2) (qa 3) (qa 4) (qa 5) (qa 6) (qa 7) (qa 8) (qa 9) (qa 10) (qa 11) (qa 12) (σ 1) (σ 2) (σ 3) (σ 0)).map some := rfl
    refine xv_afterI (ws' := (wd_LW_law cA qa (zst σ [(0, v4)]) τ)) (isC := [0]) (ps := [some 0, none, none, none, none, none, none, none, none, none, none, none, none, none, none, none, none, none, none, none, none, none, none, none, none, none, none, none, none, none, none, none, none, none, none, none, none, none, none, none, none, none, none, none, none, none, none, none, none, none, none, none, none, none, none, none, none, none, none, none, none, none, none, none, none, none, none, none, none, none, none, none, none, none, none, none, none, none, none, none, none, none, none, none, none, none, none, none, none, none, none, none, none, none, none, none, none, none, none, none, none, none, none, none, none, none, none, none, none, none, none, none, none, none]) (va_runV (As := [.int (Int32.ofInt v2)]) (rest := []) ⟨hx, hb, hml, hown, hts⟩ (c_HS_end l ev dC dI cA (qa 0) (qa 1) (qa 2) (qa 3) (qa 4) (qa 5) (qa 6) (qa 7) (qa 8) (qa 9) (qa 10) (qa 11) (qa 12) ((σ 1)) ((σ 2)) ((σ 3)) hg H.size) (cwV 1 hts (zgVL zw_630 zw_631 zw_632 zw_104 zw_633) rfl rfl rfl hd_HS_end ⟨Nat.le_of_ble_eq_true rfl, Nat.le_of_ble_eq_true rfl⟩) (xv_preV (T := TX10) (N := 16) hE hA hS hK hP hD (isC := [0]) (by decide +kernel) hC (q0 := 0) (ci := 10) rfl rfl) rfl rfl hl.1 rfl (lv_room (Nat.le_of_ble_eq_true rfl)) (zdt zkL_law 539 rfl) ⟨Nat.le_refl _, Nat.le_refl _⟩) hP hD hS hA (by decide +kernel) rfl hC rfl rfl (fun H locs hP hD hS => ?_)
    refine lv_pop hx hb (zdt zkL_law 542 rfl) rfl ?_
    refine lv_aload_n hx hb (zdt zkL_law 543 rfl) rfl (lv_at hl 2 rfl) ?_
    refine lv_aload_n hx hb (zdt zkL_law 544 rfl) rfl (lv_at hl 0 rfl) ?_
    refine lv_iload_n hx hb (zdt zkL_law 545 rfl) rfl (lv_at hl 3 rfl) ?_
    refine lv_iconst (v := Int32.ofInt 1) hx hb (zdt zkL_law 546 rfl) rfl ?_
    refine xi_iadd hx hb (zdt zkL_law 547 rfl) hf (fun v5 hf => ?_)
    refine xi_lld hx hb hX hbl hbA hS (zdt zkL_law 548 rfl) hf (fun v6 hf => ?_)
    refine xe_d3 hf (fun v7 v8 v9 hg hf => ?_)
    have hC : ([1] : List Nat).map (fun i => (wd_LW_law cA qa (zst σ [(0, v4)]) τ)[i]?) = (wd_HM_end cA (qa 13) (qa 14) (qa 15) (qa 16) (qa 17) (qa 18) (qa 19) (qa 20) (qa 21) (qa 22) (qa 23) (qa 24) (qa 25) (qa 26) (qa 27) (qa 28) (qa 29) (qa 30) (qa 31) (qa 32) (qa 33) (qa 34) (qa 35) (qa 36) (qa 37) (qa 38) (qa 39) (qa 40) (qa 41) (qa 42) (qa 43) (qa 44) (σ 5) (σ 6) (σ 8) (σ 9) (σ 10) (σ 11) (σ 12) (σ 13) (σ 14) (σ 15) (σ 16) (σ 17) (σ 18) (σ 19) (σ 20) (σ 21) (σ 22) (σ 23) (σ 24) (σ 25) (σ 4) (σ 7)).map some := rfl
    refine xv_afterI (ws' := (wd_LW_law cA qa (zst σ [(0, v4), (4, v8), (7, v9)]) τ)) (isC := [1]) (ps := [none, some 0, none, none, none, none, none, none, none, none, none, none, none, none, none, none, none, none, none, none, none, none, none, none, none, none, none, none, none, none, none, none, none, none, none, none, none, none, none, none, none, none, none, none, none, none, none, none, none, none, none, none, none, none, none, none, none, none, none, none, none, none, none, none, none, none, none, none, none, none, none, none, none, none, none, none, none, none, none, none, none, none, none, none, none, none, none, none, none, none, none, none, none, none, none, none, none, none, none, none, none, none, none, none, none, none, none, none, none, none, none, none, none, none]) (va_runV (As := [.int (Int32.ofInt v6)]) (rest := []) ⟨hx, hb, hml, hown, hts⟩ (c_HM_end l ev dC dI cA (qa 13) (qa 14) (qa 15) (qa 16) (qa 17) (qa 18) (qa 19) (qa 20) (qa 21) (qa 22) (qa 23) (qa 24) (qa 25) (qa 26) (qa 27) (qa 28) (qa 29) (qa 30) (qa 31) (qa 32) (qa 33) (qa 34) (qa 35) (qa 36) (qa 37) (qa 38) (qa 39) (qa 40) (qa 41) (qa 42) (qa 43) (qa 44) ((σ 5)) ((σ 6)) ((σ 8)) ((σ 9)) ((σ 10)) ((σ 11)) ((σ 12)) ((σ 13)) ((σ 14)) ((σ 15)) ((σ 16)) ((σ 17)) ((σ 18)) ((σ 19)) ((σ 20)) ((σ 21)) ((σ 22)) ((σ 23)) ((σ 24)) ((σ 25)) hg H.size) (cwV 1 hts (zgVL zw_1423 zw_1424 zw_1425 zw_115 zw_1426) rfl rfl rfl hd_HM_end ⟨Nat.le_of_ble_eq_true rfl, Nat.le_of_ble_eq_true rfl⟩) (xv_preV (T := TX11) (N := 53) hE hA hS hK hP hD (isC := [1]) (by decide +kernel) hC (q0 := 1) (ci := 11) rfl rfl) rfl rfl hl.1 rfl (lv_room (Nat.le_of_ble_eq_true rfl)) (zdt zkL_law 549 rfl) ⟨Nat.le_refl _, Nat.le_refl _⟩) hP hD hS hA (by decide +kernel) rfl hC rfl rfl (fun H locs hP hD hS => ?_)
    refine lv_pop hx hb (zdt zkL_law 552 rfl) rfl ?_
    refine lv_goto (tgt := 1304) hx hb (zdt zkL_law 553 rfl) (by decide) ?_
    exact b_1304 _ ih18 _ _ _ _ _ _ hf hP hD hS (lv_sub hl [0, 1, 2, 3] rfl)
  have b_556 : ∀ (k18 : Int → (Nat → Int) → (Nat → Nat → Int) → Option (Int)) (_ : ∀ (x3 : Int) (σ : Nat → Int) (τ : Nat → Nat → Int) (H : Heap) (locs : List Loc) (ls : Array Slot), k18 x3 σ τ = some 1 → va_P (dC, dI) vwCl (wd_LW_law cA qa σ τ) H → va_D A (wd_LW_law cA qa σ τ) → va_S A s.heap H locs → lv_has ls 4 [(0, .ref b), (1, .ref (qa 0)), (2, .ref (qa 13)), (3, .int (Int32.ofInt x3))] → W p l e room_1 s m #[Value.ref b] below meth c H locs 600000 7302250 (lw_Z below #[Value.ref b] s) (F0 m 18 ls [])), ∀ (x3 : Int) (σ : Nat → Int) (τ : Nat → Nat → Int) (H : Heap) (locs : List Loc) (ls : Array Slot), ga_LW_law_556 L (fun j => (xs j).toInt) k18 x3 σ τ = some 1 → va_P (dC, dI) vwCl (wd_LW_law cA qa σ τ) H → va_D A (wd_LW_law cA qa σ τ) → va_S A s.heap H locs → lv_has ls 4 [(0, .ref b), (1, .ref (qa 0)), (2, .ref (qa 13)), (3, .int (Int32.ofInt x3))] → W p l e room_1 s m #[Value.ref b] below meth c H locs 600000 7302250 (lw_Z below #[Value.ref b] s) (F0 m 556 ls []) := by
    intro k18 ih18 x3 σ τ H locs ls hf hP hD hS hl
    unfold ga_LW_law_556 at hf
    refine lv_aload_n hx hb (zdt zkL_law 556 rfl) rfl (lv_at hl 1 rfl) ?_
    refine xe_d8 hf (fun v1 v2 v3 v4 v5 a6 a7 a8 hg hf => ?_)
    have hC : ([0, 2, 5, 6, 45, 80, 81] : List Nat).map (fun i => (wd_LW_law cA qa σ τ)[i]?) = (wd_HS_row cA (qa 0) (qa 1) (qa 2) (qa 3) (qa 4) (qa 5) (qa 6) (qa 7) (qa 8) (qa 9) (qa 10) (qa 11) (qa 12) (qa 45) (qa 46) (qa 47) (qa 48) (qa 49) (qa 50) (qa 51) (qa 52) (qa 53) (qa 80) (qa 81) (σ 1) (σ 26) (σ 27) (σ 28) (σ 29) (τ 1) (σ 49) (σ 0) (σ 2) (σ 3) (σ 30) (τ 2) (τ 63) (τ 64)).map some := rfl
    refine xv_afterI (ws' := (wd_LW_law cA qa (zst σ [(0, v2), (2, v3), (3, v4), (30, v5)]) (zta τ [(2, a6), (63, a7), (64, a8)]))) (isC := [0, 2, 5, 6, 45, 80, 81]) (ps := [some 0, none, some 1, none, none, some 2, some 3, none, none, none, none, none, none, none, none, none, none, none, none, none, none, none, none, none, none, none, none, none, none, none, none, none, none, none, none, none, none, none, none, none, none, none, none, none, none, some 4, none, none, none, none, none, none, none, none, none, none, none, none, none, none, none, none, none, none, none, none, none, none, none, none, none, none, none, none, none, none, none, none, none, none, some 5, some 6, none, none, none, none, none, none, none, none, none, none, none, none, none, none, none, none, none, none, none, none, none, none, none, none, none, none, none, none, none, none, none, none]) (va_runV (As := []) (rest := []) ⟨hx, hb, hml, hown, hts⟩ (c_HS_row l ev dC dI cA (qa 0) (qa 1) (qa 2) (qa 3) (qa 4) (qa 5) (qa 6) (qa 7) (qa 8) (qa 9) (qa 10) (qa 11) (qa 12) (qa 45) (qa 46) (qa 47) (qa 48) (qa 49) (qa 50) (qa 51) (qa 52) (qa 53) (qa 80) (qa 81) ((σ 1)) ((σ 26)) ((σ 27)) ((σ 28)) ((σ 29)) hg H.size) (cwV 0 hts (zgVL zw_634 zw_635 zw_636 zw_104 zw_637) rfl rfl rfl hd_HS_row ⟨Nat.le_of_ble_eq_true rfl, Nat.le_of_ble_eq_true rfl⟩) (xv_preV (T := TX10) (N := 16) hE hA hS hK hP hD (isC := [0, 2, 5, 6, 45, 80, 81]) (by decide +kernel) hC (q0 := 0) (ci := 10) rfl rfl) rfl rfl hl.1 rfl (lv_room (Nat.le_of_ble_eq_true rfl)) (zdt zkL_law 557 rfl) ⟨Nat.le_refl _, Nat.le_refl _⟩) hP hD hS hA (by decide +kernel) rfl hC rfl rfl (fun H locs hP hD hS => ?_)
    refine lv_aload_n hx hb (zdt zkL_law 560 rfl) rfl (lv_at hl 2 rfl) ?_
    refine xe_d7 hf (fun v9 v10 v11 v12 v13 a14 a15 hg hf => ?_)
    have hC : ([1, 14, 15, 18] : List Nat).map (fun i => (wd_LW_law cA qa (zst σ [(0, v2), (2, v3), (3, v4), (30, v5)]) (zta τ [(2, a6), (63, a7), (64, a8)]))[i]?) = (wd_HM_row cA (qa 13) (qa 14) (qa 15) (qa 16) (qa 17) (qa 18) (qa 19) (qa 20) (qa 21) (qa 22) (qa 23) (qa 24) (qa 25) (qa 26) (qa 27) (qa 28) (qa 29) (qa 30) (qa 31) (qa 32) (qa 33) (qa 34) (qa 35) (qa 36) (qa 37) (qa 38) (qa 39) (qa 40) (qa 41) (qa 42) (qa 43) (qa 44) (σ 8) (σ 9) (σ 10) (σ 11) (σ 12) (σ 13) (σ 14) (σ 15) (σ 16) (σ 17) (σ 18) (σ 19) (σ 20) (σ 21) (σ 22) (σ 23) (σ 24) (σ 25) (τ 7) (σ 4) (σ 5) (σ 6) (σ 7) (τ 3) (τ 4)).map some := rfl
    refine xv_afterI (ws' := (wd_LW_law cA qa (zst σ [(0, v2), (2, v3), (3, v4), (4, v10), (5, v11), (6, v12), (7, v13), (30, v5)]) (zta τ [(2, a6), (3, a14), (4, a15), (63, a7), (64, a8)]))) (isC := [1, 14, 15, 18]) (ps := [none, some 0, none, none, none, none, none, none, none, none, none, none, none, none, some 1, some 2, none, none, some 3, none, none, none, none, none, none, none, none, none, none, none, none, none, none, none, none, none, none, none, none, none, none, none, none, none, none, none, none, none, none, none, none, none, none, none, none, none, none, none, none, none, none, none, none, none, none, none, none, none, none, none, none, none, none, none, none, none, none, none, none, none, none, none, none, none, none, none, none, none, none, none, none, none, none, none, none, none, none, none, none, none, none, none, none, none, none, none, none, none, none, none, none, none, none, none]) (va_runV (As := []) (rest := [.int (Int32.ofInt v1)]) ⟨hx, hb, hml, hown, hts⟩ (c_HM_row l ev dC dI cA (qa 13) (qa 14) (qa 15) (qa 16) (qa 17) (qa 18) (qa 19) (qa 20) (qa 21) (qa 22) (qa 23) (qa 24) (qa 25) (qa 26) (qa 27) (qa 28) (qa 29) (qa 30) (qa 31) (qa 32) (qa 33) (qa 34) (qa 35) (qa 36) (qa 37) (qa 38) (qa 39) (qa 40) (qa 41) (qa 42) (qa 43) (qa 44) ((σ 8)) ((σ 9)) ((σ 10)) ((σ 11)) ((σ 12)) ((σ 13)) ((σ 14)) ((σ 15)) ((σ 16)) ((σ 17)) ((σ 18)) ((σ 19)) ((σ 20)) ((σ 21)) ((σ 22)) ((σ 23)) ((σ 24)) ((σ 25)) hg H.size) (cwV 0 hts (zgVL zw_1407 zw_1408 zw_1409 zw_115 zw_1410) rfl rfl rfl hd_HM_row ⟨Nat.le_of_ble_eq_true rfl, Nat.le_of_ble_eq_true rfl⟩) (xv_preV (T := TX11) (N := 53) hE hA hS hK hP hD (isC := [1, 14, 15, 18]) (by decide +kernel) hC (q0 := 1) (ci := 11) rfl rfl) rfl rfl hl.1 rfl (lv_room (Nat.le_of_ble_eq_true rfl)) (zdt zkL_law 561 rfl) ⟨Nat.le_refl _, Nat.le_refl _⟩) hP hD hS hA (by decide +kernel) rfl hC rfl rfl (fun H locs hP hD hS => ?_)
    refine xi_icmp_eq (tgt := 1304) hx hb (zdt zkL_law 564 rfl) (by decide) hf (fun hf => ?_) (fun hf => ?_)
    · exact b_1304 _ ih18 _ _ _ _ _ _ hf hP hD hS (lv_sub hl [0, 1, 2, 3] rfl)
    · refine lv_iconst (v := Int32.ofInt 0) hx hb (zdt zkL_law 567 rfl) rfl ?_
      exact absurd hf (by decide)
  have b_569 : ∀ (k18 : Int → (Nat → Int) → (Nat → Nat → Int) → Option (Int)) (_ : ∀ (x3 : Int) (σ : Nat → Int) (τ : Nat → Nat → Int) (H : Heap) (locs : List Loc) (ls : Array Slot), k18 x3 σ τ = some 1 → va_P (dC, dI) vwCl (wd_LW_law cA qa σ τ) H → va_D A (wd_LW_law cA qa σ τ) → va_S A s.heap H locs → lv_has ls 4 [(0, .ref b), (1, .ref (qa 0)), (2, .ref (qa 13)), (3, .int (Int32.ofInt x3))] → W p l e room_1 s m #[Value.ref b] below meth c H locs 600000 7302250 (lw_Z below #[Value.ref b] s) (F0 m 18 ls [])), ∀ (x3 : Int) (σ : Nat → Int) (τ : Nat → Nat → Int) (H : Heap) (locs : List Loc) (ls : Array Slot), ga_LW_law_569 L (fun j => (xs j).toInt) k18 x3 σ τ = some 1 → va_P (dC, dI) vwCl (wd_LW_law cA qa σ τ) H → va_D A (wd_LW_law cA qa σ τ) → va_S A s.heap H locs → lv_has ls 4 [(0, .ref b), (1, .ref (qa 0)), (2, .ref (qa 13)), (3, .int (Int32.ofInt x3))] → W p l e room_1 s m #[Value.ref b] below meth c H locs 600000 7302250 (lw_Z below #[Value.ref b] s) (F0 m 569 ls []) := by
    intro k18 ih18 x3 σ τ H locs ls hf hP hD hS hl
    unfold ga_LW_law_569 at hf
    refine lv_aload_n hx hb (zdt zkL_law 569 rfl) rfl (lv_at hl 1 rfl) ?_
    refine xe_d1 hf (fun v1 hg hf => ?_)
    have hC : ([0] : List Nat).map (fun i => (wd_LW_law cA qa σ τ)[i]?) = (wd_HS_gravel cA (qa 0) (qa 1) (qa 2) (qa 3) (qa 4) (qa 5) (qa 6) (qa 7) (qa 8) (qa 9) (qa 10) (qa 11) (qa 12) (σ 0) (σ 1) (σ 3) (σ 2)).map some := rfl
    refine xv_afterI (ws' := (wd_LW_law cA qa σ τ)) (isC := [0]) (ps := [some 0, none, none, none, none, none, none, none, none, none, none, none, none, none, none, none, none, none, none, none, none, none, none, none, none, none, none, none, none, none, none, none, none, none, none, none, none, none, none, none, none, none, none, none, none, none, none, none, none, none, none, none, none, none, none, none, none, none, none, none, none, none, none, none, none, none, none, none, none, none, none, none, none, none, none, none, none, none, none, none, none, none, none, none, none, none, none, none, none, none, none, none, none, none, none, none, none, none, none, none, none, none, none, none, none, none, none, none, none, none, none, none, none, none]) (va_runV (As := []) (rest := []) ⟨hx, hb, hml, hown, hts⟩ (c_HS_gravel l ev dC dI cA (qa 0) (qa 1) (qa 2) (qa 3) (qa 4) (qa 5) (qa 6) (qa 7) (qa 8) (qa 9) (qa 10) (qa 11) (qa 12) ((σ 0)) ((σ 1)) ((σ 3)) hg H.size) (cwV 0 hts (zgVL zw_638 zw_639 zw_640 zw_104 zw_641) rfl rfl rfl hd_HS_gravel ⟨Nat.le_of_ble_eq_true rfl, Nat.le_of_ble_eq_true rfl⟩) (xv_preV (T := TX10) (N := 16) hE hA hS hK hP hD (isC := [0]) (by decide +kernel) hC (q0 := 0) (ci := 10) rfl rfl) rfl rfl hl.1 rfl (lv_room (Nat.le_of_ble_eq_true rfl)) (zdt zkL_law 570 rfl) ⟨Nat.le_refl _, Nat.le_refl _⟩) hP hD hS hA (by decide +kernel) rfl hC rfl rfl (fun H locs hP hD hS => ?_)
    refine lv_pop hx hb (zdt zkL_law 573 rfl) rfl ?_
    refine lv_aload_n hx hb (zdt zkL_law 574 rfl) rfl (lv_at hl 2 rfl) ?_
    refine xe_d2 hf (fun v2 v3 hg hf => ?_)
    have hC : ([1] : List Nat).map (fun i => (wd_LW_law cA qa σ τ)[i]?) = (wd_HM_gravel cA (qa 13) (qa 14) (qa 15) (qa 16) (qa 17) (qa 18) (qa 19) (qa 20) (qa 21) (qa 22) (qa 23) (qa 24) (qa 25) (qa 26) (qa 27) (qa 28) (qa 29) (qa 30) (qa 31) (qa 32) (qa 33) (qa 34) (qa 35) (qa 36) (qa 37) (qa 38) (qa 39) (qa 40) (qa 41) (qa 42) (qa 43) (qa 44) (σ 5) (σ 7) (σ 8) (σ 9) (σ 10) (σ 11) (σ 12) (σ 13) (σ 14) (σ 15) (σ 16) (σ 17) (σ 18) (σ 19) (σ 20) (σ 21) (σ 22) (σ 23) (σ 24) (σ 25) (σ 6) (σ 4)).map some := rfl
    refine xv_afterI (ws' := (wd_LW_law cA qa (zst σ [(4, v3)]) τ)) (isC := [1]) (ps := [none, some 0, none, none, none, none, none, none, none, none, none, none, none, none, none, none, none, none, none, none, none, none, none, none, none, none, none, none, none, none, none, none, none, none, none, none, none, none, none, none, none, none, none, none, none, none, none, none, none, none, none, none, none, none, none, none, none, none, none, none, none, none, none, none, none, none, none, none, none, none, none, none, none, none, none, none, none, none, none, none, none, none, none, none, none, none, none, none, none, none, none, none, none, none, none, none, none, none, none, none, none, none, none, none, none, none, none, none, none, none, none, none, none, none]) (va_runV (As := []) (rest := []) ⟨hx, hb, hml, hown, hts⟩ (c_HM_gravel l ev dC dI cA (qa 13) (qa 14) (qa 15) (qa 16) (qa 17) (qa 18) (qa 19) (qa 20) (qa 21) (qa 22) (qa 23) (qa 24) (qa 25) (qa 26) (qa 27) (qa 28) (qa 29) (qa 30) (qa 31) (qa 32) (qa 33) (qa 34) (qa 35) (qa 36) (qa 37) (qa 38) (qa 39) (qa 40) (qa 41) (qa 42) (qa 43) (qa 44) ((σ 5)) ((σ 7)) ((σ 8)) ((σ 9)) ((σ 10)) ((σ 11)) ((σ 12)) ((σ 13)) ((σ 14)) ((σ 15)) ((σ 16)) ((σ 17)) ((σ 18)) ((σ 19)) ((σ 20)) ((σ 21)) ((σ 22)) ((σ 23)) ((σ 24)) ((σ 25)) hg H.size) (cwV 0 hts (zgVL zw_1411 zw_1412 zw_1413 zw_115 zw_1414) rfl rfl rfl hd_HM_gravel ⟨Nat.le_of_ble_eq_true rfl, Nat.le_of_ble_eq_true rfl⟩) (xv_preV (T := TX11) (N := 53) hE hA hS hK hP hD (isC := [1]) (by decide +kernel) hC (q0 := 1) (ci := 11) rfl rfl) rfl rfl hl.1 rfl (lv_room (Nat.le_of_ble_eq_true rfl)) (zdt zkL_law 575 rfl) ⟨Nat.le_refl _, Nat.le_refl _⟩) hP hD hS hA (by decide +kernel) rfl hC rfl rfl (fun H locs hP hD hS => ?_)
    refine lv_pop hx hb (zdt zkL_law 578 rfl) rfl ?_
    refine lv_goto (tgt := 1304) hx hb (zdt zkL_law 579 rfl) (by decide) ?_
    exact b_1304 _ ih18 _ _ _ _ _ _ hf hP hD hS (lv_sub hl [0, 1, 2, 3] rfl)
  have b_582 : ∀ (k18 : Int → (Nat → Int) → (Nat → Nat → Int) → Option (Int)) (_ : ∀ (x3 : Int) (σ : Nat → Int) (τ : Nat → Nat → Int) (H : Heap) (locs : List Loc) (ls : Array Slot), k18 x3 σ τ = some 1 → va_P (dC, dI) vwCl (wd_LW_law cA qa σ τ) H → va_D A (wd_LW_law cA qa σ τ) → va_S A s.heap H locs → lv_has ls 4 [(0, .ref b), (1, .ref (qa 0)), (2, .ref (qa 13)), (3, .int (Int32.ofInt x3))] → W p l e room_1 s m #[Value.ref b] below meth c H locs 600000 7302250 (lw_Z below #[Value.ref b] s) (F0 m 18 ls [])), ∀ (x3 : Int) (σ : Nat → Int) (τ : Nat → Nat → Int) (H : Heap) (locs : List Loc) (ls : Array Slot), ga_LW_law_582 L (fun j => (xs j).toInt) k18 x3 σ τ = some 1 → va_P (dC, dI) vwCl (wd_LW_law cA qa σ τ) H → va_D A (wd_LW_law cA qa σ τ) → va_S A s.heap H locs → lv_has ls 4 [(0, .ref b), (1, .ref (qa 0)), (2, .ref (qa 13)), (3, .int (Int32.ofInt x3))] → W p l e room_1 s m #[Value.ref b] below meth c H locs 600000 7302250 (lw_Z below #[Value.ref b] s) (F0 m 582 ls []) := by
    intro k18 ih18 x3 σ τ H locs ls hf hP hD hS hl
    unfold ga_LW_law_582 at hf
    refine lv_aload_n hx hb (zdt zkL_law 582 rfl) rfl (lv_at hl 1 rfl) ?_
    refine xe_d16 hf (fun v1 v2 v3 v4 v5 v6 a7 v8 v9 v10 a11 a12 a13 a14 a15 a16 hg hf => ?_)
    have hC : ([0, 2, 5, 6, 7, 52, 53, 56, 57, 58, 59] : List Nat).map (fun i => (wd_LW_law cA qa σ τ)[i]?) = (wd_HS_law cA (qa 0) (qa 1) (qa 2) (qa 3) (qa 4) (qa 5) (qa 6) (qa 7) (qa 8) (qa 9) (qa 10) (qa 11) (qa 12) (qa 45) (qa 46) (qa 47) (qa 48) (qa 49) (qa 50) (qa 51) (qa 52) (qa 53) (qa 56) (qa 57) (qa 58) (qa 59) (σ 2) (σ 26) (σ 27) (σ 29) (τ 1) (σ 0) (σ 1) (σ 3) (σ 28) (σ 30) (τ 2) (σ 31) (σ 32) (σ 33) (τ 40) (τ 41) (τ 42) (τ 43) (τ 44) (τ 45)).map some := rfl
    refine xv_afterI (ws' := (wd_LW_law cA qa (zst σ [(0, v2), (1, v3), (3, v4), (28, v5), (30, v6), (31, v8), (32, v9), (33, v10)]) (zta τ [(2, a7), (40, a11), (41, a12), (42, a13), (43, a14), (44, a15), (45, a16)]))) (isC := [0, 2, 5, 6, 7, 52, 53, 56, 57, 58, 59]) (ps := [some 0, none, some 1, none, none, some 2, some 3, some 4, none, none, none, none, none, none, none, none, none, none, none, none, none, none, none, none, none, none, none, none, none, none, none, none, none, none, none, none, none, none, none, none, none, none, none, none, none, none, none, none, none, none, none, none, some 5, some 6, none, none, some 7, some 8, some 9, some 10, none, none, none, none, none, none, none, none, none, none, none, none, none, none, none, none, none, none, none, none, none, none, none, none, none, none, none, none, none, none, none, none, none, none, none, none, none, none, none, none, none, none, none, none, none, none, none, none, none, none, none, none, none, none]) (va_runV (As := []) (rest := []) ⟨hx, hb, hml, hown, hts⟩ (c_HS_law l ev dC dI cA (qa 0) (qa 1) (qa 2) (qa 3) (qa 4) (qa 5) (qa 6) (qa 7) (qa 8) (qa 9) (qa 10) (qa 11) (qa 12) (qa 45) (qa 46) (qa 47) (qa 48) (qa 49) (qa 50) (qa 51) (qa 52) (qa 53) (qa 56) (qa 57) (qa 58) (qa 59) ((σ 2)) ((σ 26)) ((σ 27)) ((σ 29)) hg H.size) (cwV 0 hts (zgVL zw_642 zw_643 zw_644 zw_104 zw_645) rfl rfl rfl hd_HS_law ⟨Nat.le_of_ble_eq_true rfl, Nat.le_of_ble_eq_true rfl⟩) (xv_preV (T := TX10) (N := 16) hE hA hS hK hP hD (isC := [0, 2, 5, 6, 7, 52, 53, 56, 57, 58, 59]) (by decide +kernel) hC (q0 := 0) (ci := 10) rfl rfl) rfl rfl hl.1 rfl (lv_room (Nat.le_of_ble_eq_true rfl)) (zdt zkL_law 583 rfl) ⟨Nat.le_refl _, Nat.le_refl _⟩) hP hD hS hA (by decide +kernel) rfl hC rfl rfl (fun H locs hP hD hS => ?_)
    refine lv_pop hx hb (zdt zkL_law 586 rfl) rfl ?_
    refine lv_aload_n hx hb (zdt zkL_law 587 rfl) rfl (lv_at hl 2 rfl) ?_
    refine xe_d22 hf (fun v17 v18 v19 v20 v21 v22 v23 v24 v25 v26 v27 v28 v29 v30 v31 a32 a33 a34 a35 a36 a37 a38 hg hf => ?_)
    have hC : ([1, 14, 15, 18, 19, 20, 21, 22, 23, 24] : List Nat).map (fun i => (wd_LW_law cA qa (zst σ [(0, v2), (1, v3), (3, v4), (28, v5), (30, v6), (31, v8), (32, v9), (33, v10)]) (zta τ [(2, a7), (40, a11), (41, a12), (42, a13), (43, a14), (44, a15), (45, a16)]))[i]?) = (wd_HM_law cA (qa 13) (qa 14) (qa 15) (qa 16) (qa 17) (qa 18) (qa 19) (qa 20) (qa 21) (qa 22) (qa 23) (qa 24) (qa 25) (qa 26) (qa 27) (qa 28) (qa 29) (qa 30) (qa 31) (qa 32) (qa 33) (qa 34) (qa 35) (qa 36) (qa 37) (qa 38) (qa 39) (qa 40) (qa 41) (qa 42) (qa 43) (qa 44) (σ 6) (σ 19) (σ 20) (σ 21) (σ 22) (σ 23) (σ 24) (σ 25) (τ 7) (τ 13) (σ 4) (σ 5) (σ 7) (σ 8) (σ 9) (σ 10) (σ 11) (σ 12) (σ 13) (σ 14) (σ 15) (σ 16) (σ 17) (σ 18) (τ 3) (τ 4) (τ 8) (τ 9) (τ 10) (τ 11) (τ 12)).map some := rfl
    refine xv_afterI (ws' := (wd_LW_law cA qa (zst σ [(0, v2), (1, v3), (3, v4), (4, v18), (5, v19), (7, v20), (8, v21), (9, v22), (10, v23), (11, v24), (12, v25), (13, v26), (14, v27), (15, v28), (16, v29), (17, v30), (18, v31), (28, v5), (30, v6), (31, v8), (32, v9), (33, v10)]) (zta τ [(2, a7), (3, a32), (4, a33), (8, a34), (9, a35), (10, a36), (11, a37), (12, a38), (40, a11), (41, a12), (42, a13), (43, a14), (44, a15), (45, a16)]))) (isC := [1, 14, 15, 18, 19, 20, 21, 22, 23, 24]) (ps := [none, some 0, none, none, none, none, none, none, none, none, none, none, none, none, some 1, some 2, none, none, some 3, some 4, some 5, some 6, some 7, some 8, some 9, none, none, none, none, none, none, none, none, none, none, none, none, none, none, none, none, none, none, none, none, none, none, none, none, none, none, none, none, none, none, none, none, none, none, none, none, none, none, none, none, none, none, none, none, none, none, none, none, none, none, none, none, none, none, none, none, none, none, none, none, none, none, none, none, none, none, none, none, none, none, none, none, none, none, none, none, none, none, none, none, none, none, none, none, none, none, none, none, none]) (va_runV (As := []) (rest := []) ⟨hx, hb, hml, hown, hts⟩ (c_HM_law l ev dC dI cA (qa 13) (qa 14) (qa 15) (qa 16) (qa 17) (qa 18) (qa 19) (qa 20) (qa 21) (qa 22) (qa 23) (qa 24) (qa 25) (qa 26) (qa 27) (qa 28) (qa 29) (qa 30) (qa 31) (qa 32) (qa 33) (qa 34) (qa 35) (qa 36) (qa 37) (qa 38) (qa 39) (qa 40) (qa 41) (qa 42) (qa 43) (qa 44) ((σ 6)) ((σ 19)) ((σ 20)) ((σ 21)) ((σ 22)) ((σ 23)) ((σ 24)) ((σ 25)) hg H.size) (cwV 0 hts (zgVL zw_1431 zw_1432 zw_1433 zw_115 zw_1434) rfl rfl rfl hd_HM_law ⟨Nat.le_of_ble_eq_true rfl, Nat.le_of_ble_eq_true rfl⟩) (xv_preV (T := TX11) (N := 53) hE hA hS hK hP hD (isC := [1, 14, 15, 18, 19, 20, 21, 22, 23, 24]) (by decide +kernel) hC (q0 := 1) (ci := 11) rfl rfl) rfl rfl hl.1 rfl (lv_room (Nat.le_of_ble_eq_true rfl)) (zdt zkL_law 588 rfl) ⟨Nat.le_refl _, Nat.le_refl _⟩) hP hD hS hA (by decide +kernel) rfl hC rfl rfl (fun H locs hP hD hS => ?_)
    refine lv_pop hx hb (zdt zkL_law 591 rfl) rfl ?_
    refine lv_goto (tgt := 1304) hx hb (zdt zkL_law 592 rfl) (by decide) ?_
    exact b_1304 _ ih18 _ _ _ _ _ _ hf hP hD hS (lv_sub hl [0, 1, 2, 3] rfl)
  have b_595 : ∀ (k18 : Int → (Nat → Int) → (Nat → Nat → Int) → Option (Int)) (_ : ∀ (x3 : Int) (σ : Nat → Int) (τ : Nat → Nat → Int) (H : Heap) (locs : List Loc) (ls : Array Slot), k18 x3 σ τ = some 1 → va_P (dC, dI) vwCl (wd_LW_law cA qa σ τ) H → va_D A (wd_LW_law cA qa σ τ) → va_S A s.heap H locs → lv_has ls 4 [(0, .ref b), (1, .ref (qa 0)), (2, .ref (qa 13)), (3, .int (Int32.ofInt x3))] → W p l e room_1 s m #[Value.ref b] below meth c H locs 600000 7302250 (lw_Z below #[Value.ref b] s) (F0 m 18 ls [])), ∀ (x3 : Int) (σ : Nat → Int) (τ : Nat → Nat → Int) (H : Heap) (locs : List Loc) (ls : Array Slot), ga_LW_law_595 L (fun j => (xs j).toInt) k18 x3 σ τ = some 1 → va_P (dC, dI) vwCl (wd_LW_law cA qa σ τ) H → va_D A (wd_LW_law cA qa σ τ) → va_S A s.heap H locs → lv_has ls 4 [(0, .ref b), (1, .ref (qa 0)), (2, .ref (qa 13)), (3, .int (Int32.ofInt x3))] → W p l e room_1 s m #[Value.ref b] below meth c H locs 600000 7302250 (lw_Z below #[Value.ref b] s) (F0 m 595 ls []) := by
    intro k18 ih18 x3 σ τ H locs ls hf hP hD hS hl
    unfold ga_LW_law_595 at hf
    refine lv_aload_n hx hb (zdt zkL_law 595 rfl) rfl (lv_at hl 1 rfl) ?_
    refine xe_d1 hf (fun v1 hg hf => ?_)
    have hC : ([0] : List Nat).map (fun i => (wd_LW_law cA qa σ τ)[i]?) = (wd_HS_fault cA (qa 0) (qa 1) (qa 2) (qa 3) (qa 4) (qa 5) (qa 6) (qa 7) (qa 8) (qa 9) (qa 10) (qa 11) (qa 12) (σ 0) (σ 2) (σ 3) (σ 1)).map some := rfl
    refine xv_afterI (ws' := (wd_LW_law cA qa σ τ)) (isC := [0]) (ps := [some 0, none, none, none, none, none, none, none, none, none, none, none, none, none, none, none, none, none, none, none, none, none, none, none, none, none, none, none, none, none, none, none, none, none, none, none, none, none, none, none, none, none, none, none, none, none, none, none, none, none, none, none, none, none, none, none, none, none, none, none, none, none, none, none, none, none, none, none, none, none, none, none, none, none, none, none, none, none, none, none, none, none, none, none, none, none, none, none, none, none, none, none, none, none, none, none, none, none, none, none, none, none, none, none, none, none, none, none, none, none, none, none, none, none]) (va_runV (As := []) (rest := []) ⟨hx, hb, hml, hown, hts⟩ (c_HS_fault l ev dC dI cA (qa 0) (qa 1) (qa 2) (qa 3) (qa 4) (qa 5) (qa 6) (qa 7) (qa 8) (qa 9) (qa 10) (qa 11) (qa 12) ((σ 0)) ((σ 2)) ((σ 3)) hg H.size) (cwV 0 hts (zgVL zw_787 zw_788 zw_789 zw_104 zw_790) rfl rfl rfl hd_HS_fault ⟨Nat.le_of_ble_eq_true rfl, Nat.le_of_ble_eq_true rfl⟩) (xv_preV (T := TX10) (N := 16) hE hA hS hK hP hD (isC := [0]) (by decide +kernel) hC (q0 := 0) (ci := 10) rfl rfl) rfl rfl hl.1 rfl (lv_room (Nat.le_of_ble_eq_true rfl)) (zdt zkL_law 596 rfl) ⟨Nat.le_refl _, Nat.le_refl _⟩) hP hD hS hA (by decide +kernel) rfl hC rfl rfl (fun H locs hP hD hS => ?_)
    refine lv_pop hx hb (zdt zkL_law 599 rfl) rfl ?_
    refine lv_aload_n hx hb (zdt zkL_law 600 rfl) rfl (lv_at hl 2 rfl) ?_
    refine xe_d2 hf (fun v2 v3 hg hf => ?_)
    have hC : ([1] : List Nat).map (fun i => (wd_LW_law cA qa σ τ)[i]?) = (wd_HM_fault cA (qa 13) (qa 14) (qa 15) (qa 16) (qa 17) (qa 18) (qa 19) (qa 20) (qa 21) (qa 22) (qa 23) (qa 24) (qa 25) (qa 26) (qa 27) (qa 28) (qa 29) (qa 30) (qa 31) (qa 32) (qa 33) (qa 34) (qa 35) (qa 36) (qa 37) (qa 38) (qa 39) (qa 40) (qa 41) (qa 42) (qa 43) (qa 44) (σ 5) (σ 6) (σ 7) (σ 8) (σ 9) (σ 10) (σ 11) (σ 13) (σ 14) (σ 15) (σ 16) (σ 17) (σ 18) (σ 19) (σ 20) (σ 21) (σ 22) (σ 23) (σ 24) (σ 25) (σ 12) (σ 4)).map some := rfl
    refine xv_afterI (ws' := (wd_LW_law cA qa (zst σ [(4, v3)]) τ)) (isC := [1]) (ps := [none, some 0, none, none, none, none, none, none, none, none, none, none, none, none, none, none, none, none, none, none, none, none, none, none, none, none, none, none, none, none, none, none, none, none, none, none, none, none, none, none, none, none, none, none, none, none, none, none, none, none, none, none, none, none, none, none, none, none, none, none, none, none, none, none, none, none, none, none, none, none, none, none, none, none, none, none, none, none, none, none, none, none, none, none, none, none, none, none, none, none, none, none, none, none, none, none, none, none, none, none, none, none, none, none, none, none, none, none, none, none, none, none, none, none]) (va_runV (As := []) (rest := []) ⟨hx, hb, hml, hown, hts⟩ (c_HM_fault l ev dC dI cA (qa 13) (qa 14) (qa 15) (qa 16) (qa 17) (qa 18) (qa 19) (qa 20) (qa 21) (qa 22) (qa 23) (qa 24) (qa 25) (qa 26) (qa 27) (qa 28) (qa 29) (qa 30) (qa 31) (qa 32) (qa 33) (qa 34) (qa 35) (qa 36) (qa 37) (qa 38) (qa 39) (qa 40) (qa 41) (qa 42) (qa 43) (qa 44) ((σ 5)) ((σ 6)) ((σ 7)) ((σ 8)) ((σ 9)) ((σ 10)) ((σ 11)) ((σ 13)) ((σ 14)) ((σ 15)) ((σ 16)) ((σ 17)) ((σ 18)) ((σ 19)) ((σ 20)) ((σ 21)) ((σ 22)) ((σ 23)) ((σ 24)) ((σ 25)) hg H.size) (cwV 0 hts (zgVL zw_1427 zw_1428 zw_1429 zw_115 zw_1430) rfl rfl rfl hd_HM_fault ⟨Nat.le_of_ble_eq_true rfl, Nat.le_of_ble_eq_true rfl⟩) (xv_preV (T := TX11) (N := 53) hE hA hS hK hP hD (isC := [1]) (by decide +kernel) hC (q0 := 1) (ci := 11) rfl rfl) rfl rfl hl.1 rfl (lv_room (Nat.le_of_ble_eq_true rfl)) (zdt zkL_law 601 rfl) ⟨Nat.le_refl _, Nat.le_refl _⟩) hP hD hS hA (by decide +kernel) rfl hC rfl rfl (fun H locs hP hD hS => ?_)
    refine lv_pop hx hb (zdt zkL_law 604 rfl) rfl ?_
    refine lv_goto (tgt := 1304) hx hb (zdt zkL_law 605 rfl) (by decide) ?_
    exact b_1304 _ ih18 _ _ _ _ _ _ hf hP hD hS (lv_sub hl [0, 1, 2, 3] rfl)
  have b_608 : ∀ (k18 : Int → (Nat → Int) → (Nat → Nat → Int) → Option (Int)) (_ : ∀ (x3 : Int) (σ : Nat → Int) (τ : Nat → Nat → Int) (H : Heap) (locs : List Loc) (ls : Array Slot), k18 x3 σ τ = some 1 → va_P (dC, dI) vwCl (wd_LW_law cA qa σ τ) H → va_D A (wd_LW_law cA qa σ τ) → va_S A s.heap H locs → lv_has ls 4 [(0, .ref b), (1, .ref (qa 0)), (2, .ref (qa 13)), (3, .int (Int32.ofInt x3))] → W p l e room_1 s m #[Value.ref b] below meth c H locs 600000 7302250 (lw_Z below #[Value.ref b] s) (F0 m 18 ls [])), ∀ (x3 : Int) (σ : Nat → Int) (τ : Nat → Nat → Int) (H : Heap) (locs : List Loc) (ls : Array Slot), ga_LW_law_608 L (fun j => (xs j).toInt) k18 x3 σ τ = some 1 → va_P (dC, dI) vwCl (wd_LW_law cA qa σ τ) H → va_D A (wd_LW_law cA qa σ τ) → va_S A s.heap H locs → lv_has ls 4 [(0, .ref b), (1, .ref (qa 0)), (2, .ref (qa 13)), (3, .int (Int32.ofInt x3))] → W p l e room_1 s m #[Value.ref b] below meth c H locs 600000 7302250 (lw_Z below #[Value.ref b] s) (F0 m 608 ls []) := by
    intro k18 ih18 x3 σ τ H locs ls hf hP hD hS hl
    unfold ga_LW_law_608 at hf
    refine lv_aload_n hx hb (zdt zkL_law 608 rfl) rfl (lv_at hl 1 rfl) ?_
    refine lv_aload_n hx hb (zdt zkL_law 609 rfl) rfl (lv_at hl 0 rfl) ?_
    refine lv_iload_n hx hb (zdt zkL_law 610 rfl) rfl (lv_at hl 3 rfl) ?_
    refine lv_iconst (v := Int32.ofInt 1) hx hb (zdt zkL_law 611 rfl) rfl ?_
    refine xi_iadd hx hb (zdt zkL_law 612 rfl) hf (fun v1 hf => ?_)
    refine xi_lld hx hb hX hbl hbA hS (zdt zkL_law 613 rfl) hf (fun v2 hf => ?_)
    refine xe_d5 hf (fun v3 v4 v5 v6 a7 hg hf => ?_)
    have hC : ([0, 2, 6] : List Nat).map (fun i => (wd_LW_law cA qa σ τ)[i]?) = (wd_HS_force cA (qa 0) (qa 1) (qa 2) (qa 3) (qa 4) (qa 5) (qa 6) (qa 7) (qa 8) (qa 9) (qa 10) (qa 11) (qa 12) (qa 45) (qa 46) (qa 47) (qa 48) (qa 49) (qa 50) (qa 51) (qa 52) (qa 53) (σ 0) (σ 1) (σ 2) (σ 26) (σ 27) (σ 28) (σ 3) (σ 29) (σ 30) (τ 2)).map some := rfl
    refine xv_afterI (ws' := (wd_LW_law cA qa (zst σ [(3, v4), (29, v5), (30, v6)]) (zta τ [(2, a7)]))) (isC := [0, 2, 6]) (ps := [some 0, none, some 1, none, none, none, some 2, none, none, none, none, none, none, none, none, none, none, none, none, none, none, none, none, none, none, none, none, none, none, none, none, none, none, none, none, none, none, none, none, none, none, none, none, none, none, none, none, none, none, none, none, none, none, none, none, none, none, none, none, none, none, none, none, none, none, none, none, none, none, none, none, none, none, none, none, none, none, none, none, none, none, none, none, none, none, none, none, none, none, none, none, none, none, none, none, none, none, none, none, none, none, none, none, none, none, none, none, none, none, none, none, none, none, none]) (va_runV (As := [.int (Int32.ofInt v2)]) (rest := []) ⟨hx, hb, hml, hown, hts⟩ (c_HS_force l ev dC dI cA (qa 0) (qa 1) (qa 2) (qa 3) (qa 4) (qa 5) (qa 6) (qa 7) (qa 8) (qa 9) (qa 10) (qa 11) (qa 12) (qa 45) (qa 46) (qa 47) (qa 48) (qa 49) (qa 50) (qa 51) (qa 52) (qa 53) ((σ 0)) ((σ 1)) ((σ 2)) ((σ 26)) ((σ 27)) hg H.size) (cwV 1 hts (zgVL zw_791 zw_792 zw_793 zw_104 zw_794) rfl rfl rfl hd_HS_force ⟨Nat.le_of_ble_eq_true rfl, Nat.le_of_ble_eq_true rfl⟩) (xv_preV (T := TX10) (N := 16) hE hA hS hK hP hD (isC := [0, 2, 6]) (by decide +kernel) hC (q0 := 0) (ci := 10) rfl rfl) rfl rfl hl.1 rfl (lv_room (Nat.le_of_ble_eq_true rfl)) (zdt zkL_law 614 rfl) ⟨Nat.le_refl _, Nat.le_refl _⟩) hP hD hS hA (by decide +kernel) rfl hC rfl rfl (fun H locs hP hD hS => ?_)
    refine lv_pop hx hb (zdt zkL_law 617 rfl) rfl ?_
    refine lv_aload_n hx hb (zdt zkL_law 618 rfl) rfl (lv_at hl 2 rfl) ?_
    refine lv_aload_n hx hb (zdt zkL_law 619 rfl) rfl (lv_at hl 0 rfl) ?_
    refine lv_iload_n hx hb (zdt zkL_law 620 rfl) rfl (lv_at hl 3 rfl) ?_
    refine lv_iconst (v := Int32.ofInt 1) hx hb (zdt zkL_law 621 rfl) rfl ?_
    refine xi_iadd hx hb (zdt zkL_law 622 rfl) hf (fun v8 hf => ?_)
    refine xi_lld hx hb hX hbl hbA hS (zdt zkL_law 623 rfl) hf (fun v9 hf => ?_)
    refine xe_d5 hf (fun v10 v11 v12 a13 a14 hg hf => ?_)
    have hC : ([1, 14, 15] : List Nat).map (fun i => (wd_LW_law cA qa (zst σ [(3, v4), (29, v5), (30, v6)]) (zta τ [(2, a7)]))[i]?) = (wd_HM_force cA (qa 13) (qa 14) (qa 15) (qa 16) (qa 17) (qa 18) (qa 19) (qa 20) (qa 21) (qa 22) (qa 23) (qa 24) (qa 25) (qa 26) (qa 27) (qa 28) (qa 29) (qa 30) (qa 31) (qa 32) (qa 33) (qa 34) (qa 35) (qa 36) (qa 37) (qa 38) (qa 39) (qa 40) (qa 41) (qa 42) (qa 43) (qa 44) (σ 6) (σ 7) (σ 8) (σ 9) (σ 10) (σ 11) (σ 12) (σ 13) (σ 14) (σ 15) (σ 16) (σ 17) (σ 18) (σ 19) (σ 20) (σ 21) (σ 22) (σ 23) (σ 24) (σ 25) (σ 4) (σ 5) (τ 3) (τ 4)).map some := rfl
    refine xv_afterI (ws' := (wd_LW_law cA qa (zst σ [(3, v4), (4, v11), (5, v12), (29, v5), (30, v6)]) (zta τ [(2, a7), (3, a13), (4, a14)]))) (isC := [1, 14, 15]) (ps := [none, some 0, none, none, none, none, none, none, none, none, none, none, none, none, some 1, some 2, none, none, none, none, none, none, none, none, none, none, none, none, none, none, none, none, none, none, none, none, none, none, none, none, none, none, none, none, none, none, none, none, none, none, none, none, none, none, none, none, none, none, none, none, none, none, none, none, none, none, none, none, none, none, none, none, none, none, none, none, none, none, none, none, none, none, none, none, none, none, none, none, none, none, none, none, none, none, none, none, none, none, none, none, none, none, none, none, none, none, none, none, none, none, none, none, none, none]) (va_runV (As := [.int (Int32.ofInt v9)]) (rest := []) ⟨hx, hb, hml, hown, hts⟩ (c_HM_force l ev dC dI cA (qa 13) (qa 14) (qa 15) (qa 16) (qa 17) (qa 18) (qa 19) (qa 20) (qa 21) (qa 22) (qa 23) (qa 24) (qa 25) (qa 26) (qa 27) (qa 28) (qa 29) (qa 30) (qa 31) (qa 32) (qa 33) (qa 34) (qa 35) (qa 36) (qa 37) (qa 38) (qa 39) (qa 40) (qa 41) (qa 42) (qa 43) (qa 44) ((σ 6)) ((σ 7)) ((σ 8)) ((σ 9)) ((σ 10)) ((σ 11)) ((σ 12)) ((σ 13)) ((σ 14)) ((σ 15)) ((σ 16)) ((σ 17)) ((σ 18)) ((σ 19)) ((σ 20)) ((σ 21)) ((σ 22)) ((σ 23)) ((σ 24)) ((σ 25)) hg H.size) (cwV 1 hts (zgVL zw_1537 zw_1538 zw_1539 zw_115 zw_1540) rfl rfl rfl hd_HM_force ⟨Nat.le_of_ble_eq_true rfl, Nat.le_of_ble_eq_true rfl⟩) (xv_preV (T := TX11) (N := 53) hE hA hS hK hP hD (isC := [1, 14, 15]) (by decide +kernel) hC (q0 := 1) (ci := 11) rfl rfl) rfl rfl hl.1 rfl (lv_room (Nat.le_of_ble_eq_true rfl)) (zdt zkL_law 624 rfl) ⟨Nat.le_refl _, Nat.le_refl _⟩) hP hD hS hA (by decide +kernel) rfl hC rfl rfl (fun H locs hP hD hS => ?_)
    refine lv_pop hx hb (zdt zkL_law 627 rfl) rfl ?_
    refine lv_goto (tgt := 1304) hx hb (zdt zkL_law 628 rfl) (by decide) ?_
    exact b_1304 _ ih18 _ _ _ _ _ _ hf hP hD hS (lv_sub hl [0, 1, 2, 3] rfl)
  have b_631 : ∀ (k18 : Int → (Nat → Int) → (Nat → Nat → Int) → Option (Int)) (_ : ∀ (x3 : Int) (σ : Nat → Int) (τ : Nat → Nat → Int) (H : Heap) (locs : List Loc) (ls : Array Slot), k18 x3 σ τ = some 1 → va_P (dC, dI) vwCl (wd_LW_law cA qa σ τ) H → va_D A (wd_LW_law cA qa σ τ) → va_S A s.heap H locs → lv_has ls 4 [(0, .ref b), (1, .ref (qa 0)), (2, .ref (qa 13)), (3, .int (Int32.ofInt x3))] → W p l e room_1 s m #[Value.ref b] below meth c H locs 600000 7302250 (lw_Z below #[Value.ref b] s) (F0 m 18 ls [])), ∀ (x3 : Int) (σ : Nat → Int) (τ : Nat → Nat → Int) (H : Heap) (locs : List Loc) (ls : Array Slot), ga_LW_law_631 L (fun j => (xs j).toInt) k18 x3 σ τ = some 1 → va_P (dC, dI) vwCl (wd_LW_law cA qa σ τ) H → va_D A (wd_LW_law cA qa σ τ) → va_S A s.heap H locs → lv_has ls 4 [(0, .ref b), (1, .ref (qa 0)), (2, .ref (qa 13)), (3, .int (Int32.ofInt x3))] → W p l e room_1 s m #[Value.ref b] below meth c H locs 600000 7302250 (lw_Z below #[Value.ref b] s) (F0 m 631 ls []) := by
    intro k18 ih18 x3 σ τ H locs ls hf hP hD hS hl
    unfold ga_LW_law_631 at hf
    refine lv_aload_n hx hb (zdt zkL_law 631 rfl) rfl (lv_at hl 1 rfl) ?_
    refine lv_aload_n hx hb (zdt zkL_law 632 rfl) rfl (lv_at hl 0 rfl) ?_
    refine lv_iload_n hx hb (zdt zkL_law 633 rfl) rfl (lv_at hl 3 rfl) ?_
    refine lv_iconst (v := Int32.ofInt 1) hx hb (zdt zkL_law 634 rfl) rfl ?_
    refine xi_iadd hx hb (zdt zkL_law 635 rfl) hf (fun v1 hf => ?_)
    refine xi_lld hx hb hX hbl hbA hS (zdt zkL_law 636 rfl) hf (fun v2 hf => ?_)
    refine lv_aload_n hx hb (zdt zkL_law 637 rfl) rfl (lv_at hl 0 rfl) ?_
    refine lv_iload_n hx hb (zdt zkL_law 638 rfl) rfl (lv_at hl 3 rfl) ?_
    refine lv_iconst (v := Int32.ofInt 2) hx hb (zdt zkL_law 639 rfl) rfl ?_
    refine xi_iadd hx hb (zdt zkL_law 640 rfl) hf (fun v3 hf => ?_)
    refine xi_lld hx hb hX hbl hbA hS (zdt zkL_law 641 rfl) hf (fun v4 hf => ?_)
    refine lv_aload_n hx hb (zdt zkL_law 642 rfl) rfl (lv_at hl 0 rfl) ?_
    refine lv_iload_n hx hb (zdt zkL_law 643 rfl) rfl (lv_at hl 3 rfl) ?_
    refine lv_iconst (v := Int32.ofInt 3) hx hb (zdt zkL_law 644 rfl) rfl ?_
    refine xi_iadd hx hb (zdt zkL_law 645 rfl) hf (fun v5 hf => ?_)
    refine xi_lld hx hb hX hbl hbA hS (zdt zkL_law 646 rfl) hf (fun v6 hf => ?_)
    refine xe_d6 hf (fun v7 v8 v9 v10 a11 a12 hg hf => ?_)
    have hC : ([0, 2, 8, 45, 46, 47, 50, 52, 53, 60, 61, 80, 81] : List Nat).map (fun i => (wd_LW_law cA qa σ τ)[i]?) = (wd_HS_can cA (qa 0) (qa 1) (qa 2) (qa 3) (qa 4) (qa 5) (qa 6) (qa 7) (qa 8) (qa 9) (qa 10) (qa 11) (qa 12) (qa 45) (qa 46) (qa 47) (qa 48) (qa 49) (qa 50) (qa 51) (qa 52) (qa 53) (qa 60) (qa 61) (qa 80) (qa 81) (σ 0) (σ 1) (σ 2) (σ 3) (σ 27) (σ 30) (σ 26) (σ 28) (σ 29) (σ 49) (τ 34) (τ 35) (τ 38) (τ 40) (τ 41) (τ 63) (τ 64) (σ 34) (σ 35) (σ 36) (τ 46) (τ 47)).map some := rfl
    refine xv_afterI (ws' := (wd_LW_law cA qa (zst σ [(34, v8), (35, v9), (36, v10)]) (zta τ [(46, a11), (47, a12)]))) (isC := [0, 2, 8, 45, 46, 47, 50, 52, 53, 60, 61, 80, 81]) (ps := [some 0, none, some 1, none, none, none, none, none, some 2, none, none, none, none, none, none, none, none, none, none, none, none, none, none, none, none, none, none, none, none, none, none, none, none, none, none, none, none, none, none, none, none, none, none, none, none, some 3, some 4, some 5, none, none, some 6, none, some 7, some 8, none, none, none, none, none, none, some 9, some 10, none, none, none, none, none, none, none, none, none, none, none, none, none, none, none, none, none, none, some 11, some 12, none, none, none, none, none, none, none, none, none, none, none, none, none, none, none, none, none, none, none, none, none, none, none, none, none, none, none, none, none, none, none, none]) (va_runV (As := [.int (Int32.ofInt v2), .int (Int32.ofInt v4), .int (Int32.ofInt v6)]) (rest := []) ⟨hx, hb, hml, hown, hts⟩ (c_HS_can l ev dC dI cA (qa 0) (qa 1) (qa 2) (qa 3) (qa 4) (qa 5) (qa 6) (qa 7) (qa 8) (qa 9) (qa 10) (qa 11) (qa 12) (qa 45) (qa 46) (qa 47) (qa 48) (qa 49) (qa 50) (qa 51) (qa 52) (qa 53) (qa 60) (qa 61) (qa 80) (qa 81) ((σ 0)) ((σ 1)) ((σ 2)) ((σ 3)) ((σ 27)) ((σ 30)) hg H.size) (cwV 3 hts (zgVL zw_795 zw_796 zw_797 zw_104 zw_798) rfl rfl rfl hd_HS_can ⟨Nat.le_of_ble_eq_true rfl, Nat.le_of_ble_eq_true rfl⟩) (xv_preV (T := TX10) (N := 16) hE hA hS hK hP hD (isC := [0, 2, 8, 45, 46, 47, 50, 52, 53, 60, 61, 80, 81]) (by decide +kernel) hC (q0 := 0) (ci := 10) rfl rfl) rfl rfl hl.1 rfl (lv_room (Nat.le_of_ble_eq_true rfl)) (zdt zkL_law 647 rfl) ⟨Nat.le_refl _, Nat.le_refl _⟩) hP hD hS hA (by decide +kernel) rfl hC rfl rfl (fun H locs hP hD hS => ?_)
    refine lv_pop hx hb (zdt zkL_law 650 rfl) rfl ?_
    refine lv_aload_n hx hb (zdt zkL_law 651 rfl) rfl (lv_at hl 2 rfl) ?_
    refine lv_aload_n hx hb (zdt zkL_law 652 rfl) rfl (lv_at hl 0 rfl) ?_
    refine lv_iload_n hx hb (zdt zkL_law 653 rfl) rfl (lv_at hl 3 rfl) ?_
    refine lv_iconst (v := Int32.ofInt 1) hx hb (zdt zkL_law 654 rfl) rfl ?_
    refine xi_iadd hx hb (zdt zkL_law 655 rfl) hf (fun v13 hf => ?_)
    refine xi_lld hx hb hX hbl hbA hS (zdt zkL_law 656 rfl) hf (fun v14 hf => ?_)
    refine lv_aload_n hx hb (zdt zkL_law 657 rfl) rfl (lv_at hl 0 rfl) ?_
    refine lv_iload_n hx hb (zdt zkL_law 658 rfl) rfl (lv_at hl 3 rfl) ?_
    refine lv_iconst (v := Int32.ofInt 2) hx hb (zdt zkL_law 659 rfl) rfl ?_
    refine xi_iadd hx hb (zdt zkL_law 660 rfl) hf (fun v15 hf => ?_)
    refine xi_lld hx hb hX hbl hbA hS (zdt zkL_law 661 rfl) hf (fun v16 hf => ?_)
    refine lv_aload_n hx hb (zdt zkL_law 662 rfl) rfl (lv_at hl 0 rfl) ?_
    refine lv_iload_n hx hb (zdt zkL_law 663 rfl) rfl (lv_at hl 3 rfl) ?_
    refine lv_iconst (v := Int32.ofInt 3) hx hb (zdt zkL_law 664 rfl) rfl ?_
    refine xi_iadd hx hb (zdt zkL_law 665 rfl) hf (fun v17 hf => ?_)
    refine xi_lld hx hb hX hbl hbA hS (zdt zkL_law 666 rfl) hf (fun v18 hf => ?_)
    refine xe_d10 hf (fun v19 v20 v21 v22 v23 v24 a25 a26 a27 a28 hg hf => ?_)
    have hC : ([1, 15, 25, 26, 27, 28] : List Nat).map (fun i => (wd_LW_law cA qa (zst σ [(34, v8), (35, v9), (36, v10)]) (zta τ [(46, a11), (47, a12)]))[i]?) = (wd_HM_can cA (qa 13) (qa 14) (qa 15) (qa 16) (qa 17) (qa 18) (qa 19) (qa 20) (qa 21) (qa 22) (qa 23) (qa 24) (qa 25) (qa 26) (qa 27) (qa 28) (qa 29) (qa 30) (qa 31) (qa 32) (qa 33) (qa 34) (qa 35) (qa 36) (qa 37) (qa 38) (qa 39) (qa 40) (qa 41) (qa 42) (qa 43) (qa 44) (σ 5) (σ 6) (σ 7) (σ 8) (σ 9) (σ 10) (σ 11) (σ 12) (σ 13) (σ 14) (σ 15) (σ 16) (σ 17) (σ 18) (σ 23) (σ 24) (σ 25) (τ 4) (σ 4) (σ 19) (σ 20) (σ 21) (σ 22) (τ 14) (τ 15) (τ 16) (τ 17)).map some := rfl
    refine xv_afterI (ws' := (wd_LW_law cA qa (zst σ [(4, v20), (19, v21), (20, v22), (21, v23), (22, v24), (34, v8), (35, v9), (36, v10)]) (zta τ [(14, a25), (15, a26), (16, a27), (17, a28), (46, a11), (47, a12)]))) (isC := [1, 15, 25, 26, 27, 28]) (ps := [none, some 0, none, none, none, none, none, none, none, none, none, none, none, none, none, some 1, none, none, none, none, none, none, none, none, none, some 2, some 3, some 4, some 5, none, none, none, none, none, none, none, none, none, none, none, none, none, none, none, none, none, none, none, none, none, none, none, none, none, none, none, none, none, none, none, none, none, none, none, none, none, none, none, none, none, none, none, none, none, none, none, none, none, none, none, none, none, none, none, none, none, none, none, none, none, none, none, none, none, none, none, none, none, none, none, none, none, none, none, none, none, none, none, none, none, none, none, none, none]) (va_runV (As := [.int (Int32.ofInt v14), .int (Int32.ofInt v16), .int (Int32.ofInt v18)]) (rest := []) ⟨hx, hb, hml, hown, hts⟩ (c_HM_can l ev dC dI cA (qa 13) (qa 14) (qa 15) (qa 16) (qa 17) (qa 18) (qa 19) (qa 20) (qa 21) (qa 22) (qa 23) (qa 24) (qa 25) (qa 26) (qa 27) (qa 28) (qa 29) (qa 30) (qa 31) (qa 32) (qa 33) (qa 34) (qa 35) (qa 36) (qa 37) (qa 38) (qa 39) (qa 40) (qa 41) (qa 42) (qa 43) (qa 44) ((σ 5)) ((σ 6)) ((σ 7)) ((σ 8)) ((σ 9)) ((σ 10)) ((σ 11)) ((σ 12)) ((σ 13)) ((σ 14)) ((σ 15)) ((σ 16)) ((σ 17)) ((σ 18)) ((σ 23)) ((σ 24)) ((σ 25)) hg H.size) (cwV 3 hts (zgVL zw_1541 zw_1542 zw_1543 zw_115 zw_1544) rfl rfl rfl hd_HM_can ⟨Nat.le_of_ble_eq_true rfl, Nat.le_of_ble_eq_true rfl⟩) (xv_preV (T := TX11) (N := 53) hE hA hS hK hP hD (isC := [1, 15, 25, 26, 27, 28]) (by decide +kernel) hC (q0 := 1) (ci := 11) rfl rfl) rfl rfl hl.1 rfl (lv_room (Nat.le_of_ble_eq_true rfl)) (zdt zkL_law 667 rfl) ⟨Nat.le_refl _, Nat.le_refl _⟩) hP hD hS hA (by decide +kernel) rfl hC rfl rfl (fun H locs hP hD hS => ?_)
    refine lv_pop hx hb (zdt zkL_law 670 rfl) rfl ?_
    refine lv_goto (tgt := 1304) hx hb (zdt zkL_law 671 rfl) (by decide) ?_
    exact b_1304 _ ih18 _ _ _ _ _ _ hf hP hD hS (lv_sub hl [0, 1, 2, 3] rfl)
  have b_674 : ∀ (k18 : Int → (Nat → Int) → (Nat → Nat → Int) → Option (Int)) (_ : ∀ (x3 : Int) (σ : Nat → Int) (τ : Nat → Nat → Int) (H : Heap) (locs : List Loc) (ls : Array Slot), k18 x3 σ τ = some 1 → va_P (dC, dI) vwCl (wd_LW_law cA qa σ τ) H → va_D A (wd_LW_law cA qa σ τ) → va_S A s.heap H locs → lv_has ls 4 [(0, .ref b), (1, .ref (qa 0)), (2, .ref (qa 13)), (3, .int (Int32.ofInt x3))] → W p l e room_1 s m #[Value.ref b] below meth c H locs 600000 7302250 (lw_Z below #[Value.ref b] s) (F0 m 18 ls [])), ∀ (x3 : Int) (σ : Nat → Int) (τ : Nat → Nat → Int) (H : Heap) (locs : List Loc) (ls : Array Slot), ga_LW_law_674 L (fun j => (xs j).toInt) k18 x3 σ τ = some 1 → va_P (dC, dI) vwCl (wd_LW_law cA qa σ τ) H → va_D A (wd_LW_law cA qa σ τ) → va_S A s.heap H locs → lv_has ls 4 [(0, .ref b), (1, .ref (qa 0)), (2, .ref (qa 13)), (3, .int (Int32.ofInt x3))] → W p l e room_1 s m #[Value.ref b] below meth c H locs 600000 7302250 (lw_Z below #[Value.ref b] s) (F0 m 674 ls []) := by
    intro k18 ih18 x3 σ τ H locs ls hf hP hD hS hl
    unfold ga_LW_law_674 at hf
    refine lv_aload_n hx hb (zdt zkL_law 674 rfl) rfl (lv_at hl 1 rfl) ?_
    refine lv_aload_n hx hb (zdt zkL_law 675 rfl) rfl (lv_at hl 0 rfl) ?_
    refine lv_iload_n hx hb (zdt zkL_law 676 rfl) rfl (lv_at hl 3 rfl) ?_
    refine lv_iconst (v := Int32.ofInt 1) hx hb (zdt zkL_law 677 rfl) rfl ?_
    refine xi_iadd hx hb (zdt zkL_law 678 rfl) hf (fun v1 hf => ?_)
    refine xi_lld hx hb hX hbl hbA hS (zdt zkL_law 679 rfl) hf (fun v2 hf => ?_)
    refine lv_aload_n hx hb (zdt zkL_law 680 rfl) rfl (lv_at hl 0 rfl) ?_
    refine lv_iload_n hx hb (zdt zkL_law 681 rfl) rfl (lv_at hl 3 rfl) ?_
    refine lv_iconst (v := Int32.ofInt 2) hx hb (zdt zkL_law 682 rfl) rfl ?_
    refine xi_iadd hx hb (zdt zkL_law 683 rfl) hf (fun v3 hf => ?_)
    refine xi_lld hx hb hX hbl hbA hS (zdt zkL_law 684 rfl) hf (fun v4 hf => ?_)
    refine lv_aload_n hx hb (zdt zkL_law 685 rfl) rfl (lv_at hl 0 rfl) ?_
    refine lv_iload_n hx hb (zdt zkL_law 686 rfl) rfl (lv_at hl 3 rfl) ?_
    refine lv_iconst (v := Int32.ofInt 3) hx hb (zdt zkL_law 687 rfl) rfl ?_
    refine xi_iadd hx hb (zdt zkL_law 688 rfl) hf (fun v5 hf => ?_)
    refine xi_lld hx hb hX hbl hbA hS (zdt zkL_law 689 rfl) hf (fun v6 hf => ?_)
    refine xe_d6 hf (fun v7 v8 v9 v10 a11 a12 hg hf => ?_)
    have hC : ([0, 2, 8, 45, 46, 47, 50, 52, 53, 60, 61, 80, 81] : List Nat).map (fun i => (wd_LW_law cA qa σ τ)[i]?) = (wd_HS_tires cA (qa 0) (qa 1) (qa 2) (qa 3) (qa 4) (qa 5) (qa 6) (qa 7) (qa 8) (qa 9) (qa 10) (qa 11) (qa 12) (qa 45) (qa 46) (qa 47) (qa 48) (qa 49) (qa 50) (qa 51) (qa 52) (qa 53) (qa 60) (qa 61) (qa 80) (qa 81) (σ 0) (σ 1) (σ 2) (σ 3) (σ 27) (σ 30) (σ 26) (σ 28) (σ 29) (σ 49) (τ 34) (τ 35) (τ 38) (τ 40) (τ 41) (τ 63) (τ 64) (σ 34) (σ 35) (σ 36) (τ 46) (τ 47)).map some := rfl
    refine xv_afterI (ws' := (wd_LW_law cA qa (zst σ [(34, v8), (35, v9), (36, v10)]) (zta τ [(46, a11), (47, a12)]))) (isC := [0, 2, 8, 45, 46, 47, 50, 52, 53, 60, 61, 80, 81]) (ps := [some 0, none, some 1, none, none, none, none, none, some 2, none, none, none, none, none, none, none, none, none, none, none, none, none, none, none, none, none, none, none, none, none, none, none, none, none, none, none, none, none, none, none, none, none, none, none, none, some 3, some 4, some 5, none, none, some 6, none, some 7, some 8, none, none, none, none, none, none, some 9, some 10, none, none, none, none, none, none, none, none, none, none, none, none, none, none, none, none, none, none, some 11, some 12, none, none, none, none, none, none, none, none, none, none, none, none, none, none, none, none, none, none, none, none, none, none, none, none, none, none, none, none, none, none, none, none]) (va_runV (As := [.int (Int32.ofInt v2), .int (Int32.ofInt v4), .int (Int32.ofInt v6)]) (rest := []) ⟨hx, hb, hml, hown, hts⟩ (c_HS_tires l ev dC dI cA (qa 0) (qa 1) (qa 2) (qa 3) (qa 4) (qa 5) (qa 6) (qa 7) (qa 8) (qa 9) (qa 10) (qa 11) (qa 12) (qa 45) (qa 46) (qa 47) (qa 48) (qa 49) (qa 50) (qa 51) (qa 52) (qa 53) (qa 60) (qa 61) (qa 80) (qa 81) ((σ 0)) ((σ 1)) ((σ 2)) ((σ 3)) ((σ 27)) ((σ 30)) hg H.size) (cwV 3 hts (zgVL zw_841 zw_842 zw_843 zw_104 zw_844) rfl rfl rfl hd_HS_tires ⟨Nat.le_of_ble_eq_true rfl, Nat.le_of_ble_eq_true rfl⟩) (xv_preV (T := TX10) (N := 16) hE hA hS hK hP hD (isC := [0, 2, 8, 45, 46, 47, 50, 52, 53, 60, 61, 80, 81]) (by decide +kernel) hC (q0 := 0) (ci := 10) rfl rfl) rfl rfl hl.1 rfl (lv_room (Nat.le_of_ble_eq_true rfl)) (zdt zkL_law 690 rfl) ⟨Nat.le_refl _, Nat.le_refl _⟩) hP hD hS hA (by decide +kernel) rfl hC rfl rfl (fun H locs hP hD hS => ?_)
    refine lv_pop hx hb (zdt zkL_law 693 rfl) rfl ?_
    refine lv_aload_n hx hb (zdt zkL_law 694 rfl) rfl (lv_at hl 2 rfl) ?_
    refine lv_aload_n hx hb (zdt zkL_law 695 rfl) rfl (lv_at hl 0 rfl) ?_
    refine lv_iload_n hx hb (zdt zkL_law 696 rfl) rfl (lv_at hl 3 rfl) ?_
    refine lv_iconst (v := Int32.ofInt 1) hx hb (zdt zkL_law 697 rfl) rfl ?_
    refine xi_iadd hx hb (zdt zkL_law 698 rfl) hf (fun v13 hf => ?_)
    refine xi_lld hx hb hX hbl hbA hS (zdt zkL_law 699 rfl) hf (fun v14 hf => ?_)
    refine lv_aload_n hx hb (zdt zkL_law 700 rfl) rfl (lv_at hl 0 rfl) ?_
    refine lv_iload_n hx hb (zdt zkL_law 701 rfl) rfl (lv_at hl 3 rfl) ?_
    refine lv_iconst (v := Int32.ofInt 2) hx hb (zdt zkL_law 702 rfl) rfl ?_
    refine xi_iadd hx hb (zdt zkL_law 703 rfl) hf (fun v15 hf => ?_)
    refine xi_lld hx hb hX hbl hbA hS (zdt zkL_law 704 rfl) hf (fun v16 hf => ?_)
    refine lv_aload_n hx hb (zdt zkL_law 705 rfl) rfl (lv_at hl 0 rfl) ?_
    refine lv_iload_n hx hb (zdt zkL_law 706 rfl) rfl (lv_at hl 3 rfl) ?_
    refine lv_iconst (v := Int32.ofInt 3) hx hb (zdt zkL_law 707 rfl) rfl ?_
    refine xi_iadd hx hb (zdt zkL_law 708 rfl) hf (fun v17 hf => ?_)
    refine xi_lld hx hb hX hbl hbA hS (zdt zkL_law 709 rfl) hf (fun v18 hf => ?_)
    refine xe_d10 hf (fun v19 v20 v21 v22 v23 v24 a25 a26 a27 a28 hg hf => ?_)
    have hC : ([1, 15, 25, 26, 27, 28] : List Nat).map (fun i => (wd_LW_law cA qa (zst σ [(34, v8), (35, v9), (36, v10)]) (zta τ [(46, a11), (47, a12)]))[i]?) = (wd_HM_tires cA (qa 13) (qa 14) (qa 15) (qa 16) (qa 17) (qa 18) (qa 19) (qa 20) (qa 21) (qa 22) (qa 23) (qa 24) (qa 25) (qa 26) (qa 27) (qa 28) (qa 29) (qa 30) (qa 31) (qa 32) (qa 33) (qa 34) (qa 35) (qa 36) (qa 37) (qa 38) (qa 39) (qa 40) (qa 41) (qa 42) (qa 43) (qa 44) (σ 5) (σ 6) (σ 7) (σ 8) (σ 9) (σ 10) (σ 11) (σ 12) (σ 13) (σ 14) (σ 15) (σ 16) (σ 17) (σ 18) (σ 23) (σ 24) (σ 25) (τ 4) (σ 4) (σ 19) (σ 20) (σ 21) (σ 22) (τ 14) (τ 15) (τ 16) (τ 17)).map some := rfl
    refine xv_afterI (ws' := (wd_LW_law cA qa (zst σ [(4, v20), (19, v21), (20, v22), (21, v23), (22, v24), (34, v8), (35, v9), (36, v10)]) (zta τ [(14, a25), (15, a26), (16, a27), (17, a28), (46, a11), (47, a12)]))) (isC := [1, 15, 25, 26, 27, 28]) (ps := [none, some 0, none, none, none, none, none, none, none, none, none, none, none, none, none, some 1, none, none, none, none, none, none, none, none, none, some 2, some 3, some 4, some 5, none, none, none, none, none, none, none, none, none, none, none, none, none, none, none, none, none, none, none, none, none, none, none, none, none, none, none, none, none, none, none, none, none, none, none, none, none, none, none, none, none, none, none, none, none, none, none, none, none, none, none, none, none, none, none, none, none, none, none, none, none, none, none, none, none, none, none, none, none, none, none, none, none, none, none, none, none, none, none, none, none, none, none, none, none]) (va_runV (As := [.int (Int32.ofInt v14), .int (Int32.ofInt v16), .int (Int32.ofInt v18)]) (rest := []) ⟨hx, hb, hml, hown, hts⟩ (c_HM_tires l ev dC dI cA (qa 13) (qa 14) (qa 15) (qa 16) (qa 17) (qa 18) (qa 19) (qa 20) (qa 21) (qa 22) (qa 23) (qa 24) (qa 25) (qa 26) (qa 27) (qa 28) (qa 29) (qa 30) (qa 31) (qa 32) (qa 33) (qa 34) (qa 35) (qa 36) (qa 37) (qa 38) (qa 39) (qa 40) (qa 41) (qa 42) (qa 43) (qa 44) ((σ 5)) ((σ 6)) ((σ 7)) ((σ 8)) ((σ 9)) ((σ 10)) ((σ 11)) ((σ 12)) ((σ 13)) ((σ 14)) ((σ 15)) ((σ 16)) ((σ 17)) ((σ 18)) ((σ 23)) ((σ 24)) ((σ 25)) hg H.size) (cwV 3 hts (zgVL zw_1582 zw_1583 zw_1584 zw_115 zw_1585) rfl rfl rfl hd_HM_tires ⟨Nat.le_of_ble_eq_true rfl, Nat.le_of_ble_eq_true rfl⟩) (xv_preV (T := TX11) (N := 53) hE hA hS hK hP hD (isC := [1, 15, 25, 26, 27, 28]) (by decide +kernel) hC (q0 := 1) (ci := 11) rfl rfl) rfl rfl hl.1 rfl (lv_room (Nat.le_of_ble_eq_true rfl)) (zdt zkL_law 710 rfl) ⟨Nat.le_refl _, Nat.le_refl _⟩) hP hD hS hA (by decide +kernel) rfl hC rfl rfl (fun H locs hP hD hS => ?_)
    refine lv_pop hx hb (zdt zkL_law 713 rfl) rfl ?_
    refine lv_goto (tgt := 1304) hx hb (zdt zkL_law 714 rfl) (by decide) ?_
    exact b_1304 _ ih18 _ _ _ _ _ _ hf hP hD hS (lv_sub hl [0, 1, 2, 3] rfl)
  have b_717 : ∀ (k18 : Int → (Nat → Int) → (Nat → Nat → Int) → Option (Int)) (_ : ∀ (x3 : Int) (σ : Nat → Int) (τ : Nat → Nat → Int) (H : Heap) (locs : List Loc) (ls : Array Slot), k18 x3 σ τ = some 1 → va_P (dC, dI) vwCl (wd_LW_law cA qa σ τ) H → va_D A (wd_LW_law cA qa σ τ) → va_S A s.heap H locs → lv_has ls 4 [(0, .ref b), (1, .ref (qa 0)), (2, .ref (qa 13)), (3, .int (Int32.ofInt x3))] → W p l e room_1 s m #[Value.ref b] below meth c H locs 600000 7302250 (lw_Z below #[Value.ref b] s) (F0 m 18 ls [])), ∀ (x3 : Int) (σ : Nat → Int) (τ : Nat → Nat → Int) (H : Heap) (locs : List Loc) (ls : Array Slot), ga_LW_law_717 L (fun j => (xs j).toInt) k18 x3 σ τ = some 1 → va_P (dC, dI) vwCl (wd_LW_law cA qa σ τ) H → va_D A (wd_LW_law cA qa σ τ) → va_S A s.heap H locs → lv_has ls 4 [(0, .ref b), (1, .ref (qa 0)), (2, .ref (qa 13)), (3, .int (Int32.ofInt x3))] → W p l e room_1 s m #[Value.ref b] below meth c H locs 600000 7302250 (lw_Z below #[Value.ref b] s) (F0 m 717 ls []) := by
    intro k18 ih18 x3 σ τ H locs ls hf hP hD hS hl
    unfold ga_LW_law_717 at hf
    refine lv_aload_n hx hb (zdt zkL_law 717 rfl) rfl (lv_at hl 1 rfl) ?_
    refine lv_aload_n hx hb (zdt zkL_law 718 rfl) rfl (lv_at hl 0 rfl) ?_
    refine lv_iload_n hx hb (zdt zkL_law 719 rfl) rfl (lv_at hl 3 rfl) ?_
    refine lv_iconst (v := Int32.ofInt 1) hx hb (zdt zkL_law 720 rfl) rfl ?_
    refine xi_iadd hx hb (zdt zkL_law 721 rfl) hf (fun v1 hf => ?_)
    refine xi_lld hx hb hX hbl hbA hS (zdt zkL_law 722 rfl) hf (fun v2 hf => ?_)
    refine lv_aload_n hx hb (zdt zkL_law 723 rfl) rfl (lv_at hl 0 rfl) ?_
    refine lv_iload_n hx hb (zdt zkL_law 724 rfl) rfl (lv_at hl 3 rfl) ?_
    refine lv_iconst (v := Int32.ofInt 2) hx hb (zdt zkL_law 725 rfl) rfl ?_
    refine xi_iadd hx hb (zdt zkL_law 726 rfl) hf (fun v3 hf => ?_)
    refine xi_lld hx hb hX hbl hbA hS (zdt zkL_law 727 rfl) hf (fun v4 hf => ?_)
    refine lv_aload_n hx hb (zdt zkL_law 728 rfl) rfl (lv_at hl 0 rfl) ?_
    refine lv_iload_n hx hb (zdt zkL_law 729 rfl) rfl (lv_at hl 3 rfl) ?_
    refine lv_iconst (v := Int32.ofInt 3) hx hb (zdt zkL_law 730 rfl) rfl ?_
    refine xi_iadd hx hb (zdt zkL_law 731 rfl) hf (fun v5 hf => ?_)
    refine xi_lld hx hb hX hbl hbA hS (zdt zkL_law 732 rfl) hf (fun v6 hf => ?_)
    refine xe_d11 hf (fun v7 v8 v9 a10 v11 v12 v13 a14 a15 a16 a17 hg hf => ?_)
    have hC : ([0, 2, 6, 8, 45, 46, 47, 50, 52, 53, 60, 61, 80, 81] : List Nat).map (fun i => (wd_LW_law cA qa σ τ)[i]?) = (wd_HS_carry cA (qa 0) (qa 1) (qa 2) (qa 3) (qa 4) (qa 5) (qa 6) (qa 7) (qa 8) (qa 9) (qa 10) (qa 11) (qa 12) (qa 45) (qa 46) (qa 47) (qa 48) (qa 49) (qa 50) (qa 51) (qa 52) (qa 53) (qa 60) (qa 61) (qa 80) (qa 81) (σ 0) (σ 1) (σ 2) (σ 27) (σ 26) (σ 28) (σ 29) (σ 49) (τ 34) (τ 35) (τ 38) (τ 40) (τ 41) (σ 3) (σ 30) (τ 2) (σ 34) (σ 35) (σ 36) (τ 46) (τ 47) (τ 63) (τ 64)).map some := rfl
    refine xv_afterI (ws' := (wd_LW_law cA qa (zst σ [(3, v8), (30, v9), (34, v11), (35, v12), (36, v13)]) (zta τ [(2, a10), (46, a14), (47, a15), (63, a16), (64, a17)]))) (isC := [0, 2, 6, 8, 45, 46, 47, 50, 52, 53, 60, 61, 80, 81]) (ps := [some 0, none, some 1, none, none, none, some 2, none, some 3, none, none, none, none, none, none, none, none, none, none, none, none, none, none, none, none, none, none, none, none, none, none, none, none, none, none, none, none, none, none, none, none, none, none, none, none, some 4, some 5, some 6, none, none, some 7, none, some 8, some 9, none, none, none, none, none, none, some 10, some 11, none, none, none, none, none, none, none, none, none, none, none, none, none, none, none, none, none, none, some 12, some 13, none, none, none, none, none, none, none, none, none, none, none, none, none, none, none, none, none, none, none, none, none, none, none, none, none, none, none, none, none, none, none, none]) (va_runV (As := [.int (Int32.ofInt v2), .int (Int32.ofInt v4), .int (Int32.ofInt v6)]) (rest := []) ⟨hx, hb, hml, hown, hts⟩ (c_HS_carry l ev dC dI cA (qa 0) (qa 1) (qa 2) (qa 3) (qa 4) (qa 5) (qa 6) (qa 7) (qa 8) (qa 9) (qa 10) (qa 11) (qa 12) (qa 45) (qa 46) (qa 47) (qa 48) (qa 49) (qa 50) (qa 51) (qa 52) (qa 53) (qa 60) (qa 61) (qa 80) (qa 81) ((σ 0)) ((σ 1)) ((σ 2)) ((σ 27)) hg H.size) (cwV 3 hts (zgVL zw_845 zw_846 zw_847 zw_104 zw_848) rfl rfl rfl hd_HS_carry ⟨Nat.le_of_ble_eq_true rfl, Nat.le_of_ble_eq_true rfl⟩) (xv_preV (T := TX10) (N := 16) hE hA hS hK hP hD (isC := [0, 2, 6, 8, 45, 46, 47, 50, 52, 53, 60, 61, 80, 81]) (by decide +kernel) hC (q0 := 0) (ci := 10) rfl rfl) rfl rfl hl.1 rfl (lv_room (Nat.le_of_ble_eq_true rfl)) (zdt zkL_law 733 rfl) ⟨Nat.le_refl _, Nat.le_refl _⟩) hP hD hS hA (by decide +kernel) rfl hC rfl rfl (fun H locs hP hD hS => ?_)
    refine lv_pop hx hb (zdt zkL_law 736 rfl) rfl ?_
    refine lv_aload_n hx hb (zdt zkL_law 737 rfl) rfl (lv_at hl 2 rfl) ?_
    refine lv_aload_n hx hb (zdt zkL_law 738 rfl) rfl (lv_at hl 0 rfl) ?_
    refine lv_iload_n hx hb (zdt zkL_law 739 rfl) rfl (lv_at hl 3 rfl) ?_
    refine lv_iconst (v := Int32.ofInt 1) hx hb (zdt zkL_law 740 rfl) rfl ?_
    refine xi_iadd hx hb (zdt zkL_law 741 rfl) hf (fun v18 hf => ?_)
    refine xi_lld hx hb hX hbl hbA hS (zdt zkL_law 742 rfl) hf (fun v19 hf => ?_)
    refine lv_aload_n hx hb (zdt zkL_law 743 rfl) rfl (lv_at hl 0 rfl) ?_
    refine lv_iload_n hx hb (zdt zkL_law 744 rfl) rfl (lv_at hl 3 rfl) ?_
    refine lv_iconst (v := Int32.ofInt 2) hx hb (zdt zkL_law 745 rfl) rfl ?_
    refine xi_iadd hx hb (zdt zkL_law 746 rfl) hf (fun v20 hf => ?_)
    refine xi_lld hx hb hX hbl hbA hS (zdt zkL_law 747 rfl) hf (fun v21 hf => ?_)
    refine lv_aload_n hx hb (zdt zkL_law 748 rfl) rfl (lv_at hl 0 rfl) ?_
    refine lv_iload_n hx hb (zdt zkL_law 749 rfl) rfl (lv_at hl 3 rfl) ?_
    refine lv_iconst (v := Int32.ofInt 3) hx hb (zdt zkL_law 750 rfl) rfl ?_
    refine xi_iadd hx hb (zdt zkL_law 751 rfl) hf (fun v22 hf => ?_)
    refine xi_lld hx hb hX hbl hbA hS (zdt zkL_law 752 rfl) hf (fun v23 hf => ?_)
    refine xe_d13 hf (fun v24 v25 v26 v27 v28 v29 v30 a31 a32 a33 a34 a35 a36 hg hf => ?_)
    have hC : ([1, 14, 15, 25, 26, 27, 28] : List Nat).map (fun i => (wd_LW_law cA qa (zst σ [(3, v8), (30, v9), (34, v11), (35, v12), (36, v13)]) (zta τ [(2, a10), (46, a14), (47, a15), (63, a16), (64, a17)]))[i]?) = (wd_HM_carry cA (qa 13) (qa 14) (qa 15) (qa 16) (qa 17) (qa 18) (qa 19) (qa 20) (qa 21) (qa 22) (qa 23) (qa 24) (qa 25) (qa 26) (qa 27) (qa 28) (qa 29) (qa 30) (qa 31) (qa 32) (qa 33) (qa 34) (qa 35) (qa 36) (qa 37) (qa 38) (qa 39) (qa 40) (qa 41) (qa 42) (qa 43) (qa 44) (σ 6) (σ 7) (σ 8) (σ 9) (σ 10) (σ 11) (σ 12) (σ 13) (σ 14) (σ 15) (σ 16) (σ 17) (σ 18) (σ 23) (σ 24) (σ 25) (σ 4) (σ 5) (σ 19) (σ 20) (σ 21) (σ 22) (τ 3) (τ 4) (τ 14) (τ 15) (τ 16) (τ 17)).map some := rfl
    refine xv_afterI (ws' := (wd_LW_law cA qa (zst σ [(3, v8), (4, v25), (5, v26), (19, v27), (20, v28), (21, v29), (22, v30), (30, v9), (34, v11), (35, v12), (36, v13)]) (zta τ [(2, a10), (3, a31), (4, a32), (14, a33), (15, a34), (16, a35), (17, a36), (46, a14), (47, a15), (63, a16), (64, a17)]))) (isC := [1, 14, 15, 25, 26, 27, 28]) (ps := [none, some 0, none, none, none, none, none, none, none, none, none, none, none, none, some 1, some 2, none, none, none, none, none, none, none, none, none, some 3, some 4, some 5, some 6, none, none, none, none, none, none, none, none, none, none, none, none, none, none, none, none, none, none, none, none, none, none, none, none, none, none, none, none, none, none, none, none, none, none, none, none, none, none, none, none, none, none, none, none, none, none, none, none, none, none, none, none, none, none, none, none, none, none, none, none, none, none, none, none, none, none, none, none, none, none, none, none, none, none, none, none, none, none, none, none, none, none, none, none, none]) (va_runV (As := [.int (Int32.ofInt v19), .int (Int32.ofInt v21), .int (Int32.ofInt v23)]) (rest := []) ⟨hx, hb, hml, hown, hts⟩ (c_HM_carry l ev dC dI cA (qa 13) (qa 14) (qa 15) (qa 16) (qa 17) (qa 18) (qa 19) (qa 20) (qa 21) (qa 22) (qa 23) (qa 24) (qa 25) (qa 26) (qa 27) (qa 28) (qa 29) (qa 30) (qa 31) (qa 32) (qa 33) (qa 34) (qa 35) (qa 36) (qa 37) (qa 38) (qa 39) (qa 40) (qa 41) (qa 42) (qa 43) (qa 44) ((σ 6)) ((σ 7)) ((σ 8)) ((σ 9)) ((σ 10)) ((σ 11)) ((σ 12)) ((σ 13)) ((σ 14)) ((σ 15)) ((σ 16)) ((σ 17)) ((σ 18)) ((σ 23)) ((σ 24)) ((σ 25)) hg H.size) (cwV 3 hts (zgVL zw_1586 zw_1587 zw_1588 zw_115 zw_1589) rfl rfl rfl hd_HM_carry ⟨Nat.le_of_ble_eq_true rfl, Nat.le_of_ble_eq_true rfl⟩) (xv_preV (T := TX11) (N := 53) hE hA hS hK hP hD (isC := [1, 14, 15, 25, 26, 27, 28]) (by decide +kernel) hC (q0 := 1) (ci := 11) rfl rfl) rfl rfl hl.1 rfl (lv_room (Nat.le_of_ble_eq_true rfl)) (zdt zkL_law 753 rfl) ⟨Nat.le_refl _, Nat.le_refl _⟩) hP hD hS hA (by decide +kernel) rfl hC rfl rfl (fun H locs hP hD hS => ?_)
    refine lv_pop hx hb (zdt zkL_law 756 rfl) rfl ?_
    refine lv_goto (tgt := 1304) hx hb (zdt zkL_law 757 rfl) (by decide) ?_
    exact b_1304 _ ih18 _ _ _ _ _ _ hf hP hD hS (lv_sub hl [0, 1, 2, 3] rfl)
  have b_760 : ∀ (k18 : Int → (Nat → Int) → (Nat → Nat → Int) → Option (Int)) (_ : ∀ (x3 : Int) (σ : Nat → Int) (τ : Nat → Nat → Int) (H : Heap) (locs : List Loc) (ls : Array Slot), k18 x3 σ τ = some 1 → va_P (dC, dI) vwCl (wd_LW_law cA qa σ τ) H → va_D A (wd_LW_law cA qa σ τ) → va_S A s.heap H locs → lv_has ls 4 [(0, .ref b), (1, .ref (qa 0)), (2, .ref (qa 13)), (3, .int (Int32.ofInt x3))] → W p l e room_1 s m #[Value.ref b] below meth c H locs 600000 7302250 (lw_Z below #[Value.ref b] s) (F0 m 18 ls [])), ∀ (x3 : Int) (σ : Nat → Int) (τ : Nat → Nat → Int) (H : Heap) (locs : List Loc) (ls : Array Slot), ga_LW_law_760 L (fun j => (xs j).toInt) k18 x3 σ τ = some 1 → va_P (dC, dI) vwCl (wd_LW_law cA qa σ τ) H → va_D A (wd_LW_law cA qa σ τ) → va_S A s.heap H locs → lv_has ls 4 [(0, .ref b), (1, .ref (qa 0)), (2, .ref (qa 13)), (3, .int (Int32.ofInt x3))] → W p l e room_1 s m #[Value.ref b] below meth c H locs 600000 7302250 (lw_Z below #[Value.ref b] s) (F0 m 760 ls []) := by
    intro k18 ih18 x3 σ τ H locs ls hf hP hD hS hl
    unfold ga_LW_law_760 at hf
    refine lv_aload_n hx hb (zdt zkL_law 760 rfl) rfl (lv_at hl 1 rfl) ?_
    refine lv_aload_n hx hb (zdt zkL_law 761 rfl) rfl (lv_at hl 0 rfl) ?_
    refine lv_iload_n hx hb (zdt zkL_law 762 rfl) rfl (lv_at hl 3 rfl) ?_
    refine lv_iconst (v := Int32.ofInt 1) hx hb (zdt zkL_law 763 rfl) rfl ?_
    refine xi_iadd hx hb (zdt zkL_law 764 rfl) hf (fun v1 hf => ?_)
    refine xi_lld hx hb hX hbl hbA hS (zdt zkL_law 765 rfl) hf (fun v2 hf => ?_)
    refine lv_aload_n hx hb (zdt zkL_law 766 rfl) rfl (lv_at hl 0 rfl) ?_
    refine lv_iload_n hx hb (zdt zkL_law 767 rfl) rfl (lv_at hl 3 rfl) ?_
    refine lv_iconst (v := Int32.ofInt 2) hx hb (zdt zkL_law 768 rfl) rfl ?_
    refine xi_iadd hx hb (zdt zkL_law 769 rfl) hf (fun v3 hf => ?_)
    refine xi_lld hx hb hX hbl hbA hS (zdt zkL_law 770 rfl) hf (fun v4 hf => ?_)
    refine lv_aload_n hx hb (zdt zkL_law 771 rfl) rfl (lv_at hl 0 rfl) ?_
    refine lv_iload_n hx hb (zdt zkL_law 772 rfl) rfl (lv_at hl 3 rfl) ?_
    refine lv_iconst (v := Int32.ofInt 3) hx hb (zdt zkL_law 773 rfl) rfl ?_
    refine xi_iadd hx hb (zdt zkL_law 774 rfl) hf (fun v5 hf => ?_)
    refine xi_lld hx hb hX hbl hbA hS (zdt zkL_law 775 rfl) hf (fun v6 hf => ?_)
    refine lv_aload_n hx hb (zdt zkL_law 776 rfl) rfl (lv_at hl 0 rfl) ?_
    refine lv_iload_n hx hb (zdt zkL_law 777 rfl) rfl (lv_at hl 3 rfl) ?_
    refine lv_iconst (v := Int32.ofInt 4) hx hb (zdt zkL_law 778 rfl) rfl ?_
    refine xi_iadd hx hb (zdt zkL_law 779 rfl) hf (fun v7 hf => ?_)
    refine xi_lld hx hb hX hbl hbA hS (zdt zkL_law 780 rfl) hf (fun v8 hf => ?_)
    refine xe_d11 hf (fun v9 v10 v11 a12 v13 v14 v15 a16 a17 a18 a19 hg hf => ?_)
    have hC : ([0, 2, 6, 8, 45, 46, 47, 50, 52, 53, 60, 61, 80, 81] : List Nat).map (fun i => (wd_LW_law cA qa σ τ)[i]?) = (wd_HS_exchange cA (qa 0) (qa 1) (qa 2) (qa 3) (qa 4) (qa 5) (qa 6) (qa 7) (qa 8) (qa 9) (qa 10) (qa 11) (qa 12) (qa 45) (qa 46) (qa 47) (qa 48) (qa 49) (qa 50) (qa 51) (qa 52) (qa 53) (qa 60) (qa 61) (qa 80) (qa 81) (σ 0) (σ 1) (σ 2) (σ 27) (σ 26) (σ 28) (σ 29) (σ 49) (τ 34) (τ 35) (τ 38) (τ 40) (τ 41) (σ 3) (σ 30) (τ 2) (σ 34) (σ 35) (σ 36) (τ 46) (τ 47) (τ 63) (τ 64)).map some := rfl
    refine xv_afterI (ws' := (wd_LW_law cA qa (zst σ [(3, v10), (30, v11), (34, v13), (35, v14), (36, v15)]) (zta τ [(2, a12), (46, a16), (47, a17), (63, a18), (64, a19)]))) (isC := [0, 2, 6, 8, 45, 46, 47, 50, 52, 53, 60, 61, 80, 81]) (ps := [some 0, none, some 1, none, none, none, some 2, none, some 3, none, none, none, none, none, none, none, none, none, none, none, none, none, none, none, none, none, none, none, none, none, none, none, none, none, none, none, none, none, none, none, none, none, none, none, none, some 4, some 5, some 6, none, none, some 7, none, some 8, some 9, none, none, none, none, none, none, some 10, some 11, none, none, none, none, none, none, none, none, none, none, none, none, none, none, none, none, none, none, some 12, some 13, none, none, none, none, none, none, none, none, none, none, none, none, none, none, none, none, none, none, none, none, none, none, none, none, none, none, none, none, none, none, none, none]) (va_runV (As := [.int (Int32.ofInt v2), .int (Int32.ofInt v4), .int (Int32.ofInt v6), .int (Int32.ofInt v8)]) (rest := []) ⟨hx, hb, hml, hown, hts⟩ (c_HS_exchange l ev dC dI cA (qa 0) (qa 1) (qa 2) (qa 3) (qa 4) (qa 5) (qa 6) (qa 7) (qa 8) (qa 9) (qa 10) (qa 11) (qa 12) (qa 45) (qa 46) (qa 47) (qa 48) (qa 49) (qa 50) (qa 51) (qa 52) (qa 53) (qa 60) (qa 61) (qa 80) (qa 81) ((σ 0)) ((σ 1)) ((σ 2)) ((σ 27)) hg H.size) (cwV 4 hts (zgVL zw_855 zw_856 zw_857 zw_104 zw_858) rfl rfl rfl hd_HS_exchange ⟨Nat.le_of_ble_eq_true rfl, Nat.le_of_ble_eq_true rfl⟩) (xv_preV (T := TX10) (N := 16) hE hA hS hK hP hD (isC := [0, 2, 6, 8, 45, 46, 47, 50, 52, 53, 60, 61, 80, 81]) (by decide +kernel) hC (q0 := 0) (ci := 10) rfl rfl) rfl rfl hl.1 rfl (lv_room (Nat.le_of_ble_eq_true rfl)) (zdt zkL_law 781 rfl) ⟨Nat.le_refl _, Nat.le_refl _⟩) hP hD hS hA (by decide +kernel) rfl hC rfl rfl (fun H locs hP hD hS => ?_)
    refine lv_pop hx hb (zdt zkL_law 784 rfl) rfl ?_
    refine lv_aload_n hx hb (zdt zkL_law 785 rfl) rfl (lv_at hl 2 rfl) ?_
    refine lv_aload_n hx hb (zdt zkL_law 786 rfl) rfl (lv_at hl 0 rfl) ?_
    refine lv_iload_n hx hb (zdt zkL_law 787 rfl) rfl (lv_at hl 3 rfl) ?_
    refine lv_iconst (v := Int32.ofInt 1) hx hb (zdt zkL_law 788 rfl) rfl ?_
    refine xi_iadd hx hb (zdt zkL_law 789 rfl) hf (fun v20 hf => ?_)
    refine xi_lld hx hb hX hbl hbA hS (zdt zkL_law 790 rfl) hf (fun v21 hf => ?_)
    refine lv_aload_n hx hb (zdt zkL_law 791 rfl) rfl (lv_at hl 0 rfl) ?_
    refine lv_iload_n hx hb (zdt zkL_law 792 rfl) rfl (lv_at hl 3 rfl) ?_
    refine lv_iconst (v := Int32.ofInt 2) hx hb (zdt zkL_law 793 rfl) rfl ?_
    refine xi_iadd hx hb (zdt zkL_law 794 rfl) hf (fun v22 hf => ?_)
    refine xi_lld hx hb hX hbl hbA hS (zdt zkL_law 795 rfl) hf (fun v23 hf => ?_)
    refine lv_aload_n hx hb (zdt zkL_law 796 rfl) rfl (lv_at hl 0 rfl) ?_
    refine lv_iload_n hx hb (zdt zkL_law 797 rfl) rfl (lv_at hl 3 rfl) ?_
    refine lv_iconst (v := Int32.ofInt 3) hx hb (zdt zkL_law 798 rfl) rfl ?_
    refine xi_iadd hx hb (zdt zkL_law 799 rfl) hf (fun v24 hf => ?_)
    refine xi_lld hx hb hX hbl hbA hS (zdt zkL_law 800 rfl) hf (fun v25 hf => ?_)
    refine lv_aload_n hx hb (zdt zkL_law 801 rfl) rfl (lv_at hl 0 rfl) ?_
    refine lv_iload_n hx hb (zdt zkL_law 802 rfl) rfl (lv_at hl 3 rfl) ?_
    refine lv_iconst (v := Int32.ofInt 4) hx hb (zdt zkL_law 803 rfl) rfl ?_
    refine xi_iadd hx hb (zdt zkL_law 804 rfl) hf (fun v26 hf => ?_)
    refine xi_lld hx hb hX hbl hbA hS (zdt zkL_law 805 rfl) hf (fun v27 hf => ?_)
    refine xe_d13 hf (fun v28 v29 v30 v31 v32 v33 v34 a35 a36 a37 a38 a39 a40 hg hf => ?_)
    have hC : ([1, 14, 15, 25, 26, 27, 28] : List Nat).map (fun i => (wd_LW_law cA qa (zst σ [(3, v10), (30, v11), (34, v13), (35, v14), (36, v15)]) (zta τ [(2, a12), (46, a16), (47, a17), (63, a18), (64, a19)]))[i]?) = (wd_HM_exchange cA (qa 13) (qa 14) (qa 15) (qa 16) (qa 17) (qa 18) (qa 19) (qa 20) (qa 21) (qa 22) (qa 23) (qa 24) (qa 25) (qa 26) (qa 27) (qa 28) (qa 29) (qa 30) (qa 31) (qa 32) (qa 33) (qa 34) (qa 35) (qa 36) (qa 37) (qa 38) (qa 39) (qa 40) (qa 41) (qa 42) (qa 43) (qa 44) (σ 6) (σ 7) (σ 8) (σ 9) (σ 10) (σ 11) (σ 12) (σ 13) (σ 14) (σ 15) (σ 16) (σ 17) (σ 18) (σ 23) (σ 24) (σ 25) (σ 4) (σ 5) (σ 19) (σ 20) (σ 21) (σ 22) (τ 3) (τ 4) (τ 14) (τ 15) (τ 16) (τ 17)).map some := rfl
    refine xv_afterI (ws' := (wd_LW_law cA qa (zst σ [(3, v10), (4, v29), (5, v30), (19, v31), (20, v32), (21, v33), (22, v34), (30, v11), (34, v13), (35, v14), (36, v15)]) (zta τ [(2, a12), (3, a35), (4, a36), (14, a37), (15, a38), (16, a39), (17, a40), (46, a16), (47, a17), (63, a18), (64, a19)]))) (isC := [1, 14, 15, 25, 26, 27, 28]) (ps := [none, some 0, none, none, none, none, none, none, none, none, none, none, none, none, some 1, some 2, none, none, none, none, none, none, none, none, none, some 3, some 4, some 5, some 6, none, none, none, none, none, none, none, none, none, none, none, none, none, none, none, none, none, none, none, none, none, none, none, none, none, none, none, none, none, none, none, none, none, none, none, none, none, none, none, none, none, none, none, none, none, none, none, none, none, none, none, none, none, none, none, none, none, none, none, none, none, none, none, none, none, none, none, none, none, none, none, none, none, none, none, none, none, none, none, none, none, none, none, none, none]) (va_runV (As := [.int (Int32.ofInt v21), .int (Int32.ofInt v23), .int (Int32.ofInt v25), .int (Int32.ofInt v27)]) (rest := []) ⟨hx, hb, hml, hown, hts⟩ (c_HM_exchange l ev dC dI cA (qa 13) (qa 14) (qa 15) (qa 16) (qa 17) (qa 18) (qa 19) (qa 20) (qa 21) (qa 22) (qa 23) (qa 24) (qa 25) (qa 26) (qa 27) (qa 28) (qa 29) (qa 30) (qa 31) (qa 32) (qa 33) (qa 34) (qa 35) (qa 36) (qa 37) (qa 38) (qa 39) (qa 40) (qa 41) (qa 42) (qa 43) (qa 44) ((σ 6)) ((σ 7)) ((σ 8)) ((σ 9)) ((σ 10)) ((σ 11)) ((σ 12)) ((σ 13)) ((σ 14)) ((σ 15)) ((σ 16)) ((σ 17)) ((σ 18)) ((σ 23)) ((σ 24)) ((σ 25)) hg H.size) (cwV 4 hts (zgVL zw_1598 zw_1599 zw_1600 zw_115 zw_1601) rfl rfl rfl hd_HM_exchange ⟨Nat.le_of_ble_eq_true rfl, Nat.le_of_ble_eq_true rfl⟩) (xv_preV (T := TX11) (N := 53) hE hA hS hK hP hD (isC := [1, 14, 15, 25, 26, 27, 28]) (by decide +kernel) hC (q0 := 1) (ci := 11) rfl rfl) rfl rfl hl.1 rfl (lv_room (Nat.le_of_ble_eq_true rfl)) (zdt zkL_law 806 rfl) ⟨Nat.le_refl _, Nat.le_refl _⟩) hP hD hS hA (by decide +kernel) rfl hC rfl rfl (fun H locs hP hD hS => ?_)
    refine lv_pop hx hb (zdt zkL_law 809 rfl) rfl ?_
    refine lv_goto (tgt := 1304) hx hb (zdt zkL_law 810 rfl) (by decide) ?_
    exact b_1304 _ ih18 _ _ _ _ _ _ hf hP hD hS (lv_sub hl [0, 1, 2, 3] rfl)
  have b_813 : ∀ (k18 : Int → (Nat → Int) → (Nat → Nat → Int) → Option (Int)) (_ : ∀ (x3 : Int) (σ : Nat → Int) (τ : Nat → Nat → Int) (H : Heap) (locs : List Loc) (ls : Array Slot), k18 x3 σ τ = some 1 → va_P (dC, dI) vwCl (wd_LW_law cA qa σ τ) H → va_D A (wd_LW_law cA qa σ τ) → va_S A s.heap H locs → lv_has ls 4 [(0, .ref b), (1, .ref (qa 0)), (2, .ref (qa 13)), (3, .int (Int32.ofInt x3))] → W p l e room_1 s m #[Value.ref b] below meth c H locs 600000 7302250 (lw_Z below #[Value.ref b] s) (F0 m 18 ls [])), ∀ (x3 : Int) (σ : Nat → Int) (τ : Nat → Nat → Int) (H : Heap) (locs : List Loc) (ls : Array Slot), ga_LW_law_813 L (fun j => (xs j).toInt) k18 x3 σ τ = some 1 → va_P (dC, dI) vwCl (wd_LW_law cA qa σ τ) H → va_D A (wd_LW_law cA qa σ τ) → va_S A s.heap H locs → lv_has ls 4 [(0, .ref b), (1, .ref (qa 0)), (2, .ref (qa 13)), (3, .int (Int32.ofInt x3))] → W p l e room_1 s m #[Value.ref b] below meth c H locs 600000 7302250 (lw_Z below #[Value.ref b] s) (F0 m 813 ls []) := by
    intro k18 ih18 x3 σ τ H locs ls hf hP hD hS hl
    unfold ga_LW_law_813 at hf
    refine lv_aload_n hx hb (zdt zkL_law 813 rfl) rfl (lv_at hl 1 rfl) ?_
    refine xe_d1 hf (fun v1 hg hf => ?_)
    have hC : ([0, 2, 45, 50, 80] : List Nat).map (fun i => (wd_LW_law cA qa σ τ)[i]?) = (wd_HS_steep cA (qa 0) (qa 1) (qa 2) (qa 3) (qa 4) (qa 5) (qa 6) (qa 7) (qa 8) (qa 9) (qa 10) (qa 11) (qa 12) (qa 45) (qa 46) (qa 47) (qa 48) (qa 49) (qa 50) (qa 51) (qa 52) (qa 53) (qa 80) (qa 81) (σ 0) (σ 1) (σ 2) (σ 3) (σ 26) (σ 27) (σ 28) (σ 29) (σ 30) (σ 49) (τ 38) (τ 63)).map some := rfl
    refine xv_afterI (ws' := (wd_LW_law cA qa σ τ)) (isC := [0, 2, 45, 50, 80]) (ps := [some 0, none, some 1, none, none, none, none, none, none, none, none, none, none, none, none, none, none, none, none, none, none, none, none, none, none, none, none, none, none, none, none, none, none, none, none, none, none, none, none, none, none, none, none, none, none, some 2, none, none, none, none, some 3, none, none, none, none, none, none, none, none, none, none, none, none, none, none, none, none, none, none, none, none, none, none, none, none, none, none, none, none, none, some 4, none, none, none, none, none, none, none, none, none, none, none, none, none, none, none, none, none, none, none, none, none, none, none, none, none, none, none, none, none, none, none, none, none]) (va_runV (As := []) (rest := []) ⟨hx, hb, hml, hown, hts⟩ (c_HS_steep l ev dC dI cA (qa 0) (qa 1) (qa 2) (qa 3) (qa 4) (qa 5) (qa 6) (qa 7) (qa 8) (qa 9) (qa 10) (qa 11) (qa 12) (qa 45) (qa 46) (qa 47) (qa 48) (qa 49) (qa 50) (qa 51) (qa 52) (qa 53) (qa 80) (qa 81) ((σ 0)) ((σ 1)) ((σ 2)) ((σ 3)) ((σ 26)) ((σ 27)) ((σ 28)) ((σ 29)) ((σ 30)) hg H.size) (cwV 0 hts (zgVL zw_860 zw_861 zw_862 zw_104 zw_863) rfl rfl rfl hd_HS_steep ⟨Nat.le_of_ble_eq_true rfl, Nat.le_of_ble_eq_true rfl⟩) (xv_preV (T := TX10) (N := 16) hE hA hS hK hP hD (isC := [0, 2, 45, 50, 80]) (by decide +kernel) hC (q0 := 0) (ci := 10) rfl rfl) rfl rfl hl.1 rfl (lv_room (Nat.le_of_ble_eq_true rfl)) (zdt zkL_law 814 rfl) ⟨Nat.le_refl _, Nat.le_refl _⟩) hP hD hS hA (by decide +kernel) rfl hC rfl rfl (fun H locs hP hD hS => ?_)
    refine lv_pop hx hb (zdt zkL_law 817 rfl) rfl ?_
    refine lv_aload_n hx hb (zdt zkL_law 818 rfl) rfl (lv_at hl 2 rfl) ?_
    refine xe_d4 hf (fun v2 v3 a4 a5 hg hf => ?_)
    have hC : ([1, 15, 27, 28] : List Nat).map (fun i => (wd_LW_law cA qa σ τ)[i]?) = (wd_HM_steep cA (qa 13) (qa 14) (qa 15) (qa 16) (qa 17) (qa 18) (qa 19) (qa 20) (qa 21) (qa 22) (qa 23) (qa 24) (qa 25) (qa 26) (qa 27) (qa 28) (qa 29) (qa 30) (qa 31) (qa 32) (qa 33) (qa 34) (qa 35) (qa 36) (qa 37) (qa 38) (qa 39) (qa 40) (qa 41) (qa 42) (qa 43) (qa 44) (σ 5) (σ 6) (σ 7) (σ 8) (σ 9) (σ 10) (σ 11) (σ 12) (σ 13) (σ 14) (σ 15) (σ 16) (σ 17) (σ 18) (σ 19) (σ 20) (σ 21) (σ 22) (σ 23) (σ 24) (σ 25) (τ 4) (σ 4) (τ 16) (τ 17)).map some := rfl
    refine xv_afterI (ws' := (wd_LW_law cA qa (zst σ [(4, v3)]) (zta τ [(16, a4), (17, a5)]))) (isC := [1, 15, 27, 28]) (ps := [none, some 0, none, none, none, none, none, none, none, none, none, none, none, none, none, some 1, none, none, none, none, none, none, none, none, none, none, none, some 2, some 3, none, none, none, none, none, none, none, none, none, none, none, none, none, none, none, none, none, none, none, none, none, none, none, none, none, none, none, none, none, none, none, none, none, none, none, none, none, none, none, none, none, none, none, none, none, none, none, none, none, none, none, none, none, none, none, none, none, none, none, none, none, none, none, none, none, none, none, none, none, none, none, none, none, none, none, none, none, none, none, none, none, none, none, none, none]) (va_runV (As := []) (rest := []) ⟨hx, hb, hml, hown, hts⟩ (c_HM_steep l ev dC dI cA (qa 13) (qa 14) (qa 15) (qa 16) (qa 17) (qa 18) (qa 19) (qa 20) (qa 21) (qa 22) (qa 23) (qa 24) (qa 25) (qa 26) (qa 27) (qa 28) (qa 29) (qa 30) (qa 31) (qa 32) (qa 33) (qa 34) (qa 35) (qa 36) (qa 37) (qa 38) (qa 39) (qa 40) (qa 41) (qa 42) (qa 43) (qa 44) ((σ 5)) ((σ 6)) ((σ 7)) ((σ 8)) ((σ 9)) ((σ 10)) ((σ 11)) ((σ 12)) ((σ 13)) ((σ 14)) ((σ 15)) ((σ 16)) ((σ 17)) ((σ 18)) ((σ 19)) ((σ 20)) ((σ 21)) ((σ 22)) ((σ 23)) ((σ 24)) ((σ 25)) hg H.size) (cwV 0 hts (zgVL zw_1602 zw_1603 zw_1604 zw_115 zw_1605) rfl rfl rfl hd_HM_steep ⟨Nat.le_of_ble_eq_true rfl, Nat.le_of_ble_eq_true rfl⟩) (xv_preV (T := TX11) (N := 53) hE hA hS hK hP hD (isC := [1, 15, 27, 28]) (by decide +kernel) hC (q0 := 1) (ci := 11) rfl rfl) rfl rfl hl.1 rfl (lv_room (Nat.le_of_ble_eq_true rfl)) (zdt zkL_law 819 rfl) ⟨Nat.le_refl _, Nat.le_refl _⟩) hP hD hS hA (by decide +kernel) rfl hC rfl rfl (fun H locs hP hD hS => ?_)
    refine lv_pop hx hb (zdt zkL_law 822 rfl) rfl ?_
    refine lv_goto (tgt := 1304) hx hb (zdt zkL_law 823 rfl) (by decide) ?_
    exact b_1304 _ ih18 _ _ _ _ _ _ hf hP hD hS (lv_sub hl [0, 1, 2, 3] rfl)
  have b_826 : ∀ (k18 : Int → (Nat → Int) → (Nat → Nat → Int) → Option (Int)) (_ : ∀ (x3 : Int) (σ : Nat → Int) (τ : Nat → Nat → Int) (H : Heap) (locs : List Loc) (ls : Array Slot), k18 x3 σ τ = some 1 → va_P (dC, dI) vwCl (wd_LW_law cA qa σ τ) H → va_D A (wd_LW_law cA qa σ τ) → va_S A s.heap H locs → lv_has ls 4 [(0, .ref b), (1, .ref (qa 0)), (2, .ref (qa 13)), (3, .int (Int32.ofInt x3))] → W p l e room_1 s m #[Value.ref b] below meth c H locs 600000 7302250 (lw_Z below #[Value.ref b] s) (F0 m 18 ls [])), ∀ (x3 : Int) (σ : Nat → Int) (τ : Nat → Nat → Int) (H : Heap) (locs : List Loc) (ls : Array Slot), ga_LW_law_826 L (fun j => (xs j).toInt) k18 x3 σ τ = some 1 → va_P (dC, dI) vwCl (wd_LW_law cA qa σ τ) H → va_D A (wd_LW_law cA qa σ τ) → va_S A s.heap H locs → lv_has ls 4 [(0, .ref b), (1, .ref (qa 0)), (2, .ref (qa 13)), (3, .int (Int32.ofInt x3))] → W p l e room_1 s m #[Value.ref b] below meth c H locs 600000 7302250 (lw_Z below #[Value.ref b] s) (F0 m 826 ls []) := by
    intro k18 ih18 x3 σ τ H locs ls hf hP hD hS hl
    unfold ga_LW_law_826 at hf
    refine lv_aload_n hx hb (zdt zkL_law 826 rfl) rfl (lv_at hl 1 rfl) ?_
    refine xe_d4 hf (fun v1 v2 a3 a4 hg hf => ?_)
    have hC : ([0, 2, 45, 50, 80, 81] : List Nat).map (fun i => (wd_LW_law cA qa σ τ)[i]?) = (wd_HS_slide cA (qa 0) (qa 1) (qa 2) (qa 3) (qa 4) (qa 5) (qa 6) (qa 7) (qa 8) (qa 9) (qa 10) (qa 11) (qa 12) (qa 45) (qa 46) (qa 47) (qa 48) (qa 49) (qa 50) (qa 51) (qa 52) (qa 53) (qa 80) (qa 81) (σ 0) (σ 1) (σ 2) (σ 3) (σ 26) (σ 27) (σ 28) (σ 29) (σ 49) (τ 38) (σ 30) (τ 63) (τ 64)).map some := rfl
    refine xv_afterI (ws' := (wd_LW_law cA qa (zst σ [(30, v2)]) (zta τ [(63, a3), (64, a4)]))) (isC := [0, 2, 45, 50, 80, 81]) (ps := [some 0, none, some 1, none, none, none, none, none, none, none, none, none, none, none, none, none, none, none, none, none, none, none, none, none, none, none, none, none, none, none, none, none, none, none, none, none, none, none, none, none, none, none, none, none, none, some 2, none, none, none, none, some 3, none, none, none, none, none, none, none, none, none, none, none, none, none, none, none, none, none, none, none, none, none, none, none, none, none, none, none, none, none, some 4, some 5, none, none, none, none, none, none, none, none, none, none, none, none, none, none, none, none, none, none, none, none, none, none, none, none, none, none, none, none, none, none, none, none]) (va_runV (As := []) (rest := []) ⟨hx, hb, hml, hown, hts⟩ (c_HS_slide l ev dC dI cA (qa 0) (qa 1) (qa 2) (qa 3) (qa 4) (qa 5) (qa 6) (qa 7) (qa 8) (qa 9) (qa 10) (qa 11) (qa 12) (qa 45) (qa 46) (qa 47) (qa 48) (qa 49) (qa 50) (qa 51) (qa 52) (qa 53) (qa 80) (qa 81) ((σ 0)) ((σ 1)) ((σ 2)) ((σ 3)) ((σ 26)) ((σ 27)) ((σ 28)) ((σ 29)) hg H.size) (cwV 0 hts (zgVL zw_872 zw_873 zw_874 zw_104 zw_875) rfl rfl rfl hd_HS_slide ⟨Nat.le_of_ble_eq_true rfl, Nat.le_of_ble_eq_true rfl⟩) (xv_preV (T := TX10) (N := 16) hE hA hS hK hP hD (isC := [0, 2, 45, 50, 80, 81]) (by decide +kernel) hC (q0 := 0) (ci := 10) rfl rfl) rfl rfl hl.1 rfl (lv_room (Nat.le_of_ble_eq_true rfl)) (zdt zkL_law 827 rfl) ⟨Nat.le_refl _, Nat.le_refl _⟩) hP hD hS hA (by decide +kernel) rfl hC rfl rfl (fun H locs hP hD hS => ?_)
    refine lv_pop hx hb (zdt zkL_law 830 rfl) rfl ?_
    refine lv_aload_n hx hb (zdt zkL_law 831 rfl) rfl (lv_at hl 2 rfl) ?_
    refine xe_d5 hf (fun v5 v6 a7 a8 a9 hg hf => ?_)
    have hC : ([1, 15, 27, 28] : List Nat).map (fun i => (wd_LW_law cA qa (zst σ [(30, v2)]) (zta τ [(63, a3), (64, a4)]))[i]?) = (wd_HM_slide cA (qa 13) (qa 14) (qa 15) (qa 16) (qa 17) (qa 18) (qa 19) (qa 20) (qa 21) (qa 22) (qa 23) (qa 24) (qa 25) (qa 26) (qa 27) (qa 28) (qa 29) (qa 30) (qa 31) (qa 32) (qa 33) (qa 34) (qa 35) (qa 36) (qa 37) (qa 38) (qa 39) (qa 40) (qa 41) (qa 42) (qa 43) (qa 44) (σ 5) (σ 6) (σ 7) (σ 8) (σ 9) (σ 10) (σ 11) (σ 12) (σ 13) (σ 14) (σ 15) (σ 16) (σ 17) (σ 18) (σ 19) (σ 20) (σ 21) (σ 22) (σ 23) (σ 24) (σ 25) (σ 4) (τ 4) (τ 16) (τ 17)).map some := rfl
    refine xv_afterI (ws' := (wd_LW_law cA qa (zst σ [(4, v6), (30, v2)]) (zta τ [(4, a7), (16, a8), (17, a9), (63, a3), (64, a4)]))) (isC := [1, 15, 27, 28]) (ps := [none, some 0, none, none, none, none, none, none, none, none, none, none, none, none, none, some 1, none, none, none, none, none, none, none, none, none, none, none, some 2, some 3, none, none, none, none, none, none, none, none, none, none, none, none, none, none, none, none, none, none, none, none, none, none, none, none, none, none, none, none, none, none, none, none, none, none, none, none, none, none, none, none, none, none, none, none, none, none, none, none, none, none, none, none, none, none, none, none, none, none, none, none, none, none, none, none, none, none, none, none, none, none, none, none, none, none, none, none, none, none, none, none, none, none, none, none, none]) (va_runV (As := []) (rest := []) ⟨hx, hb, hml, hown, hts⟩ (c_HM_slide l ev dC dI cA (qa 13) (qa 14) (qa 15) (qa 16) (qa 17) (qa 18) (qa 19) (qa 20) (qa 21) (qa 22) (qa 23) (qa 24) (qa 25) (qa 26) (qa 27) (qa 28) (qa 29) (qa 30) (qa 31) (qa 32) (qa 33) (qa 34) (qa 35) (qa 36) (qa 37) (qa 38) (qa 39) (qa 40) (qa 41) (qa 42) (qa 43) (qa 44) ((σ 5)) ((σ 6)) ((σ 7)) ((σ 8)) ((σ 9)) ((σ 10)) ((σ 11)) ((σ 12)) ((σ 13)) ((σ 14)) ((σ 15)) ((σ 16)) ((σ 17)) ((σ 18)) ((σ 19)) ((σ 20)) ((σ 21)) ((σ 22)) ((σ 23)) ((σ 24)) ((σ 25)) hg H.size) (cwV 0 hts (zgVL zw_1614 zw_1615 zw_1616 zw_115 zw_1617) rfl rfl rfl hd_HM_slide ⟨Nat.le_of_ble_eq_true rfl, Nat.le_of_ble_eq_true rfl⟩) (xv_preV (T := TX11) (N := 53) hE hA hS hK hP hD (isC := [1, 15, 27, 28]) (by decide +kernel) hC (q0 := 1) (ci := 11) rfl rfl) rfl rfl hl.1 rfl (lv_room (Nat.le_of_ble_eq_true rfl)) (zdt zkL_law 832 rfl) ⟨Nat.le_refl _, Nat.le_refl _⟩) hP hD hS hA (by decide +kernel) rfl hC rfl rfl (fun H locs hP hD hS => ?_)
    refine lv_pop hx hb (zdt zkL_law 835 rfl) rfl ?_
    refine lv_goto (tgt := 1304) hx hb (zdt zkL_law 836 rfl) (by decide) ?_
    exact b_1304 _ ih18 _ _ _ _ _ _ hf hP hD hS (lv_sub hl [0, 1, 2, 3] rfl)
  have b_839 : ∀ (k18 : Int → (Nat → Int) → (Nat → Nat → Int) → Option (Int)) (_ : ∀ (x3 : Int) (σ : Nat → Int) (τ : Nat → Nat → Int) (H : Heap) (locs : List Loc) (ls : Array Slot), k18 x3 σ τ = some 1 → va_P (dC, dI) vwCl (wd_LW_law cA qa σ τ) H → va_D A (wd_LW_law cA qa σ τ) → va_S A s.heap H locs → lv_has ls 4 [(0, .ref b), (1, .ref (qa 0)), (2, .ref (qa 13)), (3, .int (Int32.ofInt x3))] → W p l e room_1 s m #[Value.ref b] below meth c H locs 600000 7302250 (lw_Z below #[Value.ref b] s) (F0 m 18 ls [])), ∀ (x3 : Int) (σ : Nat → Int) (τ : Nat → Nat → Int) (H : Heap) (locs : List Loc) (ls : Array Slot), ga_LW_law_839 L (fun j => (xs j).toInt) k18 x3 σ τ = some 1 → va_P (dC, dI) vwCl (wd_LW_law cA qa σ τ) H → va_D A (wd_LW_law cA qa σ τ) → va_S A s.heap H locs → lv_has ls 4 [(0, .ref b), (1, .ref (qa 0)), (2, .ref (qa 13)), (3, .int (Int32.ofInt x3))] → W p l e room_1 s m #[Value.ref b] below meth c H locs 600000 7302250 (lw_Z below #[Value.ref b] s) (F0 m 839 ls []) := by
    intro k18 ih18 x3 σ τ H locs ls hf hP hD hS hl
    unfold ga_LW_law_839 at hf
    refine lv_aload_n hx hb (zdt zkL_law 839 rfl) rfl (lv_at hl 1 rfl) ?_
    refine lv_aload_n hx hb (zdt zkL_law 840 rfl) rfl (lv_at hl 0 rfl) ?_
    refine lv_iload_n hx hb (zdt zkL_law 841 rfl) rfl (lv_at hl 3 rfl) ?_
    refine lv_iconst (v := Int32.ofInt 1) hx hb (zdt zkL_law 842 rfl) rfl ?_
    refine xi_iadd hx hb (zdt zkL_law 843 rfl) hf (fun v1 hf => ?_)
    refine xi_lld hx hb hX hbl hbA hS (zdt zkL_law 844 rfl) hf (fun v2 hf => ?_)
    refine xe_d1 hf (fun v3 hg hf => ?_)
    have hC : ([0, 2, 45, 49, 50, 80] : List Nat).map (fun i => (wd_LW_law cA qa σ τ)[i]?) = (wd_HS_shade cA (qa 0) (qa 1) (qa 2) (qa 3) (qa 4) (qa 5) (qa 6) (qa 7) (qa 8) (qa 9) (qa 10) (qa 11) (qa 12) (qa 45) (qa 46) (qa 47) (qa 48) (qa 49) (qa 50) (qa 51) (qa 52) (qa 53) (qa 80) (qa 81) (σ 0) (σ 1) (σ 2) (σ 3) (σ 26) (σ 28) (σ 29) (σ 30) (σ 27) (σ 49) (τ 37) (τ 38) (τ 63)).map some := rfl
    refine xv_afterI (ws' := (wd_LW_law cA qa σ τ)) (isC := [0, 2, 45, 49, 50, 80]) (ps := [some 0, none, some 1, none, none, none, none, none, none, none, none, none, none, none, none, none, none, none, none, none, none, none, none, none, none, none, none, none, none, none, none, none, none, none, none, none, none, none, none, none, none, none, none, none, none, some 2, none, none, none, some 3, some 4, none, none, none, none, none, none, none, none, none, none, none, none, none, none, none, none, none, none, none, none, none, none, none, none, none, none, none, none, none, some 5, none, none, none, none, none, none, none, none, none, none, none, none, none, none, none, none, none, none, none, none, none, none, none, none, none, none, none, none, none, none, none, none, none]) (va_runV (As := [.int (Int32.ofInt v2)]) (rest := []) ⟨hx, hb, hml, hown, hts⟩ (c_HS_shade l ev dC dI cA (qa 0) (qa 1) (qa 2) (qa 3) (qa 4) (qa 5) (qa 6) (qa 7) (qa 8) (qa 9) (qa 10) (qa 11) (qa 12) (qa 45) (qa 46) (qa 47) (qa 48) (qa 49) (qa 50) (qa 51) (qa 52) (qa 53) (qa 80) (qa 81) ((σ 0)) ((σ 1)) ((σ 2)) ((σ 3)) ((σ 26)) ((σ 28)) ((σ 29)) ((σ 30)) hg H.size) (cwV 1 hts (zgVL zw_882 zw_883 zw_884 zw_104 zw_885) rfl rfl rfl hd_HS_shade ⟨Nat.le_of_ble_eq_true rfl, Nat.le_of_ble_eq_true rfl⟩) (xv_preV (T := TX10) (N := 16) hE hA hS hK hP hD (isC := [0, 2, 45, 49, 50, 80]) (by decide +kernel) hC (q0 := 0) (ci := 10) rfl rfl) rfl rfl hl.1 rfl (lv_room (Nat.le_of_ble_eq_true rfl)) (zdt zkL_law 845 rfl) ⟨Nat.le_refl _, Nat.le_refl _⟩) hP hD hS hA (by decide +kernel) rfl hC rfl rfl (fun H locs hP hD hS => ?_)
    refine lv_pop hx hb (zdt zkL_law 848 rfl) rfl ?_
    refine lv_aload_n hx hb (zdt zkL_law 849 rfl) rfl (lv_at hl 2 rfl) ?_
    refine lv_aload_n hx hb (zdt zkL_law 850 rfl) rfl (lv_at hl 0 rfl) ?_
    refine lv_iload_n hx hb (zdt zkL_law 851 rfl) rfl (lv_at hl 3 rfl) ?_
    refine lv_iconst (v := Int32.ofInt 1) hx hb (zdt zkL_law 852 rfl) rfl ?_
    refine xi_iadd hx hb (zdt zkL_law 853 rfl) hf (fun v4 hf => ?_)
    refine xi_lld hx hb hX hbl hbA hS (zdt zkL_law 854 rfl) hf (fun v5 hf => ?_)
    refine xe_d4 hf (fun v6 v7 a8 a9 hg hf => ?_)
    have hC : ([1, 15, 27, 28] : List Nat).map (fun i => (wd_LW_law cA qa σ τ)[i]?) = (wd_HM_shade cA (qa 13) (qa 14) (qa 15) (qa 16) (qa 17) (qa 18) (qa 19) (qa 20) (qa 21) (qa 22) (qa 23) (qa 24) (qa 25) (qa 26) (qa 27) (qa 28) (qa 29) (qa 30) (qa 31) (qa 32) (qa 33) (qa 34) (qa 35) (qa 36) (qa 37) (qa 38) (qa 39) (qa 40) (qa 41) (qa 42) (qa 43) (qa 44) (σ 5) (σ 6) (σ 7) (σ 8) (σ 9) (σ 10) (σ 11) (σ 12) (σ 13) (σ 14) (σ 15) (σ 16) (σ 17) (σ 18) (σ 19) (σ 20) (σ 21) (σ 22) (σ 23) (σ 24) (σ 25) (τ 4) (σ 4) (τ 16) (τ 17)).map some := rfl
    refine xv_afterI (ws' := (wd_LW_law cA qa (zst σ [(4, v7)]) (zta τ [(16, a8), (17, a9)]))) (isC := [1, 15, 27, 28]) (ps := [none, some 0, none, none, none, none, none, none, none, none, none, none, none, none, none, some 1, none, none, none, none, none, none, none, none, none, none, none, some 2, some 3, none, none, none, none, none, none, none, none, none, none, none, none, none, none, none, none, none, none, none, none, none, none, none, none, none, none, none, none, none, none, none, none, none, none, none, none, none, none, none, none, none, none, none, none, none, none, none, none, none, none, none, none, none, none, none, none, none, none, none, none, none, none, none, none, none, none, none, none, none, none, none, none, none, none, none, none, none, none, none, none, none, none, none, none, none]) (va_runV (As := [.int (Int32.ofInt v5)]) (rest := []) ⟨hx, hb, hml, hown, hts⟩ (c_HM_shade l ev dC dI cA (qa 13) (qa 14) (qa 15) (qa 16) (qa 17) (qa 18) (qa 19) (qa 20) (qa 21) (qa 22) (qa 23) (qa 24) (qa 25) (qa 26) (qa 27) (qa 28) (qa 29) (qa 30) (qa 31) (qa 32) (qa 33) (qa 34) (qa 35) (qa 36) (qa 37) (qa 38) (qa 39) (qa 40) (qa 41) (qa 42) (qa 43) (qa 44) ((σ 5)) ((σ 6)) ((σ 7)) ((σ 8)) ((σ 9)) ((σ 10)) ((σ 11)) ((σ 12)) ((σ 13)) ((σ 14)) ((σ 15)) ((σ 16)) ((σ 17)) ((σ 18)) ((σ 19)) ((σ 20)) ((σ 21)) ((σ 22)) ((σ 23)) ((σ 24)) ((σ 25)) hg H.size) (cwV 1 hts (zgVL zw_1622 zw_1623 zw_1624 zw_115 zw_1625) rfl rfl rfl hd_HM_shade ⟨Nat.le_of_ble_eq_true rfl, Nat.le_of_ble_eq_true rfl⟩) (xv_preV (T := TX11) (N := 53) hE hA hS hK hP hD (isC := [1, 15, 27, 28]) (by decide +kernel) hC (q0 := 1) (ci := 11) rfl rfl) rfl rfl hl.1 rfl (lv_room (Nat.le_of_ble_eq_true rfl)) (zdt zkL_law 855 rfl) ⟨Nat.le_refl _, Nat.le_refl _⟩) hP hD hS hA (by decide +kernel) rfl hC rfl rfl (fun H locs hP hD hS => ?_)
    refine lv_pop hx hb (zdt zkL_law 858 rfl) rfl ?_
    refine lv_goto (tgt := 1304) hx hb (zdt zkL_law 859 rfl) (by decide) ?_
    exact b_1304 _ ih18 _ _ _ _ _ _ hf hP hD hS (lv_sub hl [0, 1, 2, 3] rfl)
  have b_862 : ∀ (k18 : Int → (Nat → Int) → (Nat → Nat → Int) → Option (Int)) (_ : ∀ (x3 : Int) (σ : Nat → Int) (τ : Nat → Nat → Int) (H : Heap) (locs : List Loc) (ls : Array Slot), k18 x3 σ τ = some 1 → va_P (dC, dI) vwCl (wd_LW_law cA qa σ τ) H → va_D A (wd_LW_law cA qa σ τ) → va_S A s.heap H locs → lv_has ls 4 [(0, .ref b), (1, .ref (qa 0)), (2, .ref (qa 13)), (3, .int (Int32.ofInt x3))] → W p l e room_1 s m #[Value.ref b] below meth c H locs 600000 7302250 (lw_Z below #[Value.ref b] s) (F0 m 18 ls [])), ∀ (x3 : Int) (σ : Nat → Int) (τ : Nat → Nat → Int) (H : Heap) (locs : List Loc) (ls : Array Slot), ga_LW_law_862 L (fun j => (xs j).toInt) k18 x3 σ τ = some 1 → va_P (dC, dI) vwCl (wd_LW_law cA qa σ τ) H → va_D A (wd_LW_law cA qa σ τ) → va_S A s.heap H locs → lv_has ls 4 [(0, .ref b), (1, .ref (qa 0)), (2, .ref (qa 13)), (3, .int (Int32.ofInt x3))] → W p l e room_1 s m #[Value.ref b] below meth c H locs 600000 7302250 (lw_Z below #[Value.ref b] s) (F0 m 862 ls []) := by
    intro k18 ih18 x3 σ τ H locs ls hf hP hD hS hl
    unfold ga_LW_law_862 at hf
    refine lv_aload_n hx hb (zdt zkL_law 862 rfl) rfl (lv_at hl 1 rfl) ?_
    refine lv_aload_n hx hb (zdt zkL_law 863 rfl) rfl (lv_at hl 0 rfl) ?_
    refine lv_iload_n hx hb (zdt zkL_law 864 rfl) rfl (lv_at hl 3 rfl) ?_
    refine lv_iconst (v := Int32.ofInt 1) hx hb (zdt zkL_law 865 rfl) rfl ?_
    refine xi_iadd hx hb (zdt zkL_law 866 rfl) hf (fun v1 hf => ?_)
    refine xi_lld hx hb hX hbl hbA hS (zdt zkL_law 867 rfl) hf (fun v2 hf => ?_)
    refine lv_aload_n hx hb (zdt zkL_law 868 rfl) rfl (lv_at hl 0 rfl) ?_
    refine lv_iload_n hx hb (zdt zkL_law 869 rfl) rfl (lv_at hl 3 rfl) ?_
    refine lv_iconst (v := Int32.ofInt 2) hx hb (zdt zkL_law 870 rfl) rfl ?_
    refine xi_iadd hx hb (zdt zkL_law 871 rfl) hf (fun v3 hf => ?_)
    refine xi_lld hx hb hX hbl hbA hS (zdt zkL_law 872 rfl) hf (fun v4 hf => ?_)
    refine lv_aload_n hx hb (zdt zkL_law 873 rfl) rfl (lv_at hl 0 rfl) ?_
    refine lv_iload_n hx hb (zdt zkL_law 874 rfl) rfl (lv_at hl 3 rfl) ?_
    refine lv_iconst (v := Int32.ofInt 3) hx hb (zdt zkL_law 875 rfl) rfl ?_
    refine xi_iadd hx hb (zdt zkL_law 876 rfl) hf (fun v5 hf => ?_)
    refine xi_lld hx hb hX hbl hbA hS (zdt zkL_law 877 rfl) hf (fun v6 hf => ?_)
    refine lv_aload_n hx hb (zdt zkL_law 878 rfl) rfl (lv_at hl 0 rfl) ?_
    refine lv_iload_n hx hb (zdt zkL_law 879 rfl) rfl (lv_at hl 3 rfl) ?_
    refine lv_iconst (v := Int32.ofInt 4) hx hb (zdt zkL_law 880 rfl) rfl ?_
    refine xi_iadd hx hb (zdt zkL_law 881 rfl) hf (fun v7 hf => ?_)
    refine xi_lld hx hb hX hbl hbA hS (zdt zkL_law 882 rfl) hf (fun v8 hf => ?_)
    refine xe_d8 hf (fun v9 v10 v11 v12 a13 a14 a15 a16 hg hf => ?_)
    have hC : ([0, 2, 8, 45, 46, 47, 49, 50, 52, 53, 60, 61, 80, 81] : List Nat).map (fun i => (wd_LW_law cA qa σ τ)[i]?) = (wd_HS_gains cA (qa 0) (qa 1) (qa 2) (qa 3) (qa 4) (qa 5) (qa 6) (qa 7) (qa 8) (qa 9) (qa 10) (qa 11) (qa 12) (qa 45) (qa 46) (qa 47) (qa 48) (qa 49) (qa 50) (qa 51) (qa 52) (qa 53) (qa 60) (qa 61) (qa 80) (qa 81) (σ 0) (σ 1) (σ 2) (σ 3) (σ 30) (σ 26) (σ 27) (σ 28) (σ 29) (σ 49) (τ 34) (τ 35) (τ 37) (τ 38) (τ 40) (τ 41) (σ 34) (σ 35) (σ 36) (τ 46) (τ 47) (τ 63) (τ 64)).map some := rfl
    refine xv_afterI (ws' := (wd_LW_law cA qa (zst σ [(34, v10), (35, v11), (36, v12)]) (zta τ [(46, a13), (47, a14), (63, a15), (64, a16)]))) (isC := [0, 2, 8, 45, 46, 47, 49, 50, 52, 53, 60, 61, 80, 81]) (ps := [some 0, none, some 1, none, none, none, none, none, some 2, none, none, none, none, none, none, none, none, none, none, none, none, none, none, none, none, none, none, none, none, none, none, none, none, none, none, none, none, none, none, none, none, none, none, none, none, some 3, some 4, some 5, none, some 6, some 7, none, some 8, some 9, none, none, none, none, none, none, some 10, some 11, none, none, none, none, none, none, none, none, none, none, none, none, none, none, none, none, none, none, some 12, some 13, none, none, none, none, none, none, none, none, none, none, none, none, none, none, none, none, none, none, none, none, none, none, none, none, none, none, none, none, none, none, none, none]) (va_runV (As := [.int (Int32.ofInt v2), .int (Int32.ofInt v4), .int (Int32.ofInt v6), .int (Int32.ofInt v8)]) (rest := []) ⟨hx, hb, hml, hown, hts⟩ (c_HS_gains l ev dC dI cA (qa 0) (qa 1) (qa 2) (qa 3) (qa 4) (qa 5) (qa 6) (qa 7) (qa 8) (qa 9) (qa 10) (qa 11) (qa 12) (qa 45) (qa 46) (qa 47) (qa 48) (qa 49) (qa 50) (qa 51) (qa 52) (qa 53) (qa 60) (qa 61) (qa 80) (qa 81) ((σ 0)) ((σ 1)) ((σ 2)) ((σ 3)) ((σ 30)) hg H.size) (cwV 4 hts (zgVL zw_906 zw_907 zw_908 zw_104 zw_909) rfl rfl rfl hd_HS_gains ⟨Nat.le_of_ble_eq_true rfl, Nat.le_of_ble_eq_true rfl⟩) (xv_preV (T := TX10) (N := 16) hE hA hS hK hP hD (isC := [0, 2, 8, 45, 46, 47, 49, 50, 52, 53, 60, 61, 80, 81]) (by decide +kernel) hC (q0 := 0) (ci := 10) rfl rfl) rfl rfl hl.1 rfl (lv_room (Nat.le_of_ble_eq_true rfl)) (zdt zkL_law 883 rfl) ⟨Nat.le_refl _, Nat.le_refl _⟩) hP hD hS hA (by decide +kernel) rfl hC rfl rfl (fun H locs hP hD hS => ?_)
    refine lv_pop hx hb (zdt zkL_law 886 rfl) rfl ?_
    refine lv_aload_n hx hb (zdt zkL_law 887 rfl) rfl (lv_at hl 2 rfl) ?_
    refine lv_aload_n hx hb (zdt zkL_law 888 rfl) rfl (lv_at hl 0 rfl) ?_
    refine lv_iload_n hx hb (zdt zkL_law 889 rfl) rfl (lv_at hl 3 rfl) ?_
    refine lv_iconst (v := Int32.ofInt 1) hx hb (zdt zkL_law 890 rfl) rfl ?_
    refine xi_iadd hx hb (zdt zkL_law 891 rfl) hf (fun v17 hf => ?_)
    refine xi_lld hx hb hX hbl hbA hS (zdt zkL_law 892 rfl) hf (fun v18 hf => ?_)
    refine lv_aload_n hx hb (zdt zkL_law 893 rfl) rfl (lv_at hl 0 rfl) ?_
    refine lv_iload_n hx hb (zdt zkL_law 894 rfl) rfl (lv_at hl 3 rfl) ?_
    refine lv_iconst (v := Int32.ofInt 2) hx hb (zdt zkL_law 895 rfl) rfl ?_
    refine xi_iadd hx hb (zdt zkL_law 896 rfl) hf (fun v19 hf => ?_)
    refine xi_lld hx hb hX hbl hbA hS (zdt zkL_law 897 rfl) hf (fun v20 hf => ?_)
    refine lv_aload_n hx hb (zdt zkL_law 898 rfl) rfl (lv_at hl 0 rfl) ?_
    refine lv_iload_n hx hb (zdt zkL_law 899 rfl) rfl (lv_at hl 3 rfl) ?_
    refine lv_iconst (v := Int32.ofInt 3) hx hb (zdt zkL_law 900 rfl) rfl ?_
    refine xi_iadd hx hb (zdt zkL_law 901 rfl) hf (fun v21 hf => ?_)
    refine xi_lld hx hb hX hbl hbA hS (zdt zkL_law 902 rfl) hf (fun v22 hf => ?_)
    refine lv_aload_n hx hb (zdt zkL_law 903 rfl) rfl (lv_at hl 0 rfl) ?_
    refine lv_iload_n hx hb (zdt zkL_law 904 rfl) rfl (lv_at hl 3 rfl) ?_
    refine lv_iconst (v := Int32.ofInt 4) hx hb (zdt zkL_law 905 rfl) rfl ?_
    refine xi_iadd hx hb (zdt zkL_law 906 rfl) hf (fun v23 hf => ?_)
    refine xi_lld hx hb hX hbl hbA hS (zdt zkL_law 907 rfl) hf (fun v24 hf => ?_)
    refine xe_d10 hf (fun v25 v26 v27 v28 v29 v30 a31 a32 a33 a34 hg hf => ?_)
    have hC : ([1, 15, 25, 26, 27, 28] : List Nat).map (fun i => (wd_LW_law cA qa (zst σ [(34, v10), (35, v11), (36, v12)]) (zta τ [(46, a13), (47, a14), (63, a15), (64, a16)]))[i]?) = (wd_HM_gains cA (qa 13) (qa 14) (qa 15) (qa 16) (qa 17) (qa 18) (qa 19) (qa 20) (qa 21) (qa 22) (qa 23) (qa 24) (qa 25) (qa 26) (qa 27) (qa 28) (qa 29) (qa 30) (qa 31) (qa 32) (qa 33) (qa 34) (qa 35) (qa 36) (qa 37) (qa 38) (qa 39) (qa 40) (qa 41) (qa 42) (qa 43) (qa 44) (σ 5) (σ 6) (σ 7) (σ 8) (σ 9) (σ 10) (σ 11) (σ 12) (σ 13) (σ 14) (σ 15) (σ 16) (σ 17) (σ 18) (σ 23) (σ 24) (σ 25) (τ 4) (σ 4) (σ 19) (σ 20) (σ 21) (σ 22) (τ 14) (τ 15) (τ 16) (τ 17)).map some := rfl
    refine xv_afterI (ws' := (wd_LW_law cA qa (zst σ [(4, v26), (19, v27), (20, v28), (21, v29), (22, v30), (34, v10), (35, v11), (36, v12)]) (zta τ [(14, a31), (15, a32), (16, a33), (17, a34), (46, a13), (47, a14), (63, a15), (64, a16)]))) (isC := [1, 15, 25, 26, 27, 28]) (ps := [none, some 0, none, none, none, none, none, none, none, none, none, none, none, none, none, some 1, none, none, none, none, none, none, none, none, none, some 2, some 3, some 4, some 5, none, none, none, none, none, none, none, none, none, none, none, none, none, none, none, none, none, none, none, none, none, none, none, none, none, none, none, none, none, none, none, none, none, none, none, none, none, none, none, none, none, none, none, none, none, none, none, none, none, none, none, none, none, none, none, none, none, none, none, none, none, none, none, none, none, none, none, none, none, none, none, none, none, none, none, none, none, none, none, none, none, none, none, none, none]) (va_runV (As := [.int (Int32.ofInt v18), .int (Int32.ofInt v20), .int (Int32.ofInt v22), .int (Int32.ofInt v24)]) (rest := []) ⟨hx, hb, hml, hown, hts⟩ (c_HM_gains l ev dC dI cA (qa 13) (qa 14) (qa 15) (qa 16) (qa 17) (qa 18) (qa 19) (qa 20) (qa 21) (qa 22) (qa 23) (qa 24) (qa 25) (qa 26) (qa 27) (qa 28) (qa 29) (qa 30) (qa 31) (qa 32) (qa 33) (qa 34) (qa 35) (qa 36) (qa 37) (qa 38) (qa 39) (qa 40) (qa 41) (qa 42) (qa 43) (qa 44) ((σ 5)) ((σ 6)) ((σ 7)) ((σ 8)) ((σ 9)) ((σ 10)) ((σ 11)) ((σ 12)) ((σ 13)) ((σ 14)) ((σ 15)) ((σ 16)) ((σ 17)) ((σ 18)) ((σ 23)) ((σ 24)) ((σ 25)) hg H.size) (cwV 4 hts (zgVL zw_1638 zw_1639 zw_1640 zw_115 zw_1641) rfl rfl rfl hd_HM_gains ⟨Nat.le_of_ble_eq_true rfl, Nat.le_of_ble_eq_true rfl⟩) (xv_preV (T := TX11) (N := 53) hE hA hS hK hP hD (isC := [1, 15, 25, 26, 27, 28]) (by decide +kernel) hC (q0 := 1) (ci := 11) rfl rfl) rfl rfl hl.1 rfl (lv_room (Nat.le_of_ble_eq_true rfl)) (zdt zkL_law 908 rfl) ⟨Nat.le_refl _, Nat.le_refl _⟩) hP hD hS hA (by decide +kernel) rfl hC rfl rfl (fun H locs hP hD hS => ?_)
    refine lv_pop hx hb (zdt zkL_law 911 rfl) rfl ?_
    refine lv_goto (tgt := 1304) hx hb (zdt zkL_law 912 rfl) (by decide) ?_
    exact b_1304 _ ih18 _ _ _ _ _ _ hf hP hD hS (lv_sub hl [0, 1, 2, 3] rfl)
  have b_915 : ∀ (k18 : Int → (Nat → Int) → (Nat → Nat → Int) → Option (Int)) (_ : ∀ (x3 : Int) (σ : Nat → Int) (τ : Nat → Nat → Int) (H : Heap) (locs : List Loc) (ls : Array Slot), k18 x3 σ τ = some 1 → va_P (dC, dI) vwCl (wd_LW_law cA qa σ τ) H → va_D A (wd_LW_law cA qa σ τ) → va_S A s.heap H locs → lv_has ls 4 [(0, .ref b), (1, .ref (qa 0)), (2, .ref (qa 13)), (3, .int (Int32.ofInt x3))] → W p l e room_1 s m #[Value.ref b] below meth c H locs 600000 7302250 (lw_Z below #[Value.ref b] s) (F0 m 18 ls [])), ∀ (x3 : Int) (σ : Nat → Int) (τ : Nat → Nat → Int) (H : Heap) (locs : List Loc) (ls : Array Slot), ga_LW_law_915 L (fun j => (xs j).toInt) k18 x3 σ τ = some 1 → va_P (dC, dI) vwCl (wd_LW_law cA qa σ τ) H → va_D A (wd_LW_law cA qa σ τ) → va_S A s.heap H locs → lv_has ls 4 [(0, .ref b), (1, .ref (qa 0)), (2, .ref (qa 13)), (3, .int (Int32.ofInt x3))] → W p l e room_1 s m #[Value.ref b] below meth c H locs 600000 7302250 (lw_Z below #[Value.ref b] s) (F0 m 915 ls []) := by
    intro k18 ih18 x3 σ τ H locs ls hf hP hD hS hl
    unfold ga_LW_law_915 at hf
    refine lv_aload_n hx hb (zdt zkL_law 915 rfl) rfl (lv_at hl 1 rfl) ?_
    refine lv_aload_n hx hb (zdt zkL_law 916 rfl) rfl (lv_at hl 0 rfl) ?_
    refine lv_iload_n hx hb (zdt zkL_law 917 rfl) rfl (lv_at hl 3 rfl) ?_
    refine lv_iconst (v := Int32.ofInt 1) hx hb (zdt zkL_law 918 rfl) rfl ?_
    refine xi_iadd hx hb (zdt zkL_law 919 rfl) hf (fun v1 hf => ?_)
    refine xi_lld hx hb hX hbl hbA hS (zdt zkL_law 920 rfl) hf (fun v2 hf => ?_)
    refine lv_aload_n hx hb (zdt zkL_law 921 rfl) rfl (lv_at hl 0 rfl) ?_
    refine lv_iload_n hx hb (zdt zkL_law 922 rfl) rfl (lv_at hl 3 rfl) ?_
    refine lv_iconst (v := Int32.ofInt 2) hx hb (zdt zkL_law 923 rfl) rfl ?_
    refine xi_iadd hx hb (zdt zkL_law 924 rfl) hf (fun v3 hf => ?_)
    refine xi_lld hx hb hX hbl hbA hS (zdt zkL_law 925 rfl) hf (fun v4 hf => ?_)
    refine xe_d5 hf (fun v5 v6 v7 a8 a9 hg hf => ?_)
    have hC : ([0, 2, 6, 45, 51] : List Nat).map (fun i => (wd_LW_law cA qa σ τ)[i]?) = (wd_HS_goal cA (qa 0) (qa 1) (qa 2) (qa 3) (qa 4) (qa 5) (qa 6) (qa 7) (qa 8) (qa 9) (qa 10) (qa 11) (qa 12) (qa 45) (qa 46) (qa 47) (qa 48) (qa 49) (qa 50) (qa 51) (qa 52) (qa 53) (qa 80) (qa 81) (σ 0) (σ 1) (σ 2) (σ 26) (σ 27) (σ 28) (σ 29) (σ 49) (σ 3) (σ 30) (τ 2) (τ 39)).map some := rfl
    refine xv_afterI (ws' := (wd_LW_law cA qa (zst σ [(3, v6), (30, v7)]) (zta τ [(2, a8), (39, a9)]))) (isC := [0, 2, 6, 45, 51]) (ps := [some 0, none, some 1, none, none, none, some 2, none, none, none, none, none, none, none, none, none, none, none, none, none, none, none, none, none, none, none, none, none, none, none, none, none, none, none, none, none, none, none, none, none, none, none, none, none, none, some 3, none, none, none, none, none, some 4, none, none, none, none, none, none, none, none, none, none, none, none, none, none, none, none, none, none, none, none, none, none, none, none, none, none, none, none, none, none, none, none, none, none, none, none, none, none, none, none, none, none, none, none, none, none, none, none, none, none, none, none, none, none, none, none, none, none, none, none, none, none]) (va_runV (As := [.int (Int32.ofInt v2), .int (Int32.ofInt v4)]) (rest := []) ⟨hx, hb, hml, hown, hts⟩ (c_HS_goal l ev dC dI cA (qa 0) (qa 1) (qa 2) (qa 3) (qa 4) (qa 5) (qa 6) (qa 7) (qa 8) (qa 9) (qa 10) (qa 11) (qa 12) (qa 45) (qa 46) (qa 47) (qa 48) (qa 49) (qa 50) (qa 51) (qa 52) (qa 53) (qa 80) (qa 81) ((σ 0)) ((σ 1)) ((σ 2)) ((σ 26)) ((σ 27)) ((σ 28)) ((σ 29)) hg H.size) (cwV 2 hts (zgVL zw_910 zw_911 zw_912 zw_104 zw_913) rfl rfl rfl hd_HS_goal ⟨Nat.le_of_ble_eq_true rfl, Nat.le_of_ble_eq_true rfl⟩) (xv_preV (T := TX10) (N := 16) hE hA hS hK hP hD (isC := [0, 2, 6, 45, 51]) (by decide +kernel) hC (q0 := 0) (ci := 10) rfl rfl) rfl rfl hl.1 rfl (lv_room (Nat.le_of_ble_eq_true rfl)) (zdt zkL_law 926 rfl) ⟨Nat.le_refl _, Nat.le_refl _⟩) hP hD hS hA (by decide +kernel) rfl hC rfl rfl (fun H locs hP hD hS => ?_)
    refine lv_pop hx hb (zdt zkL_law 929 rfl) rfl ?_
    refine lv_aload_n hx hb (zdt zkL_law 930 rfl) rfl (lv_at hl 2 rfl) ?_
    refine lv_aload_n hx hb (zdt zkL_law 931 rfl) rfl (lv_at hl 0 rfl) ?_
    refine lv_iload_n hx hb (zdt zkL_law 932 rfl) rfl (lv_at hl 3 rfl) ?_
    refine lv_iconst (v := Int32.ofInt 1) hx hb (zdt zkL_law 933 rfl) rfl ?_
    refine xi_iadd hx hb (zdt zkL_law 934 rfl) hf (fun v10 hf => ?_)
    refine xi_lld hx hb hX hbl hbA hS (zdt zkL_law 935 rfl) hf (fun v11 hf => ?_)
    refine lv_aload_n hx hb (zdt zkL_law 936 rfl) rfl (lv_at hl 0 rfl) ?_
    refine lv_iload_n hx hb (zdt zkL_law 937 rfl) rfl (lv_at hl 3 rfl) ?_
    refine lv_iconst (v := Int32.ofInt 2) hx hb (zdt zkL_law 938 rfl) rfl ?_
    refine xi_iadd hx hb (zdt zkL_law 939 rfl) hf (fun v12 hf => ?_)
    refine xi_lld hx hb hX hbl hbA hS (zdt zkL_law 940 rfl) hf (fun v13 hf => ?_)
    refine xe_d5 hf (fun v14 v15 v16 a17 a18 hg hf => ?_)
    have hC : ([1, 14, 15] : List Nat).map (fun i => (wd_LW_law cA qa (zst σ [(3, v6), (30, v7)]) (zta τ [(2, a8), (39, a9)]))[i]?) = (wd_HM_goal cA (qa 13) (qa 14) (qa 15) (qa 16) (qa 17) (qa 18) (qa 19) (qa 20) (qa 21) (qa 22) (qa 23) (qa 24) (qa 25) (qa 26) (qa 27) (qa 28) (qa 29) (qa 30) (qa 31) (qa 32) (qa 33) (qa 34) (qa 35) (qa 36) (qa 37) (qa 38) (qa 39) (qa 40) (qa 41) (qa 42) (qa 43) (qa 44) (σ 6) (σ 7) (σ 8) (σ 9) (σ 10) (σ 11) (σ 12) (σ 13) (σ 14) (σ 15) (σ 16) (σ 17) (σ 18) (σ 19) (σ 20) (σ 21) (σ 22) (σ 23) (σ 24) (σ 25) (σ 4) (σ 5) (τ 3) (τ 4)).map some := rfl
    refine xv_afterI (ws' := (wd_LW_law cA qa (zst σ [(3, v6), (4, v15), (5, v16), (30, v7)]) (zta τ [(2, a8), (3, a17), (4, a18), (39, a9)]))) (isC := [1, 14, 15]) (ps := [none, some 0, none, none, none, none, none, none, none, none, none, none, none, none, some 1, some 2, none, none, none, none, none, none, none, none, none, none, none, none, none, none, none, none, none, none, none, none, none, none, none, none, none, none, none, none, none, none, none, none, none, none, none, none, none, none, none, none, none, none, none, none, none, none, none, none, none, none, none, none, none, none, none, none, none, none, none, none, none, none, none, none, none, none, none, none, none, none, none, none, none, none, none, none, none, none, none, none, none, none, none, none, none, none, none, none, none, none, none, none, none, none, none, none, none, none]) (va_runV (As := [.int (Int32.ofInt v11), .int (Int32.ofInt v13)]) (rest := []) ⟨hx, hb, hml, hown, hts⟩ (c_HM_goal l ev dC dI cA (qa 13) (qa 14) (qa 15) (qa 16) (qa 17) (qa 18) (qa 19) (qa 20) (qa 21) (qa 22) (qa 23) (qa 24) (qa 25) (qa 26) (qa 27) (qa 28) (qa 29) (qa 30) (qa 31) (qa 32) (qa 33) (qa 34) (qa 35) (qa 36) (qa 37) (qa 38) (qa 39) (qa 40) (qa 41) (qa 42) (qa 43) (qa 44) ((σ 6)) ((σ 7)) ((σ 8)) ((σ 9)) ((σ 10)) ((σ 11)) ((σ 12)) ((σ 13)) ((σ 14)) ((σ 15)) ((σ 16)) ((σ 17)) ((σ 18)) ((σ 19)) ((σ 20)) ((σ 21)) ((σ 22)) ((σ 23)) ((σ 24)) ((σ 25)) hg H.size) (cwV 2 hts (zgVL zw_1642 zw_1643 zw_1644 zw_115 zw_1645) rfl rfl rfl hd_HM_goal ⟨Nat.le_of_ble_eq_true rfl, Nat.le_of_ble_eq_true rfl⟩) (xv_preV (T := TX11) (N := 53) hE hA hS hK hP hD (isC := [1, 14, 15]) (by decide +kernel) hC (q0 := 1) (ci := 11) rfl rfl) rfl rfl hl.1 rfl (lv_room (Nat.le_of_ble_eq_true rfl)) (zdt zkL_law 941 rfl) ⟨Nat.le_refl _, Nat.le_refl _⟩) hP hD hS hA (by decide +kernel) rfl hC rfl rfl (fun H locs hP hD hS => ?_)
    refine lv_pop hx hb (zdt zkL_law 944 rfl) rfl ?_
    refine lv_goto (tgt := 1304) hx hb (zdt zkL_law 945 rfl) (by decide) ?_
    exact b_1304 _ ih18 _ _ _ _ _ _ hf hP hD hS (lv_sub hl [0, 1, 2, 3] rfl)
  have b_948 : ∀ (k18 : Int → (Nat → Int) → (Nat → Nat → Int) → Option (Int)) (_ : ∀ (x3 : Int) (σ : Nat → Int) (τ : Nat → Nat → Int) (H : Heap) (locs : List Loc) (ls : Array Slot), k18 x3 σ τ = some 1 → va_P (dC, dI) vwCl (wd_LW_law cA qa σ τ) H → va_D A (wd_LW_law cA qa σ τ) → va_S A s.heap H locs → lv_has ls 4 [(0, .ref b), (1, .ref (qa 0)), (2, .ref (qa 13)), (3, .int (Int32.ofInt x3))] → W p l e room_1 s m #[Value.ref b] below meth c H locs 600000 7302250 (lw_Z below #[Value.ref b] s) (F0 m 18 ls [])), ∀ (x3 : Int) (σ : Nat → Int) (τ : Nat → Nat → Int) (H : Heap) (locs : List Loc) (ls : Array Slot), ga_LW_law_948 L (fun j => (xs j).toInt) k18 x3 σ τ = some 1 → va_P (dC, dI) vwCl (wd_LW_law cA qa σ τ) H → va_D A (wd_LW_law cA qa σ τ) → va_S A s.heap H locs → lv_has ls 4 [(0, .ref b), (1, .ref (qa 0)), (2, .ref (qa 13)), (3, .int (Int32.ofInt x3))] → W p l e room_1 s m #[Value.ref b] below meth c H locs 600000 7302250 (lw_Z below #[Value.ref b] s) (F0 m 948 ls []) := by
    intro k18 ih18 x3 σ τ H locs ls hf hP hD hS hl
    unfold ga_LW_law_948 at hf
    refine lv_aload_n hx hb (zdt zkL_law 948 rfl) rfl (lv_at hl 1 rfl) ?_
    refine lv_aload_n hx hb (zdt zkL_law 949 rfl) rfl (lv_at hl 0 rfl) ?_
    refine lv_iload_n hx hb (zdt zkL_law 950 rfl) rfl (lv_at hl 3 rfl) ?_
    refine lv_iconst (v := Int32.ofInt 1) hx hb (zdt zkL_law 951 rfl) rfl ?_
    refine xi_iadd hx hb (zdt zkL_law 952 rfl) hf (fun v1 hf => ?_)
    refine xi_lld hx hb hX hbl hbA hS (zdt zkL_law 953 rfl) hf (fun v2 hf => ?_)
    refine lv_aload_n hx hb (zdt zkL_law 954 rfl) rfl (lv_at hl 0 rfl) ?_
    refine lv_iload_n hx hb (zdt zkL_law 955 rfl) rfl (lv_at hl 3 rfl) ?_
    refine lv_iconst (v := Int32.ofInt 2) hx hb (zdt zkL_law 956 rfl) rfl ?_
    refine xi_iadd hx hb (zdt zkL_law 957 rfl) hf (fun v3 hf => ?_)
    refine xi_lld hx hb hX hbl hbA hS (zdt zkL_law 958 rfl) hf (fun v4 hf => ?_)
    refine lv_aload_n hx hb (zdt zkL_law 959 rfl) rfl (lv_at hl 0 rfl) ?_
    refine lv_iload_n hx hb (zdt zkL_law 960 rfl) rfl (lv_at hl 3 rfl) ?_
    refine lv_iconst (v := Int32.ofInt 3) hx hb (zdt zkL_law 961 rfl) rfl ?_
    refine xi_iadd hx hb (zdt zkL_law 962 rfl) hf (fun v5 hf => ?_)
    refine xi_lld hx hb hX hbl hbA hS (zdt zkL_law 963 rfl) hf (fun v6 hf => ?_)
    refine xe_d32 hf (fun v7 v8 v9 v10 v11 v12 v13 a14 a15 a16 a17 a18 a19 a20 a21 a22 a23 a24 a25 a26 v27 v28 v29 v30 v31 v32 v33 v34 v35 a36 a37 a38 hg hf => ?_)
    have hC : ([0, 2, 8, 9, 10, 45, 46, 47, 50, 51, 52, 53, 60, 61, 62, 63, 64, 65, 66, 67, 68, 69, 70, 71, 72, 73, 80, 81, 100, 101, 102, 111, 112, 113] : List Nat).map (fun i => (wd_LW_law cA qa σ τ)[i]?) = (wd_HS_plan cA (qa 0) (qa 1) (qa 2) (qa 3) (qa 4) (qa 5) (qa 6) (qa 7) (qa 8) (qa 9) (qa 10) (qa 11) (qa 12) (qa 1) (qa 45) (qa 46) (qa 47) (qa 48) (qa 49) (qa 50) (qa 51) (qa 52) (qa 53) (qa 7) (qa 60) (qa 61) (qa 8) (qa 62) (qa 63) (qa 64) (qa 65) (qa 66) (qa 67) (qa 68) (qa 69) (qa 70) (qa 71) (qa 72) (qa 73) (qa 80) (qa 81) (qa 100) (qa 101) (qa 102) (qa 111) (qa 112) (qa 113) (σ 0) (σ 1) (σ 2) (σ 3) (σ 27) (σ 26) (σ 28) (σ 29) (σ 30) (σ 49) (τ 34) (τ 35) (τ 38) (τ 39) (τ 40) (τ 41) (τ 63) (τ 64) (σ 34) (σ 35) (σ 36) (σ 37) (σ 38) (σ 39) (τ 46) (τ 47) (τ 48) (τ 49) (τ 50) (τ 51) (τ 52) (τ 53) (τ 54) (τ 55) (τ 56) (τ 57) (τ 58) (σ 64) (σ 65) (σ 66) (σ 67) (σ 68) (σ 69) (σ 70) (σ 71) (σ 72) (τ 89) (τ 90) (τ 91)).map some := rfl
    refine xv_afterI (ws' := (wd_LW_law cA qa (zst σ [(34, v8), (35, v9), (36, v10), (37, v11), (38, v12), (39, v13), (64, v27), (65, v28), (66, v29), (67, v30), (68, v31), (69, v32), (70, v33), (71, v34), (72, v35)]) (zta τ [(46, a14), (47, a15), (48, a16), (49, a17), (50, a18), (51, a19), (52, a20), (53, a21), (54, a22), (55, a23), (56, a24), (57, a25), (58, a26), (89, a36), (90, a37), (91, a38)]))) (isC := [0, 2, 8, 9, 10, 45, 46, 47, 50, 51, 52, 53, 60, 61, 62, 63, 64, 65, 66, 67, 68, 69, 70, 71, 72, 73, 80, 81, 100, 101, 102, 111, 112, 113]) (ps := [some 0, none, some 1, none, none, none, none, none, some 2, some 3, some 4, none, none, none, none, none, none, none, none, none, none, none, none, none, none, none, none, none, none, none, none, none, none, none, none, none, none, none, none, none, none, none, none, none, none, some 5, some 6, some 7, none, none, some 8, some 9, some 10, some 11, none, none, none, none, none, none, some 12, some 13, some 14, some 15, some 16, some 17, some 18, some 19, some 20, some 21, some 22, some 23, some 24, some 25, none, none, none, none, none, none, some 26, some 27, none, none, none, none, none, none, none, none, none, none, none, none, none, none, none, none, none, none, some 28, some 29, some 30, none, none, none, none, none, none, none, none, some 31, some 32, some 33]) (va_runV (As := [.int (Int32.ofInt v2), .int (Int32.ofInt v4), .int (Int32.ofInt v6)]) (rest := []) ⟨hx, hb, hml, hown, hts⟩ (c_HS_plan l ev dC dI cA (qa 0) (qa 1) (qa 2) (qa 3) (qa 4) (qa 5) (qa 6) (qa 7) (qa 8) (qa 9) (qa 10) (qa 11) (qa 12) (qa 1) (qa 45) (qa 46) (qa 47) (qa 48) (qa 49) (qa 50) (qa 51) (qa 52) (qa 53) (qa 7) (qa 60) (qa 61) (qa 8) (qa 62) (qa 63) (qa 64) (qa 65) (qa 66) (qa 67) (qa 68) (qa 69) (qa 70) (qa 71) (qa 72) (qa 73) (qa 80) (qa 81) (qa 100) (qa 101) (qa 102) (qa 111) (qa 112) (qa 113) ((σ 0)) ((σ 1)) ((σ 2)) ((σ 3)) ((σ 27)) hg H.size) (cwV 3 hts (zgVL zw_914 zw_915 zw_916 zw_104 zw_917) rfl rfl rfl hd_HS_plan ⟨Nat.le_of_ble_eq_true rfl, Nat.le_of_ble_eq_true rfl⟩) (xv_preV (T := TX10) (N := 16) hE hA hS hK hP hD (isC := [0, 2, 8, 9, 10, 45, 46, 47, 50, 51, 52, 53, 60, 61, 62, 63, 64, 65, 66, 67, 68, 69, 70, 71, 72, 73, 80, 81, 100, 101, 102, 111, 112, 113]) (by decide +kernel) hC (q0 := 0) (ci := 10) rfl rfl) rfl rfl hl.1 rfl (lv_room (Nat.le_of_ble_eq_true rfl)) (zdt zkL_law 964 rfl) ⟨Nat.le_refl _, Nat.le_refl _⟩) hP hD hS hA (by decide +kernel) rfl hC rfl rfl (fun H locs hP hD hS => ?_)
    refine lv_pop hx hb (zdt zkL_law 967 rfl) rfl ?_
    refine lv_aload_n hx hb (zdt zkL_law 968 rfl) rfl (lv_at hl 2 rfl) ?_
    refine lv_aload_n hx hb (zdt zkL_law 969 rfl) rfl (lv_at hl 0 rfl) ?_
    refine lv_iload_n hx hb (zdt zkL_law 970 rfl) rfl (lv_at hl 3 rfl) ?_
    refine lv_iconst (v := Int32.ofInt 1) hx hb (zdt zkL_law 971 rfl) rfl ?_
    refine xi_iadd hx hb (zdt zkL_law 972 rfl) hf (fun v39 hf => ?_)
    refine xi_lld hx hb hX hbl hbA hS (zdt zkL_law 973 rfl) hf (fun v40 hf => ?_)
    refine lv_aload_n hx hb (zdt zkL_law 974 rfl) rfl (lv_at hl 0 rfl) ?_
    refine lv_iload_n hx hb (zdt zkL_law 975 rfl) rfl (lv_at hl 3 rfl) ?_
    refine lv_iconst (v := Int32.ofInt 2) hx hb (zdt zkL_law 976 rfl) rfl ?_
    refine xi_iadd hx hb (zdt zkL_law 977 rfl) hf (fun v41 hf => ?_)
    refine xi_lld hx hb hX hbl hbA hS (zdt zkL_law 978 rfl) hf (fun v42 hf => ?_)
    refine lv_aload_n hx hb (zdt zkL_law 979 rfl) rfl (lv_at hl 0 rfl) ?_
    refine lv_iload_n hx hb (zdt zkL_law 980 rfl) rfl (lv_at hl 3 rfl) ?_
    refine lv_iconst (v := Int32.ofInt 3) hx hb (zdt zkL_law 981 rfl) rfl ?_
    refine xi_iadd hx hb (zdt zkL_law 982 rfl) hf (fun v43 hf => ?_)
    refine xi_lld hx hb hX hbl hbA hS (zdt zkL_law 983 rfl) hf (fun v44 hf => ?_)
    refine xe_d19 hf (fun v45 v46 v47 v48 v49 v50 v51 a52 a53 a54 a55 a56 a57 a58 a59 a60 a61 a62 a63 hg hf => ?_)
    have hC : ([1, 15, 25, 26, 29, 30, 31, 32, 33, 34, 35, 36, 37, 38] : List Nat).map (fun i => (wd_LW_law cA qa (zst σ [(34, v8), (35, v9), (36, v10), (37, v11), (38, v12), (39, v13), (64, v27), (65, v28), (66, v29), (67, v30), (68, v31), (69, v32), (70, v33), (71, v34), (72, v35)]) (zta τ [(46, a14), (47, a15), (48, a16), (49, a17), (50, a18), (51, a19), (52, a20), (53, a21), (54, a22), (55, a23), (56, a24), (57, a25), (58, a26), (89, a36), (90, a37), (91, a38)]))[i]?) = (wd_HM_plan cA (qa 13) (qa 14) (qa 15) (qa 16) (qa 17) (qa 18) (qa 19) (qa 20) (qa 21) (qa 22) (qa 23) (qa 24) (qa 25) (qa 26) (qa 27) (qa 28) (qa 29) (qa 30) (qa 31) (qa 32) (qa 33) (qa 34) (qa 35) (qa 36) (qa 37) (qa 38) (qa 39) (qa 40) (qa 41) (qa 42) (qa 43) (qa 44) (σ 5) (σ 6) (σ 7) (σ 8) (σ 9) (σ 10) (σ 11) (σ 12) (σ 13) (σ 14) (σ 15) (σ 16) (σ 17) (σ 18) (σ 24) (σ 25) (τ 4) (σ 4) (σ 19) (σ 20) (σ 21) (σ 22) (σ 23) (τ 14) (τ 15) (τ 18) (τ 19) (τ 20) (τ 21) (τ 22) (τ 23) (τ 24) (τ 25) (τ 26) (τ 27)).map some := rfl
    refine xv_afterI (ws' := (wd_LW_law cA qa (zst σ [(4, v46), (19, v47), (20, v48), (21, v49), (22, v50), (23, v51), (34, v8), (35, v9), (36, v10), (37, v11), (38, v12), (39, v13), (64, v27), (65, v28), (66, v29), (67, v30), (68, v31), (69, v32), (70, v33), (71, v34), (72, v35)]) (zta τ [(14, a52), (15, a53), (18, a54), (19, a55), (20, a56), (21, a57), (22, a58), (23, a59), (24, a60), (25, a61), (26, a62), (27, a63), (46, a14), (47, a15), (48, a16), (49, a17), (50, a18), (51, a19), (52, a20), (53, a21), (54, a22), (55, a23), (56, a24), (57, a25), (58, a26), (89, a36), (90, a37), (91, a38)]))) (isC := [1, 15, 25, 26, 29, 30, 31, 32, 33, 34, 35, 36, 37, 38]) (ps := [none, some 0, none, none, none, none, none, none, none, none, none, none, none, none, none, some 1, none, none, none, none, none, none, none, none, none, some 2, some 3, none, none, some 4, some 5, some 6, some 7, some 8, some 9, some 10, some 11, some 12, some 13, none, none, none, none, none, none, none, none, none, none, none, none, none, none, none, none, none, none, none, none, none, none, none, none, none, none, none, none, none, none, none, none, none, none, none, none, none, none, none, none, none, none, none, none, none, none, none, none, none, none, none, none, none, none, none, none, none, none, none, none, none, none, none, none, none, none, none, none, none, none, none, none, none, none, none]) (va_runV (As := [.int (Int32.ofInt v40), .int (Int32.ofInt v42), .int (Int32.ofInt v44)]) (rest := []) ⟨hx, hb, hml, hown, hts⟩ (c_HM_plan l ev dC dI cA (qa 13) (qa 14) (qa 15) (qa 16) (qa 17) (qa 18) (qa 19) (qa 20) (qa 21) (qa 22) (qa 23) (qa 24) (qa 25) (qa 26) (qa 27) (qa 28) (qa 29) (qa 30) (qa 31) (qa 32) (qa 33) (qa 34) (qa 35) (qa 36) (qa 37) (qa 38) (qa 39) (qa 40) (qa 41) (qa 42) (qa 43) (qa 44) ((σ 5)) ((σ 6)) ((σ 7)) ((σ 8)) ((σ 9)) ((σ 10)) ((σ 11)) ((σ 12)) ((σ 13)) ((σ 14)) ((σ 15)) ((σ 16)) ((σ 17)) ((σ 18)) ((σ 24)) ((σ 25)) hg H.size) (cwV 3 hts (zgVL zw_1646 zw_1647 zw_1648 zw_115 zw_1649) rfl rfl rfl hd_HM_plan ⟨Nat.le_of_ble_eq_true rfl, Nat.le_of_ble_eq_true rfl⟩) (xv_preV (T := TX11) (N := 53) hE hA hS hK hP hD (isC := [1, 15, 25, 26, 29, 30, 31, 32, 33, 34, 35, 36, 37, 38]) (by decide +kernel) hC (q0 := 1) (ci := 11) rfl rfl) rfl rfl hl.1 rfl (lv_room (Nat.le_of_ble_eq_true rfl)) (zdt zkL_law 984 rfl) ⟨Nat.le_refl _, Nat.le_refl _⟩) hP hD hS hA (by decide +kernel) rfl hC rfl rfl (fun H locs hP hD hS => ?_)
    refine lv_pop hx hb (zdt zkL_law 987 rfl) rfl ?_
    refine lv_goto (tgt := 1304) hx hb (zdt zkL_law 988 rfl) (by decide) ?_
    exact b_1304 _ ih18 _ _ _ _ _ _ hf hP hD hS (lv_sub hl [0, 1, 2, 3] rfl)
  have b_991 : ∀ (k18 : Int → (Nat → Int) → (Nat → Nat → Int) → Option (Int)) (_ : ∀ (x3 : Int) (σ : Nat → Int) (τ : Nat → Nat → Int) (H : Heap) (locs : List Loc) (ls : Array Slot), k18 x3 σ τ = some 1 → va_P (dC, dI) vwCl (wd_LW_law cA qa σ τ) H → va_D A (wd_LW_law cA qa σ τ) → va_S A s.heap H locs → lv_has ls 4 [(0, .ref b), (1, .ref (qa 0)), (2, .ref (qa 13)), (3, .int (Int32.ofInt x3))] → W p l e room_1 s m #[Value.ref b] below meth c H locs 600000 7302250 (lw_Z below #[Value.ref b] s) (F0 m 18 ls [])), ∀ (x3 : Int) (σ : Nat → Int) (τ : Nat → Nat → Int) (H : Heap) (locs : List Loc) (ls : Array Slot), ga_LW_law_991 L (fun j => (xs j).toInt) k18 x3 σ τ = some 1 → va_P (dC, dI) vwCl (wd_LW_law cA qa σ τ) H → va_D A (wd_LW_law cA qa σ τ) → va_S A s.heap H locs → lv_has ls 4 [(0, .ref b), (1, .ref (qa 0)), (2, .ref (qa 13)), (3, .int (Int32.ofInt x3))] → W p l e room_1 s m #[Value.ref b] below meth c H locs 600000 7302250 (lw_Z below #[Value.ref b] s) (F0 m 991 ls []) := by
    intro k18 ih18 x3 σ τ H locs ls hf hP hD hS hl
    unfold ga_LW_law_991 at hf
    refine lv_aload_n hx hb (zdt zkL_law 991 rfl) rfl (lv_at hl 1 rfl) ?_
    refine lv_aload_n hx hb (zdt zkL_law 992 rfl) rfl (lv_at hl 0 rfl) ?_
    refine lv_iload_n hx hb (zdt zkL_law 993 rfl) rfl (lv_at hl 3 rfl) ?_
    refine lv_iconst (v := Int32.ofInt 1) hx hb (zdt zkL_law 994 rfl) rfl ?_
    refine xi_iadd hx hb (zdt zkL_law 995 rfl) hf (fun v1 hf => ?_)
    refine xi_lld hx hb hX hbl hbA hS (zdt zkL_law 996 rfl) hf (fun v2 hf => ?_)
    refine xe_d3 hf (fun v3 v4 a5 hg hf => ?_)
    have hC : ([0, 2, 12, 45, 77, 80, 81] : List Nat).map (fun i => (wd_LW_law cA qa σ τ)[i]?) = (wd_HS_weighs cA (qa 0) (qa 1) (qa 2) (qa 3) (qa 4) (qa 5) (qa 6) (qa 7) (qa 8) (qa 9) (qa 10) (qa 11) (qa 12) (qa 1) (qa 45) (qa 46) (qa 47) (qa 48) (qa 49) (qa 50) (qa 51) (qa 52) (qa 53) (qa 77) (qa 78) (qa 80) (qa 81) (σ 0) (σ 1) (σ 2) (σ 3) (σ 26) (σ 27) (σ 28) (σ 29) (σ 45) (σ 46) (σ 47) (σ 48) (σ 30) (σ 49) (τ 63) (τ 64) (σ 44) (τ 61)).map some := rfl
    refine xv_afterI (ws' := (wd_LW_law cA qa (zst σ [(44, v4)]) (zta τ [(61, a5)]))) (isC := [0, 2, 12, 45, 77, 80, 81]) (ps := [some 0, none, some 1, none, none, none, none, none, none, none, none, none, some 2, none, none, none, none, none, none, none, none, none, none, none, none, none, none, none, none, none, none, none, none, none, none, none, none, none, none, none, none, none, none, none, none, some 3, none, none, none, none, none, none, none, none, none, none, none, none, none, none, none, none, none, none, none, none, none, none, none, none, none, none, none, none, none, none, none, some 4, none, none, some 5, some 6, none, none, none, none, none, none, none, none, none, none, none, none, none, none, none, none, none, none, none, none, none, none, none, none, none, none, none, none, none, none, none, none]) (va_runV (As := [.int (Int32.ofInt v2)]) (rest := []) ⟨hx, hb, hml, hown, hts⟩ (c_HS_weighs l ev dC dI cA (qa 0) (qa 1) (qa 2) (qa 3) (qa 4) (qa 5) (qa 6) (qa 7) (qa 8) (qa 9) (qa 10) (qa 11) (qa 12) (qa 1) (qa 45) (qa 46) (qa 47) (qa 48) (qa 49) (qa 50) (qa 51) (qa 52) (qa 53) (qa 77) (qa 78) (qa 80) (qa 81) ((σ 0)) ((σ 1)) ((σ 2)) ((σ 3)) ((σ 26)) ((σ 27)) ((σ 28)) ((σ 29)) ((σ 45)) ((σ 46)) ((σ 47)) ((σ 48)) hg H.size) (cwV 1 hts (zgVL zw_1025 zw_1026 zw_1027 zw_104 zw_1028) rfl rfl rfl hd_HS_weighs ⟨Nat.le_of_ble_eq_true rfl, Nat.le_of_ble_eq_true rfl⟩) (xv_preV (T := TX10) (N := 16) hE hA hS hK hP hD (isC := [0, 2, 12, 45, 77, 80, 81]) (by decide +kernel) hC (q0 := 0) (ci := 10) rfl rfl) rfl rfl hl.1 rfl (lv_room (Nat.le_of_ble_eq_true rfl)) (zdt zkL_law 997 rfl) ⟨Nat.le_refl _, Nat.le_refl _⟩) hP hD hS hA (by decide +kernel) rfl hC rfl rfl (fun H locs hP hD hS => ?_)
    refine lv_pop hx hb (zdt zkL_law 1000 rfl) rfl ?_
    refine lv_aload_n hx hb (zdt zkL_law 1001 rfl) rfl (lv_at hl 2 rfl) ?_
    refine lv_aload_n hx hb (zdt zkL_law 1002 rfl) rfl (lv_at hl 0 rfl) ?_
    refine lv_iload_n hx hb (zdt zkL_law 1003 rfl) rfl (lv_at hl 3 rfl) ?_
    refine lv_iconst (v := Int32.ofInt 1) hx hb (zdt zkL_law 1004 rfl) rfl ?_
    refine xi_iadd hx hb (zdt zkL_law 1005 rfl) hf (fun v6 hf => ?_)
    refine xi_lld hx hb hX hbl hbA hS (zdt zkL_law 1006 rfl) hf (fun v7 hf => ?_)
    refine xe_d3 hf (fun v8 v9 a10 hg hf => ?_)
    have hC : ([1, 15, 39] : List Nat).map (fun i => (wd_LW_law cA qa (zst σ [(44, v4)]) (zta τ [(61, a5)]))[i]?) = (wd_HM_weighs cA (qa 13) (qa 14) (qa 15) (qa 16) (qa 17) (qa 18) (qa 19) (qa 20) (qa 21) (qa 22) (qa 23) (qa 24) (qa 25) (qa 26) (qa 27) (qa 28) (qa 29) (qa 30) (qa 31) (qa 32) (qa 33) (qa 34) (qa 35) (qa 36) (qa 37) (qa 38) (qa 39) (qa 40) (qa 41) (qa 42) (qa 43) (qa 44) (σ 5) (σ 6) (σ 7) (σ 8) (σ 9) (σ 10) (σ 11) (σ 12) (σ 13) (σ 14) (σ 15) (σ 16) (σ 17) (σ 18) (σ 19) (σ 20) (σ 21) (σ 22) (σ 23) (σ 24) (σ 25) (τ 4) (σ 4) (τ 28)).map some := rfl
    refine xv_afterI (ws' := (wd_LW_law cA qa (zst σ [(4, v9), (44, v4)]) (zta τ [(28, a10), (61, a5)]))) (isC := [1, 15, 39]) (ps := [none, some 0, none, none, none, none, none, none, none, none, none, none, none, none, none, some 1, none, none, none, none, none, none, none, none, none, none, none, none, none, none, none, none, none, none, none, none, none, none, none, some 2, none, none, none, none, none, none, none, none, none, none, none, none, none, none, none, none, none, none, none, none, none, none, none, none, none, none, none, none, none, none, none, none, none, none, none, none, none, none, none, none, none, none, none, none, none, none, none, none, none, none, none, none, none, none, none, none, none, none, none, none, none, none, none, none, none, none, none, none, none, none, none, none, none, none]) (va_runV (As := [.int (Int32.ofInt v7)]) (rest := []) ⟨hx, hb, hml, hown, hts⟩ (c_HM_weighs l ev dC dI cA (qa 13) (qa 14) (qa 15) (qa 16) (qa 17) (qa 18) (qa 19) (qa 20) (qa 21) (qa 22) (qa 23) (qa 24) (qa 25) (qa 26) (qa 27) (qa 28) (qa 29) (qa 30) (qa 31) (qa 32) (qa 33) (qa 34) (qa 35) (qa 36) (qa 37) (qa 38) (qa 39) (qa 40) (qa 41) (qa 42) (qa 43) (qa 44) ((σ 5)) ((σ 6)) ((σ 7)) ((σ 8)) ((σ 9)) ((σ 10)) ((σ 11)) ((σ 12)) ((σ 13)) ((σ 14)) ((σ 15)) ((σ 16)) ((σ 17)) ((σ 18)) ((σ 19)) ((σ 20)) ((σ 21)) ((σ 22)) ((σ 23)) ((σ 24)) ((σ 25)) hg H.size) (cwV 1 hts (zgVL zw_1720 zw_1721 zw_1722 zw_115 zw_1723) rfl rfl rfl hd_HM_weighs ⟨Nat.le_of_ble_eq_true rfl, Nat.le_of_ble_eq_true rfl⟩) (xv_preV (T := TX11) (N := 53) hE hA hS hK hP hD (isC := [1, 15, 39]) (by decide +kernel) hC (q0 := 1) (ci := 11) rfl rfl) rfl rfl hl.1 rfl (lv_room (Nat.le_of_ble_eq_true rfl)) (zdt zkL_law 1007 rfl) ⟨Nat.le_refl _, Nat.le_refl _⟩) hP hD hS hA (by decide +kernel) rfl hC rfl rfl (fun H locs hP hD hS => ?_)
    refine lv_pop hx hb (zdt zkL_law 1010 rfl) rfl ?_
    refine lv_goto (tgt := 1304) hx hb (zdt zkL_law 1011 rfl) (by decide) ?_
    exact b_1304 _ ih18 _ _ _ _ _ _ hf hP hD hS (lv_sub hl [0, 1, 2, 3] rfl)
  have b_1014 : ∀ (k18 : Int → (Nat → Int) → (Nat → Nat → Int) → Option (Int)) (_ : ∀ (x3 : Int) (σ : Nat → Int) (τ : Nat → Nat → Int) (H : Heap) (locs : List Loc) (ls : Array Slot), k18 x3 σ τ = some 1 → va_P (dC, dI) vwCl (wd_LW_law cA qa σ τ) H → va_D A (wd_LW_law cA qa σ τ) → va_S A s.heap H locs → lv_has ls 4 [(0, .ref b), (1, .ref (qa 0)), (2, .ref (qa 13)), (3, .int (Int32.ofInt x3))] → W p l e room_1 s m #[Value.ref b] below meth c H locs 600000 7302250 (lw_Z below #[Value.ref b] s) (F0 m 18 ls [])), ∀ (x3 : Int) (σ : Nat → Int) (τ : Nat → Nat → Int) (H : Heap) (locs : List Loc) (ls : Array Slot), ga_LW_law_1014 L (fun j => (xs j).toInt) k18 x3 σ τ = some 1 → va_P (dC, dI) vwCl (wd_LW_law cA qa σ τ) H → va_D A (wd_LW_law cA qa σ τ) → va_S A s.heap H locs → lv_has ls 4 [(0, .ref b), (1, .ref (qa 0)), (2, .ref (qa 13)), (3, .int (Int32.ofInt x3))] → W p l e room_1 s m #[Value.ref b] below meth c H locs 600000 7302250 (lw_Z below #[Value.ref b] s) (F0 m 1014 ls []) := by
    intro k18 ih18 x3 σ τ H locs ls hf hP hD hS hl
    unfold ga_LW_law_1014 at hf
    refine lv_aload_n hx hb (zdt zkL_law 1014 rfl) rfl (lv_at hl 1 rfl) ?_
    refine lv_aload_n hx hb (zdt zkL_law 1015 rfl) rfl (lv_at hl 0 rfl) ?_
    refine lv_iload_n hx hb (zdt zkL_law 1016 rfl) rfl (lv_at hl 3 rfl) ?_
    refine lv_iconst (v := Int32.ofInt 1) hx hb (zdt zkL_law 1017 rfl) rfl ?_
    refine xi_iadd hx hb (zdt zkL_law 1018 rfl) hf (fun v1 hf => ?_)
    refine xi_lld hx hb hX hbl hbA hS (zdt zkL_law 1019 rfl) hf (fun v2 hf => ?_)
    refine lv_aload_n hx hb (zdt zkL_law 1020 rfl) rfl (lv_at hl 0 rfl) ?_
    refine lv_iload_n hx hb (zdt zkL_law 1021 rfl) rfl (lv_at hl 3 rfl) ?_
    refine lv_iconst (v := Int32.ofInt 2) hx hb (zdt zkL_law 1022 rfl) rfl ?_
    refine xi_iadd hx hb (zdt zkL_law 1023 rfl) hf (fun v3 hf => ?_)
    refine xi_lld hx hb hX hbl hbA hS (zdt zkL_law 1024 rfl) hf (fun v4 hf => ?_)
    refine xe_d5 hf (fun v5 v6 v7 a8 a9 hg hf => ?_)
    have hC : ([0, 2, 6, 48] : List Nat).map (fun i => (wd_LW_law cA qa σ τ)[i]?) = (wd_HS_trips cA (qa 0) (qa 1) (qa 2) (qa 3) (qa 4) (qa 5) (qa 6) (qa 7) (qa 8) (qa 9) (qa 10) (qa 11) (qa 12) (qa 45) (qa 46) (qa 47) (qa 48) (qa 49) (qa 50) (qa 51) (qa 52) (qa 53) (σ 0) (σ 1) (σ 2) (σ 27) (σ 28) (σ 29) (σ 26) (σ 3) (σ 30) (τ 2) (τ 36)).map some := rfl
    refine xv_afterI (ws' := (wd_LW_law cA qa (zst σ [(3, v6), (30, v7)]) (zta τ [(2, a8), (36, a9)]))) (isC := [0, 2, 6, 48]) (ps := [some 0, none, some 1, none, none, none, some 2, none, none, none, none, none, none, none, none, none, none, none, none, none, none, none, none, none, none, none, none, none, none, none, none, none, none, none, none, none, none, none, none, none, none, none, none, none, none, none, none, none, some 3, none, none, none, none, none, none, none, none, none, none, none, none, none, none, none, none, none, none, none, none, none, none, none, none, none, none, none, none, none, none, none, none, none, none, none, none, none, none, none, none, none, none, none, none, none, none, none, none, none, none, none, none, none, none, none, none, none, none, none, none, none, none, none, none, none]) (va_runV (As := [.int (Int32.ofInt v2), .int (Int32.ofInt v4)]) (rest := []) ⟨hx, hb, hml, hown, hts⟩ (c_HS_trips l ev dC dI cA (qa 0) (qa 1) (qa 2) (qa 3) (qa 4) (qa 5) (qa 6) (qa 7) (qa 8) (qa 9) (qa 10) (qa 11) (qa 12) (qa 45) (qa 46) (qa 47) (qa 48) (qa 49) (qa 50) (qa 51) (qa 52) (qa 53) ((σ 0)) ((σ 1)) ((σ 2)) ((σ 27)) ((σ 28)) ((σ 29)) hg H.size) (cwV 2 hts (zgVL zw_1042 zw_1043 zw_1044 zw_104 zw_1045) rfl rfl rfl hd_HS_trips ⟨Nat.le_of_ble_eq_true rfl, Nat.le_of_ble_eq_true rfl⟩) (xv_preV (T := TX10) (N := 16) hE hA hS hK hP hD (isC := [0, 2, 6, 48]) (by decide +kernel) hC (q0 := 0) (ci := 10) rfl rfl) rfl rfl hl.1 rfl (lv_room (Nat.le_of_ble_eq_true rfl)) (zdt zkL_law 1025 rfl) ⟨Nat.le_refl _, Nat.le_refl _⟩) hP hD hS hA (by decide +kernel) rfl hC rfl rfl (fun H locs hP hD hS => ?_)
    refine lv_pop hx hb (zdt zkL_law 1028 rfl) rfl ?_
    refine lv_aload_n hx hb (zdt zkL_law 1029 rfl) rfl (lv_at hl 2 rfl) ?_
    refine lv_aload_n hx hb (zdt zkL_law 1030 rfl) rfl (lv_at hl 0 rfl) ?_
    refine lv_iload_n hx hb (zdt zkL_law 1031 rfl) rfl (lv_at hl 3 rfl) ?_
    refine lv_iconst (v := Int32.ofInt 1) hx hb (zdt zkL_law 1032 rfl) rfl ?_
    refine xi_iadd hx hb (zdt zkL_law 1033 rfl) hf (fun v10 hf => ?_)
    refine xi_lld hx hb hX hbl hbA hS (zdt zkL_law 1034 rfl) hf (fun v11 hf => ?_)
    refine lv_aload_n hx hb (zdt zkL_law 1035 rfl) rfl (lv_at hl 0 rfl) ?_
    refine lv_iload_n hx hb (zdt zkL_law 1036 rfl) rfl (lv_at hl 3 rfl) ?_
    refine lv_iconst (v := Int32.ofInt 2) hx hb (zdt zkL_law 1037 rfl) rfl ?_
    refine xi_iadd hx hb (zdt zkL_law 1038 rfl) hf (fun v12 hf => ?_)
    refine xi_lld hx hb hX hbl hbA hS (zdt zkL_law 1039 rfl) hf (fun v13 hf => ?_)
    refine xe_d5 hf (fun v14 v15 v16 a17 a18 hg hf => ?_)
    have hC : ([1, 14, 15] : List Nat).map (fun i => (wd_LW_law cA qa (zst σ [(3, v6), (30, v7)]) (zta τ [(2, a8), (36, a9)]))[i]?) = (wd_HM_trips cA (qa 13) (qa 14) (qa 15) (qa 16) (qa 17) (qa 18) (qa 19) (qa 20) (qa 21) (qa 22) (qa 23) (qa 24) (qa 25) (qa 26) (qa 27) (qa 28) (qa 29) (qa 30) (qa 31) (qa 32) (qa 33) (qa 34) (qa 35) (qa 36) (qa 37) (qa 38) (qa 39) (qa 40) (qa 41) (qa 42) (qa 43) (qa 44) (σ 6) (σ 7) (σ 8) (σ 9) (σ 10) (σ 11) (σ 12) (σ 13) (σ 14) (σ 15) (σ 16) (σ 17) (σ 18) (σ 19) (σ 20) (σ 21) (σ 22) (σ 23) (σ 24) (σ 25) (σ 4) (σ 5) (τ 3) (τ 4)).map some := rfl
    refine xv_afterI (ws' := (wd_LW_law cA qa (zst σ [(3, v6), (4, v15), (5, v16), (30, v7)]) (zta τ [(2, a8), (3, a17), (4, a18), (36, a9)]))) (isC := [1, 14, 15]) (ps := [none, some 0, none, none, none, none, none, none, none, none, none, none, none, none, some 1, some 2, none, none, none, none, none, none, none, none, none, none, none, none, none, none, none, none, none, none, none, none, none, none, none, none, none, none, none, none, none, none, none, none, none, none, none, none, none, none, none, none, none, none, none, none, none, none, none, none, none, none, none, none, none, none, none, none, none, none, none, none, none, none, none, none, none, none, none, none, none, none, none, none, none, none, none, none, none, none, none, none, none, none, none, none, none, none, none, none, none, none, none, none, none, none, none, none, none, none]) (va_runV (As := [.int (Int32.ofInt v11), .int (Int32.ofInt v13)]) (rest := []) ⟨hx, hb, hml, hown, hts⟩ (c_HM_trips l ev dC dI cA (qa 13) (qa 14) (qa 15) (qa 16) (qa 17) (qa 18) (qa 19) (qa 20) (qa 21) (qa 22) (qa 23) (qa 24) (qa 25) (qa 26) (qa 27) (qa 28) (qa 29) (qa 30) (qa 31) (qa 32) (qa 33) (qa 34) (qa 35) (qa 36) (qa 37) (qa 38) (qa 39) (qa 40) (qa 41) (qa 42) (qa 43) (qa 44) ((σ 6)) ((σ 7)) ((σ 8)) ((σ 9)) ((σ 10)) ((σ 11)) ((σ 12)) ((σ 13)) ((σ 14)) ((σ 15)) ((σ 16)) ((σ 17)) ((σ 18)) ((σ 19)) ((σ 20)) ((σ 21)) ((σ 22)) ((σ 23)) ((σ 24)) ((σ 25)) hg H.size) (cwV 2 hts (zgVL zw_1725 zw_1726 zw_1727 zw_115 zw_1728) rfl rfl rfl hd_HM_trips ⟨Nat.le_of_ble_eq_true rfl, Nat.le_of_ble_eq_true rfl⟩) (xv_preV (T := TX11) (N := 53) hE hA hS hK hP hD (isC := [1, 14, 15]) (by decide +kernel) hC (q0 := 1) (ci := 11) rfl rfl) rfl rfl hl.1 rfl (lv_room (Nat.le_of_ble_eq_true rfl)) (zdt zkL_law 1040 rfl) ⟨Nat.le_refl _, Nat.le_refl _⟩) hP hD hS hA (by decide +kernel) rfl hC rfl rfl (fun H locs hP hD hS => ?_)
    refine lv_pop hx hb (zdt zkL_law 1043 rfl) rfl ?_
    refine lv_goto (tgt := 1304) hx hb (zdt zkL_law 1044 rfl) (by decide) ?_
    exact b_1304 _ ih18 _ _ _ _ _ _ hf hP hD hS (lv_sub hl [0, 1, 2, 3] rfl)
  have b_1047 : ∀ (k18 : Int → (Nat → Int) → (Nat → Nat → Int) → Option (Int)) (_ : ∀ (x3 : Int) (σ : Nat → Int) (τ : Nat → Nat → Int) (H : Heap) (locs : List Loc) (ls : Array Slot), k18 x3 σ τ = some 1 → va_P (dC, dI) vwCl (wd_LW_law cA qa σ τ) H → va_D A (wd_LW_law cA qa σ τ) → va_S A s.heap H locs → lv_has ls 4 [(0, .ref b), (1, .ref (qa 0)), (2, .ref (qa 13)), (3, .int (Int32.ofInt x3))] → W p l e room_1 s m #[Value.ref b] below meth c H locs 600000 7302250 (lw_Z below #[Value.ref b] s) (F0 m 18 ls [])), ∀ (x3 : Int) (σ : Nat → Int) (τ : Nat → Nat → Int) (H : Heap) (locs : List Loc) (ls : Array Slot), ga_LW_law_1047 L (fun j => (xs j).toInt) k18 x3 σ τ = some 1 → va_P (dC, dI) vwCl (wd_LW_law cA qa σ τ) H → va_D A (wd_LW_law cA qa σ τ) → va_S A s.heap H locs → lv_has ls 4 [(0, .ref b), (1, .ref (qa 0)), (2, .ref (qa 13)), (3, .int (Int32.ofInt x3))] → W p l e room_1 s m #[Value.ref b] below meth c H locs 600000 7302250 (lw_Z below #[Value.ref b] s) (F0 m 1047 ls []) := by
    intro k18 ih18 x3 σ τ H locs ls hf hP hD hS hl
    unfold ga_LW_law_1047 at hf
    refine lv_aload_n hx hb (zdt zkL_law 1047 rfl) rfl (lv_at hl 1 rfl) ?_
    refine lv_aload_n hx hb (zdt zkL_law 1048 rfl) rfl (lv_at hl 0 rfl) ?_
    refine lv_iload_n hx hb (zdt zkL_law 1049 rfl) rfl (lv_at hl 3 rfl) ?_
    refine lv_iconst (v := Int32.ofInt 1) hx hb (zdt zkL_law 1050 rfl) rfl ?_
    refine xi_iadd hx hb (zdt zkL_law 1051 rfl) hf (fun v1 hf => ?_)
    refine xi_lld hx hb hX hbl hbA hS (zdt zkL_law 1052 rfl) hf (fun v2 hf => ?_)
    refine lv_aload_n hx hb (zdt zkL_law 1053 rfl) rfl (lv_at hl 0 rfl) ?_
    refine lv_iload_n hx hb (zdt zkL_law 1054 rfl) rfl (lv_at hl 3 rfl) ?_
    refine lv_iconst (v := Int32.ofInt 2) hx hb (zdt zkL_law 1055 rfl) rfl ?_
    refine xi_iadd hx hb (zdt zkL_law 1056 rfl) hf (fun v3 hf => ?_)
    refine xi_lld hx hb hX hbl hbA hS (zdt zkL_law 1057 rfl) hf (fun v4 hf => ?_)
    refine lv_aload_n hx hb (zdt zkL_law 1058 rfl) rfl (lv_at hl 0 rfl) ?_
    refine lv_iload_n hx hb (zdt zkL_law 1059 rfl) rfl (lv_at hl 3 rfl) ?_
    refine lv_iconst (v := Int32.ofInt 3) hx hb (zdt zkL_law 1060 rfl) rfl ?_
    refine xi_iadd hx hb (zdt zkL_law 1061 rfl) hf (fun v5 hf => ?_)
    refine xi_lld hx hb hX hbl hbA hS (zdt zkL_law 1062 rfl) hf (fun v6 hf => ?_)
    refine xe_d6 hf (fun v7 v8 v9 v10 v11 a12 hg hf => ?_)
    have hC : ([0, 2, 12, 48, 78] : List Nat).map (fun i => (wd_LW_law cA qa σ τ)[i]?) = (wd_HS_culprits cA (qa 0) (qa 1) (qa 2) (qa 3) (qa 4) (qa 5) (qa 6) (qa 7) (qa 8) (qa 9) (qa 10) (qa 11) (qa 12) (qa 1) (qa 45) (qa 46) (qa 47) (qa 48) (qa 49) (qa 50) (qa 51) (qa 52) (qa 53) (qa 77) (qa 78) (σ 0) (σ 1) (σ 2) (σ 3) (σ 27) (σ 28) (σ 29) (σ 30) (σ 44) (σ 26) (τ 36) (σ 45) (σ 46) (σ 47) (σ 48) (τ 62)).map some := rfl
    refine xv_afterI (ws' := (wd_LW_law cA qa (zst σ [(45, v8), (46, v9), (47, v10), (48, v11)]) (zta τ [(62, a12)]))) (isC := [0, 2, 12, 48, 78]) (ps := [some 0, none, some 1, none, none, none, none, none, none, none, none, none, some 2, none, none, none, none, none, none, none, none, none, none, none, none, none, none, none, none, none, none, none, none, none, none, none, none, none, none, none, none, none, none, none, none, none, none, none, some 3, none, none, none, none, none, none, none, none, none, none, none, none, none, none, none, none, none, none, none, none, none, none, none, none, none, none, none, none, none, some 4, none, none, none, none, none, none, none, none, none, none, none, none, none, none, none, none, none, none, none, none, none, none, none, none, none, none, none, none, none, none, none, none, none, none, none]) (va_runV (As := [.int (Int32.ofInt v2), .int (Int32.ofInt v4), .int (Int32.ofInt v6)]) (rest := []) ⟨hx, hb, hml, hown, hts⟩ (c_HS_culprits l ev dC dI cA (qa 0) (qa 1) (qa 2) (qa 3) (qa 4) (qa 5) (qa 6) (qa 7) (qa 8) (qa 9) (qa 10) (qa 11) (qa 12) (qa 1) (qa 45) (qa 46) (qa 47) (qa 48) (qa 49) (qa 50) (qa 51) (qa 52) (qa 53) (qa 77) (qa 78) ((σ 0)) ((σ 1)) ((σ 2)) ((σ 3)) ((σ 27)) ((σ 28)) ((σ 29)) ((σ 30)) ((σ 44)) hg H.size) (cwV 3 hts (zgVL zw_1046 zw_1047 zw_1048 zw_104 zw_1049) rfl rfl rfl hd_HS_culprits ⟨Nat.le_of_ble_eq_true rfl, Nat.le_of_ble_eq_true rfl⟩) (xv_preV (T := TX10) (N := 16) hE hA hS hK hP hD (isC := [0, 2, 12, 48, 78]) (by decide +kernel) hC (q0 := 0) (ci := 10) rfl rfl) rfl rfl hl.1 rfl (lv_room (Nat.le_of_ble_eq_true rfl)) (zdt zkL_law 1063 rfl) ⟨Nat.le_refl _, Nat.le_refl _⟩) hP hD hS hA (by decide +kernel) rfl hC rfl rfl (fun H locs hP hD hS => ?_)
    refine lv_pop hx hb (zdt zkL_law 1066 rfl) rfl ?_
    refine lv_aload_n hx hb (zdt zkL_law 1067 rfl) rfl (lv_at hl 2 rfl) ?_
    refine lv_aload_n hx hb (zdt zkL_law 1068 rfl) rfl (lv_at hl 0 rfl) ?_
    refine lv_iload_n hx hb (zdt zkL_law 1069 rfl) rfl (lv_at hl 3 rfl) ?_
    refine lv_iconst (v := Int32.ofInt 1) hx hb (zdt zkL_law 1070 rfl) rfl ?_
    refine xi_iadd hx hb (zdt zkL_law 1071 rfl) hf (fun v13 hf => ?_)
    refine xi_lld hx hb hX hbl hbA hS (zdt zkL_law 1072 rfl) hf (fun v14 hf => ?_)
    refine lv_aload_n hx hb (zdt zkL_law 1073 rfl) rfl (lv_at hl 0 rfl) ?_
    refine lv_iload_n hx hb (zdt zkL_law 1074 rfl) rfl (lv_at hl 3 rfl) ?_
    refine lv_iconst (v := Int32.ofInt 2) hx hb (zdt zkL_law 1075 rfl) rfl ?_
    refine xi_iadd hx hb (zdt zkL_law 1076 rfl) hf (fun v15 hf => ?_)
    refine xi_lld hx hb hX hbl hbA hS (zdt zkL_law 1077 rfl) hf (fun v16 hf => ?_)
    refine lv_aload_n hx hb (zdt zkL_law 1078 rfl) rfl (lv_at hl 0 rfl) ?_
    refine lv_iload_n hx hb (zdt zkL_law 1079 rfl) rfl (lv_at hl 3 rfl) ?_
    refine lv_iconst (v := Int32.ofInt 3) hx hb (zdt zkL_law 1080 rfl) rfl ?_
    refine xi_iadd hx hb (zdt zkL_law 1081 rfl) hf (fun v17 hf => ?_)
    refine xi_lld hx hb hX hbl hbA hS (zdt zkL_law 1082 rfl) hf (fun v18 hf => ?_)
    refine xe_d3 hf (fun v19 v20 a21 hg hf => ?_)
    have hC : ([1, 15, 40] : List Nat).map (fun i => (wd_LW_law cA qa (zst σ [(45, v8), (46, v9), (47, v10), (48, v11)]) (zta τ [(62, a12)]))[i]?) = (wd_HM_culprits cA (qa 13) (qa 14) (qa 15) (qa 16) (qa 17) (qa 18) (qa 19) (qa 20) (qa 21) (qa 22) (qa 23) (qa 24) (qa 25) (qa 26) (qa 27) (qa 28) (qa 29) (qa 30) (qa 31) (qa 32) (qa 33) (qa 34) (qa 35) (qa 36) (qa 37) (qa 38) (qa 39) (qa 40) (qa 41) (qa 42) (qa 43) (qa 44) (σ 5) (σ 6) (σ 7) (σ 8) (σ 9) (σ 10) (σ 11) (σ 12) (σ 13) (σ 14) (σ 15) (σ 16) (σ 17) (σ 18) (σ 19) (σ 20) (σ 21) (σ 22) (σ 23) (σ 24) (σ 25) (τ 4) (σ 4) (τ 29)).map some := rfl
    refine xv_afterI (ws' := (wd_LW_law cA qa (zst σ [(4, v20), (45, v8), (46, v9), (47, v10), (48, v11)]) (zta τ [(29, a21), (62, a12)]))) (isC := [1, 15, 40]) (ps := [none, some 0, none, none, none, none, none, none, none, none, none, none, none, none, none, some 1, none, none, none, none, none, none, none, none, none, none, none, none, none, none, none, none, none, none, none, none, none, none, none, none, some 2, none, none, none, none, none, none, none, none, none, none, none, none, none, none, none, none, none, none, none, none, none, none, none, none, none, none, none, none, none, none, none, none, none, none, none, none, none, none, none, none, none, none, none, none, none, none, none, none, none, none, none, none, none, none, none, none, none, none, none, none, none, none, none, none, none, none, none, none, none, none, none, none, none]) (va_runV (As := [.int (Int32.ofInt v14), .int (Int32.ofInt v16), .int (Int32.ofInt v18)]) (rest := []) ⟨hx, hb, hml, hown, hts⟩ (c_HM_culprits l ev dC dI cA (qa 13) (qa 14) (qa 15) (qa 16) (qa 17) (qa 18) (qa 19) (qa 20) (qa 21) (qa 22) (qa 23) (qa 24) (qa 25) (qa 26) (qa 27) (qa 28) (qa 29) (qa 30) (qa 31) (qa 32) (qa 33) (qa 34) (qa 35) (qa 36) (qa 37) (qa 38) (qa 39) (qa 40) (qa 41) (qa 42) (qa 43) (qa 44) ((σ 5)) ((σ 6)) ((σ 7)) ((σ 8)) ((σ 9)) ((σ 10)) ((σ 11)) ((σ 12)) ((σ 13)) ((σ 14)) ((σ 15)) ((σ 16)) ((σ 17)) ((σ 18)) ((σ 19)) ((σ 20)) ((σ 21)) ((σ 22)) ((σ 23)) ((σ 24)) ((σ 25)) hg H.size) (cwV 3 hts (zgVL zw_1729 zw_1730 zw_1731 zw_115 zw_1732) rfl rfl rfl hd_HM_culprits ⟨Nat.le_of_ble_eq_true rfl, Nat.le_of_ble_eq_true rfl⟩) (xv_preV (T := TX11) (N := 53) hE hA hS hK hP hD (isC := [1, 15, 40]) (by decide +kernel) hC (q0 := 1) (ci := 11) rfl rfl) rfl rfl hl.1 rfl (lv_room (Nat.le_of_ble_eq_true rfl)) (zdt zkL_law 1083 rfl) ⟨Nat.le_refl _, Nat.le_refl _⟩) hP hD hS hA (by decide +kernel) rfl hC rfl rfl (fun H locs hP hD hS => ?_)
    refine lv_pop hx hb (zdt zkL_law 1086 rfl) rfl ?_
    refine lv_goto (tgt := 1304) hx hb (zdt zkL_law 1087 rfl) (by decide) ?_
    exact b_1304 _ ih18 _ _ _ _ _ _ hf hP hD hS (lv_sub hl [0, 1, 2, 3] rfl)
  have b_1090 : ∀ (k18 : Int → (Nat → Int) → (Nat → Nat → Int) → Option (Int)) (_ : ∀ (x3 : Int) (σ : Nat → Int) (τ : Nat → Nat → Int) (H : Heap) (locs : List Loc) (ls : Array Slot), k18 x3 σ τ = some 1 → va_P (dC, dI) vwCl (wd_LW_law cA qa σ τ) H → va_D A (wd_LW_law cA qa σ τ) → va_S A s.heap H locs → lv_has ls 4 [(0, .ref b), (1, .ref (qa 0)), (2, .ref (qa 13)), (3, .int (Int32.ofInt x3))] → W p l e room_1 s m #[Value.ref b] below meth c H locs 600000 7302250 (lw_Z below #[Value.ref b] s) (F0 m 18 ls [])), ∀ (x3 : Int) (σ : Nat → Int) (τ : Nat → Nat → Int) (H : Heap) (locs : List Loc) (ls : Array Slot), ga_LW_law_1090 L (fun j => (xs j).toInt) k18 x3 σ τ = some 1 → va_P (dC, dI) vwCl (wd_LW_law cA qa σ τ) H → va_D A (wd_LW_law cA qa σ τ) → va_S A s.heap H locs → lv_has ls 4 [(0, .ref b), (1, .ref (qa 0)), (2, .ref (qa 13)), (3, .int (Int32.ofInt x3))] → W p l e room_1 s m #[Value.ref b] below meth c H locs 600000 7302250 (lw_Z below #[Value.ref b] s) (F0 m 1090 ls []) := by
    intro k18 ih18 x3 σ τ H locs ls hf hP hD hS hl
    unfold ga_LW_law_1090 at hf
    refine lv_aload_n hx hb (zdt zkL_law 1090 rfl) rfl (lv_at hl 1 rfl) ?_
    refine lv_aload_n hx hb (zdt zkL_law 1091 rfl) rfl (lv_at hl 0 rfl) ?_
    refine lv_iload_n hx hb (zdt zkL_law 1092 rfl) rfl (lv_at hl 3 rfl) ?_
    refine lv_iconst (v := Int32.ofInt 1) hx hb (zdt zkL_law 1093 rfl) rfl ?_
    refine xi_iadd hx hb (zdt zkL_law 1094 rfl) hf (fun v1 hf => ?_)
    refine xi_lld hx hb hX hbl hbA hS (zdt zkL_law 1095 rfl) hf (fun v2 hf => ?_)
    refine lv_aload_n hx hb (zdt zkL_law 1096 rfl) rfl (lv_at hl 0 rfl) ?_
    refine lv_iload_n hx hb (zdt zkL_law 1097 rfl) rfl (lv_at hl 3 rfl) ?_
    refine lv_iconst (v := Int32.ofInt 2) hx hb (zdt zkL_law 1098 rfl) rfl ?_
    refine xi_iadd hx hb (zdt zkL_law 1099 rfl) hf (fun v3 hf => ?_)
    refine xi_lld hx hb hX hbl hbA hS (zdt zkL_law 1100 rfl) hf (fun v4 hf => ?_)
    refine lv_aload_n hx hb (zdt zkL_law 1101 rfl) rfl (lv_at hl 0 rfl) ?_
    refine lv_iload_n hx hb (zdt zkL_law 1102 rfl) rfl (lv_at hl 3 rfl) ?_
    refine lv_iconst (v := Int32.ofInt 3) hx hb (zdt zkL_law 1103 rfl) rfl ?_
    refine xi_iadd hx hb (zdt zkL_law 1104 rfl) hf (fun v5 hf => ?_)
    refine xi_lld hx hb hX hbl hbA hS (zdt zkL_law 1105 rfl) hf (fun v6 hf => ?_)
    refine xe_d16 hf (fun v7 v8 v9 v10 v11 v12 v13 v14 a15 a16 a17 v18 a19 a20 a21 a22 hg hf => ?_)
    have hC : ([0, 2, 8, 9, 11, 45, 46, 47, 49, 50, 52, 53, 60, 61, 62, 74, 75, 76, 80, 81, 103, 104] : List Nat).map (fun i => (wd_LW_law cA qa σ τ)[i]?) = (wd_HS_duel cA (qa 0) (qa 1) (qa 2) (qa 3) (qa 4) (qa 5) (qa 6) (qa 7) (qa 8) (qa 9) (qa 10) (qa 11) (qa 12) (qa 45) (qa 46) (qa 47) (qa 48) (qa 49) (qa 50) (qa 51) (qa 52) (qa 53) (qa 7) (qa 60) (qa 61) (qa 8) (qa 62) (qa 74) (qa 75) (qa 76) (qa 80) (qa 81) (qa 103) (qa 104) (σ 0) (σ 1) (σ 2) (σ 3) (σ 26) (σ 27) (σ 28) (σ 29) (σ 30) (σ 49) (τ 34) (τ 35) (τ 37) (τ 38) (τ 40) (τ 41) (τ 63) (τ 64) (σ 34) (σ 35) (σ 36) (σ 40) (σ 41) (σ 42) (σ 43) (τ 46) (τ 47) (τ 48) (σ 60) (τ 59) (τ 60) (τ 81) (τ 82)).map some := rfl
    refine xv_afterI (ws' := (wd_LW_law cA qa (zst σ [(34, v8), (35, v9), (36, v10), (40, v11), (41, v12), (42, v13), (43, v14), (60, v18)]) (zta τ [(46, a15), (47, a16), (48, a17), (59, a19), (60, a20), (81, a21), (82, a22)]))) (isC := [0, 2, 8, 9, 11, 45, 46, 47, 49, 50, 52, 53, 60, 61, 62, 74, 75, 76, 80, 81, 103, 104]) (ps := [some 0, none, some 1, none, none, none, none, none, some 2, some 3, none, some 4, none, none, none, none, none, none, none, none, none, none, none, none, none, none, none, none, none, none, none, none, none, none, none, none, none, none, none, none, none, none, none, none, none, some 5, some 6, some 7, none, some 8, some 9, none, some 10, some 11, none, none, none, none, none, none, some 12, some 13, some 14, none, none, none, none, none, none, none, none, none, none, none, some 15, some 16, some 17, none, none, none, some 18, some 19, none, none, none, none, none, none, none, none, none, none, none, none, none, none, none, none, none, none, none, none, none, some 20, some 21, none, none, none, none, none, none, none, none, none]) (va_runV (As := [.int (Int32.ofInt v2), .int (Int32.ofInt v4), .int (Int32.ofInt v6)]) (rest := []) ⟨hx, hb, hml, hown, hts⟩ (c_HS_duel l ev dC dI cA (qa 0) (qa 1) (qa 2) (qa 3) (qa 4) (qa 5) (qa 6) (qa 7) (qa 8) (qa 9) (qa 10) (qa 11) (qa 12) (qa 45) (qa 46) (qa 47) (qa 48) (qa 49) (qa 50) (qa 51) (qa 52) (qa 53) (qa 7) (qa 60) (qa 61) (qa 8) (qa 62) (qa 74) (qa 75) (qa 76) (qa 80) (qa 81) (qa 103) (qa 104) ((σ 0)) ((σ 1)) ((σ 2)) ((σ 3)) hg H.size) (cwV 3 hts (zgVL zw_1071 zw_1072 zw_1073 zw_104 zw_1074) rfl rfl rfl hd_HS_duel ⟨Nat.le_of_ble_eq_true rfl, Nat.le_of_ble_eq_true rfl⟩) (xv_preV (T := TX10) (N := 16) hE hA hS hK hP hD (isC := [0, 2, 8, 9, 11, 45, 46, 47, 49, 50, 52, 53, 60, 61, 62, 74, 75, 76, 80, 81, 103, 104]) (by decide +kernel) hC (q0 := 0) (ci := 10) rfl rfl) rfl rfl hl.1 rfl (lv_room (Nat.le_of_ble_eq_true rfl)) (zdt zkL_law 1106 rfl) ⟨Nat.le_refl _, Nat.le_refl _⟩) hP hD hS hA (by decide +kernel) rfl hC rfl rfl (fun H locs hP hD hS => ?_)
    refine lv_pop hx hb (zdt zkL_law 1109 rfl) rfl ?_
    refine lv_aload_n hx hb (zdt zkL_law 1110 rfl) rfl (lv_at hl 2 rfl) ?_
    refine lv_aload_n hx hb (zdt zkL_law 1111 rfl) rfl (lv_at hl 0 rfl) ?_
    refine lv_iload_n hx hb (zdt zkL_law 1112 rfl) rfl (lv_at hl 3 rfl) ?_
    refine lv_iconst (v := Int32.ofInt 1) hx hb (zdt zkL_law 1113 rfl) rfl ?_
    refine xi_iadd hx hb (zdt zkL_law 1114 rfl) hf (fun v23 hf => ?_)
    refine xi_lld hx hb hX hbl hbA hS (zdt zkL_law 1115 rfl) hf (fun v24 hf => ?_)
    refine lv_aload_n hx hb (zdt zkL_law 1116 rfl) rfl (lv_at hl 0 rfl) ?_
    refine lv_iload_n hx hb (zdt zkL_law 1117 rfl) rfl (lv_at hl 3 rfl) ?_
    refine lv_iconst (v := Int32.ofInt 2) hx hb (zdt zkL_law 1118 rfl) rfl ?_
    refine xi_iadd hx hb (zdt zkL_law 1119 rfl) hf (fun v25 hf => ?_)
    refine xi_lld hx hb hX hbl hbA hS (zdt zkL_law 1120 rfl) hf (fun v26 hf => ?_)
    refine lv_aload_n hx hb (zdt zkL_law 1121 rfl) rfl (lv_at hl 0 rfl) ?_
    refine lv_iload_n hx hb (zdt zkL_law 1122 rfl) rfl (lv_at hl 3 rfl) ?_
    refine lv_iconst (v := Int32.ofInt 3) hx hb (zdt zkL_law 1123 rfl) rfl ?_
    refine xi_iadd hx hb (zdt zkL_law 1124 rfl) hf (fun v27 hf => ?_)
    refine xi_lld hx hb hX hbl hbA hS (zdt zkL_law 1125 rfl) hf (fun v28 hf => ?_)
    refine xe_d13 hf (fun v29 v30 v31 v32 v33 v34 a35 a36 a37 a38 a39 a40 a41 hg hf => ?_)
    have hC : ([1, 15, 25, 26, 27, 28, 41, 42, 43] : List Nat).map (fun i => (wd_LW_law cA qa (zst σ [(34, v8), (35, v9), (36, v10), (40, v11), (41, v12), (42, v13), (43, v14), (60, v18)]) (zta τ [(46, a15), (47, a16), (48, a17), (59, a19), (60, a20), (81, a21), (82, a22)]))[i]?) = (wd_HM_duel cA (qa 13) (qa 14) (qa 15) (qa 16) (qa 17) (qa 18) (qa 19) (qa 20) (qa 21) (qa 22) (qa 23) (qa 24) (qa 25) (qa 26) (qa 27) (qa 28) (qa 29) (qa 30) (qa 31) (qa 32) (qa 33) (qa 34) (qa 35) (qa 36) (qa 37) (qa 38) (qa 39) (qa 40) (qa 41) (qa 42) (qa 43) (qa 44) (σ 5) (σ 6) (σ 7) (σ 8) (σ 9) (σ 10) (σ 11) (σ 12) (σ 13) (σ 14) (σ 15) (σ 16) (σ 17) (σ 18) (σ 23) (σ 24) (σ 25) (τ 4) (σ 4) (σ 19) (σ 20) (σ 21) (σ 22) (τ 14) (τ 15) (τ 16) (τ 17) (τ 30) (τ 31) (τ 32)).map some := rfl
    refine xv_afterI (ws' := (wd_LW_law cA qa (zst σ [(4, v30), (19, v31), (20, v32), (21, v33), (22, v34), (34, v8), (35, v9), (36, v10), (40, v11), (41, v12), (42, v13), (43, v14), (60, v18)]) (zta τ [(14, a35), (15, a36), (16, a37), (17, a38), (30, a39), (31, a40), (32, a41), (46, a15), (47, a16), (48, a17), (59, a19), (60, a20), (81, a21), (82, a22)]))) (isC := [1, 15, 25, 26, 27, 28, 41, 42, 43]) (ps := [none, some 0, none, none, none, none, none, none, none, none, none, none, none, none, none, some 1, none, none, none, none, none, none, none, none, none, some 2, some 3, some 4, some 5, none, none, none, none, none, none, none, none, none, none, none, none, some 6, some 7, some 8, none, none, none, none, none, none, none, none, none, none, none, none, none, none, none, none, none, none, none, none, none, none, none, none, none, none, none, none, none, none, none, none, none, none, none, none, none, none, none, none, none, none, none, none, none, none, none, none, none, none, none, none, none, none, none, none, none, none, none, none, none, none, none, none, none, none, none, none, none, none]) (va_runV (As := [.int (Int32.ofInt v24), .int (Int32.ofInt v26), .int (Int32.ofInt v28)]) (rest := []) ⟨hx, hb, hml, hown, hts⟩ (c_HM_duel l ev dC dI cA (qa 13) (qa 14) (qa 15) (qa 16) (qa 17) (qa 18) (qa 19) (qa 20) (qa 21) (qa 22) (qa 23) (qa 24) (qa 25) (qa 26) (qa 27) (qa 28) (qa 29) (qa 30) (qa 31) (qa 32) (qa 33) (qa 34) (qa 35) (qa 36) (qa 37) (qa 38) (qa 39) (qa 40) (qa 41) (qa 42) (qa 43) (qa 44) ((σ 5)) ((σ 6)) ((σ 7)) ((σ 8)) ((σ 9)) ((σ 10)) ((σ 11)) ((σ 12)) ((σ 13)) ((σ 14)) ((σ 15)) ((σ 16)) ((σ 17)) ((σ 18)) ((σ 23)) ((σ 24)) ((σ 25)) hg H.size) (cwV 3 hts (zgVL zw_1742 zw_1743 zw_1744 zw_115 zw_1745) rfl rfl rfl hd_HM_duel ⟨Nat.le_of_ble_eq_true rfl, Nat.le_of_ble_eq_true rfl⟩) (xv_preV (T := TX11) (N := 53) hE hA hS hK hP hD (isC := [1, 15, 25, 26, 27, 28, 41, 42, 43]) (by decide +kernel) hC (q0 := 1) (ci := 11) rfl rfl) rfl rfl hl.1 rfl (lv_room (Nat.le_of_ble_eq_true rfl)) (zdt zkL_law 1126 rfl) ⟨Nat.le_refl _, Nat.le_refl _⟩) hP hD hS hA (by decide +kernel) rfl hC rfl rfl (fun H locs hP hD hS => ?_)
    refine lv_pop hx hb (zdt zkL_law 1129 rfl) rfl ?_
    refine lv_goto (tgt := 1304) hx hb (zdt zkL_law 1130 rfl) (by decide) ?_
    exact b_1304 _ ih18 _ _ _ _ _ _ hf hP hD hS (lv_sub hl [0, 1, 2, 3] rfl)
  have b_1133 : ∀ (k18 : Int → (Nat → Int) → (Nat → Nat → Int) → Option (Int)) (_ : ∀ (x3 : Int) (σ : Nat → Int) (τ : Nat → Nat → Int) (H : Heap) (locs : List Loc) (ls : Array Slot), k18 x3 σ τ = some 1 → va_P (dC, dI) vwCl (wd_LW_law cA qa σ τ) H → va_D A (wd_LW_law cA qa σ τ) → va_S A s.heap H locs → lv_has ls 4 [(0, .ref b), (1, .ref (qa 0)), (2, .ref (qa 13)), (3, .int (Int32.ofInt x3))] → W p l e room_1 s m #[Value.ref b] below meth c H locs 600000 7302250 (lw_Z below #[Value.ref b] s) (F0 m 18 ls [])), ∀ (x3 : Int) (σ : Nat → Int) (τ : Nat → Nat → Int) (H : Heap) (locs : List Loc) (ls : Array Slot), ga_LW_law_1133 L (fun j => (xs j).toInt) k18 x3 σ τ = some 1 → va_P (dC, dI) vwCl (wd_LW_law cA qa σ τ) H → va_D A (wd_LW_law cA qa σ τ) → va_S A s.heap H locs → lv_has ls 4 [(0, .ref b), (1, .ref (qa 0)), (2, .ref (qa 13)), (3, .int (Int32.ofInt x3))] → W p l e room_1 s m #[Value.ref b] below meth c H locs 600000 7302250 (lw_Z below #[Value.ref b] s) (F0 m 1133 ls []) := by
    intro k18 ih18 x3 σ τ H locs ls hf hP hD hS hl
    unfold ga_LW_law_1133 at hf
    refine lv_aload_n hx hb (zdt zkL_law 1133 rfl) rfl (lv_at hl 1 rfl) ?_
    refine lv_aload_n hx hb (zdt zkL_law 1134 rfl) rfl (lv_at hl 0 rfl) ?_
    refine lv_iload_n hx hb (zdt zkL_law 1135 rfl) rfl (lv_at hl 3 rfl) ?_
    refine lv_iconst (v := Int32.ofInt 1) hx hb (zdt zkL_law 1136 rfl) rfl ?_
    refine xi_iadd hx hb (zdt zkL_law 1137 rfl) hf (fun v1 hf => ?_)
    refine xi_lld hx hb hX hbl hbA hS (zdt zkL_law 1138 rfl) hf (fun v2 hf => ?_)
    refine xe_d1 hf (fun v3 hg hf => ?_)
    have hC : ([0, 2, 12, 45, 80, 81] : List Nat).map (fun i => (wd_LW_law cA qa σ τ)[i]?) = (wd_HS_layers cA (qa 0) (qa 1) (qa 2) (qa 3) (qa 4) (qa 5) (qa 6) (qa 7) (qa 8) (qa 9) (qa 10) (qa 11) (qa 12) (qa 45) (qa 46) (qa 47) (qa 48) (qa 49) (qa 50) (qa 51) (qa 52) (qa 53) (qa 77) (qa 78) (qa 80) (qa 81) (σ 0) (σ 1) (σ 2) (σ 3) (σ 26) (σ 27) (σ 28) (σ 29) (σ 30) (σ 44) (σ 45) (σ 46) (σ 47) (σ 48) (σ 49) (τ 63) (τ 64)).map some := rfl
    refine xv_afterI (ws' := (wd_LW_law cA qa σ τ)) (isC := [0, 2, 12, 45, 80, 81]) (ps := [some 0, none, some 1, none, none, none, none, none, none, none, none, none, some 2, none, none, none, none, none, none, none, none, none, none, none, none, none, none, none, none, none, none, none, none, none, none, none, none, none, none, none, none, none, none, none, none, some 3, none, none, none, none, none, none, none, none, none, none, none, none, none, none, none, none, none, none, none, none, none, none, none, none, none, none, none, none, none, none, none, none, none, none, some 4, some 5, none, none, none, none, none, none, none, none, none, none, none, none, none, none, none, none, none, none, none, none, none, none, none, none, none, none, none, none, none, none, none, none]) (va_runV (As := [.int (Int32.ofInt v2)]) (rest := []) ⟨hx, hb, hml, hown, hts⟩ (c_HS_layers l ev dC dI cA (qa 0) (qa 1) (qa 2) (qa 3) (qa 4) (qa 5) (qa 6) (qa 7) (qa 8) (qa 9) (qa 10) (qa 11) (qa 12) (qa 45) (qa 46) (qa 47) (qa 48) (qa 49) (qa 50) (qa 51) (qa 52) (qa 53) (qa 77) (qa 78) (qa 80) (qa 81) ((σ 0)) ((σ 1)) ((σ 2)) ((σ 3)) ((σ 26)) ((σ 27)) ((σ 28)) ((σ 29)) ((σ 30)) ((σ 44)) ((σ 45)) ((σ 46)) ((σ 47)) ((σ 48)) hg H.size) (cwV 1 hts (zgVL zw_1097 zw_1098 zw_1099 zw_104 zw_1100) rfl rfl rfl hd_HS_layers ⟨Nat.le_of_ble_eq_true rfl, Nat.le_of_ble_eq_true rfl⟩) (xv_preV (T := TX10) (N := 16) hE hA hS hK hP hD (isC := [0, 2, 12, 45, 80, 81]) (by decide +kernel) hC (q0 := 0) (ci := 10) rfl rfl) rfl rfl hl.1 rfl (lv_room (Nat.le_of_ble_eq_true rfl)) (zdt zkL_law 1139 rfl) ⟨Nat.le_refl _, Nat.le_refl _⟩) hP hD hS hA (by decide +kernel) rfl hC rfl rfl (fun H locs hP hD hS => ?_)
    refine lv_pop hx hb (zdt zkL_law 1142 rfl) rfl ?_
    refine lv_aload_n hx hb (zdt zkL_law 1143 rfl) rfl (lv_at hl 2 rfl) ?_
    refine lv_aload_n hx hb (zdt zkL_law 1144 rfl) rfl (lv_at hl 0 rfl) ?_
    refine lv_iload_n hx hb (zdt zkL_law 1145 rfl) rfl (lv_at hl 3 rfl) ?_
    refine lv_iconst (v := Int32.ofInt 1) hx hb (zdt zkL_law 1146 rfl) rfl ?_
    refine xi_iadd hx hb (zdt zkL_law 1147 rfl) hf (fun v4 hf => ?_)
    refine xi_lld hx hb hX hbl hbA hS (zdt zkL_law 1148 rfl) hf (fun v5 hf => ?_)
    refine xe_d2 hf (fun v6 v7 hg hf => ?_)
    have hC : ([1, 15] : List Nat).map (fun i => (wd_LW_law cA qa σ τ)[i]?) = (wd_HM_layers cA (qa 13) (qa 14) (qa 15) (qa 16) (qa 17) (qa 18) (qa 19) (qa 20) (qa 21) (qa 22) (qa 23) (qa 24) (qa 25) (qa 26) (qa 27) (qa 28) (qa 29) (qa 30) (qa 31) (qa 32) (qa 33) (qa 34) (qa 35) (qa 36) (qa 37) (qa 38) (qa 39) (qa 40) (qa 41) (qa 42) (qa 43) (qa 44) (σ 5) (σ 6) (σ 7) (σ 8) (σ 9) (σ 10) (σ 11) (σ 12) (σ 13) (σ 14) (σ 15) (σ 16) (σ 17) (σ 18) (σ 19) (σ 20) (σ 21) (σ 22) (σ 23) (σ 24) (σ 25) (τ 4) (σ 4)).map some := rfl
    refine xv_afterI (ws' := (wd_LW_law cA qa (zst σ [(4, v7)]) τ)) (isC := [1, 15]) (ps := [none, some 0, none, none, none, none, none, none, none, none, none, none, none, none, none, some 1, none, none, none, none, none, none, none, none, none, none, none, none, none, none, none, none, none, none, none, none, none, none, none, none, none, none, none, none, none, none, none, none, none, none, none, none, none, none, none, none, none, none, none, none, none, none, none, none, none, none, none, none, none, none, none, none, none, none, none, none, none, none, none, none, none, none, none, none, none, none, none, none, none, none, none, none, none, none, none, none, none, none, none, none, none, none, none, none, none, none, none, none, none, none, none, none, none, none]) (va_runV (As := [.int (Int32.ofInt v5)]) (rest := []) ⟨hx, hb, hml, hown, hts⟩ (c_HM_layers l ev dC dI cA (qa 13) (qa 14) (qa 15) (qa 16) (qa 17) (qa 18) (qa 19) (qa 20) (qa 21) (qa 22) (qa 23) (qa 24) (qa 25) (qa 26) (qa 27) (qa 28) (qa 29) (qa 30) (qa 31) (qa 32) (qa 33) (qa 34) (qa 35) (qa 36) (qa 37) (qa 38) (qa 39) (qa 40) (qa 41) (qa 42) (qa 43) (qa 44) ((σ 5)) ((σ 6)) ((σ 7)) ((σ 8)) ((σ 9)) ((σ 10)) ((σ 11)) ((σ 12)) ((σ 13)) ((σ 14)) ((σ 15)) ((σ 16)) ((σ 17)) ((σ 18)) ((σ 19)) ((σ 20)) ((σ 21)) ((σ 22)) ((σ 23)) ((σ 24)) ((σ 25)) hg H.size) (cwV 1 hts (zgVL zw_1762 zw_1763 zw_1764 zw_115 zw_1765) rfl rfl rfl hd_HM_layers ⟨Nat.le_of_ble_eq_true rfl, Nat.le_of_ble_eq_true rfl⟩) (xv_preV (T := TX11) (N := 53) hE hA hS hK hP hD (isC := [1, 15]) (by decide +kernel) hC (q0 := 1) (ci := 11) rfl rfl) rfl rfl hl.1 rfl (lv_room (Nat.le_of_ble_eq_true rfl)) (zdt zkL_law 1149 rfl) ⟨Nat.le_refl _, Nat.le_refl _⟩) hP hD hS hA (by decide +kernel) rfl hC rfl rfl (fun H locs hP hD hS => ?_)
    refine lv_pop hx hb (zdt zkL_law 1152 rfl) rfl ?_
    refine lv_goto (tgt := 1304) hx hb (zdt zkL_law 1153 rfl) (by decide) ?_
    exact b_1304 _ ih18 _ _ _ _ _ _ hf hP hD hS (lv_sub hl [0, 1, 2, 3] rfl)
  have b_1156 : ∀ (k18 : Int → (Nat → Int) → (Nat → Nat → Int) → Option (Int)) (_ : ∀ (x3 : Int) (σ : Nat → Int) (τ : Nat → Nat → Int) (H : Heap) (locs : List Loc) (ls : Array Slot), k18 x3 σ τ = some 1 → va_P (dC, dI) vwCl (wd_LW_law cA qa σ τ) H → va_D A (wd_LW_law cA qa σ τ) → va_S A s.heap H locs → lv_has ls 4 [(0, .ref b), (1, .ref (qa 0)), (2, .ref (qa 13)), (3, .int (Int32.ofInt x3))] → W p l e room_1 s m #[Value.ref b] below meth c H locs 600000 7302250 (lw_Z below #[Value.ref b] s) (F0 m 18 ls [])), ∀ (x3 : Int) (σ : Nat → Int) (τ : Nat → Nat → Int) (H : Heap) (locs : List Loc) (ls : Array Slot), ga_LW_law_1156 L (fun j => (xs j).toInt) k18 x3 σ τ = some 1 → va_P (dC, dI) vwCl (wd_LW_law cA qa σ τ) H → va_D A (wd_LW_law cA qa σ τ) → va_S A s.heap H locs → lv_has ls 4 [(0, .ref b), (1, .ref (qa 0)), (2, .ref (qa 13)), (3, .int (Int32.ofInt x3))] → W p l e room_1 s m #[Value.ref b] below meth c H locs 600000 7302250 (lw_Z below #[Value.ref b] s) (F0 m 1156 ls []) := by
    intro k18 ih18 x3 σ τ H locs ls hf hP hD hS hl
    unfold ga_LW_law_1156 at hf
    refine lv_aload_n hx hb (zdt zkL_law 1156 rfl) rfl (lv_at hl 1 rfl) ?_
    refine lv_aload_n hx hb (zdt zkL_law 1157 rfl) rfl (lv_at hl 0 rfl) ?_
    refine lv_iload_n hx hb (zdt zkL_law 1158 rfl) rfl (lv_at hl 3 rfl) ?_
    refine lv_iconst (v := Int32.ofInt 1) hx hb (zdt zkL_law 1159 rfl) rfl ?_
    refine xi_iadd hx hb (zdt zkL_law 1160 rfl) hf (fun v1 hf => ?_)
    refine xi_lld hx hb hX hbl hbA hS (zdt zkL_law 1161 rfl) hf (fun v2 hf => ?_)
    refine lv_aload_n hx hb (zdt zkL_law 1162 rfl) rfl (lv_at hl 0 rfl) ?_
    refine lv_iload_n hx hb (zdt zkL_law 1163 rfl) rfl (lv_at hl 3 rfl) ?_
    refine lv_iconst (v := Int32.ofInt 2) hx hb (zdt zkL_law 1164 rfl) rfl ?_
    refine xi_iadd hx hb (zdt zkL_law 1165 rfl) hf (fun v3 hf => ?_)
    refine xi_lld hx hb hX hbl hbA hS (zdt zkL_law 1166 rfl) hf (fun v4 hf => ?_)
    refine xe_d7 hf (fun v5 v6 v7 a8 v9 a10 a11 hg hf => ?_)
    have hC : ([0, 2, 6, 13, 45, 50, 79, 80, 81, 105, 106] : List Nat).map (fun i => (wd_LW_law cA qa σ τ)[i]?) = (wd_HS_rain cA (qa 0) (qa 1) (qa 2) (qa 3) (qa 4) (qa 5) (qa 6) (qa 7) (qa 8) (qa 9) (qa 10) (qa 11) (qa 12) (qa 45) (qa 46) (qa 47) (qa 48) (qa 49) (qa 50) (qa 51) (qa 52) (qa 53) (qa 79) (qa 80) (qa 81) (qa 105) (qa 106) (σ 0) (σ 1) (σ 2) (σ 26) (σ 27) (σ 28) (σ 29) (σ 49) (τ 38) (τ 63) (τ 64) (σ 3) (σ 30) (τ 2) (σ 61) (τ 83) (τ 84)).map some := rfl
    refine xv_afterI (ws' := (wd_LW_law cA qa (zst σ [(3, v6), (30, v7), (61, v9)]) (zta τ [(2, a8), (83, a10), (84, a11)]))) (isC := [0, 2, 6, 13, 45, 50, 79, 80, 81, 105, 106]) (ps := [some 0, none, some 1, none, none, none, some 2, none, none, none, none, none, none, some 3, none, none, none, none, none, none, none, none, none, none, none, none, none, none, none, none, none, none, none, none, none, none, none, none, none, none, none, none, none, none, none, some 4, none, none, none, none, some 5, none, none, none, none, none, none, none, none, none, none, none, none, none, none, none, none, none, none, none, none, none, none, none, none, none, none, none, none, some 6, some 7, some 8, none, none, none, none, none, none, none, none, none, none, none, none, none, none, none, none, none, none, none, none, none, none, none, some 9, some 10, none, none, none, none, none, none, none]) (va_runV (As := [.int (Int32.ofInt v2), .int (Int32.ofInt v4)]) (rest := []) ⟨hx, hb, hml, hown, hts⟩ (c_HS_rain l ev dC dI cA (qa 0) (qa 1) (qa 2) (qa 3) (qa 4) (qa 5) (qa 6) (qa 7) (qa 8) (qa 9) (qa 10) (qa 11) (qa 12) (qa 45) (qa 46) (qa 47) (qa 48) (qa 49) (qa 50) (qa 51) (qa 52) (qa 53) (qa 79) (qa 80) (qa 81) (qa 105) (qa 106) ((σ 0)) ((σ 1)) ((σ 2)) ((σ 26)) ((σ 27)) ((σ 28)) ((σ 29)) hg H.size) (cwV 2 hts (zgVL zw_1105 zw_1106 zw_1107 zw_104 zw_1108) rfl rfl rfl hd_HS_rain ⟨Nat.le_of_ble_eq_true rfl, Nat.le_of_ble_eq_true rfl⟩) (xv_preV (T := TX10) (N := 16) hE hA hS hK hP hD (isC := [0, 2, 6, 13, 45, 50, 79, 80, 81, 105, 106]) (by decide +kernel) hC (q0 := 0) (ci := 10) rfl rfl) rfl rfl hl.1 rfl (lv_room (Nat.le_of_ble_eq_true rfl)) (zdt zkL_law 1167 rfl) ⟨Nat.le_refl _, Nat.le_refl _⟩) hP hD hS hA (by decide +kernel) rfl hC rfl rfl (fun H locs hP hD hS => ?_)
    refine lv_pop hx hb (zdt zkL_law 1170 rfl) rfl ?_
    refine lv_aload_n hx hb (zdt zkL_law 1171 rfl) rfl (lv_at hl 2 rfl) ?_
    refine lv_aload_n hx hb (zdt zkL_law 1172 rfl) rfl (lv_at hl 0 rfl) ?_
    refine lv_iload_n hx hb (zdt zkL_law 1173 rfl) rfl (lv_at hl 3 rfl) ?_
    refine lv_iconst (v := Int32.ofInt 1) hx hb (zdt zkL_law 1174 rfl) rfl ?_
    refine xi_iadd hx hb (zdt zkL_law 1175 rfl) hf (fun v12 hf => ?_)
    refine xi_lld hx hb hX hbl hbA hS (zdt zkL_law 1176 rfl) hf (fun v13 hf => ?_)
    refine lv_aload_n hx hb (zdt zkL_law 1177 rfl) rfl (lv_at hl 0 rfl) ?_
    refine lv_iload_n hx hb (zdt zkL_law 1178 rfl) rfl (lv_at hl 3 rfl) ?_
    refine lv_iconst (v := Int32.ofInt 2) hx hb (zdt zkL_law 1179 rfl) rfl ?_
    refine xi_iadd hx hb (zdt zkL_law 1180 rfl) hf (fun v14 hf => ?_)
    refine xi_lld hx hb hX hbl hbA hS (zdt zkL_law 1181 rfl) hf (fun v15 hf => ?_)
    refine xe_d9 hf (fun v16 v17 v18 v19 v20 a21 a22 a23 a24 hg hf => ?_)
    have hC : ([1, 14, 15, 27, 28, 44] : List Nat).map (fun i => (wd_LW_law cA qa (zst σ [(3, v6), (30, v7), (61, v9)]) (zta τ [(2, a8), (83, a10), (84, a11)]))[i]?) = (wd_HM_rain cA (qa 13) (qa 14) (qa 15) (qa 16) (qa 17) (qa 18) (qa 19) (qa 20) (qa 21) (qa 22) (qa 23) (qa 24) (qa 25) (qa 26) (qa 27) (qa 28) (qa 29) (qa 30) (qa 31) (qa 32) (qa 33) (qa 34) (qa 35) (qa 36) (qa 37) (qa 38) (qa 39) (qa 40) (qa 41) (qa 42) (qa 43) (qa 44) (σ 6) (σ 7) (σ 8) (σ 9) (σ 10) (σ 11) (σ 12) (σ 13) (σ 14) (σ 15) (σ 16) (σ 17) (σ 18) (σ 19) (σ 20) (σ 21) (σ 22) (σ 23) (τ 4) (σ 4) (σ 5) (σ 24) (σ 25) (τ 3) (τ 16) (τ 17) (τ 33)).map some := rfl
    refine xv_afterI (ws' := (wd_LW_law cA qa (zst σ [(3, v6), (4, v17), (5, v18), (24, v19), (25, v20), (30, v7), (61, v9)]) (zta τ [(2, a8), (3, a21), (16, a22), (17, a23), (33, a24), (83, a10), (84, a11)]))) (isC := [1, 14, 15, 27, 28, 44]) (ps := [none, some 0, none, none, none, none, none, none, none, none, none, none, none, none, some 1, some 2, none, none, none, none, none, none, none, none, none, none, none, some 3, some 4, none, none, none, none, none, none, none, none, none, none, none, none, none, none, none, some 5, none, none, none, none, none, none, none, none, none, none, none, none, none, none, none, none, none, none, none, none, none, none, none, none, none, none, none, none, none, none, none, none, none, none, none, none, none, none, none, none, none, none, none, none, none, none, none, none, none, none, none, none, none, none, none, none, none, none, none, none, none, none, none, none, none, none, none, none, none]) (va_runV (As := [.int (Int32.ofInt v13), .int (Int32.ofInt v15)]) (rest := []) ⟨hx, hb, hml, hown, hts⟩ (c_HM_rain l ev dC dI cA (qa 13) (qa 14) (qa 15) (qa 16) (qa 17) (qa 18) (qa 19) (qa 20) (qa 21) (qa 22) (qa 23) (qa 24) (qa 25) (qa 26) (qa 27) (qa 28) (qa 29) (qa 30) (qa 31) (qa 32) (qa 33) (qa 34) (qa 35) (qa 36) (qa 37) (qa 38) (qa 39) (qa 40) (qa 41) (qa 42) (qa 43) (qa 44) ((σ 6)) ((σ 7)) ((σ 8)) ((σ 9)) ((σ 10)) ((σ 11)) ((σ 12)) ((σ 13)) ((σ 14)) ((σ 15)) ((σ 16)) ((σ 17)) ((σ 18)) ((σ 19)) ((σ 20)) ((σ 21)) ((σ 22)) ((σ 23)) hg H.size) (cwV 2 hts (zgVL zw_1766 zw_1767 zw_1768 zw_115 zw_1769) rfl rfl rfl hd_HM_rain ⟨Nat.le_of_ble_eq_true rfl, Nat.le_of_ble_eq_true rfl⟩) (xv_preV (T := TX11) (N := 53) hE hA hS hK hP hD (isC := [1, 14, 15, 27, 28, 44]) (by decide +kernel) hC (q0 := 1) (ci := 11) rfl rfl) rfl rfl hl.1 rfl (lv_room (Nat.le_of_ble_eq_true rfl)) (zdt zkL_law 1182 rfl) ⟨Nat.le_refl _, Nat.le_refl _⟩) hP hD hS hA (by decide +kernel) rfl hC rfl rfl (fun H locs hP hD hS => ?_)
    refine lv_pop hx hb (zdt zkL_law 1185 rfl) rfl ?_
    refine lv_goto (tgt := 1304) hx hb (zdt zkL_law 1186 rfl) (by decide) ?_
    exact b_1304 _ ih18 _ _ _ _ _ _ hf hP hD hS (lv_sub hl [0, 1, 2, 3] rfl)
  have b_1189 : ∀ (k18 : Int → (Nat → Int) → (Nat → Nat → Int) → Option (Int)) (_ : ∀ (x3 : Int) (σ : Nat → Int) (τ : Nat → Nat → Int) (H : Heap) (locs : List Loc) (ls : Array Slot), k18 x3 σ τ = some 1 → va_P (dC, dI) vwCl (wd_LW_law cA qa σ τ) H → va_D A (wd_LW_law cA qa σ τ) → va_S A s.heap H locs → lv_has ls 4 [(0, .ref b), (1, .ref (qa 0)), (2, .ref (qa 13)), (3, .int (Int32.ofInt x3))] → W p l e room_1 s m #[Value.ref b] below meth c H locs 600000 7302250 (lw_Z below #[Value.ref b] s) (F0 m 18 ls [])), ∀ (x3 : Int) (σ : Nat → Int) (τ : Nat → Nat → Int) (H : Heap) (locs : List Loc) (ls : Array Slot), ga_LW_law_1189 L (fun j => (xs j).toInt) k18 x3 σ τ = some 1 → va_P (dC, dI) vwCl (wd_LW_law cA qa σ τ) H → va_D A (wd_LW_law cA qa σ τ) → va_S A s.heap H locs → lv_has ls 4 [(0, .ref b), (1, .ref (qa 0)), (2, .ref (qa 13)), (3, .int (Int32.ofInt x3))] → W p l e room_1 s m #[Value.ref b] below meth c H locs 600000 7302250 (lw_Z below #[Value.ref b] s) (F0 m 1189 ls []) := by
    intro k18 ih18 x3 σ τ H locs ls hf hP hD hS hl
    unfold ga_LW_law_1189 at hf
    refine lv_aload_n hx hb (zdt zkL_law 1189 rfl) rfl (lv_at hl 1 rfl) ?_
    refine lv_aload_n hx hb (zdt zkL_law 1190 rfl) rfl (lv_at hl 0 rfl) ?_
    refine lv_iload_n hx hb (zdt zkL_law 1191 rfl) rfl (lv_at hl 3 rfl) ?_
    refine lv_iconst (v := Int32.ofInt 1) hx hb (zdt zkL_law 1192 rfl) rfl ?_
    refine xi_iadd hx hb (zdt zkL_law 1193 rfl) hf (fun v1 hf => ?_)
    refine xi_lld hx hb hX hbl hbA hS (zdt zkL_law 1194 rfl) hf (fun v2 hf => ?_)
    refine lv_aload_n hx hb (zdt zkL_law 1195 rfl) rfl (lv_at hl 0 rfl) ?_
    refine lv_iload_n hx hb (zdt zkL_law 1196 rfl) rfl (lv_at hl 3 rfl) ?_
    refine lv_iconst (v := Int32.ofInt 2) hx hb (zdt zkL_law 1197 rfl) rfl ?_
    refine xi_iadd hx hb (zdt zkL_law 1198 rfl) hf (fun v3 hf => ?_)
    refine xi_lld hx hb hX hbl hbA hS (zdt zkL_law 1199 rfl) hf (fun v4 hf => ?_)
    refine xe_d1 hf (fun v5 hg hf => ?_)
    have hC : ([0, 13, 79, 105, 106] : List Nat).map (fun i => (wd_LW_law cA qa σ τ)[i]?) = (wd_HS_rained cA (qa 0) (qa 1) (qa 2) (qa 3) (qa 4) (qa 5) (qa 6) (qa 7) (qa 8) (qa 9) (qa 10) (qa 11) (qa 12) (qa 79) (qa 105) (qa 106) (σ 0) (σ 1) (σ 2) (σ 3) (σ 61) (τ 83) (τ 84)).map some := rfl
    refine xv_afterI (ws' := (wd_LW_law cA qa σ τ)) (isC := [0, 13, 79, 105, 106]) (ps := [some 0, none, none, none, none, none, none, none, none, none, none, none, none, some 1, none, none, none, none, none, none, none, none, none, none, none, none, none, none, none, none, none, none, none, none, none, none, none, none, none, none, none, none, none, none, none, none, none, none, none, none, none, none, none, none, none, none, none, none, none, none, none, none, none, none, none, none, none, none, none, none, none, none, none, none, none, none, none, none, none, some 2, none, none, none, none, none, none, none, none, none, none, none, none, none, none, none, none, none, none, none, none, none, none, none, none, none, some 3, some 4, none, none, none, none, none, none, none]) (va_runV (As := [.int (Int32.ofInt v2), .int (Int32.ofInt v4)]) (rest := []) ⟨hx, hb, hml, hown, hts⟩ (c_HS_rained l ev dC dI cA (qa 0) (qa 1) (qa 2) (qa 3) (qa 4) (qa 5) (qa 6) (qa 7) (qa 8) (qa 9) (qa 10) (qa 11) (qa 12) (qa 79) (qa 105) (qa 106) ((σ 0)) ((σ 1)) ((σ 2)) ((σ 3)) hg H.size) (cwV 2 hts (zgVL zw_1124 zw_1125 zw_1126 zw_104 zw_1127) rfl rfl rfl hd_HS_rained ⟨Nat.le_of_ble_eq_true rfl, Nat.le_of_ble_eq_true rfl⟩) (xv_preV (T := TX10) (N := 16) hE hA hS hK hP hD (isC := [0, 13, 79, 105, 106]) (by decide +kernel) hC (q0 := 0) (ci := 10) rfl rfl) rfl rfl hl.1 rfl (lv_room (Nat.le_of_ble_eq_true rfl)) (zdt zkL_law 1200 rfl) ⟨Nat.le_refl _, Nat.le_refl _⟩) hP hD hS hA (by decide +kernel) rfl hC rfl rfl (fun H locs hP hD hS => ?_)
    refine lv_pop hx hb (zdt zkL_law 1203 rfl) rfl ?_
    refine lv_aload_n hx hb (zdt zkL_law 1204 rfl) rfl (lv_at hl 2 rfl) ?_
    refine lv_aload_n hx hb (zdt zkL_law 1205 rfl) rfl (lv_at hl 0 rfl) ?_
    refine lv_iload_n hx hb (zdt zkL_law 1206 rfl) rfl (lv_at hl 3 rfl) ?_
    refine lv_iconst (v := Int32.ofInt 1) hx hb (zdt zkL_law 1207 rfl) rfl ?_
    refine xi_iadd hx hb (zdt zkL_law 1208 rfl) hf (fun v6 hf => ?_)
    refine xi_lld hx hb hX hbl hbA hS (zdt zkL_law 1209 rfl) hf (fun v7 hf => ?_)
    refine lv_aload_n hx hb (zdt zkL_law 1210 rfl) rfl (lv_at hl 0 rfl) ?_
    refine lv_iload_n hx hb (zdt zkL_law 1211 rfl) rfl (lv_at hl 3 rfl) ?_
    refine lv_iconst (v := Int32.ofInt 2) hx hb (zdt zkL_law 1212 rfl) rfl ?_
    refine xi_iadd hx hb (zdt zkL_law 1213 rfl) hf (fun v8 hf => ?_)
    refine xi_lld hx hb hX hbl hbA hS (zdt zkL_law 1214 rfl) hf (fun v9 hf => ?_)
    refine xe_d2 hf (fun v10 v11 hg hf => ?_)
    have hC : ([1, 44] : List Nat).map (fun i => (wd_LW_law cA qa σ τ)[i]?) = (wd_HM_rained cA (qa 13) (qa 14) (qa 15) (qa 16) (qa 17) (qa 18) (qa 19) (qa 20) (qa 21) (qa 22) (qa 23) (qa 24) (qa 25) (qa 26) (qa 27) (qa 28) (qa 29) (qa 30) (qa 31) (qa 32) (qa 33) (qa 34) (qa 35) (qa 36) (qa 37) (qa 38) (qa 39) (qa 40) (qa 41) (qa 42) (qa 43) (qa 44) (σ 5) (σ 6) (σ 7) (σ 8) (σ 9) (σ 10) (σ 11) (σ 12) (σ 13) (σ 14) (σ 15) (σ 16) (σ 17) (σ 18) (σ 19) (σ 20) (σ 21) (σ 22) (σ 23) (σ 24) (σ 25) (τ 33) (σ 4)).map some := rfl
    refine xv_afterI (ws' := (wd_LW_law cA qa (zst σ [(4, v11)]) τ)) (isC := [1, 44]) (ps := [none, some 0, none, none, none, none, none, none, none, none, none, none, none, none, none, none, none, none, none, none, none, none, none, none, none, none, none, none, none, none, none, none, none, none, none, none, none, none, none, none, none, none, none, none, some 1, none, none, none, none, none, none, none, none, none, none, none, none, none, none, none, none, none, none, none, none, none, none, none, none, none, none, none, none, none, none, none, none, none, none, none, none, none, none, none, none, none, none, none, none, none, none, none, none, none, none, none, none, none, none, none, none, none, none, none, none, none, none, none, none, none, none, none, none, none]) (va_runV (As := [.int (Int32.ofInt v7), .int (Int32.ofInt v9)]) (rest := []) ⟨hx, hb, hml, hown, hts⟩ (c_HM_rained l ev dC dI cA (qa 13) (qa 14) (qa 15) (qa 16) (qa 17) (qa 18) (qa 19) (qa 20) (qa 21) (qa 22) (qa 23) (qa 24) (qa 25) (qa 26) (qa 27) (qa 28) (qa 29) (qa 30) (qa 31) (qa 32) (qa 33) (qa 34) (qa 35) (qa 36) (qa 37) (qa 38) (qa 39) (qa 40) (qa 41) (qa 42) (qa 43) (qa 44) ((σ 5)) ((σ 6)) ((σ 7)) ((σ 8)) ((σ 9)) ((σ 10)) ((σ 11)) ((σ 12)) ((σ 13)) ((σ 14)) ((σ 15)) ((σ 16)) ((σ 17)) ((σ 18)) ((σ 19)) ((σ 20)) ((σ 21)) ((σ 22)) ((σ 23)) ((σ 24)) hg H.size) (cwV 2 hts (zgVL zw_1774 zw_1775 zw_1776 zw_115 zw_1777) rfl rfl rfl hd_HM_rained ⟨Nat.le_of_ble_eq_true rfl, Nat.le_of_ble_eq_true rfl⟩) (xv_preV (T := TX11) (N := 53) hE hA hS hK hP hD (isC := [1, 44]) (by decide +kernel) hC (q0 := 1) (ci := 11) rfl rfl) rfl rfl hl.1 rfl (lv_room (Nat.le_of_ble_eq_true rfl)) (zdt zkL_law 1215 rfl) ⟨Nat.le_refl _, Nat.le_refl _⟩) hP hD hS hA (by decide +kernel) rfl hC rfl rfl (fun H locs hP hD hS => ?_)
    refine lv_pop hx hb (zdt zkL_law 1218 rfl) rfl ?_
    refine lv_goto (tgt := 1304) hx hb (zdt zkL_law 1219 rfl) (by decide) ?_
    exact b_1304 _ ih18 _ _ _ _ _ _ hf hP hD hS (lv_sub hl [0, 1, 2, 3] rfl)
  have b_1222 : ∀ (k18 : Int → (Nat → Int) → (Nat → Nat → Int) → Option (Int)) (_ : ∀ (x3 : Int) (σ : Nat → Int) (τ : Nat → Nat → Int) (H : Heap) (locs : List Loc) (ls : Array Slot), k18 x3 σ τ = some 1 → va_P (dC, dI) vwCl (wd_LW_law cA qa σ τ) H → va_D A (wd_LW_law cA qa σ τ) → va_S A s.heap H locs → lv_has ls 4 [(0, .ref b), (1, .ref (qa 0)), (2, .ref (qa 13)), (3, .int (Int32.ofInt x3))] → W p l e room_1 s m #[Value.ref b] below meth c H locs 600000 7302250 (lw_Z below #[Value.ref b] s) (F0 m 18 ls [])), ∀ (x3 : Int) (σ : Nat → Int) (τ : Nat → Nat → Int) (H : Heap) (locs : List Loc) (ls : Array Slot), ga_LW_law_1222 L (fun j => (xs j).toInt) k18 x3 σ τ = some 1 → va_P (dC, dI) vwCl (wd_LW_law cA qa σ τ) H → va_D A (wd_LW_law cA qa σ τ) → va_S A s.heap H locs → lv_has ls 4 [(0, .ref b), (1, .ref (qa 0)), (2, .ref (qa 13)), (3, .int (Int32.ofInt x3))] → W p l e room_1 s m #[Value.ref b] below meth c H locs 600000 7302250 (lw_Z below #[Value.ref b] s) (F0 m 1222 ls []) := by
    intro k18 ih18 x3 σ τ H locs ls hf hP hD hS hl
    unfold ga_LW_law_1222 at hf
    refine lv_aload_n hx hb (zdt zkL_law 1222 rfl) rfl (lv_at hl 1 rfl) ?_
    refine lv_aload_n hx hb (zdt zkL_law 1223 rfl) rfl (lv_at hl 0 rfl) ?_
    refine lv_iload_n hx hb (zdt zkL_law 1224 rfl) rfl (lv_at hl 3 rfl) ?_
    refine lv_iconst (v := Int32.ofInt 1) hx hb (zdt zkL_law 1225 rfl) rfl ?_
    refine xi_iadd hx hb (zdt zkL_law 1226 rfl) hf (fun v1 hf => ?_)
    refine xi_lld hx hb hX hbl hbA hS (zdt zkL_law 1227 rfl) hf (fun v2 hf => ?_)
    refine xe_d35 hf (fun v3 v4 v5 a6 a7 v8 v9 v10 v11 v12 v13 v14 v15 v16 a17 a18 a19 a20 a21 a22 a23 a24 v25 a26 a27 a28 a29 a30 a31 a32 a33 a34 a35 a36 a37 hg hf => ?_)
    have hC : ([0, 2, 3, 4, 6, 45, 46, 47, 48, 49, 50, 51, 52, 53, 54, 55, 80, 81, 82, 83, 84, 85, 86, 87, 88, 89, 90, 91, 92, 93, 94, 95, 96, 97, 98, 99, 107, 108, 109, 110] : List Nat).map (fun i => (wd_LW_law cA qa σ τ)[i]?) = (wd_HS_image cA (qa 0) (qa 1) (qa 2) (qa 3) (qa 4) (qa 5) (qa 6) (qa 7) (qa 8) (qa 9) (qa 10) (qa 11) (qa 12) (qa 45) (qa 46) (qa 47) (qa 48) (qa 49) (qa 50) (qa 51) (qa 52) (qa 53) (qa 54) (qa 55) (qa 80) (qa 81) (qa 82) (qa 83) (qa 84) (qa 85) (qa 86) (qa 87) (qa 88) (qa 89) (qa 90) (qa 91) (qa 92) (qa 93) (qa 94) (qa 95) (qa 96) (qa 97) (qa 98) (qa 99) (qa 107) (qa 108) (qa 109) (qa 110) (σ 0) (σ 1) (σ 2) (σ 54) (σ 59) (σ 26) (σ 27) (σ 28) (σ 29) (σ 49) (τ 34) (τ 35) (τ 36) (τ 37) (τ 38) (τ 39) (τ 40) (τ 41) (τ 63) (τ 64) (σ 3) (σ 30) (τ 0) (τ 2) (σ 50) (σ 51) (σ 52) (σ 53) (σ 55) (σ 56) (σ 57) (σ 58) (σ 62) (τ 65) (τ 66) (τ 67) (τ 68) (τ 69) (τ 70) (τ 71) (τ 72) (σ 63) (τ 73) (τ 74) (τ 75) (τ 76) (τ 77) (τ 78) (τ 79) (τ 80) (τ 85) (τ 86) (τ 87) (τ 88)).map some := rfl
    refine xv_afterI (ws' := (wd_LW_law cA qa (zst σ [(3, v4), (30, v5), (50, v8), (51, v9), (52, v10), (53, v11), (55, v12), (56, v13), (57, v14), (58, v15), (62, v16), (63, v25)]) (zta τ [(0, a6), (2, a7), (65, a17), (66, a18), (67, a19), (68, a20), (69, a21), (70, a22), (71, a23), (72, a24), (73, a26), (74, a27), (75, a28), (76, a29), (77, a30), (78, a31), (79, a32), (80, a33), (85, a34), (86, a35), (87, a36), (88, a37)]))) (isC := [0, 2, 3, 4, 6, 45, 46, 47, 48, 49, 50, 51, 52, 53, 54, 55, 80, 81, 82, 83, 84, 85, 86, 87, 88, 89, 90, 91, 92, 93, 94, 95, 96, 97, 98, 99, 107, 108, 109, 110]) (ps := [some 0, none, some 1, some 2, some 3, none, some 4, none, none, none, none, none, none, none, none, none, none, none, none, none, none, none, none, none, none, none, none, none, none, none, none, none, none, none, none, none, none, none, none, none, none, none, none, none, none, some 5, some 6, some 7, some 8, some 9, some 10, some 11, some 12, some 13, some 14, some 15, none, none, none, none, none, none, none, none, none, none, none, none, none, none, none, none, none, none, none, none, none, none, none, none, some 16, some 17, some 18, some 19, some 20, some 21, some 22, some 23, some 24, some 25, some 26, some 27, some 28, some 29, some 30, some 31, some 32, some 33, some 34, some 35, none, none, none, none, none, none, none, some 36, some 37, some 38, some 39, none, none, none]) (va_runV (As := [.int (Int32.ofInt v2)]) (rest := []) ⟨hx, hb, hml, hown, hts⟩ (c_HS_image l ev dC dI cA (qa 0) (qa 1) (qa 2) (qa 3) (qa 4) (qa 5) (qa 6) (qa 7) (qa 8) (qa 9) (qa 10) (qa 11) (qa 12) (qa 45) (qa 46) (qa 47) (qa 48) (qa 49) (qa 50) (qa 51) (qa 52) (qa 53) (qa 54) (qa 55) (qa 80) (qa 81) (qa 82) (qa 83) (qa 84) (qa 85) (qa 86) (qa 87) (qa 88) (qa 89) (qa 90) (qa 91) (qa 92) (qa 93) (qa 94) (qa 95) (qa 96) (qa 97) (qa 98) (qa 99) (qa 107) (qa 108) (qa 109) (qa 110) ((σ 0)) ((σ 1)) ((σ 2)) ((σ 54)) ((σ 59)) hg H.size) (cwV 1 hts (zgVL zw_1128 zw_1129 zw_1130 zw_104 zw_1131) rfl rfl rfl hd_HS_image ⟨Nat.le_of_ble_eq_true rfl, Nat.le_of_ble_eq_true rfl⟩) (xv_preV (T := TX10) (N := 16) hE hA hS hK hP hD (isC := [0, 2, 3, 4, 6, 45, 46, 47, 48, 49, 50, 51, 52, 53, 54, 55, 80, 81, 82, 83, 84, 85, 86, 87, 88, 89, 90, 91, 92, 93, 94, 95, 96, 97, 98, 99, 107, 108, 109, 110]) (by decide +kernel) hC (q0 := 0) (ci := 10) rfl rfl) rfl rfl hl.1 rfl (lv_room (Nat.le_of_ble_eq_true rfl)) (zdt zkL_law 1228 rfl) ⟨Nat.le_refl _, Nat.le_refl _⟩) hP hD hS hA (by decide +kernel) rfl hC rfl rfl (fun H locs hP hD hS => ?_)
    refine lv_pop hx hb (zdt zkL_law 1231 rfl) rfl ?_
    refine lv_aload_n hx hb (zdt zkL_law 1232 rfl) rfl (lv_at hl 2 rfl) ?_
    refine lv_aload_n hx hb (zdt zkL_law 1233 rfl) rfl (lv_at hl 0 rfl) ?_
    refine lv_iload_n hx hb (zdt zkL_law 1234 rfl) rfl (lv_at hl 3 rfl) ?_
    refine lv_iconst (v := Int32.ofInt 1) hx hb (zdt zkL_law 1235 rfl) rfl ?_
    refine xi_iadd hx hb (zdt zkL_law 1236 rfl) hf (fun v38 hf => ?_)
    refine xi_lld hx hb hX hbl hbA hS (zdt zkL_law 1237 rfl) hf (fun v39 hf => ?_)
    refine xe_d6 hf (fun v40 v41 v42 a43 a44 a45 hg hf => ?_)
    have hC : ([1, 14, 15, 16, 17] : List Nat).map (fun i => (wd_LW_law cA qa (zst σ [(3, v4), (30, v5), (50, v8), (51, v9), (52, v10), (53, v11), (55, v12), (56, v13), (57, v14), (58, v15), (62, v16), (63, v25)]) (zta τ [(0, a6), (2, a7), (65, a17), (66, a18), (67, a19), (68, a20), (69, a21), (70, a22), (71, a23), (72, a24), (73, a26), (74, a27), (75, a28), (76, a29), (77, a30), (78, a31), (79, a32), (80, a33), (85, a34), (86, a35), (87, a36), (88, a37)]))[i]?) = (wd_HM_image cA (qa 13) (qa 14) (qa 15) (qa 16) (qa 17) (qa 18) (qa 19) (qa 20) (qa 21) (qa 22) (qa 23) (qa 24) (qa 25) (qa 26) (qa 27) (qa 28) (qa 29) (qa 30) (qa 31) (qa 32) (qa 33) (qa 34) (qa 35) (qa 36) (qa 37) (qa 38) (qa 39) (qa 40) (qa 41) (qa 42) (qa 43) (qa 44) (σ 6) (σ 7) (σ 8) (σ 9) (σ 10) (σ 11) (σ 12) (σ 13) (σ 14) (σ 15) (σ 16) (σ 17) (σ 18) (σ 19) (σ 20) (σ 21) (σ 22) (σ 23) (σ 24) (σ 25) (τ 4) (σ 4) (σ 5) (τ 3) (τ 5) (τ 6)).map some := rfl
    refine xv_afterI (ws' := (wd_LW_law cA qa (zst σ [(3, v4), (4, v41), (5, v42), (30, v5), (50, v8), (51, v9), (52, v10), (53, v11), (55, v12), (56, v13), (57, v14), (58, v15), (62, v16), (63, v25)]) (zta τ [(0, a6), (2, a7), (3, a43), (5, a44), (6, a45), (65, a17), (66, a18), (67, a19), (68, a20), (69, a21), (70, a22), (71, a23), (72, a24), (73, a26), (74, a27), (75, a28), (76, a29), (77, a30), (78, a31), (79, a32), (80, a33), (85, a34), (86, a35), (87, a36), (88, a37)]))) (isC := [1, 14, 15, 16, 17]) (ps := [none, some 0, none, none, none, none, none, none, none, none, none, none, none, none, some 1, some 2, some 3, some 4, none, none, none, none, none, none, none, none, none, none, none, none, none, none, none, none, none, none, none, none, none, none, none, none, none, none, none, none, none, none, none, none, none, none, none, none, none, none, none, none, none, none, none, none, none, none, none, none, none, none, none, none, none, none, none, none, none, none, none, none, none, none, none, none, none, none, none, none, none, none, none, none, none, none, none, none, none, none, none, none, none, none, none, none, none, none, none, none, none, none, none, none, none, none, none, none]) (va_runV (As := [.int (Int32.ofInt v39)]) (rest := []) ⟨hx, hb, hml, hown, hts⟩ (c_HM_image l ev dC dI cA (qa 13) (qa 14) (qa 15) (qa 16) (qa 17) (qa 18) (qa 19) (qa 20) (qa 21) (qa 22) (qa 23) (qa 24) (qa 25) (qa 26) (qa 27) (qa 28) (qa 29) (qa 30) (qa 31) (qa 32) (qa 33) (qa 34) (qa 35) (qa 36) (qa 37) (qa 38) (qa 39) (qa 40) (qa 41) (qa 42) (qa 43) (qa 44) ((σ 6)) ((σ 7)) ((σ 8)) ((σ 9)) ((σ 10)) ((σ 11)) ((σ 12)) ((σ 13)) ((σ 14)) ((σ 15)) ((σ 16)) ((σ 17)) ((σ 18)) ((σ 19)) ((σ 20)) ((σ 21)) ((σ 22)) ((σ 23)) ((σ 24)) ((σ 25)) hg H.size) (cwV 1 hts (zgVL zw_1325 zw_1326 zw_1327 zw_115 zw_1328) rfl rfl rfl hd_HM_image ⟨Nat.le_of_ble_eq_true rfl, Nat.le_of_ble_eq_true rfl⟩) (xv_preV (T := TX11) (N := 53) hE hA hS hK hP hD (isC := [1, 14, 15, 16, 17]) (by decide +kernel) hC (q0 := 1) (ci := 11) rfl rfl) rfl rfl hl.1 rfl (lv_room (Nat.le_of_ble_eq_true rfl)) (zdt zkL_law 1238 rfl) ⟨Nat.le_refl _, Nat.le_refl _⟩) hP hD hS hA (by decide +kernel) rfl hC rfl rfl (fun H locs hP hD hS => ?_)
    refine lv_pop hx hb (zdt zkL_law 1241 rfl) rfl ?_
    refine lv_goto (tgt := 1304) hx hb (zdt zkL_law 1242 rfl) (by decide) ?_
    exact b_1304 _ ih18 _ _ _ _ _ _ hf hP hD hS (lv_sub hl [0, 1, 2, 3] rfl)
  have b_1245 : ∀ (k18 : Int → (Nat → Int) → (Nat → Nat → Int) → Option (Int)) (_ : ∀ (x3 : Int) (σ : Nat → Int) (τ : Nat → Nat → Int) (H : Heap) (locs : List Loc) (ls : Array Slot), k18 x3 σ τ = some 1 → va_P (dC, dI) vwCl (wd_LW_law cA qa σ τ) H → va_D A (wd_LW_law cA qa σ τ) → va_S A s.heap H locs → lv_has ls 4 [(0, .ref b), (1, .ref (qa 0)), (2, .ref (qa 13)), (3, .int (Int32.ofInt x3))] → W p l e room_1 s m #[Value.ref b] below meth c H locs 600000 7302250 (lw_Z below #[Value.ref b] s) (F0 m 18 ls [])), ∀ (x3 : Int) (σ : Nat → Int) (τ : Nat → Nat → Int) (H : Heap) (locs : List Loc) (ls : Array Slot), ga_LW_law_1245 L (fun j => (xs j).toInt) k18 x3 σ τ = some 1 → va_P (dC, dI) vwCl (wd_LW_law cA qa σ τ) H → va_D A (wd_LW_law cA qa σ τ) → va_S A s.heap H locs → lv_has ls 4 [(0, .ref b), (1, .ref (qa 0)), (2, .ref (qa 13)), (3, .int (Int32.ofInt x3))] → W p l e room_1 s m #[Value.ref b] below meth c H locs 600000 7302250 (lw_Z below #[Value.ref b] s) (F0 m 1245 ls []) := by
    intro k18 ih18 x3 σ τ H locs ls hf hP hD hS hl
    unfold ga_LW_law_1245 at hf
    refine lv_aload_n hx hb (zdt zkL_law 1245 rfl) rfl (lv_at hl 1 rfl) ?_
    refine lv_aload_n hx hb (zdt zkL_law 1246 rfl) rfl (lv_at hl 0 rfl) ?_
    refine lv_iload_n hx hb (zdt zkL_law 1247 rfl) rfl (lv_at hl 3 rfl) ?_
    refine lv_iconst (v := Int32.ofInt 1) hx hb (zdt zkL_law 1248 rfl) rfl ?_
    refine xi_iadd hx hb (zdt zkL_law 1249 rfl) hf (fun v1 hf => ?_)
    refine xi_lld hx hb hX hbl hbA hS (zdt zkL_law 1250 rfl) hf (fun v2 hf => ?_)
    refine xe_d19 hf (fun v3 v4 v5 v6 v7 v8 v9 a10 v11 a12 a13 a14 a15 a16 a17 a18 a19 a20 a21 hg hf => ?_)
    have hC : ([0, 2, 3, 4, 6, 45, 46, 47, 48, 49, 50, 51, 52, 53, 54, 55, 80, 81, 82, 83, 84, 85, 86, 87, 88, 89, 90, 91, 92, 93, 94, 95, 96, 97, 98, 99, 107, 108, 109, 110] : List Nat).map (fun i => (wd_LW_law cA qa σ τ)[i]?) = (wd_HS_back cA (qa 0) (qa 1) (qa 2) (qa 3) (qa 4) (qa 5) (qa 6) (qa 7) (qa 8) (qa 9) (qa 10) (qa 11) (qa 12) (qa 45) (qa 46) (qa 47) (qa 48) (qa 49) (qa 50) (qa 51) (qa 52) (qa 53) (qa 54) (qa 55) (qa 80) (qa 81) (qa 82) (qa 83) (qa 84) (qa 85) (qa 86) (qa 87) (qa 88) (qa 89) (qa 90) (qa 91) (qa 92) (qa 93) (qa 94) (qa 95) (qa 96) (qa 97) (qa 98) (qa 99) (qa 107) (qa 108) (qa 109) (qa 110) (σ 0) (σ 1) (σ 2) (σ 54) (σ 59) (τ 0) (σ 50) (σ 51) (σ 52) (σ 53) (σ 55) (σ 56) (σ 57) (σ 58) (σ 62) (τ 65) (τ 66) (τ 67) (τ 68) (τ 69) (τ 70) (τ 71) (τ 72) (σ 63) (τ 73) (τ 74) (τ 75) (τ 76) (τ 77) (τ 78) (τ 79) (τ 80) (τ 85) (τ 86) (τ 87) (τ 88) (σ 3) (σ 26) (σ 27) (σ 28) (σ 29) (σ 30) (τ 2) (σ 49) (τ 34) (τ 35) (τ 36) (τ 37) (τ 38) (τ 39) (τ 40) (τ 41) (τ 63) (τ 64)).map some := rfl
    refine xv_afterI (ws' := (wd_LW_law cA qa (zst σ [(3, v4), (26, v5), (27, v6), (28, v7), (29, v8), (30, v9), (49, v11)]) (zta τ [(2, a10), (34, a12), (35, a13), (36, a14), (37, a15), (38, a16), (39, a17), (40, a18), (41, a19), (63, a20), (64, a21)]))) (isC := [0, 2, 3, 4, 6, 45, 46, 47, 48, 49, 50, 51, 52, 53, 54, 55, 80, 81, 82, 83, 84, 85, 86, 87, 88, 89, 90, 91, 92, 93, 94, 95, 96, 97, 98, 99, 107, 108, 109, 110]) (ps := [some 0, none, some 1, some 2, some 3, none, some 4, none, none, none, none, none, none, none, none, none, none, none, none, none, none, none, none, none, none, none, none, none, none, none, none, none, none, none, none, none, none, none, none, none, none, none, none, none, none, some 5, some 6, some 7, some 8, some 9, some 10, some 11, some 12, some 13, some 14, some 15, none, none, none, none, none, none, none, none, none, none, none, none, none, none, none, none, none, none, none, none, none, none, none, none, some 16, some 17, some 18, some 19, some 20, some 21, some 22, some 23, some 24, some 25, some 26, some 27, some 28, some 29, some 30, some 31, some 32, some 33, some 34, some 35, none, none, none, none, none, none, none, some 36, some 37, some 38, some 39, none, none, none]) (va_runV (As := [.int (Int32.ofInt v2)]) (rest := []) ⟨hx, hb, hml, hown, hts⟩ (c_HS_back l ev dC dI cA (qa 0) (qa 1) (qa 2) (qa 3) (qa 4) (qa 5) (qa 6) (qa 7) (qa 8) (qa 9) (qa 10) (qa 11) (qa 12) (qa 45) (qa 46) (qa 47) (qa 48) (qa 49) (qa 50) (qa 51) (qa 52) (qa 53) (qa 54) (qa 55) (qa 80) (qa 81) (qa 82) (qa 83) (qa 84) (qa 85) (qa 86) (qa 87) (qa 88) (qa 89) (qa 90) (qa 91) (qa 92) (qa 93) (qa 94) (qa 95) (qa 96) (qa 97) (qa 98) (qa 99) (qa 107) (qa 108) (qa 109) (qa 110) ((σ 0)) ((σ 1)) ((σ 2)) ((σ 54)) ((σ 59)) hg H.size) (cwV 1 hts (zgVL zw_1137 zw_1138 zw_1139 zw_104 zw_1140) rfl rfl rfl hd_HS_back ⟨Nat.le_of_ble_eq_true rfl, Nat.le_of_ble_eq_true rfl⟩) (xv_preV (T := TX10) (N := 16) hE hA hS hK hP hD (isC := [0, 2, 3, 4, 6, 45, 46, 47, 48, 49, 50, 51, 52, 53, 54, 55, 80, 81, 82, 83, 84, 85, 86, 87, 88, 89, 90, 91, 92, 93, 94, 95, 96, 97, 98, 99, 107, 108, 109, 110]) (by decide +kernel) hC (q0 := 0) (ci := 10) rfl rfl) rfl rfl hl.1 rfl (lv_room (Nat.le_of_ble_eq_true rfl)) (zdt zkL_law 1251 rfl) ⟨Nat.le_refl _, Nat.le_refl _⟩) hP hD hS hA (by decide +kernel) rfl hC rfl rfl (fun H locs hP hD hS => ?_)
    refine lv_pop hx hb (zdt zkL_law 1254 rfl) rfl ?_
    refine lv_aload_n hx hb (zdt zkL_law 1255 rfl) rfl (lv_at hl 2 rfl) ?_
    refine lv_aload_n hx hb (zdt zkL_law 1256 rfl) rfl (lv_at hl 0 rfl) ?_
    refine lv_iload_n hx hb (zdt zkL_law 1257 rfl) rfl (lv_at hl 3 rfl) ?_
    refine lv_iconst (v := Int32.ofInt 1) hx hb (zdt zkL_law 1258 rfl) rfl ?_
    refine xi_iadd hx hb (zdt zkL_law 1259 rfl) hf (fun v22 hf => ?_)
    refine xi_lld hx hb hX hbl hbA hS (zdt zkL_law 1260 rfl) hf (fun v23 hf => ?_)
    refine xe_d5 hf (fun v24 v25 v26 a27 a28 hg hf => ?_)
    have hC : ([1, 14, 15, 16, 17] : List Nat).map (fun i => (wd_LW_law cA qa (zst σ [(3, v4), (26, v5), (27, v6), (28, v7), (29, v8), (30, v9), (49, v11)]) (zta τ [(2, a10), (34, a12), (35, a13), (36, a14), (37, a15), (38, a16), (39, a17), (40, a18), (41, a19), (63, a20), (64, a21)]))[i]?) = (wd_HM_back cA (qa 13) (qa 14) (qa 15) (qa 16) (qa 17) (qa 18) (qa 19) (qa 20) (qa 21) (qa 22) (qa 23) (qa 24) (qa 25) (qa 26) (qa 27) (qa 28) (qa 29) (qa 30) (qa 31) (qa 32) (qa 33) (qa 34) (qa 35) (qa 36) (qa 37) (qa 38) (qa 39) (qa 40) (qa 41) (qa 42) (qa 43) (qa 44) (σ 6) (σ 7) (σ 8) (σ 9) (σ 10) (σ 11) (σ 12) (σ 13) (σ 14) (σ 15) (σ 16) (σ 17) (σ 18) (σ 19) (σ 20) (σ 21) (σ 22) (σ 23) (σ 24) (σ 25) (τ 5) (τ 6) (σ 4) (σ 5) (τ 3) (τ 4)).map some := rfl
    refine xv_afterI (ws' := (wd_LW_law cA qa (zst σ [(3, v4), (4, v25), (5, v26), (26, v5), (27, v6), (28, v7), (29, v8), (30, v9), (49, v11)]) (zta τ [(2, a10), (3, a27), (4, a28), (34, a12), (35, a13), (36, a14), (37, a15), (38, a16), (39, a17), (40, a18), (41, a19), (63, a20), (64, a21)]))) (isC := [1, 14, 15, 16, 17]) (ps := [none, some 0, none, none, none, none, none, none, none, none, none, none, none, none, some 1, some 2, some 3, some 4, none, none, none, none, none, none, none, none, none, none, none, none, none, none, none, none, none, none, none, none, none, none, none, none, none, none, none, none, none, none, none, none, none, none, none, none, none, none, none, none, none, none, none, none, none, none, none, none, none, none, none, none, none, none, none, none, none, none, none, none, none, none, none, none, none, none, none, none, none, none, none, none, none, none, none, none, none, none, none, none, none, none, none, none, none, none, none, none, none, none, none, none, none, none, none, none]) (va_runV (As := [.int (Int32.ofInt v23)]) (rest := []) ⟨hx, hb, hml, hown, hts⟩ (c_HM_back l ev dC dI cA (qa 13) (qa 14) (qa 15) (qa 16) (qa 17) (qa 18) (qa 19) (qa 20) (qa 21) (qa 22) (qa 23) (qa 24) (qa 25) (qa 26) (qa 27) (qa 28) (qa 29) (qa 30) (qa 31) (qa 32) (qa 33) (qa 34) (qa 35) (qa 36) (qa 37) (qa 38) (qa 39) (qa 40) (qa 41) (qa 42) (qa 43) (qa 44) ((σ 6)) ((σ 7)) ((σ 8)) ((σ 9)) ((σ 10)) ((σ 11)) ((σ 12)) ((σ 13)) ((σ 14)) ((σ 15)) ((σ 16)) ((σ 17)) ((σ 18)) ((σ 19)) ((σ 20)) ((σ 21)) ((σ 22)) ((σ 23)) ((σ 24)) ((σ 25)) hg H.size) (cwV 1 hts (zgVL zw_1336 zw_1337 zw_1338 zw_115 zw_1339) rfl rfl rfl hd_HM_back ⟨Nat.le_of_ble_eq_true rfl, Nat.le_of_ble_eq_true rfl⟩) (xv_preV (T := TX11) (N := 53) hE hA hS hK hP hD (isC := [1, 14, 15, 16, 17]) (by decide +kernel) hC (q0 := 1) (ci := 11) rfl rfl) rfl rfl hl.1 rfl (lv_room (Nat.le_of_ble_eq_true rfl)) (zdt zkL_law 1261 rfl) ⟨Nat.le_refl _, Nat.le_refl _⟩) hP hD hS hA (by decide +kernel) rfl hC rfl rfl (fun H locs hP hD hS => ?_)
    refine lv_pop hx hb (zdt zkL_law 1264 rfl) rfl ?_
    refine lv_goto (tgt := 1304) hx hb (zdt zkL_law 1265 rfl) (by decide) ?_
    exact b_1304 _ ih18 _ _ _ _ _ _ hf hP hD hS (lv_sub hl [0, 1, 2, 3] rfl)
  have b_1268 : ∀ (k18 : Int → (Nat → Int) → (Nat → Nat → Int) → Option (Int)) (_ : ∀ (x3 : Int) (σ : Nat → Int) (τ : Nat → Nat → Int) (H : Heap) (locs : List Loc) (ls : Array Slot), k18 x3 σ τ = some 1 → va_P (dC, dI) vwCl (wd_LW_law cA qa σ τ) H → va_D A (wd_LW_law cA qa σ τ) → va_S A s.heap H locs → lv_has ls 4 [(0, .ref b), (1, .ref (qa 0)), (2, .ref (qa 13)), (3, .int (Int32.ofInt x3))] → W p l e room_1 s m #[Value.ref b] below meth c H locs 600000 7302250 (lw_Z below #[Value.ref b] s) (F0 m 18 ls [])), ∀ (x3 : Int) (σ : Nat → Int) (τ : Nat → Nat → Int) (H : Heap) (locs : List Loc) (ls : Array Slot), ga_LW_law_1268 L (fun j => (xs j).toInt) k18 x3 σ τ = some 1 → va_P (dC, dI) vwCl (wd_LW_law cA qa σ τ) H → va_D A (wd_LW_law cA qa σ τ) → va_S A s.heap H locs → lv_has ls 4 [(0, .ref b), (1, .ref (qa 0)), (2, .ref (qa 13)), (3, .int (Int32.ofInt x3))] → W p l e room_1 s m #[Value.ref b] below meth c H locs 600000 7302250 (lw_Z below #[Value.ref b] s) (F0 m 1268 ls []) := by
    intro k18 ih18 x3 σ τ H locs ls hf hP hD hS hl
    unfold ga_LW_law_1268 at hf
    refine lv_aload_n hx hb (zdt zkL_law 1268 rfl) rfl (lv_at hl 1 rfl) ?_
    refine lv_aload_n hx hb (zdt zkL_law 1269 rfl) rfl (lv_at hl 0 rfl) ?_
    refine lv_iload_n hx hb (zdt zkL_law 1270 rfl) rfl (lv_at hl 3 rfl) ?_
    refine lv_iconst (v := Int32.ofInt 1) hx hb (zdt zkL_law 1271 rfl) rfl ?_
    refine xi_iadd hx hb (zdt zkL_law 1272 rfl) hf (fun v1 hf => ?_)
    refine xi_lld hx hb hX hbl hbA hS (zdt zkL_law 1273 rfl) hf (fun v2 hf => ?_)
    refine xe_d1 hf (fun v3 hg hf => ?_)
    have hC : ([0, 2, 6, 45, 50, 80] : List Nat).map (fun i => (wd_LW_law cA qa σ τ)[i]?) = (wd_HS_count cA (qa 0) (qa 1) (qa 2) (qa 3) (qa 4) (qa 5) (qa 6) (qa 7) (qa 8) (qa 9) (qa 10) (qa 11) (qa 12) (qa 45) (qa 46) (qa 47) (qa 48) (qa 49) (qa 50) (qa 51) (qa 52) (qa 53) (qa 80) (qa 81) (σ 1) (σ 2) (σ 3) (σ 30) (σ 0) (σ 26) (σ 27) (σ 28) (σ 29) (τ 2) (σ 49) (τ 38) (τ 63)).map some := rfl
    refine xv_afterI (ws' := (wd_LW_law cA qa σ τ)) (isC := [0, 2, 6, 45, 50, 80]) (ps := [some 0, none, some 1, none, none, none, some 2, none, none, none, none, none, none, none, none, none, none, none, none, none, none, none, none, none, none, none, none, none, none, none, none, none, none, none, none, none, none, none, none, none, none, none, none, none, none, some 3, none, none, none, none, some 4, none, none, none, none, none, none, none, none, none, none, none, none, none, none, none, none, none, none, none, none, none, none, none, none, none, none, none, none, none, some 5, none, none, none, none, none, none, none, none, none, none, none, none, none, none, none, none, none, none, none, none, none, none, none, none, none, none, none, none, none, none, none, none, none]) (va_runV (As := [.int (Int32.ofInt v2)]) (rest := []) ⟨hx, hb, hml, hown, hts⟩ (c_HS_count l ev dC dI cA (qa 0) (qa 1) (qa 2) (qa 3) (qa 4) (qa 5) (qa 6) (qa 7) (qa 8) (qa 9) (qa 10) (qa 11) (qa 12) (qa 45) (qa 46) (qa 47) (qa 48) (qa 49) (qa 50) (qa 51) (qa 52) (qa 53) (qa 80) (qa 81) ((σ 1)) ((σ 2)) ((σ 3)) ((σ 30)) hg H.size) (cwV 1 hts (zgVL zw_1141 zw_1142 zw_1143 zw_104 zw_1144) rfl rfl rfl hd_HS_count ⟨Nat.le_of_ble_eq_true rfl, Nat.le_of_ble_eq_true rfl⟩) (xv_preV (T := TX10) (N := 16) hE hA hS hK hP hD (isC := [0, 2, 6, 45, 50, 80]) (by decide +kernel) hC (q0 := 0) (ci := 10) rfl rfl) rfl rfl hl.1 rfl (lv_room (Nat.le_of_ble_eq_true rfl)) (zdt zkL_law 1274 rfl) ⟨Nat.le_refl _, Nat.le_refl _⟩) hP hD hS hA (by decide +kernel) rfl hC rfl rfl (fun H locs hP hD hS => ?_)
    refine lv_pop hx hb (zdt zkL_law 1277 rfl) rfl ?_
    refine lv_aload_n hx hb (zdt zkL_law 1278 rfl) rfl (lv_at hl 2 rfl) ?_
    refine lv_aload_n hx hb (zdt zkL_law 1279 rfl) rfl (lv_at hl 0 rfl) ?_
    refine lv_iload_n hx hb (zdt zkL_law 1280 rfl) rfl (lv_at hl 3 rfl) ?_
    refine lv_iconst (v := Int32.ofInt 1) hx hb (zdt zkL_law 1281 rfl) rfl ?_
    refine xi_iadd hx hb (zdt zkL_law 1282 rfl) hf (fun v4 hf => ?_)
    refine xi_lld hx hb hX hbl hbA hS (zdt zkL_law 1283 rfl) hf (fun v5 hf => ?_)
    refine xe_d2 hf (fun v6 v7 hg hf => ?_)
    have hC : ([1, 14, 15] : List Nat).map (fun i => (wd_LW_law cA qa σ τ)[i]?) = (wd_HM_count cA (qa 13) (qa 14) (qa 15) (qa 16) (qa 17) (qa 18) (qa 19) (qa 20) (qa 21) (qa 22) (qa 23) (qa 24) (qa 25) (qa 26) (qa 27) (qa 28) (qa 29) (qa 30) (qa 31) (qa 32) (qa 33) (qa 34) (qa 35) (qa 36) (qa 37) (qa 38) (qa 39) (qa 40) (qa 41) (qa 42) (qa 43) (qa 44) (σ 5) (σ 6) (σ 8) (σ 9) (σ 10) (σ 11) (σ 12) (σ 13) (σ 14) (σ 15) (σ 16) (σ 17) (σ 18) (σ 19) (σ 20) (σ 21) (σ 22) (σ 23) (σ 24) (σ 25) (σ 7) (τ 3) (τ 4) (σ 4)).map some := rfl
    refine xv_afterI (ws' := (wd_LW_law cA qa (zst σ [(4, v7)]) τ)) (isC := [1, 14, 15]) (ps := [none, some 0, none, none, none, none, none, none, none, none, none, none, none, none, some 1, some 2, none, none, none, none, none, none, none, none, none, none, none, none, none, none, none, none, none, none, none, none, none, none, none, none, none, none, none, none, none, none, none, none, none, none, none, none, none, none, none, none, none, none, none, none, none, none, none, none, none, none, none, none, none, none, none, none, none, none, none, none, none, none, none, none, none, none, none, none, none, none, none, none, none, none, none, none, none, none, none, none, none, none, none, none, none, none, none, none, none, none, none, none, none, none, none, none, none, none]) (va_runV (As := [.int (Int32.ofInt v5)]) (rest := []) ⟨hx, hb, hml, hown, hts⟩ (c_HM_count l ev dC dI cA (qa 13) (qa 14) (qa 15) (qa 16) (qa 17) (qa 18) (qa 19) (qa 20) (qa 21) (qa 22) (qa 23) (qa 24) (qa 25) (qa 26) (qa 27) (qa 28) (qa 29) (qa 30) (qa 31) (qa 32) (qa 33) (qa 34) (qa 35) (qa 36) (qa 37) (qa 38) (qa 39) (qa 40) (qa 41) (qa 42) (qa 43) (qa 44) ((σ 5)) ((σ 6)) ((σ 8)) ((σ 9)) ((σ 10)) ((σ 11)) ((σ 12)) ((σ 13)) ((σ 14)) ((σ 15)) ((σ 16)) ((σ 17)) ((σ 18)) ((σ 19)) ((σ 20)) ((σ 21)) ((σ 22)) ((σ 23)) ((σ 24)) ((σ 25)) hg H.size) (cwV 1 hts (zgVL zw_1778 zw_1779 zw_1780 zw_115 zw_1781) rfl rfl rfl hd_HM_count ⟨Nat.le_of_ble_eq_true rfl, Nat.le_of_ble_eq_true rfl⟩) (xv_preV (T := TX11) (N := 53) hE hA hS hK hP hD (isC := [1, 14, 15]) (by decide +kernel) hC (q0 := 1) (ci := 11) rfl rfl) rfl rfl hl.1 rfl (lv_room (Nat.le_of_ble_eq_true rfl)) (zdt zkL_law 1284 rfl) ⟨Nat.le_refl _, Nat.le_refl _⟩) hP hD hS hA (by decide +kernel) rfl hC rfl rfl (fun H locs hP hD hS => ?_)
    refine lv_pop hx hb (zdt zkL_law 1287 rfl) rfl ?_
    refine lv_goto (tgt := 1304) hx hb (zdt zkL_law 1288 rfl) (by decide) ?_
    exact b_1304 _ ih18 _ _ _ _ _ _ hf hP hD hS (lv_sub hl [0, 1, 2, 3] rfl)
  have b_1291 : ∀ (k18 : Int → (Nat → Int) → (Nat → Nat → Int) → Option (Int)) (_ : ∀ (x3 : Int) (σ : Nat → Int) (τ : Nat → Nat → Int) (H : Heap) (locs : List Loc) (ls : Array Slot), k18 x3 σ τ = some 1 → va_P (dC, dI) vwCl (wd_LW_law cA qa σ τ) H → va_D A (wd_LW_law cA qa σ τ) → va_S A s.heap H locs → lv_has ls 4 [(0, .ref b), (1, .ref (qa 0)), (2, .ref (qa 13)), (3, .int (Int32.ofInt x3))] → W p l e room_1 s m #[Value.ref b] below meth c H locs 600000 7302250 (lw_Z below #[Value.ref b] s) (F0 m 18 ls [])), ∀ (x3 : Int) (σ : Nat → Int) (τ : Nat → Nat → Int) (H : Heap) (locs : List Loc) (ls : Array Slot), ga_LW_law_1291 L (fun j => (xs j).toInt) k18 x3 σ τ = some 1 → va_P (dC, dI) vwCl (wd_LW_law cA qa σ τ) H → va_D A (wd_LW_law cA qa σ τ) → va_S A s.heap H locs → lv_has ls 4 [(0, .ref b), (1, .ref (qa 0)), (2, .ref (qa 13)), (3, .int (Int32.ofInt x3))] → W p l e room_1 s m #[Value.ref b] below meth c H locs 600000 7302250 (lw_Z below #[Value.ref b] s) (F0 m 1291 ls []) := by
    intro k18 ih18 x3 σ τ H locs ls hf hP hD hS hl
    unfold ga_LW_law_1291 at hf
    refine lv_aload_n hx hb (zdt zkL_law 1291 rfl) rfl (lv_at hl 1 rfl) ?_
    refine xe_d1 hf (fun v1 hg hf => ?_)
    have hC : ([0] : List Nat).map (fun i => (wd_LW_law cA qa σ τ)[i]?) = (wd_HS_status cA (qa 0) (qa 1) (qa 2) (qa 3) (qa 4) (qa 5) (qa 6) (qa 7) (qa 8) (qa 9) (qa 10) (qa 11) (qa 12) (σ 0) (σ 1) (σ 2) (σ 3)).map some := rfl
    refine xv_afterI (ws' := (wd_LW_law cA qa σ τ)) (isC := [0]) (ps := [some 0, none, none, none, none, none, none, none, none, none, none, none, none, none, none, none, none, none, none, none, none, none, none, none, none, none, none, none, none, none, none, none, none, none, none, none, none, none, none, none, none, none, none, none, none, none, none, none, none, none, none, none, none, none, none, none, none, none, none, none, none, none, none, none, none, none, none, none, none, none, none, none, none, none, none, none, none, none, none, none, none, none, none, none, none, none, none, none, none, none, none, none, none, none, none, none, none, none, none, none, none, none, none, none, none, none, none, none, none, none, none, none, none, none]) (va_runV (As := []) (rest := []) ⟨hx, hb, hml, hown, hts⟩ (c_HS_status l ev dC dI cA (qa 0) (qa 1) (qa 2) (qa 3) (qa 4) (qa 5) (qa 6) (qa 7) (qa 8) (qa 9) (qa 10) (qa 11) (qa 12) ((σ 0)) ((σ 1)) ((σ 2)) hg H.size) (cwV 0 hts (zgVL zw_1146 zw_1147 zw_1148 zw_104 zw_1149) rfl rfl rfl hd_HS_status ⟨Nat.le_of_ble_eq_true rfl, Nat.le_of_ble_eq_true rfl⟩) (xv_preV (T := TX10) (N := 16) hE hA hS hK hP hD (isC := [0]) (by decide +kernel) hC (q0 := 0) (ci := 10) rfl rfl) rfl rfl hl.1 rfl (lv_room (Nat.le_of_ble_eq_true rfl)) (zdt zkL_law 1292 rfl) ⟨Nat.le_refl _, Nat.le_refl _⟩) hP hD hS hA (by decide +kernel) rfl hC rfl rfl (fun H locs hP hD hS => ?_)
    refine lv_pop hx hb (zdt zkL_law 1295 rfl) rfl ?_
    refine lv_aload_n hx hb (zdt zkL_law 1296 rfl) rfl (lv_at hl 2 rfl) ?_
    refine xe_d2 hf (fun v2 v3 hg hf => ?_)
    have hC : ([1] : List Nat).map (fun i => (wd_LW_law cA qa σ τ)[i]?) = (wd_HM_status cA (qa 13) (qa 14) (qa 15) (qa 16) (qa 17) (qa 18) (qa 19) (qa 20) (qa 21) (qa 22) (qa 23) (qa 24) (qa 25) (qa 26) (qa 27) (qa 28) (qa 29) (qa 30) (qa 31) (qa 32) (qa 33) (qa 34) (qa 35) (qa 36) (qa 37) (qa 38) (qa 39) (qa 40) (qa 41) (qa 42) (qa 43) (qa 44) (σ 6) (σ 7) (σ 8) (σ 9) (σ 10) (σ 11) (σ 12) (σ 13) (σ 14) (σ 15) (σ 16) (σ 17) (σ 18) (σ 19) (σ 20) (σ 21) (σ 22) (σ 23) (σ 24) (σ 25) (σ 5) (σ 4)).map some := rfl
    refine xv_afterI (ws' := (wd_LW_law cA qa (zst σ [(4, v3)]) τ)) (isC := [1]) (ps := [none, some 0, none, none, none, none, none, none, none, none, none, none, none, none, none, none, none, none, none, none, none, none, none, none, none, none, none, none, none, none, none, none, none, none, none, none, none, none, none, none, none, none, none, none, none, none, none, none, none, none, none, none, none, none, none, none, none, none, none, none, none, none, none, none, none, none, none, none, none, none, none, none, none, none, none, none, none, none, none, none, none, none, none, none, none, none, none, none, none, none, none, none, none, none, none, none, none, none, none, none, none, none, none, none, none, none, none, none, none, none, none, none, none, none]) (va_runV (As := []) (rest := []) ⟨hx, hb, hml, hown, hts⟩ (c_HM_status l ev dC dI cA (qa 13) (qa 14) (qa 15) (qa 16) (qa 17) (qa 18) (qa 19) (qa 20) (qa 21) (qa 22) (qa 23) (qa 24) (qa 25) (qa 26) (qa 27) (qa 28) (qa 29) (qa 30) (qa 31) (qa 32) (qa 33) (qa 34) (qa 35) (qa 36) (qa 37) (qa 38) (qa 39) (qa 40) (qa 41) (qa 42) (qa 43) (qa 44) ((σ 6)) ((σ 7)) ((σ 8)) ((σ 9)) ((σ 10)) ((σ 11)) ((σ 12)) ((σ 13)) ((σ 14)) ((σ 15)) ((σ 16)) ((σ 17)) ((σ 18)) ((σ 19)) ((σ 20)) ((σ 21)) ((σ 22)) ((σ 23)) ((σ 24)) ((σ 25)) hg H.size) (cwV 0 hts (zgVL zw_1784 zw_1785 zw_1786 zw_115 zw_1787) rfl rfl rfl hd_HM_status ⟨Nat.le_of_ble_eq_true rfl, Nat.le_of_ble_eq_true rfl⟩) (xv_preV (T := TX11) (N := 53) hE hA hS hK hP hD (isC := [1]) (by decide +kernel) hC (q0 := 1) (ci := 11) rfl rfl) rfl rfl hl.1 rfl (lv_room (Nat.le_of_ble_eq_true rfl)) (zdt zkL_law 1297 rfl) ⟨Nat.le_refl _, Nat.le_refl _⟩) hP hD hS hA (by decide +kernel) rfl hC rfl rfl (fun H locs hP hD hS => ?_)
    refine lv_pop hx hb (zdt zkL_law 1300 rfl) rfl ?_
    refine lv_goto (tgt := 1304) hx hb (zdt zkL_law 1301 rfl) (by decide) ?_
    exact b_1304 _ ih18 _ _ _ _ _ _ hf hP hD hS (lv_sub hl [0, 1, 2, 3] rfl)
  have b_18 : ∀ (k18 : Int → (Nat → Int) → (Nat → Nat → Int) → Option (Int)) (_ : ∀ (x3 : Int) (σ : Nat → Int) (τ : Nat → Nat → Int) (H : Heap) (locs : List Loc) (ls : Array Slot), k18 x3 σ τ = some 1 → va_P (dC, dI) vwCl (wd_LW_law cA qa σ τ) H → va_D A (wd_LW_law cA qa σ τ) → va_S A s.heap H locs → lv_has ls 4 [(0, .ref b), (1, .ref (qa 0)), (2, .ref (qa 13)), (3, .int (Int32.ofInt x3))] → W p l e room_1 s m #[Value.ref b] below meth c H locs 600000 7302250 (lw_Z below #[Value.ref b] s) (F0 m 18 ls [])), ∀ (x3 : Int) (σ : Nat → Int) (τ : Nat → Nat → Int) (H : Heap) (locs : List Loc) (ls : Array Slot), f_LW_law_18_b L (fun j => (xs j).toInt) k18 x3 σ τ = some 1 → va_P (dC, dI) vwCl (wd_LW_law cA qa σ τ) H → va_D A (wd_LW_law cA qa σ τ) → va_S A s.heap H locs → lv_has ls 4 [(0, .ref b), (1, .ref (qa 0)), (2, .ref (qa 13)), (3, .int (Int32.ofInt x3))] → W p l e room_1 s m #[Value.ref b] below meth c H locs 600000 7302250 (lw_Z below #[Value.ref b] s) (F0 m 18 ls []) := by
    intro k18 ih18 x3 σ τ H locs ls hf hP hD hS hl
    replace hf := (ef_LW_law_18_b _ _ _ _ _ _).symm.trans hf
    delta fa_LW_law_18_b at hf
    refine lv_iload_n hx hb (zdt zkL_law 18 rfl) rfl (lv_at hl 3 rfl) ?_
    refine lv_aload_n hx hb (zdt zkL_law 19 rfl) rfl (lv_at hl 0 rfl) ?_
    refine xi_llen hx hb hX hbl hbA hS (zdt zkL_law 20 rfl) hf (fun v1 hf => ?_)
    refine lv_bipush (v := Int32.ofInt 6) hx hb (zdt zkL_law 21 rfl) (by decide) ?_
    refine xi_isub hx hb (zdt zkL_law 23 rfl) hf (fun v2 hf => ?_)
    refine xi_icmp_gt (tgt := 1310) hx hb (zdt zkL_law 24 rfl) (by decide) hf (fun hf => ?_) (fun hf => ?_)
    · refine lv_iconst (v := Int32.ofInt 1) hx hb (zdt zkL_law 1310 rfl) rfl ?_
      refine va_forget (fun q hq => hA2 _ (hS.2.2 q hq)) ?_
      exact lw_ret hx hb hr hlocks (zdt zkL_law 1311 rfl)
    · refine lv_aload_n hx hb (zdt zkL_law 27 rfl) rfl (lv_at hl 0 rfl) ?_
      refine lv_iload_n hx hb (zdt zkL_law 28 rfl) rfl (lv_at hl 3 rfl) ?_
      refine xi_lld hx hb hX hbl hbA hS (zdt zkL_law 29 rfl) hf (fun v3 hf => ?_)
      refine lv_bipush (v := Int32.ofInt 63) hx hb (zdt zkL_law 30 rfl) (by decide) ?_
      refine xi_iand hx hb (zdt zkL_law 32 rfl) hf (fun v4 hf => ?_)
      refine xz_if hf (fun hc hf => ?_) (fun hn0 hf => ?_)
      · refine xi_tin (tgt := 200) hx hb (zdt zkL_law 33 rfl) hc (by decide) (by decide) rfl (by decide) ?_
        exact b_200 _ ih18 _ _ _ _ _ _ hf hP hD hS (lv_sub hl [0, 1, 2, 3] rfl)
      refine xz_if hf (fun hc hf => ?_) (fun hn1 hf => ?_)
      · refine xi_tin (tgt := 213) hx hb (zdt zkL_law 33 rfl) hc (by decide) (by decide) rfl (by decide) ?_
        exact b_213 _ ih18 _ _ _ _ _ _ hf hP hD hS (lv_sub hl [0, 1, 2, 3] rfl)
      refine xz_if hf (fun hc hf => ?_) (fun hn2 hf => ?_)
      · refine xi_tin (tgt := 246) hx hb (zdt zkL_law 33 rfl) hc (by decide) (by decide) rfl (by decide) ?_
        exact b_246 _ ih18 _ _ _ _ _ _ hf hP hD hS (lv_sub hl [0, 1, 2, 3] rfl)
      refine xz_if hf (fun hc hf => ?_) (fun hn3 hf => ?_)
      · refine xi_tin (tgt := 269) hx hb (zdt zkL_law 33 rfl) hc (by decide) (by decide) rfl (by decide) ?_
        exact b_269 _ ih18 _ _ _ _ _ _ hf hP hD hS (lv_sub hl [0, 1, 2, 3] rfl)
      refine xz_if hf (fun hc hf => ?_) (fun hn4 hf => ?_)
      · refine xi_tin (tgt := 302) hx hb (zdt zkL_law 33 rfl) hc (by decide) (by decide) rfl (by decide) ?_
        exact b_302 _ ih18 _ _ _ _ _ _ hf hP hD hS (lv_sub hl [0, 1, 2, 3] rfl)
      refine xz_if hf (fun hc hf => ?_) (fun hn5 hf => ?_)
      · refine xi_tin (tgt := 325) hx hb (zdt zkL_law 33 rfl) hc (by decide) (by decide) rfl (by decide) ?_
        exact b_325 _ ih18 _ _ _ _ _ _ hf hP hD hS (lv_sub hl [0, 1, 2, 3] rfl)
      refine xz_if hf (fun hc hf => ?_) (fun hn6 hf => ?_)
      · refine xi_tin (tgt := 348) hx hb (zdt zkL_law 33 rfl) hc (by decide) (by decide) rfl (by decide) ?_
        exact b_348 _ ih18 _ _ _ _ _ _ hf hP hD hS (lv_sub hl [0, 1, 2, 3] rfl)
      refine xz_if hf (fun hc hf => ?_) (fun hn7 hf => ?_)
      · refine xi_tin (tgt := 381) hx hb (zdt zkL_law 33 rfl) hc (by decide) (by decide) rfl (by decide) ?_
        exact b_381 _ ih18 _ _ _ _ _ _ hf hP hD hS (lv_sub hl [0, 1, 2, 3] rfl)
      refine xz_if hf (fun hc hf => ?_) (fun hn8 hf => ?_)
      · refine xi_tin (tgt := 414) hx hb (zdt zkL_law 33 rfl) hc (by decide) (by decide) rfl (by decide) ?_
        exact b_414 _ ih18 _ _ _ _ _ _ hf hP hD hS (lv_sub hl [0, 1, 2, 3] rfl)
      refine xz_if hf (fun hc hf => ?_) (fun hn9 hf => ?_)
      · refine xi_tin (tgt := 437) hx hb (zdt zkL_law 33 rfl) hc (by decide) (by decide) rfl (by decide) ?_
        exact b_437 _ ih18 _ _ _ _ _ _ hf hP hD hS (lv_sub hl [0, 1, 2, 3] rfl)
      refine xz_if hf (fun hc hf => ?_) (fun hn10 hf => ?_)
      · refine xi_tin (tgt := 470) hx hb (zdt zkL_law 33 rfl) hc (by decide) (by decide) rfl (by decide) ?_
        exact b_470 _ ih18 _ _ _ _ _ _ hf hP hD hS (lv_sub hl [0, 1, 2, 3] rfl)
      refine xz_if hf (fun hc hf => ?_) (fun hn11 hf => ?_)
      · refine xi_tin (tgt := 533) hx hb (zdt zkL_law 33 rfl) hc (by decide) (by decide) rfl (by decide) ?_
        exact b_533 _ ih18 _ _ _ _ _ _ hf hP hD hS (lv_sub hl [0, 1, 2, 3] rfl)
      refine xz_if hf (fun hc hf => ?_) (fun hn12 hf => ?_)
      · refine xi_tin (tgt := 556) hx hb (zdt zkL_law 33 rfl) hc (by decide) (by decide) rfl (by decide) ?_
        exact b_556 _ ih18 _ _ _ _ _ _ hf hP hD hS (lv_sub hl [0, 1, 2, 3] rfl)
      refine xz_if hf (fun hc hf => ?_) (fun hn13 hf => ?_)
      · refine xi_tin (tgt := 569) hx hb (zdt zkL_law 33 rfl) hc (by decide) (by decide) rfl (by decide) ?_
        exact b_569 _ ih18 _ _ _ _ _ _ hf hP hD hS (lv_sub hl [0, 1, 2, 3] rfl)
      refine xz_if hf (fun hc hf => ?_) (fun hn14 hf => ?_)
      · refine xi_tin (tgt := 582) hx hb (zdt zkL_law 33 rfl) hc (by decide) (by decide) rfl (by decide) ?_
        exact b_582 _ ih18 _ _ _ _ _ _ hf hP hD hS (lv_sub hl [0, 1, 2, 3] rfl)
      refine xz_if hf (fun hc hf => ?_) (fun hn15 hf => ?_)
      · refine xi_tin (tgt := 595) hx hb (zdt zkL_law 33 rfl) hc (by decide) (by decide) rfl (by decide) ?_
        exact b_595 _ ih18 _ _ _ _ _ _ hf hP hD hS (lv_sub hl [0, 1, 2, 3] rfl)
      refine xz_if hf (fun hc hf => ?_) (fun hn16 hf => ?_)
      · refine xi_tin (tgt := 608) hx hb (zdt zkL_law 33 rfl) hc (by decide) (by decide) rfl (by decide) ?_
        exact b_608 _ ih18 _ _ _ _ _ _ hf hP hD hS (lv_sub hl [0, 1, 2, 3] rfl)
      refine xz_if hf (fun hc hf => ?_) (fun hn17 hf => ?_)
      · refine xi_tin (tgt := 631) hx hb (zdt zkL_law 33 rfl) hc (by decide) (by decide) rfl (by decide) ?_
        exact b_631 _ ih18 _ _ _ _ _ _ hf hP hD hS (lv_sub hl [0, 1, 2, 3] rfl)
      refine xz_if hf (fun hc hf => ?_) (fun hn18 hf => ?_)
      · refine xi_tin (tgt := 674) hx hb (zdt zkL_law 33 rfl) hc (by decide) (by decide) rfl (by decide) ?_
        exact b_674 _ ih18 _ _ _ _ _ _ hf hP hD hS (lv_sub hl [0, 1, 2, 3] rfl)
      refine xz_if hf (fun hc hf => ?_) (fun hn19 hf => ?_)
      · refine xi_tin (tgt := 717) hx hb (zdt zkL_law 33 rfl) hc (by decide) (by decide) rfl (by decide) ?_
        exact b_717 _ ih18 _ _ _ _ _ _ hf hP hD hS (lv_sub hl [0, 1, 2, 3] rfl)
      refine xz_if hf (fun hc hf => ?_) (fun hn20 hf => ?_)
      · refine xi_tin (tgt := 760) hx hb (zdt zkL_law 33 rfl) hc (by decide) (by decide) rfl (by decide) ?_
        exact b_760 _ ih18 _ _ _ _ _ _ hf hP hD hS (lv_sub hl [0, 1, 2, 3] rfl)
      refine xz_if hf (fun hc hf => ?_) (fun hn21 hf => ?_)
      · refine xi_tin (tgt := 813) hx hb (zdt zkL_law 33 rfl) hc (by decide) (by decide) rfl (by decide) ?_
        exact b_813 _ ih18 _ _ _ _ _ _ hf hP hD hS (lv_sub hl [0, 1, 2, 3] rfl)
      refine xz_if hf (fun hc hf => ?_) (fun hn22 hf => ?_)
      · refine xi_tin (tgt := 826) hx hb (zdt zkL_law 33 rfl) hc (by decide) (by decide) rfl (by decide) ?_
        exact b_826 _ ih18 _ _ _ _ _ _ hf hP hD hS (lv_sub hl [0, 1, 2, 3] rfl)
      refine xz_if hf (fun hc hf => ?_) (fun hn23 hf => ?_)
      · refine xi_tin (tgt := 839) hx hb (zdt zkL_law 33 rfl) hc (by decide) (by decide) rfl (by decide) ?_
        exact b_839 _ ih18 _ _ _ _ _ _ hf hP hD hS (lv_sub hl [0, 1, 2, 3] rfl)
      refine xz_if hf (fun hc hf => ?_) (fun hn24 hf => ?_)
      · refine xi_tin (tgt := 862) hx hb (zdt zkL_law 33 rfl) hc (by decide) (by decide) rfl (by decide) ?_
        exact b_862 _ ih18 _ _ _ _ _ _ hf hP hD hS (lv_sub hl [0, 1, 2, 3] rfl)
      refine xz_if hf (fun hc hf => ?_) (fun hn25 hf => ?_)
      · refine xi_tin (tgt := 915) hx hb (zdt zkL_law 33 rfl) hc (by decide) (by decide) rfl (by decide) ?_
        exact b_915 _ ih18 _ _ _ _ _ _ hf hP hD hS (lv_sub hl [0, 1, 2, 3] rfl)
      refine xz_if hf (fun hc hf => ?_) (fun hn26 hf => ?_)
      · refine xi_tin (tgt := 948) hx hb (zdt zkL_law 33 rfl) hc (by decide) (by decide) rfl (by decide) ?_
        exact b_948 _ ih18 _ _ _ _ _ _ hf hP hD hS (lv_sub hl [0, 1, 2, 3] rfl)
      refine xz_if hf (fun hc hf => ?_) (fun hn27 hf => ?_)
      · refine xi_tin (tgt := 991) hx hb (zdt zkL_law 33 rfl) hc (by decide) (by decide) rfl (by decide) ?_
        exact b_991 _ ih18 _ _ _ _ _ _ hf hP hD hS (lv_sub hl [0, 1, 2, 3] rfl)
      refine xz_if hf (fun hc hf => ?_) (fun hn28 hf => ?_)
      · refine xi_tin (tgt := 1014) hx hb (zdt zkL_law 33 rfl) hc (by decide) (by decide) rfl (by decide) ?_
        exact b_1014 _ ih18 _ _ _ _ _ _ hf hP hD hS (lv_sub hl [0, 1, 2, 3] rfl)
      refine xz_if hf (fun hc hf => ?_) (fun hn29 hf => ?_)
      · refine xi_tin (tgt := 1047) hx hb (zdt zkL_law 33 rfl) hc (by decide) (by decide) rfl (by decide) ?_
        exact b_1047 _ ih18 _ _ _ _ _ _ hf hP hD hS (lv_sub hl [0, 1, 2, 3] rfl)
      refine xz_if hf (fun hc hf => ?_) (fun hn30 hf => ?_)
      · refine xi_tin (tgt := 1090) hx hb (zdt zkL_law 33 rfl) hc (by decide) (by decide) rfl (by decide) ?_
        exact b_1090 _ ih18 _ _ _ _ _ _ hf hP hD hS (lv_sub hl [0, 1, 2, 3] rfl)
      refine xz_if hf (fun hc hf => ?_) (fun hn31 hf => ?_)
      · refine xi_tin (tgt := 1133) hx hb (zdt zkL_law 33 rfl) hc (by decide) (by decide) rfl (by decide) ?_
        exact b_1133 _ ih18 _ _ _ _ _ _ hf hP hD hS (lv_sub hl [0, 1, 2, 3] rfl)
      refine xz_if hf (fun hc hf => ?_) (fun hn32 hf => ?_)
      · refine xi_tin (tgt := 1156) hx hb (zdt zkL_law 33 rfl) hc (by decide) (by decide) rfl (by decide) ?_
        exact b_1156 _ ih18 _ _ _ _ _ _ hf hP hD hS (lv_sub hl [0, 1, 2, 3] rfl)
      refine xz_if hf (fun hc hf => ?_) (fun hn33 hf => ?_)
      · refine xi_tin (tgt := 1189) hx hb (zdt zkL_law 33 rfl) hc (by decide) (by decide) rfl (by decide) ?_
        exact b_1189 _ ih18 _ _ _ _ _ _ hf hP hD hS (lv_sub hl [0, 1, 2, 3] rfl)
      refine xz_if hf (fun hc hf => ?_) (fun hn34 hf => ?_)
      · refine xi_tin (tgt := 1222) hx hb (zdt zkL_law 33 rfl) hc (by decide) (by decide) rfl (by decide) ?_
        exact b_1222 _ ih18 _ _ _ _ _ _ hf hP hD hS (lv_sub hl [0, 1, 2, 3] rfl)
      refine xz_if hf (fun hc hf => ?_) (fun hn35 hf => ?_)
      · refine xi_tin (tgt := 1245) hx hb (zdt zkL_law 33 rfl) hc (by decide) (by decide) rfl (by decide) ?_
        exact b_1245 _ ih18 _ _ _ _ _ _ hf hP hD hS (lv_sub hl [0, 1, 2, 3] rfl)
      refine xz_if hf (fun hc hf => ?_) (fun hn36 hf => ?_)
      · refine xi_tin (tgt := 1268) hx hb (zdt zkL_law 33 rfl) hc (by decide) (by decide) rfl (by decide) ?_
        exact b_1268 _ ih18 _ _ _ _ _ _ hf hP hD hS (lv_sub hl [0, 1, 2, 3] rfl)
      refine xz_if hf (fun hc hf => ?_) (fun hn37 hf => ?_)
      · refine xi_tin (tgt := 1291) hx hb (zdt zkL_law 33 rfl) hc (by decide) (by decide) rfl (by decide) ?_
        exact b_1291 _ ih18 _ _ _ _ _ _ hf hP hD hS (lv_sub hl [0, 1, 2, 3] rfl)
      refine xi_tout (tgt := 1304) hx hb (zdt zkL_law 33 rfl) (by omega) (by decide) ?_
      exact b_1304 _ ih18 _ _ _ _ _ _ hf hP hD hS (lv_sub hl [0, 1, 2, 3] rfl)
  intro n
  induction n with
  | zero => intro x3 σ τ H locs ls hf hP hD hS hl; exact nomatch hf
  | succ n ih => intro x3 σ τ H locs ls hf hP hD hS hl; exact b_18 (f_LW_law_18 L (fun j => (xs j).toInt) n) ih x3 σ τ H locs ls hf hP hD hS hl
end
