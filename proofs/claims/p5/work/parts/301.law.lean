theorem zw_526 : (Jvm.Cond.methodLink "HillSchoolLaw" (13 : Nat) ({ cls := "HillSchool", name := "column", desc := "()I" } : Jvm.MethodName)) ∈ zall := zmemG (zmj_2 183 rfl) rfl
theorem zw_527 : (Jvm.Cond.instanceMethod ({ cls := "HillSchool", name := "column", desc := "()I" } : Jvm.MethodName)) ∈ zall := zmemG (zmj_2 184 rfl) rfl
theorem zw_528 : (Jvm.Cond.selects "HillSchool" ({ cls := "HillSchool", name := "column", desc := "()I" } : Jvm.MethodName) ({ cls := "HillSchool", name := "column", desc := "()I" } : Jvm.MethodName)) ∈ zall := zmemG (zmj_2 185 rfl) rfl
theorem zw_542 : (Jvm.Cond.methodLink "HillSchoolLaw" (18 : Nat) ({ cls := "HillSchool", name := "stone", desc := "(II)I" } : Jvm.MethodName)) ∈ zall := zmemG (zmj_2 199 rfl) rfl
theorem zw_543 : (Jvm.Cond.instanceMethod ({ cls := "HillSchool", name := "stone", desc := "(II)I" } : Jvm.MethodName)) ∈ zall := zmemG (zmj_2 200 rfl) rfl
theorem zw_544 : (Jvm.Cond.selects "HillSchool" ({ cls := "HillSchool", name := "stone", desc := "(II)I" } : Jvm.MethodName) ({ cls := "HillSchool", name := "stone", desc := "(II)I" } : Jvm.MethodName)) ∈ zall := zmemG (zmj_2 201 rfl) rfl
theorem zw_559 : (Jvm.Cond.methodLink "HillSchoolLaw" (23 : Nat) ({ cls := "HillSchool", name := "lift", desc := "(I)I" } : Jvm.MethodName)) ∈ zall := zmemG (zmj_2 216 rfl) rfl
theorem zw_560 : (Jvm.Cond.instanceMethod ({ cls := "HillSchool", name := "lift", desc := "(I)I" } : Jvm.MethodName)) ∈ zall := zmemG (zmj_2 217 rfl) rfl
theorem zw_561 : (Jvm.Cond.selects "HillSchool" ({ cls := "HillSchool", name := "lift", desc := "(I)I" } : Jvm.MethodName) ({ cls := "HillSchool", name := "lift", desc := "(I)I" } : Jvm.MethodName)) ∈ zall := zmemG (zmj_2 218 rfl) rfl
theorem zw_572 : (Jvm.Cond.methodLink "HillSchoolLaw" (28 : Nat) ({ cls := "HillSchool", name := "of", desc := "(II)I" } : Jvm.MethodName)) ∈ zall := zmemG (zmj_2 229 rfl) rfl
theorem zw_573 : (Jvm.Cond.instanceMethod ({ cls := "HillSchool", name := "of", desc := "(II)I" } : Jvm.MethodName)) ∈ zall := zmemG (zmj_2 230 rfl) rfl
theorem zw_574 : (Jvm.Cond.selects "HillSchool" ({ cls := "HillSchool", name := "of", desc := "(II)I" } : Jvm.MethodName) ({ cls := "HillSchool", name := "of", desc := "(II)I" } : Jvm.MethodName)) ∈ zall := zmemG (zmj_2 231 rfl) rfl
theorem zw_580 : (Jvm.Cond.methodLink "HillSchoolLaw" (32 : Nat) ({ cls := "HillSchool", name := "weight", desc := "(I)I" } : Jvm.MethodName)) ∈ zall := zmemG (zmj_2 237 rfl) rfl
theorem zw_581 : (Jvm.Cond.instanceMethod ({ cls := "HillSchool", name := "weight", desc := "(I)I" } : Jvm.MethodName)) ∈ zall := zmemG (zmj_2 238 rfl) rfl
theorem zw_582 : (Jvm.Cond.selects "HillSchool" ({ cls := "HillSchool", name := "weight", desc := "(I)I" } : Jvm.MethodName) ({ cls := "HillSchool", name := "weight", desc := "(I)I" } : Jvm.MethodName)) ∈ zall := zmemG (zmj_2 239 rfl) rfl
theorem zw_589 : (Jvm.Cond.methodLink "HillSchoolLaw" (36 : Nat) ({ cls := "HillSchool", name := "child", desc := "(I)I" } : Jvm.MethodName)) ∈ zall := zmemG (zmj_3 6 rfl) rfl
theorem zw_590 : (Jvm.Cond.instanceMethod ({ cls := "HillSchool", name := "child", desc := "(I)I" } : Jvm.MethodName)) ∈ zall := zmemG (zmj_3 7 rfl) rfl
theorem zw_591 : (Jvm.Cond.selects "HillSchool" ({ cls := "HillSchool", name := "child", desc := "(I)I" } : Jvm.MethodName) ({ cls := "HillSchool", name := "child", desc := "(I)I" } : Jvm.MethodName)) ∈ zall := zmemG (zmj_3 8 rfl) rfl
theorem zw_597 : (Jvm.Cond.methodLink "HillSchoolLaw" (40 : Nat) ({ cls := "HillSchool", name := "expel", desc := "(II)I" } : Jvm.MethodName)) ∈ zall := zmemG (zmj_3 14 rfl) rfl
theorem zw_598 : (Jvm.Cond.instanceMethod ({ cls := "HillSchool", name := "expel", desc := "(II)I" } : Jvm.MethodName)) ∈ zall := zmemG (zmj_3 15 rfl) rfl
theorem zw_599 : (Jvm.Cond.selects "HillSchool" ({ cls := "HillSchool", name := "expel", desc := "(II)I" } : Jvm.MethodName) ({ cls := "HillSchool", name := "expel", desc := "(II)I" } : Jvm.MethodName)) ∈ zall := zmemG (zmj_3 16 rfl) rfl
theorem zw_605 : (Jvm.Cond.methodLink "HillSchoolLaw" (44 : Nat) ({ cls := "HillSchool", name := "fact", desc := "(II)I" } : Jvm.MethodName)) ∈ zall := zmemG (zmj_3 22 rfl) rfl
theorem zw_606 : (Jvm.Cond.instanceMethod ({ cls := "HillSchool", name := "fact", desc := "(II)I" } : Jvm.MethodName)) ∈ zall := zmemG (zmj_3 23 rfl) rfl
theorem zw_607 : (Jvm.Cond.selects "HillSchool" ({ cls := "HillSchool", name := "fact", desc := "(II)I" } : Jvm.MethodName) ({ cls := "HillSchool", name := "fact", desc := "(II)I" } : Jvm.MethodName)) ∈ zall := zmemG (zmj_3 24 rfl) rfl
theorem zw_609 : (Jvm.Cond.methodLink "HillSchoolLaw" (48 : Nat) ({ cls := "HillSchool", name := "parish", desc := "(I)I" } : Jvm.MethodName)) ∈ zall := zmemG (zmj_3 26 rfl) rfl
theorem zw_610 : (Jvm.Cond.instanceMethod ({ cls := "HillSchool", name := "parish", desc := "(I)I" } : Jvm.MethodName)) ∈ zall := zmemG (zmj_3 27 rfl) rfl
theorem zw_611 : (Jvm.Cond.selects "HillSchool" ({ cls := "HillSchool", name := "parish", desc := "(I)I" } : Jvm.MethodName) ({ cls := "HillSchool", name := "parish", desc := "(I)I" } : Jvm.MethodName)) ∈ zall := zmemG (zmj_3 28 rfl) rfl
theorem zw_613 : (Jvm.Cond.methodLink "HillSchoolLaw" (52 : Nat) ({ cls := "HillSchool", name := "terms", desc := "(II)I" } : Jvm.MethodName)) ∈ zall := zmemG (zmj_3 30 rfl) rfl
theorem zw_614 : (Jvm.Cond.instanceMethod ({ cls := "HillSchool", name := "terms", desc := "(II)I" } : Jvm.MethodName)) ∈ zall := zmemG (zmj_3 31 rfl) rfl
theorem zw_615 : (Jvm.Cond.selects "HillSchool" ({ cls := "HillSchool", name := "terms", desc := "(II)I" } : Jvm.MethodName) ({ cls := "HillSchool", name := "terms", desc := "(II)I" } : Jvm.MethodName)) ∈ zall := zmemG (zmj_3 32 rfl) rfl
theorem zw_622 : (Jvm.Cond.methodLink "HillSchoolLaw" (56 : Nat) ({ cls := "HillSchool", name := "feed", desc := "(IIIII)I" } : Jvm.MethodName)) ∈ zall := zmemG (zmj_3 39 rfl) rfl
theorem zw_623 : (Jvm.Cond.instanceMethod ({ cls := "HillSchool", name := "feed", desc := "(IIIII)I" } : Jvm.MethodName)) ∈ zall := zmemG (zmj_3 40 rfl) rfl
theorem zw_624 : (Jvm.Cond.selects "HillSchool" ({ cls := "HillSchool", name := "feed", desc := "(IIIII)I" } : Jvm.MethodName) ({ cls := "HillSchool", name := "feed", desc := "(IIIII)I" } : Jvm.MethodName)) ∈ zall := zmemG (zmj_3 41 rfl) rfl
theorem zw_630 : (Jvm.Cond.methodLink "HillSchoolLaw" (61 : Nat) ({ cls := "HillSchool", name := "end", desc := "(I)I" } : Jvm.MethodName)) ∈ zall := zmemG (zmj_3 47 rfl) rfl
theorem zw_631 : (Jvm.Cond.instanceMethod ({ cls := "HillSchool", name := "end", desc := "(I)I" } : Jvm.MethodName)) ∈ zall := zmemG (zmj_3 48 rfl) rfl
theorem zw_632 : (Jvm.Cond.selects "HillSchool" ({ cls := "HillSchool", name := "end", desc := "(I)I" } : Jvm.MethodName) ({ cls := "HillSchool", name := "end", desc := "(I)I" } : Jvm.MethodName)) ∈ zall := zmemG (zmj_3 49 rfl) rfl
theorem zw_634 : (Jvm.Cond.methodLink "HillSchoolLaw" (65 : Nat) ({ cls := "HillSchool", name := "row", desc := "()I" } : Jvm.MethodName)) ∈ zall := zmemG (zmj_3 51 rfl) rfl
theorem zw_635 : (Jvm.Cond.instanceMethod ({ cls := "HillSchool", name := "row", desc := "()I" } : Jvm.MethodName)) ∈ zall := zmemG (zmj_3 52 rfl) rfl
theorem zw_636 : (Jvm.Cond.selects "HillSchool" ({ cls := "HillSchool", name := "row", desc := "()I" } : Jvm.MethodName) ({ cls := "HillSchool", name := "row", desc := "()I" } : Jvm.MethodName)) ∈ zall := zmemG (zmj_3 53 rfl) rfl
theorem zw_638 : (Jvm.Cond.methodLink "HillSchoolLaw" (69 : Nat) ({ cls := "HillSchool", name := "gravel", desc := "()I" } : Jvm.MethodName)) ∈ zall := zmemG (zmj_3 55 rfl) rfl
theorem zw_639 : (Jvm.Cond.instanceMethod ({ cls := "HillSchool", name := "gravel", desc := "()I" } : Jvm.MethodName)) ∈ zall := zmemG (zmj_3 56 rfl) rfl
theorem zw_640 : (Jvm.Cond.selects "HillSchool" ({ cls := "HillSchool", name := "gravel", desc := "()I" } : Jvm.MethodName) ({ cls := "HillSchool", name := "gravel", desc := "()I" } : Jvm.MethodName)) ∈ zall := zmemG (zmj_3 57 rfl) rfl
theorem zw_642 : (Jvm.Cond.methodLink "HillSchoolLaw" (73 : Nat) ({ cls := "HillSchool", name := "law", desc := "()I" } : Jvm.MethodName)) ∈ zall := zmemG (zmj_3 59 rfl) rfl
theorem zw_643 : (Jvm.Cond.instanceMethod ({ cls := "HillSchool", name := "law", desc := "()I" } : Jvm.MethodName)) ∈ zall := zmemG (zmj_3 60 rfl) rfl
theorem zw_644 : (Jvm.Cond.selects "HillSchool" ({ cls := "HillSchool", name := "law", desc := "()I" } : Jvm.MethodName) ({ cls := "HillSchool", name := "law", desc := "()I" } : Jvm.MethodName)) ∈ zall := zmemG (zmj_3 61 rfl) rfl
theorem zw_787 : (Jvm.Cond.methodLink "HillSchoolLaw" (77 : Nat) ({ cls := "HillSchool", name := "fault", desc := "()I" } : Jvm.MethodName)) ∈ zall := zmemG (zmj_3 204 rfl) rfl
theorem zw_788 : (Jvm.Cond.instanceMethod ({ cls := "HillSchool", name := "fault", desc := "()I" } : Jvm.MethodName)) ∈ zall := zmemG (zmj_3 205 rfl) rfl
theorem zw_789 : (Jvm.Cond.selects "HillSchool" ({ cls := "HillSchool", name := "fault", desc := "()I" } : Jvm.MethodName) ({ cls := "HillSchool", name := "fault", desc := "()I" } : Jvm.MethodName)) ∈ zall := zmemG (zmj_3 206 rfl) rfl
theorem zw_791 : (Jvm.Cond.methodLink "HillSchoolLaw" (81 : Nat) ({ cls := "HillSchool", name := "force", desc := "(I)I" } : Jvm.MethodName)) ∈ zall := zmemG (zmj_3 208 rfl) rfl
theorem zw_792 : (Jvm.Cond.instanceMethod ({ cls := "HillSchool", name := "force", desc := "(I)I" } : Jvm.MethodName)) ∈ zall := zmemG (zmj_3 209 rfl) rfl
theorem zw_793 : (Jvm.Cond.selects "HillSchool" ({ cls := "HillSchool", name := "force", desc := "(I)I" } : Jvm.MethodName) ({ cls := "HillSchool", name := "force", desc := "(I)I" } : Jvm.MethodName)) ∈ zall := zmemG (zmj_3 210 rfl) rfl
theorem zw_795 : (Jvm.Cond.methodLink "HillSchoolLaw" (85 : Nat) ({ cls := "HillSchool", name := "can", desc := "(III)I" } : Jvm.MethodName)) ∈ zall := zmemG (zmj_3 212 rfl) rfl
theorem zw_796 : (Jvm.Cond.instanceMethod ({ cls := "HillSchool", name := "can", desc := "(III)I" } : Jvm.MethodName)) ∈ zall := zmemG (zmj_3 213 rfl) rfl
theorem zw_797 : (Jvm.Cond.selects "HillSchool" ({ cls := "HillSchool", name := "can", desc := "(III)I" } : Jvm.MethodName) ({ cls := "HillSchool", name := "can", desc := "(III)I" } : Jvm.MethodName)) ∈ zall := zmemG (zmj_3 214 rfl) rfl
theorem zw_841 : (Jvm.Cond.methodLink "HillSchoolLaw" (90 : Nat) ({ cls := "HillSchool", name := "tires", desc := "(III)I" } : Jvm.MethodName)) ∈ zall := zmemG (zmj_4 18 rfl) rfl
theorem zw_842 : (Jvm.Cond.instanceMethod ({ cls := "HillSchool", name := "tires", desc := "(III)I" } : Jvm.MethodName)) ∈ zall := zmemG (zmj_4 19 rfl) rfl
theorem zw_843 : (Jvm.Cond.selects "HillSchool" ({ cls := "HillSchool", name := "tires", desc := "(III)I" } : Jvm.MethodName) ({ cls := "HillSchool", name := "tires", desc := "(III)I" } : Jvm.MethodName)) ∈ zall := zmemG (zmj_4 20 rfl) rfl
theorem zw_845 : (Jvm.Cond.methodLink "HillSchoolLaw" (94 : Nat) ({ cls := "HillSchool", name := "carry", desc := "(III)I" } : Jvm.MethodName)) ∈ zall := zmemG (zmj_4 22 rfl) rfl
theorem zw_846 : (Jvm.Cond.instanceMethod ({ cls := "HillSchool", name := "carry", desc := "(III)I" } : Jvm.MethodName)) ∈ zall := zmemG (zmj_4 23 rfl) rfl
theorem zw_847 : (Jvm.Cond.selects "HillSchool" ({ cls := "HillSchool", name := "carry", desc := "(III)I" } : Jvm.MethodName) ({ cls := "HillSchool", name := "carry", desc := "(III)I" } : Jvm.MethodName)) ∈ zall := zmemG (zmj_4 24 rfl) rfl
theorem zw_855 : (Jvm.Cond.methodLink "HillSchoolLaw" (98 : Nat) ({ cls := "HillSchool", name := "exchange", desc := "(IIII)I" } : Jvm.MethodName)) ∈ zall := zmemG (zmj_4 32 rfl) rfl
theorem zw_856 : (Jvm.Cond.instanceMethod ({ cls := "HillSchool", name := "exchange", desc := "(IIII)I" } : Jvm.MethodName)) ∈ zall := zmemG (zmj_4 33 rfl) rfl
theorem zw_857 : (Jvm.Cond.selects "HillSchool" ({ cls := "HillSchool", name := "exchange", desc := "(IIII)I" } : Jvm.MethodName) ({ cls := "HillSchool", name := "exchange", desc := "(IIII)I" } : Jvm.MethodName)) ∈ zall := zmemG (zmj_4 34 rfl) rfl
theorem zw_860 : (Jvm.Cond.methodLink "HillSchoolLaw" (103 : Nat) ({ cls := "HillSchool", name := "steep", desc := "()I" } : Jvm.MethodName)) ∈ zall := zmemG (zmj_4 37 rfl) rfl
theorem zw_861 : (Jvm.Cond.instanceMethod ({ cls := "HillSchool", name := "steep", desc := "()I" } : Jvm.MethodName)) ∈ zall := zmemG (zmj_4 38 rfl) rfl
theorem zw_862 : (Jvm.Cond.selects "HillSchool" ({ cls := "HillSchool", name := "steep", desc := "()I" } : Jvm.MethodName) ({ cls := "HillSchool", name := "steep", desc := "()I" } : Jvm.MethodName)) ∈ zall := zmemG (zmj_4 39 rfl) rfl
theorem zw_872 : (Jvm.Cond.methodLink "HillSchoolLaw" (107 : Nat) ({ cls := "HillSchool", name := "slide", desc := "()I" } : Jvm.MethodName)) ∈ zall := zmemG (zmj_4 49 rfl) rfl
theorem zw_873 : (Jvm.Cond.instanceMethod ({ cls := "HillSchool", name := "slide", desc := "()I" } : Jvm.MethodName)) ∈ zall := zmemG (zmj_4 50 rfl) rfl
theorem zw_874 : (Jvm.Cond.selects "HillSchool" ({ cls := "HillSchool", name := "slide", desc := "()I" } : Jvm.MethodName) ({ cls := "HillSchool", name := "slide", desc := "()I" } : Jvm.MethodName)) ∈ zall := zmemG (zmj_4 51 rfl) rfl
theorem zw_882 : (Jvm.Cond.methodLink "HillSchoolLaw" (111 : Nat) ({ cls := "HillSchool", name := "shade", desc := "(I)I" } : Jvm.MethodName)) ∈ zall := zmemG (zmj_4 59 rfl) rfl
theorem zw_883 : (Jvm.Cond.instanceMethod ({ cls := "HillSchool", name := "shade", desc := "(I)I" } : Jvm.MethodName)) ∈ zall := zmemG (zmj_4 60 rfl) rfl
theorem zw_884 : (Jvm.Cond.selects "HillSchool" ({ cls := "HillSchool", name := "shade", desc := "(I)I" } : Jvm.MethodName) ({ cls := "HillSchool", name := "shade", desc := "(I)I" } : Jvm.MethodName)) ∈ zall := zmemG (zmj_4 61 rfl) rfl
theorem zw_906 : (Jvm.Cond.methodLink "HillSchoolLaw" (115 : Nat) ({ cls := "HillSchool", name := "gains", desc := "(IIII)I" } : Jvm.MethodName)) ∈ zall := zmemG (zmj_4 83 rfl) rfl
theorem zw_907 : (Jvm.Cond.instanceMethod ({ cls := "HillSchool", name := "gains", desc := "(IIII)I" } : Jvm.MethodName)) ∈ zall := zmemG (zmj_4 84 rfl) rfl
theorem zw_908 : (Jvm.Cond.selects "HillSchool" ({ cls := "HillSchool", name := "gains", desc := "(IIII)I" } : Jvm.MethodName) ({ cls := "HillSchool", name := "gains", desc := "(IIII)I" } : Jvm.MethodName)) ∈ zall := zmemG (zmj_4 85 rfl) rfl
theorem zw_910 : (Jvm.Cond.methodLink "HillSchoolLaw" (119 : Nat) ({ cls := "HillSchool", name := "goal", desc := "(II)I" } : Jvm.MethodName)) ∈ zall := zmemG (zmj_4 87 rfl) rfl
theorem zw_911 : (Jvm.Cond.instanceMethod ({ cls := "HillSchool", name := "goal", desc := "(II)I" } : Jvm.MethodName)) ∈ zall := zmemG (zmj_4 88 rfl) rfl
theorem zw_912 : (Jvm.Cond.selects "HillSchool" ({ cls := "HillSchool", name := "goal", desc := "(II)I" } : Jvm.MethodName) ({ cls := "HillSchool", name := "goal", desc := "(II)I" } : Jvm.MethodName)) ∈ zall := zmemG (zmj_4 89 rfl) rfl
theorem zw_914 : (Jvm.Cond.methodLink "HillSchoolLaw" (123 : Nat) ({ cls := "HillSchool", name := "plan", desc := "(III)I" } : Jvm.MethodName)) ∈ zall := zmemG (zmj_4 91 rfl) rfl
theorem zw_915 : (Jvm.Cond.instanceMethod ({ cls := "HillSchool", name := "plan", desc := "(III)I" } : Jvm.MethodName)) ∈ zall := zmemG (zmj_4 92 rfl) rfl
theorem zw_916 : (Jvm.Cond.selects "HillSchool" ({ cls := "HillSchool", name := "plan", desc := "(III)I" } : Jvm.MethodName) ({ cls := "HillSchool", name := "plan", desc := "(III)I" } : Jvm.MethodName)) ∈ zall := zmemG (zmj_4 93 rfl) rfl
theorem zw_1025 : (Jvm.Cond.methodLink "HillSchoolLaw" (127 : Nat) ({ cls := "HillSchool", name := "weighs", desc := "(I)I" } : Jvm.MethodName)) ∈ zall := zmemG (zmj_4 202 rfl) rfl
theorem zw_1026 : (Jvm.Cond.instanceMethod ({ cls := "HillSchool", name := "weighs", desc := "(I)I" } : Jvm.MethodName)) ∈ zall := zmemG (zmj_4 203 rfl) rfl
theorem zw_1027 : (Jvm.Cond.selects "HillSchool" ({ cls := "HillSchool", name := "weighs", desc := "(I)I" } : Jvm.MethodName) ({ cls := "HillSchool", name := "weighs", desc := "(I)I" } : Jvm.MethodName)) ∈ zall := zmemG (zmj_4 204 rfl) rfl
theorem zw_1042 : (Jvm.Cond.methodLink "HillSchoolLaw" (131 : Nat) ({ cls := "HillSchool", name := "trips", desc := "(II)I" } : Jvm.MethodName)) ∈ zall := zmemG (zmj_4 219 rfl) rfl
theorem zw_1043 : (Jvm.Cond.instanceMethod ({ cls := "HillSchool", name := "trips", desc := "(II)I" } : Jvm.MethodName)) ∈ zall := zmemG (zmj_4 220 rfl) rfl
theorem zw_1044 : (Jvm.Cond.selects "HillSchool" ({ cls := "HillSchool", name := "trips", desc := "(II)I" } : Jvm.MethodName) ({ cls := "HillSchool", name := "trips", desc := "(II)I" } : Jvm.MethodName)) ∈ zall := zmemG (zmj_4 221 rfl) rfl
theorem zw_1046 : (Jvm.Cond.methodLink "HillSchoolLaw" (135 : Nat) ({ cls := "HillSchool", name := "culprits", desc := "(III)I" } : Jvm.MethodName)) ∈ zall := zmemG (zmj_4 223 rfl) rfl
theorem zw_1047 : (Jvm.Cond.instanceMethod ({ cls := "HillSchool", name := "culprits", desc := "(III)I" } : Jvm.MethodName)) ∈ zall := zmemG (zmj_4 224 rfl) rfl
theorem zw_1048 : (Jvm.Cond.selects "HillSchool" ({ cls := "HillSchool", name := "culprits", desc := "(III)I" } : Jvm.MethodName) ({ cls := "HillSchool", name := "culprits", desc := "(III)I" } : Jvm.MethodName)) ∈ zall := zmemG (zmj_4 225 rfl) rfl
theorem zw_1071 : (Jvm.Cond.methodLink "HillSchoolLaw" (139 : Nat) ({ cls := "HillSchool", name := "duel", desc := "(III)I" } : Jvm.MethodName)) ∈ zall := zmemG (zmj_5 8 rfl) rfl
theorem zw_1072 : (Jvm.Cond.instanceMethod ({ cls := "HillSchool", name := "duel", desc := "(III)I" } : Jvm.MethodName)) ∈ zall := zmemG (zmj_5 9 rfl) rfl
theorem zw_1073 : (Jvm.Cond.selects "HillSchool" ({ cls := "HillSchool", name := "duel", desc := "(III)I" } : Jvm.MethodName) ({ cls := "HillSchool", name := "duel", desc := "(III)I" } : Jvm.MethodName)) ∈ zall := zmemG (zmj_5 10 rfl) rfl
theorem zw_1097 : (Jvm.Cond.methodLink "HillSchoolLaw" (143 : Nat) ({ cls := "HillSchool", name := "layers", desc := "(I)I" } : Jvm.MethodName)) ∈ zall := zmemG (zmj_5 34 rfl) rfl
theorem zw_1098 : (Jvm.Cond.instanceMethod ({ cls := "HillSchool", name := "layers", desc := "(I)I" } : Jvm.MethodName)) ∈ zall := zmemG (zmj_5 35 rfl) rfl
theorem zw_1099 : (Jvm.Cond.selects "HillSchool" ({ cls := "HillSchool", name := "layers", desc := "(I)I" } : Jvm.MethodName) ({ cls := "HillSchool", name := "layers", desc := "(I)I" } : Jvm.MethodName)) ∈ zall := zmemG (zmj_5 36 rfl) rfl
theorem zw_1105 : (Jvm.Cond.methodLink "HillSchoolLaw" (147 : Nat) ({ cls := "HillSchool", name := "rain", desc := "(II)I" } : Jvm.MethodName)) ∈ zall := zmemG (zmj_5 42 rfl) rfl
theorem zw_1106 : (Jvm.Cond.instanceMethod ({ cls := "HillSchool", name := "rain", desc := "(II)I" } : Jvm.MethodName)) ∈ zall := zmemG (zmj_5 43 rfl) rfl
theorem zw_1107 : (Jvm.Cond.selects "HillSchool" ({ cls := "HillSchool", name := "rain", desc := "(II)I" } : Jvm.MethodName) ({ cls := "HillSchool", name := "rain", desc := "(II)I" } : Jvm.MethodName)) ∈ zall := zmemG (zmj_5 44 rfl) rfl
theorem zw_1124 : (Jvm.Cond.methodLink "HillSchoolLaw" (151 : Nat) ({ cls := "HillSchool", name := "rained", desc := "(II)I" } : Jvm.MethodName)) ∈ zall := zmemG (zmj_5 61 rfl) rfl
theorem zw_1125 : (Jvm.Cond.instanceMethod ({ cls := "HillSchool", name := "rained", desc := "(II)I" } : Jvm.MethodName)) ∈ zall := zmemG (zmj_5 62 rfl) rfl
theorem zw_1126 : (Jvm.Cond.selects "HillSchool" ({ cls := "HillSchool", name := "rained", desc := "(II)I" } : Jvm.MethodName) ({ cls := "HillSchool", name := "rained", desc := "(II)I" } : Jvm.MethodName)) ∈ zall := zmemG (zmj_5 63 rfl) rfl
theorem zw_1128 : (Jvm.Cond.methodLink "HillSchoolLaw" (155 : Nat) ({ cls := "HillSchool", name := "image", desc := "(I)I" } : Jvm.MethodName)) ∈ zall := zmemG (zmj_5 65 rfl) rfl
theorem zw_1129 : (Jvm.Cond.instanceMethod ({ cls := "HillSchool", name := "image", desc := "(I)I" } : Jvm.MethodName)) ∈ zall := zmemG (zmj_5 66 rfl) rfl
theorem zw_1130 : (Jvm.Cond.selects "HillSchool" ({ cls := "HillSchool", name := "image", desc := "(I)I" } : Jvm.MethodName) ({ cls := "HillSchool", name := "image", desc := "(I)I" } : Jvm.MethodName)) ∈ zall := zmemG (zmj_5 67 rfl) rfl
theorem zw_1137 : (Jvm.Cond.methodLink "HillSchoolLaw" (159 : Nat) ({ cls := "HillSchool", name := "back", desc := "(I)I" } : Jvm.MethodName)) ∈ zall := zmemG (zmj_5 74 rfl) rfl
theorem zw_1138 : (Jvm.Cond.instanceMethod ({ cls := "HillSchool", name := "back", desc := "(I)I" } : Jvm.MethodName)) ∈ zall := zmemG (zmj_5 75 rfl) rfl
theorem zw_1139 : (Jvm.Cond.selects "HillSchool" ({ cls := "HillSchool", name := "back", desc := "(I)I" } : Jvm.MethodName) ({ cls := "HillSchool", name := "back", desc := "(I)I" } : Jvm.MethodName)) ∈ zall := zmemG (zmj_5 76 rfl) rfl
theorem zw_1141 : (Jvm.Cond.methodLink "HillSchoolLaw" (163 : Nat) ({ cls := "HillSchool", name := "count", desc := "(I)I" } : Jvm.MethodName)) ∈ zall := zmemG (zmj_5 78 rfl) rfl
theorem zw_1142 : (Jvm.Cond.instanceMethod ({ cls := "HillSchool", name := "count", desc := "(I)I" } : Jvm.MethodName)) ∈ zall := zmemG (zmj_5 79 rfl) rfl
theorem zw_1143 : (Jvm.Cond.selects "HillSchool" ({ cls := "HillSchool", name := "count", desc := "(I)I" } : Jvm.MethodName) ({ cls := "HillSchool", name := "count", desc := "(I)I" } : Jvm.MethodName)) ∈ zall := zmemG (zmj_5 80 rfl) rfl
theorem zw_1146 : (Jvm.Cond.methodLink "HillSchoolLaw" (167 : Nat) ({ cls := "HillSchool", name := "status", desc := "()I" } : Jvm.MethodName)) ∈ zall := zmemG (zmj_5 83 rfl) rfl
theorem zw_1147 : (Jvm.Cond.instanceMethod ({ cls := "HillSchool", name := "status", desc := "()I" } : Jvm.MethodName)) ∈ zall := zmemG (zmj_5 84 rfl) rfl
theorem zw_1148 : (Jvm.Cond.selects "HillSchool" ({ cls := "HillSchool", name := "status", desc := "()I" } : Jvm.MethodName) ({ cls := "HillSchool", name := "status", desc := "()I" } : Jvm.MethodName)) ∈ zall := zmemG (zmj_5 85 rfl) rfl
theorem zw_1325 : (Jvm.Cond.methodLink "HillSchoolLaw" (158 : Nat) ({ cls := "HillSchoolModel", name := "image", desc := "(I)I" } : Jvm.MethodName)) ∈ zall := zmemG (zmj_6 22 rfl) rfl
theorem zw_1326 : (Jvm.Cond.instanceMethod ({ cls := "HillSchoolModel", name := "image", desc := "(I)I" } : Jvm.MethodName)) ∈ zall := zmemG (zmj_6 23 rfl) rfl
theorem zw_1327 : (Jvm.Cond.selects "HillSchoolModel" ({ cls := "HillSchoolModel", name := "image", desc := "(I)I" } : Jvm.MethodName) ({ cls := "HillSchoolModel", name := "image", desc := "(I)I" } : Jvm.MethodName)) ∈ zall := zmemG (zmj_6 24 rfl) rfl
theorem zw_1336 : (Jvm.Cond.methodLink "HillSchoolLaw" (162 : Nat) ({ cls := "HillSchoolModel", name := "back", desc := "(I)I" } : Jvm.MethodName)) ∈ zall := zmemG (zmj_6 33 rfl) rfl
theorem zw_1337 : (Jvm.Cond.instanceMethod ({ cls := "HillSchoolModel", name := "back", desc := "(I)I" } : Jvm.MethodName)) ∈ zall := zmemG (zmj_6 34 rfl) rfl
theorem zw_1338 : (Jvm.Cond.selects "HillSchoolModel" ({ cls := "HillSchoolModel", name := "back", desc := "(I)I" } : Jvm.MethodName) ({ cls := "HillSchoolModel", name := "back", desc := "(I)I" } : Jvm.MethodName)) ∈ zall := zmemG (zmj_6 35 rfl) rfl
theorem zw_1340 : (Jvm.Cond.methodLink "HillSchoolLaw" (17 : Nat) ({ cls := "HillSchoolModel", name := "column", desc := "()I" } : Jvm.MethodName)) ∈ zall := zmemG (zmj_6 37 rfl) rfl
theorem zw_1341 : (Jvm.Cond.instanceMethod ({ cls := "HillSchoolModel", name := "column", desc := "()I" } : Jvm.MethodName)) ∈ zall := zmemG (zmj_6 38 rfl) rfl
theorem zw_1342 : (Jvm.Cond.selects "HillSchoolModel" ({ cls := "HillSchoolModel", name := "column", desc := "()I" } : Jvm.MethodName) ({ cls := "HillSchoolModel", name := "column", desc := "()I" } : Jvm.MethodName)) ∈ zall := zmemG (zmj_6 39 rfl) rfl
theorem zw_1348 : (Jvm.Cond.methodLink "HillSchoolLaw" (22 : Nat) ({ cls := "HillSchoolModel", name := "stone", desc := "(II)I" } : Jvm.MethodName)) ∈ zall := zmemG (zmj_6 45 rfl) rfl
theorem zw_1349 : (Jvm.Cond.instanceMethod ({ cls := "HillSchoolModel", name := "stone", desc := "(II)I" } : Jvm.MethodName)) ∈ zall := zmemG (zmj_6 46 rfl) rfl
theorem zw_1350 : (Jvm.Cond.selects "HillSchoolModel" ({ cls := "HillSchoolModel", name := "stone", desc := "(II)I" } : Jvm.MethodName) ({ cls := "HillSchoolModel", name := "stone", desc := "(II)I" } : Jvm.MethodName)) ∈ zall := zmemG (zmj_6 47 rfl) rfl
theorem zw_1360 : (Jvm.Cond.methodLink "HillSchoolLaw" (27 : Nat) ({ cls := "HillSchoolModel", name := "lift", desc := "(I)I" } : Jvm.MethodName)) ∈ zall := zmemG (zmj_6 57 rfl) rfl
theorem zw_1361 : (Jvm.Cond.instanceMethod ({ cls := "HillSchoolModel", name := "lift", desc := "(I)I" } : Jvm.MethodName)) ∈ zall := zmemG (zmj_6 58 rfl) rfl
theorem zw_1362 : (Jvm.Cond.selects "HillSchoolModel" ({ cls := "HillSchoolModel", name := "lift", desc := "(I)I" } : Jvm.MethodName) ({ cls := "HillSchoolModel", name := "lift", desc := "(I)I" } : Jvm.MethodName)) ∈ zall := zmemG (zmj_6 59 rfl) rfl
theorem zw_1364 : (Jvm.Cond.methodLink "HillSchoolLaw" (31 : Nat) ({ cls := "HillSchoolModel", name := "of", desc := "(II)I" } : Jvm.MethodName)) ∈ zall := zmemG (zmj_6 61 rfl) rfl
theorem zw_1365 : (Jvm.Cond.instanceMethod ({ cls := "HillSchoolModel", name := "of", desc := "(II)I" } : Jvm.MethodName)) ∈ zall := zmemG (zmj_6 62 rfl) rfl
theorem zw_1366 : (Jvm.Cond.selects "HillSchoolModel" ({ cls := "HillSchoolModel", name := "of", desc := "(II)I" } : Jvm.MethodName) ({ cls := "HillSchoolModel", name := "of", desc := "(II)I" } : Jvm.MethodName)) ∈ zall := zmemG (zmj_6 63 rfl) rfl
theorem zw_1368 : (Jvm.Cond.methodLink "HillSchoolLaw" (35 : Nat) ({ cls := "HillSchoolModel", name := "weight", desc := "(I)I" } : Jvm.MethodName)) ∈ zall := zmemG (zmj_6 65 rfl) rfl
theorem zw_1369 : (Jvm.Cond.instanceMethod ({ cls := "HillSchoolModel", name := "weight", desc := "(I)I" } : Jvm.MethodName)) ∈ zall := zmemG (zmj_6 66 rfl) rfl
theorem zw_1370 : (Jvm.Cond.selects "HillSchoolModel" ({ cls := "HillSchoolModel", name := "weight", desc := "(I)I" } : Jvm.MethodName) ({ cls := "HillSchoolModel", name := "weight", desc := "(I)I" } : Jvm.MethodName)) ∈ zall := zmemG (zmj_6 67 rfl) rfl
theorem zw_1372 : (Jvm.Cond.methodLink "HillSchoolLaw" (39 : Nat) ({ cls := "HillSchoolModel", name := "child", desc := "(I)I" } : Jvm.MethodName)) ∈ zall := zmemG (zmj_6 69 rfl) rfl
theorem zw_1373 : (Jvm.Cond.instanceMethod ({ cls := "HillSchoolModel", name := "child", desc := "(I)I" } : Jvm.MethodName)) ∈ zall := zmemG (zmj_6 70 rfl) rfl
theorem zw_1374 : (Jvm.Cond.selects "HillSchoolModel" ({ cls := "HillSchoolModel", name := "child", desc := "(I)I" } : Jvm.MethodName) ({ cls := "HillSchoolModel", name := "child", desc := "(I)I" } : Jvm.MethodName)) ∈ zall := zmemG (zmj_6 71 rfl) rfl
theorem zw_1377 : (Jvm.Cond.methodLink "HillSchoolLaw" (43 : Nat) ({ cls := "HillSchoolModel", name := "expel", desc := "(II)I" } : Jvm.MethodName)) ∈ zall := zmemG (zmj_6 74 rfl) rfl
theorem zw_1378 : (Jvm.Cond.instanceMethod ({ cls := "HillSchoolModel", name := "expel", desc := "(II)I" } : Jvm.MethodName)) ∈ zall := zmemG (zmj_6 75 rfl) rfl
theorem zw_1379 : (Jvm.Cond.selects "HillSchoolModel" ({ cls := "HillSchoolModel", name := "expel", desc := "(II)I" } : Jvm.MethodName) ({ cls := "HillSchoolModel", name := "expel", desc := "(II)I" } : Jvm.MethodName)) ∈ zall := zmemG (zmj_6 76 rfl) rfl
theorem zw_1389 : (Jvm.Cond.methodLink "HillSchoolLaw" (47 : Nat) ({ cls := "HillSchoolModel", name := "fact", desc := "(II)I" } : Jvm.MethodName)) ∈ zall := zmemG (zmj_6 86 rfl) rfl
theorem zw_1390 : (Jvm.Cond.instanceMethod ({ cls := "HillSchoolModel", name := "fact", desc := "(II)I" } : Jvm.MethodName)) ∈ zall := zmemG (zmj_6 87 rfl) rfl
theorem zw_1391 : (Jvm.Cond.selects "HillSchoolModel" ({ cls := "HillSchoolModel", name := "fact", desc := "(II)I" } : Jvm.MethodName) ({ cls := "HillSchoolModel", name := "fact", desc := "(II)I" } : Jvm.MethodName)) ∈ zall := zmemG (zmj_6 88 rfl) rfl
theorem zw_1394 : (Jvm.Cond.methodLink "HillSchoolLaw" (51 : Nat) ({ cls := "HillSchoolModel", name := "parish", desc := "(I)I" } : Jvm.MethodName)) ∈ zall := zmemG (zmj_6 91 rfl) rfl
theorem zw_1395 : (Jvm.Cond.instanceMethod ({ cls := "HillSchoolModel", name := "parish", desc := "(I)I" } : Jvm.MethodName)) ∈ zall := zmemG (zmj_6 92 rfl) rfl
theorem zw_1396 : (Jvm.Cond.selects "HillSchoolModel" ({ cls := "HillSchoolModel", name := "parish", desc := "(I)I" } : Jvm.MethodName) ({ cls := "HillSchoolModel", name := "parish", desc := "(I)I" } : Jvm.MethodName)) ∈ zall := zmemG (zmj_6 93 rfl) rfl
theorem zw_1398 : (Jvm.Cond.methodLink "HillSchoolLaw" (55 : Nat) ({ cls := "HillSchoolModel", name := "terms", desc := "(II)I" } : Jvm.MethodName)) ∈ zall := zmemG (zmj_6 95 rfl) rfl
theorem zw_1399 : (Jvm.Cond.instanceMethod ({ cls := "HillSchoolModel", name := "terms", desc := "(II)I" } : Jvm.MethodName)) ∈ zall := zmemG (zmj_6 96 rfl) rfl
theorem zw_1400 : (Jvm.Cond.selects "HillSchoolModel" ({ cls := "HillSchoolModel", name := "terms", desc := "(II)I" } : Jvm.MethodName) ({ cls := "HillSchoolModel", name := "terms", desc := "(II)I" } : Jvm.MethodName)) ∈ zall := zmemG (zmj_6 97 rfl) rfl
theorem zw_1407 : (Jvm.Cond.methodLink "HillSchoolLaw" (68 : Nat) ({ cls := "HillSchoolModel", name := "row", desc := "()I" } : Jvm.MethodName)) ∈ zall := zmemG (zmj_6 104 rfl) rfl
theorem zw_1408 : (Jvm.Cond.instanceMethod ({ cls := "HillSchoolModel", name := "row", desc := "()I" } : Jvm.MethodName)) ∈ zall := zmemG (zmj_6 105 rfl) rfl
theorem zw_1409 : (Jvm.Cond.selects "HillSchoolModel" ({ cls := "HillSchoolModel", name := "row", desc := "()I" } : Jvm.MethodName) ({ cls := "HillSchoolModel", name := "row", desc := "()I" } : Jvm.MethodName)) ∈ zall := zmemG (zmj_6 106 rfl) rfl
theorem zw_1411 : (Jvm.Cond.methodLink "HillSchoolLaw" (72 : Nat) ({ cls := "HillSchoolModel", name := "gravel", desc := "()I" } : Jvm.MethodName)) ∈ zall := zmemG (zmj_6 108 rfl) rfl
theorem zw_1412 : (Jvm.Cond.instanceMethod ({ cls := "HillSchoolModel", name := "gravel", desc := "()I" } : Jvm.MethodName)) ∈ zall := zmemG (zmj_6 109 rfl) rfl
theorem zw_1413 : (Jvm.Cond.selects "HillSchoolModel" ({ cls := "HillSchoolModel", name := "gravel", desc := "()I" } : Jvm.MethodName) ({ cls := "HillSchoolModel", name := "gravel", desc := "()I" } : Jvm.MethodName)) ∈ zall := zmemG (zmj_6 110 rfl) rfl
theorem zw_1415 : (Jvm.Cond.methodLink "HillSchoolLaw" (60 : Nat) ({ cls := "HillSchoolModel", name := "feed", desc := "(IIIII)I" } : Jvm.MethodName)) ∈ zall := zmemG (zmj_6 112 rfl) rfl
theorem zw_1416 : (Jvm.Cond.instanceMethod ({ cls := "HillSchoolModel", name := "feed", desc := "(IIIII)I" } : Jvm.MethodName)) ∈ zall := zmemG (zmj_6 113 rfl) rfl
theorem zw_1417 : (Jvm.Cond.selects "HillSchoolModel" ({ cls := "HillSchoolModel", name := "feed", desc := "(IIIII)I" } : Jvm.MethodName) ({ cls := "HillSchoolModel", name := "feed", desc := "(IIIII)I" } : Jvm.MethodName)) ∈ zall := zmemG (zmj_6 114 rfl) rfl
theorem zw_1423 : (Jvm.Cond.methodLink "HillSchoolLaw" (64 : Nat) ({ cls := "HillSchoolModel", name := "end", desc := "(I)I" } : Jvm.MethodName)) ∈ zall := zmemG (zmj_6 120 rfl) rfl
theorem zw_1424 : (Jvm.Cond.instanceMethod ({ cls := "HillSchoolModel", name := "end", desc := "(I)I" } : Jvm.MethodName)) ∈ zall := zmemG (zmj_6 121 rfl) rfl
theorem zw_1425 : (Jvm.Cond.selects "HillSchoolModel" ({ cls := "HillSchoolModel", name := "end", desc := "(I)I" } : Jvm.MethodName) ({ cls := "HillSchoolModel", name := "end", desc := "(I)I" } : Jvm.MethodName)) ∈ zall := zmemG (zmj_6 122 rfl) rfl
theorem zw_1427 : (Jvm.Cond.methodLink "HillSchoolLaw" (80 : Nat) ({ cls := "HillSchoolModel", name := "fault", desc := "()I" } : Jvm.MethodName)) ∈ zall := zmemG (zmj_6 124 rfl) rfl
theorem zw_1428 : (Jvm.Cond.instanceMethod ({ cls := "HillSchoolModel", name := "fault", desc := "()I" } : Jvm.MethodName)) ∈ zall := zmemG (zmj_6 125 rfl) rfl
theorem zw_1429 : (Jvm.Cond.selects "HillSchoolModel" ({ cls := "HillSchoolModel", name := "fault", desc := "()I" } : Jvm.MethodName) ({ cls := "HillSchoolModel", name := "fault", desc := "()I" } : Jvm.MethodName)) ∈ zall := zmemG (zmj_6 126 rfl) rfl
theorem zw_1431 : (Jvm.Cond.methodLink "HillSchoolLaw" (76 : Nat) ({ cls := "HillSchoolModel", name := "law", desc := "()I" } : Jvm.MethodName)) ∈ zall := zmemG (zmj_6 128 rfl) rfl
theorem zw_1432 : (Jvm.Cond.instanceMethod ({ cls := "HillSchoolModel", name := "law", desc := "()I" } : Jvm.MethodName)) ∈ zall := zmemG (zmj_6 129 rfl) rfl
theorem zw_1433 : (Jvm.Cond.selects "HillSchoolModel" ({ cls := "HillSchoolModel", name := "law", desc := "()I" } : Jvm.MethodName) ({ cls := "HillSchoolModel", name := "law", desc := "()I" } : Jvm.MethodName)) ∈ zall := zmemG (zmj_6 130 rfl) rfl
theorem zw_1537 : (Jvm.Cond.methodLink "HillSchoolLaw" (84 : Nat) ({ cls := "HillSchoolModel", name := "force", desc := "(I)I" } : Jvm.MethodName)) ∈ zall := zmemG (zmj_6 234 rfl) rfl
theorem zw_1538 : (Jvm.Cond.instanceMethod ({ cls := "HillSchoolModel", name := "force", desc := "(I)I" } : Jvm.MethodName)) ∈ zall := zmemG (zmj_6 235 rfl) rfl
theorem zw_1539 : (Jvm.Cond.selects "HillSchoolModel" ({ cls := "HillSchoolModel", name := "force", desc := "(I)I" } : Jvm.MethodName) ({ cls := "HillSchoolModel", name := "force", desc := "(I)I" } : Jvm.MethodName)) ∈ zall := zmemG (zmj_6 236 rfl) rfl
theorem zw_1541 : (Jvm.Cond.methodLink "HillSchoolLaw" (89 : Nat) ({ cls := "HillSchoolModel", name := "can", desc := "(III)I" } : Jvm.MethodName)) ∈ zall := zmemG (zmj_6 238 rfl) rfl
theorem zw_1542 : (Jvm.Cond.instanceMethod ({ cls := "HillSchoolModel", name := "can", desc := "(III)I" } : Jvm.MethodName)) ∈ zall := zmemG (zmj_6 239 rfl) rfl
theorem zw_1543 : (Jvm.Cond.selects "HillSchoolModel" ({ cls := "HillSchoolModel", name := "can", desc := "(III)I" } : Jvm.MethodName) ({ cls := "HillSchoolModel", name := "can", desc := "(III)I" } : Jvm.MethodName)) ∈ zall := zmemG (zmj_7 0 rfl) rfl
theorem zw_1582 : (Jvm.Cond.methodLink "HillSchoolLaw" (93 : Nat) ({ cls := "HillSchoolModel", name := "tires", desc := "(III)I" } : Jvm.MethodName)) ∈ zall := zmemG (zmj_7 39 rfl) rfl
theorem zw_1583 : (Jvm.Cond.instanceMethod ({ cls := "HillSchoolModel", name := "tires", desc := "(III)I" } : Jvm.MethodName)) ∈ zall := zmemG (zmj_7 40 rfl) rfl
theorem zw_1584 : (Jvm.Cond.selects "HillSchoolModel" ({ cls := "HillSchoolModel", name := "tires", desc := "(III)I" } : Jvm.MethodName) ({ cls := "HillSchoolModel", name := "tires", desc := "(III)I" } : Jvm.MethodName)) ∈ zall := zmemG (zmj_7 41 rfl) rfl
theorem zw_1586 : (Jvm.Cond.methodLink "HillSchoolLaw" (97 : Nat) ({ cls := "HillSchoolModel", name := "carry", desc := "(III)I" } : Jvm.MethodName)) ∈ zall := zmemG (zmj_7 43 rfl) rfl
theorem zw_1587 : (Jvm.Cond.instanceMethod ({ cls := "HillSchoolModel", name := "carry", desc := "(III)I" } : Jvm.MethodName)) ∈ zall := zmemG (zmj_7 44 rfl) rfl
theorem zw_1588 : (Jvm.Cond.selects "HillSchoolModel" ({ cls := "HillSchoolModel", name := "carry", desc := "(III)I" } : Jvm.MethodName) ({ cls := "HillSchoolModel", name := "carry", desc := "(III)I" } : Jvm.MethodName)) ∈ zall := zmemG (zmj_7 45 rfl) rfl
theorem zw_1598 : (Jvm.Cond.methodLink "HillSchoolLaw" (102 : Nat) ({ cls := "HillSchoolModel", name := "exchange", desc := "(IIII)I" } : Jvm.MethodName)) ∈ zall := zmemG (zmj_7 55 rfl) rfl
theorem zw_1599 : (Jvm.Cond.instanceMethod ({ cls := "HillSchoolModel", name := "exchange", desc := "(IIII)I" } : Jvm.MethodName)) ∈ zall := zmemG (zmj_7 56 rfl) rfl
theorem zw_1600 : (Jvm.Cond.selects "HillSchoolModel" ({ cls := "HillSchoolModel", name := "exchange", desc := "(IIII)I" } : Jvm.MethodName) ({ cls := "HillSchoolModel", name := "exchange", desc := "(IIII)I" } : Jvm.MethodName)) ∈ zall := zmemG (zmj_7 57 rfl) rfl
theorem zw_1602 : (Jvm.Cond.methodLink "HillSchoolLaw" (106 : Nat) ({ cls := "HillSchoolModel", name := "steep", desc := "()I" } : Jvm.MethodName)) ∈ zall := zmemG (zmj_7 59 rfl) rfl
theorem zw_1603 : (Jvm.Cond.instanceMethod ({ cls := "HillSchoolModel", name := "steep", desc := "()I" } : Jvm.MethodName)) ∈ zall := zmemG (zmj_7 60 rfl) rfl
theorem zw_1604 : (Jvm.Cond.selects "HillSchoolModel" ({ cls := "HillSchoolModel", name := "steep", desc := "()I" } : Jvm.MethodName) ({ cls := "HillSchoolModel", name := "steep", desc := "()I" } : Jvm.MethodName)) ∈ zall := zmemG (zmj_7 61 rfl) rfl
theorem zw_1614 : (Jvm.Cond.methodLink "HillSchoolLaw" (110 : Nat) ({ cls := "HillSchoolModel", name := "slide", desc := "()I" } : Jvm.MethodName)) ∈ zall := zmemG (zmj_7 71 rfl) rfl
theorem zw_1615 : (Jvm.Cond.instanceMethod ({ cls := "HillSchoolModel", name := "slide", desc := "()I" } : Jvm.MethodName)) ∈ zall := zmemG (zmj_7 72 rfl) rfl
theorem zw_1616 : (Jvm.Cond.selects "HillSchoolModel" ({ cls := "HillSchoolModel", name := "slide", desc := "()I" } : Jvm.MethodName) ({ cls := "HillSchoolModel", name := "slide", desc := "()I" } : Jvm.MethodName)) ∈ zall := zmemG (zmj_7 73 rfl) rfl
theorem zw_1622 : (Jvm.Cond.methodLink "HillSchoolLaw" (114 : Nat) ({ cls := "HillSchoolModel", name := "shade", desc := "(I)I" } : Jvm.MethodName)) ∈ zall := zmemG (zmj_7 79 rfl) rfl
theorem zw_1623 : (Jvm.Cond.instanceMethod ({ cls := "HillSchoolModel", name := "shade", desc := "(I)I" } : Jvm.MethodName)) ∈ zall := zmemG (zmj_7 80 rfl) rfl
theorem zw_1624 : (Jvm.Cond.selects "HillSchoolModel" ({ cls := "HillSchoolModel", name := "shade", desc := "(I)I" } : Jvm.MethodName) ({ cls := "HillSchoolModel", name := "shade", desc := "(I)I" } : Jvm.MethodName)) ∈ zall := zmemG (zmj_7 81 rfl) rfl
theorem zw_1638 : (Jvm.Cond.methodLink "HillSchoolLaw" (118 : Nat) ({ cls := "HillSchoolModel", name := "gains", desc := "(IIII)I" } : Jvm.MethodName)) ∈ zall := zmemG (zmj_7 95 rfl) rfl
theorem zw_1639 : (Jvm.Cond.instanceMethod ({ cls := "HillSchoolModel", name := "gains", desc := "(IIII)I" } : Jvm.MethodName)) ∈ zall := zmemG (zmj_7 96 rfl) rfl
theorem zw_1640 : (Jvm.Cond.selects "HillSchoolModel" ({ cls := "HillSchoolModel", name := "gains", desc := "(IIII)I" } : Jvm.MethodName) ({ cls := "HillSchoolModel", name := "gains", desc := "(IIII)I" } : Jvm.MethodName)) ∈ zall := zmemG (zmj_7 97 rfl) rfl
theorem zw_1642 : (Jvm.Cond.methodLink "HillSchoolLaw" (122 : Nat) ({ cls := "HillSchoolModel", name := "goal", desc := "(II)I" } : Jvm.MethodName)) ∈ zall := zmemG (zmj_7 99 rfl) rfl
theorem zw_1643 : (Jvm.Cond.instanceMethod ({ cls := "HillSchoolModel", name := "goal", desc := "(II)I" } : Jvm.MethodName)) ∈ zall := zmemG (zmj_7 100 rfl) rfl
theorem zw_1644 : (Jvm.Cond.selects "HillSchoolModel" ({ cls := "HillSchoolModel", name := "goal", desc := "(II)I" } : Jvm.MethodName) ({ cls := "HillSchoolModel", name := "goal", desc := "(II)I" } : Jvm.MethodName)) ∈ zall := zmemG (zmj_7 101 rfl) rfl
theorem zw_1646 : (Jvm.Cond.methodLink "HillSchoolLaw" (126 : Nat) ({ cls := "HillSchoolModel", name := "plan", desc := "(III)I" } : Jvm.MethodName)) ∈ zall := zmemG (zmj_7 103 rfl) rfl
theorem zw_1647 : (Jvm.Cond.instanceMethod ({ cls := "HillSchoolModel", name := "plan", desc := "(III)I" } : Jvm.MethodName)) ∈ zall := zmemG (zmj_7 104 rfl) rfl
theorem zw_1648 : (Jvm.Cond.selects "HillSchoolModel" ({ cls := "HillSchoolModel", name := "plan", desc := "(III)I" } : Jvm.MethodName) ({ cls := "HillSchoolModel", name := "plan", desc := "(III)I" } : Jvm.MethodName)) ∈ zall := zmemG (zmj_7 105 rfl) rfl
theorem zw_1720 : (Jvm.Cond.methodLink "HillSchoolLaw" (130 : Nat) ({ cls := "HillSchoolModel", name := "weighs", desc := "(I)I" } : Jvm.MethodName)) ∈ zall := zmemG (zmj_7 177 rfl) rfl
theorem zw_1721 : (Jvm.Cond.instanceMethod ({ cls := "HillSchoolModel", name := "weighs", desc := "(I)I" } : Jvm.MethodName)) ∈ zall := zmemG (zmj_7 178 rfl) rfl
theorem zw_1722 : (Jvm.Cond.selects "HillSchoolModel" ({ cls := "HillSchoolModel", name := "weighs", desc := "(I)I" } : Jvm.MethodName) ({ cls := "HillSchoolModel", name := "weighs", desc := "(I)I" } : Jvm.MethodName)) ∈ zall := zmemG (zmj_7 179 rfl) rfl
theorem zw_1725 : (Jvm.Cond.methodLink "HillSchoolLaw" (134 : Nat) ({ cls := "HillSchoolModel", name := "trips", desc := "(II)I" } : Jvm.MethodName)) ∈ zall := zmemG (zmj_7 182 rfl) rfl
theorem zw_1726 : (Jvm.Cond.instanceMethod ({ cls := "HillSchoolModel", name := "trips", desc := "(II)I" } : Jvm.MethodName)) ∈ zall := zmemG (zmj_7 183 rfl) rfl
theorem zw_1727 : (Jvm.Cond.selects "HillSchoolModel" ({ cls := "HillSchoolModel", name := "trips", desc := "(II)I" } : Jvm.MethodName) ({ cls := "HillSchoolModel", name := "trips", desc := "(II)I" } : Jvm.MethodName)) ∈ zall := zmemG (zmj_7 184 rfl) rfl
theorem zw_1729 : (Jvm.Cond.methodLink "HillSchoolLaw" (138 : Nat) ({ cls := "HillSchoolModel", name := "culprits", desc := "(III)I" } : Jvm.MethodName)) ∈ zall := zmemG (zmj_7 186 rfl) rfl
theorem zw_1730 : (Jvm.Cond.instanceMethod ({ cls := "HillSchoolModel", name := "culprits", desc := "(III)I" } : Jvm.MethodName)) ∈ zall := zmemG (zmj_7 187 rfl) rfl
theorem zw_1731 : (Jvm.Cond.selects "HillSchoolModel" ({ cls := "HillSchoolModel", name := "culprits", desc := "(III)I" } : Jvm.MethodName) ({ cls := "HillSchoolModel", name := "culprits", desc := "(III)I" } : Jvm.MethodName)) ∈ zall := zmemG (zmj_7 188 rfl) rfl
theorem zw_1742 : (Jvm.Cond.methodLink "HillSchoolLaw" (142 : Nat) ({ cls := "HillSchoolModel", name := "duel", desc := "(III)I" } : Jvm.MethodName)) ∈ zall := zmemG (zmj_7 199 rfl) rfl
theorem zw_1743 : (Jvm.Cond.instanceMethod ({ cls := "HillSchoolModel", name := "duel", desc := "(III)I" } : Jvm.MethodName)) ∈ zall := zmemG (zmj_7 200 rfl) rfl
theorem zw_1744 : (Jvm.Cond.selects "HillSchoolModel" ({ cls := "HillSchoolModel", name := "duel", desc := "(III)I" } : Jvm.MethodName) ({ cls := "HillSchoolModel", name := "duel", desc := "(III)I" } : Jvm.MethodName)) ∈ zall := zmemG (zmj_7 201 rfl) rfl
theorem zw_1762 : (Jvm.Cond.methodLink "HillSchoolLaw" (146 : Nat) ({ cls := "HillSchoolModel", name := "layers", desc := "(I)I" } : Jvm.MethodName)) ∈ zall := zmemG (zmj_7 219 rfl) rfl
theorem zw_1763 : (Jvm.Cond.instanceMethod ({ cls := "HillSchoolModel", name := "layers", desc := "(I)I" } : Jvm.MethodName)) ∈ zall := zmemG (zmj_7 220 rfl) rfl
theorem zw_1764 : (Jvm.Cond.selects "HillSchoolModel" ({ cls := "HillSchoolModel", name := "layers", desc := "(I)I" } : Jvm.MethodName) ({ cls := "HillSchoolModel", name := "layers", desc := "(I)I" } : Jvm.MethodName)) ∈ zall := zmemG (zmj_7 221 rfl) rfl
theorem zw_1766 : (Jvm.Cond.methodLink "HillSchoolLaw" (150 : Nat) ({ cls := "HillSchoolModel", name := "rain", desc := "(II)I" } : Jvm.MethodName)) ∈ zall := zmemG (zmj_7 223 rfl) rfl
theorem zw_1767 : (Jvm.Cond.instanceMethod ({ cls := "HillSchoolModel", name := "rain", desc := "(II)I" } : Jvm.MethodName)) ∈ zall := zmemG (zmj_7 224 rfl) rfl
theorem zw_1768 : (Jvm.Cond.selects "HillSchoolModel" ({ cls := "HillSchoolModel", name := "rain", desc := "(II)I" } : Jvm.MethodName) ({ cls := "HillSchoolModel", name := "rain", desc := "(II)I" } : Jvm.MethodName)) ∈ zall := zmemG (zmj_7 225 rfl) rfl
theorem zw_1774 : (Jvm.Cond.methodLink "HillSchoolLaw" (154 : Nat) ({ cls := "HillSchoolModel", name := "rained", desc := "(II)I" } : Jvm.MethodName)) ∈ zall := zmemG (zmj_7 231 rfl) rfl
theorem zw_1775 : (Jvm.Cond.instanceMethod ({ cls := "HillSchoolModel", name := "rained", desc := "(II)I" } : Jvm.MethodName)) ∈ zall := zmemG (zmj_7 232 rfl) rfl
theorem zw_1776 : (Jvm.Cond.selects "HillSchoolModel" ({ cls := "HillSchoolModel", name := "rained", desc := "(II)I" } : Jvm.MethodName) ({ cls := "HillSchoolModel", name := "rained", desc := "(II)I" } : Jvm.MethodName)) ∈ zall := zmemG (zmj_7 233 rfl) rfl
theorem zw_1778 : (Jvm.Cond.methodLink "HillSchoolLaw" (166 : Nat) ({ cls := "HillSchoolModel", name := "count", desc := "(I)I" } : Jvm.MethodName)) ∈ zall := zmemG (zmj_7 235 rfl) rfl
theorem zw_1779 : (Jvm.Cond.instanceMethod ({ cls := "HillSchoolModel", name := "count", desc := "(I)I" } : Jvm.MethodName)) ∈ zall := zmemG (zmj_7 236 rfl) rfl
theorem zw_1780 : (Jvm.Cond.selects "HillSchoolModel" ({ cls := "HillSchoolModel", name := "count", desc := "(I)I" } : Jvm.MethodName) ({ cls := "HillSchoolModel", name := "count", desc := "(I)I" } : Jvm.MethodName)) ∈ zall := zmemG (zmj_7 237 rfl) rfl
theorem zw_1784 : (Jvm.Cond.methodLink "HillSchoolLaw" (170 : Nat) ({ cls := "HillSchoolModel", name := "status", desc := "()I" } : Jvm.MethodName)) ∈ zall := zmemG (zmj_8 1 rfl) rfl
theorem zw_1785 : (Jvm.Cond.instanceMethod ({ cls := "HillSchoolModel", name := "status", desc := "()I" } : Jvm.MethodName)) ∈ zall := zmemG (zmj_8 2 rfl) rfl
theorem zw_1786 : (Jvm.Cond.selects "HillSchoolModel" ({ cls := "HillSchoolModel", name := "status", desc := "()I" } : Jvm.MethodName) ({ cls := "HillSchoolModel", name := "status", desc := "()I" } : Jvm.MethodName)) ∈ zall := zmemG (zmj_8 3 rfl) rfl
theorem dL_law_0 : decode cL_law 0 = .ok (.new 7, 3) := by decide +kernel
theorem dL_law_3 : decode cL_law 3 = .ok (.dup, 1) := by decide +kernel
theorem dL_law_4 : decode cL_law 4 = .ok (.invokespecial 9, 3) := by decide +kernel
theorem dL_law_7 : decode cL_law 7 = .ok (.astore_n 1, 1) := by decide +kernel
theorem dL_law_8 : decode cL_law 8 = .ok (.new 10, 3) := by decide +kernel
theorem dL_law_11 : decode cL_law 11 = .ok (.dup, 1) := by decide +kernel
theorem dL_law_12 : decode cL_law 12 = .ok (.invokespecial 12, 3) := by decide +kernel
theorem dL_law_15 : decode cL_law 15 = .ok (.astore_n 2, 1) := by decide +kernel
theorem dL_law_16 : decode cL_law 16 = .ok (.iconst 0, 1) := by decide +kernel
theorem dL_law_17 : decode cL_law 17 = .ok (.istore_n 3, 1) := by decide +kernel
theorem dL_law_18 : decode cL_law 18 = .ok (.iload_n 3, 1) := by decide +kernel
theorem dL_law_19 : decode cL_law 19 = .ok (.aload_n 0, 1) := by decide +kernel
theorem dL_law_20 : decode cL_law 20 = .ok (.arraylength, 1) := by decide +kernel
theorem dL_law_21 : decode cL_law 21 = .ok (.bipush 6, 2) := by decide +kernel
theorem dL_law_23 : decode cL_law 23 = .ok (.isub, 1) := by decide +kernel
theorem dL_law_24 : decode cL_law 24 = .ok (.if_icmp .gt 1286, 3) := by decide +kernel
theorem dL_law_27 : decode cL_law 27 = .ok (.aload_n 0, 1) := by decide +kernel
theorem dL_law_28 : decode cL_law 28 = .ok (.iload_n 3, 1) := by decide +kernel
theorem dL_law_29 : decode cL_law 29 = .ok (.iaload, 1) := by decide +kernel
theorem dL_law_30 : decode cL_law 30 = .ok (.bipush 63, 2) := by decide +kernel
theorem dL_law_32 : decode cL_law 32 = .ok (.iand, 1) := by decide +kernel
theorem dL_law_33 : decode cL_law 33 = .ok (.tableswitch 1271 0 37 #[167, 180, 213, 236, 269, 292, 315, 348, 381, 404, 437, 500, 523, 536, 549, 562, 575, 598, 641, 684, 727, 780, 793, 806, 829, 882, 915, 958, 981, 1014, 1057, 1100, 1123, 1156, 1189, 1212, 1235, 1258], 167) := by decide +kernel
theorem dL_law_200 : decode cL_law 200 = .ok (.aload_n 1, 1) := by decide +kernel
theorem dL_law_201 : decode cL_law 201 = .ok (.invokevirtual 13, 3) := by decide +kernel
theorem dL_law_204 : decode cL_law 204 = .ok (.pop, 1) := by decide +kernel
theorem dL_law_205 : decode cL_law 205 = .ok (.aload_n 2, 1) := by decide +kernel
theorem dL_law_206 : decode cL_law 206 = .ok (.invokevirtual 17, 3) := by decide +kernel
theorem dL_law_209 : decode cL_law 209 = .ok (.pop, 1) := by decide +kernel
theorem dL_law_210 : decode cL_law 210 = .ok (.goto 1094, 3) := by decide +kernel
theorem dL_law_213 : decode cL_law 213 = .ok (.aload_n 1, 1) := by decide +kernel
theorem dL_law_214 : decode cL_law 214 = .ok (.aload_n 0, 1) := by decide +kernel
theorem dL_law_215 : decode cL_law 215 = .ok (.iload_n 3, 1) := by decide +kernel
theorem dL_law_216 : decode cL_law 216 = .ok (.iconst 1, 1) := by decide +kernel
theorem dL_law_217 : decode cL_law 217 = .ok (.iadd, 1) := by decide +kernel
theorem dL_law_218 : decode cL_law 218 = .ok (.iaload, 1) := by decide +kernel
theorem dL_law_219 : decode cL_law 219 = .ok (.aload_n 0, 1) := by decide +kernel
theorem dL_law_220 : decode cL_law 220 = .ok (.iload_n 3, 1) := by decide +kernel
theorem dL_law_221 : decode cL_law 221 = .ok (.iconst 2, 1) := by decide +kernel
theorem dL_law_222 : decode cL_law 222 = .ok (.iadd, 1) := by decide +kernel
theorem dL_law_223 : decode cL_law 223 = .ok (.iaload, 1) := by decide +kernel
theorem dL_law_224 : decode cL_law 224 = .ok (.invokevirtual 18, 3) := by decide +kernel
theorem dL_law_227 : decode cL_law 227 = .ok (.pop, 1) := by decide +kernel
theorem dL_law_228 : decode cL_law 228 = .ok (.aload_n 2, 1) := by decide +kernel
theorem dL_law_229 : decode cL_law 229 = .ok (.aload_n 0, 1) := by decide +kernel
theorem dL_law_230 : decode cL_law 230 = .ok (.iload_n 3, 1) := by decide +kernel
theorem dL_law_231 : decode cL_law 231 = .ok (.iconst 1, 1) := by decide +kernel
theorem dL_law_232 : decode cL_law 232 = .ok (.iadd, 1) := by decide +kernel
theorem dL_law_233 : decode cL_law 233 = .ok (.iaload, 1) := by decide +kernel
theorem dL_law_234 : decode cL_law 234 = .ok (.aload_n 0, 1) := by decide +kernel
theorem dL_law_235 : decode cL_law 235 = .ok (.iload_n 3, 1) := by decide +kernel
theorem dL_law_236 : decode cL_law 236 = .ok (.iconst 2, 1) := by decide +kernel
theorem dL_law_237 : decode cL_law 237 = .ok (.iadd, 1) := by decide +kernel
theorem dL_law_238 : decode cL_law 238 = .ok (.iaload, 1) := by decide +kernel
theorem dL_law_239 : decode cL_law 239 = .ok (.invokevirtual 22, 3) := by decide +kernel
theorem dL_law_242 : decode cL_law 242 = .ok (.pop, 1) := by decide +kernel
theorem dL_law_243 : decode cL_law 243 = .ok (.goto 1061, 3) := by decide +kernel
theorem dL_law_246 : decode cL_law 246 = .ok (.aload_n 1, 1) := by decide +kernel
theorem dL_law_247 : decode cL_law 247 = .ok (.aload_n 0, 1) := by decide +kernel
theorem dL_law_248 : decode cL_law 248 = .ok (.iload_n 3, 1) := by decide +kernel
theorem dL_law_249 : decode cL_law 249 = .ok (.iconst 1, 1) := by decide +kernel
theorem dL_law_250 : decode cL_law 250 = .ok (.iadd, 1) := by decide +kernel
theorem dL_law_251 : decode cL_law 251 = .ok (.iaload, 1) := by decide +kernel
theorem dL_law_252 : decode cL_law 252 = .ok (.invokevirtual 23, 3) := by decide +kernel
theorem dL_law_255 : decode cL_law 255 = .ok (.pop, 1) := by decide +kernel
theorem dL_law_256 : decode cL_law 256 = .ok (.aload_n 2, 1) := by decide +kernel
theorem dL_law_257 : decode cL_law 257 = .ok (.aload_n 0, 1) := by decide +kernel
theorem dL_law_258 : decode cL_law 258 = .ok (.iload_n 3, 1) := by decide +kernel
theorem dL_law_259 : decode cL_law 259 = .ok (.iconst 1, 1) := by decide +kernel
theorem dL_law_260 : decode cL_law 260 = .ok (.iadd, 1) := by decide +kernel
theorem dL_law_261 : decode cL_law 261 = .ok (.iaload, 1) := by decide +kernel
theorem dL_law_262 : decode cL_law 262 = .ok (.invokevirtual 27, 3) := by decide +kernel
theorem dL_law_265 : decode cL_law 265 = .ok (.pop, 1) := by decide +kernel
theorem dL_law_266 : decode cL_law 266 = .ok (.goto 1038, 3) := by decide +kernel
theorem dL_law_269 : decode cL_law 269 = .ok (.aload_n 1, 1) := by decide +kernel
theorem dL_law_270 : decode cL_law 270 = .ok (.aload_n 0, 1) := by decide +kernel
theorem dL_law_271 : decode cL_law 271 = .ok (.iload_n 3, 1) := by decide +kernel
theorem dL_law_272 : decode cL_law 272 = .ok (.iconst 1, 1) := by decide +kernel
theorem dL_law_273 : decode cL_law 273 = .ok (.iadd, 1) := by decide +kernel
theorem dL_law_274 : decode cL_law 274 = .ok (.iaload, 1) := by decide +kernel
theorem dL_law_275 : decode cL_law 275 = .ok (.aload_n 0, 1) := by decide +kernel
theorem dL_law_276 : decode cL_law 276 = .ok (.iload_n 3, 1) := by decide +kernel
theorem dL_law_277 : decode cL_law 277 = .ok (.iconst 2, 1) := by decide +kernel
theorem dL_law_278 : decode cL_law 278 = .ok (.iadd, 1) := by decide +kernel
theorem dL_law_279 : decode cL_law 279 = .ok (.iaload, 1) := by decide +kernel
theorem dL_law_280 : decode cL_law 280 = .ok (.invokevirtual 28, 3) := by decide +kernel
theorem dL_law_283 : decode cL_law 283 = .ok (.aload_n 2, 1) := by decide +kernel
theorem dL_law_284 : decode cL_law 284 = .ok (.aload_n 0, 1) := by decide +kernel
theorem dL_law_285 : decode cL_law 285 = .ok (.iload_n 3, 1) := by decide +kernel
theorem dL_law_286 : decode cL_law 286 = .ok (.iconst 1, 1) := by decide +kernel
theorem dL_law_287 : decode cL_law 287 = .ok (.iadd, 1) := by decide +kernel
theorem dL_law_288 : decode cL_law 288 = .ok (.iaload, 1) := by decide +kernel
theorem dL_law_289 : decode cL_law 289 = .ok (.aload_n 0, 1) := by decide +kernel
theorem dL_law_290 : decode cL_law 290 = .ok (.iload_n 3, 1) := by decide +kernel
theorem dL_law_291 : decode cL_law 291 = .ok (.iconst 2, 1) := by decide +kernel
theorem dL_law_292 : decode cL_law 292 = .ok (.iadd, 1) := by decide +kernel
theorem dL_law_293 : decode cL_law 293 = .ok (.iaload, 1) := by decide +kernel
theorem dL_law_294 : decode cL_law 294 = .ok (.invokevirtual 31, 3) := by decide +kernel
theorem dL_law_297 : decode cL_law 297 = .ok (.if_icmp .eq 1007, 3) := by decide +kernel
theorem dL_law_300 : decode cL_law 300 = .ok (.iconst 0, 1) := by decide +kernel
theorem dL_law_301 : decode cL_law 301 = .ok (.ireturn, 1) := by decide +kernel
theorem dL_law_302 : decode cL_law 302 = .ok (.aload_n 1, 1) := by decide +kernel
theorem dL_law_303 : decode cL_law 303 = .ok (.aload_n 0, 1) := by decide +kernel
theorem dL_law_304 : decode cL_law 304 = .ok (.iload_n 3, 1) := by decide +kernel
theorem dL_law_305 : decode cL_law 305 = .ok (.iconst 1, 1) := by decide +kernel
theorem dL_law_306 : decode cL_law 306 = .ok (.iadd, 1) := by decide +kernel
theorem dL_law_307 : decode cL_law 307 = .ok (.iaload, 1) := by decide +kernel
theorem dL_law_308 : decode cL_law 308 = .ok (.invokevirtual 32, 3) := by decide +kernel
theorem dL_law_311 : decode cL_law 311 = .ok (.pop, 1) := by decide +kernel
theorem dL_law_312 : decode cL_law 312 = .ok (.aload_n 2, 1) := by decide +kernel
theorem dL_law_313 : decode cL_law 313 = .ok (.aload_n 0, 1) := by decide +kernel
theorem dL_law_314 : decode cL_law 314 = .ok (.iload_n 3, 1) := by decide +kernel
theorem dL_law_315 : decode cL_law 315 = .ok (.iconst 1, 1) := by decide +kernel
theorem dL_law_316 : decode cL_law 316 = .ok (.iadd, 1) := by decide +kernel
theorem dL_law_317 : decode cL_law 317 = .ok (.iaload, 1) := by decide +kernel
theorem dL_law_318 : decode cL_law 318 = .ok (.invokevirtual 35, 3) := by decide +kernel
theorem dL_law_321 : decode cL_law 321 = .ok (.pop, 1) := by decide +kernel
theorem dL_law_322 : decode cL_law 322 = .ok (.goto 982, 3) := by decide +kernel
theorem dL_law_325 : decode cL_law 325 = .ok (.aload_n 1, 1) := by decide +kernel
theorem dL_law_326 : decode cL_law 326 = .ok (.aload_n 0, 1) := by decide +kernel
theorem dL_law_327 : decode cL_law 327 = .ok (.iload_n 3, 1) := by decide +kernel
theorem dL_law_328 : decode cL_law 328 = .ok (.iconst 1, 1) := by decide +kernel
theorem dL_law_329 : decode cL_law 329 = .ok (.iadd, 1) := by decide +kernel
theorem dL_law_330 : decode cL_law 330 = .ok (.iaload, 1) := by decide +kernel
theorem dL_law_331 : decode cL_law 331 = .ok (.invokevirtual 36, 3) := by decide +kernel
theorem dL_law_334 : decode cL_law 334 = .ok (.pop, 1) := by decide +kernel
theorem dL_law_335 : decode cL_law 335 = .ok (.aload_n 2, 1) := by decide +kernel
theorem dL_law_336 : decode cL_law 336 = .ok (.aload_n 0, 1) := by decide +kernel
theorem dL_law_337 : decode cL_law 337 = .ok (.iload_n 3, 1) := by decide +kernel
theorem dL_law_338 : decode cL_law 338 = .ok (.iconst 1, 1) := by decide +kernel
theorem dL_law_339 : decode cL_law 339 = .ok (.iadd, 1) := by decide +kernel
theorem dL_law_340 : decode cL_law 340 = .ok (.iaload, 1) := by decide +kernel
theorem dL_law_341 : decode cL_law 341 = .ok (.invokevirtual 39, 3) := by decide +kernel
theorem dL_law_344 : decode cL_law 344 = .ok (.pop, 1) := by decide +kernel
theorem dL_law_345 : decode cL_law 345 = .ok (.goto 959, 3) := by decide +kernel
theorem dL_law_348 : decode cL_law 348 = .ok (.aload_n 1, 1) := by decide +kernel
theorem dL_law_349 : decode cL_law 349 = .ok (.aload_n 0, 1) := by decide +kernel
theorem dL_law_350 : decode cL_law 350 = .ok (.iload_n 3, 1) := by decide +kernel
theorem dL_law_351 : decode cL_law 351 = .ok (.iconst 1, 1) := by decide +kernel
theorem dL_law_352 : decode cL_law 352 = .ok (.iadd, 1) := by decide +kernel
theorem dL_law_353 : decode cL_law 353 = .ok (.iaload, 1) := by decide +kernel
theorem dL_law_354 : decode cL_law 354 = .ok (.aload_n 0, 1) := by decide +kernel
theorem dL_law_355 : decode cL_law 355 = .ok (.iload_n 3, 1) := by decide +kernel
theorem dL_law_356 : decode cL_law 356 = .ok (.iconst 2, 1) := by decide +kernel
theorem dL_law_357 : decode cL_law 357 = .ok (.iadd, 1) := by decide +kernel
theorem dL_law_358 : decode cL_law 358 = .ok (.iaload, 1) := by decide +kernel
theorem dL_law_359 : decode cL_law 359 = .ok (.invokevirtual 40, 3) := by decide +kernel
theorem dL_law_362 : decode cL_law 362 = .ok (.pop, 1) := by decide +kernel
theorem dL_law_363 : decode cL_law 363 = .ok (.aload_n 2, 1) := by decide +kernel
theorem dL_law_364 : decode cL_law 364 = .ok (.aload_n 0, 1) := by decide +kernel
theorem dL_law_365 : decode cL_law 365 = .ok (.iload_n 3, 1) := by decide +kernel
theorem dL_law_366 : decode cL_law 366 = .ok (.iconst 1, 1) := by decide +kernel
theorem dL_law_367 : decode cL_law 367 = .ok (.iadd, 1) := by decide +kernel
theorem dL_law_368 : decode cL_law 368 = .ok (.iaload, 1) := by decide +kernel
theorem dL_law_369 : decode cL_law 369 = .ok (.aload_n 0, 1) := by decide +kernel
theorem dL_law_370 : decode cL_law 370 = .ok (.iload_n 3, 1) := by decide +kernel
theorem dL_law_371 : decode cL_law 371 = .ok (.iconst 2, 1) := by decide +kernel
theorem dL_law_372 : decode cL_law 372 = .ok (.iadd, 1) := by decide +kernel
theorem dL_law_373 : decode cL_law 373 = .ok (.iaload, 1) := by decide +kernel
theorem dL_law_374 : decode cL_law 374 = .ok (.invokevirtual 43, 3) := by decide +kernel
theorem dL_law_377 : decode cL_law 377 = .ok (.pop, 1) := by decide +kernel
theorem dL_law_378 : decode cL_law 378 = .ok (.goto 926, 3) := by decide +kernel
theorem dL_law_381 : decode cL_law 381 = .ok (.aload_n 1, 1) := by decide +kernel
theorem dL_law_382 : decode cL_law 382 = .ok (.aload_n 0, 1) := by decide +kernel
theorem dL_law_383 : decode cL_law 383 = .ok (.iload_n 3, 1) := by decide +kernel
theorem dL_law_384 : decode cL_law 384 = .ok (.iconst 1, 1) := by decide +kernel
theorem dL_law_385 : decode cL_law 385 = .ok (.iadd, 1) := by decide +kernel
theorem dL_law_386 : decode cL_law 386 = .ok (.iaload, 1) := by decide +kernel
theorem dL_law_387 : decode cL_law 387 = .ok (.aload_n 0, 1) := by decide +kernel
theorem dL_law_388 : decode cL_law 388 = .ok (.iload_n 3, 1) := by decide +kernel
theorem dL_law_389 : decode cL_law 389 = .ok (.iconst 2, 1) := by decide +kernel
theorem dL_law_390 : decode cL_law 390 = .ok (.iadd, 1) := by decide +kernel
theorem dL_law_391 : decode cL_law 391 = .ok (.iaload, 1) := by decide +kernel
theorem dL_law_392 : decode cL_law 392 = .ok (.invokevirtual 44, 3) := by decide +kernel
theorem dL_law_395 : decode cL_law 395 = .ok (.pop, 1) := by decide +kernel
theorem dL_law_396 : decode cL_law 396 = .ok (.aload_n 2, 1) := by decide +kernel
theorem dL_law_397 : decode cL_law 397 = .ok (.aload_n 0, 1) := by decide +kernel
theorem dL_law_398 : decode cL_law 398 = .ok (.iload_n 3, 1) := by decide +kernel
theorem dL_law_399 : decode cL_law 399 = .ok (.iconst 1, 1) := by decide +kernel
theorem dL_law_400 : decode cL_law 400 = .ok (.iadd, 1) := by decide +kernel
theorem dL_law_401 : decode cL_law 401 = .ok (.iaload, 1) := by decide +kernel
theorem dL_law_402 : decode cL_law 402 = .ok (.aload_n 0, 1) := by decide +kernel
theorem dL_law_403 : decode cL_law 403 = .ok (.iload_n 3, 1) := by decide +kernel
theorem dL_law_404 : decode cL_law 404 = .ok (.iconst 2, 1) := by decide +kernel
theorem dL_law_405 : decode cL_law 405 = .ok (.iadd, 1) := by decide +kernel
theorem dL_law_406 : decode cL_law 406 = .ok (.iaload, 1) := by decide +kernel
theorem dL_law_407 : decode cL_law 407 = .ok (.invokevirtual 47, 3) := by decide +kernel
theorem dL_law_410 : decode cL_law 410 = .ok (.pop, 1) := by decide +kernel
theorem dL_law_411 : decode cL_law 411 = .ok (.goto 893, 3) := by decide +kernel
theorem dL_law_414 : decode cL_law 414 = .ok (.aload_n 1, 1) := by decide +kernel
theorem dL_law_415 : decode cL_law 415 = .ok (.aload_n 0, 1) := by decide +kernel
theorem dL_law_416 : decode cL_law 416 = .ok (.iload_n 3, 1) := by decide +kernel
theorem dL_law_417 : decode cL_law 417 = .ok (.iconst 1, 1) := by decide +kernel
theorem dL_law_418 : decode cL_law 418 = .ok (.iadd, 1) := by decide +kernel
theorem dL_law_419 : decode cL_law 419 = .ok (.iaload, 1) := by decide +kernel
theorem dL_law_420 : decode cL_law 420 = .ok (.invokevirtual 48, 3) := by decide +kernel
theorem dL_law_423 : decode cL_law 423 = .ok (.pop, 1) := by decide +kernel
theorem dL_law_424 : decode cL_law 424 = .ok (.aload_n 2, 1) := by decide +kernel
theorem dL_law_425 : decode cL_law 425 = .ok (.aload_n 0, 1) := by decide +kernel
theorem dL_law_426 : decode cL_law 426 = .ok (.iload_n 3, 1) := by decide +kernel
theorem dL_law_427 : decode cL_law 427 = .ok (.iconst 1, 1) := by decide +kernel
theorem dL_law_428 : decode cL_law 428 = .ok (.iadd, 1) := by decide +kernel
theorem dL_law_429 : decode cL_law 429 = .ok (.iaload, 1) := by decide +kernel
theorem dL_law_430 : decode cL_law 430 = .ok (.invokevirtual 51, 3) := by decide +kernel
theorem dL_law_433 : decode cL_law 433 = .ok (.pop, 1) := by decide +kernel
theorem dL_law_434 : decode cL_law 434 = .ok (.goto 870, 3) := by decide +kernel
theorem dL_law_437 : decode cL_law 437 = .ok (.aload_n 1, 1) := by decide +kernel
theorem dL_law_438 : decode cL_law 438 = .ok (.aload_n 0, 1) := by decide +kernel
theorem dL_law_439 : decode cL_law 439 = .ok (.iload_n 3, 1) := by decide +kernel
theorem dL_law_440 : decode cL_law 440 = .ok (.iconst 1, 1) := by decide +kernel
theorem dL_law_441 : decode cL_law 441 = .ok (.iadd, 1) := by decide +kernel
theorem dL_law_442 : decode cL_law 442 = .ok (.iaload, 1) := by decide +kernel
theorem dL_law_443 : decode cL_law 443 = .ok (.aload_n 0, 1) := by decide +kernel
theorem dL_law_444 : decode cL_law 444 = .ok (.iload_n 3, 1) := by decide +kernel
theorem dL_law_445 : decode cL_law 445 = .ok (.iconst 2, 1) := by decide +kernel
theorem dL_law_446 : decode cL_law 446 = .ok (.iadd, 1) := by decide +kernel
theorem dL_law_447 : decode cL_law 447 = .ok (.iaload, 1) := by decide +kernel
theorem dL_law_448 : decode cL_law 448 = .ok (.invokevirtual 52, 3) := by decide +kernel
theorem dL_law_451 : decode cL_law 451 = .ok (.pop, 1) := by decide +kernel
theorem dL_law_452 : decode cL_law 452 = .ok (.aload_n 2, 1) := by decide +kernel
theorem dL_law_453 : decode cL_law 453 = .ok (.aload_n 0, 1) := by decide +kernel
theorem dL_law_454 : decode cL_law 454 = .ok (.iload_n 3, 1) := by decide +kernel
theorem dL_law_455 : decode cL_law 455 = .ok (.iconst 1, 1) := by decide +kernel
theorem dL_law_456 : decode cL_law 456 = .ok (.iadd, 1) := by decide +kernel
theorem dL_law_457 : decode cL_law 457 = .ok (.iaload, 1) := by decide +kernel
theorem dL_law_458 : decode cL_law 458 = .ok (.aload_n 0, 1) := by decide +kernel
theorem dL_law_459 : decode cL_law 459 = .ok (.iload_n 3, 1) := by decide +kernel
theorem dL_law_460 : decode cL_law 460 = .ok (.iconst 2, 1) := by decide +kernel
theorem dL_law_461 : decode cL_law 461 = .ok (.iadd, 1) := by decide +kernel
theorem dL_law_462 : decode cL_law 462 = .ok (.iaload, 1) := by decide +kernel
theorem dL_law_463 : decode cL_law 463 = .ok (.invokevirtual 55, 3) := by decide +kernel
theorem dL_law_466 : decode cL_law 466 = .ok (.pop, 1) := by decide +kernel
theorem dL_law_467 : decode cL_law 467 = .ok (.goto 837, 3) := by decide +kernel
theorem dL_law_470 : decode cL_law 470 = .ok (.aload_n 1, 1) := by decide +kernel
theorem dL_law_471 : decode cL_law 471 = .ok (.aload_n 0, 1) := by decide +kernel
theorem dL_law_472 : decode cL_law 472 = .ok (.iload_n 3, 1) := by decide +kernel
theorem dL_law_473 : decode cL_law 473 = .ok (.iconst 1, 1) := by decide +kernel
theorem dL_law_474 : decode cL_law 474 = .ok (.iadd, 1) := by decide +kernel
theorem dL_law_475 : decode cL_law 475 = .ok (.iaload, 1) := by decide +kernel
theorem dL_law_476 : decode cL_law 476 = .ok (.aload_n 0, 1) := by decide +kernel
theorem dL_law_477 : decode cL_law 477 = .ok (.iload_n 3, 1) := by decide +kernel
theorem dL_law_478 : decode cL_law 478 = .ok (.iconst 2, 1) := by decide +kernel
theorem dL_law_479 : decode cL_law 479 = .ok (.iadd, 1) := by decide +kernel
theorem dL_law_480 : decode cL_law 480 = .ok (.iaload, 1) := by decide +kernel
theorem dL_law_481 : decode cL_law 481 = .ok (.aload_n 0, 1) := by decide +kernel
theorem dL_law_482 : decode cL_law 482 = .ok (.iload_n 3, 1) := by decide +kernel
theorem dL_law_483 : decode cL_law 483 = .ok (.iconst 3, 1) := by decide +kernel
theorem dL_law_484 : decode cL_law 484 = .ok (.iadd, 1) := by decide +kernel
theorem dL_law_485 : decode cL_law 485 = .ok (.iaload, 1) := by decide +kernel
theorem dL_law_486 : decode cL_law 486 = .ok (.aload_n 0, 1) := by decide +kernel
theorem dL_law_487 : decode cL_law 487 = .ok (.iload_n 3, 1) := by decide +kernel
theorem dL_law_488 : decode cL_law 488 = .ok (.iconst 4, 1) := by decide +kernel
theorem dL_law_489 : decode cL_law 489 = .ok (.iadd, 1) := by decide +kernel
theorem dL_law_490 : decode cL_law 490 = .ok (.iaload, 1) := by decide +kernel
theorem dL_law_491 : decode cL_law 491 = .ok (.aload_n 0, 1) := by decide +kernel
theorem dL_law_492 : decode cL_law 492 = .ok (.iload_n 3, 1) := by decide +kernel
theorem dL_law_493 : decode cL_law 493 = .ok (.iconst 5, 1) := by decide +kernel
theorem dL_law_494 : decode cL_law 494 = .ok (.iadd, 1) := by decide +kernel
theorem dL_law_495 : decode cL_law 495 = .ok (.iaload, 1) := by decide +kernel
theorem dL_law_496 : decode cL_law 496 = .ok (.invokevirtual 56, 3) := by decide +kernel
theorem dL_law_499 : decode cL_law 499 = .ok (.pop, 1) := by decide +kernel
theorem dL_law_500 : decode cL_law 500 = .ok (.aload_n 2, 1) := by decide +kernel
theorem dL_law_501 : decode cL_law 501 = .ok (.aload_n 0, 1) := by decide +kernel
theorem dL_law_502 : decode cL_law 502 = .ok (.iload_n 3, 1) := by decide +kernel
theorem dL_law_503 : decode cL_law 503 = .ok (.iconst 1, 1) := by decide +kernel
theorem dL_law_504 : decode cL_law 504 = .ok (.iadd, 1) := by decide +kernel
theorem dL_law_505 : decode cL_law 505 = .ok (.iaload, 1) := by decide +kernel
theorem dL_law_506 : decode cL_law 506 = .ok (.aload_n 0, 1) := by decide +kernel
theorem dL_law_507 : decode cL_law 507 = .ok (.iload_n 3, 1) := by decide +kernel
theorem dL_law_508 : decode cL_law 508 = .ok (.iconst 2, 1) := by decide +kernel
theorem dL_law_509 : decode cL_law 509 = .ok (.iadd, 1) := by decide +kernel
theorem dL_law_510 : decode cL_law 510 = .ok (.iaload, 1) := by decide +kernel
theorem dL_law_511 : decode cL_law 511 = .ok (.aload_n 0, 1) := by decide +kernel
theorem dL_law_512 : decode cL_law 512 = .ok (.iload_n 3, 1) := by decide +kernel
theorem dL_law_513 : decode cL_law 513 = .ok (.iconst 3, 1) := by decide +kernel
theorem dL_law_514 : decode cL_law 514 = .ok (.iadd, 1) := by decide +kernel
theorem dL_law_515 : decode cL_law 515 = .ok (.iaload, 1) := by decide +kernel
theorem dL_law_516 : decode cL_law 516 = .ok (.aload_n 0, 1) := by decide +kernel
theorem dL_law_517 : decode cL_law 517 = .ok (.iload_n 3, 1) := by decide +kernel
theorem dL_law_518 : decode cL_law 518 = .ok (.iconst 4, 1) := by decide +kernel
theorem dL_law_519 : decode cL_law 519 = .ok (.iadd, 1) := by decide +kernel
theorem dL_law_520 : decode cL_law 520 = .ok (.iaload, 1) := by decide +kernel
theorem dL_law_521 : decode cL_law 521 = .ok (.aload_n 0, 1) := by decide +kernel
theorem dL_law_522 : decode cL_law 522 = .ok (.iload_n 3, 1) := by decide +kernel
theorem dL_law_523 : decode cL_law 523 = .ok (.iconst 5, 1) := by decide +kernel
theorem dL_law_524 : decode cL_law 524 = .ok (.iadd, 1) := by decide +kernel
theorem dL_law_525 : decode cL_law 525 = .ok (.iaload, 1) := by decide +kernel
theorem dL_law_526 : decode cL_law 526 = .ok (.invokevirtual 60, 3) := by decide +kernel
theorem dL_law_529 : decode cL_law 529 = .ok (.pop, 1) := by decide +kernel
theorem dL_law_530 : decode cL_law 530 = .ok (.goto 774, 3) := by decide +kernel
theorem dL_law_533 : decode cL_law 533 = .ok (.aload_n 1, 1) := by decide +kernel
theorem dL_law_534 : decode cL_law 534 = .ok (.aload_n 0, 1) := by decide +kernel
theorem dL_law_535 : decode cL_law 535 = .ok (.iload_n 3, 1) := by decide +kernel
theorem dL_law_536 : decode cL_law 536 = .ok (.iconst 1, 1) := by decide +kernel
theorem dL_law_537 : decode cL_law 537 = .ok (.iadd, 1) := by decide +kernel
theorem dL_law_538 : decode cL_law 538 = .ok (.iaload, 1) := by decide +kernel
theorem dL_law_539 : decode cL_law 539 = .ok (.invokevirtual 61, 3) := by decide +kernel
theorem dL_law_542 : decode cL_law 542 = .ok (.pop, 1) := by decide +kernel
theorem dL_law_543 : decode cL_law 543 = .ok (.aload_n 2, 1) := by decide +kernel
theorem dL_law_544 : decode cL_law 544 = .ok (.aload_n 0, 1) := by decide +kernel
theorem dL_law_545 : decode cL_law 545 = .ok (.iload_n 3, 1) := by decide +kernel
theorem dL_law_546 : decode cL_law 546 = .ok (.iconst 1, 1) := by decide +kernel
theorem dL_law_547 : decode cL_law 547 = .ok (.iadd, 1) := by decide +kernel
theorem dL_law_548 : decode cL_law 548 = .ok (.iaload, 1) := by decide +kernel
theorem dL_law_549 : decode cL_law 549 = .ok (.invokevirtual 64, 3) := by decide +kernel
theorem dL_law_552 : decode cL_law 552 = .ok (.pop, 1) := by decide +kernel
theorem dL_law_553 : decode cL_law 553 = .ok (.goto 751, 3) := by decide +kernel
theorem dL_law_556 : decode cL_law 556 = .ok (.aload_n 1, 1) := by decide +kernel
theorem dL_law_557 : decode cL_law 557 = .ok (.invokevirtual 65, 3) := by decide +kernel
theorem dL_law_560 : decode cL_law 560 = .ok (.pop, 1) := by decide +kernel
theorem dL_law_561 : decode cL_law 561 = .ok (.aload_n 2, 1) := by decide +kernel
theorem dL_law_562 : decode cL_law 562 = .ok (.invokevirtual 68, 3) := by decide +kernel
theorem dL_law_565 : decode cL_law 565 = .ok (.pop, 1) := by decide +kernel
theorem dL_law_566 : decode cL_law 566 = .ok (.goto 738, 3) := by decide +kernel
theorem dL_law_569 : decode cL_law 569 = .ok (.aload_n 1, 1) := by decide +kernel
theorem dL_law_570 : decode cL_law 570 = .ok (.invokevirtual 69, 3) := by decide +kernel
theorem dL_law_573 : decode cL_law 573 = .ok (.pop, 1) := by decide +kernel
theorem dL_law_574 : decode cL_law 574 = .ok (.aload_n 2, 1) := by decide +kernel
theorem dL_law_575 : decode cL_law 575 = .ok (.invokevirtual 72, 3) := by decide +kernel
theorem dL_law_578 : decode cL_law 578 = .ok (.pop, 1) := by decide +kernel
theorem dL_law_579 : decode cL_law 579 = .ok (.goto 725, 3) := by decide +kernel
theorem dL_law_582 : decode cL_law 582 = .ok (.aload_n 1, 1) := by decide +kernel
theorem dL_law_583 : decode cL_law 583 = .ok (.invokevirtual 73, 3) := by decide +kernel
theorem dL_law_586 : decode cL_law 586 = .ok (.pop, 1) := by decide +kernel
theorem dL_law_587 : decode cL_law 587 = .ok (.aload_n 2, 1) := by decide +kernel
theorem dL_law_588 : decode cL_law 588 = .ok (.invokevirtual 76, 3) := by decide +kernel
theorem dL_law_591 : decode cL_law 591 = .ok (.pop, 1) := by decide +kernel
theorem dL_law_592 : decode cL_law 592 = .ok (.goto 712, 3) := by decide +kernel
theorem dL_law_595 : decode cL_law 595 = .ok (.aload_n 1, 1) := by decide +kernel
theorem dL_law_596 : decode cL_law 596 = .ok (.invokevirtual 77, 3) := by decide +kernel
theorem dL_law_599 : decode cL_law 599 = .ok (.pop, 1) := by decide +kernel
theorem dL_law_600 : decode cL_law 600 = .ok (.aload_n 2, 1) := by decide +kernel
theorem dL_law_601 : decode cL_law 601 = .ok (.invokevirtual 80, 3) := by decide +kernel
theorem dL_law_604 : decode cL_law 604 = .ok (.pop, 1) := by decide +kernel
theorem dL_law_605 : decode cL_law 605 = .ok (.goto 699, 3) := by decide +kernel
theorem dL_law_608 : decode cL_law 608 = .ok (.aload_n 1, 1) := by decide +kernel
theorem dL_law_609 : decode cL_law 609 = .ok (.aload_n 0, 1) := by decide +kernel
theorem dL_law_610 : decode cL_law 610 = .ok (.iload_n 3, 1) := by decide +kernel
theorem dL_law_611 : decode cL_law 611 = .ok (.iconst 1, 1) := by decide +kernel
theorem dL_law_612 : decode cL_law 612 = .ok (.iadd, 1) := by decide +kernel
theorem dL_law_613 : decode cL_law 613 = .ok (.iaload, 1) := by decide +kernel
theorem dL_law_614 : decode cL_law 614 = .ok (.invokevirtual 81, 3) := by decide +kernel
theorem dL_law_617 : decode cL_law 617 = .ok (.pop, 1) := by decide +kernel
theorem dL_law_618 : decode cL_law 618 = .ok (.aload_n 2, 1) := by decide +kernel
theorem dL_law_619 : decode cL_law 619 = .ok (.aload_n 0, 1) := by decide +kernel
theorem dL_law_620 : decode cL_law 620 = .ok (.iload_n 3, 1) := by decide +kernel
theorem dL_law_621 : decode cL_law 621 = .ok (.iconst 1, 1) := by decide +kernel
theorem dL_law_622 : decode cL_law 622 = .ok (.iadd, 1) := by decide +kernel
theorem dL_law_623 : decode cL_law 623 = .ok (.iaload, 1) := by decide +kernel
theorem dL_law_624 : decode cL_law 624 = .ok (.invokevirtual 84, 3) := by decide +kernel
theorem dL_law_627 : decode cL_law 627 = .ok (.pop, 1) := by decide +kernel
theorem dL_law_628 : decode cL_law 628 = .ok (.goto 676, 3) := by decide +kernel
theorem dL_law_631 : decode cL_law 631 = .ok (.aload_n 1, 1) := by decide +kernel
theorem dL_law_632 : decode cL_law 632 = .ok (.aload_n 0, 1) := by decide +kernel
theorem dL_law_633 : decode cL_law 633 = .ok (.iload_n 3, 1) := by decide +kernel
theorem dL_law_634 : decode cL_law 634 = .ok (.iconst 1, 1) := by decide +kernel
theorem dL_law_635 : decode cL_law 635 = .ok (.iadd, 1) := by decide +kernel
theorem dL_law_636 : decode cL_law 636 = .ok (.iaload, 1) := by decide +kernel
theorem dL_law_637 : decode cL_law 637 = .ok (.aload_n 0, 1) := by decide +kernel
theorem dL_law_638 : decode cL_law 638 = .ok (.iload_n 3, 1) := by decide +kernel
theorem dL_law_639 : decode cL_law 639 = .ok (.iconst 2, 1) := by decide +kernel
theorem dL_law_640 : decode cL_law 640 = .ok (.iadd, 1) := by decide +kernel
theorem dL_law_641 : decode cL_law 641 = .ok (.iaload, 1) := by decide +kernel
theorem dL_law_642 : decode cL_law 642 = .ok (.aload_n 0, 1) := by decide +kernel
theorem dL_law_643 : decode cL_law 643 = .ok (.iload_n 3, 1) := by decide +kernel
theorem dL_law_644 : decode cL_law 644 = .ok (.iconst 3, 1) := by decide +kernel
theorem dL_law_645 : decode cL_law 645 = .ok (.iadd, 1) := by decide +kernel
theorem dL_law_646 : decode cL_law 646 = .ok (.iaload, 1) := by decide +kernel
theorem dL_law_647 : decode cL_law 647 = .ok (.invokevirtual 85, 3) := by decide +kernel
theorem dL_law_650 : decode cL_law 650 = .ok (.pop, 1) := by decide +kernel
theorem dL_law_651 : decode cL_law 651 = .ok (.aload_n 2, 1) := by decide +kernel
theorem dL_law_652 : decode cL_law 652 = .ok (.aload_n 0, 1) := by decide +kernel
theorem dL_law_653 : decode cL_law 653 = .ok (.iload_n 3, 1) := by decide +kernel
theorem dL_law_654 : decode cL_law 654 = .ok (.iconst 1, 1) := by decide +kernel
theorem dL_law_655 : decode cL_law 655 = .ok (.iadd, 1) := by decide +kernel
theorem dL_law_656 : decode cL_law 656 = .ok (.iaload, 1) := by decide +kernel
theorem dL_law_657 : decode cL_law 657 = .ok (.aload_n 0, 1) := by decide +kernel
theorem dL_law_658 : decode cL_law 658 = .ok (.iload_n 3, 1) := by decide +kernel
theorem dL_law_659 : decode cL_law 659 = .ok (.iconst 2, 1) := by decide +kernel
theorem dL_law_660 : decode cL_law 660 = .ok (.iadd, 1) := by decide +kernel
theorem dL_law_661 : decode cL_law 661 = .ok (.iaload, 1) := by decide +kernel
theorem dL_law_662 : decode cL_law 662 = .ok (.aload_n 0, 1) := by decide +kernel
theorem dL_law_663 : decode cL_law 663 = .ok (.iload_n 3, 1) := by decide +kernel
theorem dL_law_664 : decode cL_law 664 = .ok (.iconst 3, 1) := by decide +kernel
theorem dL_law_665 : decode cL_law 665 = .ok (.iadd, 1) := by decide +kernel
theorem dL_law_666 : decode cL_law 666 = .ok (.iaload, 1) := by decide +kernel
theorem dL_law_667 : decode cL_law 667 = .ok (.invokevirtual 89, 3) := by decide +kernel
theorem dL_law_670 : decode cL_law 670 = .ok (.pop, 1) := by decide +kernel
theorem dL_law_671 : decode cL_law 671 = .ok (.goto 633, 3) := by decide +kernel
theorem dL_law_674 : decode cL_law 674 = .ok (.aload_n 1, 1) := by decide +kernel
theorem dL_law_675 : decode cL_law 675 = .ok (.aload_n 0, 1) := by decide +kernel
theorem dL_law_676 : decode cL_law 676 = .ok (.iload_n 3, 1) := by decide +kernel
theorem dL_law_677 : decode cL_law 677 = .ok (.iconst 1, 1) := by decide +kernel
theorem dL_law_678 : decode cL_law 678 = .ok (.iadd, 1) := by decide +kernel
theorem dL_law_679 : decode cL_law 679 = .ok (.iaload, 1) := by decide +kernel
theorem dL_law_680 : decode cL_law 680 = .ok (.aload_n 0, 1) := by decide +kernel
theorem dL_law_681 : decode cL_law 681 = .ok (.iload_n 3, 1) := by decide +kernel
theorem dL_law_682 : decode cL_law 682 = .ok (.iconst 2, 1) := by decide +kernel
theorem dL_law_683 : decode cL_law 683 = .ok (.iadd, 1) := by decide +kernel
theorem dL_law_684 : decode cL_law 684 = .ok (.iaload, 1) := by decide +kernel
theorem dL_law_685 : decode cL_law 685 = .ok (.aload_n 0, 1) := by decide +kernel
theorem dL_law_686 : decode cL_law 686 = .ok (.iload_n 3, 1) := by decide +kernel
theorem dL_law_687 : decode cL_law 687 = .ok (.iconst 3, 1) := by decide +kernel
theorem dL_law_688 : decode cL_law 688 = .ok (.iadd, 1) := by decide +kernel
theorem dL_law_689 : decode cL_law 689 = .ok (.iaload, 1) := by decide +kernel
theorem dL_law_690 : decode cL_law 690 = .ok (.invokevirtual 90, 3) := by decide +kernel
theorem dL_law_693 : decode cL_law 693 = .ok (.pop, 1) := by decide +kernel
theorem dL_law_694 : decode cL_law 694 = .ok (.aload_n 2, 1) := by decide +kernel
theorem dL_law_695 : decode cL_law 695 = .ok (.aload_n 0, 1) := by decide +kernel
theorem dL_law_696 : decode cL_law 696 = .ok (.iload_n 3, 1) := by decide +kernel
theorem dL_law_697 : decode cL_law 697 = .ok (.iconst 1, 1) := by decide +kernel
theorem dL_law_698 : decode cL_law 698 = .ok (.iadd, 1) := by decide +kernel
theorem dL_law_699 : decode cL_law 699 = .ok (.iaload, 1) := by decide +kernel
theorem dL_law_700 : decode cL_law 700 = .ok (.aload_n 0, 1) := by decide +kernel
theorem dL_law_701 : decode cL_law 701 = .ok (.iload_n 3, 1) := by decide +kernel
theorem dL_law_702 : decode cL_law 702 = .ok (.iconst 2, 1) := by decide +kernel
theorem dL_law_703 : decode cL_law 703 = .ok (.iadd, 1) := by decide +kernel
theorem dL_law_704 : decode cL_law 704 = .ok (.iaload, 1) := by decide +kernel
theorem dL_law_705 : decode cL_law 705 = .ok (.aload_n 0, 1) := by decide +kernel
theorem dL_law_706 : decode cL_law 706 = .ok (.iload_n 3, 1) := by decide +kernel
theorem dL_law_707 : decode cL_law 707 = .ok (.iconst 3, 1) := by decide +kernel
theorem dL_law_708 : decode cL_law 708 = .ok (.iadd, 1) := by decide +kernel
theorem dL_law_709 : decode cL_law 709 = .ok (.iaload, 1) := by decide +kernel
theorem dL_law_710 : decode cL_law 710 = .ok (.invokevirtual 93, 3) := by decide +kernel
theorem dL_law_713 : decode cL_law 713 = .ok (.pop, 1) := by decide +kernel
theorem dL_law_714 : decode cL_law 714 = .ok (.goto 590, 3) := by decide +kernel
theorem dL_law_717 : decode cL_law 717 = .ok (.aload_n 1, 1) := by decide +kernel
theorem dL_law_718 : decode cL_law 718 = .ok (.aload_n 0, 1) := by decide +kernel
theorem dL_law_719 : decode cL_law 719 = .ok (.iload_n 3, 1) := by decide +kernel
theorem dL_law_720 : decode cL_law 720 = .ok (.iconst 1, 1) := by decide +kernel
theorem dL_law_721 : decode cL_law 721 = .ok (.iadd, 1) := by decide +kernel
theorem dL_law_722 : decode cL_law 722 = .ok (.iaload, 1) := by decide +kernel
theorem dL_law_723 : decode cL_law 723 = .ok (.aload_n 0, 1) := by decide +kernel
theorem dL_law_724 : decode cL_law 724 = .ok (.iload_n 3, 1) := by decide +kernel
theorem dL_law_725 : decode cL_law 725 = .ok (.iconst 2, 1) := by decide +kernel
theorem dL_law_726 : decode cL_law 726 = .ok (.iadd, 1) := by decide +kernel
theorem dL_law_727 : decode cL_law 727 = .ok (.iaload, 1) := by decide +kernel
theorem dL_law_728 : decode cL_law 728 = .ok (.aload_n 0, 1) := by decide +kernel
theorem dL_law_729 : decode cL_law 729 = .ok (.iload_n 3, 1) := by decide +kernel
theorem dL_law_730 : decode cL_law 730 = .ok (.iconst 3, 1) := by decide +kernel
theorem dL_law_731 : decode cL_law 731 = .ok (.iadd, 1) := by decide +kernel
theorem dL_law_732 : decode cL_law 732 = .ok (.iaload, 1) := by decide +kernel
theorem dL_law_733 : decode cL_law 733 = .ok (.invokevirtual 94, 3) := by decide +kernel
theorem dL_law_736 : decode cL_law 736 = .ok (.pop, 1) := by decide +kernel
theorem dL_law_737 : decode cL_law 737 = .ok (.aload_n 2, 1) := by decide +kernel
theorem dL_law_738 : decode cL_law 738 = .ok (.aload_n 0, 1) := by decide +kernel
theorem dL_law_739 : decode cL_law 739 = .ok (.iload_n 3, 1) := by decide +kernel
theorem dL_law_740 : decode cL_law 740 = .ok (.iconst 1, 1) := by decide +kernel
theorem dL_law_741 : decode cL_law 741 = .ok (.iadd, 1) := by decide +kernel
theorem dL_law_742 : decode cL_law 742 = .ok (.iaload, 1) := by decide +kernel
theorem dL_law_743 : decode cL_law 743 = .ok (.aload_n 0, 1) := by decide +kernel
theorem dL_law_744 : decode cL_law 744 = .ok (.iload_n 3, 1) := by decide +kernel
theorem dL_law_745 : decode cL_law 745 = .ok (.iconst 2, 1) := by decide +kernel
theorem dL_law_746 : decode cL_law 746 = .ok (.iadd, 1) := by decide +kernel
theorem dL_law_747 : decode cL_law 747 = .ok (.iaload, 1) := by decide +kernel
theorem dL_law_748 : decode cL_law 748 = .ok (.aload_n 0, 1) := by decide +kernel
theorem dL_law_749 : decode cL_law 749 = .ok (.iload_n 3, 1) := by decide +kernel
theorem dL_law_750 : decode cL_law 750 = .ok (.iconst 3, 1) := by decide +kernel
theorem dL_law_751 : decode cL_law 751 = .ok (.iadd, 1) := by decide +kernel
theorem dL_law_752 : decode cL_law 752 = .ok (.iaload, 1) := by decide +kernel
theorem dL_law_753 : decode cL_law 753 = .ok (.invokevirtual 97, 3) := by decide +kernel
theorem dL_law_756 : decode cL_law 756 = .ok (.pop, 1) := by decide +kernel
theorem dL_law_757 : decode cL_law 757 = .ok (.goto 547, 3) := by decide +kernel
theorem dL_law_760 : decode cL_law 760 = .ok (.aload_n 1, 1) := by decide +kernel
theorem dL_law_761 : decode cL_law 761 = .ok (.aload_n 0, 1) := by decide +kernel
theorem dL_law_762 : decode cL_law 762 = .ok (.iload_n 3, 1) := by decide +kernel
theorem dL_law_763 : decode cL_law 763 = .ok (.iconst 1, 1) := by decide +kernel
theorem dL_law_764 : decode cL_law 764 = .ok (.iadd, 1) := by decide +kernel
theorem dL_law_765 : decode cL_law 765 = .ok (.iaload, 1) := by decide +kernel
theorem dL_law_766 : decode cL_law 766 = .ok (.aload_n 0, 1) := by decide +kernel
theorem dL_law_767 : decode cL_law 767 = .ok (.iload_n 3, 1) := by decide +kernel
theorem dL_law_768 : decode cL_law 768 = .ok (.iconst 2, 1) := by decide +kernel
theorem dL_law_769 : decode cL_law 769 = .ok (.iadd, 1) := by decide +kernel
theorem dL_law_770 : decode cL_law 770 = .ok (.iaload, 1) := by decide +kernel
theorem dL_law_771 : decode cL_law 771 = .ok (.aload_n 0, 1) := by decide +kernel
theorem dL_law_772 : decode cL_law 772 = .ok (.iload_n 3, 1) := by decide +kernel
theorem dL_law_773 : decode cL_law 773 = .ok (.iconst 3, 1) := by decide +kernel
theorem dL_law_774 : decode cL_law 774 = .ok (.iadd, 1) := by decide +kernel
theorem dL_law_775 : decode cL_law 775 = .ok (.iaload, 1) := by decide +kernel
theorem dL_law_776 : decode cL_law 776 = .ok (.aload_n 0, 1) := by decide +kernel
theorem dL_law_777 : decode cL_law 777 = .ok (.iload_n 3, 1) := by decide +kernel
theorem dL_law_778 : decode cL_law 778 = .ok (.iconst 4, 1) := by decide +kernel
theorem dL_law_779 : decode cL_law 779 = .ok (.iadd, 1) := by decide +kernel
theorem dL_law_780 : decode cL_law 780 = .ok (.iaload, 1) := by decide +kernel
theorem dL_law_781 : decode cL_law 781 = .ok (.invokevirtual 98, 3) := by decide +kernel
theorem dL_law_784 : decode cL_law 784 = .ok (.pop, 1) := by decide +kernel
theorem dL_law_785 : decode cL_law 785 = .ok (.aload_n 2, 1) := by decide +kernel
theorem dL_law_786 : decode cL_law 786 = .ok (.aload_n 0, 1) := by decide +kernel
theorem dL_law_787 : decode cL_law 787 = .ok (.iload_n 3, 1) := by decide +kernel
theorem dL_law_788 : decode cL_law 788 = .ok (.iconst 1, 1) := by decide +kernel
theorem dL_law_789 : decode cL_law 789 = .ok (.iadd, 1) := by decide +kernel
theorem dL_law_790 : decode cL_law 790 = .ok (.iaload, 1) := by decide +kernel
theorem dL_law_791 : decode cL_law 791 = .ok (.aload_n 0, 1) := by decide +kernel
theorem dL_law_792 : decode cL_law 792 = .ok (.iload_n 3, 1) := by decide +kernel
theorem dL_law_793 : decode cL_law 793 = .ok (.iconst 2, 1) := by decide +kernel
theorem dL_law_794 : decode cL_law 794 = .ok (.iadd, 1) := by decide +kernel
theorem dL_law_795 : decode cL_law 795 = .ok (.iaload, 1) := by decide +kernel
theorem dL_law_796 : decode cL_law 796 = .ok (.aload_n 0, 1) := by decide +kernel
theorem dL_law_797 : decode cL_law 797 = .ok (.iload_n 3, 1) := by decide +kernel
theorem dL_law_798 : decode cL_law 798 = .ok (.iconst 3, 1) := by decide +kernel
theorem dL_law_799 : decode cL_law 799 = .ok (.iadd, 1) := by decide +kernel
theorem dL_law_800 : decode cL_law 800 = .ok (.iaload, 1) := by decide +kernel
theorem dL_law_801 : decode cL_law 801 = .ok (.aload_n 0, 1) := by decide +kernel
theorem dL_law_802 : decode cL_law 802 = .ok (.iload_n 3, 1) := by decide +kernel
theorem dL_law_803 : decode cL_law 803 = .ok (.iconst 4, 1) := by decide +kernel
theorem dL_law_804 : decode cL_law 804 = .ok (.iadd, 1) := by decide +kernel
theorem dL_law_805 : decode cL_law 805 = .ok (.iaload, 1) := by decide +kernel
theorem dL_law_806 : decode cL_law 806 = .ok (.invokevirtual 102, 3) := by decide +kernel
theorem dL_law_809 : decode cL_law 809 = .ok (.pop, 1) := by decide +kernel
theorem dL_law_810 : decode cL_law 810 = .ok (.goto 494, 3) := by decide +kernel
theorem dL_law_813 : decode cL_law 813 = .ok (.aload_n 1, 1) := by decide +kernel
theorem dL_law_814 : decode cL_law 814 = .ok (.invokevirtual 103, 3) := by decide +kernel
theorem dL_law_817 : decode cL_law 817 = .ok (.pop, 1) := by decide +kernel
theorem dL_law_818 : decode cL_law 818 = .ok (.aload_n 2, 1) := by decide +kernel
theorem dL_law_819 : decode cL_law 819 = .ok (.invokevirtual 106, 3) := by decide +kernel
theorem dL_law_822 : decode cL_law 822 = .ok (.pop, 1) := by decide +kernel
theorem dL_law_823 : decode cL_law 823 = .ok (.goto 481, 3) := by decide +kernel
theorem dL_law_826 : decode cL_law 826 = .ok (.aload_n 1, 1) := by decide +kernel
theorem dL_law_827 : decode cL_law 827 = .ok (.invokevirtual 107, 3) := by decide +kernel
theorem dL_law_830 : decode cL_law 830 = .ok (.pop, 1) := by decide +kernel
theorem dL_law_831 : decode cL_law 831 = .ok (.aload_n 2, 1) := by decide +kernel
theorem dL_law_832 : decode cL_law 832 = .ok (.invokevirtual 110, 3) := by decide +kernel
theorem dL_law_835 : decode cL_law 835 = .ok (.pop, 1) := by decide +kernel
theorem dL_law_836 : decode cL_law 836 = .ok (.goto 468, 3) := by decide +kernel
theorem dL_law_839 : decode cL_law 839 = .ok (.aload_n 1, 1) := by decide +kernel
theorem dL_law_840 : decode cL_law 840 = .ok (.aload_n 0, 1) := by decide +kernel
theorem dL_law_841 : decode cL_law 841 = .ok (.iload_n 3, 1) := by decide +kernel
theorem dL_law_842 : decode cL_law 842 = .ok (.iconst 1, 1) := by decide +kernel
theorem dL_law_843 : decode cL_law 843 = .ok (.iadd, 1) := by decide +kernel
theorem dL_law_844 : decode cL_law 844 = .ok (.iaload, 1) := by decide +kernel
theorem dL_law_845 : decode cL_law 845 = .ok (.invokevirtual 111, 3) := by decide +kernel
theorem dL_law_848 : decode cL_law 848 = .ok (.pop, 1) := by decide +kernel
theorem dL_law_849 : decode cL_law 849 = .ok (.aload_n 2, 1) := by decide +kernel
theorem dL_law_850 : decode cL_law 850 = .ok (.aload_n 0, 1) := by decide +kernel
theorem dL_law_851 : decode cL_law 851 = .ok (.iload_n 3, 1) := by decide +kernel
theorem dL_law_852 : decode cL_law 852 = .ok (.iconst 1, 1) := by decide +kernel
theorem dL_law_853 : decode cL_law 853 = .ok (.iadd, 1) := by decide +kernel
theorem dL_law_854 : decode cL_law 854 = .ok (.iaload, 1) := by decide +kernel
theorem dL_law_855 : decode cL_law 855 = .ok (.invokevirtual 114, 3) := by decide +kernel
theorem dL_law_858 : decode cL_law 858 = .ok (.pop, 1) := by decide +kernel
theorem dL_law_859 : decode cL_law 859 = .ok (.goto 445, 3) := by decide +kernel
theorem dL_law_862 : decode cL_law 862 = .ok (.aload_n 1, 1) := by decide +kernel
theorem dL_law_863 : decode cL_law 863 = .ok (.aload_n 0, 1) := by decide +kernel
theorem dL_law_864 : decode cL_law 864 = .ok (.iload_n 3, 1) := by decide +kernel
theorem dL_law_865 : decode cL_law 865 = .ok (.iconst 1, 1) := by decide +kernel
theorem dL_law_866 : decode cL_law 866 = .ok (.iadd, 1) := by decide +kernel
theorem dL_law_867 : decode cL_law 867 = .ok (.iaload, 1) := by decide +kernel
theorem dL_law_868 : decode cL_law 868 = .ok (.aload_n 0, 1) := by decide +kernel
theorem dL_law_869 : decode cL_law 869 = .ok (.iload_n 3, 1) := by decide +kernel
theorem dL_law_870 : decode cL_law 870 = .ok (.iconst 2, 1) := by decide +kernel
theorem dL_law_871 : decode cL_law 871 = .ok (.iadd, 1) := by decide +kernel
theorem dL_law_872 : decode cL_law 872 = .ok (.iaload, 1) := by decide +kernel
theorem dL_law_873 : decode cL_law 873 = .ok (.aload_n 0, 1) := by decide +kernel
theorem dL_law_874 : decode cL_law 874 = .ok (.iload_n 3, 1) := by decide +kernel
theorem dL_law_875 : decode cL_law 875 = .ok (.iconst 3, 1) := by decide +kernel
theorem dL_law_876 : decode cL_law 876 = .ok (.iadd, 1) := by decide +kernel
theorem dL_law_877 : decode cL_law 877 = .ok (.iaload, 1) := by decide +kernel
theorem dL_law_878 : decode cL_law 878 = .ok (.aload_n 0, 1) := by decide +kernel
theorem dL_law_879 : decode cL_law 879 = .ok (.iload_n 3, 1) := by decide +kernel
theorem dL_law_880 : decode cL_law 880 = .ok (.iconst 4, 1) := by decide +kernel
theorem dL_law_881 : decode cL_law 881 = .ok (.iadd, 1) := by decide +kernel
theorem dL_law_882 : decode cL_law 882 = .ok (.iaload, 1) := by decide +kernel
theorem dL_law_883 : decode cL_law 883 = .ok (.invokevirtual 115, 3) := by decide +kernel
theorem dL_law_886 : decode cL_law 886 = .ok (.pop, 1) := by decide +kernel
theorem dL_law_887 : decode cL_law 887 = .ok (.aload_n 2, 1) := by decide +kernel
theorem dL_law_888 : decode cL_law 888 = .ok (.aload_n 0, 1) := by decide +kernel
theorem dL_law_889 : decode cL_law 889 = .ok (.iload_n 3, 1) := by decide +kernel
theorem dL_law_890 : decode cL_law 890 = .ok (.iconst 1, 1) := by decide +kernel
theorem dL_law_891 : decode cL_law 891 = .ok (.iadd, 1) := by decide +kernel
theorem dL_law_892 : decode cL_law 892 = .ok (.iaload, 1) := by decide +kernel
theorem dL_law_893 : decode cL_law 893 = .ok (.aload_n 0, 1) := by decide +kernel
theorem dL_law_894 : decode cL_law 894 = .ok (.iload_n 3, 1) := by decide +kernel
theorem dL_law_895 : decode cL_law 895 = .ok (.iconst 2, 1) := by decide +kernel
theorem dL_law_896 : decode cL_law 896 = .ok (.iadd, 1) := by decide +kernel
theorem dL_law_897 : decode cL_law 897 = .ok (.iaload, 1) := by decide +kernel
theorem dL_law_898 : decode cL_law 898 = .ok (.aload_n 0, 1) := by decide +kernel
theorem dL_law_899 : decode cL_law 899 = .ok (.iload_n 3, 1) := by decide +kernel
theorem dL_law_900 : decode cL_law 900 = .ok (.iconst 3, 1) := by decide +kernel
theorem dL_law_901 : decode cL_law 901 = .ok (.iadd, 1) := by decide +kernel
theorem dL_law_902 : decode cL_law 902 = .ok (.iaload, 1) := by decide +kernel
theorem dL_law_903 : decode cL_law 903 = .ok (.aload_n 0, 1) := by decide +kernel
theorem dL_law_904 : decode cL_law 904 = .ok (.iload_n 3, 1) := by decide +kernel
theorem dL_law_905 : decode cL_law 905 = .ok (.iconst 4, 1) := by decide +kernel
theorem dL_law_906 : decode cL_law 906 = .ok (.iadd, 1) := by decide +kernel
theorem dL_law_907 : decode cL_law 907 = .ok (.iaload, 1) := by decide +kernel
theorem dL_law_908 : decode cL_law 908 = .ok (.invokevirtual 118, 3) := by decide +kernel
theorem dL_law_911 : decode cL_law 911 = .ok (.pop, 1) := by decide +kernel
theorem dL_law_912 : decode cL_law 912 = .ok (.goto 392, 3) := by decide +kernel
theorem dL_law_915 : decode cL_law 915 = .ok (.aload_n 1, 1) := by decide +kernel
theorem dL_law_916 : decode cL_law 916 = .ok (.aload_n 0, 1) := by decide +kernel
theorem dL_law_917 : decode cL_law 917 = .ok (.iload_n 3, 1) := by decide +kernel
theorem dL_law_918 : decode cL_law 918 = .ok (.iconst 1, 1) := by decide +kernel
theorem dL_law_919 : decode cL_law 919 = .ok (.iadd, 1) := by decide +kernel
theorem dL_law_920 : decode cL_law 920 = .ok (.iaload, 1) := by decide +kernel
theorem dL_law_921 : decode cL_law 921 = .ok (.aload_n 0, 1) := by decide +kernel
theorem dL_law_922 : decode cL_law 922 = .ok (.iload_n 3, 1) := by decide +kernel
theorem dL_law_923 : decode cL_law 923 = .ok (.iconst 2, 1) := by decide +kernel
theorem dL_law_924 : decode cL_law 924 = .ok (.iadd, 1) := by decide +kernel
theorem dL_law_925 : decode cL_law 925 = .ok (.iaload, 1) := by decide +kernel
theorem dL_law_926 : decode cL_law 926 = .ok (.invokevirtual 119, 3) := by decide +kernel
theorem dL_law_929 : decode cL_law 929 = .ok (.pop, 1) := by decide +kernel
theorem dL_law_930 : decode cL_law 930 = .ok (.aload_n 2, 1) := by decide +kernel
theorem dL_law_931 : decode cL_law 931 = .ok (.aload_n 0, 1) := by decide +kernel
theorem dL_law_932 : decode cL_law 932 = .ok (.iload_n 3, 1) := by decide +kernel
theorem dL_law_933 : decode cL_law 933 = .ok (.iconst 1, 1) := by decide +kernel
theorem dL_law_934 : decode cL_law 934 = .ok (.iadd, 1) := by decide +kernel
theorem dL_law_935 : decode cL_law 935 = .ok (.iaload, 1) := by decide +kernel
theorem dL_law_936 : decode cL_law 936 = .ok (.aload_n 0, 1) := by decide +kernel
theorem dL_law_937 : decode cL_law 937 = .ok (.iload_n 3, 1) := by decide +kernel
theorem dL_law_938 : decode cL_law 938 = .ok (.iconst 2, 1) := by decide +kernel
theorem dL_law_939 : decode cL_law 939 = .ok (.iadd, 1) := by decide +kernel
theorem dL_law_940 : decode cL_law 940 = .ok (.iaload, 1) := by decide +kernel
theorem dL_law_941 : decode cL_law 941 = .ok (.invokevirtual 122, 3) := by decide +kernel
theorem dL_law_944 : decode cL_law 944 = .ok (.pop, 1) := by decide +kernel
theorem dL_law_945 : decode cL_law 945 = .ok (.goto 359, 3) := by decide +kernel
theorem dL_law_948 : decode cL_law 948 = .ok (.aload_n 1, 1) := by decide +kernel
theorem dL_law_949 : decode cL_law 949 = .ok (.aload_n 0, 1) := by decide +kernel
theorem dL_law_950 : decode cL_law 950 = .ok (.iload_n 3, 1) := by decide +kernel
theorem dL_law_951 : decode cL_law 951 = .ok (.iconst 1, 1) := by decide +kernel
theorem dL_law_952 : decode cL_law 952 = .ok (.iadd, 1) := by decide +kernel
theorem dL_law_953 : decode cL_law 953 = .ok (.iaload, 1) := by decide +kernel
theorem dL_law_954 : decode cL_law 954 = .ok (.aload_n 0, 1) := by decide +kernel
theorem dL_law_955 : decode cL_law 955 = .ok (.iload_n 3, 1) := by decide +kernel
theorem dL_law_956 : decode cL_law 956 = .ok (.iconst 2, 1) := by decide +kernel
theorem dL_law_957 : decode cL_law 957 = .ok (.iadd, 1) := by decide +kernel
theorem dL_law_958 : decode cL_law 958 = .ok (.iaload, 1) := by decide +kernel
theorem dL_law_959 : decode cL_law 959 = .ok (.aload_n 0, 1) := by decide +kernel
theorem dL_law_960 : decode cL_law 960 = .ok (.iload_n 3, 1) := by decide +kernel
theorem dL_law_961 : decode cL_law 961 = .ok (.iconst 3, 1) := by decide +kernel
theorem dL_law_962 : decode cL_law 962 = .ok (.iadd, 1) := by decide +kernel
theorem dL_law_963 : decode cL_law 963 = .ok (.iaload, 1) := by decide +kernel
theorem dL_law_964 : decode cL_law 964 = .ok (.invokevirtual 123, 3) := by decide +kernel
theorem dL_law_967 : decode cL_law 967 = .ok (.pop, 1) := by decide +kernel
theorem dL_law_968 : decode cL_law 968 = .ok (.aload_n 2, 1) := by decide +kernel
theorem dL_law_969 : decode cL_law 969 = .ok (.aload_n 0, 1) := by decide +kernel
theorem dL_law_970 : decode cL_law 970 = .ok (.iload_n 3, 1) := by decide +kernel
theorem dL_law_971 : decode cL_law 971 = .ok (.iconst 1, 1) := by decide +kernel
theorem dL_law_972 : decode cL_law 972 = .ok (.iadd, 1) := by decide +kernel
theorem dL_law_973 : decode cL_law 973 = .ok (.iaload, 1) := by decide +kernel
theorem dL_law_974 : decode cL_law 974 = .ok (.aload_n 0, 1) := by decide +kernel
theorem dL_law_975 : decode cL_law 975 = .ok (.iload_n 3, 1) := by decide +kernel
theorem dL_law_976 : decode cL_law 976 = .ok (.iconst 2, 1) := by decide +kernel
theorem dL_law_977 : decode cL_law 977 = .ok (.iadd, 1) := by decide +kernel
theorem dL_law_978 : decode cL_law 978 = .ok (.iaload, 1) := by decide +kernel
theorem dL_law_979 : decode cL_law 979 = .ok (.aload_n 0, 1) := by decide +kernel
theorem dL_law_980 : decode cL_law 980 = .ok (.iload_n 3, 1) := by decide +kernel
theorem dL_law_981 : decode cL_law 981 = .ok (.iconst 3, 1) := by decide +kernel
theorem dL_law_982 : decode cL_law 982 = .ok (.iadd, 1) := by decide +kernel
theorem dL_law_983 : decode cL_law 983 = .ok (.iaload, 1) := by decide +kernel
theorem dL_law_984 : decode cL_law 984 = .ok (.invokevirtual 126, 3) := by decide +kernel
theorem dL_law_987 : decode cL_law 987 = .ok (.pop, 1) := by decide +kernel
theorem dL_law_988 : decode cL_law 988 = .ok (.goto 316, 3) := by decide +kernel
theorem dL_law_991 : decode cL_law 991 = .ok (.aload_n 1, 1) := by decide +kernel
theorem dL_law_992 : decode cL_law 992 = .ok (.aload_n 0, 1) := by decide +kernel
theorem dL_law_993 : decode cL_law 993 = .ok (.iload_n 3, 1) := by decide +kernel
theorem dL_law_994 : decode cL_law 994 = .ok (.iconst 1, 1) := by decide +kernel
theorem dL_law_995 : decode cL_law 995 = .ok (.iadd, 1) := by decide +kernel
theorem dL_law_996 : decode cL_law 996 = .ok (.iaload, 1) := by decide +kernel
theorem dL_law_997 : decode cL_law 997 = .ok (.invokevirtual 127, 3) := by decide +kernel
theorem dL_law_1000 : decode cL_law 1000 = .ok (.pop, 1) := by decide +kernel
theorem dL_law_1001 : decode cL_law 1001 = .ok (.aload_n 2, 1) := by decide +kernel
theorem dL_law_1002 : decode cL_law 1002 = .ok (.aload_n 0, 1) := by decide +kernel
theorem dL_law_1003 : decode cL_law 1003 = .ok (.iload_n 3, 1) := by decide +kernel
theorem dL_law_1004 : decode cL_law 1004 = .ok (.iconst 1, 1) := by decide +kernel
theorem dL_law_1005 : decode cL_law 1005 = .ok (.iadd, 1) := by decide +kernel
theorem dL_law_1006 : decode cL_law 1006 = .ok (.iaload, 1) := by decide +kernel
theorem dL_law_1007 : decode cL_law 1007 = .ok (.invokevirtual 130, 3) := by decide +kernel
theorem dL_law_1010 : decode cL_law 1010 = .ok (.pop, 1) := by decide +kernel
theorem dL_law_1011 : decode cL_law 1011 = .ok (.goto 293, 3) := by decide +kernel
theorem dL_law_1014 : decode cL_law 1014 = .ok (.aload_n 1, 1) := by decide +kernel
theorem dL_law_1015 : decode cL_law 1015 = .ok (.aload_n 0, 1) := by decide +kernel
theorem dL_law_1016 : decode cL_law 1016 = .ok (.iload_n 3, 1) := by decide +kernel
theorem dL_law_1017 : decode cL_law 1017 = .ok (.iconst 1, 1) := by decide +kernel
theorem dL_law_1018 : decode cL_law 1018 = .ok (.iadd, 1) := by decide +kernel
theorem dL_law_1019 : decode cL_law 1019 = .ok (.iaload, 1) := by decide +kernel
theorem dL_law_1020 : decode cL_law 1020 = .ok (.aload_n 0, 1) := by decide +kernel
theorem dL_law_1021 : decode cL_law 1021 = .ok (.iload_n 3, 1) := by decide +kernel
theorem dL_law_1022 : decode cL_law 1022 = .ok (.iconst 2, 1) := by decide +kernel
theorem dL_law_1023 : decode cL_law 1023 = .ok (.iadd, 1) := by decide +kernel
theorem dL_law_1024 : decode cL_law 1024 = .ok (.iaload, 1) := by decide +kernel
theorem dL_law_1025 : decode cL_law 1025 = .ok (.invokevirtual 131, 3) := by decide +kernel
theorem dL_law_1028 : decode cL_law 1028 = .ok (.pop, 1) := by decide +kernel
theorem dL_law_1029 : decode cL_law 1029 = .ok (.aload_n 2, 1) := by decide +kernel
theorem dL_law_1030 : decode cL_law 1030 = .ok (.aload_n 0, 1) := by decide +kernel
theorem dL_law_1031 : decode cL_law 1031 = .ok (.iload_n 3, 1) := by decide +kernel
theorem dL_law_1032 : decode cL_law 1032 = .ok (.iconst 1, 1) := by decide +kernel
theorem dL_law_1033 : decode cL_law 1033 = .ok (.iadd, 1) := by decide +kernel
theorem dL_law_1034 : decode cL_law 1034 = .ok (.iaload, 1) := by decide +kernel
theorem dL_law_1035 : decode cL_law 1035 = .ok (.aload_n 0, 1) := by decide +kernel
theorem dL_law_1036 : decode cL_law 1036 = .ok (.iload_n 3, 1) := by decide +kernel
theorem dL_law_1037 : decode cL_law 1037 = .ok (.iconst 2, 1) := by decide +kernel
theorem dL_law_1038 : decode cL_law 1038 = .ok (.iadd, 1) := by decide +kernel
theorem dL_law_1039 : decode cL_law 1039 = .ok (.iaload, 1) := by decide +kernel
theorem dL_law_1040 : decode cL_law 1040 = .ok (.invokevirtual 134, 3) := by decide +kernel
theorem dL_law_1043 : decode cL_law 1043 = .ok (.pop, 1) := by decide +kernel
theorem dL_law_1044 : decode cL_law 1044 = .ok (.goto 260, 3) := by decide +kernel
theorem dL_law_1047 : decode cL_law 1047 = .ok (.aload_n 1, 1) := by decide +kernel
theorem dL_law_1048 : decode cL_law 1048 = .ok (.aload_n 0, 1) := by decide +kernel
theorem dL_law_1049 : decode cL_law 1049 = .ok (.iload_n 3, 1) := by decide +kernel
theorem dL_law_1050 : decode cL_law 1050 = .ok (.iconst 1, 1) := by decide +kernel
theorem dL_law_1051 : decode cL_law 1051 = .ok (.iadd, 1) := by decide +kernel
theorem dL_law_1052 : decode cL_law 1052 = .ok (.iaload, 1) := by decide +kernel
theorem dL_law_1053 : decode cL_law 1053 = .ok (.aload_n 0, 1) := by decide +kernel
theorem dL_law_1054 : decode cL_law 1054 = .ok (.iload_n 3, 1) := by decide +kernel
theorem dL_law_1055 : decode cL_law 1055 = .ok (.iconst 2, 1) := by decide +kernel
theorem dL_law_1056 : decode cL_law 1056 = .ok (.iadd, 1) := by decide +kernel
theorem dL_law_1057 : decode cL_law 1057 = .ok (.iaload, 1) := by decide +kernel
theorem dL_law_1058 : decode cL_law 1058 = .ok (.aload_n 0, 1) := by decide +kernel
theorem dL_law_1059 : decode cL_law 1059 = .ok (.iload_n 3, 1) := by decide +kernel
theorem dL_law_1060 : decode cL_law 1060 = .ok (.iconst 3, 1) := by decide +kernel
theorem dL_law_1061 : decode cL_law 1061 = .ok (.iadd, 1) := by decide +kernel
theorem dL_law_1062 : decode cL_law 1062 = .ok (.iaload, 1) := by decide +kernel
theorem dL_law_1063 : decode cL_law 1063 = .ok (.invokevirtual 135, 3) := by decide +kernel
theorem dL_law_1066 : decode cL_law 1066 = .ok (.pop, 1) := by decide +kernel
theorem dL_law_1067 : decode cL_law 1067 = .ok (.aload_n 2, 1) := by decide +kernel
theorem dL_law_1068 : decode cL_law 1068 = .ok (.aload_n 0, 1) := by decide +kernel
theorem dL_law_1069 : decode cL_law 1069 = .ok (.iload_n 3, 1) := by decide +kernel
theorem dL_law_1070 : decode cL_law 1070 = .ok (.iconst 1, 1) := by decide +kernel
theorem dL_law_1071 : decode cL_law 1071 = .ok (.iadd, 1) := by decide +kernel
theorem dL_law_1072 : decode cL_law 1072 = .ok (.iaload, 1) := by decide +kernel
theorem dL_law_1073 : decode cL_law 1073 = .ok (.aload_n 0, 1) := by decide +kernel
theorem dL_law_1074 : decode cL_law 1074 = .ok (.iload_n 3, 1) := by decide +kernel
theorem dL_law_1075 : decode cL_law 1075 = .ok (.iconst 2, 1) := by decide +kernel
theorem dL_law_1076 : decode cL_law 1076 = .ok (.iadd, 1) := by decide +kernel
theorem dL_law_1077 : decode cL_law 1077 = .ok (.iaload, 1) := by decide +kernel
theorem dL_law_1078 : decode cL_law 1078 = .ok (.aload_n 0, 1) := by decide +kernel
theorem dL_law_1079 : decode cL_law 1079 = .ok (.iload_n 3, 1) := by decide +kernel
theorem dL_law_1080 : decode cL_law 1080 = .ok (.iconst 3, 1) := by decide +kernel
theorem dL_law_1081 : decode cL_law 1081 = .ok (.iadd, 1) := by decide +kernel
theorem dL_law_1082 : decode cL_law 1082 = .ok (.iaload, 1) := by decide +kernel
theorem dL_law_1083 : decode cL_law 1083 = .ok (.invokevirtual 138, 3) := by decide +kernel
theorem dL_law_1086 : decode cL_law 1086 = .ok (.pop, 1) := by decide +kernel
theorem dL_law_1087 : decode cL_law 1087 = .ok (.goto 217, 3) := by decide +kernel
theorem dL_law_1090 : decode cL_law 1090 = .ok (.aload_n 1, 1) := by decide +kernel
theorem dL_law_1091 : decode cL_law 1091 = .ok (.aload_n 0, 1) := by decide +kernel
theorem dL_law_1092 : decode cL_law 1092 = .ok (.iload_n 3, 1) := by decide +kernel
theorem dL_law_1093 : decode cL_law 1093 = .ok (.iconst 1, 1) := by decide +kernel
theorem dL_law_1094 : decode cL_law 1094 = .ok (.iadd, 1) := by decide +kernel
theorem dL_law_1095 : decode cL_law 1095 = .ok (.iaload, 1) := by decide +kernel
theorem dL_law_1096 : decode cL_law 1096 = .ok (.aload_n 0, 1) := by decide +kernel
theorem dL_law_1097 : decode cL_law 1097 = .ok (.iload_n 3, 1) := by decide +kernel
theorem dL_law_1098 : decode cL_law 1098 = .ok (.iconst 2, 1) := by decide +kernel
theorem dL_law_1099 : decode cL_law 1099 = .ok (.iadd, 1) := by decide +kernel
theorem dL_law_1100 : decode cL_law 1100 = .ok (.iaload, 1) := by decide +kernel
theorem dL_law_1101 : decode cL_law 1101 = .ok (.aload_n 0, 1) := by decide +kernel
theorem dL_law_1102 : decode cL_law 1102 = .ok (.iload_n 3, 1) := by decide +kernel
theorem dL_law_1103 : decode cL_law 1103 = .ok (.iconst 3, 1) := by decide +kernel
theorem dL_law_1104 : decode cL_law 1104 = .ok (.iadd, 1) := by decide +kernel
theorem dL_law_1105 : decode cL_law 1105 = .ok (.iaload, 1) := by decide +kernel
theorem dL_law_1106 : decode cL_law 1106 = .ok (.invokevirtual 139, 3) := by decide +kernel
theorem dL_law_1109 : decode cL_law 1109 = .ok (.pop, 1) := by decide +kernel
theorem dL_law_1110 : decode cL_law 1110 = .ok (.aload_n 2, 1) := by decide +kernel
theorem dL_law_1111 : decode cL_law 1111 = .ok (.aload_n 0, 1) := by decide +kernel
theorem dL_law_1112 : decode cL_law 1112 = .ok (.iload_n 3, 1) := by decide +kernel
theorem dL_law_1113 : decode cL_law 1113 = .ok (.iconst 1, 1) := by decide +kernel
theorem dL_law_1114 : decode cL_law 1114 = .ok (.iadd, 1) := by decide +kernel
theorem dL_law_1115 : decode cL_law 1115 = .ok (.iaload, 1) := by decide +kernel
theorem dL_law_1116 : decode cL_law 1116 = .ok (.aload_n 0, 1) := by decide +kernel
theorem dL_law_1117 : decode cL_law 1117 = .ok (.iload_n 3, 1) := by decide +kernel
theorem dL_law_1118 : decode cL_law 1118 = .ok (.iconst 2, 1) := by decide +kernel
theorem dL_law_1119 : decode cL_law 1119 = .ok (.iadd, 1) := by decide +kernel
theorem dL_law_1120 : decode cL_law 1120 = .ok (.iaload, 1) := by decide +kernel
theorem dL_law_1121 : decode cL_law 1121 = .ok (.aload_n 0, 1) := by decide +kernel
theorem dL_law_1122 : decode cL_law 1122 = .ok (.iload_n 3, 1) := by decide +kernel
theorem dL_law_1123 : decode cL_law 1123 = .ok (.iconst 3, 1) := by decide +kernel
theorem dL_law_1124 : decode cL_law 1124 = .ok (.iadd, 1) := by decide +kernel
theorem dL_law_1125 : decode cL_law 1125 = .ok (.iaload, 1) := by decide +kernel
theorem dL_law_1126 : decode cL_law 1126 = .ok (.invokevirtual 142, 3) := by decide +kernel
theorem dL_law_1129 : decode cL_law 1129 = .ok (.pop, 1) := by decide +kernel
theorem dL_law_1130 : decode cL_law 1130 = .ok (.goto 174, 3) := by decide +kernel
theorem dL_law_1133 : decode cL_law 1133 = .ok (.aload_n 1, 1) := by decide +kernel
theorem dL_law_1134 : decode cL_law 1134 = .ok (.aload_n 0, 1) := by decide +kernel
theorem dL_law_1135 : decode cL_law 1135 = .ok (.iload_n 3, 1) := by decide +kernel
theorem dL_law_1136 : decode cL_law 1136 = .ok (.iconst 1, 1) := by decide +kernel
theorem dL_law_1137 : decode cL_law 1137 = .ok (.iadd, 1) := by decide +kernel
theorem dL_law_1138 : decode cL_law 1138 = .ok (.iaload, 1) := by decide +kernel
theorem dL_law_1139 : decode cL_law 1139 = .ok (.invokevirtual 143, 3) := by decide +kernel
theorem dL_law_1142 : decode cL_law 1142 = .ok (.pop, 1) := by decide +kernel
theorem dL_law_1143 : decode cL_law 1143 = .ok (.aload_n 2, 1) := by decide +kernel
theorem dL_law_1144 : decode cL_law 1144 = .ok (.aload_n 0, 1) := by decide +kernel
theorem dL_law_1145 : decode cL_law 1145 = .ok (.iload_n 3, 1) := by decide +kernel
theorem dL_law_1146 : decode cL_law 1146 = .ok (.iconst 1, 1) := by decide +kernel
theorem dL_law_1147 : decode cL_law 1147 = .ok (.iadd, 1) := by decide +kernel
theorem dL_law_1148 : decode cL_law 1148 = .ok (.iaload, 1) := by decide +kernel
theorem dL_law_1149 : decode cL_law 1149 = .ok (.invokevirtual 146, 3) := by decide +kernel
theorem dL_law_1152 : decode cL_law 1152 = .ok (.pop, 1) := by decide +kernel
theorem dL_law_1153 : decode cL_law 1153 = .ok (.goto 151, 3) := by decide +kernel
theorem dL_law_1156 : decode cL_law 1156 = .ok (.aload_n 1, 1) := by decide +kernel
theorem dL_law_1157 : decode cL_law 1157 = .ok (.aload_n 0, 1) := by decide +kernel
theorem dL_law_1158 : decode cL_law 1158 = .ok (.iload_n 3, 1) := by decide +kernel
theorem dL_law_1159 : decode cL_law 1159 = .ok (.iconst 1, 1) := by decide +kernel
theorem dL_law_1160 : decode cL_law 1160 = .ok (.iadd, 1) := by decide +kernel
theorem dL_law_1161 : decode cL_law 1161 = .ok (.iaload, 1) := by decide +kernel
theorem dL_law_1162 : decode cL_law 1162 = .ok (.aload_n 0, 1) := by decide +kernel
theorem dL_law_1163 : decode cL_law 1163 = .ok (.iload_n 3, 1) := by decide +kernel
theorem dL_law_1164 : decode cL_law 1164 = .ok (.iconst 2, 1) := by decide +kernel
theorem dL_law_1165 : decode cL_law 1165 = .ok (.iadd, 1) := by decide +kernel
theorem dL_law_1166 : decode cL_law 1166 = .ok (.iaload, 1) := by decide +kernel
theorem dL_law_1167 : decode cL_law 1167 = .ok (.invokevirtual 147, 3) := by decide +kernel
theorem dL_law_1170 : decode cL_law 1170 = .ok (.pop, 1) := by decide +kernel
theorem dL_law_1171 : decode cL_law 1171 = .ok (.aload_n 2, 1) := by decide +kernel
theorem dL_law_1172 : decode cL_law 1172 = .ok (.aload_n 0, 1) := by decide +kernel
theorem dL_law_1173 : decode cL_law 1173 = .ok (.iload_n 3, 1) := by decide +kernel
theorem dL_law_1174 : decode cL_law 1174 = .ok (.iconst 1, 1) := by decide +kernel
theorem dL_law_1175 : decode cL_law 1175 = .ok (.iadd, 1) := by decide +kernel
theorem dL_law_1176 : decode cL_law 1176 = .ok (.iaload, 1) := by decide +kernel
theorem dL_law_1177 : decode cL_law 1177 = .ok (.aload_n 0, 1) := by decide +kernel
theorem dL_law_1178 : decode cL_law 1178 = .ok (.iload_n 3, 1) := by decide +kernel
theorem dL_law_1179 : decode cL_law 1179 = .ok (.iconst 2, 1) := by decide +kernel
theorem dL_law_1180 : decode cL_law 1180 = .ok (.iadd, 1) := by decide +kernel
theorem dL_law_1181 : decode cL_law 1181 = .ok (.iaload, 1) := by decide +kernel
theorem dL_law_1182 : decode cL_law 1182 = .ok (.invokevirtual 150, 3) := by decide +kernel
theorem dL_law_1185 : decode cL_law 1185 = .ok (.pop, 1) := by decide +kernel
theorem dL_law_1186 : decode cL_law 1186 = .ok (.goto 118, 3) := by decide +kernel
theorem dL_law_1189 : decode cL_law 1189 = .ok (.aload_n 1, 1) := by decide +kernel
theorem dL_law_1190 : decode cL_law 1190 = .ok (.aload_n 0, 1) := by decide +kernel
theorem dL_law_1191 : decode cL_law 1191 = .ok (.iload_n 3, 1) := by decide +kernel
theorem dL_law_1192 : decode cL_law 1192 = .ok (.iconst 1, 1) := by decide +kernel
theorem dL_law_1193 : decode cL_law 1193 = .ok (.iadd, 1) := by decide +kernel
theorem dL_law_1194 : decode cL_law 1194 = .ok (.iaload, 1) := by decide +kernel
theorem dL_law_1195 : decode cL_law 1195 = .ok (.aload_n 0, 1) := by decide +kernel
theorem dL_law_1196 : decode cL_law 1196 = .ok (.iload_n 3, 1) := by decide +kernel
theorem dL_law_1197 : decode cL_law 1197 = .ok (.iconst 2, 1) := by decide +kernel
theorem dL_law_1198 : decode cL_law 1198 = .ok (.iadd, 1) := by decide +kernel
theorem dL_law_1199 : decode cL_law 1199 = .ok (.iaload, 1) := by decide +kernel
theorem dL_law_1200 : decode cL_law 1200 = .ok (.invokevirtual 151, 3) := by decide +kernel
theorem dL_law_1203 : decode cL_law 1203 = .ok (.pop, 1) := by decide +kernel
theorem dL_law_1204 : decode cL_law 1204 = .ok (.aload_n 2, 1) := by decide +kernel
theorem dL_law_1205 : decode cL_law 1205 = .ok (.aload_n 0, 1) := by decide +kernel
theorem dL_law_1206 : decode cL_law 1206 = .ok (.iload_n 3, 1) := by decide +kernel
theorem dL_law_1207 : decode cL_law 1207 = .ok (.iconst 1, 1) := by decide +kernel
theorem dL_law_1208 : decode cL_law 1208 = .ok (.iadd, 1) := by decide +kernel
theorem dL_law_1209 : decode cL_law 1209 = .ok (.iaload, 1) := by decide +kernel
theorem dL_law_1210 : decode cL_law 1210 = .ok (.aload_n 0, 1) := by decide +kernel
theorem dL_law_1211 : decode cL_law 1211 = .ok (.iload_n 3, 1) := by decide +kernel
theorem dL_law_1212 : decode cL_law 1212 = .ok (.iconst 2, 1) := by decide +kernel
theorem dL_law_1213 : decode cL_law 1213 = .ok (.iadd, 1) := by decide +kernel
theorem dL_law_1214 : decode cL_law 1214 = .ok (.iaload, 1) := by decide +kernel
theorem dL_law_1215 : decode cL_law 1215 = .ok (.invokevirtual 154, 3) := by decide +kernel
theorem dL_law_1218 : decode cL_law 1218 = .ok (.pop, 1) := by decide +kernel
theorem dL_law_1219 : decode cL_law 1219 = .ok (.goto 85, 3) := by decide +kernel
theorem dL_law_1222 : decode cL_law 1222 = .ok (.aload_n 1, 1) := by decide +kernel
theorem dL_law_1223 : decode cL_law 1223 = .ok (.aload_n 0, 1) := by decide +kernel
theorem dL_law_1224 : decode cL_law 1224 = .ok (.iload_n 3, 1) := by decide +kernel
theorem dL_law_1225 : decode cL_law 1225 = .ok (.iconst 1, 1) := by decide +kernel
theorem dL_law_1226 : decode cL_law 1226 = .ok (.iadd, 1) := by decide +kernel
theorem dL_law_1227 : decode cL_law 1227 = .ok (.iaload, 1) := by decide +kernel
theorem dL_law_1228 : decode cL_law 1228 = .ok (.invokevirtual 155, 3) := by decide +kernel
theorem dL_law_1231 : decode cL_law 1231 = .ok (.pop, 1) := by decide +kernel
theorem dL_law_1232 : decode cL_law 1232 = .ok (.aload_n 2, 1) := by decide +kernel
theorem dL_law_1233 : decode cL_law 1233 = .ok (.aload_n 0, 1) := by decide +kernel
theorem dL_law_1234 : decode cL_law 1234 = .ok (.iload_n 3, 1) := by decide +kernel
theorem dL_law_1235 : decode cL_law 1235 = .ok (.iconst 1, 1) := by decide +kernel
theorem dL_law_1236 : decode cL_law 1236 = .ok (.iadd, 1) := by decide +kernel
theorem dL_law_1237 : decode cL_law 1237 = .ok (.iaload, 1) := by decide +kernel
theorem dL_law_1238 : decode cL_law 1238 = .ok (.invokevirtual 158, 3) := by decide +kernel
theorem dL_law_1241 : decode cL_law 1241 = .ok (.pop, 1) := by decide +kernel
theorem dL_law_1242 : decode cL_law 1242 = .ok (.goto 62, 3) := by decide +kernel
theorem dL_law_1245 : decode cL_law 1245 = .ok (.aload_n 1, 1) := by decide +kernel
theorem dL_law_1246 : decode cL_law 1246 = .ok (.aload_n 0, 1) := by decide +kernel
theorem dL_law_1247 : decode cL_law 1247 = .ok (.iload_n 3, 1) := by decide +kernel
theorem dL_law_1248 : decode cL_law 1248 = .ok (.iconst 1, 1) := by decide +kernel
theorem dL_law_1249 : decode cL_law 1249 = .ok (.iadd, 1) := by decide +kernel
theorem dL_law_1250 : decode cL_law 1250 = .ok (.iaload, 1) := by decide +kernel
theorem dL_law_1251 : decode cL_law 1251 = .ok (.invokevirtual 159, 3) := by decide +kernel
theorem dL_law_1254 : decode cL_law 1254 = .ok (.pop, 1) := by decide +kernel
theorem dL_law_1255 : decode cL_law 1255 = .ok (.aload_n 2, 1) := by decide +kernel
theorem dL_law_1256 : decode cL_law 1256 = .ok (.aload_n 0, 1) := by decide +kernel
theorem dL_law_1257 : decode cL_law 1257 = .ok (.iload_n 3, 1) := by decide +kernel
theorem dL_law_1258 : decode cL_law 1258 = .ok (.iconst 1, 1) := by decide +kernel
theorem dL_law_1259 : decode cL_law 1259 = .ok (.iadd, 1) := by decide +kernel
theorem dL_law_1260 : decode cL_law 1260 = .ok (.iaload, 1) := by decide +kernel
theorem dL_law_1261 : decode cL_law 1261 = .ok (.invokevirtual 162, 3) := by decide +kernel
theorem dL_law_1264 : decode cL_law 1264 = .ok (.pop, 1) := by decide +kernel
theorem dL_law_1265 : decode cL_law 1265 = .ok (.goto 39, 3) := by decide +kernel
theorem dL_law_1268 : decode cL_law 1268 = .ok (.aload_n 1, 1) := by decide +kernel
theorem dL_law_1269 : decode cL_law 1269 = .ok (.aload_n 0, 1) := by decide +kernel
theorem dL_law_1270 : decode cL_law 1270 = .ok (.iload_n 3, 1) := by decide +kernel
theorem dL_law_1271 : decode cL_law 1271 = .ok (.iconst 1, 1) := by decide +kernel
theorem dL_law_1272 : decode cL_law 1272 = .ok (.iadd, 1) := by decide +kernel
theorem dL_law_1273 : decode cL_law 1273 = .ok (.iaload, 1) := by decide +kernel
theorem dL_law_1274 : decode cL_law 1274 = .ok (.invokevirtual 163, 3) := by decide +kernel
theorem dL_law_1277 : decode cL_law 1277 = .ok (.pop, 1) := by decide +kernel
theorem dL_law_1278 : decode cL_law 1278 = .ok (.aload_n 2, 1) := by decide +kernel
theorem dL_law_1279 : decode cL_law 1279 = .ok (.aload_n 0, 1) := by decide +kernel
theorem dL_law_1280 : decode cL_law 1280 = .ok (.iload_n 3, 1) := by decide +kernel
theorem dL_law_1281 : decode cL_law 1281 = .ok (.iconst 1, 1) := by decide +kernel
theorem dL_law_1282 : decode cL_law 1282 = .ok (.iadd, 1) := by decide +kernel
theorem dL_law_1283 : decode cL_law 1283 = .ok (.iaload, 1) := by decide +kernel
theorem dL_law_1284 : decode cL_law 1284 = .ok (.invokevirtual 166, 3) := by decide +kernel
theorem dL_law_1287 : decode cL_law 1287 = .ok (.pop, 1) := by decide +kernel
theorem dL_law_1288 : decode cL_law 1288 = .ok (.goto 16, 3) := by decide +kernel
theorem dL_law_1291 : decode cL_law 1291 = .ok (.aload_n 1, 1) := by decide +kernel
theorem dL_law_1292 : decode cL_law 1292 = .ok (.invokevirtual 167, 3) := by decide +kernel
theorem dL_law_1295 : decode cL_law 1295 = .ok (.pop, 1) := by decide +kernel
theorem dL_law_1296 : decode cL_law 1296 = .ok (.aload_n 2, 1) := by decide +kernel
theorem dL_law_1297 : decode cL_law 1297 = .ok (.invokevirtual 170, 3) := by decide +kernel
theorem dL_law_1300 : decode cL_law 1300 = .ok (.pop, 1) := by decide +kernel
theorem dL_law_1301 : decode cL_law 1301 = .ok (.goto 3, 3) := by decide +kernel
theorem dL_law_1304 : decode cL_law 1304 = .ok (.iinc 3 6, 3) := by decide +kernel
theorem dL_law_1307 : decode cL_law 1307 = .ok (.goto (-1289), 3) := by decide +kernel
theorem dL_law_1310 : decode cL_law 1310 = .ok (.iconst 1, 1) := by decide +kernel
theorem dL_law_1311 : decode cL_law 1311 = .ok (.ireturn, 1) := by decide +kernel
def wd_LW_law (cA : Nat → ClassId) (qa : Nat → Nat) (σ : Nat → Int) (τ : Nat → Nat → Int) : va_W := [((qa 0), .inr (10, [.ref (qa 1), .ref (qa 2), .ref (qa 3), .ref (qa 4), .int (Int32.ofInt (σ 0)), .int (Int32.ofInt (σ 1)), .int (Int32.ofInt (σ 2)), .ref (qa 5), .int (Int32.ofInt (σ 3)), .ref (qa 6), .ref (qa 7), .ref (qa 8), .ref (qa 9), .ref (qa 10), .ref (qa 11), .ref (qa 12)])), ((qa 13), .inr (11, [.int (Int32.ofInt (σ 4)), .int (Int32.ofInt (σ 5)), .ref (qa 14), .ref (qa 15), .ref (qa 16), .ref (qa 17), .int (Int32.ofInt (σ 6)), .ref (qa 18), .int (Int32.ofInt (σ 7)), .int (Int32.ofInt (σ 8)), .int (Int32.ofInt (σ 9)), .int (Int32.ofInt (σ 10)), .long (Int64.ofInt (σ 11)), .int (Int32.ofInt (σ 12)), .int (Int32.ofInt (σ 13)), .int (Int32.ofInt (σ 14)), .ref (qa 19), .int (Int32.ofInt (σ 15)), .ref (qa 20), .ref (qa 21), .int (Int32.ofInt (σ 16)), .ref (qa 22), .ref (qa 23), .int (Int32.ofInt (σ 17)), .int (Int32.ofInt (σ 18)), .ref (qa 24), .int (Int32.ofInt (σ 19)), .ref (qa 25), .ref (qa 26), .int (Int32.ofInt (σ 20)), .long (Int64.ofInt (σ 21)), .long (Int64.ofInt (σ 22)), .ref (qa 27), .ref (qa 28), .ref (qa 29), .ref (qa 30), .ref (qa 31), .int (Int32.ofInt (σ 23)), .ref (qa 32), .ref (qa 33), .ref (qa 34), .ref (qa 35), .ref (qa 36), .ref (qa 37), .ref (qa 38), .ref (qa 39), .ref (qa 40), .ref (qa 41), .ref (qa 42), .ref (qa 43), .long (Int64.ofInt (σ 24)), .ref (qa 44), .int (Int32.ofInt (σ 25))])), ((qa 1), .inr (2, [.ref (qa 45), .int (Int32.ofInt (σ 26)), .ref (qa 46), .ref (qa 47), .ref (qa 48), .int (Int32.ofInt (σ 27)), .ref (qa 49), .ref (qa 50), .ref (qa 51), .int (Int32.ofInt (σ 28)), .ref (qa 52), .ref (qa 53), .int (Int32.ofInt (σ 29)), .int (Int32.ofInt (σ 30))])), ((qa 2), .inl (cA 3, 2, .inr (.inr (.inr (.inr (zr [(qa 54), (qa 55)])))))), ((qa 3), .inl (cA 1, 2, .inl (za (τ 0)))), ((qa 4), .inl (cA 0, 400, .inl (za (τ 1)))), ((qa 5), .inl (cA 0, 7, .inl (za (τ 2)))), ((qa 6), .inr (4, [.ref (qa 56), .int (Int32.ofInt (σ 31)), .ref (qa 57), .ref (qa 58), .ref (qa 59), .int (Int32.ofInt (σ 32)), .int (Int32.ofInt (σ 33))])), ((qa 7), .inr (3, [.ref (qa 1), .ref (qa 60), .ref (qa 61), .int (Int32.ofInt (σ 34)), .int (Int32.ofInt (σ 35)), .int (Int32.ofInt (σ 36))])), ((qa 8), .inr (0, [.ref (qa 1), .ref (qa 7), .ref (qa 62)])), ((qa 9), .inr (7, [.ref (qa 1), .ref (qa 8), .ref (qa 63), .ref (qa 64), .ref (qa 65), .ref (qa 66), .ref (qa 67), .ref (qa 68), .ref (qa 69), .ref (qa 70), .ref (qa 71), .ref (qa 72), .ref (qa 73), .int (Int32.ofInt (σ 37)), .int (Int32.ofInt (σ 38)), .int (Int32.ofInt (σ 39))])), ((qa 10), .inr (9, [.ref (qa 1), .ref (qa 8), .ref (qa 74), .ref (qa 75), .ref (qa 76), .int (Int32.ofInt (σ 40)), .int (Int32.ofInt (σ 41)), .int (Int32.ofInt (σ 42)), .int (Int32.ofInt (σ 43))])), ((qa 11), .inr (8, [.ref (qa 1), .ref (qa 77), .int (Int32.ofInt (σ 44)), .int (Int32.ofInt (σ 45)), .int (Int32.ofInt (σ 46)), .int (Int32.ofInt (σ 47)), .int (Int32.ofInt (σ 48)), .ref (qa 78)])), ((qa 12), .inr (5, [.ref (qa 79)])), ((qa 14), .inl (cA 0, 7, .inl (za (τ 3)))), ((qa 15), .inl (cA 0, 5580, .inl (za (τ 4)))), ((qa 16), .inl (cA 0, 11160, .inl (za (τ 5)))), ((qa 17), .inl (cA 1, 2, .inl (za (τ 6)))), ((qa 18), .inl (cA 0, 400, .inl (za (τ 7)))), ((qa 19), .inl (cA 0, 96, .inl (za (τ 8)))), ((qa 20), .inl (cA 0, 400, .inl (za (τ 9)))), ((qa 21), .inl (cA 0, 400, .inl (za (τ 10)))), ((qa 22), .inl (cA 0, 400, .inl (za (τ 11)))), ((qa 23), .inl (cA 0, 400, .inl (za (τ 12)))), ((qa 24), .inl (cA 2, 8, .inr (.inl (zl (τ 13))))), ((qa 25), .inl (cA 2, 13, .inr (.inl (zl (τ 14))))), ((qa 26), .inl (cA 2, 400, .inr (.inl (zl (τ 15))))), ((qa 27), .inl (cA 0, 12, .inl (za (τ 16)))), ((qa 28), .inl (cA 0, 120, .inl (za (τ 17)))), ((qa 29), .inl (cA 0, 5, .inl (za (τ 18)))), ((qa 30), .inl (cA 0, 6720, .inl (za (τ 19)))), ((qa 31), .inl (cA 0, 16384, .inl (za (τ 20)))), ((qa 32), .inl (cA 0, 107520, .inl (za (τ 21)))), ((qa 33), .inl (cA 2, 6720, .inr (.inl (zl (τ 22))))), ((qa 34), .inl (cA 0, 12000, .inl (za (τ 23)))), ((qa 35), .inl (cA 0, 20, .inl (za (τ 24)))), ((qa 36), .inl (cA 0, 4, .inl (za (τ 25)))), ((qa 37), .inl (cA 1, 6720, .inl (za (τ 26)))), ((qa 38), .inl (cA 2, 107520, .inr (.inl (zl (τ 27))))), ((qa 39), .inl (cA 2, 3601, .inr (.inl (zl (τ 28))))), ((qa 40), .inl (cA 0, 6, .inl (za (τ 29)))), ((qa 41), .inl (cA 0, 5, .inl (za (τ 30)))), ((qa 42), .inl (cA 0, 5, .inl (za (τ 31)))), ((qa 43), .inl (cA 0, 5, .inl (za (τ 32)))), ((qa 44), .inl (cA 0, 24, .inl (za (τ 33)))), ((qa 45), .inr (1, [.int (Int32.ofInt (σ 49)), .ref (qa 80), .ref (qa 81)])), ((qa 46), .inl (cA 0, 6, .inl (za (τ 34)))), ((qa 47), .inl (cA 0, 6, .inl (za (τ 35)))), ((qa 48), .inl (cA 0, 6, .inl (za (τ 36)))), ((qa 49), .inl (cA 0, 6, .inl (za (τ 37)))), ((qa 50), .inl (cA 0, 4, .inl (za (τ 38)))), ((qa 51), .inl (cA 0, 12, .inl (za (τ 39)))), ((qa 52), .inl (cA 0, 2544, .inl (za (τ 40)))), ((qa 53), .inl (cA 0, 6, .inl (za (τ 41)))), ((qa 54), .inr (2, [.ref (qa 82), .int (Int32.ofInt (σ 50)), .ref (qa 83), .ref (qa 84), .ref (qa 85), .int (Int32.ofInt (σ 51)), .ref (qa 86), .ref (qa 87), .ref (qa 88), .int (Int32.ofInt (σ 52)), .ref (qa 89), .ref (qa 90), .int (Int32.ofInt (σ 53)), .int (Int32.ofInt (σ 54))])), ((qa 55), .inr (2, [.ref (qa 91), .int (Int32.ofInt (σ 55)), .ref (qa 92), .ref (qa 93), .ref (qa 94), .int (Int32.ofInt (σ 56)), .ref (qa 95), .ref (qa 96), .ref (qa 97), .int (Int32.ofInt (σ 57)), .ref (qa 98), .ref (qa 99), .int (Int32.ofInt (σ 58)), .int (Int32.ofInt (σ 59))])), ((qa 56), .inl (cA 0, 424, .inl (za (τ 42)))), ((qa 57), .inl (cA 0, 401, .inl (za (τ 43)))), ((qa 58), .inl (cA 0, 401, .inl (za (τ 44)))), ((qa 59), .inl (cA 0, 401, .inl (za (τ 45)))), ((qa 60), .inl (cA 0, 8, .inl (za (τ 46)))), ((qa 61), .inl (cA 0, 32, .inl (za (τ 47)))), ((qa 62), .inl (cA 0, 48000, .inl (za (τ 48)))), ((qa 63), .inl (cA 4, 3, .inr (.inr (.inr (.inr (zr [(qa 100), (qa 101), (qa 102)])))))), ((qa 64), .inl (cA 0, 16384, .inl (za (τ 49)))), ((qa 65), .inl (cA 2, 6720, .inr (.inl (zl (τ 50))))), ((qa 66), .inl (cA 2, 6720, .inr (.inl (zl (τ 51))))), ((qa 67), .inl (cA 0, 6720, .inl (za (τ 52)))), ((qa 68), .inl (cA 0, 6720, .inl (za (τ 53)))), ((qa 69), .inl (cA 0, 6720, .inl (za (τ 54)))), ((qa 70), .inl (cA 0, 6720, .inl (za (τ 55)))), ((qa 71), .inl (cA 0, 6, .inl (za (τ 56)))), ((qa 72), .inl (cA 0, 4, .inl (za (τ 57)))), ((qa 73), .inl (cA 0, 4, .inl (za (τ 58)))), ((qa 74), .inr (1, [.int (Int32.ofInt (σ 60)), .ref (qa 103), .ref (qa 104)])), ((qa 75), .inl (cA 0, 5, .inl (za (τ 59)))), ((qa 76), .inl (cA 0, 5, .inl (za (τ 60)))), ((qa 77), .inl (cA 0, 3601, .inl (za (τ 61)))), ((qa 78), .inl (cA 0, 6, .inl (za (τ 62)))), ((qa 79), .inr (1, [.int (Int32.ofInt (σ 61)), .ref (qa 105), .ref (qa 106)])), ((qa 80), .inl (cA 0, 12, .inl (za (τ 63)))), ((qa 81), .inl (cA 0, 120, .inl (za (τ 64)))), ((qa 82), .inr (1, [.int (Int32.ofInt (σ 62)), .ref (qa 107), .ref (qa 108)])), ((qa 83), .inl (cA 0, 6, .inl (za (τ 65)))), ((qa 84), .inl (cA 0, 6, .inl (za (τ 66)))), ((qa 85), .inl (cA 0, 6, .inl (za (τ 67)))), ((qa 86), .inl (cA 0, 6, .inl (za (τ 68)))), ((qa 87), .inl (cA 0, 4, .inl (za (τ 69)))), ((qa 88), .inl (cA 0, 12, .inl (za (τ 70)))), ((qa 89), .inl (cA 0, 2544, .inl (za (τ 71)))), ((qa 90), .inl (cA 0, 6, .inl (za (τ 72)))), ((qa 91), .inr (1, [.int (Int32.ofInt (σ 63)), .ref (qa 109), .ref (qa 110)])), ((qa 92), .inl (cA 0, 6, .inl (za (τ 73)))), ((qa 93), .inl (cA 0, 6, .inl (za (τ 74)))), ((qa 94), .inl (cA 0, 6, .inl (za (τ 75)))), ((qa 95), .inl (cA 0, 6, .inl (za (τ 76)))), ((qa 96), .inl (cA 0, 4, .inl (za (τ 77)))), ((qa 97), .inl (cA 0, 12, .inl (za (τ 78)))), ((qa 98), .inl (cA 0, 2544, .inl (za (τ 79)))), ((qa 99), .inl (cA 0, 6, .inl (za (τ 80)))), ((qa 100), .inr (6, [.int (Int32.ofInt (σ 64)), .int (Int32.ofInt (σ 65)), .int (Int32.ofInt (σ 66)), .ref (qa 111)])), ((qa 101), .inr (6, [.int (Int32.ofInt (σ 67)), .int (Int32.ofInt (σ 68)), .int (Int32.ofInt (σ 69)), .ref (qa 112)])), ((qa 102), .inr (6, [.int (Int32.ofInt (σ 70)), .int (Int32.ofInt (σ 71)), .int (Int32.ofInt (σ 72)), .ref (qa 113)])), ((qa 103), .inl (cA 0, 12, .inl (za (τ 81)))), ((qa 104), .inl (cA 0, 120, .inl (za (τ 82)))), ((qa 105), .inl (cA 0, 12, .inl (za (τ 83)))), ((qa 106), .inl (cA 0, 120, .inl (za (τ 84)))), ((qa 107), .inl (cA 0, 12, .inl (za (τ 85)))), ((qa 108), .inl (cA 0, 120, .inl (za (τ 86)))), ((qa 109), .inl (cA 0, 12, .inl (za (τ 87)))), ((qa 110), .inl (cA 0, 120, .inl (za (τ 88)))), ((qa 111), .inl (cA 0, 6720, .inl (za (τ 89)))), ((qa 112), .inl (cA 0, 6720, .inl (za (τ 90)))), ((qa 113), .inl (cA 0, 6720, .inl (za (τ 91))))]
def f_LW_law_1304 (L : Nat) (zx : Nat → Int) (k18 : Int → (Nat → Int) → (Nat → Nat → Int) → Option (Int)) (x3 : Int) (σ : Nat → Int) (τ : Nat → Nat → Int) : Option (Int) :=
  zn (x3 + 6) fun v1 =>
  k18 v1 σ τ
def f_LW_law_18_b (L : Nat) (zx : Nat → Int)  (k18 : Int → (Nat → Int) → (Nat → Nat → Int) → Option (Int)) (x3 : Int) (σ : Nat → Int) (τ : Nat → Nat → Int) : Option (Int) :=
  zn (L : Int) fun v2 =>
  zn (v2 - 6) fun v3 =>
  if zi_w v3 < zi_w x3 then
    some 1
  else
    zg L zx x3 fun v4 =>
    zn (zi_and v4 63) fun v5 =>
    if zi_w v5 = 0 then
      zd7 (f_HS_column (σ 3) (σ 30) (τ 2) (σ 49) (τ 39) (τ 63)) fun v6 v7 v8 a9 v10 a11 a12 =>
      zd5 (f_HM_column (σ 4) (σ 5) (τ 3) (τ 4)) fun v13 v14 v15 a16 a17 =>
      f_LW_law_1304 L zx k18 x3 (zst σ [(3, v7), (4, v14), (5, v15), (30, v8), (49, v10)]) (zta τ [(2, a9), (3, a16), (4, a17), (39, a11), (63, a12)])
    else if zi_w v5 = 1 then
      zn (x3 + 1) fun v18 =>
      zg L zx v18 fun v19 =>
      zn (x3 + 2) fun v20 =>
      zg L zx v20 fun v21 =>
      zd6 (f_HS_stone v19 v21 (σ 49) (σ 3) (σ 30) (τ 2) (τ 63) (τ 64)) fun v22 v23 v24 a25 a26 a27 =>
      zn (x3 + 1) fun v28 =>
      zg L zx v28 fun v29 =>
      zn (x3 + 2) fun v30 =>
      zg L zx v30 fun v31 =>
      zd5 (f_HM_stone v29 v31 (σ 4) (σ 5) (τ 3) (τ 4)) fun v32 v33 v34 a35 a36 =>
      f_LW_law_1304 L zx k18 x3 (zst σ [(3, v23), (4, v33), (5, v34), (30, v24)]) (zta τ [(2, a25), (3, a35), (4, a36), (63, a26), (64, a27)])
    else if zi_w v5 = 2 then
      zn (x3 + 1) fun v37 =>
      zg L zx v37 fun v38 =>
      zd5 (f_HS_lift v38 (σ 49) (τ 64) (σ 3) (σ 30) (τ 2) (τ 63)) fun v39 v40 v41 a42 a43 =>
      zn (x3 + 1) fun v44 =>
      zg L zx v44 fun v45 =>
      zd5 (f_HM_lift v45 (σ 4) (σ 5) (τ 3) (τ 4)) fun v46 v47 v48 a49 a50 =>
      f_LW_law_1304 L zx k18 x3 (zst σ [(3, v40), (4, v47), (5, v48), (30, v41)]) (zta τ [(2, a42), (3, a49), (4, a50), (63, a43)])
    else if zi_w v5 = 3 then
      zn (x3 + 1) fun v51 =>
      zg L zx v51 fun v52 =>
      zn (x3 + 2) fun v53 =>
      zg L zx v53 fun v54 =>
      zd1 (f_HS_of v52 v54 (σ 49) (τ 63) (τ 64)) fun v55 =>
      zn (x3 + 1) fun v56 =>
      zg L zx v56 fun v57 =>
      zn (x3 + 2) fun v58 =>
      zg L zx v58 fun v59 =>
      zd2 (f_HM_of v57 v59 (τ 4) (σ 4)) fun v60 v61 =>
      if zi_w v55 = zi_w v60 then
        f_LW_law_1304 L zx k18 x3 (zst σ [(4, v61)]) τ
      else
        some 0
    else if zi_w v5 = 4 then
      zn (x3 + 1) fun v62 =>
      zg L zx v62 fun v63 =>
      zd1 (f_HS_weight v63 (σ 49) (τ 63) (τ 64)) fun v64 =>
      zn (x3 + 1) fun v65 =>
      zg L zx v65 fun v66 =>
      zd2 (f_HM_weight v66 (τ 4) (σ 4)) fun v67 v68 =>
      f_LW_law_1304 L zx k18 x3 (zst σ [(4, v68)]) τ
    else if zi_w v5 = 5 then
      zn (x3 + 1) fun v69 =>
      zg L zx v69 fun v70 =>
      zd8 (f_HS_child v70 (σ 3) (σ 26) (σ 30) (τ 2) (τ 34) (τ 35) (τ 36)) fun v71 v72 v73 v74 a75 a76 a77 a78 =>
      zn (x3 + 1) fun v79 =>
      zg L zx v79 fun v80 =>
      zd5 (f_HM_child v80 (σ 4) (σ 5) (τ 3) (τ 4)) fun v81 v82 v83 a84 a85 =>
      f_LW_law_1304 L zx k18 x3 (zst σ [(3, v72), (4, v82), (5, v83), (26, v73), (30, v74)]) (zta τ [(2, a75), (3, a84), (4, a85), (34, a76), (35, a77), (36, a78)])
    else if zi_w v5 = 6 then
      zn (x3 + 1) fun v86 =>
      zg L zx v86 fun v87 =>
      zn (x3 + 2) fun v88 =>
      zg L zx v88 fun v89 =>
      zd5 (f_HS_expel v87 v89 (σ 26) (σ 3) (σ 30) (τ 2) (τ 35)) fun v90 v91 v92 a93 a94 =>
      zn (x3 + 1) fun v95 =>
      zg L zx v95 fun v96 =>
      zn (x3 + 2) fun v97 =>
      zg L zx v97 fun v98 =>
      zd5 (f_HM_expel v96 v98 (σ 4) (σ 5) (τ 3) (τ 4)) fun v99 v100 v101 a102 a103 =>
      f_LW_law_1304 L zx k18 x3 (zst σ [(3, v91), (4, v100), (5, v101), (30, v92)]) (zta τ [(2, a93), (3, a102), (4, a103), (35, a94)])
    else if zi_w v5 = 7 then
      zn (x3 + 1) fun v104 =>
      zg L zx v104 fun v105 =>
      zn (x3 + 2) fun v106 =>
      zg L zx v106 fun v107 =>
      zd1 (f_HS_fact v105 v107 (σ 26) (τ 34) (τ 35) (τ 36)) fun v108 =>
      zn (x3 + 1) fun v109 =>
      zg L zx v109 fun v110 =>
      zn (x3 + 2) fun v111 =>
      zg L zx v111 fun v112 =>
      zd2 (f_HM_fact v110 v112 (τ 4) (σ 4)) fun v113 v114 =>
      f_LW_law_1304 L zx k18 x3 (zst σ [(4, v114)]) τ
    else if zi_w v5 = 8 then
      zn (x3 + 1) fun v115 =>
      zg L zx v115 fun v116 =>
      zd6 (f_HS_parish v116 (σ 49) (σ 3) (σ 27) (σ 30) (τ 2) (τ 37)) fun v117 v118 v119 v120 a121 a122 =>
      zn (x3 + 1) fun v123 =>
      zg L zx v123 fun v124 =>
      zd5 (f_HM_parish v124 (σ 4) (σ 5) (τ 3) (τ 4)) fun v125 v126 v127 a128 a129 =>
      f_LW_law_1304 L zx k18 x3 (zst σ [(3, v118), (4, v126), (5, v127), (27, v119), (30, v120)]) (zta τ [(2, a121), (3, a128), (4, a129), (37, a122)])
    else if zi_w v5 = 9 then
      zn (x3 + 1) fun v130 =>
      zg L zx v130 fun v131 =>
      zn (x3 + 2) fun v132 =>
      zg L zx v132 fun v133 =>
      zd5 (f_HS_terms v131 v133 (σ 3) (σ 30) (τ 2) (τ 38)) fun v134 v135 v136 a137 a138 =>
      zn (x3 + 1) fun v139 =>
      zg L zx v139 fun v140 =>
      zn (x3 + 2) fun v141 =>
      zg L zx v141 fun v142 =>
      zd5 (f_HM_terms v140 v142 (σ 4) (σ 5) (τ 3) (τ 4)) fun v143 v144 v145 a146 a147 =>
      f_LW_law_1304 L zx k18 x3 (zst σ [(3, v135), (4, v144), (5, v145), (30, v136)]) (zta τ [(2, a137), (3, a146), (4, a147), (38, a138)])
    else if zi_w v5 = 10 then
      zn (x3 + 1) fun v148 =>
      zg L zx v148 fun v149 =>
      zn (x3 + 2) fun v150 =>
      zg L zx v150 fun v151 =>
      zn (x3 + 3) fun v152 =>
      zg L zx v152 fun v153 =>
      zn (x3 + 4) fun v154 =>
      zg L zx v154 fun v155 =>
      zn (x3 + 5) fun v156 =>
      zg L zx v156 fun v157 =>
      zd3 (f_HS_feed v149 v151 v153 v155 v157 (σ 0) (τ 1)) fun v158 v159 a160 =>
      zn (x3 + 1) fun v161 =>
      zg L zx v161 fun v162 =>
      zn (x3 + 2) fun v163 =>
      zg L zx v163 fun v164 =>
      zn (x3 + 3) fun v165 =>
      zg L zx v165 fun v166 =>
      zn (x3 + 4) fun v167 =>
      zg L zx v167 fun v168 =>
      zn (x3 + 5) fun v169 =>
      zg L zx v169 fun v170 =>
      zd4 (f_HM_feed v162 v164 v166 v168 v170 (σ 4) (σ 7) (τ 7)) fun v171 v172 v173 a174 =>
      f_LW_law_1304 L zx k18 x3 (zst σ [(0, v159), (4, v172), (7, v173)]) (zta τ [(1, a160), (7, a174)])
    else if zi_w v5 = 11 then
      zn (x3 + 1) fun v175 =>
      zg L zx v175 fun v176 =>
      zd2 (f_HS_end v176 (σ 0)) fun v177 v178 =>
      zn (x3 + 1) fun v179 =>
      zg L zx v179 fun v180 =>
      zd3 (f_HM_end v180 (σ 4) (σ 7)) fun v181 v182 v183 =>
      f_LW_law_1304 L zx k18 x3 (zst σ [(0, v178), (4, v182), (7, v183)]) τ
    else if zi_w v5 = 12 then
      zd8 (f_HS_row (τ 1) (σ 49) (σ 0) (σ 2) (σ 3) (σ 30) (τ 2) (τ 63) (τ 64)) fun v184 v185 v186 v187 v188 a189 a190 a191 =>
      zd7 (f_HM_row (τ 7) (σ 4) (σ 5) (σ 6) (σ 7) (τ 3) (τ 4)) fun v192 v193 v194 v195 v196 a197 a198 =>
      f_LW_law_1304 L zx k18 x3 (zst σ [(0, v185), (2, v186), (3, v187), (4, v193), (5, v194), (6, v195), (7, v196), (30, v188)]) (zta τ [(2, a189), (3, a197), (4, a198), (63, a190), (64, a191)])
    else if zi_w v5 = 13 then
      zd1 (f_HS_gravel (σ 2)) fun v199 =>
      zd2 (f_HM_gravel (σ 6) (σ 4)) fun v200 v201 =>
      f_LW_law_1304 L zx k18 x3 (zst σ [(4, v201)]) τ
    else if zi_w v5 = 14 then
      zd16 (f_HS_law (τ 1) (σ 0) (σ 1) (σ 3) (σ 28) (σ 30) (τ 2) (σ 31) (σ 32) (σ 33) (τ 40) (τ 41) (τ 42) (τ 43) (τ 44) (τ 45)) fun v202 v203 v204 v205 v206 v207 a208 v209 v210 v211 a212 a213 a214 a215 a216 a217 =>
      zd22 (f_HM_law (τ 7) (τ 13) (σ 4) (σ 5) (σ 7) (σ 8) (σ 9) (σ 10) (σ 11) (σ 12) (σ 13) (σ 14) (σ 15) (σ 16) (σ 17) (σ 18) (τ 3) (τ 4) (τ 8) (τ 9) (τ 10) (τ 11) (τ 12)) fun v218 v219 v220 v221 v222 v223 v224 v225 v226 v227 v228 v229 v230 v231 v232 a233 a234 a235 a236 a237 a238 a239 =>
      f_LW_law_1304 L zx k18 x3 (zst σ [(0, v203), (1, v204), (3, v205), (4, v219), (5, v220), (7, v221), (8, v222), (9, v223), (10, v224), (11, v225), (12, v226), (13, v227), (14, v228), (15, v229), (16, v230), (17, v231), (18, v232), (28, v206), (30, v207), (31, v209), (32, v210), (33, v211)]) (zta τ [(2, a208), (3, a233), (4, a234), (8, a235), (9, a236), (10, a237), (11, a238), (12, a239), (40, a212), (41, a213), (42, a214), (43, a215), (44, a216), (45, a217)])
    else if zi_w v5 = 15 then
      zd1 (f_HS_fault (σ 1)) fun v240 =>
      zd2 (f_HM_fault (σ 12) (σ 4)) fun v241 v242 =>
      f_LW_law_1304 L zx k18 x3 (zst σ [(4, v242)]) τ
    else if zi_w v5 = 16 then
      zn (x3 + 1) fun v243 =>
      zg L zx v243 fun v244 =>
      zd5 (f_HS_force v244 (σ 28) (σ 3) (σ 29) (σ 30) (τ 2)) fun v245 v246 v247 v248 a249 =>
      zn (x3 + 1) fun v250 =>
      zg L zx v250 fun v251 =>
      zd5 (f_HM_force v251 (σ 4) (σ 5) (τ 3) (τ 4)) fun v252 v253 v254 a255 a256 =>
      f_LW_law_1304 L zx k18 x3 (zst σ [(3, v246), (4, v253), (5, v254), (29, v247), (30, v248)]) (zta τ [(2, a249), (3, a255), (4, a256)])
    else if zi_w v5 = 17 then
      zn (x3 + 1) fun v257 =>
      zg L zx v257 fun v258 =>
      zn (x3 + 2) fun v259 =>
      zg L zx v259 fun v260 =>
      zn (x3 + 3) fun v261 =>
      zg L zx v261 fun v262 =>
      zd6 (f_HS_can v258 v260 v262 (σ 26) (σ 28) (σ 29) (σ 49) (τ 34) (τ 35) (τ 38) (τ 40) (τ 41) (τ 63) (τ 64) (σ 34) (σ 35) (σ 36) (τ 46) (τ 47)) fun v263 v264 v265 v266 a267 a268 =>
      zn (x3 + 1) fun v269 =>
      zg L zx v269 fun v270 =>
      zn (x3 + 2) fun v271 =>
      zg L zx v271 fun v272 =>
      zn (x3 + 3) fun v273 =>
      zg L zx v273 fun v274 =>
      zd10 (f_HM_can v270 v272 v274 (τ 4) (σ 4) (σ 19) (σ 20) (σ 21) (σ 22) (τ 14) (τ 15) (τ 16) (τ 17)) fun v275 v276 v277 v278 v279 v280 a281 a282 a283 a284 =>
      f_LW_law_1304 L zx k18 x3 (zst σ [(4, v276), (19, v277), (20, v278), (21, v279), (22, v280), (34, v264), (35, v265), (36, v266)]) (zta τ [(14, a281), (15, a282), (16, a283), (17, a284), (46, a267), (47, a268)])
    else if zi_w v5 = 18 then
      zn (x3 + 1) fun v285 =>
      zg L zx v285 fun v286 =>
      zn (x3 + 2) fun v287 =>
      zg L zx v287 fun v288 =>
      zn (x3 + 3) fun v289 =>
      zg L zx v289 fun v290 =>
      zd6 (f_HS_tires v286 v288 v290 (σ 26) (σ 28) (σ 29) (σ 49) (τ 34) (τ 35) (τ 38) (τ 40) (τ 41) (τ 63) (τ 64) (σ 34) (σ 35) (σ 36) (τ 46) (τ 47)) fun v291 v292 v293 v294 a295 a296 =>
      zn (x3 + 1) fun v297 =>
      zg L zx v297 fun v298 =>
      zn (x3 + 2) fun v299 =>
      zg L zx v299 fun v300 =>
      zn (x3 + 3) fun v301 =>
      zg L zx v301 fun v302 =>
      zd10 (f_HM_tires v298 v300 v302 (τ 4) (σ 4) (σ 19) (σ 20) (σ 21) (σ 22) (τ 14) (τ 15) (τ 16) (τ 17)) fun v303 v304 v305 v306 v307 v308 a309 a310 a311 a312 =>
      f_LW_law_1304 L zx k18 x3 (zst σ [(4, v304), (19, v305), (20, v306), (21, v307), (22, v308), (34, v292), (35, v293), (36, v294)]) (zta τ [(14, a309), (15, a310), (16, a311), (17, a312), (46, a295), (47, a296)])
    else if zi_w v5 = 19 then
      zn (x3 + 1) fun v313 =>
      zg L zx v313 fun v314 =>
      zn (x3 + 2) fun v315 =>
      zg L zx v315 fun v316 =>
      zn (x3 + 3) fun v317 =>
      zg L zx v317 fun v318 =>
      zd11 (f_HS_carry v314 v316 v318 (σ 26) (σ 28) (σ 29) (σ 49) (τ 34) (τ 35) (τ 38) (τ 40) (τ 41) (σ 3) (σ 30) (τ 2) (σ 34) (σ 35) (σ 36) (τ 46) (τ 47) (τ 63) (τ 64)) fun v319 v320 v321 a322 v323 v324 v325 a326 a327 a328 a329 =>
      zn (x3 + 1) fun v330 =>
      zg L zx v330 fun v331 =>
      zn (x3 + 2) fun v332 =>
      zg L zx v332 fun v333 =>
      zn (x3 + 3) fun v334 =>
      zg L zx v334 fun v335 =>
      zd13 (f_HM_carry v331 v333 v335 (σ 4) (σ 5) (σ 19) (σ 20) (σ 21) (σ 22) (τ 3) (τ 4) (τ 14) (τ 15) (τ 16) (τ 17)) fun v336 v337 v338 v339 v340 v341 v342 a343 a344 a345 a346 a347 a348 =>
      f_LW_law_1304 L zx k18 x3 (zst σ [(3, v320), (4, v337), (5, v338), (19, v339), (20, v340), (21, v341), (22, v342), (30, v321), (34, v323), (35, v324), (36, v325)]) (zta τ [(2, a322), (3, a343), (4, a344), (14, a345), (15, a346), (16, a347), (17, a348), (46, a326), (47, a327), (63, a328), (64, a329)])
    else if zi_w v5 = 20 then
      zn (x3 + 1) fun v349 =>
      zg L zx v349 fun v350 =>
      zn (x3 + 2) fun v351 =>
      zg L zx v351 fun v352 =>
      zn (x3 + 3) fun v353 =>
      zg L zx v353 fun v354 =>
      zn (x3 + 4) fun v355 =>
      zg L zx v355 fun v356 =>
      zd11 (f_HS_exchange v350 v352 v354 v356 (σ 26) (σ 28) (σ 29) (σ 49) (τ 34) (τ 35) (τ 38) (τ 40) (τ 41) (σ 3) (σ 30) (τ 2) (σ 34) (σ 35) (σ 36) (τ 46) (τ 47) (τ 63) (τ 64)) fun v357 v358 v359 a360 v361 v362 v363 a364 a365 a366 a367 =>
      zn (x3 + 1) fun v368 =>
      zg L zx v368 fun v369 =>
      zn (x3 + 2) fun v370 =>
      zg L zx v370 fun v371 =>
      zn (x3 + 3) fun v372 =>
      zg L zx v372 fun v373 =>
      zn (x3 + 4) fun v374 =>
      zg L zx v374 fun v375 =>
      zd13 (f_HM_exchange v369 v371 v373 v375 (σ 4) (σ 5) (σ 19) (σ 20) (σ 21) (σ 22) (τ 3) (τ 4) (τ 14) (τ 15) (τ 16) (τ 17)) fun v376 v377 v378 v379 v380 v381 v382 a383 a384 a385 a386 a387 a388 =>
      f_LW_law_1304 L zx k18 x3 (zst σ [(3, v358), (4, v377), (5, v378), (19, v379), (20, v380), (21, v381), (22, v382), (30, v359), (34, v361), (35, v362), (36, v363)]) (zta τ [(2, a360), (3, a383), (4, a384), (14, a385), (15, a386), (16, a387), (17, a388), (46, a364), (47, a365), (63, a366), (64, a367)])
    else if zi_w v5 = 21 then
      zd1 (f_HS_steep (σ 49) (τ 38) (τ 63)) fun v389 =>
      zd4 (f_HM_steep (τ 4) (σ 4) (τ 16) (τ 17)) fun v390 v391 a392 a393 =>
      f_LW_law_1304 L zx k18 x3 (zst σ [(4, v391)]) (zta τ [(16, a392), (17, a393)])
    else if zi_w v5 = 22 then
      zd4 (f_HS_slide (σ 49) (τ 38) (σ 30) (τ 63) (τ 64)) fun v394 v395 a396 a397 =>
      zd5 (f_HM_slide (σ 4) (τ 4) (τ 16) (τ 17)) fun v398 v399 a400 a401 a402 =>
      f_LW_law_1304 L zx k18 x3 (zst σ [(4, v399), (30, v395)]) (zta τ [(4, a400), (16, a401), (17, a402), (63, a396), (64, a397)])
    else if zi_w v5 = 23 then
      zn (x3 + 1) fun v403 =>
      zg L zx v403 fun v404 =>
      zd1 (f_HS_shade v404 (σ 27) (σ 49) (τ 37) (τ 38) (τ 63)) fun v405 =>
      zn (x3 + 1) fun v406 =>
      zg L zx v406 fun v407 =>
      zd4 (f_HM_shade v407 (τ 4) (σ 4) (τ 16) (τ 17)) fun v408 v409 a410 a411 =>
      f_LW_law_1304 L zx k18 x3 (zst σ [(4, v409)]) (zta τ [(16, a410), (17, a411)])
    else if zi_w v5 = 24 then
      zn (x3 + 1) fun v412 =>
      zg L zx v412 fun v413 =>
      zn (x3 + 2) fun v414 =>
      zg L zx v414 fun v415 =>
      zn (x3 + 3) fun v416 =>
      zg L zx v416 fun v417 =>
      zn (x3 + 4) fun v418 =>
      zg L zx v418 fun v419 =>
      zd8 (f_HS_gains v413 v415 v417 v419 (σ 26) (σ 27) (σ 28) (σ 29) (σ 49) (τ 34) (τ 35) (τ 37) (τ 38) (τ 40) (τ 41) (σ 34) (σ 35) (σ 36) (τ 46) (τ 47) (τ 63) (τ 64)) fun v420 v421 v422 v423 a424 a425 a426 a427 =>
      zn (x3 + 1) fun v428 =>
      zg L zx v428 fun v429 =>
      zn (x3 + 2) fun v430 =>
      zg L zx v430 fun v431 =>
      zn (x3 + 3) fun v432 =>
      zg L zx v432 fun v433 =>
      zn (x3 + 4) fun v434 =>
      zg L zx v434 fun v435 =>
      zd10 (f_HM_gains v429 v431 v433 v435 (τ 4) (σ 4) (σ 19) (σ 20) (σ 21) (σ 22) (τ 14) (τ 15) (τ 16) (τ 17)) fun v436 v437 v438 v439 v440 v441 a442 a443 a444 a445 =>
      f_LW_law_1304 L zx k18 x3 (zst σ [(4, v437), (19, v438), (20, v439), (21, v440), (22, v441), (34, v421), (35, v422), (36, v423)]) (zta τ [(14, a442), (15, a443), (16, a444), (17, a445), (46, a424), (47, a425), (63, a426), (64, a427)])
    else if zi_w v5 = 25 then
      zn (x3 + 1) fun v446 =>
      zg L zx v446 fun v447 =>
      zn (x3 + 2) fun v448 =>
      zg L zx v448 fun v449 =>
      zd5 (f_HS_goal v447 v449 (σ 49) (σ 3) (σ 30) (τ 2) (τ 39)) fun v450 v451 v452 a453 a454 =>
      zn (x3 + 1) fun v455 =>
      zg L zx v455 fun v456 =>
      zn (x3 + 2) fun v457 =>
      zg L zx v457 fun v458 =>
      zd5 (f_HM_goal v456 v458 (σ 4) (σ 5) (τ 3) (τ 4)) fun v459 v460 v461 a462 a463 =>
      f_LW_law_1304 L zx k18 x3 (zst σ [(3, v451), (4, v460), (5, v461), (30, v452)]) (zta τ [(2, a453), (3, a462), (4, a463), (39, a454)])
    else if zi_w v5 = 26 then
      zn (x3 + 1) fun v464 =>
      zg L zx v464 fun v465 =>
      zn (x3 + 2) fun v466 =>
      zg L zx v466 fun v467 =>
      zn (x3 + 3) fun v468 =>
      zg L zx v468 fun v469 =>
      zd32 (f_HS_plan v465 v467 v469 (σ 26) (σ 28) (σ 29) (σ 30) (σ 49) (τ 34) (τ 35) (τ 38) (τ 39) (τ 40) (τ 41) (τ 63) (τ 64) (σ 34) (σ 35) (σ 36) (σ 37) (σ 38) (σ 39) (τ 46) (τ 47) (τ 48) (τ 49) (τ 50) (τ 51) (τ 52) (τ 53) (τ 54) (τ 55) (τ 56) (τ 57) (τ 58) (σ 64) (σ 65) (σ 66) (σ 67) (σ 68) (σ 69) (σ 70) (σ 71) (σ 72) (τ 89) (τ 90) (τ 91)) fun v470 v471 v472 v473 v474 v475 v476 a477 a478 a479 a480 a481 a482 a483 a484 a485 a486 a487 a488 a489 v490 v491 v492 v493 v494 v495 v496 v497 v498 a499 a500 a501 =>
      zn (x3 + 1) fun v502 =>
      zg L zx v502 fun v503 =>
      zn (x3 + 2) fun v504 =>
      zg L zx v504 fun v505 =>
      zn (x3 + 3) fun v506 =>
      zg L zx v506 fun v507 =>
      zd19 (f_HM_plan v503 v505 v507 (τ 4) (σ 4) (σ 19) (σ 20) (σ 21) (σ 22) (σ 23) (τ 14) (τ 15) (τ 18) (τ 19) (τ 20) (τ 21) (τ 22) (τ 23) (τ 24) (τ 25) (τ 26) (τ 27)) fun v508 v509 v510 v511 v512 v513 v514 a515 a516 a517 a518 a519 a520 a521 a522 a523 a524 a525 a526 =>
      f_LW_law_1304 L zx k18 x3 (zst σ [(4, v509), (19, v510), (20, v511), (21, v512), (22, v513), (23, v514), (34, v471), (35, v472), (36, v473), (37, v474), (38, v475), (39, v476), (64, v490), (65, v491), (66, v492), (67, v493), (68, v494), (69, v495), (70, v496), (71, v497), (72, v498)]) (zta τ [(14, a515), (15, a516), (18, a517), (19, a518), (20, a519), (21, a520), (22, a521), (23, a522), (24, a523), (25, a524), (26, a525), (27, a526), (46, a477), (47, a478), (48, a479), (49, a480), (50, a481), (51, a482), (52, a483), (53, a484), (54, a485), (55, a486), (56, a487), (57, a488), (58, a489), (89, a499), (90, a500), (91, a501)])
    else if zi_w v5 = 27 then
      zn (x3 + 1) fun v527 =>
      zg L zx v527 fun v528 =>
      zd3 (f_HS_weighs v528 (σ 30) (σ 49) (τ 63) (τ 64) (σ 44) (τ 61)) fun v529 v530 a531 =>
      zn (x3 + 1) fun v532 =>
      zg L zx v532 fun v533 =>
      zd3 (f_HM_weighs v533 (τ 4) (σ 4) (τ 28)) fun v534 v535 a536 =>
      f_LW_law_1304 L zx k18 x3 (zst σ [(4, v535), (44, v530)]) (zta τ [(28, a536), (61, a531)])
    else if zi_w v5 = 28 then
      zn (x3 + 1) fun v537 =>
      zg L zx v537 fun v538 =>
      zn (x3 + 2) fun v539 =>
      zg L zx v539 fun v540 =>
      zd5 (f_HS_trips v538 v540 (σ 26) (σ 3) (σ 30) (τ 2) (τ 36)) fun v541 v542 v543 a544 a545 =>
      zn (x3 + 1) fun v546 =>
      zg L zx v546 fun v547 =>
      zn (x3 + 2) fun v548 =>
      zg L zx v548 fun v549 =>
      zd5 (f_HM_trips v547 v549 (σ 4) (σ 5) (τ 3) (τ 4)) fun v550 v551 v552 a553 a554 =>
      f_LW_law_1304 L zx k18 x3 (zst σ [(3, v542), (4, v551), (5, v552), (30, v543)]) (zta τ [(2, a544), (3, a553), (4, a554), (36, a545)])
    else if zi_w v5 = 29 then
      zn (x3 + 1) fun v555 =>
      zg L zx v555 fun v556 =>
      zn (x3 + 2) fun v557 =>
      zg L zx v557 fun v558 =>
      zn (x3 + 3) fun v559 =>
      zg L zx v559 fun v560 =>
      zd6 (f_HS_culprits v556 v558 v560 (σ 26) (τ 36) (σ 45) (σ 46) (σ 47) (σ 48) (τ 62)) fun v561 v562 v563 v564 v565 a566 =>
      zn (x3 + 1) fun v567 =>
      zg L zx v567 fun v568 =>
      zn (x3 + 2) fun v569 =>
      zg L zx v569 fun v570 =>
      zn (x3 + 3) fun v571 =>
      zg L zx v571 fun v572 =>
      zd3 (f_HM_culprits v568 v570 v572 (τ 4) (σ 4) (τ 29)) fun v573 v574 a575 =>
      f_LW_law_1304 L zx k18 x3 (zst σ [(4, v574), (45, v562), (46, v563), (47, v564), (48, v565)]) (zta τ [(29, a575), (62, a566)])
    else if zi_w v5 = 30 then
      zn (x3 + 1) fun v576 =>
      zg L zx v576 fun v577 =>
      zn (x3 + 2) fun v578 =>
      zg L zx v578 fun v579 =>
      zn (x3 + 3) fun v580 =>
      zg L zx v580 fun v581 =>
      zd16 (f_HS_duel v577 v579 v581 (σ 26) (σ 27) (σ 28) (σ 29) (σ 30) (σ 49) (τ 34) (τ 35) (τ 37) (τ 38) (τ 40) (τ 41) (τ 63) (τ 64) (σ 34) (σ 35) (σ 36) (σ 40) (σ 41) (σ 42) (σ 43) (τ 46) (τ 47) (τ 48) (σ 60) (τ 59) (τ 60) (τ 81) (τ 82)) fun v582 v583 v584 v585 v586 v587 v588 v589 a590 a591 a592 v593 a594 a595 a596 a597 =>
      zn (x3 + 1) fun v598 =>
      zg L zx v598 fun v599 =>
      zn (x3 + 2) fun v600 =>
      zg L zx v600 fun v601 =>
      zn (x3 + 3) fun v602 =>
      zg L zx v602 fun v603 =>
      zd13 (f_HM_duel v599 v601 v603 (τ 4) (σ 4) (σ 19) (σ 20) (σ 21) (σ 22) (τ 14) (τ 15) (τ 16) (τ 17) (τ 30) (τ 31) (τ 32)) fun v604 v605 v606 v607 v608 v609 a610 a611 a612 a613 a614 a615 a616 =>
      f_LW_law_1304 L zx k18 x3 (zst σ [(4, v605), (19, v606), (20, v607), (21, v608), (22, v609), (34, v583), (35, v584), (36, v585), (40, v586), (41, v587), (42, v588), (43, v589), (60, v593)]) (zta τ [(14, a610), (15, a611), (16, a612), (17, a613), (30, a614), (31, a615), (32, a616), (46, a590), (47, a591), (48, a592), (59, a594), (60, a595), (81, a596), (82, a597)])
    else if zi_w v5 = 31 then
      zn (x3 + 1) fun v617 =>
      zg L zx v617 fun v618 =>
      zd1 (f_HS_layers v618 (σ 49) (τ 63) (τ 64)) fun v619 =>
      zn (x3 + 1) fun v620 =>
      zg L zx v620 fun v621 =>
      zd2 (f_HM_layers v621 (τ 4) (σ 4)) fun v622 v623 =>
      f_LW_law_1304 L zx k18 x3 (zst σ [(4, v623)]) τ
    else if zi_w v5 = 32 then
      zn (x3 + 1) fun v624 =>
      zg L zx v624 fun v625 =>
      zn (x3 + 2) fun v626 =>
      zg L zx v626 fun v627 =>
      zd7 (f_HS_rain v625 v627 (σ 49) (τ 38) (τ 63) (τ 64) (σ 3) (σ 30) (τ 2) (σ 61) (τ 83) (τ 84)) fun v628 v629 v630 a631 v632 a633 a634 =>
      zn (x3 + 1) fun v635 =>
      zg L zx v635 fun v636 =>
      zn (x3 + 2) fun v637 =>
      zg L zx v637 fun v638 =>
      zd9 (f_HM_rain v636 v638 (τ 4) (σ 4) (σ 5) (σ 24) (σ 25) (τ 3) (τ 16) (τ 17) (τ 33)) fun v639 v640 v641 v642 v643 a644 a645 a646 a647 =>
      f_LW_law_1304 L zx k18 x3 (zst σ [(3, v629), (4, v640), (5, v641), (24, v642), (25, v643), (30, v630), (61, v632)]) (zta τ [(2, a631), (3, a644), (16, a645), (17, a646), (33, a647), (83, a633), (84, a634)])
    else if zi_w v5 = 33 then
      zn (x3 + 1) fun v648 =>
      zg L zx v648 fun v649 =>
      zn (x3 + 2) fun v650 =>
      zg L zx v650 fun v651 =>
      zd1 (f_HS_rained v649 v651 (σ 61) (τ 83) (τ 84)) fun v652 =>
      zn (x3 + 1) fun v653 =>
      zg L zx v653 fun v654 =>
      zn (x3 + 2) fun v655 =>
      zg L zx v655 fun v656 =>
      zd2 (f_HM_rained v654 v656 (σ 25) (τ 33) (σ 4)) fun v657 v658 =>
      f_LW_law_1304 L zx k18 x3 (zst σ [(4, v658)]) τ
    else if zi_w v5 = 34 then
      zn (x3 + 1) fun v659 =>
      zg L zx v659 fun v660 =>
      zd35 (f_HS_image v660 (σ 26) (σ 27) (σ 28) (σ 29) (σ 49) (τ 34) (τ 35) (τ 36) (τ 37) (τ 38) (τ 39) (τ 40) (τ 41) (τ 63) (τ 64) (σ 3) (σ 30) (τ 0) (τ 2) (σ 50) (σ 51) (σ 52) (σ 53) (σ 55) (σ 56) (σ 57) (σ 58) (σ 62) (τ 65) (τ 66) (τ 67) (τ 68) (τ 69) (τ 70) (τ 71) (τ 72) (σ 63) (τ 73) (τ 74) (τ 75) (τ 76) (τ 77) (τ 78) (τ 79) (τ 80) (τ 85) (τ 86) (τ 87) (τ 88)) fun v661 v662 v663 a664 a665 v666 v667 v668 v669 v670 v671 v672 v673 v674 a675 a676 a677 a678 a679 a680 a681 a682 v683 a684 a685 a686 a687 a688 a689 a690 a691 a692 a693 a694 a695 =>
      zn (x3 + 1) fun v696 =>
      zg L zx v696 fun v697 =>
      zd6 (f_HM_image v697 (τ 4) (σ 4) (σ 5) (τ 3) (τ 5) (τ 6)) fun v698 v699 v700 a701 a702 a703 =>
      f_LW_law_1304 L zx k18 x3 (zst σ [(3, v662), (4, v699), (5, v700), (30, v663), (50, v666), (51, v667), (52, v668), (53, v669), (55, v670), (56, v671), (57, v672), (58, v673), (62, v674), (63, v683)]) (zta τ [(0, a664), (2, a665), (3, a701), (5, a702), (6, a703), (65, a675), (66, a676), (67, a677), (68, a678), (69, a679), (70, a680), (71, a681), (72, a682), (73, a684), (74, a685), (75, a686), (76, a687), (77, a688), (78, a689), (79, a690), (80, a691), (85, a692), (86, a693), (87, a694), (88, a695)])
    else if zi_w v5 = 35 then
      zn (x3 + 1) fun v704 =>
      zg L zx v704 fun v705 =>
      zd19 (f_HS_back v705 (τ 0) (σ 50) (σ 51) (σ 52) (σ 53) (σ 55) (σ 56) (σ 57) (σ 58) (σ 62) (τ 65) (τ 66) (τ 67) (τ 68) (τ 69) (τ 70) (τ 71) (τ 72) (σ 63) (τ 73) (τ 74) (τ 75) (τ 76) (τ 77) (τ 78) (τ 79) (τ 80) (τ 85) (τ 86) (τ 87) (τ 88) (σ 3) (σ 26) (σ 27) (σ 28) (σ 29) (σ 30) (τ 2) (σ 49) (τ 34) (τ 35) (τ 36) (τ 37) (τ 38) (τ 39) (τ 40) (τ 41) (τ 63) (τ 64)) fun v706 v707 v708 v709 v710 v711 v712 a713 v714 a715 a716 a717 a718 a719 a720 a721 a722 a723 a724 =>
      zn (x3 + 1) fun v725 =>
      zg L zx v725 fun v726 =>
      zd5 (f_HM_back v726 (τ 5) (τ 6) (σ 4) (σ 5) (τ 3) (τ 4)) fun v727 v728 v729 a730 a731 =>
      f_LW_law_1304 L zx k18 x3 (zst σ [(3, v707), (4, v728), (5, v729), (26, v708), (27, v709), (28, v710), (29, v711), (30, v712), (49, v714)]) (zta τ [(2, a713), (3, a730), (4, a731), (34, a715), (35, a716), (36, a717), (37, a718), (38, a719), (39, a720), (40, a721), (41, a722), (63, a723), (64, a724)])
    else if zi_w v5 = 36 then
      zn (x3 + 1) fun v732 =>
      zg L zx v732 fun v733 =>
      zd1 (f_HS_count v733 (σ 0) (σ 26) (σ 27) (σ 28) (σ 29) (τ 2) (σ 49) (τ 38) (τ 63)) fun v734 =>
      zn (x3 + 1) fun v735 =>
      zg L zx v735 fun v736 =>
      zd2 (f_HM_count v736 (σ 7) (τ 3) (τ 4) (σ 4)) fun v737 v738 =>
      f_LW_law_1304 L zx k18 x3 (zst σ [(4, v738)]) τ
    else if zi_w v5 = 37 then
      zd1 (f_HS_status (σ 3)) fun v739 =>
      zd2 (f_HM_status (σ 5) (σ 4)) fun v740 v741 =>
      f_LW_law_1304 L zx k18 x3 (zst σ [(4, v741)]) τ
    else
      f_LW_law_1304 L zx k18 x3 σ τ
def f_LW_law_18 (L : Nat) (zx : Nat → Int)  : Nat → Int → (Nat → Int) → (Nat → Nat → Int) → Option (Int)
  | 0 => fun _ _ _ => none
  | n + 1 => fun y0 y1 y2 => f_LW_law_18_b L zx  (f_LW_law_18 L zx n) y0 y1 y2
set_option maxHeartbeats 40000000 in
set_option maxRecDepth 100000 in
theorem law_loop {p : Program} {l : Launch} {e : Env} {s : State} {m : MethodId} {below : List Frame} {meth : Method} {c : Code} {dC : Nat → ClassId} {dI : Nat → Nat → Nat} {cA : Nat → ClassId} {ev : zEv} {b L : Nat} {xs : Nat → Int32} {A : Nat → Prop} (C0 : lw_At p s m meth c b L xs) (hK : va_K (dC, dI) vwCl (tyl cA) s) (hA : ∀ q, s.heap.size ≤ q → A q) (hA2 : ∀ q, A q → s.heap.size ≤ q) (hbA : ¬ A b) (hE : zE ev A s s.heap) (qa : Nat → Nat) : ∀ (n : Nat), ∀ (x3 : Int) (σ : Nat → Int) (τ : Nat → Nat → Int) (H : Heap) (locs : List Loc) (ls : Array Slot), f_LW_law_18 L (fun j => (xs j).toInt) n x3 σ τ = some 1 → va_P (dC, dI) vwCl (wd_LW_law cA qa σ τ) H → va_D A (wd_LW_law cA qa σ τ) → va_S A s.heap H locs → lv_has ls 4 [(0, .ref b), (1, .ref (qa 0)), (2, .ref (qa 13)), (3, .int (Int32.ofInt x3))] → W p l e room_1 s m #[Value.ref b] below meth c H locs 600000 7302250 (lw_Z below #[Value.ref b] s) (F0 m 18 ls []) := by
  obtain ⟨hx, hb, hr, hml, hown, hts, hX, hbl, hlocks, hgv⟩ := C0
  have hown : s.vm.findClass "HillSchoolLaw" = some m.cls := hown
  have hz : ∀ w ∈ zall, w.before #[Value.ref b] s = true := fun w h => hts w (zall_in w h)
  have b_1304 : ∀ (k18 : Int → (Nat → Int) → (Nat → Nat → Int) → Option (Int)) (_ : ∀ (x3 : Int) (σ : Nat → Int) (τ : Nat → Nat → Int) (H : Heap) (locs : List Loc) (ls : Array Slot), k18 x3 σ τ = some 1 → va_P (dC, dI) vwCl (wd_LW_law cA qa σ τ) H → va_D A (wd_LW_law cA qa σ τ) → va_S A s.heap H locs → lv_has ls 4 [(0, .ref b), (1, .ref (qa 0)), (2, .ref (qa 13)), (3, .int (Int32.ofInt x3))] → W p l e room_1 s m #[Value.ref b] below meth c H locs 600000 7302250 (lw_Z below #[Value.ref b] s) (F0 m 18 ls [])), ∀ (x3 : Int) (σ : Nat → Int) (τ : Nat → Nat → Int) (H : Heap) (locs : List Loc) (ls : Array Slot), f_LW_law_1304 L (fun j => (xs j).toInt) k18 x3 σ τ = some 1 → va_P (dC, dI) vwCl (wd_LW_law cA qa σ τ) H → va_D A (wd_LW_law cA qa σ τ) → va_S A s.heap H locs → lv_has ls 4 [(0, .ref b), (1, .ref (qa 0)), (2, .ref (qa 13)), (3, .int (Int32.ofInt x3))] → W p l e room_1 s m #[Value.ref b] below meth c H locs 600000 7302250 (lw_Z below #[Value.ref b] s) (F0 m 1304 ls []) := by
    intro k18 ih18 x3 σ τ H locs ls hf hP hD hS hl
    unfold f_LW_law_1304 at hf
    refine xi_iinc hx hb dL_law_1304 hl (k := 3) rfl (by decide) hf (fun v1 ls hl hf => ?_)
    have hl : lv_has ls 4 [(3, .int (Int32.ofInt v1)), (0, .ref b), (1, .ref (qa 0)), (2, .ref (qa 13))] := hl
    refine lv_goto (tgt := 18) hx hb dL_law_1307 (by decide) ?_
    exact ih18 _ _ _ _ _ _ hf hP hD hS (lv_sub hl [1, 2, 3, 0] rfl)
  have b_18 : ∀ (k18 : Int → (Nat → Int) → (Nat → Nat → Int) → Option (Int)) (_ : ∀ (x3 : Int) (σ : Nat → Int) (τ : Nat → Nat → Int) (H : Heap) (locs : List Loc) (ls : Array Slot), k18 x3 σ τ = some 1 → va_P (dC, dI) vwCl (wd_LW_law cA qa σ τ) H → va_D A (wd_LW_law cA qa σ τ) → va_S A s.heap H locs → lv_has ls 4 [(0, .ref b), (1, .ref (qa 0)), (2, .ref (qa 13)), (3, .int (Int32.ofInt x3))] → W p l e room_1 s m #[Value.ref b] below meth c H locs 600000 7302250 (lw_Z below #[Value.ref b] s) (F0 m 18 ls [])), ∀ (x3 : Int) (σ : Nat → Int) (τ : Nat → Nat → Int) (H : Heap) (locs : List Loc) (ls : Array Slot), f_LW_law_18_b L (fun j => (xs j).toInt) k18 x3 σ τ = some 1 → va_P (dC, dI) vwCl (wd_LW_law cA qa σ τ) H → va_D A (wd_LW_law cA qa σ τ) → va_S A s.heap H locs → lv_has ls 4 [(0, .ref b), (1, .ref (qa 0)), (2, .ref (qa 13)), (3, .int (Int32.ofInt x3))] → W p l e room_1 s m #[Value.ref b] below meth c H locs 600000 7302250 (lw_Z below #[Value.ref b] s) (F0 m 18 ls []) := by
    intro k18 ih18 x3 σ τ H locs ls hf hP hD hS hl
    unfold f_LW_law_18_b at hf
    refine lv_iload_n hx hb dL_law_18 rfl (lv_at hl 3 rfl) ?_
    refine lv_aload_n hx hb dL_law_19 rfl (lv_at hl 0 rfl) ?_
    refine xi_llen hx hb hX hbl hbA hS dL_law_20 hf (fun v2 hf => ?_)
    refine lv_bipush (v := Int32.ofInt 6) hx hb dL_law_21 (by decide) ?_
    refine xi_isub hx hb dL_law_23 hf (fun v3 hf => ?_)
    refine xi_icmp_gt (tgt := 1310) hx hb dL_law_24 (by decide) hf (fun hf => ?_) (fun hf => ?_)
    · refine lv_iconst (v := Int32.ofInt 1) hx hb dL_law_1310 rfl ?_
      refine va_forget (fun q hq => hA2 _ (hS.2.2 q hq)) ?_
      exact lw_ret hx hb hr hlocks dL_law_1311
    · refine lv_aload_n hx hb dL_law_27 rfl (lv_at hl 0 rfl) ?_
      refine lv_iload_n hx hb dL_law_28 rfl (lv_at hl 3 rfl) ?_
      refine xi_lld hx hb hX hbl hbA hS dL_law_29 hf (fun v4 hf => ?_)
      refine lv_bipush (v := Int32.ofInt 63) hx hb dL_law_30 (by decide) ?_
      refine xi_iand hx hb dL_law_32 hf (fun v5 hf => ?_)
      refine xz_if hf (fun hc hf => ?_) (fun hn0 hf => ?_)
      · refine xi_tin (tgt := 200) hx hb dL_law_33 hc (by decide) (by decide) rfl (by decide) ?_
        refine lv_aload_n hx hb dL_law_200 rfl (lv_at hl 1 rfl) ?_
        refine xe_d7 hf (fun v6 v7 v8 a9 v10 a11 a12 hg hf => ?_)
        have hC : ([0, 2, 6, 45, 51, 80] : List Nat).map (fun i => (wd_LW_law cA qa σ τ)[i]?) = (wd_HS_column cA (qa 0) (qa 1) (qa 2) (qa 3) (qa 4) (qa 5) (qa 6) (qa 7) (qa 8) (qa 9) (qa 10) (qa 11) (qa 12) (qa 45) (qa 46) (qa 47) (qa 48) (qa 49) (qa 50) (qa 51) (qa 52) (qa 53) (qa 80) (qa 81) (σ 0) (σ 1) (σ 2) (σ 26) (σ 27) (σ 28) (σ 29) (σ 3) (σ 30) (τ 2) (σ 49) (τ 39) (τ 63)).map some := rfl
        refine xv_afterI (ws' := (wd_LW_law cA qa (zst σ [(3, v7), (30, v8), (49, v10)]) (zta τ [(2, a9), (39, a11), (63, a12)]))) (isC := [0, 2, 6, 45, 51, 80]) (ps := [some 0, none, some 1, none, none, none, some 2, none, none, none, none, none, none, none, none, none, none, none, none, none, none, none, none, none, none, none, none, none, none, none, none, none, none, none, none, none, none, none, none, none, none, none, none, none, none, some 3, none, none, none, none, none, some 4, none, none, none, none, none, none, none, none, none, none, none, none, none, none, none, none, none, none, none, none, none, none, none, none, none, none, none, none, some 5, none, none, none, none, none, none, none, none, none, none, none, none, none, none, none, none, none, none, none, none, none, none, none, none, none, none, none, none, none, none, none, none, none]) (va_runV (As := []) (rest := []) ⟨hx, hb, hml, hown, hts⟩ (c_HS_column l ev dC dI cA (qa 0) (qa 1) (qa 2) (qa 3) (qa 4) (qa 5) (qa 6) (qa 7) (qa 8) (qa 9) (qa 10) (qa 11) (qa 12) (qa 45) (qa 46) (qa 47) (qa 48) (qa 49) (qa 50) (qa 51) (qa 52) (qa 53) (qa 80) (qa 81) ((σ 0)) ((σ 1)) ((σ 2)) ((σ 26)) ((σ 27)) ((σ 28)) ((σ 29)) hg H.size) (cwV 0 hts (zgVL zw_526 zw_527 zw_528 zw_104 zw_529) rfl rfl rfl hd_HS_column ⟨Nat.le_of_ble_eq_true rfl, Nat.le_of_ble_eq_true rfl⟩) (xv_preV (T := TX10) (N := 16) hE hA hS hK hP hD (isC := [0, 2, 6, 45, 51, 80]) (by decide +kernel) hC (q0 := 0) (ci := 10) rfl rfl) rfl rfl hl.1 rfl (lv_room (Nat.le_of_ble_eq_true rfl)) dL_law_201 ⟨Nat.le_refl _, Nat.le_refl _⟩) hP hD hS hA (by decide +kernel) rfl hC rfl rfl (fun H locs hP hD hS => ?_)
        refine lv_pop hx hb dL_law_204 rfl ?_
        refine lv_aload_n hx hb dL_law_205 rfl (lv_at hl 2 rfl) ?_
        refine xe_d5 hf (fun v13 v14 v15 a16 a17 hg hf => ?_)
        have hC : ([1, 14, 15] : List Nat).map (fun i => (wd_LW_law cA qa (zst σ [(3, v7), (30, v8), (49, v10)]) (zta τ [(2, a9), (39, a11), (63, a12)]))[i]?) = (wd_HM_column cA (qa 13) (qa 14) (qa 15) (qa 16) (qa 17) (qa 18) (qa 19) (qa 20) (qa 21) (qa 22) (qa 23) (qa 24) (qa 25) (qa 26) (qa 27) (qa 28) (qa 29) (qa 30) (qa 31) (qa 32) (qa 33) (qa 34) (qa 35) (qa 36) (qa 37) (qa 38) (qa 39) (qa 40) (qa 41) (qa 42) (qa 43) (qa 44) (σ 6) (σ 7) (σ 8) (σ 9) (σ 10) (σ 11) (σ 12) (σ 13) (σ 14) (σ 15) (σ 16) (σ 17) (σ 18) (σ 19) (σ 20) (σ 21) (σ 22) (σ 23) (σ 24) (σ 25) (σ 4) (σ 5) (τ 3) (τ 4)).map some := rfl
        refine xv_afterI (ws' := (wd_LW_law cA qa (zst σ [(3, v7), (4, v14), (5, v15), (30, v8), (49, v10)]) (zta τ [(2, a9), (3, a16), (4, a17), (39, a11), (63, a12)]))) (isC := [1, 14, 15]) (ps := [none, some 0, none, none, none, none, none, none, none, none, none, none, none, none, some 1, some 2, none, none, none, none, none, none, none, none, none, none, none, none, none, none, none, none, none, none, none, none, none, none, none, none, none, none, none, none, none, none, none, none, none, none, none, none, none, none, none, none, none, none, none, none, none, none, none, none, none, none, none, none, none, none, none, none, none, none, none, none, none, none, none, none, none, none, none, none, none, none, none, none, none, none, none, none, none, none, none, none, none, none, none, none, none, none, none, none, none, none, none, none, none, none, none, none, none, none]) (va_runV (As := []) (rest := []) ⟨hx, hb, hml, hown, hts⟩ (c_HM_column l ev dC dI cA (qa 13) (qa 14) (qa 15) (qa 16) (qa 17) (qa 18) (qa 19) (qa 20) (qa 21) (qa 22) (qa 23) (qa 24) (qa 25) (qa 26) (qa 27) (qa 28) (qa 29) (qa 30) (qa 31) (qa 32) (qa 33) (qa 34) (qa 35) (qa 36) (qa 37) (qa 38) (qa 39) (qa 40) (qa 41) (qa 42) (qa 43) (qa 44) ((σ 6)) ((σ 7)) ((σ 8)) ((σ 9)) ((σ 10)) ((σ 11)) ((σ 12)) ((σ 13)) ((σ 14)) ((σ 15)) ((σ 16)) ((σ 17)) ((σ 18)) ((σ 19)) ((σ 20)) ((σ 21)) ((σ 22)) ((σ 23)) ((σ 24)) ((σ 25)) hg H.size) (cwV 0 hts (zgVL zw_1340 zw_1341 zw_1342 zw_115 zw_1343) rfl rfl rfl hd_HM_column ⟨Nat.le_of_ble_eq_true rfl, Nat.le_of_ble_eq_true rfl⟩) (xv_preV (T := TX11) (N := 53) hE hA hS hK hP hD (isC := [1, 14, 15]) (by decide +kernel) hC (q0 := 1) (ci := 11) rfl rfl) rfl rfl hl.1 rfl (lv_room (Nat.le_of_ble_eq_true rfl)) dL_law_206 ⟨Nat.le_refl _, Nat.le_refl _⟩) hP hD hS hA (by decide +kernel) rfl hC rfl rfl (fun H locs hP hD hS => ?_)
        refine lv_pop hx hb dL_law_209 rfl ?_
        refine lv_goto (tgt := 1304) hx hb dL_law_210 (by decide) ?_
        exact b_1304 _ ih18 _ _ _ _ _ _ hf hP hD hS (lv_sub hl [0, 1, 2, 3] rfl)
      refine xz_if hf (fun hc hf => ?_) (fun hn1 hf => ?_)
      · refine xi_tin (tgt := 213) hx hb dL_law_33 hc (by decide) (by decide) rfl (by decide) ?_
        refine lv_aload_n hx hb dL_law_213 rfl (lv_at hl 1 rfl) ?_
        refine lv_aload_n hx hb dL_law_214 rfl (lv_at hl 0 rfl) ?_
        refine lv_iload_n hx hb dL_law_215 rfl (lv_at hl 3 rfl) ?_
        refine lv_iconst (v := Int32.ofInt 1) hx hb dL_law_216 rfl ?_
        refine xi_iadd hx hb dL_law_217 hf (fun v18 hf => ?_)
        refine xi_lld hx hb hX hbl hbA hS dL_law_218 hf (fun v19 hf => ?_)
        refine lv_aload_n hx hb dL_law_219 rfl (lv_at hl 0 rfl) ?_
        refine lv_iload_n hx hb dL_law_220 rfl (lv_at hl 3 rfl) ?_
        refine lv_iconst (v := Int32.ofInt 2) hx hb dL_law_221 rfl ?_
        refine xi_iadd hx hb dL_law_222 hf (fun v20 hf => ?_)
        refine xi_lld hx hb hX hbl hbA hS dL_law_223 hf (fun v21 hf => ?_)
        refine xe_d6 hf (fun v22 v23 v24 a25 a26 a27 hg hf => ?_)
        have hC : ([0, 2, 6, 45, 80, 81] : List Nat).map (fun i => (wd_LW_law cA qa σ τ)[i]?) = (wd_HS_stone cA (qa 0) (qa 1) (qa 2) (qa 3) (qa 4) (qa 5) (qa 6) (qa 7) (qa 8) (qa 9) (qa 10) (qa 11) (qa 12) (qa 45) (qa 46) (qa 47) (qa 48) (qa 49) (qa 50) (qa 51) (qa 52) (qa 53) (qa 80) (qa 81) (σ 0) (σ 1) (σ 2) (σ 26) (σ 27) (σ 28) (σ 29) (σ 49) (σ 3) (σ 30) (τ 2) (τ 63) (τ 64)).map some := rfl
        refine xv_afterI (ws' := (wd_LW_law cA qa (zst σ [(3, v23), (30, v24)]) (zta τ [(2, a25), (63, a26), (64, a27)]))) (isC := [0, 2, 6, 45, 80, 81]) (ps := [some 0, none, some 1, none, none, none, some 2, none, none, none, none, none, none, none, none, none, none, none, none, none, none, none, none, none, none, none, none, none, none, none, none, none, none, none, none, none, none, none, none, none, none, none, none, none, none, some 3, none, none, none, none, none, none, none, none, none, none, none, none, none, none, none, none, none, none, none, none, none, none, none, none, none, none, none, none, none, none, none, none, none, none, some 4, some 5, none, none, none, none, none, none, none, none, none, none, none, none, none, none, none, none, none, none, none, none, none, none, none, none, none, none, none, none, none, none, none, none]) (va_runV (As := [.int (Int32.ofInt v19), .int (Int32.ofInt v21)]) (rest := []) ⟨hx, hb, hml, hown, hts⟩ (c_HS_stone l ev dC dI cA (qa 0) (qa 1) (qa 2) (qa 3) (qa 4) (qa 5) (qa 6) (qa 7) (qa 8) (qa 9) (qa 10) (qa 11) (qa 12) (qa 45) (qa 46) (qa 47) (qa 48) (qa 49) (qa 50) (qa 51) (qa 52) (qa 53) (qa 80) (qa 81) ((σ 0)) ((σ 1)) ((σ 2)) ((σ 26)) ((σ 27)) ((σ 28)) ((σ 29)) hg H.size) (cwV 2 hts (zgVL zw_542 zw_543 zw_544 zw_104 zw_545) rfl rfl rfl hd_HS_stone ⟨Nat.le_of_ble_eq_true rfl, Nat.le_of_ble_eq_true rfl⟩) (xv_preV (T := TX10) (N := 16) hE hA hS hK hP hD (isC := [0, 2, 6, 45, 80, 81]) (by decide +kernel) hC (q0 := 0) (ci := 10) rfl rfl) rfl rfl hl.1 rfl (lv_room (Nat.le_of_ble_eq_true rfl)) dL_law_224 ⟨Nat.le_refl _, Nat.le_refl _⟩) hP hD hS hA (by decide +kernel) rfl hC rfl rfl (fun H locs hP hD hS => ?_)
        refine lv_pop hx hb dL_law_227 rfl ?_
        refine lv_aload_n hx hb dL_law_228 rfl (lv_at hl 2 rfl) ?_
        refine lv_aload_n hx hb dL_law_229 rfl (lv_at hl 0 rfl) ?_
        refine lv_iload_n hx hb dL_law_230 rfl (lv_at hl 3 rfl) ?_
        refine lv_iconst (v := Int32.ofInt 1) hx hb dL_law_231 rfl ?_
        refine xi_iadd hx hb dL_law_232 hf (fun v28 hf => ?_)
        refine xi_lld hx hb hX hbl hbA hS dL_law_233 hf (fun v29 hf => ?_)
        refine lv_aload_n hx hb dL_law_234 rfl (lv_at hl 0 rfl) ?_
        refine lv_iload_n hx hb dL_law_235 rfl (lv_at hl 3 rfl) ?_
        refine lv_iconst (v := Int32.ofInt 2) hx hb dL_law_236 rfl ?_
        refine xi_iadd hx hb dL_law_237 hf (fun v30 hf => ?_)
        refine xi_lld hx hb hX hbl hbA hS dL_law_238 hf (fun v31 hf => ?_)
        refine xe_d5 hf (fun v32 v33 v34 a35 a36 hg hf => ?_)
        have hC : ([1, 14, 15] : List Nat).map (fun i => (wd_LW_law cA qa (zst σ [(3, v23), (30, v24)]) (zta τ [(2, a25), (63, a26), (64, a27)]))[i]?) = (wd_HM_stone cA (qa 13) (qa 14) (qa 15) (qa 16) (qa 17) (qa 18) (qa 19) (qa 20) (qa 21) (qa 22) (qa 23) (qa 24) (qa 25) (qa 26) (qa 27) (qa 28) (qa 29) (qa 30) (qa 31) (qa 32) (qa 33) (qa 34) (qa 35) (qa 36) (qa 37) (qa 38) (qa 39) (qa 40) (qa 41) (qa 42) (qa 43) (qa 44) (σ 6) (σ 7) (σ 8) (σ 9) (σ 10) (σ 11) (σ 12) (σ 13) (σ 14) (σ 15) (σ 16) (σ 17) (σ 18) (σ 19) (σ 20) (σ 21) (σ 22) (σ 23) (σ 24) (σ 25) (σ 4) (σ 5) (τ 3) (τ 4)).map some := rfl
        refine xv_afterI (ws' := (wd_LW_law cA qa (zst σ [(3, v23), (4, v33), (5, v34), (30, v24)]) (zta τ [(2, a25), (3, a35), (4, a36), (63, a26), (64, a27)]))) (isC := [1, 14, 15]) (ps := [none, some 0, none, none, none, none, none, none, none, none, none, none, none, none, some 1, some 2, none, none, none, none, none, none, none, none, none, none, none, none, none, none, none, none, none, none, none, none, none, none, none, none, none, none, none, none, none, none, none, none, none, none, none, none, none, none, none, none, none, none, none, none, none, none, none, none, none, none, none, none, none, none, none, none, none, none, none, none, none, none, none, none, none, none, none, none, none, none, none, none, none, none, none, none, none, none, none, none, none, none, none, none, none, none, none, none, none, none, none, none, none, none, none, none, none, none]) (va_runV (As := [.int (Int32.ofInt v29), .int (Int32.ofInt v31)]) (rest := []) ⟨hx, hb, hml, hown, hts⟩ (c_HM_stone l ev dC dI cA (qa 13) (qa 14) (qa 15) (qa 16) (qa 17) (qa 18) (qa 19) (qa 20) (qa 21) (qa 22) (qa 23) (qa 24) (qa 25) (qa 26) (qa 27) (qa 28) (qa 29) (qa 30) (qa 31) (qa 32) (qa 33) (qa 34) (qa 35) (qa 36) (qa 37) (qa 38) (qa 39) (qa 40) (qa 41) (qa 42) (qa 43) (qa 44) ((σ 6)) ((σ 7)) ((σ 8)) ((σ 9)) ((σ 10)) ((σ 11)) ((σ 12)) ((σ 13)) ((σ 14)) ((σ 15)) ((σ 16)) ((σ 17)) ((σ 18)) ((σ 19)) ((σ 20)) ((σ 21)) ((σ 22)) ((σ 23)) ((σ 24)) ((σ 25)) hg H.size) (cwV 2 hts (zgVL zw_1348 zw_1349 zw_1350 zw_115 zw_1351) rfl rfl rfl hd_HM_stone ⟨Nat.le_of_ble_eq_true rfl, Nat.le_of_ble_eq_true rfl⟩) (xv_preV (T := TX11) (N := 53) hE hA hS hK hP hD (isC := [1, 14, 15]) (by decide +kernel) hC (q0 := 1) (ci := 11) rfl rfl) rfl rfl hl.1 rfl (lv_room (Nat.le_of_ble_eq_true rfl)) dL_law_239 ⟨Nat.le_refl _, Nat.le_refl _⟩) hP hD hS hA (by decide +kernel) rfl hC rfl rfl (fun H locs hP hD hS => ?_)
        refine lv_pop hx hb dL_law_242 rfl ?_
        refine lv_goto (tgt := 1304) hx hb dL_law_243 (by decide) ?_
        exact b_1304 _ ih18 _ _ _ _ _ _ hf hP hD hS (lv_sub hl [0, 1, 2, 3] rfl)
      refine xz_if hf (fun hc hf => ?_) (fun hn2 hf => ?_)
      · refine xi_tin (tgt := 246) hx hb dL_law_33 hc (by decide) (by decide) rfl (by decide) ?_
        refine lv_aload_n hx hb dL_law_246 rfl (lv_at hl 1 rfl) ?_
        refine lv_aload_n hx hb dL_law_247 rfl (lv_at hl 0 rfl) ?_
        refine lv_iload_n hx hb dL_law_248 rfl (lv_at hl 3 rfl) ?_
        refine lv_iconst (v := Int32.ofInt 1) hx hb dL_law_249 rfl ?_
        refine xi_iadd hx hb dL_law_250 hf (fun v37 hf => ?_)
        refine xi_lld hx hb hX hbl hbA hS dL_law_251 hf (fun v38 hf => ?_)
        refine xe_d5 hf (fun v39 v40 v41 a42 a43 hg hf => ?_)
        have hC : ([0, 2, 6, 45, 80, 81] : List Nat).map (fun i => (wd_LW_law cA qa σ τ)[i]?) = (wd_HS_lift cA (qa 0) (qa 1) (qa 2) (qa 3) (qa 4) (qa 5) (qa 6) (qa 7) (qa 8) (qa 9) (qa 10) (qa 11) (qa 12) (qa 45) (qa 46) (qa 47) (qa 48) (qa 49) (qa 50) (qa 51) (qa 52) (qa 53) (qa 80) (qa 81) (σ 0) (σ 1) (σ 2) (σ 26) (σ 27) (σ 28) (σ 29) (σ 49) (τ 64) (σ 3) (σ 30) (τ 2) (τ 63)).map some := rfl
        refine xv_afterI (ws' := (wd_LW_law cA qa (zst σ [(3, v40), (30, v41)]) (zta τ [(2, a42), (63, a43)]))) (isC := [0, 2, 6, 45, 80, 81]) (ps := [some 0, none, some 1, none, none, none, some 2, none, none, none, none, none, none, none, none, none, none, none, none, none, none, none, none, none, none, none, none, none, none, none, none, none, none, none, none, none, none, none, none, none, none, none, none, none, none, some 3, none, none, none, none, none, none, none, none, none, none, none, none, none, none, none, none, none, none, none, none, none, none, none, none, none, none, none, none, none, none, none, none, none, none, some 4, some 5, none, none, none, none, none, none, none, none, none, none, none, none, none, none, none, none, none, none, none, none, none, none, none, none, none, none, none, none, none, none, none, none]) (va_runV (As := [.int (Int32.ofInt v38)]) (rest := []) ⟨hx, hb, hml, hown, hts⟩ (c_HS_lift l ev dC dI cA (qa 0) (qa 1) (qa 2) (qa 3) (qa 4) (qa 5) (qa 6) (qa 7) (qa 8) (qa 9) (qa 10) (qa 11) (qa 12) (qa 45) (qa 46) (qa 47) (qa 48) (qa 49) (qa 50) (qa 51) (qa 52) (qa 53) (qa 80) (qa 81) ((σ 0)) ((σ 1)) ((σ 2)) ((σ 26)) ((σ 27)) ((σ 28)) ((σ 29)) hg H.size) (cwV 1 hts (zgVL zw_559 zw_560 zw_561 zw_104 zw_562) rfl rfl rfl hd_HS_lift ⟨Nat.le_of_ble_eq_true rfl, Nat.le_of_ble_eq_true rfl⟩) (xv_preV (T := TX10) (N := 16) hE hA hS hK hP hD (isC := [0, 2, 6, 45, 80, 81]) (by decide +kernel) hC (q0 := 0) (ci := 10) rfl rfl) rfl rfl hl.1 rfl (lv_room (Nat.le_of_ble_eq_true rfl)) dL_law_252 ⟨Nat.le_refl _, Nat.le_refl _⟩) hP hD hS hA (by decide +kernel) rfl hC rfl rfl (fun H locs hP hD hS => ?_)
        refine lv_pop hx hb dL_law_255 rfl ?_
        refine lv_aload_n hx hb dL_law_256 rfl (lv_at hl 2 rfl) ?_
        refine lv_aload_n hx hb dL_law_257 rfl (lv_at hl 0 rfl) ?_
        refine lv_iload_n hx hb dL_law_258 rfl (lv_at hl 3 rfl) ?_
        refine lv_iconst (v := Int32.ofInt 1) hx hb dL_law_259 rfl ?_
        refine xi_iadd hx hb dL_law_260 hf (fun v44 hf => ?_)
        refine xi_lld hx hb hX hbl hbA hS dL_law_261 hf (fun v45 hf => ?_)
        refine xe_d5 hf (fun v46 v47 v48 a49 a50 hg hf => ?_)
        have hC : ([1, 14, 15] : List Nat).map (fun i => (wd_LW_law cA qa (zst σ [(3, v40), (30, v41)]) (zta τ [(2, a42), (63, a43)]))[i]?) = (wd_HM_lift cA (qa 13) (qa 14) (qa 15) (qa 16) (qa 17) (qa 18) (qa 19) (qa 20) (qa 21) (qa 22) (qa 23) (qa 24) (qa 25) (qa 26) (qa 27) (qa 28) (qa 29) (qa 30) (qa 31) (qa 32) (qa 33) (qa 34) (qa 35) (qa 36) (qa 37) (qa 38) (qa 39) (qa 40) (qa 41) (qa 42) (qa 43) (qa 44) (σ 6) (σ 7) (σ 8) (σ 9) (σ 10) (σ 11) (σ 12) (σ 13) (σ 14) (σ 15) (σ 16) (σ 17) (σ 18) (σ 19) (σ 20) (σ 21) (σ 22) (σ 23) (σ 24) (σ 25) (σ 4) (σ 5) (τ 3) (τ 4)).map some := rfl
        refine xv_afterI (ws' := (wd_LW_law cA qa (zst σ [(3, v40), (4, v47), (5, v48), (30, v41)]) (zta τ [(2, a42), (3, a49), (4, a50), (63, a43)]))) (isC := [1, 14, 15]) (ps := [none, some 0, none, none, none, none, none, none, none, none, none, none, none, none, some 1, some 2, none, none, none, none, none, none, none, none, none, none, none, none, none, none, none, none, none, none, none, none, none, none, none, none, none, none, none, none, none, none, none, none, none, none, none, none, none, none, none, none, none, none, none, none, none, none, none, none, none, none, none, none, none, none, none, none, none, none, none, none, none, none, none, none, none, none, none, none, none, none, none, none, none, none, none, none, none, none, none, none, none, none, none, none, none, none, none, none, none, none, none, none, none, none, none, none, none, none]) (va_runV (As := [.int (Int32.ofInt v45)]) (rest := []) ⟨hx, hb, hml, hown, hts⟩ (c_HM_lift l ev dC dI cA (qa 13) (qa 14) (qa 15) (qa 16) (qa 17) (qa 18) (qa 19) (qa 20) (qa 21) (qa 22) (qa 23) (qa 24) (qa 25) (qa 26) (qa 27) (qa 28) (qa 29) (qa 30) (qa 31) (qa 32) (qa 33) (qa 34) (qa 35) (qa 36) (qa 37) (qa 38) (qa 39) (qa 40) (qa 41) (qa 42) (qa 43) (qa 44) ((σ 6)) ((σ 7)) ((σ 8)) ((σ 9)) ((σ 10)) ((σ 11)) ((σ 12)) ((σ 13)) ((σ 14)) ((σ 15)) ((σ 16)) ((σ 17)) ((σ 18)) ((σ 19)) ((σ 20)) ((σ 21)) ((σ 22)) ((σ 23)) ((σ 24)) ((σ 25)) hg H.size) (cwV 1 hts (zgVL zw_1360 zw_1361 zw_1362 zw_115 zw_1363) rfl rfl rfl hd_HM_lift ⟨Nat.le_of_ble_eq_true rfl, Nat.le_of_ble_eq_true rfl⟩) (xv_preV (T := TX11) (N := 53) hE hA hS hK hP hD (isC := [1, 14, 15]) (by decide +kernel) hC (q0 := 1) (ci := 11) rfl rfl) rfl rfl hl.1 rfl (lv_room (Nat.le_of_ble_eq_true rfl)) dL_law_262 ⟨Nat.le_refl _, Nat.le_refl _⟩) hP hD hS hA (by decide +kernel) rfl hC rfl rfl (fun H locs hP hD hS => ?_)
        refine lv_pop hx hb dL_law_265 rfl ?_
        refine lv_goto (tgt := 1304) hx hb dL_law_266 (by decide) ?_
        exact b_1304 _ ih18 _ _ _ _ _ _ hf hP hD hS (lv_sub hl [0, 1, 2, 3] rfl)
      refine xz_if hf (fun hc hf => ?_) (fun hn3 hf => ?_)
      · refine xi_tin (tgt := 269) hx hb dL_law_33 hc (by decide) (by decide) rfl (by decide) ?_
        refine lv_aload_n hx hb dL_law_269 rfl (lv_at hl 1 rfl) ?_
        refine lv_aload_n hx hb dL_law_270 rfl (lv_at hl 0 rfl) ?_
        refine lv_iload_n hx hb dL_law_271 rfl (lv_at hl 3 rfl) ?_
        refine lv_iconst (v := Int32.ofInt 1) hx hb dL_law_272 rfl ?_
        refine xi_iadd hx hb dL_law_273 hf (fun v51 hf => ?_)
        refine xi_lld hx hb hX hbl hbA hS dL_law_274 hf (fun v52 hf => ?_)
        refine lv_aload_n hx hb dL_law_275 rfl (lv_at hl 0 rfl) ?_
        refine lv_iload_n hx hb dL_law_276 rfl (lv_at hl 3 rfl) ?_
        refine lv_iconst (v := Int32.ofInt 2) hx hb dL_law_277 rfl ?_
        refine xi_iadd hx hb dL_law_278 hf (fun v53 hf => ?_)
        refine xi_lld hx hb hX hbl hbA hS dL_law_279 hf (fun v54 hf => ?_)
        refine xe_d1 hf (fun v55 hg hf => ?_)
        have hC : ([0, 2, 45, 80, 81] : List Nat).map (fun i => (wd_LW_law cA qa σ τ)[i]?) = (wd_HS_of cA (qa 0) (qa 1) (qa 2) (qa 3) (qa 4) (qa 5) (qa 6) (qa 7) (qa 8) (qa 9) (qa 10) (qa 11) (qa 12) (qa 45) (qa 46) (qa 47) (qa 48) (qa 49) (qa 50) (qa 51) (qa 52) (qa 53) (qa 80) (qa 81) (σ 0) (σ 1) (σ 2) (σ 3) (σ 26) (σ 27) (σ 28) (σ 29) (σ 30) (σ 49) (τ 63) (τ 64)).map some := rfl
        refine xv_afterI (ws' := (wd_LW_law cA qa σ τ)) (isC := [0, 2, 45, 80, 81]) (ps := [some 0, none, some 1, none, none, none, none, none, none, none, none, none, none, none, none, none, none, none, none, none, none, none, none, none, none, none, none, none, none, none, none, none, none, none, none, none, none, none, none, none, none, none, none, none, none, some 2, none, none, none, none, none, none, none, none, none, none, none, none, none, none, none, none, none, none, none, none, none, none, none, none, none, none, none, none, none, none, none, none, none, none, some 3, some 4, none, none, none, none, none, none, none, none, none, none, none, none, none, none, none, none, none, none, none, none, none, none, none, none, none, none, none, none, none, none, none, none]) (va_runV (As := [.int (Int32.ofInt v52), .int (Int32.ofInt v54)]) (rest := []) ⟨hx, hb, hml, hown, hts⟩ (c_HS_of l ev dC dI cA (qa 0) (qa 1) (qa 2) (qa 3) (qa 4) (qa 5) (qa 6) (qa 7) (qa 8) (qa 9) (qa 10) (qa 11) (qa 12) (qa 45) (qa 46) (qa 47) (qa 48) (qa 49) (qa 50) (qa 51) (qa 52) (qa 53) (qa 80) (qa 81) ((σ 0)) ((σ 1)) ((σ 2)) ((σ 3)) ((σ 26)) ((σ 27)) ((σ 28)) ((σ 29)) ((σ 30)) hg H.size) (cwV 2 hts (zgVL zw_572 zw_573 zw_574 zw_104 zw_575) rfl rfl rfl hd_HS_of ⟨Nat.le_of_ble_eq_true rfl, Nat.le_of_ble_eq_true rfl⟩) (xv_preV (T := TX10) (N := 16) hE hA hS hK hP hD (isC := [0, 2, 45, 80, 81]) (by decide +kernel) hC (q0 := 0) (ci := 10) rfl rfl) rfl rfl hl.1 rfl (lv_room (Nat.le_of_ble_eq_true rfl)) dL_law_280 ⟨Nat.le_refl _, Nat.le_refl _⟩) hP hD hS hA (by decide +kernel) rfl hC rfl rfl (fun H locs hP hD hS => ?_)
        refine lv_aload_n hx hb dL_law_283 rfl (lv_at hl 2 rfl) ?_
        refine lv_aload_n hx hb dL_law_284 rfl (lv_at hl 0 rfl) ?_
        refine lv_iload_n hx hb dL_law_285 rfl (lv_at hl 3 rfl) ?_
        refine lv_iconst (v := Int32.ofInt 1) hx hb dL_law_286 rfl ?_
        refine xi_iadd hx hb dL_law_287 hf (fun v56 hf => ?_)
        refine xi_lld hx hb hX hbl hbA hS dL_law_288 hf (fun v57 hf => ?_)
        refine lv_aload_n hx hb dL_law_289 rfl (lv_at hl 0 rfl) ?_
        refine lv_iload_n hx hb dL_law_290 rfl (lv_at hl 3 rfl) ?_
        refine lv_iconst (v := Int32.ofInt 2) hx hb dL_law_291 rfl ?_
        refine xi_iadd hx hb dL_law_292 hf (fun v58 hf => ?_)
        refine xi_lld hx hb hX hbl hbA hS dL_law_293 hf (fun v59 hf => ?_)
        refine xe_d2 hf (fun v60 v61 hg hf => ?_)
        have hC : ([1, 15] : List Nat).map (fun i => (wd_LW_law cA qa σ τ)[i]?) = (wd_HM_of cA (qa 13) (qa 14) (qa 15) (qa 16) (qa 17) (qa 18) (qa 19) (qa 20) (qa 21) (qa 22) (qa 23) (qa 24) (qa 25) (qa 26) (qa 27) (qa 28) (qa 29) (qa 30) (qa 31) (qa 32) (qa 33) (qa 34) (qa 35) (qa 36) (qa 37) (qa 38) (qa 39) (qa 40) (qa 41) (qa 42) (qa 43) (qa 44) (σ 5) (σ 6) (σ 7) (σ 8) (σ 9) (σ 10) (σ 11) (σ 12) (σ 13) (σ 14) (σ 15) (σ 16) (σ 17) (σ 18) (σ 19) (σ 20) (σ 21) (σ 22) (σ 23) (σ 24) (σ 25) (τ 4) (σ 4)).map some := rfl
        refine xv_afterI (ws' := (wd_LW_law cA qa (zst σ [(4, v61)]) τ)) (isC := [1, 15]) (ps := [none, some 0, none, none, none, none, none, none, none, none, none, none, none, none, none, some 1, none, none, none, none, none, none, none, none, none, none, none, none, none, none, none, none, none, none, none, none, none, none, none, none, none, none, none, none, none, none, none, none, none, none, none, none, none, none, none, none, none, none, none, none, none, none, none, none, none, none, none, none, none, none, none, none, none, none, none, none, none, none, none, none, none, none, none, none, none, none, none, none, none, none, none, none, none, none, none, none, none, none, none, none, none, none, none, none, none, none, none, none, none, none, none, none, none, none]) (va_runV (As := [.int (Int32.ofInt v57), .int (Int32.ofInt v59)]) (rest := [.int (Int32.ofInt v55)]) ⟨hx, hb, hml, hown, hts⟩ (c_HM_of l ev dC dI cA (qa 13) (qa 14) (qa 15) (qa 16) (qa 17) (qa 18) (qa 19) (qa 20) (qa 21) (qa 22) (qa 23) (qa 24) (qa 25) (qa 26) (qa 27) (qa 28) (qa 29) (qa 30) (qa 31) (qa 32) (qa 33) (qa 34) (qa 35) (qa 36) (qa 37) (qa 38) (qa 39) (qa 40) (qa 41) (qa 42) (qa 43) (qa 44) ((σ 5)) ((σ 6)) ((σ 7)) ((σ 8)) ((σ 9)) ((σ 10)) ((σ 11)) ((σ 12)) ((σ 13)) ((σ 14)) ((σ 15)) ((σ 16)) ((σ 17)) ((σ 18)) ((σ 19)) ((σ 20)) ((σ 21)) ((σ 22)) ((σ 23)) ((σ 24)) ((σ 25)) hg H.size) (cwV 2 hts (zgVL zw_1364 zw_1365 zw_1366 zw_115 zw_1367) rfl rfl rfl hd_HM_of ⟨Nat.le_of_ble_eq_true rfl, Nat.le_of_ble_eq_true rfl⟩) (xv_preV (T := TX11) (N := 53) hE hA hS hK hP hD (isC := [1, 15]) (by decide +kernel) hC (q0 := 1) (ci := 11) rfl rfl) rfl rfl hl.1 rfl (lv_room (Nat.le_of_ble_eq_true rfl)) dL_law_294 ⟨Nat.le_refl _, Nat.le_refl _⟩) hP hD hS hA (by decide +kernel) rfl hC rfl rfl (fun H locs hP hD hS => ?_)
        refine xi_icmp_eq (tgt := 1304) hx hb dL_law_297 (by decide) hf (fun hf => ?_) (fun hf => ?_)
        · exact b_1304 _ ih18 _ _ _ _ _ _ hf hP hD hS (lv_sub hl [0, 1, 2, 3] rfl)
        · refine lv_iconst (v := Int32.ofInt 0) hx hb dL_law_300 rfl ?_
          exact absurd hf (by decide)
      refine xz_if hf (fun hc hf => ?_) (fun hn4 hf => ?_)
      · refine xi_tin (tgt := 302) hx hb dL_law_33 hc (by decide) (by decide) rfl (by decide) ?_
        refine lv_aload_n hx hb dL_law_302 rfl (lv_at hl 1 rfl) ?_
        refine lv_aload_n hx hb dL_law_303 rfl (lv_at hl 0 rfl) ?_
        refine lv_iload_n hx hb dL_law_304 rfl (lv_at hl 3 rfl) ?_
        refine lv_iconst (v := Int32.ofInt 1) hx hb dL_law_305 rfl ?_
        refine xi_iadd hx hb dL_law_306 hf (fun v62 hf => ?_)
        refine xi_lld hx hb hX hbl hbA hS dL_law_307 hf (fun v63 hf => ?_)
        refine xe_d1 hf (fun v64 hg hf => ?_)
        have hC : ([0, 2, 45, 80, 81] : List Nat).map (fun i => (wd_LW_law cA qa σ τ)[i]?) = (wd_HS_weight cA (qa 0) (qa 1) (qa 2) (qa 3) (qa 4) (qa 5) (qa 6) (qa 7) (qa 8) (qa 9) (qa 10) (qa 11) (qa 12) (qa 45) (qa 46) (qa 47) (qa 48) (qa 49) (qa 50) (qa 51) (qa 52) (qa 53) (qa 80) (qa 81) (σ 0) (σ 1) (σ 2) (σ 3) (σ 26) (σ 27) (σ 28) (σ 29) (σ 30) (σ 49) (τ 63) (τ 64)).map some := rfl
        refine xv_afterI (ws' := (wd_LW_law cA qa σ τ)) (isC := [0, 2, 45, 80, 81]) (ps := [some 0, none, some 1, none, none, none, none, none, none, none, none, none, none, none, none, none, none, none, none, none, none, none, none, none, none, none, none, none, none, none, none, none, none, none, none, none, none, none, none, none, none, none, none, none, none, some 2, none, none, none, none, none, none, none, none, none, none, none, none, none, none, none, none, none, none, none, none, none, none, none, none, none, none, none, none, none, none, none, none, none, none, some 3, some 4, none, none, none, none, none, none, none, none, none, none, none, none, none, none, none, none, none, none, none, none, none, none, none, none, none, none, none, none, none, none, none, none]) (va_runV (As := [.int (Int32.ofInt v63)]) (rest := []) ⟨hx, hb, hml, hown, hts⟩ (c_HS_weight l ev dC dI cA (qa 0) (qa 1) (qa 2) (qa 3) (qa 4) (qa 5) (qa 6) (qa 7) (qa 8) (qa 9) (qa 10) (qa 11) (qa 12) (qa 45) (qa 46) (qa 47) (qa 48) (qa 49) (qa 50) (qa 51) (qa 52) (qa 53) (qa 80) (qa 81) ((σ 0)) ((σ 1)) ((σ 2)) ((σ 3)) ((σ 26)) ((σ 27)) ((σ 28)) ((σ 29)) ((σ 30)) hg H.size) (cwV 1 hts (zgVL zw_580 zw_581 zw_582 zw_104 zw_583) rfl rfl rfl hd_HS_weight ⟨Nat.le_of_ble_eq_true rfl, Nat.le_of_ble_eq_true rfl⟩) (xv_preV (T := TX10) (N := 16) hE hA hS hK hP hD (isC := [0, 2, 45, 80, 81]) (by decide +kernel) hC (q0 := 0) (ci := 10) rfl rfl) rfl rfl hl.1 rfl (lv_room (Nat.le_of_ble_eq_true rfl)) dL_law_308 ⟨Nat.le_refl _, Nat.le_refl _⟩) hP hD hS hA (by decide +kernel) rfl hC rfl rfl (fun H locs hP hD hS => ?_)
        refine lv_pop hx hb dL_law_311 rfl ?_
        refine lv_aload_n hx hb dL_law_312 rfl (lv_at hl 2 rfl) ?_
        refine lv_aload_n hx hb dL_law_313 rfl (lv_at hl 0 rfl) ?_
        refine lv_iload_n hx hb dL_law_314 rfl (lv_at hl 3 rfl) ?_
        refine lv_iconst (v := Int32.ofInt 1) hx hb dL_law_315 rfl ?_
        refine xi_iadd hx hb dL_law_316 hf (fun v65 hf => ?_)
        refine xi_lld hx hb hX hbl hbA hS dL_law_317 hf (fun v66 hf => ?_)
        refine xe_d2 hf (fun v67 v68 hg hf => ?_)
        have hC : ([1, 15] : List Nat).map (fun i => (wd_LW_law cA qa σ τ)[i]?) = (wd_HM_weight cA (qa 13) (qa 14) (qa 15) (qa 16) (qa 17) (qa 18) (qa 19) (qa 20) (qa 21) (qa 22) (qa 23) (qa 24) (qa 25) (qa 26) (qa 27) (qa 28) (qa 29) (qa 30) (qa 31) (qa 32) (qa 33) (qa 34) (qa 35) (qa 36) (qa 37) (qa 38) (qa 39) (qa 40) (qa 41) (qa 42) (qa 43) (qa 44) (σ 5) (σ 6) (σ 7) (σ 8) (σ 9) (σ 10) (σ 11) (σ 12) (σ 13) (σ 14) (σ 15) (σ 16) (σ 17) (σ 18) (σ 19) (σ 20) (σ 21) (σ 22) (σ 23) (σ 24) (σ 25) (τ 4) (σ 4)).map some := rfl
        refine xv_afterI (ws' := (wd_LW_law cA qa (zst σ [(4, v68)]) τ)) (isC := [1, 15]) (ps := [none, some 0, none, none, none, none, none, none, none, none, none, none, none, none, none, some 1, none, none, none, none, none, none, none, none, none, none, none, none, none, none, none, none, none, none, none, none, none, none, none, none, none, none, none, none, none, none, none, none, none, none, none, none, none, none, none, none, none, none, none, none, none, none, none, none, none, none, none, none, none, none, none, none, none, none, none, none, none, none, none, none, none, none, none, none, none, none, none, none, none, none, none, none, none, none, none, none, none, none, none, none, none, none, none, none, none, none, none, none, none, none, none, none, none, none]) (va_runV (As := [.int (Int32.ofInt v66)]) (rest := []) ⟨hx, hb, hml, hown, hts⟩ (c_HM_weight l ev dC dI cA (qa 13) (qa 14) (qa 15) (qa 16) (qa 17) (qa 18) (qa 19) (qa 20) (qa 21) (qa 22) (qa 23) (qa 24) (qa 25) (qa 26) (qa 27) (qa 28) (qa 29) (qa 30) (qa 31) (qa 32) (qa 33) (qa 34) (qa 35) (qa 36) (qa 37) (qa 38) (qa 39) (qa 40) (qa 41) (qa 42) (qa 43) (qa 44) ((σ 5)) ((σ 6)) ((σ 7)) ((σ 8)) ((σ 9)) ((σ 10)) ((σ 11)) ((σ 12)) ((σ 13)) ((σ 14)) ((σ 15)) ((σ 16)) ((σ 17)) ((σ 18)) ((σ 19)) ((σ 20)) ((σ 21)) ((σ 22)) ((σ 23)) ((σ 24)) ((σ 25)) hg H.size) (cwV 1 hts (zgVL zw_1368 zw_1369 zw_1370 zw_115 zw_1371) rfl rfl rfl hd_HM_weight ⟨Nat.le_of_ble_eq_true rfl, Nat.le_of_ble_eq_true rfl⟩) (xv_preV (T := TX11) (N := 53) hE hA hS hK hP hD (isC := [1, 15]) (by decide +kernel) hC (q0 := 1) (ci := 11) rfl rfl) rfl rfl hl.1 rfl (lv_room (Nat.le_of_ble_eq_true rfl)) dL_law_318 ⟨Nat.le_refl _, Nat.le_refl _⟩) hP hD hS hA (by decide +kernel) rfl hC rfl rfl (fun H locs hP hD hS => ?_)
        refine lv_pop hx hb dL_law_321 rfl ?_
        refine lv_goto (tgt := 1304) hx hb dL_law_322 (by decide) ?_
        exact b_1304 _ ih18 _ _ _ _ _ _ hf hP hD hS (lv_sub hl [0, 1, 2, 3] rfl)
      refine xz_if hf (fun hc hf => ?_) (fun hn5 hf => ?_)
      · refine xi_tin (tgt := 325) hx hb dL_law_33 hc (by decide) (by decide) rfl (by decide) ?_
        refine lv_aload_n hx hb dL_law_325 rfl (lv_at hl 1 rfl) ?_
        refine lv_aload_n hx hb dL_law_326 rfl (lv_at hl 0 rfl) ?_
        refine lv_iload_n hx hb dL_law_327 rfl (lv_at hl 3 rfl) ?_
        refine lv_iconst (v := Int32.ofInt 1) hx hb dL_law_328 rfl ?_
        refine xi_iadd hx hb dL_law_329 hf (fun v69 hf => ?_)
        refine xi_lld hx hb hX hbl hbA hS dL_law_330 hf (fun v70 hf => ?_)
        refine xe_d8 hf (fun v71 v72 v73 v74 a75 a76 a77 a78 hg hf => ?_)
        have hC : ([0, 2, 6, 46, 47, 48] : List Nat).map (fun i => (wd_LW_law cA qa σ τ)[i]?) = (wd_HS_child cA (qa 0) (qa 1) (qa 2) (qa 3) (qa 4) (qa 5) (qa 6) (qa 7) (qa 8) (qa 9) (qa 10) (qa 11) (qa 12) (qa 45) (qa 46) (qa 47) (qa 48) (qa 49) (qa 50) (qa 51) (qa 52) (qa 53) (σ 0) (σ 1) (σ 2) (σ 27) (σ 28) (σ 29) (σ 3) (σ 26) (σ 30) (τ 2) (τ 34) (τ 35) (τ 36)).map some := rfl
        refine xv_afterI (ws' := (wd_LW_law cA qa (zst σ [(3, v72), (26, v73), (30, v74)]) (zta τ [(2, a75), (34, a76), (35, a77), (36, a78)]))) (isC := [0, 2, 6, 46, 47, 48]) (ps := [some 0, none, some 1, none, none, none, some 2, none, none, none, none, none, none, none, none, none, none, none, none, none, none, none, none, none, none, none, none, none, none, none, none, none, none, none, none, none, none, none, none, none, none, none, none, none, none, none, some 3, some 4, some 5, none, none, none, none, none, none, none, none, none, none, none, none, none, none, none, none, none, none, none, none, none, none, none, none, none, none, none, none, none, none, none, none, none, none, none, none, none, none, none, none, none, none, none, none, none, none, none, none, none, none, none, none, none, none, none, none, none, none, none, none, none, none, none, none, none]) (va_runV (As := [.int (Int32.ofInt v70)]) (rest := []) ⟨hx, hb, hml, hown, hts⟩ (c_HS_child l ev dC dI cA (qa 0) (qa 1) (qa 2) (qa 3) (qa 4) (qa 5) (qa 6) (qa 7) (qa 8) (qa 9) (qa 10) (qa 11) (qa 12) (qa 45) (qa 46) (qa 47) (qa 48) (qa 49) (qa 50) (qa 51) (qa 52) (qa 53) ((σ 0)) ((σ 1)) ((σ 2)) ((σ 27)) ((σ 28)) ((σ 29)) hg H.size) (cwV 1 hts (zgVL zw_589 zw_590 zw_591 zw_104 zw_592) rfl rfl rfl hd_HS_child ⟨Nat.le_of_ble_eq_true rfl, Nat.le_of_ble_eq_true rfl⟩) (xv_preV (T := TX10) (N := 16) hE hA hS hK hP hD (isC := [0, 2, 6, 46, 47, 48]) (by decide +kernel) hC (q0 := 0) (ci := 10) rfl rfl) rfl rfl hl.1 rfl (lv_room (Nat.le_of_ble_eq_true rfl)) dL_law_331 ⟨Nat.le_refl _, Nat.le_refl _⟩) hP hD hS hA (by decide +kernel) rfl hC rfl rfl (fun H locs hP hD hS => ?_)
        refine lv_pop hx hb dL_law_334 rfl ?_
        refine lv_aload_n hx hb dL_law_335 rfl (lv_at hl 2 rfl) ?_
        refine lv_aload_n hx hb dL_law_336 rfl (lv_at hl 0 rfl) ?_
        refine lv_iload_n hx hb dL_law_337 rfl (lv_at hl 3 rfl) ?_
        refine lv_iconst (v := Int32.ofInt 1) hx hb dL_law_338 rfl ?_
        refine xi_iadd hx hb dL_law_339 hf (fun v79 hf => ?_)
        refine xi_lld hx hb hX hbl hbA hS dL_law_340 hf (fun v80 hf => ?_)
        refine xe_d5 hf (fun v81 v82 v83 a84 a85 hg hf => ?_)
        have hC : ([1, 14, 15] : List Nat).map (fun i => (wd_LW_law cA qa (zst σ [(3, v72), (26, v73), (30, v74)]) (zta τ [(2, a75), (34, a76), (35, a77), (36, a78)]))[i]?) = (wd_HM_child cA (qa 13) (qa 14) (qa 15) (qa 16) (qa 17) (qa 18) (qa 19) (qa 20) (qa 21) (qa 22) (qa 23) (qa 24) (qa 25) (qa 26) (qa 27) (qa 28) (qa 29) (qa 30) (qa 31) (qa 32) (qa 33) (qa 34) (qa 35) (qa 36) (qa 37) (qa 38) (qa 39) (qa 40) (qa 41) (qa 42) (qa 43) (qa 44) (σ 6) (σ 7) (σ 8) (σ 9) (σ 10) (σ 11) (σ 12) (σ 13) (σ 14) (σ 15) (σ 16) (σ 17) (σ 18) (σ 19) (σ 20) (σ 21) (σ 22) (σ 23) (σ 24) (σ 25) (σ 4) (σ 5) (τ 3) (τ 4)).map some := rfl
        refine xv_afterI (ws' := (wd_LW_law cA qa (zst σ [(3, v72), (4, v82), (5, v83), (26, v73), (30, v74)]) (zta τ [(2, a75), (3, a84), (4, a85), (34, a76), (35, a77), (36, a78)]))) (isC := [1, 14, 15]) (ps := [none, some 0, none, none, none, none, none, none, none, none, none, none, none, none, some 1, some 2, none, none, none, none, none, none, none, none, none, none, none, none, none, none, none, none, none, none, none, none, none, none, none, none, none, none, none, none, none, none, none, none, none, none, none, none, none, none, none, none, none, none, none, none, none, none, none, none, none, none, none, none, none, none, none, none, none, none, none, none, none, none, none, none, none, none, none, none, none, none, none, none, none, none, none, none, none, none, none, none, none, none, none, none, none, none, none, none, none, none, none, none, none, none, none, none, none, none]) (va_runV (As := [.int (Int32.ofInt v80)]) (rest := []) ⟨hx, hb, hml, hown, hts⟩ (c_HM_child l ev dC dI cA (qa 13) (qa 14) (qa 15) (qa 16) (qa 17) (qa 18) (qa 19) (qa 20) (qa 21) (qa 22) (qa 23) (qa 24) (qa 25) (qa 26) (qa 27) (qa 28) (qa 29) (qa 30) (qa 31) (qa 32) (qa 33) (qa 34) (qa 35) (qa 36) (qa 37) (qa 38) (qa 39) (qa 40) (qa 41) (qa 42) (qa 43) (qa 44) ((σ 6)) ((σ 7)) ((σ 8)) ((σ 9)) ((σ 10)) ((σ 11)) ((σ 12)) ((σ 13)) ((σ 14)) ((σ 15)) ((σ 16)) ((σ 17)) ((σ 18)) ((σ 19)) ((σ 20)) ((σ 21)) ((σ 22)) ((σ 23)) ((σ 24)) ((σ 25)) hg H.size) (cwV 1 hts (zgVL zw_1372 zw_1373 zw_1374 zw_115 zw_1375) rfl rfl rfl hd_HM_child ⟨Nat.le_of_ble_eq_true rfl, Nat.le_of_ble_eq_true rfl⟩) (xv_preV (T := TX11) (N := 53) hE hA hS hK hP hD (isC := [1, 14, 15]) (by decide +kernel) hC (q0 := 1) (ci := 11) rfl rfl) rfl rfl hl.1 rfl (lv_room (Nat.le_of_ble_eq_true rfl)) dL_law_341 ⟨Nat.le_refl _, Nat.le_refl _⟩) hP hD hS hA (by decide +kernel) rfl hC rfl rfl (fun H locs hP hD hS => ?_)
        refine lv_pop hx hb dL_law_344 rfl ?_
        refine lv_goto (tgt := 1304) hx hb dL_law_345 (by decide) ?_
        exact b_1304 _ ih18 _ _ _ _ _ _ hf hP hD hS (lv_sub hl [0, 1, 2, 3] rfl)
      refine xz_if hf (fun hc hf => ?_) (fun hn6 hf => ?_)
      · refine xi_tin (tgt := 348) hx hb dL_law_33 hc (by decide) (by decide) rfl (by decide) ?_
        refine lv_aload_n hx hb dL_law_348 rfl (lv_at hl 1 rfl) ?_
        refine lv_aload_n hx hb dL_law_349 rfl (lv_at hl 0 rfl) ?_
        refine lv_iload_n hx hb dL_law_350 rfl (lv_at hl 3 rfl) ?_
        refine lv_iconst (v := Int32.ofInt 1) hx hb dL_law_351 rfl ?_
        refine xi_iadd hx hb dL_law_352 hf (fun v86 hf => ?_)
        refine xi_lld hx hb hX hbl hbA hS dL_law_353 hf (fun v87 hf => ?_)
        refine lv_aload_n hx hb dL_law_354 rfl (lv_at hl 0 rfl) ?_
        refine lv_iload_n hx hb dL_law_355 rfl (lv_at hl 3 rfl) ?_
        refine lv_iconst (v := Int32.ofInt 2) hx hb dL_law_356 rfl ?_
        refine xi_iadd hx hb dL_law_357 hf (fun v88 hf => ?_)
        refine xi_lld hx hb hX hbl hbA hS dL_law_358 hf (fun v89 hf => ?_)
        refine xe_d5 hf (fun v90 v91 v92 a93 a94 hg hf => ?_)
        have hC : ([0, 2, 6, 47] : List Nat).map (fun i => (wd_LW_law cA qa σ τ)[i]?) = (wd_HS_expel cA (qa 0) (qa 1) (qa 2) (qa 3) (qa 4) (qa 5) (qa 6) (qa 7) (qa 8) (qa 9) (qa 10) (qa 11) (qa 12) (qa 45) (qa 46) (qa 47) (qa 48) (qa 49) (qa 50) (qa 51) (qa 52) (qa 53) (σ 0) (σ 1) (σ 2) (σ 27) (σ 28) (σ 29) (σ 26) (σ 3) (σ 30) (τ 2) (τ 35)).map some := rfl
        refine xv_afterI (ws' := (wd_LW_law cA qa (zst σ [(3, v91), (30, v92)]) (zta τ [(2, a93), (35, a94)]))) (isC := [0, 2, 6, 47]) (ps := [some 0, none, some 1, none, none, none, some 2, none, none, none, none, none, none, none, none, none, none, none, none, none, none, none, none, none, none, none, none, none, none, none, none, none, none, none, none, none, none, none, none, none, none, none, none, none, none, none, none, some 3, none, none, none, none, none, none, none, none, none, none, none, none, none, none, none, none, none, none, none, none, none, none, none, none, none, none, none, none, none, none, none, none, none, none, none, none, none, none, none, none, none, none, none, none, none, none, none, none, none, none, none, none, none, none, none, none, none, none, none, none, none, none, none, none, none, none]) (va_runV (As := [.int (Int32.ofInt v87), .int (Int32.ofInt v89)]) (rest := []) ⟨hx, hb, hml, hown, hts⟩ (c_HS_expel l ev dC dI cA (qa 0) (qa 1) (qa 2) (qa 3) (qa 4) (qa 5) (qa 6) (qa 7) (qa 8) (qa 9) (qa 10) (qa 11) (qa 12) (qa 45) (qa 46) (qa 47) (qa 48) (qa 49) (qa 50) (qa 51) (qa 52) (qa 53) ((σ 0)) ((σ 1)) ((σ 2)) ((σ 27)) ((σ 28)) ((σ 29)) hg H.size) (cwV 2 hts (zgVL zw_597 zw_598 zw_599 zw_104 zw_600) rfl rfl rfl hd_HS_expel ⟨Nat.le_of_ble_eq_true rfl, Nat.le_of_ble_eq_true rfl⟩) (xv_preV (T := TX10) (N := 16) hE hA hS hK hP hD (isC := [0, 2, 6, 47]) (by decide +kernel) hC (q0 := 0) (ci := 10) rfl rfl) rfl rfl hl.1 rfl (lv_room (Nat.le_of_ble_eq_true rfl)) dL_law_359 ⟨Nat.le_refl _, Nat.le_refl _⟩) hP hD hS hA (by decide +kernel) rfl hC rfl rfl (fun H locs hP hD hS => ?_)
        refine lv_pop hx hb dL_law_362 rfl ?_
        refine lv_aload_n hx hb dL_law_363 rfl (lv_at hl 2 rfl) ?_
        refine lv_aload_n hx hb dL_law_364 rfl (lv_at hl 0 rfl) ?_
        refine lv_iload_n hx hb dL_law_365 rfl (lv_at hl 3 rfl) ?_
        refine lv_iconst (v := Int32.ofInt 1) hx hb dL_law_366 rfl ?_
        refine xi_iadd hx hb dL_law_367 hf (fun v95 hf => ?_)
        refine xi_lld hx hb hX hbl hbA hS dL_law_368 hf (fun v96 hf => ?_)
        refine lv_aload_n hx hb dL_law_369 rfl (lv_at hl 0 rfl) ?_
        refine lv_iload_n hx hb dL_law_370 rfl (lv_at hl 3 rfl) ?_
        refine lv_iconst (v := Int32.ofInt 2) hx hb dL_law_371 rfl ?_
        refine xi_iadd hx hb dL_law_372 hf (fun v97 hf => ?_)
        refine xi_lld hx hb hX hbl hbA hS dL_law_373 hf (fun v98 hf => ?_)
        refine xe_d5 hf (fun v99 v100 v101 a102 a103 hg hf => ?_)
        have hC : ([1, 14, 15] : List Nat).map (fun i => (wd_LW_law cA qa (zst σ [(3, v91), (30, v92)]) (zta τ [(2, a93), (35, a94)]))[i]?) = (wd_HM_expel cA (qa 13) (qa 14) (qa 15) (qa 16) (qa 17) (qa 18) (qa 19) (qa 20) (qa 21) (qa 22) (qa 23) (qa 24) (qa 25) (qa 26) (qa 27) (qa 28) (qa 29) (qa 30) (qa 31) (qa 32) (qa 33) (qa 34) (qa 35) (qa 36) (qa 37) (qa 38) (qa 39) (qa 40) (qa 41) (qa 42) (qa 43) (qa 44) (σ 6) (σ 7) (σ 8) (σ 9) (σ 10) (σ 11) (σ 12) (σ 13) (σ 14) (σ 15) (σ 16) (σ 17) (σ 18) (σ 19) (σ 20) (σ 21) (σ 22) (σ 23) (σ 24) (σ 25) (σ 4) (σ 5) (τ 3) (τ 4)).map some := rfl
        refine xv_afterI (ws' := (wd_LW_law cA qa (zst σ [(3, v91), (4, v100), (5, v101), (30, v92)]) (zta τ [(2, a93), (3, a102), (4, a103), (35, a94)]))) (isC := [1, 14, 15]) (ps := [none, some 0, none, none, none, none, none, none, none, none, none, none, none, none, some 1, some 2, none, none, none, none, none, none, none, none, none, none, none, none, none, none, none, none, none, none, none, none, none, none, none, none, none, none, none, none, none, none, none, none, none, none, none, none, none, none, none, none, none, none, none, none, none, none, none, none, none, none, none, none, none, none, none, none, none, none, none, none, none, none, none, none, none, none, none, none, none, none, none, none, none, none, none, none, none, none, none, none, none, none, none, none, none, none, none, none, none, none, none, none, none, none, none, none, none, none]) (va_runV (As := [.int (Int32.ofInt v96), .int (Int32.ofInt v98)]) (rest := []) ⟨hx, hb, hml, hown, hts⟩ (c_HM_expel l ev dC dI cA (qa 13) (qa 14) (qa 15) (qa 16) (qa 17) (qa 18) (qa 19) (qa 20) (qa 21) (qa 22) (qa 23) (qa 24) (qa 25) (qa 26) (qa 27) (qa 28) (qa 29) (qa 30) (qa 31) (qa 32) (qa 33) (qa 34) (qa 35) (qa 36) (qa 37) (qa 38) (qa 39) (qa 40) (qa 41) (qa 42) (qa 43) (qa 44) ((σ 6)) ((σ 7)) ((σ 8)) ((σ 9)) ((σ 10)) ((σ 11)) ((σ 12)) ((σ 13)) ((σ 14)) ((σ 15)) ((σ 16)) ((σ 17)) ((σ 18)) ((σ 19)) ((σ 20)) ((σ 21)) ((σ 22)) ((σ 23)) ((σ 24)) ((σ 25)) hg H.size) (cwV 2 hts (zgVL zw_1377 zw_1378 zw_1379 zw_115 zw_1380) rfl rfl rfl hd_HM_expel ⟨Nat.le_of_ble_eq_true rfl, Nat.le_of_ble_eq_true rfl⟩) (xv_preV (T := TX11) (N := 53) hE hA hS hK hP hD (isC := [1, 14, 15]) (by decide +kernel) hC (q0 := 1) (ci := 11) rfl rfl) rfl rfl hl.1 rfl (lv_room (Nat.le_of_ble_eq_true rfl)) dL_law_374 ⟨Nat.le_refl _, Nat.le_refl _⟩) hP hD hS hA (by decide +kernel) rfl hC rfl rfl (fun H locs hP hD hS => ?_)
        refine lv_pop hx hb dL_law_377 rfl ?_
        refine lv_goto (tgt := 1304) hx hb dL_law_378 (by decide) ?_
        exact b_1304 _ ih18 _ _ _ _ _ _ hf hP hD hS (lv_sub hl [0, 1, 2, 3] rfl)
      refine xz_if hf (fun hc hf => ?_) (fun hn7 hf => ?_)
      · refine xi_tin (tgt := 381) hx hb dL_law_33 hc (by decide) (by decide) rfl (by decide) ?_
        refine lv_aload_n hx hb dL_law_381 rfl (lv_at hl 1 rfl) ?_
        refine lv_aload_n hx hb dL_law_382 rfl (lv_at hl 0 rfl) ?_
        refine lv_iload_n hx hb dL_law_383 rfl (lv_at hl 3 rfl) ?_
        refine lv_iconst (v := Int32.ofInt 1) hx hb dL_law_384 rfl ?_
        refine xi_iadd hx hb dL_law_385 hf (fun v104 hf => ?_)
        refine xi_lld hx hb hX hbl hbA hS dL_law_386 hf (fun v105 hf => ?_)
        refine lv_aload_n hx hb dL_law_387 rfl (lv_at hl 0 rfl) ?_
        refine lv_iload_n hx hb dL_law_388 rfl (lv_at hl 3 rfl) ?_
        refine lv_iconst (v := Int32.ofInt 2) hx hb dL_law_389 rfl ?_
        refine xi_iadd hx hb dL_law_390 hf (fun v106 hf => ?_)
        refine xi_lld hx hb hX hbl hbA hS dL_law_391 hf (fun v107 hf => ?_)
        refine xe_d1 hf (fun v108 hg hf => ?_)
        have hC : ([0, 2, 46, 47, 48] : List Nat).map (fun i => (wd_LW_law cA qa σ τ)[i]?) = (wd_HS_fact cA (qa 0) (qa 1) (qa 2) (qa 3) (qa 4) (qa 5) (qa 6) (qa 7) (qa 8) (qa 9) (qa 10) (qa 11) (qa 12) (qa 45) (qa 46) (qa 47) (qa 48) (qa 49) (qa 50) (qa 51) (qa 52) (qa 53) (σ 0) (σ 1) (σ 2) (σ 3) (σ 27) (σ 28) (σ 29) (σ 30) (σ 26) (τ 34) (τ 35) (τ 36)).map some := rfl
        refine xv_afterI (ws' := (wd_LW_law cA qa σ τ)) (isC := [0, 2, 46, 47, 48]) (ps := [some 0, none, some 1, none, none, none, none, none, none, none, none, none, none, none, none, none, none, none, none, none, none, none, none, none, none, none, none, none, none, none, none, none, none, none, none, none, none, none, none, none, none, none, none, none, none, none, some 2, some 3, some 4, none, none, none, none, none, none, none, none, none, none, none, none, none, none, none, none, none, none, none, none, none, none, none, none, none, none, none, none, none, none, none, none, none, none, none, none, none, none, none, none, none, none, none, none, none, none, none, none, none, none, none, none, none, none, none, none, none, none, none, none, none, none, none, none, none]) (va_runV (As := [.int (Int32.ofInt v105), .int (Int32.ofInt v107)]) (rest := []) ⟨hx, hb, hml, hown, hts⟩ (c_HS_fact l ev dC dI cA (qa 0) (qa 1) (qa 2) (qa 3) (qa 4) (qa 5) (qa 6) (qa 7) (qa 8) (qa 9) (qa 10) (qa 11) (qa 12) (qa 45) (qa 46) (qa 47) (qa 48) (qa 49) (qa 50) (qa 51) (qa 52) (qa 53) ((σ 0)) ((σ 1)) ((σ 2)) ((σ 3)) ((σ 27)) ((σ 28)) ((σ 29)) ((σ 30)) hg H.size) (cwV 2 hts (zgVL zw_605 zw_606 zw_607 zw_104 zw_608) rfl rfl rfl hd_HS_fact ⟨Nat.le_of_ble_eq_true rfl, Nat.le_of_ble_eq_true rfl⟩) (xv_preV (T := TX10) (N := 16) hE hA hS hK hP hD (isC := [0, 2, 46, 47, 48]) (by decide +kernel) hC (q0 := 0) (ci := 10) rfl rfl) rfl rfl hl.1 rfl (lv_room (Nat.le_of_ble_eq_true rfl)) dL_law_392 ⟨Nat.le_refl _, Nat.le_refl _⟩) hP hD hS hA (by decide +kernel) rfl hC rfl rfl (fun H locs hP hD hS => ?_)
        refine lv_pop hx hb dL_law_395 rfl ?_
        refine lv_aload_n hx hb dL_law_396 rfl (lv_at hl 2 rfl) ?_
        refine lv_aload_n hx hb dL_law_397 rfl (lv_at hl 0 rfl) ?_
        refine lv_iload_n hx hb dL_law_398 rfl (lv_at hl 3 rfl) ?_
        refine lv_iconst (v := Int32.ofInt 1) hx hb dL_law_399 rfl ?_
        refine xi_iadd hx hb dL_law_400 hf (fun v109 hf => ?_)
        refine xi_lld hx hb hX hbl hbA hS dL_law_401 hf (fun v110 hf => ?_)
        refine lv_aload_n hx hb dL_law_402 rfl (lv_at hl 0 rfl) ?_
        refine lv_iload_n hx hb dL_law_403 rfl (lv_at hl 3 rfl) ?_
        refine lv_iconst (v := Int32.ofInt 2) hx hb dL_law_404 rfl ?_
        refine xi_iadd hx hb dL_law_405 hf (fun v111 hf => ?_)
        refine xi_lld hx hb hX hbl hbA hS dL_law_406 hf (fun v112 hf => ?_)
        refine xe_d2 hf (fun v113 v114 hg hf => ?_)
        have hC : ([1, 15] : List Nat).map (fun i => (wd_LW_law cA qa σ τ)[i]?) = (wd_HM_fact cA (qa 13) (qa 14) (qa 15) (qa 16) (qa 17) (qa 18) (qa 19) (qa 20) (qa 21) (qa 22) (qa 23) (qa 24) (qa 25) (qa 26) (qa 27) (qa 28) (qa 29) (qa 30) (qa 31) (qa 32) (qa 33) (qa 34) (qa 35) (qa 36) (qa 37) (qa 38) (qa 39) (qa 40) (qa 41) (qa 42) (qa 43) (qa 44) (σ 5) (σ 6) (σ 7) (σ 8) (σ 9) (σ 10) (σ 11) (σ 12) (σ 13) (σ 14) (σ 15) (σ 16) (σ 17) (σ 18) (σ 19) (σ 20) (σ 21) (σ 22) (σ 23) (σ 24) (σ 25) (τ 4) (σ 4)).map some := rfl
        refine xv_afterI (ws' := (wd_LW_law cA qa (zst σ [(4, v114)]) τ)) (isC := [1, 15]) (ps := [none, some 0, none, none, none, none, none, none, none, none, none, none, none, none, none, some 1, none, none, none, none, none, none, none, none, none, none, none, none, none, none, none, none, none, none, none, none, none, none, none, none, none, none, none, none, none, none, none, none, none, none, none, none, none, none, none, none, none, none, none, none, none, none, none, none, none, none, none, none, none, none, none, none, none, none, none, none, none, none, none, none, none, none, none, none, none, none, none, none, none, none, none, none, none, none, none, none, none, none, none, none, none, none, none, none, none, none, none, none, none, none, none, none, none, none]) (va_runV (As := [.int (Int32.ofInt v110), .int (Int32.ofInt v112)]) (rest := []) ⟨hx, hb, hml, hown, hts⟩ (c_HM_fact l ev dC dI cA (qa 13) (qa 14) (qa 15) (qa 16) (qa 17) (qa 18) (qa 19) (qa 20) (qa 21) (qa 22) (qa 23) (qa 24) (qa 25) (qa 26) (qa 27) (qa 28) (qa 29) (qa 30) (qa 31) (qa 32) (qa 33) (qa 34) (qa 35) (qa 36) (qa 37) (qa 38) (qa 39) (qa 40) (qa 41) (qa 42) (qa 43) (qa 44) ((σ 5)) ((σ 6)) ((σ 7)) ((σ 8)) ((σ 9)) ((σ 10)) ((σ 11)) ((σ 12)) ((σ 13)) ((σ 14)) ((σ 15)) ((σ 16)) ((σ 17)) ((σ 18)) ((σ 19)) ((σ 20)) ((σ 21)) ((σ 22)) ((σ 23)) ((σ 24)) ((σ 25)) hg H.size) (cwV 2 hts (zgVL zw_1389 zw_1390 zw_1391 zw_115 zw_1392) rfl rfl rfl hd_HM_fact ⟨Nat.le_of_ble_eq_true rfl, Nat.le_of_ble_eq_true rfl⟩) (xv_preV (T := TX11) (N := 53) hE hA hS hK hP hD (isC := [1, 15]) (by decide +kernel) hC (q0 := 1) (ci := 11) rfl rfl) rfl rfl hl.1 rfl (lv_room (Nat.le_of_ble_eq_true rfl)) dL_law_407 ⟨Nat.le_refl _, Nat.le_refl _⟩) hP hD hS hA (by decide +kernel) rfl hC rfl rfl (fun H locs hP hD hS => ?_)
        refine lv_pop hx hb dL_law_410 rfl ?_
        refine lv_goto (tgt := 1304) hx hb dL_law_411 (by decide) ?_
        exact b_1304 _ ih18 _ _ _ _ _ _ hf hP hD hS (lv_sub hl [0, 1, 2, 3] rfl)
      refine xz_if hf (fun hc hf => ?_) (fun hn8 hf => ?_)
      · refine xi_tin (tgt := 414) hx hb dL_law_33 hc (by decide) (by decide) rfl (by decide) ?_
        refine lv_aload_n hx hb dL_law_414 rfl (lv_at hl 1 rfl) ?_
        refine lv_aload_n hx hb dL_law_415 rfl (lv_at hl 0 rfl) ?_
        refine lv_iload_n hx hb dL_law_416 rfl (lv_at hl 3 rfl) ?_
        refine lv_iconst (v := Int32.ofInt 1) hx hb dL_law_417 rfl ?_
        refine xi_iadd hx hb dL_law_418 hf (fun v115 hf => ?_)
        refine xi_lld hx hb hX hbl hbA hS dL_law_419 hf (fun v116 hf => ?_)
        refine xe_d6 hf (fun v117 v118 v119 v120 a121 a122 hg hf => ?_)
        have hC : ([0, 2, 6, 45, 49] : List Nat).map (fun i => (wd_LW_law cA qa σ τ)[i]?) = (wd_HS_parish cA (qa 0) (qa 1) (qa 2) (qa 3) (qa 4) (qa 5) (qa 6) (qa 7) (qa 8) (qa 9) (qa 10) (qa 11) (qa 12) (qa 45) (qa 46) (qa 47) (qa 48) (qa 49) (qa 50) (qa 51) (qa 52) (qa 53) (qa 80) (qa 81) (σ 0) (σ 1) (σ 2) (σ 26) (σ 28) (σ 29) (σ 49) (σ 3) (σ 27) (σ 30) (τ 2) (τ 37)).map some := rfl
        refine xv_afterI (ws' := (wd_LW_law cA qa (zst σ [(3, v118), (27, v119), (30, v120)]) (zta τ [(2, a121), (37, a122)]))) (isC := [0, 2, 6, 45, 49]) (ps := [some 0, none, some 1, none, none, none, some 2, none, none, none, none, none, none, none, none, none, none, none, none, none, none, none, none, none, none, none, none, none, none, none, none, none, none, none, none, none, none, none, none, none, none, none, none, none, none, some 3, none, none, none, some 4, none, none, none, none, none, none, none, none, none, none, none, none, none, none, none, none, none, none, none, none, none, none, none, none, none, none, none, none, none, none, none, none, none, none, none, none, none, none, none, none, none, none, none, none, none, none, none, none, none, none, none, none, none, none, none, none, none, none, none, none, none, none, none, none]) (va_runV (As := [.int (Int32.ofInt v116)]) (rest := []) ⟨hx, hb, hml, hown, hts⟩ (c_HS_parish l ev dC dI cA (qa 0) (qa 1) (qa 2) (qa 3) (qa 4) (qa 5) (qa 6) (qa 7) (qa 8) (qa 9) (qa 10) (qa 11) (qa 12) (qa 45) (qa 46) (qa 47) (qa 48) (qa 49) (qa 50) (qa 51) (qa 52) (qa 53) (qa 80) (qa 81) ((σ 0)) ((σ 1)) ((σ 2)) ((σ 26)) ((σ 28)) ((σ 29)) hg H.size) (cwV 1 hts (zgVL zw_609 zw_610 zw_611 zw_104 zw_612) rfl rfl rfl hd_HS_parish ⟨Nat.le_of_ble_eq_true rfl, Nat.le_of_ble_eq_true rfl⟩) (xv_preV (T := TX10) (N := 16) hE hA hS hK hP hD (isC := [0, 2, 6, 45, 49]) (by decide +kernel) hC (q0 := 0) (ci := 10) rfl rfl) rfl rfl hl.1 rfl (lv_room (Nat.le_of_ble_eq_true rfl)) dL_law_420 ⟨Nat.le_refl _, Nat.le_refl _⟩) hP hD hS hA (by decide +kernel) rfl hC rfl rfl (fun H locs hP hD hS => ?_)
        refine lv_pop hx hb dL_law_423 rfl ?_
        refine lv_aload_n hx hb dL_law_424 rfl (lv_at hl 2 rfl) ?_
        refine lv_aload_n hx hb dL_law_425 rfl (lv_at hl 0 rfl) ?_
        refine lv_iload_n hx hb dL_law_426 rfl (lv_at hl 3 rfl) ?_
        refine lv_iconst (v := Int32.ofInt 1) hx hb dL_law_427 rfl ?_
        refine xi_iadd hx hb dL_law_428 hf (fun v123 hf => ?_)
        refine xi_lld hx hb hX hbl hbA hS dL_law_429 hf (fun v124 hf => ?_)
        refine xe_d5 hf (fun v125 v126 v127 a128 a129 hg hf => ?_)
        have hC : ([1, 14, 15] : List Nat).map (fun i => (wd_LW_law cA qa (zst σ [(3, v118), (27, v119), (30, v120)]) (zta τ [(2, a121), (37, a122)]))[i]?) = (wd_HM_parish cA (qa 13) (qa 14) (qa 15) (qa 16) (qa 17) (qa 18) (qa 19) (qa 20) (qa 21) (qa 22) (qa 23) (qa 24) (qa 25) (qa 26) (qa 27) (qa 28) (qa 29) (qa 30) (qa 31) (qa 32) (qa 33) (qa 34) (qa 35) (qa 36) (qa 37) (qa 38) (qa 39) (qa 40) (qa 41) (qa 42) (qa 43) (qa 44) (σ 6) (σ 7) (σ 8) (σ 9) (σ 10) (σ 11) (σ 12) (σ 13) (σ 14) (σ 15) (σ 16) (σ 17) (σ 18) (σ 19) (σ 20) (σ 21) (σ 22) (σ 23) (σ 24) (σ 25) (σ 4) (σ 5) (τ 3) (τ 4)).map some := rfl
        refine xv_afterI (ws' := (wd_LW_law cA qa (zst σ [(3, v118), (4, v126), (5, v127), (27, v119), (30, v120)]) (zta τ [(2, a121), (3, a128), (4, a129), (37, a122)]))) (isC := [1, 14, 15]) (ps := [none, some 0, none, none, none, none, none, none, none, none, none, none, none, none, some 1, some 2, none, none, none, none, none, none, none, none, none, none, none, none, none, none, none, none, none, none, none, none, none, none, none, none, none, none, none, none, none, none, none, none, none, none, none, none, none, none, none, none, none, none, none, none, none, none, none, none, none, none, none, none, none, none, none, none, none, none, none, none, none, none, none, none, none, none, none, none, none, none, none, none, none, none, none, none, none, none, none, none, none, none, none, none, none, none, none, none, none, none, none, none, none, none, none, none, none, none]) (va_runV (As := [.int (Int32.ofInt v124)]) (rest := []) ⟨hx, hb, hml, hown, hts⟩ (c_HM_parish l ev dC dI cA (qa 13) (qa 14) (qa 15) (qa 16) (qa 17) (qa 18) (qa 19) (qa 20) (qa 21) (qa 22) (qa 23) (qa 24) (qa 25) (qa 26) (qa 27) (qa 28) (qa 29) (qa 30) (qa 31) (qa 32) (qa 33) (qa 34) (qa 35) (qa 36) (qa 37) (qa 38) (qa 39) (qa 40) (qa 41) (qa 42) (qa 43) (qa 44) ((σ 6)) ((σ 7)) ((σ 8)) ((σ 9)) ((σ 10)) ((σ 11)) ((σ 12)) ((σ 13)) ((σ 14)) ((σ 15)) ((σ 16)) ((σ 17)) ((σ 18)) ((σ 19)) ((σ 20)) ((σ 21)) ((σ 22)) ((σ 23)) ((σ 24)) ((σ 25)) hg H.size) (cwV 1 hts (zgVL zw_1394 zw_1395 zw_1396 zw_115 zw_1397) rfl rfl rfl hd_HM_parish ⟨Nat.le_of_ble_eq_true rfl, Nat.le_of_ble_eq_true rfl⟩) (xv_preV (T := TX11) (N := 53) hE hA hS hK hP hD (isC := [1, 14, 15]) (by decide +kernel) hC (q0 := 1) (ci := 11) rfl rfl) rfl rfl hl.1 rfl (lv_room (Nat.le_of_ble_eq_true rfl)) dL_law_430 ⟨Nat.le_refl _, Nat.le_refl _⟩) hP hD hS hA (by decide +kernel) rfl hC rfl rfl (fun H locs hP hD hS => ?_)
        refine lv_pop hx hb dL_law_433 rfl ?_
        refine lv_goto (tgt := 1304) hx hb dL_law_434 (by decide) ?_
        exact b_1304 _ ih18 _ _ _ _ _ _ hf hP hD hS (lv_sub hl [0, 1, 2, 3] rfl)
      refine xz_if hf (fun hc hf => ?_) (fun hn9 hf => ?_)
      · refine xi_tin (tgt := 437) hx hb dL_law_33 hc (by decide) (by decide) rfl (by decide) ?_
        refine lv_aload_n hx hb dL_law_437 rfl (lv_at hl 1 rfl) ?_
        refine lv_aload_n hx hb dL_law_438 rfl (lv_at hl 0 rfl) ?_
        refine lv_iload_n hx hb dL_law_439 rfl (lv_at hl 3 rfl) ?_
        refine lv_iconst (v := Int32.ofInt 1) hx hb dL_law_440 rfl ?_
        refine xi_iadd hx hb dL_law_441 hf (fun v130 hf => ?_)
        refine xi_lld hx hb hX hbl hbA hS dL_law_442 hf (fun v131 hf => ?_)
        refine lv_aload_n hx hb dL_law_443 rfl (lv_at hl 0 rfl) ?_
        refine lv_iload_n hx hb dL_law_444 rfl (lv_at hl 3 rfl) ?_
        refine lv_iconst (v := Int32.ofInt 2) hx hb dL_law_445 rfl ?_
        refine xi_iadd hx hb dL_law_446 hf (fun v132 hf => ?_)
        refine xi_lld hx hb hX hbl hbA hS dL_law_447 hf (fun v133 hf => ?_)
        refine xe_d5 hf (fun v134 v135 v136 a137 a138 hg hf => ?_)
        have hC : ([0, 2, 6, 50] : List Nat).map (fun i => (wd_LW_law cA qa σ τ)[i]?) = (wd_HS_terms cA (qa 0) (qa 1) (qa 2) (qa 3) (qa 4) (qa 5) (qa 6) (qa 7) (qa 8) (qa 9) (qa 10) (qa 11) (qa 12) (qa 45) (qa 46) (qa 47) (qa 48) (qa 49) (qa 50) (qa 51) (qa 52) (qa 53) (σ 0) (σ 1) (σ 2) (σ 26) (σ 27) (σ 28) (σ 29) (σ 3) (σ 30) (τ 2) (τ 38)).map some := rfl
        refine xv_afterI (ws' := (wd_LW_law cA qa (zst σ [(3, v135), (30, v136)]) (zta τ [(2, a137), (38, a138)]))) (isC := [0, 2, 6, 50]) (ps := [some 0, none, some 1, none, none, none, some 2, none, none, none, none, none, none, none, none, none, none, none, none, none, none, none, none, none, none, none, none, none, none, none, none, none, none, none, none, none, none, none, none, none, none, none, none, none, none, none, none, none, none, none, some 3, none, none, none, none, none, none, none, none, none, none, none, none, none, none, none, none, none, none, none, none, none, none, none, none, none, none, none, none, none, none, none, none, none, none, none, none, none, none, none, none, none, none, none, none, none, none, none, none, none, none, none, none, none, none, none, none, none, none, none, none, none, none, none]) (va_runV (As := [.int (Int32.ofInt v131), .int (Int32.ofInt v133)]) (rest := []) ⟨hx, hb, hml, hown, hts⟩ (c_HS_terms l ev dC dI cA (qa 0) (qa 1) (qa 2) (qa 3) (qa 4) (qa 5) (qa 6) (qa 7) (qa 8) (qa 9) (qa 10) (qa 11) (qa 12) (qa 45) (qa 46) (qa 47) (qa 48) (qa 49) (qa 50) (qa 51) (qa 52) (qa 53) ((σ 0)) ((σ 1)) ((σ 2)) ((σ 26)) ((σ 27)) ((σ 28)) ((σ 29)) hg H.size) (cwV 2 hts (zgVL zw_613 zw_614 zw_615 zw_104 zw_616) rfl rfl rfl hd_HS_terms ⟨Nat.le_of_ble_eq_true rfl, Nat.le_of_ble_eq_true rfl⟩) (xv_preV (T := TX10) (N := 16) hE hA hS hK hP hD (isC := [0, 2, 6, 50]) (by decide +kernel) hC (q0 := 0) (ci := 10) rfl rfl) rfl rfl hl.1 rfl (lv_room (Nat.le_of_ble_eq_true rfl)) dL_law_448 ⟨Nat.le_refl _, Nat.le_refl _⟩) hP hD hS hA (by decide +kernel) rfl hC rfl rfl (fun H locs hP hD hS => ?_)
        refine lv_pop hx hb dL_law_451 rfl ?_
        refine lv_aload_n hx hb dL_law_452 rfl (lv_at hl 2 rfl) ?_
        refine lv_aload_n hx hb dL_law_453 rfl (lv_at hl 0 rfl) ?_
        refine lv_iload_n hx hb dL_law_454 rfl (lv_at hl 3 rfl) ?_
        refine lv_iconst (v := Int32.ofInt 1) hx hb dL_law_455 rfl ?_
        refine xi_iadd hx hb dL_law_456 hf (fun v139 hf => ?_)
        refine xi_lld hx hb hX hbl hbA hS dL_law_457 hf (fun v140 hf => ?_)
        refine lv_aload_n hx hb dL_law_458 rfl (lv_at hl 0 rfl) ?_
        refine lv_iload_n hx hb dL_law_459 rfl (lv_at hl 3 rfl) ?_
        refine lv_iconst (v := Int32.ofInt 2) hx hb dL_law_460 rfl ?_
        refine xi_iadd hx hb dL_law_461 hf (fun v141 hf => ?_)
        refine xi_lld hx hb hX hbl hbA hS dL_law_462 hf (fun v142 hf => ?_)
        refine xe_d5 hf (fun v143 v144 v145 a146 a147 hg hf => ?_)
        have hC : ([1, 14, 15] : List Nat).map (fun i => (wd_LW_law cA qa (zst σ [(3, v135), (30, v136)]) (zta τ [(2, a137), (38, a138)]))[i]?) = (wd_HM_terms cA (qa 13) (qa 14) (qa 15) (qa 16) (qa 17) (qa 18) (qa 19) (qa 20) (qa 21) (qa 22) (qa 23) (qa 24) (qa 25) (qa 26) (qa 27) (qa 28) (qa 29) (qa 30) (qa 31) (qa 32) (qa 33) (qa 34) (qa 35) (qa 36) (qa 37) (qa 38) (qa 39) (qa 40) (qa 41) (qa 42) (qa 43) (qa 44) (σ 6) (σ 7) (σ 8) (σ 9) (σ 10) (σ 11) (σ 12) (σ 13) (σ 14) (σ 15) (σ 16) (σ 17) (σ 18) (σ 19) (σ 20) (σ 21) (σ 22) (σ 23) (σ 24) (σ 25) (σ 4) (σ 5) (τ 3) (τ 4)).map some := rfl
        refine xv_afterI (ws' := (wd_LW_law cA qa (zst σ [(3, v135), (4, v144), (5, v145), (30, v136)]) (zta τ [(2, a137), (3, a146), (4, a147), (38, a138)]))) (isC := [1, 14, 15]) (ps := [none, some 0, none, none, none, none, none, none, none, none, none, none, none, none, some 1, some 2, none, none, none, none, none, none, none, none, none, none, none, none, none, none, none, none, none, none, none, none, none, none, none, none, none, none, none, none, none, none, none, none, none, none, none, none, none, none, none, none, none, none, none, none, none, none, none, none, none, none, none, none, none, none, none, none, none, none, none, none, none, none, none, none, none, none, none, none, none, none, none, none, none, none, none, none, none, none, none, none, none, none, none, none, none, none, none, none, none, none, none, none, none, none, none, none, none, none]) (va_runV (As := [.int (Int32.ofInt v140), .int (Int32.ofInt v142)]) (rest := []) ⟨hx, hb, hml, hown, hts⟩ (c_HM_terms l ev dC dI cA (qa 13) (qa 14) (qa 15) (qa 16) (qa 17) (qa 18) (qa 19) (qa 20) (qa 21) (qa 22) (qa 23) (qa 24) (qa 25) (qa 26) (qa 27) (qa 28) (qa 29) (qa 30) (qa 31) (qa 32) (qa 33) (qa 34) (qa 35) (qa 36) (qa 37) (qa 38) (qa 39) (qa 40) (qa 41) (qa 42) (qa 43) (qa 44) ((σ 6)) ((σ 7)) ((σ 8)) ((σ 9)) ((σ 10)) ((σ 11)) ((σ 12)) ((σ 13)) ((σ 14)) ((σ 15)) ((σ 16)) ((σ 17)) ((σ 18)) ((σ 19)) ((σ 20)) ((σ 21)) ((σ 22)) ((σ 23)) ((σ 24)) ((σ 25)) hg H.size) (cwV 2 hts (zgVL zw_1398 zw_1399 zw_1400 zw_115 zw_1401) rfl rfl rfl hd_HM_terms ⟨Nat.le_of_ble_eq_true rfl, Nat.le_of_ble_eq_true rfl⟩) (xv_preV (T := TX11) (N := 53) hE hA hS hK hP hD (isC := [1, 14, 15]) (by decide +kernel) hC (q0 := 1) (ci := 11) rfl rfl) rfl rfl hl.1 rfl (lv_room (Nat.le_of_ble_eq_true rfl)) dL_law_463 ⟨Nat.le_refl _, Nat.le_refl _⟩) hP hD hS hA (by decide +kernel) rfl hC rfl rfl (fun H locs hP hD hS => ?_)
        refine lv_pop hx hb dL_law_466 rfl ?_
        refine lv_goto (tgt := 1304) hx hb dL_law_467 (by decide) ?_
        exact b_1304 _ ih18 _ _ _ _ _ _ hf hP hD hS (lv_sub hl [0, 1, 2, 3] rfl)
      refine xz_if hf (fun hc hf => ?_) (fun hn10 hf => ?_)
      · refine xi_tin (tgt := 470) hx hb dL_law_33 hc (by decide) (by decide) rfl (by decide) ?_
        refine lv_aload_n hx hb dL_law_470 rfl (lv_at hl 1 rfl) ?_
        refine lv_aload_n hx hb dL_law_471 rfl (lv_at hl 0 rfl) ?_
        refine lv_iload_n hx hb dL_law_472 rfl (lv_at hl 3 rfl) ?_
        refine lv_iconst (v := Int32.ofInt 1) hx hb dL_law_473 rfl ?_
        refine xi_iadd hx hb dL_law_474 hf (fun v148 hf => ?_)
        refine xi_lld hx hb hX hbl hbA hS dL_law_475 hf (fun v149 hf => ?_)
        refine lv_aload_n hx hb dL_law_476 rfl (lv_at hl 0 rfl) ?_
        refine lv_iload_n hx hb dL_law_477 rfl (lv_at hl 3 rfl) ?_
        refine lv_iconst (v := Int32.ofInt 2) hx hb dL_law_478 rfl ?_
        refine xi_iadd hx hb dL_law_479 hf (fun v150 hf => ?_)
        refine xi_lld hx hb hX hbl hbA hS dL_law_480 hf (fun v151 hf => ?_)
        refine lv_aload_n hx hb dL_law_481 rfl (lv_at hl 0 rfl) ?_
        refine lv_iload_n hx hb dL_law_482 rfl (lv_at hl 3 rfl) ?_
        refine lv_iconst (v := Int32.ofInt 3) hx hb dL_law_483 rfl ?_
        refine xi_iadd hx hb dL_law_484 hf (fun v152 hf => ?_)
        refine xi_lld hx hb hX hbl hbA hS dL_law_485 hf (fun v153 hf => ?_)
        refine lv_aload_n hx hb dL_law_486 rfl (lv_at hl 0 rfl) ?_
        refine lv_iload_n hx hb dL_law_487 rfl (lv_at hl 3 rfl) ?_
        refine lv_iconst (v := Int32.ofInt 4) hx hb dL_law_488 rfl ?_
        refine xi_iadd hx hb dL_law_489 hf (fun v154 hf => ?_)
        refine xi_lld hx hb hX hbl hbA hS dL_law_490 hf (fun v155 hf => ?_)
        refine lv_aload_n hx hb dL_law_491 rfl (lv_at hl 0 rfl) ?_
        refine lv_iload_n hx hb dL_law_492 rfl (lv_at hl 3 rfl) ?_
        refine lv_iconst (v := Int32.ofInt 5) hx hb dL_law_493 rfl ?_
        refine xi_iadd hx hb dL_law_494 hf (fun v156 hf => ?_)
        refine xi_lld hx hb hX hbl hbA hS dL_law_495 hf (fun v157 hf => ?_)
        refine xe_d3 hf (fun v158 v159 a160 hg hf => ?_)
        have hC : ([0, 5] : List Nat).map (fun i => (wd_LW_law cA qa σ τ)[i]?) = (wd_HS_feed cA (qa 0) (qa 1) (qa 2) (qa 3) (qa 4) (qa 5) (qa 6) (qa 7) (qa 8) (qa 9) (qa 10) (qa 11) (qa 12) (σ 1) (σ 2) (σ 3) (σ 0) (τ 1)).map some := rfl
        refine xv_afterI (ws' := (wd_LW_law cA qa (zst σ [(0, v159)]) (zta τ [(1, a160)]))) (isC := [0, 5]) (ps := [some 0, none, none, none, none, some 1, none, none, none, none, none, none, none, none, none, none, none, none, none, none, none, none, none, none, none, none, none, none, none, none, none, none, none, none, none, none, none, none, none, none, none, none, none, none, none, none, none, none, none, none, none, none, none, none, none, none, none, none, none, none, none, none, none, none, none, none, none, none, none, none, none, none, none, none, none, none, none, none, none, none, none, none, none, none, none, none, none, none, none, none, none, none, none, none, none, none, none, none, none, none, none, none, none, none, none, none, none, none, none, none, none, none, none, none]) (va_runV (As := [.int (Int32.ofInt v149), .int (Int32.ofInt v151), .int (Int32.ofInt v153), .int (Int32.ofInt v155), .int (Int32.ofInt v157)]) (rest := []) ⟨hx, hb, hml, hown, hts⟩ (c_HS_feed l ev dC dI cA (qa 0) (qa 1) (qa 2) (qa 3) (qa 4) (qa 5) (qa 6) (qa 7) (qa 8) (qa 9) (qa 10) (qa 11) (qa 12) ((σ 1)) ((σ 2)) ((σ 3)) hg H.size) (cwV 5 hts (zgVL zw_622 zw_623 zw_624 zw_104 zw_625) rfl rfl rfl hd_HS_feed ⟨Nat.le_of_ble_eq_true rfl, Nat.le_of_ble_eq_true rfl⟩) (xv_preV (T := TX10) (N := 16) hE hA hS hK hP hD (isC := [0, 5]) (by decide +kernel) hC (q0 := 0) (ci := 10) rfl rfl) rfl rfl hl.1 rfl (lv_room (Nat.le_of_ble_eq_true rfl)) dL_law_496 ⟨Nat.le_refl _, Nat.le_refl _⟩) hP hD hS hA (by decide +kernel) rfl hC rfl rfl (fun H locs hP hD hS => ?_)
        refine lv_pop hx hb dL_law_499 rfl ?_
        refine lv_aload_n hx hb dL_law_500 rfl (lv_at hl 2 rfl) ?_
        refine lv_aload_n hx hb dL_law_501 rfl (lv_at hl 0 rfl) ?_
        refine lv_iload_n hx hb dL_law_502 rfl (lv_at hl 3 rfl) ?_
        refine lv_iconst (v := Int32.ofInt 1) hx hb dL_law_503 rfl ?_
        refine xi_iadd hx hb dL_law_504 hf (fun v161 hf => ?_)
        refine xi_lld hx hb hX hbl hbA hS dL_law_505 hf (fun v162 hf => ?_)
        refine lv_aload_n hx hb dL_law_506 rfl (lv_at hl 0 rfl) ?_
        refine lv_iload_n hx hb dL_law_507 rfl (lv_at hl 3 rfl) ?_
        refine lv_iconst (v := Int32.ofInt 2) hx hb dL_law_508 rfl ?_
        refine xi_iadd hx hb dL_law_509 hf (fun v163 hf => ?_)
        refine xi_lld hx hb hX hbl hbA hS dL_law_510 hf (fun v164 hf => ?_)
        refine lv_aload_n hx hb dL_law_511 rfl (lv_at hl 0 rfl) ?_
        refine lv_iload_n hx hb dL_law_512 rfl (lv_at hl 3 rfl) ?_
        refine lv_iconst (v := Int32.ofInt 3) hx hb dL_law_513 rfl ?_
        refine xi_iadd hx hb dL_law_514 hf (fun v165 hf => ?_)
        refine xi_lld hx hb hX hbl hbA hS dL_law_515 hf (fun v166 hf => ?_)
        refine lv_aload_n hx hb dL_law_516 rfl (lv_at hl 0 rfl) ?_
        refine lv_iload_n hx hb dL_law_517 rfl (lv_at hl 3 rfl) ?_
        refine lv_iconst (v := Int32.ofInt 4) hx hb dL_law_518 rfl ?_
        refine xi_iadd hx hb dL_law_519 hf (fun v167 hf => ?_)
        refine xi_lld hx hb hX hbl hbA hS dL_law_520 hf (fun v168 hf => ?_)
        refine lv_aload_n hx hb dL_law_521 rfl (lv_at hl 0 rfl) ?_
        refine lv_iload_n hx hb dL_law_522 rfl (lv_at hl 3 rfl) ?_
        refine lv_iconst (v := Int32.ofInt 5) hx hb dL_law_523 rfl ?_
        refine xi_iadd hx hb dL_law_524 hf (fun v169 hf => ?_)
        refine xi_lld hx hb hX hbl hbA hS dL_law_525 hf (fun v170 hf => ?_)
        refine xe_d4 hf (fun v171 v172 v173 a174 hg hf => ?_)
        have hC : ([1, 18] : List Nat).map (fun i => (wd_LW_law cA qa (zst σ [(0, v159)]) (zta τ [(1, a160)]))[i]?) = (wd_HM_feed cA (qa 13) (qa 14) (qa 15) (qa 16) (qa 17) (qa 18) (qa 19) (qa 20) (qa 21) (qa 22) (qa 23) (qa 24) (qa 25) (qa 26) (qa 27) (qa 28) (qa 29) (qa 30) (qa 31) (qa 32) (qa 33) (qa 34) (qa 35) (qa 36) (qa 37) (qa 38) (qa 39) (qa 40) (qa 41) (qa 42) (qa 43) (qa 44) (σ 5) (σ 6) (σ 8) (σ 9) (σ 10) (σ 11) (σ 12) (σ 13) (σ 14) (σ 15) (σ 16) (σ 17) (σ 18) (σ 19) (σ 20) (σ 21) (σ 22) (σ 23) (σ 24) (σ 25) (σ 4) (σ 7) (τ 7)).map some := rfl
        refine xv_afterI (ws' := (wd_LW_law cA qa (zst σ [(0, v159), (4, v172), (7, v173)]) (zta τ [(1, a160), (7, a174)]))) (isC := [1, 18]) (ps := [none, some 0, none, none, none, none, none, none, none, none, none, none, none, none, none, none, none, none, some 1, none, none, none, none, none, none, none, none, none, none, none, none, none, none, none, none, none, none, none, none, none, none, none, none, none, none, none, none, none, none, none, none, none, none, none, none, none, none, none, none, none, none, none, none, none, none, none, none, none, none, none, none, none, none, none, none, none, none, none, none, none, none, none, none, none, none, none, none, none, none, none, none, none, none, none, none, none, none, none, none, none, none, none, none, none, none, none, none, none, none, none, none, none, none, none]) (va_runV (As := [.int (Int32.ofInt v162), .int (Int32.ofInt v164), .int (Int32.ofInt v166), .int (Int32.ofInt v168), .int (Int32.ofInt v170)]) (rest := []) ⟨hx, hb, hml, hown, hts⟩ (c_HM_feed l ev dC dI cA (qa 13) (qa 14) (qa 15) (qa 16) (qa 17) (qa 18) (qa 19) (qa 20) (qa 21) (qa 22) (qa 23) (qa 24) (qa 25) (qa 26) (qa 27) (qa 28) (qa 29) (qa 30) (qa 31) (qa 32) (qa 33) (qa 34) (qa 35) (qa 36) (qa 37) (qa 38) (qa 39) (qa 40) (qa 41) (qa 42) (qa 43) (qa 44) ((σ 5)) ((σ 6)) ((σ 8)) ((σ 9)) ((σ 10)) ((σ 11)) ((σ 12)) ((σ 13)) ((σ 14)) ((σ 15)) ((σ 16)) ((σ 17)) ((σ 18)) ((σ 19)) ((σ 20)) ((σ 21)) ((σ 22)) ((σ 23)) ((σ 24)) ((σ 25)) hg H.size) (cwV 5 hts (zgVL zw_1415 zw_1416 zw_1417 zw_115 zw_1418) rfl rfl rfl hd_HM_feed ⟨Nat.le_of_ble_eq_true rfl, Nat.le_of_ble_eq_true rfl⟩) (xv_preV (T := TX11) (N := 53) hE hA hS hK hP hD (isC := [1, 18]) (by decide +kernel) hC (q0 := 1) (ci := 11) rfl rfl) rfl rfl hl.1 rfl (lv_room (Nat.le_of_ble_eq_true rfl)) dL_law_526 ⟨Nat.le_refl _, Nat.le_refl _⟩) hP hD hS hA (by decide +kernel) rfl hC rfl rfl (fun H locs hP hD hS => ?_)
        refine lv_pop hx hb dL_law_529 rfl ?_
        refine lv_goto (tgt := 1304) hx hb dL_law_530 (by decide) ?_
        exact b_1304 _ ih18 _ _ _ _ _ _ hf hP hD hS (lv_sub hl [0, 1, 2, 3] rfl)
      refine xz_if hf (fun hc hf => ?_) (fun hn11 hf => ?_)
      · refine xi_tin (tgt := 533) hx hb dL_law_33 hc (by decide) (by decide) rfl (by decide) ?_
        refine lv_aload_n hx hb dL_law_533 rfl (lv_at hl 1 rfl) ?_
        refine lv_aload_n hx hb dL_law_534 rfl (lv_at hl 0 rfl) ?_
        refine lv_iload_n hx hb dL_law_535 rfl (lv_at hl 3 rfl) ?_
        refine lv_iconst (v := Int32.ofInt 1) hx hb dL_law_536 rfl ?_
        refine xi_iadd hx hb dL_law_537 hf (fun v175 hf => ?_)
        refine xi_lld hx hb hX hbl hbA hS dL_law_538 hf (fun v176 hf => ?_)
        refine xe_d2 hf (fun v177 v178 hg hf => ?_)
        have hC : ([0] : List Nat).map (fun i => (wd_LW_law cA qa σ τ)[i]?) = (wd_HS_end cA (qa 0) (qa 1) (qa 2) (qa 3) (qa 4) (qa 5) (qa 6) (qa 7) (qa 8) (qa 9) (qa 10) (qa 11) (qa 12) (σ 1) (σ 2) (σ 3) (σ 0)).map some := rfl
        refine xv_afterI (ws' := (wd_LW_law cA qa (zst σ [(0, v178)]) τ)) (isC := [0]) (ps := [some 0, none, none, none, none, none, none, none, none, none, none, none, none, none, none, none, none, none, none, none, none, none, none, none, none, none, none, none, none, none, none, none, none, none, none, none, none, none, none, none, none, none, none, none, none, none, none, none, none, none, none, none, none, none, none, none, none, none, none, none, none, none, none, none, none, none, none, none, none, none, none, none, none, none, none, none, none, none, none, none, none, none, none, none, none, none, none, none, none, none, none, none, none, none, none, none, none, none, none, none, none, none, none, none, none, none, none, none, none, none, none, none, none, none]) (va_runV (As := [.int (Int32.ofInt v176)]) (rest := []) ⟨hx, hb, hml, hown, hts⟩ (c_HS_end l ev dC dI cA (qa 0) (qa 1) (qa 2) (qa 3) (qa 4) (qa 5) (qa 6) (qa 7) (qa 8) (qa 9) (qa 10) (qa 11) (qa 12) ((σ 1)) ((σ 2)) ((σ 3)) hg H.size) (cwV 1 hts (zgVL zw_630 zw_631 zw_632 zw_104 zw_633) rfl rfl rfl hd_HS_end ⟨Nat.le_of_ble_eq_true rfl, Nat.le_of_ble_eq_true rfl⟩) (xv_preV (T := TX10) (N := 16) hE hA hS hK hP hD (isC := [0]) (by decide +kernel) hC (q0 := 0) (ci := 10) rfl rfl) rfl rfl hl.1 rfl (lv_room (Nat.le_of_ble_eq_true rfl)) dL_law_539 ⟨Nat.le_refl _, Nat.le_refl _⟩) hP hD hS hA (by decide +kernel) rfl hC rfl rfl (fun H locs hP hD hS => ?_)
        refine lv_pop hx hb dL_law_542 rfl ?_
        refine lv_aload_n hx hb dL_law_543 rfl (lv_at hl 2 rfl) ?_
        refine lv_aload_n hx hb dL_law_544 rfl (lv_at hl 0 rfl) ?_
        refine lv_iload_n hx hb dL_law_545 rfl (lv_at hl 3 rfl) ?_
        refine lv_iconst (v := Int32.ofInt 1) hx hb dL_law_546 rfl ?_
        refine xi_iadd hx hb dL_law_547 hf (fun v179 hf => ?_)
        refine xi_lld hx hb hX hbl hbA hS dL_law_548 hf (fun v180 hf => ?_)
        refine xe_d3 hf (fun v181 v182 v183 hg hf => ?_)
        have hC : ([1] : List Nat).map (fun i => (wd_LW_law cA qa (zst σ [(0, v178)]) τ)[i]?) = (wd_HM_end cA (qa 13) (qa 14) (qa 15) (qa 16) (qa 17) (qa 18) (qa 19) (qa 20) (qa 21) (qa 22) (qa 23) (qa 24) (qa 25) (qa 26) (qa 27) (qa 28) (qa 29) (qa 30) (qa 31) (qa 32) (qa 33) (qa 34) (qa 35) (qa 36) (qa 37) (qa 38) (qa 39) (qa 40) (qa 41) (qa 42) (qa 43) (qa 44) (σ 5) (σ 6) (σ 8) (σ 9) (σ 10) (σ 11) (σ 12) (σ 13) (σ 14) (σ 15) (σ 16) (σ 17) (σ 18) (σ 19) (σ 20) (σ 21) (σ 22) (σ 23) (σ 24) (σ 25) (σ 4) (σ 7)).map some := rfl
        refine xv_afterI (ws' := (wd_LW_law cA qa (zst σ [(0, v178), (4, v182), (7, v183)]) τ)) (isC := [1]) (ps := [none, some 0, none, none, none, none, none, none, none, none, none, none, none, none, none, none, none, none, none, none, none, none, none, none, none, none, none, none, none, none, none, none, none, none, none, none, none, none, none, none, none, none, none, none, none, none, none, none, none, none, none, none, none, none, none, none, none, none, none, none, none, none, none, none, none, none, none, none, none, none, none, none, none, none, none, none, none, none, none, none, none, none, none, none, none, none, none, none, none, none, none, none, none, none, none, none, none, none, none, none, none, none, none, none, none, none, none, none, none, none, none, none, none, none]) (va_runV (As := [.int (Int32.ofInt v180)]) (rest := []) ⟨hx, hb, hml, hown, hts⟩ (c_HM_end l ev dC dI cA (qa 13) (qa 14) (qa 15) (qa 16) (qa 17) (qa 18) (qa 19) (qa 20) (qa 21) (qa 22) (qa 23) (qa 24) (qa 25) (qa 26) (qa 27) (qa 28) (qa 29) (qa 30) (qa 31) (qa 32) (qa 33) (qa 34) (qa 35) (qa 36) (qa 37) (qa 38) (qa 39) (qa 40) (qa 41) (qa 42) (qa 43) (qa 44) ((σ 5)) ((σ 6)) ((σ 8)) ((σ 9)) ((σ 10)) ((σ 11)) ((σ 12)) ((σ 13)) ((σ 14)) ((σ 15)) ((σ 16)) ((σ 17)) ((σ 18)) ((σ 19)) ((σ 20)) ((σ 21)) ((σ 22)) ((σ 23)) ((σ 24)) ((σ 25)) hg H.size) (cwV 1 hts (zgVL zw_1423 zw_1424 zw_1425 zw_115 zw_1426) rfl rfl rfl hd_HM_end ⟨Nat.le_of_ble_eq_true rfl, Nat.le_of_ble_eq_true rfl⟩) (xv_preV (T := TX11) (N := 53) hE hA hS hK hP hD (isC := [1]) (by decide +kernel) hC (q0 := 1) (ci := 11) rfl rfl) rfl rfl hl.1 rfl (lv_room (Nat.le_of_ble_eq_true rfl)) dL_law_549 ⟨Nat.le_refl _, Nat.le_refl _⟩) hP hD hS hA (by decide +kernel) rfl hC rfl rfl (fun H locs hP hD hS => ?_)
        refine lv_pop hx hb dL_law_552 rfl ?_
        refine lv_goto (tgt := 1304) hx hb dL_law_553 (by decide) ?_
        exact b_1304 _ ih18 _ _ _ _ _ _ hf hP hD hS (lv_sub hl [0, 1, 2, 3] rfl)
      refine xz_if hf (fun hc hf => ?_) (fun hn12 hf => ?_)
      · refine xi_tin (tgt := 556) hx hb dL_law_33 hc (by decide) (by decide) rfl (by decide) ?_
        refine lv_aload_n hx hb dL_law_556 rfl (lv_at hl 1 rfl) ?_
        refine xe_d8 hf (fun v184 v185 v186 v187 v188 a189 a190 a191 hg hf => ?_)
        have hC : ([0, 2, 5, 6, 45, 80, 81] : List Nat).map (fun i => (wd_LW_law cA qa σ τ)[i]?) = (wd_HS_row cA (qa 0) (qa 1) (qa 2) (qa 3) (qa 4) (qa 5) (qa 6) (qa 7) (qa 8) (qa 9) (qa 10) (qa 11) (qa 12) (qa 45) (qa 46) (qa 47) (qa 48) (qa 49) (qa 50) (qa 51) (qa 52) (qa 53) (qa 80) (qa 81) (σ 1) (σ 26) (σ 27) (σ 28) (σ 29) (τ 1) (σ 49) (σ 0) (σ 2) (σ 3) (σ 30) (τ 2) (τ 63) (τ 64)).map some := rfl
        refine xv_afterI (ws' := (wd_LW_law cA qa (zst σ [(0, v185), (2, v186), (3, v187), (30, v188)]) (zta τ [(2, a189), (63, a190), (64, a191)]))) (isC := [0, 2, 5, 6, 45, 80, 81]) (ps := [some 0, none, some 1, none, none, some 2, some 3, none, none, none, none, none, none, none, none, none, none, none, none, none, none, none, none, none, none, none, none, none, none, none, none, none, none, none, none, none, none, none, none, none, none, none, none, none, none, some 4, none, none, none, none, none, none, none, none, none, none, none, none, none, none, none, none, none, none, none, none, none, none, none, none, none, none, none, none, none, none, none, none, none, none, some 5, some 6, none, none, none, none, none, none, none, none, none, none, none, none, none, none, none, none, none, none, none, none, none, none, none, none, none, none, none, none, none, none, none, none]) (va_runV (As := []) (rest := []) ⟨hx, hb, hml, hown, hts⟩ (c_HS_row l ev dC dI cA (qa 0) (qa 1) (qa 2) (qa 3) (qa 4) (qa 5) (qa 6) (qa 7) (qa 8) (qa 9) (qa 10) (qa 11) (qa 12) (qa 45) (qa 46) (qa 47) (qa 48) (qa 49) (qa 50) (qa 51) (qa 52) (qa 53) (qa 80) (qa 81) ((σ 1)) ((σ 26)) ((σ 27)) ((σ 28)) ((σ 29)) hg H.size) (cwV 0 hts (zgVL zw_634 zw_635 zw_636 zw_104 zw_637) rfl rfl rfl hd_HS_row ⟨Nat.le_of_ble_eq_true rfl, Nat.le_of_ble_eq_true rfl⟩) (xv_preV (T := TX10) (N := 16) hE hA hS hK hP hD (isC := [0, 2, 5, 6, 45, 80, 81]) (by decide +kernel) hC (q0 := 0) (ci := 10) rfl rfl) rfl rfl hl.1 rfl (lv_room (Nat.le_of_ble_eq_true rfl)) dL_law_557 ⟨Nat.le_refl _, Nat.le_refl _⟩) hP hD hS hA (by decide +kernel) rfl hC rfl rfl (fun H locs hP hD hS => ?_)
        refine lv_pop hx hb dL_law_560 rfl ?_
        refine lv_aload_n hx hb dL_law_561 rfl (lv_at hl 2 rfl) ?_
        refine xe_d7 hf (fun v192 v193 v194 v195 v196 a197 a198 hg hf => ?_)
        have hC : ([1, 14, 15, 18] : List Nat).map (fun i => (wd_LW_law cA qa (zst σ [(0, v185), (2, v186), (3, v187), (30, v188)]) (zta τ [(2, a189), (63, a190), (64, a191)]))[i]?) = (wd_HM_row cA (qa 13) (qa 14) (qa 15) (qa 16) (qa 17) (qa 18) (qa 19) (qa 20) (qa 21) (qa 22) (qa 23) (qa 24) (qa 25) (qa 26) (qa 27) (qa 28) (qa 29) (qa 30) (qa 31) (qa 32) (qa 33) (qa 34) (qa 35) (qa 36) (qa 37) (qa 38) (qa 39) (qa 40) (qa 41) (qa 42) (qa 43) (qa 44) (σ 8) (σ 9) (σ 10) (σ 11) (σ 12) (σ 13) (σ 14) (σ 15) (σ 16) (σ 17) (σ 18) (σ 19) (σ 20) (σ 21) (σ 22) (σ 23) (σ 24) (σ 25) (τ 7) (σ 4) (σ 5) (σ 6) (σ 7) (τ 3) (τ 4)).map some := rfl
        refine xv_afterI (ws' := (wd_LW_law cA qa (zst σ [(0, v185), (2, v186), (3, v187), (4, v193), (5, v194), (6, v195), (7, v196), (30, v188)]) (zta τ [(2, a189), (3, a197), (4, a198), (63, a190), (64, a191)]))) (isC := [1, 14, 15, 18]) (ps := [none, some 0, none, none, none, none, none, none, none, none, none, none, none, none, some 1, some 2, none, none, some 3, none, none, none, none, none, none, none, none, none, none, none, none, none, none, none, none, none, none, none, none, none, none, none, none, none, none, none, none, none, none, none, none, none, none, none, none, none, none, none, none, none, none, none, none, none, none, none, none, none, none, none, none, none, none, none, none, none, none, none, none, none, none, none, none, none, none, none, none, none, none, none, none, none, none, none, none, none, none, none, none, none, none, none, none, none, none, none, none, none, none, none, none, none, none, none]) (va_runV (As := []) (rest := []) ⟨hx, hb, hml, hown, hts⟩ (c_HM_row l ev dC dI cA (qa 13) (qa 14) (qa 15) (qa 16) (qa 17) (qa 18) (qa 19) (qa 20) (qa 21) (qa 22) (qa 23) (qa 24) (qa 25) (qa 26) (qa 27) (qa 28) (qa 29) (qa 30) (qa 31) (qa 32) (qa 33) (qa 34) (qa 35) (qa 36) (qa 37) (qa 38) (qa 39) (qa 40) (qa 41) (qa 42) (qa 43) (qa 44) ((σ 8)) ((σ 9)) ((σ 10)) ((σ 11)) ((σ 12)) ((σ 13)) ((σ 14)) ((σ 15)) ((σ 16)) ((σ 17)) ((σ 18)) ((σ 19)) ((σ 20)) ((σ 21)) ((σ 22)) ((σ 23)) ((σ 24)) ((σ 25)) hg H.size) (cwV 0 hts (zgVL zw_1407 zw_1408 zw_1409 zw_115 zw_1410) rfl rfl rfl hd_HM_row ⟨Nat.le_of_ble_eq_true rfl, Nat.le_of_ble_eq_true rfl⟩) (xv_preV (T := TX11) (N := 53) hE hA hS hK hP hD (isC := [1, 14, 15, 18]) (by decide +kernel) hC (q0 := 1) (ci := 11) rfl rfl) rfl rfl hl.1 rfl (lv_room (Nat.le_of_ble_eq_true rfl)) dL_law_562 ⟨Nat.le_refl _, Nat.le_refl _⟩) hP hD hS hA (by decide +kernel) rfl hC rfl rfl (fun H locs hP hD hS => ?_)
        refine lv_pop hx hb dL_law_565 rfl ?_
        refine lv_goto (tgt := 1304) hx hb dL_law_566 (by decide) ?_
        exact b_1304 _ ih18 _ _ _ _ _ _ hf hP hD hS (lv_sub hl [0, 1, 2, 3] rfl)
      refine xz_if hf (fun hc hf => ?_) (fun hn13 hf => ?_)
      · refine xi_tin (tgt := 569) hx hb dL_law_33 hc (by decide) (by decide) rfl (by decide) ?_
        refine lv_aload_n hx hb dL_law_569 rfl (lv_at hl 1 rfl) ?_
        refine xe_d1 hf (fun v199 hg hf => ?_)
        have hC : ([0] : List Nat).map (fun i => (wd_LW_law cA qa σ τ)[i]?) = (wd_HS_gravel cA (qa 0) (qa 1) (qa 2) (qa 3) (qa 4) (qa 5) (qa 6) (qa 7) (qa 8) (qa 9) (qa 10) (qa 11) (qa 12) (σ 0) (σ 1) (σ 3) (σ 2)).map some := rfl
        refine xv_afterI (ws' := (wd_LW_law cA qa σ τ)) (isC := [0]) (ps := [some 0, none, none, none, none, none, none, none, none, none, none, none, none, none, none, none, none, none, none, none, none, none, none, none, none, none, none, none, none, none, none, none, none, none, none, none, none, none, none, none, none, none, none, none, none, none, none, none, none, none, none, none, none, none, none, none, none, none, none, none, none, none, none, none, none, none, none, none, none, none, none, none, none, none, none, none, none, none, none, none, none, none, none, none, none, none, none, none, none, none, none, none, none, none, none, none, none, none, none, none, none, none, none, none, none, none, none, none, none, none, none, none, none, none]) (va_runV (As := []) (rest := []) ⟨hx, hb, hml, hown, hts⟩ (c_HS_gravel l ev dC dI cA (qa 0) (qa 1) (qa 2) (qa 3) (qa 4) (qa 5) (qa 6) (qa 7) (qa 8) (qa 9) (qa 10) (qa 11) (qa 12) ((σ 0)) ((σ 1)) ((σ 3)) hg H.size) (cwV 0 hts (zgVL zw_638 zw_639 zw_640 zw_104 zw_641) rfl rfl rfl hd_HS_gravel ⟨Nat.le_of_ble_eq_true rfl, Nat.le_of_ble_eq_true rfl⟩) (xv_preV (T := TX10) (N := 16) hE hA hS hK hP hD (isC := [0]) (by decide +kernel) hC (q0 := 0) (ci := 10) rfl rfl) rfl rfl hl.1 rfl (lv_room (Nat.le_of_ble_eq_true rfl)) dL_law_570 ⟨Nat.le_refl _, Nat.le_refl _⟩) hP hD hS hA (by decide +kernel) rfl hC rfl rfl (fun H locs hP hD hS => ?_)
        refine lv_pop hx hb dL_law_573 rfl ?_
        refine lv_aload_n hx hb dL_law_574 rfl (lv_at hl 2 rfl) ?_
        refine xe_d2 hf (fun v200 v201 hg hf => ?_)
        have hC : ([1] : List Nat).map (fun i => (wd_LW_law cA qa σ τ)[i]?) = (wd_HM_gravel cA (qa 13) (qa 14) (qa 15) (qa 16) (qa 17) (qa 18) (qa 19) (qa 20) (qa 21) (qa 22) (qa 23) (qa 24) (qa 25) (qa 26) (qa 27) (qa 28) (qa 29) (qa 30) (qa 31) (qa 32) (qa 33) (qa 34) (qa 35) (qa 36) (qa 37) (qa 38) (qa 39) (qa 40) (qa 41) (qa 42) (qa 43) (qa 44) (σ 5) (σ 7) (σ 8) (σ 9) (σ 10) (σ 11) (σ 12) (σ 13) (σ 14) (σ 15) (σ 16) (σ 17) (σ 18) (σ 19) (σ 20) (σ 21) (σ 22) (σ 23) (σ 24) (σ 25) (σ 6) (σ 4)).map some := rfl
        refine xv_afterI (ws' := (wd_LW_law cA qa (zst σ [(4, v201)]) τ)) (isC := [1]) (ps := [none, some 0, none, none, none, none, none, none, none, none, none, none, none, none, none, none, none, none, none, none, none, none, none, none, none, none, none, none, none, none, none, none, none, none, none, none, none, none, none, none, none, none, none, none, none, none, none, none, none, none, none, none, none, none, none, none, none, none, none, none, none, none, none, none, none, none, none, none, none, none, none, none, none, none, none, none, none, none, none, none, none, none, none, none, none, none, none, none, none, none, none, none, none, none, none, none, none, none, none, none, none, none, none, none, none, none, none, none, none, none, none, none, none, none]) (va_runV (As := []) (rest := []) ⟨hx, hb, hml, hown, hts⟩ (c_HM_gravel l ev dC dI cA (qa 13) (qa 14) (qa 15) (qa 16) (qa 17) (qa 18) (qa 19) (qa 20) (qa 21) (qa 22) (qa 23) (qa 24) (qa 25) (qa 26) (qa 27) (qa 28) (qa 29) (qa 30) (qa 31) (qa 32) (qa 33) (qa 34) (qa 35) (qa 36) (qa 37) (qa 38) (qa 39) (qa 40) (qa 41) (qa 42) (qa 43) (qa 44) ((σ 5)) ((σ 7)) ((σ 8)) ((σ 9)) ((σ 10)) ((σ 11)) ((σ 12)) ((σ 13)) ((σ 14)) ((σ 15)) ((σ 16)) ((σ 17)) ((σ 18)) ((σ 19)) ((σ 20)) ((σ 21)) ((σ 22)) ((σ 23)) ((σ 24)) ((σ 25)) hg H.size) (cwV 0 hts (zgVL zw_1411 zw_1412 zw_1413 zw_115 zw_1414) rfl rfl rfl hd_HM_gravel ⟨Nat.le_of_ble_eq_true rfl, Nat.le_of_ble_eq_true rfl⟩) (xv_preV (T := TX11) (N := 53) hE hA hS hK hP hD (isC := [1]) (by decide +kernel) hC (q0 := 1) (ci := 11) rfl rfl) rfl rfl hl.1 rfl (lv_room (Nat.le_of_ble_eq_true rfl)) dL_law_575 ⟨Nat.le_refl _, Nat.le_refl _⟩) hP hD hS hA (by decide +kernel) rfl hC rfl rfl (fun H locs hP hD hS => ?_)
        refine lv_pop hx hb dL_law_578 rfl ?_
        refine lv_goto (tgt := 1304) hx hb dL_law_579 (by decide) ?_
        exact b_1304 _ ih18 _ _ _ _ _ _ hf hP hD hS (lv_sub hl [0, 1, 2, 3] rfl)
      refine xz_if hf (fun hc hf => ?_) (fun hn14 hf => ?_)
      · refine xi_tin (tgt := 582) hx hb dL_law_33 hc (by decide) (by decide) rfl (by decide) ?_
        refine lv_aload_n hx hb dL_law_582 rfl (lv_at hl 1 rfl) ?_
        refine xe_d16 hf (fun v202 v203 v204 v205 v206 v207 a208 v209 v210 v211 a212 a213 a214 a215 a216 a217 hg hf => ?_)
        have hC : ([0, 2, 5, 6, 7, 52, 53, 56, 57, 58, 59] : List Nat).map (fun i => (wd_LW_law cA qa σ τ)[i]?) = (wd_HS_law cA (qa 0) (qa 1) (qa 2) (qa 3) (qa 4) (qa 5) (qa 6) (qa 7) (qa 8) (qa 9) (qa 10) (qa 11) (qa 12) (qa 45) (qa 46) (qa 47) (qa 48) (qa 49) (qa 50) (qa 51) (qa 52) (qa 53) (qa 56) (qa 57) (qa 58) (qa 59) (σ 2) (σ 26) (σ 27) (σ 29) (τ 1) (σ 0) (σ 1) (σ 3) (σ 28) (σ 30) (τ 2) (σ 31) (σ 32) (σ 33) (τ 40) (τ 41) (τ 42) (τ 43) (τ 44) (τ 45)).map some := rfl
        refine xv_afterI (ws' := (wd_LW_law cA qa (zst σ [(0, v203), (1, v204), (3, v205), (28, v206), (30, v207), (31, v209), (32, v210), (33, v211)]) (zta τ [(2, a208), (40, a212), (41, a213), (42, a214), (43, a215), (44, a216), (45, a217)]))) (isC := [0, 2, 5, 6, 7, 52, 53, 56, 57, 58, 59]) (ps := [some 0, none, some 1, none, none, some 2, some 3, some 4, none, none, none, none, none, none, none, none, none, none, none, none, none, none, none, none, none, none, none, none, none, none, none, none, none, none, none, none, none, none, none, none, none, none, none, none, none, none, none, none, none, none, none, none, some 5, some 6, none, none, some 7, some 8, some 9, some 10, none, none, none, none, none, none, none, none, none, none, none, none, none, none, none, none, none, none, none, none, none, none, none, none, none, none, none, none, none, none, none, none, none, none, none, none, none, none, none, none, none, none, none, none, none, none, none, none, none, none, none, none, none, none]) (va_runV (As := []) (rest := []) ⟨hx, hb, hml, hown, hts⟩ (c_HS_law l ev dC dI cA (qa 0) (qa 1) (qa 2) (qa 3) (qa 4) (qa 5) (qa 6) (qa 7) (qa 8) (qa 9) (qa 10) (qa 11) (qa 12) (qa 45) (qa 46) (qa 47) (qa 48) (qa 49) (qa 50) (qa 51) (qa 52) (qa 53) (qa 56) (qa 57) (qa 58) (qa 59) ((σ 2)) ((σ 26)) ((σ 27)) ((σ 29)) hg H.size) (cwV 0 hts (zgVL zw_642 zw_643 zw_644 zw_104 zw_645) rfl rfl rfl hd_HS_law ⟨Nat.le_of_ble_eq_true rfl, Nat.le_of_ble_eq_true rfl⟩) (xv_preV (T := TX10) (N := 16) hE hA hS hK hP hD (isC := [0, 2, 5, 6, 7, 52, 53, 56, 57, 58, 59]) (by decide +kernel) hC (q0 := 0) (ci := 10) rfl rfl) rfl rfl hl.1 rfl (lv_room (Nat.le_of_ble_eq_true rfl)) dL_law_583 ⟨Nat.le_refl _, Nat.le_refl _⟩) hP hD hS hA (by decide +kernel) rfl hC rfl rfl (fun H locs hP hD hS => ?_)
        refine lv_pop hx hb dL_law_586 rfl ?_
        refine lv_aload_n hx hb dL_law_587 rfl (lv_at hl 2 rfl) ?_
        refine xe_d22 hf (fun v218 v219 v220 v221 v222 v223 v224 v225 v226 v227 v228 v229 v230 v231 v232 a233 a234 a235 a236 a237 a238 a239 hg hf => ?_)
        have hC : ([1, 14, 15, 18, 19, 20, 21, 22, 23, 24] : List Nat).map (fun i => (wd_LW_law cA qa (zst σ [(0, v203), (1, v204), (3, v205), (28, v206), (30, v207), (31, v209), (32, v210), (33, v211)]) (zta τ [(2, a208), (40, a212), (41, a213), (42, a214), (43, a215), (44, a216), (45, a217)]))[i]?) = (wd_HM_law cA (qa 13) (qa 14) (qa 15) (qa 16) (qa 17) (qa 18) (qa 19) (qa 20) (qa 21) (qa 22) (qa 23) (qa 24) (qa 25) (qa 26) (qa 27) (qa 28) (qa 29) (qa 30) (qa 31) (qa 32) (qa 33) (qa 34) (qa 35) (qa 36) (qa 37) (qa 38) (qa 39) (qa 40) (qa 41) (qa 42) (qa 43) (qa 44) (σ 6) (σ 19) (σ 20) (σ 21) (σ 22) (σ 23) (σ 24) (σ 25) (τ 7) (τ 13) (σ 4) (σ 5) (σ 7) (σ 8) (σ 9) (σ 10) (σ 11) (σ 12) (σ 13) (σ 14) (σ 15) (σ 16) (σ 17) (σ 18) (τ 3) (τ 4) (τ 8) (τ 9) (τ 10) (τ 11) (τ 12)).map some := rfl
        refine xv_afterI (ws' := (wd_LW_law cA qa (zst σ [(0, v203), (1, v204), (3, v205), (4, v219), (5, v220), (7, v221), (8, v222), (9, v223), (10, v224), (11, v225), (12, v226), (13, v227), (14, v228), (15, v229), (16, v230), (17, v231), (18, v232), (28, v206), (30, v207), (31, v209), (32, v210), (33, v211)]) (zta τ [(2, a208), (3, a233), (4, a234), (8, a235), (9, a236), (10, a237), (11, a238), (12, a239), (40, a212), (41, a213), (42, a214), (43, a215), (44, a216), (45, a217)]))) (isC := [1, 14, 15, 18, 19, 20, 21, 22, 23, 24]) (ps := [none, some 0, none, none, none, none, none, none, none, none, none, none, none, none, some 1, some 2, none, none, some 3, some 4, some 5, some 6, some 7, some 8, some 9, none, none, none, none, none, none, none, none, none, none, none, none, none, none, none, none, none, none, none, none, none, none, none, none, none, none, none, none, none, none, none, none, none, none, none, none, none, none, none, none, none, none, none, none, none, none, none, none, none, none, none, none, none, none, none, none, none, none, none, none, none, none, none, none, none, none, none, none, none, none, none, none, none, none, none, none, none, none, none, none, none, none, none, none, none, none, none, none, none]) (va_runV (As := []) (rest := []) ⟨hx, hb, hml, hown, hts⟩ (c_HM_law l ev dC dI cA (qa 13) (qa 14) (qa 15) (qa 16) (qa 17) (qa 18) (qa 19) (qa 20) (qa 21) (qa 22) (qa 23) (qa 24) (qa 25) (qa 26) (qa 27) (qa 28) (qa 29) (qa 30) (qa 31) (qa 32) (qa 33) (qa 34) (qa 35) (qa 36) (qa 37) (qa 38) (qa 39) (qa 40) (qa 41) (qa 42) (qa 43) (qa 44) ((σ 6)) ((σ 19)) ((σ 20)) ((σ 21)) ((σ 22)) ((σ 23)) ((σ 24)) ((σ 25)) hg H.size) (cwV 0 hts (zgVL zw_1431 zw_1432 zw_1433 zw_115 zw_1434) rfl rfl rfl hd_HM_law ⟨Nat.le_of_ble_eq_true rfl, Nat.le_of_ble_eq_true rfl⟩) (xv_preV (T := TX11) (N := 53) hE hA hS hK hP hD (isC := [1, 14, 15, 18, 19, 20, 21, 22, 23, 24]) (by decide +kernel) hC (q0 := 1) (ci := 11) rfl rfl) rfl rfl hl.1 rfl (lv_room (Nat.le_of_ble_eq_true rfl)) dL_law_588 ⟨Nat.le_refl _, Nat.le_refl _⟩) hP hD hS hA (by decide +kernel) rfl hC rfl rfl (fun H locs hP hD hS => ?_)
        refine lv_pop hx hb dL_law_591 rfl ?_
        refine lv_goto (tgt := 1304) hx hb dL_law_592 (by decide) ?_
        exact b_1304 _ ih18 _ _ _ _ _ _ hf hP hD hS (lv_sub hl [0, 1, 2, 3] rfl)
      refine xz_if hf (fun hc hf => ?_) (fun hn15 hf => ?_)
      · refine xi_tin (tgt := 595) hx hb dL_law_33 hc (by decide) (by decide) rfl (by decide) ?_
        refine lv_aload_n hx hb dL_law_595 rfl (lv_at hl 1 rfl) ?_
        refine xe_d1 hf (fun v240 hg hf => ?_)
        have hC : ([0] : List Nat).map (fun i => (wd_LW_law cA qa σ τ)[i]?) = (wd_HS_fault cA (qa 0) (qa 1) (qa 2) (qa 3) (qa 4) (qa 5) (qa 6) (qa 7) (qa 8) (qa 9) (qa 10) (qa 11) (qa 12) (σ 0) (σ 2) (σ 3) (σ 1)).map some := rfl
        refine xv_afterI (ws' := (wd_LW_law cA qa σ τ)) (isC := [0]) (ps := [some 0, none, none, none, none, none, none, none, none, none, none, none, none, none, none, none, none, none, none, none, none, none, none, none, none, none, none, none, none, none, none, none, none, none, none, none, none, none, none, none, none, none, none, none, none, none, none, none, none, none, none, none, none, none, none, none, none, none, none, none, none, none, none, none, none, none, none, none, none, none, none, none, none, none, none, none, none, none, none, none, none, none, none, none, none, none, none, none, none, none, none, none, none, none, none, none, none, none, none, none, none, none, none, none, none, none, none, none, none, none, none, none, none, none]) (va_runV (As := []) (rest := []) ⟨hx, hb, hml, hown, hts⟩ (c_HS_fault l ev dC dI cA (qa 0) (qa 1) (qa 2) (qa 3) (qa 4) (qa 5) (qa 6) (qa 7) (qa 8) (qa 9) (qa 10) (qa 11) (qa 12) ((σ 0)) ((σ 2)) ((σ 3)) hg H.size) (cwV 0 hts (zgVL zw_787 zw_788 zw_789 zw_104 zw_790) rfl rfl rfl hd_HS_fault ⟨Nat.le_of_ble_eq_true rfl, Nat.le_of_ble_eq_true rfl⟩) (xv_preV (T := TX10) (N := 16) hE hA hS hK hP hD (isC := [0]) (by decide +kernel) hC (q0 := 0) (ci := 10) rfl rfl) rfl rfl hl.1 rfl (lv_room (Nat.le_of_ble_eq_true rfl)) dL_law_596 ⟨Nat.le_refl _, Nat.le_refl _⟩) hP hD hS hA (by decide +kernel) rfl hC rfl rfl (fun H locs hP hD hS => ?_)
        refine lv_pop hx hb dL_law_599 rfl ?_
        refine lv_aload_n hx hb dL_law_600 rfl (lv_at hl 2 rfl) ?_
        refine xe_d2 hf (fun v241 v242 hg hf => ?_)
        have hC : ([1] : List Nat).map (fun i => (wd_LW_law cA qa σ τ)[i]?) = (wd_HM_fault cA (qa 13) (qa 14) (qa 15) (qa 16) (qa 17) (qa 18) (qa 19) (qa 20) (qa 21) (qa 22) (qa 23) (qa 24) (qa 25) (qa 26) (qa 27) (qa 28) (qa 29) (qa 30) (qa 31) (qa 32) (qa 33) (qa 34) (qa 35) (qa 36) (qa 37) (qa 38) (qa 39) (qa 40) (qa 41) (qa 42) (qa 43) (qa 44) (σ 5) (σ 6) (σ 7) (σ 8) (σ 9) (σ 10) (σ 11) (σ 13) (σ 14) (σ 15) (σ 16) (σ 17) (σ 18) (σ 19) (σ 20) (σ 21) (σ 22) (σ 23) (σ 24) (σ 25) (σ 12) (σ 4)).map some := rfl
        refine xv_afterI (ws' := (wd_LW_law cA qa (zst σ [(4, v242)]) τ)) (isC := [1]) (ps := [none, some 0, none, none, none, none, none, none, none, none, none, none, none, none, none, none, none, none, none, none, none, none, none, none, none, none, none, none, none, none, none, none, none, none, none, none, none, none, none, none, none, none, none, none, none, none, none, none, none, none, none, none, none, none, none, none, none, none, none, none, none, none, none, none, none, none, none, none, none, none, none, none, none, none, none, none, none, none, none, none, none, none, none, none, none, none, none, none, none, none, none, none, none, none, none, none, none, none, none, none, none, none, none, none, none, none, none, none, none, none, none, none, none, none]) (va_runV (As := []) (rest := []) ⟨hx, hb, hml, hown, hts⟩ (c_HM_fault l ev dC dI cA (qa 13) (qa 14) (qa 15) (qa 16) (qa 17) (qa 18) (qa 19) (qa 20) (qa 21) (qa 22) (qa 23) (qa 24) (qa 25) (qa 26) (qa 27) (qa 28) (qa 29) (qa 30) (qa 31) (qa 32) (qa 33) (qa 34) (qa 35) (qa 36) (qa 37) (qa 38) (qa 39) (qa 40) (qa 41) (qa 42) (qa 43) (qa 44) ((σ 5)) ((σ 6)) ((σ 7)) ((σ 8)) ((σ 9)) ((σ 10)) ((σ 11)) ((σ 13)) ((σ 14)) ((σ 15)) ((σ 16)) ((σ 17)) ((σ 18)) ((σ 19)) ((σ 20)) ((σ 21)) ((σ 22)) ((σ 23)) ((σ 24)) ((σ 25)) hg H.size) (cwV 0 hts (zgVL zw_1427 zw_1428 zw_1429 zw_115 zw_1430) rfl rfl rfl hd_HM_fault ⟨Nat.le_of_ble_eq_true rfl, Nat.le_of_ble_eq_true rfl⟩) (xv_preV (T := TX11) (N := 53) hE hA hS hK hP hD (isC := [1]) (by decide +kernel) hC (q0 := 1) (ci := 11) rfl rfl) rfl rfl hl.1 rfl (lv_room (Nat.le_of_ble_eq_true rfl)) dL_law_601 ⟨Nat.le_refl _, Nat.le_refl _⟩) hP hD hS hA (by decide +kernel) rfl hC rfl rfl (fun H locs hP hD hS => ?_)
        refine lv_pop hx hb dL_law_604 rfl ?_
        refine lv_goto (tgt := 1304) hx hb dL_law_605 (by decide) ?_
        exact b_1304 _ ih18 _ _ _ _ _ _ hf hP hD hS (lv_sub hl [0, 1, 2, 3] rfl)
      refine xz_if hf (fun hc hf => ?_) (fun hn16 hf => ?_)
      · refine xi_tin (tgt := 608) hx hb dL_law_33 hc (by decide) (by decide) rfl (by decide) ?_
        refine lv_aload_n hx hb dL_law_608 rfl (lv_at hl 1 rfl) ?_
        refine lv_aload_n hx hb dL_law_609 rfl (lv_at hl 0 rfl) ?_
        refine lv_iload_n hx hb dL_law_610 rfl (lv_at hl 3 rfl) ?_
        refine lv_iconst (v := Int32.ofInt 1) hx hb dL_law_611 rfl ?_
        refine xi_iadd hx hb dL_law_612 hf (fun v243 hf => ?_)
        refine xi_lld hx hb hX hbl hbA hS dL_law_613 hf (fun v244 hf => ?_)
        refine xe_d5 hf (fun v245 v246 v247 v248 a249 hg hf => ?_)
        have hC : ([0, 2, 6] : List Nat).map (fun i => (wd_LW_law cA qa σ τ)[i]?) = (wd_HS_force cA (qa 0) (qa 1) (qa 2) (qa 3) (qa 4) (qa 5) (qa 6) (qa 7) (qa 8) (qa 9) (qa 10) (qa 11) (qa 12) (qa 45) (qa 46) (qa 47) (qa 48) (qa 49) (qa 50) (qa 51) (qa 52) (qa 53) (σ 0) (σ 1) (σ 2) (σ 26) (σ 27) (σ 28) (σ 3) (σ 29) (σ 30) (τ 2)).map some := rfl
        refine xv_afterI (ws' := (wd_LW_law cA qa (zst σ [(3, v246), (29, v247), (30, v248)]) (zta τ [(2, a249)]))) (isC := [0, 2, 6]) (ps := [some 0, none, some 1, none, none, none, some 2, none, none, none, none, none, none, none, none, none, none, none, none, none, none, none, none, none, none, none, none, none, none, none, none, none, none, none, none, none, none, none, none, none, none, none, none, none, none, none, none, none, none, none, none, none, none, none, none, none, none, none, none, none, none, none, none, none, none, none, none, none, none, none, none, none, none, none, none, none, none, none, none, none, none, none, none, none, none, none, none, none, none, none, none, none, none, none, none, none, none, none, none, none, none, none, none, none, none, none, none, none, none, none, none, none, none, none]) (va_runV (As := [.int (Int32.ofInt v244)]) (rest := []) ⟨hx, hb, hml, hown, hts⟩ (c_HS_force l ev dC dI cA (qa 0) (qa 1) (qa 2) (qa 3) (qa 4) (qa 5) (qa 6) (qa 7) (qa 8) (qa 9) (qa 10) (qa 11) (qa 12) (qa 45) (qa 46) (qa 47) (qa 48) (qa 49) (qa 50) (qa 51) (qa 52) (qa 53) ((σ 0)) ((σ 1)) ((σ 2)) ((σ 26)) ((σ 27)) hg H.size) (cwV 1 hts (zgVL zw_791 zw_792 zw_793 zw_104 zw_794) rfl rfl rfl hd_HS_force ⟨Nat.le_of_ble_eq_true rfl, Nat.le_of_ble_eq_true rfl⟩) (xv_preV (T := TX10) (N := 16) hE hA hS hK hP hD (isC := [0, 2, 6]) (by decide +kernel) hC (q0 := 0) (ci := 10) rfl rfl) rfl rfl hl.1 rfl (lv_room (Nat.le_of_ble_eq_true rfl)) dL_law_614 ⟨Nat.le_refl _, Nat.le_refl _⟩) hP hD hS hA (by decide +kernel) rfl hC rfl rfl (fun H locs hP hD hS => ?_)
        refine lv_pop hx hb dL_law_617 rfl ?_
        refine lv_aload_n hx hb dL_law_618 rfl (lv_at hl 2 rfl) ?_
        refine lv_aload_n hx hb dL_law_619 rfl (lv_at hl 0 rfl) ?_
        refine lv_iload_n hx hb dL_law_620 rfl (lv_at hl 3 rfl) ?_
        refine lv_iconst (v := Int32.ofInt 1) hx hb dL_law_621 rfl ?_
        refine xi_iadd hx hb dL_law_622 hf (fun v250 hf => ?_)
        refine xi_lld hx hb hX hbl hbA hS dL_law_623 hf (fun v251 hf => ?_)
        refine xe_d5 hf (fun v252 v253 v254 a255 a256 hg hf => ?_)
        have hC : ([1, 14, 15] : List Nat).map (fun i => (wd_LW_law cA qa (zst σ [(3, v246), (29, v247), (30, v248)]) (zta τ [(2, a249)]))[i]?) = (wd_HM_force cA (qa 13) (qa 14) (qa 15) (qa 16) (qa 17) (qa 18) (qa 19) (qa 20) (qa 21) (qa 22) (qa 23) (qa 24) (qa 25) (qa 26) (qa 27) (qa 28) (qa 29) (qa 30) (qa 31) (qa 32) (qa 33) (qa 34) (qa 35) (qa 36) (qa 37) (qa 38) (qa 39) (qa 40) (qa 41) (qa 42) (qa 43) (qa 44) (σ 6) (σ 7) (σ 8) (σ 9) (σ 10) (σ 11) (σ 12) (σ 13) (σ 14) (σ 15) (σ 16) (σ 17) (σ 18) (σ 19) (σ 20) (σ 21) (σ 22) (σ 23) (σ 24) (σ 25) (σ 4) (σ 5) (τ 3) (τ 4)).map some := rfl
        refine xv_afterI (ws' := (wd_LW_law cA qa (zst σ [(3, v246), (4, v253), (5, v254), (29, v247), (30, v248)]) (zta τ [(2, a249), (3, a255), (4, a256)]))) (isC := [1, 14, 15]) (ps := [none, some 0, none, none, none, none, none, none, none, none, none, none, none, none, some 1, some 2, none, none, none, none, none, none, none, none, none, none, none, none, none, none, none, none, none, none, none, none, none, none, none, none, none, none, none, none, none, none, none, none, none, none, none, none, none, none, none, none, none, none, none, none, none, none, none, none, none, none, none, none, none, none, none, none, none, none, none, none, none, none, none, none, none, none, none, none, none, none, none, none, none, none, none, none, none, none, none, none, none, none, none, none, none, none, none, none, none, none, none, none, none, none, none, none, none, none]) (va_runV (As := [.int (Int32.ofInt v251)]) (rest := []) ⟨hx, hb, hml, hown, hts⟩ (c_HM_force l ev dC dI cA (qa 13) (qa 14) (qa 15) (qa 16) (qa 17) (qa 18) (qa 19) (qa 20) (qa 21) (qa 22) (qa 23) (qa 24) (qa 25) (qa 26) (qa 27) (qa 28) (qa 29) (qa 30) (qa 31) (qa 32) (qa 33) (qa 34) (qa 35) (qa 36) (qa 37) (qa 38) (qa 39) (qa 40) (qa 41) (qa 42) (qa 43) (qa 44) ((σ 6)) ((σ 7)) ((σ 8)) ((σ 9)) ((σ 10)) ((σ 11)) ((σ 12)) ((σ 13)) ((σ 14)) ((σ 15)) ((σ 16)) ((σ 17)) ((σ 18)) ((σ 19)) ((σ 20)) ((σ 21)) ((σ 22)) ((σ 23)) ((σ 24)) ((σ 25)) hg H.size) (cwV 1 hts (zgVL zw_1537 zw_1538 zw_1539 zw_115 zw_1540) rfl rfl rfl hd_HM_force ⟨Nat.le_of_ble_eq_true rfl, Nat.le_of_ble_eq_true rfl⟩) (xv_preV (T := TX11) (N := 53) hE hA hS hK hP hD (isC := [1, 14, 15]) (by decide +kernel) hC (q0 := 1) (ci := 11) rfl rfl) rfl rfl hl.1 rfl (lv_room (Nat.le_of_ble_eq_true rfl)) dL_law_624 ⟨Nat.le_refl _, Nat.le_refl _⟩) hP hD hS hA (by decide +kernel) rfl hC rfl rfl (fun H locs hP hD hS => ?_)
        refine lv_pop hx hb dL_law_627 rfl ?_
        refine lv_goto (tgt := 1304) hx hb dL_law_628 (by decide) ?_
        exact b_1304 _ ih18 _ _ _ _ _ _ hf hP hD hS (lv_sub hl [0, 1, 2, 3] rfl)
      refine xz_if hf (fun hc hf => ?_) (fun hn17 hf => ?_)
      · refine xi_tin (tgt := 631) hx hb dL_law_33 hc (by decide) (by decide) rfl (by decide) ?_
        refine lv_aload_n hx hb dL_law_631 rfl (lv_at hl 1 rfl) ?_
        refine lv_aload_n hx hb dL_law_632 rfl (lv_at hl 0 rfl) ?_
        refine lv_iload_n hx hb dL_law_633 rfl (lv_at hl 3 rfl) ?_
        refine lv_iconst (v := Int32.ofInt 1) hx hb dL_law_634 rfl ?_
        refine xi_iadd hx hb dL_law_635 hf (fun v257 hf => ?_)
        refine xi_lld hx hb hX hbl hbA hS dL_law_636 hf (fun v258 hf => ?_)
        refine lv_aload_n hx hb dL_law_637 rfl (lv_at hl 0 rfl) ?_
        refine lv_iload_n hx hb dL_law_638 rfl (lv_at hl 3 rfl) ?_
        refine lv_iconst (v := Int32.ofInt 2) hx hb dL_law_639 rfl ?_
        refine xi_iadd hx hb dL_law_640 hf (fun v259 hf => ?_)
        refine xi_lld hx hb hX hbl hbA hS dL_law_641 hf (fun v260 hf => ?_)
        refine lv_aload_n hx hb dL_law_642 rfl (lv_at hl 0 rfl) ?_
        refine lv_iload_n hx hb dL_law_643 rfl (lv_at hl 3 rfl) ?_
        refine lv_iconst (v := Int32.ofInt 3) hx hb dL_law_644 rfl ?_
        refine xi_iadd hx hb dL_law_645 hf (fun v261 hf => ?_)
        refine xi_lld hx hb hX hbl hbA hS dL_law_646 hf (fun v262 hf => ?_)
        refine xe_d6 hf (fun v263 v264 v265 v266 a267 a268 hg hf => ?_)
        have hC : ([0, 2, 8, 45, 46, 47, 50, 52, 53, 60, 61, 80, 81] : List Nat).map (fun i => (wd_LW_law cA qa σ τ)[i]?) = (wd_HS_can cA (qa 0) (qa 1) (qa 2) (qa 3) (qa 4) (qa 5) (qa 6) (qa 7) (qa 8) (qa 9) (qa 10) (qa 11) (qa 12) (qa 45) (qa 46) (qa 47) (qa 48) (qa 49) (qa 50) (qa 51) (qa 52) (qa 53) (qa 60) (qa 61) (qa 80) (qa 81) (σ 0) (σ 1) (σ 2) (σ 3) (σ 27) (σ 30) (σ 26) (σ 28) (σ 29) (σ 49) (τ 34) (τ 35) (τ 38) (τ 40) (τ 41) (τ 63) (τ 64) (σ 34) (σ 35) (σ 36) (τ 46) (τ 47)).map some := rfl
        refine xv_afterI (ws' := (wd_LW_law cA qa (zst σ [(34, v264), (35, v265), (36, v266)]) (zta τ [(46, a267), (47, a268)]))) (isC := [0, 2, 8, 45, 46, 47, 50, 52, 53, 60, 61, 80, 81]) (ps := [some 0, none, some 1, none, none, none, none, none, some 2, none, none, none, none, none, none, none, none, none, none, none, none, none, none, none, none, none, none, none, none, none, none, none, none, none, none, none, none, none, none, none, none, none, none, none, none, some 3, some 4, some 5, none, none, some 6, none, some 7, some 8, none, none, none, none, none, none, some 9, some 10, none, none, none, none, none, none, none, none, none, none, none, none, none, none, none, none, none, none, some 11, some 12, none, none, none, none, none, none, none, none, none, none, none, none, none, none, none, none, none, none, none, none, none, none, none, none, none, none, none, none, none, none, none, none]) (va_runV (As := [.int (Int32.ofInt v258), .int (Int32.ofInt v260), .int (Int32.ofInt v262)]) (rest := []) ⟨hx, hb, hml, hown, hts⟩ (c_HS_can l ev dC dI cA (qa 0) (qa 1) (qa 2) (qa 3) (qa 4) (qa 5) (qa 6) (qa 7) (qa 8) (qa 9) (qa 10) (qa 11) (qa 12) (qa 45) (qa 46) (qa 47) (qa 48) (qa 49) (qa 50) (qa 51) (qa 52) (qa 53) (qa 60) (qa 61) (qa 80) (qa 81) ((σ 0)) ((σ 1)) ((σ 2)) ((σ 3)) ((σ 27)) ((σ 30)) hg H.size) (cwV 3 hts (zgVL zw_795 zw_796 zw_797 zw_104 zw_798) rfl rfl rfl hd_HS_can ⟨Nat.le_of_ble_eq_true rfl, Nat.le_of_ble_eq_true rfl⟩) (xv_preV (T := TX10) (N := 16) hE hA hS hK hP hD (isC := [0, 2, 8, 45, 46, 47, 50, 52, 53, 60, 61, 80, 81]) (by decide +kernel) hC (q0 := 0) (ci := 10) rfl rfl) rfl rfl hl.1 rfl (lv_room (Nat.le_of_ble_eq_true rfl)) dL_law_647 ⟨Nat.le_refl _, Nat.le_refl _⟩) hP hD hS hA (by decide +kernel) rfl hC rfl rfl (fun H locs hP hD hS => ?_)
        refine lv_pop hx hb dL_law_650 rfl ?_
        refine lv_aload_n hx hb dL_law_651 rfl (lv_at hl 2 rfl) ?_
        refine lv_aload_n hx hb dL_law_652 rfl (lv_at hl 0 rfl) ?_
        refine lv_iload_n hx hb dL_law_653 rfl (lv_at hl 3 rfl) ?_
        refine lv_iconst (v := Int32.ofInt 1) hx hb dL_law_654 rfl ?_
        refine xi_iadd hx hb dL_law_655 hf (fun v269 hf => ?_)
        refine xi_lld hx hb hX hbl hbA hS dL_law_656 hf (fun v270 hf => ?_)
        refine lv_aload_n hx hb dL_law_657 rfl (lv_at hl 0 rfl) ?_
        refine lv_iload_n hx hb dL_law_658 rfl (lv_at hl 3 rfl) ?_
        refine lv_iconst (v := Int32.ofInt 2) hx hb dL_law_659 rfl ?_
        refine xi_iadd hx hb dL_law_660 hf (fun v271 hf => ?_)
        refine xi_lld hx hb hX hbl hbA hS dL_law_661 hf (fun v272 hf => ?_)
        refine lv_aload_n hx hb dL_law_662 rfl (lv_at hl 0 rfl) ?_
        refine lv_iload_n hx hb dL_law_663 rfl (lv_at hl 3 rfl) ?_
        refine lv_iconst (v := Int32.ofInt 3) hx hb dL_law_664 rfl ?_
        refine xi_iadd hx hb dL_law_665 hf (fun v273 hf => ?_)
        refine xi_lld hx hb hX hbl hbA hS dL_law_666 hf (fun v274 hf => ?_)
        refine xe_d10 hf (fun v275 v276 v277 v278 v279 v280 a281 a282 a283 a284 hg hf => ?_)
        have hC : ([1, 15, 25, 26, 27, 28] : List Nat).map (fun i => (wd_LW_law cA qa (zst σ [(34, v264), (35, v265), (36, v266)]) (zta τ [(46, a267), (47, a268)]))[i]?) = (wd_HM_can cA (qa 13) (qa 14) (qa 15) (qa 16) (qa 17) (qa 18) (qa 19) (qa 20) (qa 21) (qa 22) (qa 23) (qa 24) (qa 25) (qa 26) (qa 27) (qa 28) (qa 29) (qa 30) (qa 31) (qa 32) (qa 33) (qa 34) (qa 35) (qa 36) (qa 37) (qa 38) (qa 39) (qa 40) (qa 41) (qa 42) (qa 43) (qa 44) (σ 5) (σ 6) (σ 7) (σ 8) (σ 9) (σ 10) (σ 11) (σ 12) (σ 13) (σ 14) (σ 15) (σ 16) (σ 17) (σ 18) (σ 23) (σ 24) (σ 25) (τ 4) (σ 4) (σ 19) (σ 20) (σ 21) (σ 22) (τ 14) (τ 15) (τ 16) (τ 17)).map some := rfl
        refine xv_afterI (ws' := (wd_LW_law cA qa (zst σ [(4, v276), (19, v277), (20, v278), (21, v279), (22, v280), (34, v264), (35, v265), (36, v266)]) (zta τ [(14, a281), (15, a282), (16, a283), (17, a284), (46, a267), (47, a268)]))) (isC := [1, 15, 25, 26, 27, 28]) (ps := [none, some 0, none, none, none, none, none, none, none, none, none, none, none, none, none, some 1, none, none, none, none, none, none, none, none, none, some 2, some 3, some 4, some 5, none, none, none, none, none, none, none, none, none, none, none, none, none, none, none, none, none, none, none, none, none, none, none, none, none, none, none, none, none, none, none, none, none, none, none, none, none, none, none, none, none, none, none, none, none, none, none, none, none, none, none, none, none, none, none, none, none, none, none, none, none, none, none, none, none, none, none, none, none, none, none, none, none, none, none, none, none, none, none, none, none, none, none, none, none]) (va_runV (As := [.int (Int32.ofInt v270), .int (Int32.ofInt v272), .int (Int32.ofInt v274)]) (rest := []) ⟨hx, hb, hml, hown, hts⟩ (c_HM_can l ev dC dI cA (qa 13) (qa 14) (qa 15) (qa 16) (qa 17) (qa 18) (qa 19) (qa 20) (qa 21) (qa 22) (qa 23) (qa 24) (qa 25) (qa 26) (qa 27) (qa 28) (qa 29) (qa 30) (qa 31) (qa 32) (qa 33) (qa 34) (qa 35) (qa 36) (qa 37) (qa 38) (qa 39) (qa 40) (qa 41) (qa 42) (qa 43) (qa 44) ((σ 5)) ((σ 6)) ((σ 7)) ((σ 8)) ((σ 9)) ((σ 10)) ((σ 11)) ((σ 12)) ((σ 13)) ((σ 14)) ((σ 15)) ((σ 16)) ((σ 17)) ((σ 18)) ((σ 23)) ((σ 24)) ((σ 25)) hg H.size) (cwV 3 hts (zgVL zw_1541 zw_1542 zw_1543 zw_115 zw_1544) rfl rfl rfl hd_HM_can ⟨Nat.le_of_ble_eq_true rfl, Nat.le_of_ble_eq_true rfl⟩) (xv_preV (T := TX11) (N := 53) hE hA hS hK hP hD (isC := [1, 15, 25, 26, 27, 28]) (by decide +kernel) hC (q0 := 1) (ci := 11) rfl rfl) rfl rfl hl.1 rfl (lv_room (Nat.le_of_ble_eq_true rfl)) dL_law_667 ⟨Nat.le_refl _, Nat.le_refl _⟩) hP hD hS hA (by decide +kernel) rfl hC rfl rfl (fun H locs hP hD hS => ?_)
        refine lv_pop hx hb dL_law_670 rfl ?_
        refine lv_goto (tgt := 1304) hx hb dL_law_671 (by decide) ?_
        exact b_1304 _ ih18 _ _ _ _ _ _ hf hP hD hS (lv_sub hl [0, 1, 2, 3] rfl)
      refine xz_if hf (fun hc hf => ?_) (fun hn18 hf => ?_)
      · refine xi_tin (tgt := 674) hx hb dL_law_33 hc (by decide) (by decide) rfl (by decide) ?_
        refine lv_aload_n hx hb dL_law_674 rfl (lv_at hl 1 rfl) ?_
        refine lv_aload_n hx hb dL_law_675 rfl (lv_at hl 0 rfl) ?_
        refine lv_iload_n hx hb dL_law_676 rfl (lv_at hl 3 rfl) ?_
        refine lv_iconst (v := Int32.ofInt 1) hx hb dL_law_677 rfl ?_
        refine xi_iadd hx hb dL_law_678 hf (fun v285 hf => ?_)
        refine xi_lld hx hb hX hbl hbA hS dL_law_679 hf (fun v286 hf => ?_)
        refine lv_aload_n hx hb dL_law_680 rfl (lv_at hl 0 rfl) ?_
        refine lv_iload_n hx hb dL_law_681 rfl (lv_at hl 3 rfl) ?_
        refine lv_iconst (v := Int32.ofInt 2) hx hb dL_law_682 rfl ?_
        refine xi_iadd hx hb dL_law_683 hf (fun v287 hf => ?_)
        refine xi_lld hx hb hX hbl hbA hS dL_law_684 hf (fun v288 hf => ?_)
        refine lv_aload_n hx hb dL_law_685 rfl (lv_at hl 0 rfl) ?_
        refine lv_iload_n hx hb dL_law_686 rfl (lv_at hl 3 rfl) ?_
        refine lv_iconst (v := Int32.ofInt 3) hx hb dL_law_687 rfl ?_
        refine xi_iadd hx hb dL_law_688 hf (fun v289 hf => ?_)
        refine xi_lld hx hb hX hbl hbA hS dL_law_689 hf (fun v290 hf => ?_)
        refine xe_d6 hf (fun v291 v292 v293 v294 a295 a296 hg hf => ?_)
        have hC : ([0, 2, 8, 45, 46, 47, 50, 52, 53, 60, 61, 80, 81] : List Nat).map (fun i => (wd_LW_law cA qa σ τ)[i]?) = (wd_HS_tires cA (qa 0) (qa 1) (qa 2) (qa 3) (qa 4) (qa 5) (qa 6) (qa 7) (qa 8) (qa 9) (qa 10) (qa 11) (qa 12) (qa 45) (qa 46) (qa 47) (qa 48) (qa 49) (qa 50) (qa 51) (qa 52) (qa 53) (qa 60) (qa 61) (qa 80) (qa 81) (σ 0) (σ 1) (σ 2) (σ 3) (σ 27) (σ 30) (σ 26) (σ 28) (σ 29) (σ 49) (τ 34) (τ 35) (τ 38) (τ 40) (τ 41) (τ 63) (τ 64) (σ 34) (σ 35) (σ 36) (τ 46) (τ 47)).map some := rfl
        refine xv_afterI (ws' := (wd_LW_law cA qa (zst σ [(34, v292), (35, v293), (36, v294)]) (zta τ [(46, a295), (47, a296)]))) (isC := [0, 2, 8, 45, 46, 47, 50, 52, 53, 60, 61, 80, 81]) (ps := [some 0, none, some 1, none, none, none, none, none, some 2, none, none, none, none, none, none, none, none, none, none, none, none, none, none, none, none, none, none, none, none, none, none, none, none, none, none, none, none, none, none, none, none, none, none, none, none, some 3, some 4, some 5, none, none, some 6, none, some 7, some 8, none, none, none, none, none, none, some 9, some 10, none, none, none, none, none, none, none, none, none, none, none, none, none, none, none, none, none, none, some 11, some 12, none, none, none, none, none, none, none, none, none, none, none, none, none, none, none, none, none, none, none, none, none, none, none, none, none, none, none, none, none, none, none, none]) (va_runV (As := [.int (Int32.ofInt v286), .int (Int32.ofInt v288), .int (Int32.ofInt v290)]) (rest := []) ⟨hx, hb, hml, hown, hts⟩ (c_HS_tires l ev dC dI cA (qa 0) (qa 1) (qa 2) (qa 3) (qa 4) (qa 5) (qa 6) (qa 7) (qa 8) (qa 9) (qa 10) (qa 11) (qa 12) (qa 45) (qa 46) (qa 47) (qa 48) (qa 49) (qa 50) (qa 51) (qa 52) (qa 53) (qa 60) (qa 61) (qa 80) (qa 81) ((σ 0)) ((σ 1)) ((σ 2)) ((σ 3)) ((σ 27)) ((σ 30)) hg H.size) (cwV 3 hts (zgVL zw_841 zw_842 zw_843 zw_104 zw_844) rfl rfl rfl hd_HS_tires ⟨Nat.le_of_ble_eq_true rfl, Nat.le_of_ble_eq_true rfl⟩) (xv_preV (T := TX10) (N := 16) hE hA hS hK hP hD (isC := [0, 2, 8, 45, 46, 47, 50, 52, 53, 60, 61, 80, 81]) (by decide +kernel) hC (q0 := 0) (ci := 10) rfl rfl) rfl rfl hl.1 rfl (lv_room (Nat.le_of_ble_eq_true rfl)) dL_law_690 ⟨Nat.le_refl _, Nat.le_refl _⟩) hP hD hS hA (by decide +kernel) rfl hC rfl rfl (fun H locs hP hD hS => ?_)
        refine lv_pop hx hb dL_law_693 rfl ?_
        refine lv_aload_n hx hb dL_law_694 rfl (lv_at hl 2 rfl) ?_
        refine lv_aload_n hx hb dL_law_695 rfl (lv_at hl 0 rfl) ?_
        refine lv_iload_n hx hb dL_law_696 rfl (lv_at hl 3 rfl) ?_
        refine lv_iconst (v := Int32.ofInt 1) hx hb dL_law_697 rfl ?_
        refine xi_iadd hx hb dL_law_698 hf (fun v297 hf => ?_)
        refine xi_lld hx hb hX hbl hbA hS dL_law_699 hf (fun v298 hf => ?_)
        refine lv_aload_n hx hb dL_law_700 rfl (lv_at hl 0 rfl) ?_
        refine lv_iload_n hx hb dL_law_701 rfl (lv_at hl 3 rfl) ?_
        refine lv_iconst (v := Int32.ofInt 2) hx hb dL_law_702 rfl ?_
        refine xi_iadd hx hb dL_law_703 hf (fun v299 hf => ?_)
        refine xi_lld hx hb hX hbl hbA hS dL_law_704 hf (fun v300 hf => ?_)
        refine lv_aload_n hx hb dL_law_705 rfl (lv_at hl 0 rfl) ?_
        refine lv_iload_n hx hb dL_law_706 rfl (lv_at hl 3 rfl) ?_
        refine lv_iconst (v := Int32.ofInt 3) hx hb dL_law_707 rfl ?_
        refine xi_iadd hx hb dL_law_708 hf (fun v301 hf => ?_)
        refine xi_lld hx hb hX hbl hbA hS dL_law_709 hf (fun v302 hf => ?_)
        refine xe_d10 hf (fun v303 v304 v305 v306 v307 v308 a309 a310 a311 a312 hg hf => ?_)
        have hC : ([1, 15, 25, 26, 27, 28] : List Nat).map (fun i => (wd_LW_law cA qa (zst σ [(34, v292), (35, v293), (36, v294)]) (zta τ [(46, a295), (47, a296)]))[i]?) = (wd_HM_tires cA (qa 13) (qa 14) (qa 15) (qa 16) (qa 17) (qa 18) (qa 19) (qa 20) (qa 21) (qa 22) (qa 23) (qa 24) (qa 25) (qa 26) (qa 27) (qa 28) (qa 29) (qa 30) (qa 31) (qa 32) (qa 33) (qa 34) (qa 35) (qa 36) (qa 37) (qa 38) (qa 39) (qa 40) (qa 41) (qa 42) (qa 43) (qa 44) (σ 5) (σ 6) (σ 7) (σ 8) (σ 9) (σ 10) (σ 11) (σ 12) (σ 13) (σ 14) (σ 15) (σ 16) (σ 17) (σ 18) (σ 23) (σ 24) (σ 25) (τ 4) (σ 4) (σ 19) (σ 20) (σ 21) (σ 22) (τ 14) (τ 15) (τ 16) (τ 17)).map some := rfl
        refine xv_afterI (ws' := (wd_LW_law cA qa (zst σ [(4, v304), (19, v305), (20, v306), (21, v307), (22, v308), (34, v292), (35, v293), (36, v294)]) (zta τ [(14, a309), (15, a310), (16, a311), (17, a312), (46, a295), (47, a296)]))) (isC := [1, 15, 25, 26, 27, 28]) (ps := [none, some 0, none, none, none, none, none, none, none, none, none, none, none, none, none, some 1, none, none, none, none, none, none, none, none, none, some 2, some 3, some 4, some 5, none, none, none, none, none, none, none, none, none, none, none, none, none, none, none, none, none, none, none, none, none, none, none, none, none, none, none, none, none, none, none, none, none, none, none, none, none, none, none, none, none, none, none, none, none, none, none, none, none, none, none, none, none, none, none, none, none, none, none, none, none, none, none, none, none, none, none, none, none, none, none, none, none, none, none, none, none, none, none, none, none, none, none, none, none]) (va_runV (As := [.int (Int32.ofInt v298), .int (Int32.ofInt v300), .int (Int32.ofInt v302)]) (rest := []) ⟨hx, hb, hml, hown, hts⟩ (c_HM_tires l ev dC dI cA (qa 13) (qa 14) (qa 15) (qa 16) (qa 17) (qa 18) (qa 19) (qa 20) (qa 21) (qa 22) (qa 23) (qa 24) (qa 25) (qa 26) (qa 27) (qa 28) (qa 29) (qa 30) (qa 31) (qa 32) (qa 33) (qa 34) (qa 35) (qa 36) (qa 37) (qa 38) (qa 39) (qa 40) (qa 41) (qa 42) (qa 43) (qa 44) ((σ 5)) ((σ 6)) ((σ 7)) ((σ 8)) ((σ 9)) ((σ 10)) ((σ 11)) ((σ 12)) ((σ 13)) ((σ 14)) ((σ 15)) ((σ 16)) ((σ 17)) ((σ 18)) ((σ 23)) ((σ 24)) ((σ 25)) hg H.size) (cwV 3 hts (zgVL zw_1582 zw_1583 zw_1584 zw_115 zw_1585) rfl rfl rfl hd_HM_tires ⟨Nat.le_of_ble_eq_true rfl, Nat.le_of_ble_eq_true rfl⟩) (xv_preV (T := TX11) (N := 53) hE hA hS hK hP hD (isC := [1, 15, 25, 26, 27, 28]) (by decide +kernel) hC (q0 := 1) (ci := 11) rfl rfl) rfl rfl hl.1 rfl (lv_room (Nat.le_of_ble_eq_true rfl)) dL_law_710 ⟨Nat.le_refl _, Nat.le_refl _⟩) hP hD hS hA (by decide +kernel) rfl hC rfl rfl (fun H locs hP hD hS => ?_)
        refine lv_pop hx hb dL_law_713 rfl ?_
        refine lv_goto (tgt := 1304) hx hb dL_law_714 (by decide) ?_
        exact b_1304 _ ih18 _ _ _ _ _ _ hf hP hD hS (lv_sub hl [0, 1, 2, 3] rfl)
      refine xz_if hf (fun hc hf => ?_) (fun hn19 hf => ?_)
      · refine xi_tin (tgt := 717) hx hb dL_law_33 hc (by decide) (by decide) rfl (by decide) ?_
        refine lv_aload_n hx hb dL_law_717 rfl (lv_at hl 1 rfl) ?_
        refine lv_aload_n hx hb dL_law_718 rfl (lv_at hl 0 rfl) ?_
        refine lv_iload_n hx hb dL_law_719 rfl (lv_at hl 3 rfl) ?_
        refine lv_iconst (v := Int32.ofInt 1) hx hb dL_law_720 rfl ?_
        refine xi_iadd hx hb dL_law_721 hf (fun v313 hf => ?_)
        refine xi_lld hx hb hX hbl hbA hS dL_law_722 hf (fun v314 hf => ?_)
        refine lv_aload_n hx hb dL_law_723 rfl (lv_at hl 0 rfl) ?_
        refine lv_iload_n hx hb dL_law_724 rfl (lv_at hl 3 rfl) ?_
        refine lv_iconst (v := Int32.ofInt 2) hx hb dL_law_725 rfl ?_
        refine xi_iadd hx hb dL_law_726 hf (fun v315 hf => ?_)
        refine xi_lld hx hb hX hbl hbA hS dL_law_727 hf (fun v316 hf => ?_)
        refine lv_aload_n hx hb dL_law_728 rfl (lv_at hl 0 rfl) ?_
        refine lv_iload_n hx hb dL_law_729 rfl (lv_at hl 3 rfl) ?_
        refine lv_iconst (v := Int32.ofInt 3) hx hb dL_law_730 rfl ?_
        refine xi_iadd hx hb dL_law_731 hf (fun v317 hf => ?_)
        refine xi_lld hx hb hX hbl hbA hS dL_law_732 hf (fun v318 hf => ?_)
        refine xe_d11 hf (fun v319 v320 v321 a322 v323 v324 v325 a326 a327 a328 a329 hg hf => ?_)
        have hC : ([0, 2, 6, 8, 45, 46, 47, 50, 52, 53, 60, 61, 80, 81] : List Nat).map (fun i => (wd_LW_law cA qa σ τ)[i]?) = (wd_HS_carry cA (qa 0) (qa 1) (qa 2) (qa 3) (qa 4) (qa 5) (qa 6) (qa 7) (qa 8) (qa 9) (qa 10) (qa 11) (qa 12) (qa 45) (qa 46) (qa 47) (qa 48) (qa 49) (qa 50) (qa 51) (qa 52) (qa 53) (qa 60) (qa 61) (qa 80) (qa 81) (σ 0) (σ 1) (σ 2) (σ 27) (σ 26) (σ 28) (σ 29) (σ 49) (τ 34) (τ 35) (τ 38) (τ 40) (τ 41) (σ 3) (σ 30) (τ 2) (σ 34) (σ 35) (σ 36) (τ 46) (τ 47) (τ 63) (τ 64)).map some := rfl
        refine xv_afterI (ws' := (wd_LW_law cA qa (zst σ [(3, v320), (30, v321), (34, v323), (35, v324), (36, v325)]) (zta τ [(2, a322), (46, a326), (47, a327), (63, a328), (64, a329)]))) (isC := [0, 2, 6, 8, 45, 46, 47, 50, 52, 53, 60, 61, 80, 81]) (ps := [some 0, none, some 1, none, none, none, some 2, none, some 3, none, none, none, none, none, none, none, none, none, none, none, none, none, none, none, none, none, none, none, none, none, none, none, none, none, none, none, none, none, none, none, none, none, none, none, none, some 4, some 5, some 6, none, none, some 7, none, some 8, some 9, none, none, none, none, none, none, some 10, some 11, none, none, none, none, none, none, none, none, none, none, none, none, none, none, none, none, none, none, some 12, some 13, none, none, none, none, none, none, none, none, none, none, none, none, none, none, none, none, none, none, none, none, none, none, none, none, none, none, none, none, none, none, none, none]) (va_runV (As := [.int (Int32.ofInt v314), .int (Int32.ofInt v316), .int (Int32.ofInt v318)]) (rest := []) ⟨hx, hb, hml, hown, hts⟩ (c_HS_carry l ev dC dI cA (qa 0) (qa 1) (qa 2) (qa 3) (qa 4) (qa 5) (qa 6) (qa 7) (qa 8) (qa 9) (qa 10) (qa 11) (qa 12) (qa 45) (qa 46) (qa 47) (qa 48) (qa 49) (qa 50) (qa 51) (qa 52) (qa 53) (qa 60) (qa 61) (qa 80) (qa 81) ((σ 0)) ((σ 1)) ((σ 2)) ((σ 27)) hg H.size) (cwV 3 hts (zgVL zw_845 zw_846 zw_847 zw_104 zw_848) rfl rfl rfl hd_HS_carry ⟨Nat.le_of_ble_eq_true rfl, Nat.le_of_ble_eq_true rfl⟩) (xv_preV (T := TX10) (N := 16) hE hA hS hK hP hD (isC := [0, 2, 6, 8, 45, 46, 47, 50, 52, 53, 60, 61, 80, 81]) (by decide +kernel) hC (q0 := 0) (ci := 10) rfl rfl) rfl rfl hl.1 rfl (lv_room (Nat.le_of_ble_eq_true rfl)) dL_law_733 ⟨Nat.le_refl _, Nat.le_refl _⟩) hP hD hS hA (by decide +kernel) rfl hC rfl rfl (fun H locs hP hD hS => ?_)
        refine lv_pop hx hb dL_law_736 rfl ?_
        refine lv_aload_n hx hb dL_law_737 rfl (lv_at hl 2 rfl) ?_
        refine lv_aload_n hx hb dL_law_738 rfl (lv_at hl 0 rfl) ?_
        refine lv_iload_n hx hb dL_law_739 rfl (lv_at hl 3 rfl) ?_
        refine lv_iconst (v := Int32.ofInt 1) hx hb dL_law_740 rfl ?_
        refine xi_iadd hx hb dL_law_741 hf (fun v330 hf => ?_)
        refine xi_lld hx hb hX hbl hbA hS dL_law_742 hf (fun v331 hf => ?_)
        refine lv_aload_n hx hb dL_law_743 rfl (lv_at hl 0 rfl) ?_
        refine lv_iload_n hx hb dL_law_744 rfl (lv_at hl 3 rfl) ?_
        refine lv_iconst (v := Int32.ofInt 2) hx hb dL_law_745 rfl ?_
        refine xi_iadd hx hb dL_law_746 hf (fun v332 hf => ?_)
        refine xi_lld hx hb hX hbl hbA hS dL_law_747 hf (fun v333 hf => ?_)
        refine lv_aload_n hx hb dL_law_748 rfl (lv_at hl 0 rfl) ?_
        refine lv_iload_n hx hb dL_law_749 rfl (lv_at hl 3 rfl) ?_
        refine lv_iconst (v := Int32.ofInt 3) hx hb dL_law_750 rfl ?_
        refine xi_iadd hx hb dL_law_751 hf (fun v334 hf => ?_)
        refine xi_lld hx hb hX hbl hbA hS dL_law_752 hf (fun v335 hf => ?_)
        refine xe_d13 hf (fun v336 v337 v338 v339 v340 v341 v342 a343 a344 a345 a346 a347 a348 hg hf => ?_)
        have hC : ([1, 14, 15, 25, 26, 27, 28] : List Nat).map (fun i => (wd_LW_law cA qa (zst σ [(3, v320), (30, v321), (34, v323), (35, v324), (36, v325)]) (zta τ [(2, a322), (46, a326), (47, a327), (63, a328), (64, a329)]))[i]?) = (wd_HM_carry cA (qa 13) (qa 14) (qa 15) (qa 16) (qa 17) (qa 18) (qa 19) (qa 20) (qa 21) (qa 22) (qa 23) (qa 24) (qa 25) (qa 26) (qa 27) (qa 28) (qa 29) (qa 30) (qa 31) (qa 32) (qa 33) (qa 34) (qa 35) (qa 36) (qa 37) (qa 38) (qa 39) (qa 40) (qa 41) (qa 42) (qa 43) (qa 44) (σ 6) (σ 7) (σ 8) (σ 9) (σ 10) (σ 11) (σ 12) (σ 13) (σ 14) (σ 15) (σ 16) (σ 17) (σ 18) (σ 23) (σ 24) (σ 25) (σ 4) (σ 5) (σ 19) (σ 20) (σ 21) (σ 22) (τ 3) (τ 4) (τ 14) (τ 15) (τ 16) (τ 17)).map some := rfl
        refine xv_afterI (ws' := (wd_LW_law cA qa (zst σ [(3, v320), (4, v337), (5, v338), (19, v339), (20, v340), (21, v341), (22, v342), (30, v321), (34, v323), (35, v324), (36, v325)]) (zta τ [(2, a322), (3, a343), (4, a344), (14, a345), (15, a346), (16, a347), (17, a348), (46, a326), (47, a327), (63, a328), (64, a329)]))) (isC := [1, 14, 15, 25, 26, 27, 28]) (ps := [none, some 0, none, none, none, none, none, none, none, none, none, none, none, none, some 1, some 2, none, none, none, none, none, none, none, none, none, some 3, some 4, some 5, some 6, none, none, none, none, none, none, none, none, none, none, none, none, none, none, none, none, none, none, none, none, none, none, none, none, none, none, none, none, none, none, none, none, none, none, none, none, none, none, none, none, none, none, none, none, none, none, none, none, none, none, none, none, none, none, none, none, none, none, none, none, none, none, none, none, none, none, none, none, none, none, none, none, none, none, none, none, none, none, none, none, none, none, none, none, none]) (va_runV (As := [.int (Int32.ofInt v331), .int (Int32.ofInt v333), .int (Int32.ofInt v335)]) (rest := []) ⟨hx, hb, hml, hown, hts⟩ (c_HM_carry l ev dC dI cA (qa 13) (qa 14) (qa 15) (qa 16) (qa 17) (qa 18) (qa 19) (qa 20) (qa 21) (qa 22) (qa 23) (qa 24) (qa 25) (qa 26) (qa 27) (qa 28) (qa 29) (qa 30) (qa 31) (qa 32) (qa 33) (qa 34) (qa 35) (qa 36) (qa 37) (qa 38) (qa 39) (qa 40) (qa 41) (qa 42) (qa 43) (qa 44) ((σ 6)) ((σ 7)) ((σ 8)) ((σ 9)) ((σ 10)) ((σ 11)) ((σ 12)) ((σ 13)) ((σ 14)) ((σ 15)) ((σ 16)) ((σ 17)) ((σ 18)) ((σ 23)) ((σ 24)) ((σ 25)) hg H.size) (cwV 3 hts (zgVL zw_1586 zw_1587 zw_1588 zw_115 zw_1589) rfl rfl rfl hd_HM_carry ⟨Nat.le_of_ble_eq_true rfl, Nat.le_of_ble_eq_true rfl⟩) (xv_preV (T := TX11) (N := 53) hE hA hS hK hP hD (isC := [1, 14, 15, 25, 26, 27, 28]) (by decide +kernel) hC (q0 := 1) (ci := 11) rfl rfl) rfl rfl hl.1 rfl (lv_room (Nat.le_of_ble_eq_true rfl)) dL_law_753 ⟨Nat.le_refl _, Nat.le_refl _⟩) hP hD hS hA (by decide +kernel) rfl hC rfl rfl (fun H locs hP hD hS => ?_)
        refine lv_pop hx hb dL_law_756 rfl ?_
        refine lv_goto (tgt := 1304) hx hb dL_law_757 (by decide) ?_
        exact b_1304 _ ih18 _ _ _ _ _ _ hf hP hD hS (lv_sub hl [0, 1, 2, 3] rfl)
      refine xz_if hf (fun hc hf => ?_) (fun hn20 hf => ?_)
      · refine xi_tin (tgt := 760) hx hb dL_law_33 hc (by decide) (by decide) rfl (by decide) ?_
        refine lv_aload_n hx hb dL_law_760 rfl (lv_at hl 1 rfl) ?_
        refine lv_aload_n hx hb dL_law_761 rfl (lv_at hl 0 rfl) ?_
        refine lv_iload_n hx hb dL_law_762 rfl (lv_at hl 3 rfl) ?_
        refine lv_iconst (v := Int32.ofInt 1) hx hb dL_law_763 rfl ?_
        refine xi_iadd hx hb dL_law_764 hf (fun v349 hf => ?_)
        refine xi_lld hx hb hX hbl hbA hS dL_law_765 hf (fun v350 hf => ?_)
        refine lv_aload_n hx hb dL_law_766 rfl (lv_at hl 0 rfl) ?_
        refine lv_iload_n hx hb dL_law_767 rfl (lv_at hl 3 rfl) ?_
        refine lv_iconst (v := Int32.ofInt 2) hx hb dL_law_768 rfl ?_
        refine xi_iadd hx hb dL_law_769 hf (fun v351 hf => ?_)
        refine xi_lld hx hb hX hbl hbA hS dL_law_770 hf (fun v352 hf => ?_)
        refine lv_aload_n hx hb dL_law_771 rfl (lv_at hl 0 rfl) ?_
        refine lv_iload_n hx hb dL_law_772 rfl (lv_at hl 3 rfl) ?_
        refine lv_iconst (v := Int32.ofInt 3) hx hb dL_law_773 rfl ?_
        refine xi_iadd hx hb dL_law_774 hf (fun v353 hf => ?_)
        refine xi_lld hx hb hX hbl hbA hS dL_law_775 hf (fun v354 hf => ?_)
        refine lv_aload_n hx hb dL_law_776 rfl (lv_at hl 0 rfl) ?_
        refine lv_iload_n hx hb dL_law_777 rfl (lv_at hl 3 rfl) ?_
        refine lv_iconst (v := Int32.ofInt 4) hx hb dL_law_778 rfl ?_
        refine xi_iadd hx hb dL_law_779 hf (fun v355 hf => ?_)
        refine xi_lld hx hb hX hbl hbA hS dL_law_780 hf (fun v356 hf => ?_)
        refine xe_d11 hf (fun v357 v358 v359 a360 v361 v362 v363 a364 a365 a366 a367 hg hf => ?_)
        have hC : ([0, 2, 6, 8, 45, 46, 47, 50, 52, 53, 60, 61, 80, 81] : List Nat).map (fun i => (wd_LW_law cA qa σ τ)[i]?) = (wd_HS_exchange cA (qa 0) (qa 1) (qa 2) (qa 3) (qa 4) (qa 5) (qa 6) (qa 7) (qa 8) (qa 9) (qa 10) (qa 11) (qa 12) (qa 45) (qa 46) (qa 47) (qa 48) (qa 49) (qa 50) (qa 51) (qa 52) (qa 53) (qa 60) (qa 61) (qa 80) (qa 81) (σ 0) (σ 1) (σ 2) (σ 27) (σ 26) (σ 28) (σ 29) (σ 49) (τ 34) (τ 35) (τ 38) (τ 40) (τ 41) (σ 3) (σ 30) (τ 2) (σ 34) (σ 35) (σ 36) (τ 46) (τ 47) (τ 63) (τ 64)).map some := rfl
        refine xv_afterI (ws' := (wd_LW_law cA qa (zst σ [(3, v358), (30, v359), (34, v361), (35, v362), (36, v363)]) (zta τ [(2, a360), (46, a364), (47, a365), (63, a366), (64, a367)]))) (isC := [0, 2, 6, 8, 45, 46, 47, 50, 52, 53, 60, 61, 80, 81]) (ps := [some 0, none, some 1, none, none, none, some 2, none, some 3, none, none, none, none, none, none, none, none, none, none, none, none, none, none, none, none, none, none, none, none, none, none, none, none, none, none, none, none, none, none, none, none, none, none, none, none, some 4, some 5, some 6, none, none, some 7, none, some 8, some 9, none, none, none, none, none, none, some 10, some 11, none, none, none, none, none, none, none, none, none, none, none, none, none, none, none, none, none, none, some 12, some 13, none, none, none, none, none, none, none, none, none, none, none, none, none, none, none, none, none, none, none, none, none, none, none, none, none, none, none, none, none, none, none, none]) (va_runV (As := [.int (Int32.ofInt v350), .int (Int32.ofInt v352), .int (Int32.ofInt v354), .int (Int32.ofInt v356)]) (rest := []) ⟨hx, hb, hml, hown, hts⟩ (c_HS_exchange l ev dC dI cA (qa 0) (qa 1) (qa 2) (qa 3) (qa 4) (qa 5) (qa 6) (qa 7) (qa 8) (qa 9) (qa 10) (qa 11) (qa 12) (qa 45) (qa 46) (qa 47) (qa 48) (qa 49) (qa 50) (qa 51) (qa 52) (qa 53) (qa 60) (qa 61) (qa 80) (qa 81) ((σ 0)) ((σ 1)) ((σ 2)) ((σ 27)) hg H.size) (cwV 4 hts (zgVL zw_855 zw_856 zw_857 zw_104 zw_858) rfl rfl rfl hd_HS_exchange ⟨Nat.le_of_ble_eq_true rfl, Nat.le_of_ble_eq_true rfl⟩) (xv_preV (T := TX10) (N := 16) hE hA hS hK hP hD (isC := [0, 2, 6, 8, 45, 46, 47, 50, 52, 53, 60, 61, 80, 81]) (by decide +kernel) hC (q0 := 0) (ci := 10) rfl rfl) rfl rfl hl.1 rfl (lv_room (Nat.le_of_ble_eq_true rfl)) dL_law_781 ⟨Nat.le_refl _, Nat.le_refl _⟩) hP hD hS hA (by decide +kernel) rfl hC rfl rfl (fun H locs hP hD hS => ?_)
        refine lv_pop hx hb dL_law_784 rfl ?_
        refine lv_aload_n hx hb dL_law_785 rfl (lv_at hl 2 rfl) ?_
        refine lv_aload_n hx hb dL_law_786 rfl (lv_at hl 0 rfl) ?_
        refine lv_iload_n hx hb dL_law_787 rfl (lv_at hl 3 rfl) ?_
        refine lv_iconst (v := Int32.ofInt 1) hx hb dL_law_788 rfl ?_
        refine xi_iadd hx hb dL_law_789 hf (fun v368 hf => ?_)
        refine xi_lld hx hb hX hbl hbA hS dL_law_790 hf (fun v369 hf => ?_)
        refine lv_aload_n hx hb dL_law_791 rfl (lv_at hl 0 rfl) ?_
        refine lv_iload_n hx hb dL_law_792 rfl (lv_at hl 3 rfl) ?_
        refine lv_iconst (v := Int32.ofInt 2) hx hb dL_law_793 rfl ?_
        refine xi_iadd hx hb dL_law_794 hf (fun v370 hf => ?_)
        refine xi_lld hx hb hX hbl hbA hS dL_law_795 hf (fun v371 hf => ?_)
        refine lv_aload_n hx hb dL_law_796 rfl (lv_at hl 0 rfl) ?_
        refine lv_iload_n hx hb dL_law_797 rfl (lv_at hl 3 rfl) ?_
        refine lv_iconst (v := Int32.ofInt 3) hx hb dL_law_798 rfl ?_
        refine xi_iadd hx hb dL_law_799 hf (fun v372 hf => ?_)
        refine xi_lld hx hb hX hbl hbA hS dL_law_800 hf (fun v373 hf => ?_)
        refine lv_aload_n hx hb dL_law_801 rfl (lv_at hl 0 rfl) ?_
        refine lv_iload_n hx hb dL_law_802 rfl (lv_at hl 3 rfl) ?_
        refine lv_iconst (v := Int32.ofInt 4) hx hb dL_law_803 rfl ?_
        refine xi_iadd hx hb dL_law_804 hf (fun v374 hf => ?_)
        refine xi_lld hx hb hX hbl hbA hS dL_law_805 hf (fun v375 hf => ?_)
        refine xe_d13 hf (fun v376 v377 v378 v379 v380 v381 v382 a383 a384 a385 a386 a387 a388 hg hf => ?_)
        have hC : ([1, 14, 15, 25, 26, 27, 28] : List Nat).map (fun i => (wd_LW_law cA qa (zst σ [(3, v358), (30, v359), (34, v361), (35, v362), (36, v363)]) (zta τ [(2, a360), (46, a364), (47, a365), (63, a366), (64, a367)]))[i]?) = (wd_HM_exchange cA (qa 13) (qa 14) (qa 15) (qa 16) (qa 17) (qa 18) (qa 19) (qa 20) (qa 21) (qa 22) (qa 23) (qa 24) (qa 25) (qa 26) (qa 27) (qa 28) (qa 29) (qa 30) (qa 31) (qa 32) (qa 33) (qa 34) (qa 35) (qa 36) (qa 37) (qa 38) (qa 39) (qa 40) (qa 41) (qa 42) (qa 43) (qa 44) (σ 6) (σ 7) (σ 8) (σ 9) (σ 10) (σ 11) (σ 12) (σ 13) (σ 14) (σ 15) (σ 16) (σ 17) (σ 18) (σ 23) (σ 24) (σ 25) (σ 4) (σ 5) (σ 19) (σ 20) (σ 21) (σ 22) (τ 3) (τ 4) (τ 14) (τ 15) (τ 16) (τ 17)).map some := rfl
        refine xv_afterI (ws' := (wd_LW_law cA qa (zst σ [(3, v358), (4, v377), (5, v378), (19, v379), (20, v380), (21, v381), (22, v382), (30, v359), (34, v361), (35, v362), (36, v363)]) (zta τ [(2, a360), (3, a383), (4, a384), (14, a385), (15, a386), (16, a387), (17, a388), (46, a364), (47, a365), (63, a366), (64, a367)]))) (isC := [1, 14, 15, 25, 26, 27, 28]) (ps := [none, some 0, none, none, none, none, none, none, none, none, none, none, none, none, some 1, some 2, none, none, none, none, none, none, none, none, none, some 3, some 4, some 5, some 6, none, none, none, none, none, none, none, none, none, none, none, none, none, none, none, none, none, none, none, none, none, none, none, none, none, none, none, none, none, none, none, none, none, none, none, none, none, none, none, none, none, none, none, none, none, none, none, none, none, none, none, none, none, none, none, none, none, none, none, none, none, none, none, none, none, none, none, none, none, none, none, none, none, none, none, none, none, none, none, none, none, none, none, none, none]) (va_runV (As := [.int (Int32.ofInt v369), .int (Int32.ofInt v371), .int (Int32.ofInt v373), .int (Int32.ofInt v375)]) (rest := []) ⟨hx, hb, hml, hown, hts⟩ (c_HM_exchange l ev dC dI cA (qa 13) (qa 14) (qa 15) (qa 16) (qa 17) (qa 18) (qa 19) (qa 20) (qa 21) (qa 22) (qa 23) (qa 24) (qa 25) (qa 26) (qa 27) (qa 28) (qa 29) (qa 30) (qa 31) (qa 32) (qa 33) (qa 34) (qa 35) (qa 36) (qa 37) (qa 38) (qa 39) (qa 40) (qa 41) (qa 42) (qa 43) (qa 44) ((σ 6)) ((σ 7)) ((σ 8)) ((σ 9)) ((σ 10)) ((σ 11)) ((σ 12)) ((σ 13)) ((σ 14)) ((σ 15)) ((σ 16)) ((σ 17)) ((σ 18)) ((σ 23)) ((σ 24)) ((σ 25)) hg H.size) (cwV 4 hts (zgVL zw_1598 zw_1599 zw_1600 zw_115 zw_1601) rfl rfl rfl hd_HM_exchange ⟨Nat.le_of_ble_eq_true rfl, Nat.le_of_ble_eq_true rfl⟩) (xv_preV (T := TX11) (N := 53) hE hA hS hK hP hD (isC := [1, 14, 15, 25, 26, 27, 28]) (by decide +kernel) hC (q0 := 1) (ci := 11) rfl rfl) rfl rfl hl.1 rfl (lv_room (Nat.le_of_ble_eq_true rfl)) dL_law_806 ⟨Nat.le_refl _, Nat.le_refl _⟩) hP hD hS hA (by decide +kernel) rfl hC rfl rfl (fun H locs hP hD hS => ?_)
        refine lv_pop hx hb dL_law_809 rfl ?_
        refine lv_goto (tgt := 1304) hx hb dL_law_810 (by decide) ?_
        exact b_1304 _ ih18 _ _ _ _ _ _ hf hP hD hS (lv_sub hl [0, 1, 2, 3] rfl)
      refine xz_if hf (fun hc hf => ?_) (fun hn21 hf => ?_)
      · refine xi_tin (tgt := 813) hx hb dL_law_33 hc (by decide) (by decide) rfl (by decide) ?_
        refine lv_aload_n hx hb dL_law_813 rfl (lv_at hl 1 rfl) ?_
        refine xe_d1 hf (fun v389 hg hf => ?_)
        have hC : ([0, 2, 45, 50, 80] : List Nat).map (fun i => (wd_LW_law cA qa σ τ)[i]?) = (wd_HS_steep cA (qa 0) (qa 1) (qa 2) (qa 3) (qa 4) (qa 5) (qa 6) (qa 7) (qa 8) (qa 9) (qa 10) (qa 11) (qa 12) (qa 45) (qa 46) (qa 47) (qa 48) (qa 49) (qa 50) (qa 51) (qa 52) (qa 53) (qa 80) (qa 81) (σ 0) (σ 1) (σ 2) (σ 3) (σ 26) (σ 27) (σ 28) (σ 29) (σ 30) (σ 49) (τ 38) (τ 63)).map some := rfl
        refine xv_afterI (ws' := (wd_LW_law cA qa σ τ)) (isC := [0, 2, 45, 50, 80]) (ps := [some 0, none, some 1, none, none, none, none, none, none, none, none, none, none, none, none, none, none, none, none, none, none, none, none, none, none, none, none, none, none, none, none, none, none, none, none, none, none, none, none, none, none, none, none, none, none, some 2, none, none, none, none, some 3, none, none, none, none, none, none, none, none, none, none, none, none, none, none, none, none, none, none, none, none, none, none, none, none, none, none, none, none, none, some 4, none, none, none, none, none, none, none, none, none, none, none, none, none, none, none, none, none, none, none, none, none, none, none, none, none, none, none, none, none, none, none, none, none]) (va_runV (As := []) (rest := []) ⟨hx, hb, hml, hown, hts⟩ (c_HS_steep l ev dC dI cA (qa 0) (qa 1) (qa 2) (qa 3) (qa 4) (qa 5) (qa 6) (qa 7) (qa 8) (qa 9) (qa 10) (qa 11) (qa 12) (qa 45) (qa 46) (qa 47) (qa 48) (qa 49) (qa 50) (qa 51) (qa 52) (qa 53) (qa 80) (qa 81) ((σ 0)) ((σ 1)) ((σ 2)) ((σ 3)) ((σ 26)) ((σ 27)) ((σ 28)) ((σ 29)) ((σ 30)) hg H.size) (cwV 0 hts (zgVL zw_860 zw_861 zw_862 zw_104 zw_863) rfl rfl rfl hd_HS_steep ⟨Nat.le_of_ble_eq_true rfl, Nat.le_of_ble_eq_true rfl⟩) (xv_preV (T := TX10) (N := 16) hE hA hS hK hP hD (isC := [0, 2, 45, 50, 80]) (by decide +kernel) hC (q0 := 0) (ci := 10) rfl rfl) rfl rfl hl.1 rfl (lv_room (Nat.le_of_ble_eq_true rfl)) dL_law_814 ⟨Nat.le_refl _, Nat.le_refl _⟩) hP hD hS hA (by decide +kernel) rfl hC rfl rfl (fun H locs hP hD hS => ?_)
        refine lv_pop hx hb dL_law_817 rfl ?_
        refine lv_aload_n hx hb dL_law_818 rfl (lv_at hl 2 rfl) ?_
        refine xe_d4 hf (fun v390 v391 a392 a393 hg hf => ?_)
        have hC : ([1, 15, 27, 28] : List Nat).map (fun i => (wd_LW_law cA qa σ τ)[i]?) = (wd_HM_steep cA (qa 13) (qa 14) (qa 15) (qa 16) (qa 17) (qa 18) (qa 19) (qa 20) (qa 21) (qa 22) (qa 23) (qa 24) (qa 25) (qa 26) (qa 27) (qa 28) (qa 29) (qa 30) (qa 31) (qa 32) (qa 33) (qa 34) (qa 35) (qa 36) (qa 37) (qa 38) (qa 39) (qa 40) (qa 41) (qa 42) (qa 43) (qa 44) (σ 5) (σ 6) (σ 7) (σ 8) (σ 9) (σ 10) (σ 11) (σ 12) (σ 13) (σ 14) (σ 15) (σ 16) (σ 17) (σ 18) (σ 19) (σ 20) (σ 21) (σ 22) (σ 23) (σ 24) (σ 25) (τ 4) (σ 4) (τ 16) (τ 17)).map some := rfl
        refine xv_afterI (ws' := (wd_LW_law cA qa (zst σ [(4, v391)]) (zta τ [(16, a392), (17, a393)]))) (isC := [1, 15, 27, 28]) (ps := [none, some 0, none, none, none, none, none, none, none, none, none, none, none, none, none, some 1, none, none, none, none, none, none, none, none, none, none, none, some 2, some 3, none, none, none, none, none, none, none, none, none, none, none, none, none, none, none, none, none, none, none, none, none, none, none, none, none, none, none, none, none, none, none, none, none, none, none, none, none, none, none, none, none, none, none, none, none, none, none, none, none, none, none, none, none, none, none, none, none, none, none, none, none, none, none, none, none, none, none, none, none, none, none, none, none, none, none, none, none, none, none, none, none, none, none, none, none]) (va_runV (As := []) (rest := []) ⟨hx, hb, hml, hown, hts⟩ (c_HM_steep l ev dC dI cA (qa 13) (qa 14) (qa 15) (qa 16) (qa 17) (qa 18) (qa 19) (qa 20) (qa 21) (qa 22) (qa 23) (qa 24) (qa 25) (qa 26) (qa 27) (qa 28) (qa 29) (qa 30) (qa 31) (qa 32) (qa 33) (qa 34) (qa 35) (qa 36) (qa 37) (qa 38) (qa 39) (qa 40) (qa 41) (qa 42) (qa 43) (qa 44) ((σ 5)) ((σ 6)) ((σ 7)) ((σ 8)) ((σ 9)) ((σ 10)) ((σ 11)) ((σ 12)) ((σ 13)) ((σ 14)) ((σ 15)) ((σ 16)) ((σ 17)) ((σ 18)) ((σ 19)) ((σ 20)) ((σ 21)) ((σ 22)) ((σ 23)) ((σ 24)) ((σ 25)) hg H.size) (cwV 0 hts (zgVL zw_1602 zw_1603 zw_1604 zw_115 zw_1605) rfl rfl rfl hd_HM_steep ⟨Nat.le_of_ble_eq_true rfl, Nat.le_of_ble_eq_true rfl⟩) (xv_preV (T := TX11) (N := 53) hE hA hS hK hP hD (isC := [1, 15, 27, 28]) (by decide +kernel) hC (q0 := 1) (ci := 11) rfl rfl) rfl rfl hl.1 rfl (lv_room (Nat.le_of_ble_eq_true rfl)) dL_law_819 ⟨Nat.le_refl _, Nat.le_refl _⟩) hP hD hS hA (by decide +kernel) rfl hC rfl rfl (fun H locs hP hD hS => ?_)
        refine lv_pop hx hb dL_law_822 rfl ?_
        refine lv_goto (tgt := 1304) hx hb dL_law_823 (by decide) ?_
        exact b_1304 _ ih18 _ _ _ _ _ _ hf hP hD hS (lv_sub hl [0, 1, 2, 3] rfl)
      refine xz_if hf (fun hc hf => ?_) (fun hn22 hf => ?_)
      · refine xi_tin (tgt := 826) hx hb dL_law_33 hc (by decide) (by decide) rfl (by decide) ?_
        refine lv_aload_n hx hb dL_law_826 rfl (lv_at hl 1 rfl) ?_
        refine xe_d4 hf (fun v394 v395 a396 a397 hg hf => ?_)
        have hC : ([0, 2, 45, 50, 80, 81] : List Nat).map (fun i => (wd_LW_law cA qa σ τ)[i]?) = (wd_HS_slide cA (qa 0) (qa 1) (qa 2) (qa 3) (qa 4) (qa 5) (qa 6) (qa 7) (qa 8) (qa 9) (qa 10) (qa 11) (qa 12) (qa 45) (qa 46) (qa 47) (qa 48) (qa 49) (qa 50) (qa 51) (qa 52) (qa 53) (qa 80) (qa 81) (σ 0) (σ 1) (σ 2) (σ 3) (σ 26) (σ 27) (σ 28) (σ 29) (σ 49) (τ 38) (σ 30) (τ 63) (τ 64)).map some := rfl
        refine xv_afterI (ws' := (wd_LW_law cA qa (zst σ [(30, v395)]) (zta τ [(63, a396), (64, a397)]))) (isC := [0, 2, 45, 50, 80, 81]) (ps := [some 0, none, some 1, none, none, none, none, none, none, none, none, none, none, none, none, none, none, none, none, none, none, none, none, none, none, none, none, none, none, none, none, none, none, none, none, none, none, none, none, none, none, none, none, none, none, some 2, none, none, none, none, some 3, none, none, none, none, none, none, none, none, none, none, none, none, none, none, none, none, none, none, none, none, none, none, none, none, none, none, none, none, none, some 4, some 5, none, none, none, none, none, none, none, none, none, none, none, none, none, none, none, none, none, none, none, none, none, none, none, none, none, none, none, none, none, none, none, none]) (va_runV (As := []) (rest := []) ⟨hx, hb, hml, hown, hts⟩ (c_HS_slide l ev dC dI cA (qa 0) (qa 1) (qa 2) (qa 3) (qa 4) (qa 5) (qa 6) (qa 7) (qa 8) (qa 9) (qa 10) (qa 11) (qa 12) (qa 45) (qa 46) (qa 47) (qa 48) (qa 49) (qa 50) (qa 51) (qa 52) (qa 53) (qa 80) (qa 81) ((σ 0)) ((σ 1)) ((σ 2)) ((σ 3)) ((σ 26)) ((σ 27)) ((σ 28)) ((σ 29)) hg H.size) (cwV 0 hts (zgVL zw_872 zw_873 zw_874 zw_104 zw_875) rfl rfl rfl hd_HS_slide ⟨Nat.le_of_ble_eq_true rfl, Nat.le_of_ble_eq_true rfl⟩) (xv_preV (T := TX10) (N := 16) hE hA hS hK hP hD (isC := [0, 2, 45, 50, 80, 81]) (by decide +kernel) hC (q0 := 0) (ci := 10) rfl rfl) rfl rfl hl.1 rfl (lv_room (Nat.le_of_ble_eq_true rfl)) dL_law_827 ⟨Nat.le_refl _, Nat.le_refl _⟩) hP hD hS hA (by decide +kernel) rfl hC rfl rfl (fun H locs hP hD hS => ?_)
        refine lv_pop hx hb dL_law_830 rfl ?_
        refine lv_aload_n hx hb dL_law_831 rfl (lv_at hl 2 rfl) ?_
        refine xe_d5 hf (fun v398 v399 a400 a401 a402 hg hf => ?_)
        have hC : ([1, 15, 27, 28] : List Nat).map (fun i => (wd_LW_law cA qa (zst σ [(30, v395)]) (zta τ [(63, a396), (64, a397)]))[i]?) = (wd_HM_slide cA (qa 13) (qa 14) (qa 15) (qa 16) (qa 17) (qa 18) (qa 19) (qa 20) (qa 21) (qa 22) (qa 23) (qa 24) (qa 25) (qa 26) (qa 27) (qa 28) (qa 29) (qa 30) (qa 31) (qa 32) (qa 33) (qa 34) (qa 35) (qa 36) (qa 37) (qa 38) (qa 39) (qa 40) (qa 41) (qa 42) (qa 43) (qa 44) (σ 5) (σ 6) (σ 7) (σ 8) (σ 9) (σ 10) (σ 11) (σ 12) (σ 13) (σ 14) (σ 15) (σ 16) (σ 17) (σ 18) (σ 19) (σ 20) (σ 21) (σ 22) (σ 23) (σ 24) (σ 25) (σ 4) (τ 4) (τ 16) (τ 17)).map some := rfl
        refine xv_afterI (ws' := (wd_LW_law cA qa (zst σ [(4, v399), (30, v395)]) (zta τ [(4, a400), (16, a401), (17, a402), (63, a396), (64, a397)]))) (isC := [1, 15, 27, 28]) (ps := [none, some 0, none, none, none, none, none, none, none, none, none, none, none, none, none, some 1, none, none, none, none, none, none, none, none, none, none, none, some 2, some 3, none, none, none, none, none, none, none, none, none, none, none, none, none, none, none, none, none, none, none, none, none, none, none, none, none, none, none, none, none, none, none, none, none, none, none, none, none, none, none, none, none, none, none, none, none, none, none, none, none, none, none, none, none, none, none, none, none, none, none, none, none, none, none, none, none, none, none, none, none, none, none, none, none, none, none, none, none, none, none, none, none, none, none, none, none]) (va_runV (As := []) (rest := []) ⟨hx, hb, hml, hown, hts⟩ (c_HM_slide l ev dC dI cA (qa 13) (qa 14) (qa 15) (qa 16) (qa 17) (qa 18) (qa 19) (qa 20) (qa 21) (qa 22) (qa 23) (qa 24) (qa 25) (qa 26) (qa 27) (qa 28) (qa 29) (qa 30) (qa 31) (qa 32) (qa 33) (qa 34) (qa 35) (qa 36) (qa 37) (qa 38) (qa 39) (qa 40) (qa 41) (qa 42) (qa 43) (qa 44) ((σ 5)) ((σ 6)) ((σ 7)) ((σ 8)) ((σ 9)) ((σ 10)) ((σ 11)) ((σ 12)) ((σ 13)) ((σ 14)) ((σ 15)) ((σ 16)) ((σ 17)) ((σ 18)) ((σ 19)) ((σ 20)) ((σ 21)) ((σ 22)) ((σ 23)) ((σ 24)) ((σ 25)) hg H.size) (cwV 0 hts (zgVL zw_1614 zw_1615 zw_1616 zw_115 zw_1617) rfl rfl rfl hd_HM_slide ⟨Nat.le_of_ble_eq_true rfl, Nat.le_of_ble_eq_true rfl⟩) (xv_preV (T := TX11) (N := 53) hE hA hS hK hP hD (isC := [1, 15, 27, 28]) (by decide +kernel) hC (q0 := 1) (ci := 11) rfl rfl) rfl rfl hl.1 rfl (lv_room (Nat.le_of_ble_eq_true rfl)) dL_law_832 ⟨Nat.le_refl _, Nat.le_refl _⟩) hP hD hS hA (by decide +kernel) rfl hC rfl rfl (fun H locs hP hD hS => ?_)
        refine lv_pop hx hb dL_law_835 rfl ?_
        refine lv_goto (tgt := 1304) hx hb dL_law_836 (by decide) ?_
        exact b_1304 _ ih18 _ _ _ _ _ _ hf hP hD hS (lv_sub hl [0, 1, 2, 3] rfl)
      refine xz_if hf (fun hc hf => ?_) (fun hn23 hf => ?_)
      · refine xi_tin (tgt := 839) hx hb dL_law_33 hc (by decide) (by decide) rfl (by decide) ?_
        refine lv_aload_n hx hb dL_law_839 rfl (lv_at hl 1 rfl) ?_
        refine lv_aload_n hx hb dL_law_840 rfl (lv_at hl 0 rfl) ?_
        refine lv_iload_n hx hb dL_law_841 rfl (lv_at hl 3 rfl) ?_
        refine lv_iconst (v := Int32.ofInt 1) hx hb dL_law_842 rfl ?_
        refine xi_iadd hx hb dL_law_843 hf (fun v403 hf => ?_)
        refine xi_lld hx hb hX hbl hbA hS dL_law_844 hf (fun v404 hf => ?_)
        refine xe_d1 hf (fun v405 hg hf => ?_)
        have hC : ([0, 2, 45, 49, 50, 80] : List Nat).map (fun i => (wd_LW_law cA qa σ τ)[i]?) = (wd_HS_shade cA (qa 0) (qa 1) (qa 2) (qa 3) (qa 4) (qa 5) (qa 6) (qa 7) (qa 8) (qa 9) (qa 10) (qa 11) (qa 12) (qa 45) (qa 46) (qa 47) (qa 48) (qa 49) (qa 50) (qa 51) (qa 52) (qa 53) (qa 80) (qa 81) (σ 0) (σ 1) (σ 2) (σ 3) (σ 26) (σ 28) (σ 29) (σ 30) (σ 27) (σ 49) (τ 37) (τ 38) (τ 63)).map some := rfl
        refine xv_afterI (ws' := (wd_LW_law cA qa σ τ)) (isC := [0, 2, 45, 49, 50, 80]) (ps := [some 0, none, some 1, none, none, none, none, none, none, none, none, none, none, none, none, none, none, none, none, none, none, none, none, none, none, none, none, none, none, none, none, none, none, none, none, none, none, none, none, none, none, none, none, none, none, some 2, none, none, none, some 3, some 4, none, none, none, none, none, none, none, none, none, none, none, none, none, none, none, none, none, none, none, none, none, none, none, none, none, none, none, none, none, some 5, none, none, none, none, none, none, none, none, none, none, none, none, none, none, none, none, none, none, none, none, none, none, none, none, none, none, none, none, none, none, none, none, none]) (va_runV (As := [.int (Int32.ofInt v404)]) (rest := []) ⟨hx, hb, hml, hown, hts⟩ (c_HS_shade l ev dC dI cA (qa 0) (qa 1) (qa 2) (qa 3) (qa 4) (qa 5) (qa 6) (qa 7) (qa 8) (qa 9) (qa 10) (qa 11) (qa 12) (qa 45) (qa 46) (qa 47) (qa 48) (qa 49) (qa 50) (qa 51) (qa 52) (qa 53) (qa 80) (qa 81) ((σ 0)) ((σ 1)) ((σ 2)) ((σ 3)) ((σ 26)) ((σ 28)) ((σ 29)) ((σ 30)) hg H.size) (cwV 1 hts (zgVL zw_882 zw_883 zw_884 zw_104 zw_885) rfl rfl rfl hd_HS_shade ⟨Nat.le_of_ble_eq_true rfl, Nat.le_of_ble_eq_true rfl⟩) (xv_preV (T := TX10) (N := 16) hE hA hS hK hP hD (isC := [0, 2, 45, 49, 50, 80]) (by decide +kernel) hC (q0 := 0) (ci := 10) rfl rfl) rfl rfl hl.1 rfl (lv_room (Nat.le_of_ble_eq_true rfl)) dL_law_845 ⟨Nat.le_refl _, Nat.le_refl _⟩) hP hD hS hA (by decide +kernel) rfl hC rfl rfl (fun H locs hP hD hS => ?_)
        refine lv_pop hx hb dL_law_848 rfl ?_
        refine lv_aload_n hx hb dL_law_849 rfl (lv_at hl 2 rfl) ?_
        refine lv_aload_n hx hb dL_law_850 rfl (lv_at hl 0 rfl) ?_
        refine lv_iload_n hx hb dL_law_851 rfl (lv_at hl 3 rfl) ?_
        refine lv_iconst (v := Int32.ofInt 1) hx hb dL_law_852 rfl ?_
        refine xi_iadd hx hb dL_law_853 hf (fun v406 hf => ?_)
        refine xi_lld hx hb hX hbl hbA hS dL_law_854 hf (fun v407 hf => ?_)
        refine xe_d4 hf (fun v408 v409 a410 a411 hg hf => ?_)
        have hC : ([1, 15, 27, 28] : List Nat).map (fun i => (wd_LW_law cA qa σ τ)[i]?) = (wd_HM_shade cA (qa 13) (qa 14) (qa 15) (qa 16) (qa 17) (qa 18) (qa 19) (qa 20) (qa 21) (qa 22) (qa 23) (qa 24) (qa 25) (qa 26) (qa 27) (qa 28) (qa 29) (qa 30) (qa 31) (qa 32) (qa 33) (qa 34) (qa 35) (qa 36) (qa 37) (qa 38) (qa 39) (qa 40) (qa 41) (qa 42) (qa 43) (qa 44) (σ 5) (σ 6) (σ 7) (σ 8) (σ 9) (σ 10) (σ 11) (σ 12) (σ 13) (σ 14) (σ 15) (σ 16) (σ 17) (σ 18) (σ 19) (σ 20) (σ 21) (σ 22) (σ 23) (σ 24) (σ 25) (τ 4) (σ 4) (τ 16) (τ 17)).map some := rfl
        refine xv_afterI (ws' := (wd_LW_law cA qa (zst σ [(4, v409)]) (zta τ [(16, a410), (17, a411)]))) (isC := [1, 15, 27, 28]) (ps := [none, some 0, none, none, none, none, none, none, none, none, none, none, none, none, none, some 1, none, none, none, none, none, none, none, none, none, none, none, some 2, some 3, none, none, none, none, none, none, none, none, none, none, none, none, none, none, none, none, none, none, none, none, none, none, none, none, none, none, none, none, none, none, none, none, none, none, none, none, none, none, none, none, none, none, none, none, none, none, none, none, none, none, none, none, none, none, none, none, none, none, none, none, none, none, none, none, none, none, none, none, none, none, none, none, none, none, none, none, none, none, none, none, none, none, none, none, none]) (va_runV (As := [.int (Int32.ofInt v407)]) (rest := []) ⟨hx, hb, hml, hown, hts⟩ (c_HM_shade l ev dC dI cA (qa 13) (qa 14) (qa 15) (qa 16) (qa 17) (qa 18) (qa 19) (qa 20) (qa 21) (qa 22) (qa 23) (qa 24) (qa 25) (qa 26) (qa 27) (qa 28) (qa 29) (qa 30) (qa 31) (qa 32) (qa 33) (qa 34) (qa 35) (qa 36) (qa 37) (qa 38) (qa 39) (qa 40) (qa 41) (qa 42) (qa 43) (qa 44) ((σ 5)) ((σ 6)) ((σ 7)) ((σ 8)) ((σ 9)) ((σ 10)) ((σ 11)) ((σ 12)) ((σ 13)) ((σ 14)) ((σ 15)) ((σ 16)) ((σ 17)) ((σ 18)) ((σ 19)) ((σ 20)) ((σ 21)) ((σ 22)) ((σ 23)) ((σ 24)) ((σ 25)) hg H.size) (cwV 1 hts (zgVL zw_1622 zw_1623 zw_1624 zw_115 zw_1625) rfl rfl rfl hd_HM_shade ⟨Nat.le_of_ble_eq_true rfl, Nat.le_of_ble_eq_true rfl⟩) (xv_preV (T := TX11) (N := 53) hE hA hS hK hP hD (isC := [1, 15, 27, 28]) (by decide +kernel) hC (q0 := 1) (ci := 11) rfl rfl) rfl rfl hl.1 rfl (lv_room (Nat.le_of_ble_eq_true rfl)) dL_law_855 ⟨Nat.le_refl _, Nat.le_refl _⟩) hP hD hS hA (by decide +kernel) rfl hC rfl rfl (fun H locs hP hD hS => ?_)
        refine lv_pop hx hb dL_law_858 rfl ?_
        refine lv_goto (tgt := 1304) hx hb dL_law_859 (by decide) ?_
        exact b_1304 _ ih18 _ _ _ _ _ _ hf hP hD hS (lv_sub hl [0, 1, 2, 3] rfl)
      refine xz_if hf (fun hc hf => ?_) (fun hn24 hf => ?_)
      · refine xi_tin (tgt := 862) hx hb dL_law_33 hc (by decide) (by decide) rfl (by decide) ?_
        refine lv_aload_n hx hb dL_law_862 rfl (lv_at hl 1 rfl) ?_
        refine lv_aload_n hx hb dL_law_863 rfl (lv_at hl 0 rfl) ?_
        refine lv_iload_n hx hb dL_law_864 rfl (lv_at hl 3 rfl) ?_
        refine lv_iconst (v := Int32.ofInt 1) hx hb dL_law_865 rfl ?_
        refine xi_iadd hx hb dL_law_866 hf (fun v412 hf => ?_)
        refine xi_lld hx hb hX hbl hbA hS dL_law_867 hf (fun v413 hf => ?_)
        refine lv_aload_n hx hb dL_law_868 rfl (lv_at hl 0 rfl) ?_
        refine lv_iload_n hx hb dL_law_869 rfl (lv_at hl 3 rfl) ?_
        refine lv_iconst (v := Int32.ofInt 2) hx hb dL_law_870 rfl ?_
        refine xi_iadd hx hb dL_law_871 hf (fun v414 hf => ?_)
        refine xi_lld hx hb hX hbl hbA hS dL_law_872 hf (fun v415 hf => ?_)
        refine lv_aload_n hx hb dL_law_873 rfl (lv_at hl 0 rfl) ?_
        refine lv_iload_n hx hb dL_law_874 rfl (lv_at hl 3 rfl) ?_
        refine lv_iconst (v := Int32.ofInt 3) hx hb dL_law_875 rfl ?_
        refine xi_iadd hx hb dL_law_876 hf (fun v416 hf => ?_)
        refine xi_lld hx hb hX hbl hbA hS dL_law_877 hf (fun v417 hf => ?_)
        refine lv_aload_n hx hb dL_law_878 rfl (lv_at hl 0 rfl) ?_
        refine lv_iload_n hx hb dL_law_879 rfl (lv_at hl 3 rfl) ?_
        refine lv_iconst (v := Int32.ofInt 4) hx hb dL_law_880 rfl ?_
        refine xi_iadd hx hb dL_law_881 hf (fun v418 hf => ?_)
        refine xi_lld hx hb hX hbl hbA hS dL_law_882 hf (fun v419 hf => ?_)
        refine xe_d8 hf (fun v420 v421 v422 v423 a424 a425 a426 a427 hg hf => ?_)
        have hC : ([0, 2, 8, 45, 46, 47, 49, 50, 52, 53, 60, 61, 80, 81] : List Nat).map (fun i => (wd_LW_law cA qa σ τ)[i]?) = (wd_HS_gains cA (qa 0) (qa 1) (qa 2) (qa 3) (qa 4) (qa 5) (qa 6) (qa 7) (qa 8) (qa 9) (qa 10) (qa 11) (qa 12) (qa 45) (qa 46) (qa 47) (qa 48) (qa 49) (qa 50) (qa 51) (qa 52) (qa 53) (qa 60) (qa 61) (qa 80) (qa 81) (σ 0) (σ 1) (σ 2) (σ 3) (σ 30) (σ 26) (σ 27) (σ 28) (σ 29) (σ 49) (τ 34) (τ 35) (τ 37) (τ 38) (τ 40) (τ 41) (σ 34) (σ 35) (σ 36) (τ 46) (τ 47) (τ 63) (τ 64)).map some := rfl
        refine xv_afterI (ws' := (wd_LW_law cA qa (zst σ [(34, v421), (35, v422), (36, v423)]) (zta τ [(46, a424), (47, a425), (63, a426), (64, a427)]))) (isC := [0, 2, 8, 45, 46, 47, 49, 50, 52, 53, 60, 61, 80, 81]) (ps := [some 0, none, some 1, none, none, none, none, none, some 2, none, none, none, none, none, none, none, none, none, none, none, none, none, none, none, none, none, none, none, none, none, none, none, none, none, none, none, none, none, none, none, none, none, none, none, none, some 3, some 4, some 5, none, some 6, some 7, none, some 8, some 9, none, none, none, none, none, none, some 10, some 11, none, none, none, none, none, none, none, none, none, none, none, none, none, none, none, none, none, none, some 12, some 13, none, none, none, none, none, none, none, none, none, none, none, none, none, none, none, none, none, none, none, none, none, none, none, none, none, none, none, none, none, none, none, none]) (va_runV (As := [.int (Int32.ofInt v413), .int (Int32.ofInt v415), .int (Int32.ofInt v417), .int (Int32.ofInt v419)]) (rest := []) ⟨hx, hb, hml, hown, hts⟩ (c_HS_gains l ev dC dI cA (qa 0) (qa 1) (qa 2) (qa 3) (qa 4) (qa 5) (qa 6) (qa 7) (qa 8) (qa 9) (qa 10) (qa 11) (qa 12) (qa 45) (qa 46) (qa 47) (qa 48) (qa 49) (qa 50) (qa 51) (qa 52) (qa 53) (qa 60) (qa 61) (qa 80) (qa 81) ((σ 0)) ((σ 1)) ((σ 2)) ((σ 3)) ((σ 30)) hg H.size) (cwV 4 hts (zgVL zw_906 zw_907 zw_908 zw_104 zw_909) rfl rfl rfl hd_HS_gains ⟨Nat.le_of_ble_eq_true rfl, Nat.le_of_ble_eq_true rfl⟩) (xv_preV (T := TX10) (N := 16) hE hA hS hK hP hD (isC := [0, 2, 8, 45, 46, 47, 49, 50, 52, 53, 60, 61, 80, 81]) (by decide +kernel) hC (q0 := 0) (ci := 10) rfl rfl) rfl rfl hl.1 rfl (lv_room (Nat.le_of_ble_eq_true rfl)) dL_law_883 ⟨Nat.le_refl _, Nat.le_refl _⟩) hP hD hS hA (by decide +kernel) rfl hC rfl rfl (fun H locs hP hD hS => ?_)
        refine lv_pop hx hb dL_law_886 rfl ?_
        refine lv_aload_n hx hb dL_law_887 rfl (lv_at hl 2 rfl) ?_
        refine lv_aload_n hx hb dL_law_888 rfl (lv_at hl 0 rfl) ?_
        refine lv_iload_n hx hb dL_law_889 rfl (lv_at hl 3 rfl) ?_
        refine lv_iconst (v := Int32.ofInt 1) hx hb dL_law_890 rfl ?_
        refine xi_iadd hx hb dL_law_891 hf (fun v428 hf => ?_)
        refine xi_lld hx hb hX hbl hbA hS dL_law_892 hf (fun v429 hf => ?_)
        refine lv_aload_n hx hb dL_law_893 rfl (lv_at hl 0 rfl) ?_
        refine lv_iload_n hx hb dL_law_894 rfl (lv_at hl 3 rfl) ?_
        refine lv_iconst (v := Int32.ofInt 2) hx hb dL_law_895 rfl ?_
        refine xi_iadd hx hb dL_law_896 hf (fun v430 hf => ?_)
        refine xi_lld hx hb hX hbl hbA hS dL_law_897 hf (fun v431 hf => ?_)
        refine lv_aload_n hx hb dL_law_898 rfl (lv_at hl 0 rfl) ?_
        refine lv_iload_n hx hb dL_law_899 rfl (lv_at hl 3 rfl) ?_
        refine lv_iconst (v := Int32.ofInt 3) hx hb dL_law_900 rfl ?_
        refine xi_iadd hx hb dL_law_901 hf (fun v432 hf => ?_)
        refine xi_lld hx hb hX hbl hbA hS dL_law_902 hf (fun v433 hf => ?_)
        refine lv_aload_n hx hb dL_law_903 rfl (lv_at hl 0 rfl) ?_
        refine lv_iload_n hx hb dL_law_904 rfl (lv_at hl 3 rfl) ?_
        refine lv_iconst (v := Int32.ofInt 4) hx hb dL_law_905 rfl ?_
        refine xi_iadd hx hb dL_law_906 hf (fun v434 hf => ?_)
        refine xi_lld hx hb hX hbl hbA hS dL_law_907 hf (fun v435 hf => ?_)
        refine xe_d10 hf (fun v436 v437 v438 v439 v440 v441 a442 a443 a444 a445 hg hf => ?_)
        have hC : ([1, 15, 25, 26, 27, 28] : List Nat).map (fun i => (wd_LW_law cA qa (zst σ [(34, v421), (35, v422), (36, v423)]) (zta τ [(46, a424), (47, a425), (63, a426), (64, a427)]))[i]?) = (wd_HM_gains cA (qa 13) (qa 14) (qa 15) (qa 16) (qa 17) (qa 18) (qa 19) (qa 20) (qa 21) (qa 22) (qa 23) (qa 24) (qa 25) (qa 26) (qa 27) (qa 28) (qa 29) (qa 30) (qa 31) (qa 32) (qa 33) (qa 34) (qa 35) (qa 36) (qa 37) (qa 38) (qa 39) (qa 40) (qa 41) (qa 42) (qa 43) (qa 44) (σ 5) (σ 6) (σ 7) (σ 8) (σ 9) (σ 10) (σ 11) (σ 12) (σ 13) (σ 14) (σ 15) (σ 16) (σ 17) (σ 18) (σ 23) (σ 24) (σ 25) (τ 4) (σ 4) (σ 19) (σ 20) (σ 21) (σ 22) (τ 14) (τ 15) (τ 16) (τ 17)).map some := rfl
        refine xv_afterI (ws' := (wd_LW_law cA qa (zst σ [(4, v437), (19, v438), (20, v439), (21, v440), (22, v441), (34, v421), (35, v422), (36, v423)]) (zta τ [(14, a442), (15, a443), (16, a444), (17, a445), (46, a424), (47, a425), (63, a426), (64, a427)]))) (isC := [1, 15, 25, 26, 27, 28]) (ps := [none, some 0, none, none, none, none, none, none, none, none, none, none, none, none, none, some 1, none, none, none, none, none, none, none, none, none, some 2, some 3, some 4, some 5, none, none, none, none, none, none, none, none, none, none, none, none, none, none, none, none, none, none, none, none, none, none, none, none, none, none, none, none, none, none, none, none, none, none, none, none, none, none, none, none, none, none, none, none, none, none, none, none, none, none, none, none, none, none, none, none, none, none, none, none, none, none, none, none, none, none, none, none, none, none, none, none, none, none, none, none, none, none, none, none, none, none, none, none, none]) (va_runV (As := [.int (Int32.ofInt v429), .int (Int32.ofInt v431), .int (Int32.ofInt v433), .int (Int32.ofInt v435)]) (rest := []) ⟨hx, hb, hml, hown, hts⟩ (c_HM_gains l ev dC dI cA (qa 13) (qa 14) (qa 15) (qa 16) (qa 17) (qa 18) (qa 19) (qa 20) (qa 21) (qa 22) (qa 23) (qa 24) (qa 25) (qa 26) (qa 27) (qa 28) (qa 29) (qa 30) (qa 31) (qa 32) (qa 33) (qa 34) (qa 35) (qa 36) (qa 37) (qa 38) (qa 39) (qa 40) (qa 41) (qa 42) (qa 43) (qa 44) ((σ 5)) ((σ 6)) ((σ 7)) ((σ 8)) ((σ 9)) ((σ 10)) ((σ 11)) ((σ 12)) ((σ 13)) ((σ 14)) ((σ 15)) ((σ 16)) ((σ 17)) ((σ 18)) ((σ 23)) ((σ 24)) ((σ 25)) hg H.size) (cwV 4 hts (zgVL zw_1638 zw_1639 zw_1640 zw_115 zw_1641) rfl rfl rfl hd_HM_gains ⟨Nat.le_of_ble_eq_true rfl, Nat.le_of_ble_eq_true rfl⟩) (xv_preV (T := TX11) (N := 53) hE hA hS hK hP hD (isC := [1, 15, 25, 26, 27, 28]) (by decide +kernel) hC (q0 := 1) (ci := 11) rfl rfl) rfl rfl hl.1 rfl (lv_room (Nat.le_of_ble_eq_true rfl)) dL_law_908 ⟨Nat.le_refl _, Nat.le_refl _⟩) hP hD hS hA (by decide +kernel) rfl hC rfl rfl (fun H locs hP hD hS => ?_)
        refine lv_pop hx hb dL_law_911 rfl ?_
        refine lv_goto (tgt := 1304) hx hb dL_law_912 (by decide) ?_
        exact b_1304 _ ih18 _ _ _ _ _ _ hf hP hD hS (lv_sub hl [0, 1, 2, 3] rfl)
      refine xz_if hf (fun hc hf => ?_) (fun hn25 hf => ?_)
      · refine xi_tin (tgt := 915) hx hb dL_law_33 hc (by decide) (by decide) rfl (by decide) ?_
        refine lv_aload_n hx hb dL_law_915 rfl (lv_at hl 1 rfl) ?_
        refine lv_aload_n hx hb dL_law_916 rfl (lv_at hl 0 rfl) ?_
        refine lv_iload_n hx hb dL_law_917 rfl (lv_at hl 3 rfl) ?_
        refine lv_iconst (v := Int32.ofInt 1) hx hb dL_law_918 rfl ?_
        refine xi_iadd hx hb dL_law_919 hf (fun v446 hf => ?_)
        refine xi_lld hx hb hX hbl hbA hS dL_law_920 hf (fun v447 hf => ?_)
        refine lv_aload_n hx hb dL_law_921 rfl (lv_at hl 0 rfl) ?_
        refine lv_iload_n hx hb dL_law_922 rfl (lv_at hl 3 rfl) ?_
        refine lv_iconst (v := Int32.ofInt 2) hx hb dL_law_923 rfl ?_
        refine xi_iadd hx hb dL_law_924 hf (fun v448 hf => ?_)
        refine xi_lld hx hb hX hbl hbA hS dL_law_925 hf (fun v449 hf => ?_)
        refine xe_d5 hf (fun v450 v451 v452 a453 a454 hg hf => ?_)
        have hC : ([0, 2, 6, 45, 51] : List Nat).map (fun i => (wd_LW_law cA qa σ τ)[i]?) = (wd_HS_goal cA (qa 0) (qa 1) (qa 2) (qa 3) (qa 4) (qa 5) (qa 6) (qa 7) (qa 8) (qa 9) (qa 10) (qa 11) (qa 12) (qa 45) (qa 46) (qa 47) (qa 48) (qa 49) (qa 50) (qa 51) (qa 52) (qa 53) (qa 80) (qa 81) (σ 0) (σ 1) (σ 2) (σ 26) (σ 27) (σ 28) (σ 29) (σ 49) (σ 3) (σ 30) (τ 2) (τ 39)).map some := rfl
        refine xv_afterI (ws' := (wd_LW_law cA qa (zst σ [(3, v451), (30, v452)]) (zta τ [(2, a453), (39, a454)]))) (isC := [0, 2, 6, 45, 51]) (ps := [some 0, none, some 1, none, none, none, some 2, none, none, none, none, none, none, none, none, none, none, none, none, none, none, none, none, none, none, none, none, none, none, none, none, none, none, none, none, none, none, none, none, none, none, none, none, none, none, some 3, none, none, none, none, none, some 4, none, none, none, none, none, none, none, none, none, none, none, none, none, none, none, none, none, none, none, none, none, none, none, none, none, none, none, none, none, none, none, none, none, none, none, none, none, none, none, none, none, none, none, none, none, none, none, none, none, none, none, none, none, none, none, none, none, none, none, none, none, none]) (va_runV (As := [.int (Int32.ofInt v447), .int (Int32.ofInt v449)]) (rest := []) ⟨hx, hb, hml, hown, hts⟩ (c_HS_goal l ev dC dI cA (qa 0) (qa 1) (qa 2) (qa 3) (qa 4) (qa 5) (qa 6) (qa 7) (qa 8) (qa 9) (qa 10) (qa 11) (qa 12) (qa 45) (qa 46) (qa 47) (qa 48) (qa 49) (qa 50) (qa 51) (qa 52) (qa 53) (qa 80) (qa 81) ((σ 0)) ((σ 1)) ((σ 2)) ((σ 26)) ((σ 27)) ((σ 28)) ((σ 29)) hg H.size) (cwV 2 hts (zgVL zw_910 zw_911 zw_912 zw_104 zw_913) rfl rfl rfl hd_HS_goal ⟨Nat.le_of_ble_eq_true rfl, Nat.le_of_ble_eq_true rfl⟩) (xv_preV (T := TX10) (N := 16) hE hA hS hK hP hD (isC := [0, 2, 6, 45, 51]) (by decide +kernel) hC (q0 := 0) (ci := 10) rfl rfl) rfl rfl hl.1 rfl (lv_room (Nat.le_of_ble_eq_true rfl)) dL_law_926 ⟨Nat.le_refl _, Nat.le_refl _⟩) hP hD hS hA (by decide +kernel) rfl hC rfl rfl (fun H locs hP hD hS => ?_)
        refine lv_pop hx hb dL_law_929 rfl ?_
        refine lv_aload_n hx hb dL_law_930 rfl (lv_at hl 2 rfl) ?_
        refine lv_aload_n hx hb dL_law_931 rfl (lv_at hl 0 rfl) ?_
        refine lv_iload_n hx hb dL_law_932 rfl (lv_at hl 3 rfl) ?_
        refine lv_iconst (v := Int32.ofInt 1) hx hb dL_law_933 rfl ?_
        refine xi_iadd hx hb dL_law_934 hf (fun v455 hf => ?_)
        refine xi_lld hx hb hX hbl hbA hS dL_law_935 hf (fun v456 hf => ?_)
        refine lv_aload_n hx hb dL_law_936 rfl (lv_at hl 0 rfl) ?_
        refine lv_iload_n hx hb dL_law_937 rfl (lv_at hl 3 rfl) ?_
        refine lv_iconst (v := Int32.ofInt 2) hx hb dL_law_938 rfl ?_
        refine xi_iadd hx hb dL_law_939 hf (fun v457 hf => ?_)
        refine xi_lld hx hb hX hbl hbA hS dL_law_940 hf (fun v458 hf => ?_)
        refine xe_d5 hf (fun v459 v460 v461 a462 a463 hg hf => ?_)
        have hC : ([1, 14, 15] : List Nat).map (fun i => (wd_LW_law cA qa (zst σ [(3, v451), (30, v452)]) (zta τ [(2, a453), (39, a454)]))[i]?) = (wd_HM_goal cA (qa 13) (qa 14) (qa 15) (qa 16) (qa 17) (qa 18) (qa 19) (qa 20) (qa 21) (qa 22) (qa 23) (qa 24) (qa 25) (qa 26) (qa 27) (qa 28) (qa 29) (qa 30) (qa 31) (qa 32) (qa 33) (qa 34) (qa 35) (qa 36) (qa 37) (qa 38) (qa 39) (qa 40) (qa 41) (qa 42) (qa 43) (qa 44) (σ 6) (σ 7) (σ 8) (σ 9) (σ 10) (σ 11) (σ 12) (σ 13) (σ 14) (σ 15) (σ 16) (σ 17) (σ 18) (σ 19) (σ 20) (σ 21) (σ 22) (σ 23) (σ 24) (σ 25) (σ 4) (σ 5) (τ 3) (τ 4)).map some := rfl
        refine xv_afterI (ws' := (wd_LW_law cA qa (zst σ [(3, v451), (4, v460), (5, v461), (30, v452)]) (zta τ [(2, a453), (3, a462), (4, a463), (39, a454)]))) (isC := [1, 14, 15]) (ps := [none, some 0, none, none, none, none, none, none, none, none, none, none, none, none, some 1, some 2, none, none, none, none, none, none, none, none, none, none, none, none, none, none, none, none, none, none, none, none, none, none, none, none, none, none, none, none, none, none, none, none, none, none, none, none, none, none, none, none, none, none, none, none, none, none, none, none, none, none, none, none, none, none, none, none, none, none, none, none, none, none, none, none, none, none, none, none, none, none, none, none, none, none, none, none, none, none, none, none, none, none, none, none, none, none, none, none, none, none, none, none, none, none, none, none, none, none]) (va_runV (As := [.int (Int32.ofInt v456), .int (Int32.ofInt v458)]) (rest := []) ⟨hx, hb, hml, hown, hts⟩ (c_HM_goal l ev dC dI cA (qa 13) (qa 14) (qa 15) (qa 16) (qa 17) (qa 18) (qa 19) (qa 20) (qa 21) (qa 22) (qa 23) (qa 24) (qa 25) (qa 26) (qa 27) (qa 28) (qa 29) (qa 30) (qa 31) (qa 32) (qa 33) (qa 34) (qa 35) (qa 36) (qa 37) (qa 38) (qa 39) (qa 40) (qa 41) (qa 42) (qa 43) (qa 44) ((σ 6)) ((σ 7)) ((σ 8)) ((σ 9)) ((σ 10)) ((σ 11)) ((σ 12)) ((σ 13)) ((σ 14)) ((σ 15)) ((σ 16)) ((σ 17)) ((σ 18)) ((σ 19)) ((σ 20)) ((σ 21)) ((σ 22)) ((σ 23)) ((σ 24)) ((σ 25)) hg H.size) (cwV 2 hts (zgVL zw_1642 zw_1643 zw_1644 zw_115 zw_1645) rfl rfl rfl hd_HM_goal ⟨Nat.le_of_ble_eq_true rfl, Nat.le_of_ble_eq_true rfl⟩) (xv_preV (T := TX11) (N := 53) hE hA hS hK hP hD (isC := [1, 14, 15]) (by decide +kernel) hC (q0 := 1) (ci := 11) rfl rfl) rfl rfl hl.1 rfl (lv_room (Nat.le_of_ble_eq_true rfl)) dL_law_941 ⟨Nat.le_refl _, Nat.le_refl _⟩) hP hD hS hA (by decide +kernel) rfl hC rfl rfl (fun H locs hP hD hS => ?_)
        refine lv_pop hx hb dL_law_944 rfl ?_
        refine lv_goto (tgt := 1304) hx hb dL_law_945 (by decide) ?_
        exact b_1304 _ ih18 _ _ _ _ _ _ hf hP hD hS (lv_sub hl [0, 1, 2, 3] rfl)
      refine xz_if hf (fun hc hf => ?_) (fun hn26 hf => ?_)
      · refine xi_tin (tgt := 948) hx hb dL_law_33 hc (by decide) (by decide) rfl (by decide) ?_
        refine lv_aload_n hx hb dL_law_948 rfl (lv_at hl 1 rfl) ?_
        refine lv_aload_n hx hb dL_law_949 rfl (lv_at hl 0 rfl) ?_
        refine lv_iload_n hx hb dL_law_950 rfl (lv_at hl 3 rfl) ?_
        refine lv_iconst (v := Int32.ofInt 1) hx hb dL_law_951 rfl ?_
        refine xi_iadd hx hb dL_law_952 hf (fun v464 hf => ?_)
        refine xi_lld hx hb hX hbl hbA hS dL_law_953 hf (fun v465 hf => ?_)
        refine lv_aload_n hx hb dL_law_954 rfl (lv_at hl 0 rfl) ?_
        refine lv_iload_n hx hb dL_law_955 rfl (lv_at hl 3 rfl) ?_
        refine lv_iconst (v := Int32.ofInt 2) hx hb dL_law_956 rfl ?_
        refine xi_iadd hx hb dL_law_957 hf (fun v466 hf => ?_)
        refine xi_lld hx hb hX hbl hbA hS dL_law_958 hf (fun v467 hf => ?_)
        refine lv_aload_n hx hb dL_law_959 rfl (lv_at hl 0 rfl) ?_
        refine lv_iload_n hx hb dL_law_960 rfl (lv_at hl 3 rfl) ?_
        refine lv_iconst (v := Int32.ofInt 3) hx hb dL_law_961 rfl ?_
        refine xi_iadd hx hb dL_law_962 hf (fun v468 hf => ?_)
        refine xi_lld hx hb hX hbl hbA hS dL_law_963 hf (fun v469 hf => ?_)
        refine xe_d32 hf (fun v470 v471 v472 v473 v474 v475 v476 a477 a478 a479 a480 a481 a482 a483 a484 a485 a486 a487 a488 a489 v490 v491 v492 v493 v494 v495 v496 v497 v498 a499 a500 a501 hg hf => ?_)
        have hC : ([0, 2, 8, 9, 10, 45, 46, 47, 50, 51, 52, 53, 60, 61, 62, 63, 64, 65, 66, 67, 68, 69, 70, 71, 72, 73, 80, 81, 100, 101, 102, 111, 112, 113] : List Nat).map (fun i => (wd_LW_law cA qa σ τ)[i]?) = (wd_HS_plan cA (qa 0) (qa 1) (qa 2) (qa 3) (qa 4) (qa 5) (qa 6) (qa 7) (qa 8) (qa 9) (qa 10) (qa 11) (qa 12) (qa 1) (qa 45) (qa 46) (qa 47) (qa 48) (qa 49) (qa 50) (qa 51) (qa 52) (qa 53) (qa 7) (qa 60) (qa 61) (qa 8) (qa 62) (qa 63) (qa 64) (qa 65) (qa 66) (qa 67) (qa 68) (qa 69) (qa 70) (qa 71) (qa 72) (qa 73) (qa 80) (qa 81) (qa 100) (qa 101) (qa 102) (qa 111) (qa 112) (qa 113) (σ 0) (σ 1) (σ 2) (σ 3) (σ 27) (σ 26) (σ 28) (σ 29) (σ 30) (σ 49) (τ 34) (τ 35) (τ 38) (τ 39) (τ 40) (τ 41) (τ 63) (τ 64) (σ 34) (σ 35) (σ 36) (σ 37) (σ 38) (σ 39) (τ 46) (τ 47) (τ 48) (τ 49) (τ 50) (τ 51) (τ 52) (τ 53) (τ 54) (τ 55) (τ 56) (τ 57) (τ 58) (σ 64) (σ 65) (σ 66) (σ 67) (σ 68) (σ 69) (σ 70) (σ 71) (σ 72) (τ 89) (τ 90) (τ 91)).map some := rfl
        refine xv_afterI (ws' := (wd_LW_law cA qa (zst σ [(34, v471), (35, v472), (36, v473), (37, v474), (38, v475), (39, v476), (64, v490), (65, v491), (66, v492), (67, v493), (68, v494), (69, v495), (70, v496), (71, v497), (72, v498)]) (zta τ [(46, a477), (47, a478), (48, a479), (49, a480), (50, a481), (51, a482), (52, a483), (53, a484), (54, a485), (55, a486), (56, a487), (57, a488), (58, a489), (89, a499), (90, a500), (91, a501)]))) (isC := [0, 2, 8, 9, 10, 45, 46, 47, 50, 51, 52, 53, 60, 61, 62, 63, 64, 65, 66, 67, 68, 69, 70, 71, 72, 73, 80, 81, 100, 101, 102, 111, 112, 113]) (ps := [some 0, none, some 1, none, none, none, none, none, some 2, some 3, some 4, none, none, none, none, none, none, none, none, none, none, none, none, none, none, none, none, none, none, none, none, none, none, none, none, none, none, none, none, none, none, none, none, none, none, some 5, some 6, some 7, none, none, some 8, some 9, some 10, some 11, none, none, none, none, none, none, some 12, some 13, some 14, some 15, some 16, some 17, some 18, some 19, some 20, some 21, some 22, some 23, some 24, some 25, none, none, none, none, none, none, some 26, some 27, none, none, none, none, none, none, none, none, none, none, none, none, none, none, none, none, none, none, some 28, some 29, some 30, none, none, none, none, none, none, none, none, some 31, some 32, some 33]) (va_runV (As := [.int (Int32.ofInt v465), .int (Int32.ofInt v467), .int (Int32.ofInt v469)]) (rest := []) ⟨hx, hb, hml, hown, hts⟩ (c_HS_plan l ev dC dI cA (qa 0) (qa 1) (qa 2) (qa 3) (qa 4) (qa 5) (qa 6) (qa 7) (qa 8) (qa 9) (qa 10) (qa 11) (qa 12) (qa 1) (qa 45) (qa 46) (qa 47) (qa 48) (qa 49) (qa 50) (qa 51) (qa 52) (qa 53) (qa 7) (qa 60) (qa 61) (qa 8) (qa 62) (qa 63) (qa 64) (qa 65) (qa 66) (qa 67) (qa 68) (qa 69) (qa 70) (qa 71) (qa 72) (qa 73) (qa 80) (qa 81) (qa 100) (qa 101) (qa 102) (qa 111) (qa 112) (qa 113) ((σ 0)) ((σ 1)) ((σ 2)) ((σ 3)) ((σ 27)) hg H.size) (cwV 3 hts (zgVL zw_914 zw_915 zw_916 zw_104 zw_917) rfl rfl rfl hd_HS_plan ⟨Nat.le_of_ble_eq_true rfl, Nat.le_of_ble_eq_true rfl⟩) (xv_preV (T := TX10) (N := 16) hE hA hS hK hP hD (isC := [0, 2, 8, 9, 10, 45, 46, 47, 50, 51, 52, 53, 60, 61, 62, 63, 64, 65, 66, 67, 68, 69, 70, 71, 72, 73, 80, 81, 100, 101, 102, 111, 112, 113]) (by decide +kernel) hC (q0 := 0) (ci := 10) rfl rfl) rfl rfl hl.1 rfl (lv_room (Nat.le_of_ble_eq_true rfl)) dL_law_964 ⟨Nat.le_refl _, Nat.le_refl _⟩) hP hD hS hA (by decide +kernel) rfl hC rfl rfl (fun H locs hP hD hS => ?_)
        refine lv_pop hx hb dL_law_967 rfl ?_
        refine lv_aload_n hx hb dL_law_968 rfl (lv_at hl 2 rfl) ?_
        refine lv_aload_n hx hb dL_law_969 rfl (lv_at hl 0 rfl) ?_
        refine lv_iload_n hx hb dL_law_970 rfl (lv_at hl 3 rfl) ?_
        refine lv_iconst (v := Int32.ofInt 1) hx hb dL_law_971 rfl ?_
        refine xi_iadd hx hb dL_law_972 hf (fun v502 hf => ?_)
        refine xi_lld hx hb hX hbl hbA hS dL_law_973 hf (fun v503 hf => ?_)
        refine lv_aload_n hx hb dL_law_974 rfl (lv_at hl 0 rfl) ?_
        refine lv_iload_n hx hb dL_law_975 rfl (lv_at hl 3 rfl) ?_
        refine lv_iconst (v := Int32.ofInt 2) hx hb dL_law_976 rfl ?_
        refine xi_iadd hx hb dL_law_977 hf (fun v504 hf => ?_)
        refine xi_lld hx hb hX hbl hbA hS dL_law_978 hf (fun v505 hf => ?_)
        refine lv_aload_n hx hb dL_law_979 rfl (lv_at hl 0 rfl) ?_
        refine lv_iload_n hx hb dL_law_980 rfl (lv_at hl 3 rfl) ?_
        refine lv_iconst (v := Int32.ofInt 3) hx hb dL_law_981 rfl ?_
        refine xi_iadd hx hb dL_law_982 hf (fun v506 hf => ?_)
        refine xi_lld hx hb hX hbl hbA hS dL_law_983 hf (fun v507 hf => ?_)
        refine xe_d19 hf (fun v508 v509 v510 v511 v512 v513 v514 a515 a516 a517 a518 a519 a520 a521 a522 a523 a524 a525 a526 hg hf => ?_)
        have hC : ([1, 15, 25, 26, 29, 30, 31, 32, 33, 34, 35, 36, 37, 38] : List Nat).map (fun i => (wd_LW_law cA qa (zst σ [(34, v471), (35, v472), (36, v473), (37, v474), (38, v475), (39, v476), (64, v490), (65, v491), (66, v492), (67, v493), (68, v494), (69, v495), (70, v496), (71, v497), (72, v498)]) (zta τ [(46, a477), (47, a478), (48, a479), (49, a480), (50, a481), (51, a482), (52, a483), (53, a484), (54, a485), (55, a486), (56, a487), (57, a488), (58, a489), (89, a499), (90, a500), (91, a501)]))[i]?) = (wd_HM_plan cA (qa 13) (qa 14) (qa 15) (qa 16) (qa 17) (qa 18) (qa 19) (qa 20) (qa 21) (qa 22) (qa 23) (qa 24) (qa 25) (qa 26) (qa 27) (qa 28) (qa 29) (qa 30) (qa 31) (qa 32) (qa 33) (qa 34) (qa 35) (qa 36) (qa 37) (qa 38) (qa 39) (qa 40) (qa 41) (qa 42) (qa 43) (qa 44) (σ 5) (σ 6) (σ 7) (σ 8) (σ 9) (σ 10) (σ 11) (σ 12) (σ 13) (σ 14) (σ 15) (σ 16) (σ 17) (σ 18) (σ 24) (σ 25) (τ 4) (σ 4) (σ 19) (σ 20) (σ 21) (σ 22) (σ 23) (τ 14) (τ 15) (τ 18) (τ 19) (τ 20) (τ 21) (τ 22) (τ 23) (τ 24) (τ 25) (τ 26) (τ 27)).map some := rfl
        refine xv_afterI (ws' := (wd_LW_law cA qa (zst σ [(4, v509), (19, v510), (20, v511), (21, v512), (22, v513), (23, v514), (34, v471), (35, v472), (36, v473), (37, v474), (38, v475), (39, v476), (64, v490), (65, v491), (66, v492), (67, v493), (68, v494), (69, v495), (70, v496), (71, v497), (72, v498)]) (zta τ [(14, a515), (15, a516), (18, a517), (19, a518), (20, a519), (21, a520), (22, a521), (23, a522), (24, a523), (25, a524), (26, a525), (27, a526), (46, a477), (47, a478), (48, a479), (49, a480), (50, a481), (51, a482), (52, a483), (53, a484), (54, a485), (55, a486), (56, a487), (57, a488), (58, a489), (89, a499), (90, a500), (91, a501)]))) (isC := [1, 15, 25, 26, 29, 30, 31, 32, 33, 34, 35, 36, 37, 38]) (ps := [none, some 0, none, none, none, none, none, none, none, none, none, none, none, none, none, some 1, none, none, none, none, none, none, none, none, none, some 2, some 3, none, none, some 4, some 5, some 6, some 7, some 8, some 9, some 10, some 11, some 12, some 13, none, none, none, none, none, none, none, none, none, none, none, none, none, none, none, none, none, none, none, none, none, none, none, none, none, none, none, none, none, none, none, none, none, none, none, none, none, none, none, none, none, none, none, none, none, none, none, none, none, none, none, none, none, none, none, none, none, none, none, none, none, none, none, none, none, none, none, none, none, none, none, none, none, none, none]) (va_runV (As := [.int (Int32.ofInt v503), .int (Int32.ofInt v505), .int (Int32.ofInt v507)]) (rest := []) ⟨hx, hb, hml, hown, hts⟩ (c_HM_plan l ev dC dI cA (qa 13) (qa 14) (qa 15) (qa 16) (qa 17) (qa 18) (qa 19) (qa 20) (qa 21) (qa 22) (qa 23) (qa 24) (qa 25) (qa 26) (qa 27) (qa 28) (qa 29) (qa 30) (qa 31) (qa 32) (qa 33) (qa 34) (qa 35) (qa 36) (qa 37) (qa 38) (qa 39) (qa 40) (qa 41) (qa 42) (qa 43) (qa 44) ((σ 5)) ((σ 6)) ((σ 7)) ((σ 8)) ((σ 9)) ((σ 10)) ((σ 11)) ((σ 12)) ((σ 13)) ((σ 14)) ((σ 15)) ((σ 16)) ((σ 17)) ((σ 18)) ((σ 24)) ((σ 25)) hg H.size) (cwV 3 hts (zgVL zw_1646 zw_1647 zw_1648 zw_115 zw_1649) rfl rfl rfl hd_HM_plan ⟨Nat.le_of_ble_eq_true rfl, Nat.le_of_ble_eq_true rfl⟩) (xv_preV (T := TX11) (N := 53) hE hA hS hK hP hD (isC := [1, 15, 25, 26, 29, 30, 31, 32, 33, 34, 35, 36, 37, 38]) (by decide +kernel) hC (q0 := 1) (ci := 11) rfl rfl) rfl rfl hl.1 rfl (lv_room (Nat.le_of_ble_eq_true rfl)) dL_law_984 ⟨Nat.le_refl _, Nat.le_refl _⟩) hP hD hS hA (by decide +kernel) rfl hC rfl rfl (fun H locs hP hD hS => ?_)
        refine lv_pop hx hb dL_law_987 rfl ?_
        refine lv_goto (tgt := 1304) hx hb dL_law_988 (by decide) ?_
        exact b_1304 _ ih18 _ _ _ _ _ _ hf hP hD hS (lv_sub hl [0, 1, 2, 3] rfl)
      refine xz_if hf (fun hc hf => ?_) (fun hn27 hf => ?_)
      · refine xi_tin (tgt := 991) hx hb dL_law_33 hc (by decide) (by decide) rfl (by decide) ?_
        refine lv_aload_n hx hb dL_law_991 rfl (lv_at hl 1 rfl) ?_
        refine lv_aload_n hx hb dL_law_992 rfl (lv_at hl 0 rfl) ?_
        refine lv_iload_n hx hb dL_law_993 rfl (lv_at hl 3 rfl) ?_
        refine lv_iconst (v := Int32.ofInt 1) hx hb dL_law_994 rfl ?_
        refine xi_iadd hx hb dL_law_995 hf (fun v527 hf => ?_)
        refine xi_lld hx hb hX hbl hbA hS dL_law_996 hf (fun v528 hf => ?_)
        refine xe_d3 hf (fun v529 v530 a531 hg hf => ?_)
        have hC : ([0, 2, 12, 45, 77, 80, 81] : List Nat).map (fun i => (wd_LW_law cA qa σ τ)[i]?) = (wd_HS_weighs cA (qa 0) (qa 1) (qa 2) (qa 3) (qa 4) (qa 5) (qa 6) (qa 7) (qa 8) (qa 9) (qa 10) (qa 11) (qa 12) (qa 1) (qa 45) (qa 46) (qa 47) (qa 48) (qa 49) (qa 50) (qa 51) (qa 52) (qa 53) (qa 77) (qa 78) (qa 80) (qa 81) (σ 0) (σ 1) (σ 2) (σ 3) (σ 26) (σ 27) (σ 28) (σ 29) (σ 45) (σ 46) (σ 47) (σ 48) (σ 30) (σ 49) (τ 63) (τ 64) (σ 44) (τ 61)).map some := rfl
        refine xv_afterI (ws' := (wd_LW_law cA qa (zst σ [(44, v530)]) (zta τ [(61, a531)]))) (isC := [0, 2, 12, 45, 77, 80, 81]) (ps := [some 0, none, some 1, none, none, none, none, none, none, none, none, none, some 2, none, none, none, none, none, none, none, none, none, none, none, none, none, none, none, none, none, none, none, none, none, none, none, none, none, none, none, none, none, none, none, none, some 3, none, none, none, none, none, none, none, none, none, none, none, none, none, none, none, none, none, none, none, none, none, none, none, none, none, none, none, none, none, none, none, some 4, none, none, some 5, some 6, none, none, none, none, none, none, none, none, none, none, none, none, none, none, none, none, none, none, none, none, none, none, none, none, none, none, none, none, none, none, none, none]) (va_runV (As := [.int (Int32.ofInt v528)]) (rest := []) ⟨hx, hb, hml, hown, hts⟩ (c_HS_weighs l ev dC dI cA (qa 0) (qa 1) (qa 2) (qa 3) (qa 4) (qa 5) (qa 6) (qa 7) (qa 8) (qa 9) (qa 10) (qa 11) (qa 12) (qa 1) (qa 45) (qa 46) (qa 47) (qa 48) (qa 49) (qa 50) (qa 51) (qa 52) (qa 53) (qa 77) (qa 78) (qa 80) (qa 81) ((σ 0)) ((σ 1)) ((σ 2)) ((σ 3)) ((σ 26)) ((σ 27)) ((σ 28)) ((σ 29)) ((σ 45)) ((σ 46)) ((σ 47)) ((σ 48)) hg H.size) (cwV 1 hts (zgVL zw_1025 zw_1026 zw_1027 zw_104 zw_1028) rfl rfl rfl hd_HS_weighs ⟨Nat.le_of_ble_eq_true rfl, Nat.le_of_ble_eq_true rfl⟩) (xv_preV (T := TX10) (N := 16) hE hA hS hK hP hD (isC := [0, 2, 12, 45, 77, 80, 81]) (by decide +kernel) hC (q0 := 0) (ci := 10) rfl rfl) rfl rfl hl.1 rfl (lv_room (Nat.le_of_ble_eq_true rfl)) dL_law_997 ⟨Nat.le_refl _, Nat.le_refl _⟩) hP hD hS hA (by decide +kernel) rfl hC rfl rfl (fun H locs hP hD hS => ?_)
        refine lv_pop hx hb dL_law_1000 rfl ?_
        refine lv_aload_n hx hb dL_law_1001 rfl (lv_at hl 2 rfl) ?_
        refine lv_aload_n hx hb dL_law_1002 rfl (lv_at hl 0 rfl) ?_
        refine lv_iload_n hx hb dL_law_1003 rfl (lv_at hl 3 rfl) ?_
        refine lv_iconst (v := Int32.ofInt 1) hx hb dL_law_1004 rfl ?_
        refine xi_iadd hx hb dL_law_1005 hf (fun v532 hf => ?_)
        refine xi_lld hx hb hX hbl hbA hS dL_law_1006 hf (fun v533 hf => ?_)
        refine xe_d3 hf (fun v534 v535 a536 hg hf => ?_)
        have hC : ([1, 15, 39] : List Nat).map (fun i => (wd_LW_law cA qa (zst σ [(44, v530)]) (zta τ [(61, a531)]))[i]?) = (wd_HM_weighs cA (qa 13) (qa 14) (qa 15) (qa 16) (qa 17) (qa 18) (qa 19) (qa 20) (qa 21) (qa 22) (qa 23) (qa 24) (qa 25) (qa 26) (qa 27) (qa 28) (qa 29) (qa 30) (qa 31) (qa 32) (qa 33) (qa 34) (qa 35) (qa 36) (qa 37) (qa 38) (qa 39) (qa 40) (qa 41) (qa 42) (qa 43) (qa 44) (σ 5) (σ 6) (σ 7) (σ 8) (σ 9) (σ 10) (σ 11) (σ 12) (σ 13) (σ 14) (σ 15) (σ 16) (σ 17) (σ 18) (σ 19) (σ 20) (σ 21) (σ 22) (σ 23) (σ 24) (σ 25) (τ 4) (σ 4) (τ 28)).map some := rfl
        refine xv_afterI (ws' := (wd_LW_law cA qa (zst σ [(4, v535), (44, v530)]) (zta τ [(28, a536), (61, a531)]))) (isC := [1, 15, 39]) (ps := [none, some 0, none, none, none, none, none, none, none, none, none, none, none, none, none, some 1, none, none, none, none, none, none, none, none, none, none, none, none, none, none, none, none, none, none, none, none, none, none, none, some 2, none, none, none, none, none, none, none, none, none, none, none, none, none, none, none, none, none, none, none, none, none, none, none, none, none, none, none, none, none, none, none, none, none, none, none, none, none, none, none, none, none, none, none, none, none, none, none, none, none, none, none, none, none, none, none, none, none, none, none, none, none, none, none, none, none, none, none, none, none, none, none, none, none, none]) (va_runV (As := [.int (Int32.ofInt v533)]) (rest := []) ⟨hx, hb, hml, hown, hts⟩ (c_HM_weighs l ev dC dI cA (qa 13) (qa 14) (qa 15) (qa 16) (qa 17) (qa 18) (qa 19) (qa 20) (qa 21) (qa 22) (qa 23) (qa 24) (qa 25) (qa 26) (qa 27) (qa 28) (qa 29) (qa 30) (qa 31) (qa 32) (qa 33) (qa 34) (qa 35) (qa 36) (qa 37) (qa 38) (qa 39) (qa 40) (qa 41) (qa 42) (qa 43) (qa 44) ((σ 5)) ((σ 6)) ((σ 7)) ((σ 8)) ((σ 9)) ((σ 10)) ((σ 11)) ((σ 12)) ((σ 13)) ((σ 14)) ((σ 15)) ((σ 16)) ((σ 17)) ((σ 18)) ((σ 19)) ((σ 20)) ((σ 21)) ((σ 22)) ((σ 23)) ((σ 24)) ((σ 25)) hg H.size) (cwV 1 hts (zgVL zw_1720 zw_1721 zw_1722 zw_115 zw_1723) rfl rfl rfl hd_HM_weighs ⟨Nat.le_of_ble_eq_true rfl, Nat.le_of_ble_eq_true rfl⟩) (xv_preV (T := TX11) (N := 53) hE hA hS hK hP hD (isC := [1, 15, 39]) (by decide +kernel) hC (q0 := 1) (ci := 11) rfl rfl) rfl rfl hl.1 rfl (lv_room (Nat.le_of_ble_eq_true rfl)) dL_law_1007 ⟨Nat.le_refl _, Nat.le_refl _⟩) hP hD hS hA (by decide +kernel) rfl hC rfl rfl (fun H locs hP hD hS => ?_)
        refine lv_pop hx hb dL_law_1010 rfl ?_
        refine lv_goto (tgt := 1304) hx hb dL_law_1011 (by decide) ?_
        exact b_1304 _ ih18 _ _ _ _ _ _ hf hP hD hS (lv_sub hl [0, 1, 2, 3] rfl)
      refine xz_if hf (fun hc hf => ?_) (fun hn28 hf => ?_)
      · refine xi_tin (tgt := 1014) hx hb dL_law_33 hc (by decide) (by decide) rfl (by decide) ?_
        refine lv_aload_n hx hb dL_law_1014 rfl (lv_at hl 1 rfl) ?_
        refine lv_aload_n hx hb dL_law_1015 rfl (lv_at hl 0 rfl) ?_
        refine lv_iload_n hx hb dL_law_1016 rfl (lv_at hl 3 rfl) ?_
        refine lv_iconst (v := Int32.ofInt 1) hx hb dL_law_1017 rfl ?_
        refine xi_iadd hx hb dL_law_1018 hf (fun v537 hf => ?_)
        refine xi_lld hx hb hX hbl hbA hS dL_law_1019 hf (fun v538 hf => ?_)
        refine lv_aload_n hx hb dL_law_1020 rfl (lv_at hl 0 rfl) ?_
        refine lv_iload_n hx hb dL_law_1021 rfl (lv_at hl 3 rfl) ?_
        refine lv_iconst (v := Int32.ofInt 2) hx hb dL_law_1022 rfl ?_
        refine xi_iadd hx hb dL_law_1023 hf (fun v539 hf => ?_)
        refine xi_lld hx hb hX hbl hbA hS dL_law_1024 hf (fun v540 hf => ?_)
        refine xe_d5 hf (fun v541 v542 v543 a544 a545 hg hf => ?_)
        have hC : ([0, 2, 6, 48] : List Nat).map (fun i => (wd_LW_law cA qa σ τ)[i]?) = (wd_HS_trips cA (qa 0) (qa 1) (qa 2) (qa 3) (qa 4) (qa 5) (qa 6) (qa 7) (qa 8) (qa 9) (qa 10) (qa 11) (qa 12) (qa 45) (qa 46) (qa 47) (qa 48) (qa 49) (qa 50) (qa 51) (qa 52) (qa 53) (σ 0) (σ 1) (σ 2) (σ 27) (σ 28) (σ 29) (σ 26) (σ 3) (σ 30) (τ 2) (τ 36)).map some := rfl
        refine xv_afterI (ws' := (wd_LW_law cA qa (zst σ [(3, v542), (30, v543)]) (zta τ [(2, a544), (36, a545)]))) (isC := [0, 2, 6, 48]) (ps := [some 0, none, some 1, none, none, none, some 2, none, none, none, none, none, none, none, none, none, none, none, none, none, none, none, none, none, none, none, none, none, none, none, none, none, none, none, none, none, none, none, none, none, none, none, none, none, none, none, none, none, some 3, none, none, none, none, none, none, none, none, none, none, none, none, none, none, none, none, none, none, none, none, none, none, none, none, none, none, none, none, none, none, none, none, none, none, none, none, none, none, none, none, none, none, none, none, none, none, none, none, none, none, none, none, none, none, none, none, none, none, none, none, none, none, none, none, none]) (va_runV (As := [.int (Int32.ofInt v538), .int (Int32.ofInt v540)]) (rest := []) ⟨hx, hb, hml, hown, hts⟩ (c_HS_trips l ev dC dI cA (qa 0) (qa 1) (qa 2) (qa 3) (qa 4) (qa 5) (qa 6) (qa 7) (qa 8) (qa 9) (qa 10) (qa 11) (qa 12) (qa 45) (qa 46) (qa 47) (qa 48) (qa 49) (qa 50) (qa 51) (qa 52) (qa 53) ((σ 0)) ((σ 1)) ((σ 2)) ((σ 27)) ((σ 28)) ((σ 29)) hg H.size) (cwV 2 hts (zgVL zw_1042 zw_1043 zw_1044 zw_104 zw_1045) rfl rfl rfl hd_HS_trips ⟨Nat.le_of_ble_eq_true rfl, Nat.le_of_ble_eq_true rfl⟩) (xv_preV (T := TX10) (N := 16) hE hA hS hK hP hD (isC := [0, 2, 6, 48]) (by decide +kernel) hC (q0 := 0) (ci := 10) rfl rfl) rfl rfl hl.1 rfl (lv_room (Nat.le_of_ble_eq_true rfl)) dL_law_1025 ⟨Nat.le_refl _, Nat.le_refl _⟩) hP hD hS hA (by decide +kernel) rfl hC rfl rfl (fun H locs hP hD hS => ?_)
        refine lv_pop hx hb dL_law_1028 rfl ?_
        refine lv_aload_n hx hb dL_law_1029 rfl (lv_at hl 2 rfl) ?_
        refine lv_aload_n hx hb dL_law_1030 rfl (lv_at hl 0 rfl) ?_
        refine lv_iload_n hx hb dL_law_1031 rfl (lv_at hl 3 rfl) ?_
        refine lv_iconst (v := Int32.ofInt 1) hx hb dL_law_1032 rfl ?_
        refine xi_iadd hx hb dL_law_1033 hf (fun v546 hf => ?_)
        refine xi_lld hx hb hX hbl hbA hS dL_law_1034 hf (fun v547 hf => ?_)
        refine lv_aload_n hx hb dL_law_1035 rfl (lv_at hl 0 rfl) ?_
        refine lv_iload_n hx hb dL_law_1036 rfl (lv_at hl 3 rfl) ?_
        refine lv_iconst (v := Int32.ofInt 2) hx hb dL_law_1037 rfl ?_
        refine xi_iadd hx hb dL_law_1038 hf (fun v548 hf => ?_)
        refine xi_lld hx hb hX hbl hbA hS dL_law_1039 hf (fun v549 hf => ?_)
        refine xe_d5 hf (fun v550 v551 v552 a553 a554 hg hf => ?_)
        have hC : ([1, 14, 15] : List Nat).map (fun i => (wd_LW_law cA qa (zst σ [(3, v542), (30, v543)]) (zta τ [(2, a544), (36, a545)]))[i]?) = (wd_HM_trips cA (qa 13) (qa 14) (qa 15) (qa 16) (qa 17) (qa 18) (qa 19) (qa 20) (qa 21) (qa 22) (qa 23) (qa 24) (qa 25) (qa 26) (qa 27) (qa 28) (qa 29) (qa 30) (qa 31) (qa 32) (qa 33) (qa 34) (qa 35) (qa 36) (qa 37) (qa 38) (qa 39) (qa 40) (qa 41) (qa 42) (qa 43) (qa 44) (σ 6) (σ 7) (σ 8) (σ 9) (σ 10) (σ 11) (σ 12) (σ 13) (σ 14) (σ 15) (σ 16) (σ 17) (σ 18) (σ 19) (σ 20) (σ 21) (σ 22) (σ 23) (σ 24) (σ 25) (σ 4) (σ 5) (τ 3) (τ 4)).map some := rfl
        refine xv_afterI (ws' := (wd_LW_law cA qa (zst σ [(3, v542), (4, v551), (5, v552), (30, v543)]) (zta τ [(2, a544), (3, a553), (4, a554), (36, a545)]))) (isC := [1, 14, 15]) (ps := [none, some 0, none, none, none, none, none, none, none, none, none, none, none, none, some 1, some 2, none, none, none, none, none, none, none, none, none, none, none, none, none, none, none, none, none, none, none, none, none, none, none, none, none, none, none, none, none, none, none, none, none, none, none, none, none, none, none, none, none, none, none, none, none, none, none, none, none, none, none, none, none, none, none, none, none, none, none, none, none, none, none, none, none, none, none, none, none, none, none, none, none, none, none, none, none, none, none, none, none, none, none, none, none, none, none, none, none, none, none, none, none, none, none, none, none, none]) (va_runV (As := [.int (Int32.ofInt v547), .int (Int32.ofInt v549)]) (rest := []) ⟨hx, hb, hml, hown, hts⟩ (c_HM_trips l ev dC dI cA (qa 13) (qa 14) (qa 15) (qa 16) (qa 17) (qa 18) (qa 19) (qa 20) (qa 21) (qa 22) (qa 23) (qa 24) (qa 25) (qa 26) (qa 27) (qa 28) (qa 29) (qa 30) (qa 31) (qa 32) (qa 33) (qa 34) (qa 35) (qa 36) (qa 37) (qa 38) (qa 39) (qa 40) (qa 41) (qa 42) (qa 43) (qa 44) ((σ 6)) ((σ 7)) ((σ 8)) ((σ 9)) ((σ 10)) ((σ 11)) ((σ 12)) ((σ 13)) ((σ 14)) ((σ 15)) ((σ 16)) ((σ 17)) ((σ 18)) ((σ 19)) ((σ 20)) ((σ 21)) ((σ 22)) ((σ 23)) ((σ 24)) ((σ 25)) hg H.size) (cwV 2 hts (zgVL zw_1725 zw_1726 zw_1727 zw_115 zw_1728) rfl rfl rfl hd_HM_trips ⟨Nat.le_of_ble_eq_true rfl, Nat.le_of_ble_eq_true rfl⟩) (xv_preV (T := TX11) (N := 53) hE hA hS hK hP hD (isC := [1, 14, 15]) (by decide +kernel) hC (q0 := 1) (ci := 11) rfl rfl) rfl rfl hl.1 rfl (lv_room (Nat.le_of_ble_eq_true rfl)) dL_law_1040 ⟨Nat.le_refl _, Nat.le_refl _⟩) hP hD hS hA (by decide +kernel) rfl hC rfl rfl (fun H locs hP hD hS => ?_)
        refine lv_pop hx hb dL_law_1043 rfl ?_
        refine lv_goto (tgt := 1304) hx hb dL_law_1044 (by decide) ?_
        exact b_1304 _ ih18 _ _ _ _ _ _ hf hP hD hS (lv_sub hl [0, 1, 2, 3] rfl)
      refine xz_if hf (fun hc hf => ?_) (fun hn29 hf => ?_)
      · refine xi_tin (tgt := 1047) hx hb dL_law_33 hc (by decide) (by decide) rfl (by decide) ?_
        refine lv_aload_n hx hb dL_law_1047 rfl (lv_at hl 1 rfl) ?_
        refine lv_aload_n hx hb dL_law_1048 rfl (lv_at hl 0 rfl) ?_
        refine lv_iload_n hx hb dL_law_1049 rfl (lv_at hl 3 rfl) ?_
        refine lv_iconst (v := Int32.ofInt 1) hx hb dL_law_1050 rfl ?_
        refine xi_iadd hx hb dL_law_1051 hf (fun v555 hf => ?_)
        refine xi_lld hx hb hX hbl hbA hS dL_law_1052 hf (fun v556 hf => ?_)
        refine lv_aload_n hx hb dL_law_1053 rfl (lv_at hl 0 rfl) ?_
        refine lv_iload_n hx hb dL_law_1054 rfl (lv_at hl 3 rfl) ?_
        refine lv_iconst (v := Int32.ofInt 2) hx hb dL_law_1055 rfl ?_
        refine xi_iadd hx hb dL_law_1056 hf (fun v557 hf => ?_)
        refine xi_lld hx hb hX hbl hbA hS dL_law_1057 hf (fun v558 hf => ?_)
        refine lv_aload_n hx hb dL_law_1058 rfl (lv_at hl 0 rfl) ?_
        refine lv_iload_n hx hb dL_law_1059 rfl (lv_at hl 3 rfl) ?_
        refine lv_iconst (v := Int32.ofInt 3) hx hb dL_law_1060 rfl ?_
        refine xi_iadd hx hb dL_law_1061 hf (fun v559 hf => ?_)
        refine xi_lld hx hb hX hbl hbA hS dL_law_1062 hf (fun v560 hf => ?_)
        refine xe_d6 hf (fun v561 v562 v563 v564 v565 a566 hg hf => ?_)
        have hC : ([0, 2, 12, 48, 78] : List Nat).map (fun i => (wd_LW_law cA qa σ τ)[i]?) = (wd_HS_culprits cA (qa 0) (qa 1) (qa 2) (qa 3) (qa 4) (qa 5) (qa 6) (qa 7) (qa 8) (qa 9) (qa 10) (qa 11) (qa 12) (qa 1) (qa 45) (qa 46) (qa 47) (qa 48) (qa 49) (qa 50) (qa 51) (qa 52) (qa 53) (qa 77) (qa 78) (σ 0) (σ 1) (σ 2) (σ 3) (σ 27) (σ 28) (σ 29) (σ 30) (σ 44) (σ 26) (τ 36) (σ 45) (σ 46) (σ 47) (σ 48) (τ 62)).map some := rfl
        refine xv_afterI (ws' := (wd_LW_law cA qa (zst σ [(45, v562), (46, v563), (47, v564), (48, v565)]) (zta τ [(62, a566)]))) (isC := [0, 2, 12, 48, 78]) (ps := [some 0, none, some 1, none, none, none, none, none, none, none, none, none, some 2, none, none, none, none, none, none, none, none, none, none, none, none, none, none, none, none, none, none, none, none, none, none, none, none, none, none, none, none, none, none, none, none, none, none, none, some 3, none, none, none, none, none, none, none, none, none, none, none, none, none, none, none, none, none, none, none, none, none, none, none, none, none, none, none, none, none, some 4, none, none, none, none, none, none, none, none, none, none, none, none, none, none, none, none, none, none, none, none, none, none, none, none, none, none, none, none, none, none, none, none, none, none, none]) (va_runV (As := [.int (Int32.ofInt v556), .int (Int32.ofInt v558), .int (Int32.ofInt v560)]) (rest := []) ⟨hx, hb, hml, hown, hts⟩ (c_HS_culprits l ev dC dI cA (qa 0) (qa 1) (qa 2) (qa 3) (qa 4) (qa 5) (qa 6) (qa 7) (qa 8) (qa 9) (qa 10) (qa 11) (qa 12) (qa 1) (qa 45) (qa 46) (qa 47) (qa 48) (qa 49) (qa 50) (qa 51) (qa 52) (qa 53) (qa 77) (qa 78) ((σ 0)) ((σ 1)) ((σ 2)) ((σ 3)) ((σ 27)) ((σ 28)) ((σ 29)) ((σ 30)) ((σ 44)) hg H.size) (cwV 3 hts (zgVL zw_1046 zw_1047 zw_1048 zw_104 zw_1049) rfl rfl rfl hd_HS_culprits ⟨Nat.le_of_ble_eq_true rfl, Nat.le_of_ble_eq_true rfl⟩) (xv_preV (T := TX10) (N := 16) hE hA hS hK hP hD (isC := [0, 2, 12, 48, 78]) (by decide +kernel) hC (q0 := 0) (ci := 10) rfl rfl) rfl rfl hl.1 rfl (lv_room (Nat.le_of_ble_eq_true rfl)) dL_law_1063 ⟨Nat.le_refl _, Nat.le_refl _⟩) hP hD hS hA (by decide +kernel) rfl hC rfl rfl (fun H locs hP hD hS => ?_)
        refine lv_pop hx hb dL_law_1066 rfl ?_
        refine lv_aload_n hx hb dL_law_1067 rfl (lv_at hl 2 rfl) ?_
        refine lv_aload_n hx hb dL_law_1068 rfl (lv_at hl 0 rfl) ?_
        refine lv_iload_n hx hb dL_law_1069 rfl (lv_at hl 3 rfl) ?_
        refine lv_iconst (v := Int32.ofInt 1) hx hb dL_law_1070 rfl ?_
        refine xi_iadd hx hb dL_law_1071 hf (fun v567 hf => ?_)
        refine xi_lld hx hb hX hbl hbA hS dL_law_1072 hf (fun v568 hf => ?_)
        refine lv_aload_n hx hb dL_law_1073 rfl (lv_at hl 0 rfl) ?_
        refine lv_iload_n hx hb dL_law_1074 rfl (lv_at hl 3 rfl) ?_
        refine lv_iconst (v := Int32.ofInt 2) hx hb dL_law_1075 rfl ?_
        refine xi_iadd hx hb dL_law_1076 hf (fun v569 hf => ?_)
        refine xi_lld hx hb hX hbl hbA hS dL_law_1077 hf (fun v570 hf => ?_)
        refine lv_aload_n hx hb dL_law_1078 rfl (lv_at hl 0 rfl) ?_
        refine lv_iload_n hx hb dL_law_1079 rfl (lv_at hl 3 rfl) ?_
        refine lv_iconst (v := Int32.ofInt 3) hx hb dL_law_1080 rfl ?_
        refine xi_iadd hx hb dL_law_1081 hf (fun v571 hf => ?_)
        refine xi_lld hx hb hX hbl hbA hS dL_law_1082 hf (fun v572 hf => ?_)
        refine xe_d3 hf (fun v573 v574 a575 hg hf => ?_)
        have hC : ([1, 15, 40] : List Nat).map (fun i => (wd_LW_law cA qa (zst σ [(45, v562), (46, v563), (47, v564), (48, v565)]) (zta τ [(62, a566)]))[i]?) = (wd_HM_culprits cA (qa 13) (qa 14) (qa 15) (qa 16) (qa 17) (qa 18) (qa 19) (qa 20) (qa 21) (qa 22) (qa 23) (qa 24) (qa 25) (qa 26) (qa 27) (qa 28) (qa 29) (qa 30) (qa 31) (qa 32) (qa 33) (qa 34) (qa 35) (qa 36) (qa 37) (qa 38) (qa 39) (qa 40) (qa 41) (qa 42) (qa 43) (qa 44) (σ 5) (σ 6) (σ 7) (σ 8) (σ 9) (σ 10) (σ 11) (σ 12) (σ 13) (σ 14) (σ 15) (σ 16) (σ 17) (σ 18) (σ 19) (σ 20) (σ 21) (σ 22) (σ 23) (σ 24) (σ 25) (τ 4) (σ 4) (τ 29)).map some := rfl
        refine xv_afterI (ws' := (wd_LW_law cA qa (zst σ [(4, v574), (45, v562), (46, v563), (47, v564), (48, v565)]) (zta τ [(29, a575), (62, a566)]))) (isC := [1, 15, 40]) (ps := [none, some 0, none, none, none, none, none, none, none, none, none, none, none, none, none, some 1, none, none, none, none, none, none, none, none, none, none, none, none, none, none, none, none, none, none, none, none, none, none, none, none, some 2, none, none, none, none, none, none, none, none, none, none, none, none, none, none, none, none, none, none, none, none, none, none, none, none, none, none, none, none, none, none, none, none, none, none, none, none, none, none, none, none, none, none, none, none, none, none, none, none, none, none, none, none, none, none, none, none, none, none, none, none, none, none, none, none, none, none, none, none, none, none, none, none, none]) (va_runV (As := [.int (Int32.ofInt v568), .int (Int32.ofInt v570), .int (Int32.ofInt v572)]) (rest := []) ⟨hx, hb, hml, hown, hts⟩ (c_HM_culprits l ev dC dI cA (qa 13) (qa 14) (qa 15) (qa 16) (qa 17) (qa 18) (qa 19) (qa 20) (qa 21) (qa 22) (qa 23) (qa 24) (qa 25) (qa 26) (qa 27) (qa 28) (qa 29) (qa 30) (qa 31) (qa 32) (qa 33) (qa 34) (qa 35) (qa 36) (qa 37) (qa 38) (qa 39) (qa 40) (qa 41) (qa 42) (qa 43) (qa 44) ((σ 5)) ((σ 6)) ((σ 7)) ((σ 8)) ((σ 9)) ((σ 10)) ((σ 11)) ((σ 12)) ((σ 13)) ((σ 14)) ((σ 15)) ((σ 16)) ((σ 17)) ((σ 18)) ((σ 19)) ((σ 20)) ((σ 21)) ((σ 22)) ((σ 23)) ((σ 24)) ((σ 25)) hg H.size) (cwV 3 hts (zgVL zw_1729 zw_1730 zw_1731 zw_115 zw_1732) rfl rfl rfl hd_HM_culprits ⟨Nat.le_of_ble_eq_true rfl, Nat.le_of_ble_eq_true rfl⟩) (xv_preV (T := TX11) (N := 53) hE hA hS hK hP hD (isC := [1, 15, 40]) (by decide +kernel) hC (q0 := 1) (ci := 11) rfl rfl) rfl rfl hl.1 rfl (lv_room (Nat.le_of_ble_eq_true rfl)) dL_law_1083 ⟨Nat.le_refl _, Nat.le_refl _⟩) hP hD hS hA (by decide +kernel) rfl hC rfl rfl (fun H locs hP hD hS => ?_)
        refine lv_pop hx hb dL_law_1086 rfl ?_
        refine lv_goto (tgt := 1304) hx hb dL_law_1087 (by decide) ?_
        exact b_1304 _ ih18 _ _ _ _ _ _ hf hP hD hS (lv_sub hl [0, 1, 2, 3] rfl)
      refine xz_if hf (fun hc hf => ?_) (fun hn30 hf => ?_)
      · refine xi_tin (tgt := 1090) hx hb dL_law_33 hc (by decide) (by decide) rfl (by decide) ?_
        refine lv_aload_n hx hb dL_law_1090 rfl (lv_at hl 1 rfl) ?_
        refine lv_aload_n hx hb dL_law_1091 rfl (lv_at hl 0 rfl) ?_
        refine lv_iload_n hx hb dL_law_1092 rfl (lv_at hl 3 rfl) ?_
        refine lv_iconst (v := Int32.ofInt 1) hx hb dL_law_1093 rfl ?_
        refine xi_iadd hx hb dL_law_1094 hf (fun v576 hf => ?_)
        refine xi_lld hx hb hX hbl hbA hS dL_law_1095 hf (fun v577 hf => ?_)
        refine lv_aload_n hx hb dL_law_1096 rfl (lv_at hl 0 rfl) ?_
        refine lv_iload_n hx hb dL_law_1097 rfl (lv_at hl 3 rfl) ?_
        refine lv_iconst (v := Int32.ofInt 2) hx hb dL_law_1098 rfl ?_
        refine xi_iadd hx hb dL_law_1099 hf (fun v578 hf => ?_)
        refine xi_lld hx hb hX hbl hbA hS dL_law_1100 hf (fun v579 hf => ?_)
        refine lv_aload_n hx hb dL_law_1101 rfl (lv_at hl 0 rfl) ?_
        refine lv_iload_n hx hb dL_law_1102 rfl (lv_at hl 3 rfl) ?_
        refine lv_iconst (v := Int32.ofInt 3) hx hb dL_law_1103 rfl ?_
        refine xi_iadd hx hb dL_law_1104 hf (fun v580 hf => ?_)
        refine xi_lld hx hb hX hbl hbA hS dL_law_1105 hf (fun v581 hf => ?_)
        refine xe_d16 hf (fun v582 v583 v584 v585 v586 v587 v588 v589 a590 a591 a592 v593 a594 a595 a596 a597 hg hf => ?_)
        have hC : ([0, 2, 8, 9, 11, 45, 46, 47, 49, 50, 52, 53, 60, 61, 62, 74, 75, 76, 80, 81, 103, 104] : List Nat).map (fun i => (wd_LW_law cA qa σ τ)[i]?) = (wd_HS_duel cA (qa 0) (qa 1) (qa 2) (qa 3) (qa 4) (qa 5) (qa 6) (qa 7) (qa 8) (qa 9) (qa 10) (qa 11) (qa 12) (qa 45) (qa 46) (qa 47) (qa 48) (qa 49) (qa 50) (qa 51) (qa 52) (qa 53) (qa 7) (qa 60) (qa 61) (qa 8) (qa 62) (qa 74) (qa 75) (qa 76) (qa 80) (qa 81) (qa 103) (qa 104) (σ 0) (σ 1) (σ 2) (σ 3) (σ 26) (σ 27) (σ 28) (σ 29) (σ 30) (σ 49) (τ 34) (τ 35) (τ 37) (τ 38) (τ 40) (τ 41) (τ 63) (τ 64) (σ 34) (σ 35) (σ 36) (σ 40) (σ 41) (σ 42) (σ 43) (τ 46) (τ 47) (τ 48) (σ 60) (τ 59) (τ 60) (τ 81) (τ 82)).map some := rfl
        refine xv_afterI (ws' := (wd_LW_law cA qa (zst σ [(34, v583), (35, v584), (36, v585), (40, v586), (41, v587), (42, v588), (43, v589), (60, v593)]) (zta τ [(46, a590), (47, a591), (48, a592), (59, a594), (60, a595), (81, a596), (82, a597)]))) (isC := [0, 2, 8, 9, 11, 45, 46, 47, 49, 50, 52, 53, 60, 61, 62, 74, 75, 76, 80, 81, 103, 104]) (ps := [some 0, none, some 1, none, none, none, none, none, some 2, some 3, none, some 4, none, none, none, none, none, none, none, none, none, none, none, none, none, none, none, none, none, none, none, none, none, none, none, none, none, none, none, none, none, none, none, none, none, some 5, some 6, some 7, none, some 8, some 9, none, some 10, some 11, none, none, none, none, none, none, some 12, some 13, some 14, none, none, none, none, none, none, none, none, none, none, none, some 15, some 16, some 17, none, none, none, some 18, some 19, none, none, none, none, none, none, none, none, none, none, none, none, none, none, none, none, none, none, none, none, none, some 20, some 21, none, none, none, none, none, none, none, none, none]) (va_runV (As := [.int (Int32.ofInt v577), .int (Int32.ofInt v579), .int (Int32.ofInt v581)]) (rest := []) ⟨hx, hb, hml, hown, hts⟩ (c_HS_duel l ev dC dI cA (qa 0) (qa 1) (qa 2) (qa 3) (qa 4) (qa 5) (qa 6) (qa 7) (qa 8) (qa 9) (qa 10) (qa 11) (qa 12) (qa 45) (qa 46) (qa 47) (qa 48) (qa 49) (qa 50) (qa 51) (qa 52) (qa 53) (qa 7) (qa 60) (qa 61) (qa 8) (qa 62) (qa 74) (qa 75) (qa 76) (qa 80) (qa 81) (qa 103) (qa 104) ((σ 0)) ((σ 1)) ((σ 2)) ((σ 3)) hg H.size) (cwV 3 hts (zgVL zw_1071 zw_1072 zw_1073 zw_104 zw_1074) rfl rfl rfl hd_HS_duel ⟨Nat.le_of_ble_eq_true rfl, Nat.le_of_ble_eq_true rfl⟩) (xv_preV (T := TX10) (N := 16) hE hA hS hK hP hD (isC := [0, 2, 8, 9, 11, 45, 46, 47, 49, 50, 52, 53, 60, 61, 62, 74, 75, 76, 80, 81, 103, 104]) (by decide +kernel) hC (q0 := 0) (ci := 10) rfl rfl) rfl rfl hl.1 rfl (lv_room (Nat.le_of_ble_eq_true rfl)) dL_law_1106 ⟨Nat.le_refl _, Nat.le_refl _⟩) hP hD hS hA (by decide +kernel) rfl hC rfl rfl (fun H locs hP hD hS => ?_)
        refine lv_pop hx hb dL_law_1109 rfl ?_
        refine lv_aload_n hx hb dL_law_1110 rfl (lv_at hl 2 rfl) ?_
        refine lv_aload_n hx hb dL_law_1111 rfl (lv_at hl 0 rfl) ?_
        refine lv_iload_n hx hb dL_law_1112 rfl (lv_at hl 3 rfl) ?_
        refine lv_iconst (v := Int32.ofInt 1) hx hb dL_law_1113 rfl ?_
        refine xi_iadd hx hb dL_law_1114 hf (fun v598 hf => ?_)
        refine xi_lld hx hb hX hbl hbA hS dL_law_1115 hf (fun v599 hf => ?_)
        refine lv_aload_n hx hb dL_law_1116 rfl (lv_at hl 0 rfl) ?_
        refine lv_iload_n hx hb dL_law_1117 rfl (lv_at hl 3 rfl) ?_
        refine lv_iconst (v := Int32.ofInt 2) hx hb dL_law_1118 rfl ?_
        refine xi_iadd hx hb dL_law_1119 hf (fun v600 hf => ?_)
        refine xi_lld hx hb hX hbl hbA hS dL_law_1120 hf (fun v601 hf => ?_)
        refine lv_aload_n hx hb dL_law_1121 rfl (lv_at hl 0 rfl) ?_
        refine lv_iload_n hx hb dL_law_1122 rfl (lv_at hl 3 rfl) ?_
        refine lv_iconst (v := Int32.ofInt 3) hx hb dL_law_1123 rfl ?_
        refine xi_iadd hx hb dL_law_1124 hf (fun v602 hf => ?_)
        refine xi_lld hx hb hX hbl hbA hS dL_law_1125 hf (fun v603 hf => ?_)
        refine xe_d13 hf (fun v604 v605 v606 v607 v608 v609 a610 a611 a612 a613 a614 a615 a616 hg hf => ?_)
        have hC : ([1, 15, 25, 26, 27, 28, 41, 42, 43] : List Nat).map (fun i => (wd_LW_law cA qa (zst σ [(34, v583), (35, v584), (36, v585), (40, v586), (41, v587), (42, v588), (43, v589), (60, v593)]) (zta τ [(46, a590), (47, a591), (48, a592), (59, a594), (60, a595), (81, a596), (82, a597)]))[i]?) = (wd_HM_duel cA (qa 13) (qa 14) (qa 15) (qa 16) (qa 17) (qa 18) (qa 19) (qa 20) (qa 21) (qa 22) (qa 23) (qa 24) (qa 25) (qa 26) (qa 27) (qa 28) (qa 29) (qa 30) (qa 31) (qa 32) (qa 33) (qa 34) (qa 35) (qa 36) (qa 37) (qa 38) (qa 39) (qa 40) (qa 41) (qa 42) (qa 43) (qa 44) (σ 5) (σ 6) (σ 7) (σ 8) (σ 9) (σ 10) (σ 11) (σ 12) (σ 13) (σ 14) (σ 15) (σ 16) (σ 17) (σ 18) (σ 23) (σ 24) (σ 25) (τ 4) (σ 4) (σ 19) (σ 20) (σ 21) (σ 22) (τ 14) (τ 15) (τ 16) (τ 17) (τ 30) (τ 31) (τ 32)).map some := rfl
        refine xv_afterI (ws' := (wd_LW_law cA qa (zst σ [(4, v605), (19, v606), (20, v607), (21, v608), (22, v609), (34, v583), (35, v584), (36, v585), (40, v586), (41, v587), (42, v588), (43, v589), (60, v593)]) (zta τ [(14, a610), (15, a611), (16, a612), (17, a613), (30, a614), (31, a615), (32, a616), (46, a590), (47, a591), (48, a592), (59, a594), (60, a595), (81, a596), (82, a597)]))) (isC := [1, 15, 25, 26, 27, 28, 41, 42, 43]) (ps := [none, some 0, none, none, none, none, none, none, none, none, none, none, none, none, none, some 1, none, none, none, none, none, none, none, none, none, some 2, some 3, some 4, some 5, none, none, none, none, none, none, none, none, none, none, none, none, some 6, some 7, some 8, none, none, none, none, none, none, none, none, none, none, none, none, none, none, none, none, none, none, none, none, none, none, none, none, none, none, none, none, none, none, none, none, none, none, none, none, none, none, none, none, none, none, none, none, none, none, none, none, none, none, none, none, none, none, none, none, none, none, none, none, none, none, none, none, none, none, none, none, none, none]) (va_runV (As := [.int (Int32.ofInt v599), .int (Int32.ofInt v601), .int (Int32.ofInt v603)]) (rest := []) ⟨hx, hb, hml, hown, hts⟩ (c_HM_duel l ev dC dI cA (qa 13) (qa 14) (qa 15) (qa 16) (qa 17) (qa 18) (qa 19) (qa 20) (qa 21) (qa 22) (qa 23) (qa 24) (qa 25) (qa 26) (qa 27) (qa 28) (qa 29) (qa 30) (qa 31) (qa 32) (qa 33) (qa 34) (qa 35) (qa 36) (qa 37) (qa 38) (qa 39) (qa 40) (qa 41) (qa 42) (qa 43) (qa 44) ((σ 5)) ((σ 6)) ((σ 7)) ((σ 8)) ((σ 9)) ((σ 10)) ((σ 11)) ((σ 12)) ((σ 13)) ((σ 14)) ((σ 15)) ((σ 16)) ((σ 17)) ((σ 18)) ((σ 23)) ((σ 24)) ((σ 25)) hg H.size) (cwV 3 hts (zgVL zw_1742 zw_1743 zw_1744 zw_115 zw_1745) rfl rfl rfl hd_HM_duel ⟨Nat.le_of_ble_eq_true rfl, Nat.le_of_ble_eq_true rfl⟩) (xv_preV (T := TX11) (N := 53) hE hA hS hK hP hD (isC := [1, 15, 25, 26, 27, 28, 41, 42, 43]) (by decide +kernel) hC (q0 := 1) (ci := 11) rfl rfl) rfl rfl hl.1 rfl (lv_room (Nat.le_of_ble_eq_true rfl)) dL_law_1126 ⟨Nat.le_refl _, Nat.le_refl _⟩) hP hD hS hA (by decide +kernel) rfl hC rfl rfl (fun H locs hP hD hS => ?_)
        refine lv_pop hx hb dL_law_1129 rfl ?_
        refine lv_goto (tgt := 1304) hx hb dL_law_1130 (by decide) ?_
        exact b_1304 _ ih18 _ _ _ _ _ _ hf hP hD hS (lv_sub hl [0, 1, 2, 3] rfl)
      refine xz_if hf (fun hc hf => ?_) (fun hn31 hf => ?_)
      · refine xi_tin (tgt := 1133) hx hb dL_law_33 hc (by decide) (by decide) rfl (by decide) ?_
        refine lv_aload_n hx hb dL_law_1133 rfl (lv_at hl 1 rfl) ?_
        refine lv_aload_n hx hb dL_law_1134 rfl (lv_at hl 0 rfl) ?_
        refine lv_iload_n hx hb dL_law_1135 rfl (lv_at hl 3 rfl) ?_
        refine lv_iconst (v := Int32.ofInt 1) hx hb dL_law_1136 rfl ?_
        refine xi_iadd hx hb dL_law_1137 hf (fun v617 hf => ?_)
        refine xi_lld hx hb hX hbl hbA hS dL_law_1138 hf (fun v618 hf => ?_)
        refine xe_d1 hf (fun v619 hg hf => ?_)
        have hC : ([0, 2, 12, 45, 80, 81] : List Nat).map (fun i => (wd_LW_law cA qa σ τ)[i]?) = (wd_HS_layers cA (qa 0) (qa 1) (qa 2) (qa 3) (qa 4) (qa 5) (qa 6) (qa 7) (qa 8) (qa 9) (qa 10) (qa 11) (qa 12) (qa 45) (qa 46) (qa 47) (qa 48) (qa 49) (qa 50) (qa 51) (qa 52) (qa 53) (qa 77) (qa 78) (qa 80) (qa 81) (σ 0) (σ 1) (σ 2) (σ 3) (σ 26) (σ 27) (σ 28) (σ 29) (σ 30) (σ 44) (σ 45) (σ 46) (σ 47) (σ 48) (σ 49) (τ 63) (τ 64)).map some := rfl
        refine xv_afterI (ws' := (wd_LW_law cA qa σ τ)) (isC := [0, 2, 12, 45, 80, 81]) (ps := [some 0, none, some 1, none, none, none, none, none, none, none, none, none, some 2, none, none, none, none, none, none, none, none, none, none, none, none, none, none, none, none, none, none, none, none, none, none, none, none, none, none, none, none, none, none, none, none, some 3, none, none, none, none, none, none, none, none, none, none, none, none, none, none, none, none, none, none, none, none, none, none, none, none, none, none, none, none, none, none, none, none, none, none, some 4, some 5, none, none, none, none, none, none, none, none, none, none, none, none, none, none, none, none, none, none, none, none, none, none, none, none, none, none, none, none, none, none, none, none]) (va_runV (As := [.int (Int32.ofInt v618)]) (rest := []) ⟨hx, hb, hml, hown, hts⟩ (c_HS_layers l ev dC dI cA (qa 0) (qa 1) (qa 2) (qa 3) (qa 4) (qa 5) (qa 6) (qa 7) (qa 8) (qa 9) (qa 10) (qa 11) (qa 12) (qa 45) (qa 46) (qa 47) (qa 48) (qa 49) (qa 50) (qa 51) (qa 52) (qa 53) (qa 77) (qa 78) (qa 80) (qa 81) ((σ 0)) ((σ 1)) ((σ 2)) ((σ 3)) ((σ 26)) ((σ 27)) ((σ 28)) ((σ 29)) ((σ 30)) ((σ 44)) ((σ 45)) ((σ 46)) ((σ 47)) ((σ 48)) hg H.size) (cwV 1 hts (zgVL zw_1097 zw_1098 zw_1099 zw_104 zw_1100) rfl rfl rfl hd_HS_layers ⟨Nat.le_of_ble_eq_true rfl, Nat.le_of_ble_eq_true rfl⟩) (xv_preV (T := TX10) (N := 16) hE hA hS hK hP hD (isC := [0, 2, 12, 45, 80, 81]) (by decide +kernel) hC (q0 := 0) (ci := 10) rfl rfl) rfl rfl hl.1 rfl (lv_room (Nat.le_of_ble_eq_true rfl)) dL_law_1139 ⟨Nat.le_refl _, Nat.le_refl _⟩) hP hD hS hA (by decide +kernel) rfl hC rfl rfl (fun H locs hP hD hS => ?_)
        refine lv_pop hx hb dL_law_1142 rfl ?_
        refine lv_aload_n hx hb dL_law_1143 rfl (lv_at hl 2 rfl) ?_
        refine lv_aload_n hx hb dL_law_1144 rfl (lv_at hl 0 rfl) ?_
        refine lv_iload_n hx hb dL_law_1145 rfl (lv_at hl 3 rfl) ?_
        refine lv_iconst (v := Int32.ofInt 1) hx hb dL_law_1146 rfl ?_
        refine xi_iadd hx hb dL_law_1147 hf (fun v620 hf => ?_)
        refine xi_lld hx hb hX hbl hbA hS dL_law_1148 hf (fun v621 hf => ?_)
        refine xe_d2 hf (fun v622 v623 hg hf => ?_)
        have hC : ([1, 15] : List Nat).map (fun i => (wd_LW_law cA qa σ τ)[i]?) = (wd_HM_layers cA (qa 13) (qa 14) (qa 15) (qa 16) (qa 17) (qa 18) (qa 19) (qa 20) (qa 21) (qa 22) (qa 23) (qa 24) (qa 25) (qa 26) (qa 27) (qa 28) (qa 29) (qa 30) (qa 31) (qa 32) (qa 33) (qa 34) (qa 35) (qa 36) (qa 37) (qa 38) (qa 39) (qa 40) (qa 41) (qa 42) (qa 43) (qa 44) (σ 5) (σ 6) (σ 7) (σ 8) (σ 9) (σ 10) (σ 11) (σ 12) (σ 13) (σ 14) (σ 15) (σ 16) (σ 17) (σ 18) (σ 19) (σ 20) (σ 21) (σ 22) (σ 23) (σ 24) (σ 25) (τ 4) (σ 4)).map some := rfl
        refine xv_afterI (ws' := (wd_LW_law cA qa (zst σ [(4, v623)]) τ)) (isC := [1, 15]) (ps := [none, some 0, none, none, none, none, none, none, none, none, none, none, none, none, none, some 1, none, none, none, none, none, none, none, none, none, none, none, none, none, none, none, none, none, none, none, none, none, none, none, none, none, none, none, none, none, none, none, none, none, none, none, none, none, none, none, none, none, none, none, none, none, none, none, none, none, none, none, none, none, none, none, none, none, none, none, none, none, none, none, none, none, none, none, none, none, none, none, none, none, none, none, none, none, none, none, none, none, none, none, none, none, none, none, none, none, none, none, none, none, none, none, none, none, none]) (va_runV (As := [.int (Int32.ofInt v621)]) (rest := []) ⟨hx, hb, hml, hown, hts⟩ (c_HM_layers l ev dC dI cA (qa 13) (qa 14) (qa 15) (qa 16) (qa 17) (qa 18) (qa 19) (qa 20) (qa 21) (qa 22) (qa 23) (qa 24) (qa 25) (qa 26) (qa 27) (qa 28) (qa 29) (qa 30) (qa 31) (qa 32) (qa 33) (qa 34) (qa 35) (qa 36) (qa 37) (qa 38) (qa 39) (qa 40) (qa 41) (qa 42) (qa 43) (qa 44) ((σ 5)) ((σ 6)) ((σ 7)) ((σ 8)) ((σ 9)) ((σ 10)) ((σ 11)) ((σ 12)) ((σ 13)) ((σ 14)) ((σ 15)) ((σ 16)) ((σ 17)) ((σ 18)) ((σ 19)) ((σ 20)) ((σ 21)) ((σ 22)) ((σ 23)) ((σ 24)) ((σ 25)) hg H.size) (cwV 1 hts (zgVL zw_1762 zw_1763 zw_1764 zw_115 zw_1765) rfl rfl rfl hd_HM_layers ⟨Nat.le_of_ble_eq_true rfl, Nat.le_of_ble_eq_true rfl⟩) (xv_preV (T := TX11) (N := 53) hE hA hS hK hP hD (isC := [1, 15]) (by decide +kernel) hC (q0 := 1) (ci := 11) rfl rfl) rfl rfl hl.1 rfl (lv_room (Nat.le_of_ble_eq_true rfl)) dL_law_1149 ⟨Nat.le_refl _, Nat.le_refl _⟩) hP hD hS hA (by decide +kernel) rfl hC rfl rfl (fun H locs hP hD hS => ?_)
        refine lv_pop hx hb dL_law_1152 rfl ?_
        refine lv_goto (tgt := 1304) hx hb dL_law_1153 (by decide) ?_
        exact b_1304 _ ih18 _ _ _ _ _ _ hf hP hD hS (lv_sub hl [0, 1, 2, 3] rfl)
      refine xz_if hf (fun hc hf => ?_) (fun hn32 hf => ?_)
      · refine xi_tin (tgt := 1156) hx hb dL_law_33 hc (by decide) (by decide) rfl (by decide) ?_
        refine lv_aload_n hx hb dL_law_1156 rfl (lv_at hl 1 rfl) ?_
        refine lv_aload_n hx hb dL_law_1157 rfl (lv_at hl 0 rfl) ?_
        refine lv_iload_n hx hb dL_law_1158 rfl (lv_at hl 3 rfl) ?_
        refine lv_iconst (v := Int32.ofInt 1) hx hb dL_law_1159 rfl ?_
        refine xi_iadd hx hb dL_law_1160 hf (fun v624 hf => ?_)
        refine xi_lld hx hb hX hbl hbA hS dL_law_1161 hf (fun v625 hf => ?_)
        refine lv_aload_n hx hb dL_law_1162 rfl (lv_at hl 0 rfl) ?_
        refine lv_iload_n hx hb dL_law_1163 rfl (lv_at hl 3 rfl) ?_
        refine lv_iconst (v := Int32.ofInt 2) hx hb dL_law_1164 rfl ?_
        refine xi_iadd hx hb dL_law_1165 hf (fun v626 hf => ?_)
        refine xi_lld hx hb hX hbl hbA hS dL_law_1166 hf (fun v627 hf => ?_)
        refine xe_d7 hf (fun v628 v629 v630 a631 v632 a633 a634 hg hf => ?_)
        have hC : ([0, 2, 6, 13, 45, 50, 79, 80, 81, 105, 106] : List Nat).map (fun i => (wd_LW_law cA qa σ τ)[i]?) = (wd_HS_rain cA (qa 0) (qa 1) (qa 2) (qa 3) (qa 4) (qa 5) (qa 6) (qa 7) (qa 8) (qa 9) (qa 10) (qa 11) (qa 12) (qa 45) (qa 46) (qa 47) (qa 48) (qa 49) (qa 50) (qa 51) (qa 52) (qa 53) (qa 79) (qa 80) (qa 81) (qa 105) (qa 106) (σ 0) (σ 1) (σ 2) (σ 26) (σ 27) (σ 28) (σ 29) (σ 49) (τ 38) (τ 63) (τ 64) (σ 3) (σ 30) (τ 2) (σ 61) (τ 83) (τ 84)).map some := rfl
        refine xv_afterI (ws' := (wd_LW_law cA qa (zst σ [(3, v629), (30, v630), (61, v632)]) (zta τ [(2, a631), (83, a633), (84, a634)]))) (isC := [0, 2, 6, 13, 45, 50, 79, 80, 81, 105, 106]) (ps := [some 0, none, some 1, none, none, none, some 2, none, none, none, none, none, none, some 3, none, none, none, none, none, none, none, none, none, none, none, none, none, none, none, none, none, none, none, none, none, none, none, none, none, none, none, none, none, none, none, some 4, none, none, none, none, some 5, none, none, none, none, none, none, none, none, none, none, none, none, none, none, none, none, none, none, none, none, none, none, none, none, none, none, none, none, some 6, some 7, some 8, none, none, none, none, none, none, none, none, none, none, none, none, none, none, none, none, none, none, none, none, none, none, none, some 9, some 10, none, none, none, none, none, none, none]) (va_runV (As := [.int (Int32.ofInt v625), .int (Int32.ofInt v627)]) (rest := []) ⟨hx, hb, hml, hown, hts⟩ (c_HS_rain l ev dC dI cA (qa 0) (qa 1) (qa 2) (qa 3) (qa 4) (qa 5) (qa 6) (qa 7) (qa 8) (qa 9) (qa 10) (qa 11) (qa 12) (qa 45) (qa 46) (qa 47) (qa 48) (qa 49) (qa 50) (qa 51) (qa 52) (qa 53) (qa 79) (qa 80) (qa 81) (qa 105) (qa 106) ((σ 0)) ((σ 1)) ((σ 2)) ((σ 26)) ((σ 27)) ((σ 28)) ((σ 29)) hg H.size) (cwV 2 hts (zgVL zw_1105 zw_1106 zw_1107 zw_104 zw_1108) rfl rfl rfl hd_HS_rain ⟨Nat.le_of_ble_eq_true rfl, Nat.le_of_ble_eq_true rfl⟩) (xv_preV (T := TX10) (N := 16) hE hA hS hK hP hD (isC := [0, 2, 6, 13, 45, 50, 79, 80, 81, 105, 106]) (by decide +kernel) hC (q0 := 0) (ci := 10) rfl rfl) rfl rfl hl.1 rfl (lv_room (Nat.le_of_ble_eq_true rfl)) dL_law_1167 ⟨Nat.le_refl _, Nat.le_refl _⟩) hP hD hS hA (by decide +kernel) rfl hC rfl rfl (fun H locs hP hD hS => ?_)
        refine lv_pop hx hb dL_law_1170 rfl ?_
        refine lv_aload_n hx hb dL_law_1171 rfl (lv_at hl 2 rfl) ?_
        refine lv_aload_n hx hb dL_law_1172 rfl (lv_at hl 0 rfl) ?_
        refine lv_iload_n hx hb dL_law_1173 rfl (lv_at hl 3 rfl) ?_
        refine lv_iconst (v := Int32.ofInt 1) hx hb dL_law_1174 rfl ?_
        refine xi_iadd hx hb dL_law_1175 hf (fun v635 hf => ?_)
        refine xi_lld hx hb hX hbl hbA hS dL_law_1176 hf (fun v636 hf => ?_)
        refine lv_aload_n hx hb dL_law_1177 rfl (lv_at hl 0 rfl) ?_
        refine lv_iload_n hx hb dL_law_1178 rfl (lv_at hl 3 rfl) ?_
        refine lv_iconst (v := Int32.ofInt 2) hx hb dL_law_1179 rfl ?_
        refine xi_iadd hx hb dL_law_1180 hf (fun v637 hf => ?_)
        refine xi_lld hx hb hX hbl hbA hS dL_law_1181 hf (fun v638 hf => ?_)
        refine xe_d9 hf (fun v639 v640 v641 v642 v643 a644 a645 a646 a647 hg hf => ?_)
        have hC : ([1, 14, 15, 27, 28, 44] : List Nat).map (fun i => (wd_LW_law cA qa (zst σ [(3, v629), (30, v630), (61, v632)]) (zta τ [(2, a631), (83, a633), (84, a634)]))[i]?) = (wd_HM_rain cA (qa 13) (qa 14) (qa 15) (qa 16) (qa 17) (qa 18) (qa 19) (qa 20) (qa 21) (qa 22) (qa 23) (qa 24) (qa 25) (qa 26) (qa 27) (qa 28) (qa 29) (qa 30) (qa 31) (qa 32) (qa 33) (qa 34) (qa 35) (qa 36) (qa 37) (qa 38) (qa 39) (qa 40) (qa 41) (qa 42) (qa 43) (qa 44) (σ 6) (σ 7) (σ 8) (σ 9) (σ 10) (σ 11) (σ 12) (σ 13) (σ 14) (σ 15) (σ 16) (σ 17) (σ 18) (σ 19) (σ 20) (σ 21) (σ 22) (σ 23) (τ 4) (σ 4) (σ 5) (σ 24) (σ 25) (τ 3) (τ 16) (τ 17) (τ 33)).map some := rfl
        refine xv_afterI (ws' := (wd_LW_law cA qa (zst σ [(3, v629), (4, v640), (5, v641), (24, v642), (25, v643), (30, v630), (61, v632)]) (zta τ [(2, a631), (3, a644), (16, a645), (17, a646), (33, a647), (83, a633), (84, a634)]))) (isC := [1, 14, 15, 27, 28, 44]) (ps := [none, some 0, none, none, none, none, none, none, none, none, none, none, none, none, some 1, some 2, none, none, none, none, none, none, none, none, none, none, none, some 3, some 4, none, none, none, none, none, none, none, none, none, none, none, none, none, none, none, some 5, none, none, none, none, none, none, none, none, none, none, none, none, none, none, none, none, none, none, none, none, none, none, none, none, none, none, none, none, none, none, none, none, none, none, none, none, none, none, none, none, none, none, none, none, none, none, none, none, none, none, none, none, none, none, none, none, none, none, none, none, none, none, none, none, none, none, none, none, none]) (va_runV (As := [.int (Int32.ofInt v636), .int (Int32.ofInt v638)]) (rest := []) ⟨hx, hb, hml, hown, hts⟩ (c_HM_rain l ev dC dI cA (qa 13) (qa 14) (qa 15) (qa 16) (qa 17) (qa 18) (qa 19) (qa 20) (qa 21) (qa 22) (qa 23) (qa 24) (qa 25) (qa 26) (qa 27) (qa 28) (qa 29) (qa 30) (qa 31) (qa 32) (qa 33) (qa 34) (qa 35) (qa 36) (qa 37) (qa 38) (qa 39) (qa 40) (qa 41) (qa 42) (qa 43) (qa 44) ((σ 6)) ((σ 7)) ((σ 8)) ((σ 9)) ((σ 10)) ((σ 11)) ((σ 12)) ((σ 13)) ((σ 14)) ((σ 15)) ((σ 16)) ((σ 17)) ((σ 18)) ((σ 19)) ((σ 20)) ((σ 21)) ((σ 22)) ((σ 23)) hg H.size) (cwV 2 hts (zgVL zw_1766 zw_1767 zw_1768 zw_115 zw_1769) rfl rfl rfl hd_HM_rain ⟨Nat.le_of_ble_eq_true rfl, Nat.le_of_ble_eq_true rfl⟩) (xv_preV (T := TX11) (N := 53) hE hA hS hK hP hD (isC := [1, 14, 15, 27, 28, 44]) (by decide +kernel) hC (q0 := 1) (ci := 11) rfl rfl) rfl rfl hl.1 rfl (lv_room (Nat.le_of_ble_eq_true rfl)) dL_law_1182 ⟨Nat.le_refl _, Nat.le_refl _⟩) hP hD hS hA (by decide +kernel) rfl hC rfl rfl (fun H locs hP hD hS => ?_)
        refine lv_pop hx hb dL_law_1185 rfl ?_
        refine lv_goto (tgt := 1304) hx hb dL_law_1186 (by decide) ?_
        exact b_1304 _ ih18 _ _ _ _ _ _ hf hP hD hS (lv_sub hl [0, 1, 2, 3] rfl)
      refine xz_if hf (fun hc hf => ?_) (fun hn33 hf => ?_)
      · refine xi_tin (tgt := 1189) hx hb dL_law_33 hc (by decide) (by decide) rfl (by decide) ?_
        refine lv_aload_n hx hb dL_law_1189 rfl (lv_at hl 1 rfl) ?_
        refine lv_aload_n hx hb dL_law_1190 rfl (lv_at hl 0 rfl) ?_
        refine lv_iload_n hx hb dL_law_1191 rfl (lv_at hl 3 rfl) ?_
        refine lv_iconst (v := Int32.ofInt 1) hx hb dL_law_1192 rfl ?_
        refine xi_iadd hx hb dL_law_1193 hf (fun v648 hf => ?_)
        refine xi_lld hx hb hX hbl hbA hS dL_law_1194 hf (fun v649 hf => ?_)
        refine lv_aload_n hx hb dL_law_1195 rfl (lv_at hl 0 rfl) ?_
        refine lv_iload_n hx hb dL_law_1196 rfl (lv_at hl 3 rfl) ?_
        refine lv_iconst (v := Int32.ofInt 2) hx hb dL_law_1197 rfl ?_
        refine xi_iadd hx hb dL_law_1198 hf (fun v650 hf => ?_)
        refine xi_lld hx hb hX hbl hbA hS dL_law_1199 hf (fun v651 hf => ?_)
        refine xe_d1 hf (fun v652 hg hf => ?_)
        have hC : ([0, 13, 79, 105, 106] : List Nat).map (fun i => (wd_LW_law cA qa σ τ)[i]?) = (wd_HS_rained cA (qa 0) (qa 1) (qa 2) (qa 3) (qa 4) (qa 5) (qa 6) (qa 7) (qa 8) (qa 9) (qa 10) (qa 11) (qa 12) (qa 79) (qa 105) (qa 106) (σ 0) (σ 1) (σ 2) (σ 3) (σ 61) (τ 83) (τ 84)).map some := rfl
        refine xv_afterI (ws' := (wd_LW_law cA qa σ τ)) (isC := [0, 13, 79, 105, 106]) (ps := [some 0, none, none, none, none, none, none, none, none, none, none, none, none, some 1, none, none, none, none, none, none, none, none, none, none, none, none, none, none, none, none, none, none, none, none, none, none, none, none, none, none, none, none, none, none, none, none, none, none, none, none, none, none, none, none, none, none, none, none, none, none, none, none, none, none, none, none, none, none, none, none, none, none, none, none, none, none, none, none, none, some 2, none, none, none, none, none, none, none, none, none, none, none, none, none, none, none, none, none, none, none, none, none, none, none, none, none, some 3, some 4, none, none, none, none, none, none, none]) (va_runV (As := [.int (Int32.ofInt v649), .int (Int32.ofInt v651)]) (rest := []) ⟨hx, hb, hml, hown, hts⟩ (c_HS_rained l ev dC dI cA (qa 0) (qa 1) (qa 2) (qa 3) (qa 4) (qa 5) (qa 6) (qa 7) (qa 8) (qa 9) (qa 10) (qa 11) (qa 12) (qa 79) (qa 105) (qa 106) ((σ 0)) ((σ 1)) ((σ 2)) ((σ 3)) hg H.size) (cwV 2 hts (zgVL zw_1124 zw_1125 zw_1126 zw_104 zw_1127) rfl rfl rfl hd_HS_rained ⟨Nat.le_of_ble_eq_true rfl, Nat.le_of_ble_eq_true rfl⟩) (xv_preV (T := TX10) (N := 16) hE hA hS hK hP hD (isC := [0, 13, 79, 105, 106]) (by decide +kernel) hC (q0 := 0) (ci := 10) rfl rfl) rfl rfl hl.1 rfl (lv_room (Nat.le_of_ble_eq_true rfl)) dL_law_1200 ⟨Nat.le_refl _, Nat.le_refl _⟩) hP hD hS hA (by decide +kernel) rfl hC rfl rfl (fun H locs hP hD hS => ?_)
        refine lv_pop hx hb dL_law_1203 rfl ?_
        refine lv_aload_n hx hb dL_law_1204 rfl (lv_at hl 2 rfl) ?_
        refine lv_aload_n hx hb dL_law_1205 rfl (lv_at hl 0 rfl) ?_
        refine lv_iload_n hx hb dL_law_1206 rfl (lv_at hl 3 rfl) ?_
        refine lv_iconst (v := Int32.ofInt 1) hx hb dL_law_1207 rfl ?_
        refine xi_iadd hx hb dL_law_1208 hf (fun v653 hf => ?_)
        refine xi_lld hx hb hX hbl hbA hS dL_law_1209 hf (fun v654 hf => ?_)
        refine lv_aload_n hx hb dL_law_1210 rfl (lv_at hl 0 rfl) ?_
        refine lv_iload_n hx hb dL_law_1211 rfl (lv_at hl 3 rfl) ?_
        refine lv_iconst (v := Int32.ofInt 2) hx hb dL_law_1212 rfl ?_
        refine xi_iadd hx hb dL_law_1213 hf (fun v655 hf => ?_)
        refine xi_lld hx hb hX hbl hbA hS dL_law_1214 hf (fun v656 hf => ?_)
        refine xe_d2 hf (fun v657 v658 hg hf => ?_)
        have hC : ([1, 44] : List Nat).map (fun i => (wd_LW_law cA qa σ τ)[i]?) = (wd_HM_rained cA (qa 13) (qa 14) (qa 15) (qa 16) (qa 17) (qa 18) (qa 19) (qa 20) (qa 21) (qa 22) (qa 23) (qa 24) (qa 25) (qa 26) (qa 27) (qa 28) (qa 29) (qa 30) (qa 31) (qa 32) (qa 33) (qa 34) (qa 35) (qa 36) (qa 37) (qa 38) (qa 39) (qa 40) (qa 41) (qa 42) (qa 43) (qa 44) (σ 5) (σ 6) (σ 7) (σ 8) (σ 9) (σ 10) (σ 11) (σ 12) (σ 13) (σ 14) (σ 15) (σ 16) (σ 17) (σ 18) (σ 19) (σ 20) (σ 21) (σ 22) (σ 23) (σ 24) (σ 25) (τ 33) (σ 4)).map some := rfl
        refine xv_afterI (ws' := (wd_LW_law cA qa (zst σ [(4, v658)]) τ)) (isC := [1, 44]) (ps := [none, some 0, none, none, none, none, none, none, none, none, none, none, none, none, none, none, none, none, none, none, none, none, none, none, none, none, none, none, none, none, none, none, none, none, none, none, none, none, none, none, none, none, none, none, some 1, none, none, none, none, none, none, none, none, none, none, none, none, none, none, none, none, none, none, none, none, none, none, none, none, none, none, none, none, none, none, none, none, none, none, none, none, none, none, none, none, none, none, none, none, none, none, none, none, none, none, none, none, none, none, none, none, none, none, none, none, none, none, none, none, none, none, none, none, none]) (va_runV (As := [.int (Int32.ofInt v654), .int (Int32.ofInt v656)]) (rest := []) ⟨hx, hb, hml, hown, hts⟩ (c_HM_rained l ev dC dI cA (qa 13) (qa 14) (qa 15) (qa 16) (qa 17) (qa 18) (qa 19) (qa 20) (qa 21) (qa 22) (qa 23) (qa 24) (qa 25) (qa 26) (qa 27) (qa 28) (qa 29) (qa 30) (qa 31) (qa 32) (qa 33) (qa 34) (qa 35) (qa 36) (qa 37) (qa 38) (qa 39) (qa 40) (qa 41) (qa 42) (qa 43) (qa 44) ((σ 5)) ((σ 6)) ((σ 7)) ((σ 8)) ((σ 9)) ((σ 10)) ((σ 11)) ((σ 12)) ((σ 13)) ((σ 14)) ((σ 15)) ((σ 16)) ((σ 17)) ((σ 18)) ((σ 19)) ((σ 20)) ((σ 21)) ((σ 22)) ((σ 23)) ((σ 24)) hg H.size) (cwV 2 hts (zgVL zw_1774 zw_1775 zw_1776 zw_115 zw_1777) rfl rfl rfl hd_HM_rained ⟨Nat.le_of_ble_eq_true rfl, Nat.le_of_ble_eq_true rfl⟩) (xv_preV (T := TX11) (N := 53) hE hA hS hK hP hD (isC := [1, 44]) (by decide +kernel) hC (q0 := 1) (ci := 11) rfl rfl) rfl rfl hl.1 rfl (lv_room (Nat.le_of_ble_eq_true rfl)) dL_law_1215 ⟨Nat.le_refl _, Nat.le_refl _⟩) hP hD hS hA (by decide +kernel) rfl hC rfl rfl (fun H locs hP hD hS => ?_)
        refine lv_pop hx hb dL_law_1218 rfl ?_
        refine lv_goto (tgt := 1304) hx hb dL_law_1219 (by decide) ?_
        exact b_1304 _ ih18 _ _ _ _ _ _ hf hP hD hS (lv_sub hl [0, 1, 2, 3] rfl)
      refine xz_if hf (fun hc hf => ?_) (fun hn34 hf => ?_)
      · refine xi_tin (tgt := 1222) hx hb dL_law_33 hc (by decide) (by decide) rfl (by decide) ?_
        refine lv_aload_n hx hb dL_law_1222 rfl (lv_at hl 1 rfl) ?_
        refine lv_aload_n hx hb dL_law_1223 rfl (lv_at hl 0 rfl) ?_
        refine lv_iload_n hx hb dL_law_1224 rfl (lv_at hl 3 rfl) ?_
        refine lv_iconst (v := Int32.ofInt 1) hx hb dL_law_1225 rfl ?_
        refine xi_iadd hx hb dL_law_1226 hf (fun v659 hf => ?_)
        refine xi_lld hx hb hX hbl hbA hS dL_law_1227 hf (fun v660 hf => ?_)
        refine xe_d35 hf (fun v661 v662 v663 a664 a665 v666 v667 v668 v669 v670 v671 v672 v673 v674 a675 a676 a677 a678 a679 a680 a681 a682 v683 a684 a685 a686 a687 a688 a689 a690 a691 a692 a693 a694 a695 hg hf => ?_)
        have hC : ([0, 2, 3, 4, 6, 45, 46, 47, 48, 49, 50, 51, 52, 53, 54, 55, 80, 81, 82, 83, 84, 85, 86, 87, 88, 89, 90, 91, 92, 93, 94, 95, 96, 97, 98, 99, 107, 108, 109, 110] : List Nat).map (fun i => (wd_LW_law cA qa σ τ)[i]?) = (wd_HS_image cA (qa 0) (qa 1) (qa 2) (qa 3) (qa 4) (qa 5) (qa 6) (qa 7) (qa 8) (qa 9) (qa 10) (qa 11) (qa 12) (qa 45) (qa 46) (qa 47) (qa 48) (qa 49) (qa 50) (qa 51) (qa 52) (qa 53) (qa 54) (qa 55) (qa 80) (qa 81) (qa 82) (qa 83) (qa 84) (qa 85) (qa 86) (qa 87) (qa 88) (qa 89) (qa 90) (qa 91) (qa 92) (qa 93) (qa 94) (qa 95) (qa 96) (qa 97) (qa 98) (qa 99) (qa 107) (qa 108) (qa 109) (qa 110) (σ 0) (σ 1) (σ 2) (σ 54) (σ 59) (σ 26) (σ 27) (σ 28) (σ 29) (σ 49) (τ 34) (τ 35) (τ 36) (τ 37) (τ 38) (τ 39) (τ 40) (τ 41) (τ 63) (τ 64) (σ 3) (σ 30) (τ 0) (τ 2) (σ 50) (σ 51) (σ 52) (σ 53) (σ 55) (σ 56) (σ 57) (σ 58) (σ 62) (τ 65) (τ 66) (τ 67) (τ 68) (τ 69) (τ 70) (τ 71) (τ 72) (σ 63) (τ 73) (τ 74) (τ 75) (τ 76) (τ 77) (τ 78) (τ 79) (τ 80) (τ 85) (τ 86) (τ 87) (τ 88)).map some := rfl
        refine xv_afterI (ws' := (wd_LW_law cA qa (zst σ [(3, v662), (30, v663), (50, v666), (51, v667), (52, v668), (53, v669), (55, v670), (56, v671), (57, v672), (58, v673), (62, v674), (63, v683)]) (zta τ [(0, a664), (2, a665), (65, a675), (66, a676), (67, a677), (68, a678), (69, a679), (70, a680), (71, a681), (72, a682), (73, a684), (74, a685), (75, a686), (76, a687), (77, a688), (78, a689), (79, a690), (80, a691), (85, a692), (86, a693), (87, a694), (88, a695)]))) (isC := [0, 2, 3, 4, 6, 45, 46, 47, 48, 49, 50, 51, 52, 53, 54, 55, 80, 81, 82, 83, 84, 85, 86, 87, 88, 89, 90, 91, 92, 93, 94, 95, 96, 97, 98, 99, 107, 108, 109, 110]) (ps := [some 0, none, some 1, some 2, some 3, none, some 4, none, none, none, none, none, none, none, none, none, none, none, none, none, none, none, none, none, none, none, none, none, none, none, none, none, none, none, none, none, none, none, none, none, none, none, none, none, none, some 5, some 6, some 7, some 8, some 9, some 10, some 11, some 12, some 13, some 14, some 15, none, none, none, none, none, none, none, none, none, none, none, none, none, none, none, none, none, none, none, none, none, none, none, none, some 16, some 17, some 18, some 19, some 20, some 21, some 22, some 23, some 24, some 25, some 26, some 27, some 28, some 29, some 30, some 31, some 32, some 33, some 34, some 35, none, none, none, none, none, none, none, some 36, some 37, some 38, some 39, none, none, none]) (va_runV (As := [.int (Int32.ofInt v660)]) (rest := []) ⟨hx, hb, hml, hown, hts⟩ (c_HS_image l ev dC dI cA (qa 0) (qa 1) (qa 2) (qa 3) (qa 4) (qa 5) (qa 6) (qa 7) (qa 8) (qa 9) (qa 10) (qa 11) (qa 12) (qa 45) (qa 46) (qa 47) (qa 48) (qa 49) (qa 50) (qa 51) (qa 52) (qa 53) (qa 54) (qa 55) (qa 80) (qa 81) (qa 82) (qa 83) (qa 84) (qa 85) (qa 86) (qa 87) (qa 88) (qa 89) (qa 90) (qa 91) (qa 92) (qa 93) (qa 94) (qa 95) (qa 96) (qa 97) (qa 98) (qa 99) (qa 107) (qa 108) (qa 109) (qa 110) ((σ 0)) ((σ 1)) ((σ 2)) ((σ 54)) ((σ 59)) hg H.size) (cwV 1 hts (zgVL zw_1128 zw_1129 zw_1130 zw_104 zw_1131) rfl rfl rfl hd_HS_image ⟨Nat.le_of_ble_eq_true rfl, Nat.le_of_ble_eq_true rfl⟩) (xv_preV (T := TX10) (N := 16) hE hA hS hK hP hD (isC := [0, 2, 3, 4, 6, 45, 46, 47, 48, 49, 50, 51, 52, 53, 54, 55, 80, 81, 82, 83, 84, 85, 86, 87, 88, 89, 90, 91, 92, 93, 94, 95, 96, 97, 98, 99, 107, 108, 109, 110]) (by decide +kernel) hC (q0 := 0) (ci := 10) rfl rfl) rfl rfl hl.1 rfl (lv_room (Nat.le_of_ble_eq_true rfl)) dL_law_1228 ⟨Nat.le_refl _, Nat.le_refl _⟩) hP hD hS hA (by decide +kernel) rfl hC rfl rfl (fun H locs hP hD hS => ?_)
        refine lv_pop hx hb dL_law_1231 rfl ?_
        refine lv_aload_n hx hb dL_law_1232 rfl (lv_at hl 2 rfl) ?_
        refine lv_aload_n hx hb dL_law_1233 rfl (lv_at hl 0 rfl) ?_
        refine lv_iload_n hx hb dL_law_1234 rfl (lv_at hl 3 rfl) ?_
        refine lv_iconst (v := Int32.ofInt 1) hx hb dL_law_1235 rfl ?_
        refine xi_iadd hx hb dL_law_1236 hf (fun v696 hf => ?_)
        refine xi_lld hx hb hX hbl hbA hS dL_law_1237 hf (fun v697 hf => ?_)
        refine xe_d6 hf (fun v698 v699 v700 a701 a702 a703 hg hf => ?_)
        have hC : ([1, 14, 15, 16, 17] : List Nat).map (fun i => (wd_LW_law cA qa (zst σ [(3, v662), (30, v663), (50, v666), (51, v667), (52, v668), (53, v669), (55, v670), (56, v671), (57, v672), (58, v673), (62, v674), (63, v683)]) (zta τ [(0, a664), (2, a665), (65, a675), (66, a676), (67, a677), (68, a678), (69, a679), (70, a680), (71, a681), (72, a682), (73, a684), (74, a685), (75, a686), (76, a687), (77, a688), (78, a689), (79, a690), (80, a691), (85, a692), (86, a693), (87, a694), (88, a695)]))[i]?) = (wd_HM_image cA (qa 13) (qa 14) (qa 15) (qa 16) (qa 17) (qa 18) (qa 19) (qa 20) (qa 21) (qa 22) (qa 23) (qa 24) (qa 25) (qa 26) (qa 27) (qa 28) (qa 29) (qa 30) (qa 31) (qa 32) (qa 33) (qa 34) (qa 35) (qa 36) (qa 37) (qa 38) (qa 39) (qa 40) (qa 41) (qa 42) (qa 43) (qa 44) (σ 6) (σ 7) (σ 8) (σ 9) (σ 10) (σ 11) (σ 12) (σ 13) (σ 14) (σ 15) (σ 16) (σ 17) (σ 18) (σ 19) (σ 20) (σ 21) (σ 22) (σ 23) (σ 24) (σ 25) (τ 4) (σ 4) (σ 5) (τ 3) (τ 5) (τ 6)).map some := rfl
        refine xv_afterI (ws' := (wd_LW_law cA qa (zst σ [(3, v662), (4, v699), (5, v700), (30, v663), (50, v666), (51, v667), (52, v668), (53, v669), (55, v670), (56, v671), (57, v672), (58, v673), (62, v674), (63, v683)]) (zta τ [(0, a664), (2, a665), (3, a701), (5, a702), (6, a703), (65, a675), (66, a676), (67, a677), (68, a678), (69, a679), (70, a680), (71, a681), (72, a682), (73, a684), (74, a685), (75, a686), (76, a687), (77, a688), (78, a689), (79, a690), (80, a691), (85, a692), (86, a693), (87, a694), (88, a695)]))) (isC := [1, 14, 15, 16, 17]) (ps := [none, some 0, none, none, none, none, none, none, none, none, none, none, none, none, some 1, some 2, some 3, some 4, none, none, none, none, none, none, none, none, none, none, none, none, none, none, none, none, none, none, none, none, none, none, none, none, none, none, none, none, none, none, none, none, none, none, none, none, none, none, none, none, none, none, none, none, none, none, none, none, none, none, none, none, none, none, none, none, none, none, none, none, none, none, none, none, none, none, none, none, none, none, none, none, none, none, none, none, none, none, none, none, none, none, none, none, none, none, none, none, none, none, none, none, none, none, none, none]) (va_runV (As := [.int (Int32.ofInt v697)]) (rest := []) ⟨hx, hb, hml, hown, hts⟩ (c_HM_image l ev dC dI cA (qa 13) (qa 14) (qa 15) (qa 16) (qa 17) (qa 18) (qa 19) (qa 20) (qa 21) (qa 22) (qa 23) (qa 24) (qa 25) (qa 26) (qa 27) (qa 28) (qa 29) (qa 30) (qa 31) (qa 32) (qa 33) (qa 34) (qa 35) (qa 36) (qa 37) (qa 38) (qa 39) (qa 40) (qa 41) (qa 42) (qa 43) (qa 44) ((σ 6)) ((σ 7)) ((σ 8)) ((σ 9)) ((σ 10)) ((σ 11)) ((σ 12)) ((σ 13)) ((σ 14)) ((σ 15)) ((σ 16)) ((σ 17)) ((σ 18)) ((σ 19)) ((σ 20)) ((σ 21)) ((σ 22)) ((σ 23)) ((σ 24)) ((σ 25)) hg H.size) (cwV 1 hts (zgVL zw_1325 zw_1326 zw_1327 zw_115 zw_1328) rfl rfl rfl hd_HM_image ⟨Nat.le_of_ble_eq_true rfl, Nat.le_of_ble_eq_true rfl⟩) (xv_preV (T := TX11) (N := 53) hE hA hS hK hP hD (isC := [1, 14, 15, 16, 17]) (by decide +kernel) hC (q0 := 1) (ci := 11) rfl rfl) rfl rfl hl.1 rfl (lv_room (Nat.le_of_ble_eq_true rfl)) dL_law_1238 ⟨Nat.le_refl _, Nat.le_refl _⟩) hP hD hS hA (by decide +kernel) rfl hC rfl rfl (fun H locs hP hD hS => ?_)
        refine lv_pop hx hb dL_law_1241 rfl ?_
        refine lv_goto (tgt := 1304) hx hb dL_law_1242 (by decide) ?_
        exact b_1304 _ ih18 _ _ _ _ _ _ hf hP hD hS (lv_sub hl [0, 1, 2, 3] rfl)
      refine xz_if hf (fun hc hf => ?_) (fun hn35 hf => ?_)
      · refine xi_tin (tgt := 1245) hx hb dL_law_33 hc (by decide) (by decide) rfl (by decide) ?_
        refine lv_aload_n hx hb dL_law_1245 rfl (lv_at hl 1 rfl) ?_
        refine lv_aload_n hx hb dL_law_1246 rfl (lv_at hl 0 rfl) ?_
        refine lv_iload_n hx hb dL_law_1247 rfl (lv_at hl 3 rfl) ?_
        refine lv_iconst (v := Int32.ofInt 1) hx hb dL_law_1248 rfl ?_
        refine xi_iadd hx hb dL_law_1249 hf (fun v704 hf => ?_)
        refine xi_lld hx hb hX hbl hbA hS dL_law_1250 hf (fun v705 hf => ?_)
        refine xe_d19 hf (fun v706 v707 v708 v709 v710 v711 v712 a713 v714 a715 a716 a717 a718 a719 a720 a721 a722 a723 a724 hg hf => ?_)
        have hC : ([0, 2, 3, 4, 6, 45, 46, 47, 48, 49, 50, 51, 52, 53, 54, 55, 80, 81, 82, 83, 84, 85, 86, 87, 88, 89, 90, 91, 92, 93, 94, 95, 96, 97, 98, 99, 107, 108, 109, 110] : List Nat).map (fun i => (wd_LW_law cA qa σ τ)[i]?) = (wd_HS_back cA (qa 0) (qa 1) (qa 2) (qa 3) (qa 4) (qa 5) (qa 6) (qa 7) (qa 8) (qa 9) (qa 10) (qa 11) (qa 12) (qa 45) (qa 46) (qa 47) (qa 48) (qa 49) (qa 50) (qa 51) (qa 52) (qa 53) (qa 54) (qa 55) (qa 80) (qa 81) (qa 82) (qa 83) (qa 84) (qa 85) (qa 86) (qa 87) (qa 88) (qa 89) (qa 90) (qa 91) (qa 92) (qa 93) (qa 94) (qa 95) (qa 96) (qa 97) (qa 98) (qa 99) (qa 107) (qa 108) (qa 109) (qa 110) (σ 0) (σ 1) (σ 2) (σ 54) (σ 59) (τ 0) (σ 50) (σ 51) (σ 52) (σ 53) (σ 55) (σ 56) (σ 57) (σ 58) (σ 62) (τ 65) (τ 66) (τ 67) (τ 68) (τ 69) (τ 70) (τ 71) (τ 72) (σ 63) (τ 73) (τ 74) (τ 75) (τ 76) (τ 77) (τ 78) (τ 79) (τ 80) (τ 85) (τ 86) (τ 87) (τ 88) (σ 3) (σ 26) (σ 27) (σ 28) (σ 29) (σ 30) (τ 2) (σ 49) (τ 34) (τ 35) (τ 36) (τ 37) (τ 38) (τ 39) (τ 40) (τ 41) (τ 63) (τ 64)).map some := rfl
        refine xv_afterI (ws' := (wd_LW_law cA qa (zst σ [(3, v707), (26, v708), (27, v709), (28, v710), (29, v711), (30, v712), (49, v714)]) (zta τ [(2, a713), (34, a715), (35, a716), (36, a717), (37, a718), (38, a719), (39, a720), (40, a721), (41, a722), (63, a723), (64, a724)]))) (isC := [0, 2, 3, 4, 6, 45, 46, 47, 48, 49, 50, 51, 52, 53, 54, 55, 80, 81, 82, 83, 84, 85, 86, 87, 88, 89, 90, 91, 92, 93, 94, 95, 96, 97, 98, 99, 107, 108, 109, 110]) (ps := [some 0, none, some 1, some 2, some 3, none, some 4, none, none, none, none, none, none, none, none, none, none, none, none, none, none, none, none, none, none, none, none, none, none, none, none, none, none, none, none, none, none, none, none, none, none, none, none, none, none, some 5, some 6, some 7, some 8, some 9, some 10, some 11, some 12, some 13, some 14, some 15, none, none, none, none, none, none, none, none, none, none, none, none, none, none, none, none, none, none, none, none, none, none, none, none, some 16, some 17, some 18, some 19, some 20, some 21, some 22, some 23, some 24, some 25, some 26, some 27, some 28, some 29, some 30, some 31, some 32, some 33, some 34, some 35, none, none, none, none, none, none, none, some 36, some 37, some 38, some 39, none, none, none]) (va_runV (As := [.int (Int32.ofInt v705)]) (rest := []) ⟨hx, hb, hml, hown, hts⟩ (c_HS_back l ev dC dI cA (qa 0) (qa 1) (qa 2) (qa 3) (qa 4) (qa 5) (qa 6) (qa 7) (qa 8) (qa 9) (qa 10) (qa 11) (qa 12) (qa 45) (qa 46) (qa 47) (qa 48) (qa 49) (qa 50) (qa 51) (qa 52) (qa 53) (qa 54) (qa 55) (qa 80) (qa 81) (qa 82) (qa 83) (qa 84) (qa 85) (qa 86) (qa 87) (qa 88) (qa 89) (qa 90) (qa 91) (qa 92) (qa 93) (qa 94) (qa 95) (qa 96) (qa 97) (qa 98) (qa 99) (qa 107) (qa 108) (qa 109) (qa 110) ((σ 0)) ((σ 1)) ((σ 2)) ((σ 54)) ((σ 59)) hg H.size) (cwV 1 hts (zgVL zw_1137 zw_1138 zw_1139 zw_104 zw_1140) rfl rfl rfl hd_HS_back ⟨Nat.le_of_ble_eq_true rfl, Nat.le_of_ble_eq_true rfl⟩) (xv_preV (T := TX10) (N := 16) hE hA hS hK hP hD (isC := [0, 2, 3, 4, 6, 45, 46, 47, 48, 49, 50, 51, 52, 53, 54, 55, 80, 81, 82, 83, 84, 85, 86, 87, 88, 89, 90, 91, 92, 93, 94, 95, 96, 97, 98, 99, 107, 108, 109, 110]) (by decide +kernel) hC (q0 := 0) (ci := 10) rfl rfl) rfl rfl hl.1 rfl (lv_room (Nat.le_of_ble_eq_true rfl)) dL_law_1251 ⟨Nat.le_refl _, Nat.le_refl _⟩) hP hD hS hA (by decide +kernel) rfl hC rfl rfl (fun H locs hP hD hS => ?_)
        refine lv_pop hx hb dL_law_1254 rfl ?_
        refine lv_aload_n hx hb dL_law_1255 rfl (lv_at hl 2 rfl) ?_
        refine lv_aload_n hx hb dL_law_1256 rfl (lv_at hl 0 rfl) ?_
        refine lv_iload_n hx hb dL_law_1257 rfl (lv_at hl 3 rfl) ?_
        refine lv_iconst (v := Int32.ofInt 1) hx hb dL_law_1258 rfl ?_
        refine xi_iadd hx hb dL_law_1259 hf (fun v725 hf => ?_)
        refine xi_lld hx hb hX hbl hbA hS dL_law_1260 hf (fun v726 hf => ?_)
        refine xe_d5 hf (fun v727 v728 v729 a730 a731 hg hf => ?_)
        have hC : ([1, 14, 15, 16, 17] : List Nat).map (fun i => (wd_LW_law cA qa (zst σ [(3, v707), (26, v708), (27, v709), (28, v710), (29, v711), (30, v712), (49, v714)]) (zta τ [(2, a713), (34, a715), (35, a716), (36, a717), (37, a718), (38, a719), (39, a720), (40, a721), (41, a722), (63, a723), (64, a724)]))[i]?) = (wd_HM_back cA (qa 13) (qa 14) (qa 15) (qa 16) (qa 17) (qa 18) (qa 19) (qa 20) (qa 21) (qa 22) (qa 23) (qa 24) (qa 25) (qa 26) (qa 27) (qa 28) (qa 29) (qa 30) (qa 31) (qa 32) (qa 33) (qa 34) (qa 35) (qa 36) (qa 37) (qa 38) (qa 39) (qa 40) (qa 41) (qa 42) (qa 43) (qa 44) (σ 6) (σ 7) (σ 8) (σ 9) (σ 10) (σ 11) (σ 12) (σ 13) (σ 14) (σ 15) (σ 16) (σ 17) (σ 18) (σ 19) (σ 20) (σ 21) (σ 22) (σ 23) (σ 24) (σ 25) (τ 5) (τ 6) (σ 4) (σ 5) (τ 3) (τ 4)).map some := rfl
        refine xv_afterI (ws' := (wd_LW_law cA qa (zst σ [(3, v707), (4, v728), (5, v729), (26, v708), (27, v709), (28, v710), (29, v711), (30, v712), (49, v714)]) (zta τ [(2, a713), (3, a730), (4, a731), (34, a715), (35, a716), (36, a717), (37, a718), (38, a719), (39, a720), (40, a721), (41, a722), (63, a723), (64, a724)]))) (isC := [1, 14, 15, 16, 17]) (ps := [none, some 0, none, none, none, none, none, none, none, none, none, none, none, none, some 1, some 2, some 3, some 4, none, none, none, none, none, none, none, none, none, none, none, none, none, none, none, none, none, none, none, none, none, none, none, none, none, none, none, none, none, none, none, none, none, none, none, none, none, none, none, none, none, none, none, none, none, none, none, none, none, none, none, none, none, none, none, none, none, none, none, none, none, none, none, none, none, none, none, none, none, none, none, none, none, none, none, none, none, none, none, none, none, none, none, none, none, none, none, none, none, none, none, none, none, none, none, none]) (va_runV (As := [.int (Int32.ofInt v726)]) (rest := []) ⟨hx, hb, hml, hown, hts⟩ (c_HM_back l ev dC dI cA (qa 13) (qa 14) (qa 15) (qa 16) (qa 17) (qa 18) (qa 19) (qa 20) (qa 21) (qa 22) (qa 23) (qa 24) (qa 25) (qa 26) (qa 27) (qa 28) (qa 29) (qa 30) (qa 31) (qa 32) (qa 33) (qa 34) (qa 35) (qa 36) (qa 37) (qa 38) (qa 39) (qa 40) (qa 41) (qa 42) (qa 43) (qa 44) ((σ 6)) ((σ 7)) ((σ 8)) ((σ 9)) ((σ 10)) ((σ 11)) ((σ 12)) ((σ 13)) ((σ 14)) ((σ 15)) ((σ 16)) ((σ 17)) ((σ 18)) ((σ 19)) ((σ 20)) ((σ 21)) ((σ 22)) ((σ 23)) ((σ 24)) ((σ 25)) hg H.size) (cwV 1 hts (zgVL zw_1336 zw_1337 zw_1338 zw_115 zw_1339) rfl rfl rfl hd_HM_back ⟨Nat.le_of_ble_eq_true rfl, Nat.le_of_ble_eq_true rfl⟩) (xv_preV (T := TX11) (N := 53) hE hA hS hK hP hD (isC := [1, 14, 15, 16, 17]) (by decide +kernel) hC (q0 := 1) (ci := 11) rfl rfl) rfl rfl hl.1 rfl (lv_room (Nat.le_of_ble_eq_true rfl)) dL_law_1261 ⟨Nat.le_refl _, Nat.le_refl _⟩) hP hD hS hA (by decide +kernel) rfl hC rfl rfl (fun H locs hP hD hS => ?_)
        refine lv_pop hx hb dL_law_1264 rfl ?_
        refine lv_goto (tgt := 1304) hx hb dL_law_1265 (by decide) ?_
        exact b_1304 _ ih18 _ _ _ _ _ _ hf hP hD hS (lv_sub hl [0, 1, 2, 3] rfl)
      refine xz_if hf (fun hc hf => ?_) (fun hn36 hf => ?_)
      · refine xi_tin (tgt := 1268) hx hb dL_law_33 hc (by decide) (by decide) rfl (by decide) ?_
        refine lv_aload_n hx hb dL_law_1268 rfl (lv_at hl 1 rfl) ?_
        refine lv_aload_n hx hb dL_law_1269 rfl (lv_at hl 0 rfl) ?_
        refine lv_iload_n hx hb dL_law_1270 rfl (lv_at hl 3 rfl) ?_
        refine lv_iconst (v := Int32.ofInt 1) hx hb dL_law_1271 rfl ?_
        refine xi_iadd hx hb dL_law_1272 hf (fun v732 hf => ?_)
        refine xi_lld hx hb hX hbl hbA hS dL_law_1273 hf (fun v733 hf => ?_)
        refine xe_d1 hf (fun v734 hg hf => ?_)
        have hC : ([0, 2, 6, 45, 50, 80] : List Nat).map (fun i => (wd_LW_law cA qa σ τ)[i]?) = (wd_HS_count cA (qa 0) (qa 1) (qa 2) (qa 3) (qa 4) (qa 5) (qa 6) (qa 7) (qa 8) (qa 9) (qa 10) (qa 11) (qa 12) (qa 45) (qa 46) (qa 47) (qa 48) (qa 49) (qa 50) (qa 51) (qa 52) (qa 53) (qa 80) (qa 81) (σ 1) (σ 2) (σ 3) (σ 30) (σ 0) (σ 26) (σ 27) (σ 28) (σ 29) (τ 2) (σ 49) (τ 38) (τ 63)).map some := rfl
        refine xv_afterI (ws' := (wd_LW_law cA qa σ τ)) (isC := [0, 2, 6, 45, 50, 80]) (ps := [some 0, none, some 1, none, none, none, some 2, none, none, none, none, none, none, none, none, none, none, none, none, none, none, none, none, none, none, none, none, none, none, none, none, none, none, none, none, none, none, none, none, none, none, none, none, none, none, some 3, none, none, none, none, some 4, none, none, none, none, none, none, none, none, none, none, none, none, none, none, none, none, none, none, none, none, none, none, none, none, none, none, none, none, none, some 5, none, none, none, none, none, none, none, none, none, none, none, none, none, none, none, none, none, none, none, none, none, none, none, none, none, none, none, none, none, none, none, none, none]) (va_runV (As := [.int (Int32.ofInt v733)]) (rest := []) ⟨hx, hb, hml, hown, hts⟩ (c_HS_count l ev dC dI cA (qa 0) (qa 1) (qa 2) (qa 3) (qa 4) (qa 5) (qa 6) (qa 7) (qa 8) (qa 9) (qa 10) (qa 11) (qa 12) (qa 45) (qa 46) (qa 47) (qa 48) (qa 49) (qa 50) (qa 51) (qa 52) (qa 53) (qa 80) (qa 81) ((σ 1)) ((σ 2)) ((σ 3)) ((σ 30)) hg H.size) (cwV 1 hts (zgVL zw_1141 zw_1142 zw_1143 zw_104 zw_1144) rfl rfl rfl hd_HS_count ⟨Nat.le_of_ble_eq_true rfl, Nat.le_of_ble_eq_true rfl⟩) (xv_preV (T := TX10) (N := 16) hE hA hS hK hP hD (isC := [0, 2, 6, 45, 50, 80]) (by decide +kernel) hC (q0 := 0) (ci := 10) rfl rfl) rfl rfl hl.1 rfl (lv_room (Nat.le_of_ble_eq_true rfl)) dL_law_1274 ⟨Nat.le_refl _, Nat.le_refl _⟩) hP hD hS hA (by decide +kernel) rfl hC rfl rfl (fun H locs hP hD hS => ?_)
        refine lv_pop hx hb dL_law_1277 rfl ?_
        refine lv_aload_n hx hb dL_law_1278 rfl (lv_at hl 2 rfl) ?_
        refine lv_aload_n hx hb dL_law_1279 rfl (lv_at hl 0 rfl) ?_
        refine lv_iload_n hx hb dL_law_1280 rfl (lv_at hl 3 rfl) ?_
        refine lv_iconst (v := Int32.ofInt 1) hx hb dL_law_1281 rfl ?_
        refine xi_iadd hx hb dL_law_1282 hf (fun v735 hf => ?_)
        refine xi_lld hx hb hX hbl hbA hS dL_law_1283 hf (fun v736 hf => ?_)
        refine xe_d2 hf (fun v737 v738 hg hf => ?_)
        have hC : ([1, 14, 15] : List Nat).map (fun i => (wd_LW_law cA qa σ τ)[i]?) = (wd_HM_count cA (qa 13) (qa 14) (qa 15) (qa 16) (qa 17) (qa 18) (qa 19) (qa 20) (qa 21) (qa 22) (qa 23) (qa 24) (qa 25) (qa 26) (qa 27) (qa 28) (qa 29) (qa 30) (qa 31) (qa 32) (qa 33) (qa 34) (qa 35) (qa 36) (qa 37) (qa 38) (qa 39) (qa 40) (qa 41) (qa 42) (qa 43) (qa 44) (σ 5) (σ 6) (σ 8) (σ 9) (σ 10) (σ 11) (σ 12) (σ 13) (σ 14) (σ 15) (σ 16) (σ 17) (σ 18) (σ 19) (σ 20) (σ 21) (σ 22) (σ 23) (σ 24) (σ 25) (σ 7) (τ 3) (τ 4) (σ 4)).map some := rfl
        refine xv_afterI (ws' := (wd_LW_law cA qa (zst σ [(4, v738)]) τ)) (isC := [1, 14, 15]) (ps := [none, some 0, none, none, none, none, none, none, none, none, none, none, none, none, some 1, some 2, none, none, none, none, none, none, none, none, none, none, none, none, none, none, none, none, none, none, none, none, none, none, none, none, none, none, none, none, none, none, none, none, none, none, none, none, none, none, none, none, none, none, none, none, none, none, none, none, none, none, none, none, none, none, none, none, none, none, none, none, none, none, none, none, none, none, none, none, none, none, none, none, none, none, none, none, none, none, none, none, none, none, none, none, none, none, none, none, none, none, none, none, none, none, none, none, none, none]) (va_runV (As := [.int (Int32.ofInt v736)]) (rest := []) ⟨hx, hb, hml, hown, hts⟩ (c_HM_count l ev dC dI cA (qa 13) (qa 14) (qa 15) (qa 16) (qa 17) (qa 18) (qa 19) (qa 20) (qa 21) (qa 22) (qa 23) (qa 24) (qa 25) (qa 26) (qa 27) (qa 28) (qa 29) (qa 30) (qa 31) (qa 32) (qa 33) (qa 34) (qa 35) (qa 36) (qa 37) (qa 38) (qa 39) (qa 40) (qa 41) (qa 42) (qa 43) (qa 44) ((σ 5)) ((σ 6)) ((σ 8)) ((σ 9)) ((σ 10)) ((σ 11)) ((σ 12)) ((σ 13)) ((σ 14)) ((σ 15)) ((σ 16)) ((σ 17)) ((σ 18)) ((σ 19)) ((σ 20)) ((σ 21)) ((σ 22)) ((σ 23)) ((σ 24)) ((σ 25)) hg H.size) (cwV 1 hts (zgVL zw_1778 zw_1779 zw_1780 zw_115 zw_1781) rfl rfl rfl hd_HM_count ⟨Nat.le_of_ble_eq_true rfl, Nat.le_of_ble_eq_true rfl⟩) (xv_preV (T := TX11) (N := 53) hE hA hS hK hP hD (isC := [1, 14, 15]) (by decide +kernel) hC (q0 := 1) (ci := 11) rfl rfl) rfl rfl hl.1 rfl (lv_room (Nat.le_of_ble_eq_true rfl)) dL_law_1284 ⟨Nat.le_refl _, Nat.le_refl _⟩) hP hD hS hA (by decide +kernel) rfl hC rfl rfl (fun H locs hP hD hS => ?_)
        refine lv_pop hx hb dL_law_1287 rfl ?_
        refine lv_goto (tgt := 1304) hx hb dL_law_1288 (by decide) ?_
        exact b_1304 _ ih18 _ _ _ _ _ _ hf hP hD hS (lv_sub hl [0, 1, 2, 3] rfl)
      refine xz_if hf (fun hc hf => ?_) (fun hn37 hf => ?_)
      · refine xi_tin (tgt := 1291) hx hb dL_law_33 hc (by decide) (by decide) rfl (by decide) ?_
        refine lv_aload_n hx hb dL_law_1291 rfl (lv_at hl 1 rfl) ?_
        refine xe_d1 hf (fun v739 hg hf => ?_)
        have hC : ([0] : List Nat).map (fun i => (wd_LW_law cA qa σ τ)[i]?) = (wd_HS_status cA (qa 0) (qa 1) (qa 2) (qa 3) (qa 4) (qa 5) (qa 6) (qa 7) (qa 8) (qa 9) (qa 10) (qa 11) (qa 12) (σ 0) (σ 1) (σ 2) (σ 3)).map some := rfl
        refine xv_afterI (ws' := (wd_LW_law cA qa σ τ)) (isC := [0]) (ps := [some 0, none, none, none, none, none, none, none, none, none, none, none, none, none, none, none, none, none, none, none, none, none, none, none, none, none, none, none, none, none, none, none, none, none, none, none, none, none, none, none, none, none, none, none, none, none, none, none, none, none, none, none, none, none, none, none, none, none, none, none, none, none, none, none, none, none, none, none, none, none, none, none, none, none, none, none, none, none, none, none, none, none, none, none, none, none, none, none, none, none, none, none, none, none, none, none, none, none, none, none, none, none, none, none, none, none, none, none, none, none, none, none, none, none]) (va_runV (As := []) (rest := []) ⟨hx, hb, hml, hown, hts⟩ (c_HS_status l ev dC dI cA (qa 0) (qa 1) (qa 2) (qa 3) (qa 4) (qa 5) (qa 6) (qa 7) (qa 8) (qa 9) (qa 10) (qa 11) (qa 12) ((σ 0)) ((σ 1)) ((σ 2)) hg H.size) (cwV 0 hts (zgVL zw_1146 zw_1147 zw_1148 zw_104 zw_1149) rfl rfl rfl hd_HS_status ⟨Nat.le_of_ble_eq_true rfl, Nat.le_of_ble_eq_true rfl⟩) (xv_preV (T := TX10) (N := 16) hE hA hS hK hP hD (isC := [0]) (by decide +kernel) hC (q0 := 0) (ci := 10) rfl rfl) rfl rfl hl.1 rfl (lv_room (Nat.le_of_ble_eq_true rfl)) dL_law_1292 ⟨Nat.le_refl _, Nat.le_refl _⟩) hP hD hS hA (by decide +kernel) rfl hC rfl rfl (fun H locs hP hD hS => ?_)
        refine lv_pop hx hb dL_law_1295 rfl ?_
        refine lv_aload_n hx hb dL_law_1296 rfl (lv_at hl 2 rfl) ?_
        refine xe_d2 hf (fun v740 v741 hg hf => ?_)
        have hC : ([1] : List Nat).map (fun i => (wd_LW_law cA qa σ τ)[i]?) = (wd_HM_status cA (qa 13) (qa 14) (qa 15) (qa 16) (qa 17) (qa 18) (qa 19) (qa 20) (qa 21) (qa 22) (qa 23) (qa 24) (qa 25) (qa 26) (qa 27) (qa 28) (qa 29) (qa 30) (qa 31) (qa 32) (qa 33) (qa 34) (qa 35) (qa 36) (qa 37) (qa 38) (qa 39) (qa 40) (qa 41) (qa 42) (qa 43) (qa 44) (σ 6) (σ 7) (σ 8) (σ 9) (σ 10) (σ 11) (σ 12) (σ 13) (σ 14) (σ 15) (σ 16) (σ 17) (σ 18) (σ 19) (σ 20) (σ 21) (σ 22) (σ 23) (σ 24) (σ 25) (σ 5) (σ 4)).map some := rfl
        refine xv_afterI (ws' := (wd_LW_law cA qa (zst σ [(4, v741)]) τ)) (isC := [1]) (ps := [none, some 0, none, none, none, none, none, none, none, none, none, none, none, none, none, none, none, none, none, none, none, none, none, none, none, none, none, none, none, none, none, none, none, none, none, none, none, none, none, none, none, none, none, none, none, none, none, none, none, none, none, none, none, none, none, none, none, none, none, none, none, none, none, none, none, none, none, none, none, none, none, none, none, none, none, none, none, none, none, none, none, none, none, none, none, none, none, none, none, none, none, none, none, none, none, none, none, none, none, none, none, none, none, none, none, none, none, none, none, none, none, none, none, none]) (va_runV (As := []) (rest := []) ⟨hx, hb, hml, hown, hts⟩ (c_HM_status l ev dC dI cA (qa 13) (qa 14) (qa 15) (qa 16) (qa 17) (qa 18) (qa 19) (qa 20) (qa 21) (qa 22) (qa 23) (qa 24) (qa 25) (qa 26) (qa 27) (qa 28) (qa 29) (qa 30) (qa 31) (qa 32) (qa 33) (qa 34) (qa 35) (qa 36) (qa 37) (qa 38) (qa 39) (qa 40) (qa 41) (qa 42) (qa 43) (qa 44) ((σ 6)) ((σ 7)) ((σ 8)) ((σ 9)) ((σ 10)) ((σ 11)) ((σ 12)) ((σ 13)) ((σ 14)) ((σ 15)) ((σ 16)) ((σ 17)) ((σ 18)) ((σ 19)) ((σ 20)) ((σ 21)) ((σ 22)) ((σ 23)) ((σ 24)) ((σ 25)) hg H.size) (cwV 0 hts (zgVL zw_1784 zw_1785 zw_1786 zw_115 zw_1787) rfl rfl rfl hd_HM_status ⟨Nat.le_of_ble_eq_true rfl, Nat.le_of_ble_eq_true rfl⟩) (xv_preV (T := TX11) (N := 53) hE hA hS hK hP hD (isC := [1]) (by decide +kernel) hC (q0 := 1) (ci := 11) rfl rfl) rfl rfl hl.1 rfl (lv_room (Nat.le_of_ble_eq_true rfl)) dL_law_1297 ⟨Nat.le_refl _, Nat.le_refl _⟩) hP hD hS hA (by decide +kernel) rfl hC rfl rfl (fun H locs hP hD hS => ?_)
        refine lv_pop hx hb dL_law_1300 rfl ?_
        refine lv_goto (tgt := 1304) hx hb dL_law_1301 (by decide) ?_
        exact b_1304 _ ih18 _ _ _ _ _ _ hf hP hD hS (lv_sub hl [0, 1, 2, 3] rfl)
      refine xi_tout (tgt := 1304) hx hb dL_law_33 (by omega) (by decide) ?_
      exact b_1304 _ ih18 _ _ _ _ _ _ hf hP hD hS (lv_sub hl [0, 1, 2, 3] rfl)
  intro n
  induction n with
  | zero => intro x3 σ τ H locs ls hf hP hD hS hl; exact nomatch hf
  | succ n ih => intro x3 σ τ H locs ls hf hP hD hS hl; exact b_18 (f_LW_law_18 L (fun j => (xs j).toInt) n) ih x3 σ τ H locs ls hf hP hD hS hl
