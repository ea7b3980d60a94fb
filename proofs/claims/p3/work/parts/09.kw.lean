theorem kw0 : (Jvm.Cond.constant "java/lang/Integer" (265 : Nat) (1431655765 : Int32)) ∈ tbg := tbm (List.mem_append_right _ (List.mem_of_getElem? (i := 655) (by decide +kernel))) rfl
theorem kw1 : (Jvm.Cond.constant "java/lang/Integer" (266 : Nat) (858993459 : Int32)) ∈ tbg := tbm (List.mem_append_right _ (List.mem_of_getElem? (i := 656) (by decide +kernel))) rfl
theorem kw2 : (Jvm.Cond.constant "java/lang/Integer" (267 : Nat) (252645135 : Int32)) ∈ tbg := tbm (List.mem_append_right _ (List.mem_of_getElem? (i := 657) (by decide +kernel))) rfl
theorem kw3 : (Jvm.Cond.methodLink "OpinionFerry$World" (100 : Nat) ({ cls := "java/lang/Math", name := "abs", desc := "(I)I" } : Jvm.MethodName)) ∈ tbg := tbm (List.mem_append_right _ (List.mem_of_getElem? (i := 698) (by decide +kernel))) rfl
theorem kw4 : (Jvm.Cond.static ({ cls := "java/lang/Math", name := "abs", desc := "(I)I" } : Jvm.MethodName)) ∈ tbg := tbm (List.mem_append_right _ (List.mem_of_getElem? (i := 699) (by decide +kernel))) rfl
theorem kw5 : (Jvm.Cond.initialized "java/lang/Math") ∈ tbg := tbm (List.mem_append_right _ (List.mem_of_getElem? (i := 22) (by decide +kernel))) rfl
theorem kw6 : (Jvm.Cond.constantLong "OpinionFerry$Tape" (41 : Nat) (27 : Int64)) ∈ tbg := tbm (List.mem_append_right _ (List.mem_of_getElem? (i := 501) (by decide +kernel))) rfl
theorem kw7 : (Jvm.Cond.fieldLink "OpinionFerry$Tape" (46 : Nat) "OpinionFerry$Word" "spelling" "J") ∈ tbg := tbm (List.mem_append_right _ (List.mem_of_getElem? (i := 1892) (by decide +kernel))) rfl
