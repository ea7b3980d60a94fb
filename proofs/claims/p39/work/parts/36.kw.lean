theorem kw83 : (Jvm.Cond.classLink "OpinionFerry" (126 : Nat) "java/util/NoSuchElementException") ∈ tbg := tbm (List.mem_append_right _ (List.mem_of_getElem? (i := 1159) (by decide +kernel))) rfl
theorem kw84 : (Jvm.Cond.initialized "java/util/NoSuchElementException") ∈ tbg := tbm (List.mem_append_right _ (List.mem_of_getElem? (i := 20) (by decide +kernel))) rfl
