theorem kw26 : (Jvm.Cond.constant "OpinionFerryModel" (372 : Nat) (1103515245 : Int32)) ∈ tbg := tbm (List.mem_append_right _ (List.mem_of_getElem? (i := 1784) (by decide +kernel))) rfl
