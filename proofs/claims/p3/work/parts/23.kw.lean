theorem kw35 : (Jvm.Cond.constant "OpinionFerryModel" (331 : Nat) (100000 : Int32)) ∈ tbg := tbm (List.mem_append_right _ (List.mem_of_getElem? (i := 1700) (by decide +kernel))) rfl
theorem kw36 : (Jvm.Cond.constantLong "OpinionFerryModel" (115 : Nat) (427121668979 : Int64)) ∈ tbg := tbm (List.mem_append_right _ (List.mem_of_getElem? (i := 1278) (by decide +kernel))) rfl
theorem kw37 : (Jvm.Cond.constantLong "OpinionFerryModel" (117 : Nat) (491260572517 : Int64)) ∈ tbg := tbm (List.mem_append_right _ (List.mem_of_getElem? (i := 1279) (by decide +kernel))) rfl
theorem kw38 : (Jvm.Cond.constantLong "OpinionFerryModel" (119 : Nat) (1751741029 : Int64)) ∈ tbg := tbm (List.mem_append_right _ (List.mem_of_getElem? (i := 1280) (by decide +kernel))) rfl
theorem kw39 : (Jvm.Cond.constantLong "OpinionFerryModel" (121 : Nat) (1818846579 : Int64)) ∈ tbg := tbm (List.mem_append_right _ (List.mem_of_getElem? (i := 1281) (by decide +kernel))) rfl
theorem kw40 : (Jvm.Cond.constantLong "OpinionFerryModel" (123 : Nat) (500186639987 : Int64)) ∈ tbg := tbm (List.mem_append_right _ (List.mem_of_getElem? (i := 1282) (by decide +kernel))) rfl
