/-! words of the tables, more -/
theorem w_xc1 : (.castable (exn 1) (exn 1) : Cond) ∈ XW := XW_mem (List.mem_of_getElem? (i := 151) (by decide +kernel)) rfl
theorem w_xc2 : (.castable (exn 2) (exn 2) : Cond) ∈ XW := XW_mem (List.mem_of_getElem? (i := 222) (by decide +kernel)) rfl
theorem w_xc3 : (.castable (exn 3) (exn 3) : Cond) ∈ XW := XW_mem (List.mem_of_getElem? (i := 245) (by decide +kernel)) rfl
