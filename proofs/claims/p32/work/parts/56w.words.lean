/-! words of the tables, more -/

theorem w_cP : (.castable "VowCourt$Person" "java/lang/Object" : Cond) ∈ XW := XW_mem (List.mem_of_getElem? (i := 964) (by decide +kernel)) rfl
theorem w_cV : (.castable "VowCourt$Vow" "java/lang/Object" : Cond) ∈ XW := XW_mem (List.mem_of_getElem? (i := 965) (by decide +kernel)) rfl
theorem w_cC : (.castable "VowCourt$Cause" "java/lang/Object" : Cond) ∈ XW := XW_mem (List.mem_of_getElem? (i := 966) (by decide +kernel)) rfl
theorem w_dG : (.declares ⟨"java/lang/Object", "getClass", "()Ljava/lang/Class;"⟩ : Cond) ∈ XW := XW_mem (List.mem_of_getElem? (i := 972) (by decide +kernel)) rfl
