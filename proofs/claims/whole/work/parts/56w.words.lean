/-! words of the tables, more -/
theorem w_97 : (.sameField "java/util/ArrayList" "java/util/AbstractList" "modCount" "I" : Cond) ∈ TB := TB_mem (List.mem_of_getElem? (i := 97) (by decide +kernel)) rfl
theorem w_104 : (.superclass "java/util/ArrayList" "java/util/AbstractList" : Cond) ∈ TB := TB_mem (List.mem_of_getElem? (i := 104) (by decide +kernel)) rfl
theorem w_119 : (.superclass "VowCourt$Lines" "java/lang/Object" : Cond) ∈ TB := TB_mem (List.mem_of_getElem? (i := 119) (by decide +kernel)) rfl
theorem w_120 : (.arrayClass .int : Cond) ∈ TB := TB_mem (List.mem_of_getElem? (i := 120) (by decide +kernel)) rfl
theorem w_146 : (.superclass "VowCourt" "java/lang/Object" : Cond) ∈ TB := TB_mem (List.mem_of_getElem? (i := 146) (by decide +kernel)) rfl
theorem w_147 : (.arrayClass .boolean : Cond) ∈ TB := TB_mem (List.mem_of_getElem? (i := 147) (by decide +kernel)) rfl
theorem w_191 : (.superclass "java/lang/Throwable" "java/lang/Object" : Cond) ∈ TB := TB_mem (List.mem_of_getElem? (i := 191) (by decide +kernel)) rfl
theorem w_201 : (.sameMethod "java/lang/Throwable" "java/lang/Throwable" "fillInStackTrace" "()Ljava/lang/Throwable;" : Cond) ∈ TB := TB_mem (List.mem_of_getElem? (i := 201) (by decide +kernel)) rfl
theorem w_235 : (.superclass "java/lang/IndexOutOfBoundsException" "java/lang/RuntimeException" : Cond) ∈ TB := TB_mem (List.mem_of_getElem? (i := 235) (by decide +kernel)) rfl
theorem w_236 : (.arrayClass .byte : Cond) ∈ TB := TB_mem (List.mem_of_getElem? (i := 236) (by decide +kernel)) rfl
theorem w_255 : (.superclass "java/lang/IllegalArgumentException" "java/lang/RuntimeException" : Cond) ∈ TB := TB_mem (List.mem_of_getElem? (i := 255) (by decide +kernel)) rfl
theorem w_278 : (.superclass "java/lang/IllegalStateException" "java/lang/RuntimeException" : Cond) ∈ TB := TB_mem (List.mem_of_getElem? (i := 278) (by decide +kernel)) rfl
theorem w_320 : (.superclass "VowCourt$Person" "java/lang/Object" : Cond) ∈ TB := TB_mem (List.mem_of_getElem? (i := 320) (by decide +kernel)) rfl
theorem w_352 : (.sameMethod "java/lang/Object" "java/lang/Object" "getClass" "()Ljava/lang/Class;" : Cond) ∈ TB := TB_mem (List.mem_of_getElem? (i := 352) (by decide +kernel)) rfl
theorem w_537 : (.superclass "VowCourt$Vow" "java/lang/Object" : Cond) ∈ TB := TB_mem (List.mem_of_getElem? (i := 537) (by decide +kernel)) rfl
theorem w_640 : (.superclass "VowCourt$Cause" "java/lang/Object" : Cond) ∈ TB := TB_mem (List.mem_of_getElem? (i := 640) (by decide +kernel)) rfl
theorem w_827 : (.superclass "java/lang/StringBuilder" "java/lang/AbstractStringBuilder" : Cond) ∈ TB := TB_mem (List.mem_of_getElem? (i := 827) (by decide +kernel)) rfl
theorem w_854 : (.sameMethod "[B" "java/lang/Object" "clone" "()Ljava/lang/Object;" : Cond) ∈ TB := TB_mem (List.mem_of_getElem? (i := 854) (by decide +kernel)) rfl
theorem w_862 : (.sameMethod "java/lang/AbstractStringBuilder" "java/lang/AbstractStringBuilder" "isLatin1" "()Z" : Cond) ∈ TB := TB_mem (List.mem_of_getElem? (i := 862) (by decide +kernel)) rfl
theorem w_1092 : (.superclass "VowCourtModel" "java/lang/Object" : Cond) ∈ TB := TB_mem (List.mem_of_getElem? (i := 1092) (by decide +kernel)) rfl
theorem w_1334 : (.arrayClass .long : Cond) ∈ TB := TB_mem (List.mem_of_getElem? (i := 1334) (by decide +kernel)) rfl
theorem w_1335 : (.sameMethod "java/lang/Throwable" "java/lang/Throwable" "fillInStackTrace" "(I)Ljava/lang/Throwable;" : Cond) ∈ TB := TB_mem (List.mem_of_getElem? (i := 1335) (by decide +kernel)) rfl
theorem w_1336 : (.sameMethod "java/lang/AbstractStringBuilder" "java/lang/AbstractStringBuilder" "append" "(Ljava/lang/String;)Ljava/lang/AbstractStringBuilder;" : Cond) ∈ TB := TB_mem (List.mem_of_getElem? (i := 1336) (by decide +kernel)) rfl
theorem w_1337 : (.sameMethod "java/lang/AbstractStringBuilder" "java/lang/AbstractStringBuilder" "appendNull" "()Ljava/lang/AbstractStringBuilder;" : Cond) ∈ TB := TB_mem (List.mem_of_getElem? (i := 1337) (by decide +kernel)) rfl
theorem w_1338 : (.sameMethod "java/lang/AbstractStringBuilder" "java/lang/AbstractStringBuilder" "ensureCapacityInternal" "(I)V" : Cond) ∈ TB := TB_mem (List.mem_of_getElem? (i := 1338) (by decide +kernel)) rfl
theorem w_1339 : (.sameMethod "java/lang/AbstractStringBuilder" "java/lang/AbstractStringBuilder" "newCapacity" "(I)I" : Cond) ∈ TB := TB_mem (List.mem_of_getElem? (i := 1339) (by decide +kernel)) rfl
theorem w_1340 : (.sameMethod "java/lang/AbstractStringBuilder" "java/lang/AbstractStringBuilder" "putStringAt" "(ILjava/lang/String;)V" : Cond) ∈ TB := TB_mem (List.mem_of_getElem? (i := 1340) (by decide +kernel)) rfl
theorem w_1341 : (.sameMethod "java/lang/AbstractStringBuilder" "java/lang/AbstractStringBuilder" "inflateIfNeededFor" "(Ljava/lang/String;)V" : Cond) ∈ TB := TB_mem (List.mem_of_getElem? (i := 1341) (by decide +kernel)) rfl
theorem w_1342 : (.sameMethod "java/lang/AbstractStringBuilder" "java/lang/AbstractStringBuilder" "inflate" "()V" : Cond) ∈ TB := TB_mem (List.mem_of_getElem? (i := 1342) (by decide +kernel)) rfl
theorem w_1343 : (.sameMethod "java/lang/AbstractStringBuilder" "java/lang/AbstractStringBuilder" "append" "(I)Ljava/lang/AbstractStringBuilder;" : Cond) ∈ TB := TB_mem (List.mem_of_getElem? (i := 1343) (by decide +kernel)) rfl
theorem w_1344 : (.sameMethod "java/lang/AbstractStringBuilder" "java/lang/AbstractStringBuilder" "length" "()I" : Cond) ∈ TB := TB_mem (List.mem_of_getElem? (i := 1344) (by decide +kernel)) rfl
theorem w_1345 : (.sameMethod "java/lang/AbstractStringBuilder" "java/lang/AbstractStringBuilder" "charAt" "(I)C" : Cond) ∈ TB := TB_mem (List.mem_of_getElem? (i := 1345) (by decide +kernel)) rfl
theorem w_1359 : (.sameMethod "[Ljava/lang/Object;" "java/lang/Object" "getClass" "()Ljava/lang/Class;" : Cond) ∈ TB := TB_mem (List.mem_of_getElem? (i := 1359) (by decide +kernel)) rfl
theorem w_cP : (.castable "VowCourt$Person" "java/lang/Object" : Cond) ∈ XW := XW_mem (List.mem_of_getElem? (i := 1353) (by decide +kernel)) rfl
theorem w_cV : (.castable "VowCourt$Vow" "java/lang/Object" : Cond) ∈ XW := XW_mem (List.mem_of_getElem? (i := 1354) (by decide +kernel)) rfl
theorem w_cC : (.castable "VowCourt$Cause" "java/lang/Object" : Cond) ∈ XW := XW_mem (List.mem_of_getElem? (i := 1355) (by decide +kernel)) rfl
theorem w_dG : (.declares ⟨"java/lang/Object", "getClass", "()Ljava/lang/Class;"⟩ : Cond) ∈ XW := XW_mem (List.mem_of_getElem? (i := 1361) (by decide +kernel)) rfl
