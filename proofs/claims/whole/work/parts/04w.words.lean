/-! words of the tables -/
/-- private methods of the class above a builder: selected by a builder -/
def xsel : List Cond := [.selects RJ4 yJ5_ensureCapacityInternal_d00df yJ5_ensureCapacityInternal_d00df, .selects RJ4 yJ5_newCapacity_0f7a4 yJ5_newCapacity_0f7a4, .selects RJ4 yJ5_putStringAt_47b60 yJ5_putStringAt_47b60, .selects RJ4 yJ5_inflateIfNeededFor_a7421 yJ5_inflateIfNeededFor_a7421]
def TB : List Cond := (xsel ++ lw_tbl).filter goodWord
theorem TB_mem {w : Cond} (h : w ∈ lw_tbl) (g : goodWord w = true) : w ∈ TB := List.mem_filter.mpr ⟨List.mem_append_right _ h, g⟩
theorem xs_J5_ensureCapacityInternal_d00df : Cond.selects RJ4 yJ5_ensureCapacityInternal_d00df yJ5_ensureCapacityInternal_d00df ∈ TB := List.mem_filter.mpr ⟨List.mem_append_left _ (List.mem_of_getElem? (i := 0) rfl), rfl⟩
theorem xs_J5_newCapacity_0f7a4 : Cond.selects RJ4 yJ5_newCapacity_0f7a4 yJ5_newCapacity_0f7a4 ∈ TB := List.mem_filter.mpr ⟨List.mem_append_left _ (List.mem_of_getElem? (i := 1) rfl), rfl⟩
theorem xs_J5_putStringAt_47b60 : Cond.selects RJ4 yJ5_putStringAt_47b60 yJ5_putStringAt_47b60 ∈ TB := List.mem_filter.mpr ⟨List.mem_append_left _ (List.mem_of_getElem? (i := 2) rfl), rfl⟩
theorem xs_J5_inflateIfNeededFor_a7421 : Cond.selects RJ4 yJ5_inflateIfNeededFor_a7421 yJ5_inflateIfNeededFor_a7421 ∈ TB := List.mem_filter.mpr ⟨List.mem_append_left _ (List.mem_of_getElem? (i := 3) rfl), rfl⟩
theorem TB_good {w : Cond} (h : w ∈ TB) : goodWord w = true := (List.mem_filter.mp h).2
theorem TB_in {w0 : Cond} {ws : List Cond} (h : ∀ w ∈ ws, w ∈ TB) : GoodIn (w0 :: TB) ws := fun w hw => ⟨List.mem_cons_of_mem _ (h w hw), good_of_word (TB_good (h w hw))⟩
theorem w_0 : (.selects "VowCourt" ⟨"VowCourt", "isPerson", "(I)Z"⟩ ⟨"VowCourt", "isPerson", "(I)Z"⟩ : Cond) ∈ TB := TB_mem (List.mem_of_getElem? (i := 0) (by decide +kernel)) rfl
theorem w_1 : (.selects "java/lang/Throwable" ⟨"java/lang/Throwable", "fillInStackTrace", "(I)Ljava/lang/Throwable;"⟩ ⟨"java/lang/Throwable", "fillInStackTrace", "(I)Ljava/lang/Throwable;"⟩ : Cond) ∈ TB := TB_mem (List.mem_of_getElem? (i := 1) (by decide +kernel)) rfl
theorem w_2 : (.selects "java/util/ArrayList" ⟨"java/util/ArrayList", "add", "(Ljava/lang/Object;[Ljava/lang/Object;I)V"⟩ ⟨"java/util/ArrayList", "add", "(Ljava/lang/Object;[Ljava/lang/Object;I)V"⟩ : Cond) ∈ TB := TB_mem (List.mem_of_getElem? (i := 2) (by decide +kernel)) rfl
theorem w_3 : (.selects "java/util/ArrayList" ⟨"java/util/ArrayList", "grow", "()[Ljava/lang/Object;"⟩ ⟨"java/util/ArrayList", "grow", "()[Ljava/lang/Object;"⟩ : Cond) ∈ TB := TB_mem (List.mem_of_getElem? (i := 3) (by decide +kernel)) rfl
theorem w_4 : (.selects "java/util/ArrayList" ⟨"java/util/ArrayList", "grow", "(I)[Ljava/lang/Object;"⟩ ⟨"java/util/ArrayList", "grow", "(I)[Ljava/lang/Object;"⟩ : Cond) ∈ TB := TB_mem (List.mem_of_getElem? (i := 4) (by decide +kernel)) rfl
theorem w_5 : (.selects "VowCourt" ⟨"VowCourt", "personAt", "(I)LVowCourt$Person;"⟩ ⟨"VowCourt", "personAt", "(I)LVowCourt$Person;"⟩ : Cond) ∈ TB := TB_mem (List.mem_of_getElem? (i := 5) (by decide +kernel)) rfl
theorem w_6 : (.selects "VowCourt" ⟨"VowCourt", "endVowsOf", "(I)I"⟩ ⟨"VowCourt", "endVowsOf", "(I)I"⟩ : Cond) ∈ TB := TB_mem (List.mem_of_getElem? (i := 6) (by decide +kernel)) rfl
theorem w_7 : (.selects "VowCourt" ⟨"VowCourt", "lastingHindrances", "(II)I"⟩ ⟨"VowCourt", "lastingHindrances", "(II)I"⟩ : Cond) ∈ TB := TB_mem (List.mem_of_getElem? (i := 7) (by decide +kernel)) rfl
theorem w_8 : (.selects "VowCourt" ⟨"VowCourt", "ageOfYounger", "(II)I"⟩ ⟨"VowCourt", "ageOfYounger", "(II)I"⟩ : Cond) ∈ TB := TB_mem (List.mem_of_getElem? (i := 8) (by decide +kernel)) rfl
theorem w_9 : (.selects "VowCourt" ⟨"VowCourt", "canBeDispensed", "(III)Z"⟩ ⟨"VowCourt", "canBeDispensed", "(III)Z"⟩ : Cond) ∈ TB := TB_mem (List.mem_of_getElem? (i := 9) (by decide +kernel)) rfl
theorem w_10 : (.selects "VowCourt" ⟨"VowCourt", "vowAt", "(I)LVowCourt$Vow;"⟩ ⟨"VowCourt", "vowAt", "(I)LVowCourt$Vow;"⟩ : Cond) ∈ TB := TB_mem (List.mem_of_getElem? (i := 10) (by decide +kernel)) rfl
theorem w_11 : (.selects "VowCourt" ⟨"VowCourt", "hindrances", "(I)I"⟩ ⟨"VowCourt", "hindrances", "(I)I"⟩ : Cond) ∈ TB := TB_mem (List.mem_of_getElem? (i := 11) (by decide +kernel)) rfl
theorem w_12 : (.selects "VowCourt" ⟨"VowCourt", "lowestBond", "(III)I"⟩ ⟨"VowCourt", "lowestBond", "(III)I"⟩ : Cond) ∈ TB := TB_mem (List.mem_of_getElem? (i := 12) (by decide +kernel)) rfl
theorem w_13 : (.selects "VowCourt" ⟨"VowCourt", "isInCourt", "(I)Z"⟩ ⟨"VowCourt", "isInCourt", "(I)Z"⟩ : Cond) ∈ TB := TB_mem (List.mem_of_getElem? (i := 13) (by decide +kernel)) rfl
theorem w_14 : (.selects "VowCourt" ⟨"VowCourt", "mayBeJudged", "(I)Z"⟩ ⟨"VowCourt", "mayBeJudged", "(I)Z"⟩ : Cond) ∈ TB := TB_mem (List.mem_of_getElem? (i := 14) (by decide +kernel)) rfl
theorem w_15 : (.selects "VowCourt" ⟨"VowCourt", "isCourtOf", "(LVowCourt$Vow;I)Z"⟩ ⟨"VowCourt", "isCourtOf", "(LVowCourt$Vow;I)Z"⟩ : Cond) ∈ TB := TB_mem (List.mem_of_getElem? (i := 15) (by decide +kernel)) rfl
theorem w_16 : (.selects "VowCourt" ⟨"VowCourt", "livesAt", "(II)Z"⟩ ⟨"VowCourt", "livesAt", "(II)Z"⟩ : Cond) ∈ TB := TB_mem (List.mem_of_getElem? (i := 16) (by decide +kernel)) rfl
theorem w_17 : (.selects "VowCourt" ⟨"VowCourt", "causeAt", "(I)LVowCourt$Cause;"⟩ ⟨"VowCourt", "causeAt", "(I)LVowCourt$Cause;"⟩ : Cond) ∈ TB := TB_mem (List.mem_of_getElem? (i := 17) (by decide +kernel)) rfl
theorem w_18 : (.selects "VowCourt" ⟨"VowCourt", "describe", "(II)Ljava/lang/StringBuilder;"⟩ ⟨"VowCourt", "describe", "(II)Ljava/lang/StringBuilder;"⟩ : Cond) ∈ TB := TB_mem (List.mem_of_getElem? (i := 18) (by decide +kernel)) rfl
theorem w_19 : (.selects "VowCourtModel" ⟨"VowCourtModel", "isPerson", "(I)Z"⟩ ⟨"VowCourtModel", "isPerson", "(I)Z"⟩ : Cond) ∈ TB := TB_mem (List.mem_of_getElem? (i := 19) (by decide +kernel)) rfl
theorem w_20 : (.selects "VowCourtModel" ⟨"VowCourtModel", "fails", "(I)Z"⟩ ⟨"VowCourtModel", "fails", "(I)Z"⟩ : Cond) ∈ TB := TB_mem (List.mem_of_getElem? (i := 20) (by decide +kernel)) rfl
theorem w_21 : (.selects "VowCourtModel" ⟨"VowCourtModel", "ends", "(II)V"⟩ ⟨"VowCourtModel", "ends", "(II)V"⟩ : Cond) ∈ TB := TB_mem (List.mem_of_getElem? (i := 21) (by decide +kernel)) rfl
theorem w_22 : (.selects "VowCourtModel" ⟨"VowCourtModel", "canDispense", "(III)Z"⟩ ⟨"VowCourtModel", "canDispense", "(III)Z"⟩ : Cond) ∈ TB := TB_mem (List.mem_of_getElem? (i := 22) (by decide +kernel)) rfl
theorem w_23 : (.selects "VowCourtModel" ⟨"VowCourtModel", "hinders", "(II)I"⟩ ⟨"VowCourtModel", "hinders", "(II)I"⟩ : Cond) ∈ TB := TB_mem (List.mem_of_getElem? (i := 23) (by decide +kernel)) rfl
theorem w_24 : (.selects "VowCourtModel" ⟨"VowCourtModel", "isYoung", "(III)Z"⟩ ⟨"VowCourtModel", "isYoung", "(III)Z"⟩ : Cond) ∈ TB := TB_mem (List.mem_of_getElem? (i := 24) (by decide +kernel)) rfl
theorem w_25 : (.selects "VowCourtModel" ⟨"VowCourtModel", "areKin", "(II)Z"⟩ ⟨"VowCourtModel", "areKin", "(II)Z"⟩ : Cond) ∈ TB := TB_mem (List.mem_of_getElem? (i := 25) (by decide +kernel)) rfl
theorem w_26 : (.selects "VowCourtModel" ⟨"VowCourtModel", "kinOf", "(II)I"⟩ ⟨"VowCourtModel", "kinOf", "(II)I"⟩ : Cond) ∈ TB := TB_mem (List.mem_of_getElem? (i := 26) (by decide +kernel)) rfl
theorem w_27 : (.selects "VowCourtModel" ⟨"VowCourtModel", "isVow", "(I)Z"⟩ ⟨"VowCourtModel", "isVow", "(I)Z"⟩ : Cond) ∈ TB := TB_mem (List.mem_of_getElem? (i := 27) (by decide +kernel)) rfl
theorem w_28 : (.selects "VowCourtModel" ⟨"VowCourtModel", "hinderedBy", "(I)I"⟩ ⟨"VowCourtModel", "hinderedBy", "(I)I"⟩ : Cond) ∈ TB := TB_mem (List.mem_of_getElem? (i := 28) (by decide +kernel)) rfl
theorem w_29 : (.selects "VowCourtModel" ⟨"VowCourtModel", "isOf", "(II)Z"⟩ ⟨"VowCourtModel", "isOf", "(II)Z"⟩ : Cond) ∈ TB := TB_mem (List.mem_of_getElem? (i := 29) (by decide +kernel)) rfl
theorem w_30 : (.selects "VowCourtModel" ⟨"VowCourtModel", "binds", "(II)Z"⟩ ⟨"VowCourtModel", "binds", "(II)Z"⟩ : Cond) ∈ TB := TB_mem (List.mem_of_getElem? (i := 30) (by decide +kernel)) rfl
theorem w_31 : (.selects "VowCourtModel" ⟨"VowCourtModel", "isQuiet", "(II)Z"⟩ ⟨"VowCourtModel", "isQuiet", "(II)Z"⟩ : Cond) ∈ TB := TB_mem (List.mem_of_getElem? (i := 31) (by decide +kernel)) rfl
theorem w_32 : (.selects "VowCourtModel" ⟨"VowCourtModel", "isTold", "(I)Z"⟩ ⟨"VowCourtModel", "isTold", "(I)Z"⟩ : Cond) ∈ TB := TB_mem (List.mem_of_getElem? (i := 32) (by decide +kernel)) rfl
theorem w_33 : (.selects "VowCourtModel" ⟨"VowCourtModel", "has", "(II)Z"⟩ ⟨"VowCourtModel", "has", "(II)Z"⟩ : Cond) ∈ TB := TB_mem (List.mem_of_getElem? (i := 33) (by decide +kernel)) rfl
theorem w_34 : (.selects "VowCourtModel" ⟨"VowCourtModel", "isCause", "(I)Z"⟩ ⟨"VowCourtModel", "isCause", "(I)Z"⟩ : Cond) ∈ TB := TB_mem (List.mem_of_getElem? (i := 34) (by decide +kernel)) rfl
theorem w_35 : (.selects "VowCourtModel" ⟨"VowCourtModel", "proven", "(I)I"⟩ ⟨"VowCourtModel", "proven", "(I)I"⟩ : Cond) ∈ TB := TB_mem (List.mem_of_getElem? (i := 35) (by decide +kernel)) rfl
theorem w_36 : (.selects "VowCourtModel" ⟨"VowCourtModel", "decides", "(IZ)V"⟩ ⟨"VowCourtModel", "decides", "(IZ)V"⟩ : Cond) ∈ TB := TB_mem (List.mem_of_getElem? (i := 36) (by decide +kernel)) rfl
theorem w_37 : (.selects "VowCourtModel" ⟨"VowCourtModel", "opens", "(II)V"⟩ ⟨"VowCourtModel", "opens", "(II)V"⟩ : Cond) ∈ TB := TB_mem (List.mem_of_getElem? (i := 37) (by decide +kernel)) rfl
theorem w_38 : (.selects "VowCourtModel" ⟨"VowCourtModel", "boundBy", "(II)I"⟩ ⟨"VowCourtModel", "boundBy", "(II)I"⟩ : Cond) ∈ TB := TB_mem (List.mem_of_getElem? (i := 38) (by decide +kernel)) rfl
theorem w_39 : (.selects "VowCourtModel" ⟨"VowCourtModel", "writes", "(II)V"⟩ ⟨"VowCourtModel", "writes", "(II)V"⟩ : Cond) ∈ TB := TB_mem (List.mem_of_getElem? (i := 39) (by decide +kernel)) rfl
theorem w_40 : (.selects "VowCourtModel" ⟨"VowCourtModel", "puts", "(I)V"⟩ ⟨"VowCourtModel", "puts", "(I)V"⟩ : Cond) ∈ TB := TB_mem (List.mem_of_getElem? (i := 40) (by decide +kernel)) rfl
theorem w_41 : (.selects "VowCourtModel" ⟨"VowCourtModel", "putsNumber", "(I)V"⟩ ⟨"VowCourtModel", "putsNumber", "(I)V"⟩ : Cond) ∈ TB := TB_mem (List.mem_of_getElem? (i := 41) (by decide +kernel)) rfl
theorem w_42 : (.initialized "VowCourtLaw" : Cond) ∈ TB := TB_mem (List.mem_of_getElem? (i := 42) (by decide +kernel)) rfl
theorem w_43 : (.initialized "VowCourt" : Cond) ∈ TB := TB_mem (List.mem_of_getElem? (i := 43) (by decide +kernel)) rfl
theorem w_44 : (.initialized "java/util/AbstractCollection" : Cond) ∈ TB := TB_mem (List.mem_of_getElem? (i := 44) (by decide +kernel)) rfl
theorem w_45 : (.initialized "java/util/AbstractList" : Cond) ∈ TB := TB_mem (List.mem_of_getElem? (i := 45) (by decide +kernel)) rfl
theorem w_46 : (.initialized "java/util/ArrayList" : Cond) ∈ TB := TB_mem (List.mem_of_getElem? (i := 46) (by decide +kernel)) rfl
theorem w_47 : (.initialized "VowCourt$Lines" : Cond) ∈ TB := TB_mem (List.mem_of_getElem? (i := 47) (by decide +kernel)) rfl
theorem w_48 : (.initialized "java/util/Arrays" : Cond) ∈ TB := TB_mem (List.mem_of_getElem? (i := 48) (by decide +kernel)) rfl
theorem w_49 : (.initialized "VowCourtModel" : Cond) ∈ TB := TB_mem (List.mem_of_getElem? (i := 49) (by decide +kernel)) rfl
theorem w_50 : (.initialized "java/lang/Throwable" : Cond) ∈ TB := TB_mem (List.mem_of_getElem? (i := 50) (by decide +kernel)) rfl
theorem w_51 : (.initialized "java/lang/Exception" : Cond) ∈ TB := TB_mem (List.mem_of_getElem? (i := 51) (by decide +kernel)) rfl
theorem w_52 : (.initialized "java/lang/RuntimeException" : Cond) ∈ TB := TB_mem (List.mem_of_getElem? (i := 52) (by decide +kernel)) rfl
theorem w_53 : (.initialized "java/lang/IndexOutOfBoundsException" : Cond) ∈ TB := TB_mem (List.mem_of_getElem? (i := 53) (by decide +kernel)) rfl
theorem w_54 : (.initialized "java/lang/IllegalArgumentException" : Cond) ∈ TB := TB_mem (List.mem_of_getElem? (i := 54) (by decide +kernel)) rfl
theorem w_55 : (.initialized "java/lang/IllegalStateException" : Cond) ∈ TB := TB_mem (List.mem_of_getElem? (i := 55) (by decide +kernel)) rfl
theorem w_56 : (.initialized "java/lang/Math" : Cond) ∈ TB := TB_mem (List.mem_of_getElem? (i := 56) (by decide +kernel)) rfl
theorem w_57 : (.initialized "VowCourt$Person" : Cond) ∈ TB := TB_mem (List.mem_of_getElem? (i := 57) (by decide +kernel)) rfl
theorem w_58 : (.initialized "jdk/internal/util/ArraysSupport" : Cond) ∈ TB := TB_mem (List.mem_of_getElem? (i := 58) (by decide +kernel)) rfl
theorem w_59 : (.initialized "java/lang/System" : Cond) ∈ TB := TB_mem (List.mem_of_getElem? (i := 59) (by decide +kernel)) rfl
theorem w_60 : (.initialized "java/util/Objects" : Cond) ∈ TB := TB_mem (List.mem_of_getElem? (i := 60) (by decide +kernel)) rfl
theorem w_61 : (.initialized "jdk/internal/util/Preconditions" : Cond) ∈ TB := TB_mem (List.mem_of_getElem? (i := 61) (by decide +kernel)) rfl
theorem w_62 : (.initialized "VowCourt$Vow" : Cond) ∈ TB := TB_mem (List.mem_of_getElem? (i := 62) (by decide +kernel)) rfl
theorem w_63 : (.initialized "VowCourt$Cause" : Cond) ∈ TB := TB_mem (List.mem_of_getElem? (i := 63) (by decide +kernel)) rfl
theorem w_64 : (.initialized "java/lang/AbstractStringBuilder" : Cond) ∈ TB := TB_mem (List.mem_of_getElem? (i := 64) (by decide +kernel)) rfl
theorem w_65 : (.initialized "java/lang/StringBuilder" : Cond) ∈ TB := TB_mem (List.mem_of_getElem? (i := 65) (by decide +kernel)) rfl
theorem w_66 : (.initialized "java/lang/String" : Cond) ∈ TB := TB_mem (List.mem_of_getElem? (i := 66) (by decide +kernel)) rfl
theorem w_67 : (.initialized "java/lang/StringUTF16" : Cond) ∈ TB := TB_mem (List.mem_of_getElem? (i := 67) (by decide +kernel)) rfl
theorem w_68 : (.initialized "java/lang/StringLatin1" : Cond) ∈ TB := TB_mem (List.mem_of_getElem? (i := 68) (by decide +kernel)) rfl
theorem w_69 : (.initialized "java/lang/Number" : Cond) ∈ TB := TB_mem (List.mem_of_getElem? (i := 69) (by decide +kernel)) rfl
theorem w_70 : (.initialized "java/lang/Integer" : Cond) ∈ TB := TB_mem (List.mem_of_getElem? (i := 70) (by decide +kernel)) rfl
theorem w_71 : (.classLink "VowCourtLaw" 8 "VowCourt" : Cond) ∈ TB := TB_mem (List.mem_of_getElem? (i := 71) (by decide +kernel)) rfl
theorem w_72 : (.instantiable "VowCourt" 8 : Cond) ∈ TB := TB_mem (List.mem_of_getElem? (i := 72) (by decide +kernel)) rfl
theorem w_73 : (.methodLink "VowCourtLaw" 112 ⟨"VowCourt", "<init>", "()V"⟩ : Cond) ∈ TB := TB_mem (List.mem_of_getElem? (i := 73) (by decide +kernel)) rfl
theorem w_74 : (.instanceMethod ⟨"VowCourt", "<init>", "()V"⟩ : Cond) ∈ TB := TB_mem (List.mem_of_getElem? (i := 74) (by decide +kernel)) rfl
theorem w_75 : (.code yX4_init cX4_init 1 none : Cond) ∈ TB := TB_mem (List.mem_of_getElem? (i := 75) (by decide +kernel)) rfl
theorem w_76 : (.methodLink "VowCourt" 3 ⟨"java/lang/Object", "<init>", "()V"⟩ : Cond) ∈ TB := TB_mem (List.mem_of_getElem? (i := 76) (by decide +kernel)) rfl
theorem w_77 : (.instanceMethod ⟨"java/lang/Object", "<init>", "()V"⟩ : Cond) ∈ TB := TB_mem (List.mem_of_getElem? (i := 77) (by decide +kernel)) rfl
theorem w_79 : (.classLink "VowCourt" 9 "java/util/ArrayList" : Cond) ∈ TB := TB_mem (List.mem_of_getElem? (i := 79) (by decide +kernel)) rfl
theorem w_80 : (.instantiable "java/util/ArrayList" 3 : Cond) ∈ TB := TB_mem (List.mem_of_getElem? (i := 80) (by decide +kernel)) rfl
theorem w_81 : (.methodLink "VowCourt" 11 ⟨"java/util/ArrayList", "<init>", "()V"⟩ : Cond) ∈ TB := TB_mem (List.mem_of_getElem? (i := 81) (by decide +kernel)) rfl
theorem w_82 : (.instanceMethod ⟨"java/util/ArrayList", "<init>", "()V"⟩ : Cond) ∈ TB := TB_mem (List.mem_of_getElem? (i := 82) (by decide +kernel)) rfl
theorem w_83 : (.code yJx4a65c_init_da8c8 cJx4a65c_init_da8c8 1 none : Cond) ∈ TB := TB_mem (List.mem_of_getElem? (i := 83) (by decide +kernel)) rfl
theorem w_84 : (.methodLink "java/util/ArrayList" 1 ⟨"java/util/AbstractList", "<init>", "()V"⟩ : Cond) ∈ TB := TB_mem (List.mem_of_getElem? (i := 84) (by decide +kernel)) rfl
theorem w_85 : (.instanceMethod ⟨"java/util/AbstractList", "<init>", "()V"⟩ : Cond) ∈ TB := TB_mem (List.mem_of_getElem? (i := 85) (by decide +kernel)) rfl
theorem w_86 : (.code yJxc12de_init_da8c8 cJxc12de_init_da8c8 1 none : Cond) ∈ TB := TB_mem (List.mem_of_getElem? (i := 86) (by decide +kernel)) rfl
theorem w_87 : (.methodLink "java/util/AbstractList" 1 ⟨"java/util/AbstractCollection", "<init>", "()V"⟩ : Cond) ∈ TB := TB_mem (List.mem_of_getElem? (i := 87) (by decide +kernel)) rfl
theorem w_88 : (.instanceMethod ⟨"java/util/AbstractCollection", "<init>", "()V"⟩ : Cond) ∈ TB := TB_mem (List.mem_of_getElem? (i := 88) (by decide +kernel)) rfl
theorem w_89 : (.code yJxa1e45_init_da8c8 cJxa1e45_init_da8c8 1 none : Cond) ∈ TB := TB_mem (List.mem_of_getElem? (i := 89) (by decide +kernel)) rfl
theorem w_90 : (.methodLink "java/util/AbstractCollection" 1 ⟨"java/lang/Object", "<init>", "()V"⟩ : Cond) ∈ TB := TB_mem (List.mem_of_getElem? (i := 90) (by decide +kernel)) rfl
theorem w_91 : (.fieldLink "java/util/ArrayList" 39 "java/util/ArrayList" "DEFAULTCAPACITY_EMPTY_ELEMENTDATA" "[Ljava/lang/Object;" : Cond) ∈ TB := TB_mem (List.mem_of_getElem? (i := 91) (by decide +kernel)) rfl
theorem w_93 : (.fieldLink "java/util/ArrayList" 9 "java/util/ArrayList" "elementData" "[Ljava/lang/Object;" : Cond) ∈ TB := TB_mem (List.mem_of_getElem? (i := 93) (by decide +kernel)) rfl
theorem w_94 : (.fieldLink "java/util/ArrayList" 48 "java/util/ArrayList" "size" "I" : Cond) ∈ TB := TB_mem (List.mem_of_getElem? (i := 94) (by decide +kernel)) rfl
theorem w_95 : (.fieldLink "java/util/AbstractList" 7 "java/util/AbstractList" "modCount" "I" : Cond) ∈ TB := TB_mem (List.mem_of_getElem? (i := 95) (by decide +kernel)) rfl
theorem w_96 : (.fieldLink "java/util/ArrayList" 63 "java/util/ArrayList" "modCount" "I" : Cond) ∈ TB := TB_mem (List.mem_of_getElem? (i := 96) (by decide +kernel)) rfl
theorem w_105 : (.classLink "VowCourt" 22 "VowCourt$Lines" : Cond) ∈ TB := TB_mem (List.mem_of_getElem? (i := 105) (by decide +kernel)) rfl
theorem w_106 : (.instantiable "VowCourt$Lines" 1 : Cond) ∈ TB := TB_mem (List.mem_of_getElem? (i := 106) (by decide +kernel)) rfl
theorem w_107 : (.methodLink "VowCourt" 24 ⟨"VowCourt$Lines", "<init>", "()V"⟩ : Cond) ∈ TB := TB_mem (List.mem_of_getElem? (i := 107) (by decide +kernel)) rfl
theorem w_108 : (.instanceMethod ⟨"VowCourt$Lines", "<init>", "()V"⟩ : Cond) ∈ TB := TB_mem (List.mem_of_getElem? (i := 108) (by decide +kernel)) rfl
theorem w_109 : (.code yX1_init cX1_init 2 none : Cond) ∈ TB := TB_mem (List.mem_of_getElem? (i := 109) (by decide +kernel)) rfl
theorem w_110 : (.methodLink "VowCourt$Lines" 3 ⟨"java/lang/Object", "<init>", "()V"⟩ : Cond) ∈ TB := TB_mem (List.mem_of_getElem? (i := 110) (by decide +kernel)) rfl
theorem w_111 : (.classLink "VowCourt$Lines" 9 "[[I" : Cond) ∈ TB := TB_mem (List.mem_of_getElem? (i := 111) (by decide +kernel)) rfl
theorem w_113 : (.methodLink "VowCourt$Lines" 16 ⟨"java/util/Arrays", "fill", "([II)V"⟩ : Cond) ∈ TB := TB_mem (List.mem_of_getElem? (i := 113) (by decide +kernel)) rfl
theorem w_114 : (.static ⟨"java/util/Arrays", "fill", "([II)V"⟩ : Cond) ∈ TB := TB_mem (List.mem_of_getElem? (i := 114) (by decide +kernel)) rfl
theorem w_115 : (.code yJ7_fill_53178 cJ7_fill_53178 4 none : Cond) ∈ TB := TB_mem (List.mem_of_getElem? (i := 115) (by decide +kernel)) rfl
theorem w_116 : (.fieldLink "VowCourt$Lines" 11 "VowCourt$Lines" "steps" "[[I" : Cond) ∈ TB := TB_mem (List.mem_of_getElem? (i := 116) (by decide +kernel)) rfl
theorem w_121 : (.classLink "VowCourt" 29 "[[I" : Cond) ∈ TB := TB_mem (List.mem_of_getElem? (i := 121) (by decide +kernel)) rfl
theorem w_122 : (.fieldLink "VowCourt" 12 "VowCourt" "persons" "Ljava/util/ArrayList;" : Cond) ∈ TB := TB_mem (List.mem_of_getElem? (i := 122) (by decide +kernel)) rfl
theorem w_123 : (.fieldLink "VowCourt" 16 "VowCourt" "vows" "Ljava/util/ArrayList;" : Cond) ∈ TB := TB_mem (List.mem_of_getElem? (i := 123) (by decide +kernel)) rfl
theorem w_124 : (.fieldLink "VowCourt" 19 "VowCourt" "causes" "Ljava/util/ArrayList;" : Cond) ∈ TB := TB_mem (List.mem_of_getElem? (i := 124) (by decide +kernel)) rfl
theorem w_125 : (.fieldLink "VowCourt" 25 "VowCourt" "lines" "LVowCourt$Lines;" : Cond) ∈ TB := TB_mem (List.mem_of_getElem? (i := 125) (by decide +kernel)) rfl
theorem w_126 : (.fieldLink "VowCourt" 31 "VowCourt" "dispensed" "[[I" : Cond) ∈ TB := TB_mem (List.mem_of_getElem? (i := 126) (by decide +kernel)) rfl
theorem w_127 : (.fieldLink "VowCourt" 34 "VowCourt" "facultyEnds" "[[I" : Cond) ∈ TB := TB_mem (List.mem_of_getElem? (i := 127) (by decide +kernel)) rfl
theorem w_128 : (.fieldLink "VowCourt" 37 "VowCourt" "errors" "[Z" : Cond) ∈ TB := TB_mem (List.mem_of_getElem? (i := 128) (by decide +kernel)) rfl
theorem w_129 : (.fieldLink "VowCourt" 41 "VowCourt" "today" "I" : Cond) ∈ TB := TB_mem (List.mem_of_getElem? (i := 129) (by decide +kernel)) rfl
theorem w_148 : (.methodLink "VowCourtLaw" 116 ⟨"VowCourtLaw", "person", "(LVowCourt;IIII[J)I"⟩ : Cond) ∈ TB := TB_mem (List.mem_of_getElem? (i := 148) (by decide +kernel)) rfl
theorem w_149 : (.static ⟨"VowCourtLaw", "person", "(LVowCourt;IIII[J)I"⟩ : Cond) ∈ TB := TB_mem (List.mem_of_getElem? (i := 149) (by decide +kernel)) rfl
theorem w_151 : (.classLink "VowCourtLaw" 13 "java/lang/IndexOutOfBoundsException" : Cond) ∈ TB := TB_mem (List.mem_of_getElem? (i := 151) (by decide +kernel)) rfl
theorem w_152 : (.classLink "VowCourtLaw" 15 "java/lang/IllegalArgumentException" : Cond) ∈ TB := TB_mem (List.mem_of_getElem? (i := 152) (by decide +kernel)) rfl
theorem w_153 : (.classLink "VowCourtLaw" 17 "java/lang/IllegalStateException" : Cond) ∈ TB := TB_mem (List.mem_of_getElem? (i := 153) (by decide +kernel)) rfl
theorem w_154 : (.methodLink "VowCourtLaw" 7 ⟨"VowCourt", "person", "(IIII)I"⟩ : Cond) ∈ TB := TB_mem (List.mem_of_getElem? (i := 154) (by decide +kernel)) rfl
theorem w_155 : (.instanceMethod ⟨"VowCourt", "person", "(IIII)I"⟩ : Cond) ∈ TB := TB_mem (List.mem_of_getElem? (i := 155) (by decide +kernel)) rfl
theorem w_156 : (.selects "VowCourt" ⟨"VowCourt", "person", "(IIII)I"⟩ ⟨"VowCourt", "person", "(IIII)I"⟩ : Cond) ∈ TB := TB_mem (List.mem_of_getElem? (i := 156) (by decide +kernel)) rfl
theorem w_157 : (.code yX4_person cX4_person 6 (some .int) : Cond) ∈ TB := TB_mem (List.mem_of_getElem? (i := 157) (by decide +kernel)) rfl
theorem w_158 : (.methodLink "VowCourt" 45 ⟨"VowCourt", "isPerson", "(I)Z"⟩ : Cond) ∈ TB := TB_mem (List.mem_of_getElem? (i := 158) (by decide +kernel)) rfl
theorem w_160 : (.instanceMethod ⟨"VowCourt", "isPerson", "(I)Z"⟩ : Cond) ∈ TB := TB_mem (List.mem_of_getElem? (i := 160) (by decide +kernel)) rfl
theorem w_161 : (.code yX4_isPerson cX4_isPerson 2 (some .boolean) : Cond) ∈ TB := TB_mem (List.mem_of_getElem? (i := 161) (by decide +kernel)) rfl
theorem w_162 : (.methodLink "VowCourt" 60 ⟨"java/util/ArrayList", "size", "()I"⟩ : Cond) ∈ TB := TB_mem (List.mem_of_getElem? (i := 162) (by decide +kernel)) rfl
theorem w_163 : (.instanceMethod ⟨"java/util/ArrayList", "size", "()I"⟩ : Cond) ∈ TB := TB_mem (List.mem_of_getElem? (i := 163) (by decide +kernel)) rfl
theorem w_164 : (.selects "java/util/ArrayList" ⟨"java/util/ArrayList", "size", "()I"⟩ ⟨"java/util/ArrayList", "size", "()I"⟩ : Cond) ∈ TB := TB_mem (List.mem_of_getElem? (i := 164) (by decide +kernel)) rfl
theorem w_165 : (.code yJx4a65c_size_8abf5 cJx4a65c_size_8abf5 1 (some .int) : Cond) ∈ TB := TB_mem (List.mem_of_getElem? (i := 165) (by decide +kernel)) rfl
theorem w_166 : (.methodLink "VowCourt" 49 ⟨"VowCourt", "checkIndex", "(Z)V"⟩ : Cond) ∈ TB := TB_mem (List.mem_of_getElem? (i := 166) (by decide +kernel)) rfl
theorem w_167 : (.static ⟨"VowCourt", "checkIndex", "(Z)V"⟩ : Cond) ∈ TB := TB_mem (List.mem_of_getElem? (i := 167) (by decide +kernel)) rfl
theorem w_168 : (.code yX4_checkIndex cX4_checkIndex 1 none : Cond) ∈ TB := TB_mem (List.mem_of_getElem? (i := 168) (by decide +kernel)) rfl
theorem w_169 : (.classLink "VowCourt" 235 "java/lang/IndexOutOfBoundsException" : Cond) ∈ TB := TB_mem (List.mem_of_getElem? (i := 169) (by decide +kernel)) rfl
theorem w_170 : (.instantiable "java/lang/IndexOutOfBoundsException" 6 : Cond) ∈ TB := TB_mem (List.mem_of_getElem? (i := 170) (by decide +kernel)) rfl
theorem w_178 : (.selects "java/lang/IndexOutOfBoundsException" ⟨"java/lang/Throwable", "fillInStackTrace", "(I)Ljava/lang/Throwable;"⟩ ⟨"java/lang/Throwable", "fillInStackTrace", "(I)Ljava/lang/Throwable;"⟩ : Cond) ∈ TB := TB_mem (List.mem_of_getElem? (i := 178) (by decide +kernel)) rfl
theorem w_179 : (.selects "java/lang/IndexOutOfBoundsException" ⟨"java/lang/Throwable", "fillInStackTrace", "()Ljava/lang/Throwable;"⟩ ⟨"java/lang/Throwable", "fillInStackTrace", "()Ljava/lang/Throwable;"⟩ : Cond) ∈ TB := TB_mem (List.mem_of_getElem? (i := 179) (by decide +kernel)) rfl
theorem w_190 : (.fieldLink "java/lang/Throwable" 198 "java/lang/Throwable" "backtrace" "Ljava/lang/Object;" : Cond) ∈ TB := TB_mem (List.mem_of_getElem? (i := 190) (by decide +kernel)) rfl
theorem w_192 : (.instanceMethod ⟨"java/lang/Throwable", "<init>", "()V"⟩ : Cond) ∈ TB := TB_mem (List.mem_of_getElem? (i := 192) (by decide +kernel)) rfl
theorem w_194 : (.methodLink "java/lang/Throwable" 1 ⟨"java/lang/Object", "<init>", "()V"⟩ : Cond) ∈ TB := TB_mem (List.mem_of_getElem? (i := 194) (by decide +kernel)) rfl
theorem w_195 : (.fieldLink "java/lang/Throwable" 13 "java/lang/Throwable" "UNASSIGNED_STACK" "[Ljava/lang/StackTraceElement;" : Cond) ∈ TB := TB_mem (List.mem_of_getElem? (i := 195) (by decide +kernel)) rfl
theorem w_197 : (.fieldLink "java/lang/Throwable" 20 "java/lang/Throwable" "SUPPRESSED_SENTINEL" "Ljava/util/List;" : Cond) ∈ TB := TB_mem (List.mem_of_getElem? (i := 197) (by decide +kernel)) rfl
theorem w_199 : (.methodLink "java/lang/Throwable" 27 ⟨"java/lang/Throwable", "fillInStackTrace", "()Ljava/lang/Throwable;"⟩ : Cond) ∈ TB := TB_mem (List.mem_of_getElem? (i := 199) (by decide +kernel)) rfl
theorem w_200 : (.instanceMethod ⟨"java/lang/Throwable", "fillInStackTrace", "()Ljava/lang/Throwable;"⟩ : Cond) ∈ TB := TB_mem (List.mem_of_getElem? (i := 200) (by decide +kernel)) rfl
theorem w_202 : (.selects "java/lang/IllegalArgumentException" ⟨"java/lang/Throwable", "fillInStackTrace", "()Ljava/lang/Throwable;"⟩ ⟨"java/lang/Throwable", "fillInStackTrace", "()Ljava/lang/Throwable;"⟩ : Cond) ∈ TB := TB_mem (List.mem_of_getElem? (i := 202) (by decide +kernel)) rfl
theorem w_203 : (.selects "java/lang/IllegalStateException" ⟨"java/lang/Throwable", "fillInStackTrace", "()Ljava/lang/Throwable;"⟩ ⟨"java/lang/Throwable", "fillInStackTrace", "()Ljava/lang/Throwable;"⟩ : Cond) ∈ TB := TB_mem (List.mem_of_getElem? (i := 203) (by decide +kernel)) rfl
theorem w_205 : (.methodLink "java/lang/Throwable" 202 ⟨"java/lang/Throwable", "fillInStackTrace", "(I)Ljava/lang/Throwable;"⟩ : Cond) ∈ TB := TB_mem (List.mem_of_getElem? (i := 205) (by decide +kernel)) rfl
theorem w_207 : (.instanceMethod ⟨"java/lang/Throwable", "fillInStackTrace", "(I)Ljava/lang/Throwable;"⟩ : Cond) ∈ TB := TB_mem (List.mem_of_getElem? (i := 207) (by decide +kernel)) rfl
theorem w_208 : (.instantiable "java/lang/Throwable" 6 : Cond) ∈ TB := TB_mem (List.mem_of_getElem? (i := 208) (by decide +kernel)) rfl
theorem w_209 : (.native ⟨"java/lang/Throwable", "fillInStackTrace", "(I)Ljava/lang/Throwable;"⟩ : Cond) ∈ TB := TB_mem (List.mem_of_getElem? (i := 209) (by decide +kernel)) rfl
theorem w_211 : (.methodLink "VowCourt" 239 ⟨"java/lang/IndexOutOfBoundsException", "<init>", "(Ljava/lang/String;)V"⟩ : Cond) ∈ TB := TB_mem (List.mem_of_getElem? (i := 211) (by decide +kernel)) rfl
theorem w_212 : (.instanceMethod ⟨"java/lang/IndexOutOfBoundsException", "<init>", "(Ljava/lang/String;)V"⟩ : Cond) ∈ TB := TB_mem (List.mem_of_getElem? (i := 212) (by decide +kernel)) rfl
theorem w_214 : (.methodLink "java/lang/IndexOutOfBoundsException" 7 ⟨"java/lang/RuntimeException", "<init>", "(Ljava/lang/String;)V"⟩ : Cond) ∈ TB := TB_mem (List.mem_of_getElem? (i := 214) (by decide +kernel)) rfl
theorem w_215 : (.instanceMethod ⟨"java/lang/RuntimeException", "<init>", "(Ljava/lang/String;)V"⟩ : Cond) ∈ TB := TB_mem (List.mem_of_getElem? (i := 215) (by decide +kernel)) rfl
theorem w_217 : (.methodLink "java/lang/RuntimeException" 7 ⟨"java/lang/Exception", "<init>", "(Ljava/lang/String;)V"⟩ : Cond) ∈ TB := TB_mem (List.mem_of_getElem? (i := 217) (by decide +kernel)) rfl
theorem w_218 : (.instanceMethod ⟨"java/lang/Exception", "<init>", "(Ljava/lang/String;)V"⟩ : Cond) ∈ TB := TB_mem (List.mem_of_getElem? (i := 218) (by decide +kernel)) rfl
theorem w_220 : (.methodLink "java/lang/Exception" 7 ⟨"java/lang/Throwable", "<init>", "(Ljava/lang/String;)V"⟩ : Cond) ∈ TB := TB_mem (List.mem_of_getElem? (i := 220) (by decide +kernel)) rfl
theorem w_221 : (.instanceMethod ⟨"java/lang/Throwable", "<init>", "(Ljava/lang/String;)V"⟩ : Cond) ∈ TB := TB_mem (List.mem_of_getElem? (i := 221) (by decide +kernel)) rfl
theorem w_224 : (.fieldLink "java/lang/Throwable" 31 "java/lang/Throwable" "detailMessage" "Ljava/lang/String;" : Cond) ∈ TB := TB_mem (List.mem_of_getElem? (i := 224) (by decide +kernel)) rfl
theorem w_225 : (.fieldLink "java/lang/Throwable" 7 "java/lang/Throwable" "cause" "Ljava/lang/Throwable;" : Cond) ∈ TB := TB_mem (List.mem_of_getElem? (i := 225) (by decide +kernel)) rfl
theorem w_226 : (.fieldLink "java/lang/Throwable" 17 "java/lang/Throwable" "stackTrace" "[Ljava/lang/StackTraceElement;" : Cond) ∈ TB := TB_mem (List.mem_of_getElem? (i := 226) (by decide +kernel)) rfl
theorem w_227 : (.fieldLink "java/lang/Throwable" 24 "java/lang/Throwable" "suppressedExceptions" "Ljava/util/List;" : Cond) ∈ TB := TB_mem (List.mem_of_getElem? (i := 227) (by decide +kernel)) rfl
theorem w_237 : (.methodLink "VowCourt" 53 ⟨"VowCourt", "checkArgument", "(Z)V"⟩ : Cond) ∈ TB := TB_mem (List.mem_of_getElem? (i := 237) (by decide +kernel)) rfl
theorem w_238 : (.static ⟨"VowCourt", "checkArgument", "(Z)V"⟩ : Cond) ∈ TB := TB_mem (List.mem_of_getElem? (i := 238) (by decide +kernel)) rfl
theorem w_239 : (.code yX4_checkArgument cX4_checkArgument 1 none : Cond) ∈ TB := TB_mem (List.mem_of_getElem? (i := 239) (by decide +kernel)) rfl
theorem w_240 : (.classLink "VowCourt" 242 "java/lang/IllegalArgumentException" : Cond) ∈ TB := TB_mem (List.mem_of_getElem? (i := 240) (by decide +kernel)) rfl
theorem w_241 : (.instantiable "java/lang/IllegalArgumentException" 6 : Cond) ∈ TB := TB_mem (List.mem_of_getElem? (i := 241) (by decide +kernel)) rfl
theorem w_243 : (.selects "java/lang/IllegalArgumentException" ⟨"java/lang/Throwable", "fillInStackTrace", "(I)Ljava/lang/Throwable;"⟩ ⟨"java/lang/Throwable", "fillInStackTrace", "(I)Ljava/lang/Throwable;"⟩ : Cond) ∈ TB := TB_mem (List.mem_of_getElem? (i := 243) (by decide +kernel)) rfl
theorem w_250 : (.methodLink "VowCourt" 246 ⟨"java/lang/IllegalArgumentException", "<init>", "(Ljava/lang/String;)V"⟩ : Cond) ∈ TB := TB_mem (List.mem_of_getElem? (i := 250) (by decide +kernel)) rfl
theorem w_251 : (.instanceMethod ⟨"java/lang/IllegalArgumentException", "<init>", "(Ljava/lang/String;)V"⟩ : Cond) ∈ TB := TB_mem (List.mem_of_getElem? (i := 251) (by decide +kernel)) rfl
theorem w_253 : (.methodLink "java/lang/IllegalArgumentException" 7 ⟨"java/lang/RuntimeException", "<init>", "(Ljava/lang/String;)V"⟩ : Cond) ∈ TB := TB_mem (List.mem_of_getElem? (i := 253) (by decide +kernel)) rfl
theorem w_256 : (.constant "VowCourt" 56 (36000) : Cond) ∈ TB := TB_mem (List.mem_of_getElem? (i := 256) (by decide +kernel)) rfl
theorem w_257 : (.methodLink "VowCourt" 57 ⟨"VowCourt", "isPlace", "(I)Z"⟩ : Cond) ∈ TB := TB_mem (List.mem_of_getElem? (i := 257) (by decide +kernel)) rfl
theorem w_258 : (.static ⟨"VowCourt", "isPlace", "(I)Z"⟩ : Cond) ∈ TB := TB_mem (List.mem_of_getElem? (i := 258) (by decide +kernel)) rfl
theorem w_259 : (.code yX4_isPlace cX4_isPlace 1 (some .boolean) : Cond) ∈ TB := TB_mem (List.mem_of_getElem? (i := 259) (by decide +kernel)) rfl
theorem w_260 : (.methodLink "VowCourt" 64 ⟨"VowCourt", "checkPossible", "(Z)V"⟩ : Cond) ∈ TB := TB_mem (List.mem_of_getElem? (i := 260) (by decide +kernel)) rfl
theorem w_261 : (.static ⟨"VowCourt", "checkPossible", "(Z)V"⟩ : Cond) ∈ TB := TB_mem (List.mem_of_getElem? (i := 261) (by decide +kernel)) rfl
theorem w_262 : (.code yX4_checkPossible cX4_checkPossible 1 none : Cond) ∈ TB := TB_mem (List.mem_of_getElem? (i := 262) (by decide +kernel)) rfl
theorem w_263 : (.classLink "VowCourt" 247 "java/lang/IllegalStateException" : Cond) ∈ TB := TB_mem (List.mem_of_getElem? (i := 263) (by decide +kernel)) rfl
theorem w_264 : (.instantiable "java/lang/IllegalStateException" 6 : Cond) ∈ TB := TB_mem (List.mem_of_getElem? (i := 264) (by decide +kernel)) rfl
theorem w_266 : (.selects "java/lang/IllegalStateException" ⟨"java/lang/Throwable", "fillInStackTrace", "(I)Ljava/lang/Throwable;"⟩ ⟨"java/lang/Throwable", "fillInStackTrace", "(I)Ljava/lang/Throwable;"⟩ : Cond) ∈ TB := TB_mem (List.mem_of_getElem? (i := 266) (by decide +kernel)) rfl
theorem w_273 : (.methodLink "VowCourt" 251 ⟨"java/lang/IllegalStateException", "<init>", "(Ljava/lang/String;)V"⟩ : Cond) ∈ TB := TB_mem (List.mem_of_getElem? (i := 273) (by decide +kernel)) rfl
theorem w_274 : (.instanceMethod ⟨"java/lang/IllegalStateException", "<init>", "(Ljava/lang/String;)V"⟩ : Cond) ∈ TB := TB_mem (List.mem_of_getElem? (i := 274) (by decide +kernel)) rfl
theorem w_276 : (.methodLink "java/lang/IllegalStateException" 7 ⟨"java/lang/RuntimeException", "<init>", "(Ljava/lang/String;)V"⟩ : Cond) ∈ TB := TB_mem (List.mem_of_getElem? (i := 276) (by decide +kernel)) rfl
theorem w_279 : (.methodLink "VowCourt" 67 ⟨"VowCourt$Lines", "enter", "(III)V"⟩ : Cond) ∈ TB := TB_mem (List.mem_of_getElem? (i := 279) (by decide +kernel)) rfl
theorem w_280 : (.instanceMethod ⟨"VowCourt$Lines", "enter", "(III)V"⟩ : Cond) ∈ TB := TB_mem (List.mem_of_getElem? (i := 280) (by decide +kernel)) rfl
theorem w_281 : (.selects "VowCourt$Lines" ⟨"VowCourt$Lines", "enter", "(III)V"⟩ ⟨"VowCourt$Lines", "enter", "(III)V"⟩ : Cond) ∈ TB := TB_mem (List.mem_of_getElem? (i := 281) (by decide +kernel)) rfl
theorem w_282 : (.code yX1_enter cX1_enter 6 none : Cond) ∈ TB := TB_mem (List.mem_of_getElem? (i := 282) (by decide +kernel)) rfl
theorem w_283 : (.methodLink "VowCourt$Lines" 22 ⟨"VowCourt$Lines", "stepsBetween", "(II)I"⟩ : Cond) ∈ TB := TB_mem (List.mem_of_getElem? (i := 283) (by decide +kernel)) rfl
theorem w_284 : (.instanceMethod ⟨"VowCourt$Lines", "stepsBetween", "(II)I"⟩ : Cond) ∈ TB := TB_mem (List.mem_of_getElem? (i := 284) (by decide +kernel)) rfl
theorem w_285 : (.selects "VowCourt$Lines" ⟨"VowCourt$Lines", "stepsBetween", "(II)I"⟩ ⟨"VowCourt$Lines", "stepsBetween", "(II)I"⟩ : Cond) ∈ TB := TB_mem (List.mem_of_getElem? (i := 285) (by decide +kernel)) rfl
theorem w_286 : (.code yX1_stepsBetween cX1_stepsBetween 3 (some .int) : Cond) ∈ TB := TB_mem (List.mem_of_getElem? (i := 286) (by decide +kernel)) rfl
theorem w_287 : (.methodLink "VowCourt$Lines" 26 ⟨"java/lang/Math", "min", "(II)I"⟩ : Cond) ∈ TB := TB_mem (List.mem_of_getElem? (i := 287) (by decide +kernel)) rfl
theorem w_288 : (.static ⟨"java/lang/Math", "min", "(II)I"⟩ : Cond) ∈ TB := TB_mem (List.mem_of_getElem? (i := 288) (by decide +kernel)) rfl
theorem w_289 : (.code yJ9_min_7cf53 cJ9_min_7cf53 2 (some .int) : Cond) ∈ TB := TB_mem (List.mem_of_getElem? (i := 289) (by decide +kernel)) rfl
theorem w_290 : (.classLink "VowCourt" 71 "VowCourt$Person" : Cond) ∈ TB := TB_mem (List.mem_of_getElem? (i := 290) (by decide +kernel)) rfl
theorem w_291 : (.instantiable "VowCourt$Person" 6 : Cond) ∈ TB := TB_mem (List.mem_of_getElem? (i := 291) (by decide +kernel)) rfl
theorem w_292 : (.methodLink "VowCourt" 73 ⟨"VowCourt$Person", "<init>", "(II)V"⟩ : Cond) ∈ TB := TB_mem (List.mem_of_getElem? (i := 292) (by decide +kernel)) rfl
theorem w_293 : (.instanceMethod ⟨"VowCourt$Person", "<init>", "(II)V"⟩ : Cond) ∈ TB := TB_mem (List.mem_of_getElem? (i := 293) (by decide +kernel)) rfl
theorem w_294 : (.code yX2_init cX2_init 3 none : Cond) ∈ TB := TB_mem (List.mem_of_getElem? (i := 294) (by decide +kernel)) rfl
theorem w_295 : (.methodLink "VowCourt$Person" 1 ⟨"java/lang/Object", "<init>", "()V"⟩ : Cond) ∈ TB := TB_mem (List.mem_of_getElem? (i := 295) (by decide +kernel)) rfl
theorem w_296 : (.fieldLink "VowCourt$Person" 23 "VowCourt$Person" "born" "I" : Cond) ∈ TB := TB_mem (List.mem_of_getElem? (i := 296) (by decide +kernel)) rfl
theorem w_297 : (.fieldLink "VowCourt" 260 "VowCourt$Person" "born" "I" : Cond) ∈ TB := TB_mem (List.mem_of_getElem? (i := 297) (by decide +kernel)) rfl
theorem w_298 : (.fieldLink "VowCourt$Person" 26 "VowCourt$Person" "homeNow" "I" : Cond) ∈ TB := TB_mem (List.mem_of_getElem? (i := 298) (by decide +kernel)) rfl
theorem w_299 : (.fieldLink "VowCourt" 87 "VowCourt$Person" "homeNow" "I" : Cond) ∈ TB := TB_mem (List.mem_of_getElem? (i := 299) (by decide +kernel)) rfl
theorem w_300 : (.fieldLink "VowCourt$Person" 7 "VowCourt$Person" "riteNow" "I" : Cond) ∈ TB := TB_mem (List.mem_of_getElem? (i := 300) (by decide +kernel)) rfl
theorem w_301 : (.fieldLink "VowCourt" 84 "VowCourt$Person" "riteNow" "I" : Cond) ∈ TB := TB_mem (List.mem_of_getElem? (i := 301) (by decide +kernel)) rfl
theorem w_302 : (.fieldLink "VowCourt$Person" 13 "VowCourt$Person" "ordered" "Z" : Cond) ∈ TB := TB_mem (List.mem_of_getElem? (i := 302) (by decide +kernel)) rfl
theorem w_303 : (.fieldLink "VowCourt" 94 "VowCourt$Person" "ordered" "Z" : Cond) ∈ TB := TB_mem (List.mem_of_getElem? (i := 303) (by decide +kernel)) rfl
theorem w_304 : (.fieldLink "VowCourt$Person" 17 "VowCourt$Person" "banned" "Z" : Cond) ∈ TB := TB_mem (List.mem_of_getElem? (i := 304) (by decide +kernel)) rfl
theorem w_305 : (.fieldLink "VowCourt" 97 "VowCourt$Person" "banned" "Z" : Cond) ∈ TB := TB_mem (List.mem_of_getElem? (i := 305) (by decide +kernel)) rfl
theorem w_306 : (.fieldLink "VowCourt$Person" 20 "VowCourt$Person" "lives" "Z" : Cond) ∈ TB := TB_mem (List.mem_of_getElem? (i := 306) (by decide +kernel)) rfl
theorem w_307 : (.fieldLink "VowCourt" 90 "VowCourt$Person" "lives" "Z" : Cond) ∈ TB := TB_mem (List.mem_of_getElem? (i := 307) (by decide +kernel)) rfl
theorem w_321 : (.methodLink "VowCourt" 76 ⟨"java/util/ArrayList", "add", "(Ljava/lang/Object;)Z"⟩ : Cond) ∈ TB := TB_mem (List.mem_of_getElem? (i := 321) (by decide +kernel)) rfl
theorem w_322 : (.instanceMethod ⟨"java/util/ArrayList", "add", "(Ljava/lang/Object;)Z"⟩ : Cond) ∈ TB := TB_mem (List.mem_of_getElem? (i := 322) (by decide +kernel)) rfl
theorem w_323 : (.selects "java/util/ArrayList" ⟨"java/util/ArrayList", "add", "(Ljava/lang/Object;)Z"⟩ ⟨"java/util/ArrayList", "add", "(Ljava/lang/Object;)Z"⟩ : Cond) ∈ TB := TB_mem (List.mem_of_getElem? (i := 323) (by decide +kernel)) rfl
theorem w_324 : (.code yJx4a65c_add_9ea2d cJx4a65c_add_9ea2d 2 (some .boolean) : Cond) ∈ TB := TB_mem (List.mem_of_getElem? (i := 324) (by decide +kernel)) rfl
theorem w_325 : (.methodLink "java/util/ArrayList" 131 ⟨"java/util/ArrayList", "add", "(Ljava/lang/Object;[Ljava/lang/Object;I)V"⟩ : Cond) ∈ TB := TB_mem (List.mem_of_getElem? (i := 325) (by decide +kernel)) rfl
theorem w_327 : (.instanceMethod ⟨"java/util/ArrayList", "add", "(Ljava/lang/Object;[Ljava/lang/Object;I)V"⟩ : Cond) ∈ TB := TB_mem (List.mem_of_getElem? (i := 327) (by decide +kernel)) rfl
theorem w_328 : (.code yJx4a65c_add_72be8 cJx4a65c_add_72be8 4 none : Cond) ∈ TB := TB_mem (List.mem_of_getElem? (i := 328) (by decide +kernel)) rfl
theorem w_329 : (.methodLink "java/util/ArrayList" 129 ⟨"java/util/ArrayList", "grow", "()[Ljava/lang/Object;"⟩ : Cond) ∈ TB := TB_mem (List.mem_of_getElem? (i := 329) (by decide +kernel)) rfl
theorem w_331 : (.instanceMethod ⟨"java/util/ArrayList", "grow", "()[Ljava/lang/Object;"⟩ : Cond) ∈ TB := TB_mem (List.mem_of_getElem? (i := 331) (by decide +kernel)) rfl
theorem w_332 : (.code yJx4a65c_grow_d5877 cJx4a65c_grow_d5877 1 (some (.array (.object "java/lang/Object"))) : Cond) ∈ TB := TB_mem (List.mem_of_getElem? (i := 332) (by decide +kernel)) rfl
theorem w_333 : (.methodLink "java/util/ArrayList" 69 ⟨"java/util/ArrayList", "grow", "(I)[Ljava/lang/Object;"⟩ : Cond) ∈ TB := TB_mem (List.mem_of_getElem? (i := 333) (by decide +kernel)) rfl
theorem w_335 : (.instanceMethod ⟨"java/util/ArrayList", "grow", "(I)[Ljava/lang/Object;"⟩ : Cond) ∈ TB := TB_mem (List.mem_of_getElem? (i := 335) (by decide +kernel)) rfl
theorem w_336 : (.code yJx4a65c_grow_92f84 cJx4a65c_grow_92f84 4 (some (.array (.object "java/lang/Object"))) : Cond) ∈ TB := TB_mem (List.mem_of_getElem? (i := 336) (by decide +kernel)) rfl
theorem w_337 : (.methodLink "java/util/ArrayList" 73 ⟨"jdk/internal/util/ArraysSupport", "newLength", "(III)I"⟩ : Cond) ∈ TB := TB_mem (List.mem_of_getElem? (i := 337) (by decide +kernel)) rfl
theorem w_338 : (.static ⟨"jdk/internal/util/ArraysSupport", "newLength", "(III)I"⟩ : Cond) ∈ TB := TB_mem (List.mem_of_getElem? (i := 338) (by decide +kernel)) rfl
theorem w_339 : (.code yJ8_newLength_cabcc cJ8_newLength_cabcc 4 (some .int) : Cond) ∈ TB := TB_mem (List.mem_of_getElem? (i := 339) (by decide +kernel)) rfl
theorem w_340 : (.methodLink "jdk/internal/util/ArraysSupport" 194 ⟨"java/lang/Math", "max", "(II)I"⟩ : Cond) ∈ TB := TB_mem (List.mem_of_getElem? (i := 340) (by decide +kernel)) rfl
theorem w_341 : (.static ⟨"java/lang/Math", "max", "(II)I"⟩ : Cond) ∈ TB := TB_mem (List.mem_of_getElem? (i := 341) (by decide +kernel)) rfl
theorem w_342 : (.code yJ9_max_7cf53 cJ9_max_7cf53 2 (some .int) : Cond) ∈ TB := TB_mem (List.mem_of_getElem? (i := 342) (by decide +kernel)) rfl
theorem w_343 : (.constant "jdk/internal/util/ArraysSupport" 200 (2147483639) : Cond) ∈ TB := TB_mem (List.mem_of_getElem? (i := 343) (by decide +kernel)) rfl
theorem w_344 : (.methodLink "jdk/internal/util/ArraysSupport" 201 ⟨"jdk/internal/util/ArraysSupport", "hugeLength", "(II)I"⟩ : Cond) ∈ TB := TB_mem (List.mem_of_getElem? (i := 344) (by decide +kernel)) rfl
theorem w_345 : (.static ⟨"jdk/internal/util/ArraysSupport", "hugeLength", "(II)I"⟩ : Cond) ∈ TB := TB_mem (List.mem_of_getElem? (i := 345) (by decide +kernel)) rfl
theorem w_346 : (.code yJ8_hugeLength_7cf53 cJ8_hugeLength_7cf53 3 (some .int) : Cond) ∈ TB := TB_mem (List.mem_of_getElem? (i := 346) (by decide +kernel)) rfl
theorem w_347 : (.methodLink "java/util/ArrayList" 66 ⟨"java/util/Arrays", "copyOf", "([Ljava/lang/Object;I)[Ljava/lang/Object;"⟩ : Cond) ∈ TB := TB_mem (List.mem_of_getElem? (i := 347) (by decide +kernel)) rfl
theorem w_348 : (.static ⟨"java/util/Arrays", "copyOf", "([Ljava/lang/Object;I)[Ljava/lang/Object;"⟩ : Cond) ∈ TB := TB_mem (List.mem_of_getElem? (i := 348) (by decide +kernel)) rfl
theorem w_349 : (.code yJ7_copyOf_1904c cJ7_copyOf_1904c 2 (some (.array (.object "java/lang/Object"))) : Cond) ∈ TB := TB_mem (List.mem_of_getElem? (i := 349) (by decide +kernel)) rfl
theorem w_350 : (.methodLink "java/util/Arrays" 86 ⟨"java/lang/Object", "getClass", "()Ljava/lang/Class;"⟩ : Cond) ∈ TB := TB_mem (List.mem_of_getElem? (i := 350) (by decide +kernel)) rfl
theorem w_351 : (.instanceMethod ⟨"java/lang/Object", "getClass", "()Ljava/lang/Class;"⟩ : Cond) ∈ TB := TB_mem (List.mem_of_getElem? (i := 351) (by decide +kernel)) rfl
theorem w_353 : (.selects "VowCourt" ⟨"java/lang/Object", "getClass", "()Ljava/lang/Class;"⟩ ⟨"java/lang/Object", "getClass", "()Ljava/lang/Class;"⟩ : Cond) ∈ TB := TB_mem (List.mem_of_getElem? (i := 353) (by decide +kernel)) rfl
theorem w_354 : (.selects "VowCourt$Cause" ⟨"java/lang/Object", "getClass", "()Ljava/lang/Class;"⟩ ⟨"java/lang/Object", "getClass", "()Ljava/lang/Class;"⟩ : Cond) ∈ TB := TB_mem (List.mem_of_getElem? (i := 354) (by decide +kernel)) rfl
theorem w_355 : (.selects "VowCourt$Lines" ⟨"java/lang/Object", "getClass", "()Ljava/lang/Class;"⟩ ⟨"java/lang/Object", "getClass", "()Ljava/lang/Class;"⟩ : Cond) ∈ TB := TB_mem (List.mem_of_getElem? (i := 355) (by decide +kernel)) rfl
theorem w_356 : (.selects "VowCourt$Person" ⟨"java/lang/Object", "getClass", "()Ljava/lang/Class;"⟩ ⟨"java/lang/Object", "getClass", "()Ljava/lang/Class;"⟩ : Cond) ∈ TB := TB_mem (List.mem_of_getElem? (i := 356) (by decide +kernel)) rfl
theorem w_357 : (.selects "VowCourt$Vow" ⟨"java/lang/Object", "getClass", "()Ljava/lang/Class;"⟩ ⟨"java/lang/Object", "getClass", "()Ljava/lang/Class;"⟩ : Cond) ∈ TB := TB_mem (List.mem_of_getElem? (i := 357) (by decide +kernel)) rfl
theorem w_358 : (.selects "VowCourtModel" ⟨"java/lang/Object", "getClass", "()Ljava/lang/Class;"⟩ ⟨"java/lang/Object", "getClass", "()Ljava/lang/Class;"⟩ : Cond) ∈ TB := TB_mem (List.mem_of_getElem? (i := 358) (by decide +kernel)) rfl
theorem w_359 : (.selects "java/lang/IllegalArgumentException" ⟨"java/lang/Object", "getClass", "()Ljava/lang/Class;"⟩ ⟨"java/lang/Object", "getClass", "()Ljava/lang/Class;"⟩ : Cond) ∈ TB := TB_mem (List.mem_of_getElem? (i := 359) (by decide +kernel)) rfl
theorem w_360 : (.selects "java/lang/IllegalStateException" ⟨"java/lang/Object", "getClass", "()Ljava/lang/Class;"⟩ ⟨"java/lang/Object", "getClass", "()Ljava/lang/Class;"⟩ : Cond) ∈ TB := TB_mem (List.mem_of_getElem? (i := 360) (by decide +kernel)) rfl
theorem w_361 : (.selects "java/lang/IndexOutOfBoundsException" ⟨"java/lang/Object", "getClass", "()Ljava/lang/Class;"⟩ ⟨"java/lang/Object", "getClass", "()Ljava/lang/Class;"⟩ : Cond) ∈ TB := TB_mem (List.mem_of_getElem? (i := 361) (by decide +kernel)) rfl
theorem w_362 : (.selects "java/lang/StringBuilder" ⟨"java/lang/Object", "getClass", "()Ljava/lang/Class;"⟩ ⟨"java/lang/Object", "getClass", "()Ljava/lang/Class;"⟩ : Cond) ∈ TB := TB_mem (List.mem_of_getElem? (i := 362) (by decide +kernel)) rfl
theorem w_363 : (.selects "java/util/ArrayList" ⟨"java/lang/Object", "getClass", "()Ljava/lang/Class;"⟩ ⟨"java/lang/Object", "getClass", "()Ljava/lang/Class;"⟩ : Cond) ∈ TB := TB_mem (List.mem_of_getElem? (i := 363) (by decide +kernel)) rfl
theorem w_364 : (.native ⟨"java/lang/Object", "getClass", "()Ljava/lang/Class;"⟩ : Cond) ∈ TB := TB_mem (List.mem_of_getElem? (i := 364) (by decide +kernel)) rfl
theorem w_365 : (.methodLink "java/util/Arrays" 300 ⟨"java/util/Arrays", "copyOf", "([Ljava/lang/Object;ILjava/lang/Class;)[Ljava/lang/Object;"⟩ : Cond) ∈ TB := TB_mem (List.mem_of_getElem? (i := 365) (by decide +kernel)) rfl
theorem w_366 : (.static ⟨"java/util/Arrays", "copyOf", "([Ljava/lang/Object;ILjava/lang/Class;)[Ljava/lang/Object;"⟩ : Cond) ∈ TB := TB_mem (List.mem_of_getElem? (i := 366) (by decide +kernel)) rfl
theorem w_367 : (.code yJ7_copyOf_6403c cJ7_copyOf_6403c 4 (some (.array (.object "java/lang/Object"))) : Cond) ∈ TB := TB_mem (List.mem_of_getElem? (i := 367) (by decide +kernel)) rfl
theorem w_368 : (.classLink "java/util/Arrays" 110 "[Ljava/lang/Object;" : Cond) ∈ TB := TB_mem (List.mem_of_getElem? (i := 368) (by decide +kernel)) rfl
theorem w_370 : (.classLink "java/util/Arrays" 2 "java/lang/Object" : Cond) ∈ TB := TB_mem (List.mem_of_getElem? (i := 370) (by decide +kernel)) rfl
theorem w_371 : (.methodLink "java/util/Arrays" 304 ⟨"java/lang/Math", "min", "(II)I"⟩ : Cond) ∈ TB := TB_mem (List.mem_of_getElem? (i := 371) (by decide +kernel)) rfl
theorem w_372 : (.methodLink "java/util/Arrays" 150 ⟨"java/lang/System", "arraycopy", "(Ljava/lang/Object;ILjava/lang/Object;II)V"⟩ : Cond) ∈ TB := TB_mem (List.mem_of_getElem? (i := 372) (by decide +kernel)) rfl
theorem w_373 : (.static ⟨"java/lang/System", "arraycopy", "(Ljava/lang/Object;ILjava/lang/Object;II)V"⟩ : Cond) ∈ TB := TB_mem (List.mem_of_getElem? (i := 373) (by decide +kernel)) rfl
theorem w_374 : (.native ⟨"java/lang/System", "arraycopy", "(Ljava/lang/Object;ILjava/lang/Object;II)V"⟩ : Cond) ∈ TB := TB_mem (List.mem_of_getElem? (i := 374) (by decide +kernel)) rfl
theorem w_375 : (.methodLink "java/util/ArrayList" 79 ⟨"java/lang/Math", "max", "(II)I"⟩ : Cond) ∈ TB := TB_mem (List.mem_of_getElem? (i := 375) (by decide +kernel)) rfl
theorem w_376 : (.classLink "java/util/ArrayList" 7 "java/lang/Object" : Cond) ∈ TB := TB_mem (List.mem_of_getElem? (i := 376) (by decide +kernel)) rfl
theorem w_377 : (.methodLink "VowCourtLaw" 126 ⟨"VowCourtLaw", "rite", "(LVowCourt;II[J)I"⟩ : Cond) ∈ TB := TB_mem (List.mem_of_getElem? (i := 377) (by decide +kernel)) rfl
theorem w_378 : (.static ⟨"VowCourtLaw", "rite", "(LVowCourt;II[J)I"⟩ : Cond) ∈ TB := TB_mem (List.mem_of_getElem? (i := 378) (by decide +kernel)) rfl
theorem w_380 : (.methodLink "VowCourtLaw" 19 ⟨"VowCourt", "rite", "(II)I"⟩ : Cond) ∈ TB := TB_mem (List.mem_of_getElem? (i := 380) (by decide +kernel)) rfl
theorem w_381 : (.instanceMethod ⟨"VowCourt", "rite", "(II)I"⟩ : Cond) ∈ TB := TB_mem (List.mem_of_getElem? (i := 381) (by decide +kernel)) rfl
theorem w_382 : (.selects "VowCourt" ⟨"VowCourt", "rite", "(II)I"⟩ ⟨"VowCourt", "rite", "(II)I"⟩ : Cond) ∈ TB := TB_mem (List.mem_of_getElem? (i := 382) (by decide +kernel)) rfl
theorem w_383 : (.code yX4_rite cX4_rite 5 (some .int) : Cond) ∈ TB := TB_mem (List.mem_of_getElem? (i := 383) (by decide +kernel)) rfl
theorem w_384 : (.methodLink "VowCourt" 80 ⟨"VowCourt", "personAt", "(I)LVowCourt$Person;"⟩ : Cond) ∈ TB := TB_mem (List.mem_of_getElem? (i := 384) (by decide +kernel)) rfl
theorem w_386 : (.instanceMethod ⟨"VowCourt", "personAt", "(I)LVowCourt$Person;"⟩ : Cond) ∈ TB := TB_mem (List.mem_of_getElem? (i := 386) (by decide +kernel)) rfl
theorem w_387 : (.code yX4_personAt cX4_personAt 2 (some (.object "VowCourt$Person")) : Cond) ∈ TB := TB_mem (List.mem_of_getElem? (i := 387) (by decide +kernel)) rfl
theorem w_388 : (.methodLink "VowCourt" 253 ⟨"java/util/ArrayList", "get", "(I)Ljava/lang/Object;"⟩ : Cond) ∈ TB := TB_mem (List.mem_of_getElem? (i := 388) (by decide +kernel)) rfl
theorem w_389 : (.instanceMethod ⟨"java/util/ArrayList", "get", "(I)Ljava/lang/Object;"⟩ : Cond) ∈ TB := TB_mem (List.mem_of_getElem? (i := 389) (by decide +kernel)) rfl
theorem w_390 : (.selects "java/util/ArrayList" ⟨"java/util/ArrayList", "get", "(I)Ljava/lang/Object;"⟩ ⟨"java/util/ArrayList", "get", "(I)Ljava/lang/Object;"⟩ : Cond) ∈ TB := TB_mem (List.mem_of_getElem? (i := 390) (by decide +kernel)) rfl
theorem w_391 : (.code yJx4a65c_get_915e3 cJx4a65c_get_915e3 2 (some (.object "java/lang/Object")) : Cond) ∈ TB := TB_mem (List.mem_of_getElem? (i := 391) (by decide +kernel)) rfl
theorem w_392 : (.methodLink "java/util/ArrayList" 118 ⟨"java/util/Objects", "checkIndex", "(II)I"⟩ : Cond) ∈ TB := TB_mem (List.mem_of_getElem? (i := 392) (by decide +kernel)) rfl
theorem w_393 : (.static ⟨"java/util/Objects", "checkIndex", "(II)I"⟩ : Cond) ∈ TB := TB_mem (List.mem_of_getElem? (i := 393) (by decide +kernel)) rfl
theorem w_394 : (.code yJ15_checkIndex_7cf53 cJ15_checkIndex_7cf53 2 (some .int) : Cond) ∈ TB := TB_mem (List.mem_of_getElem? (i := 394) (by decide +kernel)) rfl
theorem w_395 : (.methodLink "java/util/Objects" 105 ⟨"jdk/internal/util/Preconditions", "checkIndex", "(IILjava/util/function/BiFunction;)I"⟩ : Cond) ∈ TB := TB_mem (List.mem_of_getElem? (i := 395) (by decide +kernel)) rfl
theorem w_396 : (.static ⟨"jdk/internal/util/Preconditions", "checkIndex", "(IILjava/util/function/BiFunction;)I"⟩ : Cond) ∈ TB := TB_mem (List.mem_of_getElem? (i := 396) (by decide +kernel)) rfl
theorem w_397 : (.code yJ3_checkIndex_8e157 cJ3_checkIndex_8e157 3 (some .int) : Cond) ∈ TB := TB_mem (List.mem_of_getElem? (i := 397) (by decide +kernel)) rfl
theorem w_398 : (.methodLink "java/util/ArrayList" 123 ⟨"java/util/ArrayList", "elementData", "(I)Ljava/lang/Object;"⟩ : Cond) ∈ TB := TB_mem (List.mem_of_getElem? (i := 398) (by decide +kernel)) rfl
theorem w_399 : (.instanceMethod ⟨"java/util/ArrayList", "elementData", "(I)Ljava/lang/Object;"⟩ : Cond) ∈ TB := TB_mem (List.mem_of_getElem? (i := 399) (by decide +kernel)) rfl
theorem w_400 : (.selects "java/util/ArrayList" ⟨"java/util/ArrayList", "elementData", "(I)Ljava/lang/Object;"⟩ ⟨"java/util/ArrayList", "elementData", "(I)Ljava/lang/Object;"⟩ : Cond) ∈ TB := TB_mem (List.mem_of_getElem? (i := 400) (by decide +kernel)) rfl
theorem w_401 : (.code yJx4a65c_elementData_915e3 cJx4a65c_elementData_915e3 2 (some (.object "java/lang/Object")) : Cond) ∈ TB := TB_mem (List.mem_of_getElem? (i := 401) (by decide +kernel)) rfl
theorem w_402 : (.methodLink "VowCourtLaw" 130 ⟨"VowCourtLaw", "home", "(LVowCourt;II[J)I"⟩ : Cond) ∈ TB := TB_mem (List.mem_of_getElem? (i := 402) (by decide +kernel)) rfl
theorem w_403 : (.static ⟨"VowCourtLaw", "home", "(LVowCourt;II[J)I"⟩ : Cond) ∈ TB := TB_mem (List.mem_of_getElem? (i := 403) (by decide +kernel)) rfl
theorem w_405 : (.methodLink "VowCourtLaw" 23 ⟨"VowCourt", "home", "(II)I"⟩ : Cond) ∈ TB := TB_mem (List.mem_of_getElem? (i := 405) (by decide +kernel)) rfl
theorem w_406 : (.instanceMethod ⟨"VowCourt", "home", "(II)I"⟩ : Cond) ∈ TB := TB_mem (List.mem_of_getElem? (i := 406) (by decide +kernel)) rfl
theorem w_407 : (.selects "VowCourt" ⟨"VowCourt", "home", "(II)I"⟩ ⟨"VowCourt", "home", "(II)I"⟩ : Cond) ∈ TB := TB_mem (List.mem_of_getElem? (i := 407) (by decide +kernel)) rfl
theorem w_408 : (.code yX4_home cX4_home 5 (some .int) : Cond) ∈ TB := TB_mem (List.mem_of_getElem? (i := 408) (by decide +kernel)) rfl
theorem w_409 : (.methodLink "VowCourtLaw" 133 ⟨"VowCourtLaw", "order", "(LVowCourt;I)I"⟩ : Cond) ∈ TB := TB_mem (List.mem_of_getElem? (i := 409) (by decide +kernel)) rfl
theorem w_410 : (.static ⟨"VowCourtLaw", "order", "(LVowCourt;I)I"⟩ : Cond) ∈ TB := TB_mem (List.mem_of_getElem? (i := 410) (by decide +kernel)) rfl
theorem w_412 : (.methodLink "VowCourtLaw" 26 ⟨"VowCourt", "order", "(I)V"⟩ : Cond) ∈ TB := TB_mem (List.mem_of_getElem? (i := 412) (by decide +kernel)) rfl
theorem w_413 : (.instanceMethod ⟨"VowCourt", "order", "(I)V"⟩ : Cond) ∈ TB := TB_mem (List.mem_of_getElem? (i := 413) (by decide +kernel)) rfl
theorem w_414 : (.selects "VowCourt" ⟨"VowCourt", "order", "(I)V"⟩ ⟨"VowCourt", "order", "(I)V"⟩ : Cond) ∈ TB := TB_mem (List.mem_of_getElem? (i := 414) (by decide +kernel)) rfl
theorem w_415 : (.code yX4_order cX4_order 3 none : Cond) ∈ TB := TB_mem (List.mem_of_getElem? (i := 415) (by decide +kernel)) rfl
theorem w_416 : (.methodLink "VowCourtLaw" 137 ⟨"VowCourtLaw", "ban", "(LVowCourt;I[J)I"⟩ : Cond) ∈ TB := TB_mem (List.mem_of_getElem? (i := 416) (by decide +kernel)) rfl
theorem w_417 : (.static ⟨"VowCourtLaw", "ban", "(LVowCourt;I[J)I"⟩ : Cond) ∈ TB := TB_mem (List.mem_of_getElem? (i := 417) (by decide +kernel)) rfl
theorem w_419 : (.methodLink "VowCourtLaw" 30 ⟨"VowCourt", "ban", "(I)Z"⟩ : Cond) ∈ TB := TB_mem (List.mem_of_getElem? (i := 419) (by decide +kernel)) rfl
theorem w_420 : (.instanceMethod ⟨"VowCourt", "ban", "(I)Z"⟩ : Cond) ∈ TB := TB_mem (List.mem_of_getElem? (i := 420) (by decide +kernel)) rfl
theorem w_421 : (.selects "VowCourt" ⟨"VowCourt", "ban", "(I)Z"⟩ ⟨"VowCourt", "ban", "(I)Z"⟩ : Cond) ∈ TB := TB_mem (List.mem_of_getElem? (i := 421) (by decide +kernel)) rfl
theorem w_422 : (.code yX4_ban cX4_ban 3 (some .boolean) : Cond) ∈ TB := TB_mem (List.mem_of_getElem? (i := 422) (by decide +kernel)) rfl
theorem w_423 : (.methodLink "VowCourtLaw" 141 ⟨"VowCourtLaw", "die", "(LVowCourt;I[J)I"⟩ : Cond) ∈ TB := TB_mem (List.mem_of_getElem? (i := 423) (by decide +kernel)) rfl
theorem w_424 : (.static ⟨"VowCourtLaw", "die", "(LVowCourt;I[J)I"⟩ : Cond) ∈ TB := TB_mem (List.mem_of_getElem? (i := 424) (by decide +kernel)) rfl
theorem w_426 : (.methodLink "VowCourtLaw" 34 ⟨"VowCourt", "die", "(I)I"⟩ : Cond) ∈ TB := TB_mem (List.mem_of_getElem? (i := 426) (by decide +kernel)) rfl
theorem w_427 : (.instanceMethod ⟨"VowCourt", "die", "(I)I"⟩ : Cond) ∈ TB := TB_mem (List.mem_of_getElem? (i := 427) (by decide +kernel)) rfl
theorem w_428 : (.selects "VowCourt" ⟨"VowCourt", "die", "(I)I"⟩ ⟨"VowCourt", "die", "(I)I"⟩ : Cond) ∈ TB := TB_mem (List.mem_of_getElem? (i := 428) (by decide +kernel)) rfl
theorem w_429 : (.code yX4_die cX4_die 3 (some .int) : Cond) ∈ TB := TB_mem (List.mem_of_getElem? (i := 429) (by decide +kernel)) rfl
theorem w_430 : (.methodLink "VowCourt" 100 ⟨"VowCourt", "endVowsOf", "(I)I"⟩ : Cond) ∈ TB := TB_mem (List.mem_of_getElem? (i := 430) (by decide +kernel)) rfl
theorem w_432 : (.instanceMethod ⟨"VowCourt", "endVowsOf", "(I)I"⟩ : Cond) ∈ TB := TB_mem (List.mem_of_getElem? (i := 432) (by decide +kernel)) rfl
theorem w_433 : (.code yX4_endVowsOf cX4_endVowsOf 5 (some .int) : Cond) ∈ TB := TB_mem (List.mem_of_getElem? (i := 433) (by decide +kernel)) rfl
theorem w_434 : (.classLink "VowCourt" 119 "VowCourt$Vow" : Cond) ∈ TB := TB_mem (List.mem_of_getElem? (i := 434) (by decide +kernel)) rfl
theorem w_435 : (.methodLink "VowCourt" 277 ⟨"VowCourt$Vow", "isOf", "(I)Z"⟩ : Cond) ∈ TB := TB_mem (List.mem_of_getElem? (i := 435) (by decide +kernel)) rfl
theorem w_436 : (.instanceMethod ⟨"VowCourt$Vow", "isOf", "(I)Z"⟩ : Cond) ∈ TB := TB_mem (List.mem_of_getElem? (i := 436) (by decide +kernel)) rfl
theorem w_437 : (.selects "VowCourt$Vow" ⟨"VowCourt$Vow", "isOf", "(I)Z"⟩ ⟨"VowCourt$Vow", "isOf", "(I)Z"⟩ : Cond) ∈ TB := TB_mem (List.mem_of_getElem? (i := 437) (by decide +kernel)) rfl
theorem w_438 : (.code yX3_isOf cX3_isOf 2 (some .boolean) : Cond) ∈ TB := TB_mem (List.mem_of_getElem? (i := 438) (by decide +kernel)) rfl
theorem w_439 : (.methodLink "VowCourt" 140 ⟨"VowCourt$Vow", "turn", "(II)V"⟩ : Cond) ∈ TB := TB_mem (List.mem_of_getElem? (i := 439) (by decide +kernel)) rfl
theorem w_440 : (.instanceMethod ⟨"VowCourt$Vow", "turn", "(II)V"⟩ : Cond) ∈ TB := TB_mem (List.mem_of_getElem? (i := 440) (by decide +kernel)) rfl
theorem w_441 : (.selects "VowCourt$Vow" ⟨"VowCourt$Vow", "turn", "(II)V"⟩ ⟨"VowCourt$Vow", "turn", "(II)V"⟩ : Cond) ∈ TB := TB_mem (List.mem_of_getElem? (i := 441) (by decide +kernel)) rfl
theorem w_442 : (.code yX3_turn cX3_turn 3 none : Cond) ∈ TB := TB_mem (List.mem_of_getElem? (i := 442) (by decide +kernel)) rfl
theorem w_443 : (.methodLink "VowCourtLaw" 144 ⟨"VowCourtLaw", "dispense", "(LVowCourt;III)I"⟩ : Cond) ∈ TB := TB_mem (List.mem_of_getElem? (i := 443) (by decide +kernel)) rfl
theorem w_444 : (.static ⟨"VowCourtLaw", "dispense", "(LVowCourt;III)I"⟩ : Cond) ∈ TB := TB_mem (List.mem_of_getElem? (i := 444) (by decide +kernel)) rfl
theorem w_446 : (.methodLink "VowCourtLaw" 38 ⟨"VowCourt", "dispense", "(III)V"⟩ : Cond) ∈ TB := TB_mem (List.mem_of_getElem? (i := 446) (by decide +kernel)) rfl
theorem w_447 : (.instanceMethod ⟨"VowCourt", "dispense", "(III)V"⟩ : Cond) ∈ TB := TB_mem (List.mem_of_getElem? (i := 447) (by decide +kernel)) rfl
theorem w_448 : (.selects "VowCourt" ⟨"VowCourt", "dispense", "(III)V"⟩ ⟨"VowCourt", "dispense", "(III)V"⟩ : Cond) ∈ TB := TB_mem (List.mem_of_getElem? (i := 448) (by decide +kernel)) rfl
theorem w_449 : (.code yX4_dispense cX4_dispense 4 none : Cond) ∈ TB := TB_mem (List.mem_of_getElem? (i := 449) (by decide +kernel)) rfl
theorem w_450 : (.methodLink "VowCourt" 104 ⟨"VowCourt", "lastingHindrances", "(II)I"⟩ : Cond) ∈ TB := TB_mem (List.mem_of_getElem? (i := 450) (by decide +kernel)) rfl
theorem w_452 : (.instanceMethod ⟨"VowCourt", "lastingHindrances", "(II)I"⟩ : Cond) ∈ TB := TB_mem (List.mem_of_getElem? (i := 452) (by decide +kernel)) rfl
theorem w_453 : (.code yX4_lastingHindrances cX4_lastingHindrances 4 (some .int) : Cond) ∈ TB := TB_mem (List.mem_of_getElem? (i := 453) (by decide +kernel)) rfl
theorem w_454 : (.methodLink "VowCourt" 257 ⟨"VowCourt", "ageOfYounger", "(II)I"⟩ : Cond) ∈ TB := TB_mem (List.mem_of_getElem? (i := 454) (by decide +kernel)) rfl
theorem w_456 : (.instanceMethod ⟨"VowCourt", "ageOfYounger", "(II)I"⟩ : Cond) ∈ TB := TB_mem (List.mem_of_getElem? (i := 456) (by decide +kernel)) rfl
theorem w_457 : (.code yX4_ageOfYounger cX4_ageOfYounger 3 (some .int) : Cond) ∈ TB := TB_mem (List.mem_of_getElem? (i := 457) (by decide +kernel)) rfl
theorem w_458 : (.methodLink "VowCourt" 263 ⟨"java/lang/Math", "max", "(II)I"⟩ : Cond) ∈ TB := TB_mem (List.mem_of_getElem? (i := 458) (by decide +kernel)) rfl
theorem w_459 : (.methodLink "VowCourt" 196 ⟨"VowCourt$Lines", "inLine", "(II)Z"⟩ : Cond) ∈ TB := TB_mem (List.mem_of_getElem? (i := 459) (by decide +kernel)) rfl
theorem w_460 : (.instanceMethod ⟨"VowCourt$Lines", "inLine", "(II)Z"⟩ : Cond) ∈ TB := TB_mem (List.mem_of_getElem? (i := 460) (by decide +kernel)) rfl
theorem w_461 : (.selects "VowCourt$Lines" ⟨"VowCourt$Lines", "inLine", "(II)Z"⟩ ⟨"VowCourt$Lines", "inLine", "(II)Z"⟩ : Cond) ∈ TB := TB_mem (List.mem_of_getElem? (i := 461) (by decide +kernel)) rfl
theorem w_462 : (.code yX1_inLine cX1_inLine 4 (some .boolean) : Cond) ∈ TB := TB_mem (List.mem_of_getElem? (i := 462) (by decide +kernel)) rfl
theorem w_463 : (.methodLink "VowCourt$Lines" 31 ⟨"VowCourt$Lines", "degree", "(II)I"⟩ : Cond) ∈ TB := TB_mem (List.mem_of_getElem? (i := 463) (by decide +kernel)) rfl
theorem w_464 : (.instanceMethod ⟨"VowCourt$Lines", "degree", "(II)I"⟩ : Cond) ∈ TB := TB_mem (List.mem_of_getElem? (i := 464) (by decide +kernel)) rfl
theorem w_465 : (.selects "VowCourt$Lines" ⟨"VowCourt$Lines", "degree", "(II)I"⟩ ⟨"VowCourt$Lines", "degree", "(II)I"⟩ : Cond) ∈ TB := TB_mem (List.mem_of_getElem? (i := 465) (by decide +kernel)) rfl
theorem w_466 : (.code yX1_degree cX1_degree 5 (some .int) : Cond) ∈ TB := TB_mem (List.mem_of_getElem? (i := 466) (by decide +kernel)) rfl
theorem w_467 : (.methodLink "VowCourt" 193 ⟨"VowCourt$Lines", "degree", "(II)I"⟩ : Cond) ∈ TB := TB_mem (List.mem_of_getElem? (i := 467) (by decide +kernel)) rfl
theorem w_468 : (.methodLink "VowCourt" 108 ⟨"VowCourt", "canBeDispensed", "(III)Z"⟩ : Cond) ∈ TB := TB_mem (List.mem_of_getElem? (i := 468) (by decide +kernel)) rfl
theorem w_470 : (.instanceMethod ⟨"VowCourt", "canBeDispensed", "(III)Z"⟩ : Cond) ∈ TB := TB_mem (List.mem_of_getElem? (i := 470) (by decide +kernel)) rfl
theorem w_471 : (.code yX4_canBeDispensed cX4_canBeDispensed 4 (some .boolean) : Cond) ∈ TB := TB_mem (List.mem_of_getElem? (i := 471) (by decide +kernel)) rfl
theorem w_472 : (.methodLink "VowCourtLaw" 148 ⟨"VowCourtLaw", "faculty", "(LVowCourt;III)I"⟩ : Cond) ∈ TB := TB_mem (List.mem_of_getElem? (i := 472) (by decide +kernel)) rfl
theorem w_473 : (.static ⟨"VowCourtLaw", "faculty", "(LVowCourt;III)I"⟩ : Cond) ∈ TB := TB_mem (List.mem_of_getElem? (i := 473) (by decide +kernel)) rfl
theorem w_475 : (.methodLink "VowCourtLaw" 42 ⟨"VowCourt", "faculty", "(III)V"⟩ : Cond) ∈ TB := TB_mem (List.mem_of_getElem? (i := 475) (by decide +kernel)) rfl
theorem w_476 : (.instanceMethod ⟨"VowCourt", "faculty", "(III)V"⟩ : Cond) ∈ TB := TB_mem (List.mem_of_getElem? (i := 476) (by decide +kernel)) rfl
theorem w_477 : (.selects "VowCourt" ⟨"VowCourt", "faculty", "(III)V"⟩ ⟨"VowCourt", "faculty", "(III)V"⟩ : Cond) ∈ TB := TB_mem (List.mem_of_getElem? (i := 477) (by decide +kernel)) rfl
theorem w_478 : (.code yX4_faculty cX4_faculty 4 none : Cond) ∈ TB := TB_mem (List.mem_of_getElem? (i := 478) (by decide +kernel)) rfl
theorem w_479 : (.methodLink "VowCourt" 112 ⟨"VowCourt", "isWitness", "(I)Z"⟩ : Cond) ∈ TB := TB_mem (List.mem_of_getElem? (i := 479) (by decide +kernel)) rfl
theorem w_480 : (.static ⟨"VowCourt", "isWitness", "(I)Z"⟩ : Cond) ∈ TB := TB_mem (List.mem_of_getElem? (i := 480) (by decide +kernel)) rfl
theorem w_481 : (.code yX4_isWitness cX4_isWitness 1 (some .boolean) : Cond) ∈ TB := TB_mem (List.mem_of_getElem? (i := 481) (by decide +kernel)) rfl
theorem w_482 : (.methodLink "VowCourtLaw" 151 ⟨"VowCourtLaw", "error", "(LVowCourt;I[J)I"⟩ : Cond) ∈ TB := TB_mem (List.mem_of_getElem? (i := 482) (by decide +kernel)) rfl
theorem w_483 : (.static ⟨"VowCourtLaw", "error", "(LVowCourt;I[J)I"⟩ : Cond) ∈ TB := TB_mem (List.mem_of_getElem? (i := 483) (by decide +kernel)) rfl
theorem w_485 : (.methodLink "VowCourtLaw" 45 ⟨"VowCourt", "error", "(I)Z"⟩ : Cond) ∈ TB := TB_mem (List.mem_of_getElem? (i := 485) (by decide +kernel)) rfl
theorem w_486 : (.instanceMethod ⟨"VowCourt", "error", "(I)Z"⟩ : Cond) ∈ TB := TB_mem (List.mem_of_getElem? (i := 486) (by decide +kernel)) rfl
theorem w_487 : (.selects "VowCourt" ⟨"VowCourt", "error", "(I)Z"⟩ ⟨"VowCourt", "error", "(I)Z"⟩ : Cond) ∈ TB := TB_mem (List.mem_of_getElem? (i := 487) (by decide +kernel)) rfl
theorem w_488 : (.code yX4_error cX4_error 2 (some .boolean) : Cond) ∈ TB := TB_mem (List.mem_of_getElem? (i := 488) (by decide +kernel)) rfl
theorem w_489 : (.methodLink "VowCourtLaw" 154 ⟨"VowCourtLaw", "vow", "(LVowCourt;IIII[J)I"⟩ : Cond) ∈ TB := TB_mem (List.mem_of_getElem? (i := 489) (by decide +kernel)) rfl
theorem w_490 : (.static ⟨"VowCourtLaw", "vow", "(LVowCourt;IIII[J)I"⟩ : Cond) ∈ TB := TB_mem (List.mem_of_getElem? (i := 490) (by decide +kernel)) rfl
theorem w_492 : (.methodLink "VowCourtLaw" 48 ⟨"VowCourt", "vow", "(IIII)I"⟩ : Cond) ∈ TB := TB_mem (List.mem_of_getElem? (i := 492) (by decide +kernel)) rfl
theorem w_493 : (.instanceMethod ⟨"VowCourt", "vow", "(IIII)I"⟩ : Cond) ∈ TB := TB_mem (List.mem_of_getElem? (i := 493) (by decide +kernel)) rfl
theorem w_494 : (.selects "VowCourt" ⟨"VowCourt", "vow", "(IIII)I"⟩ ⟨"VowCourt", "vow", "(IIII)I"⟩ : Cond) ∈ TB := TB_mem (List.mem_of_getElem? (i := 494) (by decide +kernel)) rfl
theorem w_495 : (.code yX4_vow cX4_vow 9 (some .int) : Cond) ∈ TB := TB_mem (List.mem_of_getElem? (i := 495) (by decide +kernel)) rfl
theorem w_496 : (.methodLink "VowCourt" 115 ⟨"VowCourt$Person", "mayVow", "()Z"⟩ : Cond) ∈ TB := TB_mem (List.mem_of_getElem? (i := 496) (by decide +kernel)) rfl
theorem w_497 : (.instanceMethod ⟨"VowCourt$Person", "mayVow", "()Z"⟩ : Cond) ∈ TB := TB_mem (List.mem_of_getElem? (i := 497) (by decide +kernel)) rfl
theorem w_498 : (.selects "VowCourt$Person" ⟨"VowCourt$Person", "mayVow", "()Z"⟩ ⟨"VowCourt$Person", "mayVow", "()Z"⟩ : Cond) ∈ TB := TB_mem (List.mem_of_getElem? (i := 498) (by decide +kernel)) rfl
theorem w_499 : (.code yX2_mayVow cX2_mayVow 1 (some .boolean) : Cond) ∈ TB := TB_mem (List.mem_of_getElem? (i := 499) (by decide +kernel)) rfl
theorem w_500 : (.instantiable "VowCourt$Vow" 8 : Cond) ∈ TB := TB_mem (List.mem_of_getElem? (i := 500) (by decide +kernel)) rfl
theorem w_501 : (.methodLink "VowCourt" 121 ⟨"VowCourt$Vow", "<init>", "(IIIIIZ)V"⟩ : Cond) ∈ TB := TB_mem (List.mem_of_getElem? (i := 501) (by decide +kernel)) rfl
theorem w_502 : (.instanceMethod ⟨"VowCourt$Vow", "<init>", "(IIIIIZ)V"⟩ : Cond) ∈ TB := TB_mem (List.mem_of_getElem? (i := 502) (by decide +kernel)) rfl
theorem w_503 : (.code yX3_init cX3_init 7 none : Cond) ∈ TB := TB_mem (List.mem_of_getElem? (i := 503) (by decide +kernel)) rfl
theorem w_504 : (.methodLink "VowCourt$Vow" 3 ⟨"java/lang/Object", "<init>", "()V"⟩ : Cond) ∈ TB := TB_mem (List.mem_of_getElem? (i := 504) (by decide +kernel)) rfl
theorem w_505 : (.fieldLink "VowCourt$Vow" 18 "VowCourt$Vow" "one" "I" : Cond) ∈ TB := TB_mem (List.mem_of_getElem? (i := 505) (by decide +kernel)) rfl
theorem w_506 : (.fieldLink "VowCourt" 268 "VowCourt$Vow" "one" "I" : Cond) ∈ TB := TB_mem (List.mem_of_getElem? (i := 506) (by decide +kernel)) rfl
theorem w_507 : (.fieldLink "VowCourt$Vow" 21 "VowCourt$Vow" "other" "I" : Cond) ∈ TB := TB_mem (List.mem_of_getElem? (i := 507) (by decide +kernel)) rfl
theorem w_508 : (.fieldLink "VowCourt" 271 "VowCourt$Vow" "other" "I" : Cond) ∈ TB := TB_mem (List.mem_of_getElem? (i := 508) (by decide +kernel)) rfl
theorem w_509 : (.fieldLink "VowCourt$Vow" 24 "VowCourt$Vow" "place" "I" : Cond) ∈ TB := TB_mem (List.mem_of_getElem? (i := 509) (by decide +kernel)) rfl
theorem w_510 : (.fieldLink "VowCourt" 209 "VowCourt$Vow" "place" "I" : Cond) ∈ TB := TB_mem (List.mem_of_getElem? (i := 510) (by decide +kernel)) rfl
theorem w_511 : (.fieldLink "VowCourt$Vow" 27 "VowCourt$Vow" "day" "I" : Cond) ∈ TB := TB_mem (List.mem_of_getElem? (i := 511) (by decide +kernel)) rfl
theorem w_512 : (.fieldLink "VowCourt" 203 "VowCourt$Vow" "day" "I" : Cond) ∈ TB := TB_mem (List.mem_of_getElem? (i := 512) (by decide +kernel)) rfl
theorem w_513 : (.fieldLink "VowCourt$Vow" 30 "VowCourt$Vow" "lasting" "I" : Cond) ∈ TB := TB_mem (List.mem_of_getElem? (i := 513) (by decide +kernel)) rfl
theorem w_514 : (.fieldLink "VowCourt" 274 "VowCourt$Vow" "lasting" "I" : Cond) ∈ TB := TB_mem (List.mem_of_getElem? (i := 514) (by decide +kernel)) rfl
theorem w_515 : (.fieldLink "VowCourt$Vow" 33 "VowCourt$Vow" "lacksForm" "Z" : Cond) ∈ TB := TB_mem (List.mem_of_getElem? (i := 515) (by decide +kernel)) rfl
theorem w_516 : (.fieldLink "VowCourt" 131 "VowCourt$Vow" "lacksForm" "Z" : Cond) ∈ TB := TB_mem (List.mem_of_getElem? (i := 516) (by decide +kernel)) rfl
theorem w_517 : (.fieldLink "VowCourt$Vow" 9 "VowCourt$Vow" "status" "I" : Cond) ∈ TB := TB_mem (List.mem_of_getElem? (i := 517) (by decide +kernel)) rfl
theorem w_518 : (.fieldLink "VowCourt" 128 "VowCourt$Vow" "status" "I" : Cond) ∈ TB := TB_mem (List.mem_of_getElem? (i := 518) (by decide +kernel)) rfl
theorem w_519 : (.fieldLink "VowCourt$Vow" 15 "VowCourt$Vow" "turned" "I" : Cond) ∈ TB := TB_mem (List.mem_of_getElem? (i := 519) (by decide +kernel)) rfl
theorem w_520 : (.fieldLink "VowCourt" 206 "VowCourt$Vow" "turned" "I" : Cond) ∈ TB := TB_mem (List.mem_of_getElem? (i := 520) (by decide +kernel)) rfl
theorem w_538 : (.methodLink "VowCourtLaw" 157 ⟨"VowCourtLaw", "heal", "(LVowCourt;I)I"⟩ : Cond) ∈ TB := TB_mem (List.mem_of_getElem? (i := 538) (by decide +kernel)) rfl
theorem w_539 : (.static ⟨"VowCourtLaw", "heal", "(LVowCourt;I)I"⟩ : Cond) ∈ TB := TB_mem (List.mem_of_getElem? (i := 539) (by decide +kernel)) rfl
theorem w_541 : (.methodLink "VowCourtLaw" 51 ⟨"VowCourt", "heal", "(I)V"⟩ : Cond) ∈ TB := TB_mem (List.mem_of_getElem? (i := 541) (by decide +kernel)) rfl
theorem w_542 : (.instanceMethod ⟨"VowCourt", "heal", "(I)V"⟩ : Cond) ∈ TB := TB_mem (List.mem_of_getElem? (i := 542) (by decide +kernel)) rfl
theorem w_543 : (.selects "VowCourt" ⟨"VowCourt", "heal", "(I)V"⟩ ⟨"VowCourt", "heal", "(I)V"⟩ : Cond) ∈ TB := TB_mem (List.mem_of_getElem? (i := 543) (by decide +kernel)) rfl
theorem w_544 : (.code yX4_heal cX4_heal 3 none : Cond) ∈ TB := TB_mem (List.mem_of_getElem? (i := 544) (by decide +kernel)) rfl
theorem w_545 : (.methodLink "VowCourt" 124 ⟨"VowCourt", "vowAt", "(I)LVowCourt$Vow;"⟩ : Cond) ∈ TB := TB_mem (List.mem_of_getElem? (i := 545) (by decide +kernel)) rfl
theorem w_547 : (.instanceMethod ⟨"VowCourt", "vowAt", "(I)LVowCourt$Vow;"⟩ : Cond) ∈ TB := TB_mem (List.mem_of_getElem? (i := 547) (by decide +kernel)) rfl
theorem w_548 : (.code yX4_vowAt cX4_vowAt 2 (some (.object "VowCourt$Vow")) : Cond) ∈ TB := TB_mem (List.mem_of_getElem? (i := 548) (by decide +kernel)) rfl
theorem w_549 : (.methodLink "VowCourt" 134 ⟨"VowCourt", "hindrances", "(I)I"⟩ : Cond) ∈ TB := TB_mem (List.mem_of_getElem? (i := 549) (by decide +kernel)) rfl
theorem w_551 : (.instanceMethod ⟨"VowCourt", "hindrances", "(I)I"⟩ : Cond) ∈ TB := TB_mem (List.mem_of_getElem? (i := 551) (by decide +kernel)) rfl
theorem w_552 : (.code yX4_hindrances cX4_hindrances 4 (some .int) : Cond) ∈ TB := TB_mem (List.mem_of_getElem? (i := 552) (by decide +kernel)) rfl
theorem w_553 : (.methodLink "VowCourt" 215 ⟨"VowCourt", "lowestBond", "(III)I"⟩ : Cond) ∈ TB := TB_mem (List.mem_of_getElem? (i := 553) (by decide +kernel)) rfl
theorem w_555 : (.instanceMethod ⟨"VowCourt", "lowestBond", "(III)I"⟩ : Cond) ∈ TB := TB_mem (List.mem_of_getElem? (i := 555) (by decide +kernel)) rfl
theorem w_556 : (.code yX4_lowestBond cX4_lowestBond 6 (some .int) : Cond) ∈ TB := TB_mem (List.mem_of_getElem? (i := 556) (by decide +kernel)) rfl
theorem w_557 : (.methodLink "VowCourt" 280 ⟨"VowCourt$Vow", "bindsOn", "(I)Z"⟩ : Cond) ∈ TB := TB_mem (List.mem_of_getElem? (i := 557) (by decide +kernel)) rfl
theorem w_558 : (.instanceMethod ⟨"VowCourt$Vow", "bindsOn", "(I)Z"⟩ : Cond) ∈ TB := TB_mem (List.mem_of_getElem? (i := 558) (by decide +kernel)) rfl
theorem w_559 : (.selects "VowCourt$Vow" ⟨"VowCourt$Vow", "bindsOn", "(I)Z"⟩ ⟨"VowCourt$Vow", "bindsOn", "(I)Z"⟩ : Cond) ∈ TB := TB_mem (List.mem_of_getElem? (i := 559) (by decide +kernel)) rfl
theorem w_560 : (.code yX3_bindsOn cX3_bindsOn 2 (some .boolean) : Cond) ∈ TB := TB_mem (List.mem_of_getElem? (i := 560) (by decide +kernel)) rfl
theorem w_561 : (.methodLink "VowCourtLaw" 160 ⟨"VowCourtLaw", "grace", "(LVowCourt;I)I"⟩ : Cond) ∈ TB := TB_mem (List.mem_of_getElem? (i := 561) (by decide +kernel)) rfl
theorem w_562 : (.static ⟨"VowCourtLaw", "grace", "(LVowCourt;I)I"⟩ : Cond) ∈ TB := TB_mem (List.mem_of_getElem? (i := 562) (by decide +kernel)) rfl
theorem w_564 : (.methodLink "VowCourtLaw" 54 ⟨"VowCourt", "grace", "(I)V"⟩ : Cond) ∈ TB := TB_mem (List.mem_of_getElem? (i := 564) (by decide +kernel)) rfl
theorem w_565 : (.instanceMethod ⟨"VowCourt", "grace", "(I)V"⟩ : Cond) ∈ TB := TB_mem (List.mem_of_getElem? (i := 565) (by decide +kernel)) rfl
theorem w_566 : (.selects "VowCourt" ⟨"VowCourt", "grace", "(I)V"⟩ ⟨"VowCourt", "grace", "(I)V"⟩ : Cond) ∈ TB := TB_mem (List.mem_of_getElem? (i := 566) (by decide +kernel)) rfl
theorem w_567 : (.code yX4_grace cX4_grace 3 none : Cond) ∈ TB := TB_mem (List.mem_of_getElem? (i := 567) (by decide +kernel)) rfl
theorem w_568 : (.methodLink "VowCourt" 137 ⟨"VowCourt", "isInCourt", "(I)Z"⟩ : Cond) ∈ TB := TB_mem (List.mem_of_getElem? (i := 568) (by decide +kernel)) rfl
theorem w_570 : (.instanceMethod ⟨"VowCourt", "isInCourt", "(I)Z"⟩ : Cond) ∈ TB := TB_mem (List.mem_of_getElem? (i := 570) (by decide +kernel)) rfl
theorem w_571 : (.code yX4_isInCourt cX4_isInCourt 4 (some .boolean) : Cond) ∈ TB := TB_mem (List.mem_of_getElem? (i := 571) (by decide +kernel)) rfl
theorem w_572 : (.classLink "VowCourt" 153 "VowCourt$Cause" : Cond) ∈ TB := TB_mem (List.mem_of_getElem? (i := 572) (by decide +kernel)) rfl
theorem w_573 : (.methodLink "VowCourt" 283 ⟨"VowCourt$Cause", "isOver", "()Z"⟩ : Cond) ∈ TB := TB_mem (List.mem_of_getElem? (i := 573) (by decide +kernel)) rfl
theorem w_574 : (.instanceMethod ⟨"VowCourt$Cause", "isOver", "()Z"⟩ : Cond) ∈ TB := TB_mem (List.mem_of_getElem? (i := 574) (by decide +kernel)) rfl
theorem w_575 : (.selects "VowCourt$Cause" ⟨"VowCourt$Cause", "isOver", "()Z"⟩ ⟨"VowCourt$Cause", "isOver", "()Z"⟩ : Cond) ∈ TB := TB_mem (List.mem_of_getElem? (i := 575) (by decide +kernel)) rfl
theorem w_576 : (.code yX0_isOver cX0_isOver 1 (some .boolean) : Cond) ∈ TB := TB_mem (List.mem_of_getElem? (i := 576) (by decide +kernel)) rfl
theorem w_577 : (.methodLink "VowCourtLaw" 163 ⟨"VowCourtLaw", "documents", "(LVowCourt;I[J)I"⟩ : Cond) ∈ TB := TB_mem (List.mem_of_getElem? (i := 577) (by decide +kernel)) rfl
theorem w_578 : (.static ⟨"VowCourtLaw", "documents", "(LVowCourt;I[J)I"⟩ : Cond) ∈ TB := TB_mem (List.mem_of_getElem? (i := 578) (by decide +kernel)) rfl
theorem w_580 : (.methodLink "VowCourtLaw" 57 ⟨"VowCourt", "documents", "(I)I"⟩ : Cond) ∈ TB := TB_mem (List.mem_of_getElem? (i := 580) (by decide +kernel)) rfl
theorem w_581 : (.instanceMethod ⟨"VowCourt", "documents", "(I)I"⟩ : Cond) ∈ TB := TB_mem (List.mem_of_getElem? (i := 581) (by decide +kernel)) rfl
theorem w_582 : (.selects "VowCourt" ⟨"VowCourt", "documents", "(I)I"⟩ ⟨"VowCourt", "documents", "(I)I"⟩ : Cond) ∈ TB := TB_mem (List.mem_of_getElem? (i := 582) (by decide +kernel)) rfl
theorem w_583 : (.code yX4_documents cX4_documents 4 (some .int) : Cond) ∈ TB := TB_mem (List.mem_of_getElem? (i := 583) (by decide +kernel)) rfl
theorem w_584 : (.methodLink "VowCourt" 143 ⟨"VowCourt", "mayBeJudged", "(I)Z"⟩ : Cond) ∈ TB := TB_mem (List.mem_of_getElem? (i := 584) (by decide +kernel)) rfl
theorem w_586 : (.instanceMethod ⟨"VowCourt", "mayBeJudged", "(I)Z"⟩ : Cond) ∈ TB := TB_mem (List.mem_of_getElem? (i := 586) (by decide +kernel)) rfl
theorem w_587 : (.code yX4_mayBeJudged cX4_mayBeJudged 3 (some .boolean) : Cond) ∈ TB := TB_mem (List.mem_of_getElem? (i := 587) (by decide +kernel)) rfl
theorem w_588 : (.methodLink "VowCourtLaw" 166 ⟨"VowCourtLaw", "cause", "(LVowCourt;IIIZ[J)I"⟩ : Cond) ∈ TB := TB_mem (List.mem_of_getElem? (i := 588) (by decide +kernel)) rfl
theorem w_589 : (.static ⟨"VowCourtLaw", "cause", "(LVowCourt;IIIZ[J)I"⟩ : Cond) ∈ TB := TB_mem (List.mem_of_getElem? (i := 589) (by decide +kernel)) rfl
theorem w_591 : (.methodLink "VowCourtLaw" 60 ⟨"VowCourt", "cause", "(IIIZ)I"⟩ : Cond) ∈ TB := TB_mem (List.mem_of_getElem? (i := 591) (by decide +kernel)) rfl
theorem w_592 : (.instanceMethod ⟨"VowCourt", "cause", "(IIIZ)I"⟩ : Cond) ∈ TB := TB_mem (List.mem_of_getElem? (i := 592) (by decide +kernel)) rfl
theorem w_593 : (.selects "VowCourt" ⟨"VowCourt", "cause", "(IIIZ)I"⟩ ⟨"VowCourt", "cause", "(IIIZ)I"⟩ : Cond) ∈ TB := TB_mem (List.mem_of_getElem? (i := 593) (by decide +kernel)) rfl
theorem w_594 : (.code yX4_cause cX4_cause 6 (some .int) : Cond) ∈ TB := TB_mem (List.mem_of_getElem? (i := 594) (by decide +kernel)) rfl
theorem w_595 : (.methodLink "VowCourt" 146 ⟨"VowCourt", "isDoubt", "(I)Z"⟩ : Cond) ∈ TB := TB_mem (List.mem_of_getElem? (i := 595) (by decide +kernel)) rfl
theorem w_596 : (.static ⟨"VowCourt", "isDoubt", "(I)Z"⟩ : Cond) ∈ TB := TB_mem (List.mem_of_getElem? (i := 596) (by decide +kernel)) rfl
theorem w_597 : (.code yX4_isDoubt cX4_isDoubt 1 (some .boolean) : Cond) ∈ TB := TB_mem (List.mem_of_getElem? (i := 597) (by decide +kernel)) rfl
theorem w_598 : (.methodLink "VowCourt" 149 ⟨"VowCourt", "isCourtOf", "(LVowCourt$Vow;I)Z"⟩ : Cond) ∈ TB := TB_mem (List.mem_of_getElem? (i := 598) (by decide +kernel)) rfl
theorem w_600 : (.instanceMethod ⟨"VowCourt", "isCourtOf", "(LVowCourt$Vow;I)Z"⟩ : Cond) ∈ TB := TB_mem (List.mem_of_getElem? (i := 600) (by decide +kernel)) rfl
theorem w_601 : (.code yX4_isCourtOf cX4_isCourtOf 3 (some .boolean) : Cond) ∈ TB := TB_mem (List.mem_of_getElem? (i := 601) (by decide +kernel)) rfl
theorem w_602 : (.methodLink "VowCourt" 286 ⟨"VowCourt", "livesAt", "(II)Z"⟩ : Cond) ∈ TB := TB_mem (List.mem_of_getElem? (i := 602) (by decide +kernel)) rfl
theorem w_604 : (.instanceMethod ⟨"VowCourt", "livesAt", "(II)Z"⟩ : Cond) ∈ TB := TB_mem (List.mem_of_getElem? (i := 604) (by decide +kernel)) rfl
theorem w_605 : (.code yX4_livesAt cX4_livesAt 4 (some .boolean) : Cond) ∈ TB := TB_mem (List.mem_of_getElem? (i := 605) (by decide +kernel)) rfl
theorem w_606 : (.instantiable "VowCourt$Cause" 7 : Cond) ∈ TB := TB_mem (List.mem_of_getElem? (i := 606) (by decide +kernel)) rfl
theorem w_607 : (.methodLink "VowCourt" 155 ⟨"VowCourt$Cause", "<init>", "(II)V"⟩ : Cond) ∈ TB := TB_mem (List.mem_of_getElem? (i := 607) (by decide +kernel)) rfl
theorem w_608 : (.instanceMethod ⟨"VowCourt$Cause", "<init>", "(II)V"⟩ : Cond) ∈ TB := TB_mem (List.mem_of_getElem? (i := 608) (by decide +kernel)) rfl
theorem w_609 : (.code yX0_init cX0_init 3 none : Cond) ∈ TB := TB_mem (List.mem_of_getElem? (i := 609) (by decide +kernel)) rfl
theorem w_610 : (.methodLink "VowCourt$Cause" 3 ⟨"java/lang/Object", "<init>", "()V"⟩ : Cond) ∈ TB := TB_mem (List.mem_of_getElem? (i := 610) (by decide +kernel)) rfl
theorem w_611 : (.methodLink "VowCourt$Cause" 34 ⟨"java/util/Arrays", "fill", "([II)V"⟩ : Cond) ∈ TB := TB_mem (List.mem_of_getElem? (i := 611) (by decide +kernel)) rfl
theorem w_612 : (.fieldLink "VowCourt$Cause" 28 "VowCourt$Cause" "vowNumber" "I" : Cond) ∈ TB := TB_mem (List.mem_of_getElem? (i := 612) (by decide +kernel)) rfl
theorem w_613 : (.fieldLink "VowCourt" 187 "VowCourt$Cause" "vowNumber" "I" : Cond) ∈ TB := TB_mem (List.mem_of_getElem? (i := 613) (by decide +kernel)) rfl
theorem w_614 : (.fieldLink "VowCourt$Cause" 31 "VowCourt$Cause" "doubted" "I" : Cond) ∈ TB := TB_mem (List.mem_of_getElem? (i := 614) (by decide +kernel)) rfl
theorem w_615 : (.fieldLink "VowCourt" 164 "VowCourt$Cause" "doubted" "I" : Cond) ∈ TB := TB_mem (List.mem_of_getElem? (i := 615) (by decide +kernel)) rfl
theorem w_616 : (.fieldLink "VowCourt$Cause" 9 "VowCourt$Cause" "status" "I" : Cond) ∈ TB := TB_mem (List.mem_of_getElem? (i := 616) (by decide +kernel)) rfl
theorem w_617 : (.fieldLink "VowCourt" 160 "VowCourt$Cause" "status" "I" : Cond) ∈ TB := TB_mem (List.mem_of_getElem? (i := 617) (by decide +kernel)) rfl
theorem w_618 : (.fieldLink "VowCourt$Cause" 15 "VowCourt$Cause" "instance" "I" : Cond) ∈ TB := TB_mem (List.mem_of_getElem? (i := 618) (by decide +kernel)) rfl
theorem w_619 : (.fieldLink "VowCourt" 161 "VowCourt$Cause" "instance" "I" : Cond) ∈ TB := TB_mem (List.mem_of_getElem? (i := 619) (by decide +kernel)) rfl
theorem w_620 : (.fieldLink "VowCourt$Cause" 18 "VowCourt$Cause" "weights" "[I" : Cond) ∈ TB := TB_mem (List.mem_of_getElem? (i := 620) (by decide +kernel)) rfl
theorem w_621 : (.fieldLink "VowCourt" 167 "VowCourt$Cause" "weights" "[I" : Cond) ∈ TB := TB_mem (List.mem_of_getElem? (i := 621) (by decide +kernel)) rfl
theorem w_622 : (.fieldLink "VowCourt$Cause" 22 "VowCourt$Cause" "votes" "[I" : Cond) ∈ TB := TB_mem (List.mem_of_getElem? (i := 622) (by decide +kernel)) rfl
theorem w_623 : (.fieldLink "VowCourt" 174 "VowCourt$Cause" "votes" "[I" : Cond) ∈ TB := TB_mem (List.mem_of_getElem? (i := 623) (by decide +kernel)) rfl
theorem w_624 : (.fieldLink "VowCourt$Cause" 25 "VowCourt$Cause" "sentences" "[I" : Cond) ∈ TB := TB_mem (List.mem_of_getElem? (i := 624) (by decide +kernel)) rfl
theorem w_625 : (.fieldLink "VowCourt" 219 "VowCourt$Cause" "sentences" "[I" : Cond) ∈ TB := TB_mem (List.mem_of_getElem? (i := 625) (by decide +kernel)) rfl
theorem w_641 : (.methodLink "VowCourtLaw" 170 ⟨"VowCourtLaw", "doubt", "(LVowCourt;II[J)I"⟩ : Cond) ∈ TB := TB_mem (List.mem_of_getElem? (i := 641) (by decide +kernel)) rfl
theorem w_642 : (.static ⟨"VowCourtLaw", "doubt", "(LVowCourt;II[J)I"⟩ : Cond) ∈ TB := TB_mem (List.mem_of_getElem? (i := 642) (by decide +kernel)) rfl
theorem w_644 : (.methodLink "VowCourtLaw" 64 ⟨"VowCourt", "doubt", "(II)I"⟩ : Cond) ∈ TB := TB_mem (List.mem_of_getElem? (i := 644) (by decide +kernel)) rfl
theorem w_645 : (.instanceMethod ⟨"VowCourt", "doubt", "(II)I"⟩ : Cond) ∈ TB := TB_mem (List.mem_of_getElem? (i := 645) (by decide +kernel)) rfl
theorem w_646 : (.selects "VowCourt" ⟨"VowCourt", "doubt", "(II)I"⟩ ⟨"VowCourt", "doubt", "(II)I"⟩ : Cond) ∈ TB := TB_mem (List.mem_of_getElem? (i := 646) (by decide +kernel)) rfl
theorem w_647 : (.code yX4_doubt cX4_doubt 5 (some .int) : Cond) ∈ TB := TB_mem (List.mem_of_getElem? (i := 647) (by decide +kernel)) rfl
theorem w_648 : (.methodLink "VowCourt" 156 ⟨"VowCourt", "causeAt", "(I)LVowCourt$Cause;"⟩ : Cond) ∈ TB := TB_mem (List.mem_of_getElem? (i := 648) (by decide +kernel)) rfl
theorem w_650 : (.instanceMethod ⟨"VowCourt", "causeAt", "(I)LVowCourt$Cause;"⟩ : Cond) ∈ TB := TB_mem (List.mem_of_getElem? (i := 650) (by decide +kernel)) rfl
theorem w_651 : (.code yX4_causeAt cX4_causeAt 2 (some (.object "VowCourt$Cause")) : Cond) ∈ TB := TB_mem (List.mem_of_getElem? (i := 651) (by decide +kernel)) rfl
theorem w_652 : (.methodLink "VowCourtLaw" 173 ⟨"VowCourtLaw", "proof", "(LVowCourt;III[J)I"⟩ : Cond) ∈ TB := TB_mem (List.mem_of_getElem? (i := 652) (by decide +kernel)) rfl
theorem w_653 : (.static ⟨"VowCourtLaw", "proof", "(LVowCourt;III[J)I"⟩ : Cond) ∈ TB := TB_mem (List.mem_of_getElem? (i := 653) (by decide +kernel)) rfl
theorem w_655 : (.methodLink "VowCourtLaw" 67 ⟨"VowCourt", "proof", "(III)I"⟩ : Cond) ∈ TB := TB_mem (List.mem_of_getElem? (i := 655) (by decide +kernel)) rfl
theorem w_656 : (.instanceMethod ⟨"VowCourt", "proof", "(III)I"⟩ : Cond) ∈ TB := TB_mem (List.mem_of_getElem? (i := 656) (by decide +kernel)) rfl
theorem w_657 : (.selects "VowCourt" ⟨"VowCourt", "proof", "(III)I"⟩ ⟨"VowCourt", "proof", "(III)I"⟩ : Cond) ∈ TB := TB_mem (List.mem_of_getElem? (i := 657) (by decide +kernel)) rfl
theorem w_658 : (.code yX4_proof cX4_proof 6 (some .int) : Cond) ∈ TB := TB_mem (List.mem_of_getElem? (i := 658) (by decide +kernel)) rfl
theorem w_659 : (.methodLink "VowCourtLaw" 177 ⟨"VowCourtLaw", "publish", "(LVowCourt;I[J)I"⟩ : Cond) ∈ TB := TB_mem (List.mem_of_getElem? (i := 659) (by decide +kernel)) rfl
theorem w_660 : (.static ⟨"VowCourtLaw", "publish", "(LVowCourt;I[J)I"⟩ : Cond) ∈ TB := TB_mem (List.mem_of_getElem? (i := 660) (by decide +kernel)) rfl
theorem w_662 : (.methodLink "VowCourtLaw" 71 ⟨"VowCourt", "publish", "(I)I"⟩ : Cond) ∈ TB := TB_mem (List.mem_of_getElem? (i := 662) (by decide +kernel)) rfl
theorem w_663 : (.instanceMethod ⟨"VowCourt", "publish", "(I)I"⟩ : Cond) ∈ TB := TB_mem (List.mem_of_getElem? (i := 663) (by decide +kernel)) rfl
theorem w_664 : (.selects "VowCourt" ⟨"VowCourt", "publish", "(I)I"⟩ ⟨"VowCourt", "publish", "(I)I"⟩ : Cond) ∈ TB := TB_mem (List.mem_of_getElem? (i := 664) (by decide +kernel)) rfl
theorem w_665 : (.code yX4_publish cX4_publish 3 (some .int) : Cond) ∈ TB := TB_mem (List.mem_of_getElem? (i := 665) (by decide +kernel)) rfl
theorem w_666 : (.methodLink "VowCourt" 171 ⟨"VowCourt$Cause", "provedGrounds", "()I"⟩ : Cond) ∈ TB := TB_mem (List.mem_of_getElem? (i := 666) (by decide +kernel)) rfl
theorem w_667 : (.instanceMethod ⟨"VowCourt$Cause", "provedGrounds", "()I"⟩ : Cond) ∈ TB := TB_mem (List.mem_of_getElem? (i := 667) (by decide +kernel)) rfl
theorem w_668 : (.selects "VowCourt$Cause" ⟨"VowCourt$Cause", "provedGrounds", "()I"⟩ ⟨"VowCourt$Cause", "provedGrounds", "()I"⟩ : Cond) ∈ TB := TB_mem (List.mem_of_getElem? (i := 668) (by decide +kernel)) rfl
theorem w_669 : (.code yX0_provedGrounds cX0_provedGrounds 3 (some .int) : Cond) ∈ TB := TB_mem (List.mem_of_getElem? (i := 669) (by decide +kernel)) rfl
theorem w_670 : (.methodLink "VowCourtLaw" 180 ⟨"VowCourtLaw", "vote", "(LVowCourt;III[J)I"⟩ : Cond) ∈ TB := TB_mem (List.mem_of_getElem? (i := 670) (by decide +kernel)) rfl
theorem w_671 : (.static ⟨"VowCourtLaw", "vote", "(LVowCourt;III[J)I"⟩ : Cond) ∈ TB := TB_mem (List.mem_of_getElem? (i := 671) (by decide +kernel)) rfl
theorem w_673 : (.methodLink "VowCourtLaw" 74 ⟨"VowCourt", "vote", "(III)I"⟩ : Cond) ∈ TB := TB_mem (List.mem_of_getElem? (i := 673) (by decide +kernel)) rfl
theorem w_674 : (.instanceMethod ⟨"VowCourt", "vote", "(III)I"⟩ : Cond) ∈ TB := TB_mem (List.mem_of_getElem? (i := 674) (by decide +kernel)) rfl
theorem w_675 : (.selects "VowCourt" ⟨"VowCourt", "vote", "(III)I"⟩ ⟨"VowCourt", "vote", "(III)I"⟩ : Cond) ∈ TB := TB_mem (List.mem_of_getElem? (i := 675) (by decide +kernel)) rfl
theorem w_676 : (.code yX4_vote cX4_vote 5 (some .int) : Cond) ∈ TB := TB_mem (List.mem_of_getElem? (i := 676) (by decide +kernel)) rfl
theorem w_677 : (.methodLink "VowCourt" 177 ⟨"VowCourt$Cause", "votesCast", "()I"⟩ : Cond) ∈ TB := TB_mem (List.mem_of_getElem? (i := 677) (by decide +kernel)) rfl
theorem w_678 : (.instanceMethod ⟨"VowCourt$Cause", "votesCast", "()I"⟩ : Cond) ∈ TB := TB_mem (List.mem_of_getElem? (i := 678) (by decide +kernel)) rfl
theorem w_679 : (.selects "VowCourt$Cause" ⟨"VowCourt$Cause", "votesCast", "()I"⟩ ⟨"VowCourt$Cause", "votesCast", "()I"⟩ : Cond) ∈ TB := TB_mem (List.mem_of_getElem? (i := 679) (by decide +kernel)) rfl
theorem w_680 : (.code yX0_votesCast cX0_votesCast 3 (some .int) : Cond) ∈ TB := TB_mem (List.mem_of_getElem? (i := 680) (by decide +kernel)) rfl
theorem w_681 : (.methodLink "VowCourtLaw" 183 ⟨"VowCourtLaw", "sentence", "(LVowCourt;I[J)I"⟩ : Cond) ∈ TB := TB_mem (List.mem_of_getElem? (i := 681) (by decide +kernel)) rfl
theorem w_682 : (.static ⟨"VowCourtLaw", "sentence", "(LVowCourt;I[J)I"⟩ : Cond) ∈ TB := TB_mem (List.mem_of_getElem? (i := 682) (by decide +kernel)) rfl
theorem w_684 : (.methodLink "VowCourtLaw" 77 ⟨"VowCourt", "sentence", "(I)I"⟩ : Cond) ∈ TB := TB_mem (List.mem_of_getElem? (i := 684) (by decide +kernel)) rfl
theorem w_685 : (.instanceMethod ⟨"VowCourt", "sentence", "(I)I"⟩ : Cond) ∈ TB := TB_mem (List.mem_of_getElem? (i := 685) (by decide +kernel)) rfl
theorem w_686 : (.selects "VowCourt" ⟨"VowCourt", "sentence", "(I)I"⟩ ⟨"VowCourt", "sentence", "(I)I"⟩ : Cond) ∈ TB := TB_mem (List.mem_of_getElem? (i := 686) (by decide +kernel)) rfl
theorem w_687 : (.code yX4_sentence cX4_sentence 4 (some .int) : Cond) ∈ TB := TB_mem (List.mem_of_getElem? (i := 687) (by decide +kernel)) rfl
theorem w_688 : (.methodLink "VowCourt" 180 ⟨"VowCourt$Cause", "majority", "()I"⟩ : Cond) ∈ TB := TB_mem (List.mem_of_getElem? (i := 688) (by decide +kernel)) rfl
theorem w_689 : (.instanceMethod ⟨"VowCourt$Cause", "majority", "()I"⟩ : Cond) ∈ TB := TB_mem (List.mem_of_getElem? (i := 689) (by decide +kernel)) rfl
theorem w_690 : (.selects "VowCourt$Cause" ⟨"VowCourt$Cause", "majority", "()I"⟩ ⟨"VowCourt$Cause", "majority", "()I"⟩ : Cond) ∈ TB := TB_mem (List.mem_of_getElem? (i := 690) (by decide +kernel)) rfl
theorem w_691 : (.code yX0_majority cX0_majority 1 (some .int) : Cond) ∈ TB := TB_mem (List.mem_of_getElem? (i := 691) (by decide +kernel)) rfl
theorem w_692 : (.methodLink "VowCourt" 183 ⟨"VowCourt$Cause", "conclude", "(I)V"⟩ : Cond) ∈ TB := TB_mem (List.mem_of_getElem? (i := 692) (by decide +kernel)) rfl
theorem w_693 : (.instanceMethod ⟨"VowCourt$Cause", "conclude", "(I)V"⟩ : Cond) ∈ TB := TB_mem (List.mem_of_getElem? (i := 693) (by decide +kernel)) rfl
theorem w_694 : (.selects "VowCourt$Cause" ⟨"VowCourt$Cause", "conclude", "(I)V"⟩ ⟨"VowCourt$Cause", "conclude", "(I)V"⟩ : Cond) ∈ TB := TB_mem (List.mem_of_getElem? (i := 694) (by decide +kernel)) rfl
theorem w_695 : (.code yX0_conclude cX0_conclude 2 none : Cond) ∈ TB := TB_mem (List.mem_of_getElem? (i := 695) (by decide +kernel)) rfl
theorem w_696 : (.methodLink "VowCourt$Cause" 40 ⟨"VowCourt$Cause", "concludeFirst", "(I)V"⟩ : Cond) ∈ TB := TB_mem (List.mem_of_getElem? (i := 696) (by decide +kernel)) rfl
theorem w_697 : (.instanceMethod ⟨"VowCourt$Cause", "concludeFirst", "(I)V"⟩ : Cond) ∈ TB := TB_mem (List.mem_of_getElem? (i := 697) (by decide +kernel)) rfl
theorem w_698 : (.selects "VowCourt$Cause" ⟨"VowCourt$Cause", "concludeFirst", "(I)V"⟩ ⟨"VowCourt$Cause", "concludeFirst", "(I)V"⟩ : Cond) ∈ TB := TB_mem (List.mem_of_getElem? (i := 698) (by decide +kernel)) rfl
theorem w_699 : (.code yX0_concludeFirst cX0_concludeFirst 2 none : Cond) ∈ TB := TB_mem (List.mem_of_getElem? (i := 699) (by decide +kernel)) rfl
theorem w_700 : (.methodLink "VowCourt$Cause" 50 ⟨"VowCourt$Cause", "reopen", "()V"⟩ : Cond) ∈ TB := TB_mem (List.mem_of_getElem? (i := 700) (by decide +kernel)) rfl
theorem w_701 : (.instanceMethod ⟨"VowCourt$Cause", "reopen", "()V"⟩ : Cond) ∈ TB := TB_mem (List.mem_of_getElem? (i := 701) (by decide +kernel)) rfl
theorem w_702 : (.selects "VowCourt$Cause" ⟨"VowCourt$Cause", "reopen", "()V"⟩ ⟨"VowCourt$Cause", "reopen", "()V"⟩ : Cond) ∈ TB := TB_mem (List.mem_of_getElem? (i := 702) (by decide +kernel)) rfl
theorem w_703 : (.code yX0_reopen cX0_reopen 1 none : Cond) ∈ TB := TB_mem (List.mem_of_getElem? (i := 703) (by decide +kernel)) rfl
theorem w_704 : (.methodLink "VowCourt$Cause" 44 ⟨"VowCourt$Cause", "concludeSecond", "(I)V"⟩ : Cond) ∈ TB := TB_mem (List.mem_of_getElem? (i := 704) (by decide +kernel)) rfl
theorem w_705 : (.instanceMethod ⟨"VowCourt$Cause", "concludeSecond", "(I)V"⟩ : Cond) ∈ TB := TB_mem (List.mem_of_getElem? (i := 705) (by decide +kernel)) rfl
theorem w_706 : (.selects "VowCourt$Cause" ⟨"VowCourt$Cause", "concludeSecond", "(I)V"⟩ ⟨"VowCourt$Cause", "concludeSecond", "(I)V"⟩ : Cond) ∈ TB := TB_mem (List.mem_of_getElem? (i := 706) (by decide +kernel)) rfl
theorem w_707 : (.code yX0_concludeSecond cX0_concludeSecond 2 none : Cond) ∈ TB := TB_mem (List.mem_of_getElem? (i := 707) (by decide +kernel)) rfl
theorem w_708 : (.methodLink "VowCourt$Cause" 53 ⟨"VowCourt$Cause", "alike", "(II)Z"⟩ : Cond) ∈ TB := TB_mem (List.mem_of_getElem? (i := 708) (by decide +kernel)) rfl
theorem w_709 : (.static ⟨"VowCourt$Cause", "alike", "(II)Z"⟩ : Cond) ∈ TB := TB_mem (List.mem_of_getElem? (i := 709) (by decide +kernel)) rfl
theorem w_710 : (.code yX0_alike cX0_alike 3 (some .boolean) : Cond) ∈ TB := TB_mem (List.mem_of_getElem? (i := 710) (by decide +kernel)) rfl
theorem w_711 : (.methodLink "VowCourt$Cause" 47 ⟨"VowCourt$Cause", "concludeThird", "(I)V"⟩ : Cond) ∈ TB := TB_mem (List.mem_of_getElem? (i := 711) (by decide +kernel)) rfl
theorem w_712 : (.instanceMethod ⟨"VowCourt$Cause", "concludeThird", "(I)V"⟩ : Cond) ∈ TB := TB_mem (List.mem_of_getElem? (i := 712) (by decide +kernel)) rfl
theorem w_713 : (.selects "VowCourt$Cause" ⟨"VowCourt$Cause", "concludeThird", "(I)V"⟩ ⟨"VowCourt$Cause", "concludeThird", "(I)V"⟩ : Cond) ∈ TB := TB_mem (List.mem_of_getElem? (i := 713) (by decide +kernel)) rfl
theorem w_714 : (.code yX0_concludeThird cX0_concludeThird 3 none : Cond) ∈ TB := TB_mem (List.mem_of_getElem? (i := 714) (by decide +kernel)) rfl
theorem w_715 : (.methodLink "VowCourtLaw" 186 ⟨"VowCourtLaw", "appeal", "(LVowCourt;I)I"⟩ : Cond) ∈ TB := TB_mem (List.mem_of_getElem? (i := 715) (by decide +kernel)) rfl
theorem w_716 : (.static ⟨"VowCourtLaw", "appeal", "(LVowCourt;I)I"⟩ : Cond) ∈ TB := TB_mem (List.mem_of_getElem? (i := 716) (by decide +kernel)) rfl
theorem w_718 : (.methodLink "VowCourtLaw" 80 ⟨"VowCourt", "appeal", "(I)V"⟩ : Cond) ∈ TB := TB_mem (List.mem_of_getElem? (i := 718) (by decide +kernel)) rfl
theorem w_719 : (.instanceMethod ⟨"VowCourt", "appeal", "(I)V"⟩ : Cond) ∈ TB := TB_mem (List.mem_of_getElem? (i := 719) (by decide +kernel)) rfl
theorem w_720 : (.selects "VowCourt" ⟨"VowCourt", "appeal", "(I)V"⟩ ⟨"VowCourt", "appeal", "(I)V"⟩ : Cond) ∈ TB := TB_mem (List.mem_of_getElem? (i := 720) (by decide +kernel)) rfl
theorem w_721 : (.code yX4_appeal cX4_appeal 3 none : Cond) ∈ TB := TB_mem (List.mem_of_getElem? (i := 721) (by decide +kernel)) rfl
theorem w_722 : (.methodLink "VowCourt" 190 ⟨"VowCourt$Cause", "reopen", "()V"⟩ : Cond) ∈ TB := TB_mem (List.mem_of_getElem? (i := 722) (by decide +kernel)) rfl
theorem w_723 : (.methodLink "VowCourtLaw" 189 ⟨"VowCourtLaw", "pass", "(LVowCourt;I[J)I"⟩ : Cond) ∈ TB := TB_mem (List.mem_of_getElem? (i := 723) (by decide +kernel)) rfl
theorem w_724 : (.static ⟨"VowCourtLaw", "pass", "(LVowCourt;I[J)I"⟩ : Cond) ∈ TB := TB_mem (List.mem_of_getElem? (i := 724) (by decide +kernel)) rfl
theorem w_726 : (.methodLink "VowCourtLaw" 83 ⟨"VowCourt", "pass", "(I)I"⟩ : Cond) ∈ TB := TB_mem (List.mem_of_getElem? (i := 726) (by decide +kernel)) rfl
theorem w_727 : (.instanceMethod ⟨"VowCourt", "pass", "(I)I"⟩ : Cond) ∈ TB := TB_mem (List.mem_of_getElem? (i := 727) (by decide +kernel)) rfl
theorem w_728 : (.selects "VowCourt" ⟨"VowCourt", "pass", "(I)I"⟩ ⟨"VowCourt", "pass", "(I)I"⟩ : Cond) ∈ TB := TB_mem (List.mem_of_getElem? (i := 728) (by decide +kernel)) rfl
theorem w_729 : (.code yX4_pass cX4_pass 2 (some .int) : Cond) ∈ TB := TB_mem (List.mem_of_getElem? (i := 729) (by decide +kernel)) rfl
theorem w_730 : (.methodLink "VowCourtLaw" 192 ⟨"VowCourtLaw", "kin", "(LVowCourt;II[J)I"⟩ : Cond) ∈ TB := TB_mem (List.mem_of_getElem? (i := 730) (by decide +kernel)) rfl
theorem w_731 : (.static ⟨"VowCourtLaw", "kin", "(LVowCourt;II[J)I"⟩ : Cond) ∈ TB := TB_mem (List.mem_of_getElem? (i := 731) (by decide +kernel)) rfl
theorem w_733 : (.methodLink "VowCourtLaw" 86 ⟨"VowCourt", "kin", "(II)I"⟩ : Cond) ∈ TB := TB_mem (List.mem_of_getElem? (i := 733) (by decide +kernel)) rfl
theorem w_734 : (.instanceMethod ⟨"VowCourt", "kin", "(II)I"⟩ : Cond) ∈ TB := TB_mem (List.mem_of_getElem? (i := 734) (by decide +kernel)) rfl
theorem w_735 : (.selects "VowCourt" ⟨"VowCourt", "kin", "(II)I"⟩ ⟨"VowCourt", "kin", "(II)I"⟩ : Cond) ∈ TB := TB_mem (List.mem_of_getElem? (i := 735) (by decide +kernel)) rfl
theorem w_736 : (.code yX4_kin cX4_kin 4 (some .int) : Cond) ∈ TB := TB_mem (List.mem_of_getElem? (i := 736) (by decide +kernel)) rfl
theorem w_737 : (.methodLink "VowCourtLaw" 195 ⟨"VowCourtLaw", "ancestor", "(LVowCourt;II[J)I"⟩ : Cond) ∈ TB := TB_mem (List.mem_of_getElem? (i := 737) (by decide +kernel)) rfl
theorem w_738 : (.static ⟨"VowCourtLaw", "ancestor", "(LVowCourt;II[J)I"⟩ : Cond) ∈ TB := TB_mem (List.mem_of_getElem? (i := 738) (by decide +kernel)) rfl
theorem w_740 : (.methodLink "VowCourtLaw" 89 ⟨"VowCourt", "ancestor", "(II)I"⟩ : Cond) ∈ TB := TB_mem (List.mem_of_getElem? (i := 740) (by decide +kernel)) rfl
theorem w_741 : (.instanceMethod ⟨"VowCourt", "ancestor", "(II)I"⟩ : Cond) ∈ TB := TB_mem (List.mem_of_getElem? (i := 741) (by decide +kernel)) rfl
theorem w_742 : (.selects "VowCourt" ⟨"VowCourt", "ancestor", "(II)I"⟩ ⟨"VowCourt", "ancestor", "(II)I"⟩ : Cond) ∈ TB := TB_mem (List.mem_of_getElem? (i := 742) (by decide +kernel)) rfl
theorem w_743 : (.code yX4_ancestor cX4_ancestor 3 (some .int) : Cond) ∈ TB := TB_mem (List.mem_of_getElem? (i := 743) (by decide +kernel)) rfl
theorem w_744 : (.methodLink "VowCourt" 200 ⟨"VowCourt$Lines", "ancestorAt", "(II)I"⟩ : Cond) ∈ TB := TB_mem (List.mem_of_getElem? (i := 744) (by decide +kernel)) rfl
theorem w_745 : (.instanceMethod ⟨"VowCourt$Lines", "ancestorAt", "(II)I"⟩ : Cond) ∈ TB := TB_mem (List.mem_of_getElem? (i := 745) (by decide +kernel)) rfl
theorem w_746 : (.selects "VowCourt$Lines" ⟨"VowCourt$Lines", "ancestorAt", "(II)I"⟩ ⟨"VowCourt$Lines", "ancestorAt", "(II)I"⟩ : Cond) ∈ TB := TB_mem (List.mem_of_getElem? (i := 746) (by decide +kernel)) rfl
theorem w_747 : (.code yX1_ancestorAt cX1_ancestorAt 6 (some .int) : Cond) ∈ TB := TB_mem (List.mem_of_getElem? (i := 747) (by decide +kernel)) rfl
theorem w_748 : (.methodLink "VowCourtLaw" 198 ⟨"VowCourtLaw", "hindered", "(LVowCourt;I[J)I"⟩ : Cond) ∈ TB := TB_mem (List.mem_of_getElem? (i := 748) (by decide +kernel)) rfl
theorem w_749 : (.static ⟨"VowCourtLaw", "hindered", "(LVowCourt;I[J)I"⟩ : Cond) ∈ TB := TB_mem (List.mem_of_getElem? (i := 749) (by decide +kernel)) rfl
theorem w_751 : (.methodLink "VowCourtLaw" 92 ⟨"VowCourt", "hindered", "(I)I"⟩ : Cond) ∈ TB := TB_mem (List.mem_of_getElem? (i := 751) (by decide +kernel)) rfl
theorem w_752 : (.instanceMethod ⟨"VowCourt", "hindered", "(I)I"⟩ : Cond) ∈ TB := TB_mem (List.mem_of_getElem? (i := 752) (by decide +kernel)) rfl
theorem w_753 : (.selects "VowCourt" ⟨"VowCourt", "hindered", "(I)I"⟩ ⟨"VowCourt", "hindered", "(I)I"⟩ : Cond) ∈ TB := TB_mem (List.mem_of_getElem? (i := 753) (by decide +kernel)) rfl
theorem w_754 : (.code yX4_hindered cX4_hindered 2 (some .int) : Cond) ∈ TB := TB_mem (List.mem_of_getElem? (i := 754) (by decide +kernel)) rfl
theorem w_755 : (.methodLink "VowCourtLaw" 201 ⟨"VowCourtLaw", "vowOf", "(LVowCourt;II[J)I"⟩ : Cond) ∈ TB := TB_mem (List.mem_of_getElem? (i := 755) (by decide +kernel)) rfl
theorem w_756 : (.static ⟨"VowCourtLaw", "vowOf", "(LVowCourt;II[J)I"⟩ : Cond) ∈ TB := TB_mem (List.mem_of_getElem? (i := 756) (by decide +kernel)) rfl
theorem w_758 : (.methodLink "VowCourtLaw" 95 ⟨"VowCourt", "vowOf", "(II)I"⟩ : Cond) ∈ TB := TB_mem (List.mem_of_getElem? (i := 758) (by decide +kernel)) rfl
theorem w_759 : (.instanceMethod ⟨"VowCourt", "vowOf", "(II)I"⟩ : Cond) ∈ TB := TB_mem (List.mem_of_getElem? (i := 759) (by decide +kernel)) rfl
theorem w_760 : (.selects "VowCourt" ⟨"VowCourt", "vowOf", "(II)I"⟩ ⟨"VowCourt", "vowOf", "(II)I"⟩ : Cond) ∈ TB := TB_mem (List.mem_of_getElem? (i := 760) (by decide +kernel)) rfl
theorem w_761 : (.code yX4_vowOf cX4_vowOf 4 (some .int) : Cond) ∈ TB := TB_mem (List.mem_of_getElem? (i := 761) (by decide +kernel)) rfl
theorem w_762 : (.methodLink "VowCourtLaw" 204 ⟨"VowCourtLaw", "bound", "(LVowCourt;II[J)I"⟩ : Cond) ∈ TB := TB_mem (List.mem_of_getElem? (i := 762) (by decide +kernel)) rfl
theorem w_763 : (.static ⟨"VowCourtLaw", "bound", "(LVowCourt;II[J)I"⟩ : Cond) ∈ TB := TB_mem (List.mem_of_getElem? (i := 763) (by decide +kernel)) rfl
theorem w_765 : (.methodLink "VowCourtLaw" 98 ⟨"VowCourt", "bound", "(II)I"⟩ : Cond) ∈ TB := TB_mem (List.mem_of_getElem? (i := 765) (by decide +kernel)) rfl
theorem w_766 : (.instanceMethod ⟨"VowCourt", "bound", "(II)I"⟩ : Cond) ∈ TB := TB_mem (List.mem_of_getElem? (i := 766) (by decide +kernel)) rfl
theorem w_767 : (.selects "VowCourt" ⟨"VowCourt", "bound", "(II)I"⟩ ⟨"VowCourt", "bound", "(II)I"⟩ : Cond) ∈ TB := TB_mem (List.mem_of_getElem? (i := 767) (by decide +kernel)) rfl
theorem w_768 : (.code yX4_bound cX4_bound 3 (some .int) : Cond) ∈ TB := TB_mem (List.mem_of_getElem? (i := 768) (by decide +kernel)) rfl
theorem w_769 : (.methodLink "VowCourt" 212 ⟨"VowCourt", "isDay", "(I)Z"⟩ : Cond) ∈ TB := TB_mem (List.mem_of_getElem? (i := 769) (by decide +kernel)) rfl
theorem w_770 : (.static ⟨"VowCourt", "isDay", "(I)Z"⟩ : Cond) ∈ TB := TB_mem (List.mem_of_getElem? (i := 770) (by decide +kernel)) rfl
theorem w_771 : (.code yX4_isDay cX4_isDay 1 (some .boolean) : Cond) ∈ TB := TB_mem (List.mem_of_getElem? (i := 771) (by decide +kernel)) rfl
theorem w_772 : (.constant "VowCourt" 252 (1000000) : Cond) ∈ TB := TB_mem (List.mem_of_getElem? (i := 772) (by decide +kernel)) rfl
theorem w_773 : (.methodLink "VowCourtLaw" 207 ⟨"VowCourtLaw", "hasCause", "(LVowCourt;II[J)I"⟩ : Cond) ∈ TB := TB_mem (List.mem_of_getElem? (i := 773) (by decide +kernel)) rfl
theorem w_774 : (.static ⟨"VowCourtLaw", "hasCause", "(LVowCourt;II[J)I"⟩ : Cond) ∈ TB := TB_mem (List.mem_of_getElem? (i := 774) (by decide +kernel)) rfl
theorem w_776 : (.methodLink "VowCourtLaw" 101 ⟨"VowCourt", "hasCause", "(II)Z"⟩ : Cond) ∈ TB := TB_mem (List.mem_of_getElem? (i := 776) (by decide +kernel)) rfl
theorem w_777 : (.instanceMethod ⟨"VowCourt", "hasCause", "(II)Z"⟩ : Cond) ∈ TB := TB_mem (List.mem_of_getElem? (i := 777) (by decide +kernel)) rfl
theorem w_778 : (.selects "VowCourt" ⟨"VowCourt", "hasCause", "(II)Z"⟩ ⟨"VowCourt", "hasCause", "(II)Z"⟩ : Cond) ∈ TB := TB_mem (List.mem_of_getElem? (i := 778) (by decide +kernel)) rfl
theorem w_779 : (.code yX4_hasCause cX4_hasCause 4 (some .boolean) : Cond) ∈ TB := TB_mem (List.mem_of_getElem? (i := 779) (by decide +kernel)) rfl
theorem w_780 : (.methodLink "VowCourtLaw" 210 ⟨"VowCourtLaw", "causeOf", "(LVowCourt;II[J)I"⟩ : Cond) ∈ TB := TB_mem (List.mem_of_getElem? (i := 780) (by decide +kernel)) rfl
theorem w_781 : (.static ⟨"VowCourtLaw", "causeOf", "(LVowCourt;II[J)I"⟩ : Cond) ∈ TB := TB_mem (List.mem_of_getElem? (i := 781) (by decide +kernel)) rfl
theorem w_783 : (.methodLink "VowCourtLaw" 105 ⟨"VowCourt", "causeOf", "(II)I"⟩ : Cond) ∈ TB := TB_mem (List.mem_of_getElem? (i := 783) (by decide +kernel)) rfl
theorem w_784 : (.instanceMethod ⟨"VowCourt", "causeOf", "(II)I"⟩ : Cond) ∈ TB := TB_mem (List.mem_of_getElem? (i := 784) (by decide +kernel)) rfl
theorem w_785 : (.selects "VowCourt" ⟨"VowCourt", "causeOf", "(II)I"⟩ ⟨"VowCourt", "causeOf", "(II)I"⟩ : Cond) ∈ TB := TB_mem (List.mem_of_getElem? (i := 785) (by decide +kernel)) rfl
theorem w_786 : (.code yX4_causeOf cX4_causeOf 4 (some .int) : Cond) ∈ TB := TB_mem (List.mem_of_getElem? (i := 786) (by decide +kernel)) rfl
theorem w_787 : (.methodLink "VowCourtLaw" 213 ⟨"VowCourtLaw", "state", "(LVowCourt;III[J)I"⟩ : Cond) ∈ TB := TB_mem (List.mem_of_getElem? (i := 787) (by decide +kernel)) rfl
theorem w_788 : (.static ⟨"VowCourtLaw", "state", "(LVowCourt;III[J)I"⟩ : Cond) ∈ TB := TB_mem (List.mem_of_getElem? (i := 788) (by decide +kernel)) rfl
theorem w_790 : (.methodLink "VowCourtLaw" 108 ⟨"VowCourt", "state", "(III)C"⟩ : Cond) ∈ TB := TB_mem (List.mem_of_getElem? (i := 790) (by decide +kernel)) rfl
theorem w_791 : (.instanceMethod ⟨"VowCourt", "state", "(III)C"⟩ : Cond) ∈ TB := TB_mem (List.mem_of_getElem? (i := 791) (by decide +kernel)) rfl
theorem w_792 : (.selects "VowCourt" ⟨"VowCourt", "state", "(III)C"⟩ ⟨"VowCourt", "state", "(III)C"⟩ : Cond) ∈ TB := TB_mem (List.mem_of_getElem? (i := 792) (by decide +kernel)) rfl
theorem w_793 : (.code yX4_state cX4_state 5 (some .char) : Cond) ∈ TB := TB_mem (List.mem_of_getElem? (i := 793) (by decide +kernel)) rfl
theorem w_794 : (.methodLink "VowCourt" 222 ⟨"VowCourt", "describe", "(II)Ljava/lang/StringBuilder;"⟩ : Cond) ∈ TB := TB_mem (List.mem_of_getElem? (i := 794) (by decide +kernel)) rfl
theorem w_796 : (.instanceMethod ⟨"VowCourt", "describe", "(II)Ljava/lang/StringBuilder;"⟩ : Cond) ∈ TB := TB_mem (List.mem_of_getElem? (i := 796) (by decide +kernel)) rfl
theorem w_797 : (.code yX4_describe cX4_describe 5 (some (.object "java/lang/StringBuilder")) : Cond) ∈ TB := TB_mem (List.mem_of_getElem? (i := 797) (by decide +kernel)) rfl
theorem w_798 : (.classLink "VowCourt" 227 "java/lang/StringBuilder" : Cond) ∈ TB := TB_mem (List.mem_of_getElem? (i := 798) (by decide +kernel)) rfl
theorem w_799 : (.instantiable "java/lang/StringBuilder" 4 : Cond) ∈ TB := TB_mem (List.mem_of_getElem? (i := 799) (by decide +kernel)) rfl
theorem w_800 : (.methodLink "VowCourt" 289 ⟨"java/lang/StringBuilder", "<init>", "()V"⟩ : Cond) ∈ TB := TB_mem (List.mem_of_getElem? (i := 800) (by decide +kernel)) rfl
theorem w_801 : (.instanceMethod ⟨"java/lang/StringBuilder", "<init>", "()V"⟩ : Cond) ∈ TB := TB_mem (List.mem_of_getElem? (i := 801) (by decide +kernel)) rfl
theorem w_802 : (.code yJ4_init_da8c8 cJ4_init_da8c8 1 none : Cond) ∈ TB := TB_mem (List.mem_of_getElem? (i := 802) (by decide +kernel)) rfl
theorem w_803 : (.methodLink "java/lang/StringBuilder" 1 ⟨"java/lang/AbstractStringBuilder", "<init>", "(I)V"⟩ : Cond) ∈ TB := TB_mem (List.mem_of_getElem? (i := 803) (by decide +kernel)) rfl
theorem w_804 : (.instanceMethod ⟨"java/lang/AbstractStringBuilder", "<init>", "(I)V"⟩ : Cond) ∈ TB := TB_mem (List.mem_of_getElem? (i := 804) (by decide +kernel)) rfl
theorem w_805 : (.code yJ5_init_d00df cJ5_init_d00df 2 none : Cond) ∈ TB := TB_mem (List.mem_of_getElem? (i := 805) (by decide +kernel)) rfl
theorem w_806 : (.methodLink "java/lang/AbstractStringBuilder" 3 ⟨"java/lang/Object", "<init>", "()V"⟩ : Cond) ∈ TB := TB_mem (List.mem_of_getElem? (i := 806) (by decide +kernel)) rfl
theorem w_807 : (.fieldLink "java/lang/AbstractStringBuilder" 18 "java/lang/String" "COMPACT_STRINGS" "Z" : Cond) ∈ TB := TB_mem (List.mem_of_getElem? (i := 807) (by decide +kernel)) rfl
theorem w_809 : (.methodLink "java/lang/AbstractStringBuilder" 26 ⟨"java/lang/StringUTF16", "newBytesFor", "(I)[B"⟩ : Cond) ∈ TB := TB_mem (List.mem_of_getElem? (i := 809) (by decide +kernel)) rfl
theorem w_810 : (.static ⟨"java/lang/StringUTF16", "newBytesFor", "(I)[B"⟩ : Cond) ∈ TB := TB_mem (List.mem_of_getElem? (i := 810) (by decide +kernel)) rfl
theorem w_811 : (.code yJ2_newBytesFor_77867 cJ2_newBytesFor_77867 1 (some (.array .byte)) : Cond) ∈ TB := TB_mem (List.mem_of_getElem? (i := 811) (by decide +kernel)) rfl
theorem w_812 : (.methodLink "java/lang/StringUTF16" 11 ⟨"java/lang/StringUTF16", "newBytesLength", "(I)I"⟩ : Cond) ∈ TB := TB_mem (List.mem_of_getElem? (i := 812) (by decide +kernel)) rfl
theorem w_813 : (.static ⟨"java/lang/StringUTF16", "newBytesLength", "(I)I"⟩ : Cond) ∈ TB := TB_mem (List.mem_of_getElem? (i := 813) (by decide +kernel)) rfl
theorem w_814 : (.code yJ2_newBytesLength_0f7a4 cJ2_newBytesLength_0f7a4 1 (some .int) : Cond) ∈ TB := TB_mem (List.mem_of_getElem? (i := 814) (by decide +kernel)) rfl
theorem w_815 : (.constant "java/lang/StringUTF16" 20 (1073741823) : Cond) ∈ TB := TB_mem (List.mem_of_getElem? (i := 815) (by decide +kernel)) rfl
theorem w_816 : (.fieldLink "java/lang/AbstractStringBuilder" 15 "java/lang/AbstractStringBuilder" "value" "[B" : Cond) ∈ TB := TB_mem (List.mem_of_getElem? (i := 816) (by decide +kernel)) rfl
theorem w_817 : (.fieldLink "java/lang/AbstractStringBuilder" 22 "java/lang/AbstractStringBuilder" "coder" "B" : Cond) ∈ TB := TB_mem (List.mem_of_getElem? (i := 817) (by decide +kernel)) rfl
theorem w_818 : (.fieldLink "java/lang/AbstractStringBuilder" 79 "java/lang/AbstractStringBuilder" "count" "I" : Cond) ∈ TB := TB_mem (List.mem_of_getElem? (i := 818) (by decide +kernel)) rfl
theorem w_829 : (.methodLink "VowCourt" 292 ⟨"java/lang/StringBuilder", "append", "(Ljava/lang/String;)Ljava/lang/StringBuilder;"⟩ : Cond) ∈ TB := TB_mem (List.mem_of_getElem? (i := 829) (by decide +kernel)) rfl
theorem w_830 : (.instanceMethod ⟨"java/lang/StringBuilder", "append", "(Ljava/lang/String;)Ljava/lang/StringBuilder;"⟩ : Cond) ∈ TB := TB_mem (List.mem_of_getElem? (i := 830) (by decide +kernel)) rfl
theorem w_831 : (.selects "java/lang/StringBuilder" ⟨"java/lang/StringBuilder", "append", "(Ljava/lang/String;)Ljava/lang/StringBuilder;"⟩ ⟨"java/lang/StringBuilder", "append", "(Ljava/lang/String;)Ljava/lang/StringBuilder;"⟩ : Cond) ∈ TB := TB_mem (List.mem_of_getElem? (i := 831) (by decide +kernel)) rfl
theorem w_832 : (.code yJ4_append_15ec4 cJ4_append_15ec4 2 (some (.object "java/lang/StringBuilder")) : Cond) ∈ TB := TB_mem (List.mem_of_getElem? (i := 832) (by decide +kernel)) rfl
theorem w_833 : (.methodLink "java/lang/StringBuilder" 29 ⟨"java/lang/AbstractStringBuilder", "append", "(Ljava/lang/String;)Ljava/lang/AbstractStringBuilder;"⟩ : Cond) ∈ TB := TB_mem (List.mem_of_getElem? (i := 833) (by decide +kernel)) rfl
theorem w_834 : (.instanceMethod ⟨"java/lang/AbstractStringBuilder", "append", "(Ljava/lang/String;)Ljava/lang/AbstractStringBuilder;"⟩ : Cond) ∈ TB := TB_mem (List.mem_of_getElem? (i := 834) (by decide +kernel)) rfl
theorem w_835 : (.code yJ5_append_cf1ce cJ5_append_cf1ce 3 (some (.object "java/lang/AbstractStringBuilder")) : Cond) ∈ TB := TB_mem (List.mem_of_getElem? (i := 835) (by decide +kernel)) rfl
theorem w_836 : (.methodLink "java/lang/AbstractStringBuilder" 204 ⟨"java/lang/AbstractStringBuilder", "appendNull", "()Ljava/lang/AbstractStringBuilder;"⟩ : Cond) ∈ TB := TB_mem (List.mem_of_getElem? (i := 836) (by decide +kernel)) rfl
theorem w_838 : (.instanceMethod ⟨"java/lang/AbstractStringBuilder", "appendNull", "()Ljava/lang/AbstractStringBuilder;"⟩ : Cond) ∈ TB := TB_mem (List.mem_of_getElem? (i := 838) (by decide +kernel)) rfl
theorem w_839 : (.code yJ5_appendNull_278bc cJ5_appendNull_278bc 3 (some (.object "java/lang/AbstractStringBuilder")) : Cond) ∈ TB := TB_mem (List.mem_of_getElem? (i := 839) (by decide +kernel)) rfl
theorem w_840 : (.methodLink "java/lang/AbstractStringBuilder" 100 ⟨"java/lang/AbstractStringBuilder", "ensureCapacityInternal", "(I)V"⟩ : Cond) ∈ TB := TB_mem (List.mem_of_getElem? (i := 840) (by decide +kernel)) rfl
theorem w_842 : (.instanceMethod ⟨"java/lang/AbstractStringBuilder", "ensureCapacityInternal", "(I)V"⟩ : Cond) ∈ TB := TB_mem (List.mem_of_getElem? (i := 842) (by decide +kernel)) rfl
theorem w_843 : (.code yJ5_ensureCapacityInternal_d00df cJ5_ensureCapacityInternal_d00df 3 none : Cond) ∈ TB := TB_mem (List.mem_of_getElem? (i := 843) (by decide +kernel)) rfl
theorem w_844 : (.methodLink "java/lang/AbstractStringBuilder" 104 ⟨"java/lang/AbstractStringBuilder", "newCapacity", "(I)I"⟩ : Cond) ∈ TB := TB_mem (List.mem_of_getElem? (i := 844) (by decide +kernel)) rfl
theorem w_846 : (.instanceMethod ⟨"java/lang/AbstractStringBuilder", "newCapacity", "(I)I"⟩ : Cond) ∈ TB := TB_mem (List.mem_of_getElem? (i := 846) (by decide +kernel)) rfl
theorem w_847 : (.code yJ5_newCapacity_0f7a4 cJ5_newCapacity_0f7a4 6 (some .int) : Cond) ∈ TB := TB_mem (List.mem_of_getElem? (i := 847) (by decide +kernel)) rfl
theorem w_848 : (.methodLink "java/lang/AbstractStringBuilder" 114 ⟨"jdk/internal/util/ArraysSupport", "newLength", "(III)I"⟩ : Cond) ∈ TB := TB_mem (List.mem_of_getElem? (i := 848) (by decide +kernel)) rfl
theorem w_849 : (.constant "java/lang/AbstractStringBuilder" 39 (2147483647) : Cond) ∈ TB := TB_mem (List.mem_of_getElem? (i := 849) (by decide +kernel)) rfl
theorem w_850 : (.methodLink "java/lang/AbstractStringBuilder" 108 ⟨"java/util/Arrays", "copyOf", "([BI)[B"⟩ : Cond) ∈ TB := TB_mem (List.mem_of_getElem? (i := 850) (by decide +kernel)) rfl
theorem w_851 : (.static ⟨"java/util/Arrays", "copyOf", "([BI)[B"⟩ : Cond) ∈ TB := TB_mem (List.mem_of_getElem? (i := 851) (by decide +kernel)) rfl
theorem w_852 : (.code yJ7_copyOf_9075b cJ7_copyOf_9075b 3 (some (.array .byte)) : Cond) ∈ TB := TB_mem (List.mem_of_getElem? (i := 852) (by decide +kernel)) rfl
theorem w_853 : (.methodLink "java/util/Arrays" 310 ⟨"[B", "clone", "()Ljava/lang/Object;"⟩ : Cond) ∈ TB := TB_mem (List.mem_of_getElem? (i := 853) (by decide +kernel)) rfl
theorem w_855 : (.native ⟨"java/lang/Object", "clone", "()Ljava/lang/Object;"⟩ : Cond) ∈ TB := TB_mem (List.mem_of_getElem? (i := 855) (by decide +kernel)) rfl
theorem w_856 : (.instanceMethod ⟨"java/lang/Object", "clone", "()Ljava/lang/Object;"⟩ : Cond) ∈ TB := TB_mem (List.mem_of_getElem? (i := 856) (by decide +kernel)) rfl
theorem w_857 : (.selects "[B" ⟨"[B", "clone", "()Ljava/lang/Object;"⟩ ⟨"java/lang/Object", "clone", "()Ljava/lang/Object;"⟩ : Cond) ∈ TB := TB_mem (List.mem_of_getElem? (i := 857) (by decide +kernel)) rfl
theorem w_859 : (.classLink "java/util/Arrays" 311 "[B" : Cond) ∈ TB := TB_mem (List.mem_of_getElem? (i := 859) (by decide +kernel)) rfl
theorem w_860 : (.methodLink "java/lang/AbstractStringBuilder" 83 ⟨"java/lang/AbstractStringBuilder", "isLatin1", "()Z"⟩ : Cond) ∈ TB := TB_mem (List.mem_of_getElem? (i := 860) (by decide +kernel)) rfl
theorem w_861 : (.instanceMethod ⟨"java/lang/AbstractStringBuilder", "isLatin1", "()Z"⟩ : Cond) ∈ TB := TB_mem (List.mem_of_getElem? (i := 861) (by decide +kernel)) rfl
theorem w_863 : (.selects "java/lang/StringBuilder" ⟨"java/lang/AbstractStringBuilder", "isLatin1", "()Z"⟩ ⟨"java/lang/AbstractStringBuilder", "isLatin1", "()Z"⟩ : Cond) ∈ TB := TB_mem (List.mem_of_getElem? (i := 863) (by decide +kernel)) rfl
theorem w_864 : (.code yJ5_isLatin1_aae02 cJ5_isLatin1_aae02 1 (some .boolean) : Cond) ∈ TB := TB_mem (List.mem_of_getElem? (i := 864) (by decide +kernel)) rfl
theorem w_865 : (.methodLink "java/lang/AbstractStringBuilder" 226 ⟨"java/lang/StringUTF16", "putCharsAt", "([BICCCC)I"⟩ : Cond) ∈ TB := TB_mem (List.mem_of_getElem? (i := 865) (by decide +kernel)) rfl
theorem w_866 : (.static ⟨"java/lang/StringUTF16", "putCharsAt", "([BICCCC)I"⟩ : Cond) ∈ TB := TB_mem (List.mem_of_getElem? (i := 866) (by decide +kernel)) rfl
theorem w_867 : (.code yJ2_putCharsAt_cd4e5 cJ2_putCharsAt_cd4e5 7 (some .int) : Cond) ∈ TB := TB_mem (List.mem_of_getElem? (i := 867) (by decide +kernel)) rfl
theorem w_868 : (.methodLink "java/lang/StringUTF16" 96 ⟨"java/lang/StringUTF16", "checkBoundsBeginEnd", "(II[B)V"⟩ : Cond) ∈ TB := TB_mem (List.mem_of_getElem? (i := 868) (by decide +kernel)) rfl
theorem w_869 : (.static ⟨"java/lang/StringUTF16", "checkBoundsBeginEnd", "(II[B)V"⟩ : Cond) ∈ TB := TB_mem (List.mem_of_getElem? (i := 869) (by decide +kernel)) rfl
theorem w_870 : (.code yJ2_checkBoundsBeginEnd_d044e cJ2_checkBoundsBeginEnd_d044e 3 none : Cond) ∈ TB := TB_mem (List.mem_of_getElem? (i := 870) (by decide +kernel)) rfl
theorem w_871 : (.methodLink "java/lang/StringUTF16" 48 ⟨"java/lang/StringUTF16", "length", "([B)I"⟩ : Cond) ∈ TB := TB_mem (List.mem_of_getElem? (i := 871) (by decide +kernel)) rfl
theorem w_872 : (.static ⟨"java/lang/StringUTF16", "length", "([B)I"⟩ : Cond) ∈ TB := TB_mem (List.mem_of_getElem? (i := 872) (by decide +kernel)) rfl
theorem w_873 : (.code yJ2_length_9d52b cJ2_length_9d52b 1 (some .int) : Cond) ∈ TB := TB_mem (List.mem_of_getElem? (i := 873) (by decide +kernel)) rfl
theorem w_874 : (.methodLink "java/lang/StringUTF16" 241 ⟨"java/lang/String", "checkBoundsBeginEnd", "(III)V"⟩ : Cond) ∈ TB := TB_mem (List.mem_of_getElem? (i := 874) (by decide +kernel)) rfl
theorem w_875 : (.static ⟨"java/lang/String", "checkBoundsBeginEnd", "(III)V"⟩ : Cond) ∈ TB := TB_mem (List.mem_of_getElem? (i := 875) (by decide +kernel)) rfl
theorem w_876 : (.code yJ0_checkBoundsBeginEnd_23922 cJ0_checkBoundsBeginEnd_23922 3 none : Cond) ∈ TB := TB_mem (List.mem_of_getElem? (i := 876) (by decide +kernel)) rfl
theorem w_877 : (.fieldLink "java/lang/String" 1053 "jdk/internal/util/Preconditions" "SIOOBE_FORMATTER" "Ljava/util/function/BiFunction;" : Cond) ∈ TB := TB_mem (List.mem_of_getElem? (i := 877) (by decide +kernel)) rfl
theorem w_879 : (.methodLink "java/lang/String" 1062 ⟨"jdk/internal/util/Preconditions", "checkFromToIndex", "(IIILjava/util/function/BiFunction;)I"⟩ : Cond) ∈ TB := TB_mem (List.mem_of_getElem? (i := 879) (by decide +kernel)) rfl
theorem w_880 : (.static ⟨"jdk/internal/util/Preconditions", "checkFromToIndex", "(IIILjava/util/function/BiFunction;)I"⟩ : Cond) ∈ TB := TB_mem (List.mem_of_getElem? (i := 880) (by decide +kernel)) rfl
theorem w_881 : (.code yJ3_checkFromToIndex_8c36e cJ3_checkFromToIndex_8c36e 4 (some .int) : Cond) ∈ TB := TB_mem (List.mem_of_getElem? (i := 881) (by decide +kernel)) rfl
theorem w_882 : (.methodLink "java/lang/StringUTF16" 111 ⟨"java/lang/StringUTF16", "putChar", "([BII)V"⟩ : Cond) ∈ TB := TB_mem (List.mem_of_getElem? (i := 882) (by decide +kernel)) rfl
theorem w_883 : (.static ⟨"java/lang/StringUTF16", "putChar", "([BII)V"⟩ : Cond) ∈ TB := TB_mem (List.mem_of_getElem? (i := 883) (by decide +kernel)) rfl
theorem w_884 : (.code yJ2_putChar_b72d1 cJ2_putChar_b72d1 3 none : Cond) ∈ TB := TB_mem (List.mem_of_getElem? (i := 884) (by decide +kernel)) rfl
theorem w_885 : (.fieldLink "java/lang/StringUTF16" 44 "java/lang/StringUTF16" "$assertionsDisabled" "Z" : Cond) ∈ TB := TB_mem (List.mem_of_getElem? (i := 885) (by decide +kernel)) rfl
theorem w_887 : (.fieldLink "java/lang/StringUTF16" 59 "java/lang/StringUTF16" "HI_BYTE_SHIFT" "I" : Cond) ∈ TB := TB_mem (List.mem_of_getElem? (i := 887) (by decide +kernel)) rfl
theorem w_889 : (.fieldLink "java/lang/StringUTF16" 63 "java/lang/StringUTF16" "LO_BYTE_SHIFT" "I" : Cond) ∈ TB := TB_mem (List.mem_of_getElem? (i := 889) (by decide +kernel)) rfl
theorem w_891 : (.methodLink "java/lang/AbstractStringBuilder" 32 ⟨"java/lang/String", "length", "()I"⟩ : Cond) ∈ TB := TB_mem (List.mem_of_getElem? (i := 891) (by decide +kernel)) rfl
theorem w_892 : (.instanceMethod ⟨"java/lang/String", "length", "()I"⟩ : Cond) ∈ TB := TB_mem (List.mem_of_getElem? (i := 892) (by decide +kernel)) rfl
theorem w_893 : (.selects "java/lang/String" ⟨"java/lang/String", "length", "()I"⟩ ⟨"java/lang/String", "length", "()I"⟩ : Cond) ∈ TB := TB_mem (List.mem_of_getElem? (i := 893) (by decide +kernel)) rfl
theorem w_894 : (.code yJ0_length_8abf5 cJ0_length_8abf5 1 (some .int) : Cond) ∈ TB := TB_mem (List.mem_of_getElem? (i := 894) (by decide +kernel)) rfl
theorem w_895 : (.methodLink "java/lang/String" 335 ⟨"java/lang/String", "coder", "()B"⟩ : Cond) ∈ TB := TB_mem (List.mem_of_getElem? (i := 895) (by decide +kernel)) rfl
theorem w_896 : (.instanceMethod ⟨"java/lang/String", "coder", "()B"⟩ : Cond) ∈ TB := TB_mem (List.mem_of_getElem? (i := 896) (by decide +kernel)) rfl
theorem w_897 : (.selects "java/lang/String" ⟨"java/lang/String", "coder", "()B"⟩ ⟨"java/lang/String", "coder", "()B"⟩ : Cond) ∈ TB := TB_mem (List.mem_of_getElem? (i := 897) (by decide +kernel)) rfl
theorem w_898 : (.code yJ0_coder_7d493 cJ0_coder_7d493 1 (some .byte) : Cond) ∈ TB := TB_mem (List.mem_of_getElem? (i := 898) (by decide +kernel)) rfl
theorem w_899 : (.fieldLink "java/lang/String" 38 "java/lang/String" "COMPACT_STRINGS" "Z" : Cond) ∈ TB := TB_mem (List.mem_of_getElem? (i := 899) (by decide +kernel)) rfl
theorem w_900 : (.methodLink "java/lang/AbstractStringBuilder" 208 ⟨"java/lang/AbstractStringBuilder", "putStringAt", "(ILjava/lang/String;)V"⟩ : Cond) ∈ TB := TB_mem (List.mem_of_getElem? (i := 900) (by decide +kernel)) rfl
theorem w_902 : (.instanceMethod ⟨"java/lang/AbstractStringBuilder", "putStringAt", "(ILjava/lang/String;)V"⟩ : Cond) ∈ TB := TB_mem (List.mem_of_getElem? (i := 902) (by decide +kernel)) rfl
theorem w_903 : (.code yJ5_putStringAt_47b60 cJ5_putStringAt_47b60 3 none : Cond) ∈ TB := TB_mem (List.mem_of_getElem? (i := 903) (by decide +kernel)) rfl
theorem w_904 : (.methodLink "java/lang/AbstractStringBuilder" 397 ⟨"java/lang/AbstractStringBuilder", "inflateIfNeededFor", "(Ljava/lang/String;)V"⟩ : Cond) ∈ TB := TB_mem (List.mem_of_getElem? (i := 904) (by decide +kernel)) rfl
theorem w_906 : (.instanceMethod ⟨"java/lang/AbstractStringBuilder", "inflateIfNeededFor", "(Ljava/lang/String;)V"⟩ : Cond) ∈ TB := TB_mem (List.mem_of_getElem? (i := 906) (by decide +kernel)) rfl
theorem w_907 : (.code yJ5_inflateIfNeededFor_a7421 cJ5_inflateIfNeededFor_a7421 2 none : Cond) ∈ TB := TB_mem (List.mem_of_getElem? (i := 907) (by decide +kernel)) rfl
theorem w_908 : (.methodLink "java/lang/AbstractStringBuilder" 40 ⟨"java/lang/String", "coder", "()B"⟩ : Cond) ∈ TB := TB_mem (List.mem_of_getElem? (i := 908) (by decide +kernel)) rfl
theorem w_909 : (.methodLink "java/lang/AbstractStringBuilder" 195 ⟨"java/lang/AbstractStringBuilder", "inflate", "()V"⟩ : Cond) ∈ TB := TB_mem (List.mem_of_getElem? (i := 909) (by decide +kernel)) rfl
theorem w_911 : (.instanceMethod ⟨"java/lang/AbstractStringBuilder", "inflate", "()V"⟩ : Cond) ∈ TB := TB_mem (List.mem_of_getElem? (i := 911) (by decide +kernel)) rfl
theorem w_912 : (.code yJ5_inflate_da8c8 cJ5_inflate_da8c8 2 none : Cond) ∈ TB := TB_mem (List.mem_of_getElem? (i := 912) (by decide +kernel)) rfl
theorem w_913 : (.methodLink "java/lang/AbstractStringBuilder" 125 ⟨"java/lang/StringLatin1", "inflate", "([BI[BII)V"⟩ : Cond) ∈ TB := TB_mem (List.mem_of_getElem? (i := 913) (by decide +kernel)) rfl
theorem w_914 : (.static ⟨"java/lang/StringLatin1", "inflate", "([BI[BII)V"⟩ : Cond) ∈ TB := TB_mem (List.mem_of_getElem? (i := 914) (by decide +kernel)) rfl
theorem w_915 : (.code yJ1_inflate_0e8fd cJ1_inflate_0e8fd 5 none : Cond) ∈ TB := TB_mem (List.mem_of_getElem? (i := 915) (by decide +kernel)) rfl
theorem w_916 : (.methodLink "java/lang/StringLatin1" 240 ⟨"java/lang/StringUTF16", "inflate", "([BI[BII)V"⟩ : Cond) ∈ TB := TB_mem (List.mem_of_getElem? (i := 916) (by decide +kernel)) rfl
theorem w_917 : (.static ⟨"java/lang/StringUTF16", "inflate", "([BI[BII)V"⟩ : Cond) ∈ TB := TB_mem (List.mem_of_getElem? (i := 917) (by decide +kernel)) rfl
theorem w_918 : (.code yJ2_inflate_0e8fd cJ2_inflate_0e8fd 6 none : Cond) ∈ TB := TB_mem (List.mem_of_getElem? (i := 918) (by decide +kernel)) rfl
theorem w_919 : (.methodLink "java/lang/StringUTF16" 173 ⟨"java/lang/StringUTF16", "checkBoundsOffCount", "(II[B)V"⟩ : Cond) ∈ TB := TB_mem (List.mem_of_getElem? (i := 919) (by decide +kernel)) rfl
theorem w_920 : (.static ⟨"java/lang/StringUTF16", "checkBoundsOffCount", "(II[B)V"⟩ : Cond) ∈ TB := TB_mem (List.mem_of_getElem? (i := 920) (by decide +kernel)) rfl
theorem w_921 : (.code yJ2_checkBoundsOffCount_d044e cJ2_checkBoundsOffCount_d044e 3 none : Cond) ∈ TB := TB_mem (List.mem_of_getElem? (i := 921) (by decide +kernel)) rfl
theorem w_922 : (.methodLink "java/lang/StringUTF16" 419 ⟨"java/lang/String", "checkBoundsOffCount", "(III)I"⟩ : Cond) ∈ TB := TB_mem (List.mem_of_getElem? (i := 922) (by decide +kernel)) rfl
theorem w_923 : (.static ⟨"java/lang/String", "checkBoundsOffCount", "(III)I"⟩ : Cond) ∈ TB := TB_mem (List.mem_of_getElem? (i := 923) (by decide +kernel)) rfl
theorem w_924 : (.code yJ0_checkBoundsOffCount_cabcc cJ0_checkBoundsOffCount_cabcc 3 (some .int) : Cond) ∈ TB := TB_mem (List.mem_of_getElem? (i := 924) (by decide +kernel)) rfl
theorem w_925 : (.methodLink "java/lang/String" 1065 ⟨"jdk/internal/util/Preconditions", "checkFromIndexSize", "(IIILjava/util/function/BiFunction;)I"⟩ : Cond) ∈ TB := TB_mem (List.mem_of_getElem? (i := 925) (by decide +kernel)) rfl
theorem w_926 : (.static ⟨"jdk/internal/util/Preconditions", "checkFromIndexSize", "(IIILjava/util/function/BiFunction;)I"⟩ : Cond) ∈ TB := TB_mem (List.mem_of_getElem? (i := 926) (by decide +kernel)) rfl
theorem w_927 : (.code yJ3_checkFromIndexSize_8c36e cJ3_checkFromIndexSize_8c36e 4 (some .int) : Cond) ∈ TB := TB_mem (List.mem_of_getElem? (i := 927) (by decide +kernel)) rfl
theorem w_928 : (.methodLink "java/lang/AbstractStringBuilder" 399 ⟨"java/lang/String", "getBytes", "([BIB)V"⟩ : Cond) ∈ TB := TB_mem (List.mem_of_getElem? (i := 928) (by decide +kernel)) rfl
theorem w_929 : (.instanceMethod ⟨"java/lang/String", "getBytes", "([BIB)V"⟩ : Cond) ∈ TB := TB_mem (List.mem_of_getElem? (i := 929) (by decide +kernel)) rfl
theorem w_930 : (.selects "java/lang/String" ⟨"java/lang/String", "getBytes", "([BIB)V"⟩ ⟨"java/lang/String", "getBytes", "([BIB)V"⟩ : Cond) ∈ TB := TB_mem (List.mem_of_getElem? (i := 930) (by decide +kernel)) rfl
theorem w_931 : (.code yJ0_getBytes_840e7 cJ0_getBytes_840e7 4 none : Cond) ∈ TB := TB_mem (List.mem_of_getElem? (i := 931) (by decide +kernel)) rfl
theorem w_932 : (.methodLink "java/lang/String" 212 ⟨"java/lang/System", "arraycopy", "(Ljava/lang/Object;ILjava/lang/Object;II)V"⟩ : Cond) ∈ TB := TB_mem (List.mem_of_getElem? (i := 932) (by decide +kernel)) rfl
theorem w_933 : (.methodLink "java/lang/String" 106 ⟨"java/lang/StringLatin1", "inflate", "([BI[BII)V"⟩ : Cond) ∈ TB := TB_mem (List.mem_of_getElem? (i := 933) (by decide +kernel)) rfl
theorem w_935 : (.methodLink "VowCourt" 298 ⟨"java/lang/StringBuilder", "append", "(I)Ljava/lang/StringBuilder;"⟩ : Cond) ∈ TB := TB_mem (List.mem_of_getElem? (i := 935) (by decide +kernel)) rfl
theorem w_936 : (.instanceMethod ⟨"java/lang/StringBuilder", "append", "(I)Ljava/lang/StringBuilder;"⟩ : Cond) ∈ TB := TB_mem (List.mem_of_getElem? (i := 936) (by decide +kernel)) rfl
theorem w_937 : (.selects "java/lang/StringBuilder" ⟨"java/lang/StringBuilder", "append", "(I)Ljava/lang/StringBuilder;"⟩ ⟨"java/lang/StringBuilder", "append", "(I)Ljava/lang/StringBuilder;"⟩ : Cond) ∈ TB := TB_mem (List.mem_of_getElem? (i := 937) (by decide +kernel)) rfl
theorem w_938 : (.code yJ4_append_bf812 cJ4_append_bf812 2 (some (.object "java/lang/StringBuilder")) : Cond) ∈ TB := TB_mem (List.mem_of_getElem? (i := 938) (by decide +kernel)) rfl
theorem w_939 : (.methodLink "java/lang/StringBuilder" 53 ⟨"java/lang/AbstractStringBuilder", "append", "(I)Ljava/lang/AbstractStringBuilder;"⟩ : Cond) ∈ TB := TB_mem (List.mem_of_getElem? (i := 939) (by decide +kernel)) rfl
theorem w_940 : (.instanceMethod ⟨"java/lang/AbstractStringBuilder", "append", "(I)Ljava/lang/AbstractStringBuilder;"⟩ : Cond) ∈ TB := TB_mem (List.mem_of_getElem? (i := 940) (by decide +kernel)) rfl
theorem w_941 : (.code yJ5_append_c97b9 cJ5_append_c97b9 4 (some (.object "java/lang/AbstractStringBuilder")) : Cond) ∈ TB := TB_mem (List.mem_of_getElem? (i := 941) (by decide +kernel)) rfl
theorem w_942 : (.methodLink "java/lang/AbstractStringBuilder" 245 ⟨"java/lang/Integer", "stringSize", "(I)I"⟩ : Cond) ∈ TB := TB_mem (List.mem_of_getElem? (i := 942) (by decide +kernel)) rfl
theorem w_943 : (.static ⟨"java/lang/Integer", "stringSize", "(I)I"⟩ : Cond) ∈ TB := TB_mem (List.mem_of_getElem? (i := 943) (by decide +kernel)) rfl
theorem w_944 : (.code yJ6_stringSize_0f7a4 cJ6_stringSize_0f7a4 4 (some .int) : Cond) ∈ TB := TB_mem (List.mem_of_getElem? (i := 944) (by decide +kernel)) rfl
theorem w_945 : (.methodLink "java/lang/AbstractStringBuilder" 248 ⟨"java/lang/Integer", "getChars", "(II[B)I"⟩ : Cond) ∈ TB := TB_mem (List.mem_of_getElem? (i := 945) (by decide +kernel)) rfl
theorem w_946 : (.static ⟨"java/lang/Integer", "getChars", "(II[B)I"⟩ : Cond) ∈ TB := TB_mem (List.mem_of_getElem? (i := 946) (by decide +kernel)) rfl
theorem w_947 : (.code yJ6_getChars_ba4f3 cJ6_getChars_ba4f3 7 (some .int) : Cond) ∈ TB := TB_mem (List.mem_of_getElem? (i := 947) (by decide +kernel)) rfl
theorem w_948 : (.fieldLink "java/lang/Integer" 83 "java/lang/Integer" "DigitOnes" "[B" : Cond) ∈ TB := TB_mem (List.mem_of_getElem? (i := 948) (by decide +kernel)) rfl
theorem w_950 : (.fieldLink "java/lang/Integer" 87 "java/lang/Integer" "DigitTens" "[B" : Cond) ∈ TB := TB_mem (List.mem_of_getElem? (i := 950) (by decide +kernel)) rfl
theorem w_952 : (.methodLink "java/lang/AbstractStringBuilder" 251 ⟨"java/lang/StringUTF16", "getChars", "(III[B)I"⟩ : Cond) ∈ TB := TB_mem (List.mem_of_getElem? (i := 952) (by decide +kernel)) rfl
theorem w_953 : (.static ⟨"java/lang/StringUTF16", "getChars", "(III[B)I"⟩ : Cond) ∈ TB := TB_mem (List.mem_of_getElem? (i := 953) (by decide +kernel)) rfl
theorem w_954 : (.code yJ2_getChars_46870 cJ2_getChars_46870 5 (some .int) : Cond) ∈ TB := TB_mem (List.mem_of_getElem? (i := 954) (by decide +kernel)) rfl
theorem w_955 : (.methodLink "java/lang/StringUTF16" 393 ⟨"java/lang/StringUTF16", "getChars", "(II[B)I"⟩ : Cond) ∈ TB := TB_mem (List.mem_of_getElem? (i := 955) (by decide +kernel)) rfl
theorem w_956 : (.static ⟨"java/lang/StringUTF16", "getChars", "(II[B)I"⟩ : Cond) ∈ TB := TB_mem (List.mem_of_getElem? (i := 956) (by decide +kernel)) rfl
theorem w_957 : (.code yJ2_getChars_ba4f3 cJ2_getChars_ba4f3 7 (some .int) : Cond) ∈ TB := TB_mem (List.mem_of_getElem? (i := 957) (by decide +kernel)) rfl
theorem w_958 : (.fieldLink "java/lang/StringUTF16" 403 "java/lang/Integer" "DigitOnes" "[B" : Cond) ∈ TB := TB_mem (List.mem_of_getElem? (i := 958) (by decide +kernel)) rfl
theorem w_959 : (.fieldLink "java/lang/StringUTF16" 407 "java/lang/Integer" "DigitTens" "[B" : Cond) ∈ TB := TB_mem (List.mem_of_getElem? (i := 959) (by decide +kernel)) rfl
theorem w_961 : (.methodLink "VowCourt" 303 ⟨"VowCourt$Vow", "partnerOf", "(I)I"⟩ : Cond) ∈ TB := TB_mem (List.mem_of_getElem? (i := 961) (by decide +kernel)) rfl
theorem w_962 : (.instanceMethod ⟨"VowCourt$Vow", "partnerOf", "(I)I"⟩ : Cond) ∈ TB := TB_mem (List.mem_of_getElem? (i := 962) (by decide +kernel)) rfl
theorem w_963 : (.selects "VowCourt$Vow" ⟨"VowCourt$Vow", "partnerOf", "(I)I"⟩ ⟨"VowCourt$Vow", "partnerOf", "(I)I"⟩ : Cond) ∈ TB := TB_mem (List.mem_of_getElem? (i := 963) (by decide +kernel)) rfl
theorem w_964 : (.code yX3_partnerOf cX3_partnerOf 2 (some .int) : Cond) ∈ TB := TB_mem (List.mem_of_getElem? (i := 964) (by decide +kernel)) rfl
theorem w_965 : (.methodLink "VowCourt" 226 ⟨"java/lang/StringBuilder", "length", "()I"⟩ : Cond) ∈ TB := TB_mem (List.mem_of_getElem? (i := 965) (by decide +kernel)) rfl
theorem w_966 : (.instanceMethod ⟨"java/lang/StringBuilder", "length", "()I"⟩ : Cond) ∈ TB := TB_mem (List.mem_of_getElem? (i := 966) (by decide +kernel)) rfl
theorem w_967 : (.selects "java/lang/StringBuilder" ⟨"java/lang/StringBuilder", "length", "()I"⟩ ⟨"java/lang/StringBuilder", "length", "()I"⟩ : Cond) ∈ TB := TB_mem (List.mem_of_getElem? (i := 967) (by decide +kernel)) rfl
theorem w_968 : (.code yJ4_length_8abf5 cJ4_length_8abf5 1 (some .int) : Cond) ∈ TB := TB_mem (List.mem_of_getElem? (i := 968) (by decide +kernel)) rfl
theorem w_969 : (.methodLink "java/lang/StringBuilder" 343 ⟨"java/lang/AbstractStringBuilder", "length", "()I"⟩ : Cond) ∈ TB := TB_mem (List.mem_of_getElem? (i := 969) (by decide +kernel)) rfl
theorem w_970 : (.instanceMethod ⟨"java/lang/AbstractStringBuilder", "length", "()I"⟩ : Cond) ∈ TB := TB_mem (List.mem_of_getElem? (i := 970) (by decide +kernel)) rfl
theorem w_971 : (.code yJ5_length_8abf5 cJ5_length_8abf5 1 (some .int) : Cond) ∈ TB := TB_mem (List.mem_of_getElem? (i := 971) (by decide +kernel)) rfl
theorem w_972 : (.methodLink "VowCourt" 231 ⟨"java/lang/StringBuilder", "charAt", "(I)C"⟩ : Cond) ∈ TB := TB_mem (List.mem_of_getElem? (i := 972) (by decide +kernel)) rfl
theorem w_973 : (.instanceMethod ⟨"java/lang/StringBuilder", "charAt", "(I)C"⟩ : Cond) ∈ TB := TB_mem (List.mem_of_getElem? (i := 973) (by decide +kernel)) rfl
theorem w_974 : (.selects "java/lang/StringBuilder" ⟨"java/lang/StringBuilder", "charAt", "(I)C"⟩ ⟨"java/lang/StringBuilder", "charAt", "(I)C"⟩ : Cond) ∈ TB := TB_mem (List.mem_of_getElem? (i := 974) (by decide +kernel)) rfl
theorem w_975 : (.code yJ4_charAt_5068e cJ4_charAt_5068e 2 (some .char) : Cond) ∈ TB := TB_mem (List.mem_of_getElem? (i := 975) (by decide +kernel)) rfl
theorem w_976 : (.methodLink "java/lang/StringBuilder" 329 ⟨"java/lang/AbstractStringBuilder", "charAt", "(I)C"⟩ : Cond) ∈ TB := TB_mem (List.mem_of_getElem? (i := 976) (by decide +kernel)) rfl
theorem w_977 : (.instanceMethod ⟨"java/lang/AbstractStringBuilder", "charAt", "(I)C"⟩ : Cond) ∈ TB := TB_mem (List.mem_of_getElem? (i := 977) (by decide +kernel)) rfl
theorem w_978 : (.code yJ5_charAt_5068e cJ5_charAt_5068e 5 (some .char) : Cond) ∈ TB := TB_mem (List.mem_of_getElem? (i := 978) (by decide +kernel)) rfl
theorem w_979 : (.methodLink "java/lang/AbstractStringBuilder" 138 ⟨"java/lang/Math", "min", "(II)I"⟩ : Cond) ∈ TB := TB_mem (List.mem_of_getElem? (i := 979) (by decide +kernel)) rfl
theorem w_980 : (.methodLink "java/lang/AbstractStringBuilder" 144 ⟨"java/lang/String", "checkIndex", "(II)V"⟩ : Cond) ∈ TB := TB_mem (List.mem_of_getElem? (i := 980) (by decide +kernel)) rfl
theorem w_981 : (.static ⟨"java/lang/String", "checkIndex", "(II)V"⟩ : Cond) ∈ TB := TB_mem (List.mem_of_getElem? (i := 981) (by decide +kernel)) rfl
theorem w_982 : (.code yJ0_checkIndex_df160 cJ0_checkIndex_df160 2 none : Cond) ∈ TB := TB_mem (List.mem_of_getElem? (i := 982) (by decide +kernel)) rfl
theorem w_983 : (.methodLink "java/lang/String" 1059 ⟨"jdk/internal/util/Preconditions", "checkIndex", "(IILjava/util/function/BiFunction;)I"⟩ : Cond) ∈ TB := TB_mem (List.mem_of_getElem? (i := 983) (by decide +kernel)) rfl
theorem w_984 : (.methodLink "java/lang/AbstractStringBuilder" 148 ⟨"java/lang/StringUTF16", "getChar", "([BI)C"⟩ : Cond) ∈ TB := TB_mem (List.mem_of_getElem? (i := 984) (by decide +kernel)) rfl
theorem w_985 : (.static ⟨"java/lang/StringUTF16", "getChar", "([BI)C"⟩ : Cond) ∈ TB := TB_mem (List.mem_of_getElem? (i := 985) (by decide +kernel)) rfl
theorem w_986 : (.code yJ2_getChar_3b067 cJ2_getChar_3b067 2 (some .char) : Cond) ∈ TB := TB_mem (List.mem_of_getElem? (i := 986) (by decide +kernel)) rfl
theorem w_987 : (.classLink "VowCourtLaw" 113 "VowCourtModel" : Cond) ∈ TB := TB_mem (List.mem_of_getElem? (i := 987) (by decide +kernel)) rfl
theorem w_988 : (.instantiable "VowCourtModel" 33 : Cond) ∈ TB := TB_mem (List.mem_of_getElem? (i := 988) (by decide +kernel)) rfl
theorem w_989 : (.methodLink "VowCourtLaw" 115 ⟨"VowCourtModel", "<init>", "()V"⟩ : Cond) ∈ TB := TB_mem (List.mem_of_getElem? (i := 989) (by decide +kernel)) rfl
theorem w_990 : (.instanceMethod ⟨"VowCourtModel", "<init>", "()V"⟩ : Cond) ∈ TB := TB_mem (List.mem_of_getElem? (i := 990) (by decide +kernel)) rfl
theorem w_991 : (.code yX5_init cX5_init 1 none : Cond) ∈ TB := TB_mem (List.mem_of_getElem? (i := 991) (by decide +kernel)) rfl
theorem w_992 : (.methodLink "VowCourtModel" 1 ⟨"java/lang/Object", "<init>", "()V"⟩ : Cond) ∈ TB := TB_mem (List.mem_of_getElem? (i := 992) (by decide +kernel)) rfl
theorem w_993 : (.fieldLink "VowCourtModel" 117 "VowCourtModel" "day" "I" : Cond) ∈ TB := TB_mem (List.mem_of_getElem? (i := 993) (by decide +kernel)) rfl
theorem w_994 : (.fieldLink "VowCourtModel" 96 "VowCourtModel" "persons" "I" : Cond) ∈ TB := TB_mem (List.mem_of_getElem? (i := 994) (by decide +kernel)) rfl
theorem w_995 : (.fieldLink "VowCourtModel" 7 "VowCourtModel" "born" "[I" : Cond) ∈ TB := TB_mem (List.mem_of_getElem? (i := 995) (by decide +kernel)) rfl
theorem w_996 : (.fieldLink "VowCourtModel" 13 "VowCourtModel" "home" "[I" : Cond) ∈ TB := TB_mem (List.mem_of_getElem? (i := 996) (by decide +kernel)) rfl
theorem w_997 : (.fieldLink "VowCourtModel" 16 "VowCourtModel" "rite" "[I" : Cond) ∈ TB := TB_mem (List.mem_of_getElem? (i := 997) (by decide +kernel)) rfl
theorem w_998 : (.fieldLink "VowCourtModel" 19 "VowCourtModel" "isOrdered" "[Z" : Cond) ∈ TB := TB_mem (List.mem_of_getElem? (i := 998) (by decide +kernel)) rfl
theorem w_999 : (.fieldLink "VowCourtModel" 23 "VowCourtModel" "isBanned" "[Z" : Cond) ∈ TB := TB_mem (List.mem_of_getElem? (i := 999) (by decide +kernel)) rfl
theorem w_1000 : (.fieldLink "VowCourtModel" 26 "VowCourtModel" "isDead" "[Z" : Cond) ∈ TB := TB_mem (List.mem_of_getElem? (i := 1000) (by decide +kernel)) rfl
theorem w_1001 : (.fieldLink "VowCourtModel" 29 "VowCourtModel" "steps" "[I" : Cond) ∈ TB := TB_mem (List.mem_of_getElem? (i := 1001) (by decide +kernel)) rfl
theorem w_1002 : (.fieldLink "VowCourtModel" 32 "VowCourtModel" "dispensed" "[Z" : Cond) ∈ TB := TB_mem (List.mem_of_getElem? (i := 1002) (by decide +kernel)) rfl
theorem w_1003 : (.fieldLink "VowCourtModel" 35 "VowCourtModel" "until" "[I" : Cond) ∈ TB := TB_mem (List.mem_of_getElem? (i := 1003) (by decide +kernel)) rfl
theorem w_1004 : (.fieldLink "VowCourtModel" 38 "VowCourtModel" "isError" "[Z" : Cond) ∈ TB := TB_mem (List.mem_of_getElem? (i := 1004) (by decide +kernel)) rfl
theorem w_1005 : (.fieldLink "VowCourtModel" 103 "VowCourtModel" "vows" "I" : Cond) ∈ TB := TB_mem (List.mem_of_getElem? (i := 1005) (by decide +kernel)) rfl
theorem w_1006 : (.fieldLink "VowCourtModel" 41 "VowCourtModel" "one" "[I" : Cond) ∈ TB := TB_mem (List.mem_of_getElem? (i := 1006) (by decide +kernel)) rfl
theorem w_1007 : (.fieldLink "VowCourtModel" 44 "VowCourtModel" "other" "[I" : Cond) ∈ TB := TB_mem (List.mem_of_getElem? (i := 1007) (by decide +kernel)) rfl
theorem w_1008 : (.fieldLink "VowCourtModel" 47 "VowCourtModel" "place" "[I" : Cond) ∈ TB := TB_mem (List.mem_of_getElem? (i := 1008) (by decide +kernel)) rfl
theorem w_1009 : (.fieldLink "VowCourtModel" 50 "VowCourtModel" "vowed" "[I" : Cond) ∈ TB := TB_mem (List.mem_of_getElem? (i := 1009) (by decide +kernel)) rfl
theorem w_1010 : (.fieldLink "VowCourtModel" 53 "VowCourtModel" "lacks" "[Z" : Cond) ∈ TB := TB_mem (List.mem_of_getElem? (i := 1010) (by decide +kernel)) rfl
theorem w_1011 : (.fieldLink "VowCourtModel" 56 "VowCourtModel" "kept" "[I" : Cond) ∈ TB := TB_mem (List.mem_of_getElem? (i := 1011) (by decide +kernel)) rfl
theorem w_1012 : (.fieldLink "VowCourtModel" 59 "VowCourtModel" "state" "[I" : Cond) ∈ TB := TB_mem (List.mem_of_getElem? (i := 1012) (by decide +kernel)) rfl
theorem w_1013 : (.fieldLink "VowCourtModel" 62 "VowCourtModel" "since" "[I" : Cond) ∈ TB := TB_mem (List.mem_of_getElem? (i := 1013) (by decide +kernel)) rfl
theorem w_1014 : (.fieldLink "VowCourtModel" 161 "VowCourtModel" "causes" "I" : Cond) ∈ TB := TB_mem (List.mem_of_getElem? (i := 1014) (by decide +kernel)) rfl
theorem w_1015 : (.fieldLink "VowCourtModel" 65 "VowCourtModel" "vowOf" "[I" : Cond) ∈ TB := TB_mem (List.mem_of_getElem? (i := 1015) (by decide +kernel)) rfl
theorem w_1016 : (.fieldLink "VowCourtModel" 68 "VowCourtModel" "doubts" "[I" : Cond) ∈ TB := TB_mem (List.mem_of_getElem? (i := 1016) (by decide +kernel)) rfl
theorem w_1017 : (.fieldLink "VowCourtModel" 71 "VowCourtModel" "how" "[I" : Cond) ∈ TB := TB_mem (List.mem_of_getElem? (i := 1017) (by decide +kernel)) rfl
theorem w_1018 : (.fieldLink "VowCourtModel" 74 "VowCourtModel" "instance" "[I" : Cond) ∈ TB := TB_mem (List.mem_of_getElem? (i := 1018) (by decide +kernel)) rfl
theorem w_1019 : (.fieldLink "VowCourtModel" 77 "VowCourtModel" "weight" "[I" : Cond) ∈ TB := TB_mem (List.mem_of_getElem? (i := 1019) (by decide +kernel)) rfl
theorem w_1020 : (.fieldLink "VowCourtModel" 80 "VowCourtModel" "voted" "[I" : Cond) ∈ TB := TB_mem (List.mem_of_getElem? (i := 1020) (by decide +kernel)) rfl
theorem w_1021 : (.fieldLink "VowCourtModel" 83 "VowCourtModel" "vote" "[I" : Cond) ∈ TB := TB_mem (List.mem_of_getElem? (i := 1021) (by decide +kernel)) rfl
theorem w_1022 : (.fieldLink "VowCourtModel" 86 "VowCourtModel" "sentence" "[I" : Cond) ∈ TB := TB_mem (List.mem_of_getElem? (i := 1022) (by decide +kernel)) rfl
theorem w_1023 : (.fieldLink "VowCourtModel" 205 "VowCourtModel" "written" "I" : Cond) ∈ TB := TB_mem (List.mem_of_getElem? (i := 1023) (by decide +kernel)) rfl
theorem w_1024 : (.fieldLink "VowCourtModel" 89 "VowCourtModel" "text" "[I" : Cond) ∈ TB := TB_mem (List.mem_of_getElem? (i := 1024) (by decide +kernel)) rfl
theorem w_1025 : (.fieldLink "VowCourtModel" 92 "VowCourtModel" "thrown" "I" : Cond) ∈ TB := TB_mem (List.mem_of_getElem? (i := 1025) (by decide +kernel)) rfl
theorem w_1093 : (.methodLink "VowCourtLaw" 122 ⟨"VowCourtModel", "thrown", "()I"⟩ : Cond) ∈ TB := TB_mem (List.mem_of_getElem? (i := 1093) (by decide +kernel)) rfl
theorem w_1094 : (.instanceMethod ⟨"VowCourtModel", "thrown", "()I"⟩ : Cond) ∈ TB := TB_mem (List.mem_of_getElem? (i := 1094) (by decide +kernel)) rfl
theorem w_1095 : (.selects "VowCourtModel" ⟨"VowCourtModel", "thrown", "()I"⟩ ⟨"VowCourtModel", "thrown", "()I"⟩ : Cond) ∈ TB := TB_mem (List.mem_of_getElem? (i := 1095) (by decide +kernel)) rfl
theorem w_1096 : (.code yX5_thrown cX5_thrown 1 (some .int) : Cond) ∈ TB := TB_mem (List.mem_of_getElem? (i := 1096) (by decide +kernel)) rfl
theorem w_1097 : (.methodLink "VowCourtLaw" 121 ⟨"VowCourtModel", "person", "(IIII)I"⟩ : Cond) ∈ TB := TB_mem (List.mem_of_getElem? (i := 1097) (by decide +kernel)) rfl
theorem w_1098 : (.instanceMethod ⟨"VowCourtModel", "person", "(IIII)I"⟩ : Cond) ∈ TB := TB_mem (List.mem_of_getElem? (i := 1098) (by decide +kernel)) rfl
theorem w_1099 : (.selects "VowCourtModel" ⟨"VowCourtModel", "person", "(IIII)I"⟩ ⟨"VowCourtModel", "person", "(IIII)I"⟩ : Cond) ∈ TB := TB_mem (List.mem_of_getElem? (i := 1099) (by decide +kernel)) rfl
theorem w_1100 : (.code yX5_person cX5_person 12 (some .int) : Cond) ∈ TB := TB_mem (List.mem_of_getElem? (i := 1100) (by decide +kernel)) rfl
theorem w_1101 : (.methodLink "VowCourtModel" 106 ⟨"VowCourtModel", "isPerson", "(I)Z"⟩ : Cond) ∈ TB := TB_mem (List.mem_of_getElem? (i := 1101) (by decide +kernel)) rfl
theorem w_1103 : (.instanceMethod ⟨"VowCourtModel", "isPerson", "(I)Z"⟩ : Cond) ∈ TB := TB_mem (List.mem_of_getElem? (i := 1103) (by decide +kernel)) rfl
theorem w_1104 : (.code yX5_isPerson cX5_isPerson 2 (some .boolean) : Cond) ∈ TB := TB_mem (List.mem_of_getElem? (i := 1104) (by decide +kernel)) rfl
theorem w_1105 : (.methodLink "VowCourtModel" 99 ⟨"VowCourtModel", "isIn", "(III)Z"⟩ : Cond) ∈ TB := TB_mem (List.mem_of_getElem? (i := 1105) (by decide +kernel)) rfl
theorem w_1106 : (.static ⟨"VowCourtModel", "isIn", "(III)Z"⟩ : Cond) ∈ TB := TB_mem (List.mem_of_getElem? (i := 1106) (by decide +kernel)) rfl
theorem w_1107 : (.code yX5_isIn cX5_isIn 3 (some .boolean) : Cond) ∈ TB := TB_mem (List.mem_of_getElem? (i := 1107) (by decide +kernel)) rfl
theorem w_1108 : (.constant "VowCourtModel" 110 (36000) : Cond) ∈ TB := TB_mem (List.mem_of_getElem? (i := 1108) (by decide +kernel)) rfl
theorem w_1109 : (.methodLink "VowCourtModel" 111 ⟨"VowCourtModel", "isPlace", "(I)Z"⟩ : Cond) ∈ TB := TB_mem (List.mem_of_getElem? (i := 1109) (by decide +kernel)) rfl
theorem w_1110 : (.static ⟨"VowCourtModel", "isPlace", "(I)Z"⟩ : Cond) ∈ TB := TB_mem (List.mem_of_getElem? (i := 1110) (by decide +kernel)) rfl
theorem w_1111 : (.code yX5_isPlace cX5_isPlace 1 (some .boolean) : Cond) ∈ TB := TB_mem (List.mem_of_getElem? (i := 1111) (by decide +kernel)) rfl
theorem w_1112 : (.methodLink "VowCourtModel" 114 ⟨"VowCourtModel", "fails", "(I)Z"⟩ : Cond) ∈ TB := TB_mem (List.mem_of_getElem? (i := 1112) (by decide +kernel)) rfl
theorem w_1114 : (.instanceMethod ⟨"VowCourtModel", "fails", "(I)Z"⟩ : Cond) ∈ TB := TB_mem (List.mem_of_getElem? (i := 1114) (by decide +kernel)) rfl
theorem w_1115 : (.code yX5_fails cX5_fails 2 (some .boolean) : Cond) ∈ TB := TB_mem (List.mem_of_getElem? (i := 1115) (by decide +kernel)) rfl
theorem w_1116 : (.methodLink "VowCourtLaw" 129 ⟨"VowCourtModel", "rite", "(II)I"⟩ : Cond) ∈ TB := TB_mem (List.mem_of_getElem? (i := 1116) (by decide +kernel)) rfl
theorem w_1117 : (.instanceMethod ⟨"VowCourtModel", "rite", "(II)I"⟩ : Cond) ∈ TB := TB_mem (List.mem_of_getElem? (i := 1117) (by decide +kernel)) rfl
theorem w_1118 : (.selects "VowCourtModel" ⟨"VowCourtModel", "rite", "(II)I"⟩ ⟨"VowCourtModel", "rite", "(II)I"⟩ : Cond) ∈ TB := TB_mem (List.mem_of_getElem? (i := 1118) (by decide +kernel)) rfl
theorem w_1119 : (.code yX5_rite cX5_rite 4 (some .int) : Cond) ∈ TB := TB_mem (List.mem_of_getElem? (i := 1119) (by decide +kernel)) rfl
theorem w_1120 : (.methodLink "VowCourtLaw" 132 ⟨"VowCourtModel", "home", "(II)I"⟩ : Cond) ∈ TB := TB_mem (List.mem_of_getElem? (i := 1120) (by decide +kernel)) rfl
theorem w_1121 : (.instanceMethod ⟨"VowCourtModel", "home", "(II)I"⟩ : Cond) ∈ TB := TB_mem (List.mem_of_getElem? (i := 1121) (by decide +kernel)) rfl
theorem w_1122 : (.selects "VowCourtModel" ⟨"VowCourtModel", "home", "(II)I"⟩ ⟨"VowCourtModel", "home", "(II)I"⟩ : Cond) ∈ TB := TB_mem (List.mem_of_getElem? (i := 1122) (by decide +kernel)) rfl
theorem w_1123 : (.code yX5_home cX5_home 4 (some .int) : Cond) ∈ TB := TB_mem (List.mem_of_getElem? (i := 1123) (by decide +kernel)) rfl
theorem w_1124 : (.methodLink "VowCourtLaw" 136 ⟨"VowCourtModel", "order", "(I)V"⟩ : Cond) ∈ TB := TB_mem (List.mem_of_getElem? (i := 1124) (by decide +kernel)) rfl
theorem w_1125 : (.instanceMethod ⟨"VowCourtModel", "order", "(I)V"⟩ : Cond) ∈ TB := TB_mem (List.mem_of_getElem? (i := 1125) (by decide +kernel)) rfl
theorem w_1126 : (.selects "VowCourtModel" ⟨"VowCourtModel", "order", "(I)V"⟩ ⟨"VowCourtModel", "order", "(I)V"⟩ : Cond) ∈ TB := TB_mem (List.mem_of_getElem? (i := 1126) (by decide +kernel)) rfl
theorem w_1127 : (.code yX5_order cX5_order 2 none : Cond) ∈ TB := TB_mem (List.mem_of_getElem? (i := 1127) (by decide +kernel)) rfl
theorem w_1128 : (.methodLink "VowCourtLaw" 140 ⟨"VowCourtModel", "ban", "(I)Z"⟩ : Cond) ∈ TB := TB_mem (List.mem_of_getElem? (i := 1128) (by decide +kernel)) rfl
theorem w_1129 : (.instanceMethod ⟨"VowCourtModel", "ban", "(I)Z"⟩ : Cond) ∈ TB := TB_mem (List.mem_of_getElem? (i := 1129) (by decide +kernel)) rfl
theorem w_1130 : (.selects "VowCourtModel" ⟨"VowCourtModel", "ban", "(I)Z"⟩ ⟨"VowCourtModel", "ban", "(I)Z"⟩ : Cond) ∈ TB := TB_mem (List.mem_of_getElem? (i := 1130) (by decide +kernel)) rfl
theorem w_1131 : (.code yX5_ban cX5_ban 2 (some .boolean) : Cond) ∈ TB := TB_mem (List.mem_of_getElem? (i := 1131) (by decide +kernel)) rfl
theorem w_1132 : (.methodLink "VowCourtLaw" 143 ⟨"VowCourtModel", "die", "(I)I"⟩ : Cond) ∈ TB := TB_mem (List.mem_of_getElem? (i := 1132) (by decide +kernel)) rfl
theorem w_1133 : (.instanceMethod ⟨"VowCourtModel", "die", "(I)I"⟩ : Cond) ∈ TB := TB_mem (List.mem_of_getElem? (i := 1133) (by decide +kernel)) rfl
theorem w_1134 : (.selects "VowCourtModel" ⟨"VowCourtModel", "die", "(I)I"⟩ ⟨"VowCourtModel", "die", "(I)I"⟩ : Cond) ∈ TB := TB_mem (List.mem_of_getElem? (i := 1134) (by decide +kernel)) rfl
theorem w_1135 : (.code yX5_die cX5_die 4 (some .int) : Cond) ∈ TB := TB_mem (List.mem_of_getElem? (i := 1135) (by decide +kernel)) rfl
theorem w_1136 : (.methodLink "VowCourtModel" 120 ⟨"VowCourtModel", "ends", "(II)V"⟩ : Cond) ∈ TB := TB_mem (List.mem_of_getElem? (i := 1136) (by decide +kernel)) rfl
theorem w_1138 : (.instanceMethod ⟨"VowCourtModel", "ends", "(II)V"⟩ : Cond) ∈ TB := TB_mem (List.mem_of_getElem? (i := 1138) (by decide +kernel)) rfl
theorem w_1139 : (.code yX5_ends cX5_ends 3 none : Cond) ∈ TB := TB_mem (List.mem_of_getElem? (i := 1139) (by decide +kernel)) rfl
theorem w_1140 : (.methodLink "VowCourtLaw" 147 ⟨"VowCourtModel", "dispense", "(III)V"⟩ : Cond) ∈ TB := TB_mem (List.mem_of_getElem? (i := 1140) (by decide +kernel)) rfl
theorem w_1141 : (.instanceMethod ⟨"VowCourtModel", "dispense", "(III)V"⟩ : Cond) ∈ TB := TB_mem (List.mem_of_getElem? (i := 1141) (by decide +kernel)) rfl
theorem w_1142 : (.selects "VowCourtModel" ⟨"VowCourtModel", "dispense", "(III)V"⟩ ⟨"VowCourtModel", "dispense", "(III)V"⟩ : Cond) ∈ TB := TB_mem (List.mem_of_getElem? (i := 1142) (by decide +kernel)) rfl
theorem w_1143 : (.code yX5_dispense cX5_dispense 6 none : Cond) ∈ TB := TB_mem (List.mem_of_getElem? (i := 1143) (by decide +kernel)) rfl
theorem w_1144 : (.methodLink "VowCourtModel" 142 ⟨"VowCourtModel", "canDispense", "(III)Z"⟩ : Cond) ∈ TB := TB_mem (List.mem_of_getElem? (i := 1144) (by decide +kernel)) rfl
theorem w_1146 : (.instanceMethod ⟨"VowCourtModel", "canDispense", "(III)Z"⟩ : Cond) ∈ TB := TB_mem (List.mem_of_getElem? (i := 1146) (by decide +kernel)) rfl
theorem w_1147 : (.code yX5_canDispense cX5_canDispense 5 (some .boolean) : Cond) ∈ TB := TB_mem (List.mem_of_getElem? (i := 1147) (by decide +kernel)) rfl
theorem w_1148 : (.methodLink "VowCourtModel" 135 ⟨"VowCourtModel", "hinders", "(II)I"⟩ : Cond) ∈ TB := TB_mem (List.mem_of_getElem? (i := 1148) (by decide +kernel)) rfl
theorem w_1150 : (.instanceMethod ⟨"VowCourtModel", "hinders", "(II)I"⟩ : Cond) ∈ TB := TB_mem (List.mem_of_getElem? (i := 1150) (by decide +kernel)) rfl
theorem w_1151 : (.code yX5_hinders cX5_hinders 3 (some .int) : Cond) ∈ TB := TB_mem (List.mem_of_getElem? (i := 1151) (by decide +kernel)) rfl
theorem w_1152 : (.methodLink "VowCourtModel" 128 ⟨"VowCourtModel", "isYoung", "(III)Z"⟩ : Cond) ∈ TB := TB_mem (List.mem_of_getElem? (i := 1152) (by decide +kernel)) rfl
theorem w_1154 : (.instanceMethod ⟨"VowCourtModel", "isYoung", "(III)Z"⟩ : Cond) ∈ TB := TB_mem (List.mem_of_getElem? (i := 1154) (by decide +kernel)) rfl
theorem w_1155 : (.code yX5_isYoung cX5_isYoung 4 (some .boolean) : Cond) ∈ TB := TB_mem (List.mem_of_getElem? (i := 1155) (by decide +kernel)) rfl
theorem w_1156 : (.methodLink "VowCourtModel" 131 ⟨"VowCourtModel", "areKin", "(II)Z"⟩ : Cond) ∈ TB := TB_mem (List.mem_of_getElem? (i := 1156) (by decide +kernel)) rfl
theorem w_1158 : (.instanceMethod ⟨"VowCourtModel", "areKin", "(II)Z"⟩ : Cond) ∈ TB := TB_mem (List.mem_of_getElem? (i := 1158) (by decide +kernel)) rfl
theorem w_1159 : (.code yX5_areKin cX5_areKin 4 (some .boolean) : Cond) ∈ TB := TB_mem (List.mem_of_getElem? (i := 1159) (by decide +kernel)) rfl
theorem w_1160 : (.methodLink "VowCourtModel" 124 ⟨"VowCourtModel", "kinOf", "(II)I"⟩ : Cond) ∈ TB := TB_mem (List.mem_of_getElem? (i := 1160) (by decide +kernel)) rfl
theorem w_1162 : (.instanceMethod ⟨"VowCourtModel", "kinOf", "(II)I"⟩ : Cond) ∈ TB := TB_mem (List.mem_of_getElem? (i := 1162) (by decide +kernel)) rfl
theorem w_1163 : (.code yX5_kinOf cX5_kinOf 9 (some .int) : Cond) ∈ TB := TB_mem (List.mem_of_getElem? (i := 1163) (by decide +kernel)) rfl
theorem w_1164 : (.methodLink "VowCourtModel" 138 ⟨"VowCourtModel", "placeOf", "(III)I"⟩ : Cond) ∈ TB := TB_mem (List.mem_of_getElem? (i := 1164) (by decide +kernel)) rfl
theorem w_1165 : (.static ⟨"VowCourtModel", "placeOf", "(III)I"⟩ : Cond) ∈ TB := TB_mem (List.mem_of_getElem? (i := 1165) (by decide +kernel)) rfl
theorem w_1166 : (.code yX5_placeOf cX5_placeOf 4 (some .int) : Cond) ∈ TB := TB_mem (List.mem_of_getElem? (i := 1166) (by decide +kernel)) rfl
theorem w_1167 : (.methodLink "VowCourtLaw" 150 ⟨"VowCourtModel", "faculty", "(III)V"⟩ : Cond) ∈ TB := TB_mem (List.mem_of_getElem? (i := 1167) (by decide +kernel)) rfl
theorem w_1168 : (.instanceMethod ⟨"VowCourtModel", "faculty", "(III)V"⟩ : Cond) ∈ TB := TB_mem (List.mem_of_getElem? (i := 1168) (by decide +kernel)) rfl
theorem w_1169 : (.selects "VowCourtModel" ⟨"VowCourtModel", "faculty", "(III)V"⟩ ⟨"VowCourtModel", "faculty", "(III)V"⟩ : Cond) ∈ TB := TB_mem (List.mem_of_getElem? (i := 1169) (by decide +kernel)) rfl
theorem w_1170 : (.code yX5_faculty cX5_faculty 4 none : Cond) ∈ TB := TB_mem (List.mem_of_getElem? (i := 1170) (by decide +kernel)) rfl
theorem w_1171 : (.methodLink "VowCourtModel" 145 ⟨"VowCourtModel", "isWitness", "(I)Z"⟩ : Cond) ∈ TB := TB_mem (List.mem_of_getElem? (i := 1171) (by decide +kernel)) rfl
theorem w_1172 : (.static ⟨"VowCourtModel", "isWitness", "(I)Z"⟩ : Cond) ∈ TB := TB_mem (List.mem_of_getElem? (i := 1172) (by decide +kernel)) rfl
theorem w_1173 : (.code yX5_isWitness cX5_isWitness 1 (some .boolean) : Cond) ∈ TB := TB_mem (List.mem_of_getElem? (i := 1173) (by decide +kernel)) rfl
theorem w_1174 : (.methodLink "VowCourtLaw" 153 ⟨"VowCourtModel", "error", "(I)Z"⟩ : Cond) ∈ TB := TB_mem (List.mem_of_getElem? (i := 1174) (by decide +kernel)) rfl
theorem w_1175 : (.instanceMethod ⟨"VowCourtModel", "error", "(I)Z"⟩ : Cond) ∈ TB := TB_mem (List.mem_of_getElem? (i := 1175) (by decide +kernel)) rfl
theorem w_1176 : (.selects "VowCourtModel" ⟨"VowCourtModel", "error", "(I)Z"⟩ ⟨"VowCourtModel", "error", "(I)Z"⟩ : Cond) ∈ TB := TB_mem (List.mem_of_getElem? (i := 1176) (by decide +kernel)) rfl
theorem w_1177 : (.code yX5_error cX5_error 2 (some .boolean) : Cond) ∈ TB := TB_mem (List.mem_of_getElem? (i := 1177) (by decide +kernel)) rfl
theorem w_1178 : (.methodLink "VowCourtLaw" 156 ⟨"VowCourtModel", "vow", "(IIII)I"⟩ : Cond) ∈ TB := TB_mem (List.mem_of_getElem? (i := 1178) (by decide +kernel)) rfl
theorem w_1179 : (.instanceMethod ⟨"VowCourtModel", "vow", "(IIII)I"⟩ : Cond) ∈ TB := TB_mem (List.mem_of_getElem? (i := 1179) (by decide +kernel)) rfl
theorem w_1180 : (.selects "VowCourtModel" ⟨"VowCourtModel", "vow", "(IIII)I"⟩ ⟨"VowCourtModel", "vow", "(IIII)I"⟩ : Cond) ∈ TB := TB_mem (List.mem_of_getElem? (i := 1180) (by decide +kernel)) rfl
theorem w_1181 : (.code yX5_vow cX5_vow 9 (some .int) : Cond) ∈ TB := TB_mem (List.mem_of_getElem? (i := 1181) (by decide +kernel)) rfl
theorem w_1182 : (.methodLink "VowCourtLaw" 159 ⟨"VowCourtModel", "heal", "(I)V"⟩ : Cond) ∈ TB := TB_mem (List.mem_of_getElem? (i := 1182) (by decide +kernel)) rfl
theorem w_1183 : (.instanceMethod ⟨"VowCourtModel", "heal", "(I)V"⟩ : Cond) ∈ TB := TB_mem (List.mem_of_getElem? (i := 1183) (by decide +kernel)) rfl
theorem w_1184 : (.selects "VowCourtModel" ⟨"VowCourtModel", "heal", "(I)V"⟩ ⟨"VowCourtModel", "heal", "(I)V"⟩ : Cond) ∈ TB := TB_mem (List.mem_of_getElem? (i := 1184) (by decide +kernel)) rfl
theorem w_1185 : (.code yX5_heal cX5_heal 3 none : Cond) ∈ TB := TB_mem (List.mem_of_getElem? (i := 1185) (by decide +kernel)) rfl
theorem w_1186 : (.methodLink "VowCourtModel" 154 ⟨"VowCourtModel", "isVow", "(I)Z"⟩ : Cond) ∈ TB := TB_mem (List.mem_of_getElem? (i := 1186) (by decide +kernel)) rfl
theorem w_1188 : (.instanceMethod ⟨"VowCourtModel", "isVow", "(I)Z"⟩ : Cond) ∈ TB := TB_mem (List.mem_of_getElem? (i := 1188) (by decide +kernel)) rfl
theorem w_1189 : (.code yX5_isVow cX5_isVow 2 (some .boolean) : Cond) ∈ TB := TB_mem (List.mem_of_getElem? (i := 1189) (by decide +kernel)) rfl
theorem w_1190 : (.methodLink "VowCourtModel" 157 ⟨"VowCourtModel", "hinderedBy", "(I)I"⟩ : Cond) ∈ TB := TB_mem (List.mem_of_getElem? (i := 1190) (by decide +kernel)) rfl
theorem w_1192 : (.instanceMethod ⟨"VowCourtModel", "hinderedBy", "(I)I"⟩ : Cond) ∈ TB := TB_mem (List.mem_of_getElem? (i := 1192) (by decide +kernel)) rfl
theorem w_1193 : (.code yX5_hinderedBy cX5_hinderedBy 4 (some .int) : Cond) ∈ TB := TB_mem (List.mem_of_getElem? (i := 1193) (by decide +kernel)) rfl
theorem w_1194 : (.methodLink "VowCourtModel" 148 ⟨"VowCourtModel", "isOf", "(II)Z"⟩ : Cond) ∈ TB := TB_mem (List.mem_of_getElem? (i := 1194) (by decide +kernel)) rfl
theorem w_1196 : (.instanceMethod ⟨"VowCourtModel", "isOf", "(II)Z"⟩ : Cond) ∈ TB := TB_mem (List.mem_of_getElem? (i := 1196) (by decide +kernel)) rfl
theorem w_1197 : (.code yX5_isOf cX5_isOf 3 (some .boolean) : Cond) ∈ TB := TB_mem (List.mem_of_getElem? (i := 1197) (by decide +kernel)) rfl
theorem w_1198 : (.methodLink "VowCourtModel" 151 ⟨"VowCourtModel", "binds", "(II)Z"⟩ : Cond) ∈ TB := TB_mem (List.mem_of_getElem? (i := 1198) (by decide +kernel)) rfl
theorem w_1200 : (.instanceMethod ⟨"VowCourtModel", "binds", "(II)Z"⟩ : Cond) ∈ TB := TB_mem (List.mem_of_getElem? (i := 1200) (by decide +kernel)) rfl
theorem w_1201 : (.code yX5_binds cX5_binds 3 (some .boolean) : Cond) ∈ TB := TB_mem (List.mem_of_getElem? (i := 1201) (by decide +kernel)) rfl
theorem w_1202 : (.methodLink "VowCourtLaw" 162 ⟨"VowCourtModel", "grace", "(I)V"⟩ : Cond) ∈ TB := TB_mem (List.mem_of_getElem? (i := 1202) (by decide +kernel)) rfl
theorem w_1203 : (.instanceMethod ⟨"VowCourtModel", "grace", "(I)V"⟩ : Cond) ∈ TB := TB_mem (List.mem_of_getElem? (i := 1203) (by decide +kernel)) rfl
theorem w_1204 : (.selects "VowCourtModel" ⟨"VowCourtModel", "grace", "(I)V"⟩ ⟨"VowCourtModel", "grace", "(I)V"⟩ : Cond) ∈ TB := TB_mem (List.mem_of_getElem? (i := 1204) (by decide +kernel)) rfl
theorem w_1205 : (.code yX5_grace cX5_grace 3 none : Cond) ∈ TB := TB_mem (List.mem_of_getElem? (i := 1205) (by decide +kernel)) rfl
theorem w_1206 : (.methodLink "VowCourtModel" 167 ⟨"VowCourtModel", "isQuiet", "(II)Z"⟩ : Cond) ∈ TB := TB_mem (List.mem_of_getElem? (i := 1206) (by decide +kernel)) rfl
theorem w_1208 : (.instanceMethod ⟨"VowCourtModel", "isQuiet", "(II)Z"⟩ : Cond) ∈ TB := TB_mem (List.mem_of_getElem? (i := 1208) (by decide +kernel)) rfl
theorem w_1209 : (.code yX5_isQuiet cX5_isQuiet 5 (some .boolean) : Cond) ∈ TB := TB_mem (List.mem_of_getElem? (i := 1209) (by decide +kernel)) rfl
theorem w_1210 : (.methodLink "VowCourtModel" 164 ⟨"VowCourtModel", "isOver", "(I)Z"⟩ : Cond) ∈ TB := TB_mem (List.mem_of_getElem? (i := 1210) (by decide +kernel)) rfl
theorem w_1211 : (.static ⟨"VowCourtModel", "isOver", "(I)Z"⟩ : Cond) ∈ TB := TB_mem (List.mem_of_getElem? (i := 1211) (by decide +kernel)) rfl
theorem w_1212 : (.code yX5_isOver cX5_isOver 1 (some .boolean) : Cond) ∈ TB := TB_mem (List.mem_of_getElem? (i := 1212) (by decide +kernel)) rfl
theorem w_1213 : (.methodLink "VowCourtLaw" 165 ⟨"VowCourtModel", "documents", "(I)I"⟩ : Cond) ∈ TB := TB_mem (List.mem_of_getElem? (i := 1213) (by decide +kernel)) rfl
theorem w_1214 : (.instanceMethod ⟨"VowCourtModel", "documents", "(I)I"⟩ : Cond) ∈ TB := TB_mem (List.mem_of_getElem? (i := 1214) (by decide +kernel)) rfl
theorem w_1215 : (.selects "VowCourtModel" ⟨"VowCourtModel", "documents", "(I)I"⟩ ⟨"VowCourtModel", "documents", "(I)I"⟩ : Cond) ∈ TB := TB_mem (List.mem_of_getElem? (i := 1215) (by decide +kernel)) rfl
theorem w_1216 : (.code yX5_documents cX5_documents 3 (some .int) : Cond) ∈ TB := TB_mem (List.mem_of_getElem? (i := 1216) (by decide +kernel)) rfl
theorem w_1217 : (.methodLink "VowCourtModel" 170 ⟨"VowCourtModel", "isTold", "(I)Z"⟩ : Cond) ∈ TB := TB_mem (List.mem_of_getElem? (i := 1217) (by decide +kernel)) rfl
theorem w_1219 : (.instanceMethod ⟨"VowCourtModel", "isTold", "(I)Z"⟩ : Cond) ∈ TB := TB_mem (List.mem_of_getElem? (i := 1219) (by decide +kernel)) rfl
theorem w_1220 : (.code yX5_isTold cX5_isTold 2 (some .boolean) : Cond) ∈ TB := TB_mem (List.mem_of_getElem? (i := 1220) (by decide +kernel)) rfl
theorem w_1221 : (.methodLink "VowCourtLaw" 169 ⟨"VowCourtModel", "cause", "(IIIZ)I"⟩ : Cond) ∈ TB := TB_mem (List.mem_of_getElem? (i := 1221) (by decide +kernel)) rfl
theorem w_1222 : (.instanceMethod ⟨"VowCourtModel", "cause", "(IIIZ)I"⟩ : Cond) ∈ TB := TB_mem (List.mem_of_getElem? (i := 1222) (by decide +kernel)) rfl
theorem w_1223 : (.selects "VowCourtModel" ⟨"VowCourtModel", "cause", "(IIIZ)I"⟩ ⟨"VowCourtModel", "cause", "(IIIZ)I"⟩ : Cond) ∈ TB := TB_mem (List.mem_of_getElem? (i := 1223) (by decide +kernel)) rfl
theorem w_1224 : (.code yX5_cause cX5_cause 8 (some .int) : Cond) ∈ TB := TB_mem (List.mem_of_getElem? (i := 1224) (by decide +kernel)) rfl
theorem w_1225 : (.methodLink "VowCourtModel" 173 ⟨"VowCourtModel", "isDoubt", "(I)Z"⟩ : Cond) ∈ TB := TB_mem (List.mem_of_getElem? (i := 1225) (by decide +kernel)) rfl
theorem w_1226 : (.static ⟨"VowCourtModel", "isDoubt", "(I)Z"⟩ : Cond) ∈ TB := TB_mem (List.mem_of_getElem? (i := 1226) (by decide +kernel)) rfl
theorem w_1227 : (.code yX5_isDoubt cX5_isDoubt 1 (some .boolean) : Cond) ∈ TB := TB_mem (List.mem_of_getElem? (i := 1227) (by decide +kernel)) rfl
theorem w_1228 : (.methodLink "VowCourtModel" 176 ⟨"VowCourtModel", "has", "(II)Z"⟩ : Cond) ∈ TB := TB_mem (List.mem_of_getElem? (i := 1228) (by decide +kernel)) rfl
theorem w_1230 : (.instanceMethod ⟨"VowCourtModel", "has", "(II)Z"⟩ : Cond) ∈ TB := TB_mem (List.mem_of_getElem? (i := 1230) (by decide +kernel)) rfl
theorem w_1231 : (.code yX5_has cX5_has 3 (some .boolean) : Cond) ∈ TB := TB_mem (List.mem_of_getElem? (i := 1231) (by decide +kernel)) rfl
theorem w_1232 : (.methodLink "VowCourtLaw" 172 ⟨"VowCourtModel", "doubt", "(II)I"⟩ : Cond) ∈ TB := TB_mem (List.mem_of_getElem? (i := 1232) (by decide +kernel)) rfl
theorem w_1233 : (.instanceMethod ⟨"VowCourtModel", "doubt", "(II)I"⟩ : Cond) ∈ TB := TB_mem (List.mem_of_getElem? (i := 1233) (by decide +kernel)) rfl
theorem w_1234 : (.selects "VowCourtModel" ⟨"VowCourtModel", "doubt", "(II)I"⟩ ⟨"VowCourtModel", "doubt", "(II)I"⟩ : Cond) ∈ TB := TB_mem (List.mem_of_getElem? (i := 1234) (by decide +kernel)) rfl
theorem w_1235 : (.code yX5_doubt cX5_doubt 4 (some .int) : Cond) ∈ TB := TB_mem (List.mem_of_getElem? (i := 1235) (by decide +kernel)) rfl
theorem w_1236 : (.methodLink "VowCourtModel" 179 ⟨"VowCourtModel", "isCause", "(I)Z"⟩ : Cond) ∈ TB := TB_mem (List.mem_of_getElem? (i := 1236) (by decide +kernel)) rfl
theorem w_1238 : (.instanceMethod ⟨"VowCourtModel", "isCause", "(I)Z"⟩ : Cond) ∈ TB := TB_mem (List.mem_of_getElem? (i := 1238) (by decide +kernel)) rfl
theorem w_1239 : (.code yX5_isCause cX5_isCause 2 (some .boolean) : Cond) ∈ TB := TB_mem (List.mem_of_getElem? (i := 1239) (by decide +kernel)) rfl
theorem w_1240 : (.methodLink "VowCourtLaw" 176 ⟨"VowCourtModel", "proof", "(III)I"⟩ : Cond) ∈ TB := TB_mem (List.mem_of_getElem? (i := 1240) (by decide +kernel)) rfl
theorem w_1241 : (.instanceMethod ⟨"VowCourtModel", "proof", "(III)I"⟩ : Cond) ∈ TB := TB_mem (List.mem_of_getElem? (i := 1241) (by decide +kernel)) rfl
theorem w_1242 : (.selects "VowCourtModel" ⟨"VowCourtModel", "proof", "(III)I"⟩ ⟨"VowCourtModel", "proof", "(III)I"⟩ : Cond) ∈ TB := TB_mem (List.mem_of_getElem? (i := 1242) (by decide +kernel)) rfl
theorem w_1243 : (.code yX5_proof cX5_proof 6 (some .int) : Cond) ∈ TB := TB_mem (List.mem_of_getElem? (i := 1243) (by decide +kernel)) rfl
theorem w_1244 : (.methodLink "VowCourtModel" 182 ⟨"VowCourtModel", "hasGround", "(II)Z"⟩ : Cond) ∈ TB := TB_mem (List.mem_of_getElem? (i := 1244) (by decide +kernel)) rfl
theorem w_1245 : (.static ⟨"VowCourtModel", "hasGround", "(II)Z"⟩ : Cond) ∈ TB := TB_mem (List.mem_of_getElem? (i := 1245) (by decide +kernel)) rfl
theorem w_1246 : (.code yX5_hasGround cX5_hasGround 2 (some .boolean) : Cond) ∈ TB := TB_mem (List.mem_of_getElem? (i := 1246) (by decide +kernel)) rfl
theorem w_1247 : (.methodLink "VowCourtLaw" 179 ⟨"VowCourtModel", "publish", "(I)I"⟩ : Cond) ∈ TB := TB_mem (List.mem_of_getElem? (i := 1247) (by decide +kernel)) rfl
theorem w_1248 : (.instanceMethod ⟨"VowCourtModel", "publish", "(I)I"⟩ : Cond) ∈ TB := TB_mem (List.mem_of_getElem? (i := 1248) (by decide +kernel)) rfl
theorem w_1249 : (.selects "VowCourtModel" ⟨"VowCourtModel", "publish", "(I)I"⟩ ⟨"VowCourtModel", "publish", "(I)I"⟩ : Cond) ∈ TB := TB_mem (List.mem_of_getElem? (i := 1249) (by decide +kernel)) rfl
theorem w_1250 : (.code yX5_publish cX5_publish 2 (some .int) : Cond) ∈ TB := TB_mem (List.mem_of_getElem? (i := 1250) (by decide +kernel)) rfl
theorem w_1251 : (.methodLink "VowCourtModel" 185 ⟨"VowCourtModel", "proven", "(I)I"⟩ : Cond) ∈ TB := TB_mem (List.mem_of_getElem? (i := 1251) (by decide +kernel)) rfl
theorem w_1253 : (.instanceMethod ⟨"VowCourtModel", "proven", "(I)I"⟩ : Cond) ∈ TB := TB_mem (List.mem_of_getElem? (i := 1253) (by decide +kernel)) rfl
theorem w_1254 : (.code yX5_proven cX5_proven 4 (some .int) : Cond) ∈ TB := TB_mem (List.mem_of_getElem? (i := 1254) (by decide +kernel)) rfl
theorem w_1255 : (.methodLink "VowCourtLaw" 182 ⟨"VowCourtModel", "vote", "(III)I"⟩ : Cond) ∈ TB := TB_mem (List.mem_of_getElem? (i := 1255) (by decide +kernel)) rfl
theorem w_1256 : (.instanceMethod ⟨"VowCourtModel", "vote", "(III)I"⟩ : Cond) ∈ TB := TB_mem (List.mem_of_getElem? (i := 1256) (by decide +kernel)) rfl
theorem w_1257 : (.selects "VowCourtModel" ⟨"VowCourtModel", "vote", "(III)I"⟩ ⟨"VowCourtModel", "vote", "(III)I"⟩ : Cond) ∈ TB := TB_mem (List.mem_of_getElem? (i := 1257) (by decide +kernel)) rfl
theorem w_1258 : (.code yX5_vote cX5_vote 7 (some .int) : Cond) ∈ TB := TB_mem (List.mem_of_getElem? (i := 1258) (by decide +kernel)) rfl
theorem w_1259 : (.methodLink "VowCourtLaw" 185 ⟨"VowCourtModel", "sentence", "(I)I"⟩ : Cond) ∈ TB := TB_mem (List.mem_of_getElem? (i := 1259) (by decide +kernel)) rfl
theorem w_1260 : (.instanceMethod ⟨"VowCourtModel", "sentence", "(I)I"⟩ : Cond) ∈ TB := TB_mem (List.mem_of_getElem? (i := 1260) (by decide +kernel)) rfl
theorem w_1261 : (.selects "VowCourtModel" ⟨"VowCourtModel", "sentence", "(I)I"⟩ ⟨"VowCourtModel", "sentence", "(I)I"⟩ : Cond) ∈ TB := TB_mem (List.mem_of_getElem? (i := 1261) (by decide +kernel)) rfl
theorem w_1262 : (.code yX5_sentence cX5_sentence 5 (some .int) : Cond) ∈ TB := TB_mem (List.mem_of_getElem? (i := 1262) (by decide +kernel)) rfl
theorem w_1263 : (.methodLink "VowCourtModel" 191 ⟨"VowCourtModel", "decides", "(IZ)V"⟩ : Cond) ∈ TB := TB_mem (List.mem_of_getElem? (i := 1263) (by decide +kernel)) rfl
theorem w_1265 : (.instanceMethod ⟨"VowCourtModel", "decides", "(IZ)V"⟩ : Cond) ∈ TB := TB_mem (List.mem_of_getElem? (i := 1265) (by decide +kernel)) rfl
theorem w_1266 : (.code yX5_decides cX5_decides 3 none : Cond) ∈ TB := TB_mem (List.mem_of_getElem? (i := 1266) (by decide +kernel)) rfl
theorem w_1267 : (.methodLink "VowCourtModel" 195 ⟨"VowCourtModel", "opens", "(II)V"⟩ : Cond) ∈ TB := TB_mem (List.mem_of_getElem? (i := 1267) (by decide +kernel)) rfl
theorem w_1269 : (.instanceMethod ⟨"VowCourtModel", "opens", "(II)V"⟩ : Cond) ∈ TB := TB_mem (List.mem_of_getElem? (i := 1269) (by decide +kernel)) rfl
theorem w_1270 : (.code yX5_opens cX5_opens 4 none : Cond) ∈ TB := TB_mem (List.mem_of_getElem? (i := 1270) (by decide +kernel)) rfl
theorem w_1271 : (.methodLink "VowCourtModel" 198 ⟨"VowCourtModel", "areLike", "(II)Z"⟩ : Cond) ∈ TB := TB_mem (List.mem_of_getElem? (i := 1271) (by decide +kernel)) rfl
theorem w_1272 : (.static ⟨"VowCourtModel", "areLike", "(II)Z"⟩ : Cond) ∈ TB := TB_mem (List.mem_of_getElem? (i := 1272) (by decide +kernel)) rfl
theorem w_1273 : (.code yX5_areLike cX5_areLike 2 (some .boolean) : Cond) ∈ TB := TB_mem (List.mem_of_getElem? (i := 1273) (by decide +kernel)) rfl
theorem w_1274 : (.methodLink "VowCourtModel" 188 ⟨"VowCourtModel", "effects", "(I)I"⟩ : Cond) ∈ TB := TB_mem (List.mem_of_getElem? (i := 1274) (by decide +kernel)) rfl
theorem w_1275 : (.static ⟨"VowCourtModel", "effects", "(I)I"⟩ : Cond) ∈ TB := TB_mem (List.mem_of_getElem? (i := 1275) (by decide +kernel)) rfl
theorem w_1276 : (.code yX5_effects cX5_effects 1 (some .int) : Cond) ∈ TB := TB_mem (List.mem_of_getElem? (i := 1276) (by decide +kernel)) rfl
theorem w_1277 : (.methodLink "VowCourtLaw" 188 ⟨"VowCourtModel", "appeal", "(I)V"⟩ : Cond) ∈ TB := TB_mem (List.mem_of_getElem? (i := 1277) (by decide +kernel)) rfl
theorem w_1278 : (.instanceMethod ⟨"VowCourtModel", "appeal", "(I)V"⟩ : Cond) ∈ TB := TB_mem (List.mem_of_getElem? (i := 1278) (by decide +kernel)) rfl
theorem w_1279 : (.selects "VowCourtModel" ⟨"VowCourtModel", "appeal", "(I)V"⟩ ⟨"VowCourtModel", "appeal", "(I)V"⟩ : Cond) ∈ TB := TB_mem (List.mem_of_getElem? (i := 1279) (by decide +kernel)) rfl
theorem w_1280 : (.code yX5_appeal cX5_appeal 3 none : Cond) ∈ TB := TB_mem (List.mem_of_getElem? (i := 1280) (by decide +kernel)) rfl
theorem w_1281 : (.methodLink "VowCourtLaw" 191 ⟨"VowCourtModel", "pass", "(I)I"⟩ : Cond) ∈ TB := TB_mem (List.mem_of_getElem? (i := 1281) (by decide +kernel)) rfl
theorem w_1282 : (.instanceMethod ⟨"VowCourtModel", "pass", "(I)I"⟩ : Cond) ∈ TB := TB_mem (List.mem_of_getElem? (i := 1282) (by decide +kernel)) rfl
theorem w_1283 : (.selects "VowCourtModel" ⟨"VowCourtModel", "pass", "(I)I"⟩ ⟨"VowCourtModel", "pass", "(I)I"⟩ : Cond) ∈ TB := TB_mem (List.mem_of_getElem? (i := 1283) (by decide +kernel)) rfl
theorem w_1284 : (.code yX5_pass cX5_pass 2 (some .int) : Cond) ∈ TB := TB_mem (List.mem_of_getElem? (i := 1284) (by decide +kernel)) rfl
theorem w_1285 : (.methodLink "VowCourtLaw" 194 ⟨"VowCourtModel", "kin", "(II)I"⟩ : Cond) ∈ TB := TB_mem (List.mem_of_getElem? (i := 1285) (by decide +kernel)) rfl
theorem w_1286 : (.instanceMethod ⟨"VowCourtModel", "kin", "(II)I"⟩ : Cond) ∈ TB := TB_mem (List.mem_of_getElem? (i := 1286) (by decide +kernel)) rfl
theorem w_1287 : (.selects "VowCourtModel" ⟨"VowCourtModel", "kin", "(II)I"⟩ ⟨"VowCourtModel", "kin", "(II)I"⟩ : Cond) ∈ TB := TB_mem (List.mem_of_getElem? (i := 1287) (by decide +kernel)) rfl
theorem w_1288 : (.code yX5_kin cX5_kin 3 (some .int) : Cond) ∈ TB := TB_mem (List.mem_of_getElem? (i := 1288) (by decide +kernel)) rfl
theorem w_1289 : (.methodLink "VowCourtLaw" 197 ⟨"VowCourtModel", "ancestor", "(II)I"⟩ : Cond) ∈ TB := TB_mem (List.mem_of_getElem? (i := 1289) (by decide +kernel)) rfl
theorem w_1290 : (.instanceMethod ⟨"VowCourtModel", "ancestor", "(II)I"⟩ : Cond) ∈ TB := TB_mem (List.mem_of_getElem? (i := 1290) (by decide +kernel)) rfl
theorem w_1291 : (.selects "VowCourtModel" ⟨"VowCourtModel", "ancestor", "(II)I"⟩ ⟨"VowCourtModel", "ancestor", "(II)I"⟩ : Cond) ∈ TB := TB_mem (List.mem_of_getElem? (i := 1291) (by decide +kernel)) rfl
theorem w_1292 : (.code yX5_ancestor cX5_ancestor 6 (some .int) : Cond) ∈ TB := TB_mem (List.mem_of_getElem? (i := 1292) (by decide +kernel)) rfl
theorem w_1293 : (.methodLink "VowCourtLaw" 200 ⟨"VowCourtModel", "hindered", "(I)I"⟩ : Cond) ∈ TB := TB_mem (List.mem_of_getElem? (i := 1293) (by decide +kernel)) rfl
theorem w_1294 : (.instanceMethod ⟨"VowCourtModel", "hindered", "(I)I"⟩ : Cond) ∈ TB := TB_mem (List.mem_of_getElem? (i := 1294) (by decide +kernel)) rfl
theorem w_1295 : (.selects "VowCourtModel" ⟨"VowCourtModel", "hindered", "(I)I"⟩ ⟨"VowCourtModel", "hindered", "(I)I"⟩ : Cond) ∈ TB := TB_mem (List.mem_of_getElem? (i := 1295) (by decide +kernel)) rfl
theorem w_1296 : (.code yX5_hindered cX5_hindered 2 (some .int) : Cond) ∈ TB := TB_mem (List.mem_of_getElem? (i := 1296) (by decide +kernel)) rfl
theorem w_1297 : (.methodLink "VowCourtLaw" 203 ⟨"VowCourtModel", "vowOf", "(II)I"⟩ : Cond) ∈ TB := TB_mem (List.mem_of_getElem? (i := 1297) (by decide +kernel)) rfl
theorem w_1298 : (.instanceMethod ⟨"VowCourtModel", "vowOf", "(II)I"⟩ : Cond) ∈ TB := TB_mem (List.mem_of_getElem? (i := 1298) (by decide +kernel)) rfl
theorem w_1299 : (.selects "VowCourtModel" ⟨"VowCourtModel", "vowOf", "(II)I"⟩ ⟨"VowCourtModel", "vowOf", "(II)I"⟩ : Cond) ∈ TB := TB_mem (List.mem_of_getElem? (i := 1299) (by decide +kernel)) rfl
theorem w_1300 : (.code yX5_vowOf cX5_vowOf 3 (some .int) : Cond) ∈ TB := TB_mem (List.mem_of_getElem? (i := 1300) (by decide +kernel)) rfl
theorem w_1301 : (.methodLink "VowCourtLaw" 206 ⟨"VowCourtModel", "bound", "(II)I"⟩ : Cond) ∈ TB := TB_mem (List.mem_of_getElem? (i := 1301) (by decide +kernel)) rfl
theorem w_1302 : (.instanceMethod ⟨"VowCourtModel", "bound", "(II)I"⟩ : Cond) ∈ TB := TB_mem (List.mem_of_getElem? (i := 1302) (by decide +kernel)) rfl
theorem w_1303 : (.selects "VowCourtModel" ⟨"VowCourtModel", "bound", "(II)I"⟩ ⟨"VowCourtModel", "bound", "(II)I"⟩ : Cond) ∈ TB := TB_mem (List.mem_of_getElem? (i := 1303) (by decide +kernel)) rfl
theorem w_1304 : (.code yX5_bound cX5_bound 3 (some .int) : Cond) ∈ TB := TB_mem (List.mem_of_getElem? (i := 1304) (by decide +kernel)) rfl
theorem w_1305 : (.constant "VowCourtModel" 201 (1000000) : Cond) ∈ TB := TB_mem (List.mem_of_getElem? (i := 1305) (by decide +kernel)) rfl
theorem w_1306 : (.methodLink "VowCourtModel" 202 ⟨"VowCourtModel", "boundBy", "(II)I"⟩ : Cond) ∈ TB := TB_mem (List.mem_of_getElem? (i := 1306) (by decide +kernel)) rfl
theorem w_1308 : (.instanceMethod ⟨"VowCourtModel", "boundBy", "(II)I"⟩ : Cond) ∈ TB := TB_mem (List.mem_of_getElem? (i := 1308) (by decide +kernel)) rfl
theorem w_1309 : (.code yX5_boundBy cX5_boundBy 5 (some .int) : Cond) ∈ TB := TB_mem (List.mem_of_getElem? (i := 1309) (by decide +kernel)) rfl
theorem w_1310 : (.methodLink "VowCourtLaw" 209 ⟨"VowCourtModel", "hasCause", "(II)Z"⟩ : Cond) ∈ TB := TB_mem (List.mem_of_getElem? (i := 1310) (by decide +kernel)) rfl
theorem w_1311 : (.instanceMethod ⟨"VowCourtModel", "hasCause", "(II)Z"⟩ : Cond) ∈ TB := TB_mem (List.mem_of_getElem? (i := 1311) (by decide +kernel)) rfl
theorem w_1312 : (.selects "VowCourtModel" ⟨"VowCourtModel", "hasCause", "(II)Z"⟩ ⟨"VowCourtModel", "hasCause", "(II)Z"⟩ : Cond) ∈ TB := TB_mem (List.mem_of_getElem? (i := 1312) (by decide +kernel)) rfl
theorem w_1313 : (.code yX5_hasCause cX5_hasCause 3 (some .boolean) : Cond) ∈ TB := TB_mem (List.mem_of_getElem? (i := 1313) (by decide +kernel)) rfl
theorem w_1314 : (.methodLink "VowCourtLaw" 212 ⟨"VowCourtModel", "causeOf", "(II)I"⟩ : Cond) ∈ TB := TB_mem (List.mem_of_getElem? (i := 1314) (by decide +kernel)) rfl
theorem w_1315 : (.instanceMethod ⟨"VowCourtModel", "causeOf", "(II)I"⟩ : Cond) ∈ TB := TB_mem (List.mem_of_getElem? (i := 1315) (by decide +kernel)) rfl
theorem w_1316 : (.selects "VowCourtModel" ⟨"VowCourtModel", "causeOf", "(II)I"⟩ ⟨"VowCourtModel", "causeOf", "(II)I"⟩ : Cond) ∈ TB := TB_mem (List.mem_of_getElem? (i := 1316) (by decide +kernel)) rfl
theorem w_1317 : (.code yX5_causeOf cX5_causeOf 3 (some .int) : Cond) ∈ TB := TB_mem (List.mem_of_getElem? (i := 1317) (by decide +kernel)) rfl
theorem w_1318 : (.methodLink "VowCourtLaw" 215 ⟨"VowCourtModel", "state", "(III)C"⟩ : Cond) ∈ TB := TB_mem (List.mem_of_getElem? (i := 1318) (by decide +kernel)) rfl
theorem w_1319 : (.instanceMethod ⟨"VowCourtModel", "state", "(III)C"⟩ : Cond) ∈ TB := TB_mem (List.mem_of_getElem? (i := 1319) (by decide +kernel)) rfl
theorem w_1320 : (.selects "VowCourtModel" ⟨"VowCourtModel", "state", "(III)C"⟩ ⟨"VowCourtModel", "state", "(III)C"⟩ : Cond) ∈ TB := TB_mem (List.mem_of_getElem? (i := 1320) (by decide +kernel)) rfl
theorem w_1321 : (.code yX5_state cX5_state 4 (some .char) : Cond) ∈ TB := TB_mem (List.mem_of_getElem? (i := 1321) (by decide +kernel)) rfl
theorem w_1322 : (.methodLink "VowCourtModel" 215 ⟨"VowCourtModel", "writes", "(II)V"⟩ : Cond) ∈ TB := TB_mem (List.mem_of_getElem? (i := 1322) (by decide +kernel)) rfl
theorem w_1324 : (.instanceMethod ⟨"VowCourtModel", "writes", "(II)V"⟩ : Cond) ∈ TB := TB_mem (List.mem_of_getElem? (i := 1324) (by decide +kernel)) rfl
theorem w_1325 : (.code yX5_writes cX5_writes 4 none : Cond) ∈ TB := TB_mem (List.mem_of_getElem? (i := 1325) (by decide +kernel)) rfl
theorem w_1326 : (.methodLink "VowCourtModel" 208 ⟨"VowCourtModel", "puts", "(I)V"⟩ : Cond) ∈ TB := TB_mem (List.mem_of_getElem? (i := 1326) (by decide +kernel)) rfl
theorem w_1328 : (.instanceMethod ⟨"VowCourtModel", "puts", "(I)V"⟩ : Cond) ∈ TB := TB_mem (List.mem_of_getElem? (i := 1328) (by decide +kernel)) rfl
theorem w_1329 : (.code yX5_puts cX5_puts 2 none : Cond) ∈ TB := TB_mem (List.mem_of_getElem? (i := 1329) (by decide +kernel)) rfl
theorem w_1330 : (.methodLink "VowCourtModel" 212 ⟨"VowCourtModel", "putsNumber", "(I)V"⟩ : Cond) ∈ TB := TB_mem (List.mem_of_getElem? (i := 1330) (by decide +kernel)) rfl
theorem w_1332 : (.instanceMethod ⟨"VowCourtModel", "putsNumber", "(I)V"⟩ : Cond) ∈ TB := TB_mem (List.mem_of_getElem? (i := 1332) (by decide +kernel)) rfl
theorem w_1333 : (.code yX5_putsNumber cX5_putsNumber 2 none : Cond) ∈ TB := TB_mem (List.mem_of_getElem? (i := 1333) (by decide +kernel)) rfl
theorem w_1360 : (.selects "[Ljava/lang/Object;" ⟨"java/lang/Object", "getClass", "()Ljava/lang/Class;"⟩ ⟨"java/lang/Object", "getClass", "()Ljava/lang/Class;"⟩ : Cond) ∈ TB := TB_mem (List.mem_of_getElem? (i := 1360) (by decide +kernel)) rfl
theorem w_1368 : (.fieldLink "java/lang/String" 9 "java/lang/String" "value" "[B" : Cond) ∈ TB := TB_mem (List.mem_of_getElem? (i := 1368) (by decide +kernel)) rfl
theorem w_1369 : (.fieldLink "java/lang/String" 15 "java/lang/String" "coder" "B" : Cond) ∈ TB := TB_mem (List.mem_of_getElem? (i := 1369) (by decide +kernel)) rfl
