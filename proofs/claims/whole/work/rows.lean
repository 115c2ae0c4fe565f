section
-- ===== PART A: goes FIRST, ahead of the names: the tables' words, and 'selects' of the private methods out of them =====
/-- a private method of a class that the tables say can be made, by its rows of tables_1 -/
def lw_okq (q : MethodName × Nat) : Prop := (q.1.cls ≠ "java/lang/invoke/MethodHandle" ∧ q.1.cls ≠ "java/lang/invoke/VarHandle") ∧ Cond.instantiable q.1.cls q.2 ∈ tables_1 ∧ Cond.privateMethod q.1 ∈ tables_1 ∧ Cond.instanceMethod q.1 ∈ tables_1
theorem lw_p0 : lw_okq (⟨"VowCourt", "isPerson", "(I)Z"⟩, 8) := ⟨⟨by decide +kernel, by decide +kernel⟩, List.mem_of_getElem? (i := 30) (by decide +kernel), List.mem_of_getElem? (i := 117) (by decide +kernel), List.mem_of_getElem? (i := 118) (by decide +kernel)⟩
theorem lw_p1 : lw_okq (⟨"java/lang/Throwable", "fillInStackTrace", "(I)Ljava/lang/Throwable;"⟩, 6) := ⟨⟨by decide +kernel, by decide +kernel⟩, List.mem_of_getElem? (i := 166) (by decide +kernel), List.mem_of_getElem? (i := 164) (by decide +kernel), List.mem_of_getElem? (i := 165) (by decide +kernel)⟩
theorem lw_p2 : lw_okq (⟨"java/util/ArrayList", "add", "(Ljava/lang/Object;[Ljava/lang/Object;I)V"⟩, 3) := ⟨⟨by decide +kernel, by decide +kernel⟩, List.mem_of_getElem? (i := 38) (by decide +kernel), List.mem_of_getElem? (i := 284) (by decide +kernel), List.mem_of_getElem? (i := 285) (by decide +kernel)⟩
theorem lw_p3 : lw_okq (⟨"java/util/ArrayList", "grow", "()[Ljava/lang/Object;"⟩, 3) := ⟨⟨by decide +kernel, by decide +kernel⟩, List.mem_of_getElem? (i := 38) (by decide +kernel), List.mem_of_getElem? (i := 288) (by decide +kernel), List.mem_of_getElem? (i := 289) (by decide +kernel)⟩
theorem lw_p4 : lw_okq (⟨"java/util/ArrayList", "grow", "(I)[Ljava/lang/Object;"⟩, 3) := ⟨⟨by decide +kernel, by decide +kernel⟩, List.mem_of_getElem? (i := 38) (by decide +kernel), List.mem_of_getElem? (i := 292) (by decide +kernel), List.mem_of_getElem? (i := 293) (by decide +kernel)⟩
theorem lw_p5 : lw_okq (⟨"VowCourt", "personAt", "(I)LVowCourt$Person;"⟩, 8) := ⟨⟨by decide +kernel, by decide +kernel⟩, List.mem_of_getElem? (i := 30) (by decide +kernel), List.mem_of_getElem? (i := 343) (by decide +kernel), List.mem_of_getElem? (i := 344) (by decide +kernel)⟩
theorem lw_p6 : lw_okq (⟨"VowCourt", "endVowsOf", "(I)I"⟩, 8) := ⟨⟨by decide +kernel, by decide +kernel⟩, List.mem_of_getElem? (i := 30) (by decide +kernel), List.mem_of_getElem? (i := 389) (by decide +kernel), List.mem_of_getElem? (i := 390) (by decide +kernel)⟩
theorem lw_p7 : lw_okq (⟨"VowCourt", "lastingHindrances", "(II)I"⟩, 8) := ⟨⟨by decide +kernel, by decide +kernel⟩, List.mem_of_getElem? (i := 30) (by decide +kernel), List.mem_of_getElem? (i := 409) (by decide +kernel), List.mem_of_getElem? (i := 410) (by decide +kernel)⟩
theorem lw_p8 : lw_okq (⟨"VowCourt", "ageOfYounger", "(II)I"⟩, 8) := ⟨⟨by decide +kernel, by decide +kernel⟩, List.mem_of_getElem? (i := 30) (by decide +kernel), List.mem_of_getElem? (i := 413) (by decide +kernel), List.mem_of_getElem? (i := 414) (by decide +kernel)⟩
theorem lw_p9 : lw_okq (⟨"VowCourt", "canBeDispensed", "(III)Z"⟩, 8) := ⟨⟨by decide +kernel, by decide +kernel⟩, List.mem_of_getElem? (i := 30) (by decide +kernel), List.mem_of_getElem? (i := 427) (by decide +kernel), List.mem_of_getElem? (i := 428) (by decide +kernel)⟩
theorem lw_p10 : lw_okq (⟨"VowCourt", "vowAt", "(I)LVowCourt$Vow;"⟩, 8) := ⟨⟨by decide +kernel, by decide +kernel⟩, List.mem_of_getElem? (i := 30) (by decide +kernel), List.mem_of_getElem? (i := 504) (by decide +kernel), List.mem_of_getElem? (i := 505) (by decide +kernel)⟩
theorem lw_p11 : lw_okq (⟨"VowCourt", "hindrances", "(I)I"⟩, 8) := ⟨⟨by decide +kernel, by decide +kernel⟩, List.mem_of_getElem? (i := 30) (by decide +kernel), List.mem_of_getElem? (i := 508) (by decide +kernel), List.mem_of_getElem? (i := 509) (by decide +kernel)⟩
theorem lw_p12 : lw_okq (⟨"VowCourt", "lowestBond", "(III)I"⟩, 8) := ⟨⟨by decide +kernel, by decide +kernel⟩, List.mem_of_getElem? (i := 30) (by decide +kernel), List.mem_of_getElem? (i := 512) (by decide +kernel), List.mem_of_getElem? (i := 513) (by decide +kernel)⟩
theorem lw_p13 : lw_okq (⟨"VowCourt", "isInCourt", "(I)Z"⟩, 8) := ⟨⟨by decide +kernel, by decide +kernel⟩, List.mem_of_getElem? (i := 30) (by decide +kernel), List.mem_of_getElem? (i := 527) (by decide +kernel), List.mem_of_getElem? (i := 528) (by decide +kernel)⟩
theorem lw_p14 : lw_okq (⟨"VowCourt", "mayBeJudged", "(I)Z"⟩, 8) := ⟨⟨by decide +kernel, by decide +kernel⟩, List.mem_of_getElem? (i := 30) (by decide +kernel), List.mem_of_getElem? (i := 543) (by decide +kernel), List.mem_of_getElem? (i := 544) (by decide +kernel)⟩
theorem lw_p15 : lw_okq (⟨"VowCourt", "isCourtOf", "(LVowCourt$Vow;I)Z"⟩, 8) := ⟨⟨by decide +kernel, by decide +kernel⟩, List.mem_of_getElem? (i := 30) (by decide +kernel), List.mem_of_getElem? (i := 557) (by decide +kernel), List.mem_of_getElem? (i := 558) (by decide +kernel)⟩
def lw_privs_1 : List (MethodName × Nat) := [(⟨"VowCourt", "isPerson", "(I)Z"⟩, 8), (⟨"java/lang/Throwable", "fillInStackTrace", "(I)Ljava/lang/Throwable;"⟩, 6), (⟨"java/util/ArrayList", "add", "(Ljava/lang/Object;[Ljava/lang/Object;I)V"⟩, 3), (⟨"java/util/ArrayList", "grow", "()[Ljava/lang/Object;"⟩, 3), (⟨"java/util/ArrayList", "grow", "(I)[Ljava/lang/Object;"⟩, 3), (⟨"VowCourt", "personAt", "(I)LVowCourt$Person;"⟩, 8), (⟨"VowCourt", "endVowsOf", "(I)I"⟩, 8), (⟨"VowCourt", "lastingHindrances", "(II)I"⟩, 8), (⟨"VowCourt", "ageOfYounger", "(II)I"⟩, 8), (⟨"VowCourt", "canBeDispensed", "(III)Z"⟩, 8), (⟨"VowCourt", "vowAt", "(I)LVowCourt$Vow;"⟩, 8), (⟨"VowCourt", "hindrances", "(I)I"⟩, 8), (⟨"VowCourt", "lowestBond", "(III)I"⟩, 8), (⟨"VowCourt", "isInCourt", "(I)Z"⟩, 8), (⟨"VowCourt", "mayBeJudged", "(I)Z"⟩, 8), (⟨"VowCourt", "isCourtOf", "(LVowCourt$Vow;I)Z"⟩, 8)]
theorem lw_r1 : ∀ q ∈ lw_privs_1, lw_okq q := List.forall_mem_cons.mpr ⟨lw_p0, List.forall_mem_cons.mpr ⟨lw_p1, List.forall_mem_cons.mpr ⟨lw_p2, List.forall_mem_cons.mpr ⟨lw_p3, List.forall_mem_cons.mpr ⟨lw_p4, List.forall_mem_cons.mpr ⟨lw_p5, List.forall_mem_cons.mpr ⟨lw_p6, List.forall_mem_cons.mpr ⟨lw_p7, List.forall_mem_cons.mpr ⟨lw_p8, List.forall_mem_cons.mpr ⟨lw_p9, List.forall_mem_cons.mpr ⟨lw_p10, List.forall_mem_cons.mpr ⟨lw_p11, List.forall_mem_cons.mpr ⟨lw_p12, List.forall_mem_cons.mpr ⟨lw_p13, List.forall_mem_cons.mpr ⟨lw_p14, List.forall_mem_cons.mpr ⟨lw_p15, fun _ h => absurd h List.not_mem_nil⟩⟩⟩⟩⟩⟩⟩⟩⟩⟩⟩⟩⟩⟩⟩⟩
theorem lw_p16 : lw_okq (⟨"VowCourt", "livesAt", "(II)Z"⟩, 8) := ⟨⟨by decide +kernel, by decide +kernel⟩, List.mem_of_getElem? (i := 30) (by decide +kernel), List.mem_of_getElem? (i := 561) (by decide +kernel), List.mem_of_getElem? (i := 562) (by decide +kernel)⟩
theorem lw_p17 : lw_okq (⟨"VowCourt", "causeAt", "(I)LVowCourt$Cause;"⟩, 8) := ⟨⟨by decide +kernel, by decide +kernel⟩, List.mem_of_getElem? (i := 30) (by decide +kernel), List.mem_of_getElem? (i := 607) (by decide +kernel), List.mem_of_getElem? (i := 608) (by decide +kernel)⟩
theorem lw_p18 : lw_okq (⟨"VowCourt", "describe", "(II)Ljava/lang/StringBuilder;"⟩, 8) := ⟨⟨by decide +kernel, by decide +kernel⟩, List.mem_of_getElem? (i := 30) (by decide +kernel), List.mem_of_getElem? (i := 753) (by decide +kernel), List.mem_of_getElem? (i := 754) (by decide +kernel)⟩
theorem lw_p19 : lw_okq (⟨"VowCourtModel", "isPerson", "(I)Z"⟩, 33) := ⟨⟨by decide +kernel, by decide +kernel⟩, List.mem_of_getElem? (i := 946) (by decide +kernel), List.mem_of_getElem? (i := 1060) (by decide +kernel), List.mem_of_getElem? (i := 1061) (by decide +kernel)⟩
theorem lw_p20 : lw_okq (⟨"VowCourtModel", "fails", "(I)Z"⟩, 33) := ⟨⟨by decide +kernel, by decide +kernel⟩, List.mem_of_getElem? (i := 946) (by decide +kernel), List.mem_of_getElem? (i := 1071) (by decide +kernel), List.mem_of_getElem? (i := 1072) (by decide +kernel)⟩
theorem lw_p21 : lw_okq (⟨"VowCourtModel", "ends", "(II)V"⟩, 33) := ⟨⟨by decide +kernel, by decide +kernel⟩, List.mem_of_getElem? (i := 946) (by decide +kernel), List.mem_of_getElem? (i := 1095) (by decide +kernel), List.mem_of_getElem? (i := 1096) (by decide +kernel)⟩
theorem lw_p22 : lw_okq (⟨"VowCourtModel", "canDispense", "(III)Z"⟩, 33) := ⟨⟨by decide +kernel, by decide +kernel⟩, List.mem_of_getElem? (i := 946) (by decide +kernel), List.mem_of_getElem? (i := 1103) (by decide +kernel), List.mem_of_getElem? (i := 1104) (by decide +kernel)⟩
theorem lw_p23 : lw_okq (⟨"VowCourtModel", "hinders", "(II)I"⟩, 33) := ⟨⟨by decide +kernel, by decide +kernel⟩, List.mem_of_getElem? (i := 946) (by decide +kernel), List.mem_of_getElem? (i := 1107) (by decide +kernel), List.mem_of_getElem? (i := 1108) (by decide +kernel)⟩
theorem lw_p24 : lw_okq (⟨"VowCourtModel", "isYoung", "(III)Z"⟩, 33) := ⟨⟨by decide +kernel, by decide +kernel⟩, List.mem_of_getElem? (i := 946) (by decide +kernel), List.mem_of_getElem? (i := 1111) (by decide +kernel), List.mem_of_getElem? (i := 1112) (by decide +kernel)⟩
theorem lw_p25 : lw_okq (⟨"VowCourtModel", "areKin", "(II)Z"⟩, 33) := ⟨⟨by decide +kernel, by decide +kernel⟩, List.mem_of_getElem? (i := 946) (by decide +kernel), List.mem_of_getElem? (i := 1115) (by decide +kernel), List.mem_of_getElem? (i := 1116) (by decide +kernel)⟩
theorem lw_p26 : lw_okq (⟨"VowCourtModel", "kinOf", "(II)I"⟩, 33) := ⟨⟨by decide +kernel, by decide +kernel⟩, List.mem_of_getElem? (i := 946) (by decide +kernel), List.mem_of_getElem? (i := 1119) (by decide +kernel), List.mem_of_getElem? (i := 1120) (by decide +kernel)⟩
theorem lw_p27 : lw_okq (⟨"VowCourtModel", "isVow", "(I)Z"⟩, 33) := ⟨⟨by decide +kernel, by decide +kernel⟩, List.mem_of_getElem? (i := 946) (by decide +kernel), List.mem_of_getElem? (i := 1145) (by decide +kernel), List.mem_of_getElem? (i := 1146) (by decide +kernel)⟩
theorem lw_p28 : lw_okq (⟨"VowCourtModel", "hinderedBy", "(I)I"⟩, 33) := ⟨⟨by decide +kernel, by decide +kernel⟩, List.mem_of_getElem? (i := 946) (by decide +kernel), List.mem_of_getElem? (i := 1149) (by decide +kernel), List.mem_of_getElem? (i := 1150) (by decide +kernel)⟩
theorem lw_p29 : lw_okq (⟨"VowCourtModel", "isOf", "(II)Z"⟩, 33) := ⟨⟨by decide +kernel, by decide +kernel⟩, List.mem_of_getElem? (i := 946) (by decide +kernel), List.mem_of_getElem? (i := 1153) (by decide +kernel), List.mem_of_getElem? (i := 1154) (by decide +kernel)⟩
theorem lw_p30 : lw_okq (⟨"VowCourtModel", "binds", "(II)Z"⟩, 33) := ⟨⟨by decide +kernel, by decide +kernel⟩, List.mem_of_getElem? (i := 946) (by decide +kernel), List.mem_of_getElem? (i := 1157) (by decide +kernel), List.mem_of_getElem? (i := 1158) (by decide +kernel)⟩
theorem lw_p31 : lw_okq (⟨"VowCourtModel", "isQuiet", "(II)Z"⟩, 33) := ⟨⟨by decide +kernel, by decide +kernel⟩, List.mem_of_getElem? (i := 946) (by decide +kernel), List.mem_of_getElem? (i := 1165) (by decide +kernel), List.mem_of_getElem? (i := 1166) (by decide +kernel)⟩
def lw_privs_2 : List (MethodName × Nat) := [(⟨"VowCourt", "livesAt", "(II)Z"⟩, 8), (⟨"VowCourt", "causeAt", "(I)LVowCourt$Cause;"⟩, 8), (⟨"VowCourt", "describe", "(II)Ljava/lang/StringBuilder;"⟩, 8), (⟨"VowCourtModel", "isPerson", "(I)Z"⟩, 33), (⟨"VowCourtModel", "fails", "(I)Z"⟩, 33), (⟨"VowCourtModel", "ends", "(II)V"⟩, 33), (⟨"VowCourtModel", "canDispense", "(III)Z"⟩, 33), (⟨"VowCourtModel", "hinders", "(II)I"⟩, 33), (⟨"VowCourtModel", "isYoung", "(III)Z"⟩, 33), (⟨"VowCourtModel", "areKin", "(II)Z"⟩, 33), (⟨"VowCourtModel", "kinOf", "(II)I"⟩, 33), (⟨"VowCourtModel", "isVow", "(I)Z"⟩, 33), (⟨"VowCourtModel", "hinderedBy", "(I)I"⟩, 33), (⟨"VowCourtModel", "isOf", "(II)Z"⟩, 33), (⟨"VowCourtModel", "binds", "(II)Z"⟩, 33), (⟨"VowCourtModel", "isQuiet", "(II)Z"⟩, 33)]
theorem lw_r2 : ∀ q ∈ lw_privs_2, lw_okq q := List.forall_mem_cons.mpr ⟨lw_p16, List.forall_mem_cons.mpr ⟨lw_p17, List.forall_mem_cons.mpr ⟨lw_p18, List.forall_mem_cons.mpr ⟨lw_p19, List.forall_mem_cons.mpr ⟨lw_p20, List.forall_mem_cons.mpr ⟨lw_p21, List.forall_mem_cons.mpr ⟨lw_p22, List.forall_mem_cons.mpr ⟨lw_p23, List.forall_mem_cons.mpr ⟨lw_p24, List.forall_mem_cons.mpr ⟨lw_p25, List.forall_mem_cons.mpr ⟨lw_p26, List.forall_mem_cons.mpr ⟨lw_p27, List.forall_mem_cons.mpr ⟨lw_p28, List.forall_mem_cons.mpr ⟨lw_p29, List.forall_mem_cons.mpr ⟨lw_p30, List.forall_mem_cons.mpr ⟨lw_p31, fun _ h => absurd h List.not_mem_nil⟩⟩⟩⟩⟩⟩⟩⟩⟩⟩⟩⟩⟩⟩⟩⟩
theorem lw_p32 : lw_okq (⟨"VowCourtModel", "isTold", "(I)Z"⟩, 33) := ⟨⟨by decide +kernel, by decide +kernel⟩, List.mem_of_getElem? (i := 946) (by decide +kernel), List.mem_of_getElem? (i := 1176) (by decide +kernel), List.mem_of_getElem? (i := 1177) (by decide +kernel)⟩
theorem lw_p33 : lw_okq (⟨"VowCourtModel", "has", "(II)Z"⟩, 33) := ⟨⟨by decide +kernel, by decide +kernel⟩, List.mem_of_getElem? (i := 946) (by decide +kernel), List.mem_of_getElem? (i := 1187) (by decide +kernel), List.mem_of_getElem? (i := 1188) (by decide +kernel)⟩
theorem lw_p34 : lw_okq (⟨"VowCourtModel", "isCause", "(I)Z"⟩, 33) := ⟨⟨by decide +kernel, by decide +kernel⟩, List.mem_of_getElem? (i := 946) (by decide +kernel), List.mem_of_getElem? (i := 1195) (by decide +kernel), List.mem_of_getElem? (i := 1196) (by decide +kernel)⟩
theorem lw_p35 : lw_okq (⟨"VowCourtModel", "proven", "(I)I"⟩, 33) := ⟨⟨by decide +kernel, by decide +kernel⟩, List.mem_of_getElem? (i := 946) (by decide +kernel), List.mem_of_getElem? (i := 1210) (by decide +kernel), List.mem_of_getElem? (i := 1211) (by decide +kernel)⟩
theorem lw_p36 : lw_okq (⟨"VowCourtModel", "decides", "(IZ)V"⟩, 33) := ⟨⟨by decide +kernel, by decide +kernel⟩, List.mem_of_getElem? (i := 946) (by decide +kernel), List.mem_of_getElem? (i := 1222) (by decide +kernel), List.mem_of_getElem? (i := 1223) (by decide +kernel)⟩
theorem lw_p37 : lw_okq (⟨"VowCourtModel", "opens", "(II)V"⟩, 33) := ⟨⟨by decide +kernel, by decide +kernel⟩, List.mem_of_getElem? (i := 946) (by decide +kernel), List.mem_of_getElem? (i := 1226) (by decide +kernel), List.mem_of_getElem? (i := 1227) (by decide +kernel)⟩
theorem lw_p38 : lw_okq (⟨"VowCourtModel", "boundBy", "(II)I"⟩, 33) := ⟨⟨by decide +kernel, by decide +kernel⟩, List.mem_of_getElem? (i := 946) (by decide +kernel), List.mem_of_getElem? (i := 1265) (by decide +kernel), List.mem_of_getElem? (i := 1266) (by decide +kernel)⟩
theorem lw_p39 : lw_okq (⟨"VowCourtModel", "writes", "(II)V"⟩, 33) := ⟨⟨by decide +kernel, by decide +kernel⟩, List.mem_of_getElem? (i := 946) (by decide +kernel), List.mem_of_getElem? (i := 1281) (by decide +kernel), List.mem_of_getElem? (i := 1282) (by decide +kernel)⟩
theorem lw_p40 : lw_okq (⟨"VowCourtModel", "puts", "(I)V"⟩, 33) := ⟨⟨by decide +kernel, by decide +kernel⟩, List.mem_of_getElem? (i := 946) (by decide +kernel), List.mem_of_getElem? (i := 1285) (by decide +kernel), List.mem_of_getElem? (i := 1286) (by decide +kernel)⟩
theorem lw_p41 : lw_okq (⟨"VowCourtModel", "putsNumber", "(I)V"⟩, 33) := ⟨⟨by decide +kernel, by decide +kernel⟩, List.mem_of_getElem? (i := 946) (by decide +kernel), List.mem_of_getElem? (i := 1289) (by decide +kernel), List.mem_of_getElem? (i := 1290) (by decide +kernel)⟩
def lw_privs_3 : List (MethodName × Nat) := [(⟨"VowCourtModel", "isTold", "(I)Z"⟩, 33), (⟨"VowCourtModel", "has", "(II)Z"⟩, 33), (⟨"VowCourtModel", "isCause", "(I)Z"⟩, 33), (⟨"VowCourtModel", "proven", "(I)I"⟩, 33), (⟨"VowCourtModel", "decides", "(IZ)V"⟩, 33), (⟨"VowCourtModel", "opens", "(II)V"⟩, 33), (⟨"VowCourtModel", "boundBy", "(II)I"⟩, 33), (⟨"VowCourtModel", "writes", "(II)V"⟩, 33), (⟨"VowCourtModel", "puts", "(I)V"⟩, 33), (⟨"VowCourtModel", "putsNumber", "(I)V"⟩, 33)]
theorem lw_r3 : ∀ q ∈ lw_privs_3, lw_okq q := List.forall_mem_cons.mpr ⟨lw_p32, List.forall_mem_cons.mpr ⟨lw_p33, List.forall_mem_cons.mpr ⟨lw_p34, List.forall_mem_cons.mpr ⟨lw_p35, List.forall_mem_cons.mpr ⟨lw_p36, List.forall_mem_cons.mpr ⟨lw_p37, List.forall_mem_cons.mpr ⟨lw_p38, List.forall_mem_cons.mpr ⟨lw_p39, List.forall_mem_cons.mpr ⟨lw_p40, List.forall_mem_cons.mpr ⟨lw_p41, fun _ h => absurd h List.not_mem_nil⟩⟩⟩⟩⟩⟩⟩⟩⟩⟩
def lw_privs : List (MethodName × Nat) := lw_privs_1 ++ (lw_privs_2 ++ (lw_privs_3))
def lw_tbl : List Cond := k2_sels lw_privs ++ tables_1
theorem lw_privs_ok : ∀ q ∈ lw_privs, lw_okq q := by
  show ∀ q ∈ lw_privs_1 ++ (lw_privs_2 ++ (lw_privs_3)), lw_okq q
  exact List.forall_mem_append.mpr ⟨lw_r1, List.forall_mem_append.mpr ⟨lw_r2, lw_r3⟩⟩
end
section
/-! ===== BEGIN exceptions that leave a method, and their catching by the caller (launches without stack traces) ===== -/
section VXA
/-! The laws vx_back, vx_callV, vx_callS, vx_callSW, vx_throw0, vx_throwS follow proofs of the library, with one case more: JvmDerived/Free/Laws.lean (Back.of_free), Shelf42/LK1.lean (callV, callS), Shelf/KitTraced.lean (throwNew0V, throwNewS). -/
/-- where a method has thrown q: the class by its name, the cell, what was written, the world -/
def vx_T (XC : String → State → State → Prop) (st : State) (q : Addr) (t : State) (mc ms : Nat) (free : Addr → Prop) : Prop :=
  ∃ (E : String) (ce : Cell) (L : List Loc), XC E st t ∧ t.heap[q]? = some ce ∧ ce.vm = .none ∧ st.vm.findClass E = some ce.cls ∧ st.WarmedH t.vm ∧ st.sameButNew ({ t with vm := st.vm } : State) L mc ms ∧ ∀ z ∈ L, free z.base
def vx_Q (Qc : Array Value → State → Outcome → State → Prop) (XC : String → State → State → Prop) (mc ms : Nat) (free : Addr → Prop) : Array Value → State → Outcome → State → Prop := fun a st o t =>
  (Qc a st o t ∧ ∃ L, FrameEnd st o t L mc ms ∧ ∀ q ∈ L, free q.base) ∨ ∃ q, o = .threw q ∧ vx_T XC st q t mc ms free
/-- a callee that returns or throws -/
def vx_Met (l : Launch) (y : MethodName) (ws : List Cond) (rm : Room) (Pc : Array Value → State → Prop) (Qc : Array Value → State → Outcome → State → Prop) (XC : String → State → State → Prop) (mc ms : Nat) (free : Addr → Prop) : Prop :=
  MetFree l y (headSpec ws rm) Pc (fun _ _ _ _ _ => True) (vx_Q Qc XC mc ms free)
def vx_Post (XC : String → State → State → Prop) (mc ms : Nat) (free : Addr → Prop) : Pt → Array Value → Addr → Pt → Prop := fun A a q B =>
  ∃ (g : JFrame) (mk : MethodId) (t : State) (L : List Loc) (E : String) (ce : Cell), B.U.heap = t.heap ∧ B.U.vm = t.vm ∧ XC E (A.U.calling g mk a) t ∧ t.heap[q]? = some ce ∧ ce.vm = .none ∧ A.U.vm.findClass E = some ce.cls ∧ B.locs = A.locs ++ L ∧ (∀ z ∈ L, free z.base) ∧ B.cells = A.cells + mc ∧ B.slots = A.slots + ms
def vx_Back (l : Launch) (R : Room) (p : Program) (e : Env) (below : List Frame) (s : State) (sargs : Array Value) (y : MethodName) (len W9 : Nat)
    (Pre : Pt → Array Value → Prop) (Post : Pt → Array Value → Option Value → Pt → Prop) (PostX : Pt → Array Value → Addr → Pt → Prop) : Prop :=
  ∀ (m : MethodId) (meth : Method) (c : Code) (A : Pt) (g : JFrame) (ig : Instr) (mk : MethodId) (a : Array Value),
    Stand p l e R s m sargs below meth c A.U A.locs A.cells A.slots → g.method = m → g.locals.size = c.maxLocals → decode c.code g.pc = .ok (ig, len) →
    2 * g.monitorRoom + (g.stack.map fun v => v.category).sum ≤ W9 → A.U.methodNamed? y = some mk → Pre A a →
    (∃ (v : Option Value) (B : Pt), Stand p l e R s m sargs below meth c B.U B.locs B.cells B.slots ∧ Post A a v B ∧
      Steps p.tables e below (doInvoke e (A.U.setTop g) [] mk a).1 (B.U.setTop { g with pc := g.pc + len, stack := v.toList ++ g.stack })) ∨
    (∃ (q : Addr) (B : Pt), Stand p l e R s m sargs below meth c B.U B.locs B.cells B.slots ∧ PostX A a q B ∧
      Steps p.tables e below (doInvoke e (A.U.setTop g) [] mk a).1 ((B.U.setTop g).pushFrame (.throwing q)))
section Payer
variable {l : Launch} {R : Room} {p : Program} {e : Env} {below : List Frame} {s : State} {sargs : Array Value} {y : MethodName} {len W9 : Nat}
theorem vx_back {ws : List Cond} {rm : Room} {Pc : Array Value → State → Prop} {Qc : Array Value → State → Outcome → State → Prop} {XC : String → State → State → Prop} {mc ms : Nat} {free : Addr → Prop} {bytes : ByteArray} {maxL : Nat} {ret : Option FieldType}
    (hM : vx_Met l y ws rm Pc Qc XC mc ms free) (hblind : FrameBlind Pc) (hrc : rm.cells = mc) (hrs : rm.slots = ms)
    (hframes : rm.frames + 1 ≤ R.frames) (hlocals : W9 + (maxL + 11) + rm.locals ≤ R.locals)
    (hws : ∀ w ∈ ws, ∀ a' U, s.WarmedH U.vm → w.before a' U = true) (hcode : Cond.code y bytes maxL ret ∈ ws) (hinit : ∀ a' U, s.WarmedH U.vm → (Cond.initialized y.cls).before a' U = true) :
    vx_Back l R p e below s sargs y len W9 (PreOf R mc ms Pc) (PostOf Qc mc ms free) (vx_Post XC mc ms free) := by
  intro m meth c A g ig mk a X hg hsize hdg hW hn hp
  have h1 : (headSpec ws rm).pre.before a A.U = true := atoms_intro fun w hw => hws w hw _ _ X.warmed
  have h2 : (Cond.code y bytes maxL ret).before a A.U = true := hws _ hcode _ _ X.warmed
  have h3 : (Cond.initialized y.cls).before a A.U = true := hinit _ _ X.warmed
  have h4 : A.cells + (headSpec ws rm).room.cells ≤ R.cells := by rw [show (headSpec ws rm).room.cells = mc from hrc]; exact hp.1
  have h5 : A.slots + (headSpec ws rm).room.slots ≤ R.slots := by rw [show (headSpec ws rm).room.slots = ms from hrs]; exact hp.2.1
  have hPc : Pc a (A.U.calling g mk a) := hblind _ _ _ _ hp.2.2
  obtain ⟨U, Ls, c0, s0⟩ := A
  dsimp only [Pt.U, Pt.locs, Pt.cells, Pt.slots] at h1 h2 h3 h4 h5 X hn hPc ⊢
  obtain ⟨methY, cY, hmY, hcY, -, hlY, -, -, -, -⟩ := Cond.code_spec hn h2
  obtain ⟨kY, hkY, -⟩ := className_of_methodNamed hn
  have hinitY : kY.init = .initialized := Cond.initialized_spec (findClass_of_methodNamed hn) hkY h3
  have h : At U g.method c below := by rw [hg]; exact X.here
  have hlocals9 : W9 + (maxL + 11) + (headSpec ws rm).room.locals ≤ R.locals := hlocals
  have happ : (headSpec ws rm).appliesLoose y e.platform (U.calling g mk a) = true :=
    Spec.appliesLoose_calling (g := g) h hdg hn hkY hinitY
      (X.room_calling (g := g) (R' := (headSpec ws rm).room) hsize hmY hcY hframes (by rw [hlY]; omega) h4 h5) h1
  obtain ⟨mid, hmid⟩ := h.above
  have hfr : (U.setTop g).frames = (.java g :: mid) ++ below := by rw [State.frames_setTop' g h.top, hmid]; rfl
  obtain ⟨o, s₂, hsteps, -, hend, hq⟩ := Steps.callFree hM p X.admits X.cas X.clock (acts := []) hfr happ hPc trivial
  have hq' : vx_Q Qc XC mc ms free a (U.calling g mk a) o s₂ := hq
  rw [State.frames_setTop' g h.top] at hend
  obtain ⟨g₀, hg0⟩ := Option.isSome_iff_exists.mp h.top
  obtain ⟨r, hr⟩ := State.topJava?_eq_some.mp hg0
  have hr' : (({ U with heap := s₂.heap, slotsUsed := s₂.slotsUsed } : State).setVm s₂.vm).frames = .java g₀ :: r := hr
  rcases hq' with ⟨hqc, L, hfe, hL⟩ | ⟨q, rfl, E, ce, L, hx, hce, hcv, hcl, hW₂, hsm, hL⟩
  · obtain ⟨⟨v, rfl⟩, hW₂, e2, q2, q3, q4, q5, q6⟩ := id hfe
    have e3 : s₂ = ({ (U.calling g mk a).setFrames s₂.frames with heap := s₂.heap, slotsUsed := s₂.slotsUsed } : State).setVm s₂.vm := by
      have : s₂ = ({ s₂ with vm := (U.calling g mk a).vm } : State).setVm s₂.vm := rfl
      rw [e2] at this
      exact this
    obtain ⟨c₂, i₂, len₂, hc₂, hd₂, hf₂⟩ := hend
    have hW' : U.WarmedH s₂.vm := hW₂
    have hcc : c₂ = c := by
      have h1 : s₂.code? g.method = U.code? g.method := by
        rw [State.code?_eq, State.code?_eq, hW'.alike.method?]
      exact Option.some.inj (hc₂.symm.trans (h1.trans h.code))
    subst hcc
    have hlen : len₂ = len := by rw [hdg] at hd₂; cases hd₂; rfl
    subst hlen
    have hs₂ : s₂ = (({ U with heap := s₂.heap, slotsUsed := s₂.slotsUsed } : State).setVm s₂.vm).setTop { g with pc := g.pc + len₂, stack := v.toList ++ g.stack } := by
      refine e3.trans ?_
      rw [hf₂, State.calling_eq h.top, State.setFrames_setFrames, State.setTop_of_frames _ hr', hr]
      rfl
    have hsame : U.sameButNew ({ U with heap := s₂.heap, slotsUsed := s₂.slotsUsed } : State) L mc ms := by
      refine ⟨?_, q2, q3, q4, q5, q6⟩
      obtain ⟨t, ht, -⟩ := State.frames_cons hr
      show ({ U with heap := s₂.heap, slotsUsed := s₂.slotsUsed } : State) = { U.setFrames U.frames with heap := s₂.heap, slotsUsed := s₂.slotsUsed }
      rw [State.setFrames_self ht]
    subst hg
    refine Or.inl ⟨v, ⟨(({ U with heap := s₂.heap, slotsUsed := s₂.slotsUsed } : State).setVm s₂.vm), Ls ++ L, c0 + mc, s0 + ms⟩,
      ⟨X.admits, X.cas, X.clock, X.frames, X.room, X.hears, X.method, X.code, (X.here.setHeapUsed s₂.heap s₂.slotsUsed).setVm hW'.alike, X.tail, State.WarmedH.trans X.warmed hW', X.limits, X.bytes, X.same.trans (hsame.setVm s.vm)⟩,
      ⟨g, mk, s₂, L, rfl, rfl, hqc, rfl, hL, rfl, rfl⟩, ?_⟩
    show Steps p.tables e below _ ((({ U with heap := s₂.heap, slotsUsed := s₂.slotsUsed } : State).setVm s₂.vm).setTop { g with pc := g.pc + len₂, stack := v.toList ++ g.stack })
    rw [← hs₂]
    exact hsteps
  · obtain ⟨e2, q2, q3, q4, q5, q6⟩ := id hsm
    have e3 : s₂ = ({ (U.calling g mk a).setFrames s₂.frames with heap := s₂.heap, slotsUsed := s₂.slotsUsed } : State).setVm s₂.vm := by
      have : s₂ = ({ s₂ with vm := (U.calling g mk a).vm } : State).setVm s₂.vm := rfl
      rw [e2] at this
      exact this
    have hf₂ : s₂.frames = .throwing q :: .java g :: U.frames.tail := hend
    have hW' : U.WarmedH s₂.vm := hW₂
    have hs₂ : s₂ = ((({ U with heap := s₂.heap, slotsUsed := s₂.slotsUsed } : State).setVm s₂.vm).setTop g).pushFrame (.throwing q) := by
      refine e3.trans ?_
      rw [hf₂, State.calling_eq h.top, State.setFrames_setFrames, State.pushFrame, State.frames_setTop _ hr', State.setTop_of_frames _ hr', State.setFrames_setFrames, hr]
      rfl
    have hsame : U.sameButNew ({ U with heap := s₂.heap, slotsUsed := s₂.slotsUsed } : State) L mc ms := by
      refine ⟨?_, q2, q3, q4, q5, q6⟩
      obtain ⟨t, ht, -⟩ := State.frames_cons hr
      show ({ U with heap := s₂.heap, slotsUsed := s₂.slotsUsed } : State) = { U.setFrames U.frames with heap := s₂.heap, slotsUsed := s₂.slotsUsed }
      rw [State.setFrames_self ht]
    subst hg
    refine Or.inr ⟨q, ⟨(({ U with heap := s₂.heap, slotsUsed := s₂.slotsUsed } : State).setVm s₂.vm), Ls ++ L, c0 + mc, s0 + ms⟩,
      ⟨X.admits, X.cas, X.clock, X.frames, X.room, X.hears, X.method, X.code, (X.here.setHeapUsed s₂.heap s₂.slotsUsed).setVm hW'.alike, X.tail, State.WarmedH.trans X.warmed hW', X.limits, X.bytes, X.same.trans (hsame.setVm s.vm)⟩,
      ⟨g, mk, s₂, L, E, ce, rfl, rfl, hx, hce, hcv, hcl, rfl, hL, rfl, rfl⟩, ?_⟩
    show Steps p.tables e below _ (((({ U with heap := s₂.heap, slotsUsed := s₂.slotsUsed } : State).setVm s₂.vm).setTop g).pushFrame (.throwing q))
    rw [← hs₂]
    exact hsteps
end Payer
section Calls
variable {p : Program} {l : Launch} {e : Env} {R : Room} {s : State} {m : MethodId} {args : Array Value} {below : List Frame} {meth : Method} {c : Code} {T : State} {locs : List Loc} {cells slots : Nat}
theorem vx_callV (X : Stand p l e R s m args below meth c T locs cells slots) (hexec : p.tables.exec = Jvm.exec) {own C : String} {index : Nat} {y : MethodName} {bytes : ByteArray} {maxL : Nat} {ret : Option FieldType}
    (hown : s.vm.findClass own = some m.cls) (hlink : (Cond.methodLink own index y).before args s = true) (hinst : (Cond.instanceMethod y).before args s = true) (hsel : (Cond.selects C y y).before args s = true)
    (hcode : (Cond.code y bytes maxL ret).before args s = true) (hy : y.cls ≠ "java/lang/invoke/MethodHandle" ∧ y.cls ≠ "java/lang/invoke/VarHandle")
    {W9 : Nat} {Pre : Pt → Array Value → Prop} {Post : Pt → Array Value → Option Value → Pt → Prop} {PostX : Pt → Array Value → Addr → Pt → Prop} (hK : vx_Back l R p e below s args y 3 W9 Pre Post PostX)
    {b : Addr} {cellB : Cell} (hcell : T.heap[b]? = some cellB) (hobj : cellB.vm.isStatics = false) (hcls : s.vm.findClass C = some cellB.cls)
    {g : JFrame} (hg : g.method = m) (hsize : g.locals.size = c.maxLocals) {argsL rest : List Value} (hlen : ∀ sig, parseMethodDescriptor y.desc = some sig → argsL.length = sig.parameters.length)
    (hstack : g.stack = argsL.reverse ++ .ref b :: rest) (hW : 2 * g.monitorRoom + (rest.map fun v => v.category).sum ≤ W9) (hdg : decode c.code g.pc = .ok (.invokevirtual index, 3))
    (hpre : ∀ vm₁, s.WarmedH vm₁ → Pre ⟨T.setVm vm₁, locs, cells, slots⟩ (Value.ref b :: argsL).toArray) :
    (∃ (v : Option Value) (vm₁ : Vm) (B : Pt), s.WarmedH vm₁ ∧ Stand p l e R s m args below meth c B.U B.locs B.cells B.slots ∧ Post ⟨T.setVm vm₁, locs, cells, slots⟩ (Value.ref b :: argsL).toArray v B ∧
      ∀ target, Steps p.tables e below (B.U.setTop { g with pc := g.pc + 3, stack := v.toList ++ rest }) target → Steps p.tables e below (T.setTop g) target) ∨
    (∃ (q : Addr) (vm₁ : Vm) (B : Pt), s.WarmedH vm₁ ∧ Stand p l e R s m args below meth c B.U B.locs B.cells B.slots ∧ PostX ⟨T.setVm vm₁, locs, cells, slots⟩ (Value.ref b :: argsL).toArray q B ∧
      Steps p.tables e below (T.setTop g) ((B.U.setTop { g with stack := rest }).pushFrame (.throwing q))) := by
  obtain ⟨mk, methM, hnamed, hmethM, hstM, habM⟩ := Cond.instanceMethod_spec hinst
  obtain ⟨methM', cM, hmethM', -, -, -, -, -, -, hsigM⟩ := Cond.code_spec hnamed hcode
  cases hmethM.symm.trans hmethM'
  obtain ⟨c2, r2, m2, q1, q2, q3, q4, kP, hkP, hkPi⟩ := Cond.selects_spec hsel
  cases hcls.symm.trans q1
  cases (State.methodFound?_of_named hnamed hy).symm.trans q2
  cases hnamed.symm.trans q3
  have hselP : selectMethod e.platform s.vm cellB.cls mk = .method mk := by rw [Launch.admits_selectMethod X.admits]; exact q4
  obtain ⟨vm₁, X₁, hstep₁⟩ := X.invokevirtual hexec hown hlink hnamed hmethM hstM hkP hkPi hy (a := b) (cell := cellB) hcell
    (fun z h => by rw [h] at hobj; cases hobj) hselP hmethM habM hkP hkPi (g := g) hg (argsL := argsL) (rest := rest) (hlen _ hsigM) hstack hdg
  rcases hK m meth c ⟨T.setVm vm₁, locs, cells, slots⟩ { g with stack := rest } (.invokevirtual index) mk (Value.ref b :: argsL).toArray X₁ hg hsize hdg hW (X₁.named hnamed) (hpre vm₁ X₁.warmed) with ⟨v, B, X', hpost, hsteps⟩ | ⟨q, B, X', hpost, hsteps⟩
  · exact Or.inl ⟨v, vm₁, B, X₁.warmed, X', hpost, fun target h => hstep₁ _ fun acts => by rw [doInvoke_state]; exact hsteps.trans h⟩
  · exact Or.inr ⟨q, vm₁, B, X₁.warmed, X', hpost, hstep₁ _ fun acts => by rw [doInvoke_state]; exact hsteps⟩
theorem vx_callS (X : Stand p l e R s m args below meth c T locs cells slots) (hexec : p.tables.exec = Jvm.exec) {own : String} {index : Nat} {y : MethodName} {bytes : ByteArray} {maxL : Nat} {ret : Option FieldType}
    (hown : s.vm.findClass own = some m.cls) (hlink : (Cond.methodLink own index y).before args s = true) (hstat : (Cond.static y).before args s = true) (hinit : (Cond.initialized y.cls).before args s = true)
    (hcode : (Cond.code y bytes maxL ret).before args s = true) (hy : y.cls ≠ "java/lang/invoke/MethodHandle" ∧ y.cls ≠ "java/lang/invoke/VarHandle")
    {W9 : Nat} {Pre : Pt → Array Value → Prop} {Post : Pt → Array Value → Option Value → Pt → Prop} {PostX : Pt → Array Value → Addr → Pt → Prop} (hK : vx_Back l R p e below s args y 3 W9 Pre Post PostX)
    {g : JFrame} (hg : g.method = m) (hsize : g.locals.size = c.maxLocals) {argsL rest : List Value} (hlen : ∀ sig, parseMethodDescriptor y.desc = some sig → argsL.length = sig.parameters.length)
    (hstack : g.stack = argsL.reverse ++ rest) (hW : 2 * g.monitorRoom + (rest.map fun v => v.category).sum ≤ W9) (hdg : decode c.code g.pc = .ok (.invokestatic index, 3))
    (hpre : ∀ vm₁, s.WarmedH vm₁ → Pre ⟨T.setVm vm₁, locs, cells, slots⟩ argsL.toArray) :
    (∃ (v : Option Value) (vm₁ : Vm) (B : Pt), s.WarmedH vm₁ ∧ Stand p l e R s m args below meth c B.U B.locs B.cells B.slots ∧ Post ⟨T.setVm vm₁, locs, cells, slots⟩ argsL.toArray v B ∧
      ∀ target, Steps p.tables e below (B.U.setTop { g with pc := g.pc + 3, stack := v.toList ++ rest }) target → Steps p.tables e below (T.setTop g) target) ∨
    (∃ (q : Addr) (vm₁ : Vm) (B : Pt), s.WarmedH vm₁ ∧ Stand p l e R s m args below meth c B.U B.locs B.cells B.slots ∧ PostX ⟨T.setVm vm₁, locs, cells, slots⟩ argsL.toArray q B ∧
      Steps p.tables e below (T.setTop g) ((B.U.setTop { g with stack := rest }).pushFrame (.throwing q))) := by
  obtain ⟨mk, hnamed⟩ := Cond.code_named hcode
  obtain ⟨methM, cM, hmethM, -, -, -, -, -, -, hsigM⟩ := Cond.code_spec hnamed hcode
  have hstatic : methM.isStatic = true := Cond.static_spec hnamed hmethM hstat
  obtain ⟨kP, hkP, -⟩ := className_of_methodNamed hnamed
  have hinitP : kP.init = .initialized := Cond.initialized_spec (findClass_of_methodNamed hnamed) hkP hinit
  obtain ⟨vm₁, X₁, hstep₁⟩ := X.invokestatic hexec hown hlink hnamed hmethM hstatic hkP hinitP hy (g := g) hg (argsL := argsL) (rest := rest) (hlen _ hsigM) hstack hdg
  rcases hK m meth c ⟨T.setVm vm₁, locs, cells, slots⟩ { g with stack := rest } (.invokestatic index) mk argsL.toArray X₁ hg hsize hdg hW (X₁.named hnamed) (hpre vm₁ X₁.warmed) with ⟨v, B, X', hpost, hsteps⟩ | ⟨q, B, X', hpost, hsteps⟩
  · exact Or.inl ⟨v, vm₁, B, X₁.warmed, X', hpost, fun target h => hstep₁ _ fun acts => by rw [doInvoke_state]; exact hsteps.trans h⟩
  · exact Or.inr ⟨q, vm₁, B, X₁.warmed, X', hpost, hstep₁ _ fun acts => by rw [doInvoke_state]; exact hsteps⟩
end Calls
theorem vx_cls {s : State} {T : State} {vm₁ : Vm} {E : String} {k : ClassId} (hW : s.WarmedH vm₁) (h : (T.setVm vm₁).vm.findClass E = some k) : s.vm.findClass E = some k := by
  have h1 : vm₁.findClass E = some k := h
  rw [hW.alike.findClass] at h1
  exact h1
/-- the method's frame g, with q thrown over it -/
def vx_W (p : Program) (l : Launch) (e : Env) (R : Room) (s : State) (m : MethodId) (args : Array Value) (below : List Frame) (meth : Method) (c : Code) (H : Heap) (locs : List Loc) (cells slots : Nat) (Q : State → Prop) (g : JFrame) (q : Addr) : Prop :=
  ∀ T : State, T.heap = H → Stand p l e R s m args below meth c T locs cells slots → ∃ t, Steps p.tables e below ((T.setTop g).pushFrame (.throwing q)) t ∧ Q t
def vx_Run (p : Program) (l : Launch) (e : Env) (R : Room) (s : State) (m : MethodId) (args : Array Value) (below : List Frame) (meth : Method) (c : Code) (H : Heap) (locs : List Loc) (cells slots mc ms : Nat) (g : JFrame) (rest : List Value) (Qa : State → Outcome → State → Prop) (XC : String → State → State → Prop) (free : Addr → Prop) : Prop :=
  ∀ T : State, T.heap = H → Stand p l e R s m args below meth c T locs cells slots →
    (∃ (v : Option Value) (st₀ t T' : State) (L : List Loc), st₀.heap = H ∧ Stand p l e R s m args below meth c T' (locs ++ L) (cells + mc) (slots + ms) ∧ (∀ q ∈ L, free q.base) ∧ T'.heap = t.heap ∧ T'.vm = t.vm ∧ Qa st₀ (.returned v) t ∧
      Goes p e below T g T' { g with pc := g.pc + 3, stack := v.toList ++ rest }) ∨
    (∃ (q : Addr) (st₀ t T' : State) (L : List Loc) (E : String) (ce : Cell), st₀.heap = H ∧ Stand p l e R s m args below meth c T' (locs ++ L) (cells + mc) (slots + ms) ∧ (∀ z ∈ L, free z.base) ∧ T'.heap = t.heap ∧ T'.vm = t.vm ∧ XC E st₀ t ∧ t.heap[q]? = some ce ∧ ce.vm = .none ∧ s.vm.findClass E = some ce.cls ∧
      Steps p.tables e below (T.setTop g) ((T'.setTop { g with stack := rest }).pushFrame (.throwing q)))
def vx_X {S : Type} (px : S → Prop) (B : String → S → State → Prop) (A : Nat → Prop) : String → State → State → Prop := fun E st t => ∃ u : S, px u ∧ B E u t ∧ va_F A st t
section Runs
variable {p : Program} {l : Launch} {e : Env} {R : Room} {s : State} {m : MethodId} {args : Array Value} {below : List Frame} {meth : Method} {c : Code} {H : Heap} {locs : List Loc} {cells slots : Nat}
variable {y : MethodName} {bytes cc : ByteArray} {maxL nL mc ms n index : Nat} {ret : Option FieldType} {ws : List Cond} {rm : Room} {Pc : Array Value → State → Prop} {Qc : Array Value → State → Outcome → State → Prop} {XC : String → State → State → Prop} {free : Addr → Prop} {Ts : List Cond} {own C : String} {b : Addr} {As rest : List Value} {g : JFrame}
theorem vx_callBack (cb : CallB R s args own index y bytes maxL ret ws rm mc ms n) (hM : vx_Met l y ws rm Pc Qc XC mc ms free) (hbl : FrameBlind Pc) : vx_Back l R p e below s args y 3 8 (PreOf R mc ms Pc) (PostOf Qc mc ms free) (vx_Post XC mc ms free) := by
  obtain ⟨hrc, hrs, hfr, hlo, hws, hcw, -, hini, -⟩ := cb
  exact vx_back (bytes := bytes) (maxL := maxL) (ret := ret) hM hbl hrc hrs hfr hlo hws hcw (fun a' U hW => word_at hW (Or.inl (by first | rfl | simp [Cond.onTables, Cond.keeps, Cond.steady])) hini)
theorem vx_runV (S : CallFix p m c cc nL s args Ts own) (hM : vx_Met l y ws rm Pc Qc XC mc ms free) (cw : CallW R s args own C index y bytes maxL ret ws rm mc ms n) (hp : PreV s H C b Pc As)
    (hg : g.method = m) (hn : As.length = n) (hsize : g.locals.size = nL) (hstack : g.stack = As.reverse ++ .ref b :: rest) (hW : 2 * g.monitorRoom + (rest.map fun v => v.category).sum ≤ 8) (hdg : decode cc g.pc = .ok (.invokevirtual index, 3)) (hf : cells + mc ≤ R.cells ∧ slots + ms ≤ R.slots) :
    vx_Run p l e R s m args below meth c H locs cells slots mc ms g rest (Qc (Value.ref b :: As).toArray) XC free := by
  have hK : vx_Back l R p e below s args y 3 8 (PreOf R mc ms Pc) (PostOf Qc mc ms free) (vx_Post XC mc ms free) := vx_callBack cw.1 hM hp.1
  obtain ⟨⟨-, -, -, -, -, -, hcode, -, hy, hlen, hl⟩, hin, hse⟩ := cw
  obtain ⟨hx, hb, hml, ho, -⟩ := S
  obtain ⟨-, ⟨cellB, hcB, hoB, hclB⟩, hPc⟩ := hp
  intro T hT X
  rcases vx_callV X hx (C := C) (bytes := bytes) (maxL := maxL) (ret := ret) ho hl hin hse hcode hy hK (by rw [hT]; exact hcB) hoB hclB hg (hsize.trans hml.symm) (argsL := As) (rest := rest) (fun sig h => hn.trans (hlen sig h)) hstack hW (by rw [hb]; exact hdg)
    (fun vm₁ hW₁ => ⟨hf.1, hf.2, hPc (T.setVm vm₁) hT hW₁⟩) with ⟨v, vm₁, ⟨U', l2, c2, s2⟩, hW₁, X', ⟨g', mk, t, L, e1, e2, hq, h1, hL, h2, h3⟩, st⟩ | ⟨q, vm₁, ⟨U', l2, c2, s2⟩, hW₁, X', ⟨g', mk, t, L, E, ce, e1, e2, hq, hce, hcv, hcl, h1, hL, h2, h3⟩, st⟩
  · dsimp only [Pt.U, Pt.locs, Pt.cells, Pt.slots] at X' e1 e2 h1 h2 h3 st
    subst h1; subst h2; subst h3
    exact Or.inl ⟨v, (T.setVm vm₁).calling g' mk (Value.ref b :: As).toArray, t, U', L, hT, X', hL, e1, e2, hq, st⟩
  · dsimp only [Pt.U, Pt.locs, Pt.cells, Pt.slots] at X' e1 e2 h1 h2 h3 st hcl
    subst h1; subst h2; subst h3
    exact Or.inr ⟨q, (T.setVm vm₁).calling g' mk (Value.ref b :: As).toArray, t, U', L, E, ce, hT, X', hL, e1, e2, hq, hce, hcv, vx_cls hW₁ hcl, st⟩
theorem vx_runS (S : CallFix p m c cc nL s args Ts own) (hM : vx_Met l y ws rm Pc Qc XC mc ms free) (cw : CallB R s args own index y bytes maxL ret ws rm mc ms n ∧ (Cond.static y).before args s = true) (hp : PreS s H Pc As)
    (hg : g.method = m) (hn : As.length = n) (hsize : g.locals.size = nL) (hstack : g.stack = As.reverse ++ rest) (hW : 2 * g.monitorRoom + (rest.map fun v => v.category).sum ≤ 8) (hdg : decode cc g.pc = .ok (.invokestatic index, 3)) (hf : cells + mc ≤ R.cells ∧ slots + ms ≤ R.slots) :
    vx_Run p l e R s m args below meth c H locs cells slots mc ms g rest (Qc As.toArray) XC free := by
  have hK : vx_Back l R p e below s args y 3 8 (PreOf R mc ms Pc) (PostOf Qc mc ms free) (vx_Post XC mc ms free) := vx_callBack cw.1 hM hp.1
  obtain ⟨⟨-, -, -, -, -, -, hcode, hini, hy, hlen, hl⟩, hstt⟩ := cw
  obtain ⟨hx, hb, hml, ho, -⟩ := S
  intro T hT X
  rcases vx_callS X hx (bytes := bytes) (maxL := maxL) (ret := ret) ho hl hstt hini hcode hy hK hg (hsize.trans hml.symm) (argsL := As) (rest := rest) (fun sig h => hn.trans (hlen sig h)) hstack hW (by rw [hb]; exact hdg)
    (fun vm₁ hW₁ => ⟨hf.1, hf.2, hp.2 (T.setVm vm₁) hT hW₁⟩) with ⟨v, vm₁, ⟨U', l2, c2, s2⟩, hW₁, X', ⟨g', mk, t, L, e1, e2, hq, h1, hL, h2, h3⟩, st⟩ | ⟨q, vm₁, ⟨U', l2, c2, s2⟩, hW₁, X', ⟨g', mk, t, L, E, ce, e1, e2, hq, hce, hcv, hcl, h1, hL, h2, h3⟩, st⟩
  · dsimp only [Pt.U, Pt.locs, Pt.cells, Pt.slots] at X' e1 e2 h1 h2 h3 st
    subst h1; subst h2; subst h3
    exact Or.inl ⟨v, (T.setVm vm₁).calling g' mk As.toArray, t, U', L, hT, X', hL, e1, e2, hq, st⟩
  · dsimp only [Pt.U, Pt.locs, Pt.cells, Pt.slots] at X' e1 e2 h1 h2 h3 st hcl
    subst h1; subst h2; subst h3
    exact Or.inr ⟨q, (T.setVm vm₁).calling g' mk As.toArray, t, U', L, E, ce, hT, X', hL, e1, e2, hq, hce, hcv, vx_cls hW₁ hcl, st⟩
end Runs
section Rows
variable {p : Program} {l : Launch} {e : Env} {R : Room} {s : State} {m : MethodId} {args : Array Value} {below : List Frame} {meth : Method} {c : Code} {H : Heap} {locs : List Loc} {cells slots : Nat} {Q : State → Prop}
variable {mc ms : Nat} {free : Addr → Prop} {A0 A1 : Nat → Prop} {H0 : Heap} {a : Array Value} {pc : Nat} {ls : Array Slot} {st0 rest : List Value}
theorem vx_keep {st₀ t T' : State} {L : List Loc} (h0 : st₀.heap = H) (e1 : T'.heap = t.heap) (hS : va_S A0 H0 H locs) (hA : ∀ q, q < H.size → A1 q → A0 q) (hf : ∀ q, free q → A0 q) (hL : ∀ q ∈ L, free q.base) (hF : va_F A1 st₀ t) :
    H.size ≤ T'.heap.size ∧ (∀ q : Nat, q < H.size → ¬ A1 q → T'.heap[q]? = H[q]?) ∧ va_S A0 H0 T'.heap (locs ++ L) := by
  obtain ⟨hz, hk⟩ := hF
  rw [h0] at hz hk
  exact ⟨by rw [e1]; exact hz, fun q h1 h2 => by rw [e1]; exact hk q h1 h2,
    ⟨Nat.le_trans hS.1 (by rw [e1]; exact hz), fun q h1 h2 => by rw [e1, hk q (Nat.lt_of_lt_of_le h1 hS.1) (fun z => h2 (hA q (Nat.lt_of_lt_of_le h1 hS.1) z))]; exact hS.2.1 q h1 h2, fun q hq => by
      rcases List.mem_append.mp hq with h | h
      · exact hS.2.2 q h
      · exact hf _ (hL q h)⟩⟩
theorem vx_calli {S SX : Type} {post : Int32 → S → Prop} {px : SX → Prop} {B : S → State → Prop} {BX : String → SX → State → Prop} {AX : Nat → Prop} (hr : vx_Run p l e R s m args below meth c H locs cells slots mc ms (F0 m pc ls st0) rest (va_Qi post B A1 a) (vx_X px BX AX) free) (hS : va_S A0 H0 H locs) (hA : ∀ q, q < H.size → A1 q → A0 q) (hf : ∀ q, free q → A0 q) (hAX : ∀ q, q < H.size → AX q → A0 q)
    (kx : ∀ (E : String) (ce : Cell) (q9 : Addr) (u : SX) (t : State) (H1 : Heap) (locs1 : List Loc), t.heap = H1 → s.vm.Alike t.vm → px u → BX E u t → H.size ≤ H1.size → (∀ q : Nat, q < H.size → ¬ AX q → H1[q]? = H[q]?) → va_S A0 H0 H1 locs1 → H1[q9]? = some ce → ce.vm = .none → s.vm.findClass E = some ce.cls → vx_W p l e R s m args below meth c H1 locs1 (cells + mc) (slots + ms) Q (F0 m pc ls rest) q9)
    (kk : ∀ (r : Int32) (u : S) (t : State) (H1 : Heap) (locs1 : List Loc), t.heap = H1 → s.vm.Alike t.vm → post r u → B u t → H.size ≤ H1.size → (∀ q : Nat, q < H.size → ¬ A1 q → H1[q]? = H[q]?) → va_S A0 H0 H1 locs1 → W p l e R s m args below meth c H1 locs1 (cells + mc) (slots + ms) Q (F0 m (pc + 3) ls (.int r :: rest))) : W p l e R s m args below meth c H locs cells slots Q (F0 m pc ls st0) := by
  intro T hT X
  rcases hr T hT X with ⟨v, st₀, t, T', L, h0, X', hL, e1, e2, ⟨⟨r, u, hv, hp, hb⟩, hF⟩, st⟩ | ⟨q, st₀, t, T', L, E, ce, h0, X', hL, e1, e2, ⟨u, hp, hb, hF⟩, hce, hcv, hcl, st⟩
  · cases hv
    obtain ⟨k1, k2, k3⟩ := vx_keep h0 e1 hS hA hf hL hF
    obtain ⟨t2, a1, b1⟩ := kk r u t T'.heap (locs ++ L) e1.symm (by rw [← e2]; exact X'.warmed.alike) hp hb k1 k2 k3 T' rfl X'
    exact ⟨t2, st t2 a1, b1⟩
  · obtain ⟨k1, k2, k3⟩ := vx_keep h0 e1 hS hAX hf hL hF
    obtain ⟨t2, a1, b1⟩ := kx E ce q u t T'.heap (locs ++ L) e1.symm (by rw [← e2]; exact X'.warmed.alike) hp hb k1 k2 k3 (by rw [e1]; exact hce) hcv hcl T' rfl X'
    exact ⟨t2, st.trans a1, b1⟩
theorem vx_calll {S SX : Type} {post : Int64 → S → Prop} {px : SX → Prop} {B : S → State → Prop} {BX : String → SX → State → Prop} {AX : Nat → Prop} (hr : vx_Run p l e R s m args below meth c H locs cells slots mc ms (F0 m pc ls st0) rest (va_Ql post B A1 a) (vx_X px BX AX) free) (hS : va_S A0 H0 H locs) (hA : ∀ q, q < H.size → A1 q → A0 q) (hf : ∀ q, free q → A0 q) (hAX : ∀ q, q < H.size → AX q → A0 q)
    (kx : ∀ (E : String) (ce : Cell) (q9 : Addr) (u : SX) (t : State) (H1 : Heap) (locs1 : List Loc), t.heap = H1 → s.vm.Alike t.vm → px u → BX E u t → H.size ≤ H1.size → (∀ q : Nat, q < H.size → ¬ AX q → H1[q]? = H[q]?) → va_S A0 H0 H1 locs1 → H1[q9]? = some ce → ce.vm = .none → s.vm.findClass E = some ce.cls → vx_W p l e R s m args below meth c H1 locs1 (cells + mc) (slots + ms) Q (F0 m pc ls rest) q9)
    (kk : ∀ (r : Int64) (u : S) (t : State) (H1 : Heap) (locs1 : List Loc), t.heap = H1 → s.vm.Alike t.vm → post r u → B u t → H.size ≤ H1.size → (∀ q : Nat, q < H.size → ¬ A1 q → H1[q]? = H[q]?) → va_S A0 H0 H1 locs1 → W p l e R s m args below meth c H1 locs1 (cells + mc) (slots + ms) Q (F0 m (pc + 3) ls (.long r :: rest))) : W p l e R s m args below meth c H locs cells slots Q (F0 m pc ls st0) := by
  intro T hT X
  rcases hr T hT X with ⟨v, st₀, t, T', L, h0, X', hL, e1, e2, ⟨⟨r, u, hv, hp, hb⟩, hF⟩, st⟩ | ⟨q, st₀, t, T', L, E, ce, h0, X', hL, e1, e2, ⟨u, hp, hb, hF⟩, hce, hcv, hcl, st⟩
  · cases hv
    obtain ⟨k1, k2, k3⟩ := vx_keep h0 e1 hS hA hf hL hF
    obtain ⟨t2, a1, b1⟩ := kk r u t T'.heap (locs ++ L) e1.symm (by rw [← e2]; exact X'.warmed.alike) hp hb k1 k2 k3 T' rfl X'
    exact ⟨t2, st t2 a1, b1⟩
  · obtain ⟨k1, k2, k3⟩ := vx_keep h0 e1 hS hAX hf hL hF
    obtain ⟨t2, a1, b1⟩ := kx E ce q u t T'.heap (locs ++ L) e1.symm (by rw [← e2]; exact X'.warmed.alike) hp hb k1 k2 k3 (by rw [e1]; exact hce) hcv hcl T' rfl X'
    exact ⟨t2, st.trans a1, b1⟩
theorem vx_callf {S SX : Type} {post : UInt32 → S → Prop} {px : SX → Prop} {B : S → State → Prop} {BX : String → SX → State → Prop} {AX : Nat → Prop} (hr : vx_Run p l e R s m args below meth c H locs cells slots mc ms (F0 m pc ls st0) rest (va_Qf post B A1 a) (vx_X px BX AX) free) (hS : va_S A0 H0 H locs) (hA : ∀ q, q < H.size → A1 q → A0 q) (hf : ∀ q, free q → A0 q) (hAX : ∀ q, q < H.size → AX q → A0 q)
    (kx : ∀ (E : String) (ce : Cell) (q9 : Addr) (u : SX) (t : State) (H1 : Heap) (locs1 : List Loc), t.heap = H1 → s.vm.Alike t.vm → px u → BX E u t → H.size ≤ H1.size → (∀ q : Nat, q < H.size → ¬ AX q → H1[q]? = H[q]?) → va_S A0 H0 H1 locs1 → H1[q9]? = some ce → ce.vm = .none → s.vm.findClass E = some ce.cls → vx_W p l e R s m args below meth c H1 locs1 (cells + mc) (slots + ms) Q (F0 m pc ls rest) q9)
    (kk : ∀ (r : UInt32) (u : S) (t : State) (H1 : Heap) (locs1 : List Loc), t.heap = H1 → s.vm.Alike t.vm → post r u → B u t → H.size ≤ H1.size → (∀ q : Nat, q < H.size → ¬ A1 q → H1[q]? = H[q]?) → va_S A0 H0 H1 locs1 → W p l e R s m args below meth c H1 locs1 (cells + mc) (slots + ms) Q (F0 m (pc + 3) ls (.float r :: rest))) : W p l e R s m args below meth c H locs cells slots Q (F0 m pc ls st0) := by
  intro T hT X
  rcases hr T hT X with ⟨v, st₀, t, T', L, h0, X', hL, e1, e2, ⟨⟨r, u, hv, hp, hb⟩, hF⟩, st⟩ | ⟨q, st₀, t, T', L, E, ce, h0, X', hL, e1, e2, ⟨u, hp, hb, hF⟩, hce, hcv, hcl, st⟩
  · cases hv
    obtain ⟨k1, k2, k3⟩ := vx_keep h0 e1 hS hA hf hL hF
    obtain ⟨t2, a1, b1⟩ := kk r u t T'.heap (locs ++ L) e1.symm (by rw [← e2]; exact X'.warmed.alike) hp hb k1 k2 k3 T' rfl X'
    exact ⟨t2, st t2 a1, b1⟩
  · obtain ⟨k1, k2, k3⟩ := vx_keep h0 e1 hS hAX hf hL hF
    obtain ⟨t2, a1, b1⟩ := kx E ce q u t T'.heap (locs ++ L) e1.symm (by rw [← e2]; exact X'.warmed.alike) hp hb k1 k2 k3 (by rw [e1]; exact hce) hcv hcl T' rfl X'
    exact ⟨t2, st.trans a1, b1⟩
theorem vx_calld {S SX : Type} {post : UInt64 → S → Prop} {px : SX → Prop} {B : S → State → Prop} {BX : String → SX → State → Prop} {AX : Nat → Prop} (hr : vx_Run p l e R s m args below meth c H locs cells slots mc ms (F0 m pc ls st0) rest (va_Qd post B A1 a) (vx_X px BX AX) free) (hS : va_S A0 H0 H locs) (hA : ∀ q, q < H.size → A1 q → A0 q) (hf : ∀ q, free q → A0 q) (hAX : ∀ q, q < H.size → AX q → A0 q)
    (kx : ∀ (E : String) (ce : Cell) (q9 : Addr) (u : SX) (t : State) (H1 : Heap) (locs1 : List Loc), t.heap = H1 → s.vm.Alike t.vm → px u → BX E u t → H.size ≤ H1.size → (∀ q : Nat, q < H.size → ¬ AX q → H1[q]? = H[q]?) → va_S A0 H0 H1 locs1 → H1[q9]? = some ce → ce.vm = .none → s.vm.findClass E = some ce.cls → vx_W p l e R s m args below meth c H1 locs1 (cells + mc) (slots + ms) Q (F0 m pc ls rest) q9)
    (kk : ∀ (r : UInt64) (u : S) (t : State) (H1 : Heap) (locs1 : List Loc), t.heap = H1 → s.vm.Alike t.vm → post r u → B u t → H.size ≤ H1.size → (∀ q : Nat, q < H.size → ¬ A1 q → H1[q]? = H[q]?) → va_S A0 H0 H1 locs1 → W p l e R s m args below meth c H1 locs1 (cells + mc) (slots + ms) Q (F0 m (pc + 3) ls (.double r :: rest))) : W p l e R s m args below meth c H locs cells slots Q (F0 m pc ls st0) := by
  intro T hT X
  rcases hr T hT X with ⟨v, st₀, t, T', L, h0, X', hL, e1, e2, ⟨⟨r, u, hv, hp, hb⟩, hF⟩, st⟩ | ⟨q, st₀, t, T', L, E, ce, h0, X', hL, e1, e2, ⟨u, hp, hb, hF⟩, hce, hcv, hcl, st⟩
  · cases hv
    obtain ⟨k1, k2, k3⟩ := vx_keep h0 e1 hS hA hf hL hF
    obtain ⟨t2, a1, b1⟩ := kk r u t T'.heap (locs ++ L) e1.symm (by rw [← e2]; exact X'.warmed.alike) hp hb k1 k2 k3 T' rfl X'
    exact ⟨t2, st t2 a1, b1⟩
  · obtain ⟨k1, k2, k3⟩ := vx_keep h0 e1 hS hAX hf hL hF
    obtain ⟨t2, a1, b1⟩ := kx E ce q u t T'.heap (locs ++ L) e1.symm (by rw [← e2]; exact X'.warmed.alike) hp hb k1 k2 k3 (by rw [e1]; exact hce) hcv hcl T' rfl X'
    exact ⟨t2, st.trans a1, b1⟩
theorem vx_callv {S SX : Type} {post : S → Prop} {px : SX → Prop} {B : S → State → Prop} {BX : String → SX → State → Prop} {AX : Nat → Prop} (hr : vx_Run p l e R s m args below meth c H locs cells slots mc ms (F0 m pc ls st0) rest (va_Qv post B A1 a) (vx_X px BX AX) free) (hS : va_S A0 H0 H locs) (hA : ∀ q, q < H.size → A1 q → A0 q) (hf : ∀ q, free q → A0 q) (hAX : ∀ q, q < H.size → AX q → A0 q)
    (kx : ∀ (E : String) (ce : Cell) (q9 : Addr) (u : SX) (t : State) (H1 : Heap) (locs1 : List Loc), t.heap = H1 → s.vm.Alike t.vm → px u → BX E u t → H.size ≤ H1.size → (∀ q : Nat, q < H.size → ¬ AX q → H1[q]? = H[q]?) → va_S A0 H0 H1 locs1 → H1[q9]? = some ce → ce.vm = .none → s.vm.findClass E = some ce.cls → vx_W p l e R s m args below meth c H1 locs1 (cells + mc) (slots + ms) Q (F0 m pc ls rest) q9)
    (kk : ∀ (u : S) (t : State) (H1 : Heap) (locs1 : List Loc), t.heap = H1 → s.vm.Alike t.vm → post u → B u t → H.size ≤ H1.size → (∀ q : Nat, q < H.size → ¬ A1 q → H1[q]? = H[q]?) → va_S A0 H0 H1 locs1 → W p l e R s m args below meth c H1 locs1 (cells + mc) (slots + ms) Q (F0 m (pc + 3) ls (rest))) : W p l e R s m args below meth c H locs cells slots Q (F0 m pc ls st0) := by
  intro T hT X
  rcases hr T hT X with ⟨v, st₀, t, T', L, h0, X', hL, e1, e2, ⟨⟨u, hv, hp, hb⟩, hF⟩, st⟩ | ⟨q, st₀, t, T', L, E, ce, h0, X', hL, e1, e2, ⟨u, hp, hb, hF⟩, hce, hcv, hcl, st⟩
  · cases hv
    obtain ⟨k1, k2, k3⟩ := vx_keep h0 e1 hS hA hf hL hF
    obtain ⟨t2, a1, b1⟩ := kk u t T'.heap (locs ++ L) e1.symm (by rw [← e2]; exact X'.warmed.alike) hp hb k1 k2 k3 T' rfl X'
    exact ⟨t2, st t2 a1, b1⟩
  · obtain ⟨k1, k2, k3⟩ := vx_keep h0 e1 hS hAX hf hL hF
    obtain ⟨t2, a1, b1⟩ := kx E ce q u t T'.heap (locs ++ L) e1.symm (by rw [← e2]; exact X'.warmed.alike) hp hb k1 k2 k3 (by rw [e1]; exact hce) hcv hcl T' rfl X'
    exact ⟨t2, st.trans a1, b1⟩
/-- caught by the row x of this method's table; the rows ahead don't take it -/
theorem vx_catch {own name : String} {E : String} {ce : Cell} {q : Addr} (hown : s.vm.findClass own = some m.cls) (pre : List ExceptionTableEntry) (x : ExceptionTableEntry) (suf : List ExceptionTableEntry) (hsplit : c.exceptionTable.toList = pre ++ x :: suf)
    (hpass : ∀ z ∈ pre, covers z pc = false ∨ (z.catchType ≠ 0 ∧ ∃ nm : String, (Cond.classLink own z.catchType nm).before args s = true ∧ va_Nc E nm s)) (hx : covers x pc = true) (h0 : x.catchType ≠ 0)
    (hlink : (Cond.classLink own x.catchType name).before args s = true) (hcast : (Cond.castable E name).before args s = true) (hcell : H[q]? = some ce) (hv : ce.vm = .none) (hcl : s.vm.findClass E = some ce.cls)
    (kk : W p l e R s m args below meth c H locs cells slots Q (F0 m x.handlerPc ls [.ref q])) : vx_W p l e R s m args below meth c H locs cells slots Q (F0 m pc ls rest) q := by
  intro T hT X
  have hpl : e.platform.magicAccessors = ({} : Platform).magicAccessors := by rw [X.admits.platform]
  obtain ⟨c3, c4, hc3, hc4, hasg⟩ := Cond.castable_spec hcast
  cases Option.some.inj (hc3.symm.trans hcl)
  obtain ⟨c5, hc5, hcl5⟩ := Cond.classLink_spec hown hlink e.platform hpl
  cases Option.some.inj (hc4.symm.trans hc5)
  obtain ⟨vm', X', st⟩ := X.thenCaughtThrough q (g := F0 m pc ls rest) rfl (Steps.refl _) (by rw [hT]; exact hcell) (by rw [hv]; rfl) (by obtain ⟨k9, h9, -⟩ := Vm.findClass_spec hcl; exact ⟨k9, h9⟩) pre x suf hsplit
    (fun z hz => by
      rcases hpass z hz with h | ⟨hz0, nm, hl1, hn1⟩
      · exact Or.inl h
      · obtain ⟨c6, hc6, hcl6⟩ := Cond.classLink_spec hown hl1 e.platform hpl
        obtain ⟨a8, b8, h1, h2, h3⟩ := hn1
        cases Option.some.inj (h1.symm.trans hcl)
        cases Option.some.inj (h2.symm.trans hc6)
        exact Or.inr ⟨hz0, _, hcl6, h3⟩) hx (Or.inr ⟨h0, c4, hcl5, hasg⟩)
  obtain ⟨t, a1, b1⟩ := kk (T.setVm vm') hT X'
  exact ⟨t, st.trans a1, b1⟩
end Rows
section Ends
variable {p : Program} {l : Launch} {e : Env} {R : Room} {s : State} {m : MethodId} {args : Array Value} {below : List Frame} {meth : Method} {c : Code} {H : Heap} {locs : List Loc} {cells slots : Nat} {Q : State → Prop}
variable {mc ms : Nat} {free : Addr → Prop} {A0 A1 : Nat → Prop} {H0 : Heap} {a : Array Value} {ls : Array Slot} {st0 rest : List Value}
variable {Qc : Array Value → State → Outcome → State → Prop} {XC : String → State → State → Prop}
/-- what a body that may throw owes at its end -/
def vx_MQ (below : List Frame) (Qc : Array Value → State → Outcome → State → Prop) (XC : String → State → State → Prop) (a : Array Value) (s : State) (mc ms : Nat) (free : Addr → Prop) : State → Prop := fun t =>
  ∃ o, t.status = .running ∧ Ended t below o ∧ vx_Q Qc XC mc ms free a s o t
theorem vx_ret {g : JFrame} {mc ms : Nat} (k : W p l e R s m args below meth c H locs cells slots (MQ below Qc args s mc ms free) g) : W p l e R s m args below meth c H locs cells slots (vx_MQ below Qc XC args s mc ms free) g := by
  intro T hT X
  obtain ⟨t, a1, o, b1, b2, b3, b4⟩ := k T hT X
  exact ⟨t, a1, o, b1, b2, Or.inl ⟨b3, b4⟩⟩
/-- not caught here: it goes on to the caller -/
theorem vx_widen {g : JFrame} {q : Addr} {k n : Nat} (h1 : cells ≤ k) (h2 : slots ≤ n) (kk : vx_W p l e R s m args below meth c H locs k n Q g q) : vx_W p l e R s m args below meth c H locs cells slots Q g q := fun T hT X => kk T hT (stand_widen X h1 h2)
theorem vx_out {pc : Nat} {E : String} {ce : Cell} {q : Addr} {mc ms : Nat} (hout : ∀ x ∈ c.exceptionTable.toList, covers x pc = false) (hlocks : meth.locks = false) (hcell : H[q]? = some ce) (hv : ce.vm = .none) (hcl : s.vm.findClass E = some ce.cls)
    (hx : ∀ t : State, t.heap = H → s.vm.Alike t.vm → XC E s t) (hf : ∀ z ∈ locs, free z.base) (hc : cells ≤ mc) (hs : slots ≤ ms) :
    vx_W p l e R s m args below meth c H locs cells slots (vx_MQ below Qc XC args s mc ms free) (F0 m pc ls rest) q := by
  intro T hT X
  obtain ⟨st1, hrun, hend, hW, hsm⟩ := X.leaveThrown q (g := F0 m pc ls rest) rfl rfl rfl hout hlocks
  have hcell9 : (T.setFrames (.throwing q :: below)).heap[q]? = some ce := by
    show T.heap[q]? = some ce
    rw [hT]; exact hcell
  exact ⟨_, st1, .threw q, hrun, hend, Or.inr ⟨q, rfl, E, ce, locs, hx _ hT hW.alike, hcell9, hv, hcl, hW, hsm.mono hc hs, hf⟩⟩
theorem vx_frame {U : State} {k n : Nat} (h : s.sameButNew ({ U with vm := s.vm } : State) locs k n) : s.heap.size ≤ U.heap.size ∧ ∀ q : Nat, q < s.heap.size → (∀ z ∈ locs, z.base ≠ q) → U.heap[q]? = s.heap[q]? := by
  obtain ⟨-, h2, -, -, -, h6⟩ := h
  refine ⟨h2, fun q hq hz => ?_⟩
  obtain ⟨c9, e1, e2, e3, e4⟩ := h6 q _ (Array.getElem?_eq_getElem hq)
  have hs : c9.slots = (s.heap[q]).slots := Array.ext_getElem? fun i => e4 i fun hm => hz _ hm rfl
  have h9 : c9 = s.heap[q] := by
    rw [hs] at e2
    exact e2
  have e5 : U.heap[q]? = some c9 := e1
  rw [e5, h9, Array.getElem?_eq_getElem hq]
/-- the words of a throw but the four that speak of the heap -/
def vx_no (w : Cond) : Bool := decide (w ≠ .isRef (.static Bundle.tN "UNASSIGNED_STACK" Bundle.steD)) && decide (w ≠ .isRef (.static Bundle.tN "SUPPRESSED_SENTINEL" Bundle.listD)) && decide (w ≠ .laysStatic Bundle.tN "UNASSIGNED_STACK" Bundle.steD) && decide (w ≠ .laysStatic Bundle.tN "SUPPRESSED_SENTINEL" Bundle.listD)
def vx_at0 (own : String) (ic : Nat) (X : String) (names : List String) : List Cond := (Bundle.ownAtoms0 own ic X names).filter vx_no
def vx_atS (own : String) (ic : Nat) (X : String) (names : List String) : List Cond := (Bundle.ownAtoms own ic X names).filter vx_no
/-- a word that the tables alone decide, or a good one -/
def vx_ot (w : Cond) : Bool := w.onTables || goodWord w
theorem vx_ot_at {args a' : Array Value} {s U : State} {w : Cond} (hW : s.WarmedH U.vm) (hvm : s.vm = U.vm) (hg : vx_ot w = true) (h : w.before args s = true) : w.before a' U = true := by
  simp only [vx_ot, Bool.or_eq_true] at hg
  rcases hg with hg | hg
  · exact va_tabs hg hvm h
  · exact word_at hW (good_of_word hg) h
/-- a list's words: the good ones out of the method's own list, the others by premises of their own -/
theorem vx_hat {args : Array Value} {s : State} {L B : List Cond} (h1 : ∀ w ∈ L.filter goodWord, w.before args s = true) (h2 : ∀ w ∈ L.filter (fun w => !goodWord w), w ∈ B) (h3 : ∀ w ∈ B, w.before args s = true) : ∀ w ∈ L, w.before args s = true := by
  intro w hw
  by_cases g : goodWord w = true
  · exact h1 w (List.mem_filter.mpr ⟨hw, g⟩)
  · refine h3 w (h2 w (List.mem_filter.mpr ⟨hw, ?_⟩))
    show (!goodWord w) = true
    cases hgw : goodWord w
    · rfl
    · exact absurd hgw g
theorem vx_c {args : Array Value} {s : State} {w : Cond} {B : List Cond} (h : w.before args s = true) (t : ∀ w ∈ B, w.before args s = true) : ∀ w' ∈ w :: B, w'.before args s = true := fun w' h' => (List.mem_cons.mp h').elim (fun e => by rw [e]; exact h) (t w')
theorem vx_n {args : Array Value} {s : State} : ∀ w ∈ ([] : List Cond), w.before args s = true := fun _ h => nomatch h
theorem vx_own {args : Array Value} {s : State} {L : List Cond} (h1 : ∀ w ∈ L.filter vx_no, w.before args s = true)
    (hU : (Cond.isRef (.static Bundle.tN "UNASSIGNED_STACK" Bundle.steD)).before args s = true) (hN : (Cond.isRef (.static Bundle.tN "SUPPRESSED_SENTINEL" Bundle.listD)).before args s = true)
    (lU : (Cond.laysStatic Bundle.tN "UNASSIGNED_STACK" Bundle.steD).before args s = true) (lN : (Cond.laysStatic Bundle.tN "SUPPRESSED_SENTINEL" Bundle.listD).before args s = true) : ∀ w ∈ L, w.before args s = true := by
  intro w hw
  by_cases e1 : w = .isRef (.static Bundle.tN "UNASSIGNED_STACK" Bundle.steD)
  · rw [e1]; exact hU
  · by_cases e2 : w = .isRef (.static Bundle.tN "SUPPRESSED_SENTINEL" Bundle.listD)
    · rw [e2]; exact hN
    · by_cases e3 : w = .laysStatic Bundle.tN "UNASSIGNED_STACK" Bundle.steD
      · rw [e3]; exact lU
      · by_cases e4 : w = .laysStatic Bundle.tN "SUPPRESSED_SENTINEL" Bundle.listD
        · rw [e4]; exact lN
        · exact h1 w (List.mem_filter.mpr ⟨hw, by unfold vx_no; rw [decide_eq_true e1, decide_eq_true e2, decide_eq_true e3, decide_eq_true e4]; rfl⟩)
/-- where a static field lies, its class's statics cell in H -/
def vx_L (C n d : String) (A : Nat → Prop) (U : State) (H : Heap) : Prop := ∃ (c : ClassId) (k : Class) (i : Nat) (f : Field) (a : Nat) (cell : Cell), U.vm.findClass C = some c ∧ U.fieldFound? C n d = some (c, k, i, f) ∧ f.isStatic = true ∧ k.statics = some a ∧ H[a]? = some cell ∧ cell.vm.isStatics = true ∧ cell.cls = c ∧ f.slot < cell.slots.size ∧ k.staticTypes[f.slot]? = some f.type ∧ ¬ A a
theorem vx_L.moved {C n d : String} {A : Nat → Prop} {u U : State} {H : Heap} (hvm : u.vm.Alike U.vm) (h : vx_L C n d A u H) : vx_L C n d A U H := by
  obtain ⟨c, k, i, f, a, cell, h1, h2, h3, h4, h5, h6, h7, h8, h9, h10⟩ := h
  obtain ⟨k', hi', he⟩ := State.fieldFound?_setVm hvm h2
  exact ⟨c, k', i, f, a, cell, by rw [hvm.findClass]; exact h1, hi', h3, by rw [he]; exact h4, h5, h6, h7, h8, by rw [he]; exact h9, h10⟩
theorem vx_L.kept {C n d : String} {A : Nat → Prop} {U : State} {H H1 : Heap} (h : vx_L C n d A U H) (hq : ∀ a : Nat, a < H.size → ¬ A a → H1[a]? = H[a]?) : vx_L C n d A U H1 := by
  obtain ⟨c, k, i, f, a, cell, h1, h2, h3, h4, h5, h6, h7, h8, h9, h10⟩ := h
  exact ⟨c, k, i, f, a, cell, h1, h2, h3, h4, by rw [hq a (Array.getElem?_eq_some_iff.mp h5).1 h10]; exact h5, h6, h7, h8, h9, h10⟩
theorem vx_L.narrow {C n d : String} {A B : Nat → Prop} {U : State} {H : Heap} (h : vx_L C n d A U H) (hAB : ∀ q, B q → A q) : vx_L C n d B U H := by
  obtain ⟨c, k, i, f, a, cell, h1, h2, h3, h4, h5, h6, h7, h8, h9, h10⟩ := h
  exact ⟨c, k, i, f, a, cell, h1, h2, h3, h4, h5, h6, h7, h8, h9, fun z => h10 (hAB _ z)⟩
theorem vx_L.word {C n d : String} {A : Nat → Prop} {s : State} {args : Array Value} (h : vx_L C n d A s s.heap) : (Cond.laysStatic C n d).before args s = true := by
  obtain ⟨c, k, i, f, a, cell, h1, h2, h3, h4, h5, h6, h7, h8, h9, -⟩ := h
  show (Cond.laysStatic C n d).holds args s none s [] = true
  exact Cond.laysStatic_of h1 h2 h3 h4 h5 h6 h7 h8 h9
/-- .. and what it holds: null or some reference -/
def vx_Zq (C n d : String) (A : Nat → Prop) (U : State) (H : Heap) : Prop := va_Zq C n d A U H ∧ vx_L C n d A U H
theorem vx_Zq.moved {C n d : String} {A : Nat → Prop} {u U : State} {H : Heap} (hvm : u.vm.Alike U.vm) (h : vx_Zq C n d A u H) : vx_Zq C n d A U H := ⟨va_Zq.moved hvm h.1, vx_L.moved hvm h.2⟩
theorem vx_Zq.kept {C n d : String} {A : Nat → Prop} {U : State} {H H1 : Heap} (h : vx_Zq C n d A U H) (hq : ∀ a : Nat, a < H.size → ¬ A a → H1[a]? = H[a]?) : vx_Zq C n d A U H1 := ⟨va_Zq.kept h.1 hq, vx_L.kept h.2 hq⟩
theorem vx_Zq.narrow {C n d : String} {A B : Nat → Prop} {U : State} {H : Heap} (h : vx_Zq C n d A U H) (hAB : ∀ q, B q → A q) : vx_Zq C n d B U H := ⟨va_Zq.narrow h.1 hAB, vx_L.narrow h.2 hAB⟩
theorem vx_Zqof {args : Array Value} {s : State} {C n d : String} {A : Nat → Prop} (hl : (Cond.laysStatic C n d).before args s = true) (hini : (Cond.initialized C).before args s = true) (h : (Cond.isRef (.static C n d)).before args s = true) (hA : ∀ a : Nat, a < s.heap.size → ¬ A a) : vx_Zq C n d A s s.heap := by
  refine ⟨va_Zqof hl hini h hA, ?_⟩
  obtain ⟨c, k, i, f, a, cell, h1, h2, h3, h4, h5, h6, h7, h8, h9⟩ := Cond.laysStatic_spec hl
  exact ⟨c, k, i, f, a, cell, h1, h2, h3, h4, h5, h6, h7, h8, h9, hA a (Array.getElem?_eq_some_iff.mp h5).1⟩
theorem vx_isRef {C n d : String} {v : Value} {A : Nat → Prop} {s : State} {args : Array Value} (h : va_Z C n d v A s s.heap) (hv : v.isRef = true) : (Cond.isRef (.static C n d)).before args s = true := by
  obtain ⟨cf, kf, fi, f, a, cell, h1, h2, h3, h4, h5, h6, h7, -⟩ := h
  have he : (Term.static C n d).eval args s none [] s = some v := by
    simp [Term.eval, State.fieldNamed?, h1, h2, h4, h5, h6, h7]
  simp only [Cond.before, Cond.holds, Cond.value, he]
  cases v <;> simp_all [Value.isRef]
theorem vx_isRefq {C n d : String} {A : Nat → Prop} {s : State} {args : Array Value} (h : va_Zq C n d A s s.heap) : (Cond.isRef (.static C n d)).before args s = true := by
  rcases h with h | ⟨t, h⟩
  · exact vx_isRef h rfl
  · exact vx_isRef h rfl
/-- the same frame, seen from here: as if the method were called anew in this heap -/
theorem vx_rebase {T : State} (X : Stand p l e R s m args below meth c T locs cells slots) {R' : Room} (hf : R'.frames ≤ R.frames) (hl : R'.locals ≤ R.locals) (hc : cells + R'.cells ≤ R.cells) (hs : slots + R'.slots ≤ R.slots) :
    Stand p l e R' ((T.setVm s.vm).setFrames (.invoking m args :: below)) m args below meth c T [] 0 0 := by
  have htop : (T.setVm s.vm).topJava?.isSome := X.here.top
  have hF : ((T.setVm s.vm).setFrames (.invoking m args :: below)).frames = .invoking m args :: below := State.frames_setFrames _ (State.cur_lt_of_top htop)
  obtain ⟨g₀, hg0⟩ := Option.isSome_iff_exists.mp htop
  obtain ⟨r, hr⟩ := State.topJava?_eq_some.mp hg0
  have hl9 : e.platform.stackLimits (T.setVm s.vm).me = e.platform.stackLimits s.me := X.limits
  have hb9 : (T.setVm s.vm).me.stackBytes = s.me.stackBytes := X.bytes
  refine ⟨X.admits, X.cas, X.clock, hF, ?_, X.hears, X.method, X.code, X.here, X.tail, X.warmed, ?_, ?_, ?_⟩
  · have h := X.room
    have hU : ((T.setVm s.vm).setFrames (.invoking m args :: below)).localsInUse = s.localsInUse := by
      rw [State.localsInUse_invoking hF (meth := meth) (c := c) X.method X.code, State.localsInUse_invoking X.frames X.method X.code]
    simp only [State.hasRoom, Bool.and_eq_true, decide_eq_true_eq] at h ⊢
    obtain ⟨⟨⟨⟨h1, h2, h3, h4, h5, h6⟩, h7⟩, h8⟩, h9⟩ := h
    rw [X.frames, List.length_cons] at h2 h3
    have q1 := X.heapSize
    have q2 := X.used
    simp only [hF, hU, List.length_cons, State.stackLimits_setFrames, State.stackBytes_setFrames, hl9, hb9]
    refine ⟨⟨⟨⟨by omega, by omega, by omega, by omega, by omega, h6⟩, ?_⟩, ?_⟩, X.book⟩
    · show T.heap.size + R'.cells ≤ e.platform.maxCells
      omega
    · show T.slotsUsed + R'.slots ≤ e.platform.maxSlots
      omega
  · rw [State.stackLimits_setFrames]; rfl
  · rw [State.stackBytes_setFrames]; rfl
  · refine ⟨?_, Nat.le_refl _, Nat.le_refl _, ?_, ?_, fun a c9 h9 => ⟨c9, h9, rfl, rfl, fun _ _ => rfl⟩⟩
    · obtain ⟨t, ht, -⟩ := State.frames_cons hr
      show T.setVm s.vm = { ((T.setVm s.vm).setFrames (.invoking m args :: below)).setFrames (T.setVm s.vm).frames with heap := T.heap, slotsUsed := T.slotsUsed }
      rw [State.setFrames_setFrames, State.setFrames_self ht]
      rfl
    · show T.slotsUsed = T.slotsUsed + ((T.heap.toList.drop T.heap.size).map (·.slots.size)).sum
      rw [List.drop_eq_nil_of_le (Nat.le_of_eq Array.length_toList)]
      rfl
    · show ((T.heap.toList.drop T.heap.size).map (·.slots.size)).sum ≤ 0
      rw [List.drop_eq_nil_of_le (Nat.le_of_eq Array.length_toList)]
      exact Nat.le_refl _
/-- 'throw new E()': new; dup; invokespecial; athrow -/
theorem vx_throw0 {cc : ByteArray} {pc : Nat} (hexec : p.tables.exec = Jvm.exec) (hb : c.code = cc) (hl : l.stackTraces = false) {own cls : String} {names : List String} {ik ic mc ms : Nat} {A : Nat → Prop}
    (hown : s.vm.findClass own = some m.cls) (hcls : Bundle.fit cls = true) (hnames : ∀ n ∈ names, Bundle.fit n = true)
    (hk : (Cond.classLink own ik cls).before args s = true) (hini : (Cond.initialized cls).before args s = true) (hat : ∀ w ∈ vx_at0 own ic cls names, w.before args s = true)
    (hgood : ∀ w ∈ Cond.classLink own ik cls :: Cond.initialized cls :: vx_at0 own ic cls names, vx_ot w = true)
    (hU : vx_Zq Bundle.tN "UNASSIGNED_STACK" Bundle.steD A s s.heap) (hN : vx_Zq Bundle.tN "SUPPRESSED_SENTINEL" Bundle.listD A s s.heap) (hS : va_S A s.heap H locs) (hsize : ls.size = c.maxLocals)
    (d0 : decode cc pc = .ok (.new ik, 3)) (d3 : decode cc (pc + 3) = .ok (.dup, 1)) (d4 : decode cc (pc + 4) = .ok (.invokespecial ic, 3)) (d7 : decode cc (pc + 7) = .ok (.athrow, 1))
    (hout : ∀ x ∈ c.exceptionTable.toList, covers x (pc + 7) = false)
    (hRframes : names.length + 3 < R.frames) (hRlocals : (rest.map fun v => v.category).sum + (13 * (names.length + 1) + 42) ≤ R.locals) (hRcells : cells + 1 ≤ R.cells) (hRslots : slots + 6 ≤ R.slots) (hlocks : meth.locks = false)
    (hx : ∀ t : State, s.vm.Alike t.vm → H.size ≤ t.heap.size → (∀ q : Nat, q < H.size → t.heap[q]? = H[q]?) → XC cls s t)
    (hf : ∀ z ∈ locs, free z.base) (hc : cells + 1 ≤ mc) (hs : slots + 6 ≤ ms) :
    W p l e R s m args below meth c H locs cells slots (vx_MQ below Qc XC args s mc ms free) (F0 m pc ls rest) := by
  intro T hT X
  have htr : e.platform.stackTraces = false := (show e.platform.stackTraces = l.stackTraces by rw [X.admits.platform]).trans hl
  have Y := vx_rebase X (R' := { frames := R.frames, locals := R.locals, cells := 1, slots := 6 }) (Nat.le_refl _) (Nat.le_refl _) hRcells hRslots
  obtain ⟨s', hA⟩ : ∃ z, z = (T.setVm s.vm).setFrames (.invoking m args :: below) := ⟨_, rfl⟩
  rw [← hA] at Y
  have hvm : s'.vm = s.vm := by rw [hA]; rfl
  have hhp : s'.heap = H := by rw [hA]; exact hT
  have hW0 : s.WarmedH s'.vm := by rw [hvm]; exact State.WarmedH.refl s
  have hat' : ∀ w ∈ vx_at0 own ic cls names, w.before args s' = true := fun w hw => vx_ot_at hW0 hvm.symm (hgood w (List.mem_cons_of_mem _ (List.mem_cons_of_mem _ hw))) (hat w hw)
  have hk' : (Cond.classLink own ik cls).before args s' = true := vx_ot_at hW0 hvm.symm (hgood _ List.mem_cons_self) hk
  have hini' : (Cond.initialized cls).before args s' = true := vx_ot_at hW0 hvm.symm (hgood _ (List.mem_cons_of_mem _ List.mem_cons_self)) hini
  have hU' : vx_Zq Bundle.tN "UNASSIGNED_STACK" Bundle.steD A s' s'.heap := by rw [hhp]; exact vx_Zq.moved hW0.alike (hU.kept hS.2.1)
  have hN' : vx_Zq Bundle.tN "SUPPRESSED_SENTINEL" Bundle.listD A s' s'.heap := by rw [hhp]; exact vx_Zq.moved hW0.alike (hN.kept hS.2.1)
  have h : ∀ w ∈ Bundle.ownAtoms0 own ic cls names, w.before args s' = true := vx_own hat' (vx_isRefq hU'.1) (vx_isRefq hN'.1) hU'.2.word hN'.2.word
  have hown' : s'.vm.findClass own = some m.cls := by rw [hvm]; exact hown
  have hins : (Cond.instantiable cls 6).before args s' = true := h _ (by simp [Bundle.ownAtoms0])
  obtain ⟨vm₁, cX, kX, hfX, hkX, -, -, X₁, st1⟩ := Y.newCold hexec (own := own) (C := cls) (index := ik) (n := 6) hown' hk' hins hini'
    (g := F0 m pc ls rest) rfl (by rw [hb]; exact d0) (Nat.le_refl _) (Nat.le_refl _)
  generalize hT1 : (T.setVm vm₁).pushCell { cls := cX, slots := kX.instanceTypes.map defaultValue, vm := .none } = T1 at X₁ st1
  have hcat : (Value.ref T.heap.size).category = 1 := rfl
  have hcellA : T1.heap[T.heap.size]? = some (freshCell cX kX) := by rw [← hT1]; exact State.heap_pushCell_size _ _
  have d3' : decode c.code (pc + 3) = .ok (.dup, 1) := by rw [hb]; exact d3
  obtain ⟨U, hsteps, hrun, hend, hW, hsame, ce, hce, hO⟩ := X₁.ctorThrow0 hexec htr (own := own) (cls := cls) (names := names) (ic := ic) hown' hcls hnames h (fun x hx => nomatch hx) hfX hkX hcellA (by rw [hhp, hT]; exact Nat.le_refl _)
    (g := { method := m, pc := pc + 4, locals := ls, stack := .ref T.heap.size :: .ref T.heap.size :: rest, locked := none }) rfl hsize rfl rfl (rest := rest) rfl
    (by rw [hb]; exact d4) (by rw [hb]; exact d7) hout hRframes (by simp only [List.map_cons, List.sum_cons, hcat]; omega) hlocks
  obtain ⟨f1, f2⟩ := vx_frame hsame
  rw [hhp] at f1 f2
  have hWs : s.WarmedH U.vm := State.WarmedH.trans hW0 hW
  have hcl : s.vm.findClass cls = some ce.cls := by
    have h9 := hO.cls
    rw [hvm] at h9
    exact h9
  have hall : s.sameButNew ({ U with vm := s.vm } : State) locs mc ms := by
    subst hA
    obtain ⟨e1, e2⟩ := hsame
    rw [State.setFrames_setFrames] at e1
    have h2 : (T.setVm s.vm).sameButNew ({ U with vm := s.vm } : State) [] (0 + 1) (0 + 6) := ⟨e1, e2⟩
    have h3 := X.same.trans h2
    rw [List.append_nil] at h3
    exact h3.mono hc hs
  refine ⟨U, ?_, .threw T.heap.size, hrun, hend, Or.inr ⟨T.heap.size, rfl, cls, ce, locs, hx U hWs.alike f1 (fun q hq => f2 q hq (fun z hz => nomatch hz)), hce, hO.vm, hcl, hWs, hall, hf⟩⟩
  refine st1 _ ?_
  show Steps p.tables e below (T1.setTop { method := m, pc := pc + 3, locals := ls, stack := .ref T.heap.size :: rest, locked := none }) _
  jvm_step X₁.here [X₁.here.top, hexec, d3', Value.category]
  exact hsteps
/-- 'throw new E("text")': new; dup; ldc; invokespecial; athrow -/
theorem vx_throwS {cc : ByteArray} {pc : Nat} (hexec : p.tables.exec = Jvm.exec) (hb : c.code = cc) (hl : l.stackTraces = false) {own cls text : String} {names : List String} {ik is ic mc ms sa : Nat} {A : Nat → Prop}
    (hown : s.vm.findClass own = some m.cls) (hcls : Bundle.fit cls = true) (hnames : ∀ n ∈ names, Bundle.fit n = true)
    (hk : (Cond.classLink own ik cls).before args s = true) (hini : (Cond.initialized cls).before args s = true) (hstr : vk_R own is text sa s) (hat : ∀ w ∈ vx_atS own ic cls names, w.before args s = true)
    (hgood : ∀ w ∈ Cond.classLink own ik cls :: Cond.initialized cls :: vx_atS own ic cls names, vx_ot w = true)
    (hU : vx_Zq Bundle.tN "UNASSIGNED_STACK" Bundle.steD A s s.heap) (hN : vx_Zq Bundle.tN "SUPPRESSED_SENTINEL" Bundle.listD A s s.heap) (hS : va_S A s.heap H locs) (hsize : ls.size = c.maxLocals)
    (d0 : decode cc pc = .ok (.new ik, 3)) (d3 : decode cc (pc + 3) = .ok (.dup, 1)) (d4 : decode cc (pc + 4) = .ok (.ldc is, 2)) (d6 : decode cc (pc + 6) = .ok (.invokespecial ic, 3)) (d9 : decode cc (pc + 9) = .ok (.athrow, 1))
    (hout : ∀ x ∈ c.exceptionTable.toList, covers x (pc + 9) = false)
    (hRframes : names.length + 3 < R.frames) (hRlocals : (rest.map fun v => v.category).sum + (13 * (names.length + 1) + 43) ≤ R.locals) (hRcells : cells + 1 ≤ R.cells) (hRslots : slots + 6 ≤ R.slots) (hlocks : meth.locks = false)
    (hx : ∀ t : State, s.vm.Alike t.vm → H.size ≤ t.heap.size → (∀ q : Nat, q < H.size → t.heap[q]? = H[q]?) → XC cls s t)
    (hf : ∀ z ∈ locs, free z.base) (hc : cells + 1 ≤ mc) (hs : slots + 6 ≤ ms) :
    W p l e R s m args below meth c H locs cells slots (vx_MQ below Qc XC args s mc ms free) (F0 m pc ls rest) := by
  intro T hT X
  have htr : e.platform.stackTraces = false := (show e.platform.stackTraces = l.stackTraces by rw [X.admits.platform]).trans hl
  have Y := vx_rebase X (R' := { frames := R.frames, locals := R.locals, cells := 1, slots := 6 }) (Nat.le_refl _) (Nat.le_refl _) hRcells hRslots
  obtain ⟨s', hA⟩ : ∃ z, z = (T.setVm s.vm).setFrames (.invoking m args :: below) := ⟨_, rfl⟩
  rw [← hA] at Y
  have hvm : s'.vm = s.vm := by rw [hA]; rfl
  have hhp : s'.heap = H := by rw [hA]; exact hT
  have hW0 : s.WarmedH s'.vm := by rw [hvm]; exact State.WarmedH.refl s
  have hat' : ∀ w ∈ vx_atS own ic cls names, w.before args s' = true := fun w hw => vx_ot_at hW0 hvm.symm (hgood w (List.mem_cons_of_mem _ (List.mem_cons_of_mem _ hw))) (hat w hw)
  have hk' : (Cond.classLink own ik cls).before args s' = true := vx_ot_at hW0 hvm.symm (hgood _ List.mem_cons_self) hk
  have hini' : (Cond.initialized cls).before args s' = true := vx_ot_at hW0 hvm.symm (hgood _ (List.mem_cons_of_mem _ List.mem_cons_self)) hini
  have hU' : vx_Zq Bundle.tN "UNASSIGNED_STACK" Bundle.steD A s' s'.heap := by rw [hhp]; exact vx_Zq.moved hW0.alike (hU.kept hS.2.1)
  have hN' : vx_Zq Bundle.tN "SUPPRESSED_SENTINEL" Bundle.listD A s' s'.heap := by rw [hhp]; exact vx_Zq.moved hW0.alike (hN.kept hS.2.1)
  have h : ∀ w ∈ Bundle.ownAtoms own ic cls names, w.before args s' = true := vx_own hat' (vx_isRefq hU'.1) (vx_isRefq hN'.1) hU'.2.word hN'.2.word
  have hown' : s'.vm.findClass own = some m.cls := by rw [hvm]; exact hown
  have hins : (Cond.instantiable cls 6).before args s' = true := h _ (by simp [Bundle.ownAtoms])
  obtain ⟨vm₁, cX, kX, hfX, hkX, -, -, X₁, st1⟩ := Y.newCold hexec (own := own) (C := cls) (index := ik) (n := 6) hown' hk' hins hini'
    (g := F0 m pc ls rest) rfl (by rw [hb]; exact d0) (Nat.le_refl _) (Nat.le_refl _)
  generalize hT1 : (T.setVm vm₁).pushCell { cls := cX, slots := kX.instanceTypes.map defaultValue, vm := .none } = T1 at X₁ st1
  have hcat : (Value.ref T.heap.size).category = 1 := rfl
  have hcellA : T1.heap[T.heap.size]? = some (freshCell cX kX) := by rw [← hT1]; exact State.heap_pushCell_size _ _
  have d3' : decode c.code (pc + 3) = .ok (.dup, 1) := by rw [hb]; exact d3
  have d4' : decode c.code (pc + 4) = .ok (.ldc is, 2) := by rw [hb]; exact d4
  have hstr' : vk_R own is text sa s' := vk_R.warm hW0 hstr
  obtain ⟨U, hsteps, hrun, hend, hW, hsame, ce, hce, hO⟩ := X₁.ctorThrowS hexec htr (own := own) (cls := cls) (names := names) (ic := ic) hown' hcls hnames h (fun x hx => nomatch hx) hfX hkX hcellA (by rw [hhp, hT]; exact Nat.le_refl _) (msg := .ref sa) rfl
    (g := { method := m, pc := pc + 6, locals := ls, stack := .ref sa :: .ref T.heap.size :: .ref T.heap.size :: rest, locked := none }) rfl hsize rfl rfl (rest := rest) rfl
    (by rw [hb]; exact d6) (by rw [hb]; exact d9) hout hRframes (by simp only [List.map_cons, List.sum_cons, hcat]; omega) hlocks
  obtain ⟨f1, f2⟩ := vx_frame hsame
  rw [hhp] at f1 f2
  have hWs : s.WarmedH U.vm := State.WarmedH.trans hW0 hW
  have hcl : s.vm.findClass cls = some ce.cls := by
    have h9 := hO.cls
    rw [hvm] at h9
    exact h9
  have hall : s.sameButNew ({ U with vm := s.vm } : State) locs mc ms := by
    subst hA
    obtain ⟨e1, e2⟩ := hsame
    rw [State.setFrames_setFrames] at e1
    have h2 : (T.setVm s.vm).sameButNew ({ U with vm := s.vm } : State) [] (0 + 1) (0 + 6) := ⟨e1, e2⟩
    have h3 := X.same.trans h2
    rw [List.append_nil] at h3
    exact h3.mono hc hs
  refine ⟨U, ?_, .threw T.heap.size, hrun, hend, Or.inr ⟨T.heap.size, rfl, cls, ce, locs, hx U hWs.alike f1 (fun q hq => f2 q hq (fun z hz => nomatch hz)), hce, hO.vm, hcl, hWs, hall, hf⟩⟩
  refine st1 _ ?_
  show Steps p.tables e below (T1.setTop { method := m, pc := pc + 3, locals := ls, stack := .ref T.heap.size :: rest, locked := none }) _
  jvm_step X₁.here [X₁.here.top, hexec, d3', Value.category]
  exact X₁.ldcString hexec (own := own) (text := text) (index := is) (a := sa) hown' hstr'.1 hstr'.2
    (g := { method := m, pc := pc + 4, locals := ls, stack := .ref T.heap.size :: .ref T.heap.size :: rest, locked := none }) rfl d4' _ hsteps
/-- 'throw new E("text")', the text by a wide index -/
theorem vx_throwSW {cc : ByteArray} {pc : Nat} (hexec : p.tables.exec = Jvm.exec) (hb : c.code = cc) (hl : l.stackTraces = false) {own cls text : String} {names : List String} {ik is ic mc ms sa : Nat} {A : Nat → Prop}
    (hown : s.vm.findClass own = some m.cls) (hcls : Bundle.fit cls = true) (hnames : ∀ n ∈ names, Bundle.fit n = true)
    (hk : (Cond.classLink own ik cls).before args s = true) (hini : (Cond.initialized cls).before args s = true) (hstr : vk_R own is text sa s) (hat : ∀ w ∈ vx_atS own ic cls names, w.before args s = true)
    (hgood : ∀ w ∈ Cond.classLink own ik cls :: Cond.initialized cls :: vx_atS own ic cls names, vx_ot w = true)
    (hU : vx_Zq Bundle.tN "UNASSIGNED_STACK" Bundle.steD A s s.heap) (hN : vx_Zq Bundle.tN "SUPPRESSED_SENTINEL" Bundle.listD A s s.heap) (hS : va_S A s.heap H locs) (hsize : ls.size = c.maxLocals)
    (d0 : decode cc pc = .ok (.new ik, 3)) (d3 : decode cc (pc + 3) = .ok (.dup, 1)) (d4 : decode cc (pc + 4) = .ok (.ldc_w is, 3)) (d7 : decode cc (pc + 7) = .ok (.invokespecial ic, 3)) (d10 : decode cc (pc + 10) = .ok (.athrow, 1))
    (hout : ∀ x ∈ c.exceptionTable.toList, covers x (pc + 10) = false)
    (hRframes : names.length + 3 < R.frames) (hRlocals : (rest.map fun v => v.category).sum + (13 * (names.length + 1) + 43) ≤ R.locals) (hRcells : cells + 1 ≤ R.cells) (hRslots : slots + 6 ≤ R.slots) (hlocks : meth.locks = false)
    (hx : ∀ t : State, s.vm.Alike t.vm → H.size ≤ t.heap.size → (∀ q : Nat, q < H.size → t.heap[q]? = H[q]?) → XC cls s t)
    (hf : ∀ z ∈ locs, free z.base) (hc : cells + 1 ≤ mc) (hs : slots + 6 ≤ ms) :
    W p l e R s m args below meth c H locs cells slots (vx_MQ below Qc XC args s mc ms free) (F0 m pc ls rest) := by
  intro T hT X
  have htr : e.platform.stackTraces = false := (show e.platform.stackTraces = l.stackTraces by rw [X.admits.platform]).trans hl
  have Y := vx_rebase X (R' := { frames := R.frames, locals := R.locals, cells := 1, slots := 6 }) (Nat.le_refl _) (Nat.le_refl _) hRcells hRslots
  obtain ⟨s', hA⟩ : ∃ z, z = (T.setVm s.vm).setFrames (.invoking m args :: below) := ⟨_, rfl⟩
  rw [← hA] at Y
  have hvm : s'.vm = s.vm := by rw [hA]; rfl
  have hhp : s'.heap = H := by rw [hA]; exact hT
  have hW0 : s.WarmedH s'.vm := by rw [hvm]; exact State.WarmedH.refl s
  have hat' : ∀ w ∈ vx_atS own ic cls names, w.before args s' = true := fun w hw => vx_ot_at hW0 hvm.symm (hgood w (List.mem_cons_of_mem _ (List.mem_cons_of_mem _ hw))) (hat w hw)
  have hk' : (Cond.classLink own ik cls).before args s' = true := vx_ot_at hW0 hvm.symm (hgood _ List.mem_cons_self) hk
  have hini' : (Cond.initialized cls).before args s' = true := vx_ot_at hW0 hvm.symm (hgood _ (List.mem_cons_of_mem _ List.mem_cons_self)) hini
  have hU' : vx_Zq Bundle.tN "UNASSIGNED_STACK" Bundle.steD A s' s'.heap := by rw [hhp]; exact vx_Zq.moved hW0.alike (hU.kept hS.2.1)
  have hN' : vx_Zq Bundle.tN "SUPPRESSED_SENTINEL" Bundle.listD A s' s'.heap := by rw [hhp]; exact vx_Zq.moved hW0.alike (hN.kept hS.2.1)
  have h : ∀ w ∈ Bundle.ownAtoms own ic cls names, w.before args s' = true := vx_own hat' (vx_isRefq hU'.1) (vx_isRefq hN'.1) hU'.2.word hN'.2.word
  have hown' : s'.vm.findClass own = some m.cls := by rw [hvm]; exact hown
  have hins : (Cond.instantiable cls 6).before args s' = true := h _ (by simp [Bundle.ownAtoms])
  obtain ⟨vm₁, cX, kX, hfX, hkX, -, -, X₁, st1⟩ := Y.newCold hexec (own := own) (C := cls) (index := ik) (n := 6) hown' hk' hins hini'
    (g := F0 m pc ls rest) rfl (by rw [hb]; exact d0) (Nat.le_refl _) (Nat.le_refl _)
  generalize hT1 : (T.setVm vm₁).pushCell { cls := cX, slots := kX.instanceTypes.map defaultValue, vm := .none } = T1 at X₁ st1
  have hcat : (Value.ref T.heap.size).category = 1 := rfl
  have hcellA : T1.heap[T.heap.size]? = some (freshCell cX kX) := by rw [← hT1]; exact State.heap_pushCell_size _ _
  have d3' : decode c.code (pc + 3) = .ok (.dup, 1) := by rw [hb]; exact d3
  have d4' : decode c.code (pc + 4) = .ok (.ldc_w is, 3) := by rw [hb]; exact d4
  have hstr' : vk_R own is text sa s' := vk_R.warm hW0 hstr
  obtain ⟨U, hsteps, hrun, hend, hW, hsame, ce, hce, hO⟩ := X₁.ctorThrowS hexec htr (own := own) (cls := cls) (names := names) (ic := ic) hown' hcls hnames h (fun x hx => nomatch hx) hfX hkX hcellA (by rw [hhp, hT]; exact Nat.le_refl _) (msg := .ref sa) rfl
    (g := { method := m, pc := pc + 7, locals := ls, stack := .ref sa :: .ref T.heap.size :: .ref T.heap.size :: rest, locked := none }) rfl hsize rfl rfl (rest := rest) rfl
    (by rw [hb]; exact d7) (by rw [hb]; exact d10) hout hRframes (by simp only [List.map_cons, List.sum_cons, hcat]; omega) hlocks
  obtain ⟨f1, f2⟩ := vx_frame hsame
  rw [hhp] at f1 f2
  have hWs : s.WarmedH U.vm := State.WarmedH.trans hW0 hW
  have hcl : s.vm.findClass cls = some ce.cls := by
    have h9 := hO.cls
    rw [hvm] at h9
    exact h9
  have hall : s.sameButNew ({ U with vm := s.vm } : State) locs mc ms := by
    subst hA
    obtain ⟨e1, e2⟩ := hsame
    rw [State.setFrames_setFrames] at e1
    have h2 : (T.setVm s.vm).sameButNew ({ U with vm := s.vm } : State) [] (0 + 1) (0 + 6) := ⟨e1, e2⟩
    have h3 := X.same.trans h2
    rw [List.append_nil] at h3
    exact h3.mono hc hs
  refine ⟨U, ?_, .threw T.heap.size, hrun, hend, Or.inr ⟨T.heap.size, rfl, cls, ce, locs, hx U hWs.alike f1 (fun q hq => f2 q hq (fun z hz => nomatch hz)), hce, hO.vm, hcl, hWs, hall, hf⟩⟩
  refine st1 _ ?_
  show Steps p.tables e below (T1.setTop { method := m, pc := pc + 3, locals := ls, stack := .ref T.heap.size :: rest, locked := none }) _
  jvm_step X₁.here [X₁.here.top, hexec, d3', Value.category]
  exact X₁.ldcStringW hexec (own := own) (text := text) (index := is) (a := sa) hown' hstr'.1 hstr'.2
    (g := { method := m, pc := pc + 4, locals := ls, stack := .ref T.heap.size :: .ref T.heap.size :: rest, locked := none }) rfl d4' _ hsteps
end Ends
section Bodies
variable {l : Launch}
theorem vx_ofW {y : MethodName} {ws ws' : List Cond} {rm : Room} {Pc : Array Value → State → Prop} {Qc : Array Value → State → Outcome → State → Prop} {XC : String → State → State → Prop} {mc ms : Nat} {free : Addr → Prop} {cc : ByteArray} {maxL : Nat} {ret : Option FieldType}
    (hy : plainName y.cls = true) (hw : ws = Cond.code y cc maxL ret :: ws')
    (body : ∀ p e s m args below meth c s₁, BodyLoose p l y (headSpec ws rm) cc maxL ret e s m args below meth c s₁ → c.maxLocals = maxL → (∀ x ∈ c.exceptionTable.toList, False) → Pc args s →
      W p l e (headSpec ws rm).room s m args below meth c s.heap [] 0 0 (vx_MQ below Qc XC args s mc ms free) (entryFrame m args maxL)) : vx_Met l y ws rm Pc Qc XC mc ms free := by
  refine MetFree.of_bodyS (code := cc) (maxLocals := maxL) (ret := ret) hy ?_ ?_
  · intro args s m h hn
    obtain ⟨meth, c, h1, h2, h3, h4, h5, h6, -, -⟩ := Cond.code_spec hn (atoms_spec (ws := ws) h _ (by rw [hw]; exact List.mem_cons_self))
    exact ⟨meth, c, h1, h2, h3, h4, h5, h6⟩
  · intro p e s m args below meth c s₁ B hml hP _
    have hh0 : s₁.heap = s.heap := by rw [B.state]; rfl
    have ht : ∀ x ∈ c.exceptionTable.toList, False := by
      obtain ⟨meth9, c9, h1, h2, -, -, -, -, h7, -⟩ := Cond.code_spec B.named (atoms_spec (ws := ws) B.pre _ (by rw [hw]; exact List.mem_cons_self))
      cases Option.some.inj (h1.symm.trans B.method)
      cases Option.some.inj (h2.symm.trans (Stand.of_body B).code)
      intro x hx
      rw [Array.isEmpty_iff.mp h7] at hx
      cases hx
    obtain ⟨t, a1, o, b1, b2, b3⟩ := body p e s m args below meth c s₁ B hml ht hP s₁ hh0 (Stand.of_body B)
    exact ⟨t, o, a1, b1, b2, b3⟩
/-- the table of a body with handlers -/
theorem vx_table {p : Program} {x y : MethodName} {S : Spec} {cc bytes : ByteArray} {maxL maxL' : Nat} {ret ret' : Option FieldType} {e : Env} {s s₁ : State} {m : MethodId} {args : Array Value} {below : List Frame} {meth : Method} {c : Code} {hh : List (Nat × Nat × Nat × Nat)}
    (B : BodyLoose p l y S cc maxL ret e s m args below meth c s₁) (h : (Cond.codeWith y bytes maxL' ret' hh).before args s = true) : c.exceptionTable.toList = tableOf hh := by
  obtain ⟨m9, meth9, c9, hn9, h1, h2, -, -, h6, -⟩ := Cond.codeWith_spec h
  cases Option.some.inj (hn9.symm.trans B.named)
  cases Option.some.inj (h1.symm.trans B.method)
  cases Option.some.inj (h2.symm.trans (Stand.of_body B).code)
  rw [← h6, table_eq]
end Bodies
end VXA
/-! ===== END ===== -/
/-! ===== BEGIN a static call of a method with an exception table ===== -/
section VXS
variable {p : Program} {l : Launch} {e : Env} {R : Room} {s : State} {m : MethodId} {args : Array Value} {below : List Frame} {meth : Method} {c : Code} {T : State} {H : Heap} {locs : List Loc} {cells slots : Nat}
abbrev vx_CSW (R : Room) (s : State) (args : Array Value) (own : String) (index : Nat) (y : MethodName) (bytes : ByteArray) (maxL : Nat) (ret : Option FieldType) (hh : List (Nat × Nat × Nat × Nat)) (ws : List Cond) (rm : Room) (mc ms n : Nat) : Prop :=
  (rm.cells = mc ∧ rm.slots = ms ∧ rm.frames + 1 ≤ R.frames ∧ 8 + (maxL + 11) + rm.locals ≤ R.locals ∧ (∀ w ∈ ws, ∀ (a' : Array Value) (U : State), s.WarmedH U.vm → w.before a' U = true) ∧ Cond.codeWith y bytes maxL ret hh ∈ ws) ∧
  (Cond.codeWith y bytes maxL ret hh).before args s = true ∧ (Cond.initialized y.cls).before args s = true ∧ (y.cls ≠ "java/lang/invoke/MethodHandle" ∧ y.cls ≠ "java/lang/invoke/VarHandle") ∧
  (∀ sig, parseMethodDescriptor y.desc = some sig → n = sig.parameters.length) ∧ (Cond.methodLink own index y).before args s = true ∧ (Cond.static y).before args s = true
theorem vx_cwSW {own : String} {index maxL mc ms : Nat} {y : MethodName} {bytes : ByteArray} {ret : Option FieldType} {hh : List (Nat × Nat × Nat × Nat)} {Ts ws ws' : List Cond} {rm : Room} (n : Nat) (ht : ∀ w ∈ Ts, w.before args s = true) (hT : GoodIn Ts (va_wsS own index y ws)) (hw : ws = Cond.codeWith y bytes maxL ret hh :: ws') (hrc : rm.cells = mc) (hrs : rm.slots = ms)
    (hd : y.cls ≠ "java/lang/invoke/MethodHandle" ∧ y.cls ≠ "java/lang/invoke/VarHandle" ∧ (parseMethodDescriptor y.desc).map (fun d => d.parameters.length) = some n) (hR : rm.frames + 1 ≤ R.frames ∧ 8 + (maxL + 11) + rm.locals ≤ R.locals) :
    vx_CSW R s args own index y bytes maxL ret hh ws rm mc ms n := by
  have ok : ∀ w ∈ va_wsS own index y ws, w.before args s = true := fun w h => ht w (hT w h).1
  have hG : GoodIn Ts ws := fun w h => hT w (by unfold va_wsS; exact List.mem_append_right _ h)
  have hc : Cond.codeWith y bytes maxL ret hh ∈ ws := by rw [hw]; exact List.mem_cons_self
  refine ⟨⟨hrc, hrs, hR.1, hR.2, pay_in ht hG, hc⟩, ht _ (hG _ hc).1, ok _ (by simp [va_wsS]), ⟨hd.1, hd.2.1⟩, fun sig h => ?_, ok _ (by simp [va_wsS]), ok _ (by simp [va_wsS])⟩
  have h2 := hd.2.2
  rw [h] at h2
  exact (Option.some.inj h2).symm
theorem vx_callSW (X : Stand p l e R s m args below meth c T locs cells slots) (hexec : p.tables.exec = Jvm.exec) {own : String} {index : Nat} {y : MethodName} {bytes : ByteArray} {maxL : Nat} {ret : Option FieldType} {hh : List (Nat × Nat × Nat × Nat)}
    (hown : s.vm.findClass own = some m.cls) (hlink : (Cond.methodLink own index y).before args s = true) (hstat : (Cond.static y).before args s = true) (hinit : (Cond.initialized y.cls).before args s = true)
    (hcode : (Cond.codeWith y bytes maxL ret hh).before args s = true) (hy : y.cls ≠ "java/lang/invoke/MethodHandle" ∧ y.cls ≠ "java/lang/invoke/VarHandle")
    {W9 : Nat} {Pre : Pt → Array Value → Prop} {Post : Pt → Array Value → Option Value → Pt → Prop} (hK : Back l R p e below s args y 3 W9 Pre Post)
    {g : JFrame} (hg : g.method = m) (hsize : g.locals.size = c.maxLocals) {argsL rest : List Value} (hlen : ∀ sig, parseMethodDescriptor y.desc = some sig → argsL.length = sig.parameters.length)
    (hstack : g.stack = argsL.reverse ++ rest) (hW : 2 * g.monitorRoom + (rest.map fun v => v.category).sum ≤ W9) (hdg : decode c.code g.pc = .ok (.invokestatic index, 3))
    (hpre : ∀ vm₁, s.WarmedH vm₁ → Pre ⟨T.setVm vm₁, locs, cells, slots⟩ argsL.toArray) :
    ∃ (v : Option Value) (vm₁ : Vm) (B : Pt), s.WarmedH vm₁ ∧ Stand p l e R s m args below meth c B.U B.locs B.cells B.slots ∧ Post ⟨T.setVm vm₁, locs, cells, slots⟩ argsL.toArray v B ∧
      ∀ target, Steps p.tables e below (B.U.setTop { g with pc := g.pc + 3, stack := v.toList ++ rest }) target → Steps p.tables e below (T.setTop g) target := by
  obtain ⟨mk, methM, cM, hnamed, hmethM, -, -, -, -, -, -, hsigM⟩ := Cond.codeWith_spec hcode
  have hstatic : methM.isStatic = true := Cond.static_spec hnamed hmethM hstat
  obtain ⟨kP, hkP, -⟩ := className_of_methodNamed hnamed
  have hinitP : kP.init = .initialized := Cond.initialized_spec (findClass_of_methodNamed hnamed) hkP hinit
  obtain ⟨vm₁, X₁, hstep₁⟩ := X.invokestatic hexec hown hlink hnamed hmethM hstatic hkP hinitP hy (g := g) hg (argsL := argsL) (rest := rest) (hlen _ hsigM) hstack hdg
  obtain ⟨v, B, X', hpost, hsteps⟩ := hK m meth c ⟨T.setVm vm₁, locs, cells, slots⟩ { g with stack := rest } (.invokestatic index) mk argsL.toArray X₁ hg hsize hdg hW (X₁.named hnamed) (hpre vm₁ X₁.warmed)
  exact ⟨v, vm₁, B, X₁.warmed, X', hpost, fun target h => hstep₁ _ fun acts => by rw [doInvoke_state]; exact hsteps.trans h⟩
theorem vx_runSW {y : MethodName} {bytes cc : ByteArray} {maxL nL mc ms n index : Nat} {ret : Option FieldType} {hh : List (Nat × Nat × Nat × Nat)} {ws : List Cond} {rm : Room} {Pc : Array Value → State → Prop} {Qc : Array Value → State → Outcome → State → Prop} {free : Addr → Prop} {Ts : List Cond} {own : String} {As rest : List Value} {g : JFrame}
    (S : CallFix p m c cc nL s args Ts own) (hM : Met l y ws rm Pc Qc mc ms free) (cw : vx_CSW R s args own index y bytes maxL ret hh ws rm mc ms n) (hp : PreS s H Pc As)
    (hg : g.method = m) (hn : As.length = n) (hsize : g.locals.size = nL) (hstack : g.stack = As.reverse ++ rest) (hW : 2 * g.monitorRoom + (rest.map fun v => v.category).sum ≤ 8) (hdg : decode cc g.pc = .ok (.invokestatic index, 3)) (hf : cells + mc ≤ R.cells ∧ slots + ms ≤ R.slots) :
    va_Run p l e R s m args below meth c H locs cells slots mc ms g rest (Qc As.toArray) (free) := by
  obtain ⟨⟨hrc, hrs, hfr, hlo, hws, hcw⟩, hcode, hini, hy, hlen, hl, hstt⟩ := cw
  have hK : Back l R p e below s args y 3 8 (PreOf R mc ms Pc) (PostOf Qc mc ms free) := va_backW (hh := hh) (bytes := bytes) (maxL := maxL) (ret := ret) hM hp.1 hrc hrs hfr hlo hws hcw (fun a' U hW => word_at hW (Or.inl (by first | rfl | simp [Cond.onTables, Cond.keeps, Cond.steady])) hini)
  obtain ⟨hx, hb, hml, ho, -⟩ := S
  intro T hT X
  obtain ⟨v, vm₁, ⟨U', l2, c2, s2⟩, hW₁, X', ⟨g', mk, t, L, e1, e2, hq, h1, hL, h2, h3⟩, st⟩ := vx_callSW X hx (hh := hh) (bytes := bytes) (maxL := maxL) (ret := ret) ho hl hstt hini hcode hy hK hg (hsize.trans hml.symm) (argsL := As) (rest := rest) (fun sig h => hn.trans (hlen sig h)) hstack hW (by rw [hb]; exact hdg)
    (fun vm₁ hW₁ => ⟨hf.1, hf.2, hp.2 (T.setVm vm₁) hT hW₁⟩)
  dsimp only [Pt.U, Pt.locs, Pt.cells, Pt.slots] at X' e1 e2 h1 h2 h3 st
  subst h1; subst h2; subst h3
  exact ⟨v, (T.setVm vm₁).calling g' mk As.toArray, t, U', L, hT, X', hL, e1, e2, hq, st⟩
/-- not caught here, past rows that name other classes: it goes on to the caller -/
theorem vx_outP {p : Program} {l : Launch} {e : Env} {R : Room} {s : State} {m : MethodId} {args : Array Value} {below : List Frame} {meth : Method} {c : Code} {H : Heap} {locs : List Loc} {cells slots : Nat} {free : Addr → Prop} {ls : Array Slot} {rest : List Value} {Qc : Array Value → State → Outcome → State → Prop} {XC : String → State → State → Prop}
    {pc : Nat} {own E : String} {ce : Cell} {q : Addr} {mc ms : Nat} (hown : s.vm.findClass own = some m.cls) (hlocks : meth.locks = false)
    (hpass : ∀ z ∈ c.exceptionTable.toList, covers z pc = false ∨ (z.catchType ≠ 0 ∧ ∃ nm : String, (Cond.classLink own z.catchType nm).before args s = true ∧ va_Nc E nm s)) (hcell : H[q]? = some ce) (hv : ce.vm = .none) (hcl : s.vm.findClass E = some ce.cls)
    (hx : ∀ t : State, t.heap = H → s.vm.Alike t.vm → XC E s t) (hf : ∀ z ∈ locs, free z.base) (hc : cells ≤ mc) (hs : slots ≤ ms) :
    vx_W p l e R s m args below meth c H locs cells slots (vx_MQ below Qc XC args s mc ms free) (F0 m pc ls rest) q := by
  intro T hT X
  have hpl : e.platform.magicAccessors = ({} : Platform).magicAccessors := by rw [X.admits.platform]
  obtain ⟨vm', hW', X', st⟩ := X.outThrough hlocks q (g := F0 m pc ls rest) rfl rfl rfl (cell := ce) (by rw [hT]; exact hcell) (by rw [hv]; rfl)
    (by obtain ⟨k9, h9, -⟩ := Vm.findClass_spec hcl; exact ⟨k9, h9⟩) (fun z hz => by
      rcases hpass z hz with h | ⟨hz0, nm, hl1, hn1⟩
      · exact Or.inl h
      · obtain ⟨c6, hc6, hcl6⟩ := Cond.classLink_spec hown hl1 e.platform hpl
        obtain ⟨a8, b8, h1, h2, h3⟩ := hn1
        cases Option.some.inj (h1.symm.trans hcl)
        cases Option.some.inj (h2.symm.trans hc6)
        exact Or.inr ⟨hz0, _, hcl6, h3⟩)
  obtain ⟨g₀, hfr⟩ := X'.frames_eq
  have hcell9 : ((T.setVm vm').setFrames (.throwing q :: below)).heap[q]? = some ce := by
    show T.heap[q]? = some ce
    rw [hT]; exact hcell
  have hend : Ended ((T.setVm vm').setFrames (.throwing q :: below)) below (.threw q) := State.frames_setFrames _ (State.cur_lt_of_frames hfr)
  refine ⟨(T.setVm vm').setFrames (.throwing q :: below), ?_, .threw q, X'.here.running, hend, Or.inr ⟨q, rfl, E, ce, locs, hx _ hT (X'.ends _).1.alike, hcell9, hv, hcl, (X'.ends _).1, (X'.ends _).2.mono hc hs, hf⟩⟩
  rw [X.pushThrowing_eq]
  exact st
/-- a thing of a world lies in the heap -/
theorem vx_lt {D : va_G} {cl : List vw_C} {ws : va_W} {H1 : Heap} (h : va_P D cl ws H1) {k : Nat} {q : Nat × va_E} (hk : ws[k]? = some q) : q.1 < H1.size := (h k q hk).lt
end VXS
/-! ===== END ===== -/
/-! ===== BEGIN methods with a table of their own: called by a name, returning or throwing ===== -/
section VXH
/-! vx_backW, vx_callVX, vx_callSX, vx_callVW, vx_runVW, vx_runVX, vx_runSX, vx_ofWH follow the same proofs as their sisters above (Free/Laws.lean, Shelf42/LK1.lean); vx_outP calls Shelf42/NT130.lean (outThrough). -/
section
variable {l : Launch} {R : Room} {p : Program} {e : Env} {below : List Frame} {s : State} {sargs : Array Value} {y : MethodName} {len W9 : Nat}
theorem vx_backW {ws : List Cond} {rm : Room} {Pc : Array Value → State → Prop} {Qc : Array Value → State → Outcome → State → Prop} {XC : String → State → State → Prop} {mc ms : Nat} {free : Addr → Prop} {bytes : ByteArray} {maxL : Nat} {ret : Option FieldType} {hh : List (Nat × Nat × Nat × Nat)}
    (hM : vx_Met l y ws rm Pc Qc XC mc ms free) (hblind : FrameBlind Pc) (hrc : rm.cells = mc) (hrs : rm.slots = ms)
    (hframes : rm.frames + 1 ≤ R.frames) (hlocals : W9 + (maxL + 11) + rm.locals ≤ R.locals)
    (hws : ∀ w ∈ ws, ∀ a' U, s.WarmedH U.vm → w.before a' U = true) (hcode : Cond.codeWith y bytes maxL ret hh ∈ ws) (hinit : ∀ a' U, s.WarmedH U.vm → (Cond.initialized y.cls).before a' U = true) :
    vx_Back l R p e below s sargs y len W9 (PreOf R mc ms Pc) (PostOf Qc mc ms free) (vx_Post XC mc ms free) := by
  intro m meth c A g ig mk a X hg hsize hdg hW hn hp
  have h1 : (headSpec ws rm).pre.before a A.U = true := atoms_intro fun w hw => hws w hw _ _ X.warmed
  have h2 : (Cond.codeWith y bytes maxL ret hh).before a A.U = true := hws _ hcode _ _ X.warmed
  have h3 : (Cond.initialized y.cls).before a A.U = true := hinit _ _ X.warmed
  have h4 : A.cells + (headSpec ws rm).room.cells ≤ R.cells := by rw [show (headSpec ws rm).room.cells = mc from hrc]; exact hp.1
  have h5 : A.slots + (headSpec ws rm).room.slots ≤ R.slots := by rw [show (headSpec ws rm).room.slots = ms from hrs]; exact hp.2.1
  have hPc : Pc a (A.U.calling g mk a) := hblind _ _ _ _ hp.2.2
  obtain ⟨U, Ls, c0, s0⟩ := A
  dsimp only [Pt.U, Pt.locs, Pt.cells, Pt.slots] at h1 h2 h3 h4 h5 X hn hPc ⊢
  obtain ⟨m9, methY, cY, hn9, hmY, hcY, -, hlY, -⟩ := Cond.codeWith_spec h2
  cases Option.some.inj (hn9.symm.trans hn)
  obtain ⟨kY, hkY, -⟩ := className_of_methodNamed hn
  have hinitY : kY.init = .initialized := Cond.initialized_spec (findClass_of_methodNamed hn) hkY h3
  have h : At U g.method c below := by rw [hg]; exact X.here
  have hlocals9 : W9 + (maxL + 11) + (headSpec ws rm).room.locals ≤ R.locals := hlocals
  have happ : (headSpec ws rm).appliesLoose y e.platform (U.calling g mk a) = true :=
    Spec.appliesLoose_calling (g := g) h hdg hn hkY hinitY
      (X.room_calling (g := g) (R' := (headSpec ws rm).room) hsize hmY hcY hframes (by rw [hlY]; omega) h4 h5) h1
  obtain ⟨mid, hmid⟩ := h.above
  have hfr : (U.setTop g).frames = (.java g :: mid) ++ below := by rw [State.frames_setTop' g h.top, hmid]; rfl
  obtain ⟨o, s₂, hsteps, -, hend, hq⟩ := Steps.callFree hM p X.admits X.cas X.clock (acts := []) hfr happ hPc trivial
  have hq' : vx_Q Qc XC mc ms free a (U.calling g mk a) o s₂ := hq
  rw [State.frames_setTop' g h.top] at hend
  obtain ⟨g₀, hg0⟩ := Option.isSome_iff_exists.mp h.top
  obtain ⟨r, hr⟩ := State.topJava?_eq_some.mp hg0
  have hr' : (({ U with heap := s₂.heap, slotsUsed := s₂.slotsUsed } : State).setVm s₂.vm).frames = .java g₀ :: r := hr
  rcases hq' with ⟨hqc, L, hfe, hL⟩ | ⟨q, rfl, E, ce, L, hx, hce, hcv, hcl, hW₂, hsm, hL⟩
  · obtain ⟨⟨v, rfl⟩, hW₂, e2, q2, q3, q4, q5, q6⟩ := id hfe
    have e3 : s₂ = ({ (U.calling g mk a).setFrames s₂.frames with heap := s₂.heap, slotsUsed := s₂.slotsUsed } : State).setVm s₂.vm := by
      have : s₂ = ({ s₂ with vm := (U.calling g mk a).vm } : State).setVm s₂.vm := rfl
      rw [e2] at this
      exact this
    obtain ⟨c₂, i₂, len₂, hc₂, hd₂, hf₂⟩ := hend
    have hW' : U.WarmedH s₂.vm := hW₂
    have hcc : c₂ = c := by
      have h1 : s₂.code? g.method = U.code? g.method := by
        rw [State.code?_eq, State.code?_eq, hW'.alike.method?]
      exact Option.some.inj (hc₂.symm.trans (h1.trans h.code))
    subst hcc
    have hlen : len₂ = len := by rw [hdg] at hd₂; cases hd₂; rfl
    subst hlen
    have hs₂ : s₂ = (({ U with heap := s₂.heap, slotsUsed := s₂.slotsUsed } : State).setVm s₂.vm).setTop { g with pc := g.pc + len₂, stack := v.toList ++ g.stack } := by
      refine e3.trans ?_
      rw [hf₂, State.calling_eq h.top, State.setFrames_setFrames, State.setTop_of_frames _ hr', hr]
      rfl
    have hsame : U.sameButNew ({ U with heap := s₂.heap, slotsUsed := s₂.slotsUsed } : State) L mc ms := by
      refine ⟨?_, q2, q3, q4, q5, q6⟩
      obtain ⟨t, ht, -⟩ := State.frames_cons hr
      show ({ U with heap := s₂.heap, slotsUsed := s₂.slotsUsed } : State) = { U.setFrames U.frames with heap := s₂.heap, slotsUsed := s₂.slotsUsed }
      rw [State.setFrames_self ht]
    subst hg
    refine Or.inl ⟨v, ⟨(({ U with heap := s₂.heap, slotsUsed := s₂.slotsUsed } : State).setVm s₂.vm), Ls ++ L, c0 + mc, s0 + ms⟩,
      ⟨X.admits, X.cas, X.clock, X.frames, X.room, X.hears, X.method, X.code, (X.here.setHeapUsed s₂.heap s₂.slotsUsed).setVm hW'.alike, X.tail, State.WarmedH.trans X.warmed hW', X.limits, X.bytes, X.same.trans (hsame.setVm s.vm)⟩,
      ⟨g, mk, s₂, L, rfl, rfl, hqc, rfl, hL, rfl, rfl⟩, ?_⟩
    show Steps p.tables e below _ ((({ U with heap := s₂.heap, slotsUsed := s₂.slotsUsed } : State).setVm s₂.vm).setTop { g with pc := g.pc + len₂, stack := v.toList ++ g.stack })
    rw [← hs₂]
    exact hsteps
  · obtain ⟨e2, q2, q3, q4, q5, q6⟩ := id hsm
    have e3 : s₂ = ({ (U.calling g mk a).setFrames s₂.frames with heap := s₂.heap, slotsUsed := s₂.slotsUsed } : State).setVm s₂.vm := by
      have : s₂ = ({ s₂ with vm := (U.calling g mk a).vm } : State).setVm s₂.vm := rfl
      rw [e2] at this
      exact this
    have hf₂ : s₂.frames = .throwing q :: .java g :: U.frames.tail := hend
    have hW' : U.WarmedH s₂.vm := hW₂
    have hs₂ : s₂ = ((({ U with heap := s₂.heap, slotsUsed := s₂.slotsUsed } : State).setVm s₂.vm).setTop g).pushFrame (.throwing q) := by
      refine e3.trans ?_
      rw [hf₂, State.calling_eq h.top, State.setFrames_setFrames, State.pushFrame, State.frames_setTop _ hr', State.setTop_of_frames _ hr', State.setFrames_setFrames, hr]
      rfl
    have hsame : U.sameButNew ({ U with heap := s₂.heap, slotsUsed := s₂.slotsUsed } : State) L mc ms := by
      refine ⟨?_, q2, q3, q4, q5, q6⟩
      obtain ⟨t, ht, -⟩ := State.frames_cons hr
      show ({ U with heap := s₂.heap, slotsUsed := s₂.slotsUsed } : State) = { U.setFrames U.frames with heap := s₂.heap, slotsUsed := s₂.slotsUsed }
      rw [State.setFrames_self ht]
    subst hg
    refine Or.inr ⟨q, ⟨(({ U with heap := s₂.heap, slotsUsed := s₂.slotsUsed } : State).setVm s₂.vm), Ls ++ L, c0 + mc, s0 + ms⟩,
      ⟨X.admits, X.cas, X.clock, X.frames, X.room, X.hears, X.method, X.code, (X.here.setHeapUsed s₂.heap s₂.slotsUsed).setVm hW'.alike, X.tail, State.WarmedH.trans X.warmed hW', X.limits, X.bytes, X.same.trans (hsame.setVm s.vm)⟩,
      ⟨g, mk, s₂, L, E, ce, rfl, rfl, hx, hce, hcv, hcl, rfl, hL, rfl, rfl⟩, ?_⟩
    show Steps p.tables e below _ (((({ U with heap := s₂.heap, slotsUsed := s₂.slotsUsed } : State).setVm s₂.vm).setTop g).pushFrame (.throwing q))
    rw [← hs₂]
    exact hsteps
end
variable {p : Program} {l : Launch} {e : Env} {R : Room} {s : State} {m : MethodId} {args : Array Value} {below : List Frame} {meth : Method} {c : Code} {T : State} {H : Heap} {locs : List Loc} {cells slots : Nat}
theorem vx_callVX (X : Stand p l e R s m args below meth c T locs cells slots) (hexec : p.tables.exec = Jvm.exec) {own C : String} {index : Nat} {y : MethodName} {bytes : ByteArray} {maxL : Nat} {ret : Option FieldType} {hh : List (Nat × Nat × Nat × Nat)}
    (hown : s.vm.findClass own = some m.cls) (hlink : (Cond.methodLink own index y).before args s = true) (hinst : (Cond.instanceMethod y).before args s = true) (hsel : (Cond.selects C y y).before args s = true)
    (hcode : (Cond.codeWith y bytes maxL ret hh).before args s = true) (hy : y.cls ≠ "java/lang/invoke/MethodHandle" ∧ y.cls ≠ "java/lang/invoke/VarHandle")
    {W9 : Nat} {Pre : Pt → Array Value → Prop} {Post : Pt → Array Value → Option Value → Pt → Prop} {PostX : Pt → Array Value → Addr → Pt → Prop} (hK : vx_Back l R p e below s args y 3 W9 Pre Post PostX)
    {b : Addr} {cellB : Cell} (hcell : T.heap[b]? = some cellB) (hobj : cellB.vm.isStatics = false) (hcls : s.vm.findClass C = some cellB.cls)
    {g : JFrame} (hg : g.method = m) (hsize : g.locals.size = c.maxLocals) {argsL rest : List Value} (hlen : ∀ sig, parseMethodDescriptor y.desc = some sig → argsL.length = sig.parameters.length)
    (hstack : g.stack = argsL.reverse ++ .ref b :: rest) (hW : 2 * g.monitorRoom + (rest.map fun v => v.category).sum ≤ W9) (hdg : decode c.code g.pc = .ok (.invokevirtual index, 3))
    (hpre : ∀ vm₁, s.WarmedH vm₁ → Pre ⟨T.setVm vm₁, locs, cells, slots⟩ (Value.ref b :: argsL).toArray) :
    (∃ (v : Option Value) (vm₁ : Vm) (B : Pt), s.WarmedH vm₁ ∧ Stand p l e R s m args below meth c B.U B.locs B.cells B.slots ∧ Post ⟨T.setVm vm₁, locs, cells, slots⟩ (Value.ref b :: argsL).toArray v B ∧
      ∀ target, Steps p.tables e below (B.U.setTop { g with pc := g.pc + 3, stack := v.toList ++ rest }) target → Steps p.tables e below (T.setTop g) target) ∨
    (∃ (q : Addr) (vm₁ : Vm) (B : Pt), s.WarmedH vm₁ ∧ Stand p l e R s m args below meth c B.U B.locs B.cells B.slots ∧ PostX ⟨T.setVm vm₁, locs, cells, slots⟩ (Value.ref b :: argsL).toArray q B ∧
      Steps p.tables e below (T.setTop g) ((B.U.setTop { g with stack := rest }).pushFrame (.throwing q))) := by
  obtain ⟨mk, methM, hnamed, hmethM, hstM, habM⟩ := Cond.instanceMethod_spec hinst
  obtain ⟨m8, methM', cM, hn8, hmethM', -, -, -, -, -, -, hsigM⟩ := Cond.codeWith_spec hcode
  cases Option.some.inj (hn8.symm.trans hnamed)
  cases hmethM.symm.trans hmethM'
  obtain ⟨c2, r2, m2, q1, q2, q3, q4, kP, hkP, hkPi⟩ := Cond.selects_spec hsel
  cases hcls.symm.trans q1
  cases (State.methodFound?_of_named hnamed hy).symm.trans q2
  cases hnamed.symm.trans q3
  have hselP : selectMethod e.platform s.vm cellB.cls mk = .method mk := by rw [Launch.admits_selectMethod X.admits]; exact q4
  obtain ⟨vm₁, X₁, hstep₁⟩ := X.invokevirtual hexec hown hlink hnamed hmethM hstM hkP hkPi hy (a := b) (cell := cellB) hcell
    (fun z h => by rw [h] at hobj; cases hobj) hselP hmethM habM hkP hkPi (g := g) hg (argsL := argsL) (rest := rest) (hlen _ hsigM) hstack hdg
  rcases hK m meth c ⟨T.setVm vm₁, locs, cells, slots⟩ { g with stack := rest } (.invokevirtual index) mk (Value.ref b :: argsL).toArray X₁ hg hsize hdg hW (X₁.named hnamed) (hpre vm₁ X₁.warmed) with ⟨v, B, X', hpost, hsteps⟩ | ⟨q, B, X', hpost, hsteps⟩
  · exact Or.inl ⟨v, vm₁, B, X₁.warmed, X', hpost, fun target h => hstep₁ _ fun acts => by rw [doInvoke_state]; exact hsteps.trans h⟩
  · exact Or.inr ⟨q, vm₁, B, X₁.warmed, X', hpost, hstep₁ _ fun acts => by rw [doInvoke_state]; exact hsteps⟩
theorem vx_callSX (X : Stand p l e R s m args below meth c T locs cells slots) (hexec : p.tables.exec = Jvm.exec) {own : String} {index : Nat} {y : MethodName} {bytes : ByteArray} {maxL : Nat} {ret : Option FieldType} {hh : List (Nat × Nat × Nat × Nat)}
    (hown : s.vm.findClass own = some m.cls) (hlink : (Cond.methodLink own index y).before args s = true) (hstat : (Cond.static y).before args s = true) (hinit : (Cond.initialized y.cls).before args s = true)
    (hcode : (Cond.codeWith y bytes maxL ret hh).before args s = true) (hy : y.cls ≠ "java/lang/invoke/MethodHandle" ∧ y.cls ≠ "java/lang/invoke/VarHandle")
    {W9 : Nat} {Pre : Pt → Array Value → Prop} {Post : Pt → Array Value → Option Value → Pt → Prop} {PostX : Pt → Array Value → Addr → Pt → Prop} (hK : vx_Back l R p e below s args y 3 W9 Pre Post PostX)
    {g : JFrame} (hg : g.method = m) (hsize : g.locals.size = c.maxLocals) {argsL rest : List Value} (hlen : ∀ sig, parseMethodDescriptor y.desc = some sig → argsL.length = sig.parameters.length)
    (hstack : g.stack = argsL.reverse ++ rest) (hW : 2 * g.monitorRoom + (rest.map fun v => v.category).sum ≤ W9) (hdg : decode c.code g.pc = .ok (.invokestatic index, 3))
    (hpre : ∀ vm₁, s.WarmedH vm₁ → Pre ⟨T.setVm vm₁, locs, cells, slots⟩ argsL.toArray) :
    (∃ (v : Option Value) (vm₁ : Vm) (B : Pt), s.WarmedH vm₁ ∧ Stand p l e R s m args below meth c B.U B.locs B.cells B.slots ∧ Post ⟨T.setVm vm₁, locs, cells, slots⟩ argsL.toArray v B ∧
      ∀ target, Steps p.tables e below (B.U.setTop { g with pc := g.pc + 3, stack := v.toList ++ rest }) target → Steps p.tables e below (T.setTop g) target) ∨
    (∃ (q : Addr) (vm₁ : Vm) (B : Pt), s.WarmedH vm₁ ∧ Stand p l e R s m args below meth c B.U B.locs B.cells B.slots ∧ PostX ⟨T.setVm vm₁, locs, cells, slots⟩ argsL.toArray q B ∧
      Steps p.tables e below (T.setTop g) ((B.U.setTop { g with stack := rest }).pushFrame (.throwing q))) := by
  obtain ⟨mk, methM, cM, hnamed, hmethM, -, -, -, -, -, -, hsigM⟩ := Cond.codeWith_spec hcode
  have hstatic : methM.isStatic = true := Cond.static_spec hnamed hmethM hstat
  obtain ⟨kP, hkP, -⟩ := className_of_methodNamed hnamed
  have hinitP : kP.init = .initialized := Cond.initialized_spec (findClass_of_methodNamed hnamed) hkP hinit
  obtain ⟨vm₁, X₁, hstep₁⟩ := X.invokestatic hexec hown hlink hnamed hmethM hstatic hkP hinitP hy (g := g) hg (argsL := argsL) (rest := rest) (hlen _ hsigM) hstack hdg
  rcases hK m meth c ⟨T.setVm vm₁, locs, cells, slots⟩ { g with stack := rest } (.invokestatic index) mk argsL.toArray X₁ hg hsize hdg hW (X₁.named hnamed) (hpre vm₁ X₁.warmed) with ⟨v, B, X', hpost, hsteps⟩ | ⟨q, B, X', hpost, hsteps⟩
  · exact Or.inl ⟨v, vm₁, B, X₁.warmed, X', hpost, fun target h => hstep₁ _ fun acts => by rw [doInvoke_state]; exact hsteps.trans h⟩
  · exact Or.inr ⟨q, vm₁, B, X₁.warmed, X', hpost, hstep₁ _ fun acts => by rw [doInvoke_state]; exact hsteps⟩
theorem vx_callVW (X : Stand p l e R s m args below meth c T locs cells slots) (hexec : p.tables.exec = Jvm.exec) {own C : String} {index : Nat} {y : MethodName} {bytes : ByteArray} {maxL : Nat} {ret : Option FieldType} {hh : List (Nat × Nat × Nat × Nat)}
    (hown : s.vm.findClass own = some m.cls) (hlink : (Cond.methodLink own index y).before args s = true) (hinst : (Cond.instanceMethod y).before args s = true) (hsel : (Cond.selects C y y).before args s = true)
    (hcode : (Cond.codeWith y bytes maxL ret hh).before args s = true) (hy : y.cls ≠ "java/lang/invoke/MethodHandle" ∧ y.cls ≠ "java/lang/invoke/VarHandle")
    {W9 : Nat} {Pre : Pt → Array Value → Prop} {Post : Pt → Array Value → Option Value → Pt → Prop} (hK : Back l R p e below s args y 3 W9 Pre Post)
    {b : Addr} {cellB : Cell} (hcell : T.heap[b]? = some cellB) (hobj : cellB.vm.isStatics = false) (hcls : s.vm.findClass C = some cellB.cls)
    {g : JFrame} (hg : g.method = m) (hsize : g.locals.size = c.maxLocals) {argsL rest : List Value} (hlen : ∀ sig, parseMethodDescriptor y.desc = some sig → argsL.length = sig.parameters.length)
    (hstack : g.stack = argsL.reverse ++ .ref b :: rest) (hW : 2 * g.monitorRoom + (rest.map fun v => v.category).sum ≤ W9) (hdg : decode c.code g.pc = .ok (.invokevirtual index, 3))
    (hpre : ∀ vm₁, s.WarmedH vm₁ → Pre ⟨T.setVm vm₁, locs, cells, slots⟩ (Value.ref b :: argsL).toArray) :
    ∃ (v : Option Value) (vm₁ : Vm) (B : Pt), s.WarmedH vm₁ ∧ Stand p l e R s m args below meth c B.U B.locs B.cells B.slots ∧ Post ⟨T.setVm vm₁, locs, cells, slots⟩ (Value.ref b :: argsL).toArray v B ∧
      ∀ target, Steps p.tables e below (B.U.setTop { g with pc := g.pc + 3, stack := v.toList ++ rest }) target → Steps p.tables e below (T.setTop g) target := by
  obtain ⟨mk, methM, hnamed, hmethM, hstM, habM⟩ := Cond.instanceMethod_spec hinst
  obtain ⟨m8, methM', cM, hn8, hmethM', -, -, -, -, -, -, hsigM⟩ := Cond.codeWith_spec hcode
  cases Option.some.inj (hn8.symm.trans hnamed)
  cases hmethM.symm.trans hmethM'
  obtain ⟨c2, r2, m2, q1, q2, q3, q4, kP, hkP, hkPi⟩ := Cond.selects_spec hsel
  cases hcls.symm.trans q1
  cases (State.methodFound?_of_named hnamed hy).symm.trans q2
  cases hnamed.symm.trans q3
  have hselP : selectMethod e.platform s.vm cellB.cls mk = .method mk := by rw [Launch.admits_selectMethod X.admits]; exact q4
  obtain ⟨vm₁, X₁, hstep₁⟩ := X.invokevirtual hexec hown hlink hnamed hmethM hstM hkP hkPi hy (a := b) (cell := cellB) hcell
    (fun z h => by rw [h] at hobj; cases hobj) hselP hmethM habM hkP hkPi (g := g) hg (argsL := argsL) (rest := rest) (hlen _ hsigM) hstack hdg
  obtain ⟨v, B, X', hpost, hsteps⟩ := hK m meth c ⟨T.setVm vm₁, locs, cells, slots⟩ { g with stack := rest } (.invokevirtual index) mk (Value.ref b :: argsL).toArray X₁ hg hsize hdg hW (X₁.named hnamed) (hpre vm₁ X₁.warmed)
  exact ⟨v, vm₁, B, X₁.warmed, X', hpost, fun target h => hstep₁ _ fun acts => by rw [doInvoke_state]; exact hsteps.trans h⟩
abbrev vx_CVW (R : Room) (s : State) (args : Array Value) (own C : String) (index : Nat) (y : MethodName) (bytes : ByteArray) (maxL : Nat) (ret : Option FieldType) (hh : List (Nat × Nat × Nat × Nat)) (ws : List Cond) (rm : Room) (mc ms n : Nat) : Prop :=
  (rm.cells = mc ∧ rm.slots = ms ∧ rm.frames + 1 ≤ R.frames ∧ 8 + (maxL + 11) + rm.locals ≤ R.locals ∧ (∀ w ∈ ws, ∀ (a' : Array Value) (U : State), s.WarmedH U.vm → w.before a' U = true) ∧ Cond.codeWith y bytes maxL ret hh ∈ ws) ∧
  (Cond.codeWith y bytes maxL ret hh).before args s = true ∧ (Cond.initialized y.cls).before args s = true ∧ (y.cls ≠ "java/lang/invoke/MethodHandle" ∧ y.cls ≠ "java/lang/invoke/VarHandle") ∧
  (∀ sig, parseMethodDescriptor y.desc = some sig → n = sig.parameters.length) ∧ (Cond.methodLink own index y).before args s = true ∧ (Cond.instanceMethod y).before args s = true ∧ (Cond.selects C y y).before args s = true
theorem vx_cwVW {own C : String} {index maxL mc ms : Nat} {y : MethodName} {bytes : ByteArray} {ret : Option FieldType} {hh : List (Nat × Nat × Nat × Nat)} {Ts ws ws' : List Cond} {rm : Room} (n : Nat) (ht : ∀ w ∈ Ts, w.before args s = true) (hT : GoodIn Ts (wsV own index C y ws)) (hw : ws = Cond.codeWith y bytes maxL ret hh :: ws') (hrc : rm.cells = mc) (hrs : rm.slots = ms)
    (hd : y.cls = C ∧ y.cls ≠ "java/lang/invoke/MethodHandle" ∧ y.cls ≠ "java/lang/invoke/VarHandle" ∧ (parseMethodDescriptor y.desc).map (fun d => d.parameters.length) = some n) (hR : rm.frames + 1 ≤ R.frames ∧ 8 + (maxL + 11) + rm.locals ≤ R.locals) :
    vx_CVW R s args own C index y bytes maxL ret hh ws rm mc ms n := by
  obtain ⟨hC, hd⟩ := hd
  subst hC
  have ok : ∀ w ∈ wsV own index y.cls y ws, w.before args s = true := fun w h => ht w (hT w h).1
  have hG : GoodIn Ts ws := fun w h => hT w (by unfold wsV; exact List.mem_append_right _ h)
  have hc : Cond.codeWith y bytes maxL ret hh ∈ ws := by rw [hw]; exact List.mem_cons_self
  refine ⟨⟨hrc, hrs, hR.1, hR.2, pay_in ht hG, hc⟩, ht _ (hG _ hc).1, ok _ (by simp [wsV]), ⟨hd.1, hd.2.1⟩, fun sig h => ?_, ok _ (by simp [wsV]), ok _ (by simp [wsV]), ok _ (by simp [wsV])⟩
  have h2 := hd.2.2
  rw [h] at h2
  exact (Option.some.inj h2).symm
theorem vx_runVW {y : MethodName} {bytes cc : ByteArray} {maxL nL mc ms n index : Nat} {ret : Option FieldType} {hh : List (Nat × Nat × Nat × Nat)} {ws : List Cond} {rm : Room} {Pc : Array Value → State → Prop} {Qc : Array Value → State → Outcome → State → Prop} {free : Addr → Prop} {Ts : List Cond} {own C : String} {b : Addr} {As rest : List Value} {g : JFrame}
    (S : CallFix p m c cc nL s args Ts own) (hM : Met l y ws rm Pc Qc mc ms free) (cw : vx_CVW R s args own C index y bytes maxL ret hh ws rm mc ms n) (hp : PreV s H C b Pc As)
    (hg : g.method = m) (hn : As.length = n) (hsize : g.locals.size = nL) (hstack : g.stack = As.reverse ++ .ref b :: rest) (hW : 2 * g.monitorRoom + (rest.map fun v => v.category).sum ≤ 8) (hdg : decode cc g.pc = .ok (.invokevirtual index, 3)) (hf : cells + mc ≤ R.cells ∧ slots + ms ≤ R.slots) :
    va_Run p l e R s m args below meth c H locs cells slots mc ms g rest (Qc (Value.ref b :: As).toArray) free := by
  obtain ⟨⟨hrc, hrs, hfr, hlo, hws, hcw⟩, hcode, hini, hy, hlen, hl, hin, hse⟩ := cw
  have hK : Back l R p e below s args y 3 8 (PreOf R mc ms Pc) (PostOf Qc mc ms free) := va_backW (hh := hh) (bytes := bytes) (maxL := maxL) (ret := ret) hM hp.1 hrc hrs hfr hlo hws hcw (fun a' U hW => word_at hW (Or.inl (by first | rfl | simp [Cond.onTables, Cond.keeps, Cond.steady])) hini)
  obtain ⟨hx, hb, hml, ho, -⟩ := S
  obtain ⟨-, ⟨cellB, hcB, hoB, hclB⟩, hPc⟩ := hp
  intro T hT X
  obtain ⟨v, vm₁, ⟨U', l2, c2, s2⟩, hW₁, X', ⟨g', mk, t, L, e1, e2, hq, h1, hL, h2, h3⟩, st⟩ := vx_callVW X hx (C := C) (hh := hh) (bytes := bytes) (maxL := maxL) (ret := ret) ho hl hin hse hcode hy hK (by rw [hT]; exact hcB) hoB hclB hg (hsize.trans hml.symm) (argsL := As) (rest := rest) (fun sig h => hn.trans (hlen sig h)) hstack hW (by rw [hb]; exact hdg)
    (fun vm₁ hW₁ => ⟨hf.1, hf.2, hPc (T.setVm vm₁) hT hW₁⟩)
  dsimp only [Pt.U, Pt.locs, Pt.cells, Pt.slots] at X' e1 e2 h1 h2 h3 st
  subst h1; subst h2; subst h3
  exact ⟨v, (T.setVm vm₁).calling g' mk (Value.ref b :: As).toArray, t, U', L, hT, X', hL, e1, e2, hq, st⟩
section
variable {y : MethodName} {bytes cc : ByteArray} {maxL nL mc ms n index : Nat} {ret : Option FieldType} {ws : List Cond} {rm : Room} {Pc : Array Value → State → Prop} {Qc : Array Value → State → Outcome → State → Prop} {XC : String → State → State → Prop} {free : Addr → Prop} {Ts : List Cond} {own C : String} {b : Addr} {As rest : List Value} {g : JFrame}
theorem vx_runVX {hh : List (Nat × Nat × Nat × Nat)} (S : CallFix p m c cc nL s args Ts own) (hM : vx_Met l y ws rm Pc Qc XC mc ms free) (cw : vx_CVW R s args own C index y bytes maxL ret hh ws rm mc ms n) (hp : PreV s H C b Pc As)
    (hg : g.method = m) (hn : As.length = n) (hsize : g.locals.size = nL) (hstack : g.stack = As.reverse ++ .ref b :: rest) (hW : 2 * g.monitorRoom + (rest.map fun v => v.category).sum ≤ 8) (hdg : decode cc g.pc = .ok (.invokevirtual index, 3)) (hf : cells + mc ≤ R.cells ∧ slots + ms ≤ R.slots) :
    vx_Run p l e R s m args below meth c H locs cells slots mc ms g rest (Qc (Value.ref b :: As).toArray) XC free := by
  obtain ⟨⟨hrc, hrs, hfr, hlo, hws, hcw⟩, hcode, hini, hy, hlen, hl, hin, hse⟩ := cw
  have hK : vx_Back l R p e below s args y 3 8 (PreOf R mc ms Pc) (PostOf Qc mc ms free) (vx_Post XC mc ms free) := vx_backW (hh := hh) (bytes := bytes) (maxL := maxL) (ret := ret) hM hp.1 hrc hrs hfr hlo hws hcw (fun a' U hW => word_at hW (Or.inl (by first | rfl | simp [Cond.onTables, Cond.keeps, Cond.steady])) hini)
  obtain ⟨hx, hb, hml, ho, -⟩ := S
  obtain ⟨-, ⟨cellB, hcB, hoB, hclB⟩, hPc⟩ := hp
  intro T hT X
  rcases vx_callVX X hx (C := C) (hh := hh) (bytes := bytes) (maxL := maxL) (ret := ret) ho hl hin hse hcode hy hK (by rw [hT]; exact hcB) hoB hclB hg (hsize.trans hml.symm) (argsL := As) (rest := rest) (fun sig h => hn.trans (hlen sig h)) hstack hW (by rw [hb]; exact hdg)
    (fun vm₁ hW₁ => ⟨hf.1, hf.2, hPc (T.setVm vm₁) hT hW₁⟩) with ⟨v, vm₁, ⟨U', l2, c2, s2⟩, hW₁, X', ⟨g', mk, t, L, e1, e2, hq, h1, hL, h2, h3⟩, st⟩ | ⟨q, vm₁, ⟨U', l2, c2, s2⟩, hW₁, X', ⟨g', mk, t, L, E, ce, e1, e2, hq, hce, hcv, hcl, h1, hL, h2, h3⟩, st⟩
  · dsimp only [Pt.U, Pt.locs, Pt.cells, Pt.slots] at X' e1 e2 h1 h2 h3 st
    subst h1; subst h2; subst h3
    exact Or.inl ⟨v, (T.setVm vm₁).calling g' mk (Value.ref b :: As).toArray, t, U', L, hT, X', hL, e1, e2, hq, st⟩
  · dsimp only [Pt.U, Pt.locs, Pt.cells, Pt.slots] at X' e1 e2 h1 h2 h3 st hcl
    subst h1; subst h2; subst h3
    exact Or.inr ⟨q, (T.setVm vm₁).calling g' mk (Value.ref b :: As).toArray, t, U', L, E, ce, hT, X', hL, e1, e2, hq, hce, hcv, vx_cls hW₁ hcl, st⟩
theorem vx_runSX {hh : List (Nat × Nat × Nat × Nat)} (S : CallFix p m c cc nL s args Ts own) (hM : vx_Met l y ws rm Pc Qc XC mc ms free) (cw : vx_CSW R s args own index y bytes maxL ret hh ws rm mc ms n) (hp : PreS s H Pc As)
    (hg : g.method = m) (hn : As.length = n) (hsize : g.locals.size = nL) (hstack : g.stack = As.reverse ++ rest) (hW : 2 * g.monitorRoom + (rest.map fun v => v.category).sum ≤ 8) (hdg : decode cc g.pc = .ok (.invokestatic index, 3)) (hf : cells + mc ≤ R.cells ∧ slots + ms ≤ R.slots) :
    vx_Run p l e R s m args below meth c H locs cells slots mc ms g rest (Qc As.toArray) XC free := by
  obtain ⟨⟨hrc, hrs, hfr, hlo, hws, hcw⟩, hcode, hini, hy, hlen, hl, hstt⟩ := cw
  have hK : vx_Back l R p e below s args y 3 8 (PreOf R mc ms Pc) (PostOf Qc mc ms free) (vx_Post XC mc ms free) := vx_backW (hh := hh) (bytes := bytes) (maxL := maxL) (ret := ret) hM hp.1 hrc hrs hfr hlo hws hcw (fun a' U hW => word_at hW (Or.inl (by first | rfl | simp [Cond.onTables, Cond.keeps, Cond.steady])) hini)
  obtain ⟨hx, hb, hml, ho, -⟩ := S
  intro T hT X
  rcases vx_callSX X hx (hh := hh) (bytes := bytes) (maxL := maxL) (ret := ret) ho hl hstt hini hcode hy hK hg (hsize.trans hml.symm) (argsL := As) (rest := rest) (fun sig h => hn.trans (hlen sig h)) hstack hW (by rw [hb]; exact hdg)
    (fun vm₁ hW₁ => ⟨hf.1, hf.2, hp.2 (T.setVm vm₁) hT hW₁⟩) with ⟨v, vm₁, ⟨U', l2, c2, s2⟩, hW₁, X', ⟨g', mk, t, L, e1, e2, hq, h1, hL, h2, h3⟩, st⟩ | ⟨q, vm₁, ⟨U', l2, c2, s2⟩, hW₁, X', ⟨g', mk, t, L, E, ce, e1, e2, hq, hce, hcv, hcl, h1, hL, h2, h3⟩, st⟩
  · dsimp only [Pt.U, Pt.locs, Pt.cells, Pt.slots] at X' e1 e2 h1 h2 h3 st
    subst h1; subst h2; subst h3
    exact Or.inl ⟨v, (T.setVm vm₁).calling g' mk As.toArray, t, U', L, hT, X', hL, e1, e2, hq, st⟩
  · dsimp only [Pt.U, Pt.locs, Pt.cells, Pt.slots] at X' e1 e2 h1 h2 h3 st hcl
    subst h1; subst h2; subst h3
    exact Or.inr ⟨q, (T.setVm vm₁).calling g' mk As.toArray, t, U', L, E, ce, hT, X', hL, e1, e2, hq, hce, hcv, vx_cls hW₁ hcl, st⟩
end
end VXH
theorem vx_ofWH {l : Launch} {y : MethodName} {ws ws' : List Cond} {rm : Room} {Pc : Array Value → State → Prop} {Qc : Array Value → State → Outcome → State → Prop} {XC : String → State → State → Prop} {mc ms : Nat} {free : Addr → Prop} {cc : ByteArray} {maxL : Nat} {ret : Option FieldType} {hh : List (Nat × Nat × Nat × Nat)}
    (hy : plainName y.cls = true) (hw : ws = Cond.codeWith y cc maxL ret hh :: ws')
    (body : ∀ p e s m args below meth c s₁, BodyLoose p l y (headSpec ws rm) cc maxL ret e s m args below meth c s₁ → c.maxLocals = maxL → Pc args s →
      W p l e (headSpec ws rm).room s m args below meth c s.heap [] 0 0 (vx_MQ below Qc XC args s mc ms free) (entryFrame m args maxL)) : vx_Met l y ws rm Pc Qc XC mc ms free := by
  refine MetFree.of_bodyS (code := cc) (maxLocals := maxL) (ret := ret) hy ?_ ?_
  · intro args s m h hn
    obtain ⟨m9, meth, c, hn9, h1, h2, h3, h4, -, h5, h6, -⟩ := Cond.codeWith_spec (atoms_spec (ws := ws) h _ (by rw [hw]; exact List.mem_cons_self))
    cases hn.symm.trans hn9
    exact ⟨meth, c, h1, h2, h3, h4, h5, h6⟩
  · intro p e s m args below meth c s₁ B hml hP _
    have hh0 : s₁.heap = s.heap := by rw [B.state]; rfl
    obtain ⟨t, a1, o, b1, b2, b3⟩ := body p e s m args below meth c s₁ B hml hP s₁ hh0 (Stand.of_body B)
    exact ⟨t, o, a1, b1, b2, b3⟩
/-! ===== END ===== -/
end
section
def RX0 : String := "VowCourt$Cause"
def TX0 : u_T := fun k => match k with
  | 0 => ("VowCourt$Cause", "vowNumber", "I", true)
  | 1 => ("VowCourt$Cause", "doubted", "I", false)
  | 2 => ("VowCourt$Cause", "status", "I", false)
  | 3 => ("VowCourt$Cause", "instance", "I", false)
  | 4 => ("VowCourt$Cause", "weights", "[I", true)
  | 5 => ("VowCourt$Cause", "votes", "[I", true)
  | _ => ("VowCourt$Cause", "sentences", "[I", true)
def tyX0 : Nat → FieldType := fun k => match k with
  | 0 => .int
  | 1 => .int
  | 2 => .int
  | 3 => .int
  | 4 => .array .int
  | 5 => .array .int
  | _ => .array .int
abbrev wsX00 : List Cond := u_ws RX0 TX0 7
theorem nmX0 : ∀ a, a < 7 → ∀ b, b < 7 → a ≠ b → (TX0 a).2.1 ≠ (TX0 b).2.1 := by decide +kernel
theorem tyX0_ok : ∀ k, k < 7 → parseFieldDescriptor (TX0 k).2.2.1 = some (tyX0 k) := by decide +kernel
abbrev cX0_init : ByteArray := prog_2_method_1_code
def yX0_init : MethodName := ⟨RX0, "<init>", "(II)V"⟩
abbrev cX0_isOver : ByteArray := prog_2_method_2_code
def yX0_isOver : MethodName := ⟨RX0, "isOver", "()Z"⟩
abbrev cX0_provedGrounds : ByteArray := prog_2_method_3_code
def yX0_provedGrounds : MethodName := ⟨RX0, "provedGrounds", "()I"⟩
abbrev cX0_votesCast : ByteArray := prog_2_method_4_code
def yX0_votesCast : MethodName := ⟨RX0, "votesCast", "()I"⟩
abbrev cX0_majority : ByteArray := prog_2_method_5_code
def yX0_majority : MethodName := ⟨RX0, "majority", "()I"⟩
abbrev cX0_conclude : ByteArray := prog_2_method_6_code
def yX0_conclude : MethodName := ⟨RX0, "conclude", "(I)V"⟩
abbrev cX0_concludeFirst : ByteArray := prog_2_method_7_code
def yX0_concludeFirst : MethodName := ⟨RX0, "concludeFirst", "(I)V"⟩
abbrev cX0_concludeSecond : ByteArray := prog_2_method_8_code
def yX0_concludeSecond : MethodName := ⟨RX0, "concludeSecond", "(I)V"⟩
abbrev cX0_concludeThird : ByteArray := prog_2_method_9_code
def yX0_concludeThird : MethodName := ⟨RX0, "concludeThird", "(I)V"⟩
abbrev cX0_reopen : ByteArray := prog_2_method_10_code
def yX0_reopen : MethodName := ⟨RX0, "reopen", "()V"⟩
abbrev cX0_alike : ByteArray := prog_2_method_11_code
def yX0_alike : MethodName := ⟨RX0, "alike", "(II)Z"⟩
def RX1 : String := "VowCourt$Lines"
def TX1 : u_T := fun k => match k with
  | _ => ("VowCourt$Lines", "steps", "[[I", true)
def tyX1 : Nat → FieldType := fun k => match k with
  | _ => .array (.array .int)
abbrev wsX10 : List Cond := u_ws RX1 TX1 1
theorem nmX1 : ∀ a, a < 1 → ∀ b, b < 1 → a ≠ b → (TX1 a).2.1 ≠ (TX1 b).2.1 := by decide +kernel
theorem tyX1_ok : ∀ k, k < 1 → parseFieldDescriptor (TX1 k).2.2.1 = some (tyX1 k) := by decide +kernel
abbrev cX1_init : ByteArray := prog_3_method_1_code
def yX1_init : MethodName := ⟨RX1, "<init>", "()V"⟩
abbrev cX1_enter : ByteArray := prog_3_method_2_code
def yX1_enter : MethodName := ⟨RX1, "enter", "(III)V"⟩
abbrev cX1_stepsBetween : ByteArray := prog_3_method_3_code
def yX1_stepsBetween : MethodName := ⟨RX1, "stepsBetween", "(II)I"⟩
abbrev cX1_degree : ByteArray := prog_3_method_4_code
def yX1_degree : MethodName := ⟨RX1, "degree", "(II)I"⟩
abbrev cX1_inLine : ByteArray := prog_3_method_5_code
def yX1_inLine : MethodName := ⟨RX1, "inLine", "(II)Z"⟩
abbrev cX1_ancestorAt : ByteArray := prog_3_method_6_code
def yX1_ancestorAt : MethodName := ⟨RX1, "ancestorAt", "(II)I"⟩
def RX2 : String := "VowCourt$Person"
def TX2 : u_T := fun k => match k with
  | 0 => ("VowCourt$Person", "born", "I", true)
  | 1 => ("VowCourt$Person", "homeNow", "I", false)
  | 2 => ("VowCourt$Person", "riteNow", "I", false)
  | 3 => ("VowCourt$Person", "ordered", "Z", false)
  | 4 => ("VowCourt$Person", "banned", "Z", false)
  | _ => ("VowCourt$Person", "lives", "Z", false)
def tyX2 : Nat → FieldType := fun k => match k with
  | 0 => .int
  | 1 => .int
  | 2 => .int
  | 3 => .boolean
  | 4 => .boolean
  | _ => .boolean
abbrev wsX20 : List Cond := u_ws RX2 TX2 6
theorem nmX2 : ∀ a, a < 6 → ∀ b, b < 6 → a ≠ b → (TX2 a).2.1 ≠ (TX2 b).2.1 := by decide +kernel
theorem tyX2_ok : ∀ k, k < 6 → parseFieldDescriptor (TX2 k).2.2.1 = some (tyX2 k) := by decide +kernel
abbrev cX2_init : ByteArray := prog_4_method_1_code
def yX2_init : MethodName := ⟨RX2, "<init>", "(II)V"⟩
abbrev cX2_mayVow : ByteArray := prog_4_method_2_code
def yX2_mayVow : MethodName := ⟨RX2, "mayVow", "()Z"⟩
def RX3 : String := "VowCourt$Vow"
def TX3 : u_T := fun k => match k with
  | 0 => ("VowCourt$Vow", "one", "I", true)
  | 1 => ("VowCourt$Vow", "other", "I", true)
  | 2 => ("VowCourt$Vow", "place", "I", true)
  | 3 => ("VowCourt$Vow", "day", "I", true)
  | 4 => ("VowCourt$Vow", "lasting", "I", true)
  | 5 => ("VowCourt$Vow", "lacksForm", "Z", false)
  | 6 => ("VowCourt$Vow", "status", "I", false)
  | _ => ("VowCourt$Vow", "turned", "I", false)
def tyX3 : Nat → FieldType := fun k => match k with
  | 0 => .int
  | 1 => .int
  | 2 => .int
  | 3 => .int
  | 4 => .int
  | 5 => .boolean
  | 6 => .int
  | _ => .int
abbrev wsX30 : List Cond := u_ws RX3 TX3 8
theorem nmX3 : ∀ a, a < 8 → ∀ b, b < 8 → a ≠ b → (TX3 a).2.1 ≠ (TX3 b).2.1 := by decide +kernel
theorem tyX3_ok : ∀ k, k < 8 → parseFieldDescriptor (TX3 k).2.2.1 = some (tyX3 k) := by decide +kernel
abbrev cX3_init : ByteArray := prog_5_method_1_code
def yX3_init : MethodName := ⟨RX3, "<init>", "(IIIIIZ)V"⟩
abbrev cX3_isOf : ByteArray := prog_5_method_2_code
def yX3_isOf : MethodName := ⟨RX3, "isOf", "(I)Z"⟩
abbrev cX3_partnerOf : ByteArray := prog_5_method_3_code
def yX3_partnerOf : MethodName := ⟨RX3, "partnerOf", "(I)I"⟩
abbrev cX3_bindsOn : ByteArray := prog_5_method_4_code
def yX3_bindsOn : MethodName := ⟨RX3, "bindsOn", "(I)Z"⟩
abbrev cX3_turn : ByteArray := prog_5_method_5_code
def yX3_turn : MethodName := ⟨RX3, "turn", "(II)V"⟩
def RX4 : String := "VowCourt"
def TX4 : u_T := fun k => match k with
  | 0 => ("VowCourt", "persons", "Ljava/util/ArrayList;", true)
  | 1 => ("VowCourt", "vows", "Ljava/util/ArrayList;", true)
  | 2 => ("VowCourt", "causes", "Ljava/util/ArrayList;", true)
  | 3 => ("VowCourt", "lines", "LVowCourt$Lines;", true)
  | 4 => ("VowCourt", "dispensed", "[[I", true)
  | 5 => ("VowCourt", "facultyEnds", "[[I", true)
  | 6 => ("VowCourt", "errors", "[Z", true)
  | _ => ("VowCourt", "today", "I", false)
def tyX4 : Nat → FieldType := fun k => match k with
  | 0 => .object "java/util/ArrayList"
  | 1 => .object "java/util/ArrayList"
  | 2 => .object "java/util/ArrayList"
  | 3 => .object "VowCourt$Lines"
  | 4 => .array (.array .int)
  | 5 => .array (.array .int)
  | 6 => .array .boolean
  | _ => .int
abbrev wsX40 : List Cond := u_ws RX4 TX4 8
theorem nmX4 : ∀ a, a < 8 → ∀ b, b < 8 → a ≠ b → (TX4 a).2.1 ≠ (TX4 b).2.1 := by decide +kernel
theorem tyX4_ok : ∀ k, k < 8 → parseFieldDescriptor (TX4 k).2.2.1 = some (tyX4 k) := by decide +kernel
abbrev cX4_init : ByteArray := prog_1_method_1_code
def yX4_init : MethodName := ⟨RX4, "<init>", "()V"⟩
abbrev cX4_person : ByteArray := prog_1_method_2_code
def yX4_person : MethodName := ⟨RX4, "person", "(IIII)I"⟩
abbrev cX4_rite : ByteArray := prog_1_method_3_code
def yX4_rite : MethodName := ⟨RX4, "rite", "(II)I"⟩
abbrev cX4_home : ByteArray := prog_1_method_4_code
def yX4_home : MethodName := ⟨RX4, "home", "(II)I"⟩
abbrev cX4_order : ByteArray := prog_1_method_5_code
def yX4_order : MethodName := ⟨RX4, "order", "(I)V"⟩
abbrev cX4_ban : ByteArray := prog_1_method_6_code
def yX4_ban : MethodName := ⟨RX4, "ban", "(I)Z"⟩
abbrev cX4_die : ByteArray := prog_1_method_7_code
def yX4_die : MethodName := ⟨RX4, "die", "(I)I"⟩
abbrev cX4_dispense : ByteArray := prog_1_method_8_code
def yX4_dispense : MethodName := ⟨RX4, "dispense", "(III)V"⟩
abbrev cX4_faculty : ByteArray := prog_1_method_9_code
def yX4_faculty : MethodName := ⟨RX4, "faculty", "(III)V"⟩
abbrev cX4_error : ByteArray := prog_1_method_10_code
def yX4_error : MethodName := ⟨RX4, "error", "(I)Z"⟩
abbrev cX4_vow : ByteArray := prog_1_method_11_code
def yX4_vow : MethodName := ⟨RX4, "vow", "(IIII)I"⟩
abbrev cX4_heal : ByteArray := prog_1_method_12_code
def yX4_heal : MethodName := ⟨RX4, "heal", "(I)V"⟩
abbrev cX4_grace : ByteArray := prog_1_method_13_code
def yX4_grace : MethodName := ⟨RX4, "grace", "(I)V"⟩
abbrev cX4_documents : ByteArray := prog_1_method_14_code
def yX4_documents : MethodName := ⟨RX4, "documents", "(I)I"⟩
abbrev cX4_cause : ByteArray := prog_1_method_15_code
def yX4_cause : MethodName := ⟨RX4, "cause", "(IIIZ)I"⟩
abbrev cX4_doubt : ByteArray := prog_1_method_16_code
def yX4_doubt : MethodName := ⟨RX4, "doubt", "(II)I"⟩
abbrev cX4_proof : ByteArray := prog_1_method_17_code
def yX4_proof : MethodName := ⟨RX4, "proof", "(III)I"⟩
abbrev cX4_publish : ByteArray := prog_1_method_18_code
def yX4_publish : MethodName := ⟨RX4, "publish", "(I)I"⟩
abbrev cX4_vote : ByteArray := prog_1_method_19_code
def yX4_vote : MethodName := ⟨RX4, "vote", "(III)I"⟩
abbrev cX4_sentence : ByteArray := prog_1_method_20_code
def yX4_sentence : MethodName := ⟨RX4, "sentence", "(I)I"⟩
abbrev cX4_appeal : ByteArray := prog_1_method_21_code
def yX4_appeal : MethodName := ⟨RX4, "appeal", "(I)V"⟩
abbrev cX4_pass : ByteArray := prog_1_method_22_code
def yX4_pass : MethodName := ⟨RX4, "pass", "(I)I"⟩
abbrev cX4_kin : ByteArray := prog_1_method_23_code
def yX4_kin : MethodName := ⟨RX4, "kin", "(II)I"⟩
abbrev cX4_ancestor : ByteArray := prog_1_method_24_code
def yX4_ancestor : MethodName := ⟨RX4, "ancestor", "(II)I"⟩
abbrev cX4_hindered : ByteArray := prog_1_method_25_code
def yX4_hindered : MethodName := ⟨RX4, "hindered", "(I)I"⟩
abbrev cX4_vowOf : ByteArray := prog_1_method_26_code
def yX4_vowOf : MethodName := ⟨RX4, "vowOf", "(II)I"⟩
abbrev cX4_bound : ByteArray := prog_1_method_27_code
def yX4_bound : MethodName := ⟨RX4, "bound", "(II)I"⟩
abbrev cX4_hasCause : ByteArray := prog_1_method_28_code
def yX4_hasCause : MethodName := ⟨RX4, "hasCause", "(II)Z"⟩
abbrev cX4_causeOf : ByteArray := prog_1_method_29_code
def yX4_causeOf : MethodName := ⟨RX4, "causeOf", "(II)I"⟩
abbrev cX4_state : ByteArray := prog_1_method_30_code
def yX4_state : MethodName := ⟨RX4, "state", "(III)C"⟩
abbrev cX4_checkIndex : ByteArray := prog_1_method_31_code
def yX4_checkIndex : MethodName := ⟨RX4, "checkIndex", "(Z)V"⟩
abbrev cX4_checkArgument : ByteArray := prog_1_method_32_code
def yX4_checkArgument : MethodName := ⟨RX4, "checkArgument", "(Z)V"⟩
abbrev cX4_checkPossible : ByteArray := prog_1_method_33_code
def yX4_checkPossible : MethodName := ⟨RX4, "checkPossible", "(Z)V"⟩
abbrev cX4_isPerson : ByteArray := prog_1_method_34_code
def yX4_isPerson : MethodName := ⟨RX4, "isPerson", "(I)Z"⟩
abbrev cX4_isPlace : ByteArray := prog_1_method_35_code
def yX4_isPlace : MethodName := ⟨RX4, "isPlace", "(I)Z"⟩
abbrev cX4_isWitness : ByteArray := prog_1_method_36_code
def yX4_isWitness : MethodName := ⟨RX4, "isWitness", "(I)Z"⟩
abbrev cX4_isDoubt : ByteArray := prog_1_method_37_code
def yX4_isDoubt : MethodName := ⟨RX4, "isDoubt", "(I)Z"⟩
abbrev cX4_isDay : ByteArray := prog_1_method_38_code
def yX4_isDay : MethodName := ⟨RX4, "isDay", "(I)Z"⟩
abbrev cX4_personAt : ByteArray := prog_1_method_39_code
def yX4_personAt : MethodName := ⟨RX4, "personAt", "(I)LVowCourt$Person;"⟩
abbrev cX4_vowAt : ByteArray := prog_1_method_40_code
def yX4_vowAt : MethodName := ⟨RX4, "vowAt", "(I)LVowCourt$Vow;"⟩
abbrev cX4_causeAt : ByteArray := prog_1_method_41_code
def yX4_causeAt : MethodName := ⟨RX4, "causeAt", "(I)LVowCourt$Cause;"⟩
abbrev cX4_lastingHindrances : ByteArray := prog_1_method_42_code
def yX4_lastingHindrances : MethodName := ⟨RX4, "lastingHindrances", "(II)I"⟩
abbrev cX4_canBeDispensed : ByteArray := prog_1_method_43_code
def yX4_canBeDispensed : MethodName := ⟨RX4, "canBeDispensed", "(III)Z"⟩
abbrev cX4_ageOfYounger : ByteArray := prog_1_method_44_code
def yX4_ageOfYounger : MethodName := ⟨RX4, "ageOfYounger", "(II)I"⟩
abbrev cX4_hindrances : ByteArray := prog_1_method_45_code
def yX4_hindrances : MethodName := ⟨RX4, "hindrances", "(I)I"⟩
abbrev cX4_lowestBond : ByteArray := prog_1_method_46_code
def yX4_lowestBond : MethodName := ⟨RX4, "lowestBond", "(III)I"⟩
abbrev cX4_endVowsOf : ByteArray := prog_1_method_47_code
def yX4_endVowsOf : MethodName := ⟨RX4, "endVowsOf", "(I)I"⟩
abbrev cX4_mayBeJudged : ByteArray := prog_1_method_48_code
def yX4_mayBeJudged : MethodName := ⟨RX4, "mayBeJudged", "(I)Z"⟩
abbrev cX4_isInCourt : ByteArray := prog_1_method_49_code
def yX4_isInCourt : MethodName := ⟨RX4, "isInCourt", "(I)Z"⟩
abbrev cX4_isCourtOf : ByteArray := prog_1_method_50_code
def yX4_isCourtOf : MethodName := ⟨RX4, "isCourtOf", "(LVowCourt$Vow;I)Z"⟩
abbrev cX4_livesAt : ByteArray := prog_1_method_51_code
def yX4_livesAt : MethodName := ⟨RX4, "livesAt", "(II)Z"⟩
abbrev cX4_describe : ByteArray := prog_1_method_52_code
def yX4_describe : MethodName := ⟨RX4, "describe", "(II)Ljava/lang/StringBuilder;"⟩
def RX5 : String := "VowCourtModel"
def TX5 : u_T := fun k => match k with
  | 0 => ("VowCourtModel", "day", "I", false)
  | 1 => ("VowCourtModel", "persons", "I", false)
  | 2 => ("VowCourtModel", "born", "[I", true)
  | 3 => ("VowCourtModel", "home", "[I", true)
  | 4 => ("VowCourtModel", "rite", "[I", true)
  | 5 => ("VowCourtModel", "isOrdered", "[Z", true)
  | 6 => ("VowCourtModel", "isBanned", "[Z", true)
  | 7 => ("VowCourtModel", "isDead", "[Z", true)
  | 8 => ("VowCourtModel", "steps", "[I", true)
  | 9 => ("VowCourtModel", "dispensed", "[Z", true)
  | 10 => ("VowCourtModel", "until", "[I", true)
  | 11 => ("VowCourtModel", "isError", "[Z", true)
  | 12 => ("VowCourtModel", "vows", "I", false)
  | 13 => ("VowCourtModel", "one", "[I", true)
  | 14 => ("VowCourtModel", "other", "[I", true)
  | 15 => ("VowCourtModel", "place", "[I", true)
  | 16 => ("VowCourtModel", "vowed", "[I", true)
  | 17 => ("VowCourtModel", "lacks", "[Z", true)
  | 18 => ("VowCourtModel", "kept", "[I", true)
  | 19 => ("VowCourtModel", "state", "[I", true)
  | 20 => ("VowCourtModel", "since", "[I", true)
  | 21 => ("VowCourtModel", "causes", "I", false)
  | 22 => ("VowCourtModel", "vowOf", "[I", true)
  | 23 => ("VowCourtModel", "doubts", "[I", true)
  | 24 => ("VowCourtModel", "how", "[I", true)
  | 25 => ("VowCourtModel", "instance", "[I", true)
  | 26 => ("VowCourtModel", "weight", "[I", true)
  | 27 => ("VowCourtModel", "voted", "[I", true)
  | 28 => ("VowCourtModel", "vote", "[I", true)
  | 29 => ("VowCourtModel", "sentence", "[I", true)
  | 30 => ("VowCourtModel", "written", "I", false)
  | 31 => ("VowCourtModel", "text", "[I", true)
  | _ => ("VowCourtModel", "thrown", "I", false)
def tyX5 : Nat → FieldType := fun k => match k with
  | 0 => .int
  | 1 => .int
  | 2 => .array .int
  | 3 => .array .int
  | 4 => .array .int
  | 5 => .array .boolean
  | 6 => .array .boolean
  | 7 => .array .boolean
  | 8 => .array .int
  | 9 => .array .boolean
  | 10 => .array .int
  | 11 => .array .boolean
  | 12 => .int
  | 13 => .array .int
  | 14 => .array .int
  | 15 => .array .int
  | 16 => .array .int
  | 17 => .array .boolean
  | 18 => .array .int
  | 19 => .array .int
  | 20 => .array .int
  | 21 => .int
  | 22 => .array .int
  | 23 => .array .int
  | 24 => .array .int
  | 25 => .array .int
  | 26 => .array .int
  | 27 => .array .int
  | 28 => .array .int
  | 29 => .array .int
  | 30 => .int
  | 31 => .array .int
  | _ => .int
abbrev wsX50 : List Cond := u_ws RX5 TX5 33
theorem nmX5 : ∀ a, a < 33 → ∀ b, b < 33 → a ≠ b → (TX5 a).2.1 ≠ (TX5 b).2.1 := by decide +kernel
theorem tyX5_ok : ∀ k, k < 33 → parseFieldDescriptor (TX5 k).2.2.1 = some (tyX5 k) := by decide +kernel
abbrev cX5_init : ByteArray := prog_7_method_1_code
def yX5_init : MethodName := ⟨RX5, "<init>", "()V"⟩
abbrev cX5_thrown : ByteArray := prog_7_method_2_code
def yX5_thrown : MethodName := ⟨RX5, "thrown", "()I"⟩
abbrev cX5_fails : ByteArray := prog_7_method_3_code
def yX5_fails : MethodName := ⟨RX5, "fails", "(I)Z"⟩
abbrev cX5_isIn : ByteArray := prog_7_method_4_code
def yX5_isIn : MethodName := ⟨RX5, "isIn", "(III)Z"⟩
abbrev cX5_isPerson : ByteArray := prog_7_method_5_code
def yX5_isPerson : MethodName := ⟨RX5, "isPerson", "(I)Z"⟩
abbrev cX5_isVow : ByteArray := prog_7_method_6_code
def yX5_isVow : MethodName := ⟨RX5, "isVow", "(I)Z"⟩
abbrev cX5_isPlace : ByteArray := prog_7_method_7_code
def yX5_isPlace : MethodName := ⟨RX5, "isPlace", "(I)Z"⟩
abbrev cX5_person : ByteArray := prog_7_method_8_code
def yX5_person : MethodName := ⟨RX5, "person", "(IIII)I"⟩
abbrev cX5_rite : ByteArray := prog_7_method_9_code
def yX5_rite : MethodName := ⟨RX5, "rite", "(II)I"⟩
abbrev cX5_home : ByteArray := prog_7_method_10_code
def yX5_home : MethodName := ⟨RX5, "home", "(II)I"⟩
abbrev cX5_order : ByteArray := prog_7_method_11_code
def yX5_order : MethodName := ⟨RX5, "order", "(I)V"⟩
abbrev cX5_ban : ByteArray := prog_7_method_12_code
def yX5_ban : MethodName := ⟨RX5, "ban", "(I)Z"⟩
abbrev cX5_die : ByteArray := prog_7_method_13_code
def yX5_die : MethodName := ⟨RX5, "die", "(I)I"⟩
abbrev cX5_ends : ByteArray := prog_7_method_14_code
def yX5_ends : MethodName := ⟨RX5, "ends", "(II)V"⟩
abbrev cX5_kinOf : ByteArray := prog_7_method_15_code
def yX5_kinOf : MethodName := ⟨RX5, "kinOf", "(II)I"⟩
abbrev cX5_isYoung : ByteArray := prog_7_method_16_code
def yX5_isYoung : MethodName := ⟨RX5, "isYoung", "(III)Z"⟩
abbrev cX5_areKin : ByteArray := prog_7_method_17_code
def yX5_areKin : MethodName := ⟨RX5, "areKin", "(II)Z"⟩
abbrev cX5_hinders : ByteArray := prog_7_method_18_code
def yX5_hinders : MethodName := ⟨RX5, "hinders", "(II)I"⟩
abbrev cX5_placeOf : ByteArray := prog_7_method_19_code
def yX5_placeOf : MethodName := ⟨RX5, "placeOf", "(III)I"⟩
abbrev cX5_canDispense : ByteArray := prog_7_method_20_code
def yX5_canDispense : MethodName := ⟨RX5, "canDispense", "(III)Z"⟩
abbrev cX5_dispense : ByteArray := prog_7_method_21_code
def yX5_dispense : MethodName := ⟨RX5, "dispense", "(III)V"⟩
abbrev cX5_isWitness : ByteArray := prog_7_method_22_code
def yX5_isWitness : MethodName := ⟨RX5, "isWitness", "(I)Z"⟩
abbrev cX5_faculty : ByteArray := prog_7_method_23_code
def yX5_faculty : MethodName := ⟨RX5, "faculty", "(III)V"⟩
abbrev cX5_error : ByteArray := prog_7_method_24_code
def yX5_error : MethodName := ⟨RX5, "error", "(I)Z"⟩
abbrev cX5_vow : ByteArray := prog_7_method_25_code
def yX5_vow : MethodName := ⟨RX5, "vow", "(IIII)I"⟩
abbrev cX5_isOf : ByteArray := prog_7_method_26_code
def yX5_isOf : MethodName := ⟨RX5, "isOf", "(II)Z"⟩
abbrev cX5_binds : ByteArray := prog_7_method_27_code
def yX5_binds : MethodName := ⟨RX5, "binds", "(II)Z"⟩
abbrev cX5_hinderedBy : ByteArray := prog_7_method_28_code
def yX5_hinderedBy : MethodName := ⟨RX5, "hinderedBy", "(I)I"⟩
abbrev cX5_heal : ByteArray := prog_7_method_29_code
def yX5_heal : MethodName := ⟨RX5, "heal", "(I)V"⟩
abbrev cX5_isOver : ByteArray := prog_7_method_30_code
def yX5_isOver : MethodName := ⟨RX5, "isOver", "(I)Z"⟩
abbrev cX5_isQuiet : ByteArray := prog_7_method_31_code
def yX5_isQuiet : MethodName := ⟨RX5, "isQuiet", "(II)Z"⟩
abbrev cX5_isTold : ByteArray := prog_7_method_32_code
def yX5_isTold : MethodName := ⟨RX5, "isTold", "(I)Z"⟩
abbrev cX5_grace : ByteArray := prog_7_method_33_code
def yX5_grace : MethodName := ⟨RX5, "grace", "(I)V"⟩
abbrev cX5_documents : ByteArray := prog_7_method_34_code
def yX5_documents : MethodName := ⟨RX5, "documents", "(I)I"⟩
abbrev cX5_has : ByteArray := prog_7_method_35_code
def yX5_has : MethodName := ⟨RX5, "has", "(II)Z"⟩
abbrev cX5_isDoubt : ByteArray := prog_7_method_36_code
def yX5_isDoubt : MethodName := ⟨RX5, "isDoubt", "(I)Z"⟩
abbrev cX5_cause : ByteArray := prog_7_method_37_code
def yX5_cause : MethodName := ⟨RX5, "cause", "(IIIZ)I"⟩
abbrev cX5_isCause : ByteArray := prog_7_method_38_code
def yX5_isCause : MethodName := ⟨RX5, "isCause", "(I)Z"⟩
abbrev cX5_doubt : ByteArray := prog_7_method_39_code
def yX5_doubt : MethodName := ⟨RX5, "doubt", "(II)I"⟩
abbrev cX5_hasGround : ByteArray := prog_7_method_40_code
def yX5_hasGround : MethodName := ⟨RX5, "hasGround", "(II)Z"⟩
abbrev cX5_proof : ByteArray := prog_7_method_41_code
def yX5_proof : MethodName := ⟨RX5, "proof", "(III)I"⟩
abbrev cX5_proven : ByteArray := prog_7_method_42_code
def yX5_proven : MethodName := ⟨RX5, "proven", "(I)I"⟩
abbrev cX5_publish : ByteArray := prog_7_method_43_code
def yX5_publish : MethodName := ⟨RX5, "publish", "(I)I"⟩
abbrev cX5_vote : ByteArray := prog_7_method_44_code
def yX5_vote : MethodName := ⟨RX5, "vote", "(III)I"⟩
abbrev cX5_effects : ByteArray := prog_7_method_45_code
def yX5_effects : MethodName := ⟨RX5, "effects", "(I)I"⟩
abbrev cX5_areLike : ByteArray := prog_7_method_46_code
def yX5_areLike : MethodName := ⟨RX5, "areLike", "(II)Z"⟩
abbrev cX5_opens : ByteArray := prog_7_method_47_code
def yX5_opens : MethodName := ⟨RX5, "opens", "(II)V"⟩
abbrev cX5_decides : ByteArray := prog_7_method_48_code
def yX5_decides : MethodName := ⟨RX5, "decides", "(IZ)V"⟩
abbrev cX5_sentence : ByteArray := prog_7_method_49_code
def yX5_sentence : MethodName := ⟨RX5, "sentence", "(I)I"⟩
abbrev cX5_appeal : ByteArray := prog_7_method_50_code
def yX5_appeal : MethodName := ⟨RX5, "appeal", "(I)V"⟩
abbrev cX5_pass : ByteArray := prog_7_method_51_code
def yX5_pass : MethodName := ⟨RX5, "pass", "(I)I"⟩
abbrev cX5_kin : ByteArray := prog_7_method_52_code
def yX5_kin : MethodName := ⟨RX5, "kin", "(II)I"⟩
abbrev cX5_ancestor : ByteArray := prog_7_method_53_code
def yX5_ancestor : MethodName := ⟨RX5, "ancestor", "(II)I"⟩
abbrev cX5_hindered : ByteArray := prog_7_method_54_code
def yX5_hindered : MethodName := ⟨RX5, "hindered", "(I)I"⟩
abbrev cX5_vowOf : ByteArray := prog_7_method_55_code
def yX5_vowOf : MethodName := ⟨RX5, "vowOf", "(II)I"⟩
abbrev cX5_boundBy : ByteArray := prog_7_method_56_code
def yX5_boundBy : MethodName := ⟨RX5, "boundBy", "(II)I"⟩
abbrev cX5_bound : ByteArray := prog_7_method_57_code
def yX5_bound : MethodName := ⟨RX5, "bound", "(II)I"⟩
abbrev cX5_hasCause : ByteArray := prog_7_method_58_code
def yX5_hasCause : MethodName := ⟨RX5, "hasCause", "(II)Z"⟩
abbrev cX5_causeOf : ByteArray := prog_7_method_59_code
def yX5_causeOf : MethodName := ⟨RX5, "causeOf", "(II)I"⟩
abbrev cX5_puts : ByteArray := prog_7_method_60_code
def yX5_puts : MethodName := ⟨RX5, "puts", "(I)V"⟩
abbrev cX5_putsNumber : ByteArray := prog_7_method_61_code
def yX5_putsNumber : MethodName := ⟨RX5, "putsNumber", "(I)V"⟩
abbrev cX5_writes : ByteArray := prog_7_method_62_code
def yX5_writes : MethodName := ⟨RX5, "writes", "(II)V"⟩
abbrev cX5_state : ByteArray := prog_7_method_63_code
def yX5_state : MethodName := ⟨RX5, "state", "(III)C"⟩
def RJx145de : String := "java/io/Serializable"
def TJx145de : u_T := fun k => match k with
  | _ => ("", "", "", false)
def tyJx145de : Nat → FieldType := fun k => match k with
  | _ => .int
abbrev wsJx145de0 : List Cond := u_ws RJx145de TJx145de 0
theorem nmJx145de : ∀ a, a < 0 → ∀ b, b < 0 → a ≠ b → (TJx145de a).2.1 ≠ (TJx145de b).2.1 := by decide +kernel
theorem tyJx145de_ok : ∀ k, k < 0 → parseFieldDescriptor (TJx145de k).2.2.1 = some (tyJx145de k) := by decide +kernel
def RJ5 : String := "java/lang/AbstractStringBuilder"
def TJ5 : u_T := fun k => match k with
  | _ => ("", "", "", false)
def tyJ5 : Nat → FieldType := fun k => match k with
  | _ => .int
abbrev wsJ50 : List Cond := u_ws RJ5 TJ5 0
theorem nmJ5 : ∀ a, a < 0 → ∀ b, b < 0 → a ≠ b → (TJ5 a).2.1 ≠ (TJ5 b).2.1 := by decide +kernel
theorem tyJ5_ok : ∀ k, k < 0 → parseFieldDescriptor (TJ5 k).2.2.1 = some (tyJ5 k) := by decide +kernel
abbrev cJ5_init_d00df : ByteArray := prog_9_method_2_code
def yJ5_init_d00df : MethodName := ⟨RJ5, "<init>", "(I)V"⟩
abbrev cJ5_length_8abf5 : ByteArray := prog_9_method_6_code
def yJ5_length_8abf5 : MethodName := ⟨RJ5, "length", "()I"⟩
abbrev cJ5_ensureCapacityInternal_d00df : ByteArray := prog_9_method_9_code
def yJ5_ensureCapacityInternal_d00df : MethodName := ⟨RJ5, "ensureCapacityInternal", "(I)V"⟩
abbrev cJ5_newCapacity_0f7a4 : ByteArray := prog_9_method_10_code
def yJ5_newCapacity_0f7a4 : MethodName := ⟨RJ5, "newCapacity", "(I)I"⟩
abbrev cJ5_inflate_da8c8 : ByteArray := prog_9_method_11_code
def yJ5_inflate_da8c8 : MethodName := ⟨RJ5, "inflate", "()V"⟩
abbrev cJ5_charAt_5068e : ByteArray := prog_9_method_14_code
def yJ5_charAt_5068e : MethodName := ⟨RJ5, "charAt", "(I)C"⟩
abbrev cJ5_append_cf1ce : ByteArray := prog_9_method_22_code
def yJ5_append_cf1ce : MethodName := ⟨RJ5, "append", "(Ljava/lang/String;)Ljava/lang/AbstractStringBuilder;"⟩
abbrev cJ5_appendNull_278bc : ByteArray := prog_9_method_26_code
def yJ5_appendNull_278bc : MethodName := ⟨RJ5, "appendNull", "()Ljava/lang/AbstractStringBuilder;"⟩
abbrev cJ5_append_c97b9 : ByteArray := prog_9_method_32_code
def yJ5_append_c97b9 : MethodName := ⟨RJ5, "append", "(I)Ljava/lang/AbstractStringBuilder;"⟩
abbrev cJ5_isLatin1_aae02 : ByteArray := prog_9_method_68_code
def yJ5_isLatin1_aae02 : MethodName := ⟨RJ5, "isLatin1", "()Z"⟩
abbrev cJ5_inflateIfNeededFor_a7421 : ByteArray := prog_9_method_71_code
def yJ5_inflateIfNeededFor_a7421 : MethodName := ⟨RJ5, "inflateIfNeededFor", "(Ljava/lang/String;)V"⟩
abbrev cJ5_putStringAt_47b60 : ByteArray := prog_9_method_73_code
def yJ5_putStringAt_47b60 : MethodName := ⟨RJ5, "putStringAt", "(ILjava/lang/String;)V"⟩
def RJx2cfe8 : String := "java/lang/Appendable"
def TJx2cfe8 : u_T := fun k => match k with
  | _ => ("", "", "", false)
def tyJx2cfe8 : Nat → FieldType := fun k => match k with
  | _ => .int
abbrev wsJx2cfe80 : List Cond := u_ws RJx2cfe8 TJx2cfe8 0
theorem nmJx2cfe8 : ∀ a, a < 0 → ∀ b, b < 0 → a ≠ b → (TJx2cfe8 a).2.1 ≠ (TJx2cfe8 b).2.1 := by decide +kernel
theorem tyJx2cfe8_ok : ∀ k, k < 0 → parseFieldDescriptor (TJx2cfe8 k).2.2.1 = some (tyJx2cfe8 k) := by decide +kernel
def RJx9f9b0 : String := "java/lang/CharSequence"
def TJx9f9b0 : u_T := fun k => match k with
  | _ => ("", "", "", false)
def tyJx9f9b0 : Nat → FieldType := fun k => match k with
  | _ => .int
abbrev wsJx9f9b00 : List Cond := u_ws RJx9f9b0 TJx9f9b0 0
theorem nmJx9f9b0 : ∀ a, a < 0 → ∀ b, b < 0 → a ≠ b → (TJx9f9b0 a).2.1 ≠ (TJx9f9b0 b).2.1 := by decide +kernel
theorem tyJx9f9b0_ok : ∀ k, k < 0 → parseFieldDescriptor (TJx9f9b0 k).2.2.1 = some (tyJx9f9b0 k) := by decide +kernel
def RJx8e188 : String := "java/lang/Cloneable"
def TJx8e188 : u_T := fun k => match k with
  | _ => ("", "", "", false)
def tyJx8e188 : Nat → FieldType := fun k => match k with
  | _ => .int
abbrev wsJx8e1880 : List Cond := u_ws RJx8e188 TJx8e188 0
theorem nmJx8e188 : ∀ a, a < 0 → ∀ b, b < 0 → a ≠ b → (TJx8e188 a).2.1 ≠ (TJx8e188 b).2.1 := by decide +kernel
theorem tyJx8e188_ok : ∀ k, k < 0 → parseFieldDescriptor (TJx8e188 k).2.2.1 = some (tyJx8e188 k) := by decide +kernel
def RJxb160c : String := "java/lang/Comparable"
def TJxb160c : u_T := fun k => match k with
  | _ => ("", "", "", false)
def tyJxb160c : Nat → FieldType := fun k => match k with
  | _ => .int
abbrev wsJxb160c0 : List Cond := u_ws RJxb160c TJxb160c 0
theorem nmJxb160c : ∀ a, a < 0 → ∀ b, b < 0 → a ≠ b → (TJxb160c a).2.1 ≠ (TJxb160c b).2.1 := by decide +kernel
theorem tyJxb160c_ok : ∀ k, k < 0 → parseFieldDescriptor (TJxb160c k).2.2.1 = some (tyJxb160c k) := by decide +kernel
def RJ6 : String := "java/lang/Integer"
def TJ6 : u_T := fun k => match k with
  | _ => ("", "", "", false)
def tyJ6 : Nat → FieldType := fun k => match k with
  | _ => .int
abbrev wsJ60 : List Cond := u_ws RJ6 TJ6 0
theorem nmJ6 : ∀ a, a < 0 → ∀ b, b < 0 → a ≠ b → (TJ6 a).2.1 ≠ (TJ6 b).2.1 := by decide +kernel
theorem tyJ6_ok : ∀ k, k < 0 → parseFieldDescriptor (TJ6 k).2.2.1 = some (tyJ6 k) := by decide +kernel
abbrev cJ6_getChars_ba4f3 : ByteArray := prog_18_method_12_code
def yJ6_getChars_ba4f3 : MethodName := ⟨RJ6, "getChars", "(II[B)I"⟩
abbrev cJ6_stringSize_0f7a4 : ByteArray := prog_18_method_13_code
def yJ6_stringSize_0f7a4 : MethodName := ⟨RJ6, "stringSize", "(I)I"⟩
def RJxab1ab : String := "java/lang/Iterable"
def TJxab1ab : u_T := fun k => match k with
  | _ => ("", "", "", false)
def tyJxab1ab : Nat → FieldType := fun k => match k with
  | _ => .int
abbrev wsJxab1ab0 : List Cond := u_ws RJxab1ab TJxab1ab 0
theorem nmJxab1ab : ∀ a, a < 0 → ∀ b, b < 0 → a ≠ b → (TJxab1ab a).2.1 ≠ (TJxab1ab b).2.1 := by decide +kernel
theorem tyJxab1ab_ok : ∀ k, k < 0 → parseFieldDescriptor (TJxab1ab k).2.2.1 = some (tyJxab1ab k) := by decide +kernel
def RJ9 : String := "java/lang/Math"
def TJ9 : u_T := fun k => match k with
  | _ => ("", "", "", false)
def tyJ9 : Nat → FieldType := fun k => match k with
  | _ => .int
abbrev wsJ90 : List Cond := u_ws RJ9 TJ9 0
theorem nmJ9 : ∀ a, a < 0 → ∀ b, b < 0 → a ≠ b → (TJ9 a).2.1 ≠ (TJ9 b).2.1 := by decide +kernel
theorem tyJ9_ok : ∀ k, k < 0 → parseFieldDescriptor (TJ9 k).2.2.1 = some (tyJ9 k) := by decide +kernel
abbrev cJ9_max_7cf53 : ByteArray := prog_20_method_65_code
def yJ9_max_7cf53 : MethodName := ⟨RJ9, "max", "(II)I"⟩
abbrev cJ9_min_7cf53 : ByteArray := prog_20_method_69_code
def yJ9_min_7cf53 : MethodName := ⟨RJ9, "min", "(II)I"⟩
def RJxd2413 : String := "java/lang/Number"
def TJxd2413 : u_T := fun k => match k with
  | _ => ("", "", "", false)
def tyJxd2413 : Nat → FieldType := fun k => match k with
  | _ => .int
abbrev wsJxd24130 : List Cond := u_ws RJxd2413 TJxd2413 0
theorem nmJxd2413 : ∀ a, a < 0 → ∀ b, b < 0 → a ≠ b → (TJxd2413 a).2.1 ≠ (TJxd2413 b).2.1 := by decide +kernel
theorem tyJxd2413_ok : ∀ k, k < 0 → parseFieldDescriptor (TJxd2413 k).2.2.1 = some (tyJxd2413 k) := by decide +kernel
def RJ0 : String := "java/lang/String"
def TJ0 : u_T := fun k => match k with
  | _ => ("", "", "", false)
def tyJ0 : Nat → FieldType := fun k => match k with
  | _ => .int
abbrev wsJ00 : List Cond := u_ws RJ0 TJ0 0
theorem nmJ0 : ∀ a, a < 0 → ∀ b, b < 0 → a ≠ b → (TJ0 a).2.1 ≠ (TJ0 b).2.1 := by decide +kernel
theorem tyJ0_ok : ∀ k, k < 0 → parseFieldDescriptor (TJ0 k).2.2.1 = some (tyJ0 k) := by decide +kernel
abbrev cJ0_length_8abf5 : ByteArray := prog_23_method_54_code
def yJ0_length_8abf5 : MethodName := ⟨RJ0, "length", "()I"⟩
abbrev cJ0_getBytes_840e7 : ByteArray := prog_23_method_147_code
def yJ0_getBytes_840e7 : MethodName := ⟨RJ0, "getBytes", "([BIB)V"⟩
abbrev cJ0_coder_7d493 : ByteArray := prog_23_method_152_code
def yJ0_coder_7d493 : MethodName := ⟨RJ0, "coder", "()B"⟩
abbrev cJ0_checkIndex_df160 : ByteArray := prog_23_method_155_code
def yJ0_checkIndex_df160 : MethodName := ⟨RJ0, "checkIndex", "(II)V"⟩
abbrev cJ0_checkBoundsOffCount_cabcc : ByteArray := prog_23_method_157_code
def yJ0_checkBoundsOffCount_cabcc : MethodName := ⟨RJ0, "checkBoundsOffCount", "(III)I"⟩
abbrev cJ0_checkBoundsBeginEnd_23922 : ByteArray := prog_23_method_158_code
def yJ0_checkBoundsBeginEnd_23922 : MethodName := ⟨RJ0, "checkBoundsBeginEnd", "(III)V"⟩
def RJ4 : String := "java/lang/StringBuilder"
def TJ4 : u_T := fun k => match k with
  | 0 => ("java/lang/AbstractStringBuilder", "value", "[B", false)
  | 1 => ("java/lang/AbstractStringBuilder", "coder", "B", false)
  | 2 => ("java/lang/AbstractStringBuilder", "maybeLatin1", "Z", false)
  | _ => ("java/lang/AbstractStringBuilder", "count", "I", false)
def tyJ4 : Nat → FieldType := fun k => match k with
  | 0 => .array .byte
  | 1 => .byte
  | 2 => .boolean
  | _ => .int
abbrev wsJ40 : List Cond := u_ws RJ4 TJ4 4
theorem nmJ4 : ∀ a, a < 4 → ∀ b, b < 4 → a ≠ b → (TJ4 a).2.1 ≠ (TJ4 b).2.1 := by decide +kernel
theorem tyJ4_ok : ∀ k, k < 4 → parseFieldDescriptor (TJ4 k).2.2.1 = some (tyJ4 k) := by decide +kernel
abbrev cJ4_init_da8c8 : ByteArray := prog_24_method_1_code
def yJ4_init_da8c8 : MethodName := ⟨RJ4, "<init>", "()V"⟩
abbrev cJ4_append_15ec4 : ByteArray := prog_24_method_7_code
def yJ4_append_15ec4 : MethodName := ⟨RJ4, "append", "(Ljava/lang/String;)Ljava/lang/StringBuilder;"⟩
abbrev cJ4_append_bf812 : ByteArray := prog_24_method_15_code
def yJ4_append_bf812 : MethodName := ⟨RJ4, "append", "(I)Ljava/lang/StringBuilder;"⟩
abbrev cJ4_charAt_5068e : ByteArray := prog_24_method_88_code
def yJ4_charAt_5068e : MethodName := ⟨RJ4, "charAt", "(I)C"⟩
abbrev cJ4_length_8abf5 : ByteArray := prog_24_method_93_code
def yJ4_length_8abf5 : MethodName := ⟨RJ4, "length", "()I"⟩
def RJ1 : String := "java/lang/StringLatin1"
def TJ1 : u_T := fun k => match k with
  | _ => ("", "", "", false)
def tyJ1 : Nat → FieldType := fun k => match k with
  | _ => .int
abbrev wsJ10 : List Cond := u_ws RJ1 TJ1 0
theorem nmJ1 : ∀ a, a < 0 → ∀ b, b < 0 → a ≠ b → (TJ1 a).2.1 ≠ (TJ1 b).2.1 := by decide +kernel
theorem tyJ1_ok : ∀ k, k < 0 → parseFieldDescriptor (TJ1 k).2.2.1 = some (tyJ1 k) := by decide +kernel
abbrev cJ1_inflate_0e8fd : ByteArray := prog_25_method_50_code
def yJ1_inflate_0e8fd : MethodName := ⟨RJ1, "inflate", "([BI[BII)V"⟩
def RJ2 : String := "java/lang/StringUTF16"
def TJ2 : u_T := fun k => match k with
  | _ => ("", "", "", false)
def tyJ2 : Nat → FieldType := fun k => match k with
  | _ => .int
abbrev wsJ20 : List Cond := u_ws RJ2 TJ2 0
theorem nmJ2 : ∀ a, a < 0 → ∀ b, b < 0 → a ≠ b → (TJ2 a).2.1 ≠ (TJ2 b).2.1 := by decide +kernel
theorem tyJ2_ok : ∀ k, k < 0 → parseFieldDescriptor (TJ2 k).2.2.1 = some (tyJ2 k) := by decide +kernel
abbrev cJ2_newBytesFor_77867 : ByteArray := prog_26_method_2_code
def yJ2_newBytesFor_77867 : MethodName := ⟨RJ2, "newBytesFor", "(I)[B"⟩
abbrev cJ2_newBytesLength_0f7a4 : ByteArray := prog_26_method_3_code
def yJ2_newBytesLength_0f7a4 : MethodName := ⟨RJ2, "newBytesLength", "(I)I"⟩
abbrev cJ2_putChar_b72d1 : ByteArray := prog_26_method_4_code
def yJ2_putChar_b72d1 : MethodName := ⟨RJ2, "putChar", "([BII)V"⟩
abbrev cJ2_getChar_3b067 : ByteArray := prog_26_method_5_code
def yJ2_getChar_3b067 : MethodName := ⟨RJ2, "getChar", "([BI)C"⟩
abbrev cJ2_length_9d52b : ByteArray := prog_26_method_6_code
def yJ2_length_9d52b : MethodName := ⟨RJ2, "length", "([B)I"⟩
abbrev cJ2_getChars_46870 : ByteArray := prog_26_method_77_code
def yJ2_getChars_46870 : MethodName := ⟨RJ2, "getChars", "(III[B)I"⟩
abbrev cJ2_putCharsAt_cd4e5 : ByteArray := prog_26_method_81_code
def yJ2_putCharsAt_cd4e5 : MethodName := ⟨RJ2, "putCharsAt", "([BICCCC)I"⟩
abbrev cJ2_inflate_0e8fd : ByteArray := prog_26_method_86_code
def yJ2_inflate_0e8fd : MethodName := ⟨RJ2, "inflate", "([BI[BII)V"⟩
abbrev cJ2_getChars_ba4f3 : ByteArray := prog_26_method_89_code
def yJ2_getChars_ba4f3 : MethodName := ⟨RJ2, "getChars", "(II[B)I"⟩
abbrev cJ2_checkBoundsBeginEnd_d044e : ByteArray := prog_26_method_93_code
def yJ2_checkBoundsBeginEnd_d044e : MethodName := ⟨RJ2, "checkBoundsBeginEnd", "(II[B)V"⟩
abbrev cJ2_checkBoundsOffCount_d044e : ByteArray := prog_26_method_94_code
def yJ2_checkBoundsOffCount_d044e : MethodName := ⟨RJ2, "checkBoundsOffCount", "(II[B)V"⟩
def RJ10 : String := "java/lang/System"
def TJ10 : u_T := fun k => match k with
  | _ => ("", "", "", false)
def tyJ10 : Nat → FieldType := fun k => match k with
  | _ => .int
abbrev wsJ100 : List Cond := u_ws RJ10 TJ10 0
theorem nmJ10 : ∀ a, a < 0 → ∀ b, b < 0 → a ≠ b → (TJ10 a).2.1 ≠ (TJ10 b).2.1 := by decide +kernel
theorem tyJ10_ok : ∀ k, k < 0 → parseFieldDescriptor (TJ10 k).2.2.1 = some (tyJ10 k) := by decide +kernel
def RJxfd54e : String := "java/lang/constant/Constable"
def TJxfd54e : u_T := fun k => match k with
  | _ => ("", "", "", false)
def tyJxfd54e : Nat → FieldType := fun k => match k with
  | _ => .int
abbrev wsJxfd54e0 : List Cond := u_ws RJxfd54e TJxfd54e 0
theorem nmJxfd54e : ∀ a, a < 0 → ∀ b, b < 0 → a ≠ b → (TJxfd54e a).2.1 ≠ (TJxfd54e b).2.1 := by decide +kernel
theorem tyJxfd54e_ok : ∀ k, k < 0 → parseFieldDescriptor (TJxfd54e k).2.2.1 = some (tyJxfd54e k) := by decide +kernel
def RJx3cf43 : String := "java/lang/constant/ConstantDesc"
def TJx3cf43 : u_T := fun k => match k with
  | _ => ("", "", "", false)
def tyJx3cf43 : Nat → FieldType := fun k => match k with
  | _ => .int
abbrev wsJx3cf430 : List Cond := u_ws RJx3cf43 TJx3cf43 0
theorem nmJx3cf43 : ∀ a, a < 0 → ∀ b, b < 0 → a ≠ b → (TJx3cf43 a).2.1 ≠ (TJx3cf43 b).2.1 := by decide +kernel
theorem tyJx3cf43_ok : ∀ k, k < 0 → parseFieldDescriptor (TJx3cf43 k).2.2.1 = some (tyJx3cf43 k) := by decide +kernel
def RJxa1e45 : String := "java/util/AbstractCollection"
def TJxa1e45 : u_T := fun k => match k with
  | _ => ("", "", "", false)
def tyJxa1e45 : Nat → FieldType := fun k => match k with
  | _ => .int
abbrev wsJxa1e450 : List Cond := u_ws RJxa1e45 TJxa1e45 0
theorem nmJxa1e45 : ∀ a, a < 0 → ∀ b, b < 0 → a ≠ b → (TJxa1e45 a).2.1 ≠ (TJxa1e45 b).2.1 := by decide +kernel
theorem tyJxa1e45_ok : ∀ k, k < 0 → parseFieldDescriptor (TJxa1e45 k).2.2.1 = some (tyJxa1e45 k) := by decide +kernel
abbrev cJxa1e45_init_da8c8 : ByteArray := prog_31_method_1_code
def yJxa1e45_init_da8c8 : MethodName := ⟨RJxa1e45, "<init>", "()V"⟩
def RJxc12de : String := "java/util/AbstractList"
def TJxc12de : u_T := fun k => match k with
  | _ => ("", "", "", false)
def tyJxc12de : Nat → FieldType := fun k => match k with
  | _ => .int
abbrev wsJxc12de0 : List Cond := u_ws RJxc12de TJxc12de 0
theorem nmJxc12de : ∀ a, a < 0 → ∀ b, b < 0 → a ≠ b → (TJxc12de a).2.1 ≠ (TJxc12de b).2.1 := by decide +kernel
theorem tyJxc12de_ok : ∀ k, k < 0 → parseFieldDescriptor (TJxc12de k).2.2.1 = some (tyJxc12de k) := by decide +kernel
abbrev cJxc12de_init_da8c8 : ByteArray := prog_32_method_1_code
def yJxc12de_init_da8c8 : MethodName := ⟨RJxc12de, "<init>", "()V"⟩
def RJx4a65c : String := "java/util/ArrayList"
def TJx4a65c : u_T := fun k => match k with
  | 0 => ("java/util/AbstractList", "modCount", "I", false)
  | 1 => ("java/util/ArrayList", "elementData", "[Ljava/lang/Object;", false)
  | _ => ("java/util/ArrayList", "size", "I", false)
def tyJx4a65c : Nat → FieldType := fun k => match k with
  | 0 => .int
  | 1 => .array (.object "java/lang/Object")
  | _ => .int
abbrev wsJx4a65c0 : List Cond := u_ws RJx4a65c TJx4a65c 3
theorem nmJx4a65c : ∀ a, a < 3 → ∀ b, b < 3 → a ≠ b → (TJx4a65c a).2.1 ≠ (TJx4a65c b).2.1 := by decide +kernel
theorem tyJx4a65c_ok : ∀ k, k < 3 → parseFieldDescriptor (TJx4a65c k).2.2.1 = some (tyJx4a65c k) := by decide +kernel
abbrev cJx4a65c_init_da8c8 : ByteArray := prog_33_method_2_code
def yJx4a65c_init_da8c8 : MethodName := ⟨RJx4a65c, "<init>", "()V"⟩
abbrev cJx4a65c_grow_92f84 : ByteArray := prog_33_method_6_code
def yJx4a65c_grow_92f84 : MethodName := ⟨RJx4a65c, "grow", "(I)[Ljava/lang/Object;"⟩
abbrev cJx4a65c_grow_d5877 : ByteArray := prog_33_method_7_code
def yJx4a65c_grow_d5877 : MethodName := ⟨RJx4a65c, "grow", "()[Ljava/lang/Object;"⟩
abbrev cJx4a65c_size_8abf5 : ByteArray := prog_33_method_8_code
def yJx4a65c_size_8abf5 : MethodName := ⟨RJx4a65c, "size", "()I"⟩
abbrev cJx4a65c_elementData_915e3 : ByteArray := prog_33_method_18_code
def yJx4a65c_elementData_915e3 : MethodName := ⟨RJx4a65c, "elementData", "(I)Ljava/lang/Object;"⟩
abbrev cJx4a65c_get_915e3 : ByteArray := prog_33_method_20_code
def yJx4a65c_get_915e3 : MethodName := ⟨RJx4a65c, "get", "(I)Ljava/lang/Object;"⟩
abbrev cJx4a65c_add_72be8 : ByteArray := prog_33_method_24_code
def yJx4a65c_add_72be8 : MethodName := ⟨RJx4a65c, "add", "(Ljava/lang/Object;[Ljava/lang/Object;I)V"⟩
abbrev cJx4a65c_add_9ea2d : ByteArray := prog_33_method_25_code
def yJx4a65c_add_9ea2d : MethodName := ⟨RJx4a65c, "add", "(Ljava/lang/Object;)Z"⟩
def RJ7 : String := "java/util/Arrays"
def TJ7 : u_T := fun k => match k with
  | _ => ("", "", "", false)
def tyJ7 : Nat → FieldType := fun k => match k with
  | _ => .int
abbrev wsJ70 : List Cond := u_ws RJ7 TJ7 0
theorem nmJ7 : ∀ a, a < 0 → ∀ b, b < 0 → a ≠ b → (TJ7 a).2.1 ≠ (TJ7 b).2.1 := by decide +kernel
theorem tyJ7_ok : ∀ k, k < 0 → parseFieldDescriptor (TJ7 k).2.2.1 = some (tyJ7 k) := by decide +kernel
abbrev cJ7_fill_53178 : ByteArray := prog_34_method_103_code
def yJ7_fill_53178 : MethodName := ⟨RJ7, "fill", "([II)V"⟩
abbrev cJ7_copyOf_1904c : ByteArray := prog_34_method_119_code
def yJ7_copyOf_1904c : MethodName := ⟨RJ7, "copyOf", "([Ljava/lang/Object;I)[Ljava/lang/Object;"⟩
abbrev cJ7_copyOf_6403c : ByteArray := prog_34_method_120_code
def yJ7_copyOf_6403c : MethodName := ⟨RJ7, "copyOf", "([Ljava/lang/Object;ILjava/lang/Class;)[Ljava/lang/Object;"⟩
abbrev cJ7_copyOf_9075b : ByteArray := prog_34_method_121_code
def yJ7_copyOf_9075b : MethodName := ⟨RJ7, "copyOf", "([BI)[B"⟩
def RJx5ef63 : String := "java/util/Collection"
def TJx5ef63 : u_T := fun k => match k with
  | _ => ("", "", "", false)
def tyJx5ef63 : Nat → FieldType := fun k => match k with
  | _ => .int
abbrev wsJx5ef630 : List Cond := u_ws RJx5ef63 TJx5ef63 0
theorem nmJx5ef63 : ∀ a, a < 0 → ∀ b, b < 0 → a ≠ b → (TJx5ef63 a).2.1 ≠ (TJx5ef63 b).2.1 := by decide +kernel
theorem tyJx5ef63_ok : ∀ k, k < 0 → parseFieldDescriptor (TJx5ef63 k).2.2.1 = some (tyJx5ef63 k) := by decide +kernel
def RJxbd725 : String := "java/util/List"
def TJxbd725 : u_T := fun k => match k with
  | _ => ("", "", "", false)
def tyJxbd725 : Nat → FieldType := fun k => match k with
  | _ => .int
abbrev wsJxbd7250 : List Cond := u_ws RJxbd725 TJxbd725 0
theorem nmJxbd725 : ∀ a, a < 0 → ∀ b, b < 0 → a ≠ b → (TJxbd725 a).2.1 ≠ (TJxbd725 b).2.1 := by decide +kernel
theorem tyJxbd725_ok : ∀ k, k < 0 → parseFieldDescriptor (TJxbd725 k).2.2.1 = some (tyJxbd725 k) := by decide +kernel
def RJ15 : String := "java/util/Objects"
def TJ15 : u_T := fun k => match k with
  | _ => ("", "", "", false)
def tyJ15 : Nat → FieldType := fun k => match k with
  | _ => .int
abbrev wsJ150 : List Cond := u_ws RJ15 TJ15 0
theorem nmJ15 : ∀ a, a < 0 → ∀ b, b < 0 → a ≠ b → (TJ15 a).2.1 ≠ (TJ15 b).2.1 := by decide +kernel
theorem tyJ15_ok : ∀ k, k < 0 → parseFieldDescriptor (TJ15 k).2.2.1 = some (tyJ15 k) := by decide +kernel
abbrev cJ15_checkIndex_7cf53 : ByteArray := prog_37_method_17_code
def yJ15_checkIndex_7cf53 : MethodName := ⟨RJ15, "checkIndex", "(II)I"⟩
def RJxf0a74 : String := "java/util/RandomAccess"
def TJxf0a74 : u_T := fun k => match k with
  | _ => ("", "", "", false)
def tyJxf0a74 : Nat → FieldType := fun k => match k with
  | _ => .int
abbrev wsJxf0a740 : List Cond := u_ws RJxf0a74 TJxf0a74 0
theorem nmJxf0a74 : ∀ a, a < 0 → ∀ b, b < 0 → a ≠ b → (TJxf0a74 a).2.1 ≠ (TJxf0a74 b).2.1 := by decide +kernel
theorem tyJxf0a74_ok : ∀ k, k < 0 → parseFieldDescriptor (TJxf0a74 k).2.2.1 = some (tyJxf0a74 k) := by decide +kernel
def RJxa66e6 : String := "java/util/SequencedCollection"
def TJxa66e6 : u_T := fun k => match k with
  | _ => ("", "", "", false)
def tyJxa66e6 : Nat → FieldType := fun k => match k with
  | _ => .int
abbrev wsJxa66e60 : List Cond := u_ws RJxa66e6 TJxa66e6 0
theorem nmJxa66e6 : ∀ a, a < 0 → ∀ b, b < 0 → a ≠ b → (TJxa66e6 a).2.1 ≠ (TJxa66e6 b).2.1 := by decide +kernel
theorem tyJxa66e6_ok : ∀ k, k < 0 → parseFieldDescriptor (TJxa66e6 k).2.2.1 = some (tyJxa66e6 k) := by decide +kernel
def RJ8 : String := "jdk/internal/util/ArraysSupport"
def TJ8 : u_T := fun k => match k with
  | _ => ("", "", "", false)
def tyJ8 : Nat → FieldType := fun k => match k with
  | _ => .int
abbrev wsJ80 : List Cond := u_ws RJ8 TJ8 0
theorem nmJ8 : ∀ a, a < 0 → ∀ b, b < 0 → a ≠ b → (TJ8 a).2.1 ≠ (TJ8 b).2.1 := by decide +kernel
theorem tyJ8_ok : ∀ k, k < 0 → parseFieldDescriptor (TJ8 k).2.2.1 = some (tyJ8 k) := by decide +kernel
abbrev cJ8_newLength_cabcc : ByteArray := prog_40_method_27_code
def yJ8_newLength_cabcc : MethodName := ⟨RJ8, "newLength", "(III)I"⟩
abbrev cJ8_hugeLength_7cf53 : ByteArray := prog_40_method_28_code
def yJ8_hugeLength_7cf53 : MethodName := ⟨RJ8, "hugeLength", "(II)I"⟩
def RJ3 : String := "jdk/internal/util/Preconditions"
def TJ3 : u_T := fun k => match k with
  | _ => ("", "", "", false)
def tyJ3 : Nat → FieldType := fun k => match k with
  | _ => .int
abbrev wsJ30 : List Cond := u_ws RJ3 TJ3 0
theorem nmJ3 : ∀ a, a < 0 → ∀ b, b < 0 → a ≠ b → (TJ3 a).2.1 ≠ (TJ3 b).2.1 := by decide +kernel
theorem tyJ3_ok : ∀ k, k < 0 → parseFieldDescriptor (TJ3 k).2.2.1 = some (tyJ3 k) := by decide +kernel
abbrev cJ3_checkIndex_8e157 : ByteArray := prog_41_method_11_code
def yJ3_checkIndex_8e157 : MethodName := ⟨RJ3, "checkIndex", "(IILjava/util/function/BiFunction;)I"⟩
abbrev cJ3_checkFromToIndex_8c36e : ByteArray := prog_41_method_12_code
def yJ3_checkFromToIndex_8c36e : MethodName := ⟨RJ3, "checkFromToIndex", "(IIILjava/util/function/BiFunction;)I"⟩
abbrev cJ3_checkFromIndexSize_8c36e : ByteArray := prog_41_method_13_code
def yJ3_checkFromIndexSize_8c36e : MethodName := ⟨RJ3, "checkFromIndexSize", "(IIILjava/util/function/BiFunction;)I"⟩
def RL : String := "VowCourtLaw"
abbrev cL_person : ByteArray := method_3_code
def yL_person : MethodName := ⟨RL, "person", "(LVowCourt;IIII[J)I"⟩
abbrev cL_rite : ByteArray := method_4_code
def yL_rite : MethodName := ⟨RL, "rite", "(LVowCourt;II[J)I"⟩
abbrev cL_home : ByteArray := method_5_code
def yL_home : MethodName := ⟨RL, "home", "(LVowCourt;II[J)I"⟩
abbrev cL_order : ByteArray := method_6_code
def yL_order : MethodName := ⟨RL, "order", "(LVowCourt;I)I"⟩
abbrev cL_ban : ByteArray := method_7_code
def yL_ban : MethodName := ⟨RL, "ban", "(LVowCourt;I[J)I"⟩
abbrev cL_die : ByteArray := method_8_code
def yL_die : MethodName := ⟨RL, "die", "(LVowCourt;I[J)I"⟩
abbrev cL_dispense : ByteArray := method_9_code
def yL_dispense : MethodName := ⟨RL, "dispense", "(LVowCourt;III)I"⟩
abbrev cL_faculty : ByteArray := method_10_code
def yL_faculty : MethodName := ⟨RL, "faculty", "(LVowCourt;III)I"⟩
abbrev cL_error : ByteArray := method_11_code
def yL_error : MethodName := ⟨RL, "error", "(LVowCourt;I[J)I"⟩
abbrev cL_vow : ByteArray := method_12_code
def yL_vow : MethodName := ⟨RL, "vow", "(LVowCourt;IIII[J)I"⟩
abbrev cL_heal : ByteArray := method_13_code
def yL_heal : MethodName := ⟨RL, "heal", "(LVowCourt;I)I"⟩
abbrev cL_grace : ByteArray := method_14_code
def yL_grace : MethodName := ⟨RL, "grace", "(LVowCourt;I)I"⟩
abbrev cL_documents : ByteArray := method_15_code
def yL_documents : MethodName := ⟨RL, "documents", "(LVowCourt;I[J)I"⟩
abbrev cL_cause : ByteArray := method_16_code
def yL_cause : MethodName := ⟨RL, "cause", "(LVowCourt;IIIZ[J)I"⟩
abbrev cL_doubt : ByteArray := method_17_code
def yL_doubt : MethodName := ⟨RL, "doubt", "(LVowCourt;II[J)I"⟩
abbrev cL_proof : ByteArray := method_18_code
def yL_proof : MethodName := ⟨RL, "proof", "(LVowCourt;III[J)I"⟩
abbrev cL_publish : ByteArray := method_19_code
def yL_publish : MethodName := ⟨RL, "publish", "(LVowCourt;I[J)I"⟩
abbrev cL_vote : ByteArray := method_20_code
def yL_vote : MethodName := ⟨RL, "vote", "(LVowCourt;III[J)I"⟩
abbrev cL_sentence : ByteArray := method_21_code
def yL_sentence : MethodName := ⟨RL, "sentence", "(LVowCourt;I[J)I"⟩
abbrev cL_appeal : ByteArray := method_22_code
def yL_appeal : MethodName := ⟨RL, "appeal", "(LVowCourt;I)I"⟩
abbrev cL_pass : ByteArray := method_23_code
def yL_pass : MethodName := ⟨RL, "pass", "(LVowCourt;I[J)I"⟩
abbrev cL_kin : ByteArray := method_24_code
def yL_kin : MethodName := ⟨RL, "kin", "(LVowCourt;II[J)I"⟩
abbrev cL_ancestor : ByteArray := method_25_code
def yL_ancestor : MethodName := ⟨RL, "ancestor", "(LVowCourt;II[J)I"⟩
abbrev cL_hindered : ByteArray := method_26_code
def yL_hindered : MethodName := ⟨RL, "hindered", "(LVowCourt;I[J)I"⟩
abbrev cL_vowOf : ByteArray := method_27_code
def yL_vowOf : MethodName := ⟨RL, "vowOf", "(LVowCourt;II[J)I"⟩
abbrev cL_bound : ByteArray := method_28_code
def yL_bound : MethodName := ⟨RL, "bound", "(LVowCourt;II[J)I"⟩
abbrev cL_hasCause : ByteArray := method_29_code
def yL_hasCause : MethodName := ⟨RL, "hasCause", "(LVowCourt;II[J)I"⟩
abbrev cL_causeOf : ByteArray := method_30_code
def yL_causeOf : MethodName := ⟨RL, "causeOf", "(LVowCourt;II[J)I"⟩
abbrev cL_state : ByteArray := method_31_code
def yL_state : MethodName := ⟨RL, "state", "(LVowCourt;III[J)I"⟩
abbrev cL_law : ByteArray := code
def yL_law : MethodName := ⟨RL, "law", "([I)Z"⟩
abbrev vwCl : List vw_C := [(RJ4, TJ4, 4), (RJx4a65c, TJx4a65c, 3), (RX0, TX0, 7), (RX1, TX1, 1), (RX2, TX2, 6), (RX3, TX3, 8), (RX4, TX4, 8), (RX5, TX5, 33)]
end
section
/-- the arrays of arrays of ty: what the tables say of their class -/
def va_AOA (t : FieldType) (U : State) : Prop := (Cond.arrayOver (.array t)).before #[] U = true
theorem va_AOA.use {t : FieldType} {A : Array Value} {U : State} (h : va_AOA t U) : (Cond.arrayOver (.array t)).before A U = true := h
/-! ===== BEGIN words of one list among another's, by their places ===== -/
theorem goodIn_r {big : List Cond} (ws : List Cond) (ps : List Nat) (hp : ws = ps.filterMap (fun i => big[i]?)) (h : ws.all goodWord = true) : GoodIn big ws := by
  intro w hw
  have h1 := List.all_eq_true.mp h w hw
  rw [hp] at hw
  obtain ⟨i, -, hi⟩ := List.mem_filterMap.mp hw
  have hm : w ∈ big := by first | exact List.mem_of_getElem? hi | exact List.getElem?_mem hi
  exact ⟨hm, good_of_word h1⟩
theorem goodIn_app {big a b : List Cond} (ha : GoodIn big a) (hb : GoodIn big b) : GoodIn big (a ++ b) := fun w h => (List.mem_append.mp h).elim (ha w) (hb w)
theorem goodIn_ca {big a b : List Cond} {c : Cond} (ha : GoodIn big (c :: a)) (hb : GoodIn big b) : GoodIn big (c :: (a ++ b)) := fun w h => (List.mem_cons.mp h).elim (fun e => ha w (List.mem_cons.mpr (Or.inl e))) (fun h => (List.mem_append.mp h).elim (fun h => ha w (List.mem_cons.mpr (Or.inr h))) (hb w))
theorem goodIn_sub {big ws : List Cond} (hm : ∀ w ∈ ws, w ∈ big) (h : ws.all goodWord = true) : GoodIn big ws := fun w hw => ⟨hm w hw, good_of_word (List.all_eq_true.mp h w hw)⟩
/-! ===== END ===== -/

/-! ===== BEGIN new T[n][m]: the outer array a place, the inner ones among the pooled ===== -/
/-- f, but v at every address of l -/
def vr_up {α : Type} (f : Nat → α) (l : List Nat) (v : α) : Nat → α := fun a => if a ∈ l then v else f a
theorem vr_up_in {α : Type} {f : Nat → α} {l : List Nat} {v : α} {a : Nat} (h : a ∈ l) : vr_up f l v a = v := if_pos h
theorem vr_up_ne {α : Type} {f : Nat → α} {l : List Nat} {v : α} {a : Nat} (h : a ∉ l) : vr_up f l v a = f a := if_neg h
theorem vr_rows {L l : List Nat} {f : Nat → va_E} {e : va_E} (h : ∀ a, a ∈ l → a ∉ L) : va_pl L f ++ l.map (fun a => (a, e)) = va_pl (L ++ l) (vr_up f l e) := by
  unfold va_pl
  rw [List.map_append]
  congr 1
  · apply List.map_congr_left
    intro a ha
    rw [vr_up_ne (fun q => h a q ha)]
  · apply List.map_congr_left
    intro a ha
    rw [vr_up_in ha]
theorem vr_lay {X rows : va_W} {x : Nat × va_E} {pl : va_W} {D : va_G} {cl : List vw_C} {H : Heap} (hP : va_P D cl (((X ++ pl) ++ [x]) ++ rows) H) : va_P D cl ((X ++ [x]) ++ (pl ++ rows)) H := by
  rw [List.append_assoc (X ++ pl)] at hP
  have h := va_P.swap hP
  rw [← List.append_assoc X] at h
  have h2 := va_P.swap h
  rw [List.append_assoc (X ++ [x])] at h2
  exact h2
theorem vr_layD {X rows : va_W} {x : Nat × va_E} {pl : va_W} {A : Nat → Prop} (hD : va_D A (((X ++ pl) ++ [x]) ++ rows)) : va_D A ((X ++ [x]) ++ (pl ++ rows)) := by
  rw [List.append_assoc (X ++ pl)] at hD
  have h := va_D.swap hD
  rw [← List.append_assoc X] at h
  have h2 := va_D.swap h
  rw [List.append_assoc (X ++ [x])] at h2
  exact h2
theorem vr_outer (c : ClassId) (N h0 : Nat) : ∀ i : Nat, Jvm.Free.Multi.outerC c N h0 i = arrV c N (fun j => va_rf (if j < i then some (h0 + 1 + j) else none))
  | 0 => by
    show ({ cls := c, slots := Array.replicate N .null, vm := .none } : Cell) = _
    rw [arrV_new]
    refine congrArg (arrV c N) (funext fun j => ?_)
    simp [va_rf]
  | i + 1 => by
    show (Jvm.Free.Multi.outerC c N h0 i).setSlot i (.ref (h0 + 1 + i)) = _
    rw [vr_outer c N h0 i, arrV_store]
    refine congrArg (arrV c N) (funext fun j => ?_)
    by_cases e : j = i
    · subst e
      simp [updV, va_rf]
    · by_cases h : j < i
      · simp [updV, e, h, Nat.lt_succ_of_lt h]
      · simp [updV, e, h, show ¬ j < i + 1 by omega]
section VGM
variable {p : Program} {l : Launch} {e : Env} {R : Room} {s : State} {m : MethodId} {args : Array Value} {below : List Frame} {meth : Method} {c : Code} {H : Heap} {locs : List Loc} {cells slots : Nat} {Q : State → Prop}
variable {cc : ByteArray} {pc : Nat} {ls : Array Slot} {rest : List Value} {D : va_G} {cl : List vw_C} {A : Nat → Prop} {a : Nat} {tys : List (ClassId × FieldType)} {ws : va_W} {H0 : Heap}
theorem va_mna {X : va_W} {L : List Nat} {f : Nat → va_E} {cc : ByteArray} (hexec : p.tables.exec = Jvm.exec) (hb : c.code = cc) {own : String} {index : Nat} {ty : FieldType} {cy : ClassId} (hown : s.vm.findClass own = some m.cls) (hclink : (Cond.classLink own index ("[" ++ (FieldType.array ty).toString)).before args s = true) (hover : va_AOA ty s) (harr : (Cond.arrayClass ty).before args s = true) (hcy : s.vm.findClass (FieldType.array ty).toString = some cy)
    (hK : va_K D cl tys s) (hP : va_P D cl (X ++ va_pl L f) H) (hD : va_D A (X ++ va_pl L f)) (hS : va_S A H0 H locs) (hA : ∀ q, H0.size ≤ q → A q) {n k : Int32} {N' K' : Nat} {z : vp_A} (hn : ¬ n < 0) (hk : ¬ k < 0) (hN : n.toNatClampNeg = N') (hM : k.toNatClampNeg = K')
    (hb1 : N' * 4 ≤ 536870912) (hb2 : K' * componentBytes ty ≤ 536870912) (hb3 : K' ≤ 536870912) (hdf : fits ty (defaultValue ty) = true) (hdd : (defaultValue ty).isDefault = true) (hcells : cells + (1 + N') ≤ R.cells) (hslots : slots + (N' + N' * K') ≤ R.slots) (hz : ∀ c : ClassId, Jvm.Free.Multi.innerC c K' (defaultValue ty) = vp_cell c z) (hdg : decode cc pc = .ok (.multianewarray index 2, 4))
    (kk : ∀ (q : Nat) (r : Nat → Nat) (cA : ClassId) (H1 : Heap), (∀ i j : Nat, i < N' → j < N' → r i = r j → i = j) → (∀ i : Nat, i < N' → r i ∉ L) → va_K D cl (tys ++ [(cA, .array ty)]) s →
      va_P D cl ((X ++ [(q, .inl (cA, N', .inr (.inr (.inr (.inr (fun i => if i < N' then some (r i) else none))))))]) ++ va_pl (L ++ (List.range N').map r) (vr_up f ((List.range N').map r) (.inl (cy, z)))) H1 → va_D A ((X ++ [(q, .inl (cA, N', .inr (.inr (.inr (.inr (fun i => if i < N' then some (r i) else none))))))]) ++ va_pl (L ++ (List.range N').map r) (vr_up f ((List.range N').map r) (.inl (cy, z)))) → va_S A H0 H1 locs →
      W p l e R s m args below meth c H1 locs (cells + 1 + N') (slots + N' + N' * K') Q (F0 m (pc + 4) ls (.ref q :: rest))) : W p l e R s m args below meth c H locs cells slots Q (F0 m pc ls (.int k :: .int n :: rest)) := by
  subst hN
  subst hM
  intro T hT Xs
  obtain ⟨vm₁, cA, comp, -, fA, fC, hO, -, X', step⟩ := Xs.multianewarray2F hexec hown hclink (va_AOA.use hover) harr (g := F0 m pc ls (.int k :: .int n :: rest)) rfl (by rw [hb]; exact hdg) rfl hn hk hb1 hb2 hb3 hdf hdd hcells hslots
  have ec : some cy = some comp := hcy.symm.trans fC
  cases ec
  generalize hF : Jvm.Free.Multi.fill (T.setVm vm₁) cA cy n.toNatClampNeg k.toNatClampNeg (defaultValue ty) n.toNatClampNeg = F at X' step
  have hTh : (T.setVm vm₁).heap = H := hT
  obtain ⟨f1, f2, -, -⟩ := Jvm.Free.Multi.fill_facts (T.setVm vm₁) cA cy n.toNatClampNeg k.toNatClampNeg (defaultValue ty) n.toNatClampNeg
  rw [hF, hTh] at f1 f2
  have hold : ∀ x : Nat, x < H.size → F.heap[x]? = H[x]? := fun x hx => by
    have := Jvm.Free.Multi.fill_old (T.setVm vm₁) cA cy n.toNatClampNeg k.toNatClampNeg (defaultValue ty) (a := x) (by rw [hTh]; exact hx) n.toNatClampNeg
    rw [hF, hTh] at this
    exact this
  have hrow : ∀ j : Nat, j < n.toNatClampNeg → F.heap[H.size + 1 + j]? = some (vp_cell cy z) := fun j hj => by
    have := Jvm.Free.Multi.fill_inner (T.setVm vm₁) cA cy n.toNatClampNeg k.toNatClampNeg (defaultValue ty) n.toNatClampNeg j hj
    rw [hF, hTh, hz] at this
    exact this
  have hout : Jvm.Free.Multi.outerC cA n.toNatClampNeg H.size n.toNatClampNeg = vp_cell cA (n.toNatClampNeg, .inr (.inr (.inr (.inr (fun i => if i < n.toNatClampNeg then some (H.size + 1 + i) else none))))) := by
    rw [vp_cell_q]
    exact vr_outer cA n.toNatClampNeg H.size n.toNatClampNeg
  rw [hout] at f2
  have hlt : ∀ a, a ∈ L → a < H.size := fun a ha => by
    obtain ⟨k9, hk9⟩ := va_pl_get (X := X) (f := f) ha
    exact (hP k9 _ hk9).lt
  have hnl : ∀ i : Nat, i < n.toNatClampNeg → H.size + 1 + i ∉ L := fun i _ h => by
    have := hlt _ h
    omega
  have hnm : ∀ a, a ∈ (List.range n.toNatClampNeg).map (fun i => H.size + 1 + i) → a ∉ L := fun a ha h => by
    obtain ⟨i, -, rfl⟩ := List.mem_map.mp ha
    have := hlt _ h
    omega
  have hP0 : va_P D cl (X ++ va_pl L f) F.heap := hP.kept (fun k9 x hx => hold x.1 ((hP k9 x hx).lt))
  have hP1 : va_P D cl ((X ++ va_pl L f) ++ [(H.size, .inl (cA, n.toNatClampNeg, .inr (.inr (.inr (.inr (fun i => if i < n.toNatClampNeg then some (H.size + 1 + i) else none))))))]) F.heap := hP0.app (fun k9 x hx => by
    have h0 : k9 < 1 := (List.getElem?_eq_some_iff.mp hx).1
    rw [show k9 = 0 by omega] at hx
    cases hx
    exact f2)
  have hP2 : va_P D cl (((X ++ va_pl L f) ++ [(H.size, .inl (cA, n.toNatClampNeg, .inr (.inr (.inr (.inr (fun i => if i < n.toNatClampNeg then some (H.size + 1 + i) else none))))))]) ++ ((List.range n.toNatClampNeg).map (fun i => H.size + 1 + i)).map (fun a => (a, .inl (cy, z)))) F.heap := hP1.app (fun k9 x hx => by
    obtain ⟨a, ha, rfl⟩ := List.mem_map.mp (List.mem_of_getElem? hx)
    obtain ⟨i, hi, rfl⟩ := List.mem_map.mp ha
    exact hrow i (List.mem_range.mp hi))
  have hD2 : va_D A (((X ++ va_pl L f) ++ [(H.size, .inl (cA, n.toNatClampNeg, .inr (.inr (.inr (.inr (fun i => if i < n.toNatClampNeg then some (H.size + 1 + i) else none))))))]) ++ ((List.range n.toNatClampNeg).map (fun i => H.size + 1 + i)).map (fun a => (a, .inl (cy, z)))) := by
    have hD1 := hD.push (e := .inl (cA, n.toNatClampNeg, .inr (.inr (.inr (.inr (fun i => if i < n.toNatClampNeg then some (H.size + 1 + i) else none)))))) hP rfl (hA _ hS.1)
    generalize hW1 : (X ++ va_pl L f) ++ [(H.size, .inl (cA, n.toNatClampNeg, .inr (.inr (.inr (.inr (fun i => if i < n.toNatClampNeg then some (H.size + 1 + i) else none))))))] = W1 at hD1 hP1 ⊢
    have hle : ∀ (k9 : Nat) (x : Nat × va_E), W1[k9]? = some x → x.1 ≤ H.size := fun k9 x hx => by
      rw [← hW1] at hx
      by_cases hl : k9 < (X ++ va_pl L f).length
      · rw [List.getElem?_append_left hl] at hx
        exact Nat.le_of_lt ((hP k9 x hx).lt)
      · rw [List.getElem?_append_right (by omega)] at hx
        have h0 : k9 - (X ++ va_pl L f).length < 1 := (List.getElem?_eq_some_iff.mp hx).1
        rw [show k9 - (X ++ va_pl L f).length = 0 by omega] at hx
        cases hx
        exact Nat.le_refl _
    have hr : ∀ (k9 : Nat) (x : Nat × va_E), (((List.range n.toNatClampNeg).map (fun i => H.size + 1 + i)).map (fun a => ((a, .inl (cy, z)) : Nat × va_E)))[k9]? = some x → x.1 = H.size + 1 + k9 := fun k9 x hx => by
      rw [List.getElem?_map, List.getElem?_map] at hx
      by_cases h9 : k9 < n.toNatClampNeg
      · rw [List.getElem?_range h9] at hx
        cases hx
        rfl
      · have hn0 : (List.range n.toNatClampNeg)[k9]? = none := List.getElem?_eq_none (by rw [List.length_range]; omega)
        rw [hn0] at hx
        cases hx
    refine ⟨fun i j x y hi hj hxy => ?_, fun k9 x hx => ?_⟩
    · by_cases h1 : i < W1.length <;> by_cases h2 : j < W1.length
      · rw [List.getElem?_append_left h1] at hi
        rw [List.getElem?_append_left h2] at hj
        exact hD1.1 i j x y hi hj hxy
      · rw [List.getElem?_append_left h1] at hi
        rw [List.getElem?_append_right (by omega)] at hj
        have := hle _ _ hi
        have := hr _ _ hj
        omega
      · rw [List.getElem?_append_right (by omega)] at hi
        rw [List.getElem?_append_left h2] at hj
        have := hle _ _ hj
        have := hr _ _ hi
        omega
      · rw [List.getElem?_append_right (by omega)] at hi hj
        have := hr _ _ hi
        have := hr _ _ hj
        omega
    · by_cases h1 : k9 < W1.length
      · rw [List.getElem?_append_left h1] at hx
        exact hD1.2 k9 x hx
      · rw [List.getElem?_append_right (by omega)] at hx
        have := hr _ _ hx
        exact hA _ (by have := hS.1; omega)
  have hAr : ArrOfT s cA (.array ty) := fun N9 z9 => by
    obtain ⟨-, k9, hk9, cm9, hkk9⟩ := (hO 0 0 0).1
    exact ⟨(fun q hq => by cases hq), k9, hk9, cm9, hkk9⟩
  have hK2 : va_K D cl (tys ++ [(cA, .array ty)]) s := ⟨hK.1, fun k9 x hx => by
    by_cases hl : k9 < tys.length
    · rw [List.getElem?_append_left hl] at hx
      exact hK.2 k9 x hx
    · rw [List.getElem?_append_right (by omega)] at hx
      have h0 : k9 - tys.length < 1 := (List.getElem?_eq_some_iff.mp hx).1
      rw [show k9 - tys.length = 0 by omega] at hx
      cases hx
      exact ⟨hAr, fA⟩⟩
  obtain ⟨t, a1, b1⟩ := kk H.size (fun i => H.size + 1 + i) cA F.heap (fun i j _ _ h => by have h9 : H.size + 1 + i = H.size + 1 + j := h; omega) hnl hK2 (by rw [← vr_rows hnm]; exact vr_lay hP2) (by rw [← vr_rows hnm]; exact vr_layD hD2) ⟨by rw [f1]; have := hS.1; omega, fun x h1 h2 => (hold x (Nat.lt_of_lt_of_le h1 hS.1)).trans (hS.2.1 x h1 h2), hS.2.2⟩ F rfl X'
  refine ⟨t, step t ?_, b1⟩
  have e : T.heap.size = H.size := by rw [hT]
  rw [e]
  exact a1
end VGM
/-! ===== END ===== -/
end
section
/-! words of the tables -/
def TB : List Cond := lw_tbl.filter goodWord
theorem TB_mem {w : Cond} (h : w ∈ lw_tbl) (g : goodWord w = true) : w ∈ TB := List.mem_filter.mpr ⟨h, g⟩
theorem TB_good {w : Cond} (h : w ∈ TB) : goodWord w = true := (List.mem_filter.mp h).2
theorem TB_in {w0 : Cond} {ws : List Cond} (h : ∀ w ∈ ws, w ∈ TB) : GoodIn (w0 :: TB) ws := fun w hw => ⟨List.mem_cons_of_mem _ (h w hw), good_of_word (TB_good (h w hw))⟩
theorem w_0 : (.selects "VowCourt" ⟨"VowCourt", "isPerson", "(I)Z"⟩ ⟨"VowCourt", "isPerson", "(I)Z"⟩ : Cond) ∈ TB := TB_mem (List.mem_of_getElem? (i := 0) (by decide +kernel)) rfl
theorem w_1 : (.selects "java/lang/Throwable" ⟨"java/lang/Throwable", "fillInStackTrace", "(I)Ljava/lang/Throwable;"⟩ ⟨"java/lang/Throwable", "fillInStackTrace", "(I)Ljava/lang/Throwable;"⟩ : Cond) ∈ TB := TB_mem (List.mem_of_getElem? (i := 1) (by decide +kernel)) rfl
theorem w_2 : (.selects "java/util/ArrayList" ⟨"java/util/ArrayList", "add", "(Ljava/lang/Object;[Ljava/lang/Object;I)V"⟩ ⟨"java/util/ArrayList", "add", "(Ljava/lang/Object;[Ljava/lang/Object;I)V"⟩ : Cond) ∈ TB := TB_mem (List.mem_of_getElem? (i := 2) (by decide +kernel)) rfl
theorem w_3 : (.selects "java/util/ArrayList" ⟨"java/util/ArrayList", "grow", "()[Ljava/lang/Object;"⟩ ⟨"java/util/ArrayList", "grow", "()[Ljava/lang/Object;"⟩ : Cond) ∈ TB := TB_mem (List.mem_of_getElem? (i := 3) (by decide +kernel)) rfl
theorem w_4 : (.selects "java/util/ArrayList" ⟨"java/util/ArrayList", "grow", "(I)[Ljava/lang/Object;"⟩ ⟨"java/util/ArrayList", "grow", "(I)[Ljava/lang/Object;"⟩ : Cond) ∈ TB := TB_mem (List.mem_of_getElem? (i := 4) (by decide +kernel)) rfl
theorem w_5 : (.selects "VowCourt" ⟨"VowCourt", "personAt", "(I)LVowCourt$Person;"⟩ ⟨"VowCourt", "personAt", "(I)LVowCourt$Person;"⟩ : Cond) ∈ TB := TB_mem (List.mem_of_getElem? (i := 5) (by decide +kernel)) rfl
theorem w_6 : (.selects "VowCourt" ⟨"VowCourt", "endVowsOf", "(I)I"⟩ ⟨"VowCourt", "endVowsOf", "(I)I"⟩ : Cond) ∈ TB := TB_mem (List.mem_of_getElem? (i := 6) (by decide +kernel)) rfl
theorem w_7 : (.selects "VowCourt" ⟨"VowCourt", "lastingHindrances", "(II)I"⟩ ⟨"VowCourt", "lastingHindrances", "(II)I"⟩ : Cond) ∈ TB := TB_mem (List.mem_of_getElem? (i := 7) (by decide +kernel)) rfl
theorem w_8 : (.selects "VowCourt" ⟨"VowCourt", "ageOfYounger", "(II)I"⟩ ⟨"VowCourt", "ageOfYounger", "(II)I"⟩ : Cond) ∈ TB := TB_mem (List.mem_of_getElem? (i := 8) (by decide +kernel)) rfl
theorem w_9 : (.selects "VowCourt" ⟨"VowCourt", "canBeDispensed", "(III)Z"⟩ ⟨"VowCourt", "canBeDispensed", "(III)Z"⟩ : Cond) ∈ TB := TB_mem (List.mem_of_getElem? (i := 9) (by decide +kernel)) rfl
theorem w_10 : (.selects "VowCourt" ⟨"VowCourt", "vowAt", "(I)LVowCourt$Vow;"⟩ ⟨"VowCourt", "vowAt", "(I)LVowCourt$Vow;"⟩ : Cond) ∈ TB := TB_mem (List.mem_of_getElem? (i := 10) (by decide +kernel)) rfl
theorem w_11 : (.selects "VowCourt" ⟨"VowCourt", "hindrances", "(I)I"⟩ ⟨"VowCourt", "hindrances", "(I)I"⟩ : Cond) ∈ TB := TB_mem (List.mem_of_getElem? (i := 11) (by decide +kernel)) rfl
theorem w_12 : (.selects "VowCourt" ⟨"VowCourt", "lowestBond", "(III)I"⟩ ⟨"VowCourt", "lowestBond", "(III)I"⟩ : Cond) ∈ TB := TB_mem (List.mem_of_getElem? (i := 12) (by decide +kernel)) rfl
theorem w_13 : (.selects "VowCourt" ⟨"VowCourt", "isInCourt", "(I)Z"⟩ ⟨"VowCourt", "isInCourt", "(I)Z"⟩ : Cond) ∈ TB := TB_mem (List.mem_of_getElem? (i := 13) (by decide +kernel)) rfl
theorem w_14 : (.selects "VowCourt" ⟨"VowCourt", "mayBeJudged", "(I)Z"⟩ ⟨"VowCourt", "mayBeJudged", "(I)Z"⟩ : Cond) ∈ TB := TB_mem (List.mem_of_getElem? (i := 14) (by decide +kernel)) rfl
theorem w_15 : (.selects "VowCourt" ⟨"VowCourt", "isCourtOf", "(LVowCourt$Vow;I)Z"⟩ ⟨"VowCourt", "isCourtOf", "(LVowCourt$Vow;I)Z"⟩ : Cond) ∈ TB := TB_mem (List.mem_of_getElem? (i := 15) (by decide +kernel)) rfl
theorem w_16 : (.selects "VowCourt" ⟨"VowCourt", "livesAt", "(II)Z"⟩ ⟨"VowCourt", "livesAt", "(II)Z"⟩ : Cond) ∈ TB := TB_mem (List.mem_of_getElem? (i := 16) (by decide +kernel)) rfl
theorem w_17 : (.selects "VowCourt" ⟨"VowCourt", "causeAt", "(I)LVowCourt$Cause;"⟩ ⟨"VowCourt", "causeAt", "(I)LVowCourt$Cause;"⟩ : Cond) ∈ TB := TB_mem (List.mem_of_getElem? (i := 17) (by decide +kernel)) rfl
theorem w_18 : (.selects "VowCourt" ⟨"VowCourt", "describe", "(II)Ljava/lang/StringBuilder;"⟩ ⟨"VowCourt", "describe", "(II)Ljava/lang/StringBuilder;"⟩ : Cond) ∈ TB := TB_mem (List.mem_of_getElem? (i := 18) (by decide +kernel)) rfl
theorem w_19 : (.selects "VowCourtModel" ⟨"VowCourtModel", "isPerson", "(I)Z"⟩ ⟨"VowCourtModel", "isPerson", "(I)Z"⟩ : Cond) ∈ TB := TB_mem (List.mem_of_getElem? (i := 19) (by decide +kernel)) rfl
theorem w_20 : (.selects "VowCourtModel" ⟨"VowCourtModel", "fails", "(I)Z"⟩ ⟨"VowCourtModel", "fails", "(I)Z"⟩ : Cond) ∈ TB := TB_mem (List.mem_of_getElem? (i := 20) (by decide +kernel)) rfl
theorem w_21 : (.selects "VowCourtModel" ⟨"VowCourtModel", "ends", "(II)V"⟩ ⟨"VowCourtModel", "ends", "(II)V"⟩ : Cond) ∈ TB := TB_mem (List.mem_of_getElem? (i := 21) (by decide +kernel)) rfl
theorem w_22 : (.selects "VowCourtModel" ⟨"VowCourtModel", "canDispense", "(III)Z"⟩ ⟨"VowCourtModel", "canDispense", "(III)Z"⟩ : Cond) ∈ TB := TB_mem (List.mem_of_getElem? (i := 22) (by decide +kernel)) rfl
theorem w_23 : (.selects "VowCourtModel" ⟨"VowCourtModel", "hinders", "(II)I"⟩ ⟨"VowCourtModel", "hinders", "(II)I"⟩ : Cond) ∈ TB := TB_mem (List.mem_of_getElem? (i := 23) (by decide +kernel)) rfl
theorem w_24 : (.selects "VowCourtModel" ⟨"VowCourtModel", "isYoung", "(III)Z"⟩ ⟨"VowCourtModel", "isYoung", "(III)Z"⟩ : Cond) ∈ TB := TB_mem (List.mem_of_getElem? (i := 24) (by decide +kernel)) rfl
theorem w_25 : (.selects "VowCourtModel" ⟨"VowCourtModel", "areKin", "(II)Z"⟩ ⟨"VowCourtModel", "areKin", "(II)Z"⟩ : Cond) ∈ TB := TB_mem (List.mem_of_getElem? (i := 25) (by decide +kernel)) rfl
theorem w_26 : (.selects "VowCourtModel" ⟨"VowCourtModel", "kinOf", "(II)I"⟩ ⟨"VowCourtModel", "kinOf", "(II)I"⟩ : Cond) ∈ TB := TB_mem (List.mem_of_getElem? (i := 26) (by decide +kernel)) rfl
theorem w_27 : (.selects "VowCourtModel" ⟨"VowCourtModel", "isVow", "(I)Z"⟩ ⟨"VowCourtModel", "isVow", "(I)Z"⟩ : Cond) ∈ TB := TB_mem (List.mem_of_getElem? (i := 27) (by decide +kernel)) rfl
theorem w_28 : (.selects "VowCourtModel" ⟨"VowCourtModel", "hinderedBy", "(I)I"⟩ ⟨"VowCourtModel", "hinderedBy", "(I)I"⟩ : Cond) ∈ TB := TB_mem (List.mem_of_getElem? (i := 28) (by decide +kernel)) rfl
theorem w_29 : (.selects "VowCourtModel" ⟨"VowCourtModel", "isOf", "(II)Z"⟩ ⟨"VowCourtModel", "isOf", "(II)Z"⟩ : Cond) ∈ TB := TB_mem (List.mem_of_getElem? (i := 29) (by decide +kernel)) rfl
theorem w_30 : (.selects "VowCourtModel" ⟨"VowCourtModel", "binds", "(II)Z"⟩ ⟨"VowCourtModel", "binds", "(II)Z"⟩ : Cond) ∈ TB := TB_mem (List.mem_of_getElem? (i := 30) (by decide +kernel)) rfl
theorem w_31 : (.selects "VowCourtModel" ⟨"VowCourtModel", "isQuiet", "(II)Z"⟩ ⟨"VowCourtModel", "isQuiet", "(II)Z"⟩ : Cond) ∈ TB := TB_mem (List.mem_of_getElem? (i := 31) (by decide +kernel)) rfl
theorem w_32 : (.selects "VowCourtModel" ⟨"VowCourtModel", "isTold", "(I)Z"⟩ ⟨"VowCourtModel", "isTold", "(I)Z"⟩ : Cond) ∈ TB := TB_mem (List.mem_of_getElem? (i := 32) (by decide +kernel)) rfl
theorem w_33 : (.selects "VowCourtModel" ⟨"VowCourtModel", "has", "(II)Z"⟩ ⟨"VowCourtModel", "has", "(II)Z"⟩ : Cond) ∈ TB := TB_mem (List.mem_of_getElem? (i := 33) (by decide +kernel)) rfl
theorem w_34 : (.selects "VowCourtModel" ⟨"VowCourtModel", "isCause", "(I)Z"⟩ ⟨"VowCourtModel", "isCause", "(I)Z"⟩ : Cond) ∈ TB := TB_mem (List.mem_of_getElem? (i := 34) (by decide +kernel)) rfl
theorem w_35 : (.selects "VowCourtModel" ⟨"VowCourtModel", "proven", "(I)I"⟩ ⟨"VowCourtModel", "proven", "(I)I"⟩ : Cond) ∈ TB := TB_mem (List.mem_of_getElem? (i := 35) (by decide +kernel)) rfl
theorem w_36 : (.selects "VowCourtModel" ⟨"VowCourtModel", "decides", "(IZ)V"⟩ ⟨"VowCourtModel", "decides", "(IZ)V"⟩ : Cond) ∈ TB := TB_mem (List.mem_of_getElem? (i := 36) (by decide +kernel)) rfl
theorem w_37 : (.selects "VowCourtModel" ⟨"VowCourtModel", "opens", "(II)V"⟩ ⟨"VowCourtModel", "opens", "(II)V"⟩ : Cond) ∈ TB := TB_mem (List.mem_of_getElem? (i := 37) (by decide +kernel)) rfl
theorem w_38 : (.selects "VowCourtModel" ⟨"VowCourtModel", "boundBy", "(II)I"⟩ ⟨"VowCourtModel", "boundBy", "(II)I"⟩ : Cond) ∈ TB := TB_mem (List.mem_of_getElem? (i := 38) (by decide +kernel)) rfl
theorem w_39 : (.selects "VowCourtModel" ⟨"VowCourtModel", "writes", "(II)V"⟩ ⟨"VowCourtModel", "writes", "(II)V"⟩ : Cond) ∈ TB := TB_mem (List.mem_of_getElem? (i := 39) (by decide +kernel)) rfl
theorem w_40 : (.selects "VowCourtModel" ⟨"VowCourtModel", "puts", "(I)V"⟩ ⟨"VowCourtModel", "puts", "(I)V"⟩ : Cond) ∈ TB := TB_mem (List.mem_of_getElem? (i := 40) (by decide +kernel)) rfl
theorem w_41 : (.selects "VowCourtModel" ⟨"VowCourtModel", "putsNumber", "(I)V"⟩ ⟨"VowCourtModel", "putsNumber", "(I)V"⟩ : Cond) ∈ TB := TB_mem (List.mem_of_getElem? (i := 41) (by decide +kernel)) rfl
theorem w_42 : (.initialized "VowCourtLaw" : Cond) ∈ TB := TB_mem (List.mem_of_getElem? (i := 42) (by decide +kernel)) rfl
theorem w_43 : (.initialized "VowCourt" : Cond) ∈ TB := TB_mem (List.mem_of_getElem? (i := 43) (by decide +kernel)) rfl
theorem w_44 : (.initialized "java/util/AbstractCollection" : Cond) ∈ TB := TB_mem (List.mem_of_getElem? (i := 44) (by decide +kernel)) rfl
theorem w_45 : (.initialized "java/util/AbstractList" : Cond) ∈ TB := TB_mem (List.mem_of_getElem? (i := 45) (by decide +kernel)) rfl
theorem w_46 : (.initialized "java/util/ArrayList" : Cond) ∈ TB := TB_mem (List.mem_of_getElem? (i := 46) (by decide +kernel)) rfl
theorem w_47 : (.initialized "VowCourt$Lines" : Cond) ∈ TB := TB_mem (List.mem_of_getElem? (i := 47) (by decide +kernel)) rfl
theorem w_48 : (.initialized "java/util/Arrays" : Cond) ∈ TB := TB_mem (List.mem_of_getElem? (i := 48) (by decide +kernel)) rfl
theorem w_49 : (.initialized "VowCourtModel" : Cond) ∈ TB := TB_mem (List.mem_of_getElem? (i := 49) (by decide +kernel)) rfl
theorem w_50 : (.initialized "java/lang/Throwable" : Cond) ∈ TB := TB_mem (List.mem_of_getElem? (i := 50) (by decide +kernel)) rfl
theorem w_51 : (.initialized "java/lang/Exception" : Cond) ∈ TB := TB_mem (List.mem_of_getElem? (i := 51) (by decide +kernel)) rfl
theorem w_52 : (.initialized "java/lang/RuntimeException" : Cond) ∈ TB := TB_mem (List.mem_of_getElem? (i := 52) (by decide +kernel)) rfl
theorem w_53 : (.initialized "java/lang/IndexOutOfBoundsException" : Cond) ∈ TB := TB_mem (List.mem_of_getElem? (i := 53) (by decide +kernel)) rfl
theorem w_54 : (.initialized "java/lang/IllegalArgumentException" : Cond) ∈ TB := TB_mem (List.mem_of_getElem? (i := 54) (by decide +kernel)) rfl
theorem w_55 : (.initialized "java/lang/IllegalStateException" : Cond) ∈ TB := TB_mem (List.mem_of_getElem? (i := 55) (by decide +kernel)) rfl
theorem w_56 : (.initialized "java/lang/Math" : Cond) ∈ TB := TB_mem (List.mem_of_getElem? (i := 56) (by decide +kernel)) rfl
theorem w_57 : (.initialized "VowCourt$Person" : Cond) ∈ TB := TB_mem (List.mem_of_getElem? (i := 57) (by decide +kernel)) rfl
theorem w_58 : (.initialized "jdk/internal/util/ArraysSupport" : Cond) ∈ TB := TB_mem (List.mem_of_getElem? (i := 58) (by decide +kernel)) rfl
theorem w_59 : (.initialized "java/lang/System" : Cond) ∈ TB := TB_mem (List.mem_of_getElem? (i := 59) (by decide +kernel)) rfl
theorem w_60 : (.initialized "java/util/Objects" : Cond) ∈ TB := TB_mem (List.mem_of_getElem? (i := 60) (by decide +kernel)) rfl
theorem w_61 : (.initialized "jdk/internal/util/Preconditions" : Cond) ∈ TB := TB_mem (List.mem_of_getElem? (i := 61) (by decide +kernel)) rfl
theorem w_62 : (.initialized "VowCourt$Vow" : Cond) ∈ TB := TB_mem (List.mem_of_getElem? (i := 62) (by decide +kernel)) rfl
theorem w_63 : (.initialized "VowCourt$Cause" : Cond) ∈ TB := TB_mem (List.mem_of_getElem? (i := 63) (by decide +kernel)) rfl
theorem w_64 : (.initialized "java/lang/AbstractStringBuilder" : Cond) ∈ TB := TB_mem (List.mem_of_getElem? (i := 64) (by decide +kernel)) rfl
theorem w_65 : (.initialized "java/lang/StringBuilder" : Cond) ∈ TB := TB_mem (List.mem_of_getElem? (i := 65) (by decide +kernel)) rfl
theorem w_66 : (.initialized "java/lang/String" : Cond) ∈ TB := TB_mem (List.mem_of_getElem? (i := 66) (by decide +kernel)) rfl
theorem w_67 : (.initialized "java/lang/StringUTF16" : Cond) ∈ TB := TB_mem (List.mem_of_getElem? (i := 67) (by decide +kernel)) rfl
theorem w_68 : (.initialized "java/lang/StringLatin1" : Cond) ∈ TB := TB_mem (List.mem_of_getElem? (i := 68) (by decide +kernel)) rfl
theorem w_69 : (.initialized "java/lang/Number" : Cond) ∈ TB := TB_mem (List.mem_of_getElem? (i := 69) (by decide +kernel)) rfl
theorem w_70 : (.initialized "java/lang/Integer" : Cond) ∈ TB := TB_mem (List.mem_of_getElem? (i := 70) (by decide +kernel)) rfl
theorem w_71 : (.classLink "VowCourtLaw" 8 "VowCourt" : Cond) ∈ TB := TB_mem (List.mem_of_getElem? (i := 71) (by decide +kernel)) rfl
theorem w_72 : (.instantiable "VowCourt" 8 : Cond) ∈ TB := TB_mem (List.mem_of_getElem? (i := 72) (by decide +kernel)) rfl
theorem w_73 : (.methodLink "VowCourtLaw" 112 ⟨"VowCourt", "<init>", "()V"⟩ : Cond) ∈ TB := TB_mem (List.mem_of_getElem? (i := 73) (by decide +kernel)) rfl
theorem w_74 : (.instanceMethod ⟨"VowCourt", "<init>", "()V"⟩ : Cond) ∈ TB := TB_mem (List.mem_of_getElem? (i := 74) (by decide +kernel)) rfl
theorem w_75 : (.code yX4_init cX4_init 1 none : Cond) ∈ TB := TB_mem (List.mem_of_getElem? (i := 75) (by decide +kernel)) rfl
theorem w_76 : (.methodLink "VowCourt" 3 ⟨"java/lang/Object", "<init>", "()V"⟩ : Cond) ∈ TB := TB_mem (List.mem_of_getElem? (i := 76) (by decide +kernel)) rfl
theorem w_77 : (.instanceMethod ⟨"java/lang/Object", "<init>", "()V"⟩ : Cond) ∈ TB := TB_mem (List.mem_of_getElem? (i := 77) (by decide +kernel)) rfl
theorem w_79 : (.classLink "VowCourt" 9 "java/util/ArrayList" : Cond) ∈ TB := TB_mem (List.mem_of_getElem? (i := 79) (by decide +kernel)) rfl
theorem w_80 : (.instantiable "java/util/ArrayList" 3 : Cond) ∈ TB := TB_mem (List.mem_of_getElem? (i := 80) (by decide +kernel)) rfl
theorem w_81 : (.methodLink "VowCourt" 11 ⟨"java/util/ArrayList", "<init>", "()V"⟩ : Cond) ∈ TB := TB_mem (List.mem_of_getElem? (i := 81) (by decide +kernel)) rfl
theorem w_82 : (.instanceMethod ⟨"java/util/ArrayList", "<init>", "()V"⟩ : Cond) ∈ TB := TB_mem (List.mem_of_getElem? (i := 82) (by decide +kernel)) rfl
theorem w_83 : (.code yJx4a65c_init_da8c8 cJx4a65c_init_da8c8 1 none : Cond) ∈ TB := TB_mem (List.mem_of_getElem? (i := 83) (by decide +kernel)) rfl
theorem w_84 : (.methodLink "java/util/ArrayList" 1 ⟨"java/util/AbstractList", "<init>", "()V"⟩ : Cond) ∈ TB := TB_mem (List.mem_of_getElem? (i := 84) (by decide +kernel)) rfl
theorem w_85 : (.instanceMethod ⟨"java/util/AbstractList", "<init>", "()V"⟩ : Cond) ∈ TB := TB_mem (List.mem_of_getElem? (i := 85) (by decide +kernel)) rfl
theorem w_86 : (.code yJxc12de_init_da8c8 cJxc12de_init_da8c8 1 none : Cond) ∈ TB := TB_mem (List.mem_of_getElem? (i := 86) (by decide +kernel)) rfl
theorem w_87 : (.methodLink "java/util/AbstractList" 1 ⟨"java/util/AbstractCollection", "<init>", "()V"⟩ : Cond) ∈ TB := TB_mem (List.mem_of_getElem? (i := 87) (by decide +kernel)) rfl
theorem w_88 : (.instanceMethod ⟨"java/util/AbstractCollection", "<init>", "()V"⟩ : Cond) ∈ TB := TB_mem (List.mem_of_getElem? (i := 88) (by decide +kernel)) rfl
theorem w_89 : (.code yJxa1e45_init_da8c8 cJxa1e45_init_da8c8 1 none : Cond) ∈ TB := TB_mem (List.mem_of_getElem? (i := 89) (by decide +kernel)) rfl
theorem w_90 : (.methodLink "java/util/AbstractCollection" 1 ⟨"java/lang/Object", "<init>", "()V"⟩ : Cond) ∈ TB := TB_mem (List.mem_of_getElem? (i := 90) (by decide +kernel)) rfl
theorem w_91 : (.fieldLink "java/util/ArrayList" 39 "java/util/ArrayList" "DEFAULTCAPACITY_EMPTY_ELEMENTDATA" "[Ljava/lang/Object;" : Cond) ∈ TB := TB_mem (List.mem_of_getElem? (i := 91) (by decide +kernel)) rfl
theorem w_93 : (.fieldLink "java/util/ArrayList" 9 "java/util/ArrayList" "elementData" "[Ljava/lang/Object;" : Cond) ∈ TB := TB_mem (List.mem_of_getElem? (i := 93) (by decide +kernel)) rfl
theorem w_94 : (.fieldLink "java/util/ArrayList" 48 "java/util/ArrayList" "size" "I" : Cond) ∈ TB := TB_mem (List.mem_of_getElem? (i := 94) (by decide +kernel)) rfl
theorem w_95 : (.fieldLink "java/util/AbstractList" 7 "java/util/AbstractList" "modCount" "I" : Cond) ∈ TB := TB_mem (List.mem_of_getElem? (i := 95) (by decide +kernel)) rfl
theorem w_96 : (.fieldLink "java/util/ArrayList" 63 "java/util/ArrayList" "modCount" "I" : Cond) ∈ TB := TB_mem (List.mem_of_getElem? (i := 96) (by decide +kernel)) rfl
theorem w_105 : (.classLink "VowCourt" 22 "VowCourt$Lines" : Cond) ∈ TB := TB_mem (List.mem_of_getElem? (i := 105) (by decide +kernel)) rfl
theorem w_106 : (.instantiable "VowCourt$Lines" 1 : Cond) ∈ TB := TB_mem (List.mem_of_getElem? (i := 106) (by decide +kernel)) rfl
theorem w_107 : (.methodLink "VowCourt" 24 ⟨"VowCourt$Lines", "<init>", "()V"⟩ : Cond) ∈ TB := TB_mem (List.mem_of_getElem? (i := 107) (by decide +kernel)) rfl
theorem w_108 : (.instanceMethod ⟨"VowCourt$Lines", "<init>", "()V"⟩ : Cond) ∈ TB := TB_mem (List.mem_of_getElem? (i := 108) (by decide +kernel)) rfl
theorem w_109 : (.code yX1_init cX1_init 2 none : Cond) ∈ TB := TB_mem (List.mem_of_getElem? (i := 109) (by decide +kernel)) rfl
theorem w_110 : (.methodLink "VowCourt$Lines" 3 ⟨"java/lang/Object", "<init>", "()V"⟩ : Cond) ∈ TB := TB_mem (List.mem_of_getElem? (i := 110) (by decide +kernel)) rfl
theorem w_111 : (.classLink "VowCourt$Lines" 9 "[[I" : Cond) ∈ TB := TB_mem (List.mem_of_getElem? (i := 111) (by decide +kernel)) rfl
theorem w_113 : (.methodLink "VowCourt$Lines" 16 ⟨"java/util/Arrays", "fill", "([II)V"⟩ : Cond) ∈ TB := TB_mem (List.mem_of_getElem? (i := 113) (by decide +kernel)) rfl
theorem w_114 : (.static ⟨"java/util/Arrays", "fill", "([II)V"⟩ : Cond) ∈ TB := TB_mem (List.mem_of_getElem? (i := 114) (by decide +kernel)) rfl
theorem w_115 : (.code yJ7_fill_53178 cJ7_fill_53178 4 none : Cond) ∈ TB := TB_mem (List.mem_of_getElem? (i := 115) (by decide +kernel)) rfl
theorem w_116 : (.fieldLink "VowCourt$Lines" 11 "VowCourt$Lines" "steps" "[[I" : Cond) ∈ TB := TB_mem (List.mem_of_getElem? (i := 116) (by decide +kernel)) rfl
theorem w_121 : (.classLink "VowCourt" 29 "[[I" : Cond) ∈ TB := TB_mem (List.mem_of_getElem? (i := 121) (by decide +kernel)) rfl
theorem w_122 : (.fieldLink "VowCourt" 12 "VowCourt" "persons" "Ljava/util/ArrayList;" : Cond) ∈ TB := TB_mem (List.mem_of_getElem? (i := 122) (by decide +kernel)) rfl
theorem w_123 : (.fieldLink "VowCourt" 16 "VowCourt" "vows" "Ljava/util/ArrayList;" : Cond) ∈ TB := TB_mem (List.mem_of_getElem? (i := 123) (by decide +kernel)) rfl
theorem w_124 : (.fieldLink "VowCourt" 19 "VowCourt" "causes" "Ljava/util/ArrayList;" : Cond) ∈ TB := TB_mem (List.mem_of_getElem? (i := 124) (by decide +kernel)) rfl
theorem w_125 : (.fieldLink "VowCourt" 25 "VowCourt" "lines" "LVowCourt$Lines;" : Cond) ∈ TB := TB_mem (List.mem_of_getElem? (i := 125) (by decide +kernel)) rfl
theorem w_126 : (.fieldLink "VowCourt" 31 "VowCourt" "dispensed" "[[I" : Cond) ∈ TB := TB_mem (List.mem_of_getElem? (i := 126) (by decide +kernel)) rfl
theorem w_127 : (.fieldLink "VowCourt" 34 "VowCourt" "facultyEnds" "[[I" : Cond) ∈ TB := TB_mem (List.mem_of_getElem? (i := 127) (by decide +kernel)) rfl
theorem w_128 : (.fieldLink "VowCourt" 37 "VowCourt" "errors" "[Z" : Cond) ∈ TB := TB_mem (List.mem_of_getElem? (i := 128) (by decide +kernel)) rfl
theorem w_129 : (.fieldLink "VowCourt" 41 "VowCourt" "today" "I" : Cond) ∈ TB := TB_mem (List.mem_of_getElem? (i := 129) (by decide +kernel)) rfl
theorem w_148 : (.methodLink "VowCourtLaw" 116 ⟨"VowCourtLaw", "person", "(LVowCourt;IIII[J)I"⟩ : Cond) ∈ TB := TB_mem (List.mem_of_getElem? (i := 148) (by decide +kernel)) rfl
theorem w_149 : (.static ⟨"VowCourtLaw", "person", "(LVowCourt;IIII[J)I"⟩ : Cond) ∈ TB := TB_mem (List.mem_of_getElem? (i := 149) (by decide +kernel)) rfl
theorem w_151 : (.classLink "VowCourtLaw" 13 "java/lang/IndexOutOfBoundsException" : Cond) ∈ TB := TB_mem (List.mem_of_getElem? (i := 151) (by decide +kernel)) rfl
theorem w_152 : (.classLink "VowCourtLaw" 15 "java/lang/IllegalArgumentException" : Cond) ∈ TB := TB_mem (List.mem_of_getElem? (i := 152) (by decide +kernel)) rfl
theorem w_153 : (.classLink "VowCourtLaw" 17 "java/lang/IllegalStateException" : Cond) ∈ TB := TB_mem (List.mem_of_getElem? (i := 153) (by decide +kernel)) rfl
theorem w_154 : (.methodLink "VowCourtLaw" 7 ⟨"VowCourt", "person", "(IIII)I"⟩ : Cond) ∈ TB := TB_mem (List.mem_of_getElem? (i := 154) (by decide +kernel)) rfl
theorem w_155 : (.instanceMethod ⟨"VowCourt", "person", "(IIII)I"⟩ : Cond) ∈ TB := TB_mem (List.mem_of_getElem? (i := 155) (by decide +kernel)) rfl
theorem w_156 : (.selects "VowCourt" ⟨"VowCourt", "person", "(IIII)I"⟩ ⟨"VowCourt", "person", "(IIII)I"⟩ : Cond) ∈ TB := TB_mem (List.mem_of_getElem? (i := 156) (by decide +kernel)) rfl
theorem w_157 : (.code yX4_person cX4_person 6 (some .int) : Cond) ∈ TB := TB_mem (List.mem_of_getElem? (i := 157) (by decide +kernel)) rfl
theorem w_158 : (.methodLink "VowCourt" 45 ⟨"VowCourt", "isPerson", "(I)Z"⟩ : Cond) ∈ TB := TB_mem (List.mem_of_getElem? (i := 158) (by decide +kernel)) rfl
theorem w_160 : (.instanceMethod ⟨"VowCourt", "isPerson", "(I)Z"⟩ : Cond) ∈ TB := TB_mem (List.mem_of_getElem? (i := 160) (by decide +kernel)) rfl
theorem w_161 : (.code yX4_isPerson cX4_isPerson 2 (some .boolean) : Cond) ∈ TB := TB_mem (List.mem_of_getElem? (i := 161) (by decide +kernel)) rfl
theorem w_162 : (.methodLink "VowCourt" 60 ⟨"java/util/ArrayList", "size", "()I"⟩ : Cond) ∈ TB := TB_mem (List.mem_of_getElem? (i := 162) (by decide +kernel)) rfl
theorem w_163 : (.instanceMethod ⟨"java/util/ArrayList", "size", "()I"⟩ : Cond) ∈ TB := TB_mem (List.mem_of_getElem? (i := 163) (by decide +kernel)) rfl
theorem w_164 : (.selects "java/util/ArrayList" ⟨"java/util/ArrayList", "size", "()I"⟩ ⟨"java/util/ArrayList", "size", "()I"⟩ : Cond) ∈ TB := TB_mem (List.mem_of_getElem? (i := 164) (by decide +kernel)) rfl
theorem w_165 : (.code yJx4a65c_size_8abf5 cJx4a65c_size_8abf5 1 (some .int) : Cond) ∈ TB := TB_mem (List.mem_of_getElem? (i := 165) (by decide +kernel)) rfl
theorem w_166 : (.methodLink "VowCourt" 49 ⟨"VowCourt", "checkIndex", "(Z)V"⟩ : Cond) ∈ TB := TB_mem (List.mem_of_getElem? (i := 166) (by decide +kernel)) rfl
theorem w_167 : (.static ⟨"VowCourt", "checkIndex", "(Z)V"⟩ : Cond) ∈ TB := TB_mem (List.mem_of_getElem? (i := 167) (by decide +kernel)) rfl
theorem w_168 : (.code yX4_checkIndex cX4_checkIndex 1 none : Cond) ∈ TB := TB_mem (List.mem_of_getElem? (i := 168) (by decide +kernel)) rfl
theorem w_169 : (.classLink "VowCourt" 235 "java/lang/IndexOutOfBoundsException" : Cond) ∈ TB := TB_mem (List.mem_of_getElem? (i := 169) (by decide +kernel)) rfl
theorem w_170 : (.instantiable "java/lang/IndexOutOfBoundsException" 6 : Cond) ∈ TB := TB_mem (List.mem_of_getElem? (i := 170) (by decide +kernel)) rfl
theorem w_178 : (.selects "java/lang/IndexOutOfBoundsException" ⟨"java/lang/Throwable", "fillInStackTrace", "(I)Ljava/lang/Throwable;"⟩ ⟨"java/lang/Throwable", "fillInStackTrace", "(I)Ljava/lang/Throwable;"⟩ : Cond) ∈ TB := TB_mem (List.mem_of_getElem? (i := 178) (by decide +kernel)) rfl
theorem w_179 : (.selects "java/lang/IndexOutOfBoundsException" ⟨"java/lang/Throwable", "fillInStackTrace", "()Ljava/lang/Throwable;"⟩ ⟨"java/lang/Throwable", "fillInStackTrace", "()Ljava/lang/Throwable;"⟩ : Cond) ∈ TB := TB_mem (List.mem_of_getElem? (i := 179) (by decide +kernel)) rfl
theorem w_190 : (.fieldLink "java/lang/Throwable" 198 "java/lang/Throwable" "backtrace" "Ljava/lang/Object;" : Cond) ∈ TB := TB_mem (List.mem_of_getElem? (i := 190) (by decide +kernel)) rfl
theorem w_192 : (.instanceMethod ⟨"java/lang/Throwable", "<init>", "()V"⟩ : Cond) ∈ TB := TB_mem (List.mem_of_getElem? (i := 192) (by decide +kernel)) rfl
theorem w_194 : (.methodLink "java/lang/Throwable" 1 ⟨"java/lang/Object", "<init>", "()V"⟩ : Cond) ∈ TB := TB_mem (List.mem_of_getElem? (i := 194) (by decide +kernel)) rfl
theorem w_195 : (.fieldLink "java/lang/Throwable" 13 "java/lang/Throwable" "UNASSIGNED_STACK" "[Ljava/lang/StackTraceElement;" : Cond) ∈ TB := TB_mem (List.mem_of_getElem? (i := 195) (by decide +kernel)) rfl
theorem w_197 : (.fieldLink "java/lang/Throwable" 20 "java/lang/Throwable" "SUPPRESSED_SENTINEL" "Ljava/util/List;" : Cond) ∈ TB := TB_mem (List.mem_of_getElem? (i := 197) (by decide +kernel)) rfl
theorem w_199 : (.methodLink "java/lang/Throwable" 27 ⟨"java/lang/Throwable", "fillInStackTrace", "()Ljava/lang/Throwable;"⟩ : Cond) ∈ TB := TB_mem (List.mem_of_getElem? (i := 199) (by decide +kernel)) rfl
theorem w_200 : (.instanceMethod ⟨"java/lang/Throwable", "fillInStackTrace", "()Ljava/lang/Throwable;"⟩ : Cond) ∈ TB := TB_mem (List.mem_of_getElem? (i := 200) (by decide +kernel)) rfl
theorem w_202 : (.selects "java/lang/IllegalArgumentException" ⟨"java/lang/Throwable", "fillInStackTrace", "()Ljava/lang/Throwable;"⟩ ⟨"java/lang/Throwable", "fillInStackTrace", "()Ljava/lang/Throwable;"⟩ : Cond) ∈ TB := TB_mem (List.mem_of_getElem? (i := 202) (by decide +kernel)) rfl
theorem w_203 : (.selects "java/lang/IllegalStateException" ⟨"java/lang/Throwable", "fillInStackTrace", "()Ljava/lang/Throwable;"⟩ ⟨"java/lang/Throwable", "fillInStackTrace", "()Ljava/lang/Throwable;"⟩ : Cond) ∈ TB := TB_mem (List.mem_of_getElem? (i := 203) (by decide +kernel)) rfl
theorem w_205 : (.methodLink "java/lang/Throwable" 202 ⟨"java/lang/Throwable", "fillInStackTrace", "(I)Ljava/lang/Throwable;"⟩ : Cond) ∈ TB := TB_mem (List.mem_of_getElem? (i := 205) (by decide +kernel)) rfl
theorem w_207 : (.instanceMethod ⟨"java/lang/Throwable", "fillInStackTrace", "(I)Ljava/lang/Throwable;"⟩ : Cond) ∈ TB := TB_mem (List.mem_of_getElem? (i := 207) (by decide +kernel)) rfl
theorem w_208 : (.instantiable "java/lang/Throwable" 6 : Cond) ∈ TB := TB_mem (List.mem_of_getElem? (i := 208) (by decide +kernel)) rfl
theorem w_209 : (.native ⟨"java/lang/Throwable", "fillInStackTrace", "(I)Ljava/lang/Throwable;"⟩ : Cond) ∈ TB := TB_mem (List.mem_of_getElem? (i := 209) (by decide +kernel)) rfl
theorem w_211 : (.methodLink "VowCourt" 239 ⟨"java/lang/IndexOutOfBoundsException", "<init>", "(Ljava/lang/String;)V"⟩ : Cond) ∈ TB := TB_mem (List.mem_of_getElem? (i := 211) (by decide +kernel)) rfl
theorem w_212 : (.instanceMethod ⟨"java/lang/IndexOutOfBoundsException", "<init>", "(Ljava/lang/String;)V"⟩ : Cond) ∈ TB := TB_mem (List.mem_of_getElem? (i := 212) (by decide +kernel)) rfl
theorem w_214 : (.methodLink "java/lang/IndexOutOfBoundsException" 7 ⟨"java/lang/RuntimeException", "<init>", "(Ljava/lang/String;)V"⟩ : Cond) ∈ TB := TB_mem (List.mem_of_getElem? (i := 214) (by decide +kernel)) rfl
theorem w_215 : (.instanceMethod ⟨"java/lang/RuntimeException", "<init>", "(Ljava/lang/String;)V"⟩ : Cond) ∈ TB := TB_mem (List.mem_of_getElem? (i := 215) (by decide +kernel)) rfl
theorem w_217 : (.methodLink "java/lang/RuntimeException" 7 ⟨"java/lang/Exception", "<init>", "(Ljava/lang/String;)V"⟩ : Cond) ∈ TB := TB_mem (List.mem_of_getElem? (i := 217) (by decide +kernel)) rfl
theorem w_218 : (.instanceMethod ⟨"java/lang/Exception", "<init>", "(Ljava/lang/String;)V"⟩ : Cond) ∈ TB := TB_mem (List.mem_of_getElem? (i := 218) (by decide +kernel)) rfl
theorem w_220 : (.methodLink "java/lang/Exception" 7 ⟨"java/lang/Throwable", "<init>", "(Ljava/lang/String;)V"⟩ : Cond) ∈ TB := TB_mem (List.mem_of_getElem? (i := 220) (by decide +kernel)) rfl
theorem w_221 : (.instanceMethod ⟨"java/lang/Throwable", "<init>", "(Ljava/lang/String;)V"⟩ : Cond) ∈ TB := TB_mem (List.mem_of_getElem? (i := 221) (by decide +kernel)) rfl
theorem w_224 : (.fieldLink "java/lang/Throwable" 31 "java/lang/Throwable" "detailMessage" "Ljava/lang/String;" : Cond) ∈ TB := TB_mem (List.mem_of_getElem? (i := 224) (by decide +kernel)) rfl
theorem w_225 : (.fieldLink "java/lang/Throwable" 7 "java/lang/Throwable" "cause" "Ljava/lang/Throwable;" : Cond) ∈ TB := TB_mem (List.mem_of_getElem? (i := 225) (by decide +kernel)) rfl
theorem w_226 : (.fieldLink "java/lang/Throwable" 17 "java/lang/Throwable" "stackTrace" "[Ljava/lang/StackTraceElement;" : Cond) ∈ TB := TB_mem (List.mem_of_getElem? (i := 226) (by decide +kernel)) rfl
theorem w_227 : (.fieldLink "java/lang/Throwable" 24 "java/lang/Throwable" "suppressedExceptions" "Ljava/util/List;" : Cond) ∈ TB := TB_mem (List.mem_of_getElem? (i := 227) (by decide +kernel)) rfl
theorem w_237 : (.methodLink "VowCourt" 53 ⟨"VowCourt", "checkArgument", "(Z)V"⟩ : Cond) ∈ TB := TB_mem (List.mem_of_getElem? (i := 237) (by decide +kernel)) rfl
theorem w_238 : (.static ⟨"VowCourt", "checkArgument", "(Z)V"⟩ : Cond) ∈ TB := TB_mem (List.mem_of_getElem? (i := 238) (by decide +kernel)) rfl
theorem w_239 : (.code yX4_checkArgument cX4_checkArgument 1 none : Cond) ∈ TB := TB_mem (List.mem_of_getElem? (i := 239) (by decide +kernel)) rfl
theorem w_240 : (.classLink "VowCourt" 242 "java/lang/IllegalArgumentException" : Cond) ∈ TB := TB_mem (List.mem_of_getElem? (i := 240) (by decide +kernel)) rfl
theorem w_241 : (.instantiable "java/lang/IllegalArgumentException" 6 : Cond) ∈ TB := TB_mem (List.mem_of_getElem? (i := 241) (by decide +kernel)) rfl
theorem w_243 : (.selects "java/lang/IllegalArgumentException" ⟨"java/lang/Throwable", "fillInStackTrace", "(I)Ljava/lang/Throwable;"⟩ ⟨"java/lang/Throwable", "fillInStackTrace", "(I)Ljava/lang/Throwable;"⟩ : Cond) ∈ TB := TB_mem (List.mem_of_getElem? (i := 243) (by decide +kernel)) rfl
theorem w_250 : (.methodLink "VowCourt" 246 ⟨"java/lang/IllegalArgumentException", "<init>", "(Ljava/lang/String;)V"⟩ : Cond) ∈ TB := TB_mem (List.mem_of_getElem? (i := 250) (by decide +kernel)) rfl
theorem w_251 : (.instanceMethod ⟨"java/lang/IllegalArgumentException", "<init>", "(Ljava/lang/String;)V"⟩ : Cond) ∈ TB := TB_mem (List.mem_of_getElem? (i := 251) (by decide +kernel)) rfl
theorem w_253 : (.methodLink "java/lang/IllegalArgumentException" 7 ⟨"java/lang/RuntimeException", "<init>", "(Ljava/lang/String;)V"⟩ : Cond) ∈ TB := TB_mem (List.mem_of_getElem? (i := 253) (by decide +kernel)) rfl
theorem w_256 : (.constant "VowCourt" 56 (36000) : Cond) ∈ TB := TB_mem (List.mem_of_getElem? (i := 256) (by decide +kernel)) rfl
theorem w_257 : (.methodLink "VowCourt" 57 ⟨"VowCourt", "isPlace", "(I)Z"⟩ : Cond) ∈ TB := TB_mem (List.mem_of_getElem? (i := 257) (by decide +kernel)) rfl
theorem w_258 : (.static ⟨"VowCourt", "isPlace", "(I)Z"⟩ : Cond) ∈ TB := TB_mem (List.mem_of_getElem? (i := 258) (by decide +kernel)) rfl
theorem w_259 : (.code yX4_isPlace cX4_isPlace 1 (some .boolean) : Cond) ∈ TB := TB_mem (List.mem_of_getElem? (i := 259) (by decide +kernel)) rfl
theorem w_260 : (.methodLink "VowCourt" 64 ⟨"VowCourt", "checkPossible", "(Z)V"⟩ : Cond) ∈ TB := TB_mem (List.mem_of_getElem? (i := 260) (by decide +kernel)) rfl
theorem w_261 : (.static ⟨"VowCourt", "checkPossible", "(Z)V"⟩ : Cond) ∈ TB := TB_mem (List.mem_of_getElem? (i := 261) (by decide +kernel)) rfl
theorem w_262 : (.code yX4_checkPossible cX4_checkPossible 1 none : Cond) ∈ TB := TB_mem (List.mem_of_getElem? (i := 262) (by decide +kernel)) rfl
theorem w_263 : (.classLink "VowCourt" 247 "java/lang/IllegalStateException" : Cond) ∈ TB := TB_mem (List.mem_of_getElem? (i := 263) (by decide +kernel)) rfl
theorem w_264 : (.instantiable "java/lang/IllegalStateException" 6 : Cond) ∈ TB := TB_mem (List.mem_of_getElem? (i := 264) (by decide +kernel)) rfl
theorem w_266 : (.selects "java/lang/IllegalStateException" ⟨"java/lang/Throwable", "fillInStackTrace", "(I)Ljava/lang/Throwable;"⟩ ⟨"java/lang/Throwable", "fillInStackTrace", "(I)Ljava/lang/Throwable;"⟩ : Cond) ∈ TB := TB_mem (List.mem_of_getElem? (i := 266) (by decide +kernel)) rfl
theorem w_273 : (.methodLink "VowCourt" 251 ⟨"java/lang/IllegalStateException", "<init>", "(Ljava/lang/String;)V"⟩ : Cond) ∈ TB := TB_mem (List.mem_of_getElem? (i := 273) (by decide +kernel)) rfl
theorem w_274 : (.instanceMethod ⟨"java/lang/IllegalStateException", "<init>", "(Ljava/lang/String;)V"⟩ : Cond) ∈ TB := TB_mem (List.mem_of_getElem? (i := 274) (by decide +kernel)) rfl
theorem w_276 : (.methodLink "java/lang/IllegalStateException" 7 ⟨"java/lang/RuntimeException", "<init>", "(Ljava/lang/String;)V"⟩ : Cond) ∈ TB := TB_mem (List.mem_of_getElem? (i := 276) (by decide +kernel)) rfl
theorem w_279 : (.methodLink "VowCourt" 67 ⟨"VowCourt$Lines", "enter", "(III)V"⟩ : Cond) ∈ TB := TB_mem (List.mem_of_getElem? (i := 279) (by decide +kernel)) rfl
theorem w_280 : (.instanceMethod ⟨"VowCourt$Lines", "enter", "(III)V"⟩ : Cond) ∈ TB := TB_mem (List.mem_of_getElem? (i := 280) (by decide +kernel)) rfl
theorem w_281 : (.selects "VowCourt$Lines" ⟨"VowCourt$Lines", "enter", "(III)V"⟩ ⟨"VowCourt$Lines", "enter", "(III)V"⟩ : Cond) ∈ TB := TB_mem (List.mem_of_getElem? (i := 281) (by decide +kernel)) rfl
theorem w_282 : (.code yX1_enter cX1_enter 6 none : Cond) ∈ TB := TB_mem (List.mem_of_getElem? (i := 282) (by decide +kernel)) rfl
theorem w_283 : (.methodLink "VowCourt$Lines" 22 ⟨"VowCourt$Lines", "stepsBetween", "(II)I"⟩ : Cond) ∈ TB := TB_mem (List.mem_of_getElem? (i := 283) (by decide +kernel)) rfl
theorem w_284 : (.instanceMethod ⟨"VowCourt$Lines", "stepsBetween", "(II)I"⟩ : Cond) ∈ TB := TB_mem (List.mem_of_getElem? (i := 284) (by decide +kernel)) rfl
theorem w_285 : (.selects "VowCourt$Lines" ⟨"VowCourt$Lines", "stepsBetween", "(II)I"⟩ ⟨"VowCourt$Lines", "stepsBetween", "(II)I"⟩ : Cond) ∈ TB := TB_mem (List.mem_of_getElem? (i := 285) (by decide +kernel)) rfl
theorem w_286 : (.code yX1_stepsBetween cX1_stepsBetween 3 (some .int) : Cond) ∈ TB := TB_mem (List.mem_of_getElem? (i := 286) (by decide +kernel)) rfl
theorem w_287 : (.methodLink "VowCourt$Lines" 26 ⟨"java/lang/Math", "min", "(II)I"⟩ : Cond) ∈ TB := TB_mem (List.mem_of_getElem? (i := 287) (by decide +kernel)) rfl
theorem w_288 : (.static ⟨"java/lang/Math", "min", "(II)I"⟩ : Cond) ∈ TB := TB_mem (List.mem_of_getElem? (i := 288) (by decide +kernel)) rfl
theorem w_289 : (.code yJ9_min_7cf53 cJ9_min_7cf53 2 (some .int) : Cond) ∈ TB := TB_mem (List.mem_of_getElem? (i := 289) (by decide +kernel)) rfl
theorem w_290 : (.classLink "VowCourt" 71 "VowCourt$Person" : Cond) ∈ TB := TB_mem (List.mem_of_getElem? (i := 290) (by decide +kernel)) rfl
theorem w_291 : (.instantiable "VowCourt$Person" 6 : Cond) ∈ TB := TB_mem (List.mem_of_getElem? (i := 291) (by decide +kernel)) rfl
theorem w_292 : (.methodLink "VowCourt" 73 ⟨"VowCourt$Person", "<init>", "(II)V"⟩ : Cond) ∈ TB := TB_mem (List.mem_of_getElem? (i := 292) (by decide +kernel)) rfl
theorem w_293 : (.instanceMethod ⟨"VowCourt$Person", "<init>", "(II)V"⟩ : Cond) ∈ TB := TB_mem (List.mem_of_getElem? (i := 293) (by decide +kernel)) rfl
theorem w_294 : (.code yX2_init cX2_init 3 none : Cond) ∈ TB := TB_mem (List.mem_of_getElem? (i := 294) (by decide +kernel)) rfl
theorem w_295 : (.methodLink "VowCourt$Person" 1 ⟨"java/lang/Object", "<init>", "()V"⟩ : Cond) ∈ TB := TB_mem (List.mem_of_getElem? (i := 295) (by decide +kernel)) rfl
theorem w_296 : (.fieldLink "VowCourt$Person" 23 "VowCourt$Person" "born" "I" : Cond) ∈ TB := TB_mem (List.mem_of_getElem? (i := 296) (by decide +kernel)) rfl
theorem w_297 : (.fieldLink "VowCourt" 260 "VowCourt$Person" "born" "I" : Cond) ∈ TB := TB_mem (List.mem_of_getElem? (i := 297) (by decide +kernel)) rfl
theorem w_298 : (.fieldLink "VowCourt$Person" 26 "VowCourt$Person" "homeNow" "I" : Cond) ∈ TB := TB_mem (List.mem_of_getElem? (i := 298) (by decide +kernel)) rfl
theorem w_299 : (.fieldLink "VowCourt" 87 "VowCourt$Person" "homeNow" "I" : Cond) ∈ TB := TB_mem (List.mem_of_getElem? (i := 299) (by decide +kernel)) rfl
theorem w_300 : (.fieldLink "VowCourt$Person" 7 "VowCourt$Person" "riteNow" "I" : Cond) ∈ TB := TB_mem (List.mem_of_getElem? (i := 300) (by decide +kernel)) rfl
theorem w_301 : (.fieldLink "VowCourt" 84 "VowCourt$Person" "riteNow" "I" : Cond) ∈ TB := TB_mem (List.mem_of_getElem? (i := 301) (by decide +kernel)) rfl
theorem w_302 : (.fieldLink "VowCourt$Person" 13 "VowCourt$Person" "ordered" "Z" : Cond) ∈ TB := TB_mem (List.mem_of_getElem? (i := 302) (by decide +kernel)) rfl
theorem w_303 : (.fieldLink "VowCourt" 94 "VowCourt$Person" "ordered" "Z" : Cond) ∈ TB := TB_mem (List.mem_of_getElem? (i := 303) (by decide +kernel)) rfl
theorem w_304 : (.fieldLink "VowCourt$Person" 17 "VowCourt$Person" "banned" "Z" : Cond) ∈ TB := TB_mem (List.mem_of_getElem? (i := 304) (by decide +kernel)) rfl
theorem w_305 : (.fieldLink "VowCourt" 97 "VowCourt$Person" "banned" "Z" : Cond) ∈ TB := TB_mem (List.mem_of_getElem? (i := 305) (by decide +kernel)) rfl
theorem w_306 : (.fieldLink "VowCourt$Person" 20 "VowCourt$Person" "lives" "Z" : Cond) ∈ TB := TB_mem (List.mem_of_getElem? (i := 306) (by decide +kernel)) rfl
theorem w_307 : (.fieldLink "VowCourt" 90 "VowCourt$Person" "lives" "Z" : Cond) ∈ TB := TB_mem (List.mem_of_getElem? (i := 307) (by decide +kernel)) rfl
theorem w_321 : (.methodLink "VowCourt" 76 ⟨"java/util/ArrayList", "add", "(Ljava/lang/Object;)Z"⟩ : Cond) ∈ TB := TB_mem (List.mem_of_getElem? (i := 321) (by decide +kernel)) rfl
theorem w_322 : (.instanceMethod ⟨"java/util/ArrayList", "add", "(Ljava/lang/Object;)Z"⟩ : Cond) ∈ TB := TB_mem (List.mem_of_getElem? (i := 322) (by decide +kernel)) rfl
theorem w_323 : (.selects "java/util/ArrayList" ⟨"java/util/ArrayList", "add", "(Ljava/lang/Object;)Z"⟩ ⟨"java/util/ArrayList", "add", "(Ljava/lang/Object;)Z"⟩ : Cond) ∈ TB := TB_mem (List.mem_of_getElem? (i := 323) (by decide +kernel)) rfl
theorem w_324 : (.code yJx4a65c_add_9ea2d cJx4a65c_add_9ea2d 2 (some .boolean) : Cond) ∈ TB := TB_mem (List.mem_of_getElem? (i := 324) (by decide +kernel)) rfl
theorem w_325 : (.methodLink "java/util/ArrayList" 131 ⟨"java/util/ArrayList", "add", "(Ljava/lang/Object;[Ljava/lang/Object;I)V"⟩ : Cond) ∈ TB := TB_mem (List.mem_of_getElem? (i := 325) (by decide +kernel)) rfl
theorem w_327 : (.instanceMethod ⟨"java/util/ArrayList", "add", "(Ljava/lang/Object;[Ljava/lang/Object;I)V"⟩ : Cond) ∈ TB := TB_mem (List.mem_of_getElem? (i := 327) (by decide +kernel)) rfl
theorem w_328 : (.code yJx4a65c_add_72be8 cJx4a65c_add_72be8 4 none : Cond) ∈ TB := TB_mem (List.mem_of_getElem? (i := 328) (by decide +kernel)) rfl
theorem w_329 : (.methodLink "java/util/ArrayList" 129 ⟨"java/util/ArrayList", "grow", "()[Ljava/lang/Object;"⟩ : Cond) ∈ TB := TB_mem (List.mem_of_getElem? (i := 329) (by decide +kernel)) rfl
theorem w_331 : (.instanceMethod ⟨"java/util/ArrayList", "grow", "()[Ljava/lang/Object;"⟩ : Cond) ∈ TB := TB_mem (List.mem_of_getElem? (i := 331) (by decide +kernel)) rfl
theorem w_332 : (.code yJx4a65c_grow_d5877 cJx4a65c_grow_d5877 1 (some (.array (.object "java/lang/Object"))) : Cond) ∈ TB := TB_mem (List.mem_of_getElem? (i := 332) (by decide +kernel)) rfl
theorem w_333 : (.methodLink "java/util/ArrayList" 69 ⟨"java/util/ArrayList", "grow", "(I)[Ljava/lang/Object;"⟩ : Cond) ∈ TB := TB_mem (List.mem_of_getElem? (i := 333) (by decide +kernel)) rfl
theorem w_335 : (.instanceMethod ⟨"java/util/ArrayList", "grow", "(I)[Ljava/lang/Object;"⟩ : Cond) ∈ TB := TB_mem (List.mem_of_getElem? (i := 335) (by decide +kernel)) rfl
theorem w_336 : (.code yJx4a65c_grow_92f84 cJx4a65c_grow_92f84 4 (some (.array (.object "java/lang/Object"))) : Cond) ∈ TB := TB_mem (List.mem_of_getElem? (i := 336) (by decide +kernel)) rfl
theorem w_337 : (.methodLink "java/util/ArrayList" 73 ⟨"jdk/internal/util/ArraysSupport", "newLength", "(III)I"⟩ : Cond) ∈ TB := TB_mem (List.mem_of_getElem? (i := 337) (by decide +kernel)) rfl
theorem w_338 : (.static ⟨"jdk/internal/util/ArraysSupport", "newLength", "(III)I"⟩ : Cond) ∈ TB := TB_mem (List.mem_of_getElem? (i := 338) (by decide +kernel)) rfl
theorem w_339 : (.code yJ8_newLength_cabcc cJ8_newLength_cabcc 4 (some .int) : Cond) ∈ TB := TB_mem (List.mem_of_getElem? (i := 339) (by decide +kernel)) rfl
theorem w_340 : (.methodLink "jdk/internal/util/ArraysSupport" 194 ⟨"java/lang/Math", "max", "(II)I"⟩ : Cond) ∈ TB := TB_mem (List.mem_of_getElem? (i := 340) (by decide +kernel)) rfl
theorem w_341 : (.static ⟨"java/lang/Math", "max", "(II)I"⟩ : Cond) ∈ TB := TB_mem (List.mem_of_getElem? (i := 341) (by decide +kernel)) rfl
theorem w_342 : (.code yJ9_max_7cf53 cJ9_max_7cf53 2 (some .int) : Cond) ∈ TB := TB_mem (List.mem_of_getElem? (i := 342) (by decide +kernel)) rfl
theorem w_343 : (.constant "jdk/internal/util/ArraysSupport" 200 (2147483639) : Cond) ∈ TB := TB_mem (List.mem_of_getElem? (i := 343) (by decide +kernel)) rfl
theorem w_344 : (.methodLink "jdk/internal/util/ArraysSupport" 201 ⟨"jdk/internal/util/ArraysSupport", "hugeLength", "(II)I"⟩ : Cond) ∈ TB := TB_mem (List.mem_of_getElem? (i := 344) (by decide +kernel)) rfl
theorem w_345 : (.static ⟨"jdk/internal/util/ArraysSupport", "hugeLength", "(II)I"⟩ : Cond) ∈ TB := TB_mem (List.mem_of_getElem? (i := 345) (by decide +kernel)) rfl
theorem w_346 : (.code yJ8_hugeLength_7cf53 cJ8_hugeLength_7cf53 3 (some .int) : Cond) ∈ TB := TB_mem (List.mem_of_getElem? (i := 346) (by decide +kernel)) rfl
theorem w_347 : (.methodLink "java/util/ArrayList" 66 ⟨"java/util/Arrays", "copyOf", "([Ljava/lang/Object;I)[Ljava/lang/Object;"⟩ : Cond) ∈ TB := TB_mem (List.mem_of_getElem? (i := 347) (by decide +kernel)) rfl
theorem w_348 : (.static ⟨"java/util/Arrays", "copyOf", "([Ljava/lang/Object;I)[Ljava/lang/Object;"⟩ : Cond) ∈ TB := TB_mem (List.mem_of_getElem? (i := 348) (by decide +kernel)) rfl
theorem w_349 : (.code yJ7_copyOf_1904c cJ7_copyOf_1904c 2 (some (.array (.object "java/lang/Object"))) : Cond) ∈ TB := TB_mem (List.mem_of_getElem? (i := 349) (by decide +kernel)) rfl
theorem w_350 : (.methodLink "java/util/Arrays" 86 ⟨"java/lang/Object", "getClass", "()Ljava/lang/Class;"⟩ : Cond) ∈ TB := TB_mem (List.mem_of_getElem? (i := 350) (by decide +kernel)) rfl
theorem w_351 : (.instanceMethod ⟨"java/lang/Object", "getClass", "()Ljava/lang/Class;"⟩ : Cond) ∈ TB := TB_mem (List.mem_of_getElem? (i := 351) (by decide +kernel)) rfl
theorem w_353 : (.selects "VowCourt" ⟨"java/lang/Object", "getClass", "()Ljava/lang/Class;"⟩ ⟨"java/lang/Object", "getClass", "()Ljava/lang/Class;"⟩ : Cond) ∈ TB := TB_mem (List.mem_of_getElem? (i := 353) (by decide +kernel)) rfl
theorem w_354 : (.selects "VowCourt$Cause" ⟨"java/lang/Object", "getClass", "()Ljava/lang/Class;"⟩ ⟨"java/lang/Object", "getClass", "()Ljava/lang/Class;"⟩ : Cond) ∈ TB := TB_mem (List.mem_of_getElem? (i := 354) (by decide +kernel)) rfl
theorem w_355 : (.selects "VowCourt$Lines" ⟨"java/lang/Object", "getClass", "()Ljava/lang/Class;"⟩ ⟨"java/lang/Object", "getClass", "()Ljava/lang/Class;"⟩ : Cond) ∈ TB := TB_mem (List.mem_of_getElem? (i := 355) (by decide +kernel)) rfl
theorem w_356 : (.selects "VowCourt$Person" ⟨"java/lang/Object", "getClass", "()Ljava/lang/Class;"⟩ ⟨"java/lang/Object", "getClass", "()Ljava/lang/Class;"⟩ : Cond) ∈ TB := TB_mem (List.mem_of_getElem? (i := 356) (by decide +kernel)) rfl
theorem w_357 : (.selects "VowCourt$Vow" ⟨"java/lang/Object", "getClass", "()Ljava/lang/Class;"⟩ ⟨"java/lang/Object", "getClass", "()Ljava/lang/Class;"⟩ : Cond) ∈ TB := TB_mem (List.mem_of_getElem? (i := 357) (by decide +kernel)) rfl
theorem w_358 : (.selects "VowCourtModel" ⟨"java/lang/Object", "getClass", "()Ljava/lang/Class;"⟩ ⟨"java/lang/Object", "getClass", "()Ljava/lang/Class;"⟩ : Cond) ∈ TB := TB_mem (List.mem_of_getElem? (i := 358) (by decide +kernel)) rfl
theorem w_359 : (.selects "java/lang/IllegalArgumentException" ⟨"java/lang/Object", "getClass", "()Ljava/lang/Class;"⟩ ⟨"java/lang/Object", "getClass", "()Ljava/lang/Class;"⟩ : Cond) ∈ TB := TB_mem (List.mem_of_getElem? (i := 359) (by decide +kernel)) rfl
theorem w_360 : (.selects "java/lang/IllegalStateException" ⟨"java/lang/Object", "getClass", "()Ljava/lang/Class;"⟩ ⟨"java/lang/Object", "getClass", "()Ljava/lang/Class;"⟩ : Cond) ∈ TB := TB_mem (List.mem_of_getElem? (i := 360) (by decide +kernel)) rfl
theorem w_361 : (.selects "java/lang/IndexOutOfBoundsException" ⟨"java/lang/Object", "getClass", "()Ljava/lang/Class;"⟩ ⟨"java/lang/Object", "getClass", "()Ljava/lang/Class;"⟩ : Cond) ∈ TB := TB_mem (List.mem_of_getElem? (i := 361) (by decide +kernel)) rfl
theorem w_362 : (.selects "java/lang/StringBuilder" ⟨"java/lang/Object", "getClass", "()Ljava/lang/Class;"⟩ ⟨"java/lang/Object", "getClass", "()Ljava/lang/Class;"⟩ : Cond) ∈ TB := TB_mem (List.mem_of_getElem? (i := 362) (by decide +kernel)) rfl
theorem w_363 : (.selects "java/util/ArrayList" ⟨"java/lang/Object", "getClass", "()Ljava/lang/Class;"⟩ ⟨"java/lang/Object", "getClass", "()Ljava/lang/Class;"⟩ : Cond) ∈ TB := TB_mem (List.mem_of_getElem? (i := 363) (by decide +kernel)) rfl
theorem w_364 : (.native ⟨"java/lang/Object", "getClass", "()Ljava/lang/Class;"⟩ : Cond) ∈ TB := TB_mem (List.mem_of_getElem? (i := 364) (by decide +kernel)) rfl
theorem w_365 : (.methodLink "java/util/Arrays" 300 ⟨"java/util/Arrays", "copyOf", "([Ljava/lang/Object;ILjava/lang/Class;)[Ljava/lang/Object;"⟩ : Cond) ∈ TB := TB_mem (List.mem_of_getElem? (i := 365) (by decide +kernel)) rfl
theorem w_366 : (.static ⟨"java/util/Arrays", "copyOf", "([Ljava/lang/Object;ILjava/lang/Class;)[Ljava/lang/Object;"⟩ : Cond) ∈ TB := TB_mem (List.mem_of_getElem? (i := 366) (by decide +kernel)) rfl
theorem w_367 : (.code yJ7_copyOf_6403c cJ7_copyOf_6403c 4 (some (.array (.object "java/lang/Object"))) : Cond) ∈ TB := TB_mem (List.mem_of_getElem? (i := 367) (by decide +kernel)) rfl
theorem w_368 : (.classLink "java/util/Arrays" 110 "[Ljava/lang/Object;" : Cond) ∈ TB := TB_mem (List.mem_of_getElem? (i := 368) (by decide +kernel)) rfl
theorem w_370 : (.classLink "java/util/Arrays" 2 "java/lang/Object" : Cond) ∈ TB := TB_mem (List.mem_of_getElem? (i := 370) (by decide +kernel)) rfl
theorem w_371 : (.methodLink "java/util/Arrays" 304 ⟨"java/lang/Math", "min", "(II)I"⟩ : Cond) ∈ TB := TB_mem (List.mem_of_getElem? (i := 371) (by decide +kernel)) rfl
theorem w_372 : (.methodLink "java/util/Arrays" 150 ⟨"java/lang/System", "arraycopy", "(Ljava/lang/Object;ILjava/lang/Object;II)V"⟩ : Cond) ∈ TB := TB_mem (List.mem_of_getElem? (i := 372) (by decide +kernel)) rfl
theorem w_373 : (.static ⟨"java/lang/System", "arraycopy", "(Ljava/lang/Object;ILjava/lang/Object;II)V"⟩ : Cond) ∈ TB := TB_mem (List.mem_of_getElem? (i := 373) (by decide +kernel)) rfl
theorem w_374 : (.native ⟨"java/lang/System", "arraycopy", "(Ljava/lang/Object;ILjava/lang/Object;II)V"⟩ : Cond) ∈ TB := TB_mem (List.mem_of_getElem? (i := 374) (by decide +kernel)) rfl
theorem w_375 : (.methodLink "java/util/ArrayList" 79 ⟨"java/lang/Math", "max", "(II)I"⟩ : Cond) ∈ TB := TB_mem (List.mem_of_getElem? (i := 375) (by decide +kernel)) rfl
theorem w_376 : (.classLink "java/util/ArrayList" 7 "java/lang/Object" : Cond) ∈ TB := TB_mem (List.mem_of_getElem? (i := 376) (by decide +kernel)) rfl
theorem w_377 : (.methodLink "VowCourtLaw" 126 ⟨"VowCourtLaw", "rite", "(LVowCourt;II[J)I"⟩ : Cond) ∈ TB := TB_mem (List.mem_of_getElem? (i := 377) (by decide +kernel)) rfl
theorem w_378 : (.static ⟨"VowCourtLaw", "rite", "(LVowCourt;II[J)I"⟩ : Cond) ∈ TB := TB_mem (List.mem_of_getElem? (i := 378) (by decide +kernel)) rfl
theorem w_380 : (.methodLink "VowCourtLaw" 19 ⟨"VowCourt", "rite", "(II)I"⟩ : Cond) ∈ TB := TB_mem (List.mem_of_getElem? (i := 380) (by decide +kernel)) rfl
theorem w_381 : (.instanceMethod ⟨"VowCourt", "rite", "(II)I"⟩ : Cond) ∈ TB := TB_mem (List.mem_of_getElem? (i := 381) (by decide +kernel)) rfl
theorem w_382 : (.selects "VowCourt" ⟨"VowCourt", "rite", "(II)I"⟩ ⟨"VowCourt", "rite", "(II)I"⟩ : Cond) ∈ TB := TB_mem (List.mem_of_getElem? (i := 382) (by decide +kernel)) rfl
theorem w_383 : (.code yX4_rite cX4_rite 5 (some .int) : Cond) ∈ TB := TB_mem (List.mem_of_getElem? (i := 383) (by decide +kernel)) rfl
theorem w_384 : (.methodLink "VowCourt" 80 ⟨"VowCourt", "personAt", "(I)LVowCourt$Person;"⟩ : Cond) ∈ TB := TB_mem (List.mem_of_getElem? (i := 384) (by decide +kernel)) rfl
theorem w_386 : (.instanceMethod ⟨"VowCourt", "personAt", "(I)LVowCourt$Person;"⟩ : Cond) ∈ TB := TB_mem (List.mem_of_getElem? (i := 386) (by decide +kernel)) rfl
theorem w_387 : (.code yX4_personAt cX4_personAt 2 (some (.object "VowCourt$Person")) : Cond) ∈ TB := TB_mem (List.mem_of_getElem? (i := 387) (by decide +kernel)) rfl
theorem w_388 : (.methodLink "VowCourt" 253 ⟨"java/util/ArrayList", "get", "(I)Ljava/lang/Object;"⟩ : Cond) ∈ TB := TB_mem (List.mem_of_getElem? (i := 388) (by decide +kernel)) rfl
theorem w_389 : (.instanceMethod ⟨"java/util/ArrayList", "get", "(I)Ljava/lang/Object;"⟩ : Cond) ∈ TB := TB_mem (List.mem_of_getElem? (i := 389) (by decide +kernel)) rfl
theorem w_390 : (.selects "java/util/ArrayList" ⟨"java/util/ArrayList", "get", "(I)Ljava/lang/Object;"⟩ ⟨"java/util/ArrayList", "get", "(I)Ljava/lang/Object;"⟩ : Cond) ∈ TB := TB_mem (List.mem_of_getElem? (i := 390) (by decide +kernel)) rfl
theorem w_391 : (.code yJx4a65c_get_915e3 cJx4a65c_get_915e3 2 (some (.object "java/lang/Object")) : Cond) ∈ TB := TB_mem (List.mem_of_getElem? (i := 391) (by decide +kernel)) rfl
theorem w_392 : (.methodLink "java/util/ArrayList" 118 ⟨"java/util/Objects", "checkIndex", "(II)I"⟩ : Cond) ∈ TB := TB_mem (List.mem_of_getElem? (i := 392) (by decide +kernel)) rfl
theorem w_393 : (.static ⟨"java/util/Objects", "checkIndex", "(II)I"⟩ : Cond) ∈ TB := TB_mem (List.mem_of_getElem? (i := 393) (by decide +kernel)) rfl
theorem w_394 : (.code yJ15_checkIndex_7cf53 cJ15_checkIndex_7cf53 2 (some .int) : Cond) ∈ TB := TB_mem (List.mem_of_getElem? (i := 394) (by decide +kernel)) rfl
theorem w_395 : (.methodLink "java/util/Objects" 105 ⟨"jdk/internal/util/Preconditions", "checkIndex", "(IILjava/util/function/BiFunction;)I"⟩ : Cond) ∈ TB := TB_mem (List.mem_of_getElem? (i := 395) (by decide +kernel)) rfl
theorem w_396 : (.static ⟨"jdk/internal/util/Preconditions", "checkIndex", "(IILjava/util/function/BiFunction;)I"⟩ : Cond) ∈ TB := TB_mem (List.mem_of_getElem? (i := 396) (by decide +kernel)) rfl
theorem w_397 : (.code yJ3_checkIndex_8e157 cJ3_checkIndex_8e157 3 (some .int) : Cond) ∈ TB := TB_mem (List.mem_of_getElem? (i := 397) (by decide +kernel)) rfl
theorem w_398 : (.methodLink "java/util/ArrayList" 123 ⟨"java/util/ArrayList", "elementData", "(I)Ljava/lang/Object;"⟩ : Cond) ∈ TB := TB_mem (List.mem_of_getElem? (i := 398) (by decide +kernel)) rfl
theorem w_399 : (.instanceMethod ⟨"java/util/ArrayList", "elementData", "(I)Ljava/lang/Object;"⟩ : Cond) ∈ TB := TB_mem (List.mem_of_getElem? (i := 399) (by decide +kernel)) rfl
theorem w_400 : (.selects "java/util/ArrayList" ⟨"java/util/ArrayList", "elementData", "(I)Ljava/lang/Object;"⟩ ⟨"java/util/ArrayList", "elementData", "(I)Ljava/lang/Object;"⟩ : Cond) ∈ TB := TB_mem (List.mem_of_getElem? (i := 400) (by decide +kernel)) rfl
theorem w_401 : (.code yJx4a65c_elementData_915e3 cJx4a65c_elementData_915e3 2 (some (.object "java/lang/Object")) : Cond) ∈ TB := TB_mem (List.mem_of_getElem? (i := 401) (by decide +kernel)) rfl
theorem w_402 : (.methodLink "VowCourtLaw" 130 ⟨"VowCourtLaw", "home", "(LVowCourt;II[J)I"⟩ : Cond) ∈ TB := TB_mem (List.mem_of_getElem? (i := 402) (by decide +kernel)) rfl
theorem w_403 : (.static ⟨"VowCourtLaw", "home", "(LVowCourt;II[J)I"⟩ : Cond) ∈ TB := TB_mem (List.mem_of_getElem? (i := 403) (by decide +kernel)) rfl
theorem w_405 : (.methodLink "VowCourtLaw" 23 ⟨"VowCourt", "home", "(II)I"⟩ : Cond) ∈ TB := TB_mem (List.mem_of_getElem? (i := 405) (by decide +kernel)) rfl
theorem w_406 : (.instanceMethod ⟨"VowCourt", "home", "(II)I"⟩ : Cond) ∈ TB := TB_mem (List.mem_of_getElem? (i := 406) (by decide +kernel)) rfl
theorem w_407 : (.selects "VowCourt" ⟨"VowCourt", "home", "(II)I"⟩ ⟨"VowCourt", "home", "(II)I"⟩ : Cond) ∈ TB := TB_mem (List.mem_of_getElem? (i := 407) (by decide +kernel)) rfl
theorem w_408 : (.code yX4_home cX4_home 5 (some .int) : Cond) ∈ TB := TB_mem (List.mem_of_getElem? (i := 408) (by decide +kernel)) rfl
theorem w_409 : (.methodLink "VowCourtLaw" 133 ⟨"VowCourtLaw", "order", "(LVowCourt;I)I"⟩ : Cond) ∈ TB := TB_mem (List.mem_of_getElem? (i := 409) (by decide +kernel)) rfl
theorem w_410 : (.static ⟨"VowCourtLaw", "order", "(LVowCourt;I)I"⟩ : Cond) ∈ TB := TB_mem (List.mem_of_getElem? (i := 410) (by decide +kernel)) rfl
theorem w_412 : (.methodLink "VowCourtLaw" 26 ⟨"VowCourt", "order", "(I)V"⟩ : Cond) ∈ TB := TB_mem (List.mem_of_getElem? (i := 412) (by decide +kernel)) rfl
theorem w_413 : (.instanceMethod ⟨"VowCourt", "order", "(I)V"⟩ : Cond) ∈ TB := TB_mem (List.mem_of_getElem? (i := 413) (by decide +kernel)) rfl
theorem w_414 : (.selects "VowCourt" ⟨"VowCourt", "order", "(I)V"⟩ ⟨"VowCourt", "order", "(I)V"⟩ : Cond) ∈ TB := TB_mem (List.mem_of_getElem? (i := 414) (by decide +kernel)) rfl
theorem w_415 : (.code yX4_order cX4_order 3 none : Cond) ∈ TB := TB_mem (List.mem_of_getElem? (i := 415) (by decide +kernel)) rfl
theorem w_416 : (.methodLink "VowCourtLaw" 137 ⟨"VowCourtLaw", "ban", "(LVowCourt;I[J)I"⟩ : Cond) ∈ TB := TB_mem (List.mem_of_getElem? (i := 416) (by decide +kernel)) rfl
theorem w_417 : (.static ⟨"VowCourtLaw", "ban", "(LVowCourt;I[J)I"⟩ : Cond) ∈ TB := TB_mem (List.mem_of_getElem? (i := 417) (by decide +kernel)) rfl
theorem w_419 : (.methodLink "VowCourtLaw" 30 ⟨"VowCourt", "ban", "(I)Z"⟩ : Cond) ∈ TB := TB_mem (List.mem_of_getElem? (i := 419) (by decide +kernel)) rfl
theorem w_420 : (.instanceMethod ⟨"VowCourt", "ban", "(I)Z"⟩ : Cond) ∈ TB := TB_mem (List.mem_of_getElem? (i := 420) (by decide +kernel)) rfl
theorem w_421 : (.selects "VowCourt" ⟨"VowCourt", "ban", "(I)Z"⟩ ⟨"VowCourt", "ban", "(I)Z"⟩ : Cond) ∈ TB := TB_mem (List.mem_of_getElem? (i := 421) (by decide +kernel)) rfl
theorem w_422 : (.code yX4_ban cX4_ban 3 (some .boolean) : Cond) ∈ TB := TB_mem (List.mem_of_getElem? (i := 422) (by decide +kernel)) rfl
theorem w_423 : (.methodLink "VowCourtLaw" 141 ⟨"VowCourtLaw", "die", "(LVowCourt;I[J)I"⟩ : Cond) ∈ TB := TB_mem (List.mem_of_getElem? (i := 423) (by decide +kernel)) rfl
theorem w_424 : (.static ⟨"VowCourtLaw", "die", "(LVowCourt;I[J)I"⟩ : Cond) ∈ TB := TB_mem (List.mem_of_getElem? (i := 424) (by decide +kernel)) rfl
theorem w_426 : (.methodLink "VowCourtLaw" 34 ⟨"VowCourt", "die", "(I)I"⟩ : Cond) ∈ TB := TB_mem (List.mem_of_getElem? (i := 426) (by decide +kernel)) rfl
theorem w_427 : (.instanceMethod ⟨"VowCourt", "die", "(I)I"⟩ : Cond) ∈ TB := TB_mem (List.mem_of_getElem? (i := 427) (by decide +kernel)) rfl
theorem w_428 : (.selects "VowCourt" ⟨"VowCourt", "die", "(I)I"⟩ ⟨"VowCourt", "die", "(I)I"⟩ : Cond) ∈ TB := TB_mem (List.mem_of_getElem? (i := 428) (by decide +kernel)) rfl
theorem w_429 : (.code yX4_die cX4_die 3 (some .int) : Cond) ∈ TB := TB_mem (List.mem_of_getElem? (i := 429) (by decide +kernel)) rfl
theorem w_430 : (.methodLink "VowCourt" 100 ⟨"VowCourt", "endVowsOf", "(I)I"⟩ : Cond) ∈ TB := TB_mem (List.mem_of_getElem? (i := 430) (by decide +kernel)) rfl
theorem w_432 : (.instanceMethod ⟨"VowCourt", "endVowsOf", "(I)I"⟩ : Cond) ∈ TB := TB_mem (List.mem_of_getElem? (i := 432) (by decide +kernel)) rfl
theorem w_433 : (.code yX4_endVowsOf cX4_endVowsOf 5 (some .int) : Cond) ∈ TB := TB_mem (List.mem_of_getElem? (i := 433) (by decide +kernel)) rfl
theorem w_434 : (.classLink "VowCourt" 119 "VowCourt$Vow" : Cond) ∈ TB := TB_mem (List.mem_of_getElem? (i := 434) (by decide +kernel)) rfl
theorem w_435 : (.methodLink "VowCourt" 277 ⟨"VowCourt$Vow", "isOf", "(I)Z"⟩ : Cond) ∈ TB := TB_mem (List.mem_of_getElem? (i := 435) (by decide +kernel)) rfl
theorem w_436 : (.instanceMethod ⟨"VowCourt$Vow", "isOf", "(I)Z"⟩ : Cond) ∈ TB := TB_mem (List.mem_of_getElem? (i := 436) (by decide +kernel)) rfl
theorem w_437 : (.selects "VowCourt$Vow" ⟨"VowCourt$Vow", "isOf", "(I)Z"⟩ ⟨"VowCourt$Vow", "isOf", "(I)Z"⟩ : Cond) ∈ TB := TB_mem (List.mem_of_getElem? (i := 437) (by decide +kernel)) rfl
theorem w_438 : (.code yX3_isOf cX3_isOf 2 (some .boolean) : Cond) ∈ TB := TB_mem (List.mem_of_getElem? (i := 438) (by decide +kernel)) rfl
theorem w_439 : (.methodLink "VowCourt" 140 ⟨"VowCourt$Vow", "turn", "(II)V"⟩ : Cond) ∈ TB := TB_mem (List.mem_of_getElem? (i := 439) (by decide +kernel)) rfl
theorem w_440 : (.instanceMethod ⟨"VowCourt$Vow", "turn", "(II)V"⟩ : Cond) ∈ TB := TB_mem (List.mem_of_getElem? (i := 440) (by decide +kernel)) rfl
theorem w_441 : (.selects "VowCourt$Vow" ⟨"VowCourt$Vow", "turn", "(II)V"⟩ ⟨"VowCourt$Vow", "turn", "(II)V"⟩ : Cond) ∈ TB := TB_mem (List.mem_of_getElem? (i := 441) (by decide +kernel)) rfl
theorem w_442 : (.code yX3_turn cX3_turn 3 none : Cond) ∈ TB := TB_mem (List.mem_of_getElem? (i := 442) (by decide +kernel)) rfl
theorem w_443 : (.methodLink "VowCourtLaw" 144 ⟨"VowCourtLaw", "dispense", "(LVowCourt;III)I"⟩ : Cond) ∈ TB := TB_mem (List.mem_of_getElem? (i := 443) (by decide +kernel)) rfl
theorem w_444 : (.static ⟨"VowCourtLaw", "dispense", "(LVowCourt;III)I"⟩ : Cond) ∈ TB := TB_mem (List.mem_of_getElem? (i := 444) (by decide +kernel)) rfl
theorem w_446 : (.methodLink "VowCourtLaw" 38 ⟨"VowCourt", "dispense", "(III)V"⟩ : Cond) ∈ TB := TB_mem (List.mem_of_getElem? (i := 446) (by decide +kernel)) rfl
theorem w_447 : (.instanceMethod ⟨"VowCourt", "dispense", "(III)V"⟩ : Cond) ∈ TB := TB_mem (List.mem_of_getElem? (i := 447) (by decide +kernel)) rfl
theorem w_448 : (.selects "VowCourt" ⟨"VowCourt", "dispense", "(III)V"⟩ ⟨"VowCourt", "dispense", "(III)V"⟩ : Cond) ∈ TB := TB_mem (List.mem_of_getElem? (i := 448) (by decide +kernel)) rfl
theorem w_449 : (.code yX4_dispense cX4_dispense 4 none : Cond) ∈ TB := TB_mem (List.mem_of_getElem? (i := 449) (by decide +kernel)) rfl
theorem w_450 : (.methodLink "VowCourt" 104 ⟨"VowCourt", "lastingHindrances", "(II)I"⟩ : Cond) ∈ TB := TB_mem (List.mem_of_getElem? (i := 450) (by decide +kernel)) rfl
theorem w_452 : (.instanceMethod ⟨"VowCourt", "lastingHindrances", "(II)I"⟩ : Cond) ∈ TB := TB_mem (List.mem_of_getElem? (i := 452) (by decide +kernel)) rfl
theorem w_453 : (.code yX4_lastingHindrances cX4_lastingHindrances 4 (some .int) : Cond) ∈ TB := TB_mem (List.mem_of_getElem? (i := 453) (by decide +kernel)) rfl
theorem w_454 : (.methodLink "VowCourt" 257 ⟨"VowCourt", "ageOfYounger", "(II)I"⟩ : Cond) ∈ TB := TB_mem (List.mem_of_getElem? (i := 454) (by decide +kernel)) rfl
theorem w_456 : (.instanceMethod ⟨"VowCourt", "ageOfYounger", "(II)I"⟩ : Cond) ∈ TB := TB_mem (List.mem_of_getElem? (i := 456) (by decide +kernel)) rfl
theorem w_457 : (.code yX4_ageOfYounger cX4_ageOfYounger 3 (some .int) : Cond) ∈ TB := TB_mem (List.mem_of_getElem? (i := 457) (by decide +kernel)) rfl
theorem w_458 : (.methodLink "VowCourt" 263 ⟨"java/lang/Math", "max", "(II)I"⟩ : Cond) ∈ TB := TB_mem (List.mem_of_getElem? (i := 458) (by decide +kernel)) rfl
theorem w_459 : (.methodLink "VowCourt" 196 ⟨"VowCourt$Lines", "inLine", "(II)Z"⟩ : Cond) ∈ TB := TB_mem (List.mem_of_getElem? (i := 459) (by decide +kernel)) rfl
theorem w_460 : (.instanceMethod ⟨"VowCourt$Lines", "inLine", "(II)Z"⟩ : Cond) ∈ TB := TB_mem (List.mem_of_getElem? (i := 460) (by decide +kernel)) rfl
theorem w_461 : (.selects "VowCourt$Lines" ⟨"VowCourt$Lines", "inLine", "(II)Z"⟩ ⟨"VowCourt$Lines", "inLine", "(II)Z"⟩ : Cond) ∈ TB := TB_mem (List.mem_of_getElem? (i := 461) (by decide +kernel)) rfl
theorem w_462 : (.code yX1_inLine cX1_inLine 4 (some .boolean) : Cond) ∈ TB := TB_mem (List.mem_of_getElem? (i := 462) (by decide +kernel)) rfl
theorem w_463 : (.methodLink "VowCourt$Lines" 31 ⟨"VowCourt$Lines", "degree", "(II)I"⟩ : Cond) ∈ TB := TB_mem (List.mem_of_getElem? (i := 463) (by decide +kernel)) rfl
theorem w_464 : (.instanceMethod ⟨"VowCourt$Lines", "degree", "(II)I"⟩ : Cond) ∈ TB := TB_mem (List.mem_of_getElem? (i := 464) (by decide +kernel)) rfl
theorem w_465 : (.selects "VowCourt$Lines" ⟨"VowCourt$Lines", "degree", "(II)I"⟩ ⟨"VowCourt$Lines", "degree", "(II)I"⟩ : Cond) ∈ TB := TB_mem (List.mem_of_getElem? (i := 465) (by decide +kernel)) rfl
theorem w_466 : (.code yX1_degree cX1_degree 5 (some .int) : Cond) ∈ TB := TB_mem (List.mem_of_getElem? (i := 466) (by decide +kernel)) rfl
theorem w_467 : (.methodLink "VowCourt" 193 ⟨"VowCourt$Lines", "degree", "(II)I"⟩ : Cond) ∈ TB := TB_mem (List.mem_of_getElem? (i := 467) (by decide +kernel)) rfl
theorem w_468 : (.methodLink "VowCourt" 108 ⟨"VowCourt", "canBeDispensed", "(III)Z"⟩ : Cond) ∈ TB := TB_mem (List.mem_of_getElem? (i := 468) (by decide +kernel)) rfl
theorem w_470 : (.instanceMethod ⟨"VowCourt", "canBeDispensed", "(III)Z"⟩ : Cond) ∈ TB := TB_mem (List.mem_of_getElem? (i := 470) (by decide +kernel)) rfl
theorem w_471 : (.code yX4_canBeDispensed cX4_canBeDispensed 4 (some .boolean) : Cond) ∈ TB := TB_mem (List.mem_of_getElem? (i := 471) (by decide +kernel)) rfl
theorem w_472 : (.methodLink "VowCourtLaw" 148 ⟨"VowCourtLaw", "faculty", "(LVowCourt;III)I"⟩ : Cond) ∈ TB := TB_mem (List.mem_of_getElem? (i := 472) (by decide +kernel)) rfl
theorem w_473 : (.static ⟨"VowCourtLaw", "faculty", "(LVowCourt;III)I"⟩ : Cond) ∈ TB := TB_mem (List.mem_of_getElem? (i := 473) (by decide +kernel)) rfl
theorem w_475 : (.methodLink "VowCourtLaw" 42 ⟨"VowCourt", "faculty", "(III)V"⟩ : Cond) ∈ TB := TB_mem (List.mem_of_getElem? (i := 475) (by decide +kernel)) rfl
theorem w_476 : (.instanceMethod ⟨"VowCourt", "faculty", "(III)V"⟩ : Cond) ∈ TB := TB_mem (List.mem_of_getElem? (i := 476) (by decide +kernel)) rfl
theorem w_477 : (.selects "VowCourt" ⟨"VowCourt", "faculty", "(III)V"⟩ ⟨"VowCourt", "faculty", "(III)V"⟩ : Cond) ∈ TB := TB_mem (List.mem_of_getElem? (i := 477) (by decide +kernel)) rfl
theorem w_478 : (.code yX4_faculty cX4_faculty 4 none : Cond) ∈ TB := TB_mem (List.mem_of_getElem? (i := 478) (by decide +kernel)) rfl
theorem w_479 : (.methodLink "VowCourt" 112 ⟨"VowCourt", "isWitness", "(I)Z"⟩ : Cond) ∈ TB := TB_mem (List.mem_of_getElem? (i := 479) (by decide +kernel)) rfl
theorem w_480 : (.static ⟨"VowCourt", "isWitness", "(I)Z"⟩ : Cond) ∈ TB := TB_mem (List.mem_of_getElem? (i := 480) (by decide +kernel)) rfl
theorem w_481 : (.code yX4_isWitness cX4_isWitness 1 (some .boolean) : Cond) ∈ TB := TB_mem (List.mem_of_getElem? (i := 481) (by decide +kernel)) rfl
theorem w_482 : (.methodLink "VowCourtLaw" 151 ⟨"VowCourtLaw", "error", "(LVowCourt;I[J)I"⟩ : Cond) ∈ TB := TB_mem (List.mem_of_getElem? (i := 482) (by decide +kernel)) rfl
theorem w_483 : (.static ⟨"VowCourtLaw", "error", "(LVowCourt;I[J)I"⟩ : Cond) ∈ TB := TB_mem (List.mem_of_getElem? (i := 483) (by decide +kernel)) rfl
theorem w_485 : (.methodLink "VowCourtLaw" 45 ⟨"VowCourt", "error", "(I)Z"⟩ : Cond) ∈ TB := TB_mem (List.mem_of_getElem? (i := 485) (by decide +kernel)) rfl
theorem w_486 : (.instanceMethod ⟨"VowCourt", "error", "(I)Z"⟩ : Cond) ∈ TB := TB_mem (List.mem_of_getElem? (i := 486) (by decide +kernel)) rfl
theorem w_487 : (.selects "VowCourt" ⟨"VowCourt", "error", "(I)Z"⟩ ⟨"VowCourt", "error", "(I)Z"⟩ : Cond) ∈ TB := TB_mem (List.mem_of_getElem? (i := 487) (by decide +kernel)) rfl
theorem w_488 : (.code yX4_error cX4_error 2 (some .boolean) : Cond) ∈ TB := TB_mem (List.mem_of_getElem? (i := 488) (by decide +kernel)) rfl
theorem w_489 : (.methodLink "VowCourtLaw" 154 ⟨"VowCourtLaw", "vow", "(LVowCourt;IIII[J)I"⟩ : Cond) ∈ TB := TB_mem (List.mem_of_getElem? (i := 489) (by decide +kernel)) rfl
theorem w_490 : (.static ⟨"VowCourtLaw", "vow", "(LVowCourt;IIII[J)I"⟩ : Cond) ∈ TB := TB_mem (List.mem_of_getElem? (i := 490) (by decide +kernel)) rfl
theorem w_492 : (.methodLink "VowCourtLaw" 48 ⟨"VowCourt", "vow", "(IIII)I"⟩ : Cond) ∈ TB := TB_mem (List.mem_of_getElem? (i := 492) (by decide +kernel)) rfl
theorem w_493 : (.instanceMethod ⟨"VowCourt", "vow", "(IIII)I"⟩ : Cond) ∈ TB := TB_mem (List.mem_of_getElem? (i := 493) (by decide +kernel)) rfl
theorem w_494 : (.selects "VowCourt" ⟨"VowCourt", "vow", "(IIII)I"⟩ ⟨"VowCourt", "vow", "(IIII)I"⟩ : Cond) ∈ TB := TB_mem (List.mem_of_getElem? (i := 494) (by decide +kernel)) rfl
theorem w_495 : (.code yX4_vow cX4_vow 9 (some .int) : Cond) ∈ TB := TB_mem (List.mem_of_getElem? (i := 495) (by decide +kernel)) rfl
theorem w_496 : (.methodLink "VowCourt" 115 ⟨"VowCourt$Person", "mayVow", "()Z"⟩ : Cond) ∈ TB := TB_mem (List.mem_of_getElem? (i := 496) (by decide +kernel)) rfl
theorem w_497 : (.instanceMethod ⟨"VowCourt$Person", "mayVow", "()Z"⟩ : Cond) ∈ TB := TB_mem (List.mem_of_getElem? (i := 497) (by decide +kernel)) rfl
theorem w_498 : (.selects "VowCourt$Person" ⟨"VowCourt$Person", "mayVow", "()Z"⟩ ⟨"VowCourt$Person", "mayVow", "()Z"⟩ : Cond) ∈ TB := TB_mem (List.mem_of_getElem? (i := 498) (by decide +kernel)) rfl
theorem w_499 : (.code yX2_mayVow cX2_mayVow 1 (some .boolean) : Cond) ∈ TB := TB_mem (List.mem_of_getElem? (i := 499) (by decide +kernel)) rfl
theorem w_500 : (.instantiable "VowCourt$Vow" 8 : Cond) ∈ TB := TB_mem (List.mem_of_getElem? (i := 500) (by decide +kernel)) rfl
theorem w_501 : (.methodLink "VowCourt" 121 ⟨"VowCourt$Vow", "<init>", "(IIIIIZ)V"⟩ : Cond) ∈ TB := TB_mem (List.mem_of_getElem? (i := 501) (by decide +kernel)) rfl
theorem w_502 : (.instanceMethod ⟨"VowCourt$Vow", "<init>", "(IIIIIZ)V"⟩ : Cond) ∈ TB := TB_mem (List.mem_of_getElem? (i := 502) (by decide +kernel)) rfl
theorem w_503 : (.code yX3_init cX3_init 7 none : Cond) ∈ TB := TB_mem (List.mem_of_getElem? (i := 503) (by decide +kernel)) rfl
theorem w_504 : (.methodLink "VowCourt$Vow" 3 ⟨"java/lang/Object", "<init>", "()V"⟩ : Cond) ∈ TB := TB_mem (List.mem_of_getElem? (i := 504) (by decide +kernel)) rfl
theorem w_505 : (.fieldLink "VowCourt$Vow" 18 "VowCourt$Vow" "one" "I" : Cond) ∈ TB := TB_mem (List.mem_of_getElem? (i := 505) (by decide +kernel)) rfl
theorem w_506 : (.fieldLink "VowCourt" 268 "VowCourt$Vow" "one" "I" : Cond) ∈ TB := TB_mem (List.mem_of_getElem? (i := 506) (by decide +kernel)) rfl
theorem w_507 : (.fieldLink "VowCourt$Vow" 21 "VowCourt$Vow" "other" "I" : Cond) ∈ TB := TB_mem (List.mem_of_getElem? (i := 507) (by decide +kernel)) rfl
theorem w_508 : (.fieldLink "VowCourt" 271 "VowCourt$Vow" "other" "I" : Cond) ∈ TB := TB_mem (List.mem_of_getElem? (i := 508) (by decide +kernel)) rfl
theorem w_509 : (.fieldLink "VowCourt$Vow" 24 "VowCourt$Vow" "place" "I" : Cond) ∈ TB := TB_mem (List.mem_of_getElem? (i := 509) (by decide +kernel)) rfl
theorem w_510 : (.fieldLink "VowCourt" 209 "VowCourt$Vow" "place" "I" : Cond) ∈ TB := TB_mem (List.mem_of_getElem? (i := 510) (by decide +kernel)) rfl
theorem w_511 : (.fieldLink "VowCourt$Vow" 27 "VowCourt$Vow" "day" "I" : Cond) ∈ TB := TB_mem (List.mem_of_getElem? (i := 511) (by decide +kernel)) rfl
theorem w_512 : (.fieldLink "VowCourt" 203 "VowCourt$Vow" "day" "I" : Cond) ∈ TB := TB_mem (List.mem_of_getElem? (i := 512) (by decide +kernel)) rfl
theorem w_513 : (.fieldLink "VowCourt$Vow" 30 "VowCourt$Vow" "lasting" "I" : Cond) ∈ TB := TB_mem (List.mem_of_getElem? (i := 513) (by decide +kernel)) rfl
theorem w_514 : (.fieldLink "VowCourt" 274 "VowCourt$Vow" "lasting" "I" : Cond) ∈ TB := TB_mem (List.mem_of_getElem? (i := 514) (by decide +kernel)) rfl
theorem w_515 : (.fieldLink "VowCourt$Vow" 33 "VowCourt$Vow" "lacksForm" "Z" : Cond) ∈ TB := TB_mem (List.mem_of_getElem? (i := 515) (by decide +kernel)) rfl
theorem w_516 : (.fieldLink "VowCourt" 131 "VowCourt$Vow" "lacksForm" "Z" : Cond) ∈ TB := TB_mem (List.mem_of_getElem? (i := 516) (by decide +kernel)) rfl
theorem w_517 : (.fieldLink "VowCourt$Vow" 9 "VowCourt$Vow" "status" "I" : Cond) ∈ TB := TB_mem (List.mem_of_getElem? (i := 517) (by decide +kernel)) rfl
theorem w_518 : (.fieldLink "VowCourt" 128 "VowCourt$Vow" "status" "I" : Cond) ∈ TB := TB_mem (List.mem_of_getElem? (i := 518) (by decide +kernel)) rfl
theorem w_519 : (.fieldLink "VowCourt$Vow" 15 "VowCourt$Vow" "turned" "I" : Cond) ∈ TB := TB_mem (List.mem_of_getElem? (i := 519) (by decide +kernel)) rfl
theorem w_520 : (.fieldLink "VowCourt" 206 "VowCourt$Vow" "turned" "I" : Cond) ∈ TB := TB_mem (List.mem_of_getElem? (i := 520) (by decide +kernel)) rfl
theorem w_538 : (.methodLink "VowCourtLaw" 157 ⟨"VowCourtLaw", "heal", "(LVowCourt;I)I"⟩ : Cond) ∈ TB := TB_mem (List.mem_of_getElem? (i := 538) (by decide +kernel)) rfl
theorem w_539 : (.static ⟨"VowCourtLaw", "heal", "(LVowCourt;I)I"⟩ : Cond) ∈ TB := TB_mem (List.mem_of_getElem? (i := 539) (by decide +kernel)) rfl
theorem w_541 : (.methodLink "VowCourtLaw" 51 ⟨"VowCourt", "heal", "(I)V"⟩ : Cond) ∈ TB := TB_mem (List.mem_of_getElem? (i := 541) (by decide +kernel)) rfl
theorem w_542 : (.instanceMethod ⟨"VowCourt", "heal", "(I)V"⟩ : Cond) ∈ TB := TB_mem (List.mem_of_getElem? (i := 542) (by decide +kernel)) rfl
theorem w_543 : (.selects "VowCourt" ⟨"VowCourt", "heal", "(I)V"⟩ ⟨"VowCourt", "heal", "(I)V"⟩ : Cond) ∈ TB := TB_mem (List.mem_of_getElem? (i := 543) (by decide +kernel)) rfl
theorem w_544 : (.code yX4_heal cX4_heal 3 none : Cond) ∈ TB := TB_mem (List.mem_of_getElem? (i := 544) (by decide +kernel)) rfl
theorem w_545 : (.methodLink "VowCourt" 124 ⟨"VowCourt", "vowAt", "(I)LVowCourt$Vow;"⟩ : Cond) ∈ TB := TB_mem (List.mem_of_getElem? (i := 545) (by decide +kernel)) rfl
theorem w_547 : (.instanceMethod ⟨"VowCourt", "vowAt", "(I)LVowCourt$Vow;"⟩ : Cond) ∈ TB := TB_mem (List.mem_of_getElem? (i := 547) (by decide +kernel)) rfl
theorem w_548 : (.code yX4_vowAt cX4_vowAt 2 (some (.object "VowCourt$Vow")) : Cond) ∈ TB := TB_mem (List.mem_of_getElem? (i := 548) (by decide +kernel)) rfl
theorem w_549 : (.methodLink "VowCourt" 134 ⟨"VowCourt", "hindrances", "(I)I"⟩ : Cond) ∈ TB := TB_mem (List.mem_of_getElem? (i := 549) (by decide +kernel)) rfl
theorem w_551 : (.instanceMethod ⟨"VowCourt", "hindrances", "(I)I"⟩ : Cond) ∈ TB := TB_mem (List.mem_of_getElem? (i := 551) (by decide +kernel)) rfl
theorem w_552 : (.code yX4_hindrances cX4_hindrances 4 (some .int) : Cond) ∈ TB := TB_mem (List.mem_of_getElem? (i := 552) (by decide +kernel)) rfl
theorem w_553 : (.methodLink "VowCourt" 215 ⟨"VowCourt", "lowestBond", "(III)I"⟩ : Cond) ∈ TB := TB_mem (List.mem_of_getElem? (i := 553) (by decide +kernel)) rfl
theorem w_555 : (.instanceMethod ⟨"VowCourt", "lowestBond", "(III)I"⟩ : Cond) ∈ TB := TB_mem (List.mem_of_getElem? (i := 555) (by decide +kernel)) rfl
theorem w_556 : (.code yX4_lowestBond cX4_lowestBond 6 (some .int) : Cond) ∈ TB := TB_mem (List.mem_of_getElem? (i := 556) (by decide +kernel)) rfl
theorem w_557 : (.methodLink "VowCourt" 280 ⟨"VowCourt$Vow", "bindsOn", "(I)Z"⟩ : Cond) ∈ TB := TB_mem (List.mem_of_getElem? (i := 557) (by decide +kernel)) rfl
theorem w_558 : (.instanceMethod ⟨"VowCourt$Vow", "bindsOn", "(I)Z"⟩ : Cond) ∈ TB := TB_mem (List.mem_of_getElem? (i := 558) (by decide +kernel)) rfl
theorem w_559 : (.selects "VowCourt$Vow" ⟨"VowCourt$Vow", "bindsOn", "(I)Z"⟩ ⟨"VowCourt$Vow", "bindsOn", "(I)Z"⟩ : Cond) ∈ TB := TB_mem (List.mem_of_getElem? (i := 559) (by decide +kernel)) rfl
theorem w_560 : (.code yX3_bindsOn cX3_bindsOn 2 (some .boolean) : Cond) ∈ TB := TB_mem (List.mem_of_getElem? (i := 560) (by decide +kernel)) rfl
theorem w_561 : (.methodLink "VowCourtLaw" 160 ⟨"VowCourtLaw", "grace", "(LVowCourt;I)I"⟩ : Cond) ∈ TB := TB_mem (List.mem_of_getElem? (i := 561) (by decide +kernel)) rfl
theorem w_562 : (.static ⟨"VowCourtLaw", "grace", "(LVowCourt;I)I"⟩ : Cond) ∈ TB := TB_mem (List.mem_of_getElem? (i := 562) (by decide +kernel)) rfl
theorem w_564 : (.methodLink "VowCourtLaw" 54 ⟨"VowCourt", "grace", "(I)V"⟩ : Cond) ∈ TB := TB_mem (List.mem_of_getElem? (i := 564) (by decide +kernel)) rfl
theorem w_565 : (.instanceMethod ⟨"VowCourt", "grace", "(I)V"⟩ : Cond) ∈ TB := TB_mem (List.mem_of_getElem? (i := 565) (by decide +kernel)) rfl
theorem w_566 : (.selects "VowCourt" ⟨"VowCourt", "grace", "(I)V"⟩ ⟨"VowCourt", "grace", "(I)V"⟩ : Cond) ∈ TB := TB_mem (List.mem_of_getElem? (i := 566) (by decide +kernel)) rfl
theorem w_567 : (.code yX4_grace cX4_grace 3 none : Cond) ∈ TB := TB_mem (List.mem_of_getElem? (i := 567) (by decide +kernel)) rfl
theorem w_568 : (.methodLink "VowCourt" 137 ⟨"VowCourt", "isInCourt", "(I)Z"⟩ : Cond) ∈ TB := TB_mem (List.mem_of_getElem? (i := 568) (by decide +kernel)) rfl
theorem w_570 : (.instanceMethod ⟨"VowCourt", "isInCourt", "(I)Z"⟩ : Cond) ∈ TB := TB_mem (List.mem_of_getElem? (i := 570) (by decide +kernel)) rfl
theorem w_571 : (.code yX4_isInCourt cX4_isInCourt 4 (some .boolean) : Cond) ∈ TB := TB_mem (List.mem_of_getElem? (i := 571) (by decide +kernel)) rfl
theorem w_572 : (.classLink "VowCourt" 153 "VowCourt$Cause" : Cond) ∈ TB := TB_mem (List.mem_of_getElem? (i := 572) (by decide +kernel)) rfl
theorem w_573 : (.methodLink "VowCourt" 283 ⟨"VowCourt$Cause", "isOver", "()Z"⟩ : Cond) ∈ TB := TB_mem (List.mem_of_getElem? (i := 573) (by decide +kernel)) rfl
theorem w_574 : (.instanceMethod ⟨"VowCourt$Cause", "isOver", "()Z"⟩ : Cond) ∈ TB := TB_mem (List.mem_of_getElem? (i := 574) (by decide +kernel)) rfl
theorem w_575 : (.selects "VowCourt$Cause" ⟨"VowCourt$Cause", "isOver", "()Z"⟩ ⟨"VowCourt$Cause", "isOver", "()Z"⟩ : Cond) ∈ TB := TB_mem (List.mem_of_getElem? (i := 575) (by decide +kernel)) rfl
theorem w_576 : (.code yX0_isOver cX0_isOver 1 (some .boolean) : Cond) ∈ TB := TB_mem (List.mem_of_getElem? (i := 576) (by decide +kernel)) rfl
theorem w_577 : (.methodLink "VowCourtLaw" 163 ⟨"VowCourtLaw", "documents", "(LVowCourt;I[J)I"⟩ : Cond) ∈ TB := TB_mem (List.mem_of_getElem? (i := 577) (by decide +kernel)) rfl
theorem w_578 : (.static ⟨"VowCourtLaw", "documents", "(LVowCourt;I[J)I"⟩ : Cond) ∈ TB := TB_mem (List.mem_of_getElem? (i := 578) (by decide +kernel)) rfl
theorem w_580 : (.methodLink "VowCourtLaw" 57 ⟨"VowCourt", "documents", "(I)I"⟩ : Cond) ∈ TB := TB_mem (List.mem_of_getElem? (i := 580) (by decide +kernel)) rfl
theorem w_581 : (.instanceMethod ⟨"VowCourt", "documents", "(I)I"⟩ : Cond) ∈ TB := TB_mem (List.mem_of_getElem? (i := 581) (by decide +kernel)) rfl
theorem w_582 : (.selects "VowCourt" ⟨"VowCourt", "documents", "(I)I"⟩ ⟨"VowCourt", "documents", "(I)I"⟩ : Cond) ∈ TB := TB_mem (List.mem_of_getElem? (i := 582) (by decide +kernel)) rfl
theorem w_583 : (.code yX4_documents cX4_documents 4 (some .int) : Cond) ∈ TB := TB_mem (List.mem_of_getElem? (i := 583) (by decide +kernel)) rfl
theorem w_584 : (.methodLink "VowCourt" 143 ⟨"VowCourt", "mayBeJudged", "(I)Z"⟩ : Cond) ∈ TB := TB_mem (List.mem_of_getElem? (i := 584) (by decide +kernel)) rfl
theorem w_586 : (.instanceMethod ⟨"VowCourt", "mayBeJudged", "(I)Z"⟩ : Cond) ∈ TB := TB_mem (List.mem_of_getElem? (i := 586) (by decide +kernel)) rfl
theorem w_587 : (.code yX4_mayBeJudged cX4_mayBeJudged 3 (some .boolean) : Cond) ∈ TB := TB_mem (List.mem_of_getElem? (i := 587) (by decide +kernel)) rfl
theorem w_588 : (.methodLink "VowCourtLaw" 166 ⟨"VowCourtLaw", "cause", "(LVowCourt;IIIZ[J)I"⟩ : Cond) ∈ TB := TB_mem (List.mem_of_getElem? (i := 588) (by decide +kernel)) rfl
theorem w_589 : (.static ⟨"VowCourtLaw", "cause", "(LVowCourt;IIIZ[J)I"⟩ : Cond) ∈ TB := TB_mem (List.mem_of_getElem? (i := 589) (by decide +kernel)) rfl
theorem w_591 : (.methodLink "VowCourtLaw" 60 ⟨"VowCourt", "cause", "(IIIZ)I"⟩ : Cond) ∈ TB := TB_mem (List.mem_of_getElem? (i := 591) (by decide +kernel)) rfl
theorem w_592 : (.instanceMethod ⟨"VowCourt", "cause", "(IIIZ)I"⟩ : Cond) ∈ TB := TB_mem (List.mem_of_getElem? (i := 592) (by decide +kernel)) rfl
theorem w_593 : (.selects "VowCourt" ⟨"VowCourt", "cause", "(IIIZ)I"⟩ ⟨"VowCourt", "cause", "(IIIZ)I"⟩ : Cond) ∈ TB := TB_mem (List.mem_of_getElem? (i := 593) (by decide +kernel)) rfl
theorem w_594 : (.code yX4_cause cX4_cause 6 (some .int) : Cond) ∈ TB := TB_mem (List.mem_of_getElem? (i := 594) (by decide +kernel)) rfl
theorem w_595 : (.methodLink "VowCourt" 146 ⟨"VowCourt", "isDoubt", "(I)Z"⟩ : Cond) ∈ TB := TB_mem (List.mem_of_getElem? (i := 595) (by decide +kernel)) rfl
theorem w_596 : (.static ⟨"VowCourt", "isDoubt", "(I)Z"⟩ : Cond) ∈ TB := TB_mem (List.mem_of_getElem? (i := 596) (by decide +kernel)) rfl
theorem w_597 : (.code yX4_isDoubt cX4_isDoubt 1 (some .boolean) : Cond) ∈ TB := TB_mem (List.mem_of_getElem? (i := 597) (by decide +kernel)) rfl
theorem w_598 : (.methodLink "VowCourt" 149 ⟨"VowCourt", "isCourtOf", "(LVowCourt$Vow;I)Z"⟩ : Cond) ∈ TB := TB_mem (List.mem_of_getElem? (i := 598) (by decide +kernel)) rfl
theorem w_600 : (.instanceMethod ⟨"VowCourt", "isCourtOf", "(LVowCourt$Vow;I)Z"⟩ : Cond) ∈ TB := TB_mem (List.mem_of_getElem? (i := 600) (by decide +kernel)) rfl
theorem w_601 : (.code yX4_isCourtOf cX4_isCourtOf 3 (some .boolean) : Cond) ∈ TB := TB_mem (List.mem_of_getElem? (i := 601) (by decide +kernel)) rfl
theorem w_602 : (.methodLink "VowCourt" 286 ⟨"VowCourt", "livesAt", "(II)Z"⟩ : Cond) ∈ TB := TB_mem (List.mem_of_getElem? (i := 602) (by decide +kernel)) rfl
theorem w_604 : (.instanceMethod ⟨"VowCourt", "livesAt", "(II)Z"⟩ : Cond) ∈ TB := TB_mem (List.mem_of_getElem? (i := 604) (by decide +kernel)) rfl
theorem w_605 : (.code yX4_livesAt cX4_livesAt 4 (some .boolean) : Cond) ∈ TB := TB_mem (List.mem_of_getElem? (i := 605) (by decide +kernel)) rfl
theorem w_606 : (.instantiable "VowCourt$Cause" 7 : Cond) ∈ TB := TB_mem (List.mem_of_getElem? (i := 606) (by decide +kernel)) rfl
theorem w_607 : (.methodLink "VowCourt" 155 ⟨"VowCourt$Cause", "<init>", "(II)V"⟩ : Cond) ∈ TB := TB_mem (List.mem_of_getElem? (i := 607) (by decide +kernel)) rfl
theorem w_608 : (.instanceMethod ⟨"VowCourt$Cause", "<init>", "(II)V"⟩ : Cond) ∈ TB := TB_mem (List.mem_of_getElem? (i := 608) (by decide +kernel)) rfl
theorem w_609 : (.code yX0_init cX0_init 3 none : Cond) ∈ TB := TB_mem (List.mem_of_getElem? (i := 609) (by decide +kernel)) rfl
theorem w_610 : (.methodLink "VowCourt$Cause" 3 ⟨"java/lang/Object", "<init>", "()V"⟩ : Cond) ∈ TB := TB_mem (List.mem_of_getElem? (i := 610) (by decide +kernel)) rfl
theorem w_611 : (.methodLink "VowCourt$Cause" 34 ⟨"java/util/Arrays", "fill", "([II)V"⟩ : Cond) ∈ TB := TB_mem (List.mem_of_getElem? (i := 611) (by decide +kernel)) rfl
theorem w_612 : (.fieldLink "VowCourt$Cause" 28 "VowCourt$Cause" "vowNumber" "I" : Cond) ∈ TB := TB_mem (List.mem_of_getElem? (i := 612) (by decide +kernel)) rfl
theorem w_613 : (.fieldLink "VowCourt" 187 "VowCourt$Cause" "vowNumber" "I" : Cond) ∈ TB := TB_mem (List.mem_of_getElem? (i := 613) (by decide +kernel)) rfl
theorem w_614 : (.fieldLink "VowCourt$Cause" 31 "VowCourt$Cause" "doubted" "I" : Cond) ∈ TB := TB_mem (List.mem_of_getElem? (i := 614) (by decide +kernel)) rfl
theorem w_615 : (.fieldLink "VowCourt" 164 "VowCourt$Cause" "doubted" "I" : Cond) ∈ TB := TB_mem (List.mem_of_getElem? (i := 615) (by decide +kernel)) rfl
theorem w_616 : (.fieldLink "VowCourt$Cause" 9 "VowCourt$Cause" "status" "I" : Cond) ∈ TB := TB_mem (List.mem_of_getElem? (i := 616) (by decide +kernel)) rfl
theorem w_617 : (.fieldLink "VowCourt" 160 "VowCourt$Cause" "status" "I" : Cond) ∈ TB := TB_mem (List.mem_of_getElem? (i := 617) (by decide +kernel)) rfl
theorem w_618 : (.fieldLink "VowCourt$Cause" 15 "VowCourt$Cause" "instance" "I" : Cond) ∈ TB := TB_mem (List.mem_of_getElem? (i := 618) (by decide +kernel)) rfl
theorem w_619 : (.fieldLink "VowCourt" 161 "VowCourt$Cause" "instance" "I" : Cond) ∈ TB := TB_mem (List.mem_of_getElem? (i := 619) (by decide +kernel)) rfl
theorem w_620 : (.fieldLink "VowCourt$Cause" 18 "VowCourt$Cause" "weights" "[I" : Cond) ∈ TB := TB_mem (List.mem_of_getElem? (i := 620) (by decide +kernel)) rfl
theorem w_621 : (.fieldLink "VowCourt" 167 "VowCourt$Cause" "weights" "[I" : Cond) ∈ TB := TB_mem (List.mem_of_getElem? (i := 621) (by decide +kernel)) rfl
theorem w_622 : (.fieldLink "VowCourt$Cause" 22 "VowCourt$Cause" "votes" "[I" : Cond) ∈ TB := TB_mem (List.mem_of_getElem? (i := 622) (by decide +kernel)) rfl
theorem w_623 : (.fieldLink "VowCourt" 174 "VowCourt$Cause" "votes" "[I" : Cond) ∈ TB := TB_mem (List.mem_of_getElem? (i := 623) (by decide +kernel)) rfl
theorem w_624 : (.fieldLink "VowCourt$Cause" 25 "VowCourt$Cause" "sentences" "[I" : Cond) ∈ TB := TB_mem (List.mem_of_getElem? (i := 624) (by decide +kernel)) rfl
theorem w_625 : (.fieldLink "VowCourt" 219 "VowCourt$Cause" "sentences" "[I" : Cond) ∈ TB := TB_mem (List.mem_of_getElem? (i := 625) (by decide +kernel)) rfl
theorem w_641 : (.methodLink "VowCourtLaw" 170 ⟨"VowCourtLaw", "doubt", "(LVowCourt;II[J)I"⟩ : Cond) ∈ TB := TB_mem (List.mem_of_getElem? (i := 641) (by decide +kernel)) rfl
theorem w_642 : (.static ⟨"VowCourtLaw", "doubt", "(LVowCourt;II[J)I"⟩ : Cond) ∈ TB := TB_mem (List.mem_of_getElem? (i := 642) (by decide +kernel)) rfl
theorem w_644 : (.methodLink "VowCourtLaw" 64 ⟨"VowCourt", "doubt", "(II)I"⟩ : Cond) ∈ TB := TB_mem (List.mem_of_getElem? (i := 644) (by decide +kernel)) rfl
theorem w_645 : (.instanceMethod ⟨"VowCourt", "doubt", "(II)I"⟩ : Cond) ∈ TB := TB_mem (List.mem_of_getElem? (i := 645) (by decide +kernel)) rfl
theorem w_646 : (.selects "VowCourt" ⟨"VowCourt", "doubt", "(II)I"⟩ ⟨"VowCourt", "doubt", "(II)I"⟩ : Cond) ∈ TB := TB_mem (List.mem_of_getElem? (i := 646) (by decide +kernel)) rfl
theorem w_647 : (.code yX4_doubt cX4_doubt 5 (some .int) : Cond) ∈ TB := TB_mem (List.mem_of_getElem? (i := 647) (by decide +kernel)) rfl
theorem w_648 : (.methodLink "VowCourt" 156 ⟨"VowCourt", "causeAt", "(I)LVowCourt$Cause;"⟩ : Cond) ∈ TB := TB_mem (List.mem_of_getElem? (i := 648) (by decide +kernel)) rfl
theorem w_650 : (.instanceMethod ⟨"VowCourt", "causeAt", "(I)LVowCourt$Cause;"⟩ : Cond) ∈ TB := TB_mem (List.mem_of_getElem? (i := 650) (by decide +kernel)) rfl
theorem w_651 : (.code yX4_causeAt cX4_causeAt 2 (some (.object "VowCourt$Cause")) : Cond) ∈ TB := TB_mem (List.mem_of_getElem? (i := 651) (by decide +kernel)) rfl
theorem w_652 : (.methodLink "VowCourtLaw" 173 ⟨"VowCourtLaw", "proof", "(LVowCourt;III[J)I"⟩ : Cond) ∈ TB := TB_mem (List.mem_of_getElem? (i := 652) (by decide +kernel)) rfl
theorem w_653 : (.static ⟨"VowCourtLaw", "proof", "(LVowCourt;III[J)I"⟩ : Cond) ∈ TB := TB_mem (List.mem_of_getElem? (i := 653) (by decide +kernel)) rfl
theorem w_655 : (.methodLink "VowCourtLaw" 67 ⟨"VowCourt", "proof", "(III)I"⟩ : Cond) ∈ TB := TB_mem (List.mem_of_getElem? (i := 655) (by decide +kernel)) rfl
theorem w_656 : (.instanceMethod ⟨"VowCourt", "proof", "(III)I"⟩ : Cond) ∈ TB := TB_mem (List.mem_of_getElem? (i := 656) (by decide +kernel)) rfl
theorem w_657 : (.selects "VowCourt" ⟨"VowCourt", "proof", "(III)I"⟩ ⟨"VowCourt", "proof", "(III)I"⟩ : Cond) ∈ TB := TB_mem (List.mem_of_getElem? (i := 657) (by decide +kernel)) rfl
theorem w_658 : (.code yX4_proof cX4_proof 6 (some .int) : Cond) ∈ TB := TB_mem (List.mem_of_getElem? (i := 658) (by decide +kernel)) rfl
theorem w_659 : (.methodLink "VowCourtLaw" 177 ⟨"VowCourtLaw", "publish", "(LVowCourt;I[J)I"⟩ : Cond) ∈ TB := TB_mem (List.mem_of_getElem? (i := 659) (by decide +kernel)) rfl
theorem w_660 : (.static ⟨"VowCourtLaw", "publish", "(LVowCourt;I[J)I"⟩ : Cond) ∈ TB := TB_mem (List.mem_of_getElem? (i := 660) (by decide +kernel)) rfl
theorem w_662 : (.methodLink "VowCourtLaw" 71 ⟨"VowCourt", "publish", "(I)I"⟩ : Cond) ∈ TB := TB_mem (List.mem_of_getElem? (i := 662) (by decide +kernel)) rfl
theorem w_663 : (.instanceMethod ⟨"VowCourt", "publish", "(I)I"⟩ : Cond) ∈ TB := TB_mem (List.mem_of_getElem? (i := 663) (by decide +kernel)) rfl
theorem w_664 : (.selects "VowCourt" ⟨"VowCourt", "publish", "(I)I"⟩ ⟨"VowCourt", "publish", "(I)I"⟩ : Cond) ∈ TB := TB_mem (List.mem_of_getElem? (i := 664) (by decide +kernel)) rfl
theorem w_665 : (.code yX4_publish cX4_publish 3 (some .int) : Cond) ∈ TB := TB_mem (List.mem_of_getElem? (i := 665) (by decide +kernel)) rfl
theorem w_666 : (.methodLink "VowCourt" 171 ⟨"VowCourt$Cause", "provedGrounds", "()I"⟩ : Cond) ∈ TB := TB_mem (List.mem_of_getElem? (i := 666) (by decide +kernel)) rfl
theorem w_667 : (.instanceMethod ⟨"VowCourt$Cause", "provedGrounds", "()I"⟩ : Cond) ∈ TB := TB_mem (List.mem_of_getElem? (i := 667) (by decide +kernel)) rfl
theorem w_668 : (.selects "VowCourt$Cause" ⟨"VowCourt$Cause", "provedGrounds", "()I"⟩ ⟨"VowCourt$Cause", "provedGrounds", "()I"⟩ : Cond) ∈ TB := TB_mem (List.mem_of_getElem? (i := 668) (by decide +kernel)) rfl
theorem w_669 : (.code yX0_provedGrounds cX0_provedGrounds 3 (some .int) : Cond) ∈ TB := TB_mem (List.mem_of_getElem? (i := 669) (by decide +kernel)) rfl
theorem w_670 : (.methodLink "VowCourtLaw" 180 ⟨"VowCourtLaw", "vote", "(LVowCourt;III[J)I"⟩ : Cond) ∈ TB := TB_mem (List.mem_of_getElem? (i := 670) (by decide +kernel)) rfl
theorem w_671 : (.static ⟨"VowCourtLaw", "vote", "(LVowCourt;III[J)I"⟩ : Cond) ∈ TB := TB_mem (List.mem_of_getElem? (i := 671) (by decide +kernel)) rfl
theorem w_673 : (.methodLink "VowCourtLaw" 74 ⟨"VowCourt", "vote", "(III)I"⟩ : Cond) ∈ TB := TB_mem (List.mem_of_getElem? (i := 673) (by decide +kernel)) rfl
theorem w_674 : (.instanceMethod ⟨"VowCourt", "vote", "(III)I"⟩ : Cond) ∈ TB := TB_mem (List.mem_of_getElem? (i := 674) (by decide +kernel)) rfl
theorem w_675 : (.selects "VowCourt" ⟨"VowCourt", "vote", "(III)I"⟩ ⟨"VowCourt", "vote", "(III)I"⟩ : Cond) ∈ TB := TB_mem (List.mem_of_getElem? (i := 675) (by decide +kernel)) rfl
theorem w_676 : (.code yX4_vote cX4_vote 5 (some .int) : Cond) ∈ TB := TB_mem (List.mem_of_getElem? (i := 676) (by decide +kernel)) rfl
theorem w_677 : (.methodLink "VowCourt" 177 ⟨"VowCourt$Cause", "votesCast", "()I"⟩ : Cond) ∈ TB := TB_mem (List.mem_of_getElem? (i := 677) (by decide +kernel)) rfl
theorem w_678 : (.instanceMethod ⟨"VowCourt$Cause", "votesCast", "()I"⟩ : Cond) ∈ TB := TB_mem (List.mem_of_getElem? (i := 678) (by decide +kernel)) rfl
theorem w_679 : (.selects "VowCourt$Cause" ⟨"VowCourt$Cause", "votesCast", "()I"⟩ ⟨"VowCourt$Cause", "votesCast", "()I"⟩ : Cond) ∈ TB := TB_mem (List.mem_of_getElem? (i := 679) (by decide +kernel)) rfl
theorem w_680 : (.code yX0_votesCast cX0_votesCast 3 (some .int) : Cond) ∈ TB := TB_mem (List.mem_of_getElem? (i := 680) (by decide +kernel)) rfl
theorem w_681 : (.methodLink "VowCourtLaw" 183 ⟨"VowCourtLaw", "sentence", "(LVowCourt;I[J)I"⟩ : Cond) ∈ TB := TB_mem (List.mem_of_getElem? (i := 681) (by decide +kernel)) rfl
theorem w_682 : (.static ⟨"VowCourtLaw", "sentence", "(LVowCourt;I[J)I"⟩ : Cond) ∈ TB := TB_mem (List.mem_of_getElem? (i := 682) (by decide +kernel)) rfl
theorem w_684 : (.methodLink "VowCourtLaw" 77 ⟨"VowCourt", "sentence", "(I)I"⟩ : Cond) ∈ TB := TB_mem (List.mem_of_getElem? (i := 684) (by decide +kernel)) rfl
theorem w_685 : (.instanceMethod ⟨"VowCourt", "sentence", "(I)I"⟩ : Cond) ∈ TB := TB_mem (List.mem_of_getElem? (i := 685) (by decide +kernel)) rfl
theorem w_686 : (.selects "VowCourt" ⟨"VowCourt", "sentence", "(I)I"⟩ ⟨"VowCourt", "sentence", "(I)I"⟩ : Cond) ∈ TB := TB_mem (List.mem_of_getElem? (i := 686) (by decide +kernel)) rfl
theorem w_687 : (.code yX4_sentence cX4_sentence 4 (some .int) : Cond) ∈ TB := TB_mem (List.mem_of_getElem? (i := 687) (by decide +kernel)) rfl
theorem w_688 : (.methodLink "VowCourt" 180 ⟨"VowCourt$Cause", "majority", "()I"⟩ : Cond) ∈ TB := TB_mem (List.mem_of_getElem? (i := 688) (by decide +kernel)) rfl
theorem w_689 : (.instanceMethod ⟨"VowCourt$Cause", "majority", "()I"⟩ : Cond) ∈ TB := TB_mem (List.mem_of_getElem? (i := 689) (by decide +kernel)) rfl
theorem w_690 : (.selects "VowCourt$Cause" ⟨"VowCourt$Cause", "majority", "()I"⟩ ⟨"VowCourt$Cause", "majority", "()I"⟩ : Cond) ∈ TB := TB_mem (List.mem_of_getElem? (i := 690) (by decide +kernel)) rfl
theorem w_691 : (.code yX0_majority cX0_majority 1 (some .int) : Cond) ∈ TB := TB_mem (List.mem_of_getElem? (i := 691) (by decide +kernel)) rfl
theorem w_692 : (.methodLink "VowCourt" 183 ⟨"VowCourt$Cause", "conclude", "(I)V"⟩ : Cond) ∈ TB := TB_mem (List.mem_of_getElem? (i := 692) (by decide +kernel)) rfl
theorem w_693 : (.instanceMethod ⟨"VowCourt$Cause", "conclude", "(I)V"⟩ : Cond) ∈ TB := TB_mem (List.mem_of_getElem? (i := 693) (by decide +kernel)) rfl
theorem w_694 : (.selects "VowCourt$Cause" ⟨"VowCourt$Cause", "conclude", "(I)V"⟩ ⟨"VowCourt$Cause", "conclude", "(I)V"⟩ : Cond) ∈ TB := TB_mem (List.mem_of_getElem? (i := 694) (by decide +kernel)) rfl
theorem w_695 : (.code yX0_conclude cX0_conclude 2 none : Cond) ∈ TB := TB_mem (List.mem_of_getElem? (i := 695) (by decide +kernel)) rfl
theorem w_696 : (.methodLink "VowCourt$Cause" 40 ⟨"VowCourt$Cause", "concludeFirst", "(I)V"⟩ : Cond) ∈ TB := TB_mem (List.mem_of_getElem? (i := 696) (by decide +kernel)) rfl
theorem w_697 : (.instanceMethod ⟨"VowCourt$Cause", "concludeFirst", "(I)V"⟩ : Cond) ∈ TB := TB_mem (List.mem_of_getElem? (i := 697) (by decide +kernel)) rfl
theorem w_698 : (.selects "VowCourt$Cause" ⟨"VowCourt$Cause", "concludeFirst", "(I)V"⟩ ⟨"VowCourt$Cause", "concludeFirst", "(I)V"⟩ : Cond) ∈ TB := TB_mem (List.mem_of_getElem? (i := 698) (by decide +kernel)) rfl
theorem w_699 : (.code yX0_concludeFirst cX0_concludeFirst 2 none : Cond) ∈ TB := TB_mem (List.mem_of_getElem? (i := 699) (by decide +kernel)) rfl
theorem w_700 : (.methodLink "VowCourt$Cause" 50 ⟨"VowCourt$Cause", "reopen", "()V"⟩ : Cond) ∈ TB := TB_mem (List.mem_of_getElem? (i := 700) (by decide +kernel)) rfl
theorem w_701 : (.instanceMethod ⟨"VowCourt$Cause", "reopen", "()V"⟩ : Cond) ∈ TB := TB_mem (List.mem_of_getElem? (i := 701) (by decide +kernel)) rfl
theorem w_702 : (.selects "VowCourt$Cause" ⟨"VowCourt$Cause", "reopen", "()V"⟩ ⟨"VowCourt$Cause", "reopen", "()V"⟩ : Cond) ∈ TB := TB_mem (List.mem_of_getElem? (i := 702) (by decide +kernel)) rfl
theorem w_703 : (.code yX0_reopen cX0_reopen 1 none : Cond) ∈ TB := TB_mem (List.mem_of_getElem? (i := 703) (by decide +kernel)) rfl
theorem w_704 : (.methodLink "VowCourt$Cause" 44 ⟨"VowCourt$Cause", "concludeSecond", "(I)V"⟩ : Cond) ∈ TB := TB_mem (List.mem_of_getElem? (i := 704) (by decide +kernel)) rfl
theorem w_705 : (.instanceMethod ⟨"VowCourt$Cause", "concludeSecond", "(I)V"⟩ : Cond) ∈ TB := TB_mem (List.mem_of_getElem? (i := 705) (by decide +kernel)) rfl
theorem w_706 : (.selects "VowCourt$Cause" ⟨"VowCourt$Cause", "concludeSecond", "(I)V"⟩ ⟨"VowCourt$Cause", "concludeSecond", "(I)V"⟩ : Cond) ∈ TB := TB_mem (List.mem_of_getElem? (i := 706) (by decide +kernel)) rfl
theorem w_707 : (.code yX0_concludeSecond cX0_concludeSecond 2 none : Cond) ∈ TB := TB_mem (List.mem_of_getElem? (i := 707) (by decide +kernel)) rfl
theorem w_708 : (.methodLink "VowCourt$Cause" 53 ⟨"VowCourt$Cause", "alike", "(II)Z"⟩ : Cond) ∈ TB := TB_mem (List.mem_of_getElem? (i := 708) (by decide +kernel)) rfl
theorem w_709 : (.static ⟨"VowCourt$Cause", "alike", "(II)Z"⟩ : Cond) ∈ TB := TB_mem (List.mem_of_getElem? (i := 709) (by decide +kernel)) rfl
theorem w_710 : (.code yX0_alike cX0_alike 3 (some .boolean) : Cond) ∈ TB := TB_mem (List.mem_of_getElem? (i := 710) (by decide +kernel)) rfl
theorem w_711 : (.methodLink "VowCourt$Cause" 47 ⟨"VowCourt$Cause", "concludeThird", "(I)V"⟩ : Cond) ∈ TB := TB_mem (List.mem_of_getElem? (i := 711) (by decide +kernel)) rfl
theorem w_712 : (.instanceMethod ⟨"VowCourt$Cause", "concludeThird", "(I)V"⟩ : Cond) ∈ TB := TB_mem (List.mem_of_getElem? (i := 712) (by decide +kernel)) rfl
theorem w_713 : (.selects "VowCourt$Cause" ⟨"VowCourt$Cause", "concludeThird", "(I)V"⟩ ⟨"VowCourt$Cause", "concludeThird", "(I)V"⟩ : Cond) ∈ TB := TB_mem (List.mem_of_getElem? (i := 713) (by decide +kernel)) rfl
theorem w_714 : (.code yX0_concludeThird cX0_concludeThird 3 none : Cond) ∈ TB := TB_mem (List.mem_of_getElem? (i := 714) (by decide +kernel)) rfl
theorem w_715 : (.methodLink "VowCourtLaw" 186 ⟨"VowCourtLaw", "appeal", "(LVowCourt;I)I"⟩ : Cond) ∈ TB := TB_mem (List.mem_of_getElem? (i := 715) (by decide +kernel)) rfl
theorem w_716 : (.static ⟨"VowCourtLaw", "appeal", "(LVowCourt;I)I"⟩ : Cond) ∈ TB := TB_mem (List.mem_of_getElem? (i := 716) (by decide +kernel)) rfl
theorem w_718 : (.methodLink "VowCourtLaw" 80 ⟨"VowCourt", "appeal", "(I)V"⟩ : Cond) ∈ TB := TB_mem (List.mem_of_getElem? (i := 718) (by decide +kernel)) rfl
theorem w_719 : (.instanceMethod ⟨"VowCourt", "appeal", "(I)V"⟩ : Cond) ∈ TB := TB_mem (List.mem_of_getElem? (i := 719) (by decide +kernel)) rfl
theorem w_720 : (.selects "VowCourt" ⟨"VowCourt", "appeal", "(I)V"⟩ ⟨"VowCourt", "appeal", "(I)V"⟩ : Cond) ∈ TB := TB_mem (List.mem_of_getElem? (i := 720) (by decide +kernel)) rfl
theorem w_721 : (.code yX4_appeal cX4_appeal 3 none : Cond) ∈ TB := TB_mem (List.mem_of_getElem? (i := 721) (by decide +kernel)) rfl
theorem w_722 : (.methodLink "VowCourt" 190 ⟨"VowCourt$Cause", "reopen", "()V"⟩ : Cond) ∈ TB := TB_mem (List.mem_of_getElem? (i := 722) (by decide +kernel)) rfl
theorem w_723 : (.methodLink "VowCourtLaw" 189 ⟨"VowCourtLaw", "pass", "(LVowCourt;I[J)I"⟩ : Cond) ∈ TB := TB_mem (List.mem_of_getElem? (i := 723) (by decide +kernel)) rfl
theorem w_724 : (.static ⟨"VowCourtLaw", "pass", "(LVowCourt;I[J)I"⟩ : Cond) ∈ TB := TB_mem (List.mem_of_getElem? (i := 724) (by decide +kernel)) rfl
theorem w_726 : (.methodLink "VowCourtLaw" 83 ⟨"VowCourt", "pass", "(I)I"⟩ : Cond) ∈ TB := TB_mem (List.mem_of_getElem? (i := 726) (by decide +kernel)) rfl
theorem w_727 : (.instanceMethod ⟨"VowCourt", "pass", "(I)I"⟩ : Cond) ∈ TB := TB_mem (List.mem_of_getElem? (i := 727) (by decide +kernel)) rfl
theorem w_728 : (.selects "VowCourt" ⟨"VowCourt", "pass", "(I)I"⟩ ⟨"VowCourt", "pass", "(I)I"⟩ : Cond) ∈ TB := TB_mem (List.mem_of_getElem? (i := 728) (by decide +kernel)) rfl
theorem w_729 : (.code yX4_pass cX4_pass 2 (some .int) : Cond) ∈ TB := TB_mem (List.mem_of_getElem? (i := 729) (by decide +kernel)) rfl
theorem w_730 : (.methodLink "VowCourtLaw" 192 ⟨"VowCourtLaw", "kin", "(LVowCourt;II[J)I"⟩ : Cond) ∈ TB := TB_mem (List.mem_of_getElem? (i := 730) (by decide +kernel)) rfl
theorem w_731 : (.static ⟨"VowCourtLaw", "kin", "(LVowCourt;II[J)I"⟩ : Cond) ∈ TB := TB_mem (List.mem_of_getElem? (i := 731) (by decide +kernel)) rfl
theorem w_733 : (.methodLink "VowCourtLaw" 86 ⟨"VowCourt", "kin", "(II)I"⟩ : Cond) ∈ TB := TB_mem (List.mem_of_getElem? (i := 733) (by decide +kernel)) rfl
theorem w_734 : (.instanceMethod ⟨"VowCourt", "kin", "(II)I"⟩ : Cond) ∈ TB := TB_mem (List.mem_of_getElem? (i := 734) (by decide +kernel)) rfl
theorem w_735 : (.selects "VowCourt" ⟨"VowCourt", "kin", "(II)I"⟩ ⟨"VowCourt", "kin", "(II)I"⟩ : Cond) ∈ TB := TB_mem (List.mem_of_getElem? (i := 735) (by decide +kernel)) rfl
theorem w_736 : (.code yX4_kin cX4_kin 4 (some .int) : Cond) ∈ TB := TB_mem (List.mem_of_getElem? (i := 736) (by decide +kernel)) rfl
theorem w_737 : (.methodLink "VowCourtLaw" 195 ⟨"VowCourtLaw", "ancestor", "(LVowCourt;II[J)I"⟩ : Cond) ∈ TB := TB_mem (List.mem_of_getElem? (i := 737) (by decide +kernel)) rfl
theorem w_738 : (.static ⟨"VowCourtLaw", "ancestor", "(LVowCourt;II[J)I"⟩ : Cond) ∈ TB := TB_mem (List.mem_of_getElem? (i := 738) (by decide +kernel)) rfl
theorem w_740 : (.methodLink "VowCourtLaw" 89 ⟨"VowCourt", "ancestor", "(II)I"⟩ : Cond) ∈ TB := TB_mem (List.mem_of_getElem? (i := 740) (by decide +kernel)) rfl
theorem w_741 : (.instanceMethod ⟨"VowCourt", "ancestor", "(II)I"⟩ : Cond) ∈ TB := TB_mem (List.mem_of_getElem? (i := 741) (by decide +kernel)) rfl
theorem w_742 : (.selects "VowCourt" ⟨"VowCourt", "ancestor", "(II)I"⟩ ⟨"VowCourt", "ancestor", "(II)I"⟩ : Cond) ∈ TB := TB_mem (List.mem_of_getElem? (i := 742) (by decide +kernel)) rfl
theorem w_743 : (.code yX4_ancestor cX4_ancestor 3 (some .int) : Cond) ∈ TB := TB_mem (List.mem_of_getElem? (i := 743) (by decide +kernel)) rfl
theorem w_744 : (.methodLink "VowCourt" 200 ⟨"VowCourt$Lines", "ancestorAt", "(II)I"⟩ : Cond) ∈ TB := TB_mem (List.mem_of_getElem? (i := 744) (by decide +kernel)) rfl
theorem w_745 : (.instanceMethod ⟨"VowCourt$Lines", "ancestorAt", "(II)I"⟩ : Cond) ∈ TB := TB_mem (List.mem_of_getElem? (i := 745) (by decide +kernel)) rfl
theorem w_746 : (.selects "VowCourt$Lines" ⟨"VowCourt$Lines", "ancestorAt", "(II)I"⟩ ⟨"VowCourt$Lines", "ancestorAt", "(II)I"⟩ : Cond) ∈ TB := TB_mem (List.mem_of_getElem? (i := 746) (by decide +kernel)) rfl
theorem w_747 : (.code yX1_ancestorAt cX1_ancestorAt 6 (some .int) : Cond) ∈ TB := TB_mem (List.mem_of_getElem? (i := 747) (by decide +kernel)) rfl
theorem w_748 : (.methodLink "VowCourtLaw" 198 ⟨"VowCourtLaw", "hindered", "(LVowCourt;I[J)I"⟩ : Cond) ∈ TB := TB_mem (List.mem_of_getElem? (i := 748) (by decide +kernel)) rfl
theorem w_749 : (.static ⟨"VowCourtLaw", "hindered", "(LVowCourt;I[J)I"⟩ : Cond) ∈ TB := TB_mem (List.mem_of_getElem? (i := 749) (by decide +kernel)) rfl
theorem w_751 : (.methodLink "VowCourtLaw" 92 ⟨"VowCourt", "hindered", "(I)I"⟩ : Cond) ∈ TB := TB_mem (List.mem_of_getElem? (i := 751) (by decide +kernel)) rfl
theorem w_752 : (.instanceMethod ⟨"VowCourt", "hindered", "(I)I"⟩ : Cond) ∈ TB := TB_mem (List.mem_of_getElem? (i := 752) (by decide +kernel)) rfl
theorem w_753 : (.selects "VowCourt" ⟨"VowCourt", "hindered", "(I)I"⟩ ⟨"VowCourt", "hindered", "(I)I"⟩ : Cond) ∈ TB := TB_mem (List.mem_of_getElem? (i := 753) (by decide +kernel)) rfl
theorem w_754 : (.code yX4_hindered cX4_hindered 2 (some .int) : Cond) ∈ TB := TB_mem (List.mem_of_getElem? (i := 754) (by decide +kernel)) rfl
theorem w_755 : (.methodLink "VowCourtLaw" 201 ⟨"VowCourtLaw", "vowOf", "(LVowCourt;II[J)I"⟩ : Cond) ∈ TB := TB_mem (List.mem_of_getElem? (i := 755) (by decide +kernel)) rfl
theorem w_756 : (.static ⟨"VowCourtLaw", "vowOf", "(LVowCourt;II[J)I"⟩ : Cond) ∈ TB := TB_mem (List.mem_of_getElem? (i := 756) (by decide +kernel)) rfl
theorem w_758 : (.methodLink "VowCourtLaw" 95 ⟨"VowCourt", "vowOf", "(II)I"⟩ : Cond) ∈ TB := TB_mem (List.mem_of_getElem? (i := 758) (by decide +kernel)) rfl
theorem w_759 : (.instanceMethod ⟨"VowCourt", "vowOf", "(II)I"⟩ : Cond) ∈ TB := TB_mem (List.mem_of_getElem? (i := 759) (by decide +kernel)) rfl
theorem w_760 : (.selects "VowCourt" ⟨"VowCourt", "vowOf", "(II)I"⟩ ⟨"VowCourt", "vowOf", "(II)I"⟩ : Cond) ∈ TB := TB_mem (List.mem_of_getElem? (i := 760) (by decide +kernel)) rfl
theorem w_761 : (.code yX4_vowOf cX4_vowOf 4 (some .int) : Cond) ∈ TB := TB_mem (List.mem_of_getElem? (i := 761) (by decide +kernel)) rfl
theorem w_762 : (.methodLink "VowCourtLaw" 204 ⟨"VowCourtLaw", "bound", "(LVowCourt;II[J)I"⟩ : Cond) ∈ TB := TB_mem (List.mem_of_getElem? (i := 762) (by decide +kernel)) rfl
theorem w_763 : (.static ⟨"VowCourtLaw", "bound", "(LVowCourt;II[J)I"⟩ : Cond) ∈ TB := TB_mem (List.mem_of_getElem? (i := 763) (by decide +kernel)) rfl
theorem w_765 : (.methodLink "VowCourtLaw" 98 ⟨"VowCourt", "bound", "(II)I"⟩ : Cond) ∈ TB := TB_mem (List.mem_of_getElem? (i := 765) (by decide +kernel)) rfl
theorem w_766 : (.instanceMethod ⟨"VowCourt", "bound", "(II)I"⟩ : Cond) ∈ TB := TB_mem (List.mem_of_getElem? (i := 766) (by decide +kernel)) rfl
theorem w_767 : (.selects "VowCourt" ⟨"VowCourt", "bound", "(II)I"⟩ ⟨"VowCourt", "bound", "(II)I"⟩ : Cond) ∈ TB := TB_mem (List.mem_of_getElem? (i := 767) (by decide +kernel)) rfl
theorem w_768 : (.code yX4_bound cX4_bound 3 (some .int) : Cond) ∈ TB := TB_mem (List.mem_of_getElem? (i := 768) (by decide +kernel)) rfl
theorem w_769 : (.methodLink "VowCourt" 212 ⟨"VowCourt", "isDay", "(I)Z"⟩ : Cond) ∈ TB := TB_mem (List.mem_of_getElem? (i := 769) (by decide +kernel)) rfl
theorem w_770 : (.static ⟨"VowCourt", "isDay", "(I)Z"⟩ : Cond) ∈ TB := TB_mem (List.mem_of_getElem? (i := 770) (by decide +kernel)) rfl
theorem w_771 : (.code yX4_isDay cX4_isDay 1 (some .boolean) : Cond) ∈ TB := TB_mem (List.mem_of_getElem? (i := 771) (by decide +kernel)) rfl
theorem w_772 : (.constant "VowCourt" 252 (1000000) : Cond) ∈ TB := TB_mem (List.mem_of_getElem? (i := 772) (by decide +kernel)) rfl
theorem w_773 : (.methodLink "VowCourtLaw" 207 ⟨"VowCourtLaw", "hasCause", "(LVowCourt;II[J)I"⟩ : Cond) ∈ TB := TB_mem (List.mem_of_getElem? (i := 773) (by decide +kernel)) rfl
theorem w_774 : (.static ⟨"VowCourtLaw", "hasCause", "(LVowCourt;II[J)I"⟩ : Cond) ∈ TB := TB_mem (List.mem_of_getElem? (i := 774) (by decide +kernel)) rfl
theorem w_776 : (.methodLink "VowCourtLaw" 101 ⟨"VowCourt", "hasCause", "(II)Z"⟩ : Cond) ∈ TB := TB_mem (List.mem_of_getElem? (i := 776) (by decide +kernel)) rfl
theorem w_777 : (.instanceMethod ⟨"VowCourt", "hasCause", "(II)Z"⟩ : Cond) ∈ TB := TB_mem (List.mem_of_getElem? (i := 777) (by decide +kernel)) rfl
theorem w_778 : (.selects "VowCourt" ⟨"VowCourt", "hasCause", "(II)Z"⟩ ⟨"VowCourt", "hasCause", "(II)Z"⟩ : Cond) ∈ TB := TB_mem (List.mem_of_getElem? (i := 778) (by decide +kernel)) rfl
theorem w_779 : (.code yX4_hasCause cX4_hasCause 4 (some .boolean) : Cond) ∈ TB := TB_mem (List.mem_of_getElem? (i := 779) (by decide +kernel)) rfl
theorem w_780 : (.methodLink "VowCourtLaw" 210 ⟨"VowCourtLaw", "causeOf", "(LVowCourt;II[J)I"⟩ : Cond) ∈ TB := TB_mem (List.mem_of_getElem? (i := 780) (by decide +kernel)) rfl
theorem w_781 : (.static ⟨"VowCourtLaw", "causeOf", "(LVowCourt;II[J)I"⟩ : Cond) ∈ TB := TB_mem (List.mem_of_getElem? (i := 781) (by decide +kernel)) rfl
theorem w_783 : (.methodLink "VowCourtLaw" 105 ⟨"VowCourt", "causeOf", "(II)I"⟩ : Cond) ∈ TB := TB_mem (List.mem_of_getElem? (i := 783) (by decide +kernel)) rfl
theorem w_784 : (.instanceMethod ⟨"VowCourt", "causeOf", "(II)I"⟩ : Cond) ∈ TB := TB_mem (List.mem_of_getElem? (i := 784) (by decide +kernel)) rfl
theorem w_785 : (.selects "VowCourt" ⟨"VowCourt", "causeOf", "(II)I"⟩ ⟨"VowCourt", "causeOf", "(II)I"⟩ : Cond) ∈ TB := TB_mem (List.mem_of_getElem? (i := 785) (by decide +kernel)) rfl
theorem w_786 : (.code yX4_causeOf cX4_causeOf 4 (some .int) : Cond) ∈ TB := TB_mem (List.mem_of_getElem? (i := 786) (by decide +kernel)) rfl
theorem w_787 : (.methodLink "VowCourtLaw" 213 ⟨"VowCourtLaw", "state", "(LVowCourt;III[J)I"⟩ : Cond) ∈ TB := TB_mem (List.mem_of_getElem? (i := 787) (by decide +kernel)) rfl
theorem w_788 : (.static ⟨"VowCourtLaw", "state", "(LVowCourt;III[J)I"⟩ : Cond) ∈ TB := TB_mem (List.mem_of_getElem? (i := 788) (by decide +kernel)) rfl
theorem w_790 : (.methodLink "VowCourtLaw" 108 ⟨"VowCourt", "state", "(III)C"⟩ : Cond) ∈ TB := TB_mem (List.mem_of_getElem? (i := 790) (by decide +kernel)) rfl
theorem w_791 : (.instanceMethod ⟨"VowCourt", "state", "(III)C"⟩ : Cond) ∈ TB := TB_mem (List.mem_of_getElem? (i := 791) (by decide +kernel)) rfl
theorem w_792 : (.selects "VowCourt" ⟨"VowCourt", "state", "(III)C"⟩ ⟨"VowCourt", "state", "(III)C"⟩ : Cond) ∈ TB := TB_mem (List.mem_of_getElem? (i := 792) (by decide +kernel)) rfl
theorem w_793 : (.code yX4_state cX4_state 5 (some .char) : Cond) ∈ TB := TB_mem (List.mem_of_getElem? (i := 793) (by decide +kernel)) rfl
theorem w_794 : (.methodLink "VowCourt" 222 ⟨"VowCourt", "describe", "(II)Ljava/lang/StringBuilder;"⟩ : Cond) ∈ TB := TB_mem (List.mem_of_getElem? (i := 794) (by decide +kernel)) rfl
theorem w_796 : (.instanceMethod ⟨"VowCourt", "describe", "(II)Ljava/lang/StringBuilder;"⟩ : Cond) ∈ TB := TB_mem (List.mem_of_getElem? (i := 796) (by decide +kernel)) rfl
theorem w_797 : (.code yX4_describe cX4_describe 5 (some (.object "java/lang/StringBuilder")) : Cond) ∈ TB := TB_mem (List.mem_of_getElem? (i := 797) (by decide +kernel)) rfl
theorem w_798 : (.classLink "VowCourt" 227 "java/lang/StringBuilder" : Cond) ∈ TB := TB_mem (List.mem_of_getElem? (i := 798) (by decide +kernel)) rfl
theorem w_799 : (.instantiable "java/lang/StringBuilder" 4 : Cond) ∈ TB := TB_mem (List.mem_of_getElem? (i := 799) (by decide +kernel)) rfl
theorem w_800 : (.methodLink "VowCourt" 289 ⟨"java/lang/StringBuilder", "<init>", "()V"⟩ : Cond) ∈ TB := TB_mem (List.mem_of_getElem? (i := 800) (by decide +kernel)) rfl
theorem w_801 : (.instanceMethod ⟨"java/lang/StringBuilder", "<init>", "()V"⟩ : Cond) ∈ TB := TB_mem (List.mem_of_getElem? (i := 801) (by decide +kernel)) rfl
theorem w_802 : (.code yJ4_init_da8c8 cJ4_init_da8c8 1 none : Cond) ∈ TB := TB_mem (List.mem_of_getElem? (i := 802) (by decide +kernel)) rfl
theorem w_803 : (.methodLink "java/lang/StringBuilder" 1 ⟨"java/lang/AbstractStringBuilder", "<init>", "(I)V"⟩ : Cond) ∈ TB := TB_mem (List.mem_of_getElem? (i := 803) (by decide +kernel)) rfl
theorem w_804 : (.instanceMethod ⟨"java/lang/AbstractStringBuilder", "<init>", "(I)V"⟩ : Cond) ∈ TB := TB_mem (List.mem_of_getElem? (i := 804) (by decide +kernel)) rfl
theorem w_805 : (.code yJ5_init_d00df cJ5_init_d00df 2 none : Cond) ∈ TB := TB_mem (List.mem_of_getElem? (i := 805) (by decide +kernel)) rfl
theorem w_806 : (.methodLink "java/lang/AbstractStringBuilder" 3 ⟨"java/lang/Object", "<init>", "()V"⟩ : Cond) ∈ TB := TB_mem (List.mem_of_getElem? (i := 806) (by decide +kernel)) rfl
theorem w_807 : (.fieldLink "java/lang/AbstractStringBuilder" 18 "java/lang/String" "COMPACT_STRINGS" "Z" : Cond) ∈ TB := TB_mem (List.mem_of_getElem? (i := 807) (by decide +kernel)) rfl
theorem w_809 : (.methodLink "java/lang/AbstractStringBuilder" 26 ⟨"java/lang/StringUTF16", "newBytesFor", "(I)[B"⟩ : Cond) ∈ TB := TB_mem (List.mem_of_getElem? (i := 809) (by decide +kernel)) rfl
theorem w_810 : (.static ⟨"java/lang/StringUTF16", "newBytesFor", "(I)[B"⟩ : Cond) ∈ TB := TB_mem (List.mem_of_getElem? (i := 810) (by decide +kernel)) rfl
theorem w_811 : (.code yJ2_newBytesFor_77867 cJ2_newBytesFor_77867 1 (some (.array .byte)) : Cond) ∈ TB := TB_mem (List.mem_of_getElem? (i := 811) (by decide +kernel)) rfl
theorem w_812 : (.methodLink "java/lang/StringUTF16" 11 ⟨"java/lang/StringUTF16", "newBytesLength", "(I)I"⟩ : Cond) ∈ TB := TB_mem (List.mem_of_getElem? (i := 812) (by decide +kernel)) rfl
theorem w_813 : (.static ⟨"java/lang/StringUTF16", "newBytesLength", "(I)I"⟩ : Cond) ∈ TB := TB_mem (List.mem_of_getElem? (i := 813) (by decide +kernel)) rfl
theorem w_814 : (.code yJ2_newBytesLength_0f7a4 cJ2_newBytesLength_0f7a4 1 (some .int) : Cond) ∈ TB := TB_mem (List.mem_of_getElem? (i := 814) (by decide +kernel)) rfl
theorem w_815 : (.constant "java/lang/StringUTF16" 20 (1073741823) : Cond) ∈ TB := TB_mem (List.mem_of_getElem? (i := 815) (by decide +kernel)) rfl
theorem w_816 : (.fieldLink "java/lang/AbstractStringBuilder" 15 "java/lang/AbstractStringBuilder" "value" "[B" : Cond) ∈ TB := TB_mem (List.mem_of_getElem? (i := 816) (by decide +kernel)) rfl
theorem w_817 : (.fieldLink "java/lang/AbstractStringBuilder" 22 "java/lang/AbstractStringBuilder" "coder" "B" : Cond) ∈ TB := TB_mem (List.mem_of_getElem? (i := 817) (by decide +kernel)) rfl
theorem w_818 : (.fieldLink "java/lang/AbstractStringBuilder" 79 "java/lang/AbstractStringBuilder" "count" "I" : Cond) ∈ TB := TB_mem (List.mem_of_getElem? (i := 818) (by decide +kernel)) rfl
theorem w_829 : (.methodLink "VowCourt" 292 ⟨"java/lang/StringBuilder", "append", "(Ljava/lang/String;)Ljava/lang/StringBuilder;"⟩ : Cond) ∈ TB := TB_mem (List.mem_of_getElem? (i := 829) (by decide +kernel)) rfl
theorem w_830 : (.instanceMethod ⟨"java/lang/StringBuilder", "append", "(Ljava/lang/String;)Ljava/lang/StringBuilder;"⟩ : Cond) ∈ TB := TB_mem (List.mem_of_getElem? (i := 830) (by decide +kernel)) rfl
theorem w_831 : (.selects "java/lang/StringBuilder" ⟨"java/lang/StringBuilder", "append", "(Ljava/lang/String;)Ljava/lang/StringBuilder;"⟩ ⟨"java/lang/StringBuilder", "append", "(Ljava/lang/String;)Ljava/lang/StringBuilder;"⟩ : Cond) ∈ TB := TB_mem (List.mem_of_getElem? (i := 831) (by decide +kernel)) rfl
theorem w_832 : (.code yJ4_append_15ec4 cJ4_append_15ec4 2 (some (.object "java/lang/StringBuilder")) : Cond) ∈ TB := TB_mem (List.mem_of_getElem? (i := 832) (by decide +kernel)) rfl
theorem w_833 : (.methodLink "java/lang/StringBuilder" 29 ⟨"java/lang/AbstractStringBuilder", "append", "(Ljava/lang/String;)Ljava/lang/AbstractStringBuilder;"⟩ : Cond) ∈ TB := TB_mem (List.mem_of_getElem? (i := 833) (by decide +kernel)) rfl
theorem w_834 : (.instanceMethod ⟨"java/lang/AbstractStringBuilder", "append", "(Ljava/lang/String;)Ljava/lang/AbstractStringBuilder;"⟩ : Cond) ∈ TB := TB_mem (List.mem_of_getElem? (i := 834) (by decide +kernel)) rfl
theorem w_835 : (.code yJ5_append_cf1ce cJ5_append_cf1ce 3 (some (.object "java/lang/AbstractStringBuilder")) : Cond) ∈ TB := TB_mem (List.mem_of_getElem? (i := 835) (by decide +kernel)) rfl
theorem w_836 : (.methodLink "java/lang/AbstractStringBuilder" 204 ⟨"java/lang/AbstractStringBuilder", "appendNull", "()Ljava/lang/AbstractStringBuilder;"⟩ : Cond) ∈ TB := TB_mem (List.mem_of_getElem? (i := 836) (by decide +kernel)) rfl
theorem w_838 : (.instanceMethod ⟨"java/lang/AbstractStringBuilder", "appendNull", "()Ljava/lang/AbstractStringBuilder;"⟩ : Cond) ∈ TB := TB_mem (List.mem_of_getElem? (i := 838) (by decide +kernel)) rfl
theorem w_839 : (.code yJ5_appendNull_278bc cJ5_appendNull_278bc 3 (some (.object "java/lang/AbstractStringBuilder")) : Cond) ∈ TB := TB_mem (List.mem_of_getElem? (i := 839) (by decide +kernel)) rfl
theorem w_840 : (.methodLink "java/lang/AbstractStringBuilder" 100 ⟨"java/lang/AbstractStringBuilder", "ensureCapacityInternal", "(I)V"⟩ : Cond) ∈ TB := TB_mem (List.mem_of_getElem? (i := 840) (by decide +kernel)) rfl
theorem w_842 : (.instanceMethod ⟨"java/lang/AbstractStringBuilder", "ensureCapacityInternal", "(I)V"⟩ : Cond) ∈ TB := TB_mem (List.mem_of_getElem? (i := 842) (by decide +kernel)) rfl
theorem w_843 : (.code yJ5_ensureCapacityInternal_d00df cJ5_ensureCapacityInternal_d00df 3 none : Cond) ∈ TB := TB_mem (List.mem_of_getElem? (i := 843) (by decide +kernel)) rfl
theorem w_844 : (.methodLink "java/lang/AbstractStringBuilder" 104 ⟨"java/lang/AbstractStringBuilder", "newCapacity", "(I)I"⟩ : Cond) ∈ TB := TB_mem (List.mem_of_getElem? (i := 844) (by decide +kernel)) rfl
theorem w_846 : (.instanceMethod ⟨"java/lang/AbstractStringBuilder", "newCapacity", "(I)I"⟩ : Cond) ∈ TB := TB_mem (List.mem_of_getElem? (i := 846) (by decide +kernel)) rfl
theorem w_847 : (.code yJ5_newCapacity_0f7a4 cJ5_newCapacity_0f7a4 6 (some .int) : Cond) ∈ TB := TB_mem (List.mem_of_getElem? (i := 847) (by decide +kernel)) rfl
theorem w_848 : (.methodLink "java/lang/AbstractStringBuilder" 114 ⟨"jdk/internal/util/ArraysSupport", "newLength", "(III)I"⟩ : Cond) ∈ TB := TB_mem (List.mem_of_getElem? (i := 848) (by decide +kernel)) rfl
theorem w_849 : (.constant "java/lang/AbstractStringBuilder" 39 (2147483647) : Cond) ∈ TB := TB_mem (List.mem_of_getElem? (i := 849) (by decide +kernel)) rfl
theorem w_850 : (.methodLink "java/lang/AbstractStringBuilder" 108 ⟨"java/util/Arrays", "copyOf", "([BI)[B"⟩ : Cond) ∈ TB := TB_mem (List.mem_of_getElem? (i := 850) (by decide +kernel)) rfl
theorem w_851 : (.static ⟨"java/util/Arrays", "copyOf", "([BI)[B"⟩ : Cond) ∈ TB := TB_mem (List.mem_of_getElem? (i := 851) (by decide +kernel)) rfl
theorem w_852 : (.code yJ7_copyOf_9075b cJ7_copyOf_9075b 3 (some (.array .byte)) : Cond) ∈ TB := TB_mem (List.mem_of_getElem? (i := 852) (by decide +kernel)) rfl
theorem w_853 : (.methodLink "java/util/Arrays" 310 ⟨"[B", "clone", "()Ljava/lang/Object;"⟩ : Cond) ∈ TB := TB_mem (List.mem_of_getElem? (i := 853) (by decide +kernel)) rfl
theorem w_855 : (.native ⟨"java/lang/Object", "clone", "()Ljava/lang/Object;"⟩ : Cond) ∈ TB := TB_mem (List.mem_of_getElem? (i := 855) (by decide +kernel)) rfl
theorem w_856 : (.instanceMethod ⟨"java/lang/Object", "clone", "()Ljava/lang/Object;"⟩ : Cond) ∈ TB := TB_mem (List.mem_of_getElem? (i := 856) (by decide +kernel)) rfl
theorem w_857 : (.selects "[B" ⟨"[B", "clone", "()Ljava/lang/Object;"⟩ ⟨"java/lang/Object", "clone", "()Ljava/lang/Object;"⟩ : Cond) ∈ TB := TB_mem (List.mem_of_getElem? (i := 857) (by decide +kernel)) rfl
theorem w_859 : (.classLink "java/util/Arrays" 311 "[B" : Cond) ∈ TB := TB_mem (List.mem_of_getElem? (i := 859) (by decide +kernel)) rfl
theorem w_860 : (.methodLink "java/lang/AbstractStringBuilder" 83 ⟨"java/lang/AbstractStringBuilder", "isLatin1", "()Z"⟩ : Cond) ∈ TB := TB_mem (List.mem_of_getElem? (i := 860) (by decide +kernel)) rfl
theorem w_861 : (.instanceMethod ⟨"java/lang/AbstractStringBuilder", "isLatin1", "()Z"⟩ : Cond) ∈ TB := TB_mem (List.mem_of_getElem? (i := 861) (by decide +kernel)) rfl
theorem w_863 : (.selects "java/lang/StringBuilder" ⟨"java/lang/AbstractStringBuilder", "isLatin1", "()Z"⟩ ⟨"java/lang/AbstractStringBuilder", "isLatin1", "()Z"⟩ : Cond) ∈ TB := TB_mem (List.mem_of_getElem? (i := 863) (by decide +kernel)) rfl
theorem w_864 : (.code yJ5_isLatin1_aae02 cJ5_isLatin1_aae02 1 (some .boolean) : Cond) ∈ TB := TB_mem (List.mem_of_getElem? (i := 864) (by decide +kernel)) rfl
theorem w_865 : (.methodLink "java/lang/AbstractStringBuilder" 226 ⟨"java/lang/StringUTF16", "putCharsAt", "([BICCCC)I"⟩ : Cond) ∈ TB := TB_mem (List.mem_of_getElem? (i := 865) (by decide +kernel)) rfl
theorem w_866 : (.static ⟨"java/lang/StringUTF16", "putCharsAt", "([BICCCC)I"⟩ : Cond) ∈ TB := TB_mem (List.mem_of_getElem? (i := 866) (by decide +kernel)) rfl
theorem w_867 : (.code yJ2_putCharsAt_cd4e5 cJ2_putCharsAt_cd4e5 7 (some .int) : Cond) ∈ TB := TB_mem (List.mem_of_getElem? (i := 867) (by decide +kernel)) rfl
theorem w_868 : (.methodLink "java/lang/StringUTF16" 96 ⟨"java/lang/StringUTF16", "checkBoundsBeginEnd", "(II[B)V"⟩ : Cond) ∈ TB := TB_mem (List.mem_of_getElem? (i := 868) (by decide +kernel)) rfl
theorem w_869 : (.static ⟨"java/lang/StringUTF16", "checkBoundsBeginEnd", "(II[B)V"⟩ : Cond) ∈ TB := TB_mem (List.mem_of_getElem? (i := 869) (by decide +kernel)) rfl
theorem w_870 : (.code yJ2_checkBoundsBeginEnd_d044e cJ2_checkBoundsBeginEnd_d044e 3 none : Cond) ∈ TB := TB_mem (List.mem_of_getElem? (i := 870) (by decide +kernel)) rfl
theorem w_871 : (.methodLink "java/lang/StringUTF16" 48 ⟨"java/lang/StringUTF16", "length", "([B)I"⟩ : Cond) ∈ TB := TB_mem (List.mem_of_getElem? (i := 871) (by decide +kernel)) rfl
theorem w_872 : (.static ⟨"java/lang/StringUTF16", "length", "([B)I"⟩ : Cond) ∈ TB := TB_mem (List.mem_of_getElem? (i := 872) (by decide +kernel)) rfl
theorem w_873 : (.code yJ2_length_9d52b cJ2_length_9d52b 1 (some .int) : Cond) ∈ TB := TB_mem (List.mem_of_getElem? (i := 873) (by decide +kernel)) rfl
theorem w_874 : (.methodLink "java/lang/StringUTF16" 241 ⟨"java/lang/String", "checkBoundsBeginEnd", "(III)V"⟩ : Cond) ∈ TB := TB_mem (List.mem_of_getElem? (i := 874) (by decide +kernel)) rfl
theorem w_875 : (.static ⟨"java/lang/String", "checkBoundsBeginEnd", "(III)V"⟩ : Cond) ∈ TB := TB_mem (List.mem_of_getElem? (i := 875) (by decide +kernel)) rfl
theorem w_876 : (.code yJ0_checkBoundsBeginEnd_23922 cJ0_checkBoundsBeginEnd_23922 3 none : Cond) ∈ TB := TB_mem (List.mem_of_getElem? (i := 876) (by decide +kernel)) rfl
theorem w_877 : (.fieldLink "java/lang/String" 1053 "jdk/internal/util/Preconditions" "SIOOBE_FORMATTER" "Ljava/util/function/BiFunction;" : Cond) ∈ TB := TB_mem (List.mem_of_getElem? (i := 877) (by decide +kernel)) rfl
theorem w_879 : (.methodLink "java/lang/String" 1062 ⟨"jdk/internal/util/Preconditions", "checkFromToIndex", "(IIILjava/util/function/BiFunction;)I"⟩ : Cond) ∈ TB := TB_mem (List.mem_of_getElem? (i := 879) (by decide +kernel)) rfl
theorem w_880 : (.static ⟨"jdk/internal/util/Preconditions", "checkFromToIndex", "(IIILjava/util/function/BiFunction;)I"⟩ : Cond) ∈ TB := TB_mem (List.mem_of_getElem? (i := 880) (by decide +kernel)) rfl
theorem w_881 : (.code yJ3_checkFromToIndex_8c36e cJ3_checkFromToIndex_8c36e 4 (some .int) : Cond) ∈ TB := TB_mem (List.mem_of_getElem? (i := 881) (by decide +kernel)) rfl
theorem w_882 : (.methodLink "java/lang/StringUTF16" 111 ⟨"java/lang/StringUTF16", "putChar", "([BII)V"⟩ : Cond) ∈ TB := TB_mem (List.mem_of_getElem? (i := 882) (by decide +kernel)) rfl
theorem w_883 : (.static ⟨"java/lang/StringUTF16", "putChar", "([BII)V"⟩ : Cond) ∈ TB := TB_mem (List.mem_of_getElem? (i := 883) (by decide +kernel)) rfl
theorem w_884 : (.code yJ2_putChar_b72d1 cJ2_putChar_b72d1 3 none : Cond) ∈ TB := TB_mem (List.mem_of_getElem? (i := 884) (by decide +kernel)) rfl
theorem w_885 : (.fieldLink "java/lang/StringUTF16" 44 "java/lang/StringUTF16" "$assertionsDisabled" "Z" : Cond) ∈ TB := TB_mem (List.mem_of_getElem? (i := 885) (by decide +kernel)) rfl
theorem w_887 : (.fieldLink "java/lang/StringUTF16" 59 "java/lang/StringUTF16" "HI_BYTE_SHIFT" "I" : Cond) ∈ TB := TB_mem (List.mem_of_getElem? (i := 887) (by decide +kernel)) rfl
theorem w_889 : (.fieldLink "java/lang/StringUTF16" 63 "java/lang/StringUTF16" "LO_BYTE_SHIFT" "I" : Cond) ∈ TB := TB_mem (List.mem_of_getElem? (i := 889) (by decide +kernel)) rfl
theorem w_891 : (.methodLink "java/lang/AbstractStringBuilder" 32 ⟨"java/lang/String", "length", "()I"⟩ : Cond) ∈ TB := TB_mem (List.mem_of_getElem? (i := 891) (by decide +kernel)) rfl
theorem w_892 : (.instanceMethod ⟨"java/lang/String", "length", "()I"⟩ : Cond) ∈ TB := TB_mem (List.mem_of_getElem? (i := 892) (by decide +kernel)) rfl
theorem w_893 : (.selects "java/lang/String" ⟨"java/lang/String", "length", "()I"⟩ ⟨"java/lang/String", "length", "()I"⟩ : Cond) ∈ TB := TB_mem (List.mem_of_getElem? (i := 893) (by decide +kernel)) rfl
theorem w_894 : (.code yJ0_length_8abf5 cJ0_length_8abf5 1 (some .int) : Cond) ∈ TB := TB_mem (List.mem_of_getElem? (i := 894) (by decide +kernel)) rfl
theorem w_895 : (.methodLink "java/lang/String" 335 ⟨"java/lang/String", "coder", "()B"⟩ : Cond) ∈ TB := TB_mem (List.mem_of_getElem? (i := 895) (by decide +kernel)) rfl
theorem w_896 : (.instanceMethod ⟨"java/lang/String", "coder", "()B"⟩ : Cond) ∈ TB := TB_mem (List.mem_of_getElem? (i := 896) (by decide +kernel)) rfl
theorem w_897 : (.selects "java/lang/String" ⟨"java/lang/String", "coder", "()B"⟩ ⟨"java/lang/String", "coder", "()B"⟩ : Cond) ∈ TB := TB_mem (List.mem_of_getElem? (i := 897) (by decide +kernel)) rfl
theorem w_898 : (.code yJ0_coder_7d493 cJ0_coder_7d493 1 (some .byte) : Cond) ∈ TB := TB_mem (List.mem_of_getElem? (i := 898) (by decide +kernel)) rfl
theorem w_899 : (.fieldLink "java/lang/String" 38 "java/lang/String" "COMPACT_STRINGS" "Z" : Cond) ∈ TB := TB_mem (List.mem_of_getElem? (i := 899) (by decide +kernel)) rfl
theorem w_900 : (.methodLink "java/lang/AbstractStringBuilder" 208 ⟨"java/lang/AbstractStringBuilder", "putStringAt", "(ILjava/lang/String;)V"⟩ : Cond) ∈ TB := TB_mem (List.mem_of_getElem? (i := 900) (by decide +kernel)) rfl
theorem w_902 : (.instanceMethod ⟨"java/lang/AbstractStringBuilder", "putStringAt", "(ILjava/lang/String;)V"⟩ : Cond) ∈ TB := TB_mem (List.mem_of_getElem? (i := 902) (by decide +kernel)) rfl
theorem w_903 : (.code yJ5_putStringAt_47b60 cJ5_putStringAt_47b60 3 none : Cond) ∈ TB := TB_mem (List.mem_of_getElem? (i := 903) (by decide +kernel)) rfl
theorem w_904 : (.methodLink "java/lang/AbstractStringBuilder" 397 ⟨"java/lang/AbstractStringBuilder", "inflateIfNeededFor", "(Ljava/lang/String;)V"⟩ : Cond) ∈ TB := TB_mem (List.mem_of_getElem? (i := 904) (by decide +kernel)) rfl
theorem w_906 : (.instanceMethod ⟨"java/lang/AbstractStringBuilder", "inflateIfNeededFor", "(Ljava/lang/String;)V"⟩ : Cond) ∈ TB := TB_mem (List.mem_of_getElem? (i := 906) (by decide +kernel)) rfl
theorem w_907 : (.code yJ5_inflateIfNeededFor_a7421 cJ5_inflateIfNeededFor_a7421 2 none : Cond) ∈ TB := TB_mem (List.mem_of_getElem? (i := 907) (by decide +kernel)) rfl
theorem w_908 : (.methodLink "java/lang/AbstractStringBuilder" 40 ⟨"java/lang/String", "coder", "()B"⟩ : Cond) ∈ TB := TB_mem (List.mem_of_getElem? (i := 908) (by decide +kernel)) rfl
theorem w_909 : (.methodLink "java/lang/AbstractStringBuilder" 195 ⟨"java/lang/AbstractStringBuilder", "inflate", "()V"⟩ : Cond) ∈ TB := TB_mem (List.mem_of_getElem? (i := 909) (by decide +kernel)) rfl
theorem w_911 : (.instanceMethod ⟨"java/lang/AbstractStringBuilder", "inflate", "()V"⟩ : Cond) ∈ TB := TB_mem (List.mem_of_getElem? (i := 911) (by decide +kernel)) rfl
theorem w_912 : (.code yJ5_inflate_da8c8 cJ5_inflate_da8c8 2 none : Cond) ∈ TB := TB_mem (List.mem_of_getElem? (i := 912) (by decide +kernel)) rfl
theorem w_913 : (.methodLink "java/lang/AbstractStringBuilder" 125 ⟨"java/lang/StringLatin1", "inflate", "([BI[BII)V"⟩ : Cond) ∈ TB := TB_mem (List.mem_of_getElem? (i := 913) (by decide +kernel)) rfl
theorem w_914 : (.static ⟨"java/lang/StringLatin1", "inflate", "([BI[BII)V"⟩ : Cond) ∈ TB := TB_mem (List.mem_of_getElem? (i := 914) (by decide +kernel)) rfl
theorem w_915 : (.code yJ1_inflate_0e8fd cJ1_inflate_0e8fd 5 none : Cond) ∈ TB := TB_mem (List.mem_of_getElem? (i := 915) (by decide +kernel)) rfl
theorem w_916 : (.methodLink "java/lang/StringLatin1" 240 ⟨"java/lang/StringUTF16", "inflate", "([BI[BII)V"⟩ : Cond) ∈ TB := TB_mem (List.mem_of_getElem? (i := 916) (by decide +kernel)) rfl
theorem w_917 : (.static ⟨"java/lang/StringUTF16", "inflate", "([BI[BII)V"⟩ : Cond) ∈ TB := TB_mem (List.mem_of_getElem? (i := 917) (by decide +kernel)) rfl
theorem w_918 : (.code yJ2_inflate_0e8fd cJ2_inflate_0e8fd 6 none : Cond) ∈ TB := TB_mem (List.mem_of_getElem? (i := 918) (by decide +kernel)) rfl
theorem w_919 : (.methodLink "java/lang/StringUTF16" 173 ⟨"java/lang/StringUTF16", "checkBoundsOffCount", "(II[B)V"⟩ : Cond) ∈ TB := TB_mem (List.mem_of_getElem? (i := 919) (by decide +kernel)) rfl
theorem w_920 : (.static ⟨"java/lang/StringUTF16", "checkBoundsOffCount", "(II[B)V"⟩ : Cond) ∈ TB := TB_mem (List.mem_of_getElem? (i := 920) (by decide +kernel)) rfl
theorem w_921 : (.code yJ2_checkBoundsOffCount_d044e cJ2_checkBoundsOffCount_d044e 3 none : Cond) ∈ TB := TB_mem (List.mem_of_getElem? (i := 921) (by decide +kernel)) rfl
theorem w_922 : (.methodLink "java/lang/StringUTF16" 419 ⟨"java/lang/String", "checkBoundsOffCount", "(III)I"⟩ : Cond) ∈ TB := TB_mem (List.mem_of_getElem? (i := 922) (by decide +kernel)) rfl
theorem w_923 : (.static ⟨"java/lang/String", "checkBoundsOffCount", "(III)I"⟩ : Cond) ∈ TB := TB_mem (List.mem_of_getElem? (i := 923) (by decide +kernel)) rfl
theorem w_924 : (.code yJ0_checkBoundsOffCount_cabcc cJ0_checkBoundsOffCount_cabcc 3 (some .int) : Cond) ∈ TB := TB_mem (List.mem_of_getElem? (i := 924) (by decide +kernel)) rfl
theorem w_925 : (.methodLink "java/lang/String" 1065 ⟨"jdk/internal/util/Preconditions", "checkFromIndexSize", "(IIILjava/util/function/BiFunction;)I"⟩ : Cond) ∈ TB := TB_mem (List.mem_of_getElem? (i := 925) (by decide +kernel)) rfl
theorem w_926 : (.static ⟨"jdk/internal/util/Preconditions", "checkFromIndexSize", "(IIILjava/util/function/BiFunction;)I"⟩ : Cond) ∈ TB := TB_mem (List.mem_of_getElem? (i := 926) (by decide +kernel)) rfl
theorem w_927 : (.code yJ3_checkFromIndexSize_8c36e cJ3_checkFromIndexSize_8c36e 4 (some .int) : Cond) ∈ TB := TB_mem (List.mem_of_getElem? (i := 927) (by decide +kernel)) rfl
theorem w_928 : (.methodLink "java/lang/AbstractStringBuilder" 399 ⟨"java/lang/String", "getBytes", "([BIB)V"⟩ : Cond) ∈ TB := TB_mem (List.mem_of_getElem? (i := 928) (by decide +kernel)) rfl
theorem w_929 : (.instanceMethod ⟨"java/lang/String", "getBytes", "([BIB)V"⟩ : Cond) ∈ TB := TB_mem (List.mem_of_getElem? (i := 929) (by decide +kernel)) rfl
theorem w_930 : (.selects "java/lang/String" ⟨"java/lang/String", "getBytes", "([BIB)V"⟩ ⟨"java/lang/String", "getBytes", "([BIB)V"⟩ : Cond) ∈ TB := TB_mem (List.mem_of_getElem? (i := 930) (by decide +kernel)) rfl
theorem w_931 : (.code yJ0_getBytes_840e7 cJ0_getBytes_840e7 4 none : Cond) ∈ TB := TB_mem (List.mem_of_getElem? (i := 931) (by decide +kernel)) rfl
theorem w_932 : (.methodLink "java/lang/String" 212 ⟨"java/lang/System", "arraycopy", "(Ljava/lang/Object;ILjava/lang/Object;II)V"⟩ : Cond) ∈ TB := TB_mem (List.mem_of_getElem? (i := 932) (by decide +kernel)) rfl
theorem w_933 : (.methodLink "java/lang/String" 106 ⟨"java/lang/StringLatin1", "inflate", "([BI[BII)V"⟩ : Cond) ∈ TB := TB_mem (List.mem_of_getElem? (i := 933) (by decide +kernel)) rfl
theorem w_935 : (.methodLink "VowCourt" 298 ⟨"java/lang/StringBuilder", "append", "(I)Ljava/lang/StringBuilder;"⟩ : Cond) ∈ TB := TB_mem (List.mem_of_getElem? (i := 935) (by decide +kernel)) rfl
theorem w_936 : (.instanceMethod ⟨"java/lang/StringBuilder", "append", "(I)Ljava/lang/StringBuilder;"⟩ : Cond) ∈ TB := TB_mem (List.mem_of_getElem? (i := 936) (by decide +kernel)) rfl
theorem w_937 : (.selects "java/lang/StringBuilder" ⟨"java/lang/StringBuilder", "append", "(I)Ljava/lang/StringBuilder;"⟩ ⟨"java/lang/StringBuilder", "append", "(I)Ljava/lang/StringBuilder;"⟩ : Cond) ∈ TB := TB_mem (List.mem_of_getElem? (i := 937) (by decide +kernel)) rfl
theorem w_938 : (.code yJ4_append_bf812 cJ4_append_bf812 2 (some (.object "java/lang/StringBuilder")) : Cond) ∈ TB := TB_mem (List.mem_of_getElem? (i := 938) (by decide +kernel)) rfl
theorem w_939 : (.methodLink "java/lang/StringBuilder" 53 ⟨"java/lang/AbstractStringBuilder", "append", "(I)Ljava/lang/AbstractStringBuilder;"⟩ : Cond) ∈ TB := TB_mem (List.mem_of_getElem? (i := 939) (by decide +kernel)) rfl
theorem w_940 : (.instanceMethod ⟨"java/lang/AbstractStringBuilder", "append", "(I)Ljava/lang/AbstractStringBuilder;"⟩ : Cond) ∈ TB := TB_mem (List.mem_of_getElem? (i := 940) (by decide +kernel)) rfl
theorem w_941 : (.code yJ5_append_c97b9 cJ5_append_c97b9 4 (some (.object "java/lang/AbstractStringBuilder")) : Cond) ∈ TB := TB_mem (List.mem_of_getElem? (i := 941) (by decide +kernel)) rfl
theorem w_942 : (.methodLink "java/lang/AbstractStringBuilder" 245 ⟨"java/lang/Integer", "stringSize", "(I)I"⟩ : Cond) ∈ TB := TB_mem (List.mem_of_getElem? (i := 942) (by decide +kernel)) rfl
theorem w_943 : (.static ⟨"java/lang/Integer", "stringSize", "(I)I"⟩ : Cond) ∈ TB := TB_mem (List.mem_of_getElem? (i := 943) (by decide +kernel)) rfl
theorem w_944 : (.code yJ6_stringSize_0f7a4 cJ6_stringSize_0f7a4 4 (some .int) : Cond) ∈ TB := TB_mem (List.mem_of_getElem? (i := 944) (by decide +kernel)) rfl
theorem w_945 : (.methodLink "java/lang/AbstractStringBuilder" 248 ⟨"java/lang/Integer", "getChars", "(II[B)I"⟩ : Cond) ∈ TB := TB_mem (List.mem_of_getElem? (i := 945) (by decide +kernel)) rfl
theorem w_946 : (.static ⟨"java/lang/Integer", "getChars", "(II[B)I"⟩ : Cond) ∈ TB := TB_mem (List.mem_of_getElem? (i := 946) (by decide +kernel)) rfl
theorem w_947 : (.code yJ6_getChars_ba4f3 cJ6_getChars_ba4f3 7 (some .int) : Cond) ∈ TB := TB_mem (List.mem_of_getElem? (i := 947) (by decide +kernel)) rfl
theorem w_948 : (.fieldLink "java/lang/Integer" 83 "java/lang/Integer" "DigitOnes" "[B" : Cond) ∈ TB := TB_mem (List.mem_of_getElem? (i := 948) (by decide +kernel)) rfl
theorem w_950 : (.fieldLink "java/lang/Integer" 87 "java/lang/Integer" "DigitTens" "[B" : Cond) ∈ TB := TB_mem (List.mem_of_getElem? (i := 950) (by decide +kernel)) rfl
theorem w_952 : (.methodLink "java/lang/AbstractStringBuilder" 251 ⟨"java/lang/StringUTF16", "getChars", "(III[B)I"⟩ : Cond) ∈ TB := TB_mem (List.mem_of_getElem? (i := 952) (by decide +kernel)) rfl
theorem w_953 : (.static ⟨"java/lang/StringUTF16", "getChars", "(III[B)I"⟩ : Cond) ∈ TB := TB_mem (List.mem_of_getElem? (i := 953) (by decide +kernel)) rfl
theorem w_954 : (.code yJ2_getChars_46870 cJ2_getChars_46870 5 (some .int) : Cond) ∈ TB := TB_mem (List.mem_of_getElem? (i := 954) (by decide +kernel)) rfl
theorem w_955 : (.methodLink "java/lang/StringUTF16" 393 ⟨"java/lang/StringUTF16", "getChars", "(II[B)I"⟩ : Cond) ∈ TB := TB_mem (List.mem_of_getElem? (i := 955) (by decide +kernel)) rfl
theorem w_956 : (.static ⟨"java/lang/StringUTF16", "getChars", "(II[B)I"⟩ : Cond) ∈ TB := TB_mem (List.mem_of_getElem? (i := 956) (by decide +kernel)) rfl
theorem w_957 : (.code yJ2_getChars_ba4f3 cJ2_getChars_ba4f3 7 (some .int) : Cond) ∈ TB := TB_mem (List.mem_of_getElem? (i := 957) (by decide +kernel)) rfl
theorem w_958 : (.fieldLink "java/lang/StringUTF16" 403 "java/lang/Integer" "DigitOnes" "[B" : Cond) ∈ TB := TB_mem (List.mem_of_getElem? (i := 958) (by decide +kernel)) rfl
theorem w_959 : (.fieldLink "java/lang/StringUTF16" 407 "java/lang/Integer" "DigitTens" "[B" : Cond) ∈ TB := TB_mem (List.mem_of_getElem? (i := 959) (by decide +kernel)) rfl
theorem w_961 : (.methodLink "VowCourt" 303 ⟨"VowCourt$Vow", "partnerOf", "(I)I"⟩ : Cond) ∈ TB := TB_mem (List.mem_of_getElem? (i := 961) (by decide +kernel)) rfl
theorem w_962 : (.instanceMethod ⟨"VowCourt$Vow", "partnerOf", "(I)I"⟩ : Cond) ∈ TB := TB_mem (List.mem_of_getElem? (i := 962) (by decide +kernel)) rfl
theorem w_963 : (.selects "VowCourt$Vow" ⟨"VowCourt$Vow", "partnerOf", "(I)I"⟩ ⟨"VowCourt$Vow", "partnerOf", "(I)I"⟩ : Cond) ∈ TB := TB_mem (List.mem_of_getElem? (i := 963) (by decide +kernel)) rfl
theorem w_964 : (.code yX3_partnerOf cX3_partnerOf 2 (some .int) : Cond) ∈ TB := TB_mem (List.mem_of_getElem? (i := 964) (by decide +kernel)) rfl
theorem w_965 : (.methodLink "VowCourt" 226 ⟨"java/lang/StringBuilder", "length", "()I"⟩ : Cond) ∈ TB := TB_mem (List.mem_of_getElem? (i := 965) (by decide +kernel)) rfl
theorem w_966 : (.instanceMethod ⟨"java/lang/StringBuilder", "length", "()I"⟩ : Cond) ∈ TB := TB_mem (List.mem_of_getElem? (i := 966) (by decide +kernel)) rfl
theorem w_967 : (.selects "java/lang/StringBuilder" ⟨"java/lang/StringBuilder", "length", "()I"⟩ ⟨"java/lang/StringBuilder", "length", "()I"⟩ : Cond) ∈ TB := TB_mem (List.mem_of_getElem? (i := 967) (by decide +kernel)) rfl
theorem w_968 : (.code yJ4_length_8abf5 cJ4_length_8abf5 1 (some .int) : Cond) ∈ TB := TB_mem (List.mem_of_getElem? (i := 968) (by decide +kernel)) rfl
theorem w_969 : (.methodLink "java/lang/StringBuilder" 343 ⟨"java/lang/AbstractStringBuilder", "length", "()I"⟩ : Cond) ∈ TB := TB_mem (List.mem_of_getElem? (i := 969) (by decide +kernel)) rfl
theorem w_970 : (.instanceMethod ⟨"java/lang/AbstractStringBuilder", "length", "()I"⟩ : Cond) ∈ TB := TB_mem (List.mem_of_getElem? (i := 970) (by decide +kernel)) rfl
theorem w_971 : (.code yJ5_length_8abf5 cJ5_length_8abf5 1 (some .int) : Cond) ∈ TB := TB_mem (List.mem_of_getElem? (i := 971) (by decide +kernel)) rfl
theorem w_972 : (.methodLink "VowCourt" 231 ⟨"java/lang/StringBuilder", "charAt", "(I)C"⟩ : Cond) ∈ TB := TB_mem (List.mem_of_getElem? (i := 972) (by decide +kernel)) rfl
theorem w_973 : (.instanceMethod ⟨"java/lang/StringBuilder", "charAt", "(I)C"⟩ : Cond) ∈ TB := TB_mem (List.mem_of_getElem? (i := 973) (by decide +kernel)) rfl
theorem w_974 : (.selects "java/lang/StringBuilder" ⟨"java/lang/StringBuilder", "charAt", "(I)C"⟩ ⟨"java/lang/StringBuilder", "charAt", "(I)C"⟩ : Cond) ∈ TB := TB_mem (List.mem_of_getElem? (i := 974) (by decide +kernel)) rfl
theorem w_975 : (.code yJ4_charAt_5068e cJ4_charAt_5068e 2 (some .char) : Cond) ∈ TB := TB_mem (List.mem_of_getElem? (i := 975) (by decide +kernel)) rfl
theorem w_976 : (.methodLink "java/lang/StringBuilder" 329 ⟨"java/lang/AbstractStringBuilder", "charAt", "(I)C"⟩ : Cond) ∈ TB := TB_mem (List.mem_of_getElem? (i := 976) (by decide +kernel)) rfl
theorem w_977 : (.instanceMethod ⟨"java/lang/AbstractStringBuilder", "charAt", "(I)C"⟩ : Cond) ∈ TB := TB_mem (List.mem_of_getElem? (i := 977) (by decide +kernel)) rfl
theorem w_978 : (.code yJ5_charAt_5068e cJ5_charAt_5068e 5 (some .char) : Cond) ∈ TB := TB_mem (List.mem_of_getElem? (i := 978) (by decide +kernel)) rfl
theorem w_979 : (.methodLink "java/lang/AbstractStringBuilder" 138 ⟨"java/lang/Math", "min", "(II)I"⟩ : Cond) ∈ TB := TB_mem (List.mem_of_getElem? (i := 979) (by decide +kernel)) rfl
theorem w_980 : (.methodLink "java/lang/AbstractStringBuilder" 144 ⟨"java/lang/String", "checkIndex", "(II)V"⟩ : Cond) ∈ TB := TB_mem (List.mem_of_getElem? (i := 980) (by decide +kernel)) rfl
theorem w_981 : (.static ⟨"java/lang/String", "checkIndex", "(II)V"⟩ : Cond) ∈ TB := TB_mem (List.mem_of_getElem? (i := 981) (by decide +kernel)) rfl
theorem w_982 : (.code yJ0_checkIndex_df160 cJ0_checkIndex_df160 2 none : Cond) ∈ TB := TB_mem (List.mem_of_getElem? (i := 982) (by decide +kernel)) rfl
theorem w_983 : (.methodLink "java/lang/String" 1059 ⟨"jdk/internal/util/Preconditions", "checkIndex", "(IILjava/util/function/BiFunction;)I"⟩ : Cond) ∈ TB := TB_mem (List.mem_of_getElem? (i := 983) (by decide +kernel)) rfl
theorem w_984 : (.methodLink "java/lang/AbstractStringBuilder" 148 ⟨"java/lang/StringUTF16", "getChar", "([BI)C"⟩ : Cond) ∈ TB := TB_mem (List.mem_of_getElem? (i := 984) (by decide +kernel)) rfl
theorem w_985 : (.static ⟨"java/lang/StringUTF16", "getChar", "([BI)C"⟩ : Cond) ∈ TB := TB_mem (List.mem_of_getElem? (i := 985) (by decide +kernel)) rfl
theorem w_986 : (.code yJ2_getChar_3b067 cJ2_getChar_3b067 2 (some .char) : Cond) ∈ TB := TB_mem (List.mem_of_getElem? (i := 986) (by decide +kernel)) rfl
theorem w_987 : (.classLink "VowCourtLaw" 113 "VowCourtModel" : Cond) ∈ TB := TB_mem (List.mem_of_getElem? (i := 987) (by decide +kernel)) rfl
theorem w_988 : (.instantiable "VowCourtModel" 33 : Cond) ∈ TB := TB_mem (List.mem_of_getElem? (i := 988) (by decide +kernel)) rfl
theorem w_989 : (.methodLink "VowCourtLaw" 115 ⟨"VowCourtModel", "<init>", "()V"⟩ : Cond) ∈ TB := TB_mem (List.mem_of_getElem? (i := 989) (by decide +kernel)) rfl
theorem w_990 : (.instanceMethod ⟨"VowCourtModel", "<init>", "()V"⟩ : Cond) ∈ TB := TB_mem (List.mem_of_getElem? (i := 990) (by decide +kernel)) rfl
theorem w_991 : (.code yX5_init cX5_init 1 none : Cond) ∈ TB := TB_mem (List.mem_of_getElem? (i := 991) (by decide +kernel)) rfl
theorem w_992 : (.methodLink "VowCourtModel" 1 ⟨"java/lang/Object", "<init>", "()V"⟩ : Cond) ∈ TB := TB_mem (List.mem_of_getElem? (i := 992) (by decide +kernel)) rfl
theorem w_993 : (.fieldLink "VowCourtModel" 117 "VowCourtModel" "day" "I" : Cond) ∈ TB := TB_mem (List.mem_of_getElem? (i := 993) (by decide +kernel)) rfl
theorem w_994 : (.fieldLink "VowCourtModel" 96 "VowCourtModel" "persons" "I" : Cond) ∈ TB := TB_mem (List.mem_of_getElem? (i := 994) (by decide +kernel)) rfl
theorem w_995 : (.fieldLink "VowCourtModel" 7 "VowCourtModel" "born" "[I" : Cond) ∈ TB := TB_mem (List.mem_of_getElem? (i := 995) (by decide +kernel)) rfl
theorem w_996 : (.fieldLink "VowCourtModel" 13 "VowCourtModel" "home" "[I" : Cond) ∈ TB := TB_mem (List.mem_of_getElem? (i := 996) (by decide +kernel)) rfl
theorem w_997 : (.fieldLink "VowCourtModel" 16 "VowCourtModel" "rite" "[I" : Cond) ∈ TB := TB_mem (List.mem_of_getElem? (i := 997) (by decide +kernel)) rfl
theorem w_998 : (.fieldLink "VowCourtModel" 19 "VowCourtModel" "isOrdered" "[Z" : Cond) ∈ TB := TB_mem (List.mem_of_getElem? (i := 998) (by decide +kernel)) rfl
theorem w_999 : (.fieldLink "VowCourtModel" 23 "VowCourtModel" "isBanned" "[Z" : Cond) ∈ TB := TB_mem (List.mem_of_getElem? (i := 999) (by decide +kernel)) rfl
theorem w_1000 : (.fieldLink "VowCourtModel" 26 "VowCourtModel" "isDead" "[Z" : Cond) ∈ TB := TB_mem (List.mem_of_getElem? (i := 1000) (by decide +kernel)) rfl
theorem w_1001 : (.fieldLink "VowCourtModel" 29 "VowCourtModel" "steps" "[I" : Cond) ∈ TB := TB_mem (List.mem_of_getElem? (i := 1001) (by decide +kernel)) rfl
theorem w_1002 : (.fieldLink "VowCourtModel" 32 "VowCourtModel" "dispensed" "[Z" : Cond) ∈ TB := TB_mem (List.mem_of_getElem? (i := 1002) (by decide +kernel)) rfl
theorem w_1003 : (.fieldLink "VowCourtModel" 35 "VowCourtModel" "until" "[I" : Cond) ∈ TB := TB_mem (List.mem_of_getElem? (i := 1003) (by decide +kernel)) rfl
theorem w_1004 : (.fieldLink "VowCourtModel" 38 "VowCourtModel" "isError" "[Z" : Cond) ∈ TB := TB_mem (List.mem_of_getElem? (i := 1004) (by decide +kernel)) rfl
theorem w_1005 : (.fieldLink "VowCourtModel" 103 "VowCourtModel" "vows" "I" : Cond) ∈ TB := TB_mem (List.mem_of_getElem? (i := 1005) (by decide +kernel)) rfl
theorem w_1006 : (.fieldLink "VowCourtModel" 41 "VowCourtModel" "one" "[I" : Cond) ∈ TB := TB_mem (List.mem_of_getElem? (i := 1006) (by decide +kernel)) rfl
theorem w_1007 : (.fieldLink "VowCourtModel" 44 "VowCourtModel" "other" "[I" : Cond) ∈ TB := TB_mem (List.mem_of_getElem? (i := 1007) (by decide +kernel)) rfl
theorem w_1008 : (.fieldLink "VowCourtModel" 47 "VowCourtModel" "place" "[I" : Cond) ∈ TB := TB_mem (List.mem_of_getElem? (i := 1008) (by decide +kernel)) rfl
theorem w_1009 : (.fieldLink "VowCourtModel" 50 "VowCourtModel" "vowed" "[I" : Cond) ∈ TB := TB_mem (List.mem_of_getElem? (i := 1009) (by decide +kernel)) rfl
theorem w_1010 : (.fieldLink "VowCourtModel" 53 "VowCourtModel" "lacks" "[Z" : Cond) ∈ TB := TB_mem (List.mem_of_getElem? (i := 1010) (by decide +kernel)) rfl
theorem w_1011 : (.fieldLink "VowCourtModel" 56 "VowCourtModel" "kept" "[I" : Cond) ∈ TB := TB_mem (List.mem_of_getElem? (i := 1011) (by decide +kernel)) rfl
theorem w_1012 : (.fieldLink "VowCourtModel" 59 "VowCourtModel" "state" "[I" : Cond) ∈ TB := TB_mem (List.mem_of_getElem? (i := 1012) (by decide +kernel)) rfl
theorem w_1013 : (.fieldLink "VowCourtModel" 62 "VowCourtModel" "since" "[I" : Cond) ∈ TB := TB_mem (List.mem_of_getElem? (i := 1013) (by decide +kernel)) rfl
theorem w_1014 : (.fieldLink "VowCourtModel" 161 "VowCourtModel" "causes" "I" : Cond) ∈ TB := TB_mem (List.mem_of_getElem? (i := 1014) (by decide +kernel)) rfl
theorem w_1015 : (.fieldLink "VowCourtModel" 65 "VowCourtModel" "vowOf" "[I" : Cond) ∈ TB := TB_mem (List.mem_of_getElem? (i := 1015) (by decide +kernel)) rfl
theorem w_1016 : (.fieldLink "VowCourtModel" 68 "VowCourtModel" "doubts" "[I" : Cond) ∈ TB := TB_mem (List.mem_of_getElem? (i := 1016) (by decide +kernel)) rfl
theorem w_1017 : (.fieldLink "VowCourtModel" 71 "VowCourtModel" "how" "[I" : Cond) ∈ TB := TB_mem (List.mem_of_getElem? (i := 1017) (by decide +kernel)) rfl
theorem w_1018 : (.fieldLink "VowCourtModel" 74 "VowCourtModel" "instance" "[I" : Cond) ∈ TB := TB_mem (List.mem_of_getElem? (i := 1018) (by decide +kernel)) rfl
theorem w_1019 : (.fieldLink "VowCourtModel" 77 "VowCourtModel" "weight" "[I" : Cond) ∈ TB := TB_mem (List.mem_of_getElem? (i := 1019) (by decide +kernel)) rfl
theorem w_1020 : (.fieldLink "VowCourtModel" 80 "VowCourtModel" "voted" "[I" : Cond) ∈ TB := TB_mem (List.mem_of_getElem? (i := 1020) (by decide +kernel)) rfl
theorem w_1021 : (.fieldLink "VowCourtModel" 83 "VowCourtModel" "vote" "[I" : Cond) ∈ TB := TB_mem (List.mem_of_getElem? (i := 1021) (by decide +kernel)) rfl
theorem w_1022 : (.fieldLink "VowCourtModel" 86 "VowCourtModel" "sentence" "[I" : Cond) ∈ TB := TB_mem (List.mem_of_getElem? (i := 1022) (by decide +kernel)) rfl
theorem w_1023 : (.fieldLink "VowCourtModel" 205 "VowCourtModel" "written" "I" : Cond) ∈ TB := TB_mem (List.mem_of_getElem? (i := 1023) (by decide +kernel)) rfl
theorem w_1024 : (.fieldLink "VowCourtModel" 89 "VowCourtModel" "text" "[I" : Cond) ∈ TB := TB_mem (List.mem_of_getElem? (i := 1024) (by decide +kernel)) rfl
theorem w_1025 : (.fieldLink "VowCourtModel" 92 "VowCourtModel" "thrown" "I" : Cond) ∈ TB := TB_mem (List.mem_of_getElem? (i := 1025) (by decide +kernel)) rfl
theorem w_1093 : (.methodLink "VowCourtLaw" 122 ⟨"VowCourtModel", "thrown", "()I"⟩ : Cond) ∈ TB := TB_mem (List.mem_of_getElem? (i := 1093) (by decide +kernel)) rfl
theorem w_1094 : (.instanceMethod ⟨"VowCourtModel", "thrown", "()I"⟩ : Cond) ∈ TB := TB_mem (List.mem_of_getElem? (i := 1094) (by decide +kernel)) rfl
theorem w_1095 : (.selects "VowCourtModel" ⟨"VowCourtModel", "thrown", "()I"⟩ ⟨"VowCourtModel", "thrown", "()I"⟩ : Cond) ∈ TB := TB_mem (List.mem_of_getElem? (i := 1095) (by decide +kernel)) rfl
theorem w_1096 : (.code yX5_thrown cX5_thrown 1 (some .int) : Cond) ∈ TB := TB_mem (List.mem_of_getElem? (i := 1096) (by decide +kernel)) rfl
theorem w_1097 : (.methodLink "VowCourtLaw" 121 ⟨"VowCourtModel", "person", "(IIII)I"⟩ : Cond) ∈ TB := TB_mem (List.mem_of_getElem? (i := 1097) (by decide +kernel)) rfl
theorem w_1098 : (.instanceMethod ⟨"VowCourtModel", "person", "(IIII)I"⟩ : Cond) ∈ TB := TB_mem (List.mem_of_getElem? (i := 1098) (by decide +kernel)) rfl
theorem w_1099 : (.selects "VowCourtModel" ⟨"VowCourtModel", "person", "(IIII)I"⟩ ⟨"VowCourtModel", "person", "(IIII)I"⟩ : Cond) ∈ TB := TB_mem (List.mem_of_getElem? (i := 1099) (by decide +kernel)) rfl
theorem w_1100 : (.code yX5_person cX5_person 12 (some .int) : Cond) ∈ TB := TB_mem (List.mem_of_getElem? (i := 1100) (by decide +kernel)) rfl
theorem w_1101 : (.methodLink "VowCourtModel" 106 ⟨"VowCourtModel", "isPerson", "(I)Z"⟩ : Cond) ∈ TB := TB_mem (List.mem_of_getElem? (i := 1101) (by decide +kernel)) rfl
theorem w_1103 : (.instanceMethod ⟨"VowCourtModel", "isPerson", "(I)Z"⟩ : Cond) ∈ TB := TB_mem (List.mem_of_getElem? (i := 1103) (by decide +kernel)) rfl
theorem w_1104 : (.code yX5_isPerson cX5_isPerson 2 (some .boolean) : Cond) ∈ TB := TB_mem (List.mem_of_getElem? (i := 1104) (by decide +kernel)) rfl
theorem w_1105 : (.methodLink "VowCourtModel" 99 ⟨"VowCourtModel", "isIn", "(III)Z"⟩ : Cond) ∈ TB := TB_mem (List.mem_of_getElem? (i := 1105) (by decide +kernel)) rfl
theorem w_1106 : (.static ⟨"VowCourtModel", "isIn", "(III)Z"⟩ : Cond) ∈ TB := TB_mem (List.mem_of_getElem? (i := 1106) (by decide +kernel)) rfl
theorem w_1107 : (.code yX5_isIn cX5_isIn 3 (some .boolean) : Cond) ∈ TB := TB_mem (List.mem_of_getElem? (i := 1107) (by decide +kernel)) rfl
theorem w_1108 : (.constant "VowCourtModel" 110 (36000) : Cond) ∈ TB := TB_mem (List.mem_of_getElem? (i := 1108) (by decide +kernel)) rfl
theorem w_1109 : (.methodLink "VowCourtModel" 111 ⟨"VowCourtModel", "isPlace", "(I)Z"⟩ : Cond) ∈ TB := TB_mem (List.mem_of_getElem? (i := 1109) (by decide +kernel)) rfl
theorem w_1110 : (.static ⟨"VowCourtModel", "isPlace", "(I)Z"⟩ : Cond) ∈ TB := TB_mem (List.mem_of_getElem? (i := 1110) (by decide +kernel)) rfl
theorem w_1111 : (.code yX5_isPlace cX5_isPlace 1 (some .boolean) : Cond) ∈ TB := TB_mem (List.mem_of_getElem? (i := 1111) (by decide +kernel)) rfl
theorem w_1112 : (.methodLink "VowCourtModel" 114 ⟨"VowCourtModel", "fails", "(I)Z"⟩ : Cond) ∈ TB := TB_mem (List.mem_of_getElem? (i := 1112) (by decide +kernel)) rfl
theorem w_1114 : (.instanceMethod ⟨"VowCourtModel", "fails", "(I)Z"⟩ : Cond) ∈ TB := TB_mem (List.mem_of_getElem? (i := 1114) (by decide +kernel)) rfl
theorem w_1115 : (.code yX5_fails cX5_fails 2 (some .boolean) : Cond) ∈ TB := TB_mem (List.mem_of_getElem? (i := 1115) (by decide +kernel)) rfl
theorem w_1116 : (.methodLink "VowCourtLaw" 129 ⟨"VowCourtModel", "rite", "(II)I"⟩ : Cond) ∈ TB := TB_mem (List.mem_of_getElem? (i := 1116) (by decide +kernel)) rfl
theorem w_1117 : (.instanceMethod ⟨"VowCourtModel", "rite", "(II)I"⟩ : Cond) ∈ TB := TB_mem (List.mem_of_getElem? (i := 1117) (by decide +kernel)) rfl
theorem w_1118 : (.selects "VowCourtModel" ⟨"VowCourtModel", "rite", "(II)I"⟩ ⟨"VowCourtModel", "rite", "(II)I"⟩ : Cond) ∈ TB := TB_mem (List.mem_of_getElem? (i := 1118) (by decide +kernel)) rfl
theorem w_1119 : (.code yX5_rite cX5_rite 4 (some .int) : Cond) ∈ TB := TB_mem (List.mem_of_getElem? (i := 1119) (by decide +kernel)) rfl
theorem w_1120 : (.methodLink "VowCourtLaw" 132 ⟨"VowCourtModel", "home", "(II)I"⟩ : Cond) ∈ TB := TB_mem (List.mem_of_getElem? (i := 1120) (by decide +kernel)) rfl
theorem w_1121 : (.instanceMethod ⟨"VowCourtModel", "home", "(II)I"⟩ : Cond) ∈ TB := TB_mem (List.mem_of_getElem? (i := 1121) (by decide +kernel)) rfl
theorem w_1122 : (.selects "VowCourtModel" ⟨"VowCourtModel", "home", "(II)I"⟩ ⟨"VowCourtModel", "home", "(II)I"⟩ : Cond) ∈ TB := TB_mem (List.mem_of_getElem? (i := 1122) (by decide +kernel)) rfl
theorem w_1123 : (.code yX5_home cX5_home 4 (some .int) : Cond) ∈ TB := TB_mem (List.mem_of_getElem? (i := 1123) (by decide +kernel)) rfl
theorem w_1124 : (.methodLink "VowCourtLaw" 136 ⟨"VowCourtModel", "order", "(I)V"⟩ : Cond) ∈ TB := TB_mem (List.mem_of_getElem? (i := 1124) (by decide +kernel)) rfl
theorem w_1125 : (.instanceMethod ⟨"VowCourtModel", "order", "(I)V"⟩ : Cond) ∈ TB := TB_mem (List.mem_of_getElem? (i := 1125) (by decide +kernel)) rfl
theorem w_1126 : (.selects "VowCourtModel" ⟨"VowCourtModel", "order", "(I)V"⟩ ⟨"VowCourtModel", "order", "(I)V"⟩ : Cond) ∈ TB := TB_mem (List.mem_of_getElem? (i := 1126) (by decide +kernel)) rfl
theorem w_1127 : (.code yX5_order cX5_order 2 none : Cond) ∈ TB := TB_mem (List.mem_of_getElem? (i := 1127) (by decide +kernel)) rfl
theorem w_1128 : (.methodLink "VowCourtLaw" 140 ⟨"VowCourtModel", "ban", "(I)Z"⟩ : Cond) ∈ TB := TB_mem (List.mem_of_getElem? (i := 1128) (by decide +kernel)) rfl
theorem w_1129 : (.instanceMethod ⟨"VowCourtModel", "ban", "(I)Z"⟩ : Cond) ∈ TB := TB_mem (List.mem_of_getElem? (i := 1129) (by decide +kernel)) rfl
theorem w_1130 : (.selects "VowCourtModel" ⟨"VowCourtModel", "ban", "(I)Z"⟩ ⟨"VowCourtModel", "ban", "(I)Z"⟩ : Cond) ∈ TB := TB_mem (List.mem_of_getElem? (i := 1130) (by decide +kernel)) rfl
theorem w_1131 : (.code yX5_ban cX5_ban 2 (some .boolean) : Cond) ∈ TB := TB_mem (List.mem_of_getElem? (i := 1131) (by decide +kernel)) rfl
theorem w_1132 : (.methodLink "VowCourtLaw" 143 ⟨"VowCourtModel", "die", "(I)I"⟩ : Cond) ∈ TB := TB_mem (List.mem_of_getElem? (i := 1132) (by decide +kernel)) rfl
theorem w_1133 : (.instanceMethod ⟨"VowCourtModel", "die", "(I)I"⟩ : Cond) ∈ TB := TB_mem (List.mem_of_getElem? (i := 1133) (by decide +kernel)) rfl
theorem w_1134 : (.selects "VowCourtModel" ⟨"VowCourtModel", "die", "(I)I"⟩ ⟨"VowCourtModel", "die", "(I)I"⟩ : Cond) ∈ TB := TB_mem (List.mem_of_getElem? (i := 1134) (by decide +kernel)) rfl
theorem w_1135 : (.code yX5_die cX5_die 4 (some .int) : Cond) ∈ TB := TB_mem (List.mem_of_getElem? (i := 1135) (by decide +kernel)) rfl
theorem w_1136 : (.methodLink "VowCourtModel" 120 ⟨"VowCourtModel", "ends", "(II)V"⟩ : Cond) ∈ TB := TB_mem (List.mem_of_getElem? (i := 1136) (by decide +kernel)) rfl
theorem w_1138 : (.instanceMethod ⟨"VowCourtModel", "ends", "(II)V"⟩ : Cond) ∈ TB := TB_mem (List.mem_of_getElem? (i := 1138) (by decide +kernel)) rfl
theorem w_1139 : (.code yX5_ends cX5_ends 3 none : Cond) ∈ TB := TB_mem (List.mem_of_getElem? (i := 1139) (by decide +kernel)) rfl
theorem w_1140 : (.methodLink "VowCourtLaw" 147 ⟨"VowCourtModel", "dispense", "(III)V"⟩ : Cond) ∈ TB := TB_mem (List.mem_of_getElem? (i := 1140) (by decide +kernel)) rfl
theorem w_1141 : (.instanceMethod ⟨"VowCourtModel", "dispense", "(III)V"⟩ : Cond) ∈ TB := TB_mem (List.mem_of_getElem? (i := 1141) (by decide +kernel)) rfl
theorem w_1142 : (.selects "VowCourtModel" ⟨"VowCourtModel", "dispense", "(III)V"⟩ ⟨"VowCourtModel", "dispense", "(III)V"⟩ : Cond) ∈ TB := TB_mem (List.mem_of_getElem? (i := 1142) (by decide +kernel)) rfl
theorem w_1143 : (.code yX5_dispense cX5_dispense 6 none : Cond) ∈ TB := TB_mem (List.mem_of_getElem? (i := 1143) (by decide +kernel)) rfl
theorem w_1144 : (.methodLink "VowCourtModel" 142 ⟨"VowCourtModel", "canDispense", "(III)Z"⟩ : Cond) ∈ TB := TB_mem (List.mem_of_getElem? (i := 1144) (by decide +kernel)) rfl
theorem w_1146 : (.instanceMethod ⟨"VowCourtModel", "canDispense", "(III)Z"⟩ : Cond) ∈ TB := TB_mem (List.mem_of_getElem? (i := 1146) (by decide +kernel)) rfl
theorem w_1147 : (.code yX5_canDispense cX5_canDispense 5 (some .boolean) : Cond) ∈ TB := TB_mem (List.mem_of_getElem? (i := 1147) (by decide +kernel)) rfl
theorem w_1148 : (.methodLink "VowCourtModel" 135 ⟨"VowCourtModel", "hinders", "(II)I"⟩ : Cond) ∈ TB := TB_mem (List.mem_of_getElem? (i := 1148) (by decide +kernel)) rfl
theorem w_1150 : (.instanceMethod ⟨"VowCourtModel", "hinders", "(II)I"⟩ : Cond) ∈ TB := TB_mem (List.mem_of_getElem? (i := 1150) (by decide +kernel)) rfl
theorem w_1151 : (.code yX5_hinders cX5_hinders 3 (some .int) : Cond) ∈ TB := TB_mem (List.mem_of_getElem? (i := 1151) (by decide +kernel)) rfl
theorem w_1152 : (.methodLink "VowCourtModel" 128 ⟨"VowCourtModel", "isYoung", "(III)Z"⟩ : Cond) ∈ TB := TB_mem (List.mem_of_getElem? (i := 1152) (by decide +kernel)) rfl
theorem w_1154 : (.instanceMethod ⟨"VowCourtModel", "isYoung", "(III)Z"⟩ : Cond) ∈ TB := TB_mem (List.mem_of_getElem? (i := 1154) (by decide +kernel)) rfl
theorem w_1155 : (.code yX5_isYoung cX5_isYoung 4 (some .boolean) : Cond) ∈ TB := TB_mem (List.mem_of_getElem? (i := 1155) (by decide +kernel)) rfl
theorem w_1156 : (.methodLink "VowCourtModel" 131 ⟨"VowCourtModel", "areKin", "(II)Z"⟩ : Cond) ∈ TB := TB_mem (List.mem_of_getElem? (i := 1156) (by decide +kernel)) rfl
theorem w_1158 : (.instanceMethod ⟨"VowCourtModel", "areKin", "(II)Z"⟩ : Cond) ∈ TB := TB_mem (List.mem_of_getElem? (i := 1158) (by decide +kernel)) rfl
theorem w_1159 : (.code yX5_areKin cX5_areKin 4 (some .boolean) : Cond) ∈ TB := TB_mem (List.mem_of_getElem? (i := 1159) (by decide +kernel)) rfl
theorem w_1160 : (.methodLink "VowCourtModel" 124 ⟨"VowCourtModel", "kinOf", "(II)I"⟩ : Cond) ∈ TB := TB_mem (List.mem_of_getElem? (i := 1160) (by decide +kernel)) rfl
theorem w_1162 : (.instanceMethod ⟨"VowCourtModel", "kinOf", "(II)I"⟩ : Cond) ∈ TB := TB_mem (List.mem_of_getElem? (i := 1162) (by decide +kernel)) rfl
theorem w_1163 : (.code yX5_kinOf cX5_kinOf 9 (some .int) : Cond) ∈ TB := TB_mem (List.mem_of_getElem? (i := 1163) (by decide +kernel)) rfl
theorem w_1164 : (.methodLink "VowCourtModel" 138 ⟨"VowCourtModel", "placeOf", "(III)I"⟩ : Cond) ∈ TB := TB_mem (List.mem_of_getElem? (i := 1164) (by decide +kernel)) rfl
theorem w_1165 : (.static ⟨"VowCourtModel", "placeOf", "(III)I"⟩ : Cond) ∈ TB := TB_mem (List.mem_of_getElem? (i := 1165) (by decide +kernel)) rfl
theorem w_1166 : (.code yX5_placeOf cX5_placeOf 4 (some .int) : Cond) ∈ TB := TB_mem (List.mem_of_getElem? (i := 1166) (by decide +kernel)) rfl
theorem w_1167 : (.methodLink "VowCourtLaw" 150 ⟨"VowCourtModel", "faculty", "(III)V"⟩ : Cond) ∈ TB := TB_mem (List.mem_of_getElem? (i := 1167) (by decide +kernel)) rfl
theorem w_1168 : (.instanceMethod ⟨"VowCourtModel", "faculty", "(III)V"⟩ : Cond) ∈ TB := TB_mem (List.mem_of_getElem? (i := 1168) (by decide +kernel)) rfl
theorem w_1169 : (.selects "VowCourtModel" ⟨"VowCourtModel", "faculty", "(III)V"⟩ ⟨"VowCourtModel", "faculty", "(III)V"⟩ : Cond) ∈ TB := TB_mem (List.mem_of_getElem? (i := 1169) (by decide +kernel)) rfl
theorem w_1170 : (.code yX5_faculty cX5_faculty 4 none : Cond) ∈ TB := TB_mem (List.mem_of_getElem? (i := 1170) (by decide +kernel)) rfl
theorem w_1171 : (.methodLink "VowCourtModel" 145 ⟨"VowCourtModel", "isWitness", "(I)Z"⟩ : Cond) ∈ TB := TB_mem (List.mem_of_getElem? (i := 1171) (by decide +kernel)) rfl
theorem w_1172 : (.static ⟨"VowCourtModel", "isWitness", "(I)Z"⟩ : Cond) ∈ TB := TB_mem (List.mem_of_getElem? (i := 1172) (by decide +kernel)) rfl
theorem w_1173 : (.code yX5_isWitness cX5_isWitness 1 (some .boolean) : Cond) ∈ TB := TB_mem (List.mem_of_getElem? (i := 1173) (by decide +kernel)) rfl
theorem w_1174 : (.methodLink "VowCourtLaw" 153 ⟨"VowCourtModel", "error", "(I)Z"⟩ : Cond) ∈ TB := TB_mem (List.mem_of_getElem? (i := 1174) (by decide +kernel)) rfl
theorem w_1175 : (.instanceMethod ⟨"VowCourtModel", "error", "(I)Z"⟩ : Cond) ∈ TB := TB_mem (List.mem_of_getElem? (i := 1175) (by decide +kernel)) rfl
theorem w_1176 : (.selects "VowCourtModel" ⟨"VowCourtModel", "error", "(I)Z"⟩ ⟨"VowCourtModel", "error", "(I)Z"⟩ : Cond) ∈ TB := TB_mem (List.mem_of_getElem? (i := 1176) (by decide +kernel)) rfl
theorem w_1177 : (.code yX5_error cX5_error 2 (some .boolean) : Cond) ∈ TB := TB_mem (List.mem_of_getElem? (i := 1177) (by decide +kernel)) rfl
theorem w_1178 : (.methodLink "VowCourtLaw" 156 ⟨"VowCourtModel", "vow", "(IIII)I"⟩ : Cond) ∈ TB := TB_mem (List.mem_of_getElem? (i := 1178) (by decide +kernel)) rfl
theorem w_1179 : (.instanceMethod ⟨"VowCourtModel", "vow", "(IIII)I"⟩ : Cond) ∈ TB := TB_mem (List.mem_of_getElem? (i := 1179) (by decide +kernel)) rfl
theorem w_1180 : (.selects "VowCourtModel" ⟨"VowCourtModel", "vow", "(IIII)I"⟩ ⟨"VowCourtModel", "vow", "(IIII)I"⟩ : Cond) ∈ TB := TB_mem (List.mem_of_getElem? (i := 1180) (by decide +kernel)) rfl
theorem w_1181 : (.code yX5_vow cX5_vow 9 (some .int) : Cond) ∈ TB := TB_mem (List.mem_of_getElem? (i := 1181) (by decide +kernel)) rfl
theorem w_1182 : (.methodLink "VowCourtLaw" 159 ⟨"VowCourtModel", "heal", "(I)V"⟩ : Cond) ∈ TB := TB_mem (List.mem_of_getElem? (i := 1182) (by decide +kernel)) rfl
theorem w_1183 : (.instanceMethod ⟨"VowCourtModel", "heal", "(I)V"⟩ : Cond) ∈ TB := TB_mem (List.mem_of_getElem? (i := 1183) (by decide +kernel)) rfl
theorem w_1184 : (.selects "VowCourtModel" ⟨"VowCourtModel", "heal", "(I)V"⟩ ⟨"VowCourtModel", "heal", "(I)V"⟩ : Cond) ∈ TB := TB_mem (List.mem_of_getElem? (i := 1184) (by decide +kernel)) rfl
theorem w_1185 : (.code yX5_heal cX5_heal 3 none : Cond) ∈ TB := TB_mem (List.mem_of_getElem? (i := 1185) (by decide +kernel)) rfl
theorem w_1186 : (.methodLink "VowCourtModel" 154 ⟨"VowCourtModel", "isVow", "(I)Z"⟩ : Cond) ∈ TB := TB_mem (List.mem_of_getElem? (i := 1186) (by decide +kernel)) rfl
theorem w_1188 : (.instanceMethod ⟨"VowCourtModel", "isVow", "(I)Z"⟩ : Cond) ∈ TB := TB_mem (List.mem_of_getElem? (i := 1188) (by decide +kernel)) rfl
theorem w_1189 : (.code yX5_isVow cX5_isVow 2 (some .boolean) : Cond) ∈ TB := TB_mem (List.mem_of_getElem? (i := 1189) (by decide +kernel)) rfl
theorem w_1190 : (.methodLink "VowCourtModel" 157 ⟨"VowCourtModel", "hinderedBy", "(I)I"⟩ : Cond) ∈ TB := TB_mem (List.mem_of_getElem? (i := 1190) (by decide +kernel)) rfl
theorem w_1192 : (.instanceMethod ⟨"VowCourtModel", "hinderedBy", "(I)I"⟩ : Cond) ∈ TB := TB_mem (List.mem_of_getElem? (i := 1192) (by decide +kernel)) rfl
theorem w_1193 : (.code yX5_hinderedBy cX5_hinderedBy 4 (some .int) : Cond) ∈ TB := TB_mem (List.mem_of_getElem? (i := 1193) (by decide +kernel)) rfl
theorem w_1194 : (.methodLink "VowCourtModel" 148 ⟨"VowCourtModel", "isOf", "(II)Z"⟩ : Cond) ∈ TB := TB_mem (List.mem_of_getElem? (i := 1194) (by decide +kernel)) rfl
theorem w_1196 : (.instanceMethod ⟨"VowCourtModel", "isOf", "(II)Z"⟩ : Cond) ∈ TB := TB_mem (List.mem_of_getElem? (i := 1196) (by decide +kernel)) rfl
theorem w_1197 : (.code yX5_isOf cX5_isOf 3 (some .boolean) : Cond) ∈ TB := TB_mem (List.mem_of_getElem? (i := 1197) (by decide +kernel)) rfl
theorem w_1198 : (.methodLink "VowCourtModel" 151 ⟨"VowCourtModel", "binds", "(II)Z"⟩ : Cond) ∈ TB := TB_mem (List.mem_of_getElem? (i := 1198) (by decide +kernel)) rfl
theorem w_1200 : (.instanceMethod ⟨"VowCourtModel", "binds", "(II)Z"⟩ : Cond) ∈ TB := TB_mem (List.mem_of_getElem? (i := 1200) (by decide +kernel)) rfl
theorem w_1201 : (.code yX5_binds cX5_binds 3 (some .boolean) : Cond) ∈ TB := TB_mem (List.mem_of_getElem? (i := 1201) (by decide +kernel)) rfl
theorem w_1202 : (.methodLink "VowCourtLaw" 162 ⟨"VowCourtModel", "grace", "(I)V"⟩ : Cond) ∈ TB := TB_mem (List.mem_of_getElem? (i := 1202) (by decide +kernel)) rfl
theorem w_1203 : (.instanceMethod ⟨"VowCourtModel", "grace", "(I)V"⟩ : Cond) ∈ TB := TB_mem (List.mem_of_getElem? (i := 1203) (by decide +kernel)) rfl
theorem w_1204 : (.selects "VowCourtModel" ⟨"VowCourtModel", "grace", "(I)V"⟩ ⟨"VowCourtModel", "grace", "(I)V"⟩ : Cond) ∈ TB := TB_mem (List.mem_of_getElem? (i := 1204) (by decide +kernel)) rfl
theorem w_1205 : (.code yX5_grace cX5_grace 3 none : Cond) ∈ TB := TB_mem (List.mem_of_getElem? (i := 1205) (by decide +kernel)) rfl
theorem w_1206 : (.methodLink "VowCourtModel" 167 ⟨"VowCourtModel", "isQuiet", "(II)Z"⟩ : Cond) ∈ TB := TB_mem (List.mem_of_getElem? (i := 1206) (by decide +kernel)) rfl
theorem w_1208 : (.instanceMethod ⟨"VowCourtModel", "isQuiet", "(II)Z"⟩ : Cond) ∈ TB := TB_mem (List.mem_of_getElem? (i := 1208) (by decide +kernel)) rfl
theorem w_1209 : (.code yX5_isQuiet cX5_isQuiet 5 (some .boolean) : Cond) ∈ TB := TB_mem (List.mem_of_getElem? (i := 1209) (by decide +kernel)) rfl
theorem w_1210 : (.methodLink "VowCourtModel" 164 ⟨"VowCourtModel", "isOver", "(I)Z"⟩ : Cond) ∈ TB := TB_mem (List.mem_of_getElem? (i := 1210) (by decide +kernel)) rfl
theorem w_1211 : (.static ⟨"VowCourtModel", "isOver", "(I)Z"⟩ : Cond) ∈ TB := TB_mem (List.mem_of_getElem? (i := 1211) (by decide +kernel)) rfl
theorem w_1212 : (.code yX5_isOver cX5_isOver 1 (some .boolean) : Cond) ∈ TB := TB_mem (List.mem_of_getElem? (i := 1212) (by decide +kernel)) rfl
theorem w_1213 : (.methodLink "VowCourtLaw" 165 ⟨"VowCourtModel", "documents", "(I)I"⟩ : Cond) ∈ TB := TB_mem (List.mem_of_getElem? (i := 1213) (by decide +kernel)) rfl
theorem w_1214 : (.instanceMethod ⟨"VowCourtModel", "documents", "(I)I"⟩ : Cond) ∈ TB := TB_mem (List.mem_of_getElem? (i := 1214) (by decide +kernel)) rfl
theorem w_1215 : (.selects "VowCourtModel" ⟨"VowCourtModel", "documents", "(I)I"⟩ ⟨"VowCourtModel", "documents", "(I)I"⟩ : Cond) ∈ TB := TB_mem (List.mem_of_getElem? (i := 1215) (by decide +kernel)) rfl
theorem w_1216 : (.code yX5_documents cX5_documents 3 (some .int) : Cond) ∈ TB := TB_mem (List.mem_of_getElem? (i := 1216) (by decide +kernel)) rfl
theorem w_1217 : (.methodLink "VowCourtModel" 170 ⟨"VowCourtModel", "isTold", "(I)Z"⟩ : Cond) ∈ TB := TB_mem (List.mem_of_getElem? (i := 1217) (by decide +kernel)) rfl
theorem w_1219 : (.instanceMethod ⟨"VowCourtModel", "isTold", "(I)Z"⟩ : Cond) ∈ TB := TB_mem (List.mem_of_getElem? (i := 1219) (by decide +kernel)) rfl
theorem w_1220 : (.code yX5_isTold cX5_isTold 2 (some .boolean) : Cond) ∈ TB := TB_mem (List.mem_of_getElem? (i := 1220) (by decide +kernel)) rfl
theorem w_1221 : (.methodLink "VowCourtLaw" 169 ⟨"VowCourtModel", "cause", "(IIIZ)I"⟩ : Cond) ∈ TB := TB_mem (List.mem_of_getElem? (i := 1221) (by decide +kernel)) rfl
theorem w_1222 : (.instanceMethod ⟨"VowCourtModel", "cause", "(IIIZ)I"⟩ : Cond) ∈ TB := TB_mem (List.mem_of_getElem? (i := 1222) (by decide +kernel)) rfl
theorem w_1223 : (.selects "VowCourtModel" ⟨"VowCourtModel", "cause", "(IIIZ)I"⟩ ⟨"VowCourtModel", "cause", "(IIIZ)I"⟩ : Cond) ∈ TB := TB_mem (List.mem_of_getElem? (i := 1223) (by decide +kernel)) rfl
theorem w_1224 : (.code yX5_cause cX5_cause 8 (some .int) : Cond) ∈ TB := TB_mem (List.mem_of_getElem? (i := 1224) (by decide +kernel)) rfl
theorem w_1225 : (.methodLink "VowCourtModel" 173 ⟨"VowCourtModel", "isDoubt", "(I)Z"⟩ : Cond) ∈ TB := TB_mem (List.mem_of_getElem? (i := 1225) (by decide +kernel)) rfl
theorem w_1226 : (.static ⟨"VowCourtModel", "isDoubt", "(I)Z"⟩ : Cond) ∈ TB := TB_mem (List.mem_of_getElem? (i := 1226) (by decide +kernel)) rfl
theorem w_1227 : (.code yX5_isDoubt cX5_isDoubt 1 (some .boolean) : Cond) ∈ TB := TB_mem (List.mem_of_getElem? (i := 1227) (by decide +kernel)) rfl
theorem w_1228 : (.methodLink "VowCourtModel" 176 ⟨"VowCourtModel", "has", "(II)Z"⟩ : Cond) ∈ TB := TB_mem (List.mem_of_getElem? (i := 1228) (by decide +kernel)) rfl
theorem w_1230 : (.instanceMethod ⟨"VowCourtModel", "has", "(II)Z"⟩ : Cond) ∈ TB := TB_mem (List.mem_of_getElem? (i := 1230) (by decide +kernel)) rfl
theorem w_1231 : (.code yX5_has cX5_has 3 (some .boolean) : Cond) ∈ TB := TB_mem (List.mem_of_getElem? (i := 1231) (by decide +kernel)) rfl
theorem w_1232 : (.methodLink "VowCourtLaw" 172 ⟨"VowCourtModel", "doubt", "(II)I"⟩ : Cond) ∈ TB := TB_mem (List.mem_of_getElem? (i := 1232) (by decide +kernel)) rfl
theorem w_1233 : (.instanceMethod ⟨"VowCourtModel", "doubt", "(II)I"⟩ : Cond) ∈ TB := TB_mem (List.mem_of_getElem? (i := 1233) (by decide +kernel)) rfl
theorem w_1234 : (.selects "VowCourtModel" ⟨"VowCourtModel", "doubt", "(II)I"⟩ ⟨"VowCourtModel", "doubt", "(II)I"⟩ : Cond) ∈ TB := TB_mem (List.mem_of_getElem? (i := 1234) (by decide +kernel)) rfl
theorem w_1235 : (.code yX5_doubt cX5_doubt 4 (some .int) : Cond) ∈ TB := TB_mem (List.mem_of_getElem? (i := 1235) (by decide +kernel)) rfl
theorem w_1236 : (.methodLink "VowCourtModel" 179 ⟨"VowCourtModel", "isCause", "(I)Z"⟩ : Cond) ∈ TB := TB_mem (List.mem_of_getElem? (i := 1236) (by decide +kernel)) rfl
theorem w_1238 : (.instanceMethod ⟨"VowCourtModel", "isCause", "(I)Z"⟩ : Cond) ∈ TB := TB_mem (List.mem_of_getElem? (i := 1238) (by decide +kernel)) rfl
theorem w_1239 : (.code yX5_isCause cX5_isCause 2 (some .boolean) : Cond) ∈ TB := TB_mem (List.mem_of_getElem? (i := 1239) (by decide +kernel)) rfl
theorem w_1240 : (.methodLink "VowCourtLaw" 176 ⟨"VowCourtModel", "proof", "(III)I"⟩ : Cond) ∈ TB := TB_mem (List.mem_of_getElem? (i := 1240) (by decide +kernel)) rfl
theorem w_1241 : (.instanceMethod ⟨"VowCourtModel", "proof", "(III)I"⟩ : Cond) ∈ TB := TB_mem (List.mem_of_getElem? (i := 1241) (by decide +kernel)) rfl
theorem w_1242 : (.selects "VowCourtModel" ⟨"VowCourtModel", "proof", "(III)I"⟩ ⟨"VowCourtModel", "proof", "(III)I"⟩ : Cond) ∈ TB := TB_mem (List.mem_of_getElem? (i := 1242) (by decide +kernel)) rfl
theorem w_1243 : (.code yX5_proof cX5_proof 6 (some .int) : Cond) ∈ TB := TB_mem (List.mem_of_getElem? (i := 1243) (by decide +kernel)) rfl
theorem w_1244 : (.methodLink "VowCourtModel" 182 ⟨"VowCourtModel", "hasGround", "(II)Z"⟩ : Cond) ∈ TB := TB_mem (List.mem_of_getElem? (i := 1244) (by decide +kernel)) rfl
theorem w_1245 : (.static ⟨"VowCourtModel", "hasGround", "(II)Z"⟩ : Cond) ∈ TB := TB_mem (List.mem_of_getElem? (i := 1245) (by decide +kernel)) rfl
theorem w_1246 : (.code yX5_hasGround cX5_hasGround 2 (some .boolean) : Cond) ∈ TB := TB_mem (List.mem_of_getElem? (i := 1246) (by decide +kernel)) rfl
theorem w_1247 : (.methodLink "VowCourtLaw" 179 ⟨"VowCourtModel", "publish", "(I)I"⟩ : Cond) ∈ TB := TB_mem (List.mem_of_getElem? (i := 1247) (by decide +kernel)) rfl
theorem w_1248 : (.instanceMethod ⟨"VowCourtModel", "publish", "(I)I"⟩ : Cond) ∈ TB := TB_mem (List.mem_of_getElem? (i := 1248) (by decide +kernel)) rfl
theorem w_1249 : (.selects "VowCourtModel" ⟨"VowCourtModel", "publish", "(I)I"⟩ ⟨"VowCourtModel", "publish", "(I)I"⟩ : Cond) ∈ TB := TB_mem (List.mem_of_getElem? (i := 1249) (by decide +kernel)) rfl
theorem w_1250 : (.code yX5_publish cX5_publish 2 (some .int) : Cond) ∈ TB := TB_mem (List.mem_of_getElem? (i := 1250) (by decide +kernel)) rfl
theorem w_1251 : (.methodLink "VowCourtModel" 185 ⟨"VowCourtModel", "proven", "(I)I"⟩ : Cond) ∈ TB := TB_mem (List.mem_of_getElem? (i := 1251) (by decide +kernel)) rfl
theorem w_1253 : (.instanceMethod ⟨"VowCourtModel", "proven", "(I)I"⟩ : Cond) ∈ TB := TB_mem (List.mem_of_getElem? (i := 1253) (by decide +kernel)) rfl
theorem w_1254 : (.code yX5_proven cX5_proven 4 (some .int) : Cond) ∈ TB := TB_mem (List.mem_of_getElem? (i := 1254) (by decide +kernel)) rfl
theorem w_1255 : (.methodLink "VowCourtLaw" 182 ⟨"VowCourtModel", "vote", "(III)I"⟩ : Cond) ∈ TB := TB_mem (List.mem_of_getElem? (i := 1255) (by decide +kernel)) rfl
theorem w_1256 : (.instanceMethod ⟨"VowCourtModel", "vote", "(III)I"⟩ : Cond) ∈ TB := TB_mem (List.mem_of_getElem? (i := 1256) (by decide +kernel)) rfl
theorem w_1257 : (.selects "VowCourtModel" ⟨"VowCourtModel", "vote", "(III)I"⟩ ⟨"VowCourtModel", "vote", "(III)I"⟩ : Cond) ∈ TB := TB_mem (List.mem_of_getElem? (i := 1257) (by decide +kernel)) rfl
theorem w_1258 : (.code yX5_vote cX5_vote 7 (some .int) : Cond) ∈ TB := TB_mem (List.mem_of_getElem? (i := 1258) (by decide +kernel)) rfl
theorem w_1259 : (.methodLink "VowCourtLaw" 185 ⟨"VowCourtModel", "sentence", "(I)I"⟩ : Cond) ∈ TB := TB_mem (List.mem_of_getElem? (i := 1259) (by decide +kernel)) rfl
theorem w_1260 : (.instanceMethod ⟨"VowCourtModel", "sentence", "(I)I"⟩ : Cond) ∈ TB := TB_mem (List.mem_of_getElem? (i := 1260) (by decide +kernel)) rfl
theorem w_1261 : (.selects "VowCourtModel" ⟨"VowCourtModel", "sentence", "(I)I"⟩ ⟨"VowCourtModel", "sentence", "(I)I"⟩ : Cond) ∈ TB := TB_mem (List.mem_of_getElem? (i := 1261) (by decide +kernel)) rfl
theorem w_1262 : (.code yX5_sentence cX5_sentence 5 (some .int) : Cond) ∈ TB := TB_mem (List.mem_of_getElem? (i := 1262) (by decide +kernel)) rfl
theorem w_1263 : (.methodLink "VowCourtModel" 191 ⟨"VowCourtModel", "decides", "(IZ)V"⟩ : Cond) ∈ TB := TB_mem (List.mem_of_getElem? (i := 1263) (by decide +kernel)) rfl
theorem w_1265 : (.instanceMethod ⟨"VowCourtModel", "decides", "(IZ)V"⟩ : Cond) ∈ TB := TB_mem (List.mem_of_getElem? (i := 1265) (by decide +kernel)) rfl
theorem w_1266 : (.code yX5_decides cX5_decides 3 none : Cond) ∈ TB := TB_mem (List.mem_of_getElem? (i := 1266) (by decide +kernel)) rfl
theorem w_1267 : (.methodLink "VowCourtModel" 195 ⟨"VowCourtModel", "opens", "(II)V"⟩ : Cond) ∈ TB := TB_mem (List.mem_of_getElem? (i := 1267) (by decide +kernel)) rfl
theorem w_1269 : (.instanceMethod ⟨"VowCourtModel", "opens", "(II)V"⟩ : Cond) ∈ TB := TB_mem (List.mem_of_getElem? (i := 1269) (by decide +kernel)) rfl
theorem w_1270 : (.code yX5_opens cX5_opens 4 none : Cond) ∈ TB := TB_mem (List.mem_of_getElem? (i := 1270) (by decide +kernel)) rfl
theorem w_1271 : (.methodLink "VowCourtModel" 198 ⟨"VowCourtModel", "areLike", "(II)Z"⟩ : Cond) ∈ TB := TB_mem (List.mem_of_getElem? (i := 1271) (by decide +kernel)) rfl
theorem w_1272 : (.static ⟨"VowCourtModel", "areLike", "(II)Z"⟩ : Cond) ∈ TB := TB_mem (List.mem_of_getElem? (i := 1272) (by decide +kernel)) rfl
theorem w_1273 : (.code yX5_areLike cX5_areLike 2 (some .boolean) : Cond) ∈ TB := TB_mem (List.mem_of_getElem? (i := 1273) (by decide +kernel)) rfl
theorem w_1274 : (.methodLink "VowCourtModel" 188 ⟨"VowCourtModel", "effects", "(I)I"⟩ : Cond) ∈ TB := TB_mem (List.mem_of_getElem? (i := 1274) (by decide +kernel)) rfl
theorem w_1275 : (.static ⟨"VowCourtModel", "effects", "(I)I"⟩ : Cond) ∈ TB := TB_mem (List.mem_of_getElem? (i := 1275) (by decide +kernel)) rfl
theorem w_1276 : (.code yX5_effects cX5_effects 1 (some .int) : Cond) ∈ TB := TB_mem (List.mem_of_getElem? (i := 1276) (by decide +kernel)) rfl
theorem w_1277 : (.methodLink "VowCourtLaw" 188 ⟨"VowCourtModel", "appeal", "(I)V"⟩ : Cond) ∈ TB := TB_mem (List.mem_of_getElem? (i := 1277) (by decide +kernel)) rfl
theorem w_1278 : (.instanceMethod ⟨"VowCourtModel", "appeal", "(I)V"⟩ : Cond) ∈ TB := TB_mem (List.mem_of_getElem? (i := 1278) (by decide +kernel)) rfl
theorem w_1279 : (.selects "VowCourtModel" ⟨"VowCourtModel", "appeal", "(I)V"⟩ ⟨"VowCourtModel", "appeal", "(I)V"⟩ : Cond) ∈ TB := TB_mem (List.mem_of_getElem? (i := 1279) (by decide +kernel)) rfl
theorem w_1280 : (.code yX5_appeal cX5_appeal 3 none : Cond) ∈ TB := TB_mem (List.mem_of_getElem? (i := 1280) (by decide +kernel)) rfl
theorem w_1281 : (.methodLink "VowCourtLaw" 191 ⟨"VowCourtModel", "pass", "(I)I"⟩ : Cond) ∈ TB := TB_mem (List.mem_of_getElem? (i := 1281) (by decide +kernel)) rfl
theorem w_1282 : (.instanceMethod ⟨"VowCourtModel", "pass", "(I)I"⟩ : Cond) ∈ TB := TB_mem (List.mem_of_getElem? (i := 1282) (by decide +kernel)) rfl
theorem w_1283 : (.selects "VowCourtModel" ⟨"VowCourtModel", "pass", "(I)I"⟩ ⟨"VowCourtModel", "pass", "(I)I"⟩ : Cond) ∈ TB := TB_mem (List.mem_of_getElem? (i := 1283) (by decide +kernel)) rfl
theorem w_1284 : (.code yX5_pass cX5_pass 2 (some .int) : Cond) ∈ TB := TB_mem (List.mem_of_getElem? (i := 1284) (by decide +kernel)) rfl
theorem w_1285 : (.methodLink "VowCourtLaw" 194 ⟨"VowCourtModel", "kin", "(II)I"⟩ : Cond) ∈ TB := TB_mem (List.mem_of_getElem? (i := 1285) (by decide +kernel)) rfl
theorem w_1286 : (.instanceMethod ⟨"VowCourtModel", "kin", "(II)I"⟩ : Cond) ∈ TB := TB_mem (List.mem_of_getElem? (i := 1286) (by decide +kernel)) rfl
theorem w_1287 : (.selects "VowCourtModel" ⟨"VowCourtModel", "kin", "(II)I"⟩ ⟨"VowCourtModel", "kin", "(II)I"⟩ : Cond) ∈ TB := TB_mem (List.mem_of_getElem? (i := 1287) (by decide +kernel)) rfl
theorem w_1288 : (.code yX5_kin cX5_kin 3 (some .int) : Cond) ∈ TB := TB_mem (List.mem_of_getElem? (i := 1288) (by decide +kernel)) rfl
theorem w_1289 : (.methodLink "VowCourtLaw" 197 ⟨"VowCourtModel", "ancestor", "(II)I"⟩ : Cond) ∈ TB := TB_mem (List.mem_of_getElem? (i := 1289) (by decide +kernel)) rfl
theorem w_1290 : (.instanceMethod ⟨"VowCourtModel", "ancestor", "(II)I"⟩ : Cond) ∈ TB := TB_mem (List.mem_of_getElem? (i := 1290) (by decide +kernel)) rfl
theorem w_1291 : (.selects "VowCourtModel" ⟨"VowCourtModel", "ancestor", "(II)I"⟩ ⟨"VowCourtModel", "ancestor", "(II)I"⟩ : Cond) ∈ TB := TB_mem (List.mem_of_getElem? (i := 1291) (by decide +kernel)) rfl
theorem w_1292 : (.code yX5_ancestor cX5_ancestor 6 (some .int) : Cond) ∈ TB := TB_mem (List.mem_of_getElem? (i := 1292) (by decide +kernel)) rfl
theorem w_1293 : (.methodLink "VowCourtLaw" 200 ⟨"VowCourtModel", "hindered", "(I)I"⟩ : Cond) ∈ TB := TB_mem (List.mem_of_getElem? (i := 1293) (by decide +kernel)) rfl
theorem w_1294 : (.instanceMethod ⟨"VowCourtModel", "hindered", "(I)I"⟩ : Cond) ∈ TB := TB_mem (List.mem_of_getElem? (i := 1294) (by decide +kernel)) rfl
theorem w_1295 : (.selects "VowCourtModel" ⟨"VowCourtModel", "hindered", "(I)I"⟩ ⟨"VowCourtModel", "hindered", "(I)I"⟩ : Cond) ∈ TB := TB_mem (List.mem_of_getElem? (i := 1295) (by decide +kernel)) rfl
theorem w_1296 : (.code yX5_hindered cX5_hindered 2 (some .int) : Cond) ∈ TB := TB_mem (List.mem_of_getElem? (i := 1296) (by decide +kernel)) rfl
theorem w_1297 : (.methodLink "VowCourtLaw" 203 ⟨"VowCourtModel", "vowOf", "(II)I"⟩ : Cond) ∈ TB := TB_mem (List.mem_of_getElem? (i := 1297) (by decide +kernel)) rfl
theorem w_1298 : (.instanceMethod ⟨"VowCourtModel", "vowOf", "(II)I"⟩ : Cond) ∈ TB := TB_mem (List.mem_of_getElem? (i := 1298) (by decide +kernel)) rfl
theorem w_1299 : (.selects "VowCourtModel" ⟨"VowCourtModel", "vowOf", "(II)I"⟩ ⟨"VowCourtModel", "vowOf", "(II)I"⟩ : Cond) ∈ TB := TB_mem (List.mem_of_getElem? (i := 1299) (by decide +kernel)) rfl
theorem w_1300 : (.code yX5_vowOf cX5_vowOf 3 (some .int) : Cond) ∈ TB := TB_mem (List.mem_of_getElem? (i := 1300) (by decide +kernel)) rfl
theorem w_1301 : (.methodLink "VowCourtLaw" 206 ⟨"VowCourtModel", "bound", "(II)I"⟩ : Cond) ∈ TB := TB_mem (List.mem_of_getElem? (i := 1301) (by decide +kernel)) rfl
theorem w_1302 : (.instanceMethod ⟨"VowCourtModel", "bound", "(II)I"⟩ : Cond) ∈ TB := TB_mem (List.mem_of_getElem? (i := 1302) (by decide +kernel)) rfl
theorem w_1303 : (.selects "VowCourtModel" ⟨"VowCourtModel", "bound", "(II)I"⟩ ⟨"VowCourtModel", "bound", "(II)I"⟩ : Cond) ∈ TB := TB_mem (List.mem_of_getElem? (i := 1303) (by decide +kernel)) rfl
theorem w_1304 : (.code yX5_bound cX5_bound 3 (some .int) : Cond) ∈ TB := TB_mem (List.mem_of_getElem? (i := 1304) (by decide +kernel)) rfl
theorem w_1305 : (.constant "VowCourtModel" 201 (1000000) : Cond) ∈ TB := TB_mem (List.mem_of_getElem? (i := 1305) (by decide +kernel)) rfl
theorem w_1306 : (.methodLink "VowCourtModel" 202 ⟨"VowCourtModel", "boundBy", "(II)I"⟩ : Cond) ∈ TB := TB_mem (List.mem_of_getElem? (i := 1306) (by decide +kernel)) rfl
theorem w_1308 : (.instanceMethod ⟨"VowCourtModel", "boundBy", "(II)I"⟩ : Cond) ∈ TB := TB_mem (List.mem_of_getElem? (i := 1308) (by decide +kernel)) rfl
theorem w_1309 : (.code yX5_boundBy cX5_boundBy 5 (some .int) : Cond) ∈ TB := TB_mem (List.mem_of_getElem? (i := 1309) (by decide +kernel)) rfl
theorem w_1310 : (.methodLink "VowCourtLaw" 209 ⟨"VowCourtModel", "hasCause", "(II)Z"⟩ : Cond) ∈ TB := TB_mem (List.mem_of_getElem? (i := 1310) (by decide +kernel)) rfl
theorem w_1311 : (.instanceMethod ⟨"VowCourtModel", "hasCause", "(II)Z"⟩ : Cond) ∈ TB := TB_mem (List.mem_of_getElem? (i := 1311) (by decide +kernel)) rfl
theorem w_1312 : (.selects "VowCourtModel" ⟨"VowCourtModel", "hasCause", "(II)Z"⟩ ⟨"VowCourtModel", "hasCause", "(II)Z"⟩ : Cond) ∈ TB := TB_mem (List.mem_of_getElem? (i := 1312) (by decide +kernel)) rfl
theorem w_1313 : (.code yX5_hasCause cX5_hasCause 3 (some .boolean) : Cond) ∈ TB := TB_mem (List.mem_of_getElem? (i := 1313) (by decide +kernel)) rfl
theorem w_1314 : (.methodLink "VowCourtLaw" 212 ⟨"VowCourtModel", "causeOf", "(II)I"⟩ : Cond) ∈ TB := TB_mem (List.mem_of_getElem? (i := 1314) (by decide +kernel)) rfl
theorem w_1315 : (.instanceMethod ⟨"VowCourtModel", "causeOf", "(II)I"⟩ : Cond) ∈ TB := TB_mem (List.mem_of_getElem? (i := 1315) (by decide +kernel)) rfl
theorem w_1316 : (.selects "VowCourtModel" ⟨"VowCourtModel", "causeOf", "(II)I"⟩ ⟨"VowCourtModel", "causeOf", "(II)I"⟩ : Cond) ∈ TB := TB_mem (List.mem_of_getElem? (i := 1316) (by decide +kernel)) rfl
theorem w_1317 : (.code yX5_causeOf cX5_causeOf 3 (some .int) : Cond) ∈ TB := TB_mem (List.mem_of_getElem? (i := 1317) (by decide +kernel)) rfl
theorem w_1318 : (.methodLink "VowCourtLaw" 215 ⟨"VowCourtModel", "state", "(III)C"⟩ : Cond) ∈ TB := TB_mem (List.mem_of_getElem? (i := 1318) (by decide +kernel)) rfl
theorem w_1319 : (.instanceMethod ⟨"VowCourtModel", "state", "(III)C"⟩ : Cond) ∈ TB := TB_mem (List.mem_of_getElem? (i := 1319) (by decide +kernel)) rfl
theorem w_1320 : (.selects "VowCourtModel" ⟨"VowCourtModel", "state", "(III)C"⟩ ⟨"VowCourtModel", "state", "(III)C"⟩ : Cond) ∈ TB := TB_mem (List.mem_of_getElem? (i := 1320) (by decide +kernel)) rfl
theorem w_1321 : (.code yX5_state cX5_state 4 (some .char) : Cond) ∈ TB := TB_mem (List.mem_of_getElem? (i := 1321) (by decide +kernel)) rfl
theorem w_1322 : (.methodLink "VowCourtModel" 215 ⟨"VowCourtModel", "writes", "(II)V"⟩ : Cond) ∈ TB := TB_mem (List.mem_of_getElem? (i := 1322) (by decide +kernel)) rfl
theorem w_1324 : (.instanceMethod ⟨"VowCourtModel", "writes", "(II)V"⟩ : Cond) ∈ TB := TB_mem (List.mem_of_getElem? (i := 1324) (by decide +kernel)) rfl
theorem w_1325 : (.code yX5_writes cX5_writes 4 none : Cond) ∈ TB := TB_mem (List.mem_of_getElem? (i := 1325) (by decide +kernel)) rfl
theorem w_1326 : (.methodLink "VowCourtModel" 208 ⟨"VowCourtModel", "puts", "(I)V"⟩ : Cond) ∈ TB := TB_mem (List.mem_of_getElem? (i := 1326) (by decide +kernel)) rfl
theorem w_1328 : (.instanceMethod ⟨"VowCourtModel", "puts", "(I)V"⟩ : Cond) ∈ TB := TB_mem (List.mem_of_getElem? (i := 1328) (by decide +kernel)) rfl
theorem w_1329 : (.code yX5_puts cX5_puts 2 none : Cond) ∈ TB := TB_mem (List.mem_of_getElem? (i := 1329) (by decide +kernel)) rfl
theorem w_1330 : (.methodLink "VowCourtModel" 212 ⟨"VowCourtModel", "putsNumber", "(I)V"⟩ : Cond) ∈ TB := TB_mem (List.mem_of_getElem? (i := 1330) (by decide +kernel)) rfl
theorem w_1332 : (.instanceMethod ⟨"VowCourtModel", "putsNumber", "(I)V"⟩ : Cond) ∈ TB := TB_mem (List.mem_of_getElem? (i := 1332) (by decide +kernel)) rfl
theorem w_1333 : (.code yX5_putsNumber cX5_putsNumber 2 none : Cond) ∈ TB := TB_mem (List.mem_of_getElem? (i := 1333) (by decide +kernel)) rfl
theorem w_1360 : (.selects "[Ljava/lang/Object;" ⟨"java/lang/Object", "getClass", "()Ljava/lang/Class;"⟩ ⟨"java/lang/Object", "getClass", "()Ljava/lang/Class;"⟩ : Cond) ∈ TB := TB_mem (List.mem_of_getElem? (i := 1360) (by decide +kernel)) rfl
theorem w_1368 : (.fieldLink "java/lang/String" 9 "java/lang/String" "value" "[B" : Cond) ∈ TB := TB_mem (List.mem_of_getElem? (i := 1368) (by decide +kernel)) rfl
theorem w_1369 : (.fieldLink "java/lang/String" 15 "java/lang/String" "coder" "B" : Cond) ∈ TB := TB_mem (List.mem_of_getElem? (i := 1369) (by decide +kernel)) rfl
end
section
/-! ===== the abstract machine: values, states, worlds ===== -/
def wsM (y : MethodName) (cc : ByteArray) (nL : Nat) (ret : Option FieldType) : List Cond := .code y cc nL ret :: TB
/-- a local: an int, or a reference by its kind and number -/
abbrev LV : Type := Int32 ⊕ (Nat × Nat)
abbrev AV : Type := LV ⊕ Int64
abbrev aI (x : Int32) : AV := .inl (.inl x)
abbrev aR (t i : Nat) : AV := .inl (.inr (t, i))
abbrev aL (x : Int64) : AV := .inr x
def cL (ad : Nat → Nat → Nat) : LV → Value
  | .inl x => .int x
  | .inr r => .ref (ad r.1 r.2)
def cv (ad : Nat → Nat → Nat) : AV → Value
  | .inl v => cL ad v
  | .inr x => .long x
/-- how many persons, vows, causes (0, 1, 2), the places of their rows (3, 4, 5); all ints; the answer's cell -/
abbrev Sg : Type := (Nat → Nat) × (Nat → Nat → Nat → Int32) × Int64
def stS (s : Sg) (t i j : Nat) (v : Int32) : Sg := (s.1, fun a b c => if a = t ∧ b = i ∧ c = j then v else s.2.1 a b c, s.2.2)
def stO (s : Sg) (v : Int64) : Sg := (s.1, s.2.1, v)
/-- objects: the class's place in vwCl, the number of fields -/
def ob : Nat → Option (Nat × Nat)
  | 1 => some (6, 8)
  | 2 => some (1, 3)
  | 4 => some (3, 1)
  | 12 => some (4, 6)
  | 13 => some (5, 8)
  | 14 => some (2, 7)
  | 20 => some (7, 33)
  | _ => none
/-- fields that are references: the kind, and whether the number is the same or a fixed one -/
def rf : Nat → Nat → Option (Nat × Option Nat)
  | 1, 0 => some (2, some 0)
  | 1, 1 => some (2, some 1)
  | 1, 2 => some (2, some 2)
  | 1, 3 => some (4, some 0)
  | 1, 4 => some (7, some 0)
  | 1, 5 => some (9, some 0)
  | 1, 6 => some (11, some 0)
  | 2, 1 => some (3, none)
  | 4, 0 => some (5, some 0)
  | 14, 4 => some (15, none)
  | 14, 5 => some (16, none)
  | 14, 6 => some (17, none)
  | 20, k => if k = 0 ∨ k = 1 ∨ k = 12 ∨ k = 21 ∨ k = 30 ∨ k = 32 then none else some (20 + k, some 0)
  | _, _ => none
/-- fields that are booleans -/
def zf : Nat → Nat → Bool
  | 12, 3 => true
  | 12, 4 => true
  | 12, 5 => true
  | 13, 5 => true
  | _, _ => false
def gf (s : Sg) (t i k : Nat) : LV := match rf t k with
  | some (t', none) => .inr (t', i)
  | some (t', some c) => .inr (t', c)
  | none => bif Nat.beq t 2 && Nat.beq k 2 then .inl (nI (s.1 i)) else .inl (s.2.1 t i k)
/-- rows: what they hold (0 ints, 1 booleans, 2 objects, 3 rows of ints, 4 longs), how many (objects: the state says) -/
def ar : Nat → Option (Nat × Nat)
  | 3 => some (2, 0)
  | 5 => some (3, 24)
  | 6 => some (0, 24)
  | 7 => some (3, 24)
  | 8 => some (0, 24)
  | 9 => some (3, 6)
  | 10 => some (0, 8)
  | 11 => some (1, 8)
  | 15 => some (0, 7)
  | 16 => some (0, 3)
  | 17 => some (0, 3)
  | 22 => some (0, 24)
  | 23 => some (0, 24)
  | 24 => some (0, 24)
  | 25 => some (1, 24)
  | 26 => some (1, 24)
  | 27 => some (1, 24)
  | 28 => some (0, 576)
  | 29 => some (1, 1728)
  | 30 => some (0, 48)
  | 31 => some (1, 8)
  | 33 => some (0, 30)
  | 34 => some (0, 30)
  | 35 => some (0, 30)
  | 36 => some (0, 30)
  | 37 => some (1, 30)
  | 38 => some (0, 30)
  | 39 => some (0, 30)
  | 40 => some (0, 30)
  | 42 => some (0, 30)
  | 43 => some (0, 30)
  | 44 => some (0, 30)
  | 45 => some (0, 30)
  | 46 => some (0, 210)
  | 47 => some (0, 30)
  | 48 => some (0, 90)
  | 49 => some (0, 90)
  | 51 => some (0, 30)
  | 60 => some (4, 1)
  | _ => none
/-- which objects and rows there are -/
def Lv (s : Sg) (t i : Nat) : Prop := match t with
  | 1 => i = 0
  | 2 => i < 3
  | 3 => i < 3 ∧ 0 < s.1 (3 + i)
  | 4 => i = 0
  | 5 => i = 0
  | 6 => i < 24
  | 7 => i = 0
  | 8 => i < 24
  | 9 => i = 0
  | 10 => i < 6
  | 11 => i = 0
  | 12 => i < s.1 0
  | 13 => i < s.1 1
  | 14 => i < s.1 2
  | 15 => i < s.1 2
  | 16 => i < s.1 2
  | 17 => i < s.1 2
  | 60 => i = 0
  | t => i = 0 ∧ 20 ≤ t ∧ t ≤ 51 ∧ t ≠ 21 ∧ t ≠ 32 ∧ t ≠ 41 ∧ t ≠ 50
/-- what a row of references holds -/
def er (s : Sg) (t i j : Nat) : Option (Nat × Nat) := if t = 3 then (if j < s.1 i then some (12 + i, j) else none) else some (t + 1, j)
abbrev GPm : Type := va_G × (Nat → ClassId) × Nat
def gA (g : GPm) : Nat → Prop := fun q => g.2.2 ≤ q
def gtys (g : GPm) : List (ClassId × FieldType) := [(g.2.1 0, .int), (g.2.1 1, .boolean), (g.2.1 2, .object "java/lang/Object"), (g.2.1 3, .array .int), (g.2.1 4, .long)]
def ent (g : GPm) (ad : Nat → Nat → Nat) (s : Sg) (t i : Nat) : va_E := match ob t with
  | some (c, n) => .inr (c, (List.range n).map (fun k => cL ad (gf s t i k)))
  | none => match ar t with
    | some (0, n) => .inl (g.2.1 0, n, .inl (s.2.1 t i))
    | some (1, n) => .inl (g.2.1 1, n, .inl (s.2.1 t i))
    | some (2, _) => .inl (g.2.1 2, s.1 (3 + i), .inr (.inr (.inr (.inr (fun j => (er s t i j).map (fun r => ad r.1 r.2))))))
    | some (3, n) => .inl (g.2.1 3, n, .inr (.inr (.inr (.inr (fun j => (er s t i j).map (fun r => ad r.1 r.2))))))
    | some (4, _) => if i = 0 then .inl (g.2.1 4, 1, .inr (.inl (fun _ => s.2.2))) else .inl (g.2.1 4, 1, .inr (.inl (fun _ => 0)))
    | _ => .inl (g.2.1 4, 0, .inr (.inl (fun _ => 0)))
def gws (g : GPm) (ad : Nat → Nat → Nat) (K : List (Nat × Nat)) (s : Sg) : va_W := K.map (fun q => (ad q.1 q.2, ent g ad s q.1 q.2))
def GP (g : GPm) (ad : Nat → Nat → Nat) (K : List (Nat × Nat)) (s : Sg) (H : Heap) : Prop :=
  va_P g.1 vwCl (gws g ad K s) H ∧ va_D (gA g) (gws g ad K s) ∧ (∀ t i, Lv s t i → (t, i) ∈ K) ∧ g.2.2 ≤ H.size
/-- the class's texts: their places, themselves -/
def txts : List (Nat × String) := [(237, "there is no such person, vow, cause, judge or place"), (244, "an argument is out of range"), (249, "that is not possible now"), (290, "free"), (296, "bound by "), (301, " to ")]
def xcls : List String := ["java/lang/IndexOutOfBoundsException", "java/lang/IllegalArgumentException", "java/lang/IllegalStateException"]
/-- .. of the class's texts, of casts -/
def GX (_ : GPm) (U : State) : Prop := (∀ q ∈ txts, ∃ a, vk_R "VowCourt" q.1 q.2 a U) ∧ (∀ E ∈ xcls, va_Nw (.castable E E) U)
theorem GX_moved {g : GPm} {s U : State} {locs : List Loc} (h : GX g s) (hW : s.WarmedH U.vm) (_ : va_S (gA g) s.heap U.heap locs) : GX g U :=
  ⟨fun q hq => (h.1 q hq).imp fun _ z => vk_R.warm hW z, fun E hE => va_Nw.warmC hW (h.2 E hE)⟩
theorem GX_blind {g : GPm} {U : State} {gg : JFrame} {mk : MethodId} {a : Array Value} (h : GX g U) : GX g (U.calling gg mk a) :=
  ⟨fun q hq => (h.1 q hq).imp fun _ z => vk_R.same (u := U) (U := U.calling gg mk a) rfl z, fun E hE => va_Nw.same (u := U) (U := U.calling gg mk a) rfl rfl (h.2 E hE)⟩
/-- what holds of a state's tables and statics -/
def GS (g : GPm) (U : State) : Prop := va_K g.1 vwCl (gtys g) U ∧ vx_Zq Bundle.tN "UNASSIGNED_STACK" Bundle.steD (gA g) U U.heap ∧ vx_Zq Bundle.tN "SUPPRESSED_SENTINEL" Bundle.listD (gA g) U U.heap ∧ GX g U
/-- a thing of the world, by its place in the list -/
theorem gws_at {g : GPm} {ad : Nat → Nat → Nat} {K : List (Nat × Nat)} {s : Sg} {t i : Nat} (h : (t, i) ∈ K) : ∃ q0 : Nat, (gws g ad K s)[q0]? = some (ad t i, ent g ad s t i) ∧ K[q0]? = some (t, i) := by
  obtain ⟨q0, hq⟩ := List.getElem?_of_mem h
  refine ⟨q0, ?_, hq⟩
  unfold gws
  rw [List.getElem?_map, hq]
  rfl
/-- one thing of the world is another: the list with that place changed -/
theorem gws_set {g : GPm} {ad : Nat → Nat → Nat} {K : List (Nat × Nat)} {s s' : Sg} {t i q0 : Nat} {A : Nat → Prop} (hD : va_D A (gws g ad K s)) (hq : K[q0]? = some (t, i)) {e : va_E} (he : ent g ad s' t i = e)
    (ho : ∀ a b, ¬ (a = t ∧ b = i) → ent g ad s' a b = ent g ad s a b) : (gws g ad K s).set q0 (ad t i, e) = gws g ad K s' := by
  have hlen : q0 < K.length := (List.getElem?_eq_some_iff.mp hq).1
  apply List.ext_getElem?
  intro k
  unfold gws
  rw [List.getElem?_set]
  by_cases hk : q0 = k
  · subst hk
    rw [if_pos rfl, List.length_map, if_pos hlen, List.getElem?_map, hq]
    simp [he]
  · rw [if_neg hk, List.getElem?_map, List.getElem?_map]
    cases hc : K[k]? with
    | none => rfl
    | some q =>
      obtain ⟨a, b⟩ := q
      have hne : ¬ (a = t ∧ b = i) := by
        rintro ⟨rfl, rfl⟩
        refine hk (hD.1 q0 k (ad a b, ent g ad s a b) (ad a b, ent g ad s a b) ?_ ?_ rfl)
        · unfold gws; rw [List.getElem?_map, hq]; rfl
        · unfold gws; rw [List.getElem?_map, hc]; rfl
      simp [ho a b hne]
theorem rng_at {α : Type} (f : Nat → α) {k n : Nat} (h : k < n) : ((List.range n).map f)[k]? = some (f k) := by
  rw [List.getElem?_map, List.getElem?_range h]
  rfl
theorem rng_set {α : Type} {f f' : Nat → α} {k n : Nat} {v : α} (hv : f' k = v) (ho : ∀ j, j ≠ k → f' j = f j) : ((List.range n).map f).set k v = (List.range n).map f' := by
  apply List.ext_getElem?
  intro j
  rw [List.getElem?_set, List.getElem?_map, List.getElem?_map]
  by_cases hj : k = j
  · subst hj
    rw [if_pos rfl, List.length_map, List.length_range]
    by_cases hk : k < n
    · rw [if_pos hk, List.getElem?_range hk]; simp [hv]
    · rw [if_neg hk, List.getElem?_eq_none (by simp; omega)]; rfl
  · rw [if_neg hj]
    by_cases hk : j < n
    · rw [List.getElem?_range hk]; simp [ho j (fun e => hj e.symm)]
    · rw [List.getElem?_eq_none (by simp; omega)]; rfl
theorem stS_ent {g : GPm} {ad : Nat → Nat → Nat} {s : Sg} {t i j : Nat} {v : Int32} : ∀ a b, ¬ (a = t ∧ b = i) → ent g ad (stS s t i j v) a b = ent g ad s a b := by
  intro a b h
  have e1 : (stS s t i j v).2.1 a b = s.2.1 a b := by
    funext c
    show (if a = t ∧ b = i ∧ c = j then v else s.2.1 a b c) = _
    rw [if_neg (fun q => h ⟨q.1, q.2.1⟩)]
  have e2 : gf (stS s t i j v) a b = gf s a b := by
    funext k
    unfold gf
    rw [e1]
    rfl
  have e3 : er (stS s t i j v) a b = er s a b := rfl
  unfold ent
  rw [e1, e2, e3]
  rfl
theorem stS_Lv {s : Sg} {t i j : Nat} {v : Int32} {a b : Nat} : Lv (stS s t i j v) a b = Lv s a b := rfl
theorem stO_Lv {s : Sg} {v : Int64} {a b : Nat} : Lv (stO s v) a b = Lv s a b := rfl
end
section
/-! ===== the judgement over the abstract machine ===== -/
abbrev LC : Type := List (Nat × LV)
abbrev Kt : Type := Nat → Nat → LC → List AV → Sg → Prop
abbrev Nt : Type := Option AV → Sg → Prop
abbrev Xt : Type := Nat → Sg → Prop
abbrev Sem : Type := Nat → Kt → Nt → Xt → Nat → LC → List AV → Sg → Prop
abbrev Spc : Type := List AV → Sg → Nt → Xt → Prop
/-- a unit of room -/
def cU : Nat := 4
def sU : Nat := 24
def rmD (d u : Nat) : Room := { frames := d, cells := u * cU, slots := u * sU, locals := 38 * d }
def exn : Nat → String
  | 1 => "java/lang/IndexOutOfBoundsException"
  | 2 => "java/lang/IllegalArgumentException"
  | _ => "java/lang/IllegalStateException"
def aQ (g : GPm) (ad : Nat → Nat → Nat) (K : List (Nat × Nat)) (N : Nt) : Array Value → State → Outcome → State → Prop := fun _ st oc t =>
  (∃ (v : Option AV) (s' : Sg), oc = .returned (v.map (cv ad)) ∧ N v s' ∧ GP g ad K s' t.heap) ∧ va_F (gA g) st t
def aX (g : GPm) (ad : Nat → Nat → Nat) (K : List (Nat × Nat)) (X : Xt) : String → State → State → Prop := fun E st t =>
  (∃ (x : Nat) (s' : Sg), exn x = E ∧ X x s' ∧ GP g ad K s' t.heap) ∧ va_F (gA g) st t
/-- a method's contract: whatever its words ask of its outcome comes to be -/
def AMet (y : MethodName) (cc : ByteArray) (nL : Nat) (ret : Option FieldType) (d u : Nat) (sp : Spc) : Prop :=
  ∀ (l : Launch), l.stackTraces = false → ∀ (g : GPm) (ad : Nat → Nat → Nat) (K : List (Nat × Nat)) (av : List AV) (s0 : Sg) (N : Nt) (X : Xt), sp av s0 N X →
    vx_Met l y (wsM y cc nL ret) (rmD d u) (va_Pc (av.map (cv ad)) (fun U => GS g U ∧ GP g ad K s0 U.heap)) (aQ g ad K N) (aX g ad K X) (u * cU) (u * sU) (gA g)
section AWs
variable (g : GPm) (p : Program) (l : Launch) (e : Env) (R : Room) (s : State) (m : MethodId) (args : Array Value) (below : List Frame) (meth : Method) (c : Code)
def AW (nL : Nat) (ad : Nat → Nat → Nat) (K : List (Nat × Nat)) (Q : State → Prop) (pc u : Nat) (L : LC) (st : List AV) (s0 : Sg) : Prop :=
  ∀ (H : Heap) (locs : List Loc) (ls : Array Slot), GP g ad K s0 H → va_S (gA g) s.heap H locs → lv_has ls nL (L.map (fun q => (q.1, cL ad q.2))) →
    W p l e R s m args below meth c H locs (u * cU) (u * sU) Q (F0 m pc ls (st.map (cv ad)))
/-- what a body stands on -/
def CX (own : String) (cc : ByteArray) (nL d U : Nat) (ret : Option FieldType) (w0 : Cond) : Prop :=
  CallFix p m c cc nL s args (w0 :: TB) own ∧ GS g s ∧ meth.locks = false ∧ meth.sig.returnType = ret ∧ R = rmD d U ∧ l.stackTraces = false ∧ (∀ x ∈ c.exceptionTable.toList, False)
def QX (ad : Nat → Nat → Nat) (K : List (Nat × Nat)) (N : Nt) (X : Xt) (U : Nat) (Q : State → Prop) : Prop :=
  ∀ t, vx_MQ below (aQ g ad K N) (aX g ad K X) args s (U * cU) (U * sU) (gA g) t → Q t
end AWs
/-- a row's meaning is sound at its place -/
def Snd (own : String) (cc : ByteArray) (nL d U : Nat) (ret : Option FieldType) (pc : Nat) (f : Sem) : Prop :=
  ∀ (g : GPm) (p : Program) (l : Launch) (e : Env) (R : Room) (s : State) (m : MethodId) (args : Array Value) (below : List Frame) (meth : Method) (c : Code) (w0 : Cond),
    CX g p l R s m args meth c own cc nL d U ret w0 → ∀ (ad : Nat → Nat → Nat) (K : List (Nat × Nat)) (N : Nt) (X : Xt) (Q : State → Prop), QX g s args below ad K N X U Q →
    ∀ (k : Kt), (∀ pc' u' L' st' s', k pc' u' L' st' s' → AW g p l e R s m args below meth c nL ad K Q pc' u' L' st' s') →
    ∀ u L st s0, f U k N X u L st s0 → AW g p l e R s m args below meth c nL ad K Q pc u L st s0
def getL : LC → Nat → Option LV
  | [], _ => none
  | (j, w) :: r, i => bif Nat.beq j i then some w else getL r i
def setB : LC → Nat → LV → Bool → (LC → Prop) → Prop
  | [], i, v, b, k => bif b then k [] else k [(i, v)]
  | (j, w) :: r, i, v, b, k => bif Nat.beq j i then setB r i v true (fun r' => k ((i, v) :: r')) else setB r i v b (fun r' => k ((j, w) :: r'))
def setK (L : LC) (i : Nat) (v : LV) (k : LC → Prop) : Prop := setB L i v false k
def lk : List (Nat × Sem) → Nat → Option Sem
  | [], _ => none
  | (q, f) :: r, pc => bif Nat.beq q pc then some f else lk r pc
def cut (I : Nat → Option (Nat → Nat → LC → List AV → Sg → Prop)) (b : Nat → Prop) (pc : Nat) : Option (Nat → LC → List AV → Sg → Prop) := match I pc with
  | some P => some (fun u L st s => ∃ n j, b n ∧ P n u (L.take j) st s)
  | none => none
def wp (T : Nat → Option Sem) (C : Nat → Option (Nat → LC → List AV → Sg → Prop)) (U : Nat) (N : Nt) (X : Xt) : Nat → Kt
  | 0 => fun _ _ _ _ _ => False
  | n + 1 => fun pc u L st s => match C pc with
    | some P => P u L st s
    | none => match T pc with
      | some f => f U (wp T C U N X n) N X u L st s
      | none => False
/-- from a place on, past its own cut -/
def wps (T : Nat → Option Sem) (C : Nat → Option (Nat → LC → List AV → Sg → Prop)) (U : Nat) (N : Nt) (X : Xt) (n : Nat) : Kt := fun pc u L st s => match T pc with
  | some f => f U (wp T C U N X n) N X u L st s
  | none => False
theorem lk_mem {t : List (Nat × Sem)} {pc : Nat} {f : Sem} (h : lk t pc = some f) : (pc, f) ∈ t := by
  induction t with
  | nil => cases h
  | cons q r ih =>
    obtain ⟨q1, q2⟩ := q
    unfold lk at h
    cases hq : Nat.beq q1 pc with
    | true =>
      rw [hq, cond_true] at h
      cases h
      rw [Nat.eq_of_beq_eq_true hq]
      exact List.mem_cons_self
    | false =>
      rw [hq, cond_false] at h
      exact List.mem_cons_of_mem _ (ih h)
section WPs
variable {g : GPm} {p : Program} {l : Launch} {e : Env} {R : Room} {s : State} {m : MethodId} {args : Array Value} {below : List Frame} {meth : Method} {c : Code}
variable {own : String} {cc : ByteArray} {nL d U : Nat} {ret : Option FieldType} {w0 : Cond} {ad : Nat → Nat → Nat} {K : List (Nat × Nat)} {N : Nt} {X : Xt} {Q : State → Prop}
theorem wp_ok {T : List (Nat × Sem)} (hT : ∀ q ∈ T, Snd own cc nL d U ret q.1 q.2) (hC : CX g p l R s m args meth c own cc nL d U ret w0) (hQ : QX g s args below ad K N X U Q)
    {C : Nat → Option (Nat → LC → List AV → Sg → Prop)} (hc : ∀ pc P, C pc = some P → ∀ u L st s0, P u L st s0 → AW g p l e R s m args below meth c nL ad K Q pc u L st s0) :
    ∀ n pc u L st s0, wp (lk T) C U N X n pc u L st s0 → AW g p l e R s m args below meth c nL ad K Q pc u L st s0 := by
  intro n
  induction n with
  | zero => intro pc u L st s0 h; exact h.elim
  | succ n ih =>
    intro pc u L st s0 h
    unfold wp at h
    cases h1 : C pc with
    | some P => rw [h1] at h; exact hc pc P h1 u L st s0 h
    | none =>
      rw [h1] at h
      cases h2 : lk T pc with
      | none => rw [h2] at h; exact h.elim
      | some f =>
        rw [h2] at h
        exact hT _ (lk_mem h2) g p l e R s m args below meth c w0 hC ad K N X Q hQ _ ih u L st s0 h
theorem wps_ok {T : List (Nat × Sem)} (hT : ∀ q ∈ T, Snd own cc nL d U ret q.1 q.2) (hC : CX g p l R s m args meth c own cc nL d U ret w0) (hQ : QX g s args below ad K N X U Q)
    {C : Nat → Option (Nat → LC → List AV → Sg → Prop)} (hc : ∀ pc P, C pc = some P → ∀ u L st s0, P u L st s0 → AW g p l e R s m args below meth c nL ad K Q pc u L st s0) :
    ∀ n pc u L st s0, wps (lk T) C U N X n pc u L st s0 → AW g p l e R s m args below meth c nL ad K Q pc u L st s0 := by
  intro n pc u L st s0 h
  unfold wps at h
  cases h2 : lk T pc with
  | none => rw [h2] at h; exact h.elim
  | some f =>
    rw [h2] at h
    exact hT _ (lk_mem h2) g p l e R s m args below meth c w0 hC ad K N X Q hQ _ (wp_ok hT hC hQ hc n) u L st s0 h
theorem AW_take {j pc u : Nat} {L : LC} {st : List AV} {s0 : Sg} (h : AW g p l e R s m args below meth c nL ad K Q pc u (L.take j) st s0) : AW g p l e R s m args below meth c nL ad K Q pc u L st s0 := fun H locs ls hP hS hl =>
  h H locs ls hP hS ⟨hl.1, hl.2.1, fun q hq => by
    obtain ⟨z, hz, rfl⟩ := List.mem_map.mp hq
    exact hl.2.2 _ (List.mem_map.mpr ⟨z, List.mem_of_mem_take hz, rfl⟩)⟩
/-- all cuts at once: each cut's own stretch comes to cuts of a smaller measure -/
theorem cuts_ok {T : List (Nat × Sem)} (hT : ∀ q ∈ T, Snd own cc nL d U ret q.1 q.2) (hC : CX g p l R s m args meth c own cc nL d U ret w0) (hQ : QX g s args below ad K N X U Q)
    {I : Nat → Option (Nat → Nat → LC → List AV → Sg → Prop)} (F : Nat)
    (hI : ∀ pc P, I pc = some P → ∀ n u L st s0, P n u L st s0 → wps (lk T) (cut I (fun k => k < n)) U N X F pc u L st s0) :
    ∀ n pc P, I pc = some P → ∀ u L st s0, P n u L st s0 → AW g p l e R s m args below meth c nL ad K Q pc u L st s0 := by
  intro n
  induction n using Nat.strongRecOn with
  | _ n ih =>
    intro pc P hP u L st s0 h
    refine wps_ok hT hC hQ ?_ F pc u L st s0 (hI pc P hP n u L st s0 h)
    intro pc' P' hP' u' L' st' s' h'
    unfold cut at hP'
    cases hi : I pc' with
    | none => rw [hi] at hP'; cases hP'
    | some P2 =>
      rw [hi] at hP'
      cases hP'
      obtain ⟨k, j, hk, h2⟩ := h'
      exact AW_take (ih k hk pc' P2 hi u' _ st' s' h2)
end WPs
/-- the arguments as locals -/
def argK : List AV → List Nat → (LC → Prop) → Prop
  | [], _, k => k []
  | .inl v :: r, i :: is, k => argK r is (fun q => k ((i, v) :: q))
  | _, _, _ => False
theorem cL_cat (ad : Nat → Nat → Nat) (v : LV) : (cL ad v).category = 1 := by cases v <;> rfl
theorem argK_ok {ad : Nat → Nat → Nat} : ∀ (av : List AV) (i n : Nat) (k : LC → Prop), argK av ((List.range' i n)) k → ∃ L : LC, k L ∧ L.map (fun q => (q.1, cL ad q.2)) = lv_args i (av.map (cv ad))
  | [], i, n, k, h => ⟨[], by cases n <;> exact h, rfl⟩
  | .inr x :: r, i, n, k, h => by cases n <;> exact h.elim
  | .inl v :: r, i, 0, k, h => h.elim
  | .inl v :: r, i, n + 1, k, h => by
    rw [List.range'_succ] at h
    obtain ⟨L, h1, h2⟩ := argK_ok (ad := ad) r (i + 1) n _ h
    refine ⟨(i, v) :: L, h1, ?_⟩
    show (i, cL ad v) :: L.map (fun q => (q.1, cL ad q.2)) = lv_args i (cL ad v :: r.map (cv ad))
    rw [h2, lv_args, if_neg (by rw [cL_cat]; decide)]
theorem argK_len : ∀ (av : List AV) (i n : Nat) (k : LC → Prop), argK av (List.range' i n) k → av.length ≤ n ∧ ∀ v ∈ av, ∃ w, v = .inl w
  | [], i, n, k, h => ⟨Nat.zero_le _, fun v h => nomatch h⟩
  | .inr x :: r, i, n, k, h => by cases n <;> exact h.elim
  | .inl v :: r, i, 0, k, h => h.elim
  | .inl v :: r, i, n + 1, k, h => by
    rw [List.range'_succ] at h
    obtain ⟨h1, h2⟩ := argK_len r (i + 1) n _ h
    exact ⟨by simp; omega, fun x hx => (List.mem_cons.mp hx).elim (fun e => ⟨v, e⟩) (h2 x)⟩
theorem lgsl_len {ad : Nat → Nat → Nat} : ∀ (av : List AV), (∀ v ∈ av, ∃ w, v = .inl w) → (lg_sl (av.map (cv ad))).length = av.length
  | [], _ => rfl
  | v :: r, h => by
    obtain ⟨w, rfl⟩ := h v List.mem_cons_self
    have ih := lgsl_len (ad := ad) r (fun x hx => h x (List.mem_cons_of_mem _ hx))
    unfold lg_sl at ih ⊢
    have hc : ¬ (cL ad w).category = 2 := by rw [cL_cat]; decide
    show (List.flatMap _ (cL ad w :: r.map (cv ad))).length = _
    rw [List.flatMap_cons, if_neg hc, List.length_append, ih]
    show 0 + 1 + r.length = r.length + 1
    omega
set_option maxHeartbeats 1000000 in
theorem AMet.mk {y : MethodName} {own : String} {cc : ByteArray} {nL d U : Nat} {ret : Option FieldType} {sp : Spc} {T : List (Nat × Sem)} (hy : plainName y.cls = true) (hcls : y.cls = own) (is : List Nat) (his : is = List.range' 0 nL)
    (hT : ∀ q ∈ T, Snd own cc nL d U ret q.1 q.2) (F : Nat)
    (body : ∀ av s0 N X, sp av s0 N X → ∃ I : Nat → Option (Nat → Nat → LC → List AV → Sg → Prop), argK av is (fun L => wp (lk T) (cut I (fun _ => True)) U N X F 0 0 L [] s0) ∧
      ∀ pc P, I pc = some P → ∀ n u L st s1, P n u L st s1 → wps (lk T) (cut I (fun k => k < n)) U N X F pc u L st s1) : AMet y cc nL ret d U sp := by
  intro l hl g ad K av s0 N X h
  subst hcls
  subst his
  refine vx_ofW hy rfl ?_
  intro p e s m args below meth c s₁ B hml htab hv
  obtain ⟨rfl, hGS, hGP⟩ := hv
  have hC : CX g p l (headSpec (wsM y cc nL ret) (rmD d U)).room s m (av.map (cv ad)).toArray meth c y.cls cc nL d U ret (.code y cc nL ret) :=
    ⟨⟨B.exec, B.bytes, hml, findClass_of_methodNamed B.named, atoms_spec (ws := wsM y cc nL ret) B.pre⟩, hGS, B.notSynchronized, B.returns, rfl, hl, htab⟩
  obtain ⟨I, h1, h2⟩ := body av s0 N X h
  have hQ : QX g s (av.map (cv ad)).toArray below ad K N X U (vx_MQ below (aQ g ad K N) (aX g ad K X) (av.map (cv ad)).toArray s (U * cU) (U * sU) (gA g)) := fun t q => q
  obtain ⟨L, h3, h4⟩ := argK_ok (ad := ad) av 0 nL _ h1
  obtain ⟨h5, h6⟩ := argK_len av 0 nL _ h1
  have key := wp_ok (e := e) hT hC hQ (C := cut I (fun _ => True)) (by
    intro pc P hP u L' st s1 hp
    unfold cut at hP
    cases hi : I pc with
    | none => rw [hi] at hP; cases hP
    | some P2 =>
      rw [hi] at hP
      cases hP
      obtain ⟨n, j, -, hn⟩ := hp
      exact AW_take (cuts_ok (e := e) hT hC hQ F h2 n pc P2 hi u _ st s1 hn)) F 0 0 L [] s0 h3
  rw [lg_entry_eq]
  have hlen : (lg_sl (av.map (cv ad))).length ≤ nL := by rw [lgsl_len av h6]; exact h5
  have hlv := lv_entry (av.map (cv ad)) hlen
  have k2 := key s.heap [] _ hGP va_S.rf (by rw [h4]; exact hlv)
  rw [Nat.zero_mul, Nat.zero_mul] at k2
  exact k2
end
section
/-! ===== the instructions ===== -/
/-- an index within its row (said so that it is no function) -/
def Ib (j : Int32) (n : Nat) : Prop := vp_in j n = True
theorem Ib_of {j : Int32} {n : Nat} (h : vp_in j n) : Ib j n := eq_true h
def op_ic (v : Int32) (nx : Nat) : Sem := fun _ k _ _ u L st s => k nx u L (aI v :: st) s
def op_il (i nx : Nat) : Sem := fun _ k _ _ u L st s => match getL L i with
  | some (.inl x) => k nx u L (aI x :: st) s
  | _ => False
def op_al (i nx : Nat) : Sem := fun _ k _ _ u L st s => match getL L i with
  | some (.inr r) => k nx u L (.inl (.inr r) :: st) s
  | _ => False
def op_is (i nx : Nat) : Sem := fun _ k _ _ u L st s => match st with
  | .inl (.inl x) :: st' => setK L i (.inl x) (fun L' => k nx u L' st' s)
  | _ => False
def op_as (i nx : Nat) : Sem := fun _ k _ _ u L st s => match st with
  | .inl (.inr r) :: st' => setK L i (.inr r) (fun L' => k nx u L' st' s)
  | _ => False
def op_inc (i : Nat) (n : Int32) (nx : Nat) : Sem := fun _ k _ _ u L st s => match getL L i with
  | some (.inl x) => setK L i (.inl (x + n)) (fun L' => k nx u L' st s)
  | _ => False
def op_bin (f : Int32 → Int32 → Int32) (nx : Nat) : Sem := fun _ k _ _ u L st s => match st with
  | .inl (.inl y) :: .inl (.inl x) :: st' => k nx u L (aI (f x y) :: st') s
  | _ => False
def op_dv (f : Int32 → Int32 → Int32) (nx : Nat) : Sem := fun _ k _ _ u L st s => match st with
  | .inl (.inl y) :: .inl (.inl x) :: st' => (¬ y = 0) ∧ k nx u L (aI (f x y) :: st') s
  | _ => False
def op_if (f : Int32 → Prop) (tg nx : Nat) : Sem := fun _ k _ _ u L st s => match st with
  | .inl (.inl x) :: st' => (f x → k tg u L st' s) ∧ (¬ f x → k nx u L st' s)
  | _ => False
def op_cmp (f : Int32 → Int32 → Prop) (tg nx : Nat) : Sem := fun _ k _ _ u L st s => match st with
  | .inl (.inl y) :: .inl (.inl x) :: st' => (f x y → k tg u L st' s) ∧ (¬ f x y → k nx u L st' s)
  | _ => False
def op_go (tg : Nat) : Sem := fun _ k _ _ u L st s => k tg u L st s
def op_dup (nx : Nat) : Sem := fun _ k _ _ u L st s => match st with
  | .inl v :: st' => k nx u L (.inl v :: .inl v :: st') s
  | _ => False
def op_dup2 (nx : Nat) : Sem := fun _ k _ _ u L st s => match st with
  | .inl v :: .inl w :: st' => k nx u L (.inl v :: .inl w :: .inl v :: .inl w :: st') s
  | _ => False
def op_pop (nx : Nat) : Sem := fun _ k _ _ u L st s => match st with
  | .inl _ :: st' => k nx u L st' s
  | _ => False
def op_i2l (nx : Nat) : Sem := fun _ k _ _ u L st s => match st with
  | .inl (.inl x) :: st' => k nx u L (aL x.toInt64 :: st') s
  | _ => False
def op_i2c (nx : Nat) : Sem := fun _ k _ _ u L st s => match st with
  | .inl (.inl x) :: st' => k nx u L (aI (x.toUInt32 % 65536).toInt32 :: st') s
  | _ => False
def op_lc (v : Int64) (nx : Nat) : Sem := fun _ k _ _ u L st s => k nx u L (aL v :: st) s
def op_lcmp (nx : Nat) : Sem := fun _ k _ _ u L st s => match st with
  | .inr y :: .inr x :: st' => k nx u L (aI (lg_cmp x y) :: st') s
  | _ => False
/-- an object of the class at place ci: that class it is -/
def isO (ci t : Nat) : Bool := match ob t with
  | some (c, _) => Nat.beq c ci
  | none => false
def op_gf (ci f nx : Nat) : Sem := fun _ k _ _ u L st s => match st with
  | .inl (.inr (t, i)) :: st' => bif isO ci t then (Lv s t i ∧ (match rf t f with
    | some (t', none) => k nx u L (aR t' i :: st') s
    | some (t', some c) => k nx u L (aR t' c :: st') s
    | none => bif Nat.beq t 2 && Nat.beq f 2 then k nx u L (aI (nI (s.1 i)) :: st') s else k nx u L (aI (s.2.1 t i f) :: st') s)) else False
  | _ => False
def op_pf (ci f nx : Nat) : Sem := fun _ k _ _ u L st s => match st with
  | .inl (.inl v) :: .inl (.inr (t, i)) :: st' => bif isO ci t then (match rf t f with
    | none => bif Nat.beq t 2 && Nat.beq f 2 then False else (Lv s t i ∧ (bif zf t f then ((v = 0 ∨ v = 1) ∧ k nx u L st' (stS s t i f v)) else k nx u L st' (stS s t i f v)))
    | _ => False) else False
  | _ => False
def op_iald (nx : Nat) : Sem := fun _ k _ _ u L st s => match st with
  | .inl (.inl j) :: .inl (.inr (t, i)) :: st' => (match ob t, ar t with
    | none, some (0, n) => Lv s t i ∧ Ib j n ∧ k nx u L (aI (s.2.1 t i j.toNatClampNeg) :: st') s
    | _, _ => False)
  | _ => False
def op_bald (nx : Nat) : Sem := fun _ k _ _ u L st s => match st with
  | .inl (.inl j) :: .inl (.inr (t, i)) :: st' => (match ob t, ar t with
    | none, some (1, n) => Lv s t i ∧ Ib j n ∧ k nx u L (aI (s.2.1 t i j.toNatClampNeg) :: st') s
    | _, _ => False)
  | _ => False
def op_iast (nx : Nat) : Sem := fun _ k _ _ u L st s => match st with
  | .inl (.inl v) :: .inl (.inl j) :: .inl (.inr (t, i)) :: st' => (match ob t, ar t with
    | none, some (0, n) => Lv s t i ∧ Ib j n ∧ k nx u L st' (stS s t i j.toNatClampNeg v)
    | _, _ => False)
  | _ => False
def op_bast (nx : Nat) : Sem := fun _ k _ _ u L st s => match st with
  | .inl (.inl v) :: .inl (.inl j) :: .inl (.inr (t, i)) :: st' => (match ob t, ar t with
    | none, some (1, n) => Lv s t i ∧ Ib j n ∧ (v = 0 ∨ v = 1) ∧ k nx u L st' (stS s t i j.toNatClampNeg v)
    | _, _ => False)
  | _ => False
def op_aald (nx : Nat) : Sem := fun _ k _ _ u L st s => match st with
  | .inl (.inl j) :: .inl (.inr (t, i)) :: st' => (match ob t, ar t with
    | none, some (2, _) => Lv s t i ∧ Ib j (s.1 (3 + i)) ∧ j.toNatClampNeg < s.1 i ∧ k nx u L (aR (12 + i) j.toNatClampNeg :: st') s
    | none, some (3, n) => Lv s t i ∧ Ib j n ∧ k nx u L (aR (t + 1) j.toNatClampNeg :: st') s
    | _, _ => False)
  | _ => False
def op_lald (nx : Nat) : Sem := fun _ k _ _ u L st s => match st with
  | .inl (.inl j) :: .inl (.inr (60, i)) :: st' => Lv s 60 i ∧ Ib j 1 ∧ k nx u L (aL s.2.2 :: st') s
  | _ => False
def op_last (nx : Nat) : Sem := fun _ k _ _ u L st s => match st with
  | .inr v :: .inl (.inl j) :: .inl (.inr (60, i)) :: st' => Lv s 60 i ∧ Ib j 1 ∧ k nx u L st' (stO s v)
  | _ => False
def op_cc (ci nx : Nat) : Sem := fun _ k _ _ u L st s => match st with
  | .inl (.inr (t, i)) :: st' => bif isO ci t then (Lv s t i ∧ k nx u L (.inl (.inr (t, i)) :: st') s) else False
  | _ => False
def swK : List (Int32 × Nat) → Nat → Int32 → (Nat → Prop) → Prop
  | [], d, _, k => k d
  | (v, t) :: r, d, x, k => (x = v → k t) ∧ (¬ x = v → swK r d x k)
def op_sw (es : List (Int32 × Nat)) (d : Nat) : Sem := fun _ k _ _ u L st s => match st with
  | .inl (.inl x) :: st' => swK es d x (fun t => k t u L st' s)
  | _ => False
def op_iret : Sem := fun U _ N _ u _ st s => match st with
  | [.inl (.inl v)] => u ≤ U ∧ N (some (aI v)) s
  | _ => False
def op_zret : Sem := fun U _ N _ u _ st s => match st with
  | [.inl (.inl v)] => u ≤ U ∧ (v = 0 ∨ v = 1) ∧ N (some (aI v)) s
  | _ => False
def op_aret : Sem := fun U _ N _ u _ st s => match st with
  | [.inl (.inr r)] => u ≤ U ∧ N (some (.inl (.inr r))) s
  | _ => False
def op_vret : Sem := fun U _ N _ u _ st s => match st with
  | [] => u ≤ U ∧ N none s
  | _ => False
def popK : Nat → List AV → List AV → (List AV → List AV → Prop) → Prop
  | 0, acc, st, k => k acc st
  | n + 1, acc, v :: st, k => popK n (v :: acc) st k
  | _ + 1, _, [], _ => False
def catS : List AV → Nat
  | [] => 0
  | .inl _ :: r => catS r + 1
  | .inr _ :: r => catS r + 2
/-- a call: n arguments (the object's own among them), w units of room -/
def op_call (sp : Spc) (n w nx : Nat) : Sem := fun U k _ X u L st s => popK n [] st (fun as st' => u + w ≤ U ∧ catS st' ≤ 8 ∧ sp as s (fun r s' => match r with
  | some v => k nx (u + w) L (v :: st') s'
  | none => k nx (u + w) L st' s') X)
/-- .. of an object's method -/
def op_callV (ci : Nat) (sp : Spc) (n w nx : Nat) : Sem := fun U k _ X u L st s => popK n [] st (fun as st' => match as with
  | .inl (.inr (t, i)) :: _ => bif isO ci t then (Lv s t i ∧ u + w ≤ U ∧ catS st' ≤ 8 ∧ sp as s (fun r s' => match r with
    | some v => k nx (u + w) L (v :: st') s'
    | none => k nx (u + w) L st' s') X) else False
  | _ => False)
end
section
/-! ===== each instruction's meaning is sound ===== -/
theorem getL_mem : ∀ {L : LC} {i : Nat} {v : LV}, getL L i = some v → (i, v) ∈ L
  | [], _, _, h => nomatch h
  | (j, w) :: r, i, v, h => by
    unfold getL at h
    cases hq : Nat.beq j i with
    | true =>
      rw [hq, cond_true] at h
      cases h
      rw [Nat.eq_of_beq_eq_true hq]
      exact List.mem_cons_self
    | false =>
      rw [hq, cond_false] at h
      exact List.mem_cons_of_mem _ (getL_mem h)
theorem getL_at {ad : Nat → Nat → Nat} {ls : Array Slot} {nL : Nat} {L : LC} {i : Nat} {v : LV} (hl : lv_has ls nL (L.map (fun q => (q.1, cL ad q.2)))) (h : getL L i = some v) : ls[i]? = some (.val (cL ad v)) :=
  hl.2.2 (i, cL ad v) (List.mem_map.mpr ⟨(i, v), getL_mem h, rfl⟩)
theorem setB_ok : ∀ {L : LC} {i : Nat} {v : LV} {b : Bool} {k : LC → Prop}, setB L i v b k → ∃ L', k L' ∧ ∀ q ∈ L', q = (i, v) ∨ (q ∈ L ∧ q.1 ≠ i)
  | [], i, v, true, k, h => ⟨[], h, fun q hq => nomatch hq⟩
  | [], i, v, false, k, h => ⟨[(i, v)], h, fun q hq => Or.inl (List.mem_singleton.mp hq)⟩
  | (j, w) :: r, i, v, b, k, h => by
    unfold setB at h
    cases hq : Nat.beq j i with
    | true =>
      rw [hq, cond_true] at h
      obtain ⟨L', h1, h2⟩ := setB_ok h
      refine ⟨_, h1, fun q hm => ?_⟩
      rcases List.mem_cons.mp hm with e | e
      · exact Or.inl e
      · exact (h2 q e).imp id (fun z => ⟨List.mem_cons_of_mem _ z.1, z.2⟩)
    | false =>
      rw [hq, cond_false] at h
      obtain ⟨L', h1, h2⟩ := setB_ok h
      refine ⟨_, h1, fun q hm => ?_⟩
      rcases List.mem_cons.mp hm with e | e
      · exact Or.inr ⟨by rw [e]; exact List.mem_cons_self, by rw [e]; exact Nat.ne_of_beq_eq_false hq⟩
      · exact (h2 q e).imp id (fun z => ⟨List.mem_cons_of_mem _ z.1, z.2⟩)
/-- the locals behind a store -/
theorem setK_ok {ad : Nat → Nat → Nat} {L : LC} {i : Nat} {v : LV} {k : LC → Prop} (h : setK L i v k) : ∃ L', k L' ∧ ∀ (nL : Nat) (ls : Array Slot),
    lv_has ls nL ((i, cL ad v) :: (L.map (fun q => (q.1, cL ad q.2))).filter (fun q => !(q.1 == i) && !(q.1 + 1 == i && q.2.category == 2))) → lv_has ls nL (L'.map (fun q => (q.1, cL ad q.2))) := by
  obtain ⟨L', h1, h2⟩ := setB_ok h
  refine ⟨L', h1, fun nL ls hl => ⟨hl.1, hl.2.1, fun q hq => ?_⟩⟩
  obtain ⟨z, hz, rfl⟩ := List.mem_map.mp hq
  rcases h2 z hz with rfl | ⟨h3, h4⟩
  · exact hl.2.2 _ List.mem_cons_self
  · refine hl.2.2 _ (List.mem_cons_of_mem _ (List.mem_filter.mpr ⟨List.mem_map.mpr ⟨z, h3, rfl⟩, ?_⟩))
    show (!(z.1 == i) && !(z.1 + 1 == i && (cL ad z.2).category == 2)) = true
    rw [cL_cat]
    simp [h4]
theorem ob_N : ∀ {t c n : Nat}, ob t = some (c, n) → ∃ q, vwCl[c]? = some q ∧ q.2.2 = n := by
  intro t c n h
  unfold ob at h
  split at h <;> cases h <;> exact ⟨_, rfl, rfl⟩
theorem isO_ob {ci t : Nat} (h : isO ci t = true) : ∃ n, ob t = some (ci, n) := by
  unfold isO at h
  cases ho : ob t with
  | none => rw [ho] at h; cases h
  | some q =>
    obtain ⟨c, n⟩ := q
    rw [ho] at h
    exact ⟨n, by rw [Nat.eq_of_beq_eq_true h]⟩
theorem ent_ob {g : GPm} {ad : Nat → Nat → Nat} {s : Sg} {t i c n : Nat} (h : ob t = some (c, n)) : ent g ad s t i = .inr (c, (List.range n).map (fun k => cL ad (gf s t i k))) := by
  unfold ent; rw [h]
theorem ent_0 {g : GPm} {ad : Nat → Nat → Nat} {s : Sg} {t i n : Nat} (h : ob t = none) (h2 : ar t = some (0, n)) : ent g ad s t i = .inl (g.2.1 0, n, .inl (s.2.1 t i)) := by
  unfold ent; rw [h, h2]; rfl
theorem ent_1 {g : GPm} {ad : Nat → Nat → Nat} {s : Sg} {t i n : Nat} (h : ob t = none) (h2 : ar t = some (1, n)) : ent g ad s t i = .inl (g.2.1 1, n, .inl (s.2.1 t i)) := by
  unfold ent; rw [h, h2]; rfl
theorem ent_2 {g : GPm} {ad : Nat → Nat → Nat} {s : Sg} {t i n : Nat} (h : ob t = none) (h2 : ar t = some (2, n)) : ent g ad s t i = .inl (g.2.1 2, s.1 (3 + i), .inr (.inr (.inr (.inr (fun j => (er s t i j).map (fun r => ad r.1 r.2)))))) := by
  unfold ent; rw [h, h2]; rfl
theorem ent_3 {g : GPm} {ad : Nat → Nat → Nat} {s : Sg} {t i n : Nat} (h : ob t = none) (h2 : ar t = some (3, n)) : ent g ad s t i = .inl (g.2.1 3, n, .inr (.inr (.inr (.inr (fun j => (er s t i j).map (fun r => ad r.1 r.2)))))) := by
  unfold ent; rw [h, h2]; rfl
theorem ent_60 {g : GPm} {ad : Nat → Nat → Nat} {s : Sg} : ent g ad s 60 0 = .inl (g.2.1 4, 1, .inr (.inl (fun _ => s.2.2))) := rfl
theorem ar_4 {t n : Nat} (h : ar t = some (4, n)) : t = 60 := by
  unfold ar at h
  split at h <;> first | rfl | (simp at h)
theorem stO_ent {g : GPm} {ad : Nat → Nat → Nat} {s : Sg} {v : Int64} : ∀ a b, ¬ (a = 60 ∧ b = 0) → ent g ad (stO s v) a b = ent g ad s a b := by
  intro a b hab
  unfold ent
  split
  · rfl
  · split <;> try rfl
    rename_i n hr
    have := ar_4 hr
    rw [if_neg (fun q => hab ⟨this, q⟩), if_neg (fun q => hab ⟨this, q⟩)]
theorem ar_2 {t n : Nat} (h : ar t = some (2, n)) : t = 3 := by
  unfold ar at h
  split at h <;> first | rfl | (simp at h)
theorem ar_3 {t n : Nat} (h : ar t = some (3, n)) : t ≠ 3 := by
  rintro rfl
  simp [ar] at h
theorem GS_moved {g : GPm} {s U : State} {locs : List Loc} (h : GS g s) (hW : s.WarmedH U.vm) (hS : va_S (gA g) s.heap U.heap locs) : GS g U :=
  ⟨va_K.moved hW.alike h.1, (vx_Zq.moved hW.alike h.2.1).kept (fun a h1 h2 => hS.2.1 a h1 h2), (vx_Zq.moved hW.alike h.2.2.1).kept (fun a h1 h2 => hS.2.1 a h1 h2), GX_moved h.2.2.2 hW hS⟩
theorem GP_blind {g : GPm} {ad : Nat → Nat → Nat} {K : List (Nat × Nat)} {s0 : Sg} {av : List Value} : FrameBlind (va_Pc av (fun U => GS g U ∧ GP g ad K s0 U.heap)) := by
  intro a U gg mk h
  obtain ⟨h1, h2, h3⟩ := h
  exact ⟨h1, ⟨va_K.moved (u := U) (U := U.calling gg mk a) (Vm.Alike.refl U.vm) h2.1, vx_Zq.moved (u := U) (U := U.calling gg mk a) (Vm.Alike.refl U.vm) h2.2.1, vx_Zq.moved (u := U) (U := U.calling gg mk a) (Vm.Alike.refl U.vm) h2.2.2.1, GX_blind h2.2.2.2⟩, h3⟩
/-- the world with one thing changed -/
theorem GP_set {g : GPm} {ad : Nat → Nat → Nat} {K : List (Nat × Nat)} {s s' : Sg} {t i q0 : Nat} {H H1 : Heap} {e : va_E} (hP : GP g ad K s H) (hq : K[q0]? = some (t, i)) (he : ent g ad s' t i = e)
    (ho : ∀ a b, ¬ (a = t ∧ b = i) → ent g ad s' a b = ent g ad s a b) (hL : ∀ a b, Lv s' a b → Lv s a b) (h1 : va_P g.1 vwCl ((gws g ad K s).set q0 (ad t i, e)) H1) (h2 : va_D (gA g) ((gws g ad K s).set q0 (ad t i, e))) (hz : H.size ≤ H1.size) : GP g ad K s' H1 := by
  have := gws_set (g := g) (ad := ad) (s' := s') hP.2.1 hq he ho
  rw [this] at h1 h2
  exact ⟨h1, h2, fun a b hab => hP.2.2.1 a b (hL a b hab), Nat.le_trans hP.2.2.2 hz⟩
section Snds
variable {own : String} {cc : ByteArray} {nL d U : Nat} {ret : Option FieldType} {pc nx : Nat}
theorem ok_iconst {n : Int} {v : Int32} (hd : decode cc pc = .ok (.iconst n, 1)) (hv : Int32.ofInt n = v) (hn : pc + 1 = nx) : Snd own cc nL d U ret pc (op_ic v nx) := by
  intro g p l e R s m args below meth c w0 hC ad K N X Q hQ k hk u L st s0 h
  subst hn
  intro H locs ls hP hS hl
  exact lv_iconst hC.1.1 hC.1.2.1 hd hv (hk _ _ _ _ _ h H locs ls hP hS hl)
theorem ok_bipush {n : Int} {v : Int32} (hd : decode cc pc = .ok (.bipush n, 2)) (hv : (Int8.ofInt n).toInt32 = v) (hn : pc + 2 = nx) : Snd own cc nL d U ret pc (op_ic v nx) := by
  intro g p l e R s m args below meth c w0 hC ad K N X Q hQ k hk u L st s0 h
  subst hn
  intro H locs ls hP hS hl
  exact lv_bipush hC.1.1 hC.1.2.1 hd hv (hk _ _ _ _ _ h H locs ls hP hS hl)
theorem ok_sipush {n : Int} {v : Int32} (hd : decode cc pc = .ok (.sipush n, 3)) (hv : (Int16.ofInt n).toInt32 = v) (hn : pc + 3 = nx) : Snd own cc nL d U ret pc (op_ic v nx) := by
  intro g p l e R s m args below meth c w0 hC ad K N X Q hQ k hk u L st s0 h
  subst hn
  intro H locs ls hP hS hl
  exact lv_sipush hC.1.1 hC.1.2.1 hd hv (hk _ _ _ _ _ h H locs ls hP hS hl)
theorem ok_ldc {n : Nat} {v : Int32} (hw : Cond.constant own n v ∈ TB) (hd : decode cc pc = .ok (.ldc n, 2)) (hn : pc + 2 = nx) : Snd own cc nL d U ret pc (op_ic v nx) := by
  intro g p l e R s m args below meth c w0 hC ad K N X Q hQ k hk u L st s0 h
  subst hn
  intro H locs ls hP hS hl
  exact lv_ldc hC.1.1 hC.1.2.1 hC.1.2.2.2.1 (hC.1.2.2.2.2 _ (List.mem_cons_of_mem _ hw)) hd (hk _ _ _ _ _ h H locs ls hP hS hl)
theorem ok_iload {i : Nat} (hd : decode cc pc = .ok (.iload i, 2)) (hn : pc + 2 = nx) : Snd own cc nL d U ret pc (op_il i nx) := by
  intro g p l e R s m args below meth c w0 hC ad K N X Q hQ k hk u L st s0 h
  subst hn
  intro H locs ls hP hS hl
  unfold op_il at h
  split at h
  · rename_i x hx
    exact lv_iload hC.1.1 hC.1.2.1 hd (getL_at hl hx) (hk _ _ _ _ _ h H locs ls hP hS hl)
  · exact h.elim
theorem ok_iload_n {q : Fin 4} {i : Nat} (hd : decode cc pc = .ok (.iload_n q, 1)) (hi : (q : Nat) = i) (hn : pc + 1 = nx) : Snd own cc nL d U ret pc (op_il i nx) := by
  intro g p l e R s m args below meth c w0 hC ad K N X Q hQ k hk u L st s0 h
  subst hn
  intro H locs ls hP hS hl
  unfold op_il at h
  split at h
  · rename_i x hx
    exact lv_iload_n hC.1.1 hC.1.2.1 hd hi (getL_at hl hx) (hk _ _ _ _ _ h H locs ls hP hS hl)
  · exact h.elim
theorem ok_aload {i : Nat} (hd : decode cc pc = .ok (.aload i, 2)) (hn : pc + 2 = nx) : Snd own cc nL d U ret pc (op_al i nx) := by
  intro g p l e R s m args below meth c w0 hC ad K N X Q hQ k hk u L st s0 h
  subst hn
  intro H locs ls hP hS hl
  unfold op_al at h
  split at h
  · rename_i x hx
    exact lv_aload hC.1.1 hC.1.2.1 hd (getL_at hl hx) (hk _ _ _ _ _ h H locs ls hP hS hl)
  · exact h.elim
theorem ok_aload_n {q : Fin 4} {i : Nat} (hd : decode cc pc = .ok (.aload_n q, 1)) (hi : (q : Nat) = i) (hn : pc + 1 = nx) : Snd own cc nL d U ret pc (op_al i nx) := by
  intro g p l e R s m args below meth c w0 hC ad K N X Q hQ k hk u L st s0 h
  subst hn
  intro H locs ls hP hS hl
  unfold op_al at h
  split at h
  · rename_i x hx
    exact lv_aload_n hC.1.1 hC.1.2.1 hd hi (getL_at hl hx) (hk _ _ _ _ _ h H locs ls hP hS hl)
  · exact h.elim
theorem ok_istore {i : Nat} (hd : decode cc pc = .ok (.istore i, 2)) (hi : i < nL) (hn : pc + 2 = nx) : Snd own cc nL d U ret pc (op_is i nx) := by
  intro g p l e R s m args below meth c w0 hC ad K N X Q hQ k hk u L st s0 h
  subst hn
  intro H locs ls hP hS hl
  unfold op_is at h
  split at h
  · rename_i x st'
    obtain ⟨L', h1, h2⟩ := setK_ok (ad := ad) h
    exact lv_istore hC.1.1 hC.1.2.1 hd hl hi rfl (fun ls' hl' => hk _ _ _ _ _ h1 H locs ls' hP hS (h2 nL ls' hl'))
  · exact h.elim
theorem ok_istore_n {q : Fin 4} {i : Nat} (hd : decode cc pc = .ok (.istore_n q, 1)) (he : (q : Nat) = i) (hi : i < nL) (hn : pc + 1 = nx) : Snd own cc nL d U ret pc (op_is i nx) := by
  intro g p l e R s m args below meth c w0 hC ad K N X Q hQ k hk u L st s0 h
  subst hn
  intro H locs ls hP hS hl
  unfold op_is at h
  split at h
  · rename_i x st'
    obtain ⟨L', h1, h2⟩ := setK_ok (ad := ad) h
    exact lv_istore_n hC.1.1 hC.1.2.1 hd he hl hi rfl (fun ls' hl' => hk _ _ _ _ _ h1 H locs ls' hP hS (h2 nL ls' hl'))
  · exact h.elim
theorem ok_astore {i : Nat} (hd : decode cc pc = .ok (.astore i, 2)) (hi : i < nL) (hn : pc + 2 = nx) : Snd own cc nL d U ret pc (op_as i nx) := by
  intro g p l e R s m args below meth c w0 hC ad K N X Q hQ k hk u L st s0 h
  subst hn
  intro H locs ls hP hS hl
  unfold op_as at h
  split at h
  · rename_i x st'
    obtain ⟨L', h1, h2⟩ := setK_ok (ad := ad) h
    exact lv_astore hC.1.1 hC.1.2.1 hd hl hi rfl (fun ls' hl' => hk _ _ _ _ _ h1 H locs ls' hP hS (h2 nL ls' hl'))
  · exact h.elim
theorem ok_astore_n {q : Fin 4} {i : Nat} (hd : decode cc pc = .ok (.astore_n q, 1)) (he : (q : Nat) = i) (hi : i < nL) (hn : pc + 1 = nx) : Snd own cc nL d U ret pc (op_as i nx) := by
  intro g p l e R s m args below meth c w0 hC ad K N X Q hQ k hk u L st s0 h
  subst hn
  intro H locs ls hP hS hl
  unfold op_as at h
  split at h
  · rename_i x st'
    obtain ⟨L', h1, h2⟩ := setK_ok (ad := ad) h
    exact lv_astore_n hC.1.1 hC.1.2.1 hd he hl hi rfl (fun ls' hl' => hk _ _ _ _ _ h1 H locs ls' hP hS (h2 nL ls' hl'))
  · exact h.elim
theorem ok_iinc {i : Nat} {n : Int} {v : Int32} (hd : decode cc pc = .ok (.iinc i n, 3)) (hv : Int32.ofInt n = v) (hi : i < nL) (hn : pc + 3 = nx) : Snd own cc nL d U ret pc (op_inc i v nx) := by
  intro g p l e R s m args below meth c w0 hC ad K N X Q hQ k hk u L st s0 h
  subst hn
  intro H locs ls hP hS hl
  unfold op_inc at h
  split at h
  · rename_i x hx
    obtain ⟨L', h1, h2⟩ := setK_ok (ad := ad) h
    obtain ⟨kk, hkk⟩ := List.getElem?_of_mem (List.mem_map.mpr ⟨(i, .inl x), getL_mem hx, rfl⟩ : (i, Value.int x) ∈ L.map (fun q => (q.1, cL ad q.2)))
    exact lv_iinc hC.1.1 hC.1.2.1 hd hl hkk (by rw [hv]) hi rfl (fun ls' hl' => hk _ _ _ _ _ h1 H locs ls' hP hS (h2 nL ls' hl'))
  · exact h.elim
theorem ok_iadd (hd : decode cc pc = .ok (.iadd, 1)) (hn : pc + 1 = nx) : Snd own cc nL d U ret pc (op_bin (fun x y => x + y) nx) := by
  intro g p l e R s m args below meth c w0 hC ad K N X Q hQ k hk u L st s0 h
  subst hn
  intro H locs ls hP hS hl
  unfold op_bin at h
  split at h
  · exact lv_iadd hC.1.1 hC.1.2.1 hd (hk _ _ _ _ _ h H locs ls hP hS hl)
  · exact h.elim
theorem ok_isub (hd : decode cc pc = .ok (.isub, 1)) (hn : pc + 1 = nx) : Snd own cc nL d U ret pc (op_bin (fun x y => x - y) nx) := by
  intro g p l e R s m args below meth c w0 hC ad K N X Q hQ k hk u L st s0 h
  subst hn
  intro H locs ls hP hS hl
  unfold op_bin at h
  split at h
  · exact lv_isub hC.1.1 hC.1.2.1 hd (hk _ _ _ _ _ h H locs ls hP hS hl)
  · exact h.elim
theorem ok_imul (hd : decode cc pc = .ok (.imul, 1)) (hn : pc + 1 = nx) : Snd own cc nL d U ret pc (op_bin (fun x y => x * y) nx) := by
  intro g p l e R s m args below meth c w0 hC ad K N X Q hQ k hk u L st s0 h
  subst hn
  intro H locs ls hP hS hl
  unfold op_bin at h
  split at h
  · exact lv_imul hC.1.1 hC.1.2.1 hd (hk _ _ _ _ _ h H locs ls hP hS hl)
  · exact h.elim
theorem ok_iand (hd : decode cc pc = .ok (.iand, 1)) (hn : pc + 1 = nx) : Snd own cc nL d U ret pc (op_bin (fun x y => x &&& y) nx) := by
  intro g p l e R s m args below meth c w0 hC ad K N X Q hQ k hk u L st s0 h
  subst hn
  intro H locs ls hP hS hl
  unfold op_bin at h
  split at h
  · exact lv_iand hC.1.1 hC.1.2.1 hd (hk _ _ _ _ _ h H locs ls hP hS hl)
  · exact h.elim
theorem ok_ior (hd : decode cc pc = .ok (.ior, 1)) (hn : pc + 1 = nx) : Snd own cc nL d U ret pc (op_bin (fun x y => x ||| y) nx) := by
  intro g p l e R s m args below meth c w0 hC ad K N X Q hQ k hk u L st s0 h
  subst hn
  intro H locs ls hP hS hl
  unfold op_bin at h
  split at h
  · exact lv_ior hC.1.1 hC.1.2.1 hd (hk _ _ _ _ _ h H locs ls hP hS hl)
  · exact h.elim
theorem ok_ixor (hd : decode cc pc = .ok (.ixor, 1)) (hn : pc + 1 = nx) : Snd own cc nL d U ret pc (op_bin (fun x y => x ^^^ y) nx) := by
  intro g p l e R s m args below meth c w0 hC ad K N X Q hQ k hk u L st s0 h
  subst hn
  intro H locs ls hP hS hl
  unfold op_bin at h
  split at h
  · exact lv_ixor hC.1.1 hC.1.2.1 hd (hk _ _ _ _ _ h H locs ls hP hS hl)
  · exact h.elim
theorem ok_ishl (hd : decode cc pc = .ok (.ishl, 1)) (hn : pc + 1 = nx) : Snd own cc nL d U ret pc (op_bin (fun x y => x <<< (y &&& 31)) nx) := by
  intro g p l e R s m args below meth c w0 hC ad K N X Q hQ k hk u L st s0 h
  subst hn
  intro H locs ls hP hS hl
  unfold op_bin at h
  split at h
  · exact lv_ishl hC.1.1 hC.1.2.1 hd (hk _ _ _ _ _ h H locs ls hP hS hl)
  · exact h.elim
theorem ok_ishr (hd : decode cc pc = .ok (.ishr, 1)) (hn : pc + 1 = nx) : Snd own cc nL d U ret pc (op_bin (fun x y => x >>> (y &&& 31)) nx) := by
  intro g p l e R s m args below meth c w0 hC ad K N X Q hQ k hk u L st s0 h
  subst hn
  intro H locs ls hP hS hl
  unfold op_bin at h
  split at h
  · exact lv_ishr hC.1.1 hC.1.2.1 hd (hk _ _ _ _ _ h H locs ls hP hS hl)
  · exact h.elim
theorem ok_idiv (hd : decode cc pc = .ok (.idiv, 1)) (hn : pc + 1 = nx) : Snd own cc nL d U ret pc (op_dv (fun x y => x / y) nx) := by
  intro g p l e R s m args below meth c w0 hC ad K N X Q hQ k hk u L st s0 h
  subst hn
  intro H locs ls hP hS hl
  unfold op_dv at h
  split at h
  · exact lv_idiv hC.1.1 hC.1.2.1 hd h.1 (hk _ _ _ _ _ h.2 H locs ls hP hS hl)
  · exact h.elim
theorem ok_irem (hd : decode cc pc = .ok (.irem, 1)) (hn : pc + 1 = nx) : Snd own cc nL d U ret pc (op_dv (fun x y => x - x / y * y) nx) := by
  intro g p l e R s m args below meth c w0 hC ad K N X Q hQ k hk u L st s0 h
  subst hn
  intro H locs ls hP hS hl
  unfold op_dv at h
  split at h
  · exact lv_irem hC.1.1 hC.1.2.1 hd h.1 (hk _ _ _ _ _ h.2 H locs ls hP hS hl)
  · exact h.elim
theorem ok_if_eq {off : Int} {tg : Nat} (hd : decode cc pc = .ok (.ifCond .eq off, 3)) (ht : (pc : Int) + off = (tg : Int)) (hn : pc + 3 = nx) : Snd own cc nL d U ret pc (op_if (fun x => x = 0) tg nx) := by
  intro g p l e R s m args below meth c w0 hC ad K N X Q hQ k hk u L st s0 h
  subst hn
  intro H locs ls hP hS hl
  unfold op_if at h
  split at h
  · exact lv_if_eq hC.1.1 hC.1.2.1 hd ht (fun q => hk _ _ _ _ _ (h.1 q) H locs ls hP hS hl) (fun q => hk _ _ _ _ _ (h.2 (by first | exact q | simpa using q)) H locs ls hP hS hl)
  · exact h.elim
theorem ok_icmp_eq {off : Int} {tg : Nat} (hd : decode cc pc = .ok (.if_icmp .eq off, 3)) (ht : (pc : Int) + off = (tg : Int)) (hn : pc + 3 = nx) : Snd own cc nL d U ret pc (op_cmp (fun x y => x = y) tg nx) := by
  intro g p l e R s m args below meth c w0 hC ad K N X Q hQ k hk u L st s0 h
  subst hn
  intro H locs ls hP hS hl
  unfold op_cmp at h
  split at h
  · exact lv_icmp_eq hC.1.1 hC.1.2.1 hd ht (fun q => hk _ _ _ _ _ (h.1 q) H locs ls hP hS hl) (fun q => hk _ _ _ _ _ (h.2 (by first | exact q | simpa using q)) H locs ls hP hS hl)
  · exact h.elim
theorem ok_if_ne {off : Int} {tg : Nat} (hd : decode cc pc = .ok (.ifCond .ne off, 3)) (ht : (pc : Int) + off = (tg : Int)) (hn : pc + 3 = nx) : Snd own cc nL d U ret pc (op_if (fun x => ¬ x = 0) tg nx) := by
  intro g p l e R s m args below meth c w0 hC ad K N X Q hQ k hk u L st s0 h
  subst hn
  intro H locs ls hP hS hl
  unfold op_if at h
  split at h
  · exact lv_if_ne hC.1.1 hC.1.2.1 hd ht (fun q => hk _ _ _ _ _ (h.1 q) H locs ls hP hS hl) (fun q => hk _ _ _ _ _ (h.2 (by first | exact q | simpa using q)) H locs ls hP hS hl)
  · exact h.elim
theorem ok_icmp_ne {off : Int} {tg : Nat} (hd : decode cc pc = .ok (.if_icmp .ne off, 3)) (ht : (pc : Int) + off = (tg : Int)) (hn : pc + 3 = nx) : Snd own cc nL d U ret pc (op_cmp (fun x y => ¬ x = y) tg nx) := by
  intro g p l e R s m args below meth c w0 hC ad K N X Q hQ k hk u L st s0 h
  subst hn
  intro H locs ls hP hS hl
  unfold op_cmp at h
  split at h
  · exact lv_icmp_ne hC.1.1 hC.1.2.1 hd ht (fun q => hk _ _ _ _ _ (h.1 q) H locs ls hP hS hl) (fun q => hk _ _ _ _ _ (h.2 (by first | exact q | simpa using q)) H locs ls hP hS hl)
  · exact h.elim
theorem ok_if_lt {off : Int} {tg : Nat} (hd : decode cc pc = .ok (.ifCond .lt off, 3)) (ht : (pc : Int) + off = (tg : Int)) (hn : pc + 3 = nx) : Snd own cc nL d U ret pc (op_if (fun x => x < 0) tg nx) := by
  intro g p l e R s m args below meth c w0 hC ad K N X Q hQ k hk u L st s0 h
  subst hn
  intro H locs ls hP hS hl
  unfold op_if at h
  split at h
  · exact lv_if_lt hC.1.1 hC.1.2.1 hd ht (fun q => hk _ _ _ _ _ (h.1 q) H locs ls hP hS hl) (fun q => hk _ _ _ _ _ (h.2 (by first | exact q | simpa using q)) H locs ls hP hS hl)
  · exact h.elim
theorem ok_icmp_lt {off : Int} {tg : Nat} (hd : decode cc pc = .ok (.if_icmp .lt off, 3)) (ht : (pc : Int) + off = (tg : Int)) (hn : pc + 3 = nx) : Snd own cc nL d U ret pc (op_cmp (fun x y => x < y) tg nx) := by
  intro g p l e R s m args below meth c w0 hC ad K N X Q hQ k hk u L st s0 h
  subst hn
  intro H locs ls hP hS hl
  unfold op_cmp at h
  split at h
  · exact lv_icmp_lt hC.1.1 hC.1.2.1 hd ht (fun q => hk _ _ _ _ _ (h.1 q) H locs ls hP hS hl) (fun q => hk _ _ _ _ _ (h.2 (by first | exact q | simpa using q)) H locs ls hP hS hl)
  · exact h.elim
theorem ok_if_ge {off : Int} {tg : Nat} (hd : decode cc pc = .ok (.ifCond .ge off, 3)) (ht : (pc : Int) + off = (tg : Int)) (hn : pc + 3 = nx) : Snd own cc nL d U ret pc (op_if (fun x => 0 ≤ x) tg nx) := by
  intro g p l e R s m args below meth c w0 hC ad K N X Q hQ k hk u L st s0 h
  subst hn
  intro H locs ls hP hS hl
  unfold op_if at h
  split at h
  · exact lv_if_ge hC.1.1 hC.1.2.1 hd ht (fun q => hk _ _ _ _ _ (h.1 q) H locs ls hP hS hl) (fun q => hk _ _ _ _ _ (h.2 (by first | exact q | simpa using q)) H locs ls hP hS hl)
  · exact h.elim
theorem ok_icmp_ge {off : Int} {tg : Nat} (hd : decode cc pc = .ok (.if_icmp .ge off, 3)) (ht : (pc : Int) + off = (tg : Int)) (hn : pc + 3 = nx) : Snd own cc nL d U ret pc (op_cmp (fun x y => y ≤ x) tg nx) := by
  intro g p l e R s m args below meth c w0 hC ad K N X Q hQ k hk u L st s0 h
  subst hn
  intro H locs ls hP hS hl
  unfold op_cmp at h
  split at h
  · exact lv_icmp_ge hC.1.1 hC.1.2.1 hd ht (fun q => hk _ _ _ _ _ (h.1 q) H locs ls hP hS hl) (fun q => hk _ _ _ _ _ (h.2 (by first | exact q | simpa using q)) H locs ls hP hS hl)
  · exact h.elim
theorem ok_if_gt {off : Int} {tg : Nat} (hd : decode cc pc = .ok (.ifCond .gt off, 3)) (ht : (pc : Int) + off = (tg : Int)) (hn : pc + 3 = nx) : Snd own cc nL d U ret pc (op_if (fun x => 0 < x) tg nx) := by
  intro g p l e R s m args below meth c w0 hC ad K N X Q hQ k hk u L st s0 h
  subst hn
  intro H locs ls hP hS hl
  unfold op_if at h
  split at h
  · exact lv_if_gt hC.1.1 hC.1.2.1 hd ht (fun q => hk _ _ _ _ _ (h.1 q) H locs ls hP hS hl) (fun q => hk _ _ _ _ _ (h.2 (by first | exact q | simpa using q)) H locs ls hP hS hl)
  · exact h.elim
theorem ok_icmp_gt {off : Int} {tg : Nat} (hd : decode cc pc = .ok (.if_icmp .gt off, 3)) (ht : (pc : Int) + off = (tg : Int)) (hn : pc + 3 = nx) : Snd own cc nL d U ret pc (op_cmp (fun x y => y < x) tg nx) := by
  intro g p l e R s m args below meth c w0 hC ad K N X Q hQ k hk u L st s0 h
  subst hn
  intro H locs ls hP hS hl
  unfold op_cmp at h
  split at h
  · exact lv_icmp_gt hC.1.1 hC.1.2.1 hd ht (fun q => hk _ _ _ _ _ (h.1 q) H locs ls hP hS hl) (fun q => hk _ _ _ _ _ (h.2 (by first | exact q | simpa using q)) H locs ls hP hS hl)
  · exact h.elim
theorem ok_if_le {off : Int} {tg : Nat} (hd : decode cc pc = .ok (.ifCond .le off, 3)) (ht : (pc : Int) + off = (tg : Int)) (hn : pc + 3 = nx) : Snd own cc nL d U ret pc (op_if (fun x => x ≤ 0) tg nx) := by
  intro g p l e R s m args below meth c w0 hC ad K N X Q hQ k hk u L st s0 h
  subst hn
  intro H locs ls hP hS hl
  unfold op_if at h
  split at h
  · exact lv_if_le hC.1.1 hC.1.2.1 hd ht (fun q => hk _ _ _ _ _ (h.1 q) H locs ls hP hS hl) (fun q => hk _ _ _ _ _ (h.2 (by first | exact q | simpa using q)) H locs ls hP hS hl)
  · exact h.elim
theorem ok_icmp_le {off : Int} {tg : Nat} (hd : decode cc pc = .ok (.if_icmp .le off, 3)) (ht : (pc : Int) + off = (tg : Int)) (hn : pc + 3 = nx) : Snd own cc nL d U ret pc (op_cmp (fun x y => x ≤ y) tg nx) := by
  intro g p l e R s m args below meth c w0 hC ad K N X Q hQ k hk u L st s0 h
  subst hn
  intro H locs ls hP hS hl
  unfold op_cmp at h
  split at h
  · exact lv_icmp_le hC.1.1 hC.1.2.1 hd ht (fun q => hk _ _ _ _ _ (h.1 q) H locs ls hP hS hl) (fun q => hk _ _ _ _ _ (h.2 (by first | exact q | simpa using q)) H locs ls hP hS hl)
  · exact h.elim
theorem ok_goto {off : Int} {tg : Nat} (hd : decode cc pc = .ok (.goto off, 3)) (ht : (pc : Int) + off = (tg : Int)) : Snd own cc nL d U ret pc (op_go tg) := by
  intro g p l e R s m args below meth c w0 hC ad K N X Q hQ k hk u L st s0 h
  intro H locs ls hP hS hl
  exact lv_goto hC.1.1 hC.1.2.1 hd ht (hk _ _ _ _ _ h H locs ls hP hS hl)
theorem ok_dup (hd : decode cc pc = .ok (.dup, 1)) (hn : pc + 1 = nx) : Snd own cc nL d U ret pc (op_dup nx) := by
  intro g p l e R s m args below meth c w0 hC ad K N X Q hQ k hk u L st s0 h
  subst hn
  intro H locs ls hP hS hl
  unfold op_dup at h
  split at h
  · exact lv_dup hC.1.1 hC.1.2.1 hd (cL_cat ad _) (hk _ _ _ _ _ h H locs ls hP hS hl)
  · exact h.elim
theorem ok_dup2 (hd : decode cc pc = .ok (.dup2, 1)) (hn : pc + 1 = nx) : Snd own cc nL d U ret pc (op_dup2 nx) := by
  intro g p l e R s m args below meth c w0 hC ad K N X Q hQ k hk u L st s0 h
  subst hn
  intro H locs ls hP hS hl
  unfold op_dup2 at h
  split at h
  · exact lv_dup2_11 hC.1.1 hC.1.2.1 hd (cL_cat ad _) (cL_cat ad _) (hk _ _ _ _ _ h H locs ls hP hS hl)
  · exact h.elim
theorem ok_pop (hd : decode cc pc = .ok (.pop, 1)) (hn : pc + 1 = nx) : Snd own cc nL d U ret pc (op_pop nx) := by
  intro g p l e R s m args below meth c w0 hC ad K N X Q hQ k hk u L st s0 h
  subst hn
  intro H locs ls hP hS hl
  unfold op_pop at h
  split at h
  · exact lv_pop hC.1.1 hC.1.2.1 hd (cL_cat ad _) (hk _ _ _ _ _ h H locs ls hP hS hl)
  · exact h.elim
theorem ok_i2l (hd : decode cc pc = .ok (.i2l, 1)) (hn : pc + 1 = nx) : Snd own cc nL d U ret pc (op_i2l nx) := by
  intro g p l e R s m args below meth c w0 hC ad K N X Q hQ k hk u L st s0 h
  subst hn
  intro H locs ls hP hS hl
  unfold op_i2l at h
  split at h
  · exact lv_i2l hC.1.1 hC.1.2.1 hd rfl (hk _ _ _ _ _ h H locs ls hP hS hl)
  · exact h.elim
theorem ok_i2c (hd : decode cc pc = .ok (.i2c, 1)) (hn : pc + 1 = nx) : Snd own cc nL d U ret pc (op_i2c nx) := by
  intro g p l e R s m args below meth c w0 hC ad K N X Q hQ k hk u L st s0 h
  subst hn
  intro H locs ls hP hS hl
  unfold op_i2c at h
  split at h
  · exact lv_i2c hC.1.1 hC.1.2.1 hd rfl (hk _ _ _ _ _ h H locs ls hP hS hl)
  · exact h.elim
theorem ok_lconst {n : Fin 2} {v : Int64} (hd : decode cc pc = .ok (.lconst n, 1)) (hv : Int64.ofNat (n : Nat) = v) (hn : pc + 1 = nx) : Snd own cc nL d U ret pc (op_lc v nx) := by
  intro g p l e R s m args below meth c w0 hC ad K N X Q hQ k hk u L st s0 h
  subst hn
  intro H locs ls hP hS hl
  exact lv_lconst hC.1.1 hC.1.2.1 hd hv (hk _ _ _ _ _ h H locs ls hP hS hl)
theorem ok_lcmp (hd : decode cc pc = .ok (.lcmp, 1)) (hn : pc + 1 = nx) : Snd own cc nL d U ret pc (op_lcmp nx) := by
  intro g p l e R s m args below meth c w0 hC ad K N X Q hQ k hk u L st s0 h
  subst hn
  intro H locs ls hP hS hl
  unfold op_lcmp at h
  split at h
  · exact W.lcmp hC.1.1 hC.1.2.1 hd (hk _ _ _ _ _ h H locs ls hP hS hl)
  · exact h.elim
end Snds
end
section
section Hps
variable {own : String} {cc : ByteArray} {nL d U : Nat} {ret : Option FieldType} {pc nx : Nat}
theorem ok_getfield {C : String} {T : u_T} {n ci f idx : Nat} (hc : vwCl[ci]? = some (C, T, n)) (hin : ∀ w ∈ u_ws C T n, w ∈ TB) (hf : f < n) (hw : Cond.fieldLink own idx (T f).1 (T f).2.1 (T f).2.2.1 ∈ TB)
    (hd : decode cc pc = .ok (.getfield idx, 3)) (hn : pc + 3 = nx) : Snd own cc nL d U ret pc (op_gf ci f nx) := by
  intro g p l e R s m args below meth c w0 hC ad K N X Q hQ k hk u L st s0 h
  subst hn
  intro H locs ls hP hS hl
  unfold op_gf at h
  split at h
  · rename_i t i st'
    cases ho : isO ci t with
    | false => rw [ho] at h; exact h.elim
    | true =>
      rw [ho, cond_true] at h
      obtain ⟨hL, h⟩ := h
      obtain ⟨N', hob⟩ := isO_ob ho
      obtain ⟨q, hq1, hq2⟩ := ob_N hob
      have hN : N' = n := by rw [hq1] at hc; cases hc; exact hq2.symm
      subst hN
      obtain ⟨q0, ha, hK0⟩ := gws_at (g := g) (ad := ad) (s := s0) (hP.2.2.1 t i hL)
      rw [ent_ob hob] at ha
      refine va_get (D := g.1) (ci := ci) (v := cL ad (gf s0 t i f)) (Ts := w0 :: TB) hC.1.1 hC.1.2.1 hC.1.2.2.2.2 (fun w hw => List.mem_cons_of_mem _ (hin w hw)) hC.1.2.2.2.1 hC.2.1.1 hP.1 q0 ha hc f hf (hC.1.2.2.2.2 _ (List.mem_cons_of_mem _ hw)) (fun _ q => q) (rng_at _ hf) hd ?_
      unfold gf
      split at h
      · rename_i t' hr; rw [hr]; exact hk _ _ _ _ _ h H locs ls hP hS hl
      · rename_i t' c' hr; rw [hr]; exact hk _ _ _ _ _ h H locs ls hP hS hl
      · rename_i hr
        rw [hr]
        cases hb : Nat.beq t 2 && Nat.beq f 2 with
        | true => rw [hb, cond_true] at h; simp only [cond_true]; exact hk _ _ _ _ _ h H locs ls hP hS hl
        | false => rw [hb, cond_false] at h; simp only [cond_false]; exact hk _ _ _ _ _ h H locs ls hP hS hl
  · exact h.elim
theorem gf_put {s0 : Sg} {t i f : Nat} {v : Int32} (hr : rf t f = none) (hb : (Nat.beq t 2 && Nat.beq f 2) = false) : gf (stS s0 t i f v) t i f = .inl v := by
  unfold gf
  rw [hr, hb]
  show Sum.inl (if t = t ∧ i = i ∧ f = f then v else _) = _
  rw [if_pos ⟨rfl, rfl, rfl⟩]
theorem gf_oth {s0 : Sg} {t i f j : Nat} {v : Int32} (hj : j ≠ f) : gf (stS s0 t i f v) t i j = gf s0 t i j := by
  unfold gf
  have e : (stS s0 t i f v).2.1 t i j = s0.2.1 t i j := if_neg (fun q => hj q.2.2)
  rw [e]
  rfl
theorem ok_putfield {C : String} {T : u_T} {n ci f idx : Nat} (ty0 : Nat → FieldType) (ty : FieldType) (hc : vwCl[ci]? = some (C, T, n)) (hin : ∀ w ∈ u_ws C T n, w ∈ TB) (hty : ∀ k, k < n → parseFieldDescriptor (T k).2.2.1 = some (ty0 k)) (hnm : ∀ a, a < n → ∀ b, b < n → a ≠ b → (T a).2.1 ≠ (T b).2.1)
    (hf : f < n) (hfin : (T f).2.2.2 = false) (hw : Cond.fieldLink own idx (T f).1 (T f).2.1 (T f).2.2.1 ∈ TB) (hp : parseFieldDescriptor (T f).2.2.1 = some ty) (hz : ty = .int ∨ (ty = .boolean ∧ ∀ t, isO ci t = true → zf t f = true))
    (hd : decode cc pc = .ok (.putfield idx, 3)) (hn : pc + 3 = nx) : Snd own cc nL d U ret pc (op_pf ci f nx) := by
  intro g p l e R s m args below meth c w0 hC ad K N X Q hQ k hk u L st s0 h
  subst hn
  intro H locs ls hP hS hl
  unfold op_pf at h
  split at h
  · rename_i v t i st'
    cases ho : isO ci t with
    | false => rw [ho] at h; exact h.elim
    | true =>
      rw [ho, cond_true] at h
      split at h
      · rename_i hr
        cases hb : Nat.beq t 2 && Nat.beq f 2 with
        | true => rw [hb, cond_true] at h; exact h.elim
        | false =>
          rw [hb, cond_false] at h
          obtain ⟨hL, h⟩ := h
          have h2 : (zf t f = true → (v = 0 ∨ v = 1)) ∧ k (pc + 3) u L st' (stS s0 t i f v) := by
            cases hzf : zf t f with
            | true => rw [hzf, cond_true] at h; exact ⟨fun _ => h.1, h.2⟩
            | false => rw [hzf, cond_false] at h; exact ⟨(fun q => nomatch q), h⟩
          obtain ⟨N', hob⟩ := isO_ob ho
          obtain ⟨q, hq1, hq2⟩ := ob_N hob
          have hN : N' = n := by rw [hq1] at hc; cases hc; exact hq2.symm
          subst hN
          obtain ⟨q0, ha, hK0⟩ := gws_at (g := g) (ad := ad) (s := s0) (hP.2.2.1 t i hL)
          rw [ent_ob hob] at ha
          have hnar : narrow ty (.int v) = .int v ∧ fits ty (.int v) = true := by
            rcases hz with rfl | ⟨rfl, hz⟩
            · exact ⟨rfl, rfl⟩
            · rcases h2.1 (hz t ho) with rfl | rfl <;> exact ⟨rfl, rfl⟩
          refine va_put (D := g.1) (ci := ci) (v := .int v) (ty := ty) (Ts := w0 :: TB) hC.1.1 hC.1.2.1 hC.1.2.2.2.2 (fun w hw => List.mem_cons_of_mem _ (hin w hw)) ty0 hty hnm hC.1.2.2.2.1 hC.2.1.1 hP.1 hP.2.1 hS q0 ha hc f hf (hC.1.2.2.2.2 _ (List.mem_cons_of_mem _ hw)) (fun _ q => q) hfin hp hnar.1 hnar.2 (by rw [List.length_map, List.length_range]; exact hf) hd (fun H1 locs1 hP1 hD1 hS1 => ?_)
          rw [rng_set (f' := fun k => cL ad (gf (stS s0 t i f v) t i k)) (by rw [gf_put hr hb]; rfl) (fun j hj => by rw [gf_oth hj])] at hP1 hD1
          have hz2 : g.2.2 ≤ H1.size := by
            have := (hP1 q0 _ (by rw [List.getElem?_set_self (List.getElem?_eq_some_iff.mp ha).1])).lt
            have h5 := hD1.2 q0 _ (by rw [List.getElem?_set_self (List.getElem?_eq_some_iff.mp ha).1])
            exact Nat.le_of_lt (Nat.lt_of_le_of_lt h5 this)
          refine hk _ _ _ _ _ h2.2 H1 locs1 ls ?_ hS1 hl
          have e := gws_set (g := g) (ad := ad) (s' := stS s0 t i f v) hP.2.1 hK0 (ent_ob hob) stS_ent
          rw [e] at hP1 hD1
          exact ⟨hP1, hD1, hP.2.2.1, hz2⟩
      · exact h.elim
  · exact h.elim
theorem GP_st {g : GPm} {ad : Nat → Nat → Nat} {K : List (Nat × Nat)} {s0 : Sg} {t i j q0 : Nat} {v : Int32} {H H1 : Heap} {e : va_E} (hP : GP g ad K s0 H) (hK0 : K[q0]? = some (t, i)) (he : ent g ad (stS s0 t i j v) t i = e)
    (hP1 : va_P g.1 vwCl ((gws g ad K s0).set q0 (ad t i, e)) H1) (hD1 : va_D (gA g) ((gws g ad K s0).set q0 (ad t i, e))) : GP g ad K (stS s0 t i j v) H1 := by
  have hl : q0 < (gws g ad K s0).length := by unfold gws; rw [List.length_map]; exact (List.getElem?_eq_some_iff.mp hK0).1
  have hz2 : g.2.2 ≤ H1.size := by
    have := (hP1 q0 _ (by rw [List.getElem?_set_self hl])).lt
    have h5 := hD1.2 q0 _ (by rw [List.getElem?_set_self hl])
    exact Nat.le_of_lt (Nat.lt_of_le_of_lt h5 this)
  have e := gws_set (g := g) (ad := ad) (s' := stS s0 t i j v) hP.2.1 hK0 he stS_ent
  rw [e] at hP1 hD1
  exact ⟨hP1, hD1, hP.2.2.1, hz2⟩
theorem upd_stS {s0 : Sg} {t i j : Nat} {v : Int32} : upd (s0.2.1 t i) j v = (stS s0 t i j v).2.1 t i := by
  funext q
  show (if q = j then v else s0.2.1 t i q) = (if t = t ∧ i = i ∧ q = j then v else s0.2.1 t i q)
  by_cases hq : q = j
  · rw [if_pos hq, if_pos ⟨rfl, rfl, hq⟩]
  · rw [if_neg hq, if_neg (fun z => hq z.2.2)]
theorem nar_z {v : Int32} (h : v = 0 ∨ v = 1) : vp_nar .boolean v = v := by rcases h with rfl | rfl <;> rfl
theorem ok_iaload (hd : decode cc pc = .ok (.iaload, 1)) (hn : pc + 1 = nx) : Snd own cc nL d U ret pc (op_iald nx) := by
  intro g p l e R s m args below meth c w0 hC ad K N X Q hQ k hk u L st s0 h
  subst hn
  intro H locs ls hP hS hl
  unfold op_iald at h
  split at h
  · rename_i j t i st'
    split at h
    · rename_i n ho hr
      obtain ⟨hL, hin, h⟩ := h
      have hin := of_eq_true hin
      obtain ⟨q0, ha, hK0⟩ := gws_at (g := g) (ad := ad) (s := s0) (hP.2.2.1 t i hL)
      rw [ent_0 ho hr] at ha
      exact va_iald (D := g.1) hC.1.1 hC.1.2.1 hC.2.1.1 hP.1 q0 0 ha rfl hin hd (hk _ _ _ _ _ h H locs ls hP hS hl)
    · exact h.elim
  · exact h.elim
theorem ok_baload (hd : decode cc pc = .ok (.baload, 1)) (hn : pc + 1 = nx) : Snd own cc nL d U ret pc (op_bald nx) := by
  intro g p l e R s m args below meth c w0 hC ad K N X Q hQ k hk u L st s0 h
  subst hn
  intro H locs ls hP hS hl
  unfold op_bald at h
  split at h
  · rename_i j t i st'
    split at h
    · rename_i n ho hr
      obtain ⟨hL, hin, h⟩ := h
      have hin := of_eq_true hin
      obtain ⟨q0, ha, hK0⟩ := gws_at (g := g) (ad := ad) (s := s0) (hP.2.2.1 t i hL)
      rw [ent_1 ho hr] at ha
      exact va_zald (D := g.1) hC.1.1 hC.1.2.1 hC.2.1.1 hP.1 q0 1 ha rfl hin hd (hk _ _ _ _ _ h H locs ls hP hS hl)
    · exact h.elim
  · exact h.elim
theorem ok_iastore (hd : decode cc pc = .ok (.iastore, 1)) (hn : pc + 1 = nx) : Snd own cc nL d U ret pc (op_iast nx) := by
  intro g p l e R s m args below meth c w0 hC ad K N X Q hQ k hk u L st s0 h
  subst hn
  intro H locs ls hP hS hl
  unfold op_iast at h
  split at h
  · rename_i v j t i st'
    split at h
    · rename_i n ho hr
      obtain ⟨hL, hin, h⟩ := h
      have hin := of_eq_true hin
      obtain ⟨q0, ha, hK0⟩ := gws_at (g := g) (ad := ad) (s := s0) (hP.2.2.1 t i hL)
      rw [ent_0 ho hr] at ha
      refine va_iast (D := g.1) hC.1.1 hC.1.2.1 hC.2.1.1 hP.1 hP.2.1 hS q0 0 ha rfl hin hd (fun H1 locs1 hP1 hD1 hS1 => ?_)
      rw [upd_stS] at hP1 hD1
      exact hk _ _ _ _ _ h H1 locs1 ls (GP_st hP hK0 (ent_0 ho hr) hP1 hD1) hS1 hl
    · exact h.elim
  · exact h.elim
theorem ok_bastore (hd : decode cc pc = .ok (.bastore, 1)) (hn : pc + 1 = nx) : Snd own cc nL d U ret pc (op_bast nx) := by
  intro g p l e R s m args below meth c w0 hC ad K N X Q hQ k hk u L st s0 h
  subst hn
  intro H locs ls hP hS hl
  unfold op_bast at h
  split at h
  · rename_i v j t i st'
    split at h
    · rename_i n ho hr
      obtain ⟨hL, hin, hv, h⟩ := h
      have hin := of_eq_true hin
      obtain ⟨q0, ha, hK0⟩ := gws_at (g := g) (ad := ad) (s := s0) (hP.2.2.1 t i hL)
      rw [ent_1 ho hr] at ha
      refine va_zast (D := g.1) hC.1.1 hC.1.2.1 hC.2.1.1 hP.1 hP.2.1 hS q0 1 ha rfl hin hd (fun H1 locs1 hP1 hD1 hS1 => ?_)
      rw [nar_z hv, upd_stS] at hP1 hD1
      exact hk _ _ _ _ _ h H1 locs1 ls (GP_st hP hK0 (ent_1 ho hr) hP1 hD1) hS1 hl
    · exact h.elim
  · exact h.elim
theorem ok_aaload (hd : decode cc pc = .ok (.aaload, 1)) (hn : pc + 1 = nx) : Snd own cc nL d U ret pc (op_aald nx) := by
  intro g p l e R s m args below meth c w0 hC ad K N X Q hQ k hk u L st s0 h
  subst hn
  intro H locs ls hP hS hl
  unfold op_aald at h
  split at h
  · rename_i j t i st'
    split at h
    · rename_i n ho hr
      obtain ⟨hL, hin, hlt, h⟩ := h
      have hin := of_eq_true hin
      obtain ⟨q0, ha, hK0⟩ := gws_at (g := g) (ad := ad) (s := s0) (hP.2.2.1 t i hL)
      rw [ent_2 ho hr] at ha
      obtain rfl := ar_2 hr
      refine va_aldq (D := g.1) (C := "java/lang/Object") hC.1.1 hC.1.2.1 hC.2.1.1 hP.1 q0 2 ha rfl hin hd ?_
      have e1 : er s0 3 i j.toNatClampNeg = some (12 + i, j.toNatClampNeg) := by unfold er; rw [if_pos rfl, if_pos hlt]
      rw [e1]
      exact hk _ _ _ _ _ h H locs ls hP hS hl
    · rename_i n ho hr
      obtain ⟨hL, hin, h⟩ := h
      have hin := of_eq_true hin
      obtain ⟨q0, ha, hK0⟩ := gws_at (g := g) (ad := ad) (s := s0) (hP.2.2.1 t i hL)
      rw [ent_3 ho hr] at ha
      have hlt : j.toNatClampNeg < n := Nat.not_le.mp fun q => hin (Or.inr q)
      have e1 : (er s0 t i j.toNatClampNeg).map (fun r => ad r.1 r.2) = some (ad (t + 1) j.toNatClampNeg) := by unfold er; rw [if_neg (ar_3 hr)]; rfl
      refine W.aald (v := .ref (ad (t + 1) j.toNatClampNeg)) (ty := .array .int) hC.1.1 hC.1.2.1 (hP.1 q0 _ ha) ((hC.2.1.1.2 3 _ rfl).1 n (fun j => va_rf ((er s0 t i j).map (fun r => ad r.1 r.2)))) rfl (fun q => by cases q) (by show ¬ (j < 0 ∨ (arrV _ _ _).slots.size ≤ _); rw [arrV_size]; exact hin) (by show (arrV _ _ _).slots[_]? = _; rw [arrV_read _ _ hlt]; show some (va_rf ((er s0 t i j.toNatClampNeg).map (fun r => ad r.1 r.2))) = _; rw [e1]; rfl) rfl rfl hd ?_
      exact hk _ _ _ _ _ h H locs ls hP hS hl
    · exact h.elim
  · exact h.elim
theorem ok_laload (hd : decode cc pc = .ok (.laload, 1)) (hn : pc + 1 = nx) : Snd own cc nL d U ret pc (op_lald nx) := by
  intro g p l e R s m args below meth c w0 hC ad K N X Q hQ k hk u L st s0 h
  subst hn
  intro H locs ls hP hS hl
  unfold op_lald at h
  split at h
  · rename_i j i st'
    obtain ⟨hL, hin, h⟩ := h
    have hin := of_eq_true hin
    have i0 : i = 0 := hL
    subst i0
    obtain ⟨q0, ha, hK0⟩ := gws_at (g := g) (ad := ad) (s := s0) (hP.2.2.1 60 0 hL)
    rw [ent_60] at ha
    exact va_lald (D := g.1) hC.1.1 hC.1.2.1 hC.2.1.1 hP.1 q0 4 ha rfl hin hd (hk _ _ _ _ _ h H locs ls hP hS hl)
  · exact h.elim
theorem ok_lastore (hd : decode cc pc = .ok (.lastore, 1)) (hn : pc + 1 = nx) : Snd own cc nL d U ret pc (op_last nx) := by
  intro g p l e R s m args below meth c w0 hC ad K N X Q hQ k hk u L st s0 h
  subst hn
  intro H locs ls hP hS hl
  unfold op_last at h
  split at h
  · rename_i v j i st'
    obtain ⟨hL, hin, h⟩ := h
    have hin := of_eq_true hin
    have i0 : i = 0 := hL
    subst i0
    obtain ⟨q0, ha, hK0⟩ := gws_at (g := g) (ad := ad) (s := s0) (hP.2.2.1 60 0 hL)
    rw [ent_60] at ha
    refine va_last (D := g.1) hC.1.1 hC.1.2.1 hC.2.1.1 hP.1 hP.2.1 hS q0 4 ha rfl hin hd (fun H1 locs1 hP1 hD1 hS1 => ?_)
    have hj : j.toNatClampNeg = 0 := by
      have := Nat.not_le.mp fun q => hin (Or.inr q)
      omega
    have hl2 : q0 < (gws g ad K s0).length := (List.getElem?_eq_some_iff.mp ha).1
    have hcell : ∃ a : Nat × va_E, a = (ad 60 0, .inl (g.2.1 4, 1, .inr (.inl (fun _ => v)))) ∧ va_at g.1 vwCl a H1 := by
      refine ⟨_, rfl, ?_⟩
      have h9 := hP1 q0 _ (by rw [List.getElem?_set_self hl2])
      unfold va_at at h9 ⊢
      dsimp only at h9 ⊢
      rw [h9]
      congr 1
      unfold vp_cell
      dsimp only
      show arrV _ _ _ = arrV _ _ _
      unfold arrV
      congr 1
      apply Array.ext
      · simp
      · intro q hq1 hq2
        simp only [Array.size_ofFn] at hq1
        simp [vp_updL, hj, show q = 0 by omega]
    obtain ⟨a, rfl, hcell⟩ := hcell
    have e1 : va_P g.1 vwCl ((gws g ad K s0).set q0 (ad 60 0, .inl (g.2.1 4, 1, .inr (.inl (fun _ => v))))) H1 := by
      intro q z hz
      by_cases hqq : q0 = q
      · subst hqq
        rw [List.getElem?_set_self hl2] at hz
        cases hz
        exact hcell
      · rw [List.getElem?_set_ne hqq] at hz
        exact hP1 q z (by rw [List.getElem?_set_ne hqq]; exact hz)
    have e2 : va_D (gA g) ((gws g ad K s0).set q0 (ad 60 0, .inl (g.2.1 4, 1, .inr (.inl (fun _ => v))))) := hP.2.1.set ha
    have hz2 : g.2.2 ≤ H1.size := by
      have := (e1 q0 _ (by rw [List.getElem?_set_self hl2])).lt
      have h5 := e2.2 q0 _ (by rw [List.getElem?_set_self hl2])
      exact Nat.le_of_lt (Nat.lt_of_le_of_lt h5 this)
    have e := gws_set (g := g) (ad := ad) (s' := stO s0 v) hP.2.1 hK0 (ent_60 (s := stO s0 v)) stO_ent
    exact hk _ _ _ _ _ h H1 locs1 ls ⟨by rw [← e]; exact e1, by rw [← e]; exact e2, hP.2.2.1, hz2⟩ hS1 hl
  · exact h.elim
end Hps
end
section
section Cls
variable {own : String} {cc : ByteArray} {nL d U : Nat} {ret : Option FieldType} {pc nx : Nat}
theorem W.mono {p : Program} {l : Launch} {e : Env} {R : Room} {s : State} {m : MethodId} {args : Array Value} {below : List Frame} {meth : Method} {c : Code} {H : Heap} {locs : List Loc} {cells slots : Nat} {Q Q' : State → Prop} {gg : JFrame}
    (hQ : ∀ t, Q' t → Q t) (k : W p l e R s m args below meth c H locs cells slots Q' gg) : W p l e R s m args below meth c H locs cells slots Q gg := fun T hT X => by
  obtain ⟨t, a, b⟩ := k T hT X
  exact ⟨t, a, hQ t b⟩
theorem ok_checkcast {C : String} {T : u_T} {n ci idx : Nat} (hc : vwCl[ci]? = some (C, T, n)) (hw : Cond.classLink own idx C ∈ TB)
    (hd : decode cc pc = .ok (.checkcast idx, 3)) (hn : pc + 3 = nx) : Snd own cc nL d U ret pc (op_cc ci nx) := by
  intro g p l e R s m args below meth c w0 hC ad K N X Q hQ k hk u L st s0 h
  subst hn
  intro H locs ls hP hS hl
  unfold op_cc at h
  split at h
  · rename_i t i st'
    cases ho : isO ci t with
    | false => rw [ho] at h; exact h.elim
    | true =>
      rw [ho, cond_true] at h
      obtain ⟨hL, h⟩ := h
      obtain ⟨N', hob⟩ := isO_ob ho
      obtain ⟨q0, ha, hK0⟩ := gws_at (g := g) (ad := ad) (s := s0) (hP.2.2.1 t i hL)
      rw [ent_ob hob] at ha
      exact va_castS hC.1.1 hC.1.2.1 (own := own) (nm := C) hC.1.2.2.2.1 (hC.1.2.2.2.2 _ (List.mem_cons_of_mem _ hw)) (hC.2.1.1.1 ci _ hc).2 (va_recv hC.2.1.1 hP.1 hc ha) hd (hk _ _ _ _ _ h H locs ls hP hS hl)
  · exact h.elim
theorem aQ_ret {g : GPm} {ad : Nat → Nat → Nat} {K : List (Nat × Nat)} {N : Nt} {s : State} {H : Heap} {locs : List Loc} {args : Array Value} {v : Option AV} {s0 : Sg} (hP : GP g ad K s0 H) (hS : va_S (gA g) s.heap H locs) (h : N v s0) :
    ∀ t : State, t.heap = H → s.WarmedH t.vm → aQ g ad K N args s (.returned (v.map (cv ad))) t :=
  fun t ht _ => ⟨⟨v, s0, rfl, h, by rw [ht]; exact hP⟩, hS.F ht⟩
theorem ok_ireturn (hr : ret = some .int) (hd : decode cc pc = .ok (.ireturn, 1)) : Snd own cc nL d U ret pc op_iret := by
  intro g p l e R s m args below meth c w0 hC ad K N X Q hQ k hk u L st s0 h
  intro H locs ls hP hS hl
  unfold op_iret at h
  split at h
  · rename_i v
    refine W.mono hQ (W.widen (Nat.mul_le_mul_right _ h.1) (Nat.mul_le_mul_right _ h.1) (vx_ret ?_))
    exact W.iret hC.1.1 hC.1.2.1 (by rw [hC.2.2.2.1, hr]) (aQ_ret (v := some (aI v)) hP hS h.2) hS.2.2 hd hC.2.2.1
  · exact h.elim
theorem ok_zreturn {ty : FieldType} (hr : ret = some ty) (hty : ty = .boolean ∨ ty = .char) (hd : decode cc pc = .ok (.ireturn, 1)) : Snd own cc nL d U ret pc op_zret := by
  intro g p l e R s m args below meth c w0 hC ad K N X Q hQ k hk u L st s0 h
  intro H locs ls hP hS hl
  unfold op_zret at h
  split at h
  · rename_i v
    refine W.mono hQ (W.widen (Nat.mul_le_mul_right _ h.1) (Nat.mul_le_mul_right _ h.1) (vx_ret ?_))
    refine W.zret (ty := ty) hC.1.1 hC.1.2.1 (by rw [hC.2.2.2.1, hr]) ?_ (aQ_ret (v := some (aI v)) hP hS h.2.2) hS.2.2 hd hC.2.2.1
    rcases hty with rfl | rfl <;> rcases h.2.1 with rfl | rfl <;> rfl
  · exact h.elim
theorem ok_areturn {cl : String} (hr : ret = some (.object cl)) (hd : decode cc pc = .ok (.areturn, 1)) : Snd own cc nL d U ret pc op_aret := by
  intro g p l e R s m args below meth c w0 hC ad K N X Q hQ k hk u L st s0 h
  intro H locs ls hP hS hl
  unfold op_aret at h
  split at h
  · rename_i r
    refine W.mono hQ (W.widen (Nat.mul_le_mul_right _ h.1) (Nat.mul_le_mul_right _ h.1) (vx_ret ?_))
    exact W.aret (v := .ref (ad r.1 r.2)) hC.1.1 hC.1.2.1 (by rw [hC.2.2.2.1, hr]) (Or.inl ⟨_, rfl⟩) (Or.inr ⟨_, rfl⟩) (aQ_ret (v := some (.inl (.inr r))) hP hS h.2) hS.2.2 hd hC.2.2.1
  · exact h.elim
theorem ok_vreturn (hr : ret = none) (hd : decode cc pc = .ok (.return_, 1)) : Snd own cc nL d U ret pc op_vret := by
  intro g p l e R s m args below meth c w0 hC ad K N X Q hQ k hk u L st s0 h
  intro H locs ls hP hS hl
  unfold op_vret at h
  split at h
  · refine W.mono hQ (W.widen (Nat.mul_le_mul_right _ h.1) (Nat.mul_le_mul_right _ h.1) (vx_ret ?_))
    exact W.vret hC.1.1 hC.1.2.1 (by rw [hC.2.2.2.1, hr]) (aQ_ret (v := none) hP hS h.2) hS.2.2 hd hC.2.2.1
  · exact h.elim
theorem popK_ok : ∀ {n : Nat} {acc st : List AV} {k : List AV → List AV → Prop}, popK n acc st k → ∃ as st', k (as ++ acc) st' ∧ st = as.reverse ++ st' ∧ as.length = n
  | 0, acc, st, k, h => ⟨[], st, h, rfl, rfl⟩
  | n + 1, acc, [], k, h => h.elim
  | n + 1, acc, v :: st, k, h => by
    obtain ⟨as, st', h1, h2, h3⟩ := popK_ok (n := n) h
    refine ⟨as ++ [v], st', by rw [List.append_assoc]; exact h1, ?_, by rw [List.length_append, h3]; rfl⟩
    rw [List.reverse_append, h2]
    rfl
theorem catS_ok {ad : Nat → Nat → Nat} : ∀ {st : List AV}, ((st.map (cv ad)).map fun v => v.category).sum = catS st
  | [] => rfl
  | .inl v :: r => by
    show (cL ad v).category + ((r.map (cv ad)).map fun v => v.category).sum = catS r + 1
    rw [catS_ok, cL_cat, Nat.add_comm]
  | .inr v :: r => by
    show 2 + ((r.map (cv ad)).map fun v => v.category).sum = catS r + 2
    rw [catS_ok, Nat.add_comm]
/-- what comes back from a call -/
theorem run_ok {g : GPm} {p : Program} {l : Launch} {e : Env} {R : Room} {s : State} {m : MethodId} {args : Array Value} {below : List Frame} {meth : Method} {c : Code} {w0 : Cond}
    (hC : CX g p l R s m args meth c own cc nL d U ret w0) {ad : Nat → Nat → Nat} {K : List (Nat × Nat)} {N N' : Nt} {X : Xt} {Q : State → Prop} (hQ : QX g s args below ad K N X U Q)
    {H : Heap} {locs : List Loc} {u w : Nat} {ls : Array Slot} {st0 rest : List Value} {a : Array Value} (hu : u + w ≤ U)
    (hr : vx_Run p l e R s m args below meth c H locs (u * cU) (u * sU) (w * cU) (w * sU) (F0 m pc ls st0) rest (aQ g ad K N' a) (aX g ad K X) (gA g)) (hS : va_S (gA g) s.heap H locs)
    (kk : ∀ (v : Option AV) (s' : Sg) (H1 : Heap) (locs1 : List Loc), N' v s' → GP g ad K s' H1 → va_S (gA g) s.heap H1 locs1 → W p l e R s m args below meth c H1 locs1 ((u + w) * cU) ((u + w) * sU) Q (F0 m (pc + 3) ls ((v.map (cv ad)).toList ++ rest))) :
    W p l e R s m args below meth c H locs (u * cU) (u * sU) Q (F0 m pc ls st0) := by
  intro T hT X0
  rcases hr T hT X0 with ⟨v, st₀, t, T', L, h0, X', hL, e1, e2, ⟨⟨r, s', hv, hn, hgp⟩, hF⟩, st⟩ | ⟨q, st₀, t, T', L, E, ce, h0, X', hL, e1, e2, ⟨⟨x, s', hx, hxx, hgp⟩, hF⟩, hce, hcv, hcl, st⟩
  · cases hv
    obtain ⟨k1, k2, k3⟩ := vx_keep h0 e1 hS (fun _ _ z => z) (fun _ z => z) hL hF
    have kw := kk r s' T'.heap (locs ++ L) hn (by rw [e1]; exact hgp) k3
    rw [Nat.add_mul, Nat.add_mul] at kw
    obtain ⟨t2, a1, b1⟩ := kw T' rfl X'
    exact ⟨t2, st t2 a1, b1⟩
  · obtain ⟨k1, k2, k3⟩ := vx_keep h0 e1 hS (fun _ _ z => z) (fun _ z => z) hL hF
    have ho := vx_out (p := p) (l := l) (e := e) (R := R) (s := s) (m := m) (args := args) (below := below) (meth := meth) (c := c) (H := T'.heap) (locs := locs ++ L) (cells := u * cU + w * cU) (slots := u * sU + w * sU) (rest := rest) (ls := ls)
      (Qc := aQ g ad K N) (XC := aX g ad K X) (free := gA g) (pc := pc) (E := E) (ce := ce) (q := q) (mc := U * cU) (ms := U * sU) (fun z hz => (hC.2.2.2.2.2.2 z hz).elim) hC.2.2.1 (by rw [e1]; exact hce) hcv hcl
      (fun t2 ht2 _ => ⟨⟨x, s', hx, hxx, by rw [ht2, e1]; exact hgp⟩, k3.F ht2⟩) k3.2.2 (by rw [← Nat.add_mul]; exact Nat.mul_le_mul_right _ hu) (by rw [← Nat.add_mul]; exact Nat.mul_le_mul_right _ hu)
    obtain ⟨t2, a1, b1⟩ := ho T' rfl X'
    exact ⟨t2, st.trans a1, hQ t2 b1⟩
theorem rm_fit {d d' w nL' : Nat} (h : d' + 1 ≤ d) (hl : nL' ≤ 19) : (rmD d' w).frames + 1 ≤ (rmD d U).frames ∧ 8 + (nL' + 11) + (rmD d' w).locals ≤ (rmD d U).locals := by
  refine ⟨h, ?_⟩
  show 8 + (nL' + 11) + 38 * d' ≤ 38 * d
  omega
theorem ok_invokestatic {y : MethodName} {bytes : ByteArray} {nL' d' w n idx : Nat} {ret' : Option FieldType} {sp : Spc} (hM : AMet y bytes nL' ret' d' w sp)
    (h1 : Cond.methodLink own idx y ∈ TB) (h2 : Cond.static y ∈ TB) (h3 : Cond.initialized y.cls ∈ TB) (h4 : Cond.code y bytes nL' ret' ∈ TB)
    (hy : y.cls ≠ "java/lang/invoke/MethodHandle" ∧ y.cls ≠ "java/lang/invoke/VarHandle" ∧ (parseMethodDescriptor y.desc).map (fun d => d.parameters.length) = some n) (hdd : d' + 1 ≤ d) (hl' : nL' ≤ 19)
    (hd : decode cc pc = .ok (.invokestatic idx, 3)) (hn : pc + 3 = nx) : Snd own cc nL d U ret pc (op_call sp n w nx) := by
  intro g p l e R s m args below meth c w0 hC ad K N X Q hQ k hk u L st s0 h
  subst hn
  intro H locs ls hP hS hl
  obtain ⟨as, st', ⟨hu, hcat, hsp⟩, e1, e2⟩ := popK_ok h
  rw [List.append_nil] at hsp
  have hC' := hC
  obtain ⟨hF, hGS, hlk, hret, hR, hl0, htab⟩ := hC'
  subst hR
  have hG : GoodIn (w0 :: TB) (va_wsS own idx y (wsM y bytes nL' ret')) := TB_in (by
    intro w hw
    simp only [va_wsS, wsM, List.cons_append, List.nil_append, List.mem_cons] at hw
    rcases hw with rfl | rfl | rfl | rfl | hw
    · exact h1
    · exact h2
    · exact h3
    · exact h4
    · exact hw)
  refine run_ok hC hQ hu (vx_runS (As := as.map (cv ad)) (rest := st'.map (cv ad)) hF (hM l hl0 g ad K as s0 _ X hsp) (va_cwS n hF.2.2.2.2 hG rfl rfl rfl hy (rm_fit hdd hl'))
    ⟨GP_blind, fun U9 hU hW => ⟨rfl, GS_moved hGS hW (locs := locs) (by rw [hU]; exact hS), by rw [hU]; exact hP⟩⟩ rfl (by rw [List.length_map]; exact e2) hl.1 ?_ (lv_room (by rw [catS_ok]; exact hcat)) hd
    ⟨by show u * cU + w * cU ≤ U * cU; rw [← Nat.add_mul]; exact Nat.mul_le_mul_right _ hu, by show u * sU + w * sU ≤ U * sU; rw [← Nat.add_mul]; exact Nat.mul_le_mul_right _ hu⟩) hS ?_
  · show st.map (cv ad) = (as.map (cv ad)).reverse ++ st'.map (cv ad)
    rw [e1, List.map_append, List.map_reverse]
  · intro v s' H1 locs1 hN hP1 hS1
    cases v with
    | none => exact hk _ _ _ _ _ hN H1 locs1 ls hP1 hS1 hl
    | some v => exact hk _ _ _ _ _ hN H1 locs1 ls hP1 hS1 hl
theorem ok_invokevirtual {C : String} {T : u_T} {y : MethodName} {bytes : ByteArray} {nL' d' w n idx ci nf : Nat} {ret' : Option FieldType} {sp : Spc} (hM : AMet y bytes nL' ret' d' w sp) (hc : vwCl[ci]? = some (C, T, nf))
    (h1 : Cond.methodLink own idx y ∈ TB) (h2 : Cond.instanceMethod y ∈ TB) (h3 : Cond.selects C y y ∈ TB) (h5 : Cond.initialized C ∈ TB) (h4 : Cond.code y bytes nL' ret' ∈ TB)
    (hy : y.cls = C ∧ y.cls ≠ "java/lang/invoke/MethodHandle" ∧ y.cls ≠ "java/lang/invoke/VarHandle" ∧ (parseMethodDescriptor y.desc).map (fun d => d.parameters.length) = some n) (hdd : d' + 1 ≤ d) (hl' : nL' ≤ 19)
    (hd : decode cc pc = .ok (.invokevirtual idx, 3)) (hn : pc + 3 = nx) : Snd own cc nL d U ret pc (op_callV ci sp (n + 1) w nx) := by
  intro g p l e R s m args below meth c w0 hC ad K N X Q hQ k hk u L st s0 h
  subst hn
  intro H locs ls hP hS hl
  obtain ⟨as, st', h, e1, e2⟩ := popK_ok h
  rw [List.append_nil] at h
  split at h
  · rename_i t i tl
    cases ho : isO ci t with
    | false => rw [ho] at h; exact h.elim
    | true =>
      rw [ho, cond_true] at h
      obtain ⟨hL, hu, hcat, hsp⟩ := h
      obtain ⟨N', hob⟩ := isO_ob ho
      obtain ⟨q0, ha, hK0⟩ := gws_at (g := g) (ad := ad) (s := s0) (hP.2.2.1 t i hL)
      rw [ent_ob hob] at ha
      have hrecv := va_recv hC.2.1.1 hP.1 hc ha
      have hC' := hC
      obtain ⟨hF, hGS, hlk, hret, hR, hl0, htab⟩ := hC'
      subst hR
      have hG : GoodIn (w0 :: TB) (wsV own idx C y (wsM y bytes nL' ret')) := TB_in (by
        intro w hw
        simp only [wsV, wsM, List.cons_append, List.nil_append, List.mem_cons] at hw
        rcases hw with rfl | rfl | rfl | rfl | rfl | hw
        · exact h1
        · exact h2
        · exact h3
        · exact h5
        · exact h4
        · exact hw)
      refine run_ok hC hQ hu (vx_runV (C := C) (b := ad t i) (As := tl.map (cv ad)) (rest := st'.map (cv ad)) hF (hM l hl0 g ad K _ s0 _ X hsp) (cwV n hF.2.2.2.2 hG rfl rfl rfl hy (rm_fit hdd hl'))
        ⟨GP_blind, hrecv, fun U9 hU hW => ⟨rfl, GS_moved hGS hW (locs := locs) (by rw [hU]; exact hS), by rw [hU]; exact hP⟩⟩ rfl (by rw [List.length_map]; simpa using e2) hl.1 ?_ (lv_room (by rw [catS_ok]; exact hcat)) hd
        ⟨by show u * cU + w * cU ≤ U * cU; rw [← Nat.add_mul]; exact Nat.mul_le_mul_right _ hu, by show u * sU + w * sU ≤ U * sU; rw [← Nat.add_mul]; exact Nat.mul_le_mul_right _ hu⟩) hS ?_
      · show st.map (cv ad) = (tl.map (cv ad)).reverse ++ .ref (ad t i) :: st'.map (cv ad)
        rw [e1, List.map_append, List.map_reverse]
        simp [cv, cL]
      · intro v s' H1 locs1 hN hP1 hS1
        cases v with
        | none => exact hk _ _ _ _ _ hN H1 locs1 ls hP1 hS1 hl
        | some v => exact hk _ _ _ _ _ hN H1 locs1 ls hP1 hS1 hl
  · exact h.elim
end Cls
end
section
section Mre
variable {own : String} {cc : ByteArray} {nL d U : Nat} {ret : Option FieldType} {pc nx : Nat}
def op_mm (f : Int32 → Int32 → Int32) (nx : Nat) : Sem := fun U k _ _ u L st s => match st with
  | .inl (.inl y) :: .inl (.inl x) :: st' => u ≤ U ∧ catS st' ≤ 8 ∧ k nx u L (aI (f x y) :: st') s
  | _ => False
theorem ok_mmin {idx : Nat} (h1 : Cond.methodLink own idx Lib.Math.min.name ∈ TB) (h2 : Cond.static Lib.Math.min.name ∈ TB) (h3 : Cond.initialized "java/lang/Math" ∈ TB) (h4 : Cond.code Lib.Math.min.name Lib.Math.min.code 2 (some .int) ∈ TB)
    (hdd : 1 ≤ d) (hd : decode cc pc = .ok (.invokestatic idx, 3)) (hn : pc + 3 = nx) : Snd own cc nL d U ret pc (op_mm (fun x y => if y < x then y else x) nx) := by
  intro g p l e R s m args below meth c w0 hC ad K N X Q hQ k hk u L st s0 h
  subst hn
  intro H locs ls hP hS hl
  unfold op_mm at h
  split at h
  · obtain ⟨hu, hcat, h⟩ := h
    have hR := hC.2.2.2.2.1
    have ht := hC.1.2.2.2.2
    subst hR
    refine va_mmin hC.1.1 hC.1.2.1 (by rw [hC.1.2.2.1]; exact hl.1.symm) (own := own) hC.1.2.2.2.1 (ht _ (List.mem_cons_of_mem _ h1)) (ht _ (List.mem_cons_of_mem _ h2)) (ht _ (List.mem_cons_of_mem _ h3)) (ht _ (List.mem_cons_of_mem _ h4)) hdd ?_ (Nat.mul_le_mul_right _ hu) (Nat.mul_le_mul_right _ hu) hd (hk _ _ _ _ _ h H locs ls hP hS hl)
    show _ + 13 ≤ 38 * d
    rw [catS_ok]
    omega
  · exact h.elim
theorem ok_mmax {idx : Nat} (h1 : Cond.methodLink own idx Lib.Math.max.name ∈ TB) (h2 : Cond.static Lib.Math.max.name ∈ TB) (h3 : Cond.initialized "java/lang/Math" ∈ TB) (h4 : Cond.code Lib.Math.max.name Lib.Math.max.code 2 (some .int) ∈ TB)
    (hdd : 1 ≤ d) (hd : decode cc pc = .ok (.invokestatic idx, 3)) (hn : pc + 3 = nx) : Snd own cc nL d U ret pc (op_mm (fun x y => if x < y then y else x) nx) := by
  intro g p l e R s m args below meth c w0 hC ad K N X Q hQ k hk u L st s0 h
  subst hn
  intro H locs ls hP hS hl
  unfold op_mm at h
  split at h
  · obtain ⟨hu, hcat, h⟩ := h
    have hR := hC.2.2.2.2.1
    have ht := hC.1.2.2.2.2
    subst hR
    refine va_mmax hC.1.1 hC.1.2.1 (by rw [hC.1.2.2.1]; exact hl.1.symm) (own := own) hC.1.2.2.2.1 (ht _ (List.mem_cons_of_mem _ h1)) (ht _ (List.mem_cons_of_mem _ h2)) (ht _ (List.mem_cons_of_mem _ h3)) (ht _ (List.mem_cons_of_mem _ h4)) hdd ?_ (Nat.mul_le_mul_right _ hu) (Nat.mul_le_mul_right _ hu) hd (hk _ _ _ _ _ h H locs ls hP hS hl)
    show _ + 13 ≤ 38 * d
    rw [catS_ok]
    omega
  · exact h.elim
theorem swK_ok : ∀ {es : List (Int32 × Nat)} {dd : Nat} {x : Int32} {k : Nat → Prop}, swK es dd x k → (∃ (i : Nat) (e : Int32 × Nat), es[i]? = some e ∧ x = e.1 ∧ k e.2) ∨ ((∀ e ∈ es, ¬ x = e.1) ∧ k dd)
  | [], dd, x, k, h => Or.inr ⟨(fun e he => nomatch he), h⟩
  | (v, t) :: r, dd, x, k, h => by
    by_cases hx : x = v
    · exact Or.inl ⟨0, (v, t), rfl, hx, h.1 hx⟩
    · rcases swK_ok (h.2 hx) with ⟨i, e, h1, h2, h3⟩ | ⟨h1, h2⟩
      · exact Or.inl ⟨i + 1, e, h1, h2, h3⟩
      · exact Or.inr ⟨fun e he => (List.mem_cons.mp he).elim (fun q => by rw [q]; exact hx) (h1 e), h2⟩
theorem swO_in : ∀ {es : List (Int32 × Nat)} {pc : Nat} {dflt : Int} {x : Int32} {i : Nat} {e : Int32 × Nat}, es[i]? = some e → x = e.1 → (es.map (·.1)).Nodup → (pc : Int) + Op.lookupswitch.offset (es.map (fun e => (e.1.toInt, (e.2 : Int) - pc))) dflt x.toInt = (e.2 : Int)
  | [], _, _, _, i, e, h, _, _ => by simp at h
  | (v, t) :: r, pc, dflt, x, 0, e, h, hx, _ => by
    cases h
    rw [hx]
    show (pc : Int) + Op.lookupswitch.offset ((v.toInt, (t : Int) - pc) :: _) dflt v.toInt = t
    rw [Op.lookupswitch.offset_cons, if_pos rfl]
    omega
  | (v, t) :: r, pc, dflt, x, i + 1, e, h, hx, hn => by
    have hr : r[i]? = some e := h
    rw [List.map_cons, List.nodup_cons] at hn
    have hne : ¬ x = v := by
      rintro rfl
      exact hn.1 (List.mem_map.mpr ⟨e, List.mem_of_getElem? hr, hx.symm⟩)
    show (pc : Int) + Op.lookupswitch.offset ((v.toInt, (t : Int) - pc) :: _) dflt x.toInt = e.2
    rw [lv_osw hne rfl]
    exact swO_in hr hx hn.2
theorem swO_out : ∀ {es : List (Int32 × Nat)} {pc : Nat} {dflt : Int} {x : Int32}, (∀ e ∈ es, ¬ x = e.1) → Op.lookupswitch.offset (es.map (fun e => (e.1.toInt, (e.2 : Int) - pc))) dflt x.toInt = dflt
  | [], _, _, _, _ => rfl
  | (v, t) :: r, pc, dflt, x, h => by
    show Op.lookupswitch.offset ((v.toInt, (t : Int) - pc) :: _) dflt x.toInt = dflt
    rw [lv_osw (h (v, t) List.mem_cons_self) rfl]
    exact swO_out (fun e he => h e (List.mem_cons_of_mem _ he))
theorem ok_lookup {dflt : Int} {ps : Array (Int × Int)} {len dd : Nat} {es : List (Int32 × Nat)} (hps : ps.toList = es.map (fun e => (e.1.toInt, (e.2 : Int) - pc))) (hnd : (es.map (·.1)).Nodup) (hdf : (pc : Int) + dflt = (dd : Int))
    (hp : (ps.toList.zip (ps.toList.drop 1)).all (fun (a, next) => a.1 < next.1) = true) (hd : decode cc pc = .ok (.lookupswitch dflt ps, len)) : Snd own cc nL d U ret pc (op_sw es dd) := by
  intro g p l e R s m args below meth c w0 hC ad K N X Q hQ k hk u L st s0 h
  intro H locs ls hP hS hl
  unfold op_sw at h
  split at h
  · rename_i x st'
    rcases swK_ok h with ⟨i, e, h1, h2, h3⟩ | ⟨h1, h2⟩
    · exact lv_lookup hC.1.1 hC.1.2.1 hd hp rfl (by rw [hps]; exact swO_in h1 h2 hnd) (hk _ _ _ _ _ h3 H locs ls hP hS hl)
    · exact lv_lookup hC.1.1 hC.1.2.1 hd hp rfl (by rw [hps, swO_out h1]; exact hdf) (hk _ _ _ _ _ h2 H locs ls hP hS hl)
  · exact h.elim
theorem ok_table {dflt lo hi : Int} {offs : Array Int} {len dd : Nat} {es : List (Int32 × Nat)} (hes : es.map (·.1.toInt) = (List.range es.length).map (fun i : Nat => lo + (i : Int))) (hof : offs.toList = es.map (fun e => (e.2 : Int) - pc)) (hh : lo + (es.length : Int) = hi + 1) (hdf : (pc : Int) + dflt = (dd : Int))
    (hd : decode cc pc = .ok (.tableswitch dflt lo hi offs, len)) : Snd own cc nL d U ret pc (op_sw es dd) := by
  intro g p l e R s m args below meth c w0 hC ad K N X Q hQ k hk u L st s0 h
  intro H locs ls hP hS hl
  have hat : ∀ (i : Nat) (e : Int32 × Nat), es[i]? = some e → e.1.toInt = lo + (i : Int) := by
    intro i e he
    have hi : i < es.length := (List.getElem?_eq_some_iff.mp he).1
    have h9 := congrArg (fun q : List Int => q[i]?) hes
    simp only [List.getElem?_map, he, List.getElem?_range hi, Option.map_some] at h9
    exact Option.some.inj h9
  unfold op_sw at h
  split at h
  · rename_i x st'
    rcases swK_ok h with ⟨i, e, h1, h2, h3⟩ | ⟨h1, h2⟩
    · have hi : i < es.length := (List.getElem?_eq_some_iff.mp h1).1
      have hx := hat i e h1
      rw [← h2] at hx
      refine lv_tableIn hC.1.1 hC.1.2.1 hd (off := (e.2 : Int) - pc) (tgt := e.2) (by omega) (by omega) ?_ (by omega) (hk _ _ _ _ _ h3 H locs ls hP hS hl)
      rw [show (x.toInt - lo).toNat = i by omega, ← Array.getElem?_toList, hof, List.getElem?_map, h1]
      rfl
    · refine lv_tableOut hC.1.1 hC.1.2.1 hd ?_ hdf (hk _ _ _ _ _ h2 H locs ls hP hS hl)
      by_cases hlo : x.toInt < lo
      · exact Or.inl hlo
      · by_cases hhi : hi < x.toInt
        · exact Or.inr hhi
        · exfalso
          have hlt : (x.toInt - lo).toNat < es.length := by omega
          have he : es[(x.toInt - lo).toNat]? = some es[(x.toInt - lo).toNat] := List.getElem?_eq_getElem hlt
          have h5 := hat _ _ he
          exact h1 _ (List.mem_of_getElem? he) (Int32.toInt_inj.mp (by rw [h5]; omega))
  · exact h.elim
/-- an exception of one's own -/
def op_thr (x : Nat) : Sem := fun U _ _ X u _ st s => u + 1 ≤ U ∧ catS st ≤ 8 ∧ X x s
theorem ok_throw {ik is ic x : Nat} {text : String} (hx3 : exn x ∈ xcls) (htx : (is, text) ∈ txts)
    (hk : Cond.classLink "VowCourt" ik (exn x) ∈ TB) (hi : Cond.initialized (exn x) ∈ TB) (hfit : Bundle.fit (exn x) = true) (hat : ((vx_atS "VowCourt" ic (exn x) ["java/lang/RuntimeException", "java/lang/Exception"]).filter goodWord).all (fun w => decide (w ∈ TB)) = true)
    (hng : (vx_atS "VowCourt" ic (exn x) ["java/lang/RuntimeException", "java/lang/Exception"]).all (fun w => goodWord w || decide (w = .castable (exn x) (exn x))) = true)
    (hdd : 6 ≤ d) (d0 : decode cc pc = .ok (.new ik, 3)) (d3 : decode cc (pc + 3) = .ok (.dup, 1)) (d4 : decode cc (pc + 4) = .ok (.ldc is, 2)) (d6 : decode cc (pc + 6) = .ok (.invokespecial ic, 3)) (d9 : decode cc (pc + 9) = .ok (.athrow, 1)) :
    Snd "VowCourt" cc nL d U ret pc (op_thr x) := by
  intro g p l e R s m args below meth c w0 hC ad K N X Q hQ k hk' u L st s0 h
  intro H locs ls hP hS hl
  obtain ⟨hu, hcat, h⟩ := h
  obtain ⟨hF, hGS, hlk, hret, hR, hl0, htab⟩ := hC
  subst hR
  have ht : ∀ w ∈ TB, w.before args s = true := fun w hw => hF.2.2.2.2 w (List.mem_cons_of_mem _ hw)
  obtain ⟨sa, hsa⟩ := hGS.2.2.2.1 _ htx
  have hgd : ∀ w ∈ vx_atS "VowCourt" ic (exn x) ["java/lang/RuntimeException", "java/lang/Exception"], goodWord w = true ∨ w = .castable (exn x) (exn x) := by
    intro w hw
    have := List.all_eq_true.mp hng w hw
    simpa using this
  refine W.mono hQ (vx_throwS (own := "VowCourt") (cls := exn x) (text := text) (names := ["java/lang/RuntimeException", "java/lang/Exception"]) (ik := ik) (is := is) (ic := ic) (A := gA g) hF.1 hF.2.1 hl0 hF.2.2.2.1 hfit (by decide) (ht _ hk) (ht _ hi) hsa ?_ ?_ hGS.2.1 hGS.2.2.1 hS (hl.1.trans hF.2.2.1.symm) d0 d3 d4 d6 d9
    (fun z hz => (htab z hz).elim) (by show 2 + 3 < d; omega) (by show _ + _ ≤ 38 * d; rw [catS_ok]; simp only [List.length_cons, List.length_nil]; omega) ?_ ?_ hlk ?_ hS.2.2 ?_ ?_)
  · intro w hw
    rcases hgd w hw with q | rfl
    · exact ht _ (of_decide_eq_true (List.all_eq_true.mp hat w (List.mem_filter.mpr ⟨hw, q⟩)))
    · exact va_Nw.use rfl (hGS.2.2.2.2 _ hx3)
  · intro w hw
    rcases List.mem_cons.mp hw with rfl | hw
    · rfl
    · rcases List.mem_cons.mp hw with rfl | hw
      · rfl
      · rcases hgd w hw with q | rfl
        · unfold vx_ot; rw [q, Bool.or_true]
        · rfl
  · show u * cU + 1 ≤ U * cU
    unfold cU; omega
  · show u * sU + 6 ≤ U * sU
    unfold sU; omega
  · intro t ht1 ht2 ht3
    refine ⟨⟨x, s0, rfl, h, ?_, hP.2.1, hP.2.2.1, Nat.le_trans hP.2.2.2 ht2⟩, ?_⟩
    · exact hP.1.kept (fun k9 z hz => ht3 _ ((hP.1 k9 z hz).lt))
    · exact ⟨Nat.le_trans hS.1 ht2, fun q h1 h2 => by rw [ht3 q (Nat.lt_of_lt_of_le h1 hS.1)]; exact hS.2.1 q h1 h2⟩
  · unfold cU; omega
  · unfold sU; omega
end Mre
end
section
theorem in_J4 : ∀ w ∈ wsJ40, w ∈ TB := by
  have h : (wsJ40).all (fun w => decide (w ∈ lw_tbl) && goodWord w) = true := by decide +kernel
  intro w hw
  have h2 := List.all_eq_true.mp h w hw
  simp only [Bool.and_eq_true, decide_eq_true_eq] at h2
  exact TB_mem h2.1 h2.2
theorem in_Jx4a65c : ∀ w ∈ wsJx4a65c0, w ∈ TB := by
  have h : (wsJx4a65c0).all (fun w => decide (w ∈ lw_tbl) && goodWord w) = true := by decide +kernel
  intro w hw
  have h2 := List.all_eq_true.mp h w hw
  simp only [Bool.and_eq_true, decide_eq_true_eq] at h2
  exact TB_mem h2.1 h2.2
theorem in_X0 : ∀ w ∈ wsX00, w ∈ TB := by
  have h : (wsX00).all (fun w => decide (w ∈ lw_tbl) && goodWord w) = true := by decide +kernel
  intro w hw
  have h2 := List.all_eq_true.mp h w hw
  simp only [Bool.and_eq_true, decide_eq_true_eq] at h2
  exact TB_mem h2.1 h2.2
theorem in_X1 : ∀ w ∈ wsX10, w ∈ TB := by
  have h : (wsX10).all (fun w => decide (w ∈ lw_tbl) && goodWord w) = true := by decide +kernel
  intro w hw
  have h2 := List.all_eq_true.mp h w hw
  simp only [Bool.and_eq_true, decide_eq_true_eq] at h2
  exact TB_mem h2.1 h2.2
theorem in_X2 : ∀ w ∈ wsX20, w ∈ TB := by
  have h : (wsX20).all (fun w => decide (w ∈ lw_tbl) && goodWord w) = true := by decide +kernel
  intro w hw
  have h2 := List.all_eq_true.mp h w hw
  simp only [Bool.and_eq_true, decide_eq_true_eq] at h2
  exact TB_mem h2.1 h2.2
theorem in_X3 : ∀ w ∈ wsX30, w ∈ TB := by
  have h : (wsX30).all (fun w => decide (w ∈ lw_tbl) && goodWord w) = true := by decide +kernel
  intro w hw
  have h2 := List.all_eq_true.mp h w hw
  simp only [Bool.and_eq_true, decide_eq_true_eq] at h2
  exact TB_mem h2.1 h2.2
theorem in_X4 : ∀ w ∈ wsX40, w ∈ TB := by
  have h : (wsX40).all (fun w => decide (w ∈ lw_tbl) && goodWord w) = true := by decide +kernel
  intro w hw
  have h2 := List.all_eq_true.mp h w hw
  simp only [Bool.and_eq_true, decide_eq_true_eq] at h2
  exact TB_mem h2.1 h2.2
theorem in_X5 : ∀ w ∈ wsX50, w ∈ TB := by
  have h : (wsX50).all (fun w => decide (w ∈ lw_tbl) && goodWord w) = true := by decide +kernel
  intro w hw
  have h2 := List.all_eq_true.mp h w hw
  simp only [Bool.and_eq_true, decide_eq_true_eq] at h2
  exact TB_mem h2.1 h2.2
theorem zf_4_3 : ∀ t, isO 4 t = true → zf t 3 = true := by
  intro t h
  obtain ⟨n, h⟩ := isO_ob h
  unfold ob at h
  split at h <;> simp_all <;> rfl
theorem zf_4_4 : ∀ t, isO 4 t = true → zf t 4 = true := by
  intro t h
  obtain ⟨n, h⟩ := isO_ob h
  unfold ob at h
  split at h <;> simp_all <;> rfl
theorem zf_4_5 : ∀ t, isO 4 t = true → zf t 5 = true := by
  intro t h
  obtain ⟨n, h⟩ := isO_ob h
  unfold ob at h
  split at h <;> simp_all <;> rfl
theorem zf_5_5 : ∀ t, isO 5 t = true → zf t 5 = true := by
  intro t h
  obtain ⟨n, h⟩ := isO_ob h
  unfold ob at h
  split at h <;> simp_all <;> rfl
theorem tcons {own : String} {cc : ByteArray} {nL d U : Nat} {ret : Option FieldType} {pc : Nat} {f : Sem} {l : List (Nat × Sem)} (h : Snd own cc nL d U ret pc f) (t : ∀ q ∈ l, Snd own cc nL d U ret q.1 q.2) : ∀ q ∈ (pc, f) :: l, Snd own cc nL d U ret q.1 q.2 := fun q hq => (List.mem_cons.mp hq).elim (fun e => by rw [e]; exact h) (t q)
end
section
/-! cuts as a list -/
abbrev Asn : Type := Nat → Nat → LC → List AV → Sg → Prop
def lki : List (Nat × Asn) → Nat → Option Asn
  | [], _ => none
  | (q, P) :: r, pc => bif Nat.beq q pc then some P else lki r pc
theorem lki_mem {t : List (Nat × Asn)} {pc : Nat} {f : Asn} (h : lki t pc = some f) : (pc, f) ∈ t := by
  induction t with
  | nil => cases h
  | cons q r ih =>
    obtain ⟨q1, q2⟩ := q
    unfold lki at h
    cases hq : Nat.beq q1 pc with
    | true =>
      rw [hq, cond_true] at h
      cases h
      rw [Nat.eq_of_beq_eq_true hq]
      exact List.mem_cons_self
    | false =>
      rw [hq, cond_false] at h
      exact List.mem_cons_of_mem _ (ih h)
theorem AMet.mc {y : MethodName} {own : String} {cc : ByteArray} {nL d U : Nat} {ret : Option FieldType} {sp : Spc} {T : List (Nat × Sem)} (hy : plainName y.cls = true) (hcls : y.cls = own) (is : List Nat) (his : is = List.range' 0 nL)
    (hT : ∀ q ∈ T, Snd own cc nL d U ret q.1 q.2) (F : Nat)
    (body : ∀ av s0 N X, sp av s0 N X → ∃ cuts : List (Nat × Asn), argK av is (fun L => wp (lk T) (cut (lki cuts) (fun _ => True)) U N X F 0 0 L [] s0) ∧
      ∀ q ∈ cuts, ∀ n u L st s1, q.2 n u L st s1 → wps (lk T) (cut (lki cuts) (fun k => k < n)) U N X F q.1 u L st s1) : AMet y cc nL ret d U sp :=
  AMet.mk hy hcls is his hT F (fun av s0 N X h => by
    obtain ⟨cuts, h1, h2⟩ := body av s0 N X h
    exact ⟨lki cuts, h1, fun pc P hP => h2 (pc, P) (lki_mem hP)⟩)
theorem ac {α : Type} {P : α → Prop} {a : α} {l : List α} (h : P a) (t : ∀ q ∈ l, P q) : ∀ q ∈ a :: l, P q := fun q hq => (List.mem_cons.mp hq).elim (fun e => by rw [e]; exact h) (t q)
theorem an {α : Type} {P : α → Prop} : ∀ q ∈ ([] : List α), P q := fun _ h => nomatch h
theorem nIs (k : Nat) : nI k + 1 = nI (k + 1) := nI_1 k
theorem nIc {k N : Nat} (h : k ≤ N) (hN : N < 2 ^ 30) : (nI k).toNatClampNeg = k := nI_clamp (by omega)
theorem nIge {a b N : Nat} (ha : a ≤ N) (hb : b ≤ N) (hN : N < 2 ^ 30) : nI b ≤ nI a ↔ b ≤ a := nI_leI (by omega) (by omega)
end
section
/-! the model's small methods -/
/-- a truth value's two ways -/
def br (P : Prop) (N : Nt) (s : Sg) : Prop := (P → N (some (aI 1)) s) ∧ (¬ P → N (some (aI 0)) s)
theorem stS_get {s : Sg} {t i j a b c : Nat} {v : Int32} : (stS s t i j v).2.1 a b c = if a = t ∧ b = i ∧ c = j then v else s.2.1 a b c := rfl
theorem stS_1 {s : Sg} {t i j : Nat} {v : Int32} : (stS s t i j v).1 = s.1 := rfl
theorem stS_3 {s : Sg} {t i j : Nat} {v : Int32} : (stS s t i j v).2.2 = s.2.2 := rfl
/-- an int within bounds, as the code asks it -/
def inR (v a b : Int32) : Prop := ¬ v < a ∧ ¬ b < v
/-- how many persons, vows, causes the model has -/
def MI0 (s : Sg) : Prop := (∃ n, n ≤ 24 ∧ s.2.1 20 0 1 = nI n) ∧ (∃ n, n ≤ 30 ∧ s.2.1 20 0 12 = nI n) ∧ (∃ n, n ≤ 30 ∧ s.2.1 20 0 21 = nI n)
/-- (said so that it is no conjunction) -/
def MI (s : Sg) : Prop := MI0 s = True
theorem ix_vp {p m : Int32} {k N : Nat} (h : inR p 0 (m - 1)) (hm : m = nI k) (hk : k ≤ N) (hN : N < 2 ^ 30) : vp_in p N := by
  obtain ⟨h1, h2⟩ := h
  subst hm
  rintro (q | q)
  · exact h1 q
  · obtain ⟨j, hj, rfl⟩ := nI_of h1
    rw [nI_clamp hj] at q
    cases k with
    | zero =>
      have e : nI 0 - 1 = -1 := rfl
      rw [e] at h2
      refine h2 ?_
      rw [Int32.lt_iff_toInt_lt, nI_toInt hj]
      have : (-1 : Int32).toInt = -1 := rfl
      omega
    | succ k =>
      rw [nI_pred] at h2
      exact h2 (nI_lt (by omega) hj)
theorem rg_vp {p b : Int32} {N : Nat} (h : inR p 0 b) (hb : b.toInt + 1 ≤ N) (hN : N < 2 ^ 30) : vp_in p N := by
  obtain ⟨h1, h2⟩ := h
  rintro (q | q)
  · exact h1 q
  · obtain ⟨j, hj, rfl⟩ := nI_of h1
    rw [nI_clamp hj] at q
    refine h2 ?_
    rw [Int32.lt_iff_toInt_lt, nI_toInt hj]
    omega
theorem dX5_isIn_0 : decode cX5_isIn 0 = .ok (.iload_n 0, 1) := by decide +kernel
theorem dX5_isIn_1 : decode cX5_isIn 1 = .ok (.iload_n 1, 1) := by decide +kernel
theorem dX5_isIn_2 : decode cX5_isIn 2 = .ok (.if_icmp .lt 12, 3) := by decide +kernel
theorem dX5_isIn_5 : decode cX5_isIn 5 = .ok (.iload_n 0, 1) := by decide +kernel
theorem dX5_isIn_6 : decode cX5_isIn 6 = .ok (.iload_n 2, 1) := by decide +kernel
theorem dX5_isIn_7 : decode cX5_isIn 7 = .ok (.if_icmp .gt 7, 3) := by decide +kernel
theorem dX5_isIn_10 : decode cX5_isIn 10 = .ok (.iconst 1, 1) := by decide +kernel
theorem dX5_isIn_11 : decode cX5_isIn 11 = .ok (.goto 4, 3) := by decide +kernel
theorem dX5_isIn_14 : decode cX5_isIn 14 = .ok (.iconst 0, 1) := by decide +kernel
theorem dX5_isIn_15 : decode cX5_isIn 15 = .ok (.ireturn, 1) := by decide +kernel
def tab_X5_isIn : List (Nat × Sem) := [(0, op_il 0 1), (1, op_il 1 2), (2, op_cmp (fun x y => x < y) 14 5), (5, op_il 0 6), (6, op_il 2 7), (7, op_cmp (fun x y => y < x) 14 10), (10, op_ic 1 11), (11, op_go 15), (14, op_ic 0 15), (15, op_zret)]
set_option maxRecDepth 20000 in
theorem tok_X5_isIn : ∀ q ∈ tab_X5_isIn, Snd RX5 cX5_isIn 3 0 0 (some .boolean) q.1 q.2 := by
  unfold tab_X5_isIn
  refine tcons (ok_iload_n dX5_isIn_0 rfl rfl) ?_
  refine tcons (ok_iload_n dX5_isIn_1 rfl rfl) ?_
  refine tcons (ok_icmp_lt dX5_isIn_2 rfl rfl) ?_
  refine tcons (ok_iload_n dX5_isIn_5 rfl rfl) ?_
  refine tcons (ok_iload_n dX5_isIn_6 rfl rfl) ?_
  refine tcons (ok_icmp_gt dX5_isIn_7 rfl rfl) ?_
  refine tcons (ok_iconst dX5_isIn_10 rfl rfl) ?_
  refine tcons (ok_goto dX5_isIn_11 rfl) ?_
  refine tcons (ok_iconst dX5_isIn_14 rfl rfl) ?_
  refine tcons (ok_zreturn rfl (Or.inl rfl) dX5_isIn_15) ?_
  exact fun _ h => nomatch h
def sp_X5_isIn : Spc := fun av s N _ => match av with
  | [.inl (.inl v), .inl (.inl a), .inl (.inl b)] => br (inR v a b) N s
  | _ => False
set_option maxRecDepth 20000 in
set_option maxHeartbeats 2000000 in
theorem M_X5_isIn : AMet yX5_isIn cX5_isIn 3 (some .boolean) 0 0 sp_X5_isIn := by
  refine AMet.mk (own := RX5) (by decide) rfl [0, 1, 2] rfl tok_X5_isIn 200 ?_
  intro av s0 N X h
  unfold sp_X5_isIn at h
  split at h
  rotate_left
  · exact h.elim
  refine ⟨fun _ => none, ?_, fun pc P hP => nomatch hP⟩
  repeat' (first | apply And.intro | (intro q; exact absurd q (by decide)) | intro _)
  all_goals first | decide | (exact Nat.le_of_ble_eq_true rfl) | (simp_all [-Int32.not_lt, -Int32.not_le, br, inR]; done) | (simp_all [-Int32.not_lt, -Int32.not_le, ← Int32.not_le, br, inR]; done) | (simp_all [br, inR]; done)
theorem dX5_thrown_0 : decode cX5_thrown 0 = .ok (.aload_n 0, 1) := by decide +kernel
theorem dX5_thrown_1 : decode cX5_thrown 1 = .ok (.getfield 92, 3) := by decide +kernel
theorem dX5_thrown_4 : decode cX5_thrown 4 = .ok (.ireturn, 1) := by decide +kernel
def tab_X5_thrown : List (Nat × Sem) := [(0, op_al 0 1), (1, op_gf 7 32 4), (4, op_iret)]
set_option maxRecDepth 20000 in
theorem tok_X5_thrown : ∀ q ∈ tab_X5_thrown, Snd RX5 cX5_thrown 1 0 0 (some .int) q.1 q.2 := by
  unfold tab_X5_thrown
  refine tcons (ok_aload_n dX5_thrown_0 rfl rfl) ?_
  refine tcons (ok_getfield (C := RX5) (T := TX5) (n := 33) rfl in_X5 (by decide) w_1025 dX5_thrown_1 rfl) ?_
  refine tcons (ok_ireturn rfl dX5_thrown_4) ?_
  exact fun _ h => nomatch h
def sp_X5_thrown : Spc := fun av s N _ => match av with
  | [.inl (.inr (20, 0))] => N (some (aI (s.2.1 20 0 32))) s
  | _ => False
set_option maxRecDepth 20000 in
set_option maxHeartbeats 2000000 in
theorem M_X5_thrown : AMet yX5_thrown cX5_thrown 1 (some .int) 0 0 sp_X5_thrown := by
  refine AMet.mk (own := RX5) (by decide) rfl [0] rfl tok_X5_thrown 200 ?_
  intro av s0 N X h
  unfold sp_X5_thrown at h
  split at h
  rotate_left
  · exact h.elim
  refine ⟨fun _ => none, ?_, fun pc P hP => nomatch hP⟩
  repeat' (first | apply And.intro | (intro q; exact absurd q (by decide)) | intro _)
  all_goals first | decide | (exact Nat.le_of_ble_eq_true rfl) | (simp_all [-Int32.not_lt, -Int32.not_le]; done) | (simp_all [-Int32.not_lt, -Int32.not_le, ← Int32.not_le]; done) | (simp_all []; done)
theorem dX5_fails_0 : decode cX5_fails 0 = .ok (.aload_n 0, 1) := by decide +kernel
theorem dX5_fails_1 : decode cX5_fails 1 = .ok (.iload_n 1, 1) := by decide +kernel
theorem dX5_fails_2 : decode cX5_fails 2 = .ok (.putfield 92, 3) := by decide +kernel
theorem dX5_fails_5 : decode cX5_fails 5 = .ok (.iload_n 1, 1) := by decide +kernel
theorem dX5_fails_6 : decode cX5_fails 6 = .ok (.ifCond .le 7, 3) := by decide +kernel
theorem dX5_fails_9 : decode cX5_fails 9 = .ok (.iconst 1, 1) := by decide +kernel
theorem dX5_fails_10 : decode cX5_fails 10 = .ok (.goto 4, 3) := by decide +kernel
theorem dX5_fails_13 : decode cX5_fails 13 = .ok (.iconst 0, 1) := by decide +kernel
theorem dX5_fails_14 : decode cX5_fails 14 = .ok (.ireturn, 1) := by decide +kernel
def tab_X5_fails : List (Nat × Sem) := [(0, op_al 0 1), (1, op_il 1 2), (2, op_pf 7 32 5), (5, op_il 1 6), (6, op_if (fun x => x ≤ 0) 13 9), (9, op_ic 1 10), (10, op_go 14), (13, op_ic 0 14), (14, op_zret)]
set_option maxRecDepth 20000 in
theorem tok_X5_fails : ∀ q ∈ tab_X5_fails, Snd RX5 cX5_fails 2 0 0 (some .boolean) q.1 q.2 := by
  unfold tab_X5_fails
  refine tcons (ok_aload_n dX5_fails_0 rfl rfl) ?_
  refine tcons (ok_iload_n dX5_fails_1 rfl rfl) ?_
  refine tcons (ok_putfield (C := RX5) (T := TX5) (n := 33) tyX5 .int rfl in_X5 tyX5_ok nmX5 (by decide) rfl w_1025 rfl (Or.inl rfl) dX5_fails_2 rfl) ?_
  refine tcons (ok_iload_n dX5_fails_5 rfl rfl) ?_
  refine tcons (ok_if_le dX5_fails_6 rfl rfl) ?_
  refine tcons (ok_iconst dX5_fails_9 rfl rfl) ?_
  refine tcons (ok_goto dX5_fails_10 rfl) ?_
  refine tcons (ok_iconst dX5_fails_13 rfl rfl) ?_
  refine tcons (ok_zreturn rfl (Or.inl rfl) dX5_fails_14) ?_
  exact fun _ h => nomatch h
def sp_X5_fails : Spc := fun av s N _ => match av with
  | [.inl (.inr (20, 0)), .inl (.inl w)] => br (0 < w) N (stS s 20 0 32 w)
  | _ => False
set_option maxRecDepth 20000 in
set_option maxHeartbeats 2000000 in
theorem M_X5_fails : AMet yX5_fails cX5_fails 2 (some .boolean) 0 0 sp_X5_fails := by
  refine AMet.mk (own := RX5) (by decide) rfl [0, 1] rfl tok_X5_fails 200 ?_
  intro av s0 N X h
  unfold sp_X5_fails at h
  split at h
  rotate_left
  · exact h.elim
  refine ⟨fun _ => none, ?_, fun pc P hP => nomatch hP⟩
  repeat' (first | apply And.intro | (intro q; exact absurd q (by decide)) | intro _)
  all_goals first | decide | (exact Nat.le_of_ble_eq_true rfl) | (simp_all [-Int32.not_lt, -Int32.not_le, br]; done) | (simp_all [-Int32.not_lt, -Int32.not_le, ← Int32.not_le, br]; done) | (simp_all [br]; done)
theorem dX5_isPerson_0 : decode cX5_isPerson 0 = .ok (.iload_n 1, 1) := by decide +kernel
theorem dX5_isPerson_1 : decode cX5_isPerson 1 = .ok (.iconst 0, 1) := by decide +kernel
theorem dX5_isPerson_2 : decode cX5_isPerson 2 = .ok (.aload_n 0, 1) := by decide +kernel
theorem dX5_isPerson_3 : decode cX5_isPerson 3 = .ok (.getfield 96, 3) := by decide +kernel
theorem dX5_isPerson_6 : decode cX5_isPerson 6 = .ok (.iconst 1, 1) := by decide +kernel
theorem dX5_isPerson_7 : decode cX5_isPerson 7 = .ok (.isub, 1) := by decide +kernel
theorem dX5_isPerson_8 : decode cX5_isPerson 8 = .ok (.invokestatic 99, 3) := by decide +kernel
theorem dX5_isPerson_11 : decode cX5_isPerson 11 = .ok (.ireturn, 1) := by decide +kernel
def tab_X5_isPerson : List (Nat × Sem) := [(0, op_il 1 1), (1, op_ic 0 2), (2, op_al 0 3), (3, op_gf 7 1 6), (6, op_ic 1 7), (7, op_bin (fun x y => x - y) 8), (8, op_call sp_X5_isIn 3 0 11), (11, op_zret)]
set_option maxRecDepth 20000 in
theorem tok_X5_isPerson : ∀ q ∈ tab_X5_isPerson, Snd RX5 cX5_isPerson 2 1 0 (some .boolean) q.1 q.2 := by
  unfold tab_X5_isPerson
  refine tcons (ok_iload_n dX5_isPerson_0 rfl rfl) ?_
  refine tcons (ok_iconst dX5_isPerson_1 rfl rfl) ?_
  refine tcons (ok_aload_n dX5_isPerson_2 rfl rfl) ?_
  refine tcons (ok_getfield (C := RX5) (T := TX5) (n := 33) rfl in_X5 (by decide) w_994 dX5_isPerson_3 rfl) ?_
  refine tcons (ok_iconst dX5_isPerson_6 rfl rfl) ?_
  refine tcons (ok_isub dX5_isPerson_7 rfl) ?_
  refine tcons (ok_invokestatic M_X5_isIn w_1105 w_1106 w_49 w_1107 ⟨by decide, by decide, by decide +kernel⟩ (by decide) (by decide) dX5_isPerson_8 rfl) ?_
  refine tcons (ok_zreturn rfl (Or.inl rfl) dX5_isPerson_11) ?_
  exact fun _ h => nomatch h
def sp_X5_isPerson : Spc := fun av s N _ => match av with
  | [.inl (.inr (20, 0)), .inl (.inl p)] => br (inR p 0 (s.2.1 20 0 1 - 1)) N s
  | _ => False
set_option maxRecDepth 20000 in
set_option maxHeartbeats 2000000 in
theorem M_X5_isPerson : AMet yX5_isPerson cX5_isPerson 2 (some .boolean) 1 0 sp_X5_isPerson := by
  refine AMet.mk (own := RX5) (by decide) rfl [0, 1] rfl tok_X5_isPerson 200 ?_
  intro av s0 N X h
  unfold sp_X5_isPerson at h
  split at h
  rotate_left
  · exact h.elim
  refine ⟨fun _ => none, ?_, fun pc P hP => nomatch hP⟩
  repeat' (first | apply And.intro | (intro q; exact absurd q (by decide)) | intro _)
  all_goals first | decide | (exact Nat.le_of_ble_eq_true rfl) | (simp_all [-Int32.not_lt, -Int32.not_le, br]; done) | (simp_all [-Int32.not_lt, -Int32.not_le, ← Int32.not_le, br]; done) | (simp_all [br]; done)
theorem dX5_isVow_0 : decode cX5_isVow 0 = .ok (.iload_n 1, 1) := by decide +kernel
theorem dX5_isVow_1 : decode cX5_isVow 1 = .ok (.iconst 0, 1) := by decide +kernel
theorem dX5_isVow_2 : decode cX5_isVow 2 = .ok (.aload_n 0, 1) := by decide +kernel
theorem dX5_isVow_3 : decode cX5_isVow 3 = .ok (.getfield 103, 3) := by decide +kernel
theorem dX5_isVow_6 : decode cX5_isVow 6 = .ok (.iconst 1, 1) := by decide +kernel
theorem dX5_isVow_7 : decode cX5_isVow 7 = .ok (.isub, 1) := by decide +kernel
theorem dX5_isVow_8 : decode cX5_isVow 8 = .ok (.invokestatic 99, 3) := by decide +kernel
theorem dX5_isVow_11 : decode cX5_isVow 11 = .ok (.ireturn, 1) := by decide +kernel
def tab_X5_isVow : List (Nat × Sem) := [(0, op_il 1 1), (1, op_ic 0 2), (2, op_al 0 3), (3, op_gf 7 12 6), (6, op_ic 1 7), (7, op_bin (fun x y => x - y) 8), (8, op_call sp_X5_isIn 3 0 11), (11, op_zret)]
set_option maxRecDepth 20000 in
theorem tok_X5_isVow : ∀ q ∈ tab_X5_isVow, Snd RX5 cX5_isVow 2 1 0 (some .boolean) q.1 q.2 := by
  unfold tab_X5_isVow
  refine tcons (ok_iload_n dX5_isVow_0 rfl rfl) ?_
  refine tcons (ok_iconst dX5_isVow_1 rfl rfl) ?_
  refine tcons (ok_aload_n dX5_isVow_2 rfl rfl) ?_
  refine tcons (ok_getfield (C := RX5) (T := TX5) (n := 33) rfl in_X5 (by decide) w_1005 dX5_isVow_3 rfl) ?_
  refine tcons (ok_iconst dX5_isVow_6 rfl rfl) ?_
  refine tcons (ok_isub dX5_isVow_7 rfl) ?_
  refine tcons (ok_invokestatic M_X5_isIn w_1105 w_1106 w_49 w_1107 ⟨by decide, by decide, by decide +kernel⟩ (by decide) (by decide) dX5_isVow_8 rfl) ?_
  refine tcons (ok_zreturn rfl (Or.inl rfl) dX5_isVow_11) ?_
  exact fun _ h => nomatch h
def sp_X5_isVow : Spc := fun av s N _ => match av with
  | [.inl (.inr (20, 0)), .inl (.inl p)] => br (inR p 0 (s.2.1 20 0 12 - 1)) N s
  | _ => False
set_option maxRecDepth 20000 in
set_option maxHeartbeats 2000000 in
theorem M_X5_isVow : AMet yX5_isVow cX5_isVow 2 (some .boolean) 1 0 sp_X5_isVow := by
  refine AMet.mk (own := RX5) (by decide) rfl [0, 1] rfl tok_X5_isVow 200 ?_
  intro av s0 N X h
  unfold sp_X5_isVow at h
  split at h
  rotate_left
  · exact h.elim
  refine ⟨fun _ => none, ?_, fun pc P hP => nomatch hP⟩
  repeat' (first | apply And.intro | (intro q; exact absurd q (by decide)) | intro _)
  all_goals first | decide | (exact Nat.le_of_ble_eq_true rfl) | (simp_all [-Int32.not_lt, -Int32.not_le, br]; done) | (simp_all [-Int32.not_lt, -Int32.not_le, ← Int32.not_le, br]; done) | (simp_all [br]; done)
theorem dX5_isCause_0 : decode cX5_isCause 0 = .ok (.iload_n 1, 1) := by decide +kernel
theorem dX5_isCause_1 : decode cX5_isCause 1 = .ok (.iconst 0, 1) := by decide +kernel
theorem dX5_isCause_2 : decode cX5_isCause 2 = .ok (.aload_n 0, 1) := by decide +kernel
theorem dX5_isCause_3 : decode cX5_isCause 3 = .ok (.getfield 161, 3) := by decide +kernel
theorem dX5_isCause_6 : decode cX5_isCause 6 = .ok (.iconst 1, 1) := by decide +kernel
theorem dX5_isCause_7 : decode cX5_isCause 7 = .ok (.isub, 1) := by decide +kernel
theorem dX5_isCause_8 : decode cX5_isCause 8 = .ok (.invokestatic 99, 3) := by decide +kernel
theorem dX5_isCause_11 : decode cX5_isCause 11 = .ok (.ireturn, 1) := by decide +kernel
def tab_X5_isCause : List (Nat × Sem) := [(0, op_il 1 1), (1, op_ic 0 2), (2, op_al 0 3), (3, op_gf 7 21 6), (6, op_ic 1 7), (7, op_bin (fun x y => x - y) 8), (8, op_call sp_X5_isIn 3 0 11), (11, op_zret)]
set_option maxRecDepth 20000 in
theorem tok_X5_isCause : ∀ q ∈ tab_X5_isCause, Snd RX5 cX5_isCause 2 1 0 (some .boolean) q.1 q.2 := by
  unfold tab_X5_isCause
  refine tcons (ok_iload_n dX5_isCause_0 rfl rfl) ?_
  refine tcons (ok_iconst dX5_isCause_1 rfl rfl) ?_
  refine tcons (ok_aload_n dX5_isCause_2 rfl rfl) ?_
  refine tcons (ok_getfield (C := RX5) (T := TX5) (n := 33) rfl in_X5 (by decide) w_1014 dX5_isCause_3 rfl) ?_
  refine tcons (ok_iconst dX5_isCause_6 rfl rfl) ?_
  refine tcons (ok_isub dX5_isCause_7 rfl) ?_
  refine tcons (ok_invokestatic M_X5_isIn w_1105 w_1106 w_49 w_1107 ⟨by decide, by decide, by decide +kernel⟩ (by decide) (by decide) dX5_isCause_8 rfl) ?_
  refine tcons (ok_zreturn rfl (Or.inl rfl) dX5_isCause_11) ?_
  exact fun _ h => nomatch h
def sp_X5_isCause : Spc := fun av s N _ => match av with
  | [.inl (.inr (20, 0)), .inl (.inl p)] => br (inR p 0 (s.2.1 20 0 21 - 1)) N s
  | _ => False
set_option maxRecDepth 20000 in
set_option maxHeartbeats 2000000 in
theorem M_X5_isCause : AMet yX5_isCause cX5_isCause 2 (some .boolean) 1 0 sp_X5_isCause := by
  refine AMet.mk (own := RX5) (by decide) rfl [0, 1] rfl tok_X5_isCause 200 ?_
  intro av s0 N X h
  unfold sp_X5_isCause at h
  split at h
  rotate_left
  · exact h.elim
  refine ⟨fun _ => none, ?_, fun pc P hP => nomatch hP⟩
  repeat' (first | apply And.intro | (intro q; exact absurd q (by decide)) | intro _)
  all_goals first | decide | (exact Nat.le_of_ble_eq_true rfl) | (simp_all [-Int32.not_lt, -Int32.not_le, br]; done) | (simp_all [-Int32.not_lt, -Int32.not_le, ← Int32.not_le, br]; done) | (simp_all [br]; done)
theorem dX5_isPlace_0 : decode cX5_isPlace 0 = .ok (.iload_n 0, 1) := by decide +kernel
theorem dX5_isPlace_1 : decode cX5_isPlace 1 = .ok (.iconst 0, 1) := by decide +kernel
theorem dX5_isPlace_2 : decode cX5_isPlace 2 = .ok (.bipush 7, 2) := by decide +kernel
theorem dX5_isPlace_4 : decode cX5_isPlace 4 = .ok (.invokestatic 99, 3) := by decide +kernel
theorem dX5_isPlace_7 : decode cX5_isPlace 7 = .ok (.ireturn, 1) := by decide +kernel
def tab_X5_isPlace : List (Nat × Sem) := [(0, op_il 0 1), (1, op_ic 0 2), (2, op_ic 7 4), (4, op_call sp_X5_isIn 3 0 7), (7, op_zret)]
set_option maxRecDepth 20000 in
theorem tok_X5_isPlace : ∀ q ∈ tab_X5_isPlace, Snd RX5 cX5_isPlace 1 1 0 (some .boolean) q.1 q.2 := by
  unfold tab_X5_isPlace
  refine tcons (ok_iload_n dX5_isPlace_0 rfl rfl) ?_
  refine tcons (ok_iconst dX5_isPlace_1 rfl rfl) ?_
  refine tcons (ok_bipush dX5_isPlace_2 rfl rfl) ?_
  refine tcons (ok_invokestatic M_X5_isIn w_1105 w_1106 w_49 w_1107 ⟨by decide, by decide, by decide +kernel⟩ (by decide) (by decide) dX5_isPlace_4 rfl) ?_
  refine tcons (ok_zreturn rfl (Or.inl rfl) dX5_isPlace_7) ?_
  exact fun _ h => nomatch h
def sp_X5_isPlace : Spc := fun av s N _ => match av with
  | [.inl (.inl p)] => br (inR p 0 7) N s
  | _ => False
set_option maxRecDepth 20000 in
set_option maxHeartbeats 2000000 in
theorem M_X5_isPlace : AMet yX5_isPlace cX5_isPlace 1 (some .boolean) 1 0 sp_X5_isPlace := by
  refine AMet.mk (own := RX5) (by decide) rfl [0] rfl tok_X5_isPlace 200 ?_
  intro av s0 N X h
  unfold sp_X5_isPlace at h
  split at h
  rotate_left
  · exact h.elim
  refine ⟨fun _ => none, ?_, fun pc P hP => nomatch hP⟩
  repeat' (first | apply And.intro | (intro q; exact absurd q (by decide)) | intro _)
  all_goals first | decide | (exact Nat.le_of_ble_eq_true rfl) | (simp_all [-Int32.not_lt, -Int32.not_le, br]; done) | (simp_all [-Int32.not_lt, -Int32.not_le, ← Int32.not_le, br]; done) | (simp_all [br]; done)
theorem dX5_isWitness_0 : decode cX5_isWitness 0 = .ok (.iload_n 0, 1) := by decide +kernel
theorem dX5_isWitness_1 : decode cX5_isWitness 1 = .ok (.iconst 0, 1) := by decide +kernel
theorem dX5_isWitness_2 : decode cX5_isWitness 2 = .ok (.iconst 5, 1) := by decide +kernel
theorem dX5_isWitness_3 : decode cX5_isWitness 3 = .ok (.invokestatic 99, 3) := by decide +kernel
theorem dX5_isWitness_6 : decode cX5_isWitness 6 = .ok (.ireturn, 1) := by decide +kernel
def tab_X5_isWitness : List (Nat × Sem) := [(0, op_il 0 1), (1, op_ic 0 2), (2, op_ic 5 3), (3, op_call sp_X5_isIn 3 0 6), (6, op_zret)]
set_option maxRecDepth 20000 in
theorem tok_X5_isWitness : ∀ q ∈ tab_X5_isWitness, Snd RX5 cX5_isWitness 1 1 0 (some .boolean) q.1 q.2 := by
  unfold tab_X5_isWitness
  refine tcons (ok_iload_n dX5_isWitness_0 rfl rfl) ?_
  refine tcons (ok_iconst dX5_isWitness_1 rfl rfl) ?_
  refine tcons (ok_iconst dX5_isWitness_2 rfl rfl) ?_
  refine tcons (ok_invokestatic M_X5_isIn w_1105 w_1106 w_49 w_1107 ⟨by decide, by decide, by decide +kernel⟩ (by decide) (by decide) dX5_isWitness_3 rfl) ?_
  refine tcons (ok_zreturn rfl (Or.inl rfl) dX5_isWitness_6) ?_
  exact fun _ h => nomatch h
def sp_X5_isWitness : Spc := fun av s N _ => match av with
  | [.inl (.inl p)] => br (inR p 0 5) N s
  | _ => False
set_option maxRecDepth 20000 in
set_option maxHeartbeats 2000000 in
theorem M_X5_isWitness : AMet yX5_isWitness cX5_isWitness 1 (some .boolean) 1 0 sp_X5_isWitness := by
  refine AMet.mk (own := RX5) (by decide) rfl [0] rfl tok_X5_isWitness 200 ?_
  intro av s0 N X h
  unfold sp_X5_isWitness at h
  split at h
  rotate_left
  · exact h.elim
  refine ⟨fun _ => none, ?_, fun pc P hP => nomatch hP⟩
  repeat' (first | apply And.intro | (intro q; exact absurd q (by decide)) | intro _)
  all_goals first | decide | (exact Nat.le_of_ble_eq_true rfl) | (simp_all [-Int32.not_lt, -Int32.not_le, br]; done) | (simp_all [-Int32.not_lt, -Int32.not_le, ← Int32.not_le, br]; done) | (simp_all [br]; done)
theorem dX5_isDoubt_0 : decode cX5_isDoubt 0 = .ok (.iload_n 0, 1) := by decide +kernel
theorem dX5_isDoubt_1 : decode cX5_isDoubt 1 = .ok (.iconst 1, 1) := by decide +kernel
theorem dX5_isDoubt_2 : decode cX5_isDoubt 2 = .ok (.bipush 127, 2) := by decide +kernel
theorem dX5_isDoubt_4 : decode cX5_isDoubt 4 = .ok (.invokestatic 99, 3) := by decide +kernel
theorem dX5_isDoubt_7 : decode cX5_isDoubt 7 = .ok (.ireturn, 1) := by decide +kernel
def tab_X5_isDoubt : List (Nat × Sem) := [(0, op_il 0 1), (1, op_ic 1 2), (2, op_ic 127 4), (4, op_call sp_X5_isIn 3 0 7), (7, op_zret)]
set_option maxRecDepth 20000 in
theorem tok_X5_isDoubt : ∀ q ∈ tab_X5_isDoubt, Snd RX5 cX5_isDoubt 1 1 0 (some .boolean) q.1 q.2 := by
  unfold tab_X5_isDoubt
  refine tcons (ok_iload_n dX5_isDoubt_0 rfl rfl) ?_
  refine tcons (ok_iconst dX5_isDoubt_1 rfl rfl) ?_
  refine tcons (ok_bipush dX5_isDoubt_2 rfl rfl) ?_
  refine tcons (ok_invokestatic M_X5_isIn w_1105 w_1106 w_49 w_1107 ⟨by decide, by decide, by decide +kernel⟩ (by decide) (by decide) dX5_isDoubt_4 rfl) ?_
  refine tcons (ok_zreturn rfl (Or.inl rfl) dX5_isDoubt_7) ?_
  exact fun _ h => nomatch h
def sp_X5_isDoubt : Spc := fun av s N _ => match av with
  | [.inl (.inl p)] => br (inR p 1 127) N s
  | _ => False
set_option maxRecDepth 20000 in
set_option maxHeartbeats 2000000 in
theorem M_X5_isDoubt : AMet yX5_isDoubt cX5_isDoubt 1 (some .boolean) 1 0 sp_X5_isDoubt := by
  refine AMet.mk (own := RX5) (by decide) rfl [0] rfl tok_X5_isDoubt 200 ?_
  intro av s0 N X h
  unfold sp_X5_isDoubt at h
  split at h
  rotate_left
  · exact h.elim
  refine ⟨fun _ => none, ?_, fun pc P hP => nomatch hP⟩
  repeat' (first | apply And.intro | (intro q; exact absurd q (by decide)) | intro _)
  all_goals first | decide | (exact Nat.le_of_ble_eq_true rfl) | (simp_all [-Int32.not_lt, -Int32.not_le, br]; done) | (simp_all [-Int32.not_lt, -Int32.not_le, ← Int32.not_le, br]; done) | (simp_all [br]; done)
/-- the model's calls: first one reason to fail, then another -/
abbrev th (s : Sg) (k : Int32) : Sg := stS s 20 0 32 k
def f1 (c : Prop) (v : Option AV) (N : Nt) (s : Sg) (F : Prop) : Prop := (¬ c → N v (th s 1)) ∧ (c → F)
def f2 (c1 c2 : Prop) (v : Option AV) (N : Nt) (s : Sg) (F : Prop) : Prop := (¬ c1 → N v (th s 1)) ∧ (c1 → ¬ c2 → N v (th s 2)) ∧ (c1 → c2 → F)
def f3 (c1 c2 c3 : Prop) (v : Option AV) (N : Nt) (s : Sg) (F : Prop) : Prop := (¬ c1 → N v (th s 1)) ∧ (c1 → ¬ c2 → N v (th s 2)) ∧ (c1 → c2 → ¬ c3 → N v (th s 3)) ∧ (c1 → c2 → c3 → F)
abbrev isP (s : Sg) (p : Int32) : Prop := inR p 0 (s.2.1 20 0 1 - 1)
abbrev isV (s : Sg) (p : Int32) : Prop := inR p 0 (s.2.1 20 0 12 - 1)
abbrev isC (s : Sg) (p : Int32) : Prop := inR p 0 (s.2.1 20 0 21 - 1)
abbrev cl (p : Int32) : Nat := p.toNatClampNeg
theorem MI_p {s : Sg} (h : MI s) {p : Int32} (hp : isP s p) : vp_in p 24 := by
  obtain ⟨⟨n, h1, h2⟩, -⟩ := of_eq_true h
  exact ix_vp hp h2 h1 (by decide)
theorem MI_v {s : Sg} (h : MI s) {p : Int32} (hp : isV s p) : vp_in p 30 := by
  obtain ⟨-, ⟨n, h1, h2⟩, -⟩ := of_eq_true h
  exact ix_vp hp h2 h1 (by decide)
theorem MI_c {s : Sg} (h : MI s) {p : Int32} (hp : isC s p) : vp_in p 30 := by
  obtain ⟨-, -, ⟨n, h1, h2⟩⟩ := of_eq_true h
  exact ix_vp hp h2 h1 (by decide)
theorem dX5_rite_0 : decode cX5_rite 0 = .ok (.aload_n 0, 1) := by decide +kernel
theorem dX5_rite_1 : decode cX5_rite 1 = .ok (.aload_n 0, 1) := by decide +kernel
theorem dX5_rite_2 : decode cX5_rite 2 = .ok (.iload_n 1, 1) := by decide +kernel
theorem dX5_rite_3 : decode cX5_rite 3 = .ok (.invokevirtual 106, 3) := by decide +kernel
theorem dX5_rite_6 : decode cX5_rite 6 = .ok (.ifCond .ne 7, 3) := by decide +kernel
theorem dX5_rite_9 : decode cX5_rite 9 = .ok (.iconst 1, 1) := by decide +kernel
theorem dX5_rite_10 : decode cX5_rite 10 = .ok (.goto 17, 3) := by decide +kernel
theorem dX5_rite_13 : decode cX5_rite 13 = .ok (.iload_n 2, 1) := by decide +kernel
theorem dX5_rite_14 : decode cX5_rite 14 = .ok (.iconst 0, 1) := by decide +kernel
theorem dX5_rite_15 : decode cX5_rite 15 = .ok (.iconst 2, 1) := by decide +kernel
theorem dX5_rite_16 : decode cX5_rite 16 = .ok (.invokestatic 99, 3) := by decide +kernel
theorem dX5_rite_19 : decode cX5_rite 19 = .ok (.ifCond .eq 7, 3) := by decide +kernel
theorem dX5_rite_22 : decode cX5_rite 22 = .ok (.iconst 0, 1) := by decide +kernel
theorem dX5_rite_23 : decode cX5_rite 23 = .ok (.goto 4, 3) := by decide +kernel
theorem dX5_rite_26 : decode cX5_rite 26 = .ok (.iconst 2, 1) := by decide +kernel
theorem dX5_rite_27 : decode cX5_rite 27 = .ok (.invokevirtual 114, 3) := by decide +kernel
theorem dX5_rite_30 : decode cX5_rite 30 = .ok (.ifCond .eq 5, 3) := by decide +kernel
theorem dX5_rite_33 : decode cX5_rite 33 = .ok (.iconst 0, 1) := by decide +kernel
theorem dX5_rite_34 : decode cX5_rite 34 = .ok (.ireturn, 1) := by decide +kernel
theorem dX5_rite_35 : decode cX5_rite 35 = .ok (.aload_n 0, 1) := by decide +kernel
theorem dX5_rite_36 : decode cX5_rite 36 = .ok (.getfield 16, 3) := by decide +kernel
theorem dX5_rite_39 : decode cX5_rite 39 = .ok (.iload_n 1, 1) := by decide +kernel
theorem dX5_rite_40 : decode cX5_rite 40 = .ok (.iaload, 1) := by decide +kernel
theorem dX5_rite_41 : decode cX5_rite 41 = .ok (.istore_n 3, 1) := by decide +kernel
theorem dX5_rite_42 : decode cX5_rite 42 = .ok (.aload_n 0, 1) := by decide +kernel
theorem dX5_rite_43 : decode cX5_rite 43 = .ok (.getfield 16, 3) := by decide +kernel
theorem dX5_rite_46 : decode cX5_rite 46 = .ok (.iload_n 1, 1) := by decide +kernel
theorem dX5_rite_47 : decode cX5_rite 47 = .ok (.iload_n 2, 1) := by decide +kernel
theorem dX5_rite_48 : decode cX5_rite 48 = .ok (.iastore, 1) := by decide +kernel
theorem dX5_rite_49 : decode cX5_rite 49 = .ok (.iload_n 3, 1) := by decide +kernel
theorem dX5_rite_50 : decode cX5_rite 50 = .ok (.ireturn, 1) := by decide +kernel
def tab_X5_rite : List (Nat × Sem) := [(0, op_al 0 1), (1, op_al 0 2), (2, op_il 1 3), (3, op_callV 7 sp_X5_isPerson 2 0 6), (6, op_if (fun x => ¬ x = 0) 13 9), (9, op_ic 1 10), (10, op_go 27), (13, op_il 2 14), (14, op_ic 0 15), (15, op_ic 2 16), (16, op_call sp_X5_isIn 3 0 19), (19, op_if (fun x => x = 0) 26 22), (22, op_ic 0 23), (23, op_go 27), (26, op_ic 2 27), (27, op_callV 7 sp_X5_fails 2 0 30), (30, op_if (fun x => x = 0) 35 33), (33, op_ic 0 34), (34, op_iret), (35, op_al 0 36), (36, op_gf 7 4 39), (39, op_il 1 40), (40, op_iald 41), (41, op_is 3 42), (42, op_al 0 43), (43, op_gf 7 4 46), (46, op_il 1 47), (47, op_il 2 48), (48, op_iast 49), (49, op_il 3 50), (50, op_iret)]
set_option maxRecDepth 20000 in
theorem tok_X5_rite : ∀ q ∈ tab_X5_rite, Snd RX5 cX5_rite 4 2 0 (some .int) q.1 q.2 := by
  unfold tab_X5_rite
  refine tcons (ok_aload_n dX5_rite_0 rfl rfl) ?_
  refine tcons (ok_aload_n dX5_rite_1 rfl rfl) ?_
  refine tcons (ok_iload_n dX5_rite_2 rfl rfl) ?_
  refine tcons (ok_invokevirtual M_X5_isPerson (C := RX5) (T := TX5) (nf := 33) rfl w_1101 w_1103 w_19 w_49 w_1104 ⟨rfl, by decide, by decide, by decide +kernel⟩ (by decide) (by decide) dX5_rite_3 rfl) ?_
  refine tcons (ok_if_ne dX5_rite_6 rfl rfl) ?_
  refine tcons (ok_iconst dX5_rite_9 rfl rfl) ?_
  refine tcons (ok_goto dX5_rite_10 rfl) ?_
  refine tcons (ok_iload_n dX5_rite_13 rfl rfl) ?_
  refine tcons (ok_iconst dX5_rite_14 rfl rfl) ?_
  refine tcons (ok_iconst dX5_rite_15 rfl rfl) ?_
  refine tcons (ok_invokestatic M_X5_isIn w_1105 w_1106 w_49 w_1107 ⟨by decide, by decide, by decide +kernel⟩ (by decide) (by decide) dX5_rite_16 rfl) ?_
  refine tcons (ok_if_eq dX5_rite_19 rfl rfl) ?_
  refine tcons (ok_iconst dX5_rite_22 rfl rfl) ?_
  refine tcons (ok_goto dX5_rite_23 rfl) ?_
  refine tcons (ok_iconst dX5_rite_26 rfl rfl) ?_
  refine tcons (ok_invokevirtual M_X5_fails (C := RX5) (T := TX5) (nf := 33) rfl w_1112 w_1114 w_20 w_49 w_1115 ⟨rfl, by decide, by decide, by decide +kernel⟩ (by decide) (by decide) dX5_rite_27 rfl) ?_
  refine tcons (ok_if_eq dX5_rite_30 rfl rfl) ?_
  refine tcons (ok_iconst dX5_rite_33 rfl rfl) ?_
  refine tcons (ok_ireturn rfl dX5_rite_34) ?_
  refine tcons (ok_aload_n dX5_rite_35 rfl rfl) ?_
  refine tcons (ok_getfield (C := RX5) (T := TX5) (n := 33) rfl in_X5 (by decide) w_997 dX5_rite_36 rfl) ?_
  refine tcons (ok_iload_n dX5_rite_39 rfl rfl) ?_
  refine tcons (ok_iaload dX5_rite_40 rfl) ?_
  refine tcons (ok_istore_n dX5_rite_41 rfl (by decide) rfl) ?_
  refine tcons (ok_aload_n dX5_rite_42 rfl rfl) ?_
  refine tcons (ok_getfield (C := RX5) (T := TX5) (n := 33) rfl in_X5 (by decide) w_997 dX5_rite_43 rfl) ?_
  refine tcons (ok_iload_n dX5_rite_46 rfl rfl) ?_
  refine tcons (ok_iload_n dX5_rite_47 rfl rfl) ?_
  refine tcons (ok_iastore dX5_rite_48 rfl) ?_
  refine tcons (ok_iload_n dX5_rite_49 rfl rfl) ?_
  refine tcons (ok_ireturn rfl dX5_rite_50) ?_
  exact fun _ h => nomatch h
def sp_X5_rite : Spc := fun av s N _ => match av with
  | [.inl (.inr (20, 0)), .inl (.inl p), .inl (.inl r)] => MI s ∧ f2 (isP s p) (inR r 0 2) (some (aI 0)) N s (N (some (aI (s.2.1 24 0 (cl p)))) (stS (th s 0) 24 0 (cl p) r))
  | _ => False
set_option maxRecDepth 20000 in
set_option maxHeartbeats 2000000 in
theorem M_X5_rite : AMet yX5_rite cX5_rite 4 (some .int) 2 0 sp_X5_rite := by
  refine AMet.mk (own := RX5) (by decide) rfl [0, 1, 2, 3] rfl tok_X5_rite 200 ?_
  intro av s0 N X h
  unfold sp_X5_rite at h
  split at h
  rotate_left
  · exact h.elim
  refine ⟨fun _ => none, ?_, fun pc P hP => nomatch hP⟩
  repeat' (first | apply And.intro | (intro q; exact absurd q (by decide)) | intro _)
  all_goals first | decide | (exact Nat.le_of_ble_eq_true rfl) | (exact Ib_of (MI_p h.1 (by assumption))) | (simp_all [-Int32.not_lt, -Int32.not_le, f2, stS_get]; done) | (simp_all [-Int32.not_lt, -Int32.not_le, ← Int32.not_le, f2, stS_get]; done) | (simp_all [f2, stS_get]; done)
end
section
/-! the model's methods without loops -/
theorem ix_nI {p m : Int32} {k : Nat} (h : inR p 0 (m - 1)) (hm : m = nI k) (hk : k < 2 ^ 30) : ∃ j, j < k ∧ p = nI j := by
  have hv := ix_vp h hm (Nat.le_refl k) hk
  obtain ⟨j, hj, rfl⟩ := nI_of h.1
  refine ⟨j, ?_, rfl⟩
  have := Nat.not_le.mp fun q => hv (Or.inr q)
  rw [nI_clamp hj] at this
  exact this
theorem rg_nI {p b : Int32} {N : Nat} (h : inR p 0 b) (hb : b.toInt = N) : ∃ j, j ≤ N ∧ p = nI j := by
  obtain ⟨h1, h2⟩ := h
  obtain ⟨j, hj, rfl⟩ := nI_of h1
  refine ⟨j, ?_, rfl⟩
  have h3 : ¬ b.toInt < (nI j).toInt := fun q => h2 (Int32.lt_iff_toInt_lt.mpr q)
  rw [nI_toInt hj] at h3
  omega
theorem nI_vp {k N : Nat} (h : k < N) (hN : N < 2 ^ 30) : vp_in (nI k) N := vp_in_nI h (by omega)
theorem nIm (a b : Nat) : nI a * nI b = nI (a * b) := pk_mul a b
theorem MI_pn {s : Sg} (h : MI s) {p : Int32} (hp : isP s p) : ∃ j, j < 24 ∧ p = nI j := by
  obtain ⟨⟨n, h1, h2⟩, -⟩ := of_eq_true h
  obtain ⟨j, h3, h4⟩ := ix_nI hp h2 (by omega)
  exact ⟨j, by omega, h4⟩
theorem MI_cn {s : Sg} (h : MI s) {p : Int32} (hp : isC s p) : ∃ j, j < 30 ∧ p = nI j := by
  obtain ⟨-, -, n, h1, h2⟩ := of_eq_true h
  obtain ⟨j, h3, h4⟩ := ix_nI hp h2 (by omega)
  exact ⟨j, by omega, h4⟩
theorem dX5_home_0 : decode cX5_home 0 = .ok (.aload_n 0, 1) := by decide +kernel
theorem dX5_home_1 : decode cX5_home 1 = .ok (.aload_n 0, 1) := by decide +kernel
theorem dX5_home_2 : decode cX5_home 2 = .ok (.iload_n 1, 1) := by decide +kernel
theorem dX5_home_3 : decode cX5_home 3 = .ok (.invokevirtual 106, 3) := by decide +kernel
theorem dX5_home_6 : decode cX5_home 6 = .ok (.ifCond .ne 7, 3) := by decide +kernel
theorem dX5_home_9 : decode cX5_home 9 = .ok (.iconst 1, 1) := by decide +kernel
theorem dX5_home_10 : decode cX5_home 10 = .ok (.goto 15, 3) := by decide +kernel
theorem dX5_home_13 : decode cX5_home 13 = .ok (.iload_n 2, 1) := by decide +kernel
theorem dX5_home_14 : decode cX5_home 14 = .ok (.invokestatic 111, 3) := by decide +kernel
theorem dX5_home_17 : decode cX5_home 17 = .ok (.ifCond .eq 7, 3) := by decide +kernel
theorem dX5_home_20 : decode cX5_home 20 = .ok (.iconst 0, 1) := by decide +kernel
theorem dX5_home_21 : decode cX5_home 21 = .ok (.goto 4, 3) := by decide +kernel
theorem dX5_home_24 : decode cX5_home 24 = .ok (.iconst 2, 1) := by decide +kernel
theorem dX5_home_25 : decode cX5_home 25 = .ok (.invokevirtual 114, 3) := by decide +kernel
theorem dX5_home_28 : decode cX5_home 28 = .ok (.ifCond .eq 5, 3) := by decide +kernel
theorem dX5_home_31 : decode cX5_home 31 = .ok (.iconst 0, 1) := by decide +kernel
theorem dX5_home_32 : decode cX5_home 32 = .ok (.ireturn, 1) := by decide +kernel
theorem dX5_home_33 : decode cX5_home 33 = .ok (.aload_n 0, 1) := by decide +kernel
theorem dX5_home_34 : decode cX5_home 34 = .ok (.getfield 13, 3) := by decide +kernel
theorem dX5_home_37 : decode cX5_home 37 = .ok (.iload_n 1, 1) := by decide +kernel
theorem dX5_home_38 : decode cX5_home 38 = .ok (.iaload, 1) := by decide +kernel
theorem dX5_home_39 : decode cX5_home 39 = .ok (.istore_n 3, 1) := by decide +kernel
theorem dX5_home_40 : decode cX5_home 40 = .ok (.aload_n 0, 1) := by decide +kernel
theorem dX5_home_41 : decode cX5_home 41 = .ok (.getfield 13, 3) := by decide +kernel
theorem dX5_home_44 : decode cX5_home 44 = .ok (.iload_n 1, 1) := by decide +kernel
theorem dX5_home_45 : decode cX5_home 45 = .ok (.iload_n 2, 1) := by decide +kernel
theorem dX5_home_46 : decode cX5_home 46 = .ok (.iastore, 1) := by decide +kernel
theorem dX5_home_47 : decode cX5_home 47 = .ok (.iload_n 3, 1) := by decide +kernel
theorem dX5_home_48 : decode cX5_home 48 = .ok (.ireturn, 1) := by decide +kernel
def tab_X5_home : List (Nat × Sem) := [(0, op_al 0 1), (1, op_al 0 2), (2, op_il 1 3), (3, op_callV 7 sp_X5_isPerson 2 0 6), (6, op_if (fun x => ¬ x = 0) 13 9), (9, op_ic 1 10), (10, op_go 25), (13, op_il 2 14), (14, op_call sp_X5_isPlace 1 0 17), (17, op_if (fun x => x = 0) 24 20), (20, op_ic 0 21), (21, op_go 25), (24, op_ic 2 25), (25, op_callV 7 sp_X5_fails 2 0 28), (28, op_if (fun x => x = 0) 33 31), (31, op_ic 0 32), (32, op_iret), (33, op_al 0 34), (34, op_gf 7 3 37), (37, op_il 1 38), (38, op_iald 39), (39, op_is 3 40), (40, op_al 0 41), (41, op_gf 7 3 44), (44, op_il 1 45), (45, op_il 2 46), (46, op_iast 47), (47, op_il 3 48), (48, op_iret)]
set_option maxRecDepth 20000 in
theorem tok_X5_home : ∀ q ∈ tab_X5_home, Snd RX5 cX5_home 4 2 0 (some .int) q.1 q.2 := by
  unfold tab_X5_home
  refine tcons (ok_aload_n dX5_home_0 rfl rfl) ?_
  refine tcons (ok_aload_n dX5_home_1 rfl rfl) ?_
  refine tcons (ok_iload_n dX5_home_2 rfl rfl) ?_
  refine tcons (ok_invokevirtual M_X5_isPerson (C := RX5) (T := TX5) (nf := 33) rfl w_1101 w_1103 w_19 w_49 w_1104 ⟨rfl, by decide, by decide, by decide +kernel⟩ (by decide) (by decide) dX5_home_3 rfl) ?_
  refine tcons (ok_if_ne dX5_home_6 rfl rfl) ?_
  refine tcons (ok_iconst dX5_home_9 rfl rfl) ?_
  refine tcons (ok_goto dX5_home_10 rfl) ?_
  refine tcons (ok_iload_n dX5_home_13 rfl rfl) ?_
  refine tcons (ok_invokestatic M_X5_isPlace w_1109 w_1110 w_49 w_1111 ⟨by decide, by decide, by decide +kernel⟩ (by decide) (by decide) dX5_home_14 rfl) ?_
  refine tcons (ok_if_eq dX5_home_17 rfl rfl) ?_
  refine tcons (ok_iconst dX5_home_20 rfl rfl) ?_
  refine tcons (ok_goto dX5_home_21 rfl) ?_
  refine tcons (ok_iconst dX5_home_24 rfl rfl) ?_
  refine tcons (ok_invokevirtual M_X5_fails (C := RX5) (T := TX5) (nf := 33) rfl w_1112 w_1114 w_20 w_49 w_1115 ⟨rfl, by decide, by decide, by decide +kernel⟩ (by decide) (by decide) dX5_home_25 rfl) ?_
  refine tcons (ok_if_eq dX5_home_28 rfl rfl) ?_
  refine tcons (ok_iconst dX5_home_31 rfl rfl) ?_
  refine tcons (ok_ireturn rfl dX5_home_32) ?_
  refine tcons (ok_aload_n dX5_home_33 rfl rfl) ?_
  refine tcons (ok_getfield (C := RX5) (T := TX5) (n := 33) rfl in_X5 (by decide) w_996 dX5_home_34 rfl) ?_
  refine tcons (ok_iload_n dX5_home_37 rfl rfl) ?_
  refine tcons (ok_iaload dX5_home_38 rfl) ?_
  refine tcons (ok_istore_n dX5_home_39 rfl (by decide) rfl) ?_
  refine tcons (ok_aload_n dX5_home_40 rfl rfl) ?_
  refine tcons (ok_getfield (C := RX5) (T := TX5) (n := 33) rfl in_X5 (by decide) w_996 dX5_home_41 rfl) ?_
  refine tcons (ok_iload_n dX5_home_44 rfl rfl) ?_
  refine tcons (ok_iload_n dX5_home_45 rfl rfl) ?_
  refine tcons (ok_iastore dX5_home_46 rfl) ?_
  refine tcons (ok_iload_n dX5_home_47 rfl rfl) ?_
  refine tcons (ok_ireturn rfl dX5_home_48) ?_
  exact fun _ h => nomatch h
def sp_X5_home : Spc := fun av s N _ => match av with
  | [.inl (.inr (20, 0)), .inl (.inl p), .inl (.inl r)] => MI s ∧ f2 (isP s p) (inR r 0 7) (some (aI 0)) N s (N (some (aI (s.2.1 23 0 (cl p)))) (stS (th s 0) 23 0 (cl p) r))
  | _ => False
set_option maxRecDepth 20000 in
set_option maxHeartbeats 2000000 in
theorem M_X5_home : AMet yX5_home cX5_home 4 (some .int) 2 0 sp_X5_home := by
  refine AMet.mk (own := RX5) (by decide) rfl [0, 1, 2, 3] rfl tok_X5_home 200 ?_
  intro av s0 N X h
  unfold sp_X5_home at h
  split at h
  rotate_left
  · exact h.elim
  refine ⟨fun _ => none, ?_, fun pc P hP => nomatch hP⟩
  repeat' (first | apply And.intro | (intro q; exact absurd q (by decide)) | intro _)
  all_goals first | decide | (exact Nat.le_of_ble_eq_true rfl) | (exact Ib_of (MI_p h.1 (by assumption))) | (simp_all [-Int32.not_lt, -Int32.not_le, f2, stS_get]; done) | (simp_all [-Int32.not_lt, -Int32.not_le, ← Int32.not_le, f2, stS_get]; done) | (simp_all [f2, stS_get]; done)
theorem dX5_order_0 : decode cX5_order 0 = .ok (.aload_n 0, 1) := by decide +kernel
theorem dX5_order_1 : decode cX5_order 1 = .ok (.aload_n 0, 1) := by decide +kernel
theorem dX5_order_2 : decode cX5_order 2 = .ok (.iload_n 1, 1) := by decide +kernel
theorem dX5_order_3 : decode cX5_order 3 = .ok (.invokevirtual 106, 3) := by decide +kernel
theorem dX5_order_6 : decode cX5_order 6 = .ok (.ifCond .ne 7, 3) := by decide +kernel
theorem dX5_order_9 : decode cX5_order 9 = .ok (.iconst 1, 1) := by decide +kernel
theorem dX5_order_10 : decode cX5_order 10 = .ok (.goto 26, 3) := by decide +kernel
theorem dX5_order_13 : decode cX5_order 13 = .ok (.aload_n 0, 1) := by decide +kernel
theorem dX5_order_14 : decode cX5_order 14 = .ok (.getfield 26, 3) := by decide +kernel
theorem dX5_order_17 : decode cX5_order 17 = .ok (.iload_n 1, 1) := by decide +kernel
theorem dX5_order_18 : decode cX5_order 18 = .ok (.baload, 1) := by decide +kernel
theorem dX5_order_19 : decode cX5_order 19 = .ok (.ifCond .ne 12, 3) := by decide +kernel
theorem dX5_order_22 : decode cX5_order 22 = .ok (.aload_n 0, 1) := by decide +kernel
theorem dX5_order_23 : decode cX5_order 23 = .ok (.getfield 19, 3) := by decide +kernel
theorem dX5_order_26 : decode cX5_order 26 = .ok (.iload_n 1, 1) := by decide +kernel
theorem dX5_order_27 : decode cX5_order 27 = .ok (.baload, 1) := by decide +kernel
theorem dX5_order_28 : decode cX5_order 28 = .ok (.ifCond .eq 7, 3) := by decide +kernel
theorem dX5_order_31 : decode cX5_order 31 = .ok (.iconst 2, 1) := by decide +kernel
theorem dX5_order_32 : decode cX5_order 32 = .ok (.goto 4, 3) := by decide +kernel
theorem dX5_order_35 : decode cX5_order 35 = .ok (.iconst 0, 1) := by decide +kernel
theorem dX5_order_36 : decode cX5_order 36 = .ok (.invokevirtual 114, 3) := by decide +kernel
theorem dX5_order_39 : decode cX5_order 39 = .ok (.ifCond .ne 10, 3) := by decide +kernel
theorem dX5_order_42 : decode cX5_order 42 = .ok (.aload_n 0, 1) := by decide +kernel
theorem dX5_order_43 : decode cX5_order 43 = .ok (.getfield 19, 3) := by decide +kernel
theorem dX5_order_46 : decode cX5_order 46 = .ok (.iload_n 1, 1) := by decide +kernel
theorem dX5_order_47 : decode cX5_order 47 = .ok (.iconst 1, 1) := by decide +kernel
theorem dX5_order_48 : decode cX5_order 48 = .ok (.bastore, 1) := by decide +kernel
theorem dX5_order_49 : decode cX5_order 49 = .ok (.return_, 1) := by decide +kernel
def tab_X5_order : List (Nat × Sem) := [(0, op_al 0 1), (1, op_al 0 2), (2, op_il 1 3), (3, op_callV 7 sp_X5_isPerson 2 0 6), (6, op_if (fun x => ¬ x = 0) 13 9), (9, op_ic 1 10), (10, op_go 36), (13, op_al 0 14), (14, op_gf 7 7 17), (17, op_il 1 18), (18, op_bald 19), (19, op_if (fun x => ¬ x = 0) 31 22), (22, op_al 0 23), (23, op_gf 7 5 26), (26, op_il 1 27), (27, op_bald 28), (28, op_if (fun x => x = 0) 35 31), (31, op_ic 2 32), (32, op_go 36), (35, op_ic 0 36), (36, op_callV 7 sp_X5_fails 2 0 39), (39, op_if (fun x => ¬ x = 0) 49 42), (42, op_al 0 43), (43, op_gf 7 5 46), (46, op_il 1 47), (47, op_ic 1 48), (48, op_bast 49), (49, op_vret)]
set_option maxRecDepth 20000 in
theorem tok_X5_order : ∀ q ∈ tab_X5_order, Snd RX5 cX5_order 2 2 0 none q.1 q.2 := by
  unfold tab_X5_order
  refine tcons (ok_aload_n dX5_order_0 rfl rfl) ?_
  refine tcons (ok_aload_n dX5_order_1 rfl rfl) ?_
  refine tcons (ok_iload_n dX5_order_2 rfl rfl) ?_
  refine tcons (ok_invokevirtual M_X5_isPerson (C := RX5) (T := TX5) (nf := 33) rfl w_1101 w_1103 w_19 w_49 w_1104 ⟨rfl, by decide, by decide, by decide +kernel⟩ (by decide) (by decide) dX5_order_3 rfl) ?_
  refine tcons (ok_if_ne dX5_order_6 rfl rfl) ?_
  refine tcons (ok_iconst dX5_order_9 rfl rfl) ?_
  refine tcons (ok_goto dX5_order_10 rfl) ?_
  refine tcons (ok_aload_n dX5_order_13 rfl rfl) ?_
  refine tcons (ok_getfield (C := RX5) (T := TX5) (n := 33) rfl in_X5 (by decide) w_1000 dX5_order_14 rfl) ?_
  refine tcons (ok_iload_n dX5_order_17 rfl rfl) ?_
  refine tcons (ok_baload dX5_order_18 rfl) ?_
  refine tcons (ok_if_ne dX5_order_19 rfl rfl) ?_
  refine tcons (ok_aload_n dX5_order_22 rfl rfl) ?_
  refine tcons (ok_getfield (C := RX5) (T := TX5) (n := 33) rfl in_X5 (by decide) w_998 dX5_order_23 rfl) ?_
  refine tcons (ok_iload_n dX5_order_26 rfl rfl) ?_
  refine tcons (ok_baload dX5_order_27 rfl) ?_
  refine tcons (ok_if_eq dX5_order_28 rfl rfl) ?_
  refine tcons (ok_iconst dX5_order_31 rfl rfl) ?_
  refine tcons (ok_goto dX5_order_32 rfl) ?_
  refine tcons (ok_iconst dX5_order_35 rfl rfl) ?_
  refine tcons (ok_invokevirtual M_X5_fails (C := RX5) (T := TX5) (nf := 33) rfl w_1112 w_1114 w_20 w_49 w_1115 ⟨rfl, by decide, by decide, by decide +kernel⟩ (by decide) (by decide) dX5_order_36 rfl) ?_
  refine tcons (ok_if_ne dX5_order_39 rfl rfl) ?_
  refine tcons (ok_aload_n dX5_order_42 rfl rfl) ?_
  refine tcons (ok_getfield (C := RX5) (T := TX5) (n := 33) rfl in_X5 (by decide) w_998 dX5_order_43 rfl) ?_
  refine tcons (ok_iload_n dX5_order_46 rfl rfl) ?_
  refine tcons (ok_iconst dX5_order_47 rfl rfl) ?_
  refine tcons (ok_bastore dX5_order_48 rfl) ?_
  refine tcons (ok_vreturn rfl dX5_order_49) ?_
  exact fun _ h => nomatch h
def sp_X5_order : Spc := fun av s N _ => match av with
  | [.inl (.inr (20, 0)), .inl (.inl p)] => MI s ∧ f2 (isP s p) (s.2.1 27 0 (cl p) = 0 ∧ s.2.1 25 0 (cl p) = 0) none N s (N none (stS (th s 0) 25 0 (cl p) 1))
  | _ => False
set_option maxRecDepth 20000 in
set_option maxHeartbeats 2000000 in
theorem M_X5_order : AMet yX5_order cX5_order 2 none 2 0 sp_X5_order := by
  refine AMet.mk (own := RX5) (by decide) rfl [0, 1] rfl tok_X5_order 200 ?_
  intro av s0 N X h
  unfold sp_X5_order at h
  split at h
  rotate_left
  · exact h.elim
  refine ⟨fun _ => none, ?_, fun pc P hP => nomatch hP⟩
  repeat' (first | apply And.intro | (intro q; exact absurd q (by decide)) | intro _)
  all_goals first | decide | (exact Nat.le_of_ble_eq_true rfl) | (exact Ib_of (MI_p h.1 (by assumption))) | (simp_all [-Int32.not_lt, -Int32.not_le, f2, stS_get]; done) | (simp_all [-Int32.not_lt, -Int32.not_le, ← Int32.not_le, f2, stS_get]; done) | (simp_all [f2, stS_get]; done)
theorem dX5_ban_0 : decode cX5_ban 0 = .ok (.aload_n 0, 1) := by decide +kernel
theorem dX5_ban_1 : decode cX5_ban 1 = .ok (.aload_n 0, 1) := by decide +kernel
theorem dX5_ban_2 : decode cX5_ban 2 = .ok (.iload_n 1, 1) := by decide +kernel
theorem dX5_ban_3 : decode cX5_ban 3 = .ok (.invokevirtual 106, 3) := by decide +kernel
theorem dX5_ban_6 : decode cX5_ban 6 = .ok (.ifCond .eq 7, 3) := by decide +kernel
theorem dX5_ban_9 : decode cX5_ban 9 = .ok (.iconst 0, 1) := by decide +kernel
theorem dX5_ban_10 : decode cX5_ban 10 = .ok (.goto 4, 3) := by decide +kernel
theorem dX5_ban_13 : decode cX5_ban 13 = .ok (.iconst 1, 1) := by decide +kernel
theorem dX5_ban_14 : decode cX5_ban 14 = .ok (.invokevirtual 114, 3) := by decide +kernel
theorem dX5_ban_17 : decode cX5_ban 17 = .ok (.ifCond .eq 5, 3) := by decide +kernel
theorem dX5_ban_20 : decode cX5_ban 20 = .ok (.iconst 0, 1) := by decide +kernel
theorem dX5_ban_21 : decode cX5_ban 21 = .ok (.ireturn, 1) := by decide +kernel
theorem dX5_ban_22 : decode cX5_ban 22 = .ok (.aload_n 0, 1) := by decide +kernel
theorem dX5_ban_23 : decode cX5_ban 23 = .ok (.getfield 23, 3) := by decide +kernel
theorem dX5_ban_26 : decode cX5_ban 26 = .ok (.iload_n 1, 1) := by decide +kernel
theorem dX5_ban_27 : decode cX5_ban 27 = .ok (.aload_n 0, 1) := by decide +kernel
theorem dX5_ban_28 : decode cX5_ban 28 = .ok (.getfield 23, 3) := by decide +kernel
theorem dX5_ban_31 : decode cX5_ban 31 = .ok (.iload_n 1, 1) := by decide +kernel
theorem dX5_ban_32 : decode cX5_ban 32 = .ok (.baload, 1) := by decide +kernel
theorem dX5_ban_33 : decode cX5_ban 33 = .ok (.ifCond .ne 7, 3) := by decide +kernel
theorem dX5_ban_36 : decode cX5_ban 36 = .ok (.iconst 1, 1) := by decide +kernel
theorem dX5_ban_37 : decode cX5_ban 37 = .ok (.goto 4, 3) := by decide +kernel
theorem dX5_ban_40 : decode cX5_ban 40 = .ok (.iconst 0, 1) := by decide +kernel
theorem dX5_ban_41 : decode cX5_ban 41 = .ok (.bastore, 1) := by decide +kernel
theorem dX5_ban_42 : decode cX5_ban 42 = .ok (.aload_n 0, 1) := by decide +kernel
theorem dX5_ban_43 : decode cX5_ban 43 = .ok (.getfield 23, 3) := by decide +kernel
theorem dX5_ban_46 : decode cX5_ban 46 = .ok (.iload_n 1, 1) := by decide +kernel
theorem dX5_ban_47 : decode cX5_ban 47 = .ok (.baload, 1) := by decide +kernel
theorem dX5_ban_48 : decode cX5_ban 48 = .ok (.ireturn, 1) := by decide +kernel
def tab_X5_ban : List (Nat × Sem) := [(0, op_al 0 1), (1, op_al 0 2), (2, op_il 1 3), (3, op_callV 7 sp_X5_isPerson 2 0 6), (6, op_if (fun x => x = 0) 13 9), (9, op_ic 0 10), (10, op_go 14), (13, op_ic 1 14), (14, op_callV 7 sp_X5_fails 2 0 17), (17, op_if (fun x => x = 0) 22 20), (20, op_ic 0 21), (21, op_zret), (22, op_al 0 23), (23, op_gf 7 6 26), (26, op_il 1 27), (27, op_al 0 28), (28, op_gf 7 6 31), (31, op_il 1 32), (32, op_bald 33), (33, op_if (fun x => ¬ x = 0) 40 36), (36, op_ic 1 37), (37, op_go 41), (40, op_ic 0 41), (41, op_bast 42), (42, op_al 0 43), (43, op_gf 7 6 46), (46, op_il 1 47), (47, op_bald 48), (48, op_zret)]
set_option maxRecDepth 20000 in
theorem tok_X5_ban : ∀ q ∈ tab_X5_ban, Snd RX5 cX5_ban 2 2 0 (some .boolean) q.1 q.2 := by
  unfold tab_X5_ban
  refine tcons (ok_aload_n dX5_ban_0 rfl rfl) ?_
  refine tcons (ok_aload_n dX5_ban_1 rfl rfl) ?_
  refine tcons (ok_iload_n dX5_ban_2 rfl rfl) ?_
  refine tcons (ok_invokevirtual M_X5_isPerson (C := RX5) (T := TX5) (nf := 33) rfl w_1101 w_1103 w_19 w_49 w_1104 ⟨rfl, by decide, by decide, by decide +kernel⟩ (by decide) (by decide) dX5_ban_3 rfl) ?_
  refine tcons (ok_if_eq dX5_ban_6 rfl rfl) ?_
  refine tcons (ok_iconst dX5_ban_9 rfl rfl) ?_
  refine tcons (ok_goto dX5_ban_10 rfl) ?_
  refine tcons (ok_iconst dX5_ban_13 rfl rfl) ?_
  refine tcons (ok_invokevirtual M_X5_fails (C := RX5) (T := TX5) (nf := 33) rfl w_1112 w_1114 w_20 w_49 w_1115 ⟨rfl, by decide, by decide, by decide +kernel⟩ (by decide) (by decide) dX5_ban_14 rfl) ?_
  refine tcons (ok_if_eq dX5_ban_17 rfl rfl) ?_
  refine tcons (ok_iconst dX5_ban_20 rfl rfl) ?_
  refine tcons (ok_zreturn rfl (Or.inl rfl) dX5_ban_21) ?_
  refine tcons (ok_aload_n dX5_ban_22 rfl rfl) ?_
  refine tcons (ok_getfield (C := RX5) (T := TX5) (n := 33) rfl in_X5 (by decide) w_999 dX5_ban_23 rfl) ?_
  refine tcons (ok_iload_n dX5_ban_26 rfl rfl) ?_
  refine tcons (ok_aload_n dX5_ban_27 rfl rfl) ?_
  refine tcons (ok_getfield (C := RX5) (T := TX5) (n := 33) rfl in_X5 (by decide) w_999 dX5_ban_28 rfl) ?_
  refine tcons (ok_iload_n dX5_ban_31 rfl rfl) ?_
  refine tcons (ok_baload dX5_ban_32 rfl) ?_
  refine tcons (ok_if_ne dX5_ban_33 rfl rfl) ?_
  refine tcons (ok_iconst dX5_ban_36 rfl rfl) ?_
  refine tcons (ok_goto dX5_ban_37 rfl) ?_
  refine tcons (ok_iconst dX5_ban_40 rfl rfl) ?_
  refine tcons (ok_bastore dX5_ban_41 rfl) ?_
  refine tcons (ok_aload_n dX5_ban_42 rfl rfl) ?_
  refine tcons (ok_getfield (C := RX5) (T := TX5) (n := 33) rfl in_X5 (by decide) w_999 dX5_ban_43 rfl) ?_
  refine tcons (ok_iload_n dX5_ban_46 rfl rfl) ?_
  refine tcons (ok_baload dX5_ban_47 rfl) ?_
  refine tcons (ok_zreturn rfl (Or.inl rfl) dX5_ban_48) ?_
  exact fun _ h => nomatch h
def sp_X5_ban : Spc := fun av s N _ => match av with
  | [.inl (.inr (20, 0)), .inl (.inl p)] => MI s ∧ f1 (isP s p) (some (aI 0)) N s ((s.2.1 26 0 (cl p) = 0 → N (some (aI 1)) (stS (th s 0) 26 0 (cl p) 1)) ∧ (¬ s.2.1 26 0 (cl p) = 0 → N (some (aI 0)) (stS (th s 0) 26 0 (cl p) 0)))
  | _ => False
set_option maxRecDepth 20000 in
set_option maxHeartbeats 2000000 in
theorem M_X5_ban : AMet yX5_ban cX5_ban 2 (some .boolean) 2 0 sp_X5_ban := by
  refine AMet.mk (own := RX5) (by decide) rfl [0, 1] rfl tok_X5_ban 200 ?_
  intro av s0 N X h
  unfold sp_X5_ban at h
  split at h
  rotate_left
  · exact h.elim
  refine ⟨fun _ => none, ?_, fun pc P hP => nomatch hP⟩
  repeat' (first | apply And.intro | (intro q; exact absurd q (by decide)) | intro _)
  all_goals first | decide | (exact Nat.le_of_ble_eq_true rfl) | (exact Ib_of (MI_p h.1 (by assumption))) | (simp_all [-Int32.not_lt, -Int32.not_le, f1, stS_get]; done) | (simp_all [-Int32.not_lt, -Int32.not_le, ← Int32.not_le, f1, stS_get]; done) | (simp_all [f1, stS_get]; done)
theorem dX5_error_0 : decode cX5_error 0 = .ok (.aload_n 0, 1) := by decide +kernel
theorem dX5_error_1 : decode cX5_error 1 = .ok (.iload_n 1, 1) := by decide +kernel
theorem dX5_error_2 : decode cX5_error 2 = .ok (.invokestatic 111, 3) := by decide +kernel
theorem dX5_error_5 : decode cX5_error 5 = .ok (.ifCond .eq 7, 3) := by decide +kernel
theorem dX5_error_8 : decode cX5_error 8 = .ok (.iconst 0, 1) := by decide +kernel
theorem dX5_error_9 : decode cX5_error 9 = .ok (.goto 4, 3) := by decide +kernel
theorem dX5_error_12 : decode cX5_error 12 = .ok (.iconst 1, 1) := by decide +kernel
theorem dX5_error_13 : decode cX5_error 13 = .ok (.invokevirtual 114, 3) := by decide +kernel
theorem dX5_error_16 : decode cX5_error 16 = .ok (.ifCond .eq 5, 3) := by decide +kernel
theorem dX5_error_19 : decode cX5_error 19 = .ok (.iconst 0, 1) := by decide +kernel
theorem dX5_error_20 : decode cX5_error 20 = .ok (.ireturn, 1) := by decide +kernel
theorem dX5_error_21 : decode cX5_error 21 = .ok (.aload_n 0, 1) := by decide +kernel
theorem dX5_error_22 : decode cX5_error 22 = .ok (.getfield 38, 3) := by decide +kernel
theorem dX5_error_25 : decode cX5_error 25 = .ok (.iload_n 1, 1) := by decide +kernel
theorem dX5_error_26 : decode cX5_error 26 = .ok (.aload_n 0, 1) := by decide +kernel
theorem dX5_error_27 : decode cX5_error 27 = .ok (.getfield 38, 3) := by decide +kernel
theorem dX5_error_30 : decode cX5_error 30 = .ok (.iload_n 1, 1) := by decide +kernel
theorem dX5_error_31 : decode cX5_error 31 = .ok (.baload, 1) := by decide +kernel
theorem dX5_error_32 : decode cX5_error 32 = .ok (.ifCond .ne 7, 3) := by decide +kernel
theorem dX5_error_35 : decode cX5_error 35 = .ok (.iconst 1, 1) := by decide +kernel
theorem dX5_error_36 : decode cX5_error 36 = .ok (.goto 4, 3) := by decide +kernel
theorem dX5_error_39 : decode cX5_error 39 = .ok (.iconst 0, 1) := by decide +kernel
theorem dX5_error_40 : decode cX5_error 40 = .ok (.bastore, 1) := by decide +kernel
theorem dX5_error_41 : decode cX5_error 41 = .ok (.aload_n 0, 1) := by decide +kernel
theorem dX5_error_42 : decode cX5_error 42 = .ok (.getfield 38, 3) := by decide +kernel
theorem dX5_error_45 : decode cX5_error 45 = .ok (.iload_n 1, 1) := by decide +kernel
theorem dX5_error_46 : decode cX5_error 46 = .ok (.baload, 1) := by decide +kernel
theorem dX5_error_47 : decode cX5_error 47 = .ok (.ireturn, 1) := by decide +kernel
def tab_X5_error : List (Nat × Sem) := [(0, op_al 0 1), (1, op_il 1 2), (2, op_call sp_X5_isPlace 1 0 5), (5, op_if (fun x => x = 0) 12 8), (8, op_ic 0 9), (9, op_go 13), (12, op_ic 1 13), (13, op_callV 7 sp_X5_fails 2 0 16), (16, op_if (fun x => x = 0) 21 19), (19, op_ic 0 20), (20, op_zret), (21, op_al 0 22), (22, op_gf 7 11 25), (25, op_il 1 26), (26, op_al 0 27), (27, op_gf 7 11 30), (30, op_il 1 31), (31, op_bald 32), (32, op_if (fun x => ¬ x = 0) 39 35), (35, op_ic 1 36), (36, op_go 40), (39, op_ic 0 40), (40, op_bast 41), (41, op_al 0 42), (42, op_gf 7 11 45), (45, op_il 1 46), (46, op_bald 47), (47, op_zret)]
set_option maxRecDepth 20000 in
theorem tok_X5_error : ∀ q ∈ tab_X5_error, Snd RX5 cX5_error 2 2 0 (some .boolean) q.1 q.2 := by
  unfold tab_X5_error
  refine tcons (ok_aload_n dX5_error_0 rfl rfl) ?_
  refine tcons (ok_iload_n dX5_error_1 rfl rfl) ?_
  refine tcons (ok_invokestatic M_X5_isPlace w_1109 w_1110 w_49 w_1111 ⟨by decide, by decide, by decide +kernel⟩ (by decide) (by decide) dX5_error_2 rfl) ?_
  refine tcons (ok_if_eq dX5_error_5 rfl rfl) ?_
  refine tcons (ok_iconst dX5_error_8 rfl rfl) ?_
  refine tcons (ok_goto dX5_error_9 rfl) ?_
  refine tcons (ok_iconst dX5_error_12 rfl rfl) ?_
  refine tcons (ok_invokevirtual M_X5_fails (C := RX5) (T := TX5) (nf := 33) rfl w_1112 w_1114 w_20 w_49 w_1115 ⟨rfl, by decide, by decide, by decide +kernel⟩ (by decide) (by decide) dX5_error_13 rfl) ?_
  refine tcons (ok_if_eq dX5_error_16 rfl rfl) ?_
  refine tcons (ok_iconst dX5_error_19 rfl rfl) ?_
  refine tcons (ok_zreturn rfl (Or.inl rfl) dX5_error_20) ?_
  refine tcons (ok_aload_n dX5_error_21 rfl rfl) ?_
  refine tcons (ok_getfield (C := RX5) (T := TX5) (n := 33) rfl in_X5 (by decide) w_1004 dX5_error_22 rfl) ?_
  refine tcons (ok_iload_n dX5_error_25 rfl rfl) ?_
  refine tcons (ok_aload_n dX5_error_26 rfl rfl) ?_
  refine tcons (ok_getfield (C := RX5) (T := TX5) (n := 33) rfl in_X5 (by decide) w_1004 dX5_error_27 rfl) ?_
  refine tcons (ok_iload_n dX5_error_30 rfl rfl) ?_
  refine tcons (ok_baload dX5_error_31 rfl) ?_
  refine tcons (ok_if_ne dX5_error_32 rfl rfl) ?_
  refine tcons (ok_iconst dX5_error_35 rfl rfl) ?_
  refine tcons (ok_goto dX5_error_36 rfl) ?_
  refine tcons (ok_iconst dX5_error_39 rfl rfl) ?_
  refine tcons (ok_bastore dX5_error_40 rfl) ?_
  refine tcons (ok_aload_n dX5_error_41 rfl rfl) ?_
  refine tcons (ok_getfield (C := RX5) (T := TX5) (n := 33) rfl in_X5 (by decide) w_1004 dX5_error_42 rfl) ?_
  refine tcons (ok_iload_n dX5_error_45 rfl rfl) ?_
  refine tcons (ok_baload dX5_error_46 rfl) ?_
  refine tcons (ok_zreturn rfl (Or.inl rfl) dX5_error_47) ?_
  exact fun _ h => nomatch h
def sp_X5_error : Spc := fun av s N _ => match av with
  | [.inl (.inr (20, 0)), .inl (.inl p)] => f1 (inR p 0 7) (some (aI 0)) N s ((s.2.1 31 0 (cl p) = 0 → N (some (aI 1)) (stS (th s 0) 31 0 (cl p) 1)) ∧ (¬ s.2.1 31 0 (cl p) = 0 → N (some (aI 0)) (stS (th s 0) 31 0 (cl p) 0)))
  | _ => False
set_option maxRecDepth 20000 in
set_option maxHeartbeats 2000000 in
theorem M_X5_error : AMet yX5_error cX5_error 2 (some .boolean) 2 0 sp_X5_error := by
  refine AMet.mk (own := RX5) (by decide) rfl [0, 1] rfl tok_X5_error 200 ?_
  intro av s0 N X h
  unfold sp_X5_error at h
  split at h
  rotate_left
  · exact h.elim
  refine ⟨fun _ => none, ?_, fun pc P hP => nomatch hP⟩
  repeat' (first | apply And.intro | (intro q; exact absurd q (by decide)) | intro _)
  all_goals first | decide | (exact Nat.le_of_ble_eq_true rfl) | (exact Ib_of (rg_vp (by assumption) (by decide) (by decide))) | (simp_all [-Int32.not_lt, -Int32.not_le, f1, stS_get]; done) | (simp_all [-Int32.not_lt, -Int32.not_le, ← Int32.not_le, f1, stS_get]; done) | (simp_all [f1, stS_get]; done)
theorem dX5_pass_0 : decode cX5_pass 0 = .ok (.aload_n 0, 1) := by decide +kernel
theorem dX5_pass_1 : decode cX5_pass 1 = .ok (.iload_n 1, 1) := by decide +kernel
theorem dX5_pass_2 : decode cX5_pass 2 = .ok (.iconst 1, 1) := by decide +kernel
theorem dX5_pass_3 : decode cX5_pass 3 = .ok (.sipush 10000, 3) := by decide +kernel
theorem dX5_pass_6 : decode cX5_pass 6 = .ok (.invokestatic 99, 3) := by decide +kernel
theorem dX5_pass_9 : decode cX5_pass 9 = .ok (.ifCond .eq 7, 3) := by decide +kernel
theorem dX5_pass_12 : decode cX5_pass 12 = .ok (.iconst 0, 1) := by decide +kernel
theorem dX5_pass_13 : decode cX5_pass 13 = .ok (.goto 4, 3) := by decide +kernel
theorem dX5_pass_16 : decode cX5_pass 16 = .ok (.iconst 1, 1) := by decide +kernel
theorem dX5_pass_17 : decode cX5_pass 17 = .ok (.invokevirtual 114, 3) := by decide +kernel
theorem dX5_pass_20 : decode cX5_pass 20 = .ok (.ifCond .eq 5, 3) := by decide +kernel
theorem dX5_pass_23 : decode cX5_pass 23 = .ok (.iconst 0, 1) := by decide +kernel
theorem dX5_pass_24 : decode cX5_pass 24 = .ok (.ireturn, 1) := by decide +kernel
theorem dX5_pass_25 : decode cX5_pass 25 = .ok (.aload_n 0, 1) := by decide +kernel
theorem dX5_pass_26 : decode cX5_pass 26 = .ok (.dup, 1) := by decide +kernel
theorem dX5_pass_27 : decode cX5_pass 27 = .ok (.getfield 117, 3) := by decide +kernel
theorem dX5_pass_30 : decode cX5_pass 30 = .ok (.iload_n 1, 1) := by decide +kernel
theorem dX5_pass_31 : decode cX5_pass 31 = .ok (.iadd, 1) := by decide +kernel
theorem dX5_pass_32 : decode cX5_pass 32 = .ok (.putfield 117, 3) := by decide +kernel
theorem dX5_pass_35 : decode cX5_pass 35 = .ok (.aload_n 0, 1) := by decide +kernel
theorem dX5_pass_36 : decode cX5_pass 36 = .ok (.getfield 117, 3) := by decide +kernel
theorem dX5_pass_39 : decode cX5_pass 39 = .ok (.ireturn, 1) := by decide +kernel
def tab_X5_pass : List (Nat × Sem) := [(0, op_al 0 1), (1, op_il 1 2), (2, op_ic 1 3), (3, op_ic 10000 6), (6, op_call sp_X5_isIn 3 0 9), (9, op_if (fun x => x = 0) 16 12), (12, op_ic 0 13), (13, op_go 17), (16, op_ic 1 17), (17, op_callV 7 sp_X5_fails 2 0 20), (20, op_if (fun x => x = 0) 25 23), (23, op_ic 0 24), (24, op_iret), (25, op_al 0 26), (26, op_dup 27), (27, op_gf 7 0 30), (30, op_il 1 31), (31, op_bin (fun x y => x + y) 32), (32, op_pf 7 0 35), (35, op_al 0 36), (36, op_gf 7 0 39), (39, op_iret)]
set_option maxRecDepth 20000 in
theorem tok_X5_pass : ∀ q ∈ tab_X5_pass, Snd RX5 cX5_pass 2 2 0 (some .int) q.1 q.2 := by
  unfold tab_X5_pass
  refine tcons (ok_aload_n dX5_pass_0 rfl rfl) ?_
  refine tcons (ok_iload_n dX5_pass_1 rfl rfl) ?_
  refine tcons (ok_iconst dX5_pass_2 rfl rfl) ?_
  refine tcons (ok_sipush dX5_pass_3 rfl rfl) ?_
  refine tcons (ok_invokestatic M_X5_isIn w_1105 w_1106 w_49 w_1107 ⟨by decide, by decide, by decide +kernel⟩ (by decide) (by decide) dX5_pass_6 rfl) ?_
  refine tcons (ok_if_eq dX5_pass_9 rfl rfl) ?_
  refine tcons (ok_iconst dX5_pass_12 rfl rfl) ?_
  refine tcons (ok_goto dX5_pass_13 rfl) ?_
  refine tcons (ok_iconst dX5_pass_16 rfl rfl) ?_
  refine tcons (ok_invokevirtual M_X5_fails (C := RX5) (T := TX5) (nf := 33) rfl w_1112 w_1114 w_20 w_49 w_1115 ⟨rfl, by decide, by decide, by decide +kernel⟩ (by decide) (by decide) dX5_pass_17 rfl) ?_
  refine tcons (ok_if_eq dX5_pass_20 rfl rfl) ?_
  refine tcons (ok_iconst dX5_pass_23 rfl rfl) ?_
  refine tcons (ok_ireturn rfl dX5_pass_24) ?_
  refine tcons (ok_aload_n dX5_pass_25 rfl rfl) ?_
  refine tcons (ok_dup dX5_pass_26 rfl) ?_
  refine tcons (ok_getfield (C := RX5) (T := TX5) (n := 33) rfl in_X5 (by decide) w_993 dX5_pass_27 rfl) ?_
  refine tcons (ok_iload_n dX5_pass_30 rfl rfl) ?_
  refine tcons (ok_iadd dX5_pass_31 rfl) ?_
  refine tcons (ok_putfield (C := RX5) (T := TX5) (n := 33) tyX5 .int rfl in_X5 tyX5_ok nmX5 (by decide) rfl w_993 rfl (Or.inl rfl) dX5_pass_32 rfl) ?_
  refine tcons (ok_aload_n dX5_pass_35 rfl rfl) ?_
  refine tcons (ok_getfield (C := RX5) (T := TX5) (n := 33) rfl in_X5 (by decide) w_993 dX5_pass_36 rfl) ?_
  refine tcons (ok_ireturn rfl dX5_pass_39) ?_
  exact fun _ h => nomatch h
def sp_X5_pass : Spc := fun av s N _ => match av with
  | [.inl (.inr (20, 0)), .inl (.inl p)] => f1 (inR p 1 10000) (some (aI 0)) N s (N (some (aI (s.2.1 20 0 0 + p))) (stS (th s 0) 20 0 0 (s.2.1 20 0 0 + p)))
  | _ => False
set_option maxRecDepth 20000 in
set_option maxHeartbeats 2000000 in
theorem M_X5_pass : AMet yX5_pass cX5_pass 2 (some .int) 2 0 sp_X5_pass := by
  refine AMet.mk (own := RX5) (by decide) rfl [0, 1] rfl tok_X5_pass 200 ?_
  intro av s0 N X h
  unfold sp_X5_pass at h
  split at h
  rotate_left
  · exact h.elim
  refine ⟨fun _ => none, ?_, fun pc P hP => nomatch hP⟩
  repeat' (first | apply And.intro | (intro q; exact absurd q (by decide)) | intro _)
  all_goals first | decide | (exact Nat.le_of_ble_eq_true rfl) | (simp_all [-Int32.not_lt, -Int32.not_le, f1, stS_get]; done) | (simp_all [-Int32.not_lt, -Int32.not_le, ← Int32.not_le, f1, stS_get]; done) | (simp_all [f1, stS_get]; done)
theorem dX5_faculty_0 : decode cX5_faculty 0 = .ok (.aload_n 0, 1) := by decide +kernel
theorem dX5_faculty_1 : decode cX5_faculty 1 = .ok (.iload_n 1, 1) := by decide +kernel
theorem dX5_faculty_2 : decode cX5_faculty 2 = .ok (.invokestatic 145, 3) := by decide +kernel
theorem dX5_faculty_5 : decode cX5_faculty 5 = .ok (.ifCond .eq 25, 3) := by decide +kernel
theorem dX5_faculty_8 : decode cX5_faculty 8 = .ok (.iload_n 2, 1) := by decide +kernel
theorem dX5_faculty_9 : decode cX5_faculty 9 = .ok (.invokestatic 111, 3) := by decide +kernel
theorem dX5_faculty_12 : decode cX5_faculty 12 = .ok (.ifCond .eq 18, 3) := by decide +kernel
theorem dX5_faculty_15 : decode cX5_faculty 15 = .ok (.iload_n 3, 1) := by decide +kernel
theorem dX5_faculty_16 : decode cX5_faculty 16 = .ok (.iconst 0, 1) := by decide +kernel
theorem dX5_faculty_17 : decode cX5_faculty 17 = .ok (.sipush 10000, 3) := by decide +kernel
theorem dX5_faculty_20 : decode cX5_faculty 20 = .ok (.invokestatic 99, 3) := by decide +kernel
theorem dX5_faculty_23 : decode cX5_faculty 23 = .ok (.ifCond .eq 7, 3) := by decide +kernel
theorem dX5_faculty_26 : decode cX5_faculty 26 = .ok (.iconst 0, 1) := by decide +kernel
theorem dX5_faculty_27 : decode cX5_faculty 27 = .ok (.goto 4, 3) := by decide +kernel
theorem dX5_faculty_30 : decode cX5_faculty 30 = .ok (.iconst 1, 1) := by decide +kernel
theorem dX5_faculty_31 : decode cX5_faculty 31 = .ok (.invokevirtual 114, 3) := by decide +kernel
theorem dX5_faculty_34 : decode cX5_faculty 34 = .ok (.ifCond .ne 20, 3) := by decide +kernel
theorem dX5_faculty_37 : decode cX5_faculty 37 = .ok (.aload_n 0, 1) := by decide +kernel
theorem dX5_faculty_38 : decode cX5_faculty 38 = .ok (.getfield 35, 3) := by decide +kernel
theorem dX5_faculty_41 : decode cX5_faculty 41 = .ok (.bipush 8, 2) := by decide +kernel
theorem dX5_faculty_43 : decode cX5_faculty 43 = .ok (.iload_n 1, 1) := by decide +kernel
theorem dX5_faculty_44 : decode cX5_faculty 44 = .ok (.imul, 1) := by decide +kernel
theorem dX5_faculty_45 : decode cX5_faculty 45 = .ok (.iload_n 2, 1) := by decide +kernel
theorem dX5_faculty_46 : decode cX5_faculty 46 = .ok (.iadd, 1) := by decide +kernel
theorem dX5_faculty_47 : decode cX5_faculty 47 = .ok (.aload_n 0, 1) := by decide +kernel
theorem dX5_faculty_48 : decode cX5_faculty 48 = .ok (.getfield 117, 3) := by decide +kernel
theorem dX5_faculty_51 : decode cX5_faculty 51 = .ok (.iload_n 3, 1) := by decide +kernel
theorem dX5_faculty_52 : decode cX5_faculty 52 = .ok (.iadd, 1) := by decide +kernel
theorem dX5_faculty_53 : decode cX5_faculty 53 = .ok (.iastore, 1) := by decide +kernel
theorem dX5_faculty_54 : decode cX5_faculty 54 = .ok (.return_, 1) := by decide +kernel
def tab_X5_faculty : List (Nat × Sem) := [(0, op_al 0 1), (1, op_il 1 2), (2, op_call sp_X5_isWitness 1 0 5), (5, op_if (fun x => x = 0) 30 8), (8, op_il 2 9), (9, op_call sp_X5_isPlace 1 0 12), (12, op_if (fun x => x = 0) 30 15), (15, op_il 3 16), (16, op_ic 0 17), (17, op_ic 10000 20), (20, op_call sp_X5_isIn 3 0 23), (23, op_if (fun x => x = 0) 30 26), (26, op_ic 0 27), (27, op_go 31), (30, op_ic 1 31), (31, op_callV 7 sp_X5_fails 2 0 34), (34, op_if (fun x => ¬ x = 0) 54 37), (37, op_al 0 38), (38, op_gf 7 10 41), (41, op_ic 8 43), (43, op_il 1 44), (44, op_bin (fun x y => x * y) 45), (45, op_il 2 46), (46, op_bin (fun x y => x + y) 47), (47, op_al 0 48), (48, op_gf 7 0 51), (51, op_il 3 52), (52, op_bin (fun x y => x + y) 53), (53, op_iast 54), (54, op_vret)]
set_option maxRecDepth 20000 in
theorem tok_X5_faculty : ∀ q ∈ tab_X5_faculty, Snd RX5 cX5_faculty 4 2 0 none q.1 q.2 := by
  unfold tab_X5_faculty
  refine tcons (ok_aload_n dX5_faculty_0 rfl rfl) ?_
  refine tcons (ok_iload_n dX5_faculty_1 rfl rfl) ?_
  refine tcons (ok_invokestatic M_X5_isWitness w_1171 w_1172 w_49 w_1173 ⟨by decide, by decide, by decide +kernel⟩ (by decide) (by decide) dX5_faculty_2 rfl) ?_
  refine tcons (ok_if_eq dX5_faculty_5 rfl rfl) ?_
  refine tcons (ok_iload_n dX5_faculty_8 rfl rfl) ?_
  refine tcons (ok_invokestatic M_X5_isPlace w_1109 w_1110 w_49 w_1111 ⟨by decide, by decide, by decide +kernel⟩ (by decide) (by decide) dX5_faculty_9 rfl) ?_
  refine tcons (ok_if_eq dX5_faculty_12 rfl rfl) ?_
  refine tcons (ok_iload_n dX5_faculty_15 rfl rfl) ?_
  refine tcons (ok_iconst dX5_faculty_16 rfl rfl) ?_
  refine tcons (ok_sipush dX5_faculty_17 rfl rfl) ?_
  refine tcons (ok_invokestatic M_X5_isIn w_1105 w_1106 w_49 w_1107 ⟨by decide, by decide, by decide +kernel⟩ (by decide) (by decide) dX5_faculty_20 rfl) ?_
  refine tcons (ok_if_eq dX5_faculty_23 rfl rfl) ?_
  refine tcons (ok_iconst dX5_faculty_26 rfl rfl) ?_
  refine tcons (ok_goto dX5_faculty_27 rfl) ?_
  refine tcons (ok_iconst dX5_faculty_30 rfl rfl) ?_
  refine tcons (ok_invokevirtual M_X5_fails (C := RX5) (T := TX5) (nf := 33) rfl w_1112 w_1114 w_20 w_49 w_1115 ⟨rfl, by decide, by decide, by decide +kernel⟩ (by decide) (by decide) dX5_faculty_31 rfl) ?_
  refine tcons (ok_if_ne dX5_faculty_34 rfl rfl) ?_
  refine tcons (ok_aload_n dX5_faculty_37 rfl rfl) ?_
  refine tcons (ok_getfield (C := RX5) (T := TX5) (n := 33) rfl in_X5 (by decide) w_1003 dX5_faculty_38 rfl) ?_
  refine tcons (ok_bipush dX5_faculty_41 rfl rfl) ?_
  refine tcons (ok_iload_n dX5_faculty_43 rfl rfl) ?_
  refine tcons (ok_imul dX5_faculty_44 rfl) ?_
  refine tcons (ok_iload_n dX5_faculty_45 rfl rfl) ?_
  refine tcons (ok_iadd dX5_faculty_46 rfl) ?_
  refine tcons (ok_aload_n dX5_faculty_47 rfl rfl) ?_
  refine tcons (ok_getfield (C := RX5) (T := TX5) (n := 33) rfl in_X5 (by decide) w_993 dX5_faculty_48 rfl) ?_
  refine tcons (ok_iload_n dX5_faculty_51 rfl rfl) ?_
  refine tcons (ok_iadd dX5_faculty_52 rfl) ?_
  refine tcons (ok_iastore dX5_faculty_53 rfl) ?_
  refine tcons (ok_vreturn rfl dX5_faculty_54) ?_
  exact fun _ h => nomatch h
def sp_X5_faculty : Spc := fun av s N _ => match av with
  | [.inl (.inr (20, 0)), .inl (.inl w), .inl (.inl p), .inl (.inl t)] => f1 (inR w 0 5 ∧ inR p 0 7 ∧ inR t 0 10000) none N s (N none (stS (th s 0) 30 0 (cl (8 * w + p)) (s.2.1 20 0 0 + t)))
  | _ => False
theorem fac_vp {w p : Int32} (h : inR w 0 5) (h2 : inR p 0 7) : vp_in (8 * w + p) 48 := by
  obtain ⟨j, hj, rfl⟩ := rg_nI (N := 5) h rfl
  obtain ⟨k, hk, rfl⟩ := rg_nI (N := 7) h2 rfl
  rw [show (8 : Int32) = nI 8 from rfl, nIm, nI_add]
  exact nI_vp (by omega) (by decide)
set_option maxRecDepth 20000 in
set_option maxHeartbeats 2000000 in
theorem M_X5_faculty : AMet yX5_faculty cX5_faculty 4 none 2 0 sp_X5_faculty := by
  refine AMet.mk (own := RX5) (by decide) rfl [0, 1, 2, 3] rfl tok_X5_faculty 200 ?_
  intro av s0 N X h
  unfold sp_X5_faculty at h
  split at h
  rotate_left
  · exact h.elim
  refine ⟨fun _ => none, ?_, fun pc P hP => nomatch hP⟩
  repeat' (first | apply And.intro | (intro q; exact absurd q (by decide)) | intro _)
  all_goals first | decide | (exact Nat.le_of_ble_eq_true rfl) | (exact Ib_of (fac_vp (by assumption) (by assumption))) | (simp_all [-Int32.not_lt, -Int32.not_le, f1, stS_get]; done) | (simp_all [-Int32.not_lt, -Int32.not_le, ← Int32.not_le, f1, stS_get]; done) | (simp_all [f1, stS_get]; done)
theorem dX5_ends_0 : decode cX5_ends 0 = .ok (.aload_n 0, 1) := by decide +kernel
theorem dX5_ends_1 : decode cX5_ends 1 = .ok (.getfield 59, 3) := by decide +kernel
theorem dX5_ends_4 : decode cX5_ends 4 = .ok (.iload_n 1, 1) := by decide +kernel
theorem dX5_ends_5 : decode cX5_ends 5 = .ok (.iload_n 2, 1) := by decide +kernel
theorem dX5_ends_6 : decode cX5_ends 6 = .ok (.iastore, 1) := by decide +kernel
theorem dX5_ends_7 : decode cX5_ends 7 = .ok (.aload_n 0, 1) := by decide +kernel
theorem dX5_ends_8 : decode cX5_ends 8 = .ok (.getfield 62, 3) := by decide +kernel
theorem dX5_ends_11 : decode cX5_ends 11 = .ok (.iload_n 1, 1) := by decide +kernel
theorem dX5_ends_12 : decode cX5_ends 12 = .ok (.aload_n 0, 1) := by decide +kernel
theorem dX5_ends_13 : decode cX5_ends 13 = .ok (.getfield 117, 3) := by decide +kernel
theorem dX5_ends_16 : decode cX5_ends 16 = .ok (.iastore, 1) := by decide +kernel
theorem dX5_ends_17 : decode cX5_ends 17 = .ok (.return_, 1) := by decide +kernel
def tab_X5_ends : List (Nat × Sem) := [(0, op_al 0 1), (1, op_gf 7 19 4), (4, op_il 1 5), (5, op_il 2 6), (6, op_iast 7), (7, op_al 0 8), (8, op_gf 7 20 11), (11, op_il 1 12), (12, op_al 0 13), (13, op_gf 7 0 16), (16, op_iast 17), (17, op_vret)]
set_option maxRecDepth 20000 in
theorem tok_X5_ends : ∀ q ∈ tab_X5_ends, Snd RX5 cX5_ends 3 0 0 none q.1 q.2 := by
  unfold tab_X5_ends
  refine tcons (ok_aload_n dX5_ends_0 rfl rfl) ?_
  refine tcons (ok_getfield (C := RX5) (T := TX5) (n := 33) rfl in_X5 (by decide) w_1012 dX5_ends_1 rfl) ?_
  refine tcons (ok_iload_n dX5_ends_4 rfl rfl) ?_
  refine tcons (ok_iload_n dX5_ends_5 rfl rfl) ?_
  refine tcons (ok_iastore dX5_ends_6 rfl) ?_
  refine tcons (ok_aload_n dX5_ends_7 rfl rfl) ?_
  refine tcons (ok_getfield (C := RX5) (T := TX5) (n := 33) rfl in_X5 (by decide) w_1013 dX5_ends_8 rfl) ?_
  refine tcons (ok_iload_n dX5_ends_11 rfl rfl) ?_
  refine tcons (ok_aload_n dX5_ends_12 rfl rfl) ?_
  refine tcons (ok_getfield (C := RX5) (T := TX5) (n := 33) rfl in_X5 (by decide) w_993 dX5_ends_13 rfl) ?_
  refine tcons (ok_iastore dX5_ends_16 rfl) ?_
  refine tcons (ok_vreturn rfl dX5_ends_17) ?_
  exact fun _ h => nomatch h
def sp_X5_ends : Spc := fun av s N _ => match av with
  | [.inl (.inr (20, 0)), .inl (.inl v), .inl (.inl k)] => Ib v 30 ∧ N none (stS (stS s 39 0 (cl v) k) 40 0 (cl v) (s.2.1 20 0 0))
  | _ => False
set_option maxRecDepth 20000 in
set_option maxHeartbeats 2000000 in
theorem M_X5_ends : AMet yX5_ends cX5_ends 3 none 0 0 sp_X5_ends := by
  refine AMet.mk (own := RX5) (by decide) rfl [0, 1, 2] rfl tok_X5_ends 200 ?_
  intro av s0 N X h
  unfold sp_X5_ends at h
  split at h
  rotate_left
  · exact h.elim
  refine ⟨fun _ => none, ?_, fun pc P hP => nomatch hP⟩
  repeat' (first | apply And.intro | (intro q; exact absurd q (by decide)) | intro _)
  all_goals first | decide | (exact Nat.le_of_ble_eq_true rfl) | (exact h.1) | (simp_all [-Int32.not_lt, -Int32.not_le, stS_get]; done) | (simp_all [-Int32.not_lt, -Int32.not_le, ← Int32.not_le, stS_get]; done) | (simp_all [stS_get]; done)
theorem dX5_isYoung_0 : decode cX5_isYoung 0 = .ok (.aload_n 0, 1) := by decide +kernel
theorem dX5_isYoung_1 : decode cX5_isYoung 1 = .ok (.getfield 117, 3) := by decide +kernel
theorem dX5_isYoung_4 : decode cX5_isYoung 4 = .ok (.aload_n 0, 1) := by decide +kernel
theorem dX5_isYoung_5 : decode cX5_isYoung 5 = .ok (.getfield 7, 3) := by decide +kernel
theorem dX5_isYoung_8 : decode cX5_isYoung 8 = .ok (.iload_n 1, 1) := by decide +kernel
theorem dX5_isYoung_9 : decode cX5_isYoung 9 = .ok (.iaload, 1) := by decide +kernel
theorem dX5_isYoung_10 : decode cX5_isYoung 10 = .ok (.isub, 1) := by decide +kernel
theorem dX5_isYoung_11 : decode cX5_isYoung 11 = .ok (.iload_n 3, 1) := by decide +kernel
theorem dX5_isYoung_12 : decode cX5_isYoung 12 = .ok (.if_icmp .lt 18, 3) := by decide +kernel
theorem dX5_isYoung_15 : decode cX5_isYoung 15 = .ok (.aload_n 0, 1) := by decide +kernel
theorem dX5_isYoung_16 : decode cX5_isYoung 16 = .ok (.getfield 117, 3) := by decide +kernel
theorem dX5_isYoung_19 : decode cX5_isYoung 19 = .ok (.aload_n 0, 1) := by decide +kernel
theorem dX5_isYoung_20 : decode cX5_isYoung 20 = .ok (.getfield 7, 3) := by decide +kernel
theorem dX5_isYoung_23 : decode cX5_isYoung 23 = .ok (.iload_n 2, 1) := by decide +kernel
theorem dX5_isYoung_24 : decode cX5_isYoung 24 = .ok (.iaload, 1) := by decide +kernel
theorem dX5_isYoung_25 : decode cX5_isYoung 25 = .ok (.isub, 1) := by decide +kernel
theorem dX5_isYoung_26 : decode cX5_isYoung 26 = .ok (.iload_n 3, 1) := by decide +kernel
theorem dX5_isYoung_27 : decode cX5_isYoung 27 = .ok (.if_icmp .ge 7, 3) := by decide +kernel
theorem dX5_isYoung_30 : decode cX5_isYoung 30 = .ok (.iconst 1, 1) := by decide +kernel
theorem dX5_isYoung_31 : decode cX5_isYoung 31 = .ok (.goto 4, 3) := by decide +kernel
theorem dX5_isYoung_34 : decode cX5_isYoung 34 = .ok (.iconst 0, 1) := by decide +kernel
theorem dX5_isYoung_35 : decode cX5_isYoung 35 = .ok (.ireturn, 1) := by decide +kernel
def tab_X5_isYoung : List (Nat × Sem) := [(0, op_al 0 1), (1, op_gf 7 0 4), (4, op_al 0 5), (5, op_gf 7 2 8), (8, op_il 1 9), (9, op_iald 10), (10, op_bin (fun x y => x - y) 11), (11, op_il 3 12), (12, op_cmp (fun x y => x < y) 30 15), (15, op_al 0 16), (16, op_gf 7 0 19), (19, op_al 0 20), (20, op_gf 7 2 23), (23, op_il 2 24), (24, op_iald 25), (25, op_bin (fun x y => x - y) 26), (26, op_il 3 27), (27, op_cmp (fun x y => y ≤ x) 34 30), (30, op_ic 1 31), (31, op_go 35), (34, op_ic 0 35), (35, op_zret)]
set_option maxRecDepth 20000 in
theorem tok_X5_isYoung : ∀ q ∈ tab_X5_isYoung, Snd RX5 cX5_isYoung 4 0 0 (some .boolean) q.1 q.2 := by
  unfold tab_X5_isYoung
  refine tcons (ok_aload_n dX5_isYoung_0 rfl rfl) ?_
  refine tcons (ok_getfield (C := RX5) (T := TX5) (n := 33) rfl in_X5 (by decide) w_993 dX5_isYoung_1 rfl) ?_
  refine tcons (ok_aload_n dX5_isYoung_4 rfl rfl) ?_
  refine tcons (ok_getfield (C := RX5) (T := TX5) (n := 33) rfl in_X5 (by decide) w_995 dX5_isYoung_5 rfl) ?_
  refine tcons (ok_iload_n dX5_isYoung_8 rfl rfl) ?_
  refine tcons (ok_iaload dX5_isYoung_9 rfl) ?_
  refine tcons (ok_isub dX5_isYoung_10 rfl) ?_
  refine tcons (ok_iload_n dX5_isYoung_11 rfl rfl) ?_
  refine tcons (ok_icmp_lt dX5_isYoung_12 rfl rfl) ?_
  refine tcons (ok_aload_n dX5_isYoung_15 rfl rfl) ?_
  refine tcons (ok_getfield (C := RX5) (T := TX5) (n := 33) rfl in_X5 (by decide) w_993 dX5_isYoung_16 rfl) ?_
  refine tcons (ok_aload_n dX5_isYoung_19 rfl rfl) ?_
  refine tcons (ok_getfield (C := RX5) (T := TX5) (n := 33) rfl in_X5 (by decide) w_995 dX5_isYoung_20 rfl) ?_
  refine tcons (ok_iload_n dX5_isYoung_23 rfl rfl) ?_
  refine tcons (ok_iaload dX5_isYoung_24 rfl) ?_
  refine tcons (ok_isub dX5_isYoung_25 rfl) ?_
  refine tcons (ok_iload_n dX5_isYoung_26 rfl rfl) ?_
  refine tcons (ok_icmp_ge dX5_isYoung_27 rfl rfl) ?_
  refine tcons (ok_iconst dX5_isYoung_30 rfl rfl) ?_
  refine tcons (ok_goto dX5_isYoung_31 rfl) ?_
  refine tcons (ok_iconst dX5_isYoung_34 rfl rfl) ?_
  refine tcons (ok_zreturn rfl (Or.inl rfl) dX5_isYoung_35) ?_
  exact fun _ h => nomatch h
def sp_X5_isYoung : Spc := fun av s N _ => match av with
  | [.inl (.inr (20, 0)), .inl (.inl p), .inl (.inl q), .inl (.inl a)] => (Ib p 24 ∧ Ib q 24) ∧ br (s.2.1 20 0 0 - s.2.1 22 0 (cl p) < a ∨ s.2.1 20 0 0 - s.2.1 22 0 (cl q) < a) N s
  | _ => False
set_option maxRecDepth 20000 in
set_option maxHeartbeats 2000000 in
theorem M_X5_isYoung : AMet yX5_isYoung cX5_isYoung 4 (some .boolean) 0 0 sp_X5_isYoung := by
  refine AMet.mk (own := RX5) (by decide) rfl [0, 1, 2, 3] rfl tok_X5_isYoung 200 ?_
  intro av s0 N X h
  unfold sp_X5_isYoung at h
  split at h
  rotate_left
  · exact h.elim
  refine ⟨fun _ => none, ?_, fun pc P hP => nomatch hP⟩
  repeat' (first | apply And.intro | (intro q; exact absurd q (by decide)) | intro _)
  all_goals first | decide | (exact Nat.le_of_ble_eq_true rfl) | (exact h.1.1) | (exact h.1.2) | (simp_all [-Int32.not_lt, -Int32.not_le, br]; done) | (simp_all [-Int32.not_lt, -Int32.not_le, ← Int32.not_le, br]; done) | (simp_all [br]; done)
theorem dX5_isOf_0 : decode cX5_isOf 0 = .ok (.aload_n 0, 1) := by decide +kernel
theorem dX5_isOf_1 : decode cX5_isOf 1 = .ok (.getfield 41, 3) := by decide +kernel
theorem dX5_isOf_4 : decode cX5_isOf 4 = .ok (.iload_n 1, 1) := by decide +kernel
theorem dX5_isOf_5 : decode cX5_isOf 5 = .ok (.iaload, 1) := by decide +kernel
theorem dX5_isOf_6 : decode cX5_isOf 6 = .ok (.iload_n 2, 1) := by decide +kernel
theorem dX5_isOf_7 : decode cX5_isOf 7 = .ok (.if_icmp .eq 13, 3) := by decide +kernel
theorem dX5_isOf_10 : decode cX5_isOf 10 = .ok (.aload_n 0, 1) := by decide +kernel
theorem dX5_isOf_11 : decode cX5_isOf 11 = .ok (.getfield 44, 3) := by decide +kernel
theorem dX5_isOf_14 : decode cX5_isOf 14 = .ok (.iload_n 1, 1) := by decide +kernel
theorem dX5_isOf_15 : decode cX5_isOf 15 = .ok (.iaload, 1) := by decide +kernel
theorem dX5_isOf_16 : decode cX5_isOf 16 = .ok (.iload_n 2, 1) := by decide +kernel
theorem dX5_isOf_17 : decode cX5_isOf 17 = .ok (.if_icmp .ne 7, 3) := by decide +kernel
theorem dX5_isOf_20 : decode cX5_isOf 20 = .ok (.iconst 1, 1) := by decide +kernel
theorem dX5_isOf_21 : decode cX5_isOf 21 = .ok (.goto 4, 3) := by decide +kernel
theorem dX5_isOf_24 : decode cX5_isOf 24 = .ok (.iconst 0, 1) := by decide +kernel
theorem dX5_isOf_25 : decode cX5_isOf 25 = .ok (.ireturn, 1) := by decide +kernel
def tab_X5_isOf : List (Nat × Sem) := [(0, op_al 0 1), (1, op_gf 7 13 4), (4, op_il 1 5), (5, op_iald 6), (6, op_il 2 7), (7, op_cmp (fun x y => x = y) 20 10), (10, op_al 0 11), (11, op_gf 7 14 14), (14, op_il 1 15), (15, op_iald 16), (16, op_il 2 17), (17, op_cmp (fun x y => ¬ x = y) 24 20), (20, op_ic 1 21), (21, op_go 25), (24, op_ic 0 25), (25, op_zret)]
set_option maxRecDepth 20000 in
theorem tok_X5_isOf : ∀ q ∈ tab_X5_isOf, Snd RX5 cX5_isOf 3 0 0 (some .boolean) q.1 q.2 := by
  unfold tab_X5_isOf
  refine tcons (ok_aload_n dX5_isOf_0 rfl rfl) ?_
  refine tcons (ok_getfield (C := RX5) (T := TX5) (n := 33) rfl in_X5 (by decide) w_1006 dX5_isOf_1 rfl) ?_
  refine tcons (ok_iload_n dX5_isOf_4 rfl rfl) ?_
  refine tcons (ok_iaload dX5_isOf_5 rfl) ?_
  refine tcons (ok_iload_n dX5_isOf_6 rfl rfl) ?_
  refine tcons (ok_icmp_eq dX5_isOf_7 rfl rfl) ?_
  refine tcons (ok_aload_n dX5_isOf_10 rfl rfl) ?_
  refine tcons (ok_getfield (C := RX5) (T := TX5) (n := 33) rfl in_X5 (by decide) w_1007 dX5_isOf_11 rfl) ?_
  refine tcons (ok_iload_n dX5_isOf_14 rfl rfl) ?_
  refine tcons (ok_iaload dX5_isOf_15 rfl) ?_
  refine tcons (ok_iload_n dX5_isOf_16 rfl rfl) ?_
  refine tcons (ok_icmp_ne dX5_isOf_17 rfl rfl) ?_
  refine tcons (ok_iconst dX5_isOf_20 rfl rfl) ?_
  refine tcons (ok_goto dX5_isOf_21 rfl) ?_
  refine tcons (ok_iconst dX5_isOf_24 rfl rfl) ?_
  refine tcons (ok_zreturn rfl (Or.inl rfl) dX5_isOf_25) ?_
  exact fun _ h => nomatch h
def sp_X5_isOf : Spc := fun av s N _ => match av with
  | [.inl (.inr (20, 0)), .inl (.inl v), .inl (.inl p)] => Ib v 30 ∧ br (s.2.1 33 0 (cl v) = p ∨ s.2.1 34 0 (cl v) = p) N s
  | _ => False
set_option maxRecDepth 20000 in
set_option maxHeartbeats 2000000 in
theorem M_X5_isOf : AMet yX5_isOf cX5_isOf 3 (some .boolean) 0 0 sp_X5_isOf := by
  refine AMet.mk (own := RX5) (by decide) rfl [0, 1, 2] rfl tok_X5_isOf 200 ?_
  intro av s0 N X h
  unfold sp_X5_isOf at h
  split at h
  rotate_left
  · exact h.elim
  refine ⟨fun _ => none, ?_, fun pc P hP => nomatch hP⟩
  repeat' (first | apply And.intro | (intro q; exact absurd q (by decide)) | intro _)
  all_goals first | decide | (exact Nat.le_of_ble_eq_true rfl) | (exact h.1) | (simp_all [-Int32.not_lt, -Int32.not_le, br]; done) | (simp_all [-Int32.not_lt, -Int32.not_le, ← Int32.not_le, br]; done) | (simp_all [br]; done)
theorem dX5_binds_0 : decode cX5_binds 0 = .ok (.aload_n 0, 1) := by decide +kernel
theorem dX5_binds_1 : decode cX5_binds 1 = .ok (.getfield 50, 3) := by decide +kernel
theorem dX5_binds_4 : decode cX5_binds 4 = .ok (.iload_n 1, 1) := by decide +kernel
theorem dX5_binds_5 : decode cX5_binds 5 = .ok (.iaload, 1) := by decide +kernel
theorem dX5_binds_6 : decode cX5_binds 6 = .ok (.iload_n 2, 1) := by decide +kernel
theorem dX5_binds_7 : decode cX5_binds 7 = .ok (.if_icmp .gt 36, 3) := by decide +kernel
theorem dX5_binds_10 : decode cX5_binds 10 = .ok (.aload_n 0, 1) := by decide +kernel
theorem dX5_binds_11 : decode cX5_binds 11 = .ok (.getfield 59, 3) := by decide +kernel
theorem dX5_binds_14 : decode cX5_binds 14 = .ok (.iload_n 1, 1) := by decide +kernel
theorem dX5_binds_15 : decode cX5_binds 15 = .ok (.iaload, 1) := by decide +kernel
theorem dX5_binds_16 : decode cX5_binds 16 = .ok (.iconst 1, 1) := by decide +kernel
theorem dX5_binds_17 : decode cX5_binds 17 = .ok (.if_icmp .eq 26, 3) := by decide +kernel
theorem dX5_binds_20 : decode cX5_binds 20 = .ok (.aload_n 0, 1) := by decide +kernel
theorem dX5_binds_21 : decode cX5_binds 21 = .ok (.getfield 59, 3) := by decide +kernel
theorem dX5_binds_24 : decode cX5_binds 24 = .ok (.iload_n 1, 1) := by decide +kernel
theorem dX5_binds_25 : decode cX5_binds 25 = .ok (.iaload, 1) := by decide +kernel
theorem dX5_binds_26 : decode cX5_binds 26 = .ok (.ifCond .eq 13, 3) := by decide +kernel
theorem dX5_binds_29 : decode cX5_binds 29 = .ok (.aload_n 0, 1) := by decide +kernel
theorem dX5_binds_30 : decode cX5_binds 30 = .ok (.getfield 62, 3) := by decide +kernel
theorem dX5_binds_33 : decode cX5_binds 33 = .ok (.iload_n 1, 1) := by decide +kernel
theorem dX5_binds_34 : decode cX5_binds 34 = .ok (.iaload, 1) := by decide +kernel
theorem dX5_binds_35 : decode cX5_binds 35 = .ok (.iload_n 2, 1) := by decide +kernel
theorem dX5_binds_36 : decode cX5_binds 36 = .ok (.if_icmp .le 7, 3) := by decide +kernel
theorem dX5_binds_39 : decode cX5_binds 39 = .ok (.iconst 1, 1) := by decide +kernel
theorem dX5_binds_40 : decode cX5_binds 40 = .ok (.goto 4, 3) := by decide +kernel
theorem dX5_binds_43 : decode cX5_binds 43 = .ok (.iconst 0, 1) := by decide +kernel
theorem dX5_binds_44 : decode cX5_binds 44 = .ok (.ireturn, 1) := by decide +kernel
def tab_X5_binds : List (Nat × Sem) := [(0, op_al 0 1), (1, op_gf 7 16 4), (4, op_il 1 5), (5, op_iald 6), (6, op_il 2 7), (7, op_cmp (fun x y => y < x) 43 10), (10, op_al 0 11), (11, op_gf 7 19 14), (14, op_il 1 15), (15, op_iald 16), (16, op_ic 1 17), (17, op_cmp (fun x y => x = y) 43 20), (20, op_al 0 21), (21, op_gf 7 19 24), (24, op_il 1 25), (25, op_iald 26), (26, op_if (fun x => x = 0) 39 29), (29, op_al 0 30), (30, op_gf 7 20 33), (33, op_il 1 34), (34, op_iald 35), (35, op_il 2 36), (36, op_cmp (fun x y => x ≤ y) 43 39), (39, op_ic 1 40), (40, op_go 44), (43, op_ic 0 44), (44, op_zret)]
set_option maxRecDepth 20000 in
theorem tok_X5_binds : ∀ q ∈ tab_X5_binds, Snd RX5 cX5_binds 3 0 0 (some .boolean) q.1 q.2 := by
  unfold tab_X5_binds
  refine tcons (ok_aload_n dX5_binds_0 rfl rfl) ?_
  refine tcons (ok_getfield (C := RX5) (T := TX5) (n := 33) rfl in_X5 (by decide) w_1009 dX5_binds_1 rfl) ?_
  refine tcons (ok_iload_n dX5_binds_4 rfl rfl) ?_
  refine tcons (ok_iaload dX5_binds_5 rfl) ?_
  refine tcons (ok_iload_n dX5_binds_6 rfl rfl) ?_
  refine tcons (ok_icmp_gt dX5_binds_7 rfl rfl) ?_
  refine tcons (ok_aload_n dX5_binds_10 rfl rfl) ?_
  refine tcons (ok_getfield (C := RX5) (T := TX5) (n := 33) rfl in_X5 (by decide) w_1012 dX5_binds_11 rfl) ?_
  refine tcons (ok_iload_n dX5_binds_14 rfl rfl) ?_
  refine tcons (ok_iaload dX5_binds_15 rfl) ?_
  refine tcons (ok_iconst dX5_binds_16 rfl rfl) ?_
  refine tcons (ok_icmp_eq dX5_binds_17 rfl rfl) ?_
  refine tcons (ok_aload_n dX5_binds_20 rfl rfl) ?_
  refine tcons (ok_getfield (C := RX5) (T := TX5) (n := 33) rfl in_X5 (by decide) w_1012 dX5_binds_21 rfl) ?_
  refine tcons (ok_iload_n dX5_binds_24 rfl rfl) ?_
  refine tcons (ok_iaload dX5_binds_25 rfl) ?_
  refine tcons (ok_if_eq dX5_binds_26 rfl rfl) ?_
  refine tcons (ok_aload_n dX5_binds_29 rfl rfl) ?_
  refine tcons (ok_getfield (C := RX5) (T := TX5) (n := 33) rfl in_X5 (by decide) w_1013 dX5_binds_30 rfl) ?_
  refine tcons (ok_iload_n dX5_binds_33 rfl rfl) ?_
  refine tcons (ok_iaload dX5_binds_34 rfl) ?_
  refine tcons (ok_iload_n dX5_binds_35 rfl rfl) ?_
  refine tcons (ok_icmp_le dX5_binds_36 rfl rfl) ?_
  refine tcons (ok_iconst dX5_binds_39 rfl rfl) ?_
  refine tcons (ok_goto dX5_binds_40 rfl) ?_
  refine tcons (ok_iconst dX5_binds_43 rfl rfl) ?_
  refine tcons (ok_zreturn rfl (Or.inl rfl) dX5_binds_44) ?_
  exact fun _ h => nomatch h
def sp_X5_binds : Spc := fun av s N _ => match av with
  | [.inl (.inr (20, 0)), .inl (.inl v), .inl (.inl t)] => Ib v 30 ∧ br (¬ t < s.2.1 36 0 (cl v) ∧ ¬ s.2.1 39 0 (cl v) = 1 ∧ (s.2.1 39 0 (cl v) = 0 ∨ t < s.2.1 40 0 (cl v))) N s
  | _ => False
set_option maxRecDepth 20000 in
set_option maxHeartbeats 2000000 in
theorem M_X5_binds : AMet yX5_binds cX5_binds 3 (some .boolean) 0 0 sp_X5_binds := by
  refine AMet.mk (own := RX5) (by decide) rfl [0, 1, 2] rfl tok_X5_binds 200 ?_
  intro av s0 N X h
  unfold sp_X5_binds at h
  split at h
  rotate_left
  · exact h.elim
  refine ⟨fun _ => none, ?_, fun pc P hP => nomatch hP⟩
  repeat' (first | apply And.intro | (intro q; exact absurd q (by decide)) | intro _)
  all_goals first | decide | (exact Nat.le_of_ble_eq_true rfl) | (exact h.1) | (simp_all [-Int32.not_lt, -Int32.not_le, br]; done) | (simp_all [-Int32.not_lt, -Int32.not_le, ← Int32.not_le, br]; done) | (simp_all [br]; done)
theorem dX5_isOver_0 : decode cX5_isOver 0 = .ok (.iload_n 0, 1) := by decide +kernel
theorem dX5_isOver_1 : decode cX5_isOver 1 = .ok (.iconst 2, 1) := by decide +kernel
theorem dX5_isOver_2 : decode cX5_isOver 2 = .ok (.if_icmp .eq 8, 3) := by decide +kernel
theorem dX5_isOver_5 : decode cX5_isOver 5 = .ok (.iload_n 0, 1) := by decide +kernel
theorem dX5_isOver_6 : decode cX5_isOver 6 = .ok (.iconst 3, 1) := by decide +kernel
theorem dX5_isOver_7 : decode cX5_isOver 7 = .ok (.if_icmp .ne 7, 3) := by decide +kernel
theorem dX5_isOver_10 : decode cX5_isOver 10 = .ok (.iconst 1, 1) := by decide +kernel
theorem dX5_isOver_11 : decode cX5_isOver 11 = .ok (.goto 4, 3) := by decide +kernel
theorem dX5_isOver_14 : decode cX5_isOver 14 = .ok (.iconst 0, 1) := by decide +kernel
theorem dX5_isOver_15 : decode cX5_isOver 15 = .ok (.ireturn, 1) := by decide +kernel
def tab_X5_isOver : List (Nat × Sem) := [(0, op_il 0 1), (1, op_ic 2 2), (2, op_cmp (fun x y => x = y) 10 5), (5, op_il 0 6), (6, op_ic 3 7), (7, op_cmp (fun x y => ¬ x = y) 14 10), (10, op_ic 1 11), (11, op_go 15), (14, op_ic 0 15), (15, op_zret)]
set_option maxRecDepth 20000 in
theorem tok_X5_isOver : ∀ q ∈ tab_X5_isOver, Snd RX5 cX5_isOver 1 0 0 (some .boolean) q.1 q.2 := by
  unfold tab_X5_isOver
  refine tcons (ok_iload_n dX5_isOver_0 rfl rfl) ?_
  refine tcons (ok_iconst dX5_isOver_1 rfl rfl) ?_
  refine tcons (ok_icmp_eq dX5_isOver_2 rfl rfl) ?_
  refine tcons (ok_iload_n dX5_isOver_5 rfl rfl) ?_
  refine tcons (ok_iconst dX5_isOver_6 rfl rfl) ?_
  refine tcons (ok_icmp_ne dX5_isOver_7 rfl rfl) ?_
  refine tcons (ok_iconst dX5_isOver_10 rfl rfl) ?_
  refine tcons (ok_goto dX5_isOver_11 rfl) ?_
  refine tcons (ok_iconst dX5_isOver_14 rfl rfl) ?_
  refine tcons (ok_zreturn rfl (Or.inl rfl) dX5_isOver_15) ?_
  exact fun _ h => nomatch h
def sp_X5_isOver : Spc := fun av s N _ => match av with
  | [.inl (.inl k)] => br (k = 2 ∨ k = 3) N s
  | _ => False
set_option maxRecDepth 20000 in
set_option maxHeartbeats 2000000 in
theorem M_X5_isOver : AMet yX5_isOver cX5_isOver 1 (some .boolean) 0 0 sp_X5_isOver := by
  refine AMet.mk (own := RX5) (by decide) rfl [0] rfl tok_X5_isOver 200 ?_
  intro av s0 N X h
  unfold sp_X5_isOver at h
  split at h
  rotate_left
  · exact h.elim
  refine ⟨fun _ => none, ?_, fun pc P hP => nomatch hP⟩
  repeat' (first | apply And.intro | (intro q; exact absurd q (by decide)) | intro _)
  all_goals first | decide | (exact Nat.le_of_ble_eq_true rfl) | (simp_all [-Int32.not_lt, -Int32.not_le, br]; done) | (simp_all [-Int32.not_lt, -Int32.not_le, ← Int32.not_le, br]; done) | (simp_all [br]; done)
theorem dX5_isTold_0 : decode cX5_isTold 0 = .ok (.aload_n 0, 1) := by decide +kernel
theorem dX5_isTold_1 : decode cX5_isTold 1 = .ok (.getfield 59, 3) := by decide +kernel
theorem dX5_isTold_4 : decode cX5_isTold 4 = .ok (.iload_n 1, 1) := by decide +kernel
theorem dX5_isTold_5 : decode cX5_isTold 5 = .ok (.iaload, 1) := by decide +kernel
theorem dX5_isTold_6 : decode cX5_isTold 6 = .ok (.ifCond .eq 13, 3) := by decide +kernel
theorem dX5_isTold_9 : decode cX5_isTold 9 = .ok (.aload_n 0, 1) := by decide +kernel
theorem dX5_isTold_10 : decode cX5_isTold 10 = .ok (.getfield 59, 3) := by decide +kernel
theorem dX5_isTold_13 : decode cX5_isTold 13 = .ok (.iload_n 1, 1) := by decide +kernel
theorem dX5_isTold_14 : decode cX5_isTold 14 = .ok (.iaload, 1) := by decide +kernel
theorem dX5_isTold_15 : decode cX5_isTold 15 = .ok (.iconst 3, 1) := by decide +kernel
theorem dX5_isTold_16 : decode cX5_isTold 16 = .ok (.if_icmp .ne 7, 3) := by decide +kernel
theorem dX5_isTold_19 : decode cX5_isTold 19 = .ok (.iconst 1, 1) := by decide +kernel
theorem dX5_isTold_20 : decode cX5_isTold 20 = .ok (.goto 4, 3) := by decide +kernel
theorem dX5_isTold_23 : decode cX5_isTold 23 = .ok (.iconst 0, 1) := by decide +kernel
theorem dX5_isTold_24 : decode cX5_isTold 24 = .ok (.ireturn, 1) := by decide +kernel
def tab_X5_isTold : List (Nat × Sem) := [(0, op_al 0 1), (1, op_gf 7 19 4), (4, op_il 1 5), (5, op_iald 6), (6, op_if (fun x => x = 0) 19 9), (9, op_al 0 10), (10, op_gf 7 19 13), (13, op_il 1 14), (14, op_iald 15), (15, op_ic 3 16), (16, op_cmp (fun x y => ¬ x = y) 23 19), (19, op_ic 1 20), (20, op_go 24), (23, op_ic 0 24), (24, op_zret)]
set_option maxRecDepth 20000 in
theorem tok_X5_isTold : ∀ q ∈ tab_X5_isTold, Snd RX5 cX5_isTold 2 0 0 (some .boolean) q.1 q.2 := by
  unfold tab_X5_isTold
  refine tcons (ok_aload_n dX5_isTold_0 rfl rfl) ?_
  refine tcons (ok_getfield (C := RX5) (T := TX5) (n := 33) rfl in_X5 (by decide) w_1012 dX5_isTold_1 rfl) ?_
  refine tcons (ok_iload_n dX5_isTold_4 rfl rfl) ?_
  refine tcons (ok_iaload dX5_isTold_5 rfl) ?_
  refine tcons (ok_if_eq dX5_isTold_6 rfl rfl) ?_
  refine tcons (ok_aload_n dX5_isTold_9 rfl rfl) ?_
  refine tcons (ok_getfield (C := RX5) (T := TX5) (n := 33) rfl in_X5 (by decide) w_1012 dX5_isTold_10 rfl) ?_
  refine tcons (ok_iload_n dX5_isTold_13 rfl rfl) ?_
  refine tcons (ok_iaload dX5_isTold_14 rfl) ?_
  refine tcons (ok_iconst dX5_isTold_15 rfl rfl) ?_
  refine tcons (ok_icmp_ne dX5_isTold_16 rfl rfl) ?_
  refine tcons (ok_iconst dX5_isTold_19 rfl rfl) ?_
  refine tcons (ok_goto dX5_isTold_20 rfl) ?_
  refine tcons (ok_iconst dX5_isTold_23 rfl rfl) ?_
  refine tcons (ok_zreturn rfl (Or.inl rfl) dX5_isTold_24) ?_
  exact fun _ h => nomatch h
def sp_X5_isTold : Spc := fun av s N _ => match av with
  | [.inl (.inr (20, 0)), .inl (.inl v)] => Ib v 30 ∧ br (s.2.1 39 0 (cl v) = 0 ∨ s.2.1 39 0 (cl v) = 3) N s
  | _ => False
set_option maxRecDepth 20000 in
set_option maxHeartbeats 2000000 in
theorem M_X5_isTold : AMet yX5_isTold cX5_isTold 2 (some .boolean) 0 0 sp_X5_isTold := by
  refine AMet.mk (own := RX5) (by decide) rfl [0, 1] rfl tok_X5_isTold 200 ?_
  intro av s0 N X h
  unfold sp_X5_isTold at h
  split at h
  rotate_left
  · exact h.elim
  refine ⟨fun _ => none, ?_, fun pc P hP => nomatch hP⟩
  repeat' (first | apply And.intro | (intro q; exact absurd q (by decide)) | intro _)
  all_goals first | decide | (exact Nat.le_of_ble_eq_true rfl) | (exact h.1) | (simp_all [-Int32.not_lt, -Int32.not_le, br]; done) | (simp_all [-Int32.not_lt, -Int32.not_le, ← Int32.not_le, br]; done) | (simp_all [br]; done)
theorem dX5_hasGround_0 : decode cX5_hasGround 0 = .ok (.iload_n 0, 1) := by decide +kernel
theorem dX5_hasGround_1 : decode cX5_hasGround 1 = .ok (.iload_n 1, 1) := by decide +kernel
theorem dX5_hasGround_2 : decode cX5_hasGround 2 = .ok (.ishr, 1) := by decide +kernel
theorem dX5_hasGround_3 : decode cX5_hasGround 3 = .ok (.iconst 1, 1) := by decide +kernel
theorem dX5_hasGround_4 : decode cX5_hasGround 4 = .ok (.iand, 1) := by decide +kernel
theorem dX5_hasGround_5 : decode cX5_hasGround 5 = .ok (.iconst 1, 1) := by decide +kernel
theorem dX5_hasGround_6 : decode cX5_hasGround 6 = .ok (.if_icmp .ne 7, 3) := by decide +kernel
theorem dX5_hasGround_9 : decode cX5_hasGround 9 = .ok (.iconst 1, 1) := by decide +kernel
theorem dX5_hasGround_10 : decode cX5_hasGround 10 = .ok (.goto 4, 3) := by decide +kernel
theorem dX5_hasGround_13 : decode cX5_hasGround 13 = .ok (.iconst 0, 1) := by decide +kernel
theorem dX5_hasGround_14 : decode cX5_hasGround 14 = .ok (.ireturn, 1) := by decide +kernel
def tab_X5_hasGround : List (Nat × Sem) := [(0, op_il 0 1), (1, op_il 1 2), (2, op_bin (fun x y => x >>> (y &&& 31)) 3), (3, op_ic 1 4), (4, op_bin (fun x y => x &&& y) 5), (5, op_ic 1 6), (6, op_cmp (fun x y => ¬ x = y) 13 9), (9, op_ic 1 10), (10, op_go 14), (13, op_ic 0 14), (14, op_zret)]
set_option maxRecDepth 20000 in
theorem tok_X5_hasGround : ∀ q ∈ tab_X5_hasGround, Snd RX5 cX5_hasGround 2 0 0 (some .boolean) q.1 q.2 := by
  unfold tab_X5_hasGround
  refine tcons (ok_iload_n dX5_hasGround_0 rfl rfl) ?_
  refine tcons (ok_iload_n dX5_hasGround_1 rfl rfl) ?_
  refine tcons (ok_ishr dX5_hasGround_2 rfl) ?_
  refine tcons (ok_iconst dX5_hasGround_3 rfl rfl) ?_
  refine tcons (ok_iand dX5_hasGround_4 rfl) ?_
  refine tcons (ok_iconst dX5_hasGround_5 rfl rfl) ?_
  refine tcons (ok_icmp_ne dX5_hasGround_6 rfl rfl) ?_
  refine tcons (ok_iconst dX5_hasGround_9 rfl rfl) ?_
  refine tcons (ok_goto dX5_hasGround_10 rfl) ?_
  refine tcons (ok_iconst dX5_hasGround_13 rfl rfl) ?_
  refine tcons (ok_zreturn rfl (Or.inl rfl) dX5_hasGround_14) ?_
  exact fun _ h => nomatch h
def sp_X5_hasGround : Spc := fun av s N _ => match av with
  | [.inl (.inl d), .inl (.inl k)] => br ((d >>> (k &&& 31)) &&& 1 = 1) N s
  | _ => False
set_option maxRecDepth 20000 in
set_option maxHeartbeats 2000000 in
theorem M_X5_hasGround : AMet yX5_hasGround cX5_hasGround 2 (some .boolean) 0 0 sp_X5_hasGround := by
  refine AMet.mk (own := RX5) (by decide) rfl [0, 1] rfl tok_X5_hasGround 200 ?_
  intro av s0 N X h
  unfold sp_X5_hasGround at h
  split at h
  rotate_left
  · exact h.elim
  refine ⟨fun _ => none, ?_, fun pc P hP => nomatch hP⟩
  repeat' (first | apply And.intro | (intro q; exact absurd q (by decide)) | intro _)
  all_goals first | decide | (exact Nat.le_of_ble_eq_true rfl) | (simp_all [-Int32.not_lt, -Int32.not_le, br]; done) | (simp_all [-Int32.not_lt, -Int32.not_le, ← Int32.not_le, br]; done) | (simp_all [br]; done)
def eff (d : Int32) : Int32 := d &&& 31 ||| (if 31 < d then 32 else 0)
theorem dX5_effects_0 : decode cX5_effects 0 = .ok (.iload_n 0, 1) := by decide +kernel
theorem dX5_effects_1 : decode cX5_effects 1 = .ok (.bipush 31, 2) := by decide +kernel
theorem dX5_effects_3 : decode cX5_effects 3 = .ok (.iand, 1) := by decide +kernel
theorem dX5_effects_4 : decode cX5_effects 4 = .ok (.iload_n 0, 1) := by decide +kernel
theorem dX5_effects_5 : decode cX5_effects 5 = .ok (.bipush 31, 2) := by decide +kernel
theorem dX5_effects_7 : decode cX5_effects 7 = .ok (.if_icmp .le 8, 3) := by decide +kernel
theorem dX5_effects_10 : decode cX5_effects 10 = .ok (.bipush 32, 2) := by decide +kernel
theorem dX5_effects_12 : decode cX5_effects 12 = .ok (.goto 4, 3) := by decide +kernel
theorem dX5_effects_15 : decode cX5_effects 15 = .ok (.iconst 0, 1) := by decide +kernel
theorem dX5_effects_16 : decode cX5_effects 16 = .ok (.ior, 1) := by decide +kernel
theorem dX5_effects_17 : decode cX5_effects 17 = .ok (.ireturn, 1) := by decide +kernel
def tab_X5_effects : List (Nat × Sem) := [(0, op_il 0 1), (1, op_ic 31 3), (3, op_bin (fun x y => x &&& y) 4), (4, op_il 0 5), (5, op_ic 31 7), (7, op_cmp (fun x y => x ≤ y) 15 10), (10, op_ic 32 12), (12, op_go 16), (15, op_ic 0 16), (16, op_bin (fun x y => x ||| y) 17), (17, op_iret)]
set_option maxRecDepth 20000 in
theorem tok_X5_effects : ∀ q ∈ tab_X5_effects, Snd RX5 cX5_effects 1 0 0 (some .int) q.1 q.2 := by
  unfold tab_X5_effects
  refine tcons (ok_iload_n dX5_effects_0 rfl rfl) ?_
  refine tcons (ok_bipush dX5_effects_1 rfl rfl) ?_
  refine tcons (ok_iand dX5_effects_3 rfl) ?_
  refine tcons (ok_iload_n dX5_effects_4 rfl rfl) ?_
  refine tcons (ok_bipush dX5_effects_5 rfl rfl) ?_
  refine tcons (ok_icmp_le dX5_effects_7 rfl rfl) ?_
  refine tcons (ok_bipush dX5_effects_10 rfl rfl) ?_
  refine tcons (ok_goto dX5_effects_12 rfl) ?_
  refine tcons (ok_iconst dX5_effects_15 rfl rfl) ?_
  refine tcons (ok_ior dX5_effects_16 rfl) ?_
  refine tcons (ok_ireturn rfl dX5_effects_17) ?_
  exact fun _ h => nomatch h
def sp_X5_effects : Spc := fun av s N _ => match av with
  | [.inl (.inl d)] => N (some (aI (eff d))) s
  | _ => False
set_option maxRecDepth 20000 in
set_option maxHeartbeats 2000000 in
theorem M_X5_effects : AMet yX5_effects cX5_effects 1 (some .int) 0 0 sp_X5_effects := by
  refine AMet.mk (own := RX5) (by decide) rfl [0] rfl tok_X5_effects 200 ?_
  intro av s0 N X h
  unfold sp_X5_effects at h
  split at h
  rotate_left
  · exact h.elim
  refine ⟨fun _ => none, ?_, fun pc P hP => nomatch hP⟩
  repeat' (first | apply And.intro | (intro q; exact absurd q (by decide)) | intro _)
  all_goals first | decide | (exact Nat.le_of_ble_eq_true rfl) | (simp_all [-Int32.not_lt, -Int32.not_le, eff]; done) | (simp_all [-Int32.not_lt, -Int32.not_le, ← Int32.not_le, eff]; done) | (simp_all [eff]; done)
theorem dX5_areLike_0 : decode cX5_areLike 0 = .ok (.iload_n 0, 1) := by decide +kernel
theorem dX5_areLike_1 : decode cX5_areLike 1 = .ok (.ifCond .ne 7, 3) := by decide +kernel
theorem dX5_areLike_4 : decode cX5_areLike 4 = .ok (.iload_n 1, 1) := by decide +kernel
theorem dX5_areLike_5 : decode cX5_areLike 5 = .ok (.ifCond .eq 15, 3) := by decide +kernel
theorem dX5_areLike_8 : decode cX5_areLike 8 = .ok (.iload_n 0, 1) := by decide +kernel
theorem dX5_areLike_9 : decode cX5_areLike 9 = .ok (.invokestatic 188, 3) := by decide +kernel
theorem dX5_areLike_12 : decode cX5_areLike 12 = .ok (.iload_n 1, 1) := by decide +kernel
theorem dX5_areLike_13 : decode cX5_areLike 13 = .ok (.invokestatic 188, 3) := by decide +kernel
theorem dX5_areLike_16 : decode cX5_areLike 16 = .ok (.iand, 1) := by decide +kernel
theorem dX5_areLike_17 : decode cX5_areLike 17 = .ok (.ifCond .eq 7, 3) := by decide +kernel
theorem dX5_areLike_20 : decode cX5_areLike 20 = .ok (.iconst 1, 1) := by decide +kernel
theorem dX5_areLike_21 : decode cX5_areLike 21 = .ok (.goto 4, 3) := by decide +kernel
theorem dX5_areLike_24 : decode cX5_areLike 24 = .ok (.iconst 0, 1) := by decide +kernel
theorem dX5_areLike_25 : decode cX5_areLike 25 = .ok (.ireturn, 1) := by decide +kernel
def tab_X5_areLike : List (Nat × Sem) := [(0, op_il 0 1), (1, op_if (fun x => ¬ x = 0) 8 4), (4, op_il 1 5), (5, op_if (fun x => x = 0) 20 8), (8, op_il 0 9), (9, op_call sp_X5_effects 1 0 12), (12, op_il 1 13), (13, op_call sp_X5_effects 1 0 16), (16, op_bin (fun x y => x &&& y) 17), (17, op_if (fun x => x = 0) 24 20), (20, op_ic 1 21), (21, op_go 25), (24, op_ic 0 25), (25, op_zret)]
set_option maxRecDepth 20000 in
theorem tok_X5_areLike : ∀ q ∈ tab_X5_areLike, Snd RX5 cX5_areLike 2 1 0 (some .boolean) q.1 q.2 := by
  unfold tab_X5_areLike
  refine tcons (ok_iload_n dX5_areLike_0 rfl rfl) ?_
  refine tcons (ok_if_ne dX5_areLike_1 rfl rfl) ?_
  refine tcons (ok_iload_n dX5_areLike_4 rfl rfl) ?_
  refine tcons (ok_if_eq dX5_areLike_5 rfl rfl) ?_
  refine tcons (ok_iload_n dX5_areLike_8 rfl rfl) ?_
  refine tcons (ok_invokestatic M_X5_effects w_1274 w_1275 w_49 w_1276 ⟨by decide, by decide, by decide +kernel⟩ (by decide) (by decide) dX5_areLike_9 rfl) ?_
  refine tcons (ok_iload_n dX5_areLike_12 rfl rfl) ?_
  refine tcons (ok_invokestatic M_X5_effects w_1274 w_1275 w_49 w_1276 ⟨by decide, by decide, by decide +kernel⟩ (by decide) (by decide) dX5_areLike_13 rfl) ?_
  refine tcons (ok_iand dX5_areLike_16 rfl) ?_
  refine tcons (ok_if_eq dX5_areLike_17 rfl rfl) ?_
  refine tcons (ok_iconst dX5_areLike_20 rfl rfl) ?_
  refine tcons (ok_goto dX5_areLike_21 rfl) ?_
  refine tcons (ok_iconst dX5_areLike_24 rfl rfl) ?_
  refine tcons (ok_zreturn rfl (Or.inl rfl) dX5_areLike_25) ?_
  exact fun _ h => nomatch h
def sp_X5_areLike : Spc := fun av s N _ => match av with
  | [.inl (.inl a), .inl (.inl b)] => br ((a = 0 ∧ b = 0) ∨ ¬ eff a &&& eff b = 0) N s
  | _ => False
set_option maxRecDepth 20000 in
set_option maxHeartbeats 2000000 in
theorem M_X5_areLike : AMet yX5_areLike cX5_areLike 2 (some .boolean) 1 0 sp_X5_areLike := by
  refine AMet.mk (own := RX5) (by decide) rfl [0, 1] rfl tok_X5_areLike 200 ?_
  intro av s0 N X h
  unfold sp_X5_areLike at h
  split at h
  rotate_left
  · exact h.elim
  refine ⟨fun _ => none, ?_, fun pc P hP => nomatch hP⟩
  repeat' (first | apply And.intro | (intro q; exact absurd q (by decide)) | intro _)
  all_goals first | decide | (exact Nat.le_of_ble_eq_true rfl) | (simp_all [-Int32.not_lt, -Int32.not_le, br]; done) | (simp_all [-Int32.not_lt, -Int32.not_le, ← Int32.not_le, br]; done) | (simp_all [br]; done)
def plc (p q k : Int32) : Int32 := 3 * (if p < q then 24 * p + q else 24 * q + p) + (if k = 1 then 0 else if k = 2 then 1 else 2)
theorem dX5_placeOf_0 : decode cX5_placeOf 0 = .ok (.iload_n 2, 1) := by decide +kernel
theorem dX5_placeOf_1 : decode cX5_placeOf 1 = .ok (.iconst 1, 1) := by decide +kernel
theorem dX5_placeOf_2 : decode cX5_placeOf 2 = .ok (.if_icmp .ne 7, 3) := by decide +kernel
theorem dX5_placeOf_5 : decode cX5_placeOf 5 = .ok (.iconst 0, 1) := by decide +kernel
theorem dX5_placeOf_6 : decode cX5_placeOf 6 = .ok (.goto 13, 3) := by decide +kernel
theorem dX5_placeOf_9 : decode cX5_placeOf 9 = .ok (.iload_n 2, 1) := by decide +kernel
theorem dX5_placeOf_10 : decode cX5_placeOf 10 = .ok (.iconst 2, 1) := by decide +kernel
theorem dX5_placeOf_11 : decode cX5_placeOf 11 = .ok (.if_icmp .ne 7, 3) := by decide +kernel
theorem dX5_placeOf_14 : decode cX5_placeOf 14 = .ok (.iconst 1, 1) := by decide +kernel
theorem dX5_placeOf_15 : decode cX5_placeOf 15 = .ok (.goto 4, 3) := by decide +kernel
theorem dX5_placeOf_18 : decode cX5_placeOf 18 = .ok (.iconst 2, 1) := by decide +kernel
theorem dX5_placeOf_19 : decode cX5_placeOf 19 = .ok (.istore_n 3, 1) := by decide +kernel
theorem dX5_placeOf_20 : decode cX5_placeOf 20 = .ok (.iconst 3, 1) := by decide +kernel
theorem dX5_placeOf_21 : decode cX5_placeOf 21 = .ok (.iload_n 0, 1) := by decide +kernel
theorem dX5_placeOf_22 : decode cX5_placeOf 22 = .ok (.iload_n 1, 1) := by decide +kernel
theorem dX5_placeOf_23 : decode cX5_placeOf 23 = .ok (.if_icmp .ge 12, 3) := by decide +kernel
theorem dX5_placeOf_26 : decode cX5_placeOf 26 = .ok (.bipush 24, 2) := by decide +kernel
theorem dX5_placeOf_28 : decode cX5_placeOf 28 = .ok (.iload_n 0, 1) := by decide +kernel
theorem dX5_placeOf_29 : decode cX5_placeOf 29 = .ok (.imul, 1) := by decide +kernel
theorem dX5_placeOf_30 : decode cX5_placeOf 30 = .ok (.iload_n 1, 1) := by decide +kernel
theorem dX5_placeOf_31 : decode cX5_placeOf 31 = .ok (.iadd, 1) := by decide +kernel
theorem dX5_placeOf_32 : decode cX5_placeOf 32 = .ok (.goto 9, 3) := by decide +kernel
theorem dX5_placeOf_35 : decode cX5_placeOf 35 = .ok (.bipush 24, 2) := by decide +kernel
theorem dX5_placeOf_37 : decode cX5_placeOf 37 = .ok (.iload_n 1, 1) := by decide +kernel
theorem dX5_placeOf_38 : decode cX5_placeOf 38 = .ok (.imul, 1) := by decide +kernel
theorem dX5_placeOf_39 : decode cX5_placeOf 39 = .ok (.iload_n 0, 1) := by decide +kernel
theorem dX5_placeOf_40 : decode cX5_placeOf 40 = .ok (.iadd, 1) := by decide +kernel
theorem dX5_placeOf_41 : decode cX5_placeOf 41 = .ok (.imul, 1) := by decide +kernel
theorem dX5_placeOf_42 : decode cX5_placeOf 42 = .ok (.iload_n 3, 1) := by decide +kernel
theorem dX5_placeOf_43 : decode cX5_placeOf 43 = .ok (.iadd, 1) := by decide +kernel
theorem dX5_placeOf_44 : decode cX5_placeOf 44 = .ok (.ireturn, 1) := by decide +kernel
def tab_X5_placeOf : List (Nat × Sem) := [(0, op_il 2 1), (1, op_ic 1 2), (2, op_cmp (fun x y => ¬ x = y) 9 5), (5, op_ic 0 6), (6, op_go 19), (9, op_il 2 10), (10, op_ic 2 11), (11, op_cmp (fun x y => ¬ x = y) 18 14), (14, op_ic 1 15), (15, op_go 19), (18, op_ic 2 19), (19, op_is 3 20), (20, op_ic 3 21), (21, op_il 0 22), (22, op_il 1 23), (23, op_cmp (fun x y => y ≤ x) 35 26), (26, op_ic 24 28), (28, op_il 0 29), (29, op_bin (fun x y => x * y) 30), (30, op_il 1 31), (31, op_bin (fun x y => x + y) 32), (32, op_go 41), (35, op_ic 24 37), (37, op_il 1 38), (38, op_bin (fun x y => x * y) 39), (39, op_il 0 40), (40, op_bin (fun x y => x + y) 41), (41, op_bin (fun x y => x * y) 42), (42, op_il 3 43), (43, op_bin (fun x y => x + y) 44), (44, op_iret)]
set_option maxRecDepth 20000 in
theorem tok_X5_placeOf : ∀ q ∈ tab_X5_placeOf, Snd RX5 cX5_placeOf 4 0 0 (some .int) q.1 q.2 := by
  unfold tab_X5_placeOf
  refine tcons (ok_iload_n dX5_placeOf_0 rfl rfl) ?_
  refine tcons (ok_iconst dX5_placeOf_1 rfl rfl) ?_
  refine tcons (ok_icmp_ne dX5_placeOf_2 rfl rfl) ?_
  refine tcons (ok_iconst dX5_placeOf_5 rfl rfl) ?_
  refine tcons (ok_goto dX5_placeOf_6 rfl) ?_
  refine tcons (ok_iload_n dX5_placeOf_9 rfl rfl) ?_
  refine tcons (ok_iconst dX5_placeOf_10 rfl rfl) ?_
  refine tcons (ok_icmp_ne dX5_placeOf_11 rfl rfl) ?_
  refine tcons (ok_iconst dX5_placeOf_14 rfl rfl) ?_
  refine tcons (ok_goto dX5_placeOf_15 rfl) ?_
  refine tcons (ok_iconst dX5_placeOf_18 rfl rfl) ?_
  refine tcons (ok_istore_n dX5_placeOf_19 rfl (by decide) rfl) ?_
  refine tcons (ok_iconst dX5_placeOf_20 rfl rfl) ?_
  refine tcons (ok_iload_n dX5_placeOf_21 rfl rfl) ?_
  refine tcons (ok_iload_n dX5_placeOf_22 rfl rfl) ?_
  refine tcons (ok_icmp_ge dX5_placeOf_23 rfl rfl) ?_
  refine tcons (ok_bipush dX5_placeOf_26 rfl rfl) ?_
  refine tcons (ok_iload_n dX5_placeOf_28 rfl rfl) ?_
  refine tcons (ok_imul dX5_placeOf_29 rfl) ?_
  refine tcons (ok_iload_n dX5_placeOf_30 rfl rfl) ?_
  refine tcons (ok_iadd dX5_placeOf_31 rfl) ?_
  refine tcons (ok_goto dX5_placeOf_32 rfl) ?_
  refine tcons (ok_bipush dX5_placeOf_35 rfl rfl) ?_
  refine tcons (ok_iload_n dX5_placeOf_37 rfl rfl) ?_
  refine tcons (ok_imul dX5_placeOf_38 rfl) ?_
  refine tcons (ok_iload_n dX5_placeOf_39 rfl rfl) ?_
  refine tcons (ok_iadd dX5_placeOf_40 rfl) ?_
  refine tcons (ok_imul dX5_placeOf_41 rfl) ?_
  refine tcons (ok_iload_n dX5_placeOf_42 rfl rfl) ?_
  refine tcons (ok_iadd dX5_placeOf_43 rfl) ?_
  refine tcons (ok_ireturn rfl dX5_placeOf_44) ?_
  exact fun _ h => nomatch h
def sp_X5_placeOf : Spc := fun av s N _ => match av with
  | [.inl (.inl p), .inl (.inl q), .inl (.inl k)] => N (some (aI (plc p q k))) s
  | _ => False
set_option maxRecDepth 20000 in
set_option maxHeartbeats 2000000 in
theorem M_X5_placeOf : AMet yX5_placeOf cX5_placeOf 4 (some .int) 0 0 sp_X5_placeOf := by
  refine AMet.mk (own := RX5) (by decide) rfl [0, 1, 2, 3] rfl tok_X5_placeOf 200 ?_
  intro av s0 N X h
  unfold sp_X5_placeOf at h
  split at h
  rotate_left
  · exact h.elim
  refine ⟨fun _ => none, ?_, fun pc P hP => nomatch hP⟩
  repeat' (first | apply And.intro | (intro q; exact absurd q (by decide)) | intro _)
  all_goals first | decide | (exact Nat.le_of_ble_eq_true rfl) | (simp_all [-Int32.not_lt, -Int32.not_le, plc]; done) | (simp_all [-Int32.not_lt, -Int32.not_le, ← Int32.not_le, plc]; done) | (simp_all [plc]; done)
theorem dX5_doubt_0 : decode cX5_doubt 0 = .ok (.aload_n 0, 1) := by decide +kernel
theorem dX5_doubt_1 : decode cX5_doubt 1 = .ok (.aload_n 0, 1) := by decide +kernel
theorem dX5_doubt_2 : decode cX5_doubt 2 = .ok (.iload_n 1, 1) := by decide +kernel
theorem dX5_doubt_3 : decode cX5_doubt 3 = .ok (.invokevirtual 179, 3) := by decide +kernel
theorem dX5_doubt_6 : decode cX5_doubt 6 = .ok (.ifCond .ne 7, 3) := by decide +kernel
theorem dX5_doubt_9 : decode cX5_doubt 9 = .ok (.iconst 1, 1) := by decide +kernel
theorem dX5_doubt_10 : decode cX5_doubt 10 = .ok (.goto 38, 3) := by decide +kernel
theorem dX5_doubt_13 : decode cX5_doubt 13 = .ok (.iload_n 2, 1) := by decide +kernel
theorem dX5_doubt_14 : decode cX5_doubt 14 = .ok (.invokestatic 173, 3) := by decide +kernel
theorem dX5_doubt_17 : decode cX5_doubt 17 = .ok (.ifCond .ne 7, 3) := by decide +kernel
theorem dX5_doubt_20 : decode cX5_doubt 20 = .ok (.iconst 2, 1) := by decide +kernel
theorem dX5_doubt_21 : decode cX5_doubt 21 = .ok (.goto 27, 3) := by decide +kernel
theorem dX5_doubt_24 : decode cX5_doubt 24 = .ok (.aload_n 0, 1) := by decide +kernel
theorem dX5_doubt_25 : decode cX5_doubt 25 = .ok (.getfield 71, 3) := by decide +kernel
theorem dX5_doubt_28 : decode cX5_doubt 28 = .ok (.iload_n 1, 1) := by decide +kernel
theorem dX5_doubt_29 : decode cX5_doubt 29 = .ok (.iaload, 1) := by decide +kernel
theorem dX5_doubt_30 : decode cX5_doubt 30 = .ok (.ifCond .ne 17, 3) := by decide +kernel
theorem dX5_doubt_33 : decode cX5_doubt 33 = .ok (.aload_n 0, 1) := by decide +kernel
theorem dX5_doubt_34 : decode cX5_doubt 34 = .ok (.getfield 74, 3) := by decide +kernel
theorem dX5_doubt_37 : decode cX5_doubt 37 = .ok (.iload_n 1, 1) := by decide +kernel
theorem dX5_doubt_38 : decode cX5_doubt 38 = .ok (.iaload, 1) := by decide +kernel
theorem dX5_doubt_39 : decode cX5_doubt 39 = .ok (.iconst 1, 1) := by decide +kernel
theorem dX5_doubt_40 : decode cX5_doubt 40 = .ok (.if_icmp .ne 7, 3) := by decide +kernel
theorem dX5_doubt_43 : decode cX5_doubt 43 = .ok (.iconst 0, 1) := by decide +kernel
theorem dX5_doubt_44 : decode cX5_doubt 44 = .ok (.goto 4, 3) := by decide +kernel
theorem dX5_doubt_47 : decode cX5_doubt 47 = .ok (.iconst 3, 1) := by decide +kernel
theorem dX5_doubt_48 : decode cX5_doubt 48 = .ok (.invokevirtual 114, 3) := by decide +kernel
theorem dX5_doubt_51 : decode cX5_doubt 51 = .ok (.ifCond .eq 5, 3) := by decide +kernel
theorem dX5_doubt_54 : decode cX5_doubt 54 = .ok (.iconst 0, 1) := by decide +kernel
theorem dX5_doubt_55 : decode cX5_doubt 55 = .ok (.ireturn, 1) := by decide +kernel
theorem dX5_doubt_56 : decode cX5_doubt 56 = .ok (.aload_n 0, 1) := by decide +kernel
theorem dX5_doubt_57 : decode cX5_doubt 57 = .ok (.getfield 68, 3) := by decide +kernel
theorem dX5_doubt_60 : decode cX5_doubt 60 = .ok (.iload_n 1, 1) := by decide +kernel
theorem dX5_doubt_61 : decode cX5_doubt 61 = .ok (.iaload, 1) := by decide +kernel
theorem dX5_doubt_62 : decode cX5_doubt 62 = .ok (.istore_n 3, 1) := by decide +kernel
theorem dX5_doubt_63 : decode cX5_doubt 63 = .ok (.aload_n 0, 1) := by decide +kernel
theorem dX5_doubt_64 : decode cX5_doubt 64 = .ok (.getfield 68, 3) := by decide +kernel
theorem dX5_doubt_67 : decode cX5_doubt 67 = .ok (.iload_n 1, 1) := by decide +kernel
theorem dX5_doubt_68 : decode cX5_doubt 68 = .ok (.iload_n 2, 1) := by decide +kernel
theorem dX5_doubt_69 : decode cX5_doubt 69 = .ok (.iastore, 1) := by decide +kernel
theorem dX5_doubt_70 : decode cX5_doubt 70 = .ok (.iload_n 3, 1) := by decide +kernel
theorem dX5_doubt_71 : decode cX5_doubt 71 = .ok (.ireturn, 1) := by decide +kernel
def tab_X5_doubt : List (Nat × Sem) := [(0, op_al 0 1), (1, op_al 0 2), (2, op_il 1 3), (3, op_callV 7 sp_X5_isCause 2 0 6), (6, op_if (fun x => ¬ x = 0) 13 9), (9, op_ic 1 10), (10, op_go 48), (13, op_il 2 14), (14, op_call sp_X5_isDoubt 1 0 17), (17, op_if (fun x => ¬ x = 0) 24 20), (20, op_ic 2 21), (21, op_go 48), (24, op_al 0 25), (25, op_gf 7 24 28), (28, op_il 1 29), (29, op_iald 30), (30, op_if (fun x => ¬ x = 0) 47 33), (33, op_al 0 34), (34, op_gf 7 25 37), (37, op_il 1 38), (38, op_iald 39), (39, op_ic 1 40), (40, op_cmp (fun x y => ¬ x = y) 47 43), (43, op_ic 0 44), (44, op_go 48), (47, op_ic 3 48), (48, op_callV 7 sp_X5_fails 2 0 51), (51, op_if (fun x => x = 0) 56 54), (54, op_ic 0 55), (55, op_iret), (56, op_al 0 57), (57, op_gf 7 23 60), (60, op_il 1 61), (61, op_iald 62), (62, op_is 3 63), (63, op_al 0 64), (64, op_gf 7 23 67), (67, op_il 1 68), (68, op_il 2 69), (69, op_iast 70), (70, op_il 3 71), (71, op_iret)]
set_option maxRecDepth 20000 in
theorem tok_X5_doubt : ∀ q ∈ tab_X5_doubt, Snd RX5 cX5_doubt 4 2 0 (some .int) q.1 q.2 := by
  unfold tab_X5_doubt
  refine tcons (ok_aload_n dX5_doubt_0 rfl rfl) ?_
  refine tcons (ok_aload_n dX5_doubt_1 rfl rfl) ?_
  refine tcons (ok_iload_n dX5_doubt_2 rfl rfl) ?_
  refine tcons (ok_invokevirtual M_X5_isCause (C := RX5) (T := TX5) (nf := 33) rfl w_1236 w_1238 w_34 w_49 w_1239 ⟨rfl, by decide, by decide, by decide +kernel⟩ (by decide) (by decide) dX5_doubt_3 rfl) ?_
  refine tcons (ok_if_ne dX5_doubt_6 rfl rfl) ?_
  refine tcons (ok_iconst dX5_doubt_9 rfl rfl) ?_
  refine tcons (ok_goto dX5_doubt_10 rfl) ?_
  refine tcons (ok_iload_n dX5_doubt_13 rfl rfl) ?_
  refine tcons (ok_invokestatic M_X5_isDoubt w_1225 w_1226 w_49 w_1227 ⟨by decide, by decide, by decide +kernel⟩ (by decide) (by decide) dX5_doubt_14 rfl) ?_
  refine tcons (ok_if_ne dX5_doubt_17 rfl rfl) ?_
  refine tcons (ok_iconst dX5_doubt_20 rfl rfl) ?_
  refine tcons (ok_goto dX5_doubt_21 rfl) ?_
  refine tcons (ok_aload_n dX5_doubt_24 rfl rfl) ?_
  refine tcons (ok_getfield (C := RX5) (T := TX5) (n := 33) rfl in_X5 (by decide) w_1017 dX5_doubt_25 rfl) ?_
  refine tcons (ok_iload_n dX5_doubt_28 rfl rfl) ?_
  refine tcons (ok_iaload dX5_doubt_29 rfl) ?_
  refine tcons (ok_if_ne dX5_doubt_30 rfl rfl) ?_
  refine tcons (ok_aload_n dX5_doubt_33 rfl rfl) ?_
  refine tcons (ok_getfield (C := RX5) (T := TX5) (n := 33) rfl in_X5 (by decide) w_1018 dX5_doubt_34 rfl) ?_
  refine tcons (ok_iload_n dX5_doubt_37 rfl rfl) ?_
  refine tcons (ok_iaload dX5_doubt_38 rfl) ?_
  refine tcons (ok_iconst dX5_doubt_39 rfl rfl) ?_
  refine tcons (ok_icmp_ne dX5_doubt_40 rfl rfl) ?_
  refine tcons (ok_iconst dX5_doubt_43 rfl rfl) ?_
  refine tcons (ok_goto dX5_doubt_44 rfl) ?_
  refine tcons (ok_iconst dX5_doubt_47 rfl rfl) ?_
  refine tcons (ok_invokevirtual M_X5_fails (C := RX5) (T := TX5) (nf := 33) rfl w_1112 w_1114 w_20 w_49 w_1115 ⟨rfl, by decide, by decide, by decide +kernel⟩ (by decide) (by decide) dX5_doubt_48 rfl) ?_
  refine tcons (ok_if_eq dX5_doubt_51 rfl rfl) ?_
  refine tcons (ok_iconst dX5_doubt_54 rfl rfl) ?_
  refine tcons (ok_ireturn rfl dX5_doubt_55) ?_
  refine tcons (ok_aload_n dX5_doubt_56 rfl rfl) ?_
  refine tcons (ok_getfield (C := RX5) (T := TX5) (n := 33) rfl in_X5 (by decide) w_1016 dX5_doubt_57 rfl) ?_
  refine tcons (ok_iload_n dX5_doubt_60 rfl rfl) ?_
  refine tcons (ok_iaload dX5_doubt_61 rfl) ?_
  refine tcons (ok_istore_n dX5_doubt_62 rfl (by decide) rfl) ?_
  refine tcons (ok_aload_n dX5_doubt_63 rfl rfl) ?_
  refine tcons (ok_getfield (C := RX5) (T := TX5) (n := 33) rfl in_X5 (by decide) w_1016 dX5_doubt_64 rfl) ?_
  refine tcons (ok_iload_n dX5_doubt_67 rfl rfl) ?_
  refine tcons (ok_iload_n dX5_doubt_68 rfl rfl) ?_
  refine tcons (ok_iastore dX5_doubt_69 rfl) ?_
  refine tcons (ok_iload_n dX5_doubt_70 rfl rfl) ?_
  refine tcons (ok_ireturn rfl dX5_doubt_71) ?_
  exact fun _ h => nomatch h
def sp_X5_doubt : Spc := fun av s N _ => match av with
  | [.inl (.inr (20, 0)), .inl (.inl c), .inl (.inl d)] => MI s ∧ f3 (isC s c) (inR d 1 127) (s.2.1 44 0 (cl c) = 0 ∧ s.2.1 45 0 (cl c) = 1) (some (aI 0)) N s (N (some (aI (s.2.1 43 0 (cl c)))) (stS (th s 0) 43 0 (cl c) d))
  | _ => False
set_option maxRecDepth 20000 in
set_option maxHeartbeats 2000000 in
theorem M_X5_doubt : AMet yX5_doubt cX5_doubt 4 (some .int) 2 0 sp_X5_doubt := by
  refine AMet.mk (own := RX5) (by decide) rfl [0, 1, 2, 3] rfl tok_X5_doubt 200 ?_
  intro av s0 N X h
  unfold sp_X5_doubt at h
  split at h
  rotate_left
  · exact h.elim
  refine ⟨fun _ => none, ?_, fun pc P hP => nomatch hP⟩
  repeat' (first | apply And.intro | (intro q; exact absurd q (by decide)) | intro _)
  all_goals first | decide | (exact Nat.le_of_ble_eq_true rfl) | (exact Ib_of (MI_c h.1 (by assumption))) | (simp_all [-Int32.not_lt, -Int32.not_le, f3, stS_get]; done) | (simp_all [-Int32.not_lt, -Int32.not_le, ← Int32.not_le, f3, stS_get]; done) | (simp_all [f3, stS_get]; done)
def hasP (s : Sg) (v p : Int32) : Prop := s.2.1 35 0 (cl v) = p ∨ (s.2.1 27 0 (cl (s.2.1 33 0 (cl v))) = 0 ∧ s.2.1 23 0 (cl (s.2.1 33 0 (cl v))) = p) ∨ (s.2.1 27 0 (cl (s.2.1 34 0 (cl v))) = 0 ∧ s.2.1 23 0 (cl (s.2.1 34 0 (cl v))) = p)
/-- a vow, and the persons of it, lie in their rows -/
def vwI (s : Sg) (v : Int32) : Prop := Ib v 30 ∧ Ib (s.2.1 33 0 (cl v)) 24 ∧ Ib (s.2.1 34 0 (cl v)) 24
theorem dX5_has_0 : decode cX5_has 0 = .ok (.aload_n 0, 1) := by decide +kernel
theorem dX5_has_1 : decode cX5_has 1 = .ok (.getfield 47, 3) := by decide +kernel
theorem dX5_has_4 : decode cX5_has 4 = .ok (.iload_n 1, 1) := by decide +kernel
theorem dX5_has_5 : decode cX5_has 5 = .ok (.iaload, 1) := by decide +kernel
theorem dX5_has_6 : decode cX5_has 6 = .ok (.iload_n 2, 1) := by decide +kernel
theorem dX5_has_7 : decode cX5_has 7 = .ok (.if_icmp .eq 61, 3) := by decide +kernel
theorem dX5_has_10 : decode cX5_has 10 = .ok (.aload_n 0, 1) := by decide +kernel
theorem dX5_has_11 : decode cX5_has 11 = .ok (.getfield 26, 3) := by decide +kernel
theorem dX5_has_14 : decode cX5_has 14 = .ok (.aload_n 0, 1) := by decide +kernel
theorem dX5_has_15 : decode cX5_has 15 = .ok (.getfield 41, 3) := by decide +kernel
theorem dX5_has_18 : decode cX5_has 18 = .ok (.iload_n 1, 1) := by decide +kernel
theorem dX5_has_19 : decode cX5_has 19 = .ok (.iaload, 1) := by decide +kernel
theorem dX5_has_20 : decode cX5_has 20 = .ok (.baload, 1) := by decide +kernel
theorem dX5_has_21 : decode cX5_has 21 = .ok (.ifCond .ne 18, 3) := by decide +kernel
theorem dX5_has_24 : decode cX5_has 24 = .ok (.aload_n 0, 1) := by decide +kernel
theorem dX5_has_25 : decode cX5_has 25 = .ok (.getfield 13, 3) := by decide +kernel
theorem dX5_has_28 : decode cX5_has 28 = .ok (.aload_n 0, 1) := by decide +kernel
theorem dX5_has_29 : decode cX5_has 29 = .ok (.getfield 41, 3) := by decide +kernel
theorem dX5_has_32 : decode cX5_has 32 = .ok (.iload_n 1, 1) := by decide +kernel
theorem dX5_has_33 : decode cX5_has 33 = .ok (.iaload, 1) := by decide +kernel
theorem dX5_has_34 : decode cX5_has 34 = .ok (.iaload, 1) := by decide +kernel
theorem dX5_has_35 : decode cX5_has 35 = .ok (.iload_n 2, 1) := by decide +kernel
theorem dX5_has_36 : decode cX5_has 36 = .ok (.if_icmp .eq 32, 3) := by decide +kernel
theorem dX5_has_39 : decode cX5_has 39 = .ok (.aload_n 0, 1) := by decide +kernel
theorem dX5_has_40 : decode cX5_has 40 = .ok (.getfield 26, 3) := by decide +kernel
theorem dX5_has_43 : decode cX5_has 43 = .ok (.aload_n 0, 1) := by decide +kernel
theorem dX5_has_44 : decode cX5_has 44 = .ok (.getfield 44, 3) := by decide +kernel
theorem dX5_has_47 : decode cX5_has 47 = .ok (.iload_n 1, 1) := by decide +kernel
theorem dX5_has_48 : decode cX5_has 48 = .ok (.iaload, 1) := by decide +kernel
theorem dX5_has_49 : decode cX5_has 49 = .ok (.baload, 1) := by decide +kernel
theorem dX5_has_50 : decode cX5_has 50 = .ok (.ifCond .ne 22, 3) := by decide +kernel
theorem dX5_has_53 : decode cX5_has 53 = .ok (.aload_n 0, 1) := by decide +kernel
theorem dX5_has_54 : decode cX5_has 54 = .ok (.getfield 13, 3) := by decide +kernel
theorem dX5_has_57 : decode cX5_has 57 = .ok (.aload_n 0, 1) := by decide +kernel
theorem dX5_has_58 : decode cX5_has 58 = .ok (.getfield 44, 3) := by decide +kernel
theorem dX5_has_61 : decode cX5_has 61 = .ok (.iload_n 1, 1) := by decide +kernel
theorem dX5_has_62 : decode cX5_has 62 = .ok (.iaload, 1) := by decide +kernel
theorem dX5_has_63 : decode cX5_has 63 = .ok (.iaload, 1) := by decide +kernel
theorem dX5_has_64 : decode cX5_has 64 = .ok (.iload_n 2, 1) := by decide +kernel
theorem dX5_has_65 : decode cX5_has 65 = .ok (.if_icmp .ne 7, 3) := by decide +kernel
theorem dX5_has_68 : decode cX5_has 68 = .ok (.iconst 1, 1) := by decide +kernel
theorem dX5_has_69 : decode cX5_has 69 = .ok (.goto 4, 3) := by decide +kernel
theorem dX5_has_72 : decode cX5_has 72 = .ok (.iconst 0, 1) := by decide +kernel
theorem dX5_has_73 : decode cX5_has 73 = .ok (.ireturn, 1) := by decide +kernel
def tab_X5_has : List (Nat × Sem) := [(0, op_al 0 1), (1, op_gf 7 15 4), (4, op_il 1 5), (5, op_iald 6), (6, op_il 2 7), (7, op_cmp (fun x y => x = y) 68 10), (10, op_al 0 11), (11, op_gf 7 7 14), (14, op_al 0 15), (15, op_gf 7 13 18), (18, op_il 1 19), (19, op_iald 20), (20, op_bald 21), (21, op_if (fun x => ¬ x = 0) 39 24), (24, op_al 0 25), (25, op_gf 7 3 28), (28, op_al 0 29), (29, op_gf 7 13 32), (32, op_il 1 33), (33, op_iald 34), (34, op_iald 35), (35, op_il 2 36), (36, op_cmp (fun x y => x = y) 68 39), (39, op_al 0 40), (40, op_gf 7 7 43), (43, op_al 0 44), (44, op_gf 7 14 47), (47, op_il 1 48), (48, op_iald 49), (49, op_bald 50), (50, op_if (fun x => ¬ x = 0) 72 53), (53, op_al 0 54), (54, op_gf 7 3 57), (57, op_al 0 58), (58, op_gf 7 14 61), (61, op_il 1 62), (62, op_iald 63), (63, op_iald 64), (64, op_il 2 65), (65, op_cmp (fun x y => ¬ x = y) 72 68), (68, op_ic 1 69), (69, op_go 73), (72, op_ic 0 73), (73, op_zret)]
set_option maxRecDepth 20000 in
theorem tok_X5_has : ∀ q ∈ tab_X5_has, Snd RX5 cX5_has 3 0 0 (some .boolean) q.1 q.2 := by
  unfold tab_X5_has
  refine tcons (ok_aload_n dX5_has_0 rfl rfl) ?_
  refine tcons (ok_getfield (C := RX5) (T := TX5) (n := 33) rfl in_X5 (by decide) w_1008 dX5_has_1 rfl) ?_
  refine tcons (ok_iload_n dX5_has_4 rfl rfl) ?_
  refine tcons (ok_iaload dX5_has_5 rfl) ?_
  refine tcons (ok_iload_n dX5_has_6 rfl rfl) ?_
  refine tcons (ok_icmp_eq dX5_has_7 rfl rfl) ?_
  refine tcons (ok_aload_n dX5_has_10 rfl rfl) ?_
  refine tcons (ok_getfield (C := RX5) (T := TX5) (n := 33) rfl in_X5 (by decide) w_1000 dX5_has_11 rfl) ?_
  refine tcons (ok_aload_n dX5_has_14 rfl rfl) ?_
  refine tcons (ok_getfield (C := RX5) (T := TX5) (n := 33) rfl in_X5 (by decide) w_1006 dX5_has_15 rfl) ?_
  refine tcons (ok_iload_n dX5_has_18 rfl rfl) ?_
  refine tcons (ok_iaload dX5_has_19 rfl) ?_
  refine tcons (ok_baload dX5_has_20 rfl) ?_
  refine tcons (ok_if_ne dX5_has_21 rfl rfl) ?_
  refine tcons (ok_aload_n dX5_has_24 rfl rfl) ?_
  refine tcons (ok_getfield (C := RX5) (T := TX5) (n := 33) rfl in_X5 (by decide) w_996 dX5_has_25 rfl) ?_
  refine tcons (ok_aload_n dX5_has_28 rfl rfl) ?_
  refine tcons (ok_getfield (C := RX5) (T := TX5) (n := 33) rfl in_X5 (by decide) w_1006 dX5_has_29 rfl) ?_
  refine tcons (ok_iload_n dX5_has_32 rfl rfl) ?_
  refine tcons (ok_iaload dX5_has_33 rfl) ?_
  refine tcons (ok_iaload dX5_has_34 rfl) ?_
  refine tcons (ok_iload_n dX5_has_35 rfl rfl) ?_
  refine tcons (ok_icmp_eq dX5_has_36 rfl rfl) ?_
  refine tcons (ok_aload_n dX5_has_39 rfl rfl) ?_
  refine tcons (ok_getfield (C := RX5) (T := TX5) (n := 33) rfl in_X5 (by decide) w_1000 dX5_has_40 rfl) ?_
  refine tcons (ok_aload_n dX5_has_43 rfl rfl) ?_
  refine tcons (ok_getfield (C := RX5) (T := TX5) (n := 33) rfl in_X5 (by decide) w_1007 dX5_has_44 rfl) ?_
  refine tcons (ok_iload_n dX5_has_47 rfl rfl) ?_
  refine tcons (ok_iaload dX5_has_48 rfl) ?_
  refine tcons (ok_baload dX5_has_49 rfl) ?_
  refine tcons (ok_if_ne dX5_has_50 rfl rfl) ?_
  refine tcons (ok_aload_n dX5_has_53 rfl rfl) ?_
  refine tcons (ok_getfield (C := RX5) (T := TX5) (n := 33) rfl in_X5 (by decide) w_996 dX5_has_54 rfl) ?_
  refine tcons (ok_aload_n dX5_has_57 rfl rfl) ?_
  refine tcons (ok_getfield (C := RX5) (T := TX5) (n := 33) rfl in_X5 (by decide) w_1007 dX5_has_58 rfl) ?_
  refine tcons (ok_iload_n dX5_has_61 rfl rfl) ?_
  refine tcons (ok_iaload dX5_has_62 rfl) ?_
  refine tcons (ok_iaload dX5_has_63 rfl) ?_
  refine tcons (ok_iload_n dX5_has_64 rfl rfl) ?_
  refine tcons (ok_icmp_ne dX5_has_65 rfl rfl) ?_
  refine tcons (ok_iconst dX5_has_68 rfl rfl) ?_
  refine tcons (ok_goto dX5_has_69 rfl) ?_
  refine tcons (ok_iconst dX5_has_72 rfl rfl) ?_
  refine tcons (ok_zreturn rfl (Or.inl rfl) dX5_has_73) ?_
  exact fun _ h => nomatch h
def sp_X5_has : Spc := fun av s N _ => match av with
  | [.inl (.inr (20, 0)), .inl (.inl v), .inl (.inl p)] => vwI s v ∧ br (hasP s v p) N s
  | _ => False
set_option maxRecDepth 20000 in
set_option maxHeartbeats 2000000 in
theorem M_X5_has : AMet yX5_has cX5_has 3 (some .boolean) 0 0 sp_X5_has := by
  refine AMet.mk (own := RX5) (by decide) rfl [0, 1, 2] rfl tok_X5_has 200 ?_
  intro av s0 N X h
  unfold sp_X5_has at h
  split at h
  rotate_left
  · exact h.elim
  refine ⟨fun _ => none, ?_, fun pc P hP => nomatch hP⟩
  repeat' (first | apply And.intro | (intro q; exact absurd q (by decide)) | intro _)
  all_goals first | decide | (exact Nat.le_of_ble_eq_true rfl) | (exact h.1.1) | (exact h.1.2.1) | (exact h.1.2.2) | (simp_all [-Int32.not_lt, -Int32.not_le, br, hasP]; done) | (simp_all [-Int32.not_lt, -Int32.not_le, ← Int32.not_le, br, hasP]; done) | (simp_all [br, hasP]; done)
theorem dX5_vowOf_0 : decode cX5_vowOf 0 = .ok (.aload_n 0, 1) := by decide +kernel
theorem dX5_vowOf_1 : decode cX5_vowOf 1 = .ok (.aload_n 0, 1) := by decide +kernel
theorem dX5_vowOf_2 : decode cX5_vowOf 2 = .ok (.iload_n 1, 1) := by decide +kernel
theorem dX5_vowOf_3 : decode cX5_vowOf 3 = .ok (.invokevirtual 154, 3) := by decide +kernel
theorem dX5_vowOf_6 : decode cX5_vowOf 6 = .ok (.ifCond .ne 7, 3) := by decide +kernel
theorem dX5_vowOf_9 : decode cX5_vowOf 9 = .ok (.iconst 1, 1) := by decide +kernel
theorem dX5_vowOf_10 : decode cX5_vowOf 10 = .ok (.goto 17, 3) := by decide +kernel
theorem dX5_vowOf_13 : decode cX5_vowOf 13 = .ok (.iload_n 2, 1) := by decide +kernel
theorem dX5_vowOf_14 : decode cX5_vowOf 14 = .ok (.iconst 0, 1) := by decide +kernel
theorem dX5_vowOf_15 : decode cX5_vowOf 15 = .ok (.iconst 4, 1) := by decide +kernel
theorem dX5_vowOf_16 : decode cX5_vowOf 16 = .ok (.invokestatic 99, 3) := by decide +kernel
theorem dX5_vowOf_19 : decode cX5_vowOf 19 = .ok (.ifCond .eq 7, 3) := by decide +kernel
theorem dX5_vowOf_22 : decode cX5_vowOf 22 = .ok (.iconst 0, 1) := by decide +kernel
theorem dX5_vowOf_23 : decode cX5_vowOf 23 = .ok (.goto 4, 3) := by decide +kernel
theorem dX5_vowOf_26 : decode cX5_vowOf 26 = .ok (.iconst 2, 1) := by decide +kernel
theorem dX5_vowOf_27 : decode cX5_vowOf 27 = .ok (.invokevirtual 114, 3) := by decide +kernel
theorem dX5_vowOf_30 : decode cX5_vowOf 30 = .ok (.ifCond .eq 5, 3) := by decide +kernel
theorem dX5_vowOf_33 : decode cX5_vowOf 33 = .ok (.iconst 0, 1) := by decide +kernel
theorem dX5_vowOf_34 : decode cX5_vowOf 34 = .ok (.ireturn, 1) := by decide +kernel
theorem dX5_vowOf_35 : decode cX5_vowOf 35 = .ok (.iload_n 2, 1) := by decide +kernel
theorem dX5_vowOf_36 : decode cX5_vowOf 36 = .ok (.tableswitch 68 0 3 #[32, 39, 46, 53], 32) := by decide +kernel
theorem dX5_vowOf_68 : decode cX5_vowOf 68 = .ok (.aload_n 0, 1) := by decide +kernel
theorem dX5_vowOf_69 : decode cX5_vowOf 69 = .ok (.getfield 59, 3) := by decide +kernel
theorem dX5_vowOf_72 : decode cX5_vowOf 72 = .ok (.iload_n 1, 1) := by decide +kernel
theorem dX5_vowOf_73 : decode cX5_vowOf 73 = .ok (.iaload, 1) := by decide +kernel
theorem dX5_vowOf_74 : decode cX5_vowOf 74 = .ok (.ireturn, 1) := by decide +kernel
theorem dX5_vowOf_75 : decode cX5_vowOf 75 = .ok (.aload_n 0, 1) := by decide +kernel
theorem dX5_vowOf_76 : decode cX5_vowOf 76 = .ok (.getfield 50, 3) := by decide +kernel
theorem dX5_vowOf_79 : decode cX5_vowOf 79 = .ok (.iload_n 1, 1) := by decide +kernel
theorem dX5_vowOf_80 : decode cX5_vowOf 80 = .ok (.iaload, 1) := by decide +kernel
theorem dX5_vowOf_81 : decode cX5_vowOf 81 = .ok (.ireturn, 1) := by decide +kernel
theorem dX5_vowOf_82 : decode cX5_vowOf 82 = .ok (.aload_n 0, 1) := by decide +kernel
theorem dX5_vowOf_83 : decode cX5_vowOf 83 = .ok (.getfield 62, 3) := by decide +kernel
theorem dX5_vowOf_86 : decode cX5_vowOf 86 = .ok (.iload_n 1, 1) := by decide +kernel
theorem dX5_vowOf_87 : decode cX5_vowOf 87 = .ok (.iaload, 1) := by decide +kernel
theorem dX5_vowOf_88 : decode cX5_vowOf 88 = .ok (.ireturn, 1) := by decide +kernel
theorem dX5_vowOf_89 : decode cX5_vowOf 89 = .ok (.aload_n 0, 1) := by decide +kernel
theorem dX5_vowOf_90 : decode cX5_vowOf 90 = .ok (.getfield 53, 3) := by decide +kernel
theorem dX5_vowOf_93 : decode cX5_vowOf 93 = .ok (.iload_n 1, 1) := by decide +kernel
theorem dX5_vowOf_94 : decode cX5_vowOf 94 = .ok (.baload, 1) := by decide +kernel
theorem dX5_vowOf_95 : decode cX5_vowOf 95 = .ok (.ifCond .eq 7, 3) := by decide +kernel
theorem dX5_vowOf_98 : decode cX5_vowOf 98 = .ok (.iconst 1, 1) := by decide +kernel
theorem dX5_vowOf_99 : decode cX5_vowOf 99 = .ok (.goto 4, 3) := by decide +kernel
theorem dX5_vowOf_102 : decode cX5_vowOf 102 = .ok (.iconst 0, 1) := by decide +kernel
theorem dX5_vowOf_103 : decode cX5_vowOf 103 = .ok (.ireturn, 1) := by decide +kernel
theorem dX5_vowOf_104 : decode cX5_vowOf 104 = .ok (.aload_n 0, 1) := by decide +kernel
theorem dX5_vowOf_105 : decode cX5_vowOf 105 = .ok (.getfield 47, 3) := by decide +kernel
theorem dX5_vowOf_108 : decode cX5_vowOf 108 = .ok (.iload_n 1, 1) := by decide +kernel
theorem dX5_vowOf_109 : decode cX5_vowOf 109 = .ok (.iaload, 1) := by decide +kernel
theorem dX5_vowOf_110 : decode cX5_vowOf 110 = .ok (.ireturn, 1) := by decide +kernel
def tab_X5_vowOf : List (Nat × Sem) := [(0, op_al 0 1), (1, op_al 0 2), (2, op_il 1 3), (3, op_callV 7 sp_X5_isVow 2 0 6), (6, op_if (fun x => ¬ x = 0) 13 9), (9, op_ic 1 10), (10, op_go 27), (13, op_il 2 14), (14, op_ic 0 15), (15, op_ic 4 16), (16, op_call sp_X5_isIn 3 0 19), (19, op_if (fun x => x = 0) 26 22), (22, op_ic 0 23), (23, op_go 27), (26, op_ic 2 27), (27, op_callV 7 sp_X5_fails 2 0 30), (30, op_if (fun x => x = 0) 35 33), (33, op_ic 0 34), (34, op_iret), (35, op_il 2 36), (36, op_sw [(0, 68), (1, 75), (2, 82), (3, 89)] 104), (68, op_al 0 69), (69, op_gf 7 19 72), (72, op_il 1 73), (73, op_iald 74), (74, op_iret), (75, op_al 0 76), (76, op_gf 7 16 79), (79, op_il 1 80), (80, op_iald 81), (81, op_iret), (82, op_al 0 83), (83, op_gf 7 20 86), (86, op_il 1 87), (87, op_iald 88), (88, op_iret), (89, op_al 0 90), (90, op_gf 7 17 93), (93, op_il 1 94), (94, op_bald 95), (95, op_if (fun x => x = 0) 102 98), (98, op_ic 1 99), (99, op_go 103), (102, op_ic 0 103), (103, op_iret), (104, op_al 0 105), (105, op_gf 7 15 108), (108, op_il 1 109), (109, op_iald 110), (110, op_iret)]
set_option maxRecDepth 20000 in
theorem tok_X5_vowOf : ∀ q ∈ tab_X5_vowOf, Snd RX5 cX5_vowOf 3 2 0 (some .int) q.1 q.2 := by
  unfold tab_X5_vowOf
  refine tcons (ok_aload_n dX5_vowOf_0 rfl rfl) ?_
  refine tcons (ok_aload_n dX5_vowOf_1 rfl rfl) ?_
  refine tcons (ok_iload_n dX5_vowOf_2 rfl rfl) ?_
  refine tcons (ok_invokevirtual M_X5_isVow (C := RX5) (T := TX5) (nf := 33) rfl w_1186 w_1188 w_27 w_49 w_1189 ⟨rfl, by decide, by decide, by decide +kernel⟩ (by decide) (by decide) dX5_vowOf_3 rfl) ?_
  refine tcons (ok_if_ne dX5_vowOf_6 rfl rfl) ?_
  refine tcons (ok_iconst dX5_vowOf_9 rfl rfl) ?_
  refine tcons (ok_goto dX5_vowOf_10 rfl) ?_
  refine tcons (ok_iload_n dX5_vowOf_13 rfl rfl) ?_
  refine tcons (ok_iconst dX5_vowOf_14 rfl rfl) ?_
  refine tcons (ok_iconst dX5_vowOf_15 rfl rfl) ?_
  refine tcons (ok_invokestatic M_X5_isIn w_1105 w_1106 w_49 w_1107 ⟨by decide, by decide, by decide +kernel⟩ (by decide) (by decide) dX5_vowOf_16 rfl) ?_
  refine tcons (ok_if_eq dX5_vowOf_19 rfl rfl) ?_
  refine tcons (ok_iconst dX5_vowOf_22 rfl rfl) ?_
  refine tcons (ok_goto dX5_vowOf_23 rfl) ?_
  refine tcons (ok_iconst dX5_vowOf_26 rfl rfl) ?_
  refine tcons (ok_invokevirtual M_X5_fails (C := RX5) (T := TX5) (nf := 33) rfl w_1112 w_1114 w_20 w_49 w_1115 ⟨rfl, by decide, by decide, by decide +kernel⟩ (by decide) (by decide) dX5_vowOf_27 rfl) ?_
  refine tcons (ok_if_eq dX5_vowOf_30 rfl rfl) ?_
  refine tcons (ok_iconst dX5_vowOf_33 rfl rfl) ?_
  refine tcons (ok_ireturn rfl dX5_vowOf_34) ?_
  refine tcons (ok_iload_n dX5_vowOf_35 rfl rfl) ?_
  refine tcons (ok_table rfl rfl rfl rfl dX5_vowOf_36) ?_
  refine tcons (ok_aload_n dX5_vowOf_68 rfl rfl) ?_
  refine tcons (ok_getfield (C := RX5) (T := TX5) (n := 33) rfl in_X5 (by decide) w_1012 dX5_vowOf_69 rfl) ?_
  refine tcons (ok_iload_n dX5_vowOf_72 rfl rfl) ?_
  refine tcons (ok_iaload dX5_vowOf_73 rfl) ?_
  refine tcons (ok_ireturn rfl dX5_vowOf_74) ?_
  refine tcons (ok_aload_n dX5_vowOf_75 rfl rfl) ?_
  refine tcons (ok_getfield (C := RX5) (T := TX5) (n := 33) rfl in_X5 (by decide) w_1009 dX5_vowOf_76 rfl) ?_
  refine tcons (ok_iload_n dX5_vowOf_79 rfl rfl) ?_
  refine tcons (ok_iaload dX5_vowOf_80 rfl) ?_
  refine tcons (ok_ireturn rfl dX5_vowOf_81) ?_
  refine tcons (ok_aload_n dX5_vowOf_82 rfl rfl) ?_
  refine tcons (ok_getfield (C := RX5) (T := TX5) (n := 33) rfl in_X5 (by decide) w_1013 dX5_vowOf_83 rfl) ?_
  refine tcons (ok_iload_n dX5_vowOf_86 rfl rfl) ?_
  refine tcons (ok_iaload dX5_vowOf_87 rfl) ?_
  refine tcons (ok_ireturn rfl dX5_vowOf_88) ?_
  refine tcons (ok_aload_n dX5_vowOf_89 rfl rfl) ?_
  refine tcons (ok_getfield (C := RX5) (T := TX5) (n := 33) rfl in_X5 (by decide) w_1010 dX5_vowOf_90 rfl) ?_
  refine tcons (ok_iload_n dX5_vowOf_93 rfl rfl) ?_
  refine tcons (ok_baload dX5_vowOf_94 rfl) ?_
  refine tcons (ok_if_eq dX5_vowOf_95 rfl rfl) ?_
  refine tcons (ok_iconst dX5_vowOf_98 rfl rfl) ?_
  refine tcons (ok_goto dX5_vowOf_99 rfl) ?_
  refine tcons (ok_iconst dX5_vowOf_102 rfl rfl) ?_
  refine tcons (ok_ireturn rfl dX5_vowOf_103) ?_
  refine tcons (ok_aload_n dX5_vowOf_104 rfl rfl) ?_
  refine tcons (ok_getfield (C := RX5) (T := TX5) (n := 33) rfl in_X5 (by decide) w_1008 dX5_vowOf_105 rfl) ?_
  refine tcons (ok_iload_n dX5_vowOf_108 rfl rfl) ?_
  refine tcons (ok_iaload dX5_vowOf_109 rfl) ?_
  refine tcons (ok_ireturn rfl dX5_vowOf_110) ?_
  exact fun _ h => nomatch h
def sp_X5_vowOf : Spc := fun av s N _ => match av with
  | [.inl (.inr (20, 0)), .inl (.inl v), .inl (.inl w)] => MI s ∧ f2 (isV s v) (inR w 0 4) (some (aI 0)) N s ((w = 0 → N (some (aI (s.2.1 39 0 (cl v)))) (th s 0)) ∧ (w = 1 → N (some (aI (s.2.1 36 0 (cl v)))) (th s 0)) ∧ (w = 2 → N (some (aI (s.2.1 40 0 (cl v)))) (th s 0)) ∧
      (w = 3 → s.2.1 37 0 (cl v) = 0 → N (some (aI 0)) (th s 0)) ∧ (w = 3 → ¬ s.2.1 37 0 (cl v) = 0 → N (some (aI 1)) (th s 0)) ∧ (¬ w = 0 → ¬ w = 1 → ¬ w = 2 → ¬ w = 3 → N (some (aI (s.2.1 35 0 (cl v)))) (th s 0)))
  | _ => False
set_option maxRecDepth 20000 in
set_option maxHeartbeats 2000000 in
theorem M_X5_vowOf : AMet yX5_vowOf cX5_vowOf 3 (some .int) 2 0 sp_X5_vowOf := by
  refine AMet.mk (own := RX5) (by decide) rfl [0, 1, 2] rfl tok_X5_vowOf 200 ?_
  intro av s0 N X h
  unfold sp_X5_vowOf at h
  split at h
  rotate_left
  · exact h.elim
  refine ⟨fun _ => none, ?_, fun pc P hP => nomatch hP⟩
  repeat' (first | apply And.intro | (intro q; exact absurd q (by decide)) | intro _)
  all_goals first | decide | (exact Nat.le_of_ble_eq_true rfl) | (exact Ib_of (MI_v h.1 (by assumption))) | (simp_all [-Int32.not_lt, -Int32.not_le, f2, stS_get]; done) | (simp_all [-Int32.not_lt, -Int32.not_le, ← Int32.not_le, f2, stS_get]; done) | (simp_all [f2, stS_get]; done)
theorem dX5_causeOf_0 : decode cX5_causeOf 0 = .ok (.aload_n 0, 1) := by decide +kernel
theorem dX5_causeOf_1 : decode cX5_causeOf 1 = .ok (.aload_n 0, 1) := by decide +kernel
theorem dX5_causeOf_2 : decode cX5_causeOf 2 = .ok (.iload_n 1, 1) := by decide +kernel
theorem dX5_causeOf_3 : decode cX5_causeOf 3 = .ok (.invokevirtual 179, 3) := by decide +kernel
theorem dX5_causeOf_6 : decode cX5_causeOf 6 = .ok (.ifCond .ne 7, 3) := by decide +kernel
theorem dX5_causeOf_9 : decode cX5_causeOf 9 = .ok (.iconst 1, 1) := by decide +kernel
theorem dX5_causeOf_10 : decode cX5_causeOf 10 = .ok (.goto 18, 3) := by decide +kernel
theorem dX5_causeOf_13 : decode cX5_causeOf 13 = .ok (.iload_n 2, 1) := by decide +kernel
theorem dX5_causeOf_14 : decode cX5_causeOf 14 = .ok (.iconst 0, 1) := by decide +kernel
theorem dX5_causeOf_15 : decode cX5_causeOf 15 = .ok (.bipush 6, 2) := by decide +kernel
theorem dX5_causeOf_17 : decode cX5_causeOf 17 = .ok (.invokestatic 99, 3) := by decide +kernel
theorem dX5_causeOf_20 : decode cX5_causeOf 20 = .ok (.ifCond .eq 7, 3) := by decide +kernel
theorem dX5_causeOf_23 : decode cX5_causeOf 23 = .ok (.iconst 0, 1) := by decide +kernel
theorem dX5_causeOf_24 : decode cX5_causeOf 24 = .ok (.goto 4, 3) := by decide +kernel
theorem dX5_causeOf_27 : decode cX5_causeOf 27 = .ok (.iconst 2, 1) := by decide +kernel
theorem dX5_causeOf_28 : decode cX5_causeOf 28 = .ok (.invokevirtual 114, 3) := by decide +kernel
theorem dX5_causeOf_31 : decode cX5_causeOf 31 = .ok (.ifCond .eq 5, 3) := by decide +kernel
theorem dX5_causeOf_34 : decode cX5_causeOf 34 = .ok (.iconst 0, 1) := by decide +kernel
theorem dX5_causeOf_35 : decode cX5_causeOf 35 = .ok (.ireturn, 1) := by decide +kernel
theorem dX5_causeOf_36 : decode cX5_causeOf 36 = .ok (.iload_n 2, 1) := by decide +kernel
theorem dX5_causeOf_37 : decode cX5_causeOf 37 = .ok (.tableswitch 71 0 6 #[43, 50, 57, 71, 71, 71, 64], 43) := by decide +kernel
theorem dX5_causeOf_80 : decode cX5_causeOf 80 = .ok (.aload_n 0, 1) := by decide +kernel
theorem dX5_causeOf_81 : decode cX5_causeOf 81 = .ok (.getfield 71, 3) := by decide +kernel
theorem dX5_causeOf_84 : decode cX5_causeOf 84 = .ok (.iload_n 1, 1) := by decide +kernel
theorem dX5_causeOf_85 : decode cX5_causeOf 85 = .ok (.iaload, 1) := by decide +kernel
theorem dX5_causeOf_86 : decode cX5_causeOf 86 = .ok (.ireturn, 1) := by decide +kernel
theorem dX5_causeOf_87 : decode cX5_causeOf 87 = .ok (.aload_n 0, 1) := by decide +kernel
theorem dX5_causeOf_88 : decode cX5_causeOf 88 = .ok (.getfield 74, 3) := by decide +kernel
theorem dX5_causeOf_91 : decode cX5_causeOf 91 = .ok (.iload_n 1, 1) := by decide +kernel
theorem dX5_causeOf_92 : decode cX5_causeOf 92 = .ok (.iaload, 1) := by decide +kernel
theorem dX5_causeOf_93 : decode cX5_causeOf 93 = .ok (.ireturn, 1) := by decide +kernel
theorem dX5_causeOf_94 : decode cX5_causeOf 94 = .ok (.aload_n 0, 1) := by decide +kernel
theorem dX5_causeOf_95 : decode cX5_causeOf 95 = .ok (.getfield 68, 3) := by decide +kernel
theorem dX5_causeOf_98 : decode cX5_causeOf 98 = .ok (.iload_n 1, 1) := by decide +kernel
theorem dX5_causeOf_99 : decode cX5_causeOf 99 = .ok (.iaload, 1) := by decide +kernel
theorem dX5_causeOf_100 : decode cX5_causeOf 100 = .ok (.ireturn, 1) := by decide +kernel
theorem dX5_causeOf_101 : decode cX5_causeOf 101 = .ok (.aload_n 0, 1) := by decide +kernel
theorem dX5_causeOf_102 : decode cX5_causeOf 102 = .ok (.getfield 80, 3) := by decide +kernel
theorem dX5_causeOf_105 : decode cX5_causeOf 105 = .ok (.iload_n 1, 1) := by decide +kernel
theorem dX5_causeOf_106 : decode cX5_causeOf 106 = .ok (.iaload, 1) := by decide +kernel
theorem dX5_causeOf_107 : decode cX5_causeOf 107 = .ok (.ireturn, 1) := by decide +kernel
theorem dX5_causeOf_108 : decode cX5_causeOf 108 = .ok (.aload_n 0, 1) := by decide +kernel
theorem dX5_causeOf_109 : decode cX5_causeOf 109 = .ok (.getfield 86, 3) := by decide +kernel
theorem dX5_causeOf_112 : decode cX5_causeOf 112 = .ok (.iconst 3, 1) := by decide +kernel
theorem dX5_causeOf_113 : decode cX5_causeOf 113 = .ok (.iload_n 1, 1) := by decide +kernel
theorem dX5_causeOf_114 : decode cX5_causeOf 114 = .ok (.imul, 1) := by decide +kernel
theorem dX5_causeOf_115 : decode cX5_causeOf 115 = .ok (.iload_n 2, 1) := by decide +kernel
theorem dX5_causeOf_116 : decode cX5_causeOf 116 = .ok (.iadd, 1) := by decide +kernel
theorem dX5_causeOf_117 : decode cX5_causeOf 117 = .ok (.iconst 3, 1) := by decide +kernel
theorem dX5_causeOf_118 : decode cX5_causeOf 118 = .ok (.isub, 1) := by decide +kernel
theorem dX5_causeOf_119 : decode cX5_causeOf 119 = .ok (.iaload, 1) := by decide +kernel
theorem dX5_causeOf_120 : decode cX5_causeOf 120 = .ok (.ireturn, 1) := by decide +kernel
def tab_X5_causeOf : List (Nat × Sem) := [(0, op_al 0 1), (1, op_al 0 2), (2, op_il 1 3), (3, op_callV 7 sp_X5_isCause 2 0 6), (6, op_if (fun x => ¬ x = 0) 13 9), (9, op_ic 1 10), (10, op_go 28), (13, op_il 2 14), (14, op_ic 0 15), (15, op_ic 6 17), (17, op_call sp_X5_isIn 3 0 20), (20, op_if (fun x => x = 0) 27 23), (23, op_ic 0 24), (24, op_go 28), (27, op_ic 2 28), (28, op_callV 7 sp_X5_fails 2 0 31), (31, op_if (fun x => x = 0) 36 34), (34, op_ic 0 35), (35, op_iret), (36, op_il 2 37), (37, op_sw [(0, 80), (1, 87), (2, 94), (3, 108), (4, 108), (5, 108), (6, 101)] 108), (80, op_al 0 81), (81, op_gf 7 24 84), (84, op_il 1 85), (85, op_iald 86), (86, op_iret), (87, op_al 0 88), (88, op_gf 7 25 91), (91, op_il 1 92), (92, op_iald 93), (93, op_iret), (94, op_al 0 95), (95, op_gf 7 23 98), (98, op_il 1 99), (99, op_iald 100), (100, op_iret), (101, op_al 0 102), (102, op_gf 7 27 105), (105, op_il 1 106), (106, op_iald 107), (107, op_iret), (108, op_al 0 109), (109, op_gf 7 29 112), (112, op_ic 3 113), (113, op_il 1 114), (114, op_bin (fun x y => x * y) 115), (115, op_il 2 116), (116, op_bin (fun x y => x + y) 117), (117, op_ic 3 118), (118, op_bin (fun x y => x - y) 119), (119, op_iald 120), (120, op_iret)]
set_option maxRecDepth 20000 in
theorem tok_X5_causeOf : ∀ q ∈ tab_X5_causeOf, Snd RX5 cX5_causeOf 3 2 0 (some .int) q.1 q.2 := by
  unfold tab_X5_causeOf
  refine tcons (ok_aload_n dX5_causeOf_0 rfl rfl) ?_
  refine tcons (ok_aload_n dX5_causeOf_1 rfl rfl) ?_
  refine tcons (ok_iload_n dX5_causeOf_2 rfl rfl) ?_
  refine tcons (ok_invokevirtual M_X5_isCause (C := RX5) (T := TX5) (nf := 33) rfl w_1236 w_1238 w_34 w_49 w_1239 ⟨rfl, by decide, by decide, by decide +kernel⟩ (by decide) (by decide) dX5_causeOf_3 rfl) ?_
  refine tcons (ok_if_ne dX5_causeOf_6 rfl rfl) ?_
  refine tcons (ok_iconst dX5_causeOf_9 rfl rfl) ?_
  refine tcons (ok_goto dX5_causeOf_10 rfl) ?_
  refine tcons (ok_iload_n dX5_causeOf_13 rfl rfl) ?_
  refine tcons (ok_iconst dX5_causeOf_14 rfl rfl) ?_
  refine tcons (ok_bipush dX5_causeOf_15 rfl rfl) ?_
  refine tcons (ok_invokestatic M_X5_isIn w_1105 w_1106 w_49 w_1107 ⟨by decide, by decide, by decide +kernel⟩ (by decide) (by decide) dX5_causeOf_17 rfl) ?_
  refine tcons (ok_if_eq dX5_causeOf_20 rfl rfl) ?_
  refine tcons (ok_iconst dX5_causeOf_23 rfl rfl) ?_
  refine tcons (ok_goto dX5_causeOf_24 rfl) ?_
  refine tcons (ok_iconst dX5_causeOf_27 rfl rfl) ?_
  refine tcons (ok_invokevirtual M_X5_fails (C := RX5) (T := TX5) (nf := 33) rfl w_1112 w_1114 w_20 w_49 w_1115 ⟨rfl, by decide, by decide, by decide +kernel⟩ (by decide) (by decide) dX5_causeOf_28 rfl) ?_
  refine tcons (ok_if_eq dX5_causeOf_31 rfl rfl) ?_
  refine tcons (ok_iconst dX5_causeOf_34 rfl rfl) ?_
  refine tcons (ok_ireturn rfl dX5_causeOf_35) ?_
  refine tcons (ok_iload_n dX5_causeOf_36 rfl rfl) ?_
  refine tcons (ok_table rfl rfl rfl rfl dX5_causeOf_37) ?_
  refine tcons (ok_aload_n dX5_causeOf_80 rfl rfl) ?_
  refine tcons (ok_getfield (C := RX5) (T := TX5) (n := 33) rfl in_X5 (by decide) w_1017 dX5_causeOf_81 rfl) ?_
  refine tcons (ok_iload_n dX5_causeOf_84 rfl rfl) ?_
  refine tcons (ok_iaload dX5_causeOf_85 rfl) ?_
  refine tcons (ok_ireturn rfl dX5_causeOf_86) ?_
  refine tcons (ok_aload_n dX5_causeOf_87 rfl rfl) ?_
  refine tcons (ok_getfield (C := RX5) (T := TX5) (n := 33) rfl in_X5 (by decide) w_1018 dX5_causeOf_88 rfl) ?_
  refine tcons (ok_iload_n dX5_causeOf_91 rfl rfl) ?_
  refine tcons (ok_iaload dX5_causeOf_92 rfl) ?_
  refine tcons (ok_ireturn rfl dX5_causeOf_93) ?_
  refine tcons (ok_aload_n dX5_causeOf_94 rfl rfl) ?_
  refine tcons (ok_getfield (C := RX5) (T := TX5) (n := 33) rfl in_X5 (by decide) w_1016 dX5_causeOf_95 rfl) ?_
  refine tcons (ok_iload_n dX5_causeOf_98 rfl rfl) ?_
  refine tcons (ok_iaload dX5_causeOf_99 rfl) ?_
  refine tcons (ok_ireturn rfl dX5_causeOf_100) ?_
  refine tcons (ok_aload_n dX5_causeOf_101 rfl rfl) ?_
  refine tcons (ok_getfield (C := RX5) (T := TX5) (n := 33) rfl in_X5 (by decide) w_1020 dX5_causeOf_102 rfl) ?_
  refine tcons (ok_iload_n dX5_causeOf_105 rfl rfl) ?_
  refine tcons (ok_iaload dX5_causeOf_106 rfl) ?_
  refine tcons (ok_ireturn rfl dX5_causeOf_107) ?_
  refine tcons (ok_aload_n dX5_causeOf_108 rfl rfl) ?_
  refine tcons (ok_getfield (C := RX5) (T := TX5) (n := 33) rfl in_X5 (by decide) w_1022 dX5_causeOf_109 rfl) ?_
  refine tcons (ok_iconst dX5_causeOf_112 rfl rfl) ?_
  refine tcons (ok_iload_n dX5_causeOf_113 rfl rfl) ?_
  refine tcons (ok_imul dX5_causeOf_114 rfl) ?_
  refine tcons (ok_iload_n dX5_causeOf_115 rfl rfl) ?_
  refine tcons (ok_iadd dX5_causeOf_116 rfl) ?_
  refine tcons (ok_iconst dX5_causeOf_117 rfl rfl) ?_
  refine tcons (ok_isub dX5_causeOf_118 rfl) ?_
  refine tcons (ok_iaload dX5_causeOf_119 rfl) ?_
  refine tcons (ok_ireturn rfl dX5_causeOf_120) ?_
  exact fun _ h => nomatch h
def sp_X5_causeOf : Spc := fun av s N _ => match av with
  | [.inl (.inr (20, 0)), .inl (.inl v), .inl (.inl w)] => MI s ∧ f2 (isC s v) (inR w 0 6) (some (aI 0)) N s ((w = 0 → N (some (aI (s.2.1 44 0 (cl v)))) (th s 0)) ∧ (w = 1 → N (some (aI (s.2.1 45 0 (cl v)))) (th s 0)) ∧ (w = 2 → N (some (aI (s.2.1 43 0 (cl v)))) (th s 0)) ∧
      (w = 6 → N (some (aI (s.2.1 47 0 (cl v)))) (th s 0)) ∧ (¬ w = 0 → ¬ w = 1 → ¬ w = 2 → ¬ w = 6 → N (some (aI (s.2.1 49 0 (cl (3 * v + w - 3))))) (th s 0)))
  | _ => False
theorem sen_vp {s : Sg} {c w : Int32} (hM : MI s) (h : isC s c) (h2 : inR w 0 6) (n0 : ¬ w = 0) (n1 : ¬ w = 1) (n2 : ¬ w = 2) (n6 : ¬ w = 6) : vp_in (3 * c + w - 3) 90 := by
  obtain ⟨j, hj, rfl⟩ := MI_cn hM h
  obtain ⟨k, hk, rfl⟩ := rg_nI (N := 6) h2 rfl
  have k0 : k ≠ 0 := by rintro rfl; exact n0 rfl
  have k1 : k ≠ 1 := by rintro rfl; exact n1 rfl
  have k2 : k ≠ 2 := by rintro rfl; exact n2 rfl
  have k6 : k ≠ 6 := by rintro rfl; exact n6 rfl
  rw [show (3 : Int32) = nI 3 from rfl, nIm, nI_add, pk_sub (by omega)]
  exact nI_vp (by omega) (by decide)
theorem sen3 {s : Sg} {c w : Int32} (hM : MI s) (h : isC s c) (h2 : w = 3 ∨ w = 4 ∨ w = 5) : vp_in (3 * c + w - 3) 90 := by
  refine sen_vp hM h ?_ ?_ ?_ ?_ ?_
  · rcases h2 with rfl | rfl | rfl <;> exact ⟨by decide, by decide⟩
  all_goals rcases h2 with rfl | rfl | rfl <;> decide
set_option maxRecDepth 20000 in
set_option maxHeartbeats 2000000 in
theorem M_X5_causeOf : AMet yX5_causeOf cX5_causeOf 3 (some .int) 2 0 sp_X5_causeOf := by
  refine AMet.mk (own := RX5) (by decide) rfl [0, 1, 2] rfl tok_X5_causeOf 200 ?_
  intro av s0 N X h
  unfold sp_X5_causeOf at h
  split at h
  rotate_left
  · exact h.elim
  refine ⟨fun _ => none, ?_, fun pc P hP => nomatch hP⟩
  repeat' (first | apply And.intro | (intro q; exact absurd q (by decide)) | intro _)
  all_goals first | decide | (exact Nat.le_of_ble_eq_true rfl) | (exact Ib_of (MI_c h.1 (by assumption))) | (exact Ib_of (sen3 h.1 (by assumption) (Or.inl (by assumption)))) | (exact Ib_of (sen3 h.1 (by assumption) (Or.inr (Or.inl (by assumption))))) | (exact Ib_of (sen3 h.1 (by assumption) (Or.inr (Or.inr (by assumption))))) | (exact Ib_of (sen_vp h.1 (by assumption) (by assumption) (by assumption) (by assumption) (by assumption) (by assumption))) | (simp_all [-Int32.not_lt, -Int32.not_le, f2, stS_get]; done) | (simp_all [-Int32.not_lt, -Int32.not_le, ← Int32.not_le, f2, stS_get]; done) | (simp_all [f2, stS_get]; done)
end
section
/-! the model's methods with loops -/
def npm (s : Sg) : Nat := (s.2.1 20 0 1).toNatClampNeg
def nvm (s : Sg) : Nat := (s.2.1 20 0 12).toNatClampNeg
def ncm (s : Sg) : Nat := (s.2.1 20 0 21).toNatClampNeg
theorem npm_eq {s : Sg} {n : Nat} (h : s.2.1 20 0 1 = nI n) (hn : n ≤ 24) : npm s = n := by unfold npm; rw [h, nI_clamp (by omega)]
theorem nvm_eq {s : Sg} {n : Nat} (h : s.2.1 20 0 12 = nI n) (hn : n ≤ 30) : nvm s = n := by unfold nvm; rw [h, nI_clamp (by omega)]
theorem ncm_eq {s : Sg} {n : Nat} (h : s.2.1 20 0 21 = nI n) (hn : n ≤ 30) : ncm s = n := by unfold ncm; rw [h, nI_clamp (by omega)]
/-- those vows that a death ends -/
def dc (s : Sg) (p : Int32) (c : Nat) : Prop := s.2.1 39 0 c = 0 ∧ (s.2.1 33 0 c = p ∨ s.2.1 34 0 c = p)
def dieS (s : Sg) (p : Int32) (K : Nat) : Sg := (s.1, fun a b c => if (a = 39 ∧ b = 0 ∧ c < K ∧ s.2.1 39 0 c = 0 ∧ (s.2.1 33 0 c = p ∨ s.2.1 34 0 c = p)) then 3 else if (a = 40 ∧ b = 0 ∧ c < K ∧ s.2.1 39 0 c = 0 ∧ (s.2.1 33 0 c = p ∨ s.2.1 34 0 c = p)) then s.2.1 20 0 0 else s.2.1 a b c, s.2.2)
def dieN (s : Sg) (p : Int32) : Nat → Nat
  | 0 => 0
  | k + 1 => dieN s p k + (if s.2.1 39 0 k = 0 ∧ (s.2.1 33 0 k = p ∨ s.2.1 34 0 k = p) then 1 else 0)
theorem dieS_get {s : Sg} {p : Int32} {K a b c : Nat} : (dieS s p K).2.1 a b c = if (a = 39 ∧ b = 0 ∧ c < K ∧ s.2.1 39 0 c = 0 ∧ (s.2.1 33 0 c = p ∨ s.2.1 34 0 c = p)) then 3 else if (a = 40 ∧ b = 0 ∧ c < K ∧ s.2.1 39 0 c = 0 ∧ (s.2.1 33 0 c = p ∨ s.2.1 34 0 c = p)) then s.2.1 20 0 0 else s.2.1 a b c := rfl
theorem Sg_ext {s t : Sg} (h1 : s.1 = t.1) (h2 : ∀ a b c, s.2.1 a b c = t.2.1 a b c) (h3 : s.2.2 = t.2.2) : s = t := by
  obtain ⟨n, S, o⟩ := s
  obtain ⟨n', S', o'⟩ := t
  have e : S = S' := by funext a b c; exact h2 a b c
  have e1 : n = n' := h1
  have e3 : o = o' := h3
  rw [e, e1, e3]
theorem dieS_0 {s : Sg} {p : Int32} : dieS s p 0 = s := Sg_ext rfl (fun a b c => by simp [dieS_get]) rfl
theorem dieS_s {s : Sg} {p : Int32} {k : Nat} (h : s.2.1 39 0 k = 0 ∧ (s.2.1 33 0 k = p ∨ s.2.1 34 0 k = p)) : stS (stS (dieS s p k) 39 0 k 3) 40 0 k (s.2.1 20 0 0) = dieS s p (k + 1) := by
  refine Sg_ext rfl (fun a b c => ?_) rfl
  simp only [stS_get, dieS_get]
  grind (splits := 30)
theorem dieS_n {s : Sg} {p : Int32} {k : Nat} (h : ¬ (s.2.1 39 0 k = 0 ∧ (s.2.1 33 0 k = p ∨ s.2.1 34 0 k = p))) : dieS s p k = dieS s p (k + 1) := by
  refine Sg_ext rfl (fun a b c => ?_) rfl
  simp only [dieS_get]
  grind (splits := 30)
theorem dX5_die_0 : decode cX5_die 0 = .ok (.aload_n 0, 1) := by decide +kernel
theorem dX5_die_1 : decode cX5_die 1 = .ok (.aload_n 0, 1) := by decide +kernel
theorem dX5_die_2 : decode cX5_die 2 = .ok (.iload_n 1, 1) := by decide +kernel
theorem dX5_die_3 : decode cX5_die 3 = .ok (.invokevirtual 106, 3) := by decide +kernel
theorem dX5_die_6 : decode cX5_die 6 = .ok (.ifCond .ne 7, 3) := by decide +kernel
theorem dX5_die_9 : decode cX5_die 9 = .ok (.iconst 1, 1) := by decide +kernel
theorem dX5_die_10 : decode cX5_die 10 = .ok (.goto 17, 3) := by decide +kernel
theorem dX5_die_13 : decode cX5_die 13 = .ok (.aload_n 0, 1) := by decide +kernel
theorem dX5_die_14 : decode cX5_die 14 = .ok (.getfield 26, 3) := by decide +kernel
theorem dX5_die_17 : decode cX5_die 17 = .ok (.iload_n 1, 1) := by decide +kernel
theorem dX5_die_18 : decode cX5_die 18 = .ok (.baload, 1) := by decide +kernel
theorem dX5_die_19 : decode cX5_die 19 = .ok (.ifCond .eq 7, 3) := by decide +kernel
theorem dX5_die_22 : decode cX5_die 22 = .ok (.iconst 2, 1) := by decide +kernel
theorem dX5_die_23 : decode cX5_die 23 = .ok (.goto 4, 3) := by decide +kernel
theorem dX5_die_26 : decode cX5_die 26 = .ok (.iconst 0, 1) := by decide +kernel
theorem dX5_die_27 : decode cX5_die 27 = .ok (.invokevirtual 114, 3) := by decide +kernel
theorem dX5_die_30 : decode cX5_die 30 = .ok (.ifCond .eq 5, 3) := by decide +kernel
theorem dX5_die_33 : decode cX5_die 33 = .ok (.iconst 0, 1) := by decide +kernel
theorem dX5_die_34 : decode cX5_die 34 = .ok (.ireturn, 1) := by decide +kernel
theorem dX5_die_35 : decode cX5_die 35 = .ok (.aload_n 0, 1) := by decide +kernel
theorem dX5_die_36 : decode cX5_die 36 = .ok (.getfield 26, 3) := by decide +kernel
theorem dX5_die_39 : decode cX5_die 39 = .ok (.iload_n 1, 1) := by decide +kernel
theorem dX5_die_40 : decode cX5_die 40 = .ok (.iconst 1, 1) := by decide +kernel
theorem dX5_die_41 : decode cX5_die 41 = .ok (.bastore, 1) := by decide +kernel
theorem dX5_die_42 : decode cX5_die 42 = .ok (.iconst 0, 1) := by decide +kernel
theorem dX5_die_43 : decode cX5_die 43 = .ok (.istore_n 2, 1) := by decide +kernel
theorem dX5_die_44 : decode cX5_die 44 = .ok (.iconst 0, 1) := by decide +kernel
theorem dX5_die_45 : decode cX5_die 45 = .ok (.istore_n 3, 1) := by decide +kernel
theorem dX5_die_46 : decode cX5_die 46 = .ok (.iload_n 3, 1) := by decide +kernel
theorem dX5_die_47 : decode cX5_die 47 = .ok (.aload_n 0, 1) := by decide +kernel
theorem dX5_die_48 : decode cX5_die 48 = .ok (.getfield 103, 3) := by decide +kernel
theorem dX5_die_51 : decode cX5_die 51 = .ok (.if_icmp .ge 47, 3) := by decide +kernel
theorem dX5_die_54 : decode cX5_die 54 = .ok (.aload_n 0, 1) := by decide +kernel
theorem dX5_die_55 : decode cX5_die 55 = .ok (.getfield 59, 3) := by decide +kernel
theorem dX5_die_58 : decode cX5_die 58 = .ok (.iload_n 3, 1) := by decide +kernel
theorem dX5_die_59 : decode cX5_die 59 = .ok (.iaload, 1) := by decide +kernel
theorem dX5_die_60 : decode cX5_die 60 = .ok (.ifCond .ne 32, 3) := by decide +kernel
theorem dX5_die_63 : decode cX5_die 63 = .ok (.aload_n 0, 1) := by decide +kernel
theorem dX5_die_64 : decode cX5_die 64 = .ok (.getfield 41, 3) := by decide +kernel
theorem dX5_die_67 : decode cX5_die 67 = .ok (.iload_n 3, 1) := by decide +kernel
theorem dX5_die_68 : decode cX5_die 68 = .ok (.iaload, 1) := by decide +kernel
theorem dX5_die_69 : decode cX5_die 69 = .ok (.iload_n 1, 1) := by decide +kernel
theorem dX5_die_70 : decode cX5_die 70 = .ok (.if_icmp .eq 13, 3) := by decide +kernel
theorem dX5_die_73 : decode cX5_die 73 = .ok (.aload_n 0, 1) := by decide +kernel
theorem dX5_die_74 : decode cX5_die 74 = .ok (.getfield 44, 3) := by decide +kernel
theorem dX5_die_77 : decode cX5_die 77 = .ok (.iload_n 3, 1) := by decide +kernel
theorem dX5_die_78 : decode cX5_die 78 = .ok (.iaload, 1) := by decide +kernel
theorem dX5_die_79 : decode cX5_die 79 = .ok (.iload_n 1, 1) := by decide +kernel
theorem dX5_die_80 : decode cX5_die 80 = .ok (.if_icmp .ne 12, 3) := by decide +kernel
theorem dX5_die_83 : decode cX5_die 83 = .ok (.aload_n 0, 1) := by decide +kernel
theorem dX5_die_84 : decode cX5_die 84 = .ok (.iload_n 3, 1) := by decide +kernel
theorem dX5_die_85 : decode cX5_die 85 = .ok (.iconst 3, 1) := by decide +kernel
theorem dX5_die_86 : decode cX5_die 86 = .ok (.invokevirtual 120, 3) := by decide +kernel
theorem dX5_die_89 : decode cX5_die 89 = .ok (.iinc 2 1, 3) := by decide +kernel
theorem dX5_die_92 : decode cX5_die 92 = .ok (.iinc 3 1, 3) := by decide +kernel
theorem dX5_die_95 : decode cX5_die 95 = .ok (.goto (-49), 3) := by decide +kernel
theorem dX5_die_98 : decode cX5_die 98 = .ok (.iload_n 2, 1) := by decide +kernel
theorem dX5_die_99 : decode cX5_die 99 = .ok (.ireturn, 1) := by decide +kernel
def tab_X5_die : List (Nat × Sem) := [(0, op_al 0 1), (1, op_al 0 2), (2, op_il 1 3), (3, op_callV 7 sp_X5_isPerson 2 0 6), (6, op_if (fun x => ¬ x = 0) 13 9), (9, op_ic 1 10), (10, op_go 27), (13, op_al 0 14), (14, op_gf 7 7 17), (17, op_il 1 18), (18, op_bald 19), (19, op_if (fun x => x = 0) 26 22), (22, op_ic 2 23), (23, op_go 27), (26, op_ic 0 27), (27, op_callV 7 sp_X5_fails 2 0 30), (30, op_if (fun x => x = 0) 35 33), (33, op_ic 0 34), (34, op_iret), (35, op_al 0 36), (36, op_gf 7 7 39), (39, op_il 1 40), (40, op_ic 1 41), (41, op_bast 42), (42, op_ic 0 43), (43, op_is 2 44), (44, op_ic 0 45), (45, op_is 3 46), (46, op_il 3 47), (47, op_al 0 48), (48, op_gf 7 12 51), (51, op_cmp (fun x y => y ≤ x) 98 54), (54, op_al 0 55), (55, op_gf 7 19 58), (58, op_il 3 59), (59, op_iald 60), (60, op_if (fun x => ¬ x = 0) 92 63), (63, op_al 0 64), (64, op_gf 7 13 67), (67, op_il 3 68), (68, op_iald 69), (69, op_il 1 70), (70, op_cmp (fun x y => x = y) 83 73), (73, op_al 0 74), (74, op_gf 7 14 77), (77, op_il 3 78), (78, op_iald 79), (79, op_il 1 80), (80, op_cmp (fun x y => ¬ x = y) 92 83), (83, op_al 0 84), (84, op_il 3 85), (85, op_ic 3 86), (86, op_callV 7 sp_X5_ends 3 0 89), (89, op_inc 2 1 92), (92, op_inc 3 1 95), (95, op_go 46), (98, op_il 2 99), (99, op_iret)]
set_option maxRecDepth 20000 in
theorem tok_X5_die : ∀ q ∈ tab_X5_die, Snd RX5 cX5_die 4 2 0 (some .int) q.1 q.2 := by
  unfold tab_X5_die
  refine tcons (ok_aload_n dX5_die_0 rfl rfl) ?_
  refine tcons (ok_aload_n dX5_die_1 rfl rfl) ?_
  refine tcons (ok_iload_n dX5_die_2 rfl rfl) ?_
  refine tcons (ok_invokevirtual M_X5_isPerson (C := RX5) (T := TX5) (nf := 33) rfl w_1101 w_1103 w_19 w_49 w_1104 ⟨rfl, by decide, by decide, by decide +kernel⟩ (by decide) (by decide) dX5_die_3 rfl) ?_
  refine tcons (ok_if_ne dX5_die_6 rfl rfl) ?_
  refine tcons (ok_iconst dX5_die_9 rfl rfl) ?_
  refine tcons (ok_goto dX5_die_10 rfl) ?_
  refine tcons (ok_aload_n dX5_die_13 rfl rfl) ?_
  refine tcons (ok_getfield (C := RX5) (T := TX5) (n := 33) rfl in_X5 (by decide) w_1000 dX5_die_14 rfl) ?_
  refine tcons (ok_iload_n dX5_die_17 rfl rfl) ?_
  refine tcons (ok_baload dX5_die_18 rfl) ?_
  refine tcons (ok_if_eq dX5_die_19 rfl rfl) ?_
  refine tcons (ok_iconst dX5_die_22 rfl rfl) ?_
  refine tcons (ok_goto dX5_die_23 rfl) ?_
  refine tcons (ok_iconst dX5_die_26 rfl rfl) ?_
  refine tcons (ok_invokevirtual M_X5_fails (C := RX5) (T := TX5) (nf := 33) rfl w_1112 w_1114 w_20 w_49 w_1115 ⟨rfl, by decide, by decide, by decide +kernel⟩ (by decide) (by decide) dX5_die_27 rfl) ?_
  refine tcons (ok_if_eq dX5_die_30 rfl rfl) ?_
  refine tcons (ok_iconst dX5_die_33 rfl rfl) ?_
  refine tcons (ok_ireturn rfl dX5_die_34) ?_
  refine tcons (ok_aload_n dX5_die_35 rfl rfl) ?_
  refine tcons (ok_getfield (C := RX5) (T := TX5) (n := 33) rfl in_X5 (by decide) w_1000 dX5_die_36 rfl) ?_
  refine tcons (ok_iload_n dX5_die_39 rfl rfl) ?_
  refine tcons (ok_iconst dX5_die_40 rfl rfl) ?_
  refine tcons (ok_bastore dX5_die_41 rfl) ?_
  refine tcons (ok_iconst dX5_die_42 rfl rfl) ?_
  refine tcons (ok_istore_n dX5_die_43 rfl (by decide) rfl) ?_
  refine tcons (ok_iconst dX5_die_44 rfl rfl) ?_
  refine tcons (ok_istore_n dX5_die_45 rfl (by decide) rfl) ?_
  refine tcons (ok_iload_n dX5_die_46 rfl rfl) ?_
  refine tcons (ok_aload_n dX5_die_47 rfl rfl) ?_
  refine tcons (ok_getfield (C := RX5) (T := TX5) (n := 33) rfl in_X5 (by decide) w_1005 dX5_die_48 rfl) ?_
  refine tcons (ok_icmp_ge dX5_die_51 rfl rfl) ?_
  refine tcons (ok_aload_n dX5_die_54 rfl rfl) ?_
  refine tcons (ok_getfield (C := RX5) (T := TX5) (n := 33) rfl in_X5 (by decide) w_1012 dX5_die_55 rfl) ?_
  refine tcons (ok_iload_n dX5_die_58 rfl rfl) ?_
  refine tcons (ok_iaload dX5_die_59 rfl) ?_
  refine tcons (ok_if_ne dX5_die_60 rfl rfl) ?_
  refine tcons (ok_aload_n dX5_die_63 rfl rfl) ?_
  refine tcons (ok_getfield (C := RX5) (T := TX5) (n := 33) rfl in_X5 (by decide) w_1006 dX5_die_64 rfl) ?_
  refine tcons (ok_iload_n dX5_die_67 rfl rfl) ?_
  refine tcons (ok_iaload dX5_die_68 rfl) ?_
  refine tcons (ok_iload_n dX5_die_69 rfl rfl) ?_
  refine tcons (ok_icmp_eq dX5_die_70 rfl rfl) ?_
  refine tcons (ok_aload_n dX5_die_73 rfl rfl) ?_
  refine tcons (ok_getfield (C := RX5) (T := TX5) (n := 33) rfl in_X5 (by decide) w_1007 dX5_die_74 rfl) ?_
  refine tcons (ok_iload_n dX5_die_77 rfl rfl) ?_
  refine tcons (ok_iaload dX5_die_78 rfl) ?_
  refine tcons (ok_iload_n dX5_die_79 rfl rfl) ?_
  refine tcons (ok_icmp_ne dX5_die_80 rfl rfl) ?_
  refine tcons (ok_aload_n dX5_die_83 rfl rfl) ?_
  refine tcons (ok_iload_n dX5_die_84 rfl rfl) ?_
  refine tcons (ok_iconst dX5_die_85 rfl rfl) ?_
  refine tcons (ok_invokevirtual M_X5_ends (C := RX5) (T := TX5) (nf := 33) rfl w_1136 w_1138 w_21 w_49 w_1139 ⟨rfl, by decide, by decide, by decide +kernel⟩ (by decide) (by decide) dX5_die_86 rfl) ?_
  refine tcons (ok_iinc dX5_die_89 rfl (by decide) rfl) ?_
  refine tcons (ok_iinc dX5_die_92 rfl (by decide) rfl) ?_
  refine tcons (ok_goto dX5_die_95 rfl) ?_
  refine tcons (ok_iload_n dX5_die_98 rfl rfl) ?_
  refine tcons (ok_ireturn rfl dX5_die_99) ?_
  exact fun _ h => nomatch h
def sp_X5_die : Spc := fun av s N _ => match av with
  | [.inl (.inr (20, 0)), .inl (.inl p)] => MI s ∧ f2 (isP s p) (s.2.1 27 0 (cl p) = 0) (some (aI 0)) N s (N (some (aI (nI (dieN (stS (th s 0) 27 0 (cl p) 1) p (nvm s))))) (dieS (stS (th s 0) 27 0 (cl p) 1) p (nvm s)))
  | _ => False
set_option maxRecDepth 20000 in
set_option maxHeartbeats 2000000 in
theorem M_X5_die : AMet yX5_die cX5_die 4 (some .int) 2 0 sp_X5_die := by
  refine AMet.mc (own := RX5) (by decide) rfl [0, 1, 2, 3] rfl tok_X5_die 200 ?_
  intro av s0 N X h
  unfold sp_X5_die at h
  split at h
  rotate_left
  · exact h.elim
  rename_i p
  obtain ⟨hM, h1, h2, h3⟩ := h
  obtain ⟨-, ⟨n, hn, hv⟩, -⟩ := of_eq_true hM
  obtain ⟨s1, e1⟩ : ∃ z, z = stS (th s0 0) 27 0 (cl p) 1 := ⟨_, rfl⟩
  have hv1 : s1.2.1 20 0 12 = nI n := by rw [e1, stS_get, stS_get]; exact hv
  refine ⟨[(46, fun m u L st s => ∃ k, k ≤ n ∧ m = n - k ∧ u = 0 ∧ L = [(0, .inr (20, 0)), (1, .inl p), (2, .inl (nI (dieN s1 p k))), (3, .inl (nI k))] ∧ st = [] ∧ s = dieS s1 p k ∧ isP s0 p ∧ s0.2.1 27 0 (cl p) = 0)], ?_, ac ?_ an⟩
  · repeat' (first | apply And.intro | (intro q; exact absurd q (by decide)) | intro _)
    all_goals first | decide | (exact Nat.le_of_ble_eq_true rfl) | (exact Ib_of (MI_p hM (by assumption))) | (exact ⟨n, 4, trivial, 0, Nat.zero_le _, rfl, rfl, rfl, rfl, by rw [dieS_0, e1], by assumption, by assumption⟩) | (simp_all; done)
  · rintro m u L st s ⟨k, hk, rfl, rfl, rfl, rfl, rfl, hP, hD⟩
    have hvk : (dieS s1 p k).2.1 20 0 12 = nI n := by simp [dieS_get, hv1]
    have h20 : (dieS s1 p k).2.1 20 0 0 = s1.2.1 20 0 0 := by simp [dieS_get]
    have h39 : (dieS s1 p k).2.1 (20 + 19) 0 (nI k).toNatClampNeg = s1.2.1 39 0 k := by rw [nIc (Nat.le_trans hk hn) (by decide)]; simp [dieS_get]
    have h33 : (dieS s1 p k).2.1 (20 + 13) 0 (nI k).toNatClampNeg = s1.2.1 33 0 k := by rw [nIc (Nat.le_trans hk hn) (by decide)]; simp [dieS_get]
    have h34 : (dieS s1 p k).2.1 (20 + 14) 0 (nI k).toNatClampNeg = s1.2.1 34 0 k := by rw [nIc (Nat.le_trans hk hn) (by decide)]; simp [dieS_get]
    have hle : nI n ≤ nI k ↔ n ≤ k := nIge (Nat.le_trans hk hn) hn (by decide)
    have hck : cl (nI k) = k := nIc (Nat.le_trans hk hn) (by decide)
    have hout : n ≤ k → N (some (aI (nI (dieN s1 p k)))) (dieS s1 p k) := fun q => by
      obtain rfl : k = n := by omega
      have := h3 hP hD
      rw [← e1, nvm_eq hv hn] at this
      exact this
    clear e1
    repeat' (first | apply And.intro | (intro q; exact absurd q (by decide)) | intro _)
    all_goals try simp only [hvk, h39, h33, h34, hle, Nat.not_le, Classical.not_not] at *
    all_goals first | decide | (exact Nat.le_of_ble_eq_true rfl) | (exact hout (by assumption)) | (exact Ib_of (nI_vp (by omega) (by decide))) |
      (exact ⟨n - (k + 1), 4, by omega, k + 1, by omega, rfl, rfl, by simp [nIs, dieN, *], rfl, dieS_n (by simp [*]), hP, hD⟩) |
      (exact ⟨n - (k + 1), 4, by omega, k + 1, by omega, rfl, rfl, by simp [nIs, dieN, *], rfl, by rw [hck, h20]; exact dieS_s (by simp [*]), hP, hD⟩)
end
section
theorem Ib_nI {p : Int32} {N : Nat} (h : Ib p N) (hN : N < 2 ^ 30) : ∃ i, i < N ∧ p = nI i := by
  have hv := of_eq_true h
  obtain ⟨j, hj, rfl⟩ := nI_of (fun q => hv (Or.inl q))
  refine ⟨j, ?_, rfl⟩
  have := Nat.not_le.mp fun q => hv (Or.inr q)
  rw [nI_clamp hj] at this
  exact this
theorem nIb {k N : Nat} (h : k < N) (hN : N < 2 ^ 30) : Ib (nI k) N := Ib_of (nI_vp h hN)
theorem row24 (i k : Nat) : (24 : Int32) * nI i + nI k = nI (24 * i + k) := by rw [show (24 : Int32) = nI 24 from rfl, nIm, nI_add]
def stepK (a b : Int32) (r : Int32 × Int32) : Int32 × Int32 := if 100 ≤ a then r else if 100 ≤ b then r else
  (if r.1 ≤ a + b then r.1 else a + b, if r.1 ≤ a + b then (if a + b = r.1 then (if a = 0 then 1 else if b = 0 then 1 else if r.2 = 0 then 0 else 1) else (if r.2 = 0 then 0 else 1)) else (if a = 0 then 1 else if b = 0 then 1 else 0))
def kinR (f h : Nat → Int32) : Nat → Int32 × Int32
  | 0 => (200, 0)
  | k + 1 => stepK (f k) (h k) (kinR f h k)
def kinV (r : Int32 × Int32) : Int32 := if r.1 = 200 then -1 else 100 * r.1 + (if r.2 = 0 then 0 else 1)
/-- the steps' row of a person, in the model -/
def mrow (s : Sg) (i : Nat) : Nat → Int32 := fun k => s.2.1 28 0 (24 * i + k)
def kinM (s : Sg) (p q : Int32) : Int32 := kinV (kinR (mrow s (cl p)) (mrow s (cl q)) (npm s))
theorem dX5_kinOf_0 : decode cX5_kinOf 0 = .ok (.sipush 200, 3) := by decide +kernel
theorem dX5_kinOf_3 : decode cX5_kinOf 3 = .ok (.istore_n 3, 1) := by decide +kernel
theorem dX5_kinOf_4 : decode cX5_kinOf 4 = .ok (.iconst 0, 1) := by decide +kernel
theorem dX5_kinOf_5 : decode cX5_kinOf 5 = .ok (.istore 4, 2) := by decide +kernel
theorem dX5_kinOf_7 : decode cX5_kinOf 7 = .ok (.iconst 0, 1) := by decide +kernel
theorem dX5_kinOf_8 : decode cX5_kinOf 8 = .ok (.istore 5, 2) := by decide +kernel
theorem dX5_kinOf_10 : decode cX5_kinOf 10 = .ok (.iload 5, 2) := by decide +kernel
theorem dX5_kinOf_12 : decode cX5_kinOf 12 = .ok (.aload_n 0, 1) := by decide +kernel
theorem dX5_kinOf_13 : decode cX5_kinOf 13 = .ok (.getfield 96, 3) := by decide +kernel
theorem dX5_kinOf_16 : decode cX5_kinOf 16 = .ok (.if_icmp .ge 127, 3) := by decide +kernel
theorem dX5_kinOf_19 : decode cX5_kinOf 19 = .ok (.aload_n 0, 1) := by decide +kernel
theorem dX5_kinOf_20 : decode cX5_kinOf 20 = .ok (.getfield 29, 3) := by decide +kernel
theorem dX5_kinOf_23 : decode cX5_kinOf 23 = .ok (.bipush 24, 2) := by decide +kernel
theorem dX5_kinOf_25 : decode cX5_kinOf 25 = .ok (.iload_n 1, 1) := by decide +kernel
theorem dX5_kinOf_26 : decode cX5_kinOf 26 = .ok (.imul, 1) := by decide +kernel
theorem dX5_kinOf_27 : decode cX5_kinOf 27 = .ok (.iload 5, 2) := by decide +kernel
theorem dX5_kinOf_29 : decode cX5_kinOf 29 = .ok (.iadd, 1) := by decide +kernel
theorem dX5_kinOf_30 : decode cX5_kinOf 30 = .ok (.iaload, 1) := by decide +kernel
theorem dX5_kinOf_31 : decode cX5_kinOf 31 = .ok (.istore 6, 2) := by decide +kernel
theorem dX5_kinOf_33 : decode cX5_kinOf 33 = .ok (.aload_n 0, 1) := by decide +kernel
theorem dX5_kinOf_34 : decode cX5_kinOf 34 = .ok (.getfield 29, 3) := by decide +kernel
theorem dX5_kinOf_37 : decode cX5_kinOf 37 = .ok (.bipush 24, 2) := by decide +kernel
theorem dX5_kinOf_39 : decode cX5_kinOf 39 = .ok (.iload_n 2, 1) := by decide +kernel
theorem dX5_kinOf_40 : decode cX5_kinOf 40 = .ok (.imul, 1) := by decide +kernel
theorem dX5_kinOf_41 : decode cX5_kinOf 41 = .ok (.iload 5, 2) := by decide +kernel
theorem dX5_kinOf_43 : decode cX5_kinOf 43 = .ok (.iadd, 1) := by decide +kernel
theorem dX5_kinOf_44 : decode cX5_kinOf 44 = .ok (.iaload, 1) := by decide +kernel
theorem dX5_kinOf_45 : decode cX5_kinOf 45 = .ok (.istore 7, 2) := by decide +kernel
theorem dX5_kinOf_47 : decode cX5_kinOf 47 = .ok (.iload 6, 2) := by decide +kernel
theorem dX5_kinOf_49 : decode cX5_kinOf 49 = .ok (.bipush 100, 2) := by decide +kernel
theorem dX5_kinOf_51 : decode cX5_kinOf 51 = .ok (.if_icmp .ge 86, 3) := by decide +kernel
theorem dX5_kinOf_54 : decode cX5_kinOf 54 = .ok (.iload 7, 2) := by decide +kernel
theorem dX5_kinOf_56 : decode cX5_kinOf 56 = .ok (.bipush 100, 2) := by decide +kernel
theorem dX5_kinOf_58 : decode cX5_kinOf 58 = .ok (.if_icmp .ge 79, 3) := by decide +kernel
theorem dX5_kinOf_61 : decode cX5_kinOf 61 = .ok (.iload 6, 2) := by decide +kernel
theorem dX5_kinOf_63 : decode cX5_kinOf 63 = .ok (.ifCond .eq 8, 3) := by decide +kernel
theorem dX5_kinOf_66 : decode cX5_kinOf 66 = .ok (.iload 7, 2) := by decide +kernel
theorem dX5_kinOf_68 : decode cX5_kinOf 68 = .ok (.ifCond .ne 7, 3) := by decide +kernel
theorem dX5_kinOf_71 : decode cX5_kinOf 71 = .ok (.iconst 1, 1) := by decide +kernel
theorem dX5_kinOf_72 : decode cX5_kinOf 72 = .ok (.goto 4, 3) := by decide +kernel
theorem dX5_kinOf_75 : decode cX5_kinOf 75 = .ok (.iconst 0, 1) := by decide +kernel
theorem dX5_kinOf_76 : decode cX5_kinOf 76 = .ok (.istore 8, 2) := by decide +kernel
theorem dX5_kinOf_78 : decode cX5_kinOf 78 = .ok (.iload 6, 2) := by decide +kernel
theorem dX5_kinOf_80 : decode cX5_kinOf 80 = .ok (.iload 7, 2) := by decide +kernel
theorem dX5_kinOf_82 : decode cX5_kinOf 82 = .ok (.iadd, 1) := by decide +kernel
theorem dX5_kinOf_83 : decode cX5_kinOf 83 = .ok (.iload_n 3, 1) := by decide +kernel
theorem dX5_kinOf_84 : decode cX5_kinOf 84 = .ok (.if_icmp .ge 8, 3) := by decide +kernel
theorem dX5_kinOf_87 : decode cX5_kinOf 87 = .ok (.iload 8, 2) := by decide +kernel
theorem dX5_kinOf_89 : decode cX5_kinOf 89 = .ok (.goto 27, 3) := by decide +kernel
theorem dX5_kinOf_92 : decode cX5_kinOf 92 = .ok (.iload 6, 2) := by decide +kernel
theorem dX5_kinOf_94 : decode cX5_kinOf 94 = .ok (.iload 7, 2) := by decide +kernel
theorem dX5_kinOf_96 : decode cX5_kinOf 96 = .ok (.iadd, 1) := by decide +kernel
theorem dX5_kinOf_97 : decode cX5_kinOf 97 = .ok (.iload_n 3, 1) := by decide +kernel
theorem dX5_kinOf_98 : decode cX5_kinOf 98 = .ok (.if_icmp .ne 8, 3) := by decide +kernel
theorem dX5_kinOf_101 : decode cX5_kinOf 101 = .ok (.iload 8, 2) := by decide +kernel
theorem dX5_kinOf_103 : decode cX5_kinOf 103 = .ok (.ifCond .ne 8, 3) := by decide +kernel
theorem dX5_kinOf_106 : decode cX5_kinOf 106 = .ok (.iload 4, 2) := by decide +kernel
theorem dX5_kinOf_108 : decode cX5_kinOf 108 = .ok (.ifCond .eq 7, 3) := by decide +kernel
theorem dX5_kinOf_111 : decode cX5_kinOf 111 = .ok (.iconst 1, 1) := by decide +kernel
theorem dX5_kinOf_112 : decode cX5_kinOf 112 = .ok (.goto 4, 3) := by decide +kernel
theorem dX5_kinOf_115 : decode cX5_kinOf 115 = .ok (.iconst 0, 1) := by decide +kernel
theorem dX5_kinOf_116 : decode cX5_kinOf 116 = .ok (.istore 4, 2) := by decide +kernel
theorem dX5_kinOf_118 : decode cX5_kinOf 118 = .ok (.iload 6, 2) := by decide +kernel
theorem dX5_kinOf_120 : decode cX5_kinOf 120 = .ok (.iload 7, 2) := by decide +kernel
theorem dX5_kinOf_122 : decode cX5_kinOf 122 = .ok (.iadd, 1) := by decide +kernel
theorem dX5_kinOf_123 : decode cX5_kinOf 123 = .ok (.iload_n 3, 1) := by decide +kernel
theorem dX5_kinOf_124 : decode cX5_kinOf 124 = .ok (.if_icmp .ge 11, 3) := by decide +kernel
theorem dX5_kinOf_127 : decode cX5_kinOf 127 = .ok (.iload 6, 2) := by decide +kernel
theorem dX5_kinOf_129 : decode cX5_kinOf 129 = .ok (.iload 7, 2) := by decide +kernel
theorem dX5_kinOf_131 : decode cX5_kinOf 131 = .ok (.iadd, 1) := by decide +kernel
theorem dX5_kinOf_132 : decode cX5_kinOf 132 = .ok (.goto 4, 3) := by decide +kernel
theorem dX5_kinOf_135 : decode cX5_kinOf 135 = .ok (.iload_n 3, 1) := by decide +kernel
theorem dX5_kinOf_136 : decode cX5_kinOf 136 = .ok (.istore_n 3, 1) := by decide +kernel
theorem dX5_kinOf_137 : decode cX5_kinOf 137 = .ok (.iinc 5 1, 3) := by decide +kernel
theorem dX5_kinOf_140 : decode cX5_kinOf 140 = .ok (.goto (-130), 3) := by decide +kernel
theorem dX5_kinOf_143 : decode cX5_kinOf 143 = .ok (.iload_n 3, 1) := by decide +kernel
theorem dX5_kinOf_144 : decode cX5_kinOf 144 = .ok (.sipush 200, 3) := by decide +kernel
theorem dX5_kinOf_147 : decode cX5_kinOf 147 = .ok (.if_icmp .ne 7, 3) := by decide +kernel
theorem dX5_kinOf_150 : decode cX5_kinOf 150 = .ok (.iconst (-1), 1) := by decide +kernel
theorem dX5_kinOf_151 : decode cX5_kinOf 151 = .ok (.goto 18, 3) := by decide +kernel
theorem dX5_kinOf_154 : decode cX5_kinOf 154 = .ok (.bipush 100, 2) := by decide +kernel
theorem dX5_kinOf_156 : decode cX5_kinOf 156 = .ok (.iload_n 3, 1) := by decide +kernel
theorem dX5_kinOf_157 : decode cX5_kinOf 157 = .ok (.imul, 1) := by decide +kernel
theorem dX5_kinOf_158 : decode cX5_kinOf 158 = .ok (.iload 4, 2) := by decide +kernel
theorem dX5_kinOf_160 : decode cX5_kinOf 160 = .ok (.ifCond .eq 7, 3) := by decide +kernel
theorem dX5_kinOf_163 : decode cX5_kinOf 163 = .ok (.iconst 1, 1) := by decide +kernel
theorem dX5_kinOf_164 : decode cX5_kinOf 164 = .ok (.goto 4, 3) := by decide +kernel
theorem dX5_kinOf_167 : decode cX5_kinOf 167 = .ok (.iconst 0, 1) := by decide +kernel
theorem dX5_kinOf_168 : decode cX5_kinOf 168 = .ok (.iadd, 1) := by decide +kernel
theorem dX5_kinOf_169 : decode cX5_kinOf 169 = .ok (.ireturn, 1) := by decide +kernel
def tab_X5_kinOf : List (Nat × Sem) := [(0, op_ic 200 3), (3, op_is 3 4), (4, op_ic 0 5), (5, op_is 4 7), (7, op_ic 0 8), (8, op_is 5 10), (10, op_il 5 12), (12, op_al 0 13), (13, op_gf 7 1 16), (16, op_cmp (fun x y => y ≤ x) 143 19), (19, op_al 0 20), (20, op_gf 7 8 23), (23, op_ic 24 25), (25, op_il 1 26), (26, op_bin (fun x y => x * y) 27), (27, op_il 5 29), (29, op_bin (fun x y => x + y) 30), (30, op_iald 31), (31, op_is 6 33), (33, op_al 0 34), (34, op_gf 7 8 37), (37, op_ic 24 39), (39, op_il 2 40), (40, op_bin (fun x y => x * y) 41), (41, op_il 5 43), (43, op_bin (fun x y => x + y) 44), (44, op_iald 45), (45, op_is 7 47), (47, op_il 6 49), (49, op_ic 100 51), (51, op_cmp (fun x y => y ≤ x) 137 54), (54, op_il 7 56), (56, op_ic 100 58), (58, op_cmp (fun x y => y ≤ x) 137 61), (61, op_il 6 63), (63, op_if (fun x => x = 0) 71 66), (66, op_il 7 68), (68, op_if (fun x => ¬ x = 0) 75 71), (71, op_ic 1 72), (72, op_go 76), (75, op_ic 0 76), (76, op_is 8 78), (78, op_il 6 80), (80, op_il 7 82), (82, op_bin (fun x y => x + y) 83), (83, op_il 3 84), (84, op_cmp (fun x y => y ≤ x) 92 87), (87, op_il 8 89), (89, op_go 116), (92, op_il 6 94), (94, op_il 7 96), (96, op_bin (fun x y => x + y) 97), (97, op_il 3 98), (98, op_cmp (fun x y => ¬ x = y) 106 101), (101, op_il 8 103), (103, op_if (fun x => ¬ x = 0) 111 106), (106, op_il 4 108), (108, op_if (fun x => x = 0) 115 111), (111, op_ic 1 112), (112, op_go 116), (115, op_ic 0 116), (116, op_is 4 118), (118, op_il 6 120), (120, op_il 7 122), (122, op_bin (fun x y => x + y) 123), (123, op_il 3 124), (124, op_cmp (fun x y => y ≤ x) 135 127), (127, op_il 6 129), (129, op_il 7 131), (131, op_bin (fun x y => x + y) 132), (132, op_go 136), (135, op_il 3 136), (136, op_is 3 137), (137, op_inc 5 1 140), (140, op_go 10), (143, op_il 3 144), (144, op_ic 200 147), (147, op_cmp (fun x y => ¬ x = y) 154 150), (150, op_ic (-1) 151), (151, op_go 169), (154, op_ic 100 156), (156, op_il 3 157), (157, op_bin (fun x y => x * y) 158), (158, op_il 4 160), (160, op_if (fun x => x = 0) 167 163), (163, op_ic 1 164), (164, op_go 168), (167, op_ic 0 168), (168, op_bin (fun x y => x + y) 169), (169, op_iret)]
set_option maxRecDepth 20000 in
theorem tok_X5_kinOf : ∀ q ∈ tab_X5_kinOf, Snd RX5 cX5_kinOf 9 0 0 (some .int) q.1 q.2 := by
  unfold tab_X5_kinOf
  refine tcons (ok_sipush dX5_kinOf_0 rfl rfl) ?_
  refine tcons (ok_istore_n dX5_kinOf_3 rfl (by decide) rfl) ?_
  refine tcons (ok_iconst dX5_kinOf_4 rfl rfl) ?_
  refine tcons (ok_istore dX5_kinOf_5 (by decide) rfl) ?_
  refine tcons (ok_iconst dX5_kinOf_7 rfl rfl) ?_
  refine tcons (ok_istore dX5_kinOf_8 (by decide) rfl) ?_
  refine tcons (ok_iload dX5_kinOf_10 rfl) ?_
  refine tcons (ok_aload_n dX5_kinOf_12 rfl rfl) ?_
  refine tcons (ok_getfield (C := RX5) (T := TX5) (n := 33) rfl in_X5 (by decide) w_994 dX5_kinOf_13 rfl) ?_
  refine tcons (ok_icmp_ge dX5_kinOf_16 rfl rfl) ?_
  refine tcons (ok_aload_n dX5_kinOf_19 rfl rfl) ?_
  refine tcons (ok_getfield (C := RX5) (T := TX5) (n := 33) rfl in_X5 (by decide) w_1001 dX5_kinOf_20 rfl) ?_
  refine tcons (ok_bipush dX5_kinOf_23 rfl rfl) ?_
  refine tcons (ok_iload_n dX5_kinOf_25 rfl rfl) ?_
  refine tcons (ok_imul dX5_kinOf_26 rfl) ?_
  refine tcons (ok_iload dX5_kinOf_27 rfl) ?_
  refine tcons (ok_iadd dX5_kinOf_29 rfl) ?_
  refine tcons (ok_iaload dX5_kinOf_30 rfl) ?_
  refine tcons (ok_istore dX5_kinOf_31 (by decide) rfl) ?_
  refine tcons (ok_aload_n dX5_kinOf_33 rfl rfl) ?_
  refine tcons (ok_getfield (C := RX5) (T := TX5) (n := 33) rfl in_X5 (by decide) w_1001 dX5_kinOf_34 rfl) ?_
  refine tcons (ok_bipush dX5_kinOf_37 rfl rfl) ?_
  refine tcons (ok_iload_n dX5_kinOf_39 rfl rfl) ?_
  refine tcons (ok_imul dX5_kinOf_40 rfl) ?_
  refine tcons (ok_iload dX5_kinOf_41 rfl) ?_
  refine tcons (ok_iadd dX5_kinOf_43 rfl) ?_
  refine tcons (ok_iaload dX5_kinOf_44 rfl) ?_
  refine tcons (ok_istore dX5_kinOf_45 (by decide) rfl) ?_
  refine tcons (ok_iload dX5_kinOf_47 rfl) ?_
  refine tcons (ok_bipush dX5_kinOf_49 rfl rfl) ?_
  refine tcons (ok_icmp_ge dX5_kinOf_51 rfl rfl) ?_
  refine tcons (ok_iload dX5_kinOf_54 rfl) ?_
  refine tcons (ok_bipush dX5_kinOf_56 rfl rfl) ?_
  refine tcons (ok_icmp_ge dX5_kinOf_58 rfl rfl) ?_
  refine tcons (ok_iload dX5_kinOf_61 rfl) ?_
  refine tcons (ok_if_eq dX5_kinOf_63 rfl rfl) ?_
  refine tcons (ok_iload dX5_kinOf_66 rfl) ?_
  refine tcons (ok_if_ne dX5_kinOf_68 rfl rfl) ?_
  refine tcons (ok_iconst dX5_kinOf_71 rfl rfl) ?_
  refine tcons (ok_goto dX5_kinOf_72 rfl) ?_
  refine tcons (ok_iconst dX5_kinOf_75 rfl rfl) ?_
  refine tcons (ok_istore dX5_kinOf_76 (by decide) rfl) ?_
  refine tcons (ok_iload dX5_kinOf_78 rfl) ?_
  refine tcons (ok_iload dX5_kinOf_80 rfl) ?_
  refine tcons (ok_iadd dX5_kinOf_82 rfl) ?_
  refine tcons (ok_iload_n dX5_kinOf_83 rfl rfl) ?_
  refine tcons (ok_icmp_ge dX5_kinOf_84 rfl rfl) ?_
  refine tcons (ok_iload dX5_kinOf_87 rfl) ?_
  refine tcons (ok_goto dX5_kinOf_89 rfl) ?_
  refine tcons (ok_iload dX5_kinOf_92 rfl) ?_
  refine tcons (ok_iload dX5_kinOf_94 rfl) ?_
  refine tcons (ok_iadd dX5_kinOf_96 rfl) ?_
  refine tcons (ok_iload_n dX5_kinOf_97 rfl rfl) ?_
  refine tcons (ok_icmp_ne dX5_kinOf_98 rfl rfl) ?_
  refine tcons (ok_iload dX5_kinOf_101 rfl) ?_
  refine tcons (ok_if_ne dX5_kinOf_103 rfl rfl) ?_
  refine tcons (ok_iload dX5_kinOf_106 rfl) ?_
  refine tcons (ok_if_eq dX5_kinOf_108 rfl rfl) ?_
  refine tcons (ok_iconst dX5_kinOf_111 rfl rfl) ?_
  refine tcons (ok_goto dX5_kinOf_112 rfl) ?_
  refine tcons (ok_iconst dX5_kinOf_115 rfl rfl) ?_
  refine tcons (ok_istore dX5_kinOf_116 (by decide) rfl) ?_
  refine tcons (ok_iload dX5_kinOf_118 rfl) ?_
  refine tcons (ok_iload dX5_kinOf_120 rfl) ?_
  refine tcons (ok_iadd dX5_kinOf_122 rfl) ?_
  refine tcons (ok_iload_n dX5_kinOf_123 rfl rfl) ?_
  refine tcons (ok_icmp_ge dX5_kinOf_124 rfl rfl) ?_
  refine tcons (ok_iload dX5_kinOf_127 rfl) ?_
  refine tcons (ok_iload dX5_kinOf_129 rfl) ?_
  refine tcons (ok_iadd dX5_kinOf_131 rfl) ?_
  refine tcons (ok_goto dX5_kinOf_132 rfl) ?_
  refine tcons (ok_iload_n dX5_kinOf_135 rfl rfl) ?_
  refine tcons (ok_istore_n dX5_kinOf_136 rfl (by decide) rfl) ?_
  refine tcons (ok_iinc dX5_kinOf_137 rfl (by decide) rfl) ?_
  refine tcons (ok_goto dX5_kinOf_140 rfl) ?_
  refine tcons (ok_iload_n dX5_kinOf_143 rfl rfl) ?_
  refine tcons (ok_sipush dX5_kinOf_144 rfl rfl) ?_
  refine tcons (ok_icmp_ne dX5_kinOf_147 rfl rfl) ?_
  refine tcons (ok_iconst dX5_kinOf_150 rfl rfl) ?_
  refine tcons (ok_goto dX5_kinOf_151 rfl) ?_
  refine tcons (ok_bipush dX5_kinOf_154 rfl rfl) ?_
  refine tcons (ok_iload_n dX5_kinOf_156 rfl rfl) ?_
  refine tcons (ok_imul dX5_kinOf_157 rfl) ?_
  refine tcons (ok_iload dX5_kinOf_158 rfl) ?_
  refine tcons (ok_if_eq dX5_kinOf_160 rfl rfl) ?_
  refine tcons (ok_iconst dX5_kinOf_163 rfl rfl) ?_
  refine tcons (ok_goto dX5_kinOf_164 rfl) ?_
  refine tcons (ok_iconst dX5_kinOf_167 rfl rfl) ?_
  refine tcons (ok_iadd dX5_kinOf_168 rfl) ?_
  refine tcons (ok_ireturn rfl dX5_kinOf_169) ?_
  exact fun _ h => nomatch h
def sp_X5_kinOf : Spc := fun av s N _ => match av with
  | [.inl (.inr (20, 0)), .inl (.inl p), .inl (.inl q)] => MI s ∧ Ib p 24 ∧ Ib q 24 ∧ N (some (aI (kinM s p q))) s
  | _ => False
set_option maxRecDepth 20000 in
set_option maxHeartbeats 2000000 in
theorem M_X5_kinOf : AMet yX5_kinOf cX5_kinOf 9 (some .int) 0 0 sp_X5_kinOf := by
  refine AMet.mc (own := RX5) (by decide) rfl [0, 1, 2, 3, 4, 5, 6, 7, 8] rfl tok_X5_kinOf 200 ?_
  intro av s0 N X h
  unfold sp_X5_kinOf at h
  split at h
  rotate_left
  · exact h.elim
  obtain ⟨hM, hp, hq, h⟩ := h
  obtain ⟨i, hi, rfl⟩ := Ib_nI hp (by decide)
  obtain ⟨j, hj, rfl⟩ := Ib_nI hq (by decide)
  obtain ⟨⟨n, hn, hv⟩, -, -⟩ := of_eq_true hM
  unfold kinM at h
  rw [npm_eq hv hn] at h
  rw [show cl (nI i) = i from nI_clamp (by omega), show cl (nI j) = j from nI_clamp (by omega)] at h
  obtain ⟨f, hf⟩ : ∃ z, z = mrow s0 i := ⟨_, rfl⟩
  obtain ⟨g, hg⟩ : ∃ z, z = mrow s0 j := ⟨_, rfl⟩
  rw [← hf, ← hg] at h
  refine ⟨[(10, fun m u L st s => ∃ k, k ≤ n ∧ m = n - k ∧ u = 0 ∧ L = [(0, .inr (20, 0)), (1, .inl (nI i)), (2, .inl (nI j)), (3, .inl (kinR f g k).1), (4, .inl (kinR f g k).2), (5, .inl (nI k))] ∧ st = [] ∧ s = s0)], ?_, ac ?_ an⟩
  · repeat' (first | apply And.intro | (intro q; exact absurd q (by decide)) | intro _)
    all_goals first | decide | (exact Nat.le_of_ble_eq_true rfl) | (exact ⟨n, 6, trivial, 0, Nat.zero_le _, rfl, rfl, rfl, rfl, rfl⟩)
  · rintro m u L st s ⟨k, hk, rfl, rfl, rfl, rfl, rfl⟩
    by_cases hkn : k < n
    · have hle : ¬ nI n ≤ nI k := fun q => by have := (nIge (Nat.le_trans hk hn) hn (by decide)).mp q; omega
      have hf1 : s.2.1 (20 + 8) 0 ((24 : Int32) * nI i + nI k).toNatClampNeg = f k := by rw [row24, nI_clamp (by omega), hf]; rfl
      have hg1 : s.2.1 (20 + 8) 0 ((24 : Int32) * nI j + nI k).toNatClampNeg = g k := by rw [row24, nI_clamp (by omega), hg]; rfl
      have hb1 : Ib ((24 : Int32) * nI i + nI k) 576 := by rw [row24]; exact nIb (by omega) (by decide)
      have hb2 : Ib ((24 : Int32) * nI j + nI k) 576 := by rw [row24]; exact nIb (by omega) (by decide)
      clear hf hg h hM hp hq
      repeat' (first | apply And.intro | (intro q; exact absurd q (by decide)) | (intro q; exact absurd (by rw [← hv]; exact q) hle) | intro _)
      all_goals first | decide | (exact Nat.le_of_ble_eq_true rfl) | exact hb1 | exact hb2 |
        (exact ⟨n - (k + 1), 6, by omega, k + 1, by omega, rfl, rfl, by simp_all [-Int32.not_le, -Int32.not_lt, kinR, stepK, nIs], rfl, rfl⟩)
    · obtain rfl : k = n := by omega
      have hle : s.2.1 20 0 1 ≤ nI k := by rw [hv]; exact nI_le (Nat.le_refl _) (by omega)
      clear hf hg hM hp hq
      repeat' (first | apply And.intro | (intro q; exact absurd q (by decide)) | (intro q; exact absurd hle q) | intro _)
      all_goals first | decide | (exact Nat.le_of_ble_eq_true rfl) | (simp_all [kinV]; done)
end
section
theorem allS {Q : Nat → Prop} {k : Nat} (h : ∀ c, c < k → Q c) (hk : Q k) : ∀ c, c < k + 1 → Q c := fun c hc => by
  by_cases e : c = k
  · rw [e]; exact hk
  · exact h c (by omega)
theorem exS {Q : Nat → Prop} {k : Nat} (h : ∃ c, c < k ∧ Q c) : ∃ c, c < k + 1 ∧ Q c := by
  obtain ⟨c, h1, h2⟩ := h
  exact ⟨c, by omega, h2⟩
/-- a cause that does not keep a vow from the court -/
def qtQ (s : Sg) (v b : Int32) (c : Nat) : Prop := nI c = b ∨ ¬ s.2.1 42 0 c = v ∨ s.2.1 44 0 c = 2 ∨ s.2.1 44 0 c = 3
/-- all causes of a vow are over, but perhaps one -/
def quietM (s : Sg) (v b : Int32) : Prop := ∀ c, c < ncm s → qtQ s v b c
theorem dX5_isQuiet_0 : decode cX5_isQuiet 0 = .ok (.iconst 1, 1) := by decide +kernel
theorem dX5_isQuiet_1 : decode cX5_isQuiet 1 = .ok (.istore_n 3, 1) := by decide +kernel
theorem dX5_isQuiet_2 : decode cX5_isQuiet 2 = .ok (.iconst 0, 1) := by decide +kernel
theorem dX5_isQuiet_3 : decode cX5_isQuiet 3 = .ok (.istore 4, 2) := by decide +kernel
theorem dX5_isQuiet_5 : decode cX5_isQuiet 5 = .ok (.iload 4, 2) := by decide +kernel
theorem dX5_isQuiet_7 : decode cX5_isQuiet 7 = .ok (.aload_n 0, 1) := by decide +kernel
theorem dX5_isQuiet_8 : decode cX5_isQuiet 8 = .ok (.getfield 161, 3) := by decide +kernel
theorem dX5_isQuiet_11 : decode cX5_isQuiet 11 = .ok (.if_icmp .ge 49, 3) := by decide +kernel
theorem dX5_isQuiet_14 : decode cX5_isQuiet 14 = .ok (.iload_n 3, 1) := by decide +kernel
theorem dX5_isQuiet_15 : decode cX5_isQuiet 15 = .ok (.ifCond .eq 37, 3) := by decide +kernel
theorem dX5_isQuiet_18 : decode cX5_isQuiet 18 = .ok (.iload 4, 2) := by decide +kernel
theorem dX5_isQuiet_20 : decode cX5_isQuiet 20 = .ok (.iload_n 2, 1) := by decide +kernel
theorem dX5_isQuiet_21 : decode cX5_isQuiet 21 = .ok (.if_icmp .eq 27, 3) := by decide +kernel
theorem dX5_isQuiet_24 : decode cX5_isQuiet 24 = .ok (.aload_n 0, 1) := by decide +kernel
theorem dX5_isQuiet_25 : decode cX5_isQuiet 25 = .ok (.getfield 65, 3) := by decide +kernel
theorem dX5_isQuiet_28 : decode cX5_isQuiet 28 = .ok (.iload 4, 2) := by decide +kernel
theorem dX5_isQuiet_30 : decode cX5_isQuiet 30 = .ok (.iaload, 1) := by decide +kernel
theorem dX5_isQuiet_31 : decode cX5_isQuiet 31 = .ok (.iload_n 1, 1) := by decide +kernel
theorem dX5_isQuiet_32 : decode cX5_isQuiet 32 = .ok (.if_icmp .ne 16, 3) := by decide +kernel
theorem dX5_isQuiet_35 : decode cX5_isQuiet 35 = .ok (.aload_n 0, 1) := by decide +kernel
theorem dX5_isQuiet_36 : decode cX5_isQuiet 36 = .ok (.getfield 71, 3) := by decide +kernel
theorem dX5_isQuiet_39 : decode cX5_isQuiet 39 = .ok (.iload 4, 2) := by decide +kernel
theorem dX5_isQuiet_41 : decode cX5_isQuiet 41 = .ok (.iaload, 1) := by decide +kernel
theorem dX5_isQuiet_42 : decode cX5_isQuiet 42 = .ok (.invokestatic 164, 3) := by decide +kernel
theorem dX5_isQuiet_45 : decode cX5_isQuiet 45 = .ok (.ifCond .eq 7, 3) := by decide +kernel
theorem dX5_isQuiet_48 : decode cX5_isQuiet 48 = .ok (.iconst 1, 1) := by decide +kernel
theorem dX5_isQuiet_49 : decode cX5_isQuiet 49 = .ok (.goto 4, 3) := by decide +kernel
theorem dX5_isQuiet_52 : decode cX5_isQuiet 52 = .ok (.iconst 0, 1) := by decide +kernel
theorem dX5_isQuiet_53 : decode cX5_isQuiet 53 = .ok (.istore_n 3, 1) := by decide +kernel
theorem dX5_isQuiet_54 : decode cX5_isQuiet 54 = .ok (.iinc 4 1, 3) := by decide +kernel
theorem dX5_isQuiet_57 : decode cX5_isQuiet 57 = .ok (.goto (-52), 3) := by decide +kernel
theorem dX5_isQuiet_60 : decode cX5_isQuiet 60 = .ok (.iload_n 3, 1) := by decide +kernel
theorem dX5_isQuiet_61 : decode cX5_isQuiet 61 = .ok (.ireturn, 1) := by decide +kernel
def tab_X5_isQuiet : List (Nat × Sem) := [(0, op_ic 1 1), (1, op_is 3 2), (2, op_ic 0 3), (3, op_is 4 5), (5, op_il 4 7), (7, op_al 0 8), (8, op_gf 7 21 11), (11, op_cmp (fun x y => y ≤ x) 60 14), (14, op_il 3 15), (15, op_if (fun x => x = 0) 52 18), (18, op_il 4 20), (20, op_il 2 21), (21, op_cmp (fun x y => x = y) 48 24), (24, op_al 0 25), (25, op_gf 7 22 28), (28, op_il 4 30), (30, op_iald 31), (31, op_il 1 32), (32, op_cmp (fun x y => ¬ x = y) 48 35), (35, op_al 0 36), (36, op_gf 7 24 39), (39, op_il 4 41), (41, op_iald 42), (42, op_call sp_X5_isOver 1 0 45), (45, op_if (fun x => x = 0) 52 48), (48, op_ic 1 49), (49, op_go 53), (52, op_ic 0 53), (53, op_is 3 54), (54, op_inc 4 1 57), (57, op_go 5), (60, op_il 3 61), (61, op_zret)]
set_option maxRecDepth 20000 in
theorem tok_X5_isQuiet : ∀ q ∈ tab_X5_isQuiet, Snd RX5 cX5_isQuiet 5 1 0 (some .boolean) q.1 q.2 := by
  unfold tab_X5_isQuiet
  refine tcons (ok_iconst dX5_isQuiet_0 rfl rfl) ?_
  refine tcons (ok_istore_n dX5_isQuiet_1 rfl (by decide) rfl) ?_
  refine tcons (ok_iconst dX5_isQuiet_2 rfl rfl) ?_
  refine tcons (ok_istore dX5_isQuiet_3 (by decide) rfl) ?_
  refine tcons (ok_iload dX5_isQuiet_5 rfl) ?_
  refine tcons (ok_aload_n dX5_isQuiet_7 rfl rfl) ?_
  refine tcons (ok_getfield (C := RX5) (T := TX5) (n := 33) rfl in_X5 (by decide) w_1014 dX5_isQuiet_8 rfl) ?_
  refine tcons (ok_icmp_ge dX5_isQuiet_11 rfl rfl) ?_
  refine tcons (ok_iload_n dX5_isQuiet_14 rfl rfl) ?_
  refine tcons (ok_if_eq dX5_isQuiet_15 rfl rfl) ?_
  refine tcons (ok_iload dX5_isQuiet_18 rfl) ?_
  refine tcons (ok_iload_n dX5_isQuiet_20 rfl rfl) ?_
  refine tcons (ok_icmp_eq dX5_isQuiet_21 rfl rfl) ?_
  refine tcons (ok_aload_n dX5_isQuiet_24 rfl rfl) ?_
  refine tcons (ok_getfield (C := RX5) (T := TX5) (n := 33) rfl in_X5 (by decide) w_1015 dX5_isQuiet_25 rfl) ?_
  refine tcons (ok_iload dX5_isQuiet_28 rfl) ?_
  refine tcons (ok_iaload dX5_isQuiet_30 rfl) ?_
  refine tcons (ok_iload_n dX5_isQuiet_31 rfl rfl) ?_
  refine tcons (ok_icmp_ne dX5_isQuiet_32 rfl rfl) ?_
  refine tcons (ok_aload_n dX5_isQuiet_35 rfl rfl) ?_
  refine tcons (ok_getfield (C := RX5) (T := TX5) (n := 33) rfl in_X5 (by decide) w_1017 dX5_isQuiet_36 rfl) ?_
  refine tcons (ok_iload dX5_isQuiet_39 rfl) ?_
  refine tcons (ok_iaload dX5_isQuiet_41 rfl) ?_
  refine tcons (ok_invokestatic M_X5_isOver w_1210 w_1211 w_49 w_1212 ⟨by decide, by decide, by decide +kernel⟩ (by decide) (by decide) dX5_isQuiet_42 rfl) ?_
  refine tcons (ok_if_eq dX5_isQuiet_45 rfl rfl) ?_
  refine tcons (ok_iconst dX5_isQuiet_48 rfl rfl) ?_
  refine tcons (ok_goto dX5_isQuiet_49 rfl) ?_
  refine tcons (ok_iconst dX5_isQuiet_52 rfl rfl) ?_
  refine tcons (ok_istore_n dX5_isQuiet_53 rfl (by decide) rfl) ?_
  refine tcons (ok_iinc dX5_isQuiet_54 rfl (by decide) rfl) ?_
  refine tcons (ok_goto dX5_isQuiet_57 rfl) ?_
  refine tcons (ok_iload_n dX5_isQuiet_60 rfl rfl) ?_
  refine tcons (ok_zreturn rfl (Or.inl rfl) dX5_isQuiet_61) ?_
  exact fun _ h => nomatch h
def sp_X5_isQuiet : Spc := fun av s N _ => match av with
  | [.inl (.inr (20, 0)), .inl (.inl v), .inl (.inl b)] => MI s ∧ br (quietM s v b) N s
  | _ => False
set_option maxRecDepth 20000 in
set_option maxHeartbeats 2000000 in
theorem M_X5_isQuiet : AMet yX5_isQuiet cX5_isQuiet 5 (some .boolean) 1 0 sp_X5_isQuiet := by
  refine AMet.mc (own := RX5) (by decide) rfl [0, 1, 2, 3, 4] rfl tok_X5_isQuiet 200 ?_
  intro av s0 N X h
  unfold sp_X5_isQuiet at h
  split at h
  rotate_left
  · exact h.elim
  rename_i v b
  obtain ⟨hM, h⟩ := h
  obtain ⟨-, -, ⟨n, hn, hv⟩⟩ := of_eq_true hM
  unfold quietM at h
  rw [ncm_eq hv hn] at h
  refine ⟨[(5, fun m u L st s => ∃ k x, k ≤ n ∧ m = n - k ∧ u = 0 ∧ L = [(0, .inr (20, 0)), (1, .inl v), (2, .inl b), (3, .inl x), (4, .inl (nI k))] ∧ st = [] ∧ s = s0 ∧ ((x = 1 ∧ ∀ c, c < k → qtQ s v b c) ∨ (x = 0 ∧ ∃ c, c < k ∧ ¬ qtQ s v b c)))], ?_, ac ?_ an⟩
  · repeat' (first | apply And.intro | (intro q; exact absurd q (by decide)) | intro _)
    all_goals first | decide | (exact Nat.le_of_ble_eq_true rfl) | (exact ⟨n, 5, trivial, 0, 1, Nat.zero_le _, rfl, rfl, rfl, rfl, rfl, Or.inl ⟨rfl, fun c hc => absurd hc (Nat.not_lt_zero c)⟩⟩)
  · rintro m u L st s ⟨k, x, hk, rfl, rfl, rfl, rfl, rfl, hx⟩
    by_cases hkn : k < n
    · have hle : ¬ nI n ≤ nI k := fun q => by have := (nIge (Nat.le_trans hk hn) hn (by decide)).mp q; omega
      have e1 : (nI k).toNatClampNeg = k := nI_clamp (by omega)
      have hb1 : Ib (nI k) 30 := nIb (by omega) (by decide)
      clear h hM
      rcases hx with ⟨rfl, hx⟩ | ⟨rfl, hx⟩
      all_goals repeat' (first | apply And.intro | (intro q; exact absurd q (by decide)) | (intro q; exact absurd (by rw [← hv]; exact q) hle) | intro _)
      all_goals first | decide | (exact Nat.le_of_ble_eq_true rfl) | exact hb1 |
        (exact ⟨n - (k + 1), 5, by omega, k + 1, 1, by omega, rfl, rfl, by rw [← nIs]; rfl, rfl, rfl, Or.inl ⟨rfl, allS hx (by simp_all [qtQ])⟩⟩) |
        (exact ⟨n - (k + 1), 5, by omega, k + 1, 0, by omega, rfl, rfl, by rw [← nIs]; rfl, rfl, rfl, Or.inr ⟨rfl, exS hx⟩⟩) |
        (exact ⟨n - (k + 1), 5, by omega, k + 1, 0, by omega, rfl, rfl, by rw [← nIs]; rfl, rfl, rfl, Or.inr ⟨rfl, k, by omega, by simp_all [qtQ]⟩⟩)
    · obtain rfl : k = n := by omega
      have hle : s.2.1 20 0 21 ≤ nI k := by rw [hv]; exact nI_le (Nat.le_refl _) (by omega)
      clear hM
      rcases hx with ⟨rfl, hx⟩ | ⟨rfl, hx⟩
      all_goals repeat' (first | apply And.intro | (intro q; exact absurd q (by decide)) | (intro q; exact absurd hle q) | intro _)
      all_goals first | decide | (exact Nat.le_of_ble_eq_true rfl) | (exact h.1 hx) | (exact h.2 (fun q => by obtain ⟨c, h1, h2⟩ := hx; exact h2 (q c h1)))
theorem or0 (x : Int32) : x ||| 0 = x := by simp
theorem or44 (x : Int32) : x ||| 4 ||| 4 = x ||| 4 := by rw [Int32.or_assoc]; rfl
theorem or40 (x : Int32) : x ||| 4 ||| 0 = x ||| 4 := or0 _
/-- a vow binds on a day (the model's) -/
def mbd (s : Sg) (t : Int32) (k : Nat) : Prop := ¬ t < s.2.1 36 0 k ∧ ¬ s.2.1 39 0 k = 1 ∧ (s.2.1 39 0 k = 0 ∨ t < s.2.1 40 0 k)
def mof (s : Sg) (p : Int32) (k : Nat) : Prop := s.2.1 33 0 k = p ∨ s.2.1 34 0 k = p
def hbQ (s : Sg) (i k : Nat) : Prop := (mof s (s.2.1 33 0 i) k ∨ mof s (s.2.1 34 0 i) k) ∧ mbd s (s.2.1 36 0 i) k
theorem dX5_hinderedBy_0 : decode cX5_hinderedBy 0 = .ok (.aload_n 0, 1) := by decide +kernel
theorem dX5_hinderedBy_1 : decode cX5_hinderedBy 1 = .ok (.getfield 56, 3) := by decide +kernel
theorem dX5_hinderedBy_4 : decode cX5_hinderedBy 4 = .ok (.iload_n 1, 1) := by decide +kernel
theorem dX5_hinderedBy_5 : decode cX5_hinderedBy 5 = .ok (.iaload, 1) := by decide +kernel
theorem dX5_hinderedBy_6 : decode cX5_hinderedBy 6 = .ok (.istore_n 2, 1) := by decide +kernel
theorem dX5_hinderedBy_7 : decode cX5_hinderedBy 7 = .ok (.iconst 0, 1) := by decide +kernel
theorem dX5_hinderedBy_8 : decode cX5_hinderedBy 8 = .ok (.istore_n 3, 1) := by decide +kernel
theorem dX5_hinderedBy_9 : decode cX5_hinderedBy 9 = .ok (.iload_n 3, 1) := by decide +kernel
theorem dX5_hinderedBy_10 : decode cX5_hinderedBy 10 = .ok (.iload_n 1, 1) := by decide +kernel
theorem dX5_hinderedBy_11 : decode cX5_hinderedBy 11 = .ok (.if_icmp .ge 59, 3) := by decide +kernel
theorem dX5_hinderedBy_14 : decode cX5_hinderedBy 14 = .ok (.iload_n 2, 1) := by decide +kernel
theorem dX5_hinderedBy_15 : decode cX5_hinderedBy 15 = .ok (.aload_n 0, 1) := by decide +kernel
theorem dX5_hinderedBy_16 : decode cX5_hinderedBy 16 = .ok (.iload_n 3, 1) := by decide +kernel
theorem dX5_hinderedBy_17 : decode cX5_hinderedBy 17 = .ok (.aload_n 0, 1) := by decide +kernel
theorem dX5_hinderedBy_18 : decode cX5_hinderedBy 18 = .ok (.getfield 41, 3) := by decide +kernel
theorem dX5_hinderedBy_21 : decode cX5_hinderedBy 21 = .ok (.iload_n 1, 1) := by decide +kernel
theorem dX5_hinderedBy_22 : decode cX5_hinderedBy 22 = .ok (.iaload, 1) := by decide +kernel
theorem dX5_hinderedBy_23 : decode cX5_hinderedBy 23 = .ok (.invokevirtual 148, 3) := by decide +kernel
theorem dX5_hinderedBy_26 : decode cX5_hinderedBy 26 = .ok (.ifCond .ne 17, 3) := by decide +kernel
theorem dX5_hinderedBy_29 : decode cX5_hinderedBy 29 = .ok (.aload_n 0, 1) := by decide +kernel
theorem dX5_hinderedBy_30 : decode cX5_hinderedBy 30 = .ok (.iload_n 3, 1) := by decide +kernel
theorem dX5_hinderedBy_31 : decode cX5_hinderedBy 31 = .ok (.aload_n 0, 1) := by decide +kernel
theorem dX5_hinderedBy_32 : decode cX5_hinderedBy 32 = .ok (.getfield 44, 3) := by decide +kernel
theorem dX5_hinderedBy_35 : decode cX5_hinderedBy 35 = .ok (.iload_n 1, 1) := by decide +kernel
theorem dX5_hinderedBy_36 : decode cX5_hinderedBy 36 = .ok (.iaload, 1) := by decide +kernel
theorem dX5_hinderedBy_37 : decode cX5_hinderedBy 37 = .ok (.invokevirtual 148, 3) := by decide +kernel
theorem dX5_hinderedBy_40 : decode cX5_hinderedBy 40 = .ok (.ifCond .eq 21, 3) := by decide +kernel
theorem dX5_hinderedBy_43 : decode cX5_hinderedBy 43 = .ok (.aload_n 0, 1) := by decide +kernel
theorem dX5_hinderedBy_44 : decode cX5_hinderedBy 44 = .ok (.iload_n 3, 1) := by decide +kernel
theorem dX5_hinderedBy_45 : decode cX5_hinderedBy 45 = .ok (.aload_n 0, 1) := by decide +kernel
theorem dX5_hinderedBy_46 : decode cX5_hinderedBy 46 = .ok (.getfield 50, 3) := by decide +kernel
theorem dX5_hinderedBy_49 : decode cX5_hinderedBy 49 = .ok (.iload_n 1, 1) := by decide +kernel
theorem dX5_hinderedBy_50 : decode cX5_hinderedBy 50 = .ok (.iaload, 1) := by decide +kernel
theorem dX5_hinderedBy_51 : decode cX5_hinderedBy 51 = .ok (.invokevirtual 151, 3) := by decide +kernel
theorem dX5_hinderedBy_54 : decode cX5_hinderedBy 54 = .ok (.ifCond .eq 7, 3) := by decide +kernel
theorem dX5_hinderedBy_57 : decode cX5_hinderedBy 57 = .ok (.iconst 4, 1) := by decide +kernel
theorem dX5_hinderedBy_58 : decode cX5_hinderedBy 58 = .ok (.goto 4, 3) := by decide +kernel
theorem dX5_hinderedBy_61 : decode cX5_hinderedBy 61 = .ok (.iconst 0, 1) := by decide +kernel
theorem dX5_hinderedBy_62 : decode cX5_hinderedBy 62 = .ok (.ior, 1) := by decide +kernel
theorem dX5_hinderedBy_63 : decode cX5_hinderedBy 63 = .ok (.istore_n 2, 1) := by decide +kernel
theorem dX5_hinderedBy_64 : decode cX5_hinderedBy 64 = .ok (.iinc 3 1, 3) := by decide +kernel
theorem dX5_hinderedBy_67 : decode cX5_hinderedBy 67 = .ok (.goto (-58), 3) := by decide +kernel
theorem dX5_hinderedBy_70 : decode cX5_hinderedBy 70 = .ok (.iload_n 2, 1) := by decide +kernel
theorem dX5_hinderedBy_71 : decode cX5_hinderedBy 71 = .ok (.ireturn, 1) := by decide +kernel
def tab_X5_hinderedBy : List (Nat × Sem) := [(0, op_al 0 1), (1, op_gf 7 18 4), (4, op_il 1 5), (5, op_iald 6), (6, op_is 2 7), (7, op_ic 0 8), (8, op_is 3 9), (9, op_il 3 10), (10, op_il 1 11), (11, op_cmp (fun x y => y ≤ x) 70 14), (14, op_il 2 15), (15, op_al 0 16), (16, op_il 3 17), (17, op_al 0 18), (18, op_gf 7 13 21), (21, op_il 1 22), (22, op_iald 23), (23, op_callV 7 sp_X5_isOf 3 0 26), (26, op_if (fun x => ¬ x = 0) 43 29), (29, op_al 0 30), (30, op_il 3 31), (31, op_al 0 32), (32, op_gf 7 14 35), (35, op_il 1 36), (36, op_iald 37), (37, op_callV 7 sp_X5_isOf 3 0 40), (40, op_if (fun x => x = 0) 61 43), (43, op_al 0 44), (44, op_il 3 45), (45, op_al 0 46), (46, op_gf 7 16 49), (49, op_il 1 50), (50, op_iald 51), (51, op_callV 7 sp_X5_binds 3 0 54), (54, op_if (fun x => x = 0) 61 57), (57, op_ic 4 58), (58, op_go 62), (61, op_ic 0 62), (62, op_bin (fun x y => x ||| y) 63), (63, op_is 2 64), (64, op_inc 3 1 67), (67, op_go 9), (70, op_il 2 71), (71, op_iret)]
set_option maxRecDepth 20000 in
theorem tok_X5_hinderedBy : ∀ q ∈ tab_X5_hinderedBy, Snd RX5 cX5_hinderedBy 4 1 0 (some .int) q.1 q.2 := by
  unfold tab_X5_hinderedBy
  refine tcons (ok_aload_n dX5_hinderedBy_0 rfl rfl) ?_
  refine tcons (ok_getfield (C := RX5) (T := TX5) (n := 33) rfl in_X5 (by decide) w_1011 dX5_hinderedBy_1 rfl) ?_
  refine tcons (ok_iload_n dX5_hinderedBy_4 rfl rfl) ?_
  refine tcons (ok_iaload dX5_hinderedBy_5 rfl) ?_
  refine tcons (ok_istore_n dX5_hinderedBy_6 rfl (by decide) rfl) ?_
  refine tcons (ok_iconst dX5_hinderedBy_7 rfl rfl) ?_
  refine tcons (ok_istore_n dX5_hinderedBy_8 rfl (by decide) rfl) ?_
  refine tcons (ok_iload_n dX5_hinderedBy_9 rfl rfl) ?_
  refine tcons (ok_iload_n dX5_hinderedBy_10 rfl rfl) ?_
  refine tcons (ok_icmp_ge dX5_hinderedBy_11 rfl rfl) ?_
  refine tcons (ok_iload_n dX5_hinderedBy_14 rfl rfl) ?_
  refine tcons (ok_aload_n dX5_hinderedBy_15 rfl rfl) ?_
  refine tcons (ok_iload_n dX5_hinderedBy_16 rfl rfl) ?_
  refine tcons (ok_aload_n dX5_hinderedBy_17 rfl rfl) ?_
  refine tcons (ok_getfield (C := RX5) (T := TX5) (n := 33) rfl in_X5 (by decide) w_1006 dX5_hinderedBy_18 rfl) ?_
  refine tcons (ok_iload_n dX5_hinderedBy_21 rfl rfl) ?_
  refine tcons (ok_iaload dX5_hinderedBy_22 rfl) ?_
  refine tcons (ok_invokevirtual M_X5_isOf (C := RX5) (T := TX5) (nf := 33) rfl w_1194 w_1196 w_29 w_49 w_1197 ⟨rfl, by decide, by decide, by decide +kernel⟩ (by decide) (by decide) dX5_hinderedBy_23 rfl) ?_
  refine tcons (ok_if_ne dX5_hinderedBy_26 rfl rfl) ?_
  refine tcons (ok_aload_n dX5_hinderedBy_29 rfl rfl) ?_
  refine tcons (ok_iload_n dX5_hinderedBy_30 rfl rfl) ?_
  refine tcons (ok_aload_n dX5_hinderedBy_31 rfl rfl) ?_
  refine tcons (ok_getfield (C := RX5) (T := TX5) (n := 33) rfl in_X5 (by decide) w_1007 dX5_hinderedBy_32 rfl) ?_
  refine tcons (ok_iload_n dX5_hinderedBy_35 rfl rfl) ?_
  refine tcons (ok_iaload dX5_hinderedBy_36 rfl) ?_
  refine tcons (ok_invokevirtual M_X5_isOf (C := RX5) (T := TX5) (nf := 33) rfl w_1194 w_1196 w_29 w_49 w_1197 ⟨rfl, by decide, by decide, by decide +kernel⟩ (by decide) (by decide) dX5_hinderedBy_37 rfl) ?_
  refine tcons (ok_if_eq dX5_hinderedBy_40 rfl rfl) ?_
  refine tcons (ok_aload_n dX5_hinderedBy_43 rfl rfl) ?_
  refine tcons (ok_iload_n dX5_hinderedBy_44 rfl rfl) ?_
  refine tcons (ok_aload_n dX5_hinderedBy_45 rfl rfl) ?_
  refine tcons (ok_getfield (C := RX5) (T := TX5) (n := 33) rfl in_X5 (by decide) w_1009 dX5_hinderedBy_46 rfl) ?_
  refine tcons (ok_iload_n dX5_hinderedBy_49 rfl rfl) ?_
  refine tcons (ok_iaload dX5_hinderedBy_50 rfl) ?_
  refine tcons (ok_invokevirtual M_X5_binds (C := RX5) (T := TX5) (nf := 33) rfl w_1198 w_1200 w_30 w_49 w_1201 ⟨rfl, by decide, by decide, by decide +kernel⟩ (by decide) (by decide) dX5_hinderedBy_51 rfl) ?_
  refine tcons (ok_if_eq dX5_hinderedBy_54 rfl rfl) ?_
  refine tcons (ok_iconst dX5_hinderedBy_57 rfl rfl) ?_
  refine tcons (ok_goto dX5_hinderedBy_58 rfl) ?_
  refine tcons (ok_iconst dX5_hinderedBy_61 rfl rfl) ?_
  refine tcons (ok_ior dX5_hinderedBy_62 rfl) ?_
  refine tcons (ok_istore_n dX5_hinderedBy_63 rfl (by decide) rfl) ?_
  refine tcons (ok_iinc dX5_hinderedBy_64 rfl (by decide) rfl) ?_
  refine tcons (ok_goto dX5_hinderedBy_67 rfl) ?_
  refine tcons (ok_iload_n dX5_hinderedBy_70 rfl rfl) ?_
  refine tcons (ok_ireturn rfl dX5_hinderedBy_71) ?_
  exact fun _ h => nomatch h
def sp_X5_hinderedBy : Spc := fun av s N _ => match av with
  | [.inl (.inr (20, 0)), .inl (.inl v)] => Ib v 30 ∧ ((∃ k, k < cl v ∧ hbQ s (cl v) k) → N (some (aI (s.2.1 38 0 (cl v) ||| 4))) s) ∧ ((¬ ∃ k, k < cl v ∧ hbQ s (cl v) k) → N (some (aI (s.2.1 38 0 (cl v)))) s)
  | _ => False
set_option maxRecDepth 20000 in
set_option maxHeartbeats 2000000 in
theorem M_X5_hinderedBy : AMet yX5_hinderedBy cX5_hinderedBy 4 (some .int) 1 0 sp_X5_hinderedBy := by
  refine AMet.mc (own := RX5) (by decide) rfl [0, 1, 2, 3] rfl tok_X5_hinderedBy 200 ?_
  intro av s0 N X h
  unfold sp_X5_hinderedBy at h
  split at h
  rotate_left
  · exact h.elim
  obtain ⟨hp, h1, h2⟩ := h
  obtain ⟨n, hn, rfl⟩ := Ib_nI hp (by decide)
  have ev : cl (nI n) = n := nI_clamp (by omega)
  have e9 : s0.2.1 (20 + 18) 0 (nI n).toNatClampNeg = s0.2.1 38 0 n := by rw [nI_clamp (by omega)]
  rw [ev] at h1 h2
  refine ⟨[(9, fun m u L st s => ∃ k x, k ≤ n ∧ m = n - k ∧ u = 0 ∧ L = [(0, .inr (20, 0)), (1, .inl (nI n)), (2, .inl x), (3, .inl (nI k))] ∧ st = [] ∧ s = s0 ∧ ((x = s.2.1 38 0 n ||| 4 ∧ ∃ c, c < k ∧ hbQ s n c) ∨ (x = s.2.1 38 0 n ∧ ∀ c, c < k → ¬ hbQ s n c)))], ?_, ac ?_ an⟩
  · repeat' (first | apply And.intro | (intro q; exact absurd q (by decide)) | intro _)
    all_goals first | decide | (exact Nat.le_of_ble_eq_true rfl) | (exact hp) | (exact ⟨n, 4, trivial, 0, s0.2.1 38 0 n, Nat.zero_le _, rfl, rfl, by rw [← e9]; rfl, rfl, rfl, Or.inr ⟨rfl, fun c hc => absurd hc (Nat.not_lt_zero c)⟩⟩)
  · rintro m u L st s ⟨k, x, hk, rfl, rfl, rfl, rfl, rfl, hx⟩
    by_cases hkn : k < n
    · have hle : ¬ nI n ≤ nI k := fun q => by have := (nIge (N := 30) (by omega) (by omega) (by decide)).mp q; omega
      have e1 : (nI k).toNatClampNeg = k := nI_clamp (by omega)
      have e2 : (nI n).toNatClampNeg = n := nI_clamp (by omega)
      have hb1 : Ib (nI k) 30 := nIb (by omega) (by decide)
      clear h1 h2
      rcases hx with ⟨rfl, hx⟩ | ⟨rfl, hx⟩
      all_goals repeat' (first | apply And.intro | (intro q; exact absurd q (by decide)) | (intro q; exact absurd q hle) | intro _)
      all_goals first | decide | (exact Nat.le_of_ble_eq_true rfl) | exact hb1 | exact hp |
        (exact ⟨n - (k + 1), 4, by omega, k + 1, s.2.1 38 0 n ||| 4, by omega, rfl, rfl, by simp only [← nIs, or44, or40]; rfl, rfl, rfl, Or.inl ⟨rfl, exS hx⟩⟩) |
        (exact ⟨n - (k + 1), 4, by omega, k + 1, s.2.1 38 0 n, by omega, rfl, rfl, by simp only [← nIs, or0]; rfl, rfl, rfl, Or.inr ⟨rfl, allS hx (by simp_all [hbQ, mof, mbd])⟩⟩) |
        (exact ⟨n - (k + 1), 4, by omega, k + 1, s.2.1 38 0 n ||| 4, by omega, rfl, rfl, by simp only [← nIs]; rfl, rfl, rfl, Or.inl ⟨rfl, k, by omega, by simp_all [hbQ, mof, mbd]⟩⟩)
    · obtain rfl : k = n := by omega
      have hle : nI k ≤ nI k := nI_le (Nat.le_refl _) (by omega)
      rcases hx with ⟨rfl, hx⟩ | ⟨rfl, hx⟩
      all_goals repeat' (first | apply And.intro | (intro q; exact absurd q (by decide)) | (intro q; exact absurd hle q) | intro _)
      all_goals first | decide | (exact Nat.le_of_ble_eq_true rfl) | (exact h1 hx) | (exact h2 (fun q => by obtain ⟨c, h1, h2⟩ := q; exact hx c h1 h2))
end
section
def bbQ (s : Sg) (p t : Int32) (k : Nat) : Prop := mof s p k ∧ mbd s t k
/-- the lowest of those from a on, below n, or -1 -/
def lowest (Q : Nat → Prop) (a n : Nat) (x : Int32) : Prop := (x = -1 ∧ ∀ c, a ≤ c → c < n → ¬ Q c) ∨ ∃ v, a ≤ v ∧ v < n ∧ x = nI v ∧ Q v ∧ ∀ c, a ≤ c → c < v → ¬ Q c
theorem low_y {Q : Nat → Prop} {a n : Nat} (h : a < n) (hq : Q a) : lowest Q a n (nI a) := Or.inr ⟨a, Nat.le_refl _, h, rfl, hq, fun c h1 h2 => by omega⟩
theorem low_n {Q : Nat → Prop} {a n : Nat} {x : Int32} (hq : ¬ Q a) (h : lowest Q (a + 1) n x) : lowest Q a n x := by
  rcases h with ⟨h1, h2⟩ | ⟨v, h1, h2, h3, h4, h5⟩
  · exact Or.inl ⟨h1, fun c h3 h4 => by
      by_cases e : c = a
      · rw [e]; exact hq
      · exact h2 c (by omega) h4⟩
  · exact Or.inr ⟨v, by omega, h2, h3, h4, fun c h6 h7 => by
      by_cases e : c = a
      · rw [e]; exact hq
      · exact h5 c (by omega) h7⟩
theorem nIm1 (k : Nat) : nI (k + 1) - 1 = nI k := nI_pred k
theorem nIm2 (k : Nat) : nI k + (-1) = nI k - 1 := by
  rw [Int32.sub_eq_add_neg]
theorem dX5_boundBy_0 : decode cX5_boundBy 0 = .ok (.iconst (-1), 1) := by decide +kernel
theorem dX5_boundBy_1 : decode cX5_boundBy 1 = .ok (.istore_n 3, 1) := by decide +kernel
theorem dX5_boundBy_2 : decode cX5_boundBy 2 = .ok (.aload_n 0, 1) := by decide +kernel
theorem dX5_boundBy_3 : decode cX5_boundBy 3 = .ok (.getfield 103, 3) := by decide +kernel
theorem dX5_boundBy_6 : decode cX5_boundBy 6 = .ok (.iconst 1, 1) := by decide +kernel
theorem dX5_boundBy_7 : decode cX5_boundBy 7 = .ok (.isub, 1) := by decide +kernel
theorem dX5_boundBy_8 : decode cX5_boundBy 8 = .ok (.istore 4, 2) := by decide +kernel
theorem dX5_boundBy_10 : decode cX5_boundBy 10 = .ok (.iload 4, 2) := by decide +kernel
theorem dX5_boundBy_12 : decode cX5_boundBy 12 = .ok (.ifCond .lt 36, 3) := by decide +kernel
theorem dX5_boundBy_15 : decode cX5_boundBy 15 = .ok (.aload_n 0, 1) := by decide +kernel
theorem dX5_boundBy_16 : decode cX5_boundBy 16 = .ok (.iload 4, 2) := by decide +kernel
theorem dX5_boundBy_18 : decode cX5_boundBy 18 = .ok (.iload_n 1, 1) := by decide +kernel
theorem dX5_boundBy_19 : decode cX5_boundBy 19 = .ok (.invokevirtual 148, 3) := by decide +kernel
theorem dX5_boundBy_22 : decode cX5_boundBy 22 = .ok (.ifCond .eq 18, 3) := by decide +kernel
theorem dX5_boundBy_25 : decode cX5_boundBy 25 = .ok (.aload_n 0, 1) := by decide +kernel
theorem dX5_boundBy_26 : decode cX5_boundBy 26 = .ok (.iload 4, 2) := by decide +kernel
theorem dX5_boundBy_28 : decode cX5_boundBy 28 = .ok (.iload_n 2, 1) := by decide +kernel
theorem dX5_boundBy_29 : decode cX5_boundBy 29 = .ok (.invokevirtual 151, 3) := by decide +kernel
theorem dX5_boundBy_32 : decode cX5_boundBy 32 = .ok (.ifCond .eq 8, 3) := by decide +kernel
theorem dX5_boundBy_35 : decode cX5_boundBy 35 = .ok (.iload 4, 2) := by decide +kernel
theorem dX5_boundBy_37 : decode cX5_boundBy 37 = .ok (.goto 4, 3) := by decide +kernel
theorem dX5_boundBy_40 : decode cX5_boundBy 40 = .ok (.iload_n 3, 1) := by decide +kernel
theorem dX5_boundBy_41 : decode cX5_boundBy 41 = .ok (.istore_n 3, 1) := by decide +kernel
theorem dX5_boundBy_42 : decode cX5_boundBy 42 = .ok (.iinc 4 (-1), 3) := by decide +kernel
theorem dX5_boundBy_45 : decode cX5_boundBy 45 = .ok (.goto (-35), 3) := by decide +kernel
theorem dX5_boundBy_48 : decode cX5_boundBy 48 = .ok (.iload_n 3, 1) := by decide +kernel
theorem dX5_boundBy_49 : decode cX5_boundBy 49 = .ok (.ireturn, 1) := by decide +kernel
def tab_X5_boundBy : List (Nat × Sem) := [(0, op_ic (-1) 1), (1, op_is 3 2), (2, op_al 0 3), (3, op_gf 7 12 6), (6, op_ic 1 7), (7, op_bin (fun x y => x - y) 8), (8, op_is 4 10), (10, op_il 4 12), (12, op_if (fun x => x < 0) 48 15), (15, op_al 0 16), (16, op_il 4 18), (18, op_il 1 19), (19, op_callV 7 sp_X5_isOf 3 0 22), (22, op_if (fun x => x = 0) 40 25), (25, op_al 0 26), (26, op_il 4 28), (28, op_il 2 29), (29, op_callV 7 sp_X5_binds 3 0 32), (32, op_if (fun x => x = 0) 40 35), (35, op_il 4 37), (37, op_go 41), (40, op_il 3 41), (41, op_is 3 42), (42, op_inc 4 (-1) 45), (45, op_go 10), (48, op_il 3 49), (49, op_iret)]
set_option maxRecDepth 20000 in
theorem tok_X5_boundBy : ∀ q ∈ tab_X5_boundBy, Snd RX5 cX5_boundBy 5 1 0 (some .int) q.1 q.2 := by
  unfold tab_X5_boundBy
  refine tcons (ok_iconst dX5_boundBy_0 rfl rfl) ?_
  refine tcons (ok_istore_n dX5_boundBy_1 rfl (by decide) rfl) ?_
  refine tcons (ok_aload_n dX5_boundBy_2 rfl rfl) ?_
  refine tcons (ok_getfield (C := RX5) (T := TX5) (n := 33) rfl in_X5 (by decide) w_1005 dX5_boundBy_3 rfl) ?_
  refine tcons (ok_iconst dX5_boundBy_6 rfl rfl) ?_
  refine tcons (ok_isub dX5_boundBy_7 rfl) ?_
  refine tcons (ok_istore dX5_boundBy_8 (by decide) rfl) ?_
  refine tcons (ok_iload dX5_boundBy_10 rfl) ?_
  refine tcons (ok_if_lt dX5_boundBy_12 rfl rfl) ?_
  refine tcons (ok_aload_n dX5_boundBy_15 rfl rfl) ?_
  refine tcons (ok_iload dX5_boundBy_16 rfl) ?_
  refine tcons (ok_iload_n dX5_boundBy_18 rfl rfl) ?_
  refine tcons (ok_invokevirtual M_X5_isOf (C := RX5) (T := TX5) (nf := 33) rfl w_1194 w_1196 w_29 w_49 w_1197 ⟨rfl, by decide, by decide, by decide +kernel⟩ (by decide) (by decide) dX5_boundBy_19 rfl) ?_
  refine tcons (ok_if_eq dX5_boundBy_22 rfl rfl) ?_
  refine tcons (ok_aload_n dX5_boundBy_25 rfl rfl) ?_
  refine tcons (ok_iload dX5_boundBy_26 rfl) ?_
  refine tcons (ok_iload_n dX5_boundBy_28 rfl rfl) ?_
  refine tcons (ok_invokevirtual M_X5_binds (C := RX5) (T := TX5) (nf := 33) rfl w_1198 w_1200 w_30 w_49 w_1201 ⟨rfl, by decide, by decide, by decide +kernel⟩ (by decide) (by decide) dX5_boundBy_29 rfl) ?_
  refine tcons (ok_if_eq dX5_boundBy_32 rfl rfl) ?_
  refine tcons (ok_iload dX5_boundBy_35 rfl) ?_
  refine tcons (ok_goto dX5_boundBy_37 rfl) ?_
  refine tcons (ok_iload_n dX5_boundBy_40 rfl rfl) ?_
  refine tcons (ok_istore_n dX5_boundBy_41 rfl (by decide) rfl) ?_
  refine tcons (ok_iinc dX5_boundBy_42 rfl (by decide) rfl) ?_
  refine tcons (ok_goto dX5_boundBy_45 rfl) ?_
  refine tcons (ok_iload_n dX5_boundBy_48 rfl rfl) ?_
  refine tcons (ok_ireturn rfl dX5_boundBy_49) ?_
  exact fun _ h => nomatch h
def sp_X5_boundBy : Spc := fun av s N _ => match av with
  | [.inl (.inr (20, 0)), .inl (.inl p), .inl (.inl t)] => MI s ∧ ∀ x, lowest (bbQ s p t) 0 (nvm s) x → N (some (aI x)) s
  | _ => False
set_option maxRecDepth 20000 in
set_option maxHeartbeats 2000000 in
theorem M_X5_boundBy : AMet yX5_boundBy cX5_boundBy 5 (some .int) 1 0 sp_X5_boundBy := by
  refine AMet.mc (own := RX5) (by decide) rfl [0, 1, 2, 3, 4] rfl tok_X5_boundBy 200 ?_
  intro av s0 N X h
  unfold sp_X5_boundBy at h
  split at h
  rotate_left
  · exact h.elim
  rename_i p t
  obtain ⟨hM, h⟩ := h
  obtain ⟨-, ⟨n, hn, hv⟩, -⟩ := of_eq_true hM
  rw [nvm_eq hv hn] at h
  refine ⟨[(10, fun m u L st s => ∃ k x, k ≤ n ∧ m = k ∧ u = 0 ∧ L = [(0, .inr (20, 0)), (1, .inl p), (2, .inl t), (3, .inl x), (4, .inl (nI k - 1))] ∧ st = [] ∧ s = s0 ∧ lowest (bbQ s p t) k n x)], ?_, ac ?_ an⟩
  · repeat' (first | apply And.intro | (intro q; exact absurd q (by decide)) | intro _)
    all_goals first | decide | (exact Nat.le_of_ble_eq_true rfl) | (exact ⟨n, 5, trivial, n, -1, Nat.le_refl _, rfl, rfl, by rw [← hv]; rfl, rfl, rfl, Or.inl ⟨rfl, fun c h1 h2 => by omega⟩⟩)
  · rintro k u L st s ⟨_, x, hk, rfl, rfl, rfl, rfl, rfl, hx⟩
    cases k with
    | succ k =>
      rw [nIm1]
      have hle : ¬ nI k < 0 := nI_pos (by omega)
      have e1 : (nI k).toNatClampNeg = k := nI_clamp (by omega)
      have hb1 : Ib (nI k) 30 := nIb (by omega) (by decide)
      clear h hM
      repeat' (first | apply And.intro | (intro q; exact absurd q (by decide)) | (intro q; exact absurd q hle) | intro _)
      all_goals first | decide | (exact Nat.le_of_ble_eq_true rfl) | exact hb1 |
        (exact ⟨k, 5, by omega, k, nI k, by omega, rfl, rfl, by rw [← nIm2]; rfl, rfl, rfl, low_y (by omega) (by simp_all [bbQ, mof, mbd])⟩) |
        (exact ⟨k, 5, by omega, k, x, by omega, rfl, rfl, by rw [← nIm2]; rfl, rfl, rfl, low_n (by simp_all [bbQ, mof, mbd]) hx⟩)
    | zero =>
      have hle : nI 0 - 1 < 0 := by decide
      repeat' (first | apply And.intro | (intro q; exact absurd q (by decide)) | (intro q; exact absurd hle q) | intro _)
      all_goals first | decide | (exact Nat.le_of_ble_eq_true rfl) | (exact h x hx)
def prvR (d : Int32) (w : Nat → Int32) : Nat → Int32
  | 0 => 0
  | g + 1 => prvR d w g ||| (if (d >>> (nI g &&& 31)) &&& 1 = 1 then (if w g < 6 then 0 else (1 : Int32) <<< (nI g &&& 31)) else 0)
def mwt (s : Sg) (c : Nat) : Nat → Int32 := fun g => s.2.1 46 0 (7 * c + g)
theorem dX5_proven_0 : decode cX5_proven 0 = .ok (.iconst 0, 1) := by decide +kernel
theorem dX5_proven_1 : decode cX5_proven 1 = .ok (.istore_n 2, 1) := by decide +kernel
theorem dX5_proven_2 : decode cX5_proven 2 = .ok (.iconst 0, 1) := by decide +kernel
theorem dX5_proven_3 : decode cX5_proven 3 = .ok (.istore_n 3, 1) := by decide +kernel
theorem dX5_proven_4 : decode cX5_proven 4 = .ok (.iload_n 3, 1) := by decide +kernel
theorem dX5_proven_5 : decode cX5_proven 5 = .ok (.bipush 7, 2) := by decide +kernel
theorem dX5_proven_7 : decode cX5_proven 7 = .ok (.if_icmp .ge 48, 3) := by decide +kernel
theorem dX5_proven_10 : decode cX5_proven 10 = .ok (.iload_n 2, 1) := by decide +kernel
theorem dX5_proven_11 : decode cX5_proven 11 = .ok (.aload_n 0, 1) := by decide +kernel
theorem dX5_proven_12 : decode cX5_proven 12 = .ok (.getfield 68, 3) := by decide +kernel
theorem dX5_proven_15 : decode cX5_proven 15 = .ok (.iload_n 1, 1) := by decide +kernel
theorem dX5_proven_16 : decode cX5_proven 16 = .ok (.iaload, 1) := by decide +kernel
theorem dX5_proven_17 : decode cX5_proven 17 = .ok (.iload_n 3, 1) := by decide +kernel
theorem dX5_proven_18 : decode cX5_proven 18 = .ok (.invokestatic 182, 3) := by decide +kernel
theorem dX5_proven_21 : decode cX5_proven 21 = .ok (.ifCond .eq 25, 3) := by decide +kernel
theorem dX5_proven_24 : decode cX5_proven 24 = .ok (.aload_n 0, 1) := by decide +kernel
theorem dX5_proven_25 : decode cX5_proven 25 = .ok (.getfield 77, 3) := by decide +kernel
theorem dX5_proven_28 : decode cX5_proven 28 = .ok (.bipush 7, 2) := by decide +kernel
theorem dX5_proven_30 : decode cX5_proven 30 = .ok (.iload_n 1, 1) := by decide +kernel
theorem dX5_proven_31 : decode cX5_proven 31 = .ok (.imul, 1) := by decide +kernel
theorem dX5_proven_32 : decode cX5_proven 32 = .ok (.iload_n 3, 1) := by decide +kernel
theorem dX5_proven_33 : decode cX5_proven 33 = .ok (.iadd, 1) := by decide +kernel
theorem dX5_proven_34 : decode cX5_proven 34 = .ok (.iaload, 1) := by decide +kernel
theorem dX5_proven_35 : decode cX5_proven 35 = .ok (.bipush 6, 2) := by decide +kernel
theorem dX5_proven_37 : decode cX5_proven 37 = .ok (.if_icmp .lt 9, 3) := by decide +kernel
theorem dX5_proven_40 : decode cX5_proven 40 = .ok (.iconst 1, 1) := by decide +kernel
theorem dX5_proven_41 : decode cX5_proven 41 = .ok (.iload_n 3, 1) := by decide +kernel
theorem dX5_proven_42 : decode cX5_proven 42 = .ok (.ishl, 1) := by decide +kernel
theorem dX5_proven_43 : decode cX5_proven 43 = .ok (.goto 4, 3) := by decide +kernel
theorem dX5_proven_46 : decode cX5_proven 46 = .ok (.iconst 0, 1) := by decide +kernel
theorem dX5_proven_47 : decode cX5_proven 47 = .ok (.ior, 1) := by decide +kernel
theorem dX5_proven_48 : decode cX5_proven 48 = .ok (.istore_n 2, 1) := by decide +kernel
theorem dX5_proven_49 : decode cX5_proven 49 = .ok (.iinc 3 1, 3) := by decide +kernel
theorem dX5_proven_52 : decode cX5_proven 52 = .ok (.goto (-48), 3) := by decide +kernel
theorem dX5_proven_55 : decode cX5_proven 55 = .ok (.iload_n 2, 1) := by decide +kernel
theorem dX5_proven_56 : decode cX5_proven 56 = .ok (.ireturn, 1) := by decide +kernel
def tab_X5_proven : List (Nat × Sem) := [(0, op_ic 0 1), (1, op_is 2 2), (2, op_ic 0 3), (3, op_is 3 4), (4, op_il 3 5), (5, op_ic 7 7), (7, op_cmp (fun x y => y ≤ x) 55 10), (10, op_il 2 11), (11, op_al 0 12), (12, op_gf 7 23 15), (15, op_il 1 16), (16, op_iald 17), (17, op_il 3 18), (18, op_call sp_X5_hasGround 2 0 21), (21, op_if (fun x => x = 0) 46 24), (24, op_al 0 25), (25, op_gf 7 26 28), (28, op_ic 7 30), (30, op_il 1 31), (31, op_bin (fun x y => x * y) 32), (32, op_il 3 33), (33, op_bin (fun x y => x + y) 34), (34, op_iald 35), (35, op_ic 6 37), (37, op_cmp (fun x y => x < y) 46 40), (40, op_ic 1 41), (41, op_il 3 42), (42, op_bin (fun x y => x <<< (y &&& 31)) 43), (43, op_go 47), (46, op_ic 0 47), (47, op_bin (fun x y => x ||| y) 48), (48, op_is 2 49), (49, op_inc 3 1 52), (52, op_go 4), (55, op_il 2 56), (56, op_iret)]
set_option maxRecDepth 20000 in
theorem tok_X5_proven : ∀ q ∈ tab_X5_proven, Snd RX5 cX5_proven 4 1 0 (some .int) q.1 q.2 := by
  unfold tab_X5_proven
  refine tcons (ok_iconst dX5_proven_0 rfl rfl) ?_
  refine tcons (ok_istore_n dX5_proven_1 rfl (by decide) rfl) ?_
  refine tcons (ok_iconst dX5_proven_2 rfl rfl) ?_
  refine tcons (ok_istore_n dX5_proven_3 rfl (by decide) rfl) ?_
  refine tcons (ok_iload_n dX5_proven_4 rfl rfl) ?_
  refine tcons (ok_bipush dX5_proven_5 rfl rfl) ?_
  refine tcons (ok_icmp_ge dX5_proven_7 rfl rfl) ?_
  refine tcons (ok_iload_n dX5_proven_10 rfl rfl) ?_
  refine tcons (ok_aload_n dX5_proven_11 rfl rfl) ?_
  refine tcons (ok_getfield (C := RX5) (T := TX5) (n := 33) rfl in_X5 (by decide) w_1016 dX5_proven_12 rfl) ?_
  refine tcons (ok_iload_n dX5_proven_15 rfl rfl) ?_
  refine tcons (ok_iaload dX5_proven_16 rfl) ?_
  refine tcons (ok_iload_n dX5_proven_17 rfl rfl) ?_
  refine tcons (ok_invokestatic M_X5_hasGround w_1244 w_1245 w_49 w_1246 ⟨by decide, by decide, by decide +kernel⟩ (by decide) (by decide) dX5_proven_18 rfl) ?_
  refine tcons (ok_if_eq dX5_proven_21 rfl rfl) ?_
  refine tcons (ok_aload_n dX5_proven_24 rfl rfl) ?_
  refine tcons (ok_getfield (C := RX5) (T := TX5) (n := 33) rfl in_X5 (by decide) w_1019 dX5_proven_25 rfl) ?_
  refine tcons (ok_bipush dX5_proven_28 rfl rfl) ?_
  refine tcons (ok_iload_n dX5_proven_30 rfl rfl) ?_
  refine tcons (ok_imul dX5_proven_31 rfl) ?_
  refine tcons (ok_iload_n dX5_proven_32 rfl rfl) ?_
  refine tcons (ok_iadd dX5_proven_33 rfl) ?_
  refine tcons (ok_iaload dX5_proven_34 rfl) ?_
  refine tcons (ok_bipush dX5_proven_35 rfl rfl) ?_
  refine tcons (ok_icmp_lt dX5_proven_37 rfl rfl) ?_
  refine tcons (ok_iconst dX5_proven_40 rfl rfl) ?_
  refine tcons (ok_iload_n dX5_proven_41 rfl rfl) ?_
  refine tcons (ok_ishl dX5_proven_42 rfl) ?_
  refine tcons (ok_goto dX5_proven_43 rfl) ?_
  refine tcons (ok_iconst dX5_proven_46 rfl rfl) ?_
  refine tcons (ok_ior dX5_proven_47 rfl) ?_
  refine tcons (ok_istore_n dX5_proven_48 rfl (by decide) rfl) ?_
  refine tcons (ok_iinc dX5_proven_49 rfl (by decide) rfl) ?_
  refine tcons (ok_goto dX5_proven_52 rfl) ?_
  refine tcons (ok_iload_n dX5_proven_55 rfl rfl) ?_
  refine tcons (ok_ireturn rfl dX5_proven_56) ?_
  exact fun _ h => nomatch h
def sp_X5_proven : Spc := fun av s N _ => match av with
  | [.inl (.inr (20, 0)), .inl (.inl c)] => Ib c 30 ∧ N (some (aI (prvR (s.2.1 43 0 (cl c)) (mwt s (cl c)) 7))) s
  | _ => False
theorem row7 (i k : Nat) : (7 : Int32) * nI i + nI k = nI (7 * i + k) := by rw [show (7 : Int32) = nI 7 from rfl, nIm, nI_add]
set_option maxRecDepth 20000 in
set_option maxHeartbeats 2000000 in
theorem M_X5_proven : AMet yX5_proven cX5_proven 4 (some .int) 1 0 sp_X5_proven := by
  refine AMet.mc (own := RX5) (by decide) rfl [0, 1, 2, 3] rfl tok_X5_proven 200 ?_
  intro av s0 N X h
  unfold sp_X5_proven at h
  split at h
  rotate_left
  · exact h.elim
  obtain ⟨hp, h⟩ := h
  obtain ⟨i, hi, rfl⟩ := Ib_nI hp (by decide)
  have ev : cl (nI i) = i := nI_clamp (by omega)
  rw [ev] at h
  obtain ⟨d, hd⟩ : ∃ z, z = s0.2.1 43 0 i := ⟨_, rfl⟩
  obtain ⟨w, hw⟩ : ∃ z, z = mwt s0 i := ⟨_, rfl⟩
  rw [← hd, ← hw] at h
  refine ⟨[(4, fun m u L st s => ∃ k, k ≤ 7 ∧ m = 7 - k ∧ u = 0 ∧ L = [(0, .inr (20, 0)), (1, .inl (nI i)), (2, .inl (prvR d w k)), (3, .inl (nI k))] ∧ st = [] ∧ s = s0)], ?_, ac ?_ an⟩
  · repeat' (first | apply And.intro | (intro q; exact absurd q (by decide)) | intro _)
    all_goals first | decide | (exact Nat.le_of_ble_eq_true rfl) | (exact ⟨7, 4, trivial, 0, by omega, rfl, rfl, rfl, rfl, rfl⟩)
  · rintro m u L st s ⟨k, hk, rfl, rfl, rfl, rfl, rfl⟩
    by_cases hkn : k < 7
    · have hle : ¬ (7 : Int32) ≤ nI k := fun q => by have := (nIge (a := k) (b := 7) (N := 30) (by omega) (by omega) (by decide)).mp q; omega
      have hb1 : Ib ((7 : Int32) * nI i + nI k) 210 := by rw [row7]; exact nIb (by omega) (by decide)
      have e1 : s.2.1 (20 + 26) 0 ((7 : Int32) * nI i + nI k).toNatClampNeg = w k := by rw [row7, nI_clamp (by omega), hw]; rfl
      have e2 : s.2.1 (20 + 23) 0 (nI i).toNatClampNeg = d := by rw [nI_clamp (by omega), hd]
      clear h hd hw
      repeat' (first | apply And.intro | (intro q; exact absurd q (by decide)) | (intro q; exact absurd q hle) | intro _)
      all_goals first | decide | (exact Nat.le_of_ble_eq_true rfl) | exact hb1 | exact hp |
        (exact ⟨7 - (k + 1), 4, by omega, k + 1, by omega, rfl, rfl, by simp_all [-Int32.not_le, -Int32.not_lt, prvR, nIs], rfl, rfl⟩)
    · obtain rfl : k = 7 := by omega
      have hle : (7 : Int32) ≤ nI 7 := by decide
      repeat' (first | apply And.intro | (intro q; exact absurd q (by decide)) | (intro q; exact absurd hle q) | intro _)
      all_goals first | decide | (exact Nat.le_of_ble_eq_true rfl) | exact h
/-- a stretch of a row, all of one value -/
def stR (s : Sg) (t b n : Nat) (v : Int32) : Sg := (s.1, fun a i c => if a = t ∧ i = 0 ∧ b ≤ c ∧ c < b + n then v else s.2.1 a i c, s.2.2)
theorem stR_get {s : Sg} {t b n a i c : Nat} {v : Int32} : (stR s t b n v).2.1 a i c = if a = t ∧ i = 0 ∧ b ≤ c ∧ c < b + n then v else s.2.1 a i c := rfl
theorem stR_0 {s : Sg} {t b : Nat} {v : Int32} : stR s t b 0 v = s := Sg_ext rfl (fun a i c => by rw [stR_get, if_neg (by omega)]) rfl
theorem stR_s {s : Sg} {t b n : Nat} {v : Int32} : stS (stR s t b n v) t 0 (b + n) v = stR s t b (n + 1) v := by
  refine Sg_ext rfl (fun a i c => ?_) rfl
  rw [stS_get, stR_get, stR_get]
  by_cases e : a = t ∧ i = 0
  · obtain ⟨rfl, rfl⟩ := e
    by_cases e2 : c = b + n
    · rw [if_pos ⟨rfl, rfl, e2⟩, if_pos ⟨rfl, rfl, by omega, by omega⟩]
    · rw [if_neg (by omega)]
      by_cases e3 : b ≤ c ∧ c < b + n
      · rw [if_pos ⟨rfl, rfl, e3⟩, if_pos ⟨rfl, rfl, by omega, by omega⟩]
      · rw [if_neg (by omega), if_neg (by omega)]
  · rw [if_neg (by omega), if_neg (by omega), if_neg (by omega)]
theorem dX5_opens_0 : decode cX5_opens 0 = .ok (.aload_n 0, 1) := by decide +kernel
theorem dX5_opens_1 : decode cX5_opens 1 = .ok (.getfield 71, 3) := by decide +kernel
theorem dX5_opens_4 : decode cX5_opens 4 = .ok (.iload_n 1, 1) := by decide +kernel
theorem dX5_opens_5 : decode cX5_opens 5 = .ok (.iconst 0, 1) := by decide +kernel
theorem dX5_opens_6 : decode cX5_opens 6 = .ok (.iastore, 1) := by decide +kernel
theorem dX5_opens_7 : decode cX5_opens 7 = .ok (.aload_n 0, 1) := by decide +kernel
theorem dX5_opens_8 : decode cX5_opens 8 = .ok (.getfield 74, 3) := by decide +kernel
theorem dX5_opens_11 : decode cX5_opens 11 = .ok (.iload_n 1, 1) := by decide +kernel
theorem dX5_opens_12 : decode cX5_opens 12 = .ok (.iload_n 2, 1) := by decide +kernel
theorem dX5_opens_13 : decode cX5_opens 13 = .ok (.iastore, 1) := by decide +kernel
theorem dX5_opens_14 : decode cX5_opens 14 = .ok (.aload_n 0, 1) := by decide +kernel
theorem dX5_opens_15 : decode cX5_opens 15 = .ok (.getfield 80, 3) := by decide +kernel
theorem dX5_opens_18 : decode cX5_opens 18 = .ok (.iload_n 1, 1) := by decide +kernel
theorem dX5_opens_19 : decode cX5_opens 19 = .ok (.iconst 0, 1) := by decide +kernel
theorem dX5_opens_20 : decode cX5_opens 20 = .ok (.iastore, 1) := by decide +kernel
theorem dX5_opens_21 : decode cX5_opens 21 = .ok (.iconst 3, 1) := by decide +kernel
theorem dX5_opens_22 : decode cX5_opens 22 = .ok (.iload_n 1, 1) := by decide +kernel
theorem dX5_opens_23 : decode cX5_opens 23 = .ok (.imul, 1) := by decide +kernel
theorem dX5_opens_24 : decode cX5_opens 24 = .ok (.istore_n 3, 1) := by decide +kernel
theorem dX5_opens_25 : decode cX5_opens 25 = .ok (.iload_n 3, 1) := by decide +kernel
theorem dX5_opens_26 : decode cX5_opens 26 = .ok (.iconst 3, 1) := by decide +kernel
theorem dX5_opens_27 : decode cX5_opens 27 = .ok (.iload_n 1, 1) := by decide +kernel
theorem dX5_opens_28 : decode cX5_opens 28 = .ok (.imul, 1) := by decide +kernel
theorem dX5_opens_29 : decode cX5_opens 29 = .ok (.iconst 3, 1) := by decide +kernel
theorem dX5_opens_30 : decode cX5_opens 30 = .ok (.iadd, 1) := by decide +kernel
theorem dX5_opens_31 : decode cX5_opens 31 = .ok (.if_icmp .ge 16, 3) := by decide +kernel
theorem dX5_opens_34 : decode cX5_opens 34 = .ok (.aload_n 0, 1) := by decide +kernel
theorem dX5_opens_35 : decode cX5_opens 35 = .ok (.getfield 83, 3) := by decide +kernel
theorem dX5_opens_38 : decode cX5_opens 38 = .ok (.iload_n 3, 1) := by decide +kernel
theorem dX5_opens_39 : decode cX5_opens 39 = .ok (.iconst (-1), 1) := by decide +kernel
theorem dX5_opens_40 : decode cX5_opens 40 = .ok (.iastore, 1) := by decide +kernel
theorem dX5_opens_41 : decode cX5_opens 41 = .ok (.iinc 3 1, 3) := by decide +kernel
theorem dX5_opens_44 : decode cX5_opens 44 = .ok (.goto (-19), 3) := by decide +kernel
theorem dX5_opens_47 : decode cX5_opens 47 = .ok (.return_, 1) := by decide +kernel
def tab_X5_opens : List (Nat × Sem) := [(0, op_al 0 1), (1, op_gf 7 24 4), (4, op_il 1 5), (5, op_ic 0 6), (6, op_iast 7), (7, op_al 0 8), (8, op_gf 7 25 11), (11, op_il 1 12), (12, op_il 2 13), (13, op_iast 14), (14, op_al 0 15), (15, op_gf 7 27 18), (18, op_il 1 19), (19, op_ic 0 20), (20, op_iast 21), (21, op_ic 3 22), (22, op_il 1 23), (23, op_bin (fun x y => x * y) 24), (24, op_is 3 25), (25, op_il 3 26), (26, op_ic 3 27), (27, op_il 1 28), (28, op_bin (fun x y => x * y) 29), (29, op_ic 3 30), (30, op_bin (fun x y => x + y) 31), (31, op_cmp (fun x y => y ≤ x) 47 34), (34, op_al 0 35), (35, op_gf 7 28 38), (38, op_il 3 39), (39, op_ic (-1) 40), (40, op_iast 41), (41, op_inc 3 1 44), (44, op_go 25), (47, op_vret)]
set_option maxRecDepth 20000 in
theorem tok_X5_opens : ∀ q ∈ tab_X5_opens, Snd RX5 cX5_opens 4 0 0 none q.1 q.2 := by
  unfold tab_X5_opens
  refine tcons (ok_aload_n dX5_opens_0 rfl rfl) ?_
  refine tcons (ok_getfield (C := RX5) (T := TX5) (n := 33) rfl in_X5 (by decide) w_1017 dX5_opens_1 rfl) ?_
  refine tcons (ok_iload_n dX5_opens_4 rfl rfl) ?_
  refine tcons (ok_iconst dX5_opens_5 rfl rfl) ?_
  refine tcons (ok_iastore dX5_opens_6 rfl) ?_
  refine tcons (ok_aload_n dX5_opens_7 rfl rfl) ?_
  refine tcons (ok_getfield (C := RX5) (T := TX5) (n := 33) rfl in_X5 (by decide) w_1018 dX5_opens_8 rfl) ?_
  refine tcons (ok_iload_n dX5_opens_11 rfl rfl) ?_
  refine tcons (ok_iload_n dX5_opens_12 rfl rfl) ?_
  refine tcons (ok_iastore dX5_opens_13 rfl) ?_
  refine tcons (ok_aload_n dX5_opens_14 rfl rfl) ?_
  refine tcons (ok_getfield (C := RX5) (T := TX5) (n := 33) rfl in_X5 (by decide) w_1020 dX5_opens_15 rfl) ?_
  refine tcons (ok_iload_n dX5_opens_18 rfl rfl) ?_
  refine tcons (ok_iconst dX5_opens_19 rfl rfl) ?_
  refine tcons (ok_iastore dX5_opens_20 rfl) ?_
  refine tcons (ok_iconst dX5_opens_21 rfl rfl) ?_
  refine tcons (ok_iload_n dX5_opens_22 rfl rfl) ?_
  refine tcons (ok_imul dX5_opens_23 rfl) ?_
  refine tcons (ok_istore_n dX5_opens_24 rfl (by decide) rfl) ?_
  refine tcons (ok_iload_n dX5_opens_25 rfl rfl) ?_
  refine tcons (ok_iconst dX5_opens_26 rfl rfl) ?_
  refine tcons (ok_iload_n dX5_opens_27 rfl rfl) ?_
  refine tcons (ok_imul dX5_opens_28 rfl) ?_
  refine tcons (ok_iconst dX5_opens_29 rfl rfl) ?_
  refine tcons (ok_iadd dX5_opens_30 rfl) ?_
  refine tcons (ok_icmp_ge dX5_opens_31 rfl rfl) ?_
  refine tcons (ok_aload_n dX5_opens_34 rfl rfl) ?_
  refine tcons (ok_getfield (C := RX5) (T := TX5) (n := 33) rfl in_X5 (by decide) w_1021 dX5_opens_35 rfl) ?_
  refine tcons (ok_iload_n dX5_opens_38 rfl rfl) ?_
  refine tcons (ok_iconst dX5_opens_39 rfl rfl) ?_
  refine tcons (ok_iastore dX5_opens_40 rfl) ?_
  refine tcons (ok_iinc dX5_opens_41 rfl (by decide) rfl) ?_
  refine tcons (ok_goto dX5_opens_44 rfl) ?_
  refine tcons (ok_vreturn rfl dX5_opens_47) ?_
  exact fun _ h => nomatch h
def sp_X5_opens : Spc := fun av s N _ => match av with
  | [.inl (.inr (20, 0)), .inl (.inl c), .inl (.inl w)] => Ib c 30 ∧ N none (stR (stS (stS (stS s 44 0 (cl c) 0) 45 0 (cl c) w) 47 0 (cl c) 0) 48 (3 * cl c) 3 (-1))
  | _ => False
theorem row3 (i : Nat) : (3 : Int32) * nI i = nI (3 * i) := by rw [show (3 : Int32) = nI 3 from rfl, nIm]
theorem row3k (i k : Nat) : (3 : Int32) * nI i + nI k = nI (3 * i + k) := by rw [row3, nI_add]
set_option maxRecDepth 20000 in
set_option maxHeartbeats 2000000 in
theorem M_X5_opens : AMet yX5_opens cX5_opens 4 none 0 0 sp_X5_opens := by
  refine AMet.mc (own := RX5) (by decide) rfl [0, 1, 2, 3] rfl tok_X5_opens 200 ?_
  intro av s0 N X h
  unfold sp_X5_opens at h
  split at h
  rotate_left
  · exact h.elim
  rename_i w
  obtain ⟨hp, h⟩ := h
  obtain ⟨i, hi, rfl⟩ := Ib_nI hp (by decide)
  have ev : cl (nI i) = i := nI_clamp (by omega)
  obtain ⟨s1, e1⟩ : ∃ z, z = stS (stS (stS s0 44 0 (cl (nI i)) 0) 45 0 (cl (nI i)) w) 47 0 (cl (nI i)) 0 := ⟨_, rfl⟩
  rw [← e1, ev] at h
  refine ⟨[(25, fun m u L st s => ∃ k, k ≤ 3 ∧ m = 3 - k ∧ u = 0 ∧ L = [(0, .inr (20, 0)), (1, .inl (nI i)), (2, .inl w), (3, .inl (nI (3 * i + k)))] ∧ st = [] ∧ s = stR s1 48 (3 * i) k (-1))], ?_, ac ?_ an⟩
  · repeat' (first | apply And.intro | (intro q; exact absurd q (by decide)) | intro _)
    all_goals first | decide | (exact Nat.le_of_ble_eq_true rfl) | exact hp | (exact ⟨3, 4, trivial, 0, by omega, rfl, rfl, by rw [Nat.add_zero, ← row3]; rfl, rfl, by rw [stR_0, e1]⟩)
  · rintro m u L st s ⟨k, hk, rfl, rfl, rfl, rfl, rfl⟩
    by_cases hkn : k < 3
    · have hle : ¬ (3 : Int32) * nI i + 3 ≤ nI (3 * i + k) := fun q => by
        rw [show (3 : Int32) * nI i + 3 = nI (3 * i + 3) from row3k i 3] at q
        have := (nIge (N := 100) (by omega) (by omega) (by decide)).mp q
        omega
      have hb1 : Ib (nI (3 * i + k)) 90 := nIb (by omega) (by decide)
      have e2 : (nI (3 * i + k)).toNatClampNeg = 3 * i + k := nI_clamp (by omega)
      clear h
      repeat' (first | apply And.intro | (intro q; exact absurd q (by decide)) | (intro q; exact absurd q hle) | intro _)
      all_goals first | decide | (exact Nat.le_of_ble_eq_true rfl) | exact hb1 | exact hp |
        (exact ⟨3 - (k + 1), 4, by omega, k + 1, by omega, rfl, rfl, by rw [← Nat.add_assoc, ← nIs]; rfl, rfl, by show stS _ 48 0 (nI (3 * i + k)).toNatClampNeg (-1) = _; rw [e2, stR_s]⟩)
    · obtain rfl : k = 3 := by omega
      have hle : (3 : Int32) * nI i + 3 ≤ nI (3 * i + 3) := by rw [show (3 : Int32) * nI i + 3 = nI (3 * i + 3) from row3k i 3]; exact nI_le (Nat.le_refl _) (by omega)
      repeat' (first | apply And.intro | (intro q; exact absurd q (by decide)) | (intro q; exact absurd hle q) | intro _)
      all_goals first | decide | (exact Nat.le_of_ble_eq_true rfl) | exact h
end
section
def ykP (s : Sg) (p q a : Int32) : Prop := s.2.1 20 0 0 - s.2.1 22 0 (cl p) < a ∨ s.2.1 20 0 0 - s.2.1 22 0 (cl q) < a
def akP (v : Int32) : Prop := ¬ v = -1 ∧ (v - v / 100 * 100 = 1 ∨ v / 100 ≤ 4)
theorem dX5_areKin_0 : decode cX5_areKin 0 = .ok (.aload_n 0, 1) := by decide +kernel
theorem dX5_areKin_1 : decode cX5_areKin 1 = .ok (.iload_n 1, 1) := by decide +kernel
theorem dX5_areKin_2 : decode cX5_areKin 2 = .ok (.iload_n 2, 1) := by decide +kernel
theorem dX5_areKin_3 : decode cX5_areKin 3 = .ok (.invokevirtual 124, 3) := by decide +kernel
theorem dX5_areKin_6 : decode cX5_areKin 6 = .ok (.istore_n 3, 1) := by decide +kernel
theorem dX5_areKin_7 : decode cX5_areKin 7 = .ok (.iload_n 3, 1) := by decide +kernel
theorem dX5_areKin_8 : decode cX5_areKin 8 = .ok (.iconst (-1), 1) := by decide +kernel
theorem dX5_areKin_9 : decode cX5_areKin 9 = .ok (.if_icmp .eq 23, 3) := by decide +kernel
theorem dX5_areKin_12 : decode cX5_areKin 12 = .ok (.iload_n 3, 1) := by decide +kernel
theorem dX5_areKin_13 : decode cX5_areKin 13 = .ok (.bipush 100, 2) := by decide +kernel
theorem dX5_areKin_15 : decode cX5_areKin 15 = .ok (.irem, 1) := by decide +kernel
theorem dX5_areKin_16 : decode cX5_areKin 16 = .ok (.iconst 1, 1) := by decide +kernel
theorem dX5_areKin_17 : decode cX5_areKin 17 = .ok (.if_icmp .eq 11, 3) := by decide +kernel
theorem dX5_areKin_20 : decode cX5_areKin 20 = .ok (.iload_n 3, 1) := by decide +kernel
theorem dX5_areKin_21 : decode cX5_areKin 21 = .ok (.bipush 100, 2) := by decide +kernel
theorem dX5_areKin_23 : decode cX5_areKin 23 = .ok (.idiv, 1) := by decide +kernel
theorem dX5_areKin_24 : decode cX5_areKin 24 = .ok (.iconst 4, 1) := by decide +kernel
theorem dX5_areKin_25 : decode cX5_areKin 25 = .ok (.if_icmp .gt 7, 3) := by decide +kernel
theorem dX5_areKin_28 : decode cX5_areKin 28 = .ok (.iconst 1, 1) := by decide +kernel
theorem dX5_areKin_29 : decode cX5_areKin 29 = .ok (.goto 4, 3) := by decide +kernel
theorem dX5_areKin_32 : decode cX5_areKin 32 = .ok (.iconst 0, 1) := by decide +kernel
theorem dX5_areKin_33 : decode cX5_areKin 33 = .ok (.ireturn, 1) := by decide +kernel
def tab_X5_areKin : List (Nat × Sem) := [(0, op_al 0 1), (1, op_il 1 2), (2, op_il 2 3), (3, op_callV 7 sp_X5_kinOf 3 0 6), (6, op_is 3 7), (7, op_il 3 8), (8, op_ic (-1) 9), (9, op_cmp (fun x y => x = y) 32 12), (12, op_il 3 13), (13, op_ic 100 15), (15, op_dv (fun x y => x - x / y * y) 16), (16, op_ic 1 17), (17, op_cmp (fun x y => x = y) 28 20), (20, op_il 3 21), (21, op_ic 100 23), (23, op_dv (fun x y => x / y) 24), (24, op_ic 4 25), (25, op_cmp (fun x y => y < x) 32 28), (28, op_ic 1 29), (29, op_go 33), (32, op_ic 0 33), (33, op_zret)]
set_option maxRecDepth 20000 in
theorem tok_X5_areKin : ∀ q ∈ tab_X5_areKin, Snd RX5 cX5_areKin 4 1 0 (some .boolean) q.1 q.2 := by
  unfold tab_X5_areKin
  refine tcons (ok_aload_n dX5_areKin_0 rfl rfl) ?_
  refine tcons (ok_iload_n dX5_areKin_1 rfl rfl) ?_
  refine tcons (ok_iload_n dX5_areKin_2 rfl rfl) ?_
  refine tcons (ok_invokevirtual M_X5_kinOf (C := RX5) (T := TX5) (nf := 33) rfl w_1160 w_1162 w_26 w_49 w_1163 ⟨rfl, by decide, by decide, by decide +kernel⟩ (by decide) (by decide) dX5_areKin_3 rfl) ?_
  refine tcons (ok_istore_n dX5_areKin_6 rfl (by decide) rfl) ?_
  refine tcons (ok_iload_n dX5_areKin_7 rfl rfl) ?_
  refine tcons (ok_iconst dX5_areKin_8 rfl rfl) ?_
  refine tcons (ok_icmp_eq dX5_areKin_9 rfl rfl) ?_
  refine tcons (ok_iload_n dX5_areKin_12 rfl rfl) ?_
  refine tcons (ok_bipush dX5_areKin_13 rfl rfl) ?_
  refine tcons (ok_irem dX5_areKin_15 rfl) ?_
  refine tcons (ok_iconst dX5_areKin_16 rfl rfl) ?_
  refine tcons (ok_icmp_eq dX5_areKin_17 rfl rfl) ?_
  refine tcons (ok_iload_n dX5_areKin_20 rfl rfl) ?_
  refine tcons (ok_bipush dX5_areKin_21 rfl rfl) ?_
  refine tcons (ok_idiv dX5_areKin_23 rfl) ?_
  refine tcons (ok_iconst dX5_areKin_24 rfl rfl) ?_
  refine tcons (ok_icmp_gt dX5_areKin_25 rfl rfl) ?_
  refine tcons (ok_iconst dX5_areKin_28 rfl rfl) ?_
  refine tcons (ok_goto dX5_areKin_29 rfl) ?_
  refine tcons (ok_iconst dX5_areKin_32 rfl rfl) ?_
  refine tcons (ok_zreturn rfl (Or.inl rfl) dX5_areKin_33) ?_
  exact fun _ h => nomatch h
def sp_X5_areKin : Spc := fun av s N _ => match av with
  | [.inl (.inr (20, 0)), .inl (.inl p), .inl (.inl q)] => MI s ∧ Ib p 24 ∧ Ib q 24 ∧ br (akP (kinM s p q)) N s
  | _ => False
set_option maxRecDepth 20000 in
set_option maxHeartbeats 2000000 in
theorem M_X5_areKin : AMet yX5_areKin cX5_areKin 4 (some .boolean) 1 0 sp_X5_areKin := by
  refine AMet.mk (own := RX5) (by decide) rfl [0, 1, 2, 3] rfl tok_X5_areKin 200 ?_
  intro av s0 N X h
  unfold sp_X5_areKin at h
  split at h
  rotate_left
  · exact h.elim
  refine ⟨fun _ => none, ?_, fun pc P hP => nomatch hP⟩
  repeat' (first | apply And.intro | (intro q; exact absurd q (by decide)) | intro _)
  all_goals first | decide | (exact Nat.le_of_ble_eq_true rfl) | (exact h.1) | (exact h.2.1) | (exact h.2.2.1) | (simp_all [-Int32.not_lt, -Int32.not_le, br, akP]; done) | (simp_all [-Int32.not_lt, -Int32.not_le, ← Int32.not_le, br, akP]; done) | (simp_all [br, akP]; done)
noncomputable def iteP {α : Type} (P : Prop) (a b : α) : α := @ite α P (Classical.propDecidable P) a b
theorem iteP_t {α : Type} {P : Prop} {a b : α} (h : P) : iteP P a b = a := if_pos h
theorem iteP_f {α : Type} {P : Prop} {a b : α} (h : ¬ P) : iteP P a b = b := if_neg h
noncomputable def hndM (s : Sg) (p q : Int32) : Int32 := (iteP (ykP s p q 5760) 1 0 ||| iteP (akP (kinM s p q)) 2 0) ||| iteP (¬ s.2.1 25 0 (cl p) = 0 ∨ ¬ s.2.1 25 0 (cl q) = 0) 8 0
theorem dX5_hinders_0 : decode cX5_hinders 0 = .ok (.aload_n 0, 1) := by decide +kernel
theorem dX5_hinders_1 : decode cX5_hinders 1 = .ok (.iload_n 1, 1) := by decide +kernel
theorem dX5_hinders_2 : decode cX5_hinders 2 = .ok (.iload_n 2, 1) := by decide +kernel
theorem dX5_hinders_3 : decode cX5_hinders 3 = .ok (.sipush 5760, 3) := by decide +kernel
theorem dX5_hinders_6 : decode cX5_hinders 6 = .ok (.invokevirtual 128, 3) := by decide +kernel
theorem dX5_hinders_9 : decode cX5_hinders 9 = .ok (.ifCond .eq 7, 3) := by decide +kernel
theorem dX5_hinders_12 : decode cX5_hinders 12 = .ok (.iconst 1, 1) := by decide +kernel
theorem dX5_hinders_13 : decode cX5_hinders 13 = .ok (.goto 4, 3) := by decide +kernel
theorem dX5_hinders_16 : decode cX5_hinders 16 = .ok (.iconst 0, 1) := by decide +kernel
theorem dX5_hinders_17 : decode cX5_hinders 17 = .ok (.aload_n 0, 1) := by decide +kernel
theorem dX5_hinders_18 : decode cX5_hinders 18 = .ok (.iload_n 1, 1) := by decide +kernel
theorem dX5_hinders_19 : decode cX5_hinders 19 = .ok (.iload_n 2, 1) := by decide +kernel
theorem dX5_hinders_20 : decode cX5_hinders 20 = .ok (.invokevirtual 131, 3) := by decide +kernel
theorem dX5_hinders_23 : decode cX5_hinders 23 = .ok (.ifCond .eq 7, 3) := by decide +kernel
theorem dX5_hinders_26 : decode cX5_hinders 26 = .ok (.iconst 2, 1) := by decide +kernel
theorem dX5_hinders_27 : decode cX5_hinders 27 = .ok (.goto 4, 3) := by decide +kernel
theorem dX5_hinders_30 : decode cX5_hinders 30 = .ok (.iconst 0, 1) := by decide +kernel
theorem dX5_hinders_31 : decode cX5_hinders 31 = .ok (.ior, 1) := by decide +kernel
theorem dX5_hinders_32 : decode cX5_hinders 32 = .ok (.aload_n 0, 1) := by decide +kernel
theorem dX5_hinders_33 : decode cX5_hinders 33 = .ok (.getfield 19, 3) := by decide +kernel
theorem dX5_hinders_36 : decode cX5_hinders 36 = .ok (.iload_n 1, 1) := by decide +kernel
theorem dX5_hinders_37 : decode cX5_hinders 37 = .ok (.baload, 1) := by decide +kernel
theorem dX5_hinders_38 : decode cX5_hinders 38 = .ok (.ifCond .ne 12, 3) := by decide +kernel
theorem dX5_hinders_41 : decode cX5_hinders 41 = .ok (.aload_n 0, 1) := by decide +kernel
theorem dX5_hinders_42 : decode cX5_hinders 42 = .ok (.getfield 19, 3) := by decide +kernel
theorem dX5_hinders_45 : decode cX5_hinders 45 = .ok (.iload_n 2, 1) := by decide +kernel
theorem dX5_hinders_46 : decode cX5_hinders 46 = .ok (.baload, 1) := by decide +kernel
theorem dX5_hinders_47 : decode cX5_hinders 47 = .ok (.ifCond .eq 8, 3) := by decide +kernel
theorem dX5_hinders_50 : decode cX5_hinders 50 = .ok (.bipush 8, 2) := by decide +kernel
theorem dX5_hinders_52 : decode cX5_hinders 52 = .ok (.goto 4, 3) := by decide +kernel
theorem dX5_hinders_55 : decode cX5_hinders 55 = .ok (.iconst 0, 1) := by decide +kernel
theorem dX5_hinders_56 : decode cX5_hinders 56 = .ok (.ior, 1) := by decide +kernel
theorem dX5_hinders_57 : decode cX5_hinders 57 = .ok (.ireturn, 1) := by decide +kernel
def tab_X5_hinders : List (Nat × Sem) := [(0, op_al 0 1), (1, op_il 1 2), (2, op_il 2 3), (3, op_ic 5760 6), (6, op_callV 7 sp_X5_isYoung 4 0 9), (9, op_if (fun x => x = 0) 16 12), (12, op_ic 1 13), (13, op_go 17), (16, op_ic 0 17), (17, op_al 0 18), (18, op_il 1 19), (19, op_il 2 20), (20, op_callV 7 sp_X5_areKin 3 0 23), (23, op_if (fun x => x = 0) 30 26), (26, op_ic 2 27), (27, op_go 31), (30, op_ic 0 31), (31, op_bin (fun x y => x ||| y) 32), (32, op_al 0 33), (33, op_gf 7 5 36), (36, op_il 1 37), (37, op_bald 38), (38, op_if (fun x => ¬ x = 0) 50 41), (41, op_al 0 42), (42, op_gf 7 5 45), (45, op_il 2 46), (46, op_bald 47), (47, op_if (fun x => x = 0) 55 50), (50, op_ic 8 52), (52, op_go 56), (55, op_ic 0 56), (56, op_bin (fun x y => x ||| y) 57), (57, op_iret)]
set_option maxRecDepth 20000 in
theorem tok_X5_hinders : ∀ q ∈ tab_X5_hinders, Snd RX5 cX5_hinders 3 2 0 (some .int) q.1 q.2 := by
  unfold tab_X5_hinders
  refine tcons (ok_aload_n dX5_hinders_0 rfl rfl) ?_
  refine tcons (ok_iload_n dX5_hinders_1 rfl rfl) ?_
  refine tcons (ok_iload_n dX5_hinders_2 rfl rfl) ?_
  refine tcons (ok_sipush dX5_hinders_3 rfl rfl) ?_
  refine tcons (ok_invokevirtual M_X5_isYoung (C := RX5) (T := TX5) (nf := 33) rfl w_1152 w_1154 w_24 w_49 w_1155 ⟨rfl, by decide, by decide, by decide +kernel⟩ (by decide) (by decide) dX5_hinders_6 rfl) ?_
  refine tcons (ok_if_eq dX5_hinders_9 rfl rfl) ?_
  refine tcons (ok_iconst dX5_hinders_12 rfl rfl) ?_
  refine tcons (ok_goto dX5_hinders_13 rfl) ?_
  refine tcons (ok_iconst dX5_hinders_16 rfl rfl) ?_
  refine tcons (ok_aload_n dX5_hinders_17 rfl rfl) ?_
  refine tcons (ok_iload_n dX5_hinders_18 rfl rfl) ?_
  refine tcons (ok_iload_n dX5_hinders_19 rfl rfl) ?_
  refine tcons (ok_invokevirtual M_X5_areKin (C := RX5) (T := TX5) (nf := 33) rfl w_1156 w_1158 w_25 w_49 w_1159 ⟨rfl, by decide, by decide, by decide +kernel⟩ (by decide) (by decide) dX5_hinders_20 rfl) ?_
  refine tcons (ok_if_eq dX5_hinders_23 rfl rfl) ?_
  refine tcons (ok_iconst dX5_hinders_26 rfl rfl) ?_
  refine tcons (ok_goto dX5_hinders_27 rfl) ?_
  refine tcons (ok_iconst dX5_hinders_30 rfl rfl) ?_
  refine tcons (ok_ior dX5_hinders_31 rfl) ?_
  refine tcons (ok_aload_n dX5_hinders_32 rfl rfl) ?_
  refine tcons (ok_getfield (C := RX5) (T := TX5) (n := 33) rfl in_X5 (by decide) w_998 dX5_hinders_33 rfl) ?_
  refine tcons (ok_iload_n dX5_hinders_36 rfl rfl) ?_
  refine tcons (ok_baload dX5_hinders_37 rfl) ?_
  refine tcons (ok_if_ne dX5_hinders_38 rfl rfl) ?_
  refine tcons (ok_aload_n dX5_hinders_41 rfl rfl) ?_
  refine tcons (ok_getfield (C := RX5) (T := TX5) (n := 33) rfl in_X5 (by decide) w_998 dX5_hinders_42 rfl) ?_
  refine tcons (ok_iload_n dX5_hinders_45 rfl rfl) ?_
  refine tcons (ok_baload dX5_hinders_46 rfl) ?_
  refine tcons (ok_if_eq dX5_hinders_47 rfl rfl) ?_
  refine tcons (ok_bipush dX5_hinders_50 rfl rfl) ?_
  refine tcons (ok_goto dX5_hinders_52 rfl) ?_
  refine tcons (ok_iconst dX5_hinders_55 rfl rfl) ?_
  refine tcons (ok_ior dX5_hinders_56 rfl) ?_
  refine tcons (ok_ireturn rfl dX5_hinders_57) ?_
  exact fun _ h => nomatch h
def sp_X5_hinders : Spc := fun av s N _ => match av with
  | [.inl (.inr (20, 0)), .inl (.inl p), .inl (.inl q)] => MI s ∧ Ib p 24 ∧ Ib q 24 ∧ N (some (aI (hndM s p q))) s
  | _ => False
set_option maxRecDepth 20000 in
set_option maxHeartbeats 2000000 in
theorem M_X5_hinders : AMet yX5_hinders cX5_hinders 3 (some .int) 2 0 sp_X5_hinders := by
  refine AMet.mk (own := RX5) (by decide) rfl [0, 1, 2] rfl tok_X5_hinders 200 ?_
  intro av s0 N X h
  unfold sp_X5_hinders at h
  split at h
  rotate_left
  · exact h.elim
  refine ⟨fun _ => none, ?_, fun pc P hP => nomatch hP⟩
  repeat' (first | apply And.intro | (intro q; exact absurd q (by decide)) | intro _)
  all_goals first | decide | (exact Nat.le_of_ble_eq_true rfl) | (exact h.1) | (exact h.2.1) | (exact h.2.2.1) | (simp_all [-Int32.not_lt, -Int32.not_le, hndM, ykP, iteP]; done) | (simp_all [-Int32.not_lt, -Int32.not_le, ← Int32.not_le, hndM, ykP, iteP]; done) | (simp_all [hndM, ykP, iteP]; done)
def dskP (k : Int32) : Prop := k = 1 ∨ k = 2 ∨ k = 8
theorem plc_Ib {p q k : Int32} (hp : Ib p 24) (hq : Ib q 24) : Ib (plc p q k) 1728 := by
  obtain ⟨i, hi, rfl⟩ := Ib_nI hp (by decide)
  obtain ⟨j, hj, rfl⟩ := Ib_nI hq (by decide)
  have e : ∃ z, z < 576 ∧ (if nI i < nI j then 24 * nI i + nI j else 24 * nI j + nI i) = nI z := by
    split
    · exact ⟨24 * i + j, by omega, row24 i j⟩
    · exact ⟨24 * j + i, by omega, row24 j i⟩
  obtain ⟨z, hz, e⟩ := e
  unfold plc
  rw [e, row3]
  have e2 : ∃ w, w < 3 ∧ (if k = 1 then (0 : Int32) else if k = 2 then 1 else 2) = nI w := by
    split
    · exact ⟨0, by omega, rfl⟩
    · split
      · exact ⟨1, by omega, rfl⟩
      · exact ⟨2, by omega, rfl⟩
  obtain ⟨w, hw, e2⟩ := e2
  rw [e2, nI_add]
  exact nIb (by omega) (by decide)
def cdP (s : Sg) (p q k : Int32) : Prop := ¬ hndM s p q &&& k = 0 ∧ s.2.1 29 0 (cl (plc p q k)) = 0 ∧ (k = 1 → ¬ ykP s p q 5040) ∧ (k = 2 → kinM s p q - kinM s p q / 100 * 100 = 0 ∧ 2 < kinM s p q / 100)
theorem dX5_canDispense_0 : decode cX5_canDispense 0 = .ok (.aload_n 0, 1) := by decide +kernel
theorem dX5_canDispense_1 : decode cX5_canDispense 1 = .ok (.iload_n 1, 1) := by decide +kernel
theorem dX5_canDispense_2 : decode cX5_canDispense 2 = .ok (.iload_n 2, 1) := by decide +kernel
theorem dX5_canDispense_3 : decode cX5_canDispense 3 = .ok (.invokevirtual 135, 3) := by decide +kernel
theorem dX5_canDispense_6 : decode cX5_canDispense 6 = .ok (.iload_n 3, 1) := by decide +kernel
theorem dX5_canDispense_7 : decode cX5_canDispense 7 = .ok (.iand, 1) := by decide +kernel
theorem dX5_canDispense_8 : decode cX5_canDispense 8 = .ok (.ifCond .eq 17, 3) := by decide +kernel
theorem dX5_canDispense_11 : decode cX5_canDispense 11 = .ok (.aload_n 0, 1) := by decide +kernel
theorem dX5_canDispense_12 : decode cX5_canDispense 12 = .ok (.getfield 32, 3) := by decide +kernel
theorem dX5_canDispense_15 : decode cX5_canDispense 15 = .ok (.iload_n 1, 1) := by decide +kernel
theorem dX5_canDispense_16 : decode cX5_canDispense 16 = .ok (.iload_n 2, 1) := by decide +kernel
theorem dX5_canDispense_17 : decode cX5_canDispense 17 = .ok (.iload_n 3, 1) := by decide +kernel
theorem dX5_canDispense_18 : decode cX5_canDispense 18 = .ok (.invokestatic 138, 3) := by decide +kernel
theorem dX5_canDispense_21 : decode cX5_canDispense 21 = .ok (.baload, 1) := by decide +kernel
theorem dX5_canDispense_22 : decode cX5_canDispense 22 = .ok (.ifCond .eq 5, 3) := by decide +kernel
theorem dX5_canDispense_25 : decode cX5_canDispense 25 = .ok (.iconst 0, 1) := by decide +kernel
theorem dX5_canDispense_26 : decode cX5_canDispense 26 = .ok (.ireturn, 1) := by decide +kernel
theorem dX5_canDispense_27 : decode cX5_canDispense 27 = .ok (.aload_n 0, 1) := by decide +kernel
theorem dX5_canDispense_28 : decode cX5_canDispense 28 = .ok (.iload_n 1, 1) := by decide +kernel
theorem dX5_canDispense_29 : decode cX5_canDispense 29 = .ok (.iload_n 2, 1) := by decide +kernel
theorem dX5_canDispense_30 : decode cX5_canDispense 30 = .ok (.invokevirtual 124, 3) := by decide +kernel
theorem dX5_canDispense_33 : decode cX5_canDispense 33 = .ok (.istore 4, 2) := by decide +kernel
theorem dX5_canDispense_35 : decode cX5_canDispense 35 = .ok (.iload_n 3, 1) := by decide +kernel
theorem dX5_canDispense_36 : decode cX5_canDispense 36 = .ok (.iconst 1, 1) := by decide +kernel
theorem dX5_canDispense_37 : decode cX5_canDispense 37 = .ok (.if_icmp .ne 23, 3) := by decide +kernel
theorem dX5_canDispense_40 : decode cX5_canDispense 40 = .ok (.aload_n 0, 1) := by decide +kernel
theorem dX5_canDispense_41 : decode cX5_canDispense 41 = .ok (.iload_n 1, 1) := by decide +kernel
theorem dX5_canDispense_42 : decode cX5_canDispense 42 = .ok (.iload_n 2, 1) := by decide +kernel
theorem dX5_canDispense_43 : decode cX5_canDispense 43 = .ok (.sipush 5040, 3) := by decide +kernel
theorem dX5_canDispense_46 : decode cX5_canDispense 46 = .ok (.invokevirtual 128, 3) := by decide +kernel
theorem dX5_canDispense_49 : decode cX5_canDispense 49 = .ok (.ifCond .ne 7, 3) := by decide +kernel
theorem dX5_canDispense_52 : decode cX5_canDispense 52 = .ok (.iconst 1, 1) := by decide +kernel
theorem dX5_canDispense_53 : decode cX5_canDispense 53 = .ok (.goto 34, 3) := by decide +kernel
theorem dX5_canDispense_56 : decode cX5_canDispense 56 = .ok (.iconst 0, 1) := by decide +kernel
theorem dX5_canDispense_57 : decode cX5_canDispense 57 = .ok (.goto 30, 3) := by decide +kernel
theorem dX5_canDispense_60 : decode cX5_canDispense 60 = .ok (.iload_n 3, 1) := by decide +kernel
theorem dX5_canDispense_61 : decode cX5_canDispense 61 = .ok (.iconst 2, 1) := by decide +kernel
theorem dX5_canDispense_62 : decode cX5_canDispense 62 = .ok (.if_icmp .ne 20, 3) := by decide +kernel
theorem dX5_canDispense_65 : decode cX5_canDispense 65 = .ok (.iload 4, 2) := by decide +kernel
theorem dX5_canDispense_67 : decode cX5_canDispense 67 = .ok (.bipush 100, 2) := by decide +kernel
theorem dX5_canDispense_69 : decode cX5_canDispense 69 = .ok (.irem, 1) := by decide +kernel
theorem dX5_canDispense_70 : decode cX5_canDispense 70 = .ok (.ifCond .ne 16, 3) := by decide +kernel
theorem dX5_canDispense_73 : decode cX5_canDispense 73 = .ok (.iload 4, 2) := by decide +kernel
theorem dX5_canDispense_75 : decode cX5_canDispense 75 = .ok (.bipush 100, 2) := by decide +kernel
theorem dX5_canDispense_77 : decode cX5_canDispense 77 = .ok (.idiv, 1) := by decide +kernel
theorem dX5_canDispense_78 : decode cX5_canDispense 78 = .ok (.iconst 2, 1) := by decide +kernel
theorem dX5_canDispense_79 : decode cX5_canDispense 79 = .ok (.if_icmp .le 7, 3) := by decide +kernel
theorem dX5_canDispense_82 : decode cX5_canDispense 82 = .ok (.iconst 1, 1) := by decide +kernel
theorem dX5_canDispense_83 : decode cX5_canDispense 83 = .ok (.goto 4, 3) := by decide +kernel
theorem dX5_canDispense_86 : decode cX5_canDispense 86 = .ok (.iconst 0, 1) := by decide +kernel
theorem dX5_canDispense_87 : decode cX5_canDispense 87 = .ok (.ireturn, 1) := by decide +kernel
def tab_X5_canDispense : List (Nat × Sem) := [(0, op_al 0 1), (1, op_il 1 2), (2, op_il 2 3), (3, op_callV 7 sp_X5_hinders 3 0 6), (6, op_il 3 7), (7, op_bin (fun x y => x &&& y) 8), (8, op_if (fun x => x = 0) 25 11), (11, op_al 0 12), (12, op_gf 7 9 15), (15, op_il 1 16), (16, op_il 2 17), (17, op_il 3 18), (18, op_call sp_X5_placeOf 3 0 21), (21, op_bald 22), (22, op_if (fun x => x = 0) 27 25), (25, op_ic 0 26), (26, op_zret), (27, op_al 0 28), (28, op_il 1 29), (29, op_il 2 30), (30, op_callV 7 sp_X5_kinOf 3 0 33), (33, op_is 4 35), (35, op_il 3 36), (36, op_ic 1 37), (37, op_cmp (fun x y => ¬ x = y) 60 40), (40, op_al 0 41), (41, op_il 1 42), (42, op_il 2 43), (43, op_ic 5040 46), (46, op_callV 7 sp_X5_isYoung 4 0 49), (49, op_if (fun x => ¬ x = 0) 56 52), (52, op_ic 1 53), (53, op_go 87), (56, op_ic 0 57), (57, op_go 87), (60, op_il 3 61), (61, op_ic 2 62), (62, op_cmp (fun x y => ¬ x = y) 82 65), (65, op_il 4 67), (67, op_ic 100 69), (69, op_dv (fun x y => x - x / y * y) 70), (70, op_if (fun x => ¬ x = 0) 86 73), (73, op_il 4 75), (75, op_ic 100 77), (77, op_dv (fun x y => x / y) 78), (78, op_ic 2 79), (79, op_cmp (fun x y => x ≤ y) 86 82), (82, op_ic 1 83), (83, op_go 87), (86, op_ic 0 87), (87, op_zret)]
set_option maxRecDepth 20000 in
theorem tok_X5_canDispense : ∀ q ∈ tab_X5_canDispense, Snd RX5 cX5_canDispense 5 3 0 (some .boolean) q.1 q.2 := by
  unfold tab_X5_canDispense
  refine tcons (ok_aload_n dX5_canDispense_0 rfl rfl) ?_
  refine tcons (ok_iload_n dX5_canDispense_1 rfl rfl) ?_
  refine tcons (ok_iload_n dX5_canDispense_2 rfl rfl) ?_
  refine tcons (ok_invokevirtual M_X5_hinders (C := RX5) (T := TX5) (nf := 33) rfl w_1148 w_1150 w_23 w_49 w_1151 ⟨rfl, by decide, by decide, by decide +kernel⟩ (by decide) (by decide) dX5_canDispense_3 rfl) ?_
  refine tcons (ok_iload_n dX5_canDispense_6 rfl rfl) ?_
  refine tcons (ok_iand dX5_canDispense_7 rfl) ?_
  refine tcons (ok_if_eq dX5_canDispense_8 rfl rfl) ?_
  refine tcons (ok_aload_n dX5_canDispense_11 rfl rfl) ?_
  refine tcons (ok_getfield (C := RX5) (T := TX5) (n := 33) rfl in_X5 (by decide) w_1002 dX5_canDispense_12 rfl) ?_
  refine tcons (ok_iload_n dX5_canDispense_15 rfl rfl) ?_
  refine tcons (ok_iload_n dX5_canDispense_16 rfl rfl) ?_
  refine tcons (ok_iload_n dX5_canDispense_17 rfl rfl) ?_
  refine tcons (ok_invokestatic M_X5_placeOf w_1164 w_1165 w_49 w_1166 ⟨by decide, by decide, by decide +kernel⟩ (by decide) (by decide) dX5_canDispense_18 rfl) ?_
  refine tcons (ok_baload dX5_canDispense_21 rfl) ?_
  refine tcons (ok_if_eq dX5_canDispense_22 rfl rfl) ?_
  refine tcons (ok_iconst dX5_canDispense_25 rfl rfl) ?_
  refine tcons (ok_zreturn rfl (Or.inl rfl) dX5_canDispense_26) ?_
  refine tcons (ok_aload_n dX5_canDispense_27 rfl rfl) ?_
  refine tcons (ok_iload_n dX5_canDispense_28 rfl rfl) ?_
  refine tcons (ok_iload_n dX5_canDispense_29 rfl rfl) ?_
  refine tcons (ok_invokevirtual M_X5_kinOf (C := RX5) (T := TX5) (nf := 33) rfl w_1160 w_1162 w_26 w_49 w_1163 ⟨rfl, by decide, by decide, by decide +kernel⟩ (by decide) (by decide) dX5_canDispense_30 rfl) ?_
  refine tcons (ok_istore dX5_canDispense_33 (by decide) rfl) ?_
  refine tcons (ok_iload_n dX5_canDispense_35 rfl rfl) ?_
  refine tcons (ok_iconst dX5_canDispense_36 rfl rfl) ?_
  refine tcons (ok_icmp_ne dX5_canDispense_37 rfl rfl) ?_
  refine tcons (ok_aload_n dX5_canDispense_40 rfl rfl) ?_
  refine tcons (ok_iload_n dX5_canDispense_41 rfl rfl) ?_
  refine tcons (ok_iload_n dX5_canDispense_42 rfl rfl) ?_
  refine tcons (ok_sipush dX5_canDispense_43 rfl rfl) ?_
  refine tcons (ok_invokevirtual M_X5_isYoung (C := RX5) (T := TX5) (nf := 33) rfl w_1152 w_1154 w_24 w_49 w_1155 ⟨rfl, by decide, by decide, by decide +kernel⟩ (by decide) (by decide) dX5_canDispense_46 rfl) ?_
  refine tcons (ok_if_ne dX5_canDispense_49 rfl rfl) ?_
  refine tcons (ok_iconst dX5_canDispense_52 rfl rfl) ?_
  refine tcons (ok_goto dX5_canDispense_53 rfl) ?_
  refine tcons (ok_iconst dX5_canDispense_56 rfl rfl) ?_
  refine tcons (ok_goto dX5_canDispense_57 rfl) ?_
  refine tcons (ok_iload_n dX5_canDispense_60 rfl rfl) ?_
  refine tcons (ok_iconst dX5_canDispense_61 rfl rfl) ?_
  refine tcons (ok_icmp_ne dX5_canDispense_62 rfl rfl) ?_
  refine tcons (ok_iload dX5_canDispense_65 rfl) ?_
  refine tcons (ok_bipush dX5_canDispense_67 rfl rfl) ?_
  refine tcons (ok_irem dX5_canDispense_69 rfl) ?_
  refine tcons (ok_if_ne dX5_canDispense_70 rfl rfl) ?_
  refine tcons (ok_iload dX5_canDispense_73 rfl) ?_
  refine tcons (ok_bipush dX5_canDispense_75 rfl rfl) ?_
  refine tcons (ok_idiv dX5_canDispense_77 rfl) ?_
  refine tcons (ok_iconst dX5_canDispense_78 rfl rfl) ?_
  refine tcons (ok_icmp_le dX5_canDispense_79 rfl rfl) ?_
  refine tcons (ok_iconst dX5_canDispense_82 rfl rfl) ?_
  refine tcons (ok_goto dX5_canDispense_83 rfl) ?_
  refine tcons (ok_iconst dX5_canDispense_86 rfl rfl) ?_
  refine tcons (ok_zreturn rfl (Or.inl rfl) dX5_canDispense_87) ?_
  exact fun _ h => nomatch h
def sp_X5_canDispense : Spc := fun av s N _ => match av with
  | [.inl (.inr (20, 0)), .inl (.inl p), .inl (.inl q), .inl (.inl k)] => MI s ∧ Ib p 24 ∧ Ib q 24 ∧ br (cdP s p q k) N s
  | _ => False
set_option maxRecDepth 20000 in
set_option maxHeartbeats 2000000 in
theorem M_X5_canDispense : AMet yX5_canDispense cX5_canDispense 5 (some .boolean) 3 0 sp_X5_canDispense := by
  refine AMet.mk (own := RX5) (by decide) rfl [0, 1, 2, 3, 4] rfl tok_X5_canDispense 200 ?_
  intro av s0 N X h
  unfold sp_X5_canDispense at h
  split at h
  rotate_left
  · exact h.elim
  refine ⟨fun _ => none, ?_, fun pc P hP => nomatch hP⟩
  repeat' (first | apply And.intro | (intro q; exact absurd q (by decide)) | intro _)
  all_goals first | decide | (exact Nat.le_of_ble_eq_true rfl) | (exact h.1) | (exact h.2.1) | (exact h.2.2.1) | (exact plc_Ib h.2.1 h.2.2.1) | (simp_all [-Int32.not_lt, -Int32.not_le, br, cdP, ykP]; done) | (simp_all [-Int32.not_lt, -Int32.not_le, ← Int32.not_le, br, cdP, ykP]; done) | (simp_all [br, cdP, ykP]; done)
theorem dX5_dispense_0 : decode cX5_dispense 0 = .ok (.aload_n 0, 1) := by decide +kernel
theorem dX5_dispense_1 : decode cX5_dispense 1 = .ok (.iload_n 1, 1) := by decide +kernel
theorem dX5_dispense_2 : decode cX5_dispense 2 = .ok (.invokevirtual 106, 3) := by decide +kernel
theorem dX5_dispense_5 : decode cX5_dispense 5 = .ok (.ifCond .eq 15, 3) := by decide +kernel
theorem dX5_dispense_8 : decode cX5_dispense 8 = .ok (.aload_n 0, 1) := by decide +kernel
theorem dX5_dispense_9 : decode cX5_dispense 9 = .ok (.iload_n 2, 1) := by decide +kernel
theorem dX5_dispense_10 : decode cX5_dispense 10 = .ok (.invokevirtual 106, 3) := by decide +kernel
theorem dX5_dispense_13 : decode cX5_dispense 13 = .ok (.ifCond .eq 7, 3) := by decide +kernel
theorem dX5_dispense_16 : decode cX5_dispense 16 = .ok (.iconst 1, 1) := by decide +kernel
theorem dX5_dispense_17 : decode cX5_dispense 17 = .ok (.goto 4, 3) := by decide +kernel
theorem dX5_dispense_20 : decode cX5_dispense 20 = .ok (.iconst 0, 1) := by decide +kernel
theorem dX5_dispense_21 : decode cX5_dispense 21 = .ok (.istore 4, 2) := by decide +kernel
theorem dX5_dispense_23 : decode cX5_dispense 23 = .ok (.iload_n 1, 1) := by decide +kernel
theorem dX5_dispense_24 : decode cX5_dispense 24 = .ok (.iload_n 2, 1) := by decide +kernel
theorem dX5_dispense_25 : decode cX5_dispense 25 = .ok (.if_icmp .eq 23, 3) := by decide +kernel
theorem dX5_dispense_28 : decode cX5_dispense 28 = .ok (.iload_n 3, 1) := by decide +kernel
theorem dX5_dispense_29 : decode cX5_dispense 29 = .ok (.iconst 1, 1) := by decide +kernel
theorem dX5_dispense_30 : decode cX5_dispense 30 = .ok (.if_icmp .eq 14, 3) := by decide +kernel
theorem dX5_dispense_33 : decode cX5_dispense 33 = .ok (.iload_n 3, 1) := by decide +kernel
theorem dX5_dispense_34 : decode cX5_dispense 34 = .ok (.iconst 2, 1) := by decide +kernel
theorem dX5_dispense_35 : decode cX5_dispense 35 = .ok (.if_icmp .eq 9, 3) := by decide +kernel
theorem dX5_dispense_38 : decode cX5_dispense 38 = .ok (.iload_n 3, 1) := by decide +kernel
theorem dX5_dispense_39 : decode cX5_dispense 39 = .ok (.bipush 8, 2) := by decide +kernel
theorem dX5_dispense_41 : decode cX5_dispense 41 = .ok (.if_icmp .ne 7, 3) := by decide +kernel
theorem dX5_dispense_44 : decode cX5_dispense 44 = .ok (.iconst 1, 1) := by decide +kernel
theorem dX5_dispense_45 : decode cX5_dispense 45 = .ok (.goto 4, 3) := by decide +kernel
theorem dX5_dispense_48 : decode cX5_dispense 48 = .ok (.iconst 0, 1) := by decide +kernel
theorem dX5_dispense_49 : decode cX5_dispense 49 = .ok (.istore 5, 2) := by decide +kernel
theorem dX5_dispense_51 : decode cX5_dispense 51 = .ok (.aload_n 0, 1) := by decide +kernel
theorem dX5_dispense_52 : decode cX5_dispense 52 = .ok (.iload 4, 2) := by decide +kernel
theorem dX5_dispense_54 : decode cX5_dispense 54 = .ok (.ifCond .ne 7, 3) := by decide +kernel
theorem dX5_dispense_57 : decode cX5_dispense 57 = .ok (.iconst 1, 1) := by decide +kernel
theorem dX5_dispense_58 : decode cX5_dispense 58 = .ok (.goto 27, 3) := by decide +kernel
theorem dX5_dispense_61 : decode cX5_dispense 61 = .ok (.iload 5, 2) := by decide +kernel
theorem dX5_dispense_63 : decode cX5_dispense 63 = .ok (.ifCond .ne 7, 3) := by decide +kernel
theorem dX5_dispense_66 : decode cX5_dispense 66 = .ok (.iconst 2, 1) := by decide +kernel
theorem dX5_dispense_67 : decode cX5_dispense 67 = .ok (.goto 18, 3) := by decide +kernel
theorem dX5_dispense_70 : decode cX5_dispense 70 = .ok (.aload_n 0, 1) := by decide +kernel
theorem dX5_dispense_71 : decode cX5_dispense 71 = .ok (.iload_n 1, 1) := by decide +kernel
theorem dX5_dispense_72 : decode cX5_dispense 72 = .ok (.iload_n 2, 1) := by decide +kernel
theorem dX5_dispense_73 : decode cX5_dispense 73 = .ok (.iload_n 3, 1) := by decide +kernel
theorem dX5_dispense_74 : decode cX5_dispense 74 = .ok (.invokevirtual 142, 3) := by decide +kernel
theorem dX5_dispense_77 : decode cX5_dispense 77 = .ok (.ifCond .eq 7, 3) := by decide +kernel
theorem dX5_dispense_80 : decode cX5_dispense 80 = .ok (.iconst 0, 1) := by decide +kernel
theorem dX5_dispense_81 : decode cX5_dispense 81 = .ok (.goto 4, 3) := by decide +kernel
theorem dX5_dispense_84 : decode cX5_dispense 84 = .ok (.iconst 3, 1) := by decide +kernel
theorem dX5_dispense_85 : decode cX5_dispense 85 = .ok (.invokevirtual 114, 3) := by decide +kernel
theorem dX5_dispense_88 : decode cX5_dispense 88 = .ok (.ifCond .ne 15, 3) := by decide +kernel
theorem dX5_dispense_91 : decode cX5_dispense 91 = .ok (.aload_n 0, 1) := by decide +kernel
theorem dX5_dispense_92 : decode cX5_dispense 92 = .ok (.getfield 32, 3) := by decide +kernel
theorem dX5_dispense_95 : decode cX5_dispense 95 = .ok (.iload_n 1, 1) := by decide +kernel
theorem dX5_dispense_96 : decode cX5_dispense 96 = .ok (.iload_n 2, 1) := by decide +kernel
theorem dX5_dispense_97 : decode cX5_dispense 97 = .ok (.iload_n 3, 1) := by decide +kernel
theorem dX5_dispense_98 : decode cX5_dispense 98 = .ok (.invokestatic 138, 3) := by decide +kernel
theorem dX5_dispense_101 : decode cX5_dispense 101 = .ok (.iconst 1, 1) := by decide +kernel
theorem dX5_dispense_102 : decode cX5_dispense 102 = .ok (.bastore, 1) := by decide +kernel
theorem dX5_dispense_103 : decode cX5_dispense 103 = .ok (.return_, 1) := by decide +kernel
def tab_X5_dispense : List (Nat × Sem) := [(0, op_al 0 1), (1, op_il 1 2), (2, op_callV 7 sp_X5_isPerson 2 0 5), (5, op_if (fun x => x = 0) 20 8), (8, op_al 0 9), (9, op_il 2 10), (10, op_callV 7 sp_X5_isPerson 2 0 13), (13, op_if (fun x => x = 0) 20 16), (16, op_ic 1 17), (17, op_go 21), (20, op_ic 0 21), (21, op_is 4 23), (23, op_il 1 24), (24, op_il 2 25), (25, op_cmp (fun x y => x = y) 48 28), (28, op_il 3 29), (29, op_ic 1 30), (30, op_cmp (fun x y => x = y) 44 33), (33, op_il 3 34), (34, op_ic 2 35), (35, op_cmp (fun x y => x = y) 44 38), (38, op_il 3 39), (39, op_ic 8 41), (41, op_cmp (fun x y => ¬ x = y) 48 44), (44, op_ic 1 45), (45, op_go 49), (48, op_ic 0 49), (49, op_is 5 51), (51, op_al 0 52), (52, op_il 4 54), (54, op_if (fun x => ¬ x = 0) 61 57), (57, op_ic 1 58), (58, op_go 85), (61, op_il 5 63), (63, op_if (fun x => ¬ x = 0) 70 66), (66, op_ic 2 67), (67, op_go 85), (70, op_al 0 71), (71, op_il 1 72), (72, op_il 2 73), (73, op_il 3 74), (74, op_callV 7 sp_X5_canDispense 4 0 77), (77, op_if (fun x => x = 0) 84 80), (80, op_ic 0 81), (81, op_go 85), (84, op_ic 3 85), (85, op_callV 7 sp_X5_fails 2 0 88), (88, op_if (fun x => ¬ x = 0) 103 91), (91, op_al 0 92), (92, op_gf 7 9 95), (95, op_il 1 96), (96, op_il 2 97), (97, op_il 3 98), (98, op_call sp_X5_placeOf 3 0 101), (101, op_ic 1 102), (102, op_bast 103), (103, op_vret)]
set_option maxRecDepth 20000 in
theorem tok_X5_dispense : ∀ q ∈ tab_X5_dispense, Snd RX5 cX5_dispense 6 4 0 none q.1 q.2 := by
  unfold tab_X5_dispense
  refine tcons (ok_aload_n dX5_dispense_0 rfl rfl) ?_
  refine tcons (ok_iload_n dX5_dispense_1 rfl rfl) ?_
  refine tcons (ok_invokevirtual M_X5_isPerson (C := RX5) (T := TX5) (nf := 33) rfl w_1101 w_1103 w_19 w_49 w_1104 ⟨rfl, by decide, by decide, by decide +kernel⟩ (by decide) (by decide) dX5_dispense_2 rfl) ?_
  refine tcons (ok_if_eq dX5_dispense_5 rfl rfl) ?_
  refine tcons (ok_aload_n dX5_dispense_8 rfl rfl) ?_
  refine tcons (ok_iload_n dX5_dispense_9 rfl rfl) ?_
  refine tcons (ok_invokevirtual M_X5_isPerson (C := RX5) (T := TX5) (nf := 33) rfl w_1101 w_1103 w_19 w_49 w_1104 ⟨rfl, by decide, by decide, by decide +kernel⟩ (by decide) (by decide) dX5_dispense_10 rfl) ?_
  refine tcons (ok_if_eq dX5_dispense_13 rfl rfl) ?_
  refine tcons (ok_iconst dX5_dispense_16 rfl rfl) ?_
  refine tcons (ok_goto dX5_dispense_17 rfl) ?_
  refine tcons (ok_iconst dX5_dispense_20 rfl rfl) ?_
  refine tcons (ok_istore dX5_dispense_21 (by decide) rfl) ?_
  refine tcons (ok_iload_n dX5_dispense_23 rfl rfl) ?_
  refine tcons (ok_iload_n dX5_dispense_24 rfl rfl) ?_
  refine tcons (ok_icmp_eq dX5_dispense_25 rfl rfl) ?_
  refine tcons (ok_iload_n dX5_dispense_28 rfl rfl) ?_
  refine tcons (ok_iconst dX5_dispense_29 rfl rfl) ?_
  refine tcons (ok_icmp_eq dX5_dispense_30 rfl rfl) ?_
  refine tcons (ok_iload_n dX5_dispense_33 rfl rfl) ?_
  refine tcons (ok_iconst dX5_dispense_34 rfl rfl) ?_
  refine tcons (ok_icmp_eq dX5_dispense_35 rfl rfl) ?_
  refine tcons (ok_iload_n dX5_dispense_38 rfl rfl) ?_
  refine tcons (ok_bipush dX5_dispense_39 rfl rfl) ?_
  refine tcons (ok_icmp_ne dX5_dispense_41 rfl rfl) ?_
  refine tcons (ok_iconst dX5_dispense_44 rfl rfl) ?_
  refine tcons (ok_goto dX5_dispense_45 rfl) ?_
  refine tcons (ok_iconst dX5_dispense_48 rfl rfl) ?_
  refine tcons (ok_istore dX5_dispense_49 (by decide) rfl) ?_
  refine tcons (ok_aload_n dX5_dispense_51 rfl rfl) ?_
  refine tcons (ok_iload dX5_dispense_52 rfl) ?_
  refine tcons (ok_if_ne dX5_dispense_54 rfl rfl) ?_
  refine tcons (ok_iconst dX5_dispense_57 rfl rfl) ?_
  refine tcons (ok_goto dX5_dispense_58 rfl) ?_
  refine tcons (ok_iload dX5_dispense_61 rfl) ?_
  refine tcons (ok_if_ne dX5_dispense_63 rfl rfl) ?_
  refine tcons (ok_iconst dX5_dispense_66 rfl rfl) ?_
  refine tcons (ok_goto dX5_dispense_67 rfl) ?_
  refine tcons (ok_aload_n dX5_dispense_70 rfl rfl) ?_
  refine tcons (ok_iload_n dX5_dispense_71 rfl rfl) ?_
  refine tcons (ok_iload_n dX5_dispense_72 rfl rfl) ?_
  refine tcons (ok_iload_n dX5_dispense_73 rfl rfl) ?_
  refine tcons (ok_invokevirtual M_X5_canDispense (C := RX5) (T := TX5) (nf := 33) rfl w_1144 w_1146 w_22 w_49 w_1147 ⟨rfl, by decide, by decide, by decide +kernel⟩ (by decide) (by decide) dX5_dispense_74 rfl) ?_
  refine tcons (ok_if_eq dX5_dispense_77 rfl rfl) ?_
  refine tcons (ok_iconst dX5_dispense_80 rfl rfl) ?_
  refine tcons (ok_goto dX5_dispense_81 rfl) ?_
  refine tcons (ok_iconst dX5_dispense_84 rfl rfl) ?_
  refine tcons (ok_invokevirtual M_X5_fails (C := RX5) (T := TX5) (nf := 33) rfl w_1112 w_1114 w_20 w_49 w_1115 ⟨rfl, by decide, by decide, by decide +kernel⟩ (by decide) (by decide) dX5_dispense_85 rfl) ?_
  refine tcons (ok_if_ne dX5_dispense_88 rfl rfl) ?_
  refine tcons (ok_aload_n dX5_dispense_91 rfl rfl) ?_
  refine tcons (ok_getfield (C := RX5) (T := TX5) (n := 33) rfl in_X5 (by decide) w_1002 dX5_dispense_92 rfl) ?_
  refine tcons (ok_iload_n dX5_dispense_95 rfl rfl) ?_
  refine tcons (ok_iload_n dX5_dispense_96 rfl rfl) ?_
  refine tcons (ok_iload_n dX5_dispense_97 rfl rfl) ?_
  refine tcons (ok_invokestatic M_X5_placeOf w_1164 w_1165 w_49 w_1166 ⟨by decide, by decide, by decide +kernel⟩ (by decide) (by decide) dX5_dispense_98 rfl) ?_
  refine tcons (ok_iconst dX5_dispense_101 rfl rfl) ?_
  refine tcons (ok_bastore dX5_dispense_102 rfl) ?_
  refine tcons (ok_vreturn rfl dX5_dispense_103) ?_
  exact fun _ h => nomatch h
def sp_X5_dispense : Spc := fun av s N _ => match av with
  | [.inl (.inr (20, 0)), .inl (.inl p), .inl (.inl q), .inl (.inl k)] => MI s ∧ f3 (isP s p ∧ isP s q) (¬ p = q ∧ dskP k) (cdP s p q k) none N s (N none (stS (th s 0) 29 0 (cl (plc p q k)) 1))
  | _ => False
/-- a flag -/
def flg (x : Int32) (P : Prop) : Prop := (x = 1 ∧ P) ∨ (x = 0 ∧ ¬ P)
set_option maxRecDepth 20000 in
set_option maxHeartbeats 2000000 in
theorem M_X5_dispense : AMet yX5_dispense cX5_dispense 6 none 4 0 sp_X5_dispense := by
  refine AMet.mc (own := RX5) (by decide) rfl [0, 1, 2, 3, 4, 5] rfl tok_X5_dispense 200 ?_
  intro av s0 N X h
  unfold sp_X5_dispense at h
  split at h
  rotate_left
  · exact h.elim
  rename_i p q k
  obtain ⟨hM, h⟩ := h
  refine ⟨[(51, fun m u L st s => ∃ a b, u = 0 ∧ L = [(0, .inr (20, 0)), (1, .inl p), (2, .inl q), (3, .inl k), (4, .inl a), (5, .inl b)] ∧ st = [] ∧ s = s0 ∧ flg a (isP s p ∧ isP s q) ∧ flg b (¬ p = q ∧ dskP k))], ?_, ac ?_ an⟩
  · repeat' (first | apply And.intro | (intro q; exact absurd q (by decide)) | intro _)
    all_goals first | decide | (exact Nat.le_of_ble_eq_true rfl) | (exact ⟨0, 6, trivial, _, _, rfl, rfl, rfl, rfl, by simp_all [flg], by simp_all [flg, dskP]⟩)
  · rintro m u L st s ⟨a, b, rfl, rfl, rfl, rfl, ha, hb⟩
    rcases ha with ⟨rfl, ha⟩ | ⟨rfl, ha⟩ <;> rcases hb with ⟨rfl, hb⟩ | ⟨rfl, hb⟩
    all_goals repeat' (first | apply And.intro | (intro q; exact absurd q (by decide)) | intro _)
    all_goals first | decide | (exact Nat.le_of_ble_eq_true rfl) | (exact hM) | (exact Ib_of (MI_p hM ha.1)) | (exact Ib_of (MI_p hM ha.2)) | (exact plc_Ib (Ib_of (MI_p hM ha.1)) (Ib_of (MI_p hM ha.2))) | (simp_all [f3]; done)
end
section
theorem MI_th {s : Sg} {k : Int32} : MI (th s k) = MI s := by simp [MI, MI0, stS_get]
theorem npm_th {s : Sg} {k : Int32} : npm (th s k) = npm s := rfl
theorem nvm_th {s : Sg} {k : Int32} : nvm (th s k) = nvm s := rfl
theorem ncm_th {s : Sg} {k : Int32} : ncm (th s k) = ncm s := rfl
theorem mrow_th {s : Sg} {k : Int32} {i : Nat} : mrow (th s k) i = mrow s i := by funext j; simp [mrow, stS_get]
theorem kinM_th {s : Sg} {k p q : Int32} : kinM (th s k) p q = kinM s p q := by simp [kinM, mrow_th, npm_th]
theorem hbQ_th {s : Sg} {k : Int32} {i j : Nat} : hbQ (th s k) i j = hbQ s i j := by simp [hbQ, mof, mbd, stS_get]
theorem bbQ_th {s : Sg} {k p t : Int32} : bbQ (th s k) p t = bbQ s p t := by funext j; simp [bbQ, mof, mbd, stS_get]
theorem hasP_th {s : Sg} {k v p : Int32} : hasP (th s k) v p = hasP s v p := by simp [hasP, stS_get]
theorem dX5_kin_0 : decode cX5_kin 0 = .ok (.aload_n 0, 1) := by decide +kernel
theorem dX5_kin_1 : decode cX5_kin 1 = .ok (.aload_n 0, 1) := by decide +kernel
theorem dX5_kin_2 : decode cX5_kin 2 = .ok (.iload_n 1, 1) := by decide +kernel
theorem dX5_kin_3 : decode cX5_kin 3 = .ok (.invokevirtual 106, 3) := by decide +kernel
theorem dX5_kin_6 : decode cX5_kin 6 = .ok (.ifCond .eq 15, 3) := by decide +kernel
theorem dX5_kin_9 : decode cX5_kin 9 = .ok (.aload_n 0, 1) := by decide +kernel
theorem dX5_kin_10 : decode cX5_kin 10 = .ok (.iload_n 2, 1) := by decide +kernel
theorem dX5_kin_11 : decode cX5_kin 11 = .ok (.invokevirtual 106, 3) := by decide +kernel
theorem dX5_kin_14 : decode cX5_kin 14 = .ok (.ifCond .eq 7, 3) := by decide +kernel
theorem dX5_kin_17 : decode cX5_kin 17 = .ok (.iconst 0, 1) := by decide +kernel
theorem dX5_kin_18 : decode cX5_kin 18 = .ok (.goto 4, 3) := by decide +kernel
theorem dX5_kin_21 : decode cX5_kin 21 = .ok (.iconst 1, 1) := by decide +kernel
theorem dX5_kin_22 : decode cX5_kin 22 = .ok (.invokevirtual 114, 3) := by decide +kernel
theorem dX5_kin_25 : decode cX5_kin 25 = .ok (.ifCond .eq 7, 3) := by decide +kernel
theorem dX5_kin_28 : decode cX5_kin 28 = .ok (.iconst 0, 1) := by decide +kernel
theorem dX5_kin_29 : decode cX5_kin 29 = .ok (.goto 9, 3) := by decide +kernel
theorem dX5_kin_32 : decode cX5_kin 32 = .ok (.aload_n 0, 1) := by decide +kernel
theorem dX5_kin_33 : decode cX5_kin 33 = .ok (.iload_n 1, 1) := by decide +kernel
theorem dX5_kin_34 : decode cX5_kin 34 = .ok (.iload_n 2, 1) := by decide +kernel
theorem dX5_kin_35 : decode cX5_kin 35 = .ok (.invokevirtual 124, 3) := by decide +kernel
theorem dX5_kin_38 : decode cX5_kin 38 = .ok (.ireturn, 1) := by decide +kernel
def tab_X5_kin : List (Nat × Sem) := [(0, op_al 0 1), (1, op_al 0 2), (2, op_il 1 3), (3, op_callV 7 sp_X5_isPerson 2 0 6), (6, op_if (fun x => x = 0) 21 9), (9, op_al 0 10), (10, op_il 2 11), (11, op_callV 7 sp_X5_isPerson 2 0 14), (14, op_if (fun x => x = 0) 21 17), (17, op_ic 0 18), (18, op_go 22), (21, op_ic 1 22), (22, op_callV 7 sp_X5_fails 2 0 25), (25, op_if (fun x => x = 0) 32 28), (28, op_ic 0 29), (29, op_go 38), (32, op_al 0 33), (33, op_il 1 34), (34, op_il 2 35), (35, op_callV 7 sp_X5_kinOf 3 0 38), (38, op_iret)]
set_option maxRecDepth 20000 in
theorem tok_X5_kin : ∀ q ∈ tab_X5_kin, Snd RX5 cX5_kin 3 2 0 (some .int) q.1 q.2 := by
  unfold tab_X5_kin
  refine tcons (ok_aload_n dX5_kin_0 rfl rfl) ?_
  refine tcons (ok_aload_n dX5_kin_1 rfl rfl) ?_
  refine tcons (ok_iload_n dX5_kin_2 rfl rfl) ?_
  refine tcons (ok_invokevirtual M_X5_isPerson (C := RX5) (T := TX5) (nf := 33) rfl w_1101 w_1103 w_19 w_49 w_1104 ⟨rfl, by decide, by decide, by decide +kernel⟩ (by decide) (by decide) dX5_kin_3 rfl) ?_
  refine tcons (ok_if_eq dX5_kin_6 rfl rfl) ?_
  refine tcons (ok_aload_n dX5_kin_9 rfl rfl) ?_
  refine tcons (ok_iload_n dX5_kin_10 rfl rfl) ?_
  refine tcons (ok_invokevirtual M_X5_isPerson (C := RX5) (T := TX5) (nf := 33) rfl w_1101 w_1103 w_19 w_49 w_1104 ⟨rfl, by decide, by decide, by decide +kernel⟩ (by decide) (by decide) dX5_kin_11 rfl) ?_
  refine tcons (ok_if_eq dX5_kin_14 rfl rfl) ?_
  refine tcons (ok_iconst dX5_kin_17 rfl rfl) ?_
  refine tcons (ok_goto dX5_kin_18 rfl) ?_
  refine tcons (ok_iconst dX5_kin_21 rfl rfl) ?_
  refine tcons (ok_invokevirtual M_X5_fails (C := RX5) (T := TX5) (nf := 33) rfl w_1112 w_1114 w_20 w_49 w_1115 ⟨rfl, by decide, by decide, by decide +kernel⟩ (by decide) (by decide) dX5_kin_22 rfl) ?_
  refine tcons (ok_if_eq dX5_kin_25 rfl rfl) ?_
  refine tcons (ok_iconst dX5_kin_28 rfl rfl) ?_
  refine tcons (ok_goto dX5_kin_29 rfl) ?_
  refine tcons (ok_aload_n dX5_kin_32 rfl rfl) ?_
  refine tcons (ok_iload_n dX5_kin_33 rfl rfl) ?_
  refine tcons (ok_iload_n dX5_kin_34 rfl rfl) ?_
  refine tcons (ok_invokevirtual M_X5_kinOf (C := RX5) (T := TX5) (nf := 33) rfl w_1160 w_1162 w_26 w_49 w_1163 ⟨rfl, by decide, by decide, by decide +kernel⟩ (by decide) (by decide) dX5_kin_35 rfl) ?_
  refine tcons (ok_ireturn rfl dX5_kin_38) ?_
  exact fun _ h => nomatch h
def sp_X5_kin : Spc := fun av s N _ => match av with
  | [.inl (.inr (20, 0)), .inl (.inl p), .inl (.inl q)] => MI s ∧ f1 (isP s p ∧ isP s q) (some (aI 0)) N s (N (some (aI (kinM s p q))) (th s 0))
  | _ => False
set_option maxRecDepth 20000 in
set_option maxHeartbeats 2000000 in
theorem M_X5_kin : AMet yX5_kin cX5_kin 3 (some .int) 2 0 sp_X5_kin := by
  refine AMet.mk (own := RX5) (by decide) rfl [0, 1, 2] rfl tok_X5_kin 200 ?_
  intro av s0 N X h
  unfold sp_X5_kin at h
  split at h
  rotate_left
  · exact h.elim
  refine ⟨fun _ => none, ?_, fun pc P hP => nomatch hP⟩
  repeat' (first | apply And.intro | (intro q; exact absurd q (by decide)) | intro _)
  all_goals first | decide | (exact Nat.le_of_ble_eq_true rfl) | (rw [MI_th]; exact h.1) | (exact Ib_of (MI_p h.1 (by assumption))) | (simp_all [f1, kinM_th]; done)
theorem dX5_bound_0 : decode cX5_bound 0 = .ok (.aload_n 0, 1) := by decide +kernel
theorem dX5_bound_1 : decode cX5_bound 1 = .ok (.aload_n 0, 1) := by decide +kernel
theorem dX5_bound_2 : decode cX5_bound 2 = .ok (.iload_n 1, 1) := by decide +kernel
theorem dX5_bound_3 : decode cX5_bound 3 = .ok (.invokevirtual 106, 3) := by decide +kernel
theorem dX5_bound_6 : decode cX5_bound 6 = .ok (.ifCond .ne 7, 3) := by decide +kernel
theorem dX5_bound_9 : decode cX5_bound 9 = .ok (.iconst 1, 1) := by decide +kernel
theorem dX5_bound_10 : decode cX5_bound 10 = .ok (.goto 18, 3) := by decide +kernel
theorem dX5_bound_13 : decode cX5_bound 13 = .ok (.iload_n 2, 1) := by decide +kernel
theorem dX5_bound_14 : decode cX5_bound 14 = .ok (.iconst 0, 1) := by decide +kernel
theorem dX5_bound_15 : decode cX5_bound 15 = .ok (.ldc 201, 2) := by decide +kernel
theorem dX5_bound_17 : decode cX5_bound 17 = .ok (.invokestatic 99, 3) := by decide +kernel
theorem dX5_bound_20 : decode cX5_bound 20 = .ok (.ifCond .eq 7, 3) := by decide +kernel
theorem dX5_bound_23 : decode cX5_bound 23 = .ok (.iconst 0, 1) := by decide +kernel
theorem dX5_bound_24 : decode cX5_bound 24 = .ok (.goto 4, 3) := by decide +kernel
theorem dX5_bound_27 : decode cX5_bound 27 = .ok (.iconst 2, 1) := by decide +kernel
theorem dX5_bound_28 : decode cX5_bound 28 = .ok (.invokevirtual 114, 3) := by decide +kernel
theorem dX5_bound_31 : decode cX5_bound 31 = .ok (.ifCond .eq 7, 3) := by decide +kernel
theorem dX5_bound_34 : decode cX5_bound 34 = .ok (.iconst 0, 1) := by decide +kernel
theorem dX5_bound_35 : decode cX5_bound 35 = .ok (.goto 9, 3) := by decide +kernel
theorem dX5_bound_38 : decode cX5_bound 38 = .ok (.aload_n 0, 1) := by decide +kernel
theorem dX5_bound_39 : decode cX5_bound 39 = .ok (.iload_n 1, 1) := by decide +kernel
theorem dX5_bound_40 : decode cX5_bound 40 = .ok (.iload_n 2, 1) := by decide +kernel
theorem dX5_bound_41 : decode cX5_bound 41 = .ok (.invokevirtual 202, 3) := by decide +kernel
theorem dX5_bound_44 : decode cX5_bound 44 = .ok (.ireturn, 1) := by decide +kernel
def tab_X5_bound : List (Nat × Sem) := [(0, op_al 0 1), (1, op_al 0 2), (2, op_il 1 3), (3, op_callV 7 sp_X5_isPerson 2 0 6), (6, op_if (fun x => ¬ x = 0) 13 9), (9, op_ic 1 10), (10, op_go 28), (13, op_il 2 14), (14, op_ic 0 15), (15, op_ic 1000000 17), (17, op_call sp_X5_isIn 3 0 20), (20, op_if (fun x => x = 0) 27 23), (23, op_ic 0 24), (24, op_go 28), (27, op_ic 2 28), (28, op_callV 7 sp_X5_fails 2 0 31), (31, op_if (fun x => x = 0) 38 34), (34, op_ic 0 35), (35, op_go 44), (38, op_al 0 39), (39, op_il 1 40), (40, op_il 2 41), (41, op_callV 7 sp_X5_boundBy 3 0 44), (44, op_iret)]
set_option maxRecDepth 20000 in
theorem tok_X5_bound : ∀ q ∈ tab_X5_bound, Snd RX5 cX5_bound 3 2 0 (some .int) q.1 q.2 := by
  unfold tab_X5_bound
  refine tcons (ok_aload_n dX5_bound_0 rfl rfl) ?_
  refine tcons (ok_aload_n dX5_bound_1 rfl rfl) ?_
  refine tcons (ok_iload_n dX5_bound_2 rfl rfl) ?_
  refine tcons (ok_invokevirtual M_X5_isPerson (C := RX5) (T := TX5) (nf := 33) rfl w_1101 w_1103 w_19 w_49 w_1104 ⟨rfl, by decide, by decide, by decide +kernel⟩ (by decide) (by decide) dX5_bound_3 rfl) ?_
  refine tcons (ok_if_ne dX5_bound_6 rfl rfl) ?_
  refine tcons (ok_iconst dX5_bound_9 rfl rfl) ?_
  refine tcons (ok_goto dX5_bound_10 rfl) ?_
  refine tcons (ok_iload_n dX5_bound_13 rfl rfl) ?_
  refine tcons (ok_iconst dX5_bound_14 rfl rfl) ?_
  refine tcons (ok_ldc w_1305 dX5_bound_15 rfl) ?_
  refine tcons (ok_invokestatic M_X5_isIn w_1105 w_1106 w_49 w_1107 ⟨by decide, by decide, by decide +kernel⟩ (by decide) (by decide) dX5_bound_17 rfl) ?_
  refine tcons (ok_if_eq dX5_bound_20 rfl rfl) ?_
  refine tcons (ok_iconst dX5_bound_23 rfl rfl) ?_
  refine tcons (ok_goto dX5_bound_24 rfl) ?_
  refine tcons (ok_iconst dX5_bound_27 rfl rfl) ?_
  refine tcons (ok_invokevirtual M_X5_fails (C := RX5) (T := TX5) (nf := 33) rfl w_1112 w_1114 w_20 w_49 w_1115 ⟨rfl, by decide, by decide, by decide +kernel⟩ (by decide) (by decide) dX5_bound_28 rfl) ?_
  refine tcons (ok_if_eq dX5_bound_31 rfl rfl) ?_
  refine tcons (ok_iconst dX5_bound_34 rfl rfl) ?_
  refine tcons (ok_goto dX5_bound_35 rfl) ?_
  refine tcons (ok_aload_n dX5_bound_38 rfl rfl) ?_
  refine tcons (ok_iload_n dX5_bound_39 rfl rfl) ?_
  refine tcons (ok_iload_n dX5_bound_40 rfl rfl) ?_
  refine tcons (ok_invokevirtual M_X5_boundBy (C := RX5) (T := TX5) (nf := 33) rfl w_1306 w_1308 w_38 w_49 w_1309 ⟨rfl, by decide, by decide, by decide +kernel⟩ (by decide) (by decide) dX5_bound_41 rfl) ?_
  refine tcons (ok_ireturn rfl dX5_bound_44) ?_
  exact fun _ h => nomatch h
def sp_X5_bound : Spc := fun av s N _ => match av with
  | [.inl (.inr (20, 0)), .inl (.inl p), .inl (.inl t)] => MI s ∧ f2 (isP s p) (inR t 0 1000000) (some (aI 0)) N s (∀ x, lowest (bbQ s p t) 0 (nvm s) x → N (some (aI x)) (th s 0))
  | _ => False
set_option maxRecDepth 20000 in
set_option maxHeartbeats 2000000 in
theorem M_X5_bound : AMet yX5_bound cX5_bound 3 (some .int) 2 0 sp_X5_bound := by
  refine AMet.mk (own := RX5) (by decide) rfl [0, 1, 2] rfl tok_X5_bound 200 ?_
  intro av s0 N X h
  unfold sp_X5_bound at h
  split at h
  rotate_left
  · exact h.elim
  refine ⟨fun _ => none, ?_, fun pc P hP => nomatch hP⟩
  repeat' (first | apply And.intro | (intro q; exact absurd q (by decide)) | intro _)
  all_goals first | decide | (exact Nat.le_of_ble_eq_true rfl) | (rw [MI_th]; exact h.1) | (simp_all [f2, bbQ_th, nvm_th]; done)
/-- the vows' persons, the causes' vows lie in their rows -/
def WI0 (s : Sg) : Prop := (∀ k, k < nvm s → Ib (s.2.1 33 0 k) 24 ∧ Ib (s.2.1 34 0 k) 24) ∧ ∀ c, c < ncm s → ∃ v, v < nvm s ∧ s.2.1 42 0 c = nI v
def WI (s : Sg) : Prop := WI0 s = True
theorem WI_v {s : Sg} (hM : MI s) (h : WI s) {v : Int32} (hv : isV s v) : vwI s v := by
  obtain ⟨-, ⟨n, hn, he⟩, -⟩ := of_eq_true hM
  obtain ⟨j, hj, rfl⟩ := ix_nI hv he (by omega)
  have ev : cl (nI j) = j := nI_clamp (by omega)
  have := (of_eq_true h).1 j (by rw [nvm_eq he hn]; exact hj)
  exact ⟨nIb (by omega) (by decide), by rw [ev]; exact this.1, by rw [ev]; exact this.2⟩
theorem WI_c {s : Sg} (hM : MI s) (h : WI s) {c : Int32} (hv : isC s c) : Ib (s.2.1 42 0 (cl c)) 30 := by
  obtain ⟨-, ⟨n, hn, he⟩, ⟨k, hk, hf⟩⟩ := of_eq_true hM
  obtain ⟨j, hj, rfl⟩ := ix_nI hv hf (by omega)
  obtain ⟨v, h1, h2⟩ := (of_eq_true h).2 j (by rw [ncm_eq hf hk]; exact hj)
  rw [show cl (nI j) = j from nI_clamp (by omega), h2]
  rw [nvm_eq he hn] at h1
  exact nIb (by omega) (by decide)
theorem dX5_hasCause_0 : decode cX5_hasCause 0 = .ok (.aload_n 0, 1) := by decide +kernel
theorem dX5_hasCause_1 : decode cX5_hasCause 1 = .ok (.aload_n 0, 1) := by decide +kernel
theorem dX5_hasCause_2 : decode cX5_hasCause 2 = .ok (.iload_n 1, 1) := by decide +kernel
theorem dX5_hasCause_3 : decode cX5_hasCause 3 = .ok (.invokevirtual 154, 3) := by decide +kernel
theorem dX5_hasCause_6 : decode cX5_hasCause 6 = .ok (.ifCond .ne 7, 3) := by decide +kernel
theorem dX5_hasCause_9 : decode cX5_hasCause 9 = .ok (.iconst 1, 1) := by decide +kernel
theorem dX5_hasCause_10 : decode cX5_hasCause 10 = .ok (.goto 15, 3) := by decide +kernel
theorem dX5_hasCause_13 : decode cX5_hasCause 13 = .ok (.iload_n 2, 1) := by decide +kernel
theorem dX5_hasCause_14 : decode cX5_hasCause 14 = .ok (.invokestatic 111, 3) := by decide +kernel
theorem dX5_hasCause_17 : decode cX5_hasCause 17 = .ok (.ifCond .eq 7, 3) := by decide +kernel
theorem dX5_hasCause_20 : decode cX5_hasCause 20 = .ok (.iconst 0, 1) := by decide +kernel
theorem dX5_hasCause_21 : decode cX5_hasCause 21 = .ok (.goto 4, 3) := by decide +kernel
theorem dX5_hasCause_24 : decode cX5_hasCause 24 = .ok (.iconst 2, 1) := by decide +kernel
theorem dX5_hasCause_25 : decode cX5_hasCause 25 = .ok (.invokevirtual 114, 3) := by decide +kernel
theorem dX5_hasCause_28 : decode cX5_hasCause 28 = .ok (.ifCond .ne 16, 3) := by decide +kernel
theorem dX5_hasCause_31 : decode cX5_hasCause 31 = .ok (.aload_n 0, 1) := by decide +kernel
theorem dX5_hasCause_32 : decode cX5_hasCause 32 = .ok (.iload_n 1, 1) := by decide +kernel
theorem dX5_hasCause_33 : decode cX5_hasCause 33 = .ok (.iload_n 2, 1) := by decide +kernel
theorem dX5_hasCause_34 : decode cX5_hasCause 34 = .ok (.invokevirtual 176, 3) := by decide +kernel
theorem dX5_hasCause_37 : decode cX5_hasCause 37 = .ok (.ifCond .eq 7, 3) := by decide +kernel
theorem dX5_hasCause_40 : decode cX5_hasCause 40 = .ok (.iconst 1, 1) := by decide +kernel
theorem dX5_hasCause_41 : decode cX5_hasCause 41 = .ok (.goto 4, 3) := by decide +kernel
theorem dX5_hasCause_44 : decode cX5_hasCause 44 = .ok (.iconst 0, 1) := by decide +kernel
theorem dX5_hasCause_45 : decode cX5_hasCause 45 = .ok (.ireturn, 1) := by decide +kernel
def tab_X5_hasCause : List (Nat × Sem) := [(0, op_al 0 1), (1, op_al 0 2), (2, op_il 1 3), (3, op_callV 7 sp_X5_isVow 2 0 6), (6, op_if (fun x => ¬ x = 0) 13 9), (9, op_ic 1 10), (10, op_go 25), (13, op_il 2 14), (14, op_call sp_X5_isPlace 1 0 17), (17, op_if (fun x => x = 0) 24 20), (20, op_ic 0 21), (21, op_go 25), (24, op_ic 2 25), (25, op_callV 7 sp_X5_fails 2 0 28), (28, op_if (fun x => ¬ x = 0) 44 31), (31, op_al 0 32), (32, op_il 1 33), (33, op_il 2 34), (34, op_callV 7 sp_X5_has 3 0 37), (37, op_if (fun x => x = 0) 44 40), (40, op_ic 1 41), (41, op_go 45), (44, op_ic 0 45), (45, op_zret)]
set_option maxRecDepth 20000 in
theorem tok_X5_hasCause : ∀ q ∈ tab_X5_hasCause, Snd RX5 cX5_hasCause 3 2 0 (some .boolean) q.1 q.2 := by
  unfold tab_X5_hasCause
  refine tcons (ok_aload_n dX5_hasCause_0 rfl rfl) ?_
  refine tcons (ok_aload_n dX5_hasCause_1 rfl rfl) ?_
  refine tcons (ok_iload_n dX5_hasCause_2 rfl rfl) ?_
  refine tcons (ok_invokevirtual M_X5_isVow (C := RX5) (T := TX5) (nf := 33) rfl w_1186 w_1188 w_27 w_49 w_1189 ⟨rfl, by decide, by decide, by decide +kernel⟩ (by decide) (by decide) dX5_hasCause_3 rfl) ?_
  refine tcons (ok_if_ne dX5_hasCause_6 rfl rfl) ?_
  refine tcons (ok_iconst dX5_hasCause_9 rfl rfl) ?_
  refine tcons (ok_goto dX5_hasCause_10 rfl) ?_
  refine tcons (ok_iload_n dX5_hasCause_13 rfl rfl) ?_
  refine tcons (ok_invokestatic M_X5_isPlace w_1109 w_1110 w_49 w_1111 ⟨by decide, by decide, by decide +kernel⟩ (by decide) (by decide) dX5_hasCause_14 rfl) ?_
  refine tcons (ok_if_eq dX5_hasCause_17 rfl rfl) ?_
  refine tcons (ok_iconst dX5_hasCause_20 rfl rfl) ?_
  refine tcons (ok_goto dX5_hasCause_21 rfl) ?_
  refine tcons (ok_iconst dX5_hasCause_24 rfl rfl) ?_
  refine tcons (ok_invokevirtual M_X5_fails (C := RX5) (T := TX5) (nf := 33) rfl w_1112 w_1114 w_20 w_49 w_1115 ⟨rfl, by decide, by decide, by decide +kernel⟩ (by decide) (by decide) dX5_hasCause_25 rfl) ?_
  refine tcons (ok_if_ne dX5_hasCause_28 rfl rfl) ?_
  refine tcons (ok_aload_n dX5_hasCause_31 rfl rfl) ?_
  refine tcons (ok_iload_n dX5_hasCause_32 rfl rfl) ?_
  refine tcons (ok_iload_n dX5_hasCause_33 rfl rfl) ?_
  refine tcons (ok_invokevirtual M_X5_has (C := RX5) (T := TX5) (nf := 33) rfl w_1228 w_1230 w_33 w_49 w_1231 ⟨rfl, by decide, by decide, by decide +kernel⟩ (by decide) (by decide) dX5_hasCause_34 rfl) ?_
  refine tcons (ok_if_eq dX5_hasCause_37 rfl rfl) ?_
  refine tcons (ok_iconst dX5_hasCause_40 rfl rfl) ?_
  refine tcons (ok_goto dX5_hasCause_41 rfl) ?_
  refine tcons (ok_iconst dX5_hasCause_44 rfl rfl) ?_
  refine tcons (ok_zreturn rfl (Or.inl rfl) dX5_hasCause_45) ?_
  exact fun _ h => nomatch h
def sp_X5_hasCause : Spc := fun av s N _ => match av with
  | [.inl (.inr (20, 0)), .inl (.inl v), .inl (.inl p)] => MI s ∧ WI s ∧ f2 (isV s v) (inR p 0 7) (some (aI 0)) N s (br (hasP s v p) N (th s 0))
  | _ => False
set_option maxRecDepth 20000 in
set_option maxHeartbeats 2000000 in
theorem M_X5_hasCause : AMet yX5_hasCause cX5_hasCause 3 (some .boolean) 2 0 sp_X5_hasCause := by
  refine AMet.mk (own := RX5) (by decide) rfl [0, 1, 2] rfl tok_X5_hasCause 200 ?_
  intro av s0 N X h
  unfold sp_X5_hasCause at h
  split at h
  rotate_left
  · exact h.elim
  refine ⟨fun _ => none, ?_, fun pc P hP => nomatch hP⟩
  repeat' (first | apply And.intro | (intro q; exact absurd q (by decide)) | intro _)
  all_goals first | decide | (exact Nat.le_of_ble_eq_true rfl) | (exact (WI_v h.1 h.2.1 (by assumption)).1) | (exact (WI_v h.1 h.2.1 (by assumption)).2.1) | (exact (WI_v h.1 h.2.1 (by assumption)).2.2) | (simp_all [f2, br, hasP_th]; done)
/-- what hinders a vow, as the model finds it -/
noncomputable def hdM (s : Sg) (v : Nat) : Int32 := iteP (∃ k, k < v ∧ hbQ s v k) (s.2.1 38 0 v ||| 4) (s.2.1 38 0 v)
theorem dX5_hindered_0 : decode cX5_hindered 0 = .ok (.aload_n 0, 1) := by decide +kernel
theorem dX5_hindered_1 : decode cX5_hindered 1 = .ok (.aload_n 0, 1) := by decide +kernel
theorem dX5_hindered_2 : decode cX5_hindered 2 = .ok (.iload_n 1, 1) := by decide +kernel
theorem dX5_hindered_3 : decode cX5_hindered 3 = .ok (.invokevirtual 154, 3) := by decide +kernel
theorem dX5_hindered_6 : decode cX5_hindered 6 = .ok (.ifCond .eq 7, 3) := by decide +kernel
theorem dX5_hindered_9 : decode cX5_hindered 9 = .ok (.iconst 0, 1) := by decide +kernel
theorem dX5_hindered_10 : decode cX5_hindered 10 = .ok (.goto 4, 3) := by decide +kernel
theorem dX5_hindered_13 : decode cX5_hindered 13 = .ok (.iconst 1, 1) := by decide +kernel
theorem dX5_hindered_14 : decode cX5_hindered 14 = .ok (.invokevirtual 114, 3) := by decide +kernel
theorem dX5_hindered_17 : decode cX5_hindered 17 = .ok (.ifCond .eq 7, 3) := by decide +kernel
theorem dX5_hindered_20 : decode cX5_hindered 20 = .ok (.iconst 0, 1) := by decide +kernel
theorem dX5_hindered_21 : decode cX5_hindered 21 = .ok (.goto 8, 3) := by decide +kernel
theorem dX5_hindered_24 : decode cX5_hindered 24 = .ok (.aload_n 0, 1) := by decide +kernel
theorem dX5_hindered_25 : decode cX5_hindered 25 = .ok (.iload_n 1, 1) := by decide +kernel
theorem dX5_hindered_26 : decode cX5_hindered 26 = .ok (.invokevirtual 157, 3) := by decide +kernel
theorem dX5_hindered_29 : decode cX5_hindered 29 = .ok (.ireturn, 1) := by decide +kernel
def tab_X5_hindered : List (Nat × Sem) := [(0, op_al 0 1), (1, op_al 0 2), (2, op_il 1 3), (3, op_callV 7 sp_X5_isVow 2 0 6), (6, op_if (fun x => x = 0) 13 9), (9, op_ic 0 10), (10, op_go 14), (13, op_ic 1 14), (14, op_callV 7 sp_X5_fails 2 0 17), (17, op_if (fun x => x = 0) 24 20), (20, op_ic 0 21), (21, op_go 29), (24, op_al 0 25), (25, op_il 1 26), (26, op_callV 7 sp_X5_hinderedBy 2 0 29), (29, op_iret)]
set_option maxRecDepth 20000 in
theorem tok_X5_hindered : ∀ q ∈ tab_X5_hindered, Snd RX5 cX5_hindered 2 2 0 (some .int) q.1 q.2 := by
  unfold tab_X5_hindered
  refine tcons (ok_aload_n dX5_hindered_0 rfl rfl) ?_
  refine tcons (ok_aload_n dX5_hindered_1 rfl rfl) ?_
  refine tcons (ok_iload_n dX5_hindered_2 rfl rfl) ?_
  refine tcons (ok_invokevirtual M_X5_isVow (C := RX5) (T := TX5) (nf := 33) rfl w_1186 w_1188 w_27 w_49 w_1189 ⟨rfl, by decide, by decide, by decide +kernel⟩ (by decide) (by decide) dX5_hindered_3 rfl) ?_
  refine tcons (ok_if_eq dX5_hindered_6 rfl rfl) ?_
  refine tcons (ok_iconst dX5_hindered_9 rfl rfl) ?_
  refine tcons (ok_goto dX5_hindered_10 rfl) ?_
  refine tcons (ok_iconst dX5_hindered_13 rfl rfl) ?_
  refine tcons (ok_invokevirtual M_X5_fails (C := RX5) (T := TX5) (nf := 33) rfl w_1112 w_1114 w_20 w_49 w_1115 ⟨rfl, by decide, by decide, by decide +kernel⟩ (by decide) (by decide) dX5_hindered_14 rfl) ?_
  refine tcons (ok_if_eq dX5_hindered_17 rfl rfl) ?_
  refine tcons (ok_iconst dX5_hindered_20 rfl rfl) ?_
  refine tcons (ok_goto dX5_hindered_21 rfl) ?_
  refine tcons (ok_aload_n dX5_hindered_24 rfl rfl) ?_
  refine tcons (ok_iload_n dX5_hindered_25 rfl rfl) ?_
  refine tcons (ok_invokevirtual M_X5_hinderedBy (C := RX5) (T := TX5) (nf := 33) rfl w_1190 w_1192 w_28 w_49 w_1193 ⟨rfl, by decide, by decide, by decide +kernel⟩ (by decide) (by decide) dX5_hindered_26 rfl) ?_
  refine tcons (ok_ireturn rfl dX5_hindered_29) ?_
  exact fun _ h => nomatch h
def sp_X5_hindered : Spc := fun av s N _ => match av with
  | [.inl (.inr (20, 0)), .inl (.inl v)] => MI s ∧ f1 (isV s v) (some (aI 0)) N s (N (some (aI (hdM s (cl v)))) (th s 0))
  | _ => False
set_option maxRecDepth 20000 in
set_option maxHeartbeats 2000000 in
theorem M_X5_hindered : AMet yX5_hindered cX5_hindered 2 (some .int) 2 0 sp_X5_hindered := by
  refine AMet.mk (own := RX5) (by decide) rfl [0, 1] rfl tok_X5_hindered 200 ?_
  intro av s0 N X h
  unfold sp_X5_hindered at h
  split at h
  rotate_left
  · exact h.elim
  refine ⟨fun _ => none, ?_, fun pc P hP => nomatch hP⟩
  repeat' (first | apply And.intro | (intro q; exact absurd q (by decide)) | intro _)
  all_goals first | decide | (exact Nat.le_of_ble_eq_true rfl) | (exact Ib_of (MI_v h.1 (by assumption))) | (simp_all only [hbQ_th, f1]; simp_all [stS_get, hdM, iteP]; done)
theorem dX5_heal_0 : decode cX5_heal 0 = .ok (.aload_n 0, 1) := by decide +kernel
theorem dX5_heal_1 : decode cX5_heal 1 = .ok (.iload_n 1, 1) := by decide +kernel
theorem dX5_heal_2 : decode cX5_heal 2 = .ok (.invokevirtual 154, 3) := by decide +kernel
theorem dX5_heal_5 : decode cX5_heal 5 = .ok (.ifCond .eq 61, 3) := by decide +kernel
theorem dX5_heal_8 : decode cX5_heal 8 = .ok (.aload_n 0, 1) := by decide +kernel
theorem dX5_heal_9 : decode cX5_heal 9 = .ok (.getfield 53, 3) := by decide +kernel
theorem dX5_heal_12 : decode cX5_heal 12 = .ok (.iload_n 1, 1) := by decide +kernel
theorem dX5_heal_13 : decode cX5_heal 13 = .ok (.baload, 1) := by decide +kernel
theorem dX5_heal_14 : decode cX5_heal 14 = .ok (.ifCond .eq 52, 3) := by decide +kernel
theorem dX5_heal_17 : decode cX5_heal 17 = .ok (.aload_n 0, 1) := by decide +kernel
theorem dX5_heal_18 : decode cX5_heal 18 = .ok (.getfield 26, 3) := by decide +kernel
theorem dX5_heal_21 : decode cX5_heal 21 = .ok (.aload_n 0, 1) := by decide +kernel
theorem dX5_heal_22 : decode cX5_heal 22 = .ok (.getfield 41, 3) := by decide +kernel
theorem dX5_heal_25 : decode cX5_heal 25 = .ok (.iload_n 1, 1) := by decide +kernel
theorem dX5_heal_26 : decode cX5_heal 26 = .ok (.iaload, 1) := by decide +kernel
theorem dX5_heal_27 : decode cX5_heal 27 = .ok (.baload, 1) := by decide +kernel
theorem dX5_heal_28 : decode cX5_heal 28 = .ok (.ifCond .ne 38, 3) := by decide +kernel
theorem dX5_heal_31 : decode cX5_heal 31 = .ok (.aload_n 0, 1) := by decide +kernel
theorem dX5_heal_32 : decode cX5_heal 32 = .ok (.getfield 26, 3) := by decide +kernel
theorem dX5_heal_35 : decode cX5_heal 35 = .ok (.aload_n 0, 1) := by decide +kernel
theorem dX5_heal_36 : decode cX5_heal 36 = .ok (.getfield 44, 3) := by decide +kernel
theorem dX5_heal_39 : decode cX5_heal 39 = .ok (.iload_n 1, 1) := by decide +kernel
theorem dX5_heal_40 : decode cX5_heal 40 = .ok (.iaload, 1) := by decide +kernel
theorem dX5_heal_41 : decode cX5_heal 41 = .ok (.baload, 1) := by decide +kernel
theorem dX5_heal_42 : decode cX5_heal 42 = .ok (.ifCond .ne 24, 3) := by decide +kernel
theorem dX5_heal_45 : decode cX5_heal 45 = .ok (.aload_n 0, 1) := by decide +kernel
theorem dX5_heal_46 : decode cX5_heal 46 = .ok (.getfield 59, 3) := by decide +kernel
theorem dX5_heal_49 : decode cX5_heal 49 = .ok (.iload_n 1, 1) := by decide +kernel
theorem dX5_heal_50 : decode cX5_heal 50 = .ok (.iaload, 1) := by decide +kernel
theorem dX5_heal_51 : decode cX5_heal 51 = .ok (.ifCond .ne 15, 3) := by decide +kernel
theorem dX5_heal_54 : decode cX5_heal 54 = .ok (.aload_n 0, 1) := by decide +kernel
theorem dX5_heal_55 : decode cX5_heal 55 = .ok (.iload_n 1, 1) := by decide +kernel
theorem dX5_heal_56 : decode cX5_heal 56 = .ok (.invokevirtual 157, 3) := by decide +kernel
theorem dX5_heal_59 : decode cX5_heal 59 = .ok (.ifCond .ne 7, 3) := by decide +kernel
theorem dX5_heal_62 : decode cX5_heal 62 = .ok (.iconst 1, 1) := by decide +kernel
theorem dX5_heal_63 : decode cX5_heal 63 = .ok (.goto 4, 3) := by decide +kernel
theorem dX5_heal_66 : decode cX5_heal 66 = .ok (.iconst 0, 1) := by decide +kernel
theorem dX5_heal_67 : decode cX5_heal 67 = .ok (.istore_n 2, 1) := by decide +kernel
theorem dX5_heal_68 : decode cX5_heal 68 = .ok (.aload_n 0, 1) := by decide +kernel
theorem dX5_heal_69 : decode cX5_heal 69 = .ok (.aload_n 0, 1) := by decide +kernel
theorem dX5_heal_70 : decode cX5_heal 70 = .ok (.iload_n 1, 1) := by decide +kernel
theorem dX5_heal_71 : decode cX5_heal 71 = .ok (.invokevirtual 154, 3) := by decide +kernel
theorem dX5_heal_74 : decode cX5_heal 74 = .ok (.ifCond .ne 7, 3) := by decide +kernel
theorem dX5_heal_77 : decode cX5_heal 77 = .ok (.iconst 1, 1) := by decide +kernel
theorem dX5_heal_78 : decode cX5_heal 78 = .ok (.goto 12, 3) := by decide +kernel
theorem dX5_heal_81 : decode cX5_heal 81 = .ok (.iload_n 2, 1) := by decide +kernel
theorem dX5_heal_82 : decode cX5_heal 82 = .ok (.ifCond .eq 7, 3) := by decide +kernel
theorem dX5_heal_85 : decode cX5_heal 85 = .ok (.iconst 0, 1) := by decide +kernel
theorem dX5_heal_86 : decode cX5_heal 86 = .ok (.goto 4, 3) := by decide +kernel
theorem dX5_heal_89 : decode cX5_heal 89 = .ok (.iconst 2, 1) := by decide +kernel
theorem dX5_heal_90 : decode cX5_heal 90 = .ok (.invokevirtual 114, 3) := by decide +kernel
theorem dX5_heal_93 : decode cX5_heal 93 = .ok (.ifCond .ne 10, 3) := by decide +kernel
theorem dX5_heal_96 : decode cX5_heal 96 = .ok (.aload_n 0, 1) := by decide +kernel
theorem dX5_heal_97 : decode cX5_heal 97 = .ok (.getfield 53, 3) := by decide +kernel
theorem dX5_heal_100 : decode cX5_heal 100 = .ok (.iload_n 1, 1) := by decide +kernel
theorem dX5_heal_101 : decode cX5_heal 101 = .ok (.iconst 0, 1) := by decide +kernel
theorem dX5_heal_102 : decode cX5_heal 102 = .ok (.bastore, 1) := by decide +kernel
theorem dX5_heal_103 : decode cX5_heal 103 = .ok (.return_, 1) := by decide +kernel
def tab_X5_heal : List (Nat × Sem) := [(0, op_al 0 1), (1, op_il 1 2), (2, op_callV 7 sp_X5_isVow 2 0 5), (5, op_if (fun x => x = 0) 66 8), (8, op_al 0 9), (9, op_gf 7 17 12), (12, op_il 1 13), (13, op_bald 14), (14, op_if (fun x => x = 0) 66 17), (17, op_al 0 18), (18, op_gf 7 7 21), (21, op_al 0 22), (22, op_gf 7 13 25), (25, op_il 1 26), (26, op_iald 27), (27, op_bald 28), (28, op_if (fun x => ¬ x = 0) 66 31), (31, op_al 0 32), (32, op_gf 7 7 35), (35, op_al 0 36), (36, op_gf 7 14 39), (39, op_il 1 40), (40, op_iald 41), (41, op_bald 42), (42, op_if (fun x => ¬ x = 0) 66 45), (45, op_al 0 46), (46, op_gf 7 19 49), (49, op_il 1 50), (50, op_iald 51), (51, op_if (fun x => ¬ x = 0) 66 54), (54, op_al 0 55), (55, op_il 1 56), (56, op_callV 7 sp_X5_hinderedBy 2 0 59), (59, op_if (fun x => ¬ x = 0) 66 62), (62, op_ic 1 63), (63, op_go 67), (66, op_ic 0 67), (67, op_is 2 68), (68, op_al 0 69), (69, op_al 0 70), (70, op_il 1 71), (71, op_callV 7 sp_X5_isVow 2 0 74), (74, op_if (fun x => ¬ x = 0) 81 77), (77, op_ic 1 78), (78, op_go 90), (81, op_il 2 82), (82, op_if (fun x => x = 0) 89 85), (85, op_ic 0 86), (86, op_go 90), (89, op_ic 2 90), (90, op_callV 7 sp_X5_fails 2 0 93), (93, op_if (fun x => ¬ x = 0) 103 96), (96, op_al 0 97), (97, op_gf 7 17 100), (100, op_il 1 101), (101, op_ic 0 102), (102, op_bast 103), (103, op_vret)]
set_option maxRecDepth 20000 in
theorem tok_X5_heal : ∀ q ∈ tab_X5_heal, Snd RX5 cX5_heal 3 2 0 none q.1 q.2 := by
  unfold tab_X5_heal
  refine tcons (ok_aload_n dX5_heal_0 rfl rfl) ?_
  refine tcons (ok_iload_n dX5_heal_1 rfl rfl) ?_
  refine tcons (ok_invokevirtual M_X5_isVow (C := RX5) (T := TX5) (nf := 33) rfl w_1186 w_1188 w_27 w_49 w_1189 ⟨rfl, by decide, by decide, by decide +kernel⟩ (by decide) (by decide) dX5_heal_2 rfl) ?_
  refine tcons (ok_if_eq dX5_heal_5 rfl rfl) ?_
  refine tcons (ok_aload_n dX5_heal_8 rfl rfl) ?_
  refine tcons (ok_getfield (C := RX5) (T := TX5) (n := 33) rfl in_X5 (by decide) w_1010 dX5_heal_9 rfl) ?_
  refine tcons (ok_iload_n dX5_heal_12 rfl rfl) ?_
  refine tcons (ok_baload dX5_heal_13 rfl) ?_
  refine tcons (ok_if_eq dX5_heal_14 rfl rfl) ?_
  refine tcons (ok_aload_n dX5_heal_17 rfl rfl) ?_
  refine tcons (ok_getfield (C := RX5) (T := TX5) (n := 33) rfl in_X5 (by decide) w_1000 dX5_heal_18 rfl) ?_
  refine tcons (ok_aload_n dX5_heal_21 rfl rfl) ?_
  refine tcons (ok_getfield (C := RX5) (T := TX5) (n := 33) rfl in_X5 (by decide) w_1006 dX5_heal_22 rfl) ?_
  refine tcons (ok_iload_n dX5_heal_25 rfl rfl) ?_
  refine tcons (ok_iaload dX5_heal_26 rfl) ?_
  refine tcons (ok_baload dX5_heal_27 rfl) ?_
  refine tcons (ok_if_ne dX5_heal_28 rfl rfl) ?_
  refine tcons (ok_aload_n dX5_heal_31 rfl rfl) ?_
  refine tcons (ok_getfield (C := RX5) (T := TX5) (n := 33) rfl in_X5 (by decide) w_1000 dX5_heal_32 rfl) ?_
  refine tcons (ok_aload_n dX5_heal_35 rfl rfl) ?_
  refine tcons (ok_getfield (C := RX5) (T := TX5) (n := 33) rfl in_X5 (by decide) w_1007 dX5_heal_36 rfl) ?_
  refine tcons (ok_iload_n dX5_heal_39 rfl rfl) ?_
  refine tcons (ok_iaload dX5_heal_40 rfl) ?_
  refine tcons (ok_baload dX5_heal_41 rfl) ?_
  refine tcons (ok_if_ne dX5_heal_42 rfl rfl) ?_
  refine tcons (ok_aload_n dX5_heal_45 rfl rfl) ?_
  refine tcons (ok_getfield (C := RX5) (T := TX5) (n := 33) rfl in_X5 (by decide) w_1012 dX5_heal_46 rfl) ?_
  refine tcons (ok_iload_n dX5_heal_49 rfl rfl) ?_
  refine tcons (ok_iaload dX5_heal_50 rfl) ?_
  refine tcons (ok_if_ne dX5_heal_51 rfl rfl) ?_
  refine tcons (ok_aload_n dX5_heal_54 rfl rfl) ?_
  refine tcons (ok_iload_n dX5_heal_55 rfl rfl) ?_
  refine tcons (ok_invokevirtual M_X5_hinderedBy (C := RX5) (T := TX5) (nf := 33) rfl w_1190 w_1192 w_28 w_49 w_1193 ⟨rfl, by decide, by decide, by decide +kernel⟩ (by decide) (by decide) dX5_heal_56 rfl) ?_
  refine tcons (ok_if_ne dX5_heal_59 rfl rfl) ?_
  refine tcons (ok_iconst dX5_heal_62 rfl rfl) ?_
  refine tcons (ok_goto dX5_heal_63 rfl) ?_
  refine tcons (ok_iconst dX5_heal_66 rfl rfl) ?_
  refine tcons (ok_istore_n dX5_heal_67 rfl (by decide) rfl) ?_
  refine tcons (ok_aload_n dX5_heal_68 rfl rfl) ?_
  refine tcons (ok_aload_n dX5_heal_69 rfl rfl) ?_
  refine tcons (ok_iload_n dX5_heal_70 rfl rfl) ?_
  refine tcons (ok_invokevirtual M_X5_isVow (C := RX5) (T := TX5) (nf := 33) rfl w_1186 w_1188 w_27 w_49 w_1189 ⟨rfl, by decide, by decide, by decide +kernel⟩ (by decide) (by decide) dX5_heal_71 rfl) ?_
  refine tcons (ok_if_ne dX5_heal_74 rfl rfl) ?_
  refine tcons (ok_iconst dX5_heal_77 rfl rfl) ?_
  refine tcons (ok_goto dX5_heal_78 rfl) ?_
  refine tcons (ok_iload_n dX5_heal_81 rfl rfl) ?_
  refine tcons (ok_if_eq dX5_heal_82 rfl rfl) ?_
  refine tcons (ok_iconst dX5_heal_85 rfl rfl) ?_
  refine tcons (ok_goto dX5_heal_86 rfl) ?_
  refine tcons (ok_iconst dX5_heal_89 rfl rfl) ?_
  refine tcons (ok_invokevirtual M_X5_fails (C := RX5) (T := TX5) (nf := 33) rfl w_1112 w_1114 w_20 w_49 w_1115 ⟨rfl, by decide, by decide, by decide +kernel⟩ (by decide) (by decide) dX5_heal_90 rfl) ?_
  refine tcons (ok_if_ne dX5_heal_93 rfl rfl) ?_
  refine tcons (ok_aload_n dX5_heal_96 rfl rfl) ?_
  refine tcons (ok_getfield (C := RX5) (T := TX5) (n := 33) rfl in_X5 (by decide) w_1010 dX5_heal_97 rfl) ?_
  refine tcons (ok_iload_n dX5_heal_100 rfl rfl) ?_
  refine tcons (ok_iconst dX5_heal_101 rfl rfl) ?_
  refine tcons (ok_bastore dX5_heal_102 rfl) ?_
  refine tcons (ok_vreturn rfl dX5_heal_103) ?_
  exact fun _ h => nomatch h
def sp_X5_heal : Spc := fun av s N _ => match av with
  | [.inl (.inr (20, 0)), .inl (.inl v)] => MI s ∧ WI s ∧ f2 (isV s v) (¬ s.2.1 37 0 (cl v) = 0 ∧ s.2.1 27 0 (cl (s.2.1 33 0 (cl v))) = 0 ∧ s.2.1 27 0 (cl (s.2.1 34 0 (cl v))) = 0 ∧ s.2.1 39 0 (cl v) = 0 ∧ hdM s (cl v) = 0) none N s (N none (stS (th s 0) 37 0 (cl v) 0))
  | _ => False
set_option maxRecDepth 20000 in
set_option maxHeartbeats 2000000 in
theorem M_X5_heal : AMet yX5_heal cX5_heal 3 none 2 0 sp_X5_heal := by
  refine AMet.mk (own := RX5) (by decide) rfl [0, 1, 2] rfl tok_X5_heal 200 ?_
  intro av s0 N X h
  unfold sp_X5_heal at h
  split at h
  rotate_left
  · exact h.elim
  refine ⟨fun _ => none, ?_, fun pc P hP => nomatch hP⟩
  repeat' (first | apply And.intro | (intro q; exact absurd q (by decide)) | intro _)
  all_goals first | decide | (exact Nat.le_of_ble_eq_true rfl) | (exact (WI_v h.1 h.2.1 (by assumption)).1) | (exact (WI_v h.1 h.2.1 (by assumption)).2.1) | (exact (WI_v h.1 h.2.1 (by assumption)).2.2) | (simp_all [f2, hdM, iteP]; done)
theorem dX5_grace_0 : decode cX5_grace 0 = .ok (.aload_n 0, 1) := by decide +kernel
theorem dX5_grace_1 : decode cX5_grace 1 = .ok (.iload_n 1, 1) := by decide +kernel
theorem dX5_grace_2 : decode cX5_grace 2 = .ok (.invokevirtual 154, 3) := by decide +kernel
theorem dX5_grace_5 : decode cX5_grace 5 = .ok (.ifCond .eq 25, 3) := by decide +kernel
theorem dX5_grace_8 : decode cX5_grace 8 = .ok (.aload_n 0, 1) := by decide +kernel
theorem dX5_grace_9 : decode cX5_grace 9 = .ok (.getfield 59, 3) := by decide +kernel
theorem dX5_grace_12 : decode cX5_grace 12 = .ok (.iload_n 1, 1) := by decide +kernel
theorem dX5_grace_13 : decode cX5_grace 13 = .ok (.iaload, 1) := by decide +kernel
theorem dX5_grace_14 : decode cX5_grace 14 = .ok (.ifCond .ne 16, 3) := by decide +kernel
theorem dX5_grace_17 : decode cX5_grace 17 = .ok (.aload_n 0, 1) := by decide +kernel
theorem dX5_grace_18 : decode cX5_grace 18 = .ok (.iload_n 1, 1) := by decide +kernel
theorem dX5_grace_19 : decode cX5_grace 19 = .ok (.iconst (-1), 1) := by decide +kernel
theorem dX5_grace_20 : decode cX5_grace 20 = .ok (.invokevirtual 167, 3) := by decide +kernel
theorem dX5_grace_23 : decode cX5_grace 23 = .ok (.ifCond .eq 7, 3) := by decide +kernel
theorem dX5_grace_26 : decode cX5_grace 26 = .ok (.iconst 1, 1) := by decide +kernel
theorem dX5_grace_27 : decode cX5_grace 27 = .ok (.goto 4, 3) := by decide +kernel
theorem dX5_grace_30 : decode cX5_grace 30 = .ok (.iconst 0, 1) := by decide +kernel
theorem dX5_grace_31 : decode cX5_grace 31 = .ok (.istore_n 2, 1) := by decide +kernel
theorem dX5_grace_32 : decode cX5_grace 32 = .ok (.aload_n 0, 1) := by decide +kernel
theorem dX5_grace_33 : decode cX5_grace 33 = .ok (.aload_n 0, 1) := by decide +kernel
theorem dX5_grace_34 : decode cX5_grace 34 = .ok (.iload_n 1, 1) := by decide +kernel
theorem dX5_grace_35 : decode cX5_grace 35 = .ok (.invokevirtual 154, 3) := by decide +kernel
theorem dX5_grace_38 : decode cX5_grace 38 = .ok (.ifCond .ne 7, 3) := by decide +kernel
theorem dX5_grace_41 : decode cX5_grace 41 = .ok (.iconst 1, 1) := by decide +kernel
theorem dX5_grace_42 : decode cX5_grace 42 = .ok (.goto 12, 3) := by decide +kernel
theorem dX5_grace_45 : decode cX5_grace 45 = .ok (.iload_n 2, 1) := by decide +kernel
theorem dX5_grace_46 : decode cX5_grace 46 = .ok (.ifCond .eq 7, 3) := by decide +kernel
theorem dX5_grace_49 : decode cX5_grace 49 = .ok (.iconst 0, 1) := by decide +kernel
theorem dX5_grace_50 : decode cX5_grace 50 = .ok (.goto 4, 3) := by decide +kernel
theorem dX5_grace_53 : decode cX5_grace 53 = .ok (.iconst 2, 1) := by decide +kernel
theorem dX5_grace_54 : decode cX5_grace 54 = .ok (.invokevirtual 114, 3) := by decide +kernel
theorem dX5_grace_57 : decode cX5_grace 57 = .ok (.ifCond .ne 9, 3) := by decide +kernel
theorem dX5_grace_60 : decode cX5_grace 60 = .ok (.aload_n 0, 1) := by decide +kernel
theorem dX5_grace_61 : decode cX5_grace 61 = .ok (.iload_n 1, 1) := by decide +kernel
theorem dX5_grace_62 : decode cX5_grace 62 = .ok (.iconst 2, 1) := by decide +kernel
theorem dX5_grace_63 : decode cX5_grace 63 = .ok (.invokevirtual 120, 3) := by decide +kernel
theorem dX5_grace_66 : decode cX5_grace 66 = .ok (.return_, 1) := by decide +kernel
def tab_X5_grace : List (Nat × Sem) := [(0, op_al 0 1), (1, op_il 1 2), (2, op_callV 7 sp_X5_isVow 2 0 5), (5, op_if (fun x => x = 0) 30 8), (8, op_al 0 9), (9, op_gf 7 19 12), (12, op_il 1 13), (13, op_iald 14), (14, op_if (fun x => ¬ x = 0) 30 17), (17, op_al 0 18), (18, op_il 1 19), (19, op_ic (-1) 20), (20, op_callV 7 sp_X5_isQuiet 3 0 23), (23, op_if (fun x => x = 0) 30 26), (26, op_ic 1 27), (27, op_go 31), (30, op_ic 0 31), (31, op_is 2 32), (32, op_al 0 33), (33, op_al 0 34), (34, op_il 1 35), (35, op_callV 7 sp_X5_isVow 2 0 38), (38, op_if (fun x => ¬ x = 0) 45 41), (41, op_ic 1 42), (42, op_go 54), (45, op_il 2 46), (46, op_if (fun x => x = 0) 53 49), (49, op_ic 0 50), (50, op_go 54), (53, op_ic 2 54), (54, op_callV 7 sp_X5_fails 2 0 57), (57, op_if (fun x => ¬ x = 0) 66 60), (60, op_al 0 61), (61, op_il 1 62), (62, op_ic 2 63), (63, op_callV 7 sp_X5_ends 3 0 66), (66, op_vret)]
set_option maxRecDepth 20000 in
theorem tok_X5_grace : ∀ q ∈ tab_X5_grace, Snd RX5 cX5_grace 3 2 0 none q.1 q.2 := by
  unfold tab_X5_grace
  refine tcons (ok_aload_n dX5_grace_0 rfl rfl) ?_
  refine tcons (ok_iload_n dX5_grace_1 rfl rfl) ?_
  refine tcons (ok_invokevirtual M_X5_isVow (C := RX5) (T := TX5) (nf := 33) rfl w_1186 w_1188 w_27 w_49 w_1189 ⟨rfl, by decide, by decide, by decide +kernel⟩ (by decide) (by decide) dX5_grace_2 rfl) ?_
  refine tcons (ok_if_eq dX5_grace_5 rfl rfl) ?_
  refine tcons (ok_aload_n dX5_grace_8 rfl rfl) ?_
  refine tcons (ok_getfield (C := RX5) (T := TX5) (n := 33) rfl in_X5 (by decide) w_1012 dX5_grace_9 rfl) ?_
  refine tcons (ok_iload_n dX5_grace_12 rfl rfl) ?_
  refine tcons (ok_iaload dX5_grace_13 rfl) ?_
  refine tcons (ok_if_ne dX5_grace_14 rfl rfl) ?_
  refine tcons (ok_aload_n dX5_grace_17 rfl rfl) ?_
  refine tcons (ok_iload_n dX5_grace_18 rfl rfl) ?_
  refine tcons (ok_iconst dX5_grace_19 rfl rfl) ?_
  refine tcons (ok_invokevirtual M_X5_isQuiet (C := RX5) (T := TX5) (nf := 33) rfl w_1206 w_1208 w_31 w_49 w_1209 ⟨rfl, by decide, by decide, by decide +kernel⟩ (by decide) (by decide) dX5_grace_20 rfl) ?_
  refine tcons (ok_if_eq dX5_grace_23 rfl rfl) ?_
  refine tcons (ok_iconst dX5_grace_26 rfl rfl) ?_
  refine tcons (ok_goto dX5_grace_27 rfl) ?_
  refine tcons (ok_iconst dX5_grace_30 rfl rfl) ?_
  refine tcons (ok_istore_n dX5_grace_31 rfl (by decide) rfl) ?_
  refine tcons (ok_aload_n dX5_grace_32 rfl rfl) ?_
  refine tcons (ok_aload_n dX5_grace_33 rfl rfl) ?_
  refine tcons (ok_iload_n dX5_grace_34 rfl rfl) ?_
  refine tcons (ok_invokevirtual M_X5_isVow (C := RX5) (T := TX5) (nf := 33) rfl w_1186 w_1188 w_27 w_49 w_1189 ⟨rfl, by decide, by decide, by decide +kernel⟩ (by decide) (by decide) dX5_grace_35 rfl) ?_
  refine tcons (ok_if_ne dX5_grace_38 rfl rfl) ?_
  refine tcons (ok_iconst dX5_grace_41 rfl rfl) ?_
  refine tcons (ok_goto dX5_grace_42 rfl) ?_
  refine tcons (ok_iload_n dX5_grace_45 rfl rfl) ?_
  refine tcons (ok_if_eq dX5_grace_46 rfl rfl) ?_
  refine tcons (ok_iconst dX5_grace_49 rfl rfl) ?_
  refine tcons (ok_goto dX5_grace_50 rfl) ?_
  refine tcons (ok_iconst dX5_grace_53 rfl rfl) ?_
  refine tcons (ok_invokevirtual M_X5_fails (C := RX5) (T := TX5) (nf := 33) rfl w_1112 w_1114 w_20 w_49 w_1115 ⟨rfl, by decide, by decide, by decide +kernel⟩ (by decide) (by decide) dX5_grace_54 rfl) ?_
  refine tcons (ok_if_ne dX5_grace_57 rfl rfl) ?_
  refine tcons (ok_aload_n dX5_grace_60 rfl rfl) ?_
  refine tcons (ok_iload_n dX5_grace_61 rfl rfl) ?_
  refine tcons (ok_iconst dX5_grace_62 rfl rfl) ?_
  refine tcons (ok_invokevirtual M_X5_ends (C := RX5) (T := TX5) (nf := 33) rfl w_1136 w_1138 w_21 w_49 w_1139 ⟨rfl, by decide, by decide, by decide +kernel⟩ (by decide) (by decide) dX5_grace_63 rfl) ?_
  refine tcons (ok_vreturn rfl dX5_grace_66) ?_
  exact fun _ h => nomatch h
def sp_X5_grace : Spc := fun av s N _ => match av with
  | [.inl (.inr (20, 0)), .inl (.inl v)] => MI s ∧ f2 (isV s v) (s.2.1 39 0 (cl v) = 0 ∧ quietM s v (-1)) none N s (N none (stS (stS (th s 0) 39 0 (cl v) 2) 40 0 (cl v) (s.2.1 20 0 0)))
  | _ => False
set_option maxRecDepth 20000 in
set_option maxHeartbeats 2000000 in
theorem M_X5_grace : AMet yX5_grace cX5_grace 3 none 2 0 sp_X5_grace := by
  refine AMet.mk (own := RX5) (by decide) rfl [0, 1, 2] rfl tok_X5_grace 200 ?_
  intro av s0 N X h
  unfold sp_X5_grace at h
  split at h
  rotate_left
  · exact h.elim
  refine ⟨fun _ => none, ?_, fun pc P hP => nomatch hP⟩
  repeat' (first | apply And.intro | (intro q; exact absurd q (by decide)) | intro _)
  all_goals first | decide | (exact Nat.le_of_ble_eq_true rfl) | (exact h.1) | (exact Ib_of (MI_v h.1 (by assumption))) | (simp_all [f2, stS_get]; done)
noncomputable def dcM (s : Sg) (v : Nat) : Int32 := hdM s v + iteP (s.2.1 37 0 v = 0) 0 16
theorem dX5_documents_0 : decode cX5_documents 0 = .ok (.aload_n 0, 1) := by decide +kernel
theorem dX5_documents_1 : decode cX5_documents 1 = .ok (.iload_n 1, 1) := by decide +kernel
theorem dX5_documents_2 : decode cX5_documents 2 = .ok (.invokevirtual 154, 3) := by decide +kernel
theorem dX5_documents_5 : decode cX5_documents 5 = .ok (.ifCond .eq 27, 3) := by decide +kernel
theorem dX5_documents_8 : decode cX5_documents 8 = .ok (.aload_n 0, 1) := by decide +kernel
theorem dX5_documents_9 : decode cX5_documents 9 = .ok (.iload_n 1, 1) := by decide +kernel
theorem dX5_documents_10 : decode cX5_documents 10 = .ok (.invokevirtual 157, 3) := by decide +kernel
theorem dX5_documents_13 : decode cX5_documents 13 = .ok (.aload_n 0, 1) := by decide +kernel
theorem dX5_documents_14 : decode cX5_documents 14 = .ok (.getfield 53, 3) := by decide +kernel
theorem dX5_documents_17 : decode cX5_documents 17 = .ok (.iload_n 1, 1) := by decide +kernel
theorem dX5_documents_18 : decode cX5_documents 18 = .ok (.baload, 1) := by decide +kernel
theorem dX5_documents_19 : decode cX5_documents 19 = .ok (.ifCond .eq 8, 3) := by decide +kernel
theorem dX5_documents_22 : decode cX5_documents 22 = .ok (.bipush 16, 2) := by decide +kernel
theorem dX5_documents_24 : decode cX5_documents 24 = .ok (.goto 4, 3) := by decide +kernel
theorem dX5_documents_27 : decode cX5_documents 27 = .ok (.iconst 0, 1) := by decide +kernel
theorem dX5_documents_28 : decode cX5_documents 28 = .ok (.iadd, 1) := by decide +kernel
theorem dX5_documents_29 : decode cX5_documents 29 = .ok (.goto 4, 3) := by decide +kernel
theorem dX5_documents_32 : decode cX5_documents 32 = .ok (.iconst 0, 1) := by decide +kernel
theorem dX5_documents_33 : decode cX5_documents 33 = .ok (.istore_n 2, 1) := by decide +kernel
theorem dX5_documents_34 : decode cX5_documents 34 = .ok (.aload_n 0, 1) := by decide +kernel
theorem dX5_documents_35 : decode cX5_documents 35 = .ok (.aload_n 0, 1) := by decide +kernel
theorem dX5_documents_36 : decode cX5_documents 36 = .ok (.iload_n 1, 1) := by decide +kernel
theorem dX5_documents_37 : decode cX5_documents 37 = .ok (.invokevirtual 154, 3) := by decide +kernel
theorem dX5_documents_40 : decode cX5_documents 40 = .ok (.ifCond .ne 7, 3) := by decide +kernel
theorem dX5_documents_43 : decode cX5_documents 43 = .ok (.iconst 1, 1) := by decide +kernel
theorem dX5_documents_44 : decode cX5_documents 44 = .ok (.goto 29, 3) := by decide +kernel
theorem dX5_documents_47 : decode cX5_documents 47 = .ok (.aload_n 0, 1) := by decide +kernel
theorem dX5_documents_48 : decode cX5_documents 48 = .ok (.iload_n 1, 1) := by decide +kernel
theorem dX5_documents_49 : decode cX5_documents 49 = .ok (.invokevirtual 170, 3) := by decide +kernel
theorem dX5_documents_52 : decode cX5_documents 52 = .ok (.ifCond .eq 20, 3) := by decide +kernel
theorem dX5_documents_55 : decode cX5_documents 55 = .ok (.iload_n 2, 1) := by decide +kernel
theorem dX5_documents_56 : decode cX5_documents 56 = .ok (.ifCond .le 16, 3) := by decide +kernel
theorem dX5_documents_59 : decode cX5_documents 59 = .ok (.aload_n 0, 1) := by decide +kernel
theorem dX5_documents_60 : decode cX5_documents 60 = .ok (.iload_n 1, 1) := by decide +kernel
theorem dX5_documents_61 : decode cX5_documents 61 = .ok (.iconst (-1), 1) := by decide +kernel
theorem dX5_documents_62 : decode cX5_documents 62 = .ok (.invokevirtual 167, 3) := by decide +kernel
theorem dX5_documents_65 : decode cX5_documents 65 = .ok (.ifCond .eq 7, 3) := by decide +kernel
theorem dX5_documents_68 : decode cX5_documents 68 = .ok (.iconst 0, 1) := by decide +kernel
theorem dX5_documents_69 : decode cX5_documents 69 = .ok (.goto 4, 3) := by decide +kernel
theorem dX5_documents_72 : decode cX5_documents 72 = .ok (.iconst 2, 1) := by decide +kernel
theorem dX5_documents_73 : decode cX5_documents 73 = .ok (.invokevirtual 114, 3) := by decide +kernel
theorem dX5_documents_76 : decode cX5_documents 76 = .ok (.ifCond .eq 5, 3) := by decide +kernel
theorem dX5_documents_79 : decode cX5_documents 79 = .ok (.iconst 0, 1) := by decide +kernel
theorem dX5_documents_80 : decode cX5_documents 80 = .ok (.ireturn, 1) := by decide +kernel
theorem dX5_documents_81 : decode cX5_documents 81 = .ok (.aload_n 0, 1) := by decide +kernel
theorem dX5_documents_82 : decode cX5_documents 82 = .ok (.iload_n 1, 1) := by decide +kernel
theorem dX5_documents_83 : decode cX5_documents 83 = .ok (.iconst 1, 1) := by decide +kernel
theorem dX5_documents_84 : decode cX5_documents 84 = .ok (.invokevirtual 120, 3) := by decide +kernel
theorem dX5_documents_87 : decode cX5_documents 87 = .ok (.iload_n 2, 1) := by decide +kernel
theorem dX5_documents_88 : decode cX5_documents 88 = .ok (.ireturn, 1) := by decide +kernel
def tab_X5_documents : List (Nat × Sem) := [(0, op_al 0 1), (1, op_il 1 2), (2, op_callV 7 sp_X5_isVow 2 0 5), (5, op_if (fun x => x = 0) 32 8), (8, op_al 0 9), (9, op_il 1 10), (10, op_callV 7 sp_X5_hinderedBy 2 0 13), (13, op_al 0 14), (14, op_gf 7 17 17), (17, op_il 1 18), (18, op_bald 19), (19, op_if (fun x => x = 0) 27 22), (22, op_ic 16 24), (24, op_go 28), (27, op_ic 0 28), (28, op_bin (fun x y => x + y) 29), (29, op_go 33), (32, op_ic 0 33), (33, op_is 2 34), (34, op_al 0 35), (35, op_al 0 36), (36, op_il 1 37), (37, op_callV 7 sp_X5_isVow 2 0 40), (40, op_if (fun x => ¬ x = 0) 47 43), (43, op_ic 1 44), (44, op_go 73), (47, op_al 0 48), (48, op_il 1 49), (49, op_callV 7 sp_X5_isTold 2 0 52), (52, op_if (fun x => x = 0) 72 55), (55, op_il 2 56), (56, op_if (fun x => x ≤ 0) 72 59), (59, op_al 0 60), (60, op_il 1 61), (61, op_ic (-1) 62), (62, op_callV 7 sp_X5_isQuiet 3 0 65), (65, op_if (fun x => x = 0) 72 68), (68, op_ic 0 69), (69, op_go 73), (72, op_ic 2 73), (73, op_callV 7 sp_X5_fails 2 0 76), (76, op_if (fun x => x = 0) 81 79), (79, op_ic 0 80), (80, op_iret), (81, op_al 0 82), (82, op_il 1 83), (83, op_ic 1 84), (84, op_callV 7 sp_X5_ends 3 0 87), (87, op_il 2 88), (88, op_iret)]
set_option maxRecDepth 20000 in
theorem tok_X5_documents : ∀ q ∈ tab_X5_documents, Snd RX5 cX5_documents 3 2 0 (some .int) q.1 q.2 := by
  unfold tab_X5_documents
  refine tcons (ok_aload_n dX5_documents_0 rfl rfl) ?_
  refine tcons (ok_iload_n dX5_documents_1 rfl rfl) ?_
  refine tcons (ok_invokevirtual M_X5_isVow (C := RX5) (T := TX5) (nf := 33) rfl w_1186 w_1188 w_27 w_49 w_1189 ⟨rfl, by decide, by decide, by decide +kernel⟩ (by decide) (by decide) dX5_documents_2 rfl) ?_
  refine tcons (ok_if_eq dX5_documents_5 rfl rfl) ?_
  refine tcons (ok_aload_n dX5_documents_8 rfl rfl) ?_
  refine tcons (ok_iload_n dX5_documents_9 rfl rfl) ?_
  refine tcons (ok_invokevirtual M_X5_hinderedBy (C := RX5) (T := TX5) (nf := 33) rfl w_1190 w_1192 w_28 w_49 w_1193 ⟨rfl, by decide, by decide, by decide +kernel⟩ (by decide) (by decide) dX5_documents_10 rfl) ?_
  refine tcons (ok_aload_n dX5_documents_13 rfl rfl) ?_
  refine tcons (ok_getfield (C := RX5) (T := TX5) (n := 33) rfl in_X5 (by decide) w_1010 dX5_documents_14 rfl) ?_
  refine tcons (ok_iload_n dX5_documents_17 rfl rfl) ?_
  refine tcons (ok_baload dX5_documents_18 rfl) ?_
  refine tcons (ok_if_eq dX5_documents_19 rfl rfl) ?_
  refine tcons (ok_bipush dX5_documents_22 rfl rfl) ?_
  refine tcons (ok_goto dX5_documents_24 rfl) ?_
  refine tcons (ok_iconst dX5_documents_27 rfl rfl) ?_
  refine tcons (ok_iadd dX5_documents_28 rfl) ?_
  refine tcons (ok_goto dX5_documents_29 rfl) ?_
  refine tcons (ok_iconst dX5_documents_32 rfl rfl) ?_
  refine tcons (ok_istore_n dX5_documents_33 rfl (by decide) rfl) ?_
  refine tcons (ok_aload_n dX5_documents_34 rfl rfl) ?_
  refine tcons (ok_aload_n dX5_documents_35 rfl rfl) ?_
  refine tcons (ok_iload_n dX5_documents_36 rfl rfl) ?_
  refine tcons (ok_invokevirtual M_X5_isVow (C := RX5) (T := TX5) (nf := 33) rfl w_1186 w_1188 w_27 w_49 w_1189 ⟨rfl, by decide, by decide, by decide +kernel⟩ (by decide) (by decide) dX5_documents_37 rfl) ?_
  refine tcons (ok_if_ne dX5_documents_40 rfl rfl) ?_
  refine tcons (ok_iconst dX5_documents_43 rfl rfl) ?_
  refine tcons (ok_goto dX5_documents_44 rfl) ?_
  refine tcons (ok_aload_n dX5_documents_47 rfl rfl) ?_
  refine tcons (ok_iload_n dX5_documents_48 rfl rfl) ?_
  refine tcons (ok_invokevirtual M_X5_isTold (C := RX5) (T := TX5) (nf := 33) rfl w_1217 w_1219 w_32 w_49 w_1220 ⟨rfl, by decide, by decide, by decide +kernel⟩ (by decide) (by decide) dX5_documents_49 rfl) ?_
  refine tcons (ok_if_eq dX5_documents_52 rfl rfl) ?_
  refine tcons (ok_iload_n dX5_documents_55 rfl rfl) ?_
  refine tcons (ok_if_le dX5_documents_56 rfl rfl) ?_
  refine tcons (ok_aload_n dX5_documents_59 rfl rfl) ?_
  refine tcons (ok_iload_n dX5_documents_60 rfl rfl) ?_
  refine tcons (ok_iconst dX5_documents_61 rfl rfl) ?_
  refine tcons (ok_invokevirtual M_X5_isQuiet (C := RX5) (T := TX5) (nf := 33) rfl w_1206 w_1208 w_31 w_49 w_1209 ⟨rfl, by decide, by decide, by decide +kernel⟩ (by decide) (by decide) dX5_documents_62 rfl) ?_
  refine tcons (ok_if_eq dX5_documents_65 rfl rfl) ?_
  refine tcons (ok_iconst dX5_documents_68 rfl rfl) ?_
  refine tcons (ok_goto dX5_documents_69 rfl) ?_
  refine tcons (ok_iconst dX5_documents_72 rfl rfl) ?_
  refine tcons (ok_invokevirtual M_X5_fails (C := RX5) (T := TX5) (nf := 33) rfl w_1112 w_1114 w_20 w_49 w_1115 ⟨rfl, by decide, by decide, by decide +kernel⟩ (by decide) (by decide) dX5_documents_73 rfl) ?_
  refine tcons (ok_if_eq dX5_documents_76 rfl rfl) ?_
  refine tcons (ok_iconst dX5_documents_79 rfl rfl) ?_
  refine tcons (ok_ireturn rfl dX5_documents_80) ?_
  refine tcons (ok_aload_n dX5_documents_81 rfl rfl) ?_
  refine tcons (ok_iload_n dX5_documents_82 rfl rfl) ?_
  refine tcons (ok_iconst dX5_documents_83 rfl rfl) ?_
  refine tcons (ok_invokevirtual M_X5_ends (C := RX5) (T := TX5) (nf := 33) rfl w_1136 w_1138 w_21 w_49 w_1139 ⟨rfl, by decide, by decide, by decide +kernel⟩ (by decide) (by decide) dX5_documents_84 rfl) ?_
  refine tcons (ok_iload_n dX5_documents_87 rfl rfl) ?_
  refine tcons (ok_ireturn rfl dX5_documents_88) ?_
  exact fun _ h => nomatch h
def sp_X5_documents : Spc := fun av s N _ => match av with
  | [.inl (.inr (20, 0)), .inl (.inl v)] => MI s ∧ f2 (isV s v) ((s.2.1 39 0 (cl v) = 0 ∨ s.2.1 39 0 (cl v) = 3) ∧ ¬ dcM s (cl v) ≤ 0 ∧ quietM s v (-1)) (some (aI 0)) N s (N (some (aI (dcM s (cl v)))) (stS (stS (th s 0) 39 0 (cl v) 1) 40 0 (cl v) (s.2.1 20 0 0)))
  | _ => False
set_option maxRecDepth 20000 in
set_option maxHeartbeats 2000000 in
theorem M_X5_documents : AMet yX5_documents cX5_documents 3 (some .int) 2 0 sp_X5_documents := by
  refine AMet.mk (own := RX5) (by decide) rfl [0, 1, 2] rfl tok_X5_documents 200 ?_
  intro av s0 N X h
  unfold sp_X5_documents at h
  split at h
  rotate_left
  · exact h.elim
  refine ⟨fun _ => none, ?_, fun pc P hP => nomatch hP⟩
  repeat' (first | apply And.intro | (intro q; exact absurd q (by decide)) | intro _)
  all_goals first | decide | (exact Nat.le_of_ble_eq_true rfl) | (exact h.1) | (exact Ib_of (MI_v h.1 (by assumption))) | (simp_all [-Int32.not_le, -Int32.not_lt, f2, stS_get, dcM, hdM, iteP]; done)
theorem dX5_appeal_0 : decode cX5_appeal 0 = .ok (.aload_n 0, 1) := by decide +kernel
theorem dX5_appeal_1 : decode cX5_appeal 1 = .ok (.iload_n 1, 1) := by decide +kernel
theorem dX5_appeal_2 : decode cX5_appeal 2 = .ok (.invokevirtual 179, 3) := by decide +kernel
theorem dX5_appeal_5 : decode cX5_appeal 5 = .ok (.ifCond .eq 54, 3) := by decide +kernel
theorem dX5_appeal_8 : decode cX5_appeal 8 = .ok (.aload_n 0, 1) := by decide +kernel
theorem dX5_appeal_9 : decode cX5_appeal 9 = .ok (.getfield 71, 3) := by decide +kernel
theorem dX5_appeal_12 : decode cX5_appeal 12 = .ok (.iload_n 1, 1) := by decide +kernel
theorem dX5_appeal_13 : decode cX5_appeal 13 = .ok (.iaload, 1) := by decide +kernel
theorem dX5_appeal_14 : decode cX5_appeal 14 = .ok (.iconst 3, 1) := by decide +kernel
theorem dX5_appeal_15 : decode cX5_appeal 15 = .ok (.if_icmp .ne 44, 3) := by decide +kernel
theorem dX5_appeal_18 : decode cX5_appeal 18 = .ok (.aload_n 0, 1) := by decide +kernel
theorem dX5_appeal_19 : decode cX5_appeal 19 = .ok (.getfield 74, 3) := by decide +kernel
theorem dX5_appeal_22 : decode cX5_appeal 22 = .ok (.iload_n 1, 1) := by decide +kernel
theorem dX5_appeal_23 : decode cX5_appeal 23 = .ok (.iaload, 1) := by decide +kernel
theorem dX5_appeal_24 : decode cX5_appeal 24 = .ok (.iconst 1, 1) := by decide +kernel
theorem dX5_appeal_25 : decode cX5_appeal 25 = .ok (.if_icmp .ne 34, 3) := by decide +kernel
theorem dX5_appeal_28 : decode cX5_appeal 28 = .ok (.aload_n 0, 1) := by decide +kernel
theorem dX5_appeal_29 : decode cX5_appeal 29 = .ok (.aload_n 0, 1) := by decide +kernel
theorem dX5_appeal_30 : decode cX5_appeal 30 = .ok (.getfield 65, 3) := by decide +kernel
theorem dX5_appeal_33 : decode cX5_appeal 33 = .ok (.iload_n 1, 1) := by decide +kernel
theorem dX5_appeal_34 : decode cX5_appeal 34 = .ok (.iaload, 1) := by decide +kernel
theorem dX5_appeal_35 : decode cX5_appeal 35 = .ok (.invokevirtual 170, 3) := by decide +kernel
theorem dX5_appeal_38 : decode cX5_appeal 38 = .ok (.ifCond .eq 21, 3) := by decide +kernel
theorem dX5_appeal_41 : decode cX5_appeal 41 = .ok (.aload_n 0, 1) := by decide +kernel
theorem dX5_appeal_42 : decode cX5_appeal 42 = .ok (.aload_n 0, 1) := by decide +kernel
theorem dX5_appeal_43 : decode cX5_appeal 43 = .ok (.getfield 65, 3) := by decide +kernel
theorem dX5_appeal_46 : decode cX5_appeal 46 = .ok (.iload_n 1, 1) := by decide +kernel
theorem dX5_appeal_47 : decode cX5_appeal 47 = .ok (.iaload, 1) := by decide +kernel
theorem dX5_appeal_48 : decode cX5_appeal 48 = .ok (.iload_n 1, 1) := by decide +kernel
theorem dX5_appeal_49 : decode cX5_appeal 49 = .ok (.invokevirtual 167, 3) := by decide +kernel
theorem dX5_appeal_52 : decode cX5_appeal 52 = .ok (.ifCond .eq 7, 3) := by decide +kernel
theorem dX5_appeal_55 : decode cX5_appeal 55 = .ok (.iconst 1, 1) := by decide +kernel
theorem dX5_appeal_56 : decode cX5_appeal 56 = .ok (.goto 4, 3) := by decide +kernel
theorem dX5_appeal_59 : decode cX5_appeal 59 = .ok (.iconst 0, 1) := by decide +kernel
theorem dX5_appeal_60 : decode cX5_appeal 60 = .ok (.istore_n 2, 1) := by decide +kernel
theorem dX5_appeal_61 : decode cX5_appeal 61 = .ok (.aload_n 0, 1) := by decide +kernel
theorem dX5_appeal_62 : decode cX5_appeal 62 = .ok (.aload_n 0, 1) := by decide +kernel
theorem dX5_appeal_63 : decode cX5_appeal 63 = .ok (.iload_n 1, 1) := by decide +kernel
theorem dX5_appeal_64 : decode cX5_appeal 64 = .ok (.invokevirtual 179, 3) := by decide +kernel
theorem dX5_appeal_67 : decode cX5_appeal 67 = .ok (.ifCond .ne 7, 3) := by decide +kernel
theorem dX5_appeal_70 : decode cX5_appeal 70 = .ok (.iconst 1, 1) := by decide +kernel
theorem dX5_appeal_71 : decode cX5_appeal 71 = .ok (.goto 12, 3) := by decide +kernel
theorem dX5_appeal_74 : decode cX5_appeal 74 = .ok (.iload_n 2, 1) := by decide +kernel
theorem dX5_appeal_75 : decode cX5_appeal 75 = .ok (.ifCond .eq 7, 3) := by decide +kernel
theorem dX5_appeal_78 : decode cX5_appeal 78 = .ok (.iconst 0, 1) := by decide +kernel
theorem dX5_appeal_79 : decode cX5_appeal 79 = .ok (.goto 4, 3) := by decide +kernel
theorem dX5_appeal_82 : decode cX5_appeal 82 = .ok (.iconst 2, 1) := by decide +kernel
theorem dX5_appeal_83 : decode cX5_appeal 83 = .ok (.invokevirtual 114, 3) := by decide +kernel
theorem dX5_appeal_86 : decode cX5_appeal 86 = .ok (.ifCond .ne 9, 3) := by decide +kernel
theorem dX5_appeal_89 : decode cX5_appeal 89 = .ok (.aload_n 0, 1) := by decide +kernel
theorem dX5_appeal_90 : decode cX5_appeal 90 = .ok (.iload_n 1, 1) := by decide +kernel
theorem dX5_appeal_91 : decode cX5_appeal 91 = .ok (.iconst 2, 1) := by decide +kernel
theorem dX5_appeal_92 : decode cX5_appeal 92 = .ok (.invokevirtual 195, 3) := by decide +kernel
theorem dX5_appeal_95 : decode cX5_appeal 95 = .ok (.return_, 1) := by decide +kernel
def tab_X5_appeal : List (Nat × Sem) := [(0, op_al 0 1), (1, op_il 1 2), (2, op_callV 7 sp_X5_isCause 2 0 5), (5, op_if (fun x => x = 0) 59 8), (8, op_al 0 9), (9, op_gf 7 24 12), (12, op_il 1 13), (13, op_iald 14), (14, op_ic 3 15), (15, op_cmp (fun x y => ¬ x = y) 59 18), (18, op_al 0 19), (19, op_gf 7 25 22), (22, op_il 1 23), (23, op_iald 24), (24, op_ic 1 25), (25, op_cmp (fun x y => ¬ x = y) 59 28), (28, op_al 0 29), (29, op_al 0 30), (30, op_gf 7 22 33), (33, op_il 1 34), (34, op_iald 35), (35, op_callV 7 sp_X5_isTold 2 0 38), (38, op_if (fun x => x = 0) 59 41), (41, op_al 0 42), (42, op_al 0 43), (43, op_gf 7 22 46), (46, op_il 1 47), (47, op_iald 48), (48, op_il 1 49), (49, op_callV 7 sp_X5_isQuiet 3 0 52), (52, op_if (fun x => x = 0) 59 55), (55, op_ic 1 56), (56, op_go 60), (59, op_ic 0 60), (60, op_is 2 61), (61, op_al 0 62), (62, op_al 0 63), (63, op_il 1 64), (64, op_callV 7 sp_X5_isCause 2 0 67), (67, op_if (fun x => ¬ x = 0) 74 70), (70, op_ic 1 71), (71, op_go 83), (74, op_il 2 75), (75, op_if (fun x => x = 0) 82 78), (78, op_ic 0 79), (79, op_go 83), (82, op_ic 2 83), (83, op_callV 7 sp_X5_fails 2 0 86), (86, op_if (fun x => ¬ x = 0) 95 89), (89, op_al 0 90), (90, op_il 1 91), (91, op_ic 2 92), (92, op_callV 7 sp_X5_opens 3 0 95), (95, op_vret)]
set_option maxRecDepth 20000 in
theorem tok_X5_appeal : ∀ q ∈ tab_X5_appeal, Snd RX5 cX5_appeal 3 2 0 none q.1 q.2 := by
  unfold tab_X5_appeal
  refine tcons (ok_aload_n dX5_appeal_0 rfl rfl) ?_
  refine tcons (ok_iload_n dX5_appeal_1 rfl rfl) ?_
  refine tcons (ok_invokevirtual M_X5_isCause (C := RX5) (T := TX5) (nf := 33) rfl w_1236 w_1238 w_34 w_49 w_1239 ⟨rfl, by decide, by decide, by decide +kernel⟩ (by decide) (by decide) dX5_appeal_2 rfl) ?_
  refine tcons (ok_if_eq dX5_appeal_5 rfl rfl) ?_
  refine tcons (ok_aload_n dX5_appeal_8 rfl rfl) ?_
  refine tcons (ok_getfield (C := RX5) (T := TX5) (n := 33) rfl in_X5 (by decide) w_1017 dX5_appeal_9 rfl) ?_
  refine tcons (ok_iload_n dX5_appeal_12 rfl rfl) ?_
  refine tcons (ok_iaload dX5_appeal_13 rfl) ?_
  refine tcons (ok_iconst dX5_appeal_14 rfl rfl) ?_
  refine tcons (ok_icmp_ne dX5_appeal_15 rfl rfl) ?_
  refine tcons (ok_aload_n dX5_appeal_18 rfl rfl) ?_
  refine tcons (ok_getfield (C := RX5) (T := TX5) (n := 33) rfl in_X5 (by decide) w_1018 dX5_appeal_19 rfl) ?_
  refine tcons (ok_iload_n dX5_appeal_22 rfl rfl) ?_
  refine tcons (ok_iaload dX5_appeal_23 rfl) ?_
  refine tcons (ok_iconst dX5_appeal_24 rfl rfl) ?_
  refine tcons (ok_icmp_ne dX5_appeal_25 rfl rfl) ?_
  refine tcons (ok_aload_n dX5_appeal_28 rfl rfl) ?_
  refine tcons (ok_aload_n dX5_appeal_29 rfl rfl) ?_
  refine tcons (ok_getfield (C := RX5) (T := TX5) (n := 33) rfl in_X5 (by decide) w_1015 dX5_appeal_30 rfl) ?_
  refine tcons (ok_iload_n dX5_appeal_33 rfl rfl) ?_
  refine tcons (ok_iaload dX5_appeal_34 rfl) ?_
  refine tcons (ok_invokevirtual M_X5_isTold (C := RX5) (T := TX5) (nf := 33) rfl w_1217 w_1219 w_32 w_49 w_1220 ⟨rfl, by decide, by decide, by decide +kernel⟩ (by decide) (by decide) dX5_appeal_35 rfl) ?_
  refine tcons (ok_if_eq dX5_appeal_38 rfl rfl) ?_
  refine tcons (ok_aload_n dX5_appeal_41 rfl rfl) ?_
  refine tcons (ok_aload_n dX5_appeal_42 rfl rfl) ?_
  refine tcons (ok_getfield (C := RX5) (T := TX5) (n := 33) rfl in_X5 (by decide) w_1015 dX5_appeal_43 rfl) ?_
  refine tcons (ok_iload_n dX5_appeal_46 rfl rfl) ?_
  refine tcons (ok_iaload dX5_appeal_47 rfl) ?_
  refine tcons (ok_iload_n dX5_appeal_48 rfl rfl) ?_
  refine tcons (ok_invokevirtual M_X5_isQuiet (C := RX5) (T := TX5) (nf := 33) rfl w_1206 w_1208 w_31 w_49 w_1209 ⟨rfl, by decide, by decide, by decide +kernel⟩ (by decide) (by decide) dX5_appeal_49 rfl) ?_
  refine tcons (ok_if_eq dX5_appeal_52 rfl rfl) ?_
  refine tcons (ok_iconst dX5_appeal_55 rfl rfl) ?_
  refine tcons (ok_goto dX5_appeal_56 rfl) ?_
  refine tcons (ok_iconst dX5_appeal_59 rfl rfl) ?_
  refine tcons (ok_istore_n dX5_appeal_60 rfl (by decide) rfl) ?_
  refine tcons (ok_aload_n dX5_appeal_61 rfl rfl) ?_
  refine tcons (ok_aload_n dX5_appeal_62 rfl rfl) ?_
  refine tcons (ok_iload_n dX5_appeal_63 rfl rfl) ?_
  refine tcons (ok_invokevirtual M_X5_isCause (C := RX5) (T := TX5) (nf := 33) rfl w_1236 w_1238 w_34 w_49 w_1239 ⟨rfl, by decide, by decide, by decide +kernel⟩ (by decide) (by decide) dX5_appeal_64 rfl) ?_
  refine tcons (ok_if_ne dX5_appeal_67 rfl rfl) ?_
  refine tcons (ok_iconst dX5_appeal_70 rfl rfl) ?_
  refine tcons (ok_goto dX5_appeal_71 rfl) ?_
  refine tcons (ok_iload_n dX5_appeal_74 rfl rfl) ?_
  refine tcons (ok_if_eq dX5_appeal_75 rfl rfl) ?_
  refine tcons (ok_iconst dX5_appeal_78 rfl rfl) ?_
  refine tcons (ok_goto dX5_appeal_79 rfl) ?_
  refine tcons (ok_iconst dX5_appeal_82 rfl rfl) ?_
  refine tcons (ok_invokevirtual M_X5_fails (C := RX5) (T := TX5) (nf := 33) rfl w_1112 w_1114 w_20 w_49 w_1115 ⟨rfl, by decide, by decide, by decide +kernel⟩ (by decide) (by decide) dX5_appeal_83 rfl) ?_
  refine tcons (ok_if_ne dX5_appeal_86 rfl rfl) ?_
  refine tcons (ok_aload_n dX5_appeal_89 rfl rfl) ?_
  refine tcons (ok_iload_n dX5_appeal_90 rfl rfl) ?_
  refine tcons (ok_iconst dX5_appeal_91 rfl rfl) ?_
  refine tcons (ok_invokevirtual M_X5_opens (C := RX5) (T := TX5) (nf := 33) rfl w_1267 w_1269 w_37 w_49 w_1270 ⟨rfl, by decide, by decide, by decide +kernel⟩ (by decide) (by decide) dX5_appeal_92 rfl) ?_
  refine tcons (ok_vreturn rfl dX5_appeal_95) ?_
  exact fun _ h => nomatch h
def sp_X5_appeal : Spc := fun av s N _ => match av with
  | [.inl (.inr (20, 0)), .inl (.inl c)] => MI s ∧ WI s ∧ f2 (isC s c) (s.2.1 44 0 (cl c) = 3 ∧ s.2.1 45 0 (cl c) = 1 ∧ (s.2.1 39 0 (cl (s.2.1 42 0 (cl c))) = 0 ∨ s.2.1 39 0 (cl (s.2.1 42 0 (cl c))) = 3) ∧ quietM s (s.2.1 42 0 (cl c)) c) none N s
      (N none (stR (stS (stS (stS (th s 0) 44 0 (cl c) 0) 45 0 (cl c) 2) 47 0 (cl c) 0) 48 (3 * cl c) 3 (-1)))
  | _ => False
set_option maxRecDepth 20000 in
set_option maxHeartbeats 2000000 in
theorem M_X5_appeal : AMet yX5_appeal cX5_appeal 3 none 2 0 sp_X5_appeal := by
  refine AMet.mk (own := RX5) (by decide) rfl [0, 1, 2] rfl tok_X5_appeal 200 ?_
  intro av s0 N X h
  unfold sp_X5_appeal at h
  split at h
  rotate_left
  · exact h.elim
  refine ⟨fun _ => none, ?_, fun pc P hP => nomatch hP⟩
  repeat' (first | apply And.intro | (intro q; exact absurd q (by decide)) | intro _)
  all_goals first | decide | (exact Nat.le_of_ble_eq_true rfl) | (exact h.1) | (exact Ib_of (MI_c h.1 (by assumption))) | (exact WI_c h.1 h.2.1 (by assumption)) | (simp_all [f2, stS_get]; done)
theorem mwt_eq {s s' : Sg} (h : ∀ j, s'.2.1 46 0 j = s.2.1 46 0 j) (c : Nat) : mwt s' c = mwt s c := funext fun g => h _
/-- the grounds proved -/
def prM (s : Sg) (c : Nat) : Int32 := prvR (s.2.1 43 0 c) (mwt s c) 7
theorem dX5_publish_0 : decode cX5_publish 0 = .ok (.aload_n 0, 1) := by decide +kernel
theorem dX5_publish_1 : decode cX5_publish 1 = .ok (.aload_n 0, 1) := by decide +kernel
theorem dX5_publish_2 : decode cX5_publish 2 = .ok (.iload_n 1, 1) := by decide +kernel
theorem dX5_publish_3 : decode cX5_publish 3 = .ok (.invokevirtual 179, 3) := by decide +kernel
theorem dX5_publish_6 : decode cX5_publish 6 = .ok (.ifCond .ne 7, 3) := by decide +kernel
theorem dX5_publish_9 : decode cX5_publish 9 = .ok (.iconst 1, 1) := by decide +kernel
theorem dX5_publish_10 : decode cX5_publish 10 = .ok (.goto 17, 3) := by decide +kernel
theorem dX5_publish_13 : decode cX5_publish 13 = .ok (.aload_n 0, 1) := by decide +kernel
theorem dX5_publish_14 : decode cX5_publish 14 = .ok (.getfield 71, 3) := by decide +kernel
theorem dX5_publish_17 : decode cX5_publish 17 = .ok (.iload_n 1, 1) := by decide +kernel
theorem dX5_publish_18 : decode cX5_publish 18 = .ok (.iaload, 1) := by decide +kernel
theorem dX5_publish_19 : decode cX5_publish 19 = .ok (.ifCond .ne 7, 3) := by decide +kernel
theorem dX5_publish_22 : decode cX5_publish 22 = .ok (.iconst 0, 1) := by decide +kernel
theorem dX5_publish_23 : decode cX5_publish 23 = .ok (.goto 4, 3) := by decide +kernel
theorem dX5_publish_26 : decode cX5_publish 26 = .ok (.iconst 2, 1) := by decide +kernel
theorem dX5_publish_27 : decode cX5_publish 27 = .ok (.invokevirtual 114, 3) := by decide +kernel
theorem dX5_publish_30 : decode cX5_publish 30 = .ok (.ifCond .eq 5, 3) := by decide +kernel
theorem dX5_publish_33 : decode cX5_publish 33 = .ok (.iconst 0, 1) := by decide +kernel
theorem dX5_publish_34 : decode cX5_publish 34 = .ok (.ireturn, 1) := by decide +kernel
theorem dX5_publish_35 : decode cX5_publish 35 = .ok (.aload_n 0, 1) := by decide +kernel
theorem dX5_publish_36 : decode cX5_publish 36 = .ok (.getfield 71, 3) := by decide +kernel
theorem dX5_publish_39 : decode cX5_publish 39 = .ok (.iload_n 1, 1) := by decide +kernel
theorem dX5_publish_40 : decode cX5_publish 40 = .ok (.iconst 1, 1) := by decide +kernel
theorem dX5_publish_41 : decode cX5_publish 41 = .ok (.iastore, 1) := by decide +kernel
theorem dX5_publish_42 : decode cX5_publish 42 = .ok (.aload_n 0, 1) := by decide +kernel
theorem dX5_publish_43 : decode cX5_publish 43 = .ok (.iload_n 1, 1) := by decide +kernel
theorem dX5_publish_44 : decode cX5_publish 44 = .ok (.invokevirtual 185, 3) := by decide +kernel
theorem dX5_publish_47 : decode cX5_publish 47 = .ok (.ireturn, 1) := by decide +kernel
def tab_X5_publish : List (Nat × Sem) := [(0, op_al 0 1), (1, op_al 0 2), (2, op_il 1 3), (3, op_callV 7 sp_X5_isCause 2 0 6), (6, op_if (fun x => ¬ x = 0) 13 9), (9, op_ic 1 10), (10, op_go 27), (13, op_al 0 14), (14, op_gf 7 24 17), (17, op_il 1 18), (18, op_iald 19), (19, op_if (fun x => ¬ x = 0) 26 22), (22, op_ic 0 23), (23, op_go 27), (26, op_ic 2 27), (27, op_callV 7 sp_X5_fails 2 0 30), (30, op_if (fun x => x = 0) 35 33), (33, op_ic 0 34), (34, op_iret), (35, op_al 0 36), (36, op_gf 7 24 39), (39, op_il 1 40), (40, op_ic 1 41), (41, op_iast 42), (42, op_al 0 43), (43, op_il 1 44), (44, op_callV 7 sp_X5_proven 2 0 47), (47, op_iret)]
set_option maxRecDepth 20000 in
theorem tok_X5_publish : ∀ q ∈ tab_X5_publish, Snd RX5 cX5_publish 2 2 0 (some .int) q.1 q.2 := by
  unfold tab_X5_publish
  refine tcons (ok_aload_n dX5_publish_0 rfl rfl) ?_
  refine tcons (ok_aload_n dX5_publish_1 rfl rfl) ?_
  refine tcons (ok_iload_n dX5_publish_2 rfl rfl) ?_
  refine tcons (ok_invokevirtual M_X5_isCause (C := RX5) (T := TX5) (nf := 33) rfl w_1236 w_1238 w_34 w_49 w_1239 ⟨rfl, by decide, by decide, by decide +kernel⟩ (by decide) (by decide) dX5_publish_3 rfl) ?_
  refine tcons (ok_if_ne dX5_publish_6 rfl rfl) ?_
  refine tcons (ok_iconst dX5_publish_9 rfl rfl) ?_
  refine tcons (ok_goto dX5_publish_10 rfl) ?_
  refine tcons (ok_aload_n dX5_publish_13 rfl rfl) ?_
  refine tcons (ok_getfield (C := RX5) (T := TX5) (n := 33) rfl in_X5 (by decide) w_1017 dX5_publish_14 rfl) ?_
  refine tcons (ok_iload_n dX5_publish_17 rfl rfl) ?_
  refine tcons (ok_iaload dX5_publish_18 rfl) ?_
  refine tcons (ok_if_ne dX5_publish_19 rfl rfl) ?_
  refine tcons (ok_iconst dX5_publish_22 rfl rfl) ?_
  refine tcons (ok_goto dX5_publish_23 rfl) ?_
  refine tcons (ok_iconst dX5_publish_26 rfl rfl) ?_
  refine tcons (ok_invokevirtual M_X5_fails (C := RX5) (T := TX5) (nf := 33) rfl w_1112 w_1114 w_20 w_49 w_1115 ⟨rfl, by decide, by decide, by decide +kernel⟩ (by decide) (by decide) dX5_publish_27 rfl) ?_
  refine tcons (ok_if_eq dX5_publish_30 rfl rfl) ?_
  refine tcons (ok_iconst dX5_publish_33 rfl rfl) ?_
  refine tcons (ok_ireturn rfl dX5_publish_34) ?_
  refine tcons (ok_aload_n dX5_publish_35 rfl rfl) ?_
  refine tcons (ok_getfield (C := RX5) (T := TX5) (n := 33) rfl in_X5 (by decide) w_1017 dX5_publish_36 rfl) ?_
  refine tcons (ok_iload_n dX5_publish_39 rfl rfl) ?_
  refine tcons (ok_iconst dX5_publish_40 rfl rfl) ?_
  refine tcons (ok_iastore dX5_publish_41 rfl) ?_
  refine tcons (ok_aload_n dX5_publish_42 rfl rfl) ?_
  refine tcons (ok_iload_n dX5_publish_43 rfl rfl) ?_
  refine tcons (ok_invokevirtual M_X5_proven (C := RX5) (T := TX5) (nf := 33) rfl w_1251 w_1253 w_35 w_49 w_1254 ⟨rfl, by decide, by decide, by decide +kernel⟩ (by decide) (by decide) dX5_publish_44 rfl) ?_
  refine tcons (ok_ireturn rfl dX5_publish_47) ?_
  exact fun _ h => nomatch h
def sp_X5_publish : Spc := fun av s N _ => match av with
  | [.inl (.inr (20, 0)), .inl (.inl c)] => MI s ∧ f2 (isC s c) (s.2.1 44 0 (cl c) = 0) (some (aI 0)) N s (N (some (aI (prM s (cl c)))) (stS (th s 0) 44 0 (cl c) 1))
  | _ => False
theorem prM_1 {s : Sg} {c i : Nat} {k : Int32} : prvR ((stS (th s 0) 44 0 i k).2.1 43 0 c) (mwt (stS (th s 0) 44 0 i k) c) 7 = prM s c := by
  rw [mwt_eq (s := s) (fun j => by simp [stS_get])]; simp [prM, stS_get]
set_option maxRecDepth 20000 in
set_option maxHeartbeats 2000000 in
theorem M_X5_publish : AMet yX5_publish cX5_publish 2 (some .int) 2 0 sp_X5_publish := by
  refine AMet.mk (own := RX5) (by decide) rfl [0, 1] rfl tok_X5_publish 200 ?_
  intro av s0 N X h
  unfold sp_X5_publish at h
  split at h
  rotate_left
  · exact h.elim
  refine ⟨fun _ => none, ?_, fun pc P hP => nomatch hP⟩
  repeat' (first | apply And.intro | (intro q; exact absurd q (by decide)) | intro _)
  all_goals first | decide | (exact Nat.le_of_ble_eq_true rfl) | (exact Ib_of (MI_c h.1 (by assumption))) | (simp_all [f2, prM_1]; done)
end
section
theorem dX5_proof_0 : decode cX5_proof 0 = .ok (.iload_n 2, 1) := by decide +kernel
theorem dX5_proof_1 : decode cX5_proof 1 = .ok (.iconst 0, 1) := by decide +kernel
theorem dX5_proof_2 : decode cX5_proof 2 = .ok (.bipush 6, 2) := by decide +kernel
theorem dX5_proof_4 : decode cX5_proof 4 = .ok (.invokestatic 99, 3) := by decide +kernel
theorem dX5_proof_7 : decode cX5_proof 7 = .ok (.ifCond .eq 18, 3) := by decide +kernel
theorem dX5_proof_10 : decode cX5_proof 10 = .ok (.iload_n 3, 1) := by decide +kernel
theorem dX5_proof_11 : decode cX5_proof 11 = .ok (.bipush (-10), 2) := by decide +kernel
theorem dX5_proof_13 : decode cX5_proof 13 = .ok (.bipush 10, 2) := by decide +kernel
theorem dX5_proof_15 : decode cX5_proof 15 = .ok (.invokestatic 99, 3) := by decide +kernel
theorem dX5_proof_18 : decode cX5_proof 18 = .ok (.ifCond .eq 7, 3) := by decide +kernel
theorem dX5_proof_21 : decode cX5_proof 21 = .ok (.iconst 1, 1) := by decide +kernel
theorem dX5_proof_22 : decode cX5_proof 22 = .ok (.goto 4, 3) := by decide +kernel
theorem dX5_proof_25 : decode cX5_proof 25 = .ok (.iconst 0, 1) := by decide +kernel
theorem dX5_proof_26 : decode cX5_proof 26 = .ok (.istore 4, 2) := by decide +kernel
theorem dX5_proof_28 : decode cX5_proof 28 = .ok (.aload_n 0, 1) := by decide +kernel
theorem dX5_proof_29 : decode cX5_proof 29 = .ok (.iload_n 1, 1) := by decide +kernel
theorem dX5_proof_30 : decode cX5_proof 30 = .ok (.invokevirtual 179, 3) := by decide +kernel
theorem dX5_proof_33 : decode cX5_proof 33 = .ok (.ifCond .eq 59, 3) := by decide +kernel
theorem dX5_proof_36 : decode cX5_proof 36 = .ok (.iload 4, 2) := by decide +kernel
theorem dX5_proof_38 : decode cX5_proof 38 = .ok (.ifCond .eq 54, 3) := by decide +kernel
theorem dX5_proof_41 : decode cX5_proof 41 = .ok (.aload_n 0, 1) := by decide +kernel
theorem dX5_proof_42 : decode cX5_proof 42 = .ok (.getfield 71, 3) := by decide +kernel
theorem dX5_proof_45 : decode cX5_proof 45 = .ok (.iload_n 1, 1) := by decide +kernel
theorem dX5_proof_46 : decode cX5_proof 46 = .ok (.iaload, 1) := by decide +kernel
theorem dX5_proof_47 : decode cX5_proof 47 = .ok (.ifCond .ne 45, 3) := by decide +kernel
theorem dX5_proof_50 : decode cX5_proof 50 = .ok (.aload_n 0, 1) := by decide +kernel
theorem dX5_proof_51 : decode cX5_proof 51 = .ok (.getfield 68, 3) := by decide +kernel
theorem dX5_proof_54 : decode cX5_proof 54 = .ok (.iload_n 1, 1) := by decide +kernel
theorem dX5_proof_55 : decode cX5_proof 55 = .ok (.iaload, 1) := by decide +kernel
theorem dX5_proof_56 : decode cX5_proof 56 = .ok (.iload_n 2, 1) := by decide +kernel
theorem dX5_proof_57 : decode cX5_proof 57 = .ok (.invokestatic 182, 3) := by decide +kernel
theorem dX5_proof_60 : decode cX5_proof 60 = .ok (.ifCond .eq 32, 3) := by decide +kernel
theorem dX5_proof_63 : decode cX5_proof 63 = .ok (.aload_n 0, 1) := by decide +kernel
theorem dX5_proof_64 : decode cX5_proof 64 = .ok (.getfield 77, 3) := by decide +kernel
theorem dX5_proof_67 : decode cX5_proof 67 = .ok (.bipush 7, 2) := by decide +kernel
theorem dX5_proof_69 : decode cX5_proof 69 = .ok (.iload_n 1, 1) := by decide +kernel
theorem dX5_proof_70 : decode cX5_proof 70 = .ok (.imul, 1) := by decide +kernel
theorem dX5_proof_71 : decode cX5_proof 71 = .ok (.iload_n 2, 1) := by decide +kernel
theorem dX5_proof_72 : decode cX5_proof 72 = .ok (.iadd, 1) := by decide +kernel
theorem dX5_proof_73 : decode cX5_proof 73 = .ok (.iaload, 1) := by decide +kernel
theorem dX5_proof_74 : decode cX5_proof 74 = .ok (.iload_n 3, 1) := by decide +kernel
theorem dX5_proof_75 : decode cX5_proof 75 = .ok (.iadd, 1) := by decide +kernel
theorem dX5_proof_76 : decode cX5_proof 76 = .ok (.sipush (-1000), 3) := by decide +kernel
theorem dX5_proof_79 : decode cX5_proof 79 = .ok (.sipush 1000, 3) := by decide +kernel
theorem dX5_proof_82 : decode cX5_proof 82 = .ok (.invokestatic 99, 3) := by decide +kernel
theorem dX5_proof_85 : decode cX5_proof 85 = .ok (.ifCond .eq 7, 3) := by decide +kernel
theorem dX5_proof_88 : decode cX5_proof 88 = .ok (.iconst 1, 1) := by decide +kernel
theorem dX5_proof_89 : decode cX5_proof 89 = .ok (.goto 4, 3) := by decide +kernel
theorem dX5_proof_92 : decode cX5_proof 92 = .ok (.iconst 0, 1) := by decide +kernel
theorem dX5_proof_93 : decode cX5_proof 93 = .ok (.istore 5, 2) := by decide +kernel
theorem dX5_proof_95 : decode cX5_proof 95 = .ok (.aload_n 0, 1) := by decide +kernel
theorem dX5_proof_96 : decode cX5_proof 96 = .ok (.aload_n 0, 1) := by decide +kernel
theorem dX5_proof_97 : decode cX5_proof 97 = .ok (.iload_n 1, 1) := by decide +kernel
theorem dX5_proof_98 : decode cX5_proof 98 = .ok (.invokevirtual 179, 3) := by decide +kernel
theorem dX5_proof_101 : decode cX5_proof 101 = .ok (.ifCond .ne 7, 3) := by decide +kernel
theorem dX5_proof_104 : decode cX5_proof 104 = .ok (.iconst 1, 1) := by decide +kernel
theorem dX5_proof_105 : decode cX5_proof 105 = .ok (.goto 22, 3) := by decide +kernel
theorem dX5_proof_108 : decode cX5_proof 108 = .ok (.iload 4, 2) := by decide +kernel
theorem dX5_proof_110 : decode cX5_proof 110 = .ok (.ifCond .ne 7, 3) := by decide +kernel
theorem dX5_proof_113 : decode cX5_proof 113 = .ok (.iconst 2, 1) := by decide +kernel
theorem dX5_proof_114 : decode cX5_proof 114 = .ok (.goto 13, 3) := by decide +kernel
theorem dX5_proof_117 : decode cX5_proof 117 = .ok (.iload 5, 2) := by decide +kernel
theorem dX5_proof_119 : decode cX5_proof 119 = .ok (.ifCond .eq 7, 3) := by decide +kernel
theorem dX5_proof_122 : decode cX5_proof 122 = .ok (.iconst 0, 1) := by decide +kernel
theorem dX5_proof_123 : decode cX5_proof 123 = .ok (.goto 4, 3) := by decide +kernel
theorem dX5_proof_126 : decode cX5_proof 126 = .ok (.iconst 3, 1) := by decide +kernel
theorem dX5_proof_127 : decode cX5_proof 127 = .ok (.invokevirtual 114, 3) := by decide +kernel
theorem dX5_proof_130 : decode cX5_proof 130 = .ok (.ifCond .eq 5, 3) := by decide +kernel
theorem dX5_proof_133 : decode cX5_proof 133 = .ok (.iconst 0, 1) := by decide +kernel
theorem dX5_proof_134 : decode cX5_proof 134 = .ok (.ireturn, 1) := by decide +kernel
theorem dX5_proof_135 : decode cX5_proof 135 = .ok (.aload_n 0, 1) := by decide +kernel
theorem dX5_proof_136 : decode cX5_proof 136 = .ok (.getfield 77, 3) := by decide +kernel
theorem dX5_proof_139 : decode cX5_proof 139 = .ok (.bipush 7, 2) := by decide +kernel
theorem dX5_proof_141 : decode cX5_proof 141 = .ok (.iload_n 1, 1) := by decide +kernel
theorem dX5_proof_142 : decode cX5_proof 142 = .ok (.imul, 1) := by decide +kernel
theorem dX5_proof_143 : decode cX5_proof 143 = .ok (.iload_n 2, 1) := by decide +kernel
theorem dX5_proof_144 : decode cX5_proof 144 = .ok (.iadd, 1) := by decide +kernel
theorem dX5_proof_145 : decode cX5_proof 145 = .ok (.dup2, 1) := by decide +kernel
theorem dX5_proof_146 : decode cX5_proof 146 = .ok (.iaload, 1) := by decide +kernel
theorem dX5_proof_147 : decode cX5_proof 147 = .ok (.iload_n 3, 1) := by decide +kernel
theorem dX5_proof_148 : decode cX5_proof 148 = .ok (.iadd, 1) := by decide +kernel
theorem dX5_proof_149 : decode cX5_proof 149 = .ok (.iastore, 1) := by decide +kernel
theorem dX5_proof_150 : decode cX5_proof 150 = .ok (.aload_n 0, 1) := by decide +kernel
theorem dX5_proof_151 : decode cX5_proof 151 = .ok (.getfield 77, 3) := by decide +kernel
theorem dX5_proof_154 : decode cX5_proof 154 = .ok (.bipush 7, 2) := by decide +kernel
theorem dX5_proof_156 : decode cX5_proof 156 = .ok (.iload_n 1, 1) := by decide +kernel
theorem dX5_proof_157 : decode cX5_proof 157 = .ok (.imul, 1) := by decide +kernel
theorem dX5_proof_158 : decode cX5_proof 158 = .ok (.iload_n 2, 1) := by decide +kernel
theorem dX5_proof_159 : decode cX5_proof 159 = .ok (.iadd, 1) := by decide +kernel
theorem dX5_proof_160 : decode cX5_proof 160 = .ok (.iaload, 1) := by decide +kernel
theorem dX5_proof_161 : decode cX5_proof 161 = .ok (.ireturn, 1) := by decide +kernel
def tab_X5_proof : List (Nat × Sem) := [(0, op_il 2 1), (1, op_ic 0 2), (2, op_ic 6 4), (4, op_call sp_X5_isIn 3 0 7), (7, op_if (fun x => x = 0) 25 10), (10, op_il 3 11), (11, op_ic (-10) 13), (13, op_ic 10 15), (15, op_call sp_X5_isIn 3 0 18), (18, op_if (fun x => x = 0) 25 21), (21, op_ic 1 22), (22, op_go 26), (25, op_ic 0 26), (26, op_is 4 28), (28, op_al 0 29), (29, op_il 1 30), (30, op_callV 7 sp_X5_isCause 2 0 33), (33, op_if (fun x => x = 0) 92 36), (36, op_il 4 38), (38, op_if (fun x => x = 0) 92 41), (41, op_al 0 42), (42, op_gf 7 24 45), (45, op_il 1 46), (46, op_iald 47), (47, op_if (fun x => ¬ x = 0) 92 50), (50, op_al 0 51), (51, op_gf 7 23 54), (54, op_il 1 55), (55, op_iald 56), (56, op_il 2 57), (57, op_call sp_X5_hasGround 2 0 60), (60, op_if (fun x => x = 0) 92 63), (63, op_al 0 64), (64, op_gf 7 26 67), (67, op_ic 7 69), (69, op_il 1 70), (70, op_bin (fun x y => x * y) 71), (71, op_il 2 72), (72, op_bin (fun x y => x + y) 73), (73, op_iald 74), (74, op_il 3 75), (75, op_bin (fun x y => x + y) 76), (76, op_ic (-1000) 79), (79, op_ic 1000 82), (82, op_call sp_X5_isIn 3 0 85), (85, op_if (fun x => x = 0) 92 88), (88, op_ic 1 89), (89, op_go 93), (92, op_ic 0 93), (93, op_is 5 95), (95, op_al 0 96), (96, op_al 0 97), (97, op_il 1 98), (98, op_callV 7 sp_X5_isCause 2 0 101), (101, op_if (fun x => ¬ x = 0) 108 104), (104, op_ic 1 105), (105, op_go 127), (108, op_il 4 110), (110, op_if (fun x => ¬ x = 0) 117 113), (113, op_ic 2 114), (114, op_go 127), (117, op_il 5 119), (119, op_if (fun x => x = 0) 126 122), (122, op_ic 0 123), (123, op_go 127), (126, op_ic 3 127), (127, op_callV 7 sp_X5_fails 2 0 130), (130, op_if (fun x => x = 0) 135 133), (133, op_ic 0 134), (134, op_iret), (135, op_al 0 136), (136, op_gf 7 26 139), (139, op_ic 7 141), (141, op_il 1 142), (142, op_bin (fun x y => x * y) 143), (143, op_il 2 144), (144, op_bin (fun x y => x + y) 145), (145, op_dup2 146), (146, op_iald 147), (147, op_il 3 148), (148, op_bin (fun x y => x + y) 149), (149, op_iast 150), (150, op_al 0 151), (151, op_gf 7 26 154), (154, op_ic 7 156), (156, op_il 1 157), (157, op_bin (fun x y => x * y) 158), (158, op_il 2 159), (159, op_bin (fun x y => x + y) 160), (160, op_iald 161), (161, op_iret)]
set_option maxRecDepth 20000 in
theorem tok_X5_proof : ∀ q ∈ tab_X5_proof, Snd RX5 cX5_proof 6 2 0 (some .int) q.1 q.2 := by
  unfold tab_X5_proof
  refine tcons (ok_iload_n dX5_proof_0 rfl rfl) ?_
  refine tcons (ok_iconst dX5_proof_1 rfl rfl) ?_
  refine tcons (ok_bipush dX5_proof_2 rfl rfl) ?_
  refine tcons (ok_invokestatic M_X5_isIn w_1105 w_1106 w_49 w_1107 ⟨by decide, by decide, by decide +kernel⟩ (by decide) (by decide) dX5_proof_4 rfl) ?_
  refine tcons (ok_if_eq dX5_proof_7 rfl rfl) ?_
  refine tcons (ok_iload_n dX5_proof_10 rfl rfl) ?_
  refine tcons (ok_bipush dX5_proof_11 rfl rfl) ?_
  refine tcons (ok_bipush dX5_proof_13 rfl rfl) ?_
  refine tcons (ok_invokestatic M_X5_isIn w_1105 w_1106 w_49 w_1107 ⟨by decide, by decide, by decide +kernel⟩ (by decide) (by decide) dX5_proof_15 rfl) ?_
  refine tcons (ok_if_eq dX5_proof_18 rfl rfl) ?_
  refine tcons (ok_iconst dX5_proof_21 rfl rfl) ?_
  refine tcons (ok_goto dX5_proof_22 rfl) ?_
  refine tcons (ok_iconst dX5_proof_25 rfl rfl) ?_
  refine tcons (ok_istore dX5_proof_26 (by decide) rfl) ?_
  refine tcons (ok_aload_n dX5_proof_28 rfl rfl) ?_
  refine tcons (ok_iload_n dX5_proof_29 rfl rfl) ?_
  refine tcons (ok_invokevirtual M_X5_isCause (C := RX5) (T := TX5) (nf := 33) rfl w_1236 w_1238 w_34 w_49 w_1239 ⟨rfl, by decide, by decide, by decide +kernel⟩ (by decide) (by decide) dX5_proof_30 rfl) ?_
  refine tcons (ok_if_eq dX5_proof_33 rfl rfl) ?_
  refine tcons (ok_iload dX5_proof_36 rfl) ?_
  refine tcons (ok_if_eq dX5_proof_38 rfl rfl) ?_
  refine tcons (ok_aload_n dX5_proof_41 rfl rfl) ?_
  refine tcons (ok_getfield (C := RX5) (T := TX5) (n := 33) rfl in_X5 (by decide) w_1017 dX5_proof_42 rfl) ?_
  refine tcons (ok_iload_n dX5_proof_45 rfl rfl) ?_
  refine tcons (ok_iaload dX5_proof_46 rfl) ?_
  refine tcons (ok_if_ne dX5_proof_47 rfl rfl) ?_
  refine tcons (ok_aload_n dX5_proof_50 rfl rfl) ?_
  refine tcons (ok_getfield (C := RX5) (T := TX5) (n := 33) rfl in_X5 (by decide) w_1016 dX5_proof_51 rfl) ?_
  refine tcons (ok_iload_n dX5_proof_54 rfl rfl) ?_
  refine tcons (ok_iaload dX5_proof_55 rfl) ?_
  refine tcons (ok_iload_n dX5_proof_56 rfl rfl) ?_
  refine tcons (ok_invokestatic M_X5_hasGround w_1244 w_1245 w_49 w_1246 ⟨by decide, by decide, by decide +kernel⟩ (by decide) (by decide) dX5_proof_57 rfl) ?_
  refine tcons (ok_if_eq dX5_proof_60 rfl rfl) ?_
  refine tcons (ok_aload_n dX5_proof_63 rfl rfl) ?_
  refine tcons (ok_getfield (C := RX5) (T := TX5) (n := 33) rfl in_X5 (by decide) w_1019 dX5_proof_64 rfl) ?_
  refine tcons (ok_bipush dX5_proof_67 rfl rfl) ?_
  refine tcons (ok_iload_n dX5_proof_69 rfl rfl) ?_
  refine tcons (ok_imul dX5_proof_70 rfl) ?_
  refine tcons (ok_iload_n dX5_proof_71 rfl rfl) ?_
  refine tcons (ok_iadd dX5_proof_72 rfl) ?_
  refine tcons (ok_iaload dX5_proof_73 rfl) ?_
  refine tcons (ok_iload_n dX5_proof_74 rfl rfl) ?_
  refine tcons (ok_iadd dX5_proof_75 rfl) ?_
  refine tcons (ok_sipush dX5_proof_76 rfl rfl) ?_
  refine tcons (ok_sipush dX5_proof_79 rfl rfl) ?_
  refine tcons (ok_invokestatic M_X5_isIn w_1105 w_1106 w_49 w_1107 ⟨by decide, by decide, by decide +kernel⟩ (by decide) (by decide) dX5_proof_82 rfl) ?_
  refine tcons (ok_if_eq dX5_proof_85 rfl rfl) ?_
  refine tcons (ok_iconst dX5_proof_88 rfl rfl) ?_
  refine tcons (ok_goto dX5_proof_89 rfl) ?_
  refine tcons (ok_iconst dX5_proof_92 rfl rfl) ?_
  refine tcons (ok_istore dX5_proof_93 (by decide) rfl) ?_
  refine tcons (ok_aload_n dX5_proof_95 rfl rfl) ?_
  refine tcons (ok_aload_n dX5_proof_96 rfl rfl) ?_
  refine tcons (ok_iload_n dX5_proof_97 rfl rfl) ?_
  refine tcons (ok_invokevirtual M_X5_isCause (C := RX5) (T := TX5) (nf := 33) rfl w_1236 w_1238 w_34 w_49 w_1239 ⟨rfl, by decide, by decide, by decide +kernel⟩ (by decide) (by decide) dX5_proof_98 rfl) ?_
  refine tcons (ok_if_ne dX5_proof_101 rfl rfl) ?_
  refine tcons (ok_iconst dX5_proof_104 rfl rfl) ?_
  refine tcons (ok_goto dX5_proof_105 rfl) ?_
  refine tcons (ok_iload dX5_proof_108 rfl) ?_
  refine tcons (ok_if_ne dX5_proof_110 rfl rfl) ?_
  refine tcons (ok_iconst dX5_proof_113 rfl rfl) ?_
  refine tcons (ok_goto dX5_proof_114 rfl) ?_
  refine tcons (ok_iload dX5_proof_117 rfl) ?_
  refine tcons (ok_if_eq dX5_proof_119 rfl rfl) ?_
  refine tcons (ok_iconst dX5_proof_122 rfl rfl) ?_
  refine tcons (ok_goto dX5_proof_123 rfl) ?_
  refine tcons (ok_iconst dX5_proof_126 rfl rfl) ?_
  refine tcons (ok_invokevirtual M_X5_fails (C := RX5) (T := TX5) (nf := 33) rfl w_1112 w_1114 w_20 w_49 w_1115 ⟨rfl, by decide, by decide, by decide +kernel⟩ (by decide) (by decide) dX5_proof_127 rfl) ?_
  refine tcons (ok_if_eq dX5_proof_130 rfl rfl) ?_
  refine tcons (ok_iconst dX5_proof_133 rfl rfl) ?_
  refine tcons (ok_ireturn rfl dX5_proof_134) ?_
  refine tcons (ok_aload_n dX5_proof_135 rfl rfl) ?_
  refine tcons (ok_getfield (C := RX5) (T := TX5) (n := 33) rfl in_X5 (by decide) w_1019 dX5_proof_136 rfl) ?_
  refine tcons (ok_bipush dX5_proof_139 rfl rfl) ?_
  refine tcons (ok_iload_n dX5_proof_141 rfl rfl) ?_
  refine tcons (ok_imul dX5_proof_142 rfl) ?_
  refine tcons (ok_iload_n dX5_proof_143 rfl rfl) ?_
  refine tcons (ok_iadd dX5_proof_144 rfl) ?_
  refine tcons (ok_dup2 dX5_proof_145 rfl) ?_
  refine tcons (ok_iaload dX5_proof_146 rfl) ?_
  refine tcons (ok_iload_n dX5_proof_147 rfl rfl) ?_
  refine tcons (ok_iadd dX5_proof_148 rfl) ?_
  refine tcons (ok_iastore dX5_proof_149 rfl) ?_
  refine tcons (ok_aload_n dX5_proof_150 rfl rfl) ?_
  refine tcons (ok_getfield (C := RX5) (T := TX5) (n := 33) rfl in_X5 (by decide) w_1019 dX5_proof_151 rfl) ?_
  refine tcons (ok_bipush dX5_proof_154 rfl rfl) ?_
  refine tcons (ok_iload_n dX5_proof_156 rfl rfl) ?_
  refine tcons (ok_imul dX5_proof_157 rfl) ?_
  refine tcons (ok_iload_n dX5_proof_158 rfl rfl) ?_
  refine tcons (ok_iadd dX5_proof_159 rfl) ?_
  refine tcons (ok_iaload dX5_proof_160 rfl) ?_
  refine tcons (ok_ireturn rfl dX5_proof_161) ?_
  exact fun _ h => nomatch h
def sp_X5_proof : Spc := fun av s N _ => match av with
  | [.inl (.inr (20, 0)), .inl (.inl c), .inl (.inl k), .inl (.inl w)] => MI s ∧ f3 (isC s c) (inR k 0 6 ∧ inR w (-10) 10) (s.2.1 44 0 (cl c) = 0 ∧ (s.2.1 43 0 (cl c) >>> (k &&& 31)) &&& 1 = 1 ∧ inR (s.2.1 46 0 (cl (7 * c + k)) + w) (-1000) 1000) (some (aI 0)) N s
      (N (some (aI (s.2.1 46 0 (cl (7 * c + k)) + w))) (stS (th s 0) 46 0 (cl (7 * c + k)) (s.2.1 46 0 (cl (7 * c + k)) + w)))
  | _ => False
theorem wt_Ib {s : Sg} {c k : Int32} (hM : MI s) (h : isC s c) (h2 : inR k 0 6) : Ib (7 * c + k) 210 := by
  obtain ⟨j, hj, rfl⟩ := MI_cn hM h
  obtain ⟨i, hi, rfl⟩ := rg_nI (N := 6) h2 rfl
  rw [row7]
  exact nIb (by omega) (by decide)
set_option maxRecDepth 20000 in
set_option maxHeartbeats 2000000 in
theorem M_X5_proof : AMet yX5_proof cX5_proof 6 (some .int) 2 0 sp_X5_proof := by
  refine AMet.mc (own := RX5) (by decide) rfl [0, 1, 2, 3, 4, 5] rfl tok_X5_proof 200 ?_
  intro av s0 N X h
  unfold sp_X5_proof at h
  split at h
  rotate_left
  · exact h.elim
  rename_i c k w
  obtain ⟨hM, h⟩ := h
  refine ⟨[(28, fun m u L st s => ∃ a, u = 0 ∧ m = 1 ∧ L = [(0, .inr (20, 0)), (1, .inl c), (2, .inl k), (3, .inl w), (4, .inl a)] ∧ st = [] ∧ s = s0 ∧ flg a (inR k 0 6 ∧ inR w (-10) 10)),
     (95, fun m u L st s => ∃ a b, u = 0 ∧ m = 0 ∧ L = [(0, .inr (20, 0)), (1, .inl c), (2, .inl k), (3, .inl w), (4, .inl a), (5, .inl b)] ∧ st = [] ∧ s = s0 ∧ flg a (inR k 0 6 ∧ inR w (-10) 10) ∧
       (isC s c → inR k 0 6 ∧ inR w (-10) 10 → flg b (s.2.1 44 0 (cl c) = 0 ∧ (s.2.1 43 0 (cl c) >>> (k &&& 31)) &&& 1 = 1 ∧ inR (s.2.1 46 0 (cl (7 * c + k)) + w) (-1000) 1000)) ∧ (b = 0 ∨ b = 1))], ?_, ac ?_ (ac ?_ an)⟩
  · repeat' (first | apply And.intro | (intro q; exact absurd q (by decide)) | intro _)
    all_goals first | decide | (exact Nat.le_of_ble_eq_true rfl) | (exact ⟨1, 5, trivial, _, rfl, rfl, rfl, rfl, rfl, by simp_all [flg]⟩)
  · rintro m u L st s ⟨a, rfl, rfl, rfl, rfl, rfl, ha⟩
    rcases ha with ⟨rfl, ha⟩ | ⟨rfl, ha⟩
    all_goals repeat' (first | apply And.intro | (intro q; exact absurd q (by decide)) | intro _)
    all_goals first | decide | (exact Nat.le_of_ble_eq_true rfl) | (exact Ib_of (MI_c hM (by assumption))) | (exact wt_Ib hM (by assumption) ha.1) | (exact ⟨0, 6, Nat.one_pos, _, _, rfl, rfl, rfl, rfl, rfl, by simp_all [flg], by simp_all [flg], by simp⟩)
  · rintro m u L st s ⟨a, b, rfl, rfl, rfl, rfl, rfl, ha, hb, hbb⟩
    rcases ha with ⟨rfl, ha⟩ | ⟨rfl, ha⟩ <;> rcases hbb with rfl | rfl
    all_goals repeat' (first | apply And.intro | (intro q; exact absurd q (by decide)) | intro _)
    all_goals first | decide | (exact Nat.le_of_ble_eq_true rfl) | (exact wt_Ib hM (by assumption) ha.1) | (simp_all [f3, flg, stS_get]; done)
theorem dX5_vote_0 : decode cX5_vote 0 = .ok (.aload_n 0, 1) := by decide +kernel
theorem dX5_vote_1 : decode cX5_vote 1 = .ok (.iload_n 1, 1) := by decide +kernel
theorem dX5_vote_2 : decode cX5_vote 2 = .ok (.invokevirtual 179, 3) := by decide +kernel
theorem dX5_vote_5 : decode cX5_vote 5 = .ok (.ifCond .eq 16, 3) := by decide +kernel
theorem dX5_vote_8 : decode cX5_vote 8 = .ok (.iload_n 2, 1) := by decide +kernel
theorem dX5_vote_9 : decode cX5_vote 9 = .ok (.iconst 0, 1) := by decide +kernel
theorem dX5_vote_10 : decode cX5_vote 10 = .ok (.iconst 2, 1) := by decide +kernel
theorem dX5_vote_11 : decode cX5_vote 11 = .ok (.invokestatic 99, 3) := by decide +kernel
theorem dX5_vote_14 : decode cX5_vote 14 = .ok (.ifCond .eq 7, 3) := by decide +kernel
theorem dX5_vote_17 : decode cX5_vote 17 = .ok (.iconst 1, 1) := by decide +kernel
theorem dX5_vote_18 : decode cX5_vote 18 = .ok (.goto 4, 3) := by decide +kernel
theorem dX5_vote_21 : decode cX5_vote 21 = .ok (.iconst 0, 1) := by decide +kernel
theorem dX5_vote_22 : decode cX5_vote 22 = .ok (.istore 4, 2) := by decide +kernel
theorem dX5_vote_24 : decode cX5_vote 24 = .ok (.iload_n 3, 1) := by decide +kernel
theorem dX5_vote_25 : decode cX5_vote 25 = .ok (.iconst 0, 1) := by decide +kernel
theorem dX5_vote_26 : decode cX5_vote 26 = .ok (.bipush 127, 2) := by decide +kernel
theorem dX5_vote_28 : decode cX5_vote 28 = .ok (.invokestatic 99, 3) := by decide +kernel
theorem dX5_vote_31 : decode cX5_vote 31 = .ok (.istore 5, 2) := by decide +kernel
theorem dX5_vote_33 : decode cX5_vote 33 = .ok (.iload 4, 2) := by decide +kernel
theorem dX5_vote_35 : decode cX5_vote 35 = .ok (.ifCond .eq 48, 3) := by decide +kernel
theorem dX5_vote_38 : decode cX5_vote 38 = .ok (.iload 5, 2) := by decide +kernel
theorem dX5_vote_40 : decode cX5_vote 40 = .ok (.ifCond .eq 43, 3) := by decide +kernel
theorem dX5_vote_43 : decode cX5_vote 43 = .ok (.aload_n 0, 1) := by decide +kernel
theorem dX5_vote_44 : decode cX5_vote 44 = .ok (.getfield 71, 3) := by decide +kernel
theorem dX5_vote_47 : decode cX5_vote 47 = .ok (.iload_n 1, 1) := by decide +kernel
theorem dX5_vote_48 : decode cX5_vote 48 = .ok (.iaload, 1) := by decide +kernel
theorem dX5_vote_49 : decode cX5_vote 49 = .ok (.iconst 1, 1) := by decide +kernel
theorem dX5_vote_50 : decode cX5_vote 50 = .ok (.if_icmp .ne 33, 3) := by decide +kernel
theorem dX5_vote_53 : decode cX5_vote 53 = .ok (.aload_n 0, 1) := by decide +kernel
theorem dX5_vote_54 : decode cX5_vote 54 = .ok (.getfield 83, 3) := by decide +kernel
theorem dX5_vote_57 : decode cX5_vote 57 = .ok (.iconst 3, 1) := by decide +kernel
theorem dX5_vote_58 : decode cX5_vote 58 = .ok (.iload_n 1, 1) := by decide +kernel
theorem dX5_vote_59 : decode cX5_vote 59 = .ok (.imul, 1) := by decide +kernel
theorem dX5_vote_60 : decode cX5_vote 60 = .ok (.iload_n 2, 1) := by decide +kernel
theorem dX5_vote_61 : decode cX5_vote 61 = .ok (.iadd, 1) := by decide +kernel
theorem dX5_vote_62 : decode cX5_vote 62 = .ok (.iaload, 1) := by decide +kernel
theorem dX5_vote_63 : decode cX5_vote 63 = .ok (.iconst (-1), 1) := by decide +kernel
theorem dX5_vote_64 : decode cX5_vote 64 = .ok (.if_icmp .ne 19, 3) := by decide +kernel
theorem dX5_vote_67 : decode cX5_vote 67 = .ok (.iload_n 3, 1) := by decide +kernel
theorem dX5_vote_68 : decode cX5_vote 68 = .ok (.aload_n 0, 1) := by decide +kernel
theorem dX5_vote_69 : decode cX5_vote 69 = .ok (.iload_n 1, 1) := by decide +kernel
theorem dX5_vote_70 : decode cX5_vote 70 = .ok (.invokevirtual 185, 3) := by decide +kernel
theorem dX5_vote_73 : decode cX5_vote 73 = .ok (.iconst (-1), 1) := by decide +kernel
theorem dX5_vote_74 : decode cX5_vote 74 = .ok (.ixor, 1) := by decide +kernel
theorem dX5_vote_75 : decode cX5_vote 75 = .ok (.iand, 1) := by decide +kernel
theorem dX5_vote_76 : decode cX5_vote 76 = .ok (.ifCond .ne 7, 3) := by decide +kernel
theorem dX5_vote_79 : decode cX5_vote 79 = .ok (.iconst 1, 1) := by decide +kernel
theorem dX5_vote_80 : decode cX5_vote 80 = .ok (.goto 4, 3) := by decide +kernel
theorem dX5_vote_83 : decode cX5_vote 83 = .ok (.iconst 0, 1) := by decide +kernel
theorem dX5_vote_84 : decode cX5_vote 84 = .ok (.istore 6, 2) := by decide +kernel
theorem dX5_vote_86 : decode cX5_vote 86 = .ok (.aload_n 0, 1) := by decide +kernel
theorem dX5_vote_87 : decode cX5_vote 87 = .ok (.iload 4, 2) := by decide +kernel
theorem dX5_vote_89 : decode cX5_vote 89 = .ok (.ifCond .ne 7, 3) := by decide +kernel
theorem dX5_vote_92 : decode cX5_vote 92 = .ok (.iconst 1, 1) := by decide +kernel
theorem dX5_vote_93 : decode cX5_vote 93 = .ok (.goto 22, 3) := by decide +kernel
theorem dX5_vote_96 : decode cX5_vote 96 = .ok (.iload 5, 2) := by decide +kernel
theorem dX5_vote_98 : decode cX5_vote 98 = .ok (.ifCond .ne 7, 3) := by decide +kernel
theorem dX5_vote_101 : decode cX5_vote 101 = .ok (.iconst 2, 1) := by decide +kernel
theorem dX5_vote_102 : decode cX5_vote 102 = .ok (.goto 13, 3) := by decide +kernel
theorem dX5_vote_105 : decode cX5_vote 105 = .ok (.iload 6, 2) := by decide +kernel
theorem dX5_vote_107 : decode cX5_vote 107 = .ok (.ifCond .eq 7, 3) := by decide +kernel
theorem dX5_vote_110 : decode cX5_vote 110 = .ok (.iconst 0, 1) := by decide +kernel
theorem dX5_vote_111 : decode cX5_vote 111 = .ok (.goto 4, 3) := by decide +kernel
theorem dX5_vote_114 : decode cX5_vote 114 = .ok (.iconst 3, 1) := by decide +kernel
theorem dX5_vote_115 : decode cX5_vote 115 = .ok (.invokevirtual 114, 3) := by decide +kernel
theorem dX5_vote_118 : decode cX5_vote 118 = .ok (.ifCond .eq 5, 3) := by decide +kernel
theorem dX5_vote_121 : decode cX5_vote 121 = .ok (.iconst 0, 1) := by decide +kernel
theorem dX5_vote_122 : decode cX5_vote 122 = .ok (.ireturn, 1) := by decide +kernel
theorem dX5_vote_123 : decode cX5_vote 123 = .ok (.aload_n 0, 1) := by decide +kernel
theorem dX5_vote_124 : decode cX5_vote 124 = .ok (.getfield 83, 3) := by decide +kernel
theorem dX5_vote_127 : decode cX5_vote 127 = .ok (.iconst 3, 1) := by decide +kernel
theorem dX5_vote_128 : decode cX5_vote 128 = .ok (.iload_n 1, 1) := by decide +kernel
theorem dX5_vote_129 : decode cX5_vote 129 = .ok (.imul, 1) := by decide +kernel
theorem dX5_vote_130 : decode cX5_vote 130 = .ok (.iload_n 2, 1) := by decide +kernel
theorem dX5_vote_131 : decode cX5_vote 131 = .ok (.iadd, 1) := by decide +kernel
theorem dX5_vote_132 : decode cX5_vote 132 = .ok (.iload_n 3, 1) := by decide +kernel
theorem dX5_vote_133 : decode cX5_vote 133 = .ok (.iastore, 1) := by decide +kernel
theorem dX5_vote_134 : decode cX5_vote 134 = .ok (.aload_n 0, 1) := by decide +kernel
theorem dX5_vote_135 : decode cX5_vote 135 = .ok (.getfield 80, 3) := by decide +kernel
theorem dX5_vote_138 : decode cX5_vote 138 = .ok (.iload_n 1, 1) := by decide +kernel
theorem dX5_vote_139 : decode cX5_vote 139 = .ok (.dup2, 1) := by decide +kernel
theorem dX5_vote_140 : decode cX5_vote 140 = .ok (.iaload, 1) := by decide +kernel
theorem dX5_vote_141 : decode cX5_vote 141 = .ok (.iconst 1, 1) := by decide +kernel
theorem dX5_vote_142 : decode cX5_vote 142 = .ok (.iadd, 1) := by decide +kernel
theorem dX5_vote_143 : decode cX5_vote 143 = .ok (.iastore, 1) := by decide +kernel
theorem dX5_vote_144 : decode cX5_vote 144 = .ok (.aload_n 0, 1) := by decide +kernel
theorem dX5_vote_145 : decode cX5_vote 145 = .ok (.getfield 80, 3) := by decide +kernel
theorem dX5_vote_148 : decode cX5_vote 148 = .ok (.iload_n 1, 1) := by decide +kernel
theorem dX5_vote_149 : decode cX5_vote 149 = .ok (.iaload, 1) := by decide +kernel
theorem dX5_vote_150 : decode cX5_vote 150 = .ok (.ireturn, 1) := by decide +kernel
def tab_X5_vote : List (Nat × Sem) := [(0, op_al 0 1), (1, op_il 1 2), (2, op_callV 7 sp_X5_isCause 2 0 5), (5, op_if (fun x => x = 0) 21 8), (8, op_il 2 9), (9, op_ic 0 10), (10, op_ic 2 11), (11, op_call sp_X5_isIn 3 0 14), (14, op_if (fun x => x = 0) 21 17), (17, op_ic 1 18), (18, op_go 22), (21, op_ic 0 22), (22, op_is 4 24), (24, op_il 3 25), (25, op_ic 0 26), (26, op_ic 127 28), (28, op_call sp_X5_isIn 3 0 31), (31, op_is 5 33), (33, op_il 4 35), (35, op_if (fun x => x = 0) 83 38), (38, op_il 5 40), (40, op_if (fun x => x = 0) 83 43), (43, op_al 0 44), (44, op_gf 7 24 47), (47, op_il 1 48), (48, op_iald 49), (49, op_ic 1 50), (50, op_cmp (fun x y => ¬ x = y) 83 53), (53, op_al 0 54), (54, op_gf 7 28 57), (57, op_ic 3 58), (58, op_il 1 59), (59, op_bin (fun x y => x * y) 60), (60, op_il 2 61), (61, op_bin (fun x y => x + y) 62), (62, op_iald 63), (63, op_ic (-1) 64), (64, op_cmp (fun x y => ¬ x = y) 83 67), (67, op_il 3 68), (68, op_al 0 69), (69, op_il 1 70), (70, op_callV 7 sp_X5_proven 2 0 73), (73, op_ic (-1) 74), (74, op_bin (fun x y => x ^^^ y) 75), (75, op_bin (fun x y => x &&& y) 76), (76, op_if (fun x => ¬ x = 0) 83 79), (79, op_ic 1 80), (80, op_go 84), (83, op_ic 0 84), (84, op_is 6 86), (86, op_al 0 87), (87, op_il 4 89), (89, op_if (fun x => ¬ x = 0) 96 92), (92, op_ic 1 93), (93, op_go 115), (96, op_il 5 98), (98, op_if (fun x => ¬ x = 0) 105 101), (101, op_ic 2 102), (102, op_go 115), (105, op_il 6 107), (107, op_if (fun x => x = 0) 114 110), (110, op_ic 0 111), (111, op_go 115), (114, op_ic 3 115), (115, op_callV 7 sp_X5_fails 2 0 118), (118, op_if (fun x => x = 0) 123 121), (121, op_ic 0 122), (122, op_iret), (123, op_al 0 124), (124, op_gf 7 28 127), (127, op_ic 3 128), (128, op_il 1 129), (129, op_bin (fun x y => x * y) 130), (130, op_il 2 131), (131, op_bin (fun x y => x + y) 132), (132, op_il 3 133), (133, op_iast 134), (134, op_al 0 135), (135, op_gf 7 27 138), (138, op_il 1 139), (139, op_dup2 140), (140, op_iald 141), (141, op_ic 1 142), (142, op_bin (fun x y => x + y) 143), (143, op_iast 144), (144, op_al 0 145), (145, op_gf 7 27 148), (148, op_il 1 149), (149, op_iald 150), (150, op_iret)]
set_option maxRecDepth 20000 in
theorem tok_X5_vote : ∀ q ∈ tab_X5_vote, Snd RX5 cX5_vote 7 2 0 (some .int) q.1 q.2 := by
  unfold tab_X5_vote
  refine tcons (ok_aload_n dX5_vote_0 rfl rfl) ?_
  refine tcons (ok_iload_n dX5_vote_1 rfl rfl) ?_
  refine tcons (ok_invokevirtual M_X5_isCause (C := RX5) (T := TX5) (nf := 33) rfl w_1236 w_1238 w_34 w_49 w_1239 ⟨rfl, by decide, by decide, by decide +kernel⟩ (by decide) (by decide) dX5_vote_2 rfl) ?_
  refine tcons (ok_if_eq dX5_vote_5 rfl rfl) ?_
  refine tcons (ok_iload_n dX5_vote_8 rfl rfl) ?_
  refine tcons (ok_iconst dX5_vote_9 rfl rfl) ?_
  refine tcons (ok_iconst dX5_vote_10 rfl rfl) ?_
  refine tcons (ok_invokestatic M_X5_isIn w_1105 w_1106 w_49 w_1107 ⟨by decide, by decide, by decide +kernel⟩ (by decide) (by decide) dX5_vote_11 rfl) ?_
  refine tcons (ok_if_eq dX5_vote_14 rfl rfl) ?_
  refine tcons (ok_iconst dX5_vote_17 rfl rfl) ?_
  refine tcons (ok_goto dX5_vote_18 rfl) ?_
  refine tcons (ok_iconst dX5_vote_21 rfl rfl) ?_
  refine tcons (ok_istore dX5_vote_22 (by decide) rfl) ?_
  refine tcons (ok_iload_n dX5_vote_24 rfl rfl) ?_
  refine tcons (ok_iconst dX5_vote_25 rfl rfl) ?_
  refine tcons (ok_bipush dX5_vote_26 rfl rfl) ?_
  refine tcons (ok_invokestatic M_X5_isIn w_1105 w_1106 w_49 w_1107 ⟨by decide, by decide, by decide +kernel⟩ (by decide) (by decide) dX5_vote_28 rfl) ?_
  refine tcons (ok_istore dX5_vote_31 (by decide) rfl) ?_
  refine tcons (ok_iload dX5_vote_33 rfl) ?_
  refine tcons (ok_if_eq dX5_vote_35 rfl rfl) ?_
  refine tcons (ok_iload dX5_vote_38 rfl) ?_
  refine tcons (ok_if_eq dX5_vote_40 rfl rfl) ?_
  refine tcons (ok_aload_n dX5_vote_43 rfl rfl) ?_
  refine tcons (ok_getfield (C := RX5) (T := TX5) (n := 33) rfl in_X5 (by decide) w_1017 dX5_vote_44 rfl) ?_
  refine tcons (ok_iload_n dX5_vote_47 rfl rfl) ?_
  refine tcons (ok_iaload dX5_vote_48 rfl) ?_
  refine tcons (ok_iconst dX5_vote_49 rfl rfl) ?_
  refine tcons (ok_icmp_ne dX5_vote_50 rfl rfl) ?_
  refine tcons (ok_aload_n dX5_vote_53 rfl rfl) ?_
  refine tcons (ok_getfield (C := RX5) (T := TX5) (n := 33) rfl in_X5 (by decide) w_1021 dX5_vote_54 rfl) ?_
  refine tcons (ok_iconst dX5_vote_57 rfl rfl) ?_
  refine tcons (ok_iload_n dX5_vote_58 rfl rfl) ?_
  refine tcons (ok_imul dX5_vote_59 rfl) ?_
  refine tcons (ok_iload_n dX5_vote_60 rfl rfl) ?_
  refine tcons (ok_iadd dX5_vote_61 rfl) ?_
  refine tcons (ok_iaload dX5_vote_62 rfl) ?_
  refine tcons (ok_iconst dX5_vote_63 rfl rfl) ?_
  refine tcons (ok_icmp_ne dX5_vote_64 rfl rfl) ?_
  refine tcons (ok_iload_n dX5_vote_67 rfl rfl) ?_
  refine tcons (ok_aload_n dX5_vote_68 rfl rfl) ?_
  refine tcons (ok_iload_n dX5_vote_69 rfl rfl) ?_
  refine tcons (ok_invokevirtual M_X5_proven (C := RX5) (T := TX5) (nf := 33) rfl w_1251 w_1253 w_35 w_49 w_1254 ⟨rfl, by decide, by decide, by decide +kernel⟩ (by decide) (by decide) dX5_vote_70 rfl) ?_
  refine tcons (ok_iconst dX5_vote_73 rfl rfl) ?_
  refine tcons (ok_ixor dX5_vote_74 rfl) ?_
  refine tcons (ok_iand dX5_vote_75 rfl) ?_
  refine tcons (ok_if_ne dX5_vote_76 rfl rfl) ?_
  refine tcons (ok_iconst dX5_vote_79 rfl rfl) ?_
  refine tcons (ok_goto dX5_vote_80 rfl) ?_
  refine tcons (ok_iconst dX5_vote_83 rfl rfl) ?_
  refine tcons (ok_istore dX5_vote_84 (by decide) rfl) ?_
  refine tcons (ok_aload_n dX5_vote_86 rfl rfl) ?_
  refine tcons (ok_iload dX5_vote_87 rfl) ?_
  refine tcons (ok_if_ne dX5_vote_89 rfl rfl) ?_
  refine tcons (ok_iconst dX5_vote_92 rfl rfl) ?_
  refine tcons (ok_goto dX5_vote_93 rfl) ?_
  refine tcons (ok_iload dX5_vote_96 rfl) ?_
  refine tcons (ok_if_ne dX5_vote_98 rfl rfl) ?_
  refine tcons (ok_iconst dX5_vote_101 rfl rfl) ?_
  refine tcons (ok_goto dX5_vote_102 rfl) ?_
  refine tcons (ok_iload dX5_vote_105 rfl) ?_
  refine tcons (ok_if_eq dX5_vote_107 rfl rfl) ?_
  refine tcons (ok_iconst dX5_vote_110 rfl rfl) ?_
  refine tcons (ok_goto dX5_vote_111 rfl) ?_
  refine tcons (ok_iconst dX5_vote_114 rfl rfl) ?_
  refine tcons (ok_invokevirtual M_X5_fails (C := RX5) (T := TX5) (nf := 33) rfl w_1112 w_1114 w_20 w_49 w_1115 ⟨rfl, by decide, by decide, by decide +kernel⟩ (by decide) (by decide) dX5_vote_115 rfl) ?_
  refine tcons (ok_if_eq dX5_vote_118 rfl rfl) ?_
  refine tcons (ok_iconst dX5_vote_121 rfl rfl) ?_
  refine tcons (ok_ireturn rfl dX5_vote_122) ?_
  refine tcons (ok_aload_n dX5_vote_123 rfl rfl) ?_
  refine tcons (ok_getfield (C := RX5) (T := TX5) (n := 33) rfl in_X5 (by decide) w_1021 dX5_vote_124 rfl) ?_
  refine tcons (ok_iconst dX5_vote_127 rfl rfl) ?_
  refine tcons (ok_iload_n dX5_vote_128 rfl rfl) ?_
  refine tcons (ok_imul dX5_vote_129 rfl) ?_
  refine tcons (ok_iload_n dX5_vote_130 rfl rfl) ?_
  refine tcons (ok_iadd dX5_vote_131 rfl) ?_
  refine tcons (ok_iload_n dX5_vote_132 rfl rfl) ?_
  refine tcons (ok_iastore dX5_vote_133 rfl) ?_
  refine tcons (ok_aload_n dX5_vote_134 rfl rfl) ?_
  refine tcons (ok_getfield (C := RX5) (T := TX5) (n := 33) rfl in_X5 (by decide) w_1020 dX5_vote_135 rfl) ?_
  refine tcons (ok_iload_n dX5_vote_138 rfl rfl) ?_
  refine tcons (ok_dup2 dX5_vote_139 rfl) ?_
  refine tcons (ok_iaload dX5_vote_140 rfl) ?_
  refine tcons (ok_iconst dX5_vote_141 rfl rfl) ?_
  refine tcons (ok_iadd dX5_vote_142 rfl) ?_
  refine tcons (ok_iastore dX5_vote_143 rfl) ?_
  refine tcons (ok_aload_n dX5_vote_144 rfl rfl) ?_
  refine tcons (ok_getfield (C := RX5) (T := TX5) (n := 33) rfl in_X5 (by decide) w_1020 dX5_vote_145 rfl) ?_
  refine tcons (ok_iload_n dX5_vote_148 rfl rfl) ?_
  refine tcons (ok_iaload dX5_vote_149 rfl) ?_
  refine tcons (ok_ireturn rfl dX5_vote_150) ?_
  exact fun _ h => nomatch h
def vtP (s : Sg) (c j d : Int32) : Prop := s.2.1 44 0 (cl c) = 1 ∧ s.2.1 48 0 (cl (3 * c + j)) = -1 ∧ d &&& (prM s (cl c) ^^^ (-1)) = 0
def sp_X5_vote : Spc := fun av s N _ => match av with
  | [.inl (.inr (20, 0)), .inl (.inl c), .inl (.inl j), .inl (.inl d)] => MI s ∧ f3 (isC s c ∧ inR j 0 2) (inR d 0 127) (vtP s c j d) (some (aI 0)) N s
      (N (some (aI (s.2.1 47 0 (cl c) + 1))) (stS (stS (th s 0) 48 0 (cl (3 * c + j)) d) 47 0 (cl c) (s.2.1 47 0 (cl c) + 1)))
  | _ => False
theorem vt_Ib {s : Sg} {c k : Int32} (hM : MI s) (h : isC s c) (h2 : inR k 0 2) : Ib (3 * c + k) 90 := by
  obtain ⟨j, hj, rfl⟩ := MI_cn hM h
  obtain ⟨i, hi, rfl⟩ := rg_nI (N := 2) h2 rfl
  rw [row3k]
  exact nIb (by omega) (by decide)
set_option maxRecDepth 20000 in
set_option maxHeartbeats 2000000 in
theorem M_X5_vote : AMet yX5_vote cX5_vote 7 (some .int) 2 0 sp_X5_vote := by
  refine AMet.mc (own := RX5) (by decide) rfl [0, 1, 2, 3, 4, 5, 6] rfl tok_X5_vote 200 ?_
  intro av s0 N X h
  unfold sp_X5_vote at h
  split at h
  rotate_left
  · exact h.elim
  rename_i c j d
  obtain ⟨hM, h⟩ := h
  refine ⟨[(33, fun m u L st s => ∃ a b, u = 0 ∧ m = 1 ∧ L = [(0, .inr (20, 0)), (1, .inl c), (2, .inl j), (3, .inl d), (4, .inl a), (5, .inl b)] ∧ st = [] ∧ s = s0 ∧ flg a (isC s c ∧ inR j 0 2) ∧ flg b (inR d 0 127)),
     (86, fun m u L st s => ∃ a b x, u = 0 ∧ m = 0 ∧ L = [(0, .inr (20, 0)), (1, .inl c), (2, .inl j), (3, .inl d), (4, .inl a), (5, .inl b), (6, .inl x)] ∧ st = [] ∧ s = s0 ∧ flg a (isC s c ∧ inR j 0 2) ∧ flg b (inR d 0 127) ∧
       (isC s c ∧ inR j 0 2 → inR d 0 127 → flg x (vtP s c j d)) ∧ (x = 0 ∨ x = 1))], ?_, ac ?_ (ac ?_ an)⟩
  · repeat' (first | apply And.intro | (intro q; exact absurd q (by decide)) | intro _)
    all_goals first | decide | (exact Nat.le_of_ble_eq_true rfl) | (exact ⟨1, 6, trivial, _, _, rfl, rfl, rfl, rfl, rfl, by simp_all [flg], by simp_all [flg]⟩)
  · rintro m u L st s ⟨a, b, rfl, rfl, rfl, rfl, rfl, ha, hb⟩
    rcases ha with ⟨rfl, ha⟩ | ⟨rfl, ha⟩ <;> rcases hb with ⟨rfl, hb⟩ | ⟨rfl, hb⟩
    all_goals repeat' (first | apply And.intro | (intro q; exact absurd q (by decide)) | intro _)
    all_goals first | decide | (exact Nat.le_of_ble_eq_true rfl) | (exact Ib_of (MI_c hM ha.1)) | (exact vt_Ib hM ha.1 ha.2) | (exact ⟨0, 7, Nat.one_pos, _, _, _, rfl, rfl, rfl, rfl, rfl, by simp_all [flg], by simp_all [flg], by simp_all [flg, vtP, prM], by simp⟩)
  · rintro m u L st s ⟨a, b, x, rfl, rfl, rfl, rfl, rfl, ha, hb, hx, hxx⟩
    rcases ha with ⟨rfl, ha⟩ | ⟨rfl, ha⟩ <;> rcases hb with ⟨rfl, hb⟩ | ⟨rfl, hb⟩ <;> rcases hxx with rfl | rfl
    all_goals repeat' (first | apply And.intro | (intro q; exact absurd q (by decide)) | intro _)
    all_goals first | decide | (exact Nat.le_of_ble_eq_true rfl) | (exact Ib_of (MI_c hM ha.1)) | (exact vt_Ib hM ha.1 ha.2) | (simp_all [f3, flg, stS_get]; done)
end
section
/-- the cause's rows of three, all -1 -/
theorem st6 {s : Sg} {n : Nat} {x : Int32} : stS (stS (stS (stS (stS (stS s 49 0 (3 * n) x) 48 0 (3 * n) x) 49 0 (3 * n + 1) x) 48 0 (3 * n + 1) x) 49 0 (3 * n + 2) x) 48 0 (3 * n + 2) x = stR (stR s 49 (3 * n) 3 x) 48 (3 * n) 3 x := by
  refine Sg_ext rfl (fun a b c => ?_) rfl
  simp only [stS_get, stR_get]
  grind (splits := 40)
def caM (s : Sg) (v d : Int32) : Sg := stS (stR (stR (stS (stS (stS (th s 0) 42 0 (ncm s) v) 43 0 (ncm s) d) 45 0 (ncm s) 1) 49 (3 * ncm s) 3 (-1)) 48 (3 * ncm s) 3 (-1)) 20 0 21 (s.2.1 20 0 21 + 1)
def caP (s : Sg) (v p b : Int32) : Prop := ¬ 30 ≤ s.2.1 20 0 21 ∧ (s.2.1 39 0 (cl v) = 0 ∨ s.2.1 39 0 (cl v) = 3) ∧ quietM s v (-1) ∧ (¬ b = 0 ∨ hasP s v p)
theorem dX5_cause_0 : decode cX5_cause 0 = .ok (.iload_n 2, 1) := by decide +kernel
theorem dX5_cause_1 : decode cX5_cause 1 = .ok (.invokestatic 111, 3) := by decide +kernel
theorem dX5_cause_4 : decode cX5_cause 4 = .ok (.ifCond .eq 14, 3) := by decide +kernel
theorem dX5_cause_7 : decode cX5_cause 7 = .ok (.iload_n 3, 1) := by decide +kernel
theorem dX5_cause_8 : decode cX5_cause 8 = .ok (.invokestatic 173, 3) := by decide +kernel
theorem dX5_cause_11 : decode cX5_cause 11 = .ok (.ifCond .eq 7, 3) := by decide +kernel
theorem dX5_cause_14 : decode cX5_cause 14 = .ok (.iconst 1, 1) := by decide +kernel
theorem dX5_cause_15 : decode cX5_cause 15 = .ok (.goto 4, 3) := by decide +kernel
theorem dX5_cause_18 : decode cX5_cause 18 = .ok (.iconst 0, 1) := by decide +kernel
theorem dX5_cause_19 : decode cX5_cause 19 = .ok (.istore 5, 2) := by decide +kernel
theorem dX5_cause_21 : decode cX5_cause 21 = .ok (.aload_n 0, 1) := by decide +kernel
theorem dX5_cause_22 : decode cX5_cause 22 = .ok (.iload_n 1, 1) := by decide +kernel
theorem dX5_cause_23 : decode cX5_cause 23 = .ok (.invokevirtual 154, 3) := by decide +kernel
theorem dX5_cause_26 : decode cX5_cause 26 = .ok (.ifCond .eq 47, 3) := by decide +kernel
theorem dX5_cause_29 : decode cX5_cause 29 = .ok (.aload_n 0, 1) := by decide +kernel
theorem dX5_cause_30 : decode cX5_cause 30 = .ok (.getfield 161, 3) := by decide +kernel
theorem dX5_cause_33 : decode cX5_cause 33 = .ok (.bipush 30, 2) := by decide +kernel
theorem dX5_cause_35 : decode cX5_cause 35 = .ok (.if_icmp .ge 38, 3) := by decide +kernel
theorem dX5_cause_38 : decode cX5_cause 38 = .ok (.aload_n 0, 1) := by decide +kernel
theorem dX5_cause_39 : decode cX5_cause 39 = .ok (.iload_n 1, 1) := by decide +kernel
theorem dX5_cause_40 : decode cX5_cause 40 = .ok (.invokevirtual 170, 3) := by decide +kernel
theorem dX5_cause_43 : decode cX5_cause 43 = .ok (.ifCond .eq 30, 3) := by decide +kernel
theorem dX5_cause_46 : decode cX5_cause 46 = .ok (.aload_n 0, 1) := by decide +kernel
theorem dX5_cause_47 : decode cX5_cause 47 = .ok (.iload_n 1, 1) := by decide +kernel
theorem dX5_cause_48 : decode cX5_cause 48 = .ok (.iconst (-1), 1) := by decide +kernel
theorem dX5_cause_49 : decode cX5_cause 49 = .ok (.invokevirtual 167, 3) := by decide +kernel
theorem dX5_cause_52 : decode cX5_cause 52 = .ok (.ifCond .eq 21, 3) := by decide +kernel
theorem dX5_cause_55 : decode cX5_cause 55 = .ok (.iload 4, 2) := by decide +kernel
theorem dX5_cause_57 : decode cX5_cause 57 = .ok (.ifCond .ne 12, 3) := by decide +kernel
theorem dX5_cause_60 : decode cX5_cause 60 = .ok (.aload_n 0, 1) := by decide +kernel
theorem dX5_cause_61 : decode cX5_cause 61 = .ok (.iload_n 1, 1) := by decide +kernel
theorem dX5_cause_62 : decode cX5_cause 62 = .ok (.iload_n 2, 1) := by decide +kernel
theorem dX5_cause_63 : decode cX5_cause 63 = .ok (.invokevirtual 176, 3) := by decide +kernel
theorem dX5_cause_66 : decode cX5_cause 66 = .ok (.ifCond .eq 7, 3) := by decide +kernel
theorem dX5_cause_69 : decode cX5_cause 69 = .ok (.iconst 1, 1) := by decide +kernel
theorem dX5_cause_70 : decode cX5_cause 70 = .ok (.goto 4, 3) := by decide +kernel
theorem dX5_cause_73 : decode cX5_cause 73 = .ok (.iconst 0, 1) := by decide +kernel
theorem dX5_cause_74 : decode cX5_cause 74 = .ok (.istore 6, 2) := by decide +kernel
theorem dX5_cause_76 : decode cX5_cause 76 = .ok (.aload_n 0, 1) := by decide +kernel
theorem dX5_cause_77 : decode cX5_cause 77 = .ok (.aload_n 0, 1) := by decide +kernel
theorem dX5_cause_78 : decode cX5_cause 78 = .ok (.iload_n 1, 1) := by decide +kernel
theorem dX5_cause_79 : decode cX5_cause 79 = .ok (.invokevirtual 154, 3) := by decide +kernel
theorem dX5_cause_82 : decode cX5_cause 82 = .ok (.ifCond .ne 7, 3) := by decide +kernel
theorem dX5_cause_85 : decode cX5_cause 85 = .ok (.iconst 1, 1) := by decide +kernel
theorem dX5_cause_86 : decode cX5_cause 86 = .ok (.goto 22, 3) := by decide +kernel
theorem dX5_cause_89 : decode cX5_cause 89 = .ok (.iload 5, 2) := by decide +kernel
theorem dX5_cause_91 : decode cX5_cause 91 = .ok (.ifCond .ne 7, 3) := by decide +kernel
theorem dX5_cause_94 : decode cX5_cause 94 = .ok (.iconst 2, 1) := by decide +kernel
theorem dX5_cause_95 : decode cX5_cause 95 = .ok (.goto 13, 3) := by decide +kernel
theorem dX5_cause_98 : decode cX5_cause 98 = .ok (.iload 6, 2) := by decide +kernel
theorem dX5_cause_100 : decode cX5_cause 100 = .ok (.ifCond .eq 7, 3) := by decide +kernel
theorem dX5_cause_103 : decode cX5_cause 103 = .ok (.iconst 0, 1) := by decide +kernel
theorem dX5_cause_104 : decode cX5_cause 104 = .ok (.goto 4, 3) := by decide +kernel
theorem dX5_cause_107 : decode cX5_cause 107 = .ok (.iconst 3, 1) := by decide +kernel
theorem dX5_cause_108 : decode cX5_cause 108 = .ok (.invokevirtual 114, 3) := by decide +kernel
theorem dX5_cause_111 : decode cX5_cause 111 = .ok (.ifCond .eq 5, 3) := by decide +kernel
theorem dX5_cause_114 : decode cX5_cause 114 = .ok (.iconst 0, 1) := by decide +kernel
theorem dX5_cause_115 : decode cX5_cause 115 = .ok (.ireturn, 1) := by decide +kernel
theorem dX5_cause_116 : decode cX5_cause 116 = .ok (.aload_n 0, 1) := by decide +kernel
theorem dX5_cause_117 : decode cX5_cause 117 = .ok (.getfield 65, 3) := by decide +kernel
theorem dX5_cause_120 : decode cX5_cause 120 = .ok (.aload_n 0, 1) := by decide +kernel
theorem dX5_cause_121 : decode cX5_cause 121 = .ok (.getfield 161, 3) := by decide +kernel
theorem dX5_cause_124 : decode cX5_cause 124 = .ok (.iload_n 1, 1) := by decide +kernel
theorem dX5_cause_125 : decode cX5_cause 125 = .ok (.iastore, 1) := by decide +kernel
theorem dX5_cause_126 : decode cX5_cause 126 = .ok (.aload_n 0, 1) := by decide +kernel
theorem dX5_cause_127 : decode cX5_cause 127 = .ok (.getfield 68, 3) := by decide +kernel
theorem dX5_cause_130 : decode cX5_cause 130 = .ok (.aload_n 0, 1) := by decide +kernel
theorem dX5_cause_131 : decode cX5_cause 131 = .ok (.getfield 161, 3) := by decide +kernel
theorem dX5_cause_134 : decode cX5_cause 134 = .ok (.iload_n 3, 1) := by decide +kernel
theorem dX5_cause_135 : decode cX5_cause 135 = .ok (.iastore, 1) := by decide +kernel
theorem dX5_cause_136 : decode cX5_cause 136 = .ok (.aload_n 0, 1) := by decide +kernel
theorem dX5_cause_137 : decode cX5_cause 137 = .ok (.getfield 74, 3) := by decide +kernel
theorem dX5_cause_140 : decode cX5_cause 140 = .ok (.aload_n 0, 1) := by decide +kernel
theorem dX5_cause_141 : decode cX5_cause 141 = .ok (.getfield 161, 3) := by decide +kernel
theorem dX5_cause_144 : decode cX5_cause 144 = .ok (.iconst 1, 1) := by decide +kernel
theorem dX5_cause_145 : decode cX5_cause 145 = .ok (.iastore, 1) := by decide +kernel
theorem dX5_cause_146 : decode cX5_cause 146 = .ok (.iconst 0, 1) := by decide +kernel
theorem dX5_cause_147 : decode cX5_cause 147 = .ok (.istore 7, 2) := by decide +kernel
theorem dX5_cause_149 : decode cX5_cause 149 = .ok (.iload 7, 2) := by decide +kernel
theorem dX5_cause_151 : decode cX5_cause 151 = .ok (.iconst 3, 1) := by decide +kernel
theorem dX5_cause_152 : decode cX5_cause 152 = .ok (.if_icmp .ge 39, 3) := by decide +kernel
theorem dX5_cause_155 : decode cX5_cause 155 = .ok (.aload_n 0, 1) := by decide +kernel
theorem dX5_cause_156 : decode cX5_cause 156 = .ok (.getfield 86, 3) := by decide +kernel
theorem dX5_cause_159 : decode cX5_cause 159 = .ok (.iconst 3, 1) := by decide +kernel
theorem dX5_cause_160 : decode cX5_cause 160 = .ok (.aload_n 0, 1) := by decide +kernel
theorem dX5_cause_161 : decode cX5_cause 161 = .ok (.getfield 161, 3) := by decide +kernel
theorem dX5_cause_164 : decode cX5_cause 164 = .ok (.imul, 1) := by decide +kernel
theorem dX5_cause_165 : decode cX5_cause 165 = .ok (.iload 7, 2) := by decide +kernel
theorem dX5_cause_167 : decode cX5_cause 167 = .ok (.iadd, 1) := by decide +kernel
theorem dX5_cause_168 : decode cX5_cause 168 = .ok (.iconst (-1), 1) := by decide +kernel
theorem dX5_cause_169 : decode cX5_cause 169 = .ok (.iastore, 1) := by decide +kernel
theorem dX5_cause_170 : decode cX5_cause 170 = .ok (.aload_n 0, 1) := by decide +kernel
theorem dX5_cause_171 : decode cX5_cause 171 = .ok (.getfield 83, 3) := by decide +kernel
theorem dX5_cause_174 : decode cX5_cause 174 = .ok (.iconst 3, 1) := by decide +kernel
theorem dX5_cause_175 : decode cX5_cause 175 = .ok (.aload_n 0, 1) := by decide +kernel
theorem dX5_cause_176 : decode cX5_cause 176 = .ok (.getfield 161, 3) := by decide +kernel
theorem dX5_cause_179 : decode cX5_cause 179 = .ok (.imul, 1) := by decide +kernel
theorem dX5_cause_180 : decode cX5_cause 180 = .ok (.iload 7, 2) := by decide +kernel
theorem dX5_cause_182 : decode cX5_cause 182 = .ok (.iadd, 1) := by decide +kernel
theorem dX5_cause_183 : decode cX5_cause 183 = .ok (.iconst (-1), 1) := by decide +kernel
theorem dX5_cause_184 : decode cX5_cause 184 = .ok (.iastore, 1) := by decide +kernel
theorem dX5_cause_185 : decode cX5_cause 185 = .ok (.iinc 7 1, 3) := by decide +kernel
theorem dX5_cause_188 : decode cX5_cause 188 = .ok (.goto (-39), 3) := by decide +kernel
theorem dX5_cause_191 : decode cX5_cause 191 = .ok (.aload_n 0, 1) := by decide +kernel
theorem dX5_cause_192 : decode cX5_cause 192 = .ok (.dup, 1) := by decide +kernel
theorem dX5_cause_193 : decode cX5_cause 193 = .ok (.getfield 161, 3) := by decide +kernel
theorem dX5_cause_196 : decode cX5_cause 196 = .ok (.iconst 1, 1) := by decide +kernel
theorem dX5_cause_197 : decode cX5_cause 197 = .ok (.iadd, 1) := by decide +kernel
theorem dX5_cause_198 : decode cX5_cause 198 = .ok (.putfield 161, 3) := by decide +kernel
theorem dX5_cause_201 : decode cX5_cause 201 = .ok (.aload_n 0, 1) := by decide +kernel
theorem dX5_cause_202 : decode cX5_cause 202 = .ok (.getfield 161, 3) := by decide +kernel
theorem dX5_cause_205 : decode cX5_cause 205 = .ok (.iconst 1, 1) := by decide +kernel
theorem dX5_cause_206 : decode cX5_cause 206 = .ok (.isub, 1) := by decide +kernel
theorem dX5_cause_207 : decode cX5_cause 207 = .ok (.ireturn, 1) := by decide +kernel
def tab_X5_cause : List (Nat × Sem) := [(0, op_il 2 1), (1, op_call sp_X5_isPlace 1 0 4), (4, op_if (fun x => x = 0) 18 7), (7, op_il 3 8), (8, op_call sp_X5_isDoubt 1 0 11), (11, op_if (fun x => x = 0) 18 14), (14, op_ic 1 15), (15, op_go 19), (18, op_ic 0 19), (19, op_is 5 21), (21, op_al 0 22), (22, op_il 1 23), (23, op_callV 7 sp_X5_isVow 2 0 26), (26, op_if (fun x => x = 0) 73 29), (29, op_al 0 30), (30, op_gf 7 21 33), (33, op_ic 30 35), (35, op_cmp (fun x y => y ≤ x) 73 38), (38, op_al 0 39), (39, op_il 1 40), (40, op_callV 7 sp_X5_isTold 2 0 43), (43, op_if (fun x => x = 0) 73 46), (46, op_al 0 47), (47, op_il 1 48), (48, op_ic (-1) 49), (49, op_callV 7 sp_X5_isQuiet 3 0 52), (52, op_if (fun x => x = 0) 73 55), (55, op_il 4 57), (57, op_if (fun x => ¬ x = 0) 69 60), (60, op_al 0 61), (61, op_il 1 62), (62, op_il 2 63), (63, op_callV 7 sp_X5_has 3 0 66), (66, op_if (fun x => x = 0) 73 69), (69, op_ic 1 70), (70, op_go 74), (73, op_ic 0 74), (74, op_is 6 76), (76, op_al 0 77), (77, op_al 0 78), (78, op_il 1 79), (79, op_callV 7 sp_X5_isVow 2 0 82), (82, op_if (fun x => ¬ x = 0) 89 85), (85, op_ic 1 86), (86, op_go 108), (89, op_il 5 91), (91, op_if (fun x => ¬ x = 0) 98 94), (94, op_ic 2 95), (95, op_go 108), (98, op_il 6 100), (100, op_if (fun x => x = 0) 107 103), (103, op_ic 0 104), (104, op_go 108), (107, op_ic 3 108), (108, op_callV 7 sp_X5_fails 2 0 111), (111, op_if (fun x => x = 0) 116 114), (114, op_ic 0 115), (115, op_iret), (116, op_al 0 117), (117, op_gf 7 22 120), (120, op_al 0 121), (121, op_gf 7 21 124), (124, op_il 1 125), (125, op_iast 126), (126, op_al 0 127), (127, op_gf 7 23 130), (130, op_al 0 131), (131, op_gf 7 21 134), (134, op_il 3 135), (135, op_iast 136), (136, op_al 0 137), (137, op_gf 7 25 140), (140, op_al 0 141), (141, op_gf 7 21 144), (144, op_ic 1 145), (145, op_iast 146), (146, op_ic 0 147), (147, op_is 7 149), (149, op_il 7 151), (151, op_ic 3 152), (152, op_cmp (fun x y => y ≤ x) 191 155), (155, op_al 0 156), (156, op_gf 7 29 159), (159, op_ic 3 160), (160, op_al 0 161), (161, op_gf 7 21 164), (164, op_bin (fun x y => x * y) 165), (165, op_il 7 167), (167, op_bin (fun x y => x + y) 168), (168, op_ic (-1) 169), (169, op_iast 170), (170, op_al 0 171), (171, op_gf 7 28 174), (174, op_ic 3 175), (175, op_al 0 176), (176, op_gf 7 21 179), (179, op_bin (fun x y => x * y) 180), (180, op_il 7 182), (182, op_bin (fun x y => x + y) 183), (183, op_ic (-1) 184), (184, op_iast 185), (185, op_inc 7 1 188), (188, op_go 149), (191, op_al 0 192), (192, op_dup 193), (193, op_gf 7 21 196), (196, op_ic 1 197), (197, op_bin (fun x y => x + y) 198), (198, op_pf 7 21 201), (201, op_al 0 202), (202, op_gf 7 21 205), (205, op_ic 1 206), (206, op_bin (fun x y => x - y) 207), (207, op_iret)]
set_option maxRecDepth 20000 in
theorem tok_X5_cause : ∀ q ∈ tab_X5_cause, Snd RX5 cX5_cause 8 2 0 (some .int) q.1 q.2 := by
  unfold tab_X5_cause
  refine tcons (ok_iload_n dX5_cause_0 rfl rfl) ?_
  refine tcons (ok_invokestatic M_X5_isPlace w_1109 w_1110 w_49 w_1111 ⟨by decide, by decide, by decide +kernel⟩ (by decide) (by decide) dX5_cause_1 rfl) ?_
  refine tcons (ok_if_eq dX5_cause_4 rfl rfl) ?_
  refine tcons (ok_iload_n dX5_cause_7 rfl rfl) ?_
  refine tcons (ok_invokestatic M_X5_isDoubt w_1225 w_1226 w_49 w_1227 ⟨by decide, by decide, by decide +kernel⟩ (by decide) (by decide) dX5_cause_8 rfl) ?_
  refine tcons (ok_if_eq dX5_cause_11 rfl rfl) ?_
  refine tcons (ok_iconst dX5_cause_14 rfl rfl) ?_
  refine tcons (ok_goto dX5_cause_15 rfl) ?_
  refine tcons (ok_iconst dX5_cause_18 rfl rfl) ?_
  refine tcons (ok_istore dX5_cause_19 (by decide) rfl) ?_
  refine tcons (ok_aload_n dX5_cause_21 rfl rfl) ?_
  refine tcons (ok_iload_n dX5_cause_22 rfl rfl) ?_
  refine tcons (ok_invokevirtual M_X5_isVow (C := RX5) (T := TX5) (nf := 33) rfl w_1186 w_1188 w_27 w_49 w_1189 ⟨rfl, by decide, by decide, by decide +kernel⟩ (by decide) (by decide) dX5_cause_23 rfl) ?_
  refine tcons (ok_if_eq dX5_cause_26 rfl rfl) ?_
  refine tcons (ok_aload_n dX5_cause_29 rfl rfl) ?_
  refine tcons (ok_getfield (C := RX5) (T := TX5) (n := 33) rfl in_X5 (by decide) w_1014 dX5_cause_30 rfl) ?_
  refine tcons (ok_bipush dX5_cause_33 rfl rfl) ?_
  refine tcons (ok_icmp_ge dX5_cause_35 rfl rfl) ?_
  refine tcons (ok_aload_n dX5_cause_38 rfl rfl) ?_
  refine tcons (ok_iload_n dX5_cause_39 rfl rfl) ?_
  refine tcons (ok_invokevirtual M_X5_isTold (C := RX5) (T := TX5) (nf := 33) rfl w_1217 w_1219 w_32 w_49 w_1220 ⟨rfl, by decide, by decide, by decide +kernel⟩ (by decide) (by decide) dX5_cause_40 rfl) ?_
  refine tcons (ok_if_eq dX5_cause_43 rfl rfl) ?_
  refine tcons (ok_aload_n dX5_cause_46 rfl rfl) ?_
  refine tcons (ok_iload_n dX5_cause_47 rfl rfl) ?_
  refine tcons (ok_iconst dX5_cause_48 rfl rfl) ?_
  refine tcons (ok_invokevirtual M_X5_isQuiet (C := RX5) (T := TX5) (nf := 33) rfl w_1206 w_1208 w_31 w_49 w_1209 ⟨rfl, by decide, by decide, by decide +kernel⟩ (by decide) (by decide) dX5_cause_49 rfl) ?_
  refine tcons (ok_if_eq dX5_cause_52 rfl rfl) ?_
  refine tcons (ok_iload dX5_cause_55 rfl) ?_
  refine tcons (ok_if_ne dX5_cause_57 rfl rfl) ?_
  refine tcons (ok_aload_n dX5_cause_60 rfl rfl) ?_
  refine tcons (ok_iload_n dX5_cause_61 rfl rfl) ?_
  refine tcons (ok_iload_n dX5_cause_62 rfl rfl) ?_
  refine tcons (ok_invokevirtual M_X5_has (C := RX5) (T := TX5) (nf := 33) rfl w_1228 w_1230 w_33 w_49 w_1231 ⟨rfl, by decide, by decide, by decide +kernel⟩ (by decide) (by decide) dX5_cause_63 rfl) ?_
  refine tcons (ok_if_eq dX5_cause_66 rfl rfl) ?_
  refine tcons (ok_iconst dX5_cause_69 rfl rfl) ?_
  refine tcons (ok_goto dX5_cause_70 rfl) ?_
  refine tcons (ok_iconst dX5_cause_73 rfl rfl) ?_
  refine tcons (ok_istore dX5_cause_74 (by decide) rfl) ?_
  refine tcons (ok_aload_n dX5_cause_76 rfl rfl) ?_
  refine tcons (ok_aload_n dX5_cause_77 rfl rfl) ?_
  refine tcons (ok_iload_n dX5_cause_78 rfl rfl) ?_
  refine tcons (ok_invokevirtual M_X5_isVow (C := RX5) (T := TX5) (nf := 33) rfl w_1186 w_1188 w_27 w_49 w_1189 ⟨rfl, by decide, by decide, by decide +kernel⟩ (by decide) (by decide) dX5_cause_79 rfl) ?_
  refine tcons (ok_if_ne dX5_cause_82 rfl rfl) ?_
  refine tcons (ok_iconst dX5_cause_85 rfl rfl) ?_
  refine tcons (ok_goto dX5_cause_86 rfl) ?_
  refine tcons (ok_iload dX5_cause_89 rfl) ?_
  refine tcons (ok_if_ne dX5_cause_91 rfl rfl) ?_
  refine tcons (ok_iconst dX5_cause_94 rfl rfl) ?_
  refine tcons (ok_goto dX5_cause_95 rfl) ?_
  refine tcons (ok_iload dX5_cause_98 rfl) ?_
  refine tcons (ok_if_eq dX5_cause_100 rfl rfl) ?_
  refine tcons (ok_iconst dX5_cause_103 rfl rfl) ?_
  refine tcons (ok_goto dX5_cause_104 rfl) ?_
  refine tcons (ok_iconst dX5_cause_107 rfl rfl) ?_
  refine tcons (ok_invokevirtual M_X5_fails (C := RX5) (T := TX5) (nf := 33) rfl w_1112 w_1114 w_20 w_49 w_1115 ⟨rfl, by decide, by decide, by decide +kernel⟩ (by decide) (by decide) dX5_cause_108 rfl) ?_
  refine tcons (ok_if_eq dX5_cause_111 rfl rfl) ?_
  refine tcons (ok_iconst dX5_cause_114 rfl rfl) ?_
  refine tcons (ok_ireturn rfl dX5_cause_115) ?_
  refine tcons (ok_aload_n dX5_cause_116 rfl rfl) ?_
  refine tcons (ok_getfield (C := RX5) (T := TX5) (n := 33) rfl in_X5 (by decide) w_1015 dX5_cause_117 rfl) ?_
  refine tcons (ok_aload_n dX5_cause_120 rfl rfl) ?_
  refine tcons (ok_getfield (C := RX5) (T := TX5) (n := 33) rfl in_X5 (by decide) w_1014 dX5_cause_121 rfl) ?_
  refine tcons (ok_iload_n dX5_cause_124 rfl rfl) ?_
  refine tcons (ok_iastore dX5_cause_125 rfl) ?_
  refine tcons (ok_aload_n dX5_cause_126 rfl rfl) ?_
  refine tcons (ok_getfield (C := RX5) (T := TX5) (n := 33) rfl in_X5 (by decide) w_1016 dX5_cause_127 rfl) ?_
  refine tcons (ok_aload_n dX5_cause_130 rfl rfl) ?_
  refine tcons (ok_getfield (C := RX5) (T := TX5) (n := 33) rfl in_X5 (by decide) w_1014 dX5_cause_131 rfl) ?_
  refine tcons (ok_iload_n dX5_cause_134 rfl rfl) ?_
  refine tcons (ok_iastore dX5_cause_135 rfl) ?_
  refine tcons (ok_aload_n dX5_cause_136 rfl rfl) ?_
  refine tcons (ok_getfield (C := RX5) (T := TX5) (n := 33) rfl in_X5 (by decide) w_1018 dX5_cause_137 rfl) ?_
  refine tcons (ok_aload_n dX5_cause_140 rfl rfl) ?_
  refine tcons (ok_getfield (C := RX5) (T := TX5) (n := 33) rfl in_X5 (by decide) w_1014 dX5_cause_141 rfl) ?_
  refine tcons (ok_iconst dX5_cause_144 rfl rfl) ?_
  refine tcons (ok_iastore dX5_cause_145 rfl) ?_
  refine tcons (ok_iconst dX5_cause_146 rfl rfl) ?_
  refine tcons (ok_istore dX5_cause_147 (by decide) rfl) ?_
  refine tcons (ok_iload dX5_cause_149 rfl) ?_
  refine tcons (ok_iconst dX5_cause_151 rfl rfl) ?_
  refine tcons (ok_icmp_ge dX5_cause_152 rfl rfl) ?_
  refine tcons (ok_aload_n dX5_cause_155 rfl rfl) ?_
  refine tcons (ok_getfield (C := RX5) (T := TX5) (n := 33) rfl in_X5 (by decide) w_1022 dX5_cause_156 rfl) ?_
  refine tcons (ok_iconst dX5_cause_159 rfl rfl) ?_
  refine tcons (ok_aload_n dX5_cause_160 rfl rfl) ?_
  refine tcons (ok_getfield (C := RX5) (T := TX5) (n := 33) rfl in_X5 (by decide) w_1014 dX5_cause_161 rfl) ?_
  refine tcons (ok_imul dX5_cause_164 rfl) ?_
  refine tcons (ok_iload dX5_cause_165 rfl) ?_
  refine tcons (ok_iadd dX5_cause_167 rfl) ?_
  refine tcons (ok_iconst dX5_cause_168 rfl rfl) ?_
  refine tcons (ok_iastore dX5_cause_169 rfl) ?_
  refine tcons (ok_aload_n dX5_cause_170 rfl rfl) ?_
  refine tcons (ok_getfield (C := RX5) (T := TX5) (n := 33) rfl in_X5 (by decide) w_1021 dX5_cause_171 rfl) ?_
  refine tcons (ok_iconst dX5_cause_174 rfl rfl) ?_
  refine tcons (ok_aload_n dX5_cause_175 rfl rfl) ?_
  refine tcons (ok_getfield (C := RX5) (T := TX5) (n := 33) rfl in_X5 (by decide) w_1014 dX5_cause_176 rfl) ?_
  refine tcons (ok_imul dX5_cause_179 rfl) ?_
  refine tcons (ok_iload dX5_cause_180 rfl) ?_
  refine tcons (ok_iadd dX5_cause_182 rfl) ?_
  refine tcons (ok_iconst dX5_cause_183 rfl rfl) ?_
  refine tcons (ok_iastore dX5_cause_184 rfl) ?_
  refine tcons (ok_iinc dX5_cause_185 rfl (by decide) rfl) ?_
  refine tcons (ok_goto dX5_cause_188 rfl) ?_
  refine tcons (ok_aload_n dX5_cause_191 rfl rfl) ?_
  refine tcons (ok_dup dX5_cause_192 rfl) ?_
  refine tcons (ok_getfield (C := RX5) (T := TX5) (n := 33) rfl in_X5 (by decide) w_1014 dX5_cause_193 rfl) ?_
  refine tcons (ok_iconst dX5_cause_196 rfl rfl) ?_
  refine tcons (ok_iadd dX5_cause_197 rfl) ?_
  refine tcons (ok_putfield (C := RX5) (T := TX5) (n := 33) tyX5 .int rfl in_X5 tyX5_ok nmX5 (by decide) rfl w_1014 rfl (Or.inl rfl) dX5_cause_198 rfl) ?_
  refine tcons (ok_aload_n dX5_cause_201 rfl rfl) ?_
  refine tcons (ok_getfield (C := RX5) (T := TX5) (n := 33) rfl in_X5 (by decide) w_1014 dX5_cause_202 rfl) ?_
  refine tcons (ok_iconst dX5_cause_205 rfl rfl) ?_
  refine tcons (ok_isub dX5_cause_206 rfl) ?_
  refine tcons (ok_ireturn rfl dX5_cause_207) ?_
  exact fun _ h => nomatch h
def sp_X5_cause : Spc := fun av s N _ => match av with
  | [.inl (.inr (20, 0)), .inl (.inl v), .inl (.inl p), .inl (.inl d), .inl (.inl b)] => MI s ∧ WI s ∧ f3 (isV s v) (inR p 0 7 ∧ inR d 1 127) (caP s v p b) (some (aI 0)) N s (N (some (aI (s.2.1 20 0 21))) (caM s v d))
  | _ => False
theorem stS_21 {s : Sg} {t j : Nat} {v : Int32} (h : t ≠ 20) : (stS s t 0 j v).2.1 20 0 21 = s.2.1 20 0 21 := if_neg (fun q => h q.1.symm)
set_option maxRecDepth 20000 in
set_option maxHeartbeats 2000000 in
theorem M_X5_cause : AMet yX5_cause cX5_cause 8 (some .int) 2 0 sp_X5_cause := by
  refine AMet.mc (own := RX5) (by decide) rfl [0, 1, 2, 3, 4, 5, 6, 7] rfl tok_X5_cause 200 ?_
  intro av s0 N X h
  unfold sp_X5_cause at h
  split at h
  rotate_left
  · exact h.elim
  rename_i v p d b
  obtain ⟨hM, hW, h⟩ := h
  obtain ⟨-, -, ⟨n, hn, hv⟩⟩ := of_eq_true hM
  have hnc := ncm_eq hv hn
  have hfin : isV s0 v → (inR p 0 7 ∧ inR d 1 127) → caP s0 v p b → ∀ x s', x = nI n → s' = stS (stR (stR (stS (stS (stS (th s0 0) 42 0 n v) 43 0 n d) 45 0 n 1) 49 (3 * n) 3 (-1)) 48 (3 * n) 3 (-1)) 20 0 21 (nI n + 1) → N (some (aI x)) s' := by
    intro h1 h2 h3 x s' hx hs
    have := h.2.2.2 h1 h2 h3
    unfold caM at this
    rw [hv, hnc] at this
    rw [hx, hs]
    exact this
  refine ⟨[(76, fun m u L st s => ∃ a x, u = 0 ∧ m = 1 ∧ L = [(0, .inr (20, 0)), (1, .inl v), (2, .inl p), (3, .inl d), (4, .inl b), (5, .inl a), (6, .inl x)] ∧ st = [] ∧ s = s0 ∧ flg a (inR p 0 7 ∧ inR d 1 127) ∧ (isV s0 v → flg x (caP s v p b)) ∧ (x = 0 ∨ x = 1)),
     (116, fun m u L st s => ∃ a x, u = 0 ∧ m = 0 ∧ L = [(0, .inr (20, 0)), (1, .inl v), (2, .inl p), (3, .inl d), (4, .inl b), (5, .inl a), (6, .inl x)] ∧ st = [] ∧ s = th s0 0 ∧ isV s0 v ∧ (inR p 0 7 ∧ inR d 1 127) ∧ caP s0 v p b)], ?_, ac ?_ (ac ?_ an)⟩
  · clear hfin
    repeat' (first | apply And.intro | (intro q; exact absurd q (by decide)) | intro _)
    all_goals first | decide | (exact Nat.le_of_ble_eq_true rfl) | (exact hM) | (exact (WI_v hM hW (by assumption)).1) | (exact (WI_v hM hW (by assumption)).2.1) | (exact (WI_v hM hW (by assumption)).2.2) |
      (exact ⟨1, 7, trivial, _, _, rfl, rfl, rfl, rfl, rfl, by simp_all [-Int32.not_le, -Int32.not_lt, flg], by simp_all [-Int32.not_le, -Int32.not_lt, flg, caP], by simp⟩)
  · rintro m u L st s ⟨a, x, rfl, rfl, rfl, rfl, rfl, ha, hx, hxx⟩
    clear hfin
    rcases ha with ⟨rfl, ha⟩ | ⟨rfl, ha⟩ <;> rcases hxx with rfl | rfl
    all_goals repeat' (first | apply And.intro | (intro q; exact absurd q (by decide)) | intro _)
    all_goals first | decide | (exact Nat.le_of_ble_eq_true rfl) | (exact ⟨0, 7, Nat.one_pos, _, _, rfl, rfl, rfl, rfl, rfl, by assumption, ha, by simp_all [-Int32.not_le, -Int32.not_lt, flg]⟩) | (simp_all [-Int32.not_le, -Int32.not_lt, f3, flg]; done)
  · rintro m u L st s ⟨a, x, rfl, rfl, rfl, rfl, rfl, hV, hr, hc⟩
    have hn30 : n < 30 := by
      have h9 := hc.1
      rw [hv] at h9
      rcases Nat.lt_or_ge n 30 with q | q
      · exact q
      · exact absurd (show nI 30 ≤ nI n from nI_le q (by omega)) h9
    replace hfin := hfin hV hr hc
    have i0 : Ib (nI n) 30 := nIb hn30 (by decide)
    have r0 : Ib (3 * nI n) 90 := by rw [row3]; exact nIb (by omega) (by decide)
    have r1 : Ib (3 * nI n + 1) 90 := by rw [show (1 : Int32) = nI 1 from rfl, row3k]; exact nIb (by omega) (by decide)
    have r2 : Ib (3 * nI n + 2) 90 := by rw [show (2 : Int32) = nI 2 from rfl, row3k]; exact nIb (by omega) (by decide)
    have c : (nI n).toNatClampNeg = n := nI_clamp (by omega)
    have c0 : (3 * nI n).toNatClampNeg = 3 * n := by rw [row3]; exact nI_clamp (by omega)
    have c1 : (3 * nI n + 1).toNatClampNeg = 3 * n + 1 := by rw [show (1 : Int32) = nI 1 from rfl, row3k]; exact nI_clamp (by omega)
    have c2 : (3 * nI n + 2).toNatClampNeg = 3 * n + 2 := by rw [show (2 : Int32) = nI 2 from rfl, row3k]; exact nI_clamp (by omega)
    obtain ⟨s1, e1⟩ : ∃ z, z = th s0 0 := ⟨_, rfl⟩
    have hv1 : s1.2.1 20 0 21 = nI n := by rw [e1, stS_get]; exact hv
    rw [← e1] at hfin ⊢
    clear h e1 hc hv hM hW hnc
    repeat' (first | apply And.intro | (intro q; exact absurd q (by decide)) | intro _)
    all_goals first | decide | (exact Nat.le_of_ble_eq_true rfl) | (simp [stS_get, hv1, i0, r0, r1, r2]; done) | (refine hfin _ _ (by simp [stS_get, hv1]) ?_; simp [stS_get, hv1, c, c0, c1, c2, ← st6]; done)
end
section
def mk1 (s : Sg) (p q k : Int32) : Int32 := if s.2.1 29 0 (cl (plc p q k)) = 0 then -1 else k ^^^ (-1)
/-- what hinders a vow of today for good -/
noncomputable def kepM (s : Sg) (p q : Int32) : Int32 := (((hndM s p q &&& mk1 s p q 1) &&& mk1 s p q 2) &&& (-1)) &&& mk1 s p q 8
def lkP (s : Sg) (p q a w : Int32) : Prop := (s.2.1 24 0 (cl p) = 0 ∨ s.2.1 24 0 (cl q) = 0) ∧ ¬ s.2.1 20 0 0 < s.2.1 30 0 (cl (8 * w + a)) ∧ s.2.1 31 0 (cl a) = 0
noncomputable def voM (s : Sg) (p q a w : Int32) : Sg := stS (stS (stS (stS (stS (stS (stS (stS (th s 0) 33 0 (nvm s) p) 34 0 (nvm s) q) 35 0 (nvm s) a) 36 0 (nvm s) (s.2.1 20 0 0)) 37 0 (nvm s) (iteP (lkP s p q a w) 1 0)) 40 0 (nvm s) (-1)) 38 0 (nvm s) (kepM s p q)) 20 0 12 (s.2.1 20 0 12 + 1)
def voP (s : Sg) (p q : Int32) : Prop := ¬ 30 ≤ s.2.1 20 0 12 ∧ s.2.1 27 0 (cl p) = 0 ∧ s.2.1 27 0 (cl q) = 0 ∧ s.2.1 26 0 (cl p) = 0 ∧ s.2.1 26 0 (cl q) = 0
theorem dX5_vow_0 : decode cX5_vow 0 = .ok (.aload_n 0, 1) := by decide +kernel
theorem dX5_vow_1 : decode cX5_vow 1 = .ok (.iload_n 1, 1) := by decide +kernel
theorem dX5_vow_2 : decode cX5_vow 2 = .ok (.invokevirtual 106, 3) := by decide +kernel
theorem dX5_vow_5 : decode cX5_vow 5 = .ok (.ifCond .eq 15, 3) := by decide +kernel
theorem dX5_vow_8 : decode cX5_vow 8 = .ok (.aload_n 0, 1) := by decide +kernel
theorem dX5_vow_9 : decode cX5_vow 9 = .ok (.iload_n 2, 1) := by decide +kernel
theorem dX5_vow_10 : decode cX5_vow 10 = .ok (.invokevirtual 106, 3) := by decide +kernel
theorem dX5_vow_13 : decode cX5_vow 13 = .ok (.ifCond .eq 7, 3) := by decide +kernel
theorem dX5_vow_16 : decode cX5_vow 16 = .ok (.iconst 1, 1) := by decide +kernel
theorem dX5_vow_17 : decode cX5_vow 17 = .ok (.goto 4, 3) := by decide +kernel
theorem dX5_vow_20 : decode cX5_vow 20 = .ok (.iconst 0, 1) := by decide +kernel
theorem dX5_vow_21 : decode cX5_vow 21 = .ok (.istore 5, 2) := by decide +kernel
theorem dX5_vow_23 : decode cX5_vow 23 = .ok (.iload_n 1, 1) := by decide +kernel
theorem dX5_vow_24 : decode cX5_vow 24 = .ok (.iload_n 2, 1) := by decide +kernel
theorem dX5_vow_25 : decode cX5_vow 25 = .ok (.if_icmp .eq 22, 3) := by decide +kernel
theorem dX5_vow_28 : decode cX5_vow 28 = .ok (.iload_n 3, 1) := by decide +kernel
theorem dX5_vow_29 : decode cX5_vow 29 = .ok (.invokestatic 111, 3) := by decide +kernel
theorem dX5_vow_32 : decode cX5_vow 32 = .ok (.ifCond .eq 15, 3) := by decide +kernel
theorem dX5_vow_35 : decode cX5_vow 35 = .ok (.iload 4, 2) := by decide +kernel
theorem dX5_vow_37 : decode cX5_vow 37 = .ok (.invokestatic 145, 3) := by decide +kernel
theorem dX5_vow_40 : decode cX5_vow 40 = .ok (.ifCond .eq 7, 3) := by decide +kernel
theorem dX5_vow_43 : decode cX5_vow 43 = .ok (.iconst 1, 1) := by decide +kernel
theorem dX5_vow_44 : decode cX5_vow 44 = .ok (.goto 4, 3) := by decide +kernel
theorem dX5_vow_47 : decode cX5_vow 47 = .ok (.iconst 0, 1) := by decide +kernel
theorem dX5_vow_48 : decode cX5_vow 48 = .ok (.istore 6, 2) := by decide +kernel
theorem dX5_vow_50 : decode cX5_vow 50 = .ok (.iload 5, 2) := by decide +kernel
theorem dX5_vow_52 : decode cX5_vow 52 = .ok (.ifCond .eq 52, 3) := by decide +kernel
theorem dX5_vow_55 : decode cX5_vow 55 = .ok (.aload_n 0, 1) := by decide +kernel
theorem dX5_vow_56 : decode cX5_vow 56 = .ok (.getfield 103, 3) := by decide +kernel
theorem dX5_vow_59 : decode cX5_vow 59 = .ok (.bipush 30, 2) := by decide +kernel
theorem dX5_vow_61 : decode cX5_vow 61 = .ok (.if_icmp .ge 43, 3) := by decide +kernel
theorem dX5_vow_64 : decode cX5_vow 64 = .ok (.aload_n 0, 1) := by decide +kernel
theorem dX5_vow_65 : decode cX5_vow 65 = .ok (.getfield 26, 3) := by decide +kernel
theorem dX5_vow_68 : decode cX5_vow 68 = .ok (.iload_n 1, 1) := by decide +kernel
theorem dX5_vow_69 : decode cX5_vow 69 = .ok (.baload, 1) := by decide +kernel
theorem dX5_vow_70 : decode cX5_vow 70 = .ok (.ifCond .ne 34, 3) := by decide +kernel
theorem dX5_vow_73 : decode cX5_vow 73 = .ok (.aload_n 0, 1) := by decide +kernel
theorem dX5_vow_74 : decode cX5_vow 74 = .ok (.getfield 26, 3) := by decide +kernel
theorem dX5_vow_77 : decode cX5_vow 77 = .ok (.iload_n 2, 1) := by decide +kernel
theorem dX5_vow_78 : decode cX5_vow 78 = .ok (.baload, 1) := by decide +kernel
theorem dX5_vow_79 : decode cX5_vow 79 = .ok (.ifCond .ne 25, 3) := by decide +kernel
theorem dX5_vow_82 : decode cX5_vow 82 = .ok (.aload_n 0, 1) := by decide +kernel
theorem dX5_vow_83 : decode cX5_vow 83 = .ok (.getfield 23, 3) := by decide +kernel
theorem dX5_vow_86 : decode cX5_vow 86 = .ok (.iload_n 1, 1) := by decide +kernel
theorem dX5_vow_87 : decode cX5_vow 87 = .ok (.baload, 1) := by decide +kernel
theorem dX5_vow_88 : decode cX5_vow 88 = .ok (.ifCond .ne 16, 3) := by decide +kernel
theorem dX5_vow_91 : decode cX5_vow 91 = .ok (.aload_n 0, 1) := by decide +kernel
theorem dX5_vow_92 : decode cX5_vow 92 = .ok (.getfield 23, 3) := by decide +kernel
theorem dX5_vow_95 : decode cX5_vow 95 = .ok (.iload_n 2, 1) := by decide +kernel
theorem dX5_vow_96 : decode cX5_vow 96 = .ok (.baload, 1) := by decide +kernel
theorem dX5_vow_97 : decode cX5_vow 97 = .ok (.ifCond .ne 7, 3) := by decide +kernel
theorem dX5_vow_100 : decode cX5_vow 100 = .ok (.iconst 1, 1) := by decide +kernel
theorem dX5_vow_101 : decode cX5_vow 101 = .ok (.goto 4, 3) := by decide +kernel
theorem dX5_vow_104 : decode cX5_vow 104 = .ok (.iconst 0, 1) := by decide +kernel
theorem dX5_vow_105 : decode cX5_vow 105 = .ok (.istore 7, 2) := by decide +kernel
theorem dX5_vow_107 : decode cX5_vow 107 = .ok (.aload_n 0, 1) := by decide +kernel
theorem dX5_vow_108 : decode cX5_vow 108 = .ok (.iload 5, 2) := by decide +kernel
theorem dX5_vow_110 : decode cX5_vow 110 = .ok (.ifCond .ne 7, 3) := by decide +kernel
theorem dX5_vow_113 : decode cX5_vow 113 = .ok (.iconst 1, 1) := by decide +kernel
theorem dX5_vow_114 : decode cX5_vow 114 = .ok (.goto 22, 3) := by decide +kernel
theorem dX5_vow_117 : decode cX5_vow 117 = .ok (.iload 6, 2) := by decide +kernel
theorem dX5_vow_119 : decode cX5_vow 119 = .ok (.ifCond .ne 7, 3) := by decide +kernel
theorem dX5_vow_122 : decode cX5_vow 122 = .ok (.iconst 2, 1) := by decide +kernel
theorem dX5_vow_123 : decode cX5_vow 123 = .ok (.goto 13, 3) := by decide +kernel
theorem dX5_vow_126 : decode cX5_vow 126 = .ok (.iload 7, 2) := by decide +kernel
theorem dX5_vow_128 : decode cX5_vow 128 = .ok (.ifCond .eq 7, 3) := by decide +kernel
theorem dX5_vow_131 : decode cX5_vow 131 = .ok (.iconst 0, 1) := by decide +kernel
theorem dX5_vow_132 : decode cX5_vow 132 = .ok (.goto 4, 3) := by decide +kernel
theorem dX5_vow_135 : decode cX5_vow 135 = .ok (.iconst 3, 1) := by decide +kernel
theorem dX5_vow_136 : decode cX5_vow 136 = .ok (.invokevirtual 114, 3) := by decide +kernel
theorem dX5_vow_139 : decode cX5_vow 139 = .ok (.ifCond .eq 5, 3) := by decide +kernel
theorem dX5_vow_142 : decode cX5_vow 142 = .ok (.iconst 0, 1) := by decide +kernel
theorem dX5_vow_143 : decode cX5_vow 143 = .ok (.ireturn, 1) := by decide +kernel
theorem dX5_vow_144 : decode cX5_vow 144 = .ok (.aload_n 0, 1) := by decide +kernel
theorem dX5_vow_145 : decode cX5_vow 145 = .ok (.getfield 41, 3) := by decide +kernel
theorem dX5_vow_148 : decode cX5_vow 148 = .ok (.aload_n 0, 1) := by decide +kernel
theorem dX5_vow_149 : decode cX5_vow 149 = .ok (.getfield 103, 3) := by decide +kernel
theorem dX5_vow_152 : decode cX5_vow 152 = .ok (.iload_n 1, 1) := by decide +kernel
theorem dX5_vow_153 : decode cX5_vow 153 = .ok (.iastore, 1) := by decide +kernel
theorem dX5_vow_154 : decode cX5_vow 154 = .ok (.aload_n 0, 1) := by decide +kernel
theorem dX5_vow_155 : decode cX5_vow 155 = .ok (.getfield 44, 3) := by decide +kernel
theorem dX5_vow_158 : decode cX5_vow 158 = .ok (.aload_n 0, 1) := by decide +kernel
theorem dX5_vow_159 : decode cX5_vow 159 = .ok (.getfield 103, 3) := by decide +kernel
theorem dX5_vow_162 : decode cX5_vow 162 = .ok (.iload_n 2, 1) := by decide +kernel
theorem dX5_vow_163 : decode cX5_vow 163 = .ok (.iastore, 1) := by decide +kernel
theorem dX5_vow_164 : decode cX5_vow 164 = .ok (.aload_n 0, 1) := by decide +kernel
theorem dX5_vow_165 : decode cX5_vow 165 = .ok (.getfield 47, 3) := by decide +kernel
theorem dX5_vow_168 : decode cX5_vow 168 = .ok (.aload_n 0, 1) := by decide +kernel
theorem dX5_vow_169 : decode cX5_vow 169 = .ok (.getfield 103, 3) := by decide +kernel
theorem dX5_vow_172 : decode cX5_vow 172 = .ok (.iload_n 3, 1) := by decide +kernel
theorem dX5_vow_173 : decode cX5_vow 173 = .ok (.iastore, 1) := by decide +kernel
theorem dX5_vow_174 : decode cX5_vow 174 = .ok (.aload_n 0, 1) := by decide +kernel
theorem dX5_vow_175 : decode cX5_vow 175 = .ok (.getfield 50, 3) := by decide +kernel
theorem dX5_vow_178 : decode cX5_vow 178 = .ok (.aload_n 0, 1) := by decide +kernel
theorem dX5_vow_179 : decode cX5_vow 179 = .ok (.getfield 103, 3) := by decide +kernel
theorem dX5_vow_182 : decode cX5_vow 182 = .ok (.aload_n 0, 1) := by decide +kernel
theorem dX5_vow_183 : decode cX5_vow 183 = .ok (.getfield 117, 3) := by decide +kernel
theorem dX5_vow_186 : decode cX5_vow 186 = .ok (.iastore, 1) := by decide +kernel
theorem dX5_vow_187 : decode cX5_vow 187 = .ok (.aload_n 0, 1) := by decide +kernel
theorem dX5_vow_188 : decode cX5_vow 188 = .ok (.getfield 53, 3) := by decide +kernel
theorem dX5_vow_191 : decode cX5_vow 191 = .ok (.aload_n 0, 1) := by decide +kernel
theorem dX5_vow_192 : decode cX5_vow 192 = .ok (.getfield 103, 3) := by decide +kernel
theorem dX5_vow_195 : decode cX5_vow 195 = .ok (.aload_n 0, 1) := by decide +kernel
theorem dX5_vow_196 : decode cX5_vow 196 = .ok (.getfield 16, 3) := by decide +kernel
theorem dX5_vow_199 : decode cX5_vow 199 = .ok (.iload_n 1, 1) := by decide +kernel
theorem dX5_vow_200 : decode cX5_vow 200 = .ok (.iaload, 1) := by decide +kernel
theorem dX5_vow_201 : decode cX5_vow 201 = .ok (.ifCond .eq 12, 3) := by decide +kernel
theorem dX5_vow_204 : decode cX5_vow 204 = .ok (.aload_n 0, 1) := by decide +kernel
theorem dX5_vow_205 : decode cX5_vow 205 = .ok (.getfield 16, 3) := by decide +kernel
theorem dX5_vow_208 : decode cX5_vow 208 = .ok (.iload_n 2, 1) := by decide +kernel
theorem dX5_vow_209 : decode cX5_vow 209 = .ok (.iaload, 1) := by decide +kernel
theorem dX5_vow_210 : decode cX5_vow 210 = .ok (.ifCond .ne 35, 3) := by decide +kernel
theorem dX5_vow_213 : decode cX5_vow 213 = .ok (.aload_n 0, 1) := by decide +kernel
theorem dX5_vow_214 : decode cX5_vow 214 = .ok (.getfield 117, 3) := by decide +kernel
theorem dX5_vow_217 : decode cX5_vow 217 = .ok (.aload_n 0, 1) := by decide +kernel
theorem dX5_vow_218 : decode cX5_vow 218 = .ok (.getfield 35, 3) := by decide +kernel
theorem dX5_vow_221 : decode cX5_vow 221 = .ok (.bipush 8, 2) := by decide +kernel
theorem dX5_vow_223 : decode cX5_vow 223 = .ok (.iload 4, 2) := by decide +kernel
theorem dX5_vow_225 : decode cX5_vow 225 = .ok (.imul, 1) := by decide +kernel
theorem dX5_vow_226 : decode cX5_vow 226 = .ok (.iload_n 3, 1) := by decide +kernel
theorem dX5_vow_227 : decode cX5_vow 227 = .ok (.iadd, 1) := by decide +kernel
theorem dX5_vow_228 : decode cX5_vow 228 = .ok (.iaload, 1) := by decide +kernel
theorem dX5_vow_229 : decode cX5_vow 229 = .ok (.if_icmp .lt 16, 3) := by decide +kernel
theorem dX5_vow_232 : decode cX5_vow 232 = .ok (.aload_n 0, 1) := by decide +kernel
theorem dX5_vow_233 : decode cX5_vow 233 = .ok (.getfield 38, 3) := by decide +kernel
theorem dX5_vow_236 : decode cX5_vow 236 = .ok (.iload_n 3, 1) := by decide +kernel
theorem dX5_vow_237 : decode cX5_vow 237 = .ok (.baload, 1) := by decide +kernel
theorem dX5_vow_238 : decode cX5_vow 238 = .ok (.ifCond .ne 7, 3) := by decide +kernel
theorem dX5_vow_241 : decode cX5_vow 241 = .ok (.iconst 1, 1) := by decide +kernel
theorem dX5_vow_242 : decode cX5_vow 242 = .ok (.goto 4, 3) := by decide +kernel
theorem dX5_vow_245 : decode cX5_vow 245 = .ok (.iconst 0, 1) := by decide +kernel
theorem dX5_vow_246 : decode cX5_vow 246 = .ok (.bastore, 1) := by decide +kernel
theorem dX5_vow_247 : decode cX5_vow 247 = .ok (.aload_n 0, 1) := by decide +kernel
theorem dX5_vow_248 : decode cX5_vow 248 = .ok (.getfield 62, 3) := by decide +kernel
theorem dX5_vow_251 : decode cX5_vow 251 = .ok (.aload_n 0, 1) := by decide +kernel
theorem dX5_vow_252 : decode cX5_vow 252 = .ok (.getfield 103, 3) := by decide +kernel
theorem dX5_vow_255 : decode cX5_vow 255 = .ok (.iconst (-1), 1) := by decide +kernel
theorem dX5_vow_256 : decode cX5_vow 256 = .ok (.iastore, 1) := by decide +kernel
theorem dX5_vow_257 : decode cX5_vow 257 = .ok (.aload_n 0, 1) := by decide +kernel
theorem dX5_vow_258 : decode cX5_vow 258 = .ok (.getfield 56, 3) := by decide +kernel
theorem dX5_vow_261 : decode cX5_vow 261 = .ok (.aload_n 0, 1) := by decide +kernel
theorem dX5_vow_262 : decode cX5_vow 262 = .ok (.getfield 103, 3) := by decide +kernel
theorem dX5_vow_265 : decode cX5_vow 265 = .ok (.aload_n 0, 1) := by decide +kernel
theorem dX5_vow_266 : decode cX5_vow 266 = .ok (.iload_n 1, 1) := by decide +kernel
theorem dX5_vow_267 : decode cX5_vow 267 = .ok (.iload_n 2, 1) := by decide +kernel
theorem dX5_vow_268 : decode cX5_vow 268 = .ok (.invokevirtual 135, 3) := by decide +kernel
theorem dX5_vow_271 : decode cX5_vow 271 = .ok (.iastore, 1) := by decide +kernel
theorem dX5_vow_272 : decode cX5_vow 272 = .ok (.iconst 1, 1) := by decide +kernel
theorem dX5_vow_273 : decode cX5_vow 273 = .ok (.istore 8, 2) := by decide +kernel
theorem dX5_vow_275 : decode cX5_vow 275 = .ok (.iload 8, 2) := by decide +kernel
theorem dX5_vow_277 : decode cX5_vow 277 = .ok (.bipush 8, 2) := by decide +kernel
theorem dX5_vow_279 : decode cX5_vow 279 = .ok (.if_icmp .gt 53, 3) := by decide +kernel
theorem dX5_vow_282 : decode cX5_vow 282 = .ok (.aload_n 0, 1) := by decide +kernel
theorem dX5_vow_283 : decode cX5_vow 283 = .ok (.getfield 56, 3) := by decide +kernel
theorem dX5_vow_286 : decode cX5_vow 286 = .ok (.aload_n 0, 1) := by decide +kernel
theorem dX5_vow_287 : decode cX5_vow 287 = .ok (.getfield 103, 3) := by decide +kernel
theorem dX5_vow_290 : decode cX5_vow 290 = .ok (.dup2, 1) := by decide +kernel
theorem dX5_vow_291 : decode cX5_vow 291 = .ok (.iaload, 1) := by decide +kernel
theorem dX5_vow_292 : decode cX5_vow 292 = .ok (.iload 8, 2) := by decide +kernel
theorem dX5_vow_294 : decode cX5_vow 294 = .ok (.iconst 4, 1) := by decide +kernel
theorem dX5_vow_295 : decode cX5_vow 295 = .ok (.if_icmp .eq 25, 3) := by decide +kernel
theorem dX5_vow_298 : decode cX5_vow 298 = .ok (.aload_n 0, 1) := by decide +kernel
theorem dX5_vow_299 : decode cX5_vow 299 = .ok (.getfield 32, 3) := by decide +kernel
theorem dX5_vow_302 : decode cX5_vow 302 = .ok (.iload_n 1, 1) := by decide +kernel
theorem dX5_vow_303 : decode cX5_vow 303 = .ok (.iload_n 2, 1) := by decide +kernel
theorem dX5_vow_304 : decode cX5_vow 304 = .ok (.iload 8, 2) := by decide +kernel
theorem dX5_vow_306 : decode cX5_vow 306 = .ok (.invokestatic 138, 3) := by decide +kernel
theorem dX5_vow_309 : decode cX5_vow 309 = .ok (.baload, 1) := by decide +kernel
theorem dX5_vow_310 : decode cX5_vow 310 = .ok (.ifCond .eq 10, 3) := by decide +kernel
theorem dX5_vow_313 : decode cX5_vow 313 = .ok (.iload 8, 2) := by decide +kernel
theorem dX5_vow_315 : decode cX5_vow 315 = .ok (.iconst (-1), 1) := by decide +kernel
theorem dX5_vow_316 : decode cX5_vow 316 = .ok (.ixor, 1) := by decide +kernel
theorem dX5_vow_317 : decode cX5_vow 317 = .ok (.goto 4, 3) := by decide +kernel
theorem dX5_vow_320 : decode cX5_vow 320 = .ok (.iconst (-1), 1) := by decide +kernel
theorem dX5_vow_321 : decode cX5_vow 321 = .ok (.iand, 1) := by decide +kernel
theorem dX5_vow_322 : decode cX5_vow 322 = .ok (.iastore, 1) := by decide +kernel
theorem dX5_vow_323 : decode cX5_vow 323 = .ok (.iload 8, 2) := by decide +kernel
theorem dX5_vow_325 : decode cX5_vow 325 = .ok (.iconst 2, 1) := by decide +kernel
theorem dX5_vow_326 : decode cX5_vow 326 = .ok (.imul, 1) := by decide +kernel
theorem dX5_vow_327 : decode cX5_vow 327 = .ok (.istore 8, 2) := by decide +kernel
theorem dX5_vow_329 : decode cX5_vow 329 = .ok (.goto (-54), 3) := by decide +kernel
theorem dX5_vow_332 : decode cX5_vow 332 = .ok (.aload_n 0, 1) := by decide +kernel
theorem dX5_vow_333 : decode cX5_vow 333 = .ok (.dup, 1) := by decide +kernel
theorem dX5_vow_334 : decode cX5_vow 334 = .ok (.getfield 103, 3) := by decide +kernel
theorem dX5_vow_337 : decode cX5_vow 337 = .ok (.iconst 1, 1) := by decide +kernel
theorem dX5_vow_338 : decode cX5_vow 338 = .ok (.iadd, 1) := by decide +kernel
theorem dX5_vow_339 : decode cX5_vow 339 = .ok (.putfield 103, 3) := by decide +kernel
theorem dX5_vow_342 : decode cX5_vow 342 = .ok (.aload_n 0, 1) := by decide +kernel
theorem dX5_vow_343 : decode cX5_vow 343 = .ok (.getfield 103, 3) := by decide +kernel
theorem dX5_vow_346 : decode cX5_vow 346 = .ok (.iconst 1, 1) := by decide +kernel
theorem dX5_vow_347 : decode cX5_vow 347 = .ok (.isub, 1) := by decide +kernel
theorem dX5_vow_348 : decode cX5_vow 348 = .ok (.ireturn, 1) := by decide +kernel
def tab_X5_vow : List (Nat × Sem) := [(0, op_al 0 1), (1, op_il 1 2), (2, op_callV 7 sp_X5_isPerson 2 0 5), (5, op_if (fun x => x = 0) 20 8), (8, op_al 0 9), (9, op_il 2 10), (10, op_callV 7 sp_X5_isPerson 2 0 13), (13, op_if (fun x => x = 0) 20 16), (16, op_ic 1 17), (17, op_go 21), (20, op_ic 0 21), (21, op_is 5 23), (23, op_il 1 24), (24, op_il 2 25), (25, op_cmp (fun x y => x = y) 47 28), (28, op_il 3 29), (29, op_call sp_X5_isPlace 1 0 32), (32, op_if (fun x => x = 0) 47 35), (35, op_il 4 37), (37, op_call sp_X5_isWitness 1 0 40), (40, op_if (fun x => x = 0) 47 43), (43, op_ic 1 44), (44, op_go 48), (47, op_ic 0 48), (48, op_is 6 50), (50, op_il 5 52), (52, op_if (fun x => x = 0) 104 55), (55, op_al 0 56), (56, op_gf 7 12 59), (59, op_ic 30 61), (61, op_cmp (fun x y => y ≤ x) 104 64), (64, op_al 0 65), (65, op_gf 7 7 68), (68, op_il 1 69), (69, op_bald 70), (70, op_if (fun x => ¬ x = 0) 104 73), (73, op_al 0 74), (74, op_gf 7 7 77), (77, op_il 2 78), (78, op_bald 79), (79, op_if (fun x => ¬ x = 0) 104 82), (82, op_al 0 83), (83, op_gf 7 6 86), (86, op_il 1 87), (87, op_bald 88), (88, op_if (fun x => ¬ x = 0) 104 91), (91, op_al 0 92), (92, op_gf 7 6 95), (95, op_il 2 96), (96, op_bald 97), (97, op_if (fun x => ¬ x = 0) 104 100), (100, op_ic 1 101), (101, op_go 105), (104, op_ic 0 105), (105, op_is 7 107), (107, op_al 0 108), (108, op_il 5 110), (110, op_if (fun x => ¬ x = 0) 117 113), (113, op_ic 1 114), (114, op_go 136), (117, op_il 6 119), (119, op_if (fun x => ¬ x = 0) 126 122), (122, op_ic 2 123), (123, op_go 136), (126, op_il 7 128), (128, op_if (fun x => x = 0) 135 131), (131, op_ic 0 132), (132, op_go 136), (135, op_ic 3 136), (136, op_callV 7 sp_X5_fails 2 0 139), (139, op_if (fun x => x = 0) 144 142), (142, op_ic 0 143), (143, op_iret), (144, op_al 0 145), (145, op_gf 7 13 148), (148, op_al 0 149), (149, op_gf 7 12 152), (152, op_il 1 153), (153, op_iast 154), (154, op_al 0 155), (155, op_gf 7 14 158), (158, op_al 0 159), (159, op_gf 7 12 162), (162, op_il 2 163), (163, op_iast 164), (164, op_al 0 165), (165, op_gf 7 15 168), (168, op_al 0 169), (169, op_gf 7 12 172), (172, op_il 3 173), (173, op_iast 174), (174, op_al 0 175), (175, op_gf 7 16 178), (178, op_al 0 179), (179, op_gf 7 12 182), (182, op_al 0 183), (183, op_gf 7 0 186), (186, op_iast 187), (187, op_al 0 188), (188, op_gf 7 17 191), (191, op_al 0 192), (192, op_gf 7 12 195), (195, op_al 0 196), (196, op_gf 7 4 199), (199, op_il 1 200), (200, op_iald 201), (201, op_if (fun x => x = 0) 213 204), (204, op_al 0 205), (205, op_gf 7 4 208), (208, op_il 2 209), (209, op_iald 210), (210, op_if (fun x => ¬ x = 0) 245 213), (213, op_al 0 214), (214, op_gf 7 0 217), (217, op_al 0 218), (218, op_gf 7 10 221), (221, op_ic 8 223), (223, op_il 4 225), (225, op_bin (fun x y => x * y) 226), (226, op_il 3 227), (227, op_bin (fun x y => x + y) 228), (228, op_iald 229), (229, op_cmp (fun x y => x < y) 245 232), (232, op_al 0 233), (233, op_gf 7 11 236), (236, op_il 3 237), (237, op_bald 238), (238, op_if (fun x => ¬ x = 0) 245 241), (241, op_ic 1 242), (242, op_go 246), (245, op_ic 0 246), (246, op_bast 247), (247, op_al 0 248), (248, op_gf 7 20 251), (251, op_al 0 252), (252, op_gf 7 12 255), (255, op_ic (-1) 256), (256, op_iast 257), (257, op_al 0 258), (258, op_gf 7 18 261), (261, op_al 0 262), (262, op_gf 7 12 265), (265, op_al 0 266), (266, op_il 1 267), (267, op_il 2 268), (268, op_callV 7 sp_X5_hinders 3 0 271), (271, op_iast 272), (272, op_ic 1 273), (273, op_is 8 275), (275, op_il 8 277), (277, op_ic 8 279), (279, op_cmp (fun x y => y < x) 332 282), (282, op_al 0 283), (283, op_gf 7 18 286), (286, op_al 0 287), (287, op_gf 7 12 290), (290, op_dup2 291), (291, op_iald 292), (292, op_il 8 294), (294, op_ic 4 295), (295, op_cmp (fun x y => x = y) 320 298), (298, op_al 0 299), (299, op_gf 7 9 302), (302, op_il 1 303), (303, op_il 2 304), (304, op_il 8 306), (306, op_call sp_X5_placeOf 3 0 309), (309, op_bald 310), (310, op_if (fun x => x = 0) 320 313), (313, op_il 8 315), (315, op_ic (-1) 316), (316, op_bin (fun x y => x ^^^ y) 317), (317, op_go 321), (320, op_ic (-1) 321), (321, op_bin (fun x y => x &&& y) 322), (322, op_iast 323), (323, op_il 8 325), (325, op_ic 2 326), (326, op_bin (fun x y => x * y) 327), (327, op_is 8 329), (329, op_go 275), (332, op_al 0 333), (333, op_dup 334), (334, op_gf 7 12 337), (337, op_ic 1 338), (338, op_bin (fun x y => x + y) 339), (339, op_pf 7 12 342), (342, op_al 0 343), (343, op_gf 7 12 346), (346, op_ic 1 347), (347, op_bin (fun x y => x - y) 348), (348, op_iret)]
set_option maxRecDepth 20000 in
theorem tok_X5_vow : ∀ q ∈ tab_X5_vow, Snd RX5 cX5_vow 9 3 0 (some .int) q.1 q.2 := by
  unfold tab_X5_vow
  refine tcons (ok_aload_n dX5_vow_0 rfl rfl) ?_
  refine tcons (ok_iload_n dX5_vow_1 rfl rfl) ?_
  refine tcons (ok_invokevirtual M_X5_isPerson (C := RX5) (T := TX5) (nf := 33) rfl w_1101 w_1103 w_19 w_49 w_1104 ⟨rfl, by decide, by decide, by decide +kernel⟩ (by decide) (by decide) dX5_vow_2 rfl) ?_
  refine tcons (ok_if_eq dX5_vow_5 rfl rfl) ?_
  refine tcons (ok_aload_n dX5_vow_8 rfl rfl) ?_
  refine tcons (ok_iload_n dX5_vow_9 rfl rfl) ?_
  refine tcons (ok_invokevirtual M_X5_isPerson (C := RX5) (T := TX5) (nf := 33) rfl w_1101 w_1103 w_19 w_49 w_1104 ⟨rfl, by decide, by decide, by decide +kernel⟩ (by decide) (by decide) dX5_vow_10 rfl) ?_
  refine tcons (ok_if_eq dX5_vow_13 rfl rfl) ?_
  refine tcons (ok_iconst dX5_vow_16 rfl rfl) ?_
  refine tcons (ok_goto dX5_vow_17 rfl) ?_
  refine tcons (ok_iconst dX5_vow_20 rfl rfl) ?_
  refine tcons (ok_istore dX5_vow_21 (by decide) rfl) ?_
  refine tcons (ok_iload_n dX5_vow_23 rfl rfl) ?_
  refine tcons (ok_iload_n dX5_vow_24 rfl rfl) ?_
  refine tcons (ok_icmp_eq dX5_vow_25 rfl rfl) ?_
  refine tcons (ok_iload_n dX5_vow_28 rfl rfl) ?_
  refine tcons (ok_invokestatic M_X5_isPlace w_1109 w_1110 w_49 w_1111 ⟨by decide, by decide, by decide +kernel⟩ (by decide) (by decide) dX5_vow_29 rfl) ?_
  refine tcons (ok_if_eq dX5_vow_32 rfl rfl) ?_
  refine tcons (ok_iload dX5_vow_35 rfl) ?_
  refine tcons (ok_invokestatic M_X5_isWitness w_1171 w_1172 w_49 w_1173 ⟨by decide, by decide, by decide +kernel⟩ (by decide) (by decide) dX5_vow_37 rfl) ?_
  refine tcons (ok_if_eq dX5_vow_40 rfl rfl) ?_
  refine tcons (ok_iconst dX5_vow_43 rfl rfl) ?_
  refine tcons (ok_goto dX5_vow_44 rfl) ?_
  refine tcons (ok_iconst dX5_vow_47 rfl rfl) ?_
  refine tcons (ok_istore dX5_vow_48 (by decide) rfl) ?_
  refine tcons (ok_iload dX5_vow_50 rfl) ?_
  refine tcons (ok_if_eq dX5_vow_52 rfl rfl) ?_
  refine tcons (ok_aload_n dX5_vow_55 rfl rfl) ?_
  refine tcons (ok_getfield (C := RX5) (T := TX5) (n := 33) rfl in_X5 (by decide) w_1005 dX5_vow_56 rfl) ?_
  refine tcons (ok_bipush dX5_vow_59 rfl rfl) ?_
  refine tcons (ok_icmp_ge dX5_vow_61 rfl rfl) ?_
  refine tcons (ok_aload_n dX5_vow_64 rfl rfl) ?_
  refine tcons (ok_getfield (C := RX5) (T := TX5) (n := 33) rfl in_X5 (by decide) w_1000 dX5_vow_65 rfl) ?_
  refine tcons (ok_iload_n dX5_vow_68 rfl rfl) ?_
  refine tcons (ok_baload dX5_vow_69 rfl) ?_
  refine tcons (ok_if_ne dX5_vow_70 rfl rfl) ?_
  refine tcons (ok_aload_n dX5_vow_73 rfl rfl) ?_
  refine tcons (ok_getfield (C := RX5) (T := TX5) (n := 33) rfl in_X5 (by decide) w_1000 dX5_vow_74 rfl) ?_
  refine tcons (ok_iload_n dX5_vow_77 rfl rfl) ?_
  refine tcons (ok_baload dX5_vow_78 rfl) ?_
  refine tcons (ok_if_ne dX5_vow_79 rfl rfl) ?_
  refine tcons (ok_aload_n dX5_vow_82 rfl rfl) ?_
  refine tcons (ok_getfield (C := RX5) (T := TX5) (n := 33) rfl in_X5 (by decide) w_999 dX5_vow_83 rfl) ?_
  refine tcons (ok_iload_n dX5_vow_86 rfl rfl) ?_
  refine tcons (ok_baload dX5_vow_87 rfl) ?_
  refine tcons (ok_if_ne dX5_vow_88 rfl rfl) ?_
  refine tcons (ok_aload_n dX5_vow_91 rfl rfl) ?_
  refine tcons (ok_getfield (C := RX5) (T := TX5) (n := 33) rfl in_X5 (by decide) w_999 dX5_vow_92 rfl) ?_
  refine tcons (ok_iload_n dX5_vow_95 rfl rfl) ?_
  refine tcons (ok_baload dX5_vow_96 rfl) ?_
  refine tcons (ok_if_ne dX5_vow_97 rfl rfl) ?_
  refine tcons (ok_iconst dX5_vow_100 rfl rfl) ?_
  refine tcons (ok_goto dX5_vow_101 rfl) ?_
  refine tcons (ok_iconst dX5_vow_104 rfl rfl) ?_
  refine tcons (ok_istore dX5_vow_105 (by decide) rfl) ?_
  refine tcons (ok_aload_n dX5_vow_107 rfl rfl) ?_
  refine tcons (ok_iload dX5_vow_108 rfl) ?_
  refine tcons (ok_if_ne dX5_vow_110 rfl rfl) ?_
  refine tcons (ok_iconst dX5_vow_113 rfl rfl) ?_
  refine tcons (ok_goto dX5_vow_114 rfl) ?_
  refine tcons (ok_iload dX5_vow_117 rfl) ?_
  refine tcons (ok_if_ne dX5_vow_119 rfl rfl) ?_
  refine tcons (ok_iconst dX5_vow_122 rfl rfl) ?_
  refine tcons (ok_goto dX5_vow_123 rfl) ?_
  refine tcons (ok_iload dX5_vow_126 rfl) ?_
  refine tcons (ok_if_eq dX5_vow_128 rfl rfl) ?_
  refine tcons (ok_iconst dX5_vow_131 rfl rfl) ?_
  refine tcons (ok_goto dX5_vow_132 rfl) ?_
  refine tcons (ok_iconst dX5_vow_135 rfl rfl) ?_
  refine tcons (ok_invokevirtual M_X5_fails (C := RX5) (T := TX5) (nf := 33) rfl w_1112 w_1114 w_20 w_49 w_1115 ⟨rfl, by decide, by decide, by decide +kernel⟩ (by decide) (by decide) dX5_vow_136 rfl) ?_
  refine tcons (ok_if_eq dX5_vow_139 rfl rfl) ?_
  refine tcons (ok_iconst dX5_vow_142 rfl rfl) ?_
  refine tcons (ok_ireturn rfl dX5_vow_143) ?_
  refine tcons (ok_aload_n dX5_vow_144 rfl rfl) ?_
  refine tcons (ok_getfield (C := RX5) (T := TX5) (n := 33) rfl in_X5 (by decide) w_1006 dX5_vow_145 rfl) ?_
  refine tcons (ok_aload_n dX5_vow_148 rfl rfl) ?_
  refine tcons (ok_getfield (C := RX5) (T := TX5) (n := 33) rfl in_X5 (by decide) w_1005 dX5_vow_149 rfl) ?_
  refine tcons (ok_iload_n dX5_vow_152 rfl rfl) ?_
  refine tcons (ok_iastore dX5_vow_153 rfl) ?_
  refine tcons (ok_aload_n dX5_vow_154 rfl rfl) ?_
  refine tcons (ok_getfield (C := RX5) (T := TX5) (n := 33) rfl in_X5 (by decide) w_1007 dX5_vow_155 rfl) ?_
  refine tcons (ok_aload_n dX5_vow_158 rfl rfl) ?_
  refine tcons (ok_getfield (C := RX5) (T := TX5) (n := 33) rfl in_X5 (by decide) w_1005 dX5_vow_159 rfl) ?_
  refine tcons (ok_iload_n dX5_vow_162 rfl rfl) ?_
  refine tcons (ok_iastore dX5_vow_163 rfl) ?_
  refine tcons (ok_aload_n dX5_vow_164 rfl rfl) ?_
  refine tcons (ok_getfield (C := RX5) (T := TX5) (n := 33) rfl in_X5 (by decide) w_1008 dX5_vow_165 rfl) ?_
  refine tcons (ok_aload_n dX5_vow_168 rfl rfl) ?_
  refine tcons (ok_getfield (C := RX5) (T := TX5) (n := 33) rfl in_X5 (by decide) w_1005 dX5_vow_169 rfl) ?_
  refine tcons (ok_iload_n dX5_vow_172 rfl rfl) ?_
  refine tcons (ok_iastore dX5_vow_173 rfl) ?_
  refine tcons (ok_aload_n dX5_vow_174 rfl rfl) ?_
  refine tcons (ok_getfield (C := RX5) (T := TX5) (n := 33) rfl in_X5 (by decide) w_1009 dX5_vow_175 rfl) ?_
  refine tcons (ok_aload_n dX5_vow_178 rfl rfl) ?_
  refine tcons (ok_getfield (C := RX5) (T := TX5) (n := 33) rfl in_X5 (by decide) w_1005 dX5_vow_179 rfl) ?_
  refine tcons (ok_aload_n dX5_vow_182 rfl rfl) ?_
  refine tcons (ok_getfield (C := RX5) (T := TX5) (n := 33) rfl in_X5 (by decide) w_993 dX5_vow_183 rfl) ?_
  refine tcons (ok_iastore dX5_vow_186 rfl) ?_
  refine tcons (ok_aload_n dX5_vow_187 rfl rfl) ?_
  refine tcons (ok_getfield (C := RX5) (T := TX5) (n := 33) rfl in_X5 (by decide) w_1010 dX5_vow_188 rfl) ?_
  refine tcons (ok_aload_n dX5_vow_191 rfl rfl) ?_
  refine tcons (ok_getfield (C := RX5) (T := TX5) (n := 33) rfl in_X5 (by decide) w_1005 dX5_vow_192 rfl) ?_
  refine tcons (ok_aload_n dX5_vow_195 rfl rfl) ?_
  refine tcons (ok_getfield (C := RX5) (T := TX5) (n := 33) rfl in_X5 (by decide) w_997 dX5_vow_196 rfl) ?_
  refine tcons (ok_iload_n dX5_vow_199 rfl rfl) ?_
  refine tcons (ok_iaload dX5_vow_200 rfl) ?_
  refine tcons (ok_if_eq dX5_vow_201 rfl rfl) ?_
  refine tcons (ok_aload_n dX5_vow_204 rfl rfl) ?_
  refine tcons (ok_getfield (C := RX5) (T := TX5) (n := 33) rfl in_X5 (by decide) w_997 dX5_vow_205 rfl) ?_
  refine tcons (ok_iload_n dX5_vow_208 rfl rfl) ?_
  refine tcons (ok_iaload dX5_vow_209 rfl) ?_
  refine tcons (ok_if_ne dX5_vow_210 rfl rfl) ?_
  refine tcons (ok_aload_n dX5_vow_213 rfl rfl) ?_
  refine tcons (ok_getfield (C := RX5) (T := TX5) (n := 33) rfl in_X5 (by decide) w_993 dX5_vow_214 rfl) ?_
  refine tcons (ok_aload_n dX5_vow_217 rfl rfl) ?_
  refine tcons (ok_getfield (C := RX5) (T := TX5) (n := 33) rfl in_X5 (by decide) w_1003 dX5_vow_218 rfl) ?_
  refine tcons (ok_bipush dX5_vow_221 rfl rfl) ?_
  refine tcons (ok_iload dX5_vow_223 rfl) ?_
  refine tcons (ok_imul dX5_vow_225 rfl) ?_
  refine tcons (ok_iload_n dX5_vow_226 rfl rfl) ?_
  refine tcons (ok_iadd dX5_vow_227 rfl) ?_
  refine tcons (ok_iaload dX5_vow_228 rfl) ?_
  refine tcons (ok_icmp_lt dX5_vow_229 rfl rfl) ?_
  refine tcons (ok_aload_n dX5_vow_232 rfl rfl) ?_
  refine tcons (ok_getfield (C := RX5) (T := TX5) (n := 33) rfl in_X5 (by decide) w_1004 dX5_vow_233 rfl) ?_
  refine tcons (ok_iload_n dX5_vow_236 rfl rfl) ?_
  refine tcons (ok_baload dX5_vow_237 rfl) ?_
  refine tcons (ok_if_ne dX5_vow_238 rfl rfl) ?_
  refine tcons (ok_iconst dX5_vow_241 rfl rfl) ?_
  refine tcons (ok_goto dX5_vow_242 rfl) ?_
  refine tcons (ok_iconst dX5_vow_245 rfl rfl) ?_
  refine tcons (ok_bastore dX5_vow_246 rfl) ?_
  refine tcons (ok_aload_n dX5_vow_247 rfl rfl) ?_
  refine tcons (ok_getfield (C := RX5) (T := TX5) (n := 33) rfl in_X5 (by decide) w_1013 dX5_vow_248 rfl) ?_
  refine tcons (ok_aload_n dX5_vow_251 rfl rfl) ?_
  refine tcons (ok_getfield (C := RX5) (T := TX5) (n := 33) rfl in_X5 (by decide) w_1005 dX5_vow_252 rfl) ?_
  refine tcons (ok_iconst dX5_vow_255 rfl rfl) ?_
  refine tcons (ok_iastore dX5_vow_256 rfl) ?_
  refine tcons (ok_aload_n dX5_vow_257 rfl rfl) ?_
  refine tcons (ok_getfield (C := RX5) (T := TX5) (n := 33) rfl in_X5 (by decide) w_1011 dX5_vow_258 rfl) ?_
  refine tcons (ok_aload_n dX5_vow_261 rfl rfl) ?_
  refine tcons (ok_getfield (C := RX5) (T := TX5) (n := 33) rfl in_X5 (by decide) w_1005 dX5_vow_262 rfl) ?_
  refine tcons (ok_aload_n dX5_vow_265 rfl rfl) ?_
  refine tcons (ok_iload_n dX5_vow_266 rfl rfl) ?_
  refine tcons (ok_iload_n dX5_vow_267 rfl rfl) ?_
  refine tcons (ok_invokevirtual M_X5_hinders (C := RX5) (T := TX5) (nf := 33) rfl w_1148 w_1150 w_23 w_49 w_1151 ⟨rfl, by decide, by decide, by decide +kernel⟩ (by decide) (by decide) dX5_vow_268 rfl) ?_
  refine tcons (ok_iastore dX5_vow_271 rfl) ?_
  refine tcons (ok_iconst dX5_vow_272 rfl rfl) ?_
  refine tcons (ok_istore dX5_vow_273 (by decide) rfl) ?_
  refine tcons (ok_iload dX5_vow_275 rfl) ?_
  refine tcons (ok_bipush dX5_vow_277 rfl rfl) ?_
  refine tcons (ok_icmp_gt dX5_vow_279 rfl rfl) ?_
  refine tcons (ok_aload_n dX5_vow_282 rfl rfl) ?_
  refine tcons (ok_getfield (C := RX5) (T := TX5) (n := 33) rfl in_X5 (by decide) w_1011 dX5_vow_283 rfl) ?_
  refine tcons (ok_aload_n dX5_vow_286 rfl rfl) ?_
  refine tcons (ok_getfield (C := RX5) (T := TX5) (n := 33) rfl in_X5 (by decide) w_1005 dX5_vow_287 rfl) ?_
  refine tcons (ok_dup2 dX5_vow_290 rfl) ?_
  refine tcons (ok_iaload dX5_vow_291 rfl) ?_
  refine tcons (ok_iload dX5_vow_292 rfl) ?_
  refine tcons (ok_iconst dX5_vow_294 rfl rfl) ?_
  refine tcons (ok_icmp_eq dX5_vow_295 rfl rfl) ?_
  refine tcons (ok_aload_n dX5_vow_298 rfl rfl) ?_
  refine tcons (ok_getfield (C := RX5) (T := TX5) (n := 33) rfl in_X5 (by decide) w_1002 dX5_vow_299 rfl) ?_
  refine tcons (ok_iload_n dX5_vow_302 rfl rfl) ?_
  refine tcons (ok_iload_n dX5_vow_303 rfl rfl) ?_
  refine tcons (ok_iload dX5_vow_304 rfl) ?_
  refine tcons (ok_invokestatic M_X5_placeOf w_1164 w_1165 w_49 w_1166 ⟨by decide, by decide, by decide +kernel⟩ (by decide) (by decide) dX5_vow_306 rfl) ?_
  refine tcons (ok_baload dX5_vow_309 rfl) ?_
  refine tcons (ok_if_eq dX5_vow_310 rfl rfl) ?_
  refine tcons (ok_iload dX5_vow_313 rfl) ?_
  refine tcons (ok_iconst dX5_vow_315 rfl rfl) ?_
  refine tcons (ok_ixor dX5_vow_316 rfl) ?_
  refine tcons (ok_goto dX5_vow_317 rfl) ?_
  refine tcons (ok_iconst dX5_vow_320 rfl rfl) ?_
  refine tcons (ok_iand dX5_vow_321 rfl) ?_
  refine tcons (ok_iastore dX5_vow_322 rfl) ?_
  refine tcons (ok_iload dX5_vow_323 rfl) ?_
  refine tcons (ok_iconst dX5_vow_325 rfl rfl) ?_
  refine tcons (ok_imul dX5_vow_326 rfl) ?_
  refine tcons (ok_istore dX5_vow_327 (by decide) rfl) ?_
  refine tcons (ok_goto dX5_vow_329 rfl) ?_
  refine tcons (ok_aload_n dX5_vow_332 rfl rfl) ?_
  refine tcons (ok_dup dX5_vow_333 rfl) ?_
  refine tcons (ok_getfield (C := RX5) (T := TX5) (n := 33) rfl in_X5 (by decide) w_1005 dX5_vow_334 rfl) ?_
  refine tcons (ok_iconst dX5_vow_337 rfl rfl) ?_
  refine tcons (ok_iadd dX5_vow_338 rfl) ?_
  refine tcons (ok_putfield (C := RX5) (T := TX5) (n := 33) tyX5 .int rfl in_X5 tyX5_ok nmX5 (by decide) rfl w_1005 rfl (Or.inl rfl) dX5_vow_339 rfl) ?_
  refine tcons (ok_aload_n dX5_vow_342 rfl rfl) ?_
  refine tcons (ok_getfield (C := RX5) (T := TX5) (n := 33) rfl in_X5 (by decide) w_1005 dX5_vow_343 rfl) ?_
  refine tcons (ok_iconst dX5_vow_346 rfl rfl) ?_
  refine tcons (ok_isub dX5_vow_347 rfl) ?_
  refine tcons (ok_ireturn rfl dX5_vow_348) ?_
  exact fun _ h => nomatch h
def sp_X5_vow : Spc := fun av s N _ => match av with
  | [.inl (.inr (20, 0)), .inl (.inl p), .inl (.inl q), .inl (.inl a), .inl (.inl w)] => MI s ∧ f3 (isP s p ∧ isP s q) (¬ p = q ∧ inR a 0 7 ∧ inR w 0 5) (voP s p q) (some (aI 0)) N s (N (some (aI (s.2.1 20 0 12))) (voM s p q a w))
  | _ => False
theorem stS_2 {s : Sg} {t i j : Nat} {v w : Int32} : stS (stS s t i j v) t i j w = stS s t i j w := by
  refine Sg_ext rfl (fun a b c => ?_) rfl
  simp only [stS_get]
  by_cases h : a = t ∧ b = i ∧ c = j
  · rw [if_pos h, if_pos h]
  · rw [if_neg h, if_neg h, if_neg h]
/-- what hinders does not look at the vows' rows -/
theorem hndM_eq {s s' : Sg} (h20 : s'.2.1 20 0 0 = s.2.1 20 0 0) (h1 : s'.2.1 20 0 1 = s.2.1 20 0 1) (h22 : ∀ j, s'.2.1 22 0 j = s.2.1 22 0 j) (h25 : ∀ j, s'.2.1 25 0 j = s.2.1 25 0 j) (h28 : ∀ j, s'.2.1 28 0 j = s.2.1 28 0 j) (p q : Int32) : hndM s' p q = hndM s p q := by
  have e1 : ∀ i, mrow s' i = mrow s i := fun i => funext fun j => h28 _
  have e2 : kinM s' p q = kinM s p q := by unfold kinM npm; rw [e1, e1, h1]
  unfold hndM ykP
  rw [e2, h20, h22, h22, h25, h25]
set_option maxRecDepth 20000 in
set_option maxHeartbeats 2000000 in
theorem M_X5_vow : AMet yX5_vow cX5_vow 9 (some .int) 3 0 sp_X5_vow := by
  refine AMet.mc (own := RX5) (by decide) rfl [0, 1, 2, 3, 4, 5, 6, 7, 8] rfl tok_X5_vow 200 ?_
  intro av s0 N X h
  unfold sp_X5_vow at h
  split at h
  rotate_left
  · exact h.elim
  rename_i p q a w
  obtain ⟨hM, h⟩ := h
  obtain ⟨-, ⟨n, hn, hv⟩, -⟩ := of_eq_true hM
  have hnv := nvm_eq hv hn
  have hfin : (isP s0 p ∧ isP s0 q) → (¬ p = q ∧ inR a 0 7 ∧ inR w 0 5) → voP s0 p q → ∀ x s', x = nI n → s' = stS (stS (stS (stS (stS (stS (stS (stS (th s0 0) 33 0 n p) 34 0 n q) 35 0 n a) 36 0 n (s0.2.1 20 0 0)) 37 0 n (iteP (lkP s0 p q a w) 1 0)) 40 0 n (-1)) 38 0 n (kepM s0 p q)) 20 0 12 (nI n + 1) → N (some (aI x)) s' := by
    intro h1 h2 h3 x s' hx hs
    have := h.2.2.2 h1 h2 h3
    unfold voM at this
    rw [hv, hnv] at this
    rw [hx, hs]
    exact this
  refine ⟨[(50, fun m u L st s => ∃ f1 f2, u = 0 ∧ m = 3 ∧ L = [(0, .inr (20, 0)), (1, .inl p), (2, .inl q), (3, .inl a), (4, .inl w), (5, .inl f1), (6, .inl f2)] ∧ st = [] ∧ s = s0 ∧ flg f1 (isP s0 p ∧ isP s0 q) ∧ flg f2 (¬ p = q ∧ inR a 0 7 ∧ inR w 0 5)),
     (107, fun m u L st s => ∃ f1 f2 f3, u = 0 ∧ m = 2 ∧ L = [(0, .inr (20, 0)), (1, .inl p), (2, .inl q), (3, .inl a), (4, .inl w), (5, .inl f1), (6, .inl f2), (7, .inl f3)] ∧ st = [] ∧ s = s0 ∧ flg f1 (isP s0 p ∧ isP s0 q) ∧ flg f2 (¬ p = q ∧ inR a 0 7 ∧ inR w 0 5) ∧ (isP s0 p ∧ isP s0 q → flg f3 (voP s0 p q)) ∧ (f3 = 0 ∨ f3 = 1)),
     (144, fun m u L st s => u = 0 ∧ m = 1 ∧ L = [(0, .inr (20, 0)), (1, .inl p), (2, .inl q), (3, .inl a), (4, .inl w)] ∧ st = [] ∧ s = th s0 0 ∧ (isP s0 p ∧ isP s0 q) ∧ (¬ p = q ∧ inR a 0 7 ∧ inR w 0 5) ∧ voP s0 p q),
     (247, fun m u L st s => u = 0 ∧ m = 0 ∧ L = [(0, .inr (20, 0)), (1, .inl p), (2, .inl q), (3, .inl a), (4, .inl w)] ∧ st = [] ∧ s = stS (stS (stS (stS (stS (th s0 0) 33 0 n p) 34 0 n q) 35 0 n a) 36 0 n (s0.2.1 20 0 0)) 37 0 n (iteP (lkP s0 p q a w) 1 0) ∧ (isP s0 p ∧ isP s0 q) ∧ (¬ p = q ∧ inR a 0 7 ∧ inR w 0 5) ∧ voP s0 p q)], ?_, ac ?_ (ac ?_ (ac ?_ (ac ?_ an)))⟩
  · clear hfin
    repeat' (first | apply And.intro | (intro q; exact absurd q (by decide)) | intro _)
    all_goals first | decide | (exact Nat.le_of_ble_eq_true rfl) | (exact ⟨3, 7, trivial, _, _, rfl, rfl, rfl, rfl, rfl, by simp_all [flg], by simp_all [flg]⟩)
  · rintro m u L st s ⟨f1, f2, rfl, rfl, rfl, rfl, rfl, h1, h2⟩
    clear hfin
    rcases h1 with ⟨rfl, h1⟩ | ⟨rfl, h1⟩
    all_goals repeat' (first | apply And.intro | (intro q; exact absurd q (by decide)) | intro _)
    all_goals first | decide | (exact Nat.le_of_ble_eq_true rfl) | (exact Ib_of (MI_p hM h1.1)) | (exact Ib_of (MI_p hM h1.2)) | (exact ⟨2, 8, by decide, _, _, _, rfl, rfl, rfl, rfl, rfl, by simp_all [flg], h2, by simp_all [-Int32.not_le, -Int32.not_lt, flg, voP], by simp⟩)
  · rintro m u L st s ⟨f1, f2, f3, rfl, rfl, rfl, rfl, rfl, h1, h2, h3, h33⟩
    clear hfin
    rcases h1 with ⟨rfl, h1⟩ | ⟨rfl, h1⟩ <;> rcases h2 with ⟨rfl, h2⟩ | ⟨rfl, h2⟩ <;> rcases h33 with rfl | rfl
    all_goals repeat' (first | apply And.intro | (intro q; exact absurd q (by decide)) | intro _)
    all_goals first | decide | (exact Nat.le_of_ble_eq_true rfl) | (exact ⟨1, 5, by decide, rfl, rfl, rfl, rfl, rfl, h1, h2, by simp_all [flg]⟩) | (simp_all [-Int32.not_le, -Int32.not_lt, f3, flg]; done)
  · rintro m u L st s ⟨rfl, rfl, rfl, rfl, rfl, hV, hr, hc⟩
    clear hfin
    have hn30 : n < 30 := by
      have h9 := hc.1
      rw [hv] at h9
      rcases Nat.lt_or_ge n 30 with q | q
      · exact q
      · exact absurd (show nI 30 ≤ nI n from nI_le q (by omega)) h9
    have i0 : Ib (nI n) 30 := nIb hn30 (by decide)
    have ip : Ib p 24 := Ib_of (MI_p hM hV.1)
    have iq : Ib q 24 := Ib_of (MI_p hM hV.2)
    have iw : Ib (8 * w + a) 48 := Ib_of (fac_vp hr.2.2 hr.2.1)
    have ia : Ib a 8 := Ib_of (rg_vp hr.2.1 (by decide) (by decide))
    have c : (nI n).toNatClampNeg = n := nI_clamp (by omega)
    have hlk : ∀ k, lkP (th s0 k) p q a w = lkP s0 p q a w := fun k => by simp [lkP, stS_get]
    obtain ⟨s1, e1⟩ : ∃ z, z = th s0 0 := ⟨_, rfl⟩
    have hv1 : s1.2.1 20 0 12 = nI n := by rw [e1, stS_get]; exact hv
    have hd1 : s0.2.1 20 0 0 = s1.2.1 20 0 0 := by rw [e1, stS_get]; rfl
    have hl1 : lkP s0 p q a w = lkP s1 p q a w := by rw [e1, hlk]
    have e2 : stS s0 20 0 32 0 = s1 := e1.symm
    rw [hl1]
    clear hl1 hlk
    rw [← e1, hd1]
    clear h e1 hM hnv hd1
    repeat' (first | apply And.intro | (intro q; exact absurd q (by decide)) | intro _)
    all_goals first | decide | (exact Nat.le_of_ble_eq_true rfl) | (simp [stS_get, hv1, i0, ip, iq, iw, ia]; done) |
      (refine ⟨0, 5, Nat.one_pos, rfl, rfl, rfl, rfl, ?_, hV, hr, hc⟩; simp_all [-Int32.not_le, -Int32.not_lt, stS_get, lkP, iteP]; done)
  · rintro m u L st s ⟨rfl, rfl, rfl, rfl, rfl, hV, hr, hc⟩
    have hn30 : n < 30 := by
      have h9 := hc.1
      rw [hv] at h9
      rcases Nat.lt_or_ge n 30 with q | q
      · exact q
      · exact absurd (show nI 30 ≤ nI n from nI_le q (by omega)) h9
    replace hfin := hfin hV hr hc
    have i0 : Ib (nI n) 30 := nIb hn30 (by decide)
    have ip : Ib p 24 := Ib_of (MI_p hM hV.1)
    have iq : Ib q 24 := Ib_of (MI_p hM hV.2)
    have c : (nI n).toNatClampNeg = n := nI_clamp (by omega)
    obtain ⟨s5, e5⟩ : ∃ z, z = stS (stS (stS (stS (stS (th s0 0) 33 0 n p) 34 0 n q) 35 0 n a) 36 0 n (s0.2.1 20 0 0)) 37 0 n (iteP (lkP s0 p q a w) 1 0) := ⟨_, rfl⟩
    have hv5 : s5.2.1 20 0 12 = nI n := by rw [e5]; simp [stS_get, hv]
    have h29 : ∀ j, s0.2.1 29 0 j = s5.2.1 29 0 j := fun j => by rw [e5]; simp [stS_get]
    have hh : ∀ x, hndM (stS s5 40 0 n x) p q = hndM s0 p q := fun x => by
      rw [e5]
      exact hndM_eq (by simp [stS_get]) (by simp [stS_get]) (fun j => by simp [stS_get]) (fun j => by simp [stS_get]) (fun j => by simp [stS_get]) p q
    have hM5 : ∀ x, MI (stS s5 40 0 n x) := fun x => by
      rw [e5]
      have : MI (stS (stS (stS (stS (stS (stS (th s0 0) 33 0 n p) 34 0 n q) 35 0 n a) 36 0 n (s0.2.1 20 0 0)) 37 0 n (iteP (lkP s0 p q a w) 1 0)) 40 0 n x) = MI s0 := by simp [MI, MI0, stS_get]
      rw [this]; exact hM
    have hk : kepM s0 p q = (((hndM s0 p q &&& mk1 s5 p q 1) &&& mk1 s5 p q 2) &&& (-1)) &&& mk1 s5 p q 8 := by unfold kepM mk1; simp only [h29]
    rw [← e5, hk] at hfin
    rw [← e5]
    clear h e5 hc hv hM hnv hk h29
    repeat' (first | apply And.intro | (intro q; exact absurd q (by decide)) | intro _)
    all_goals first | (with_reducible exact ip) | (with_reducible exact iq) | (with_reducible exact plc_Ib ip iq) | (simp only [stS_get, hv5, c]; exact hM5 _) | decide | (simp [stS_get, hv5, i0]; done) | (exact Nat.le_of_ble_eq_true rfl) |
      (refine hfin _ _ (by simp [stS_get, hv5]) ?_; simp_all [stS_get, stS_2, mk1]; done)
end
section
theorem dX5_decides_0 : decode cX5_decides 0 = .ok (.aload_n 0, 1) := by decide +kernel
theorem dX5_decides_1 : decode cX5_decides 1 = .ok (.getfield 71, 3) := by decide +kernel
theorem dX5_decides_4 : decode cX5_decides 4 = .ok (.iload_n 1, 1) := by decide +kernel
theorem dX5_decides_5 : decode cX5_decides 5 = .ok (.iload_n 2, 1) := by decide +kernel
theorem dX5_decides_6 : decode cX5_decides 6 = .ok (.ifCond .eq 7, 3) := by decide +kernel
theorem dX5_decides_9 : decode cX5_decides 9 = .ok (.iconst 2, 1) := by decide +kernel
theorem dX5_decides_10 : decode cX5_decides 10 = .ok (.goto 4, 3) := by decide +kernel
theorem dX5_decides_13 : decode cX5_decides 13 = .ok (.iconst 3, 1) := by decide +kernel
theorem dX5_decides_14 : decode cX5_decides 14 = .ok (.iastore, 1) := by decide +kernel
theorem dX5_decides_15 : decode cX5_decides 15 = .ok (.iload_n 2, 1) := by decide +kernel
theorem dX5_decides_16 : decode cX5_decides 16 = .ok (.ifCond .eq 14, 3) := by decide +kernel
theorem dX5_decides_19 : decode cX5_decides 19 = .ok (.aload_n 0, 1) := by decide +kernel
theorem dX5_decides_20 : decode cX5_decides 20 = .ok (.aload_n 0, 1) := by decide +kernel
theorem dX5_decides_21 : decode cX5_decides 21 = .ok (.getfield 65, 3) := by decide +kernel
theorem dX5_decides_24 : decode cX5_decides 24 = .ok (.iload_n 1, 1) := by decide +kernel
theorem dX5_decides_25 : decode cX5_decides 25 = .ok (.iaload, 1) := by decide +kernel
theorem dX5_decides_26 : decode cX5_decides 26 = .ok (.iconst 1, 1) := by decide +kernel
theorem dX5_decides_27 : decode cX5_decides 27 = .ok (.invokevirtual 120, 3) := by decide +kernel
theorem dX5_decides_30 : decode cX5_decides 30 = .ok (.return_, 1) := by decide +kernel
def tab_X5_decides : List (Nat × Sem) := [(0, op_al 0 1), (1, op_gf 7 24 4), (4, op_il 1 5), (5, op_il 2 6), (6, op_if (fun x => x = 0) 13 9), (9, op_ic 2 10), (10, op_go 14), (13, op_ic 3 14), (14, op_iast 15), (15, op_il 2 16), (16, op_if (fun x => x = 0) 30 19), (19, op_al 0 20), (20, op_al 0 21), (21, op_gf 7 22 24), (24, op_il 1 25), (25, op_iald 26), (26, op_ic 1 27), (27, op_callV 7 sp_X5_ends 3 0 30), (30, op_vret)]
set_option maxRecDepth 20000 in
theorem tok_X5_decides : ∀ q ∈ tab_X5_decides, Snd RX5 cX5_decides 3 1 0 none q.1 q.2 := by
  unfold tab_X5_decides
  refine tcons (ok_aload_n dX5_decides_0 rfl rfl) ?_
  refine tcons (ok_getfield (C := RX5) (T := TX5) (n := 33) rfl in_X5 (by decide) w_1017 dX5_decides_1 rfl) ?_
  refine tcons (ok_iload_n dX5_decides_4 rfl rfl) ?_
  refine tcons (ok_iload_n dX5_decides_5 rfl rfl) ?_
  refine tcons (ok_if_eq dX5_decides_6 rfl rfl) ?_
  refine tcons (ok_iconst dX5_decides_9 rfl rfl) ?_
  refine tcons (ok_goto dX5_decides_10 rfl) ?_
  refine tcons (ok_iconst dX5_decides_13 rfl rfl) ?_
  refine tcons (ok_iastore dX5_decides_14 rfl) ?_
  refine tcons (ok_iload_n dX5_decides_15 rfl rfl) ?_
  refine tcons (ok_if_eq dX5_decides_16 rfl rfl) ?_
  refine tcons (ok_aload_n dX5_decides_19 rfl rfl) ?_
  refine tcons (ok_aload_n dX5_decides_20 rfl rfl) ?_
  refine tcons (ok_getfield (C := RX5) (T := TX5) (n := 33) rfl in_X5 (by decide) w_1015 dX5_decides_21 rfl) ?_
  refine tcons (ok_iload_n dX5_decides_24 rfl rfl) ?_
  refine tcons (ok_iaload dX5_decides_25 rfl) ?_
  refine tcons (ok_iconst dX5_decides_26 rfl rfl) ?_
  refine tcons (ok_invokevirtual M_X5_ends (C := RX5) (T := TX5) (nf := 33) rfl w_1136 w_1138 w_21 w_49 w_1139 ⟨rfl, by decide, by decide, by decide +kernel⟩ (by decide) (by decide) dX5_decides_27 rfl) ?_
  refine tcons (ok_vreturn rfl dX5_decides_30) ?_
  exact fun _ h => nomatch h
def sp_X5_decides : Spc := fun av s N _ => match av with
  | [.inl (.inr (20, 0)), .inl (.inl c), .inl (.inl x)] => Ib c 30 ∧ Ib (s.2.1 42 0 (cl c)) 30 ∧ (x = 0 → N none (stS s 44 0 (cl c) 3)) ∧ (¬ x = 0 → N none (stS (stS (stS s 44 0 (cl c) 2) 39 0 (cl (s.2.1 42 0 (cl c))) 1) 40 0 (cl (s.2.1 42 0 (cl c))) (s.2.1 20 0 0)))
  | _ => False
set_option maxRecDepth 20000 in
set_option maxHeartbeats 2000000 in
theorem M_X5_decides : AMet yX5_decides cX5_decides 3 none 1 0 sp_X5_decides := by
  refine AMet.mk (own := RX5) (by decide) rfl [0, 1, 2] rfl tok_X5_decides 200 ?_
  intro av s0 N X h
  unfold sp_X5_decides at h
  split at h
  rotate_left
  · exact h.elim
  refine ⟨fun _ => none, ?_, fun pc P hP => nomatch hP⟩
  repeat' (first | apply And.intro | (intro q; exact absurd q (by decide)) | intro _)
  all_goals first | decide | (exact Nat.le_of_ble_eq_true rfl) | (exact h.1) | (simp_all [stS_get]; done)
def maj3 (a b c : Int32) : Int32 := ((a &&& b) ||| (a &&& c)) ||| (b &&& c)
def likeM (a b : Int32) : Prop := (a = 0 ∧ b = 0) ∨ ¬ eff a &&& eff b = 0
def opnM (s : Sg) (c : Nat) (w : Int32) : Sg := stR (stS (stS (stS s 44 0 c 0) 45 0 c w) 47 0 c 0) 48 (3 * c) 3 (-1)
def nulM (s : Sg) (c : Nat) : Sg := stS (stS (stS s 44 0 c 2) 39 0 (cl (s.2.1 42 0 c)) 1) 40 0 (cl (s.2.1 42 0 c)) (s.2.1 20 0 0)
/-- the sentence's state, with the set d in the instance of number i (from 0) -/
def seM (s : Sg) (c i : Nat) (d : Int32) : Sg := stS (th s 0) 49 0 (3 * c + i) d
def majM (s : Sg) (c : Nat) : Int32 := maj3 (s.2.1 48 0 (3 * c)) (s.2.1 48 0 (3 * c + 1)) (s.2.1 48 0 (3 * c + 2))
def senP (s : Sg) (c : Nat) (N : Nt) : Prop :=
  (s.2.1 45 0 c = 1 → majM s c = 0 → N (some (aI (majM s c))) (stS (seM s c 0 (majM s c)) 44 0 c 3)) ∧
  (s.2.1 45 0 c = 1 → ¬ majM s c = 0 → N (some (aI (majM s c))) (opnM (seM s c 0 (majM s c)) c 2)) ∧
  (s.2.1 45 0 c = 2 → likeM (majM s c) (s.2.1 49 0 (3 * c)) → majM s c = 0 → N (some (aI (majM s c))) (stS (seM s c 1 (majM s c)) 44 0 c 3)) ∧
  (s.2.1 45 0 c = 2 → likeM (majM s c) (s.2.1 49 0 (3 * c)) → ¬ majM s c = 0 → N (some (aI (majM s c))) (nulM (seM s c 1 (majM s c)) c)) ∧
  (s.2.1 45 0 c = 2 → ¬ likeM (majM s c) (s.2.1 49 0 (3 * c)) → N (some (aI (majM s c))) (opnM (seM s c 1 (majM s c)) c 3)) ∧
  (s.2.1 45 0 c = 3 → (¬ majM s c = 0 ∧ (likeM (majM s c) (s.2.1 49 0 (3 * c)) ∨ likeM (majM s c) (s.2.1 49 0 (3 * c + 1)))) → N (some (aI (majM s c))) (nulM (seM s c 2 (majM s c)) c)) ∧
  (s.2.1 45 0 c = 3 → ¬ (¬ majM s c = 0 ∧ (likeM (majM s c) (s.2.1 49 0 (3 * c)) ∨ likeM (majM s c) (s.2.1 49 0 (3 * c + 1)))) → N (some (aI (majM s c))) (stS (seM s c 2 (majM s c)) 44 0 c 3))
theorem dX5_sentence_0 : decode cX5_sentence 0 = .ok (.aload_n 0, 1) := by decide +kernel
theorem dX5_sentence_1 : decode cX5_sentence 1 = .ok (.aload_n 0, 1) := by decide +kernel
theorem dX5_sentence_2 : decode cX5_sentence 2 = .ok (.iload_n 1, 1) := by decide +kernel
theorem dX5_sentence_3 : decode cX5_sentence 3 = .ok (.invokevirtual 179, 3) := by decide +kernel
theorem dX5_sentence_6 : decode cX5_sentence 6 = .ok (.ifCond .ne 7, 3) := by decide +kernel
theorem dX5_sentence_9 : decode cX5_sentence 9 = .ok (.iconst 1, 1) := by decide +kernel
theorem dX5_sentence_10 : decode cX5_sentence 10 = .ok (.goto 28, 3) := by decide +kernel
theorem dX5_sentence_13 : decode cX5_sentence 13 = .ok (.aload_n 0, 1) := by decide +kernel
theorem dX5_sentence_14 : decode cX5_sentence 14 = .ok (.getfield 71, 3) := by decide +kernel
theorem dX5_sentence_17 : decode cX5_sentence 17 = .ok (.iload_n 1, 1) := by decide +kernel
theorem dX5_sentence_18 : decode cX5_sentence 18 = .ok (.iaload, 1) := by decide +kernel
theorem dX5_sentence_19 : decode cX5_sentence 19 = .ok (.iconst 1, 1) := by decide +kernel
theorem dX5_sentence_20 : decode cX5_sentence 20 = .ok (.if_icmp .ne 17, 3) := by decide +kernel
theorem dX5_sentence_23 : decode cX5_sentence 23 = .ok (.aload_n 0, 1) := by decide +kernel
theorem dX5_sentence_24 : decode cX5_sentence 24 = .ok (.getfield 80, 3) := by decide +kernel
theorem dX5_sentence_27 : decode cX5_sentence 27 = .ok (.iload_n 1, 1) := by decide +kernel
theorem dX5_sentence_28 : decode cX5_sentence 28 = .ok (.iaload, 1) := by decide +kernel
theorem dX5_sentence_29 : decode cX5_sentence 29 = .ok (.iconst 3, 1) := by decide +kernel
theorem dX5_sentence_30 : decode cX5_sentence 30 = .ok (.if_icmp .ne 7, 3) := by decide +kernel
theorem dX5_sentence_33 : decode cX5_sentence 33 = .ok (.iconst 0, 1) := by decide +kernel
theorem dX5_sentence_34 : decode cX5_sentence 34 = .ok (.goto 4, 3) := by decide +kernel
theorem dX5_sentence_37 : decode cX5_sentence 37 = .ok (.iconst 2, 1) := by decide +kernel
theorem dX5_sentence_38 : decode cX5_sentence 38 = .ok (.invokevirtual 114, 3) := by decide +kernel
theorem dX5_sentence_41 : decode cX5_sentence 41 = .ok (.ifCond .eq 5, 3) := by decide +kernel
theorem dX5_sentence_44 : decode cX5_sentence 44 = .ok (.iconst 0, 1) := by decide +kernel
theorem dX5_sentence_45 : decode cX5_sentence 45 = .ok (.ireturn, 1) := by decide +kernel
theorem dX5_sentence_46 : decode cX5_sentence 46 = .ok (.iconst 3, 1) := by decide +kernel
theorem dX5_sentence_47 : decode cX5_sentence 47 = .ok (.iload_n 1, 1) := by decide +kernel
theorem dX5_sentence_48 : decode cX5_sentence 48 = .ok (.imul, 1) := by decide +kernel
theorem dX5_sentence_49 : decode cX5_sentence 49 = .ok (.istore_n 2, 1) := by decide +kernel
theorem dX5_sentence_50 : decode cX5_sentence 50 = .ok (.aload_n 0, 1) := by decide +kernel
theorem dX5_sentence_51 : decode cX5_sentence 51 = .ok (.getfield 83, 3) := by decide +kernel
theorem dX5_sentence_54 : decode cX5_sentence 54 = .ok (.iload_n 2, 1) := by decide +kernel
theorem dX5_sentence_55 : decode cX5_sentence 55 = .ok (.iaload, 1) := by decide +kernel
theorem dX5_sentence_56 : decode cX5_sentence 56 = .ok (.aload_n 0, 1) := by decide +kernel
theorem dX5_sentence_57 : decode cX5_sentence 57 = .ok (.getfield 83, 3) := by decide +kernel
theorem dX5_sentence_60 : decode cX5_sentence 60 = .ok (.iload_n 2, 1) := by decide +kernel
theorem dX5_sentence_61 : decode cX5_sentence 61 = .ok (.iconst 1, 1) := by decide +kernel
theorem dX5_sentence_62 : decode cX5_sentence 62 = .ok (.iadd, 1) := by decide +kernel
theorem dX5_sentence_63 : decode cX5_sentence 63 = .ok (.iaload, 1) := by decide +kernel
theorem dX5_sentence_64 : decode cX5_sentence 64 = .ok (.iand, 1) := by decide +kernel
theorem dX5_sentence_65 : decode cX5_sentence 65 = .ok (.aload_n 0, 1) := by decide +kernel
theorem dX5_sentence_66 : decode cX5_sentence 66 = .ok (.getfield 83, 3) := by decide +kernel
theorem dX5_sentence_69 : decode cX5_sentence 69 = .ok (.iload_n 2, 1) := by decide +kernel
theorem dX5_sentence_70 : decode cX5_sentence 70 = .ok (.iaload, 1) := by decide +kernel
theorem dX5_sentence_71 : decode cX5_sentence 71 = .ok (.aload_n 0, 1) := by decide +kernel
theorem dX5_sentence_72 : decode cX5_sentence 72 = .ok (.getfield 83, 3) := by decide +kernel
theorem dX5_sentence_75 : decode cX5_sentence 75 = .ok (.iload_n 2, 1) := by decide +kernel
theorem dX5_sentence_76 : decode cX5_sentence 76 = .ok (.iconst 2, 1) := by decide +kernel
theorem dX5_sentence_77 : decode cX5_sentence 77 = .ok (.iadd, 1) := by decide +kernel
theorem dX5_sentence_78 : decode cX5_sentence 78 = .ok (.iaload, 1) := by decide +kernel
theorem dX5_sentence_79 : decode cX5_sentence 79 = .ok (.iand, 1) := by decide +kernel
theorem dX5_sentence_80 : decode cX5_sentence 80 = .ok (.ior, 1) := by decide +kernel
theorem dX5_sentence_81 : decode cX5_sentence 81 = .ok (.aload_n 0, 1) := by decide +kernel
theorem dX5_sentence_82 : decode cX5_sentence 82 = .ok (.getfield 83, 3) := by decide +kernel
theorem dX5_sentence_85 : decode cX5_sentence 85 = .ok (.iload_n 2, 1) := by decide +kernel
theorem dX5_sentence_86 : decode cX5_sentence 86 = .ok (.iconst 1, 1) := by decide +kernel
theorem dX5_sentence_87 : decode cX5_sentence 87 = .ok (.iadd, 1) := by decide +kernel
theorem dX5_sentence_88 : decode cX5_sentence 88 = .ok (.iaload, 1) := by decide +kernel
theorem dX5_sentence_89 : decode cX5_sentence 89 = .ok (.aload_n 0, 1) := by decide +kernel
theorem dX5_sentence_90 : decode cX5_sentence 90 = .ok (.getfield 83, 3) := by decide +kernel
theorem dX5_sentence_93 : decode cX5_sentence 93 = .ok (.iload_n 2, 1) := by decide +kernel
theorem dX5_sentence_94 : decode cX5_sentence 94 = .ok (.iconst 2, 1) := by decide +kernel
theorem dX5_sentence_95 : decode cX5_sentence 95 = .ok (.iadd, 1) := by decide +kernel
theorem dX5_sentence_96 : decode cX5_sentence 96 = .ok (.iaload, 1) := by decide +kernel
theorem dX5_sentence_97 : decode cX5_sentence 97 = .ok (.iand, 1) := by decide +kernel
theorem dX5_sentence_98 : decode cX5_sentence 98 = .ok (.ior, 1) := by decide +kernel
theorem dX5_sentence_99 : decode cX5_sentence 99 = .ok (.istore_n 3, 1) := by decide +kernel
theorem dX5_sentence_100 : decode cX5_sentence 100 = .ok (.aload_n 0, 1) := by decide +kernel
theorem dX5_sentence_101 : decode cX5_sentence 101 = .ok (.getfield 74, 3) := by decide +kernel
theorem dX5_sentence_104 : decode cX5_sentence 104 = .ok (.iload_n 1, 1) := by decide +kernel
theorem dX5_sentence_105 : decode cX5_sentence 105 = .ok (.iaload, 1) := by decide +kernel
theorem dX5_sentence_106 : decode cX5_sentence 106 = .ok (.istore 4, 2) := by decide +kernel
theorem dX5_sentence_108 : decode cX5_sentence 108 = .ok (.aload_n 0, 1) := by decide +kernel
theorem dX5_sentence_109 : decode cX5_sentence 109 = .ok (.getfield 86, 3) := by decide +kernel
theorem dX5_sentence_112 : decode cX5_sentence 112 = .ok (.iload_n 2, 1) := by decide +kernel
theorem dX5_sentence_113 : decode cX5_sentence 113 = .ok (.iload 4, 2) := by decide +kernel
theorem dX5_sentence_115 : decode cX5_sentence 115 = .ok (.iadd, 1) := by decide +kernel
theorem dX5_sentence_116 : decode cX5_sentence 116 = .ok (.iconst 1, 1) := by decide +kernel
theorem dX5_sentence_117 : decode cX5_sentence 117 = .ok (.isub, 1) := by decide +kernel
theorem dX5_sentence_118 : decode cX5_sentence 118 = .ok (.iload_n 3, 1) := by decide +kernel
theorem dX5_sentence_119 : decode cX5_sentence 119 = .ok (.iastore, 1) := by decide +kernel
theorem dX5_sentence_120 : decode cX5_sentence 120 = .ok (.iload 4, 2) := by decide +kernel
theorem dX5_sentence_122 : decode cX5_sentence 122 = .ok (.iconst 1, 1) := by decide +kernel
theorem dX5_sentence_123 : decode cX5_sentence 123 = .ok (.if_icmp .ne 25, 3) := by decide +kernel
theorem dX5_sentence_126 : decode cX5_sentence 126 = .ok (.iload_n 3, 1) := by decide +kernel
theorem dX5_sentence_127 : decode cX5_sentence 127 = .ok (.ifCond .ne 12, 3) := by decide +kernel
theorem dX5_sentence_130 : decode cX5_sentence 130 = .ok (.aload_n 0, 1) := by decide +kernel
theorem dX5_sentence_131 : decode cX5_sentence 131 = .ok (.iload_n 1, 1) := by decide +kernel
theorem dX5_sentence_132 : decode cX5_sentence 132 = .ok (.iconst 0, 1) := by decide +kernel
theorem dX5_sentence_133 : decode cX5_sentence 133 = .ok (.invokevirtual 191, 3) := by decide +kernel
theorem dX5_sentence_136 : decode cX5_sentence 136 = .ok (.goto 99, 3) := by decide +kernel
theorem dX5_sentence_139 : decode cX5_sentence 139 = .ok (.aload_n 0, 1) := by decide +kernel
theorem dX5_sentence_140 : decode cX5_sentence 140 = .ok (.iload_n 1, 1) := by decide +kernel
theorem dX5_sentence_141 : decode cX5_sentence 141 = .ok (.iconst 2, 1) := by decide +kernel
theorem dX5_sentence_142 : decode cX5_sentence 142 = .ok (.invokevirtual 195, 3) := by decide +kernel
theorem dX5_sentence_145 : decode cX5_sentence 145 = .ok (.goto 90, 3) := by decide +kernel
theorem dX5_sentence_148 : decode cX5_sentence 148 = .ok (.iload 4, 2) := by decide +kernel
theorem dX5_sentence_150 : decode cX5_sentence 150 = .ok (.iconst 2, 1) := by decide +kernel
theorem dX5_sentence_151 : decode cX5_sentence 151 = .ok (.if_icmp .ne 42, 3) := by decide +kernel
theorem dX5_sentence_154 : decode cX5_sentence 154 = .ok (.iload_n 3, 1) := by decide +kernel
theorem dX5_sentence_155 : decode cX5_sentence 155 = .ok (.aload_n 0, 1) := by decide +kernel
theorem dX5_sentence_156 : decode cX5_sentence 156 = .ok (.getfield 86, 3) := by decide +kernel
theorem dX5_sentence_159 : decode cX5_sentence 159 = .ok (.iload_n 2, 1) := by decide +kernel
theorem dX5_sentence_160 : decode cX5_sentence 160 = .ok (.iaload, 1) := by decide +kernel
theorem dX5_sentence_161 : decode cX5_sentence 161 = .ok (.invokestatic 198, 3) := by decide +kernel
theorem dX5_sentence_164 : decode cX5_sentence 164 = .ok (.ifCond .eq 20, 3) := by decide +kernel
theorem dX5_sentence_167 : decode cX5_sentence 167 = .ok (.aload_n 0, 1) := by decide +kernel
theorem dX5_sentence_168 : decode cX5_sentence 168 = .ok (.iload_n 1, 1) := by decide +kernel
theorem dX5_sentence_169 : decode cX5_sentence 169 = .ok (.iload_n 3, 1) := by decide +kernel
theorem dX5_sentence_170 : decode cX5_sentence 170 = .ok (.ifCond .eq 7, 3) := by decide +kernel
theorem dX5_sentence_173 : decode cX5_sentence 173 = .ok (.iconst 1, 1) := by decide +kernel
theorem dX5_sentence_174 : decode cX5_sentence 174 = .ok (.goto 4, 3) := by decide +kernel
theorem dX5_sentence_177 : decode cX5_sentence 177 = .ok (.iconst 0, 1) := by decide +kernel
theorem dX5_sentence_178 : decode cX5_sentence 178 = .ok (.invokevirtual 191, 3) := by decide +kernel
theorem dX5_sentence_181 : decode cX5_sentence 181 = .ok (.goto 54, 3) := by decide +kernel
theorem dX5_sentence_184 : decode cX5_sentence 184 = .ok (.aload_n 0, 1) := by decide +kernel
theorem dX5_sentence_185 : decode cX5_sentence 185 = .ok (.iload_n 1, 1) := by decide +kernel
theorem dX5_sentence_186 : decode cX5_sentence 186 = .ok (.iconst 3, 1) := by decide +kernel
theorem dX5_sentence_187 : decode cX5_sentence 187 = .ok (.invokevirtual 195, 3) := by decide +kernel
theorem dX5_sentence_190 : decode cX5_sentence 190 = .ok (.goto 45, 3) := by decide +kernel
theorem dX5_sentence_193 : decode cX5_sentence 193 = .ok (.aload_n 0, 1) := by decide +kernel
theorem dX5_sentence_194 : decode cX5_sentence 194 = .ok (.iload_n 1, 1) := by decide +kernel
theorem dX5_sentence_195 : decode cX5_sentence 195 = .ok (.iload_n 3, 1) := by decide +kernel
theorem dX5_sentence_196 : decode cX5_sentence 196 = .ok (.ifCond .eq 35, 3) := by decide +kernel
theorem dX5_sentence_199 : decode cX5_sentence 199 = .ok (.iload_n 3, 1) := by decide +kernel
theorem dX5_sentence_200 : decode cX5_sentence 200 = .ok (.aload_n 0, 1) := by decide +kernel
theorem dX5_sentence_201 : decode cX5_sentence 201 = .ok (.getfield 86, 3) := by decide +kernel
theorem dX5_sentence_204 : decode cX5_sentence 204 = .ok (.iload_n 2, 1) := by decide +kernel
theorem dX5_sentence_205 : decode cX5_sentence 205 = .ok (.iaload, 1) := by decide +kernel
theorem dX5_sentence_206 : decode cX5_sentence 206 = .ok (.invokestatic 198, 3) := by decide +kernel
theorem dX5_sentence_209 : decode cX5_sentence 209 = .ok (.ifCond .ne 18, 3) := by decide +kernel
theorem dX5_sentence_212 : decode cX5_sentence 212 = .ok (.iload_n 3, 1) := by decide +kernel
theorem dX5_sentence_213 : decode cX5_sentence 213 = .ok (.aload_n 0, 1) := by decide +kernel
theorem dX5_sentence_214 : decode cX5_sentence 214 = .ok (.getfield 86, 3) := by decide +kernel
theorem dX5_sentence_217 : decode cX5_sentence 217 = .ok (.iload_n 2, 1) := by decide +kernel
theorem dX5_sentence_218 : decode cX5_sentence 218 = .ok (.iconst 1, 1) := by decide +kernel
theorem dX5_sentence_219 : decode cX5_sentence 219 = .ok (.iadd, 1) := by decide +kernel
theorem dX5_sentence_220 : decode cX5_sentence 220 = .ok (.iaload, 1) := by decide +kernel
theorem dX5_sentence_221 : decode cX5_sentence 221 = .ok (.invokestatic 198, 3) := by decide +kernel
theorem dX5_sentence_224 : decode cX5_sentence 224 = .ok (.ifCond .eq 7, 3) := by decide +kernel
theorem dX5_sentence_227 : decode cX5_sentence 227 = .ok (.iconst 1, 1) := by decide +kernel
theorem dX5_sentence_228 : decode cX5_sentence 228 = .ok (.goto 4, 3) := by decide +kernel
theorem dX5_sentence_231 : decode cX5_sentence 231 = .ok (.iconst 0, 1) := by decide +kernel
theorem dX5_sentence_232 : decode cX5_sentence 232 = .ok (.invokevirtual 191, 3) := by decide +kernel
theorem dX5_sentence_235 : decode cX5_sentence 235 = .ok (.iload_n 3, 1) := by decide +kernel
theorem dX5_sentence_236 : decode cX5_sentence 236 = .ok (.ireturn, 1) := by decide +kernel
def tab_X5_sentence : List (Nat × Sem) := [(0, op_al 0 1), (1, op_al 0 2), (2, op_il 1 3), (3, op_callV 7 sp_X5_isCause 2 0 6), (6, op_if (fun x => ¬ x = 0) 13 9), (9, op_ic 1 10), (10, op_go 38), (13, op_al 0 14), (14, op_gf 7 24 17), (17, op_il 1 18), (18, op_iald 19), (19, op_ic 1 20), (20, op_cmp (fun x y => ¬ x = y) 37 23), (23, op_al 0 24), (24, op_gf 7 27 27), (27, op_il 1 28), (28, op_iald 29), (29, op_ic 3 30), (30, op_cmp (fun x y => ¬ x = y) 37 33), (33, op_ic 0 34), (34, op_go 38), (37, op_ic 2 38), (38, op_callV 7 sp_X5_fails 2 0 41), (41, op_if (fun x => x = 0) 46 44), (44, op_ic 0 45), (45, op_iret), (46, op_ic 3 47), (47, op_il 1 48), (48, op_bin (fun x y => x * y) 49), (49, op_is 2 50), (50, op_al 0 51), (51, op_gf 7 28 54), (54, op_il 2 55), (55, op_iald 56), (56, op_al 0 57), (57, op_gf 7 28 60), (60, op_il 2 61), (61, op_ic 1 62), (62, op_bin (fun x y => x + y) 63), (63, op_iald 64), (64, op_bin (fun x y => x &&& y) 65), (65, op_al 0 66), (66, op_gf 7 28 69), (69, op_il 2 70), (70, op_iald 71), (71, op_al 0 72), (72, op_gf 7 28 75), (75, op_il 2 76), (76, op_ic 2 77), (77, op_bin (fun x y => x + y) 78), (78, op_iald 79), (79, op_bin (fun x y => x &&& y) 80), (80, op_bin (fun x y => x ||| y) 81), (81, op_al 0 82), (82, op_gf 7 28 85), (85, op_il 2 86), (86, op_ic 1 87), (87, op_bin (fun x y => x + y) 88), (88, op_iald 89), (89, op_al 0 90), (90, op_gf 7 28 93), (93, op_il 2 94), (94, op_ic 2 95), (95, op_bin (fun x y => x + y) 96), (96, op_iald 97), (97, op_bin (fun x y => x &&& y) 98), (98, op_bin (fun x y => x ||| y) 99), (99, op_is 3 100), (100, op_al 0 101), (101, op_gf 7 25 104), (104, op_il 1 105), (105, op_iald 106), (106, op_is 4 108), (108, op_al 0 109), (109, op_gf 7 29 112), (112, op_il 2 113), (113, op_il 4 115), (115, op_bin (fun x y => x + y) 116), (116, op_ic 1 117), (117, op_bin (fun x y => x - y) 118), (118, op_il 3 119), (119, op_iast 120), (120, op_il 4 122), (122, op_ic 1 123), (123, op_cmp (fun x y => ¬ x = y) 148 126), (126, op_il 3 127), (127, op_if (fun x => ¬ x = 0) 139 130), (130, op_al 0 131), (131, op_il 1 132), (132, op_ic 0 133), (133, op_callV 7 sp_X5_decides 3 0 136), (136, op_go 235), (139, op_al 0 140), (140, op_il 1 141), (141, op_ic 2 142), (142, op_callV 7 sp_X5_opens 3 0 145), (145, op_go 235), (148, op_il 4 150), (150, op_ic 2 151), (151, op_cmp (fun x y => ¬ x = y) 193 154), (154, op_il 3 155), (155, op_al 0 156), (156, op_gf 7 29 159), (159, op_il 2 160), (160, op_iald 161), (161, op_call sp_X5_areLike 2 0 164), (164, op_if (fun x => x = 0) 184 167), (167, op_al 0 168), (168, op_il 1 169), (169, op_il 3 170), (170, op_if (fun x => x = 0) 177 173), (173, op_ic 1 174), (174, op_go 178), (177, op_ic 0 178), (178, op_callV 7 sp_X5_decides 3 0 181), (181, op_go 235), (184, op_al 0 185), (185, op_il 1 186), (186, op_ic 3 187), (187, op_callV 7 sp_X5_opens 3 0 190), (190, op_go 235), (193, op_al 0 194), (194, op_il 1 195), (195, op_il 3 196), (196, op_if (fun x => x = 0) 231 199), (199, op_il 3 200), (200, op_al 0 201), (201, op_gf 7 29 204), (204, op_il 2 205), (205, op_iald 206), (206, op_call sp_X5_areLike 2 0 209), (209, op_if (fun x => ¬ x = 0) 227 212), (212, op_il 3 213), (213, op_al 0 214), (214, op_gf 7 29 217), (217, op_il 2 218), (218, op_ic 1 219), (219, op_bin (fun x y => x + y) 220), (220, op_iald 221), (221, op_call sp_X5_areLike 2 0 224), (224, op_if (fun x => x = 0) 231 227), (227, op_ic 1 228), (228, op_go 232), (231, op_ic 0 232), (232, op_callV 7 sp_X5_decides 3 0 235), (235, op_il 3 236), (236, op_iret)]
set_option maxRecDepth 20000 in
theorem tok_X5_sentence : ∀ q ∈ tab_X5_sentence, Snd RX5 cX5_sentence 5 2 0 (some .int) q.1 q.2 := by
  unfold tab_X5_sentence
  refine tcons (ok_aload_n dX5_sentence_0 rfl rfl) ?_
  refine tcons (ok_aload_n dX5_sentence_1 rfl rfl) ?_
  refine tcons (ok_iload_n dX5_sentence_2 rfl rfl) ?_
  refine tcons (ok_invokevirtual M_X5_isCause (C := RX5) (T := TX5) (nf := 33) rfl w_1236 w_1238 w_34 w_49 w_1239 ⟨rfl, by decide, by decide, by decide +kernel⟩ (by decide) (by decide) dX5_sentence_3 rfl) ?_
  refine tcons (ok_if_ne dX5_sentence_6 rfl rfl) ?_
  refine tcons (ok_iconst dX5_sentence_9 rfl rfl) ?_
  refine tcons (ok_goto dX5_sentence_10 rfl) ?_
  refine tcons (ok_aload_n dX5_sentence_13 rfl rfl) ?_
  refine tcons (ok_getfield (C := RX5) (T := TX5) (n := 33) rfl in_X5 (by decide) w_1017 dX5_sentence_14 rfl) ?_
  refine tcons (ok_iload_n dX5_sentence_17 rfl rfl) ?_
  refine tcons (ok_iaload dX5_sentence_18 rfl) ?_
  refine tcons (ok_iconst dX5_sentence_19 rfl rfl) ?_
  refine tcons (ok_icmp_ne dX5_sentence_20 rfl rfl) ?_
  refine tcons (ok_aload_n dX5_sentence_23 rfl rfl) ?_
  refine tcons (ok_getfield (C := RX5) (T := TX5) (n := 33) rfl in_X5 (by decide) w_1020 dX5_sentence_24 rfl) ?_
  refine tcons (ok_iload_n dX5_sentence_27 rfl rfl) ?_
  refine tcons (ok_iaload dX5_sentence_28 rfl) ?_
  refine tcons (ok_iconst dX5_sentence_29 rfl rfl) ?_
  refine tcons (ok_icmp_ne dX5_sentence_30 rfl rfl) ?_
  refine tcons (ok_iconst dX5_sentence_33 rfl rfl) ?_
  refine tcons (ok_goto dX5_sentence_34 rfl) ?_
  refine tcons (ok_iconst dX5_sentence_37 rfl rfl) ?_
  refine tcons (ok_invokevirtual M_X5_fails (C := RX5) (T := TX5) (nf := 33) rfl w_1112 w_1114 w_20 w_49 w_1115 ⟨rfl, by decide, by decide, by decide +kernel⟩ (by decide) (by decide) dX5_sentence_38 rfl) ?_
  refine tcons (ok_if_eq dX5_sentence_41 rfl rfl) ?_
  refine tcons (ok_iconst dX5_sentence_44 rfl rfl) ?_
  refine tcons (ok_ireturn rfl dX5_sentence_45) ?_
  refine tcons (ok_iconst dX5_sentence_46 rfl rfl) ?_
  refine tcons (ok_iload_n dX5_sentence_47 rfl rfl) ?_
  refine tcons (ok_imul dX5_sentence_48 rfl) ?_
  refine tcons (ok_istore_n dX5_sentence_49 rfl (by decide) rfl) ?_
  refine tcons (ok_aload_n dX5_sentence_50 rfl rfl) ?_
  refine tcons (ok_getfield (C := RX5) (T := TX5) (n := 33) rfl in_X5 (by decide) w_1021 dX5_sentence_51 rfl) ?_
  refine tcons (ok_iload_n dX5_sentence_54 rfl rfl) ?_
  refine tcons (ok_iaload dX5_sentence_55 rfl) ?_
  refine tcons (ok_aload_n dX5_sentence_56 rfl rfl) ?_
  refine tcons (ok_getfield (C := RX5) (T := TX5) (n := 33) rfl in_X5 (by decide) w_1021 dX5_sentence_57 rfl) ?_
  refine tcons (ok_iload_n dX5_sentence_60 rfl rfl) ?_
  refine tcons (ok_iconst dX5_sentence_61 rfl rfl) ?_
  refine tcons (ok_iadd dX5_sentence_62 rfl) ?_
  refine tcons (ok_iaload dX5_sentence_63 rfl) ?_
  refine tcons (ok_iand dX5_sentence_64 rfl) ?_
  refine tcons (ok_aload_n dX5_sentence_65 rfl rfl) ?_
  refine tcons (ok_getfield (C := RX5) (T := TX5) (n := 33) rfl in_X5 (by decide) w_1021 dX5_sentence_66 rfl) ?_
  refine tcons (ok_iload_n dX5_sentence_69 rfl rfl) ?_
  refine tcons (ok_iaload dX5_sentence_70 rfl) ?_
  refine tcons (ok_aload_n dX5_sentence_71 rfl rfl) ?_
  refine tcons (ok_getfield (C := RX5) (T := TX5) (n := 33) rfl in_X5 (by decide) w_1021 dX5_sentence_72 rfl) ?_
  refine tcons (ok_iload_n dX5_sentence_75 rfl rfl) ?_
  refine tcons (ok_iconst dX5_sentence_76 rfl rfl) ?_
  refine tcons (ok_iadd dX5_sentence_77 rfl) ?_
  refine tcons (ok_iaload dX5_sentence_78 rfl) ?_
  refine tcons (ok_iand dX5_sentence_79 rfl) ?_
  refine tcons (ok_ior dX5_sentence_80 rfl) ?_
  refine tcons (ok_aload_n dX5_sentence_81 rfl rfl) ?_
  refine tcons (ok_getfield (C := RX5) (T := TX5) (n := 33) rfl in_X5 (by decide) w_1021 dX5_sentence_82 rfl) ?_
  refine tcons (ok_iload_n dX5_sentence_85 rfl rfl) ?_
  refine tcons (ok_iconst dX5_sentence_86 rfl rfl) ?_
  refine tcons (ok_iadd dX5_sentence_87 rfl) ?_
  refine tcons (ok_iaload dX5_sentence_88 rfl) ?_
  refine tcons (ok_aload_n dX5_sentence_89 rfl rfl) ?_
  refine tcons (ok_getfield (C := RX5) (T := TX5) (n := 33) rfl in_X5 (by decide) w_1021 dX5_sentence_90 rfl) ?_
  refine tcons (ok_iload_n dX5_sentence_93 rfl rfl) ?_
  refine tcons (ok_iconst dX5_sentence_94 rfl rfl) ?_
  refine tcons (ok_iadd dX5_sentence_95 rfl) ?_
  refine tcons (ok_iaload dX5_sentence_96 rfl) ?_
  refine tcons (ok_iand dX5_sentence_97 rfl) ?_
  refine tcons (ok_ior dX5_sentence_98 rfl) ?_
  refine tcons (ok_istore_n dX5_sentence_99 rfl (by decide) rfl) ?_
  refine tcons (ok_aload_n dX5_sentence_100 rfl rfl) ?_
  refine tcons (ok_getfield (C := RX5) (T := TX5) (n := 33) rfl in_X5 (by decide) w_1018 dX5_sentence_101 rfl) ?_
  refine tcons (ok_iload_n dX5_sentence_104 rfl rfl) ?_
  refine tcons (ok_iaload dX5_sentence_105 rfl) ?_
  refine tcons (ok_istore dX5_sentence_106 (by decide) rfl) ?_
  refine tcons (ok_aload_n dX5_sentence_108 rfl rfl) ?_
  refine tcons (ok_getfield (C := RX5) (T := TX5) (n := 33) rfl in_X5 (by decide) w_1022 dX5_sentence_109 rfl) ?_
  refine tcons (ok_iload_n dX5_sentence_112 rfl rfl) ?_
  refine tcons (ok_iload dX5_sentence_113 rfl) ?_
  refine tcons (ok_iadd dX5_sentence_115 rfl) ?_
  refine tcons (ok_iconst dX5_sentence_116 rfl rfl) ?_
  refine tcons (ok_isub dX5_sentence_117 rfl) ?_
  refine tcons (ok_iload_n dX5_sentence_118 rfl rfl) ?_
  refine tcons (ok_iastore dX5_sentence_119 rfl) ?_
  refine tcons (ok_iload dX5_sentence_120 rfl) ?_
  refine tcons (ok_iconst dX5_sentence_122 rfl rfl) ?_
  refine tcons (ok_icmp_ne dX5_sentence_123 rfl rfl) ?_
  refine tcons (ok_iload_n dX5_sentence_126 rfl rfl) ?_
  refine tcons (ok_if_ne dX5_sentence_127 rfl rfl) ?_
  refine tcons (ok_aload_n dX5_sentence_130 rfl rfl) ?_
  refine tcons (ok_iload_n dX5_sentence_131 rfl rfl) ?_
  refine tcons (ok_iconst dX5_sentence_132 rfl rfl) ?_
  refine tcons (ok_invokevirtual M_X5_decides (C := RX5) (T := TX5) (nf := 33) rfl w_1263 w_1265 w_36 w_49 w_1266 ⟨rfl, by decide, by decide, by decide +kernel⟩ (by decide) (by decide) dX5_sentence_133 rfl) ?_
  refine tcons (ok_goto dX5_sentence_136 rfl) ?_
  refine tcons (ok_aload_n dX5_sentence_139 rfl rfl) ?_
  refine tcons (ok_iload_n dX5_sentence_140 rfl rfl) ?_
  refine tcons (ok_iconst dX5_sentence_141 rfl rfl) ?_
  refine tcons (ok_invokevirtual M_X5_opens (C := RX5) (T := TX5) (nf := 33) rfl w_1267 w_1269 w_37 w_49 w_1270 ⟨rfl, by decide, by decide, by decide +kernel⟩ (by decide) (by decide) dX5_sentence_142 rfl) ?_
  refine tcons (ok_goto dX5_sentence_145 rfl) ?_
  refine tcons (ok_iload dX5_sentence_148 rfl) ?_
  refine tcons (ok_iconst dX5_sentence_150 rfl rfl) ?_
  refine tcons (ok_icmp_ne dX5_sentence_151 rfl rfl) ?_
  refine tcons (ok_iload_n dX5_sentence_154 rfl rfl) ?_
  refine tcons (ok_aload_n dX5_sentence_155 rfl rfl) ?_
  refine tcons (ok_getfield (C := RX5) (T := TX5) (n := 33) rfl in_X5 (by decide) w_1022 dX5_sentence_156 rfl) ?_
  refine tcons (ok_iload_n dX5_sentence_159 rfl rfl) ?_
  refine tcons (ok_iaload dX5_sentence_160 rfl) ?_
  refine tcons (ok_invokestatic M_X5_areLike w_1271 w_1272 w_49 w_1273 ⟨by decide, by decide, by decide +kernel⟩ (by decide) (by decide) dX5_sentence_161 rfl) ?_
  refine tcons (ok_if_eq dX5_sentence_164 rfl rfl) ?_
  refine tcons (ok_aload_n dX5_sentence_167 rfl rfl) ?_
  refine tcons (ok_iload_n dX5_sentence_168 rfl rfl) ?_
  refine tcons (ok_iload_n dX5_sentence_169 rfl rfl) ?_
  refine tcons (ok_if_eq dX5_sentence_170 rfl rfl) ?_
  refine tcons (ok_iconst dX5_sentence_173 rfl rfl) ?_
  refine tcons (ok_goto dX5_sentence_174 rfl) ?_
  refine tcons (ok_iconst dX5_sentence_177 rfl rfl) ?_
  refine tcons (ok_invokevirtual M_X5_decides (C := RX5) (T := TX5) (nf := 33) rfl w_1263 w_1265 w_36 w_49 w_1266 ⟨rfl, by decide, by decide, by decide +kernel⟩ (by decide) (by decide) dX5_sentence_178 rfl) ?_
  refine tcons (ok_goto dX5_sentence_181 rfl) ?_
  refine tcons (ok_aload_n dX5_sentence_184 rfl rfl) ?_
  refine tcons (ok_iload_n dX5_sentence_185 rfl rfl) ?_
  refine tcons (ok_iconst dX5_sentence_186 rfl rfl) ?_
  refine tcons (ok_invokevirtual M_X5_opens (C := RX5) (T := TX5) (nf := 33) rfl w_1267 w_1269 w_37 w_49 w_1270 ⟨rfl, by decide, by decide, by decide +kernel⟩ (by decide) (by decide) dX5_sentence_187 rfl) ?_
  refine tcons (ok_goto dX5_sentence_190 rfl) ?_
  refine tcons (ok_aload_n dX5_sentence_193 rfl rfl) ?_
  refine tcons (ok_iload_n dX5_sentence_194 rfl rfl) ?_
  refine tcons (ok_iload_n dX5_sentence_195 rfl rfl) ?_
  refine tcons (ok_if_eq dX5_sentence_196 rfl rfl) ?_
  refine tcons (ok_iload_n dX5_sentence_199 rfl rfl) ?_
  refine tcons (ok_aload_n dX5_sentence_200 rfl rfl) ?_
  refine tcons (ok_getfield (C := RX5) (T := TX5) (n := 33) rfl in_X5 (by decide) w_1022 dX5_sentence_201 rfl) ?_
  refine tcons (ok_iload_n dX5_sentence_204 rfl rfl) ?_
  refine tcons (ok_iaload dX5_sentence_205 rfl) ?_
  refine tcons (ok_invokestatic M_X5_areLike w_1271 w_1272 w_49 w_1273 ⟨by decide, by decide, by decide +kernel⟩ (by decide) (by decide) dX5_sentence_206 rfl) ?_
  refine tcons (ok_if_ne dX5_sentence_209 rfl rfl) ?_
  refine tcons (ok_iload_n dX5_sentence_212 rfl rfl) ?_
  refine tcons (ok_aload_n dX5_sentence_213 rfl rfl) ?_
  refine tcons (ok_getfield (C := RX5) (T := TX5) (n := 33) rfl in_X5 (by decide) w_1022 dX5_sentence_214 rfl) ?_
  refine tcons (ok_iload_n dX5_sentence_217 rfl rfl) ?_
  refine tcons (ok_iconst dX5_sentence_218 rfl rfl) ?_
  refine tcons (ok_iadd dX5_sentence_219 rfl) ?_
  refine tcons (ok_iaload dX5_sentence_220 rfl) ?_
  refine tcons (ok_invokestatic M_X5_areLike w_1271 w_1272 w_49 w_1273 ⟨by decide, by decide, by decide +kernel⟩ (by decide) (by decide) dX5_sentence_221 rfl) ?_
  refine tcons (ok_if_eq dX5_sentence_224 rfl rfl) ?_
  refine tcons (ok_iconst dX5_sentence_227 rfl rfl) ?_
  refine tcons (ok_goto dX5_sentence_228 rfl) ?_
  refine tcons (ok_iconst dX5_sentence_231 rfl rfl) ?_
  refine tcons (ok_invokevirtual M_X5_decides (C := RX5) (T := TX5) (nf := 33) rfl w_1263 w_1265 w_36 w_49 w_1266 ⟨rfl, by decide, by decide, by decide +kernel⟩ (by decide) (by decide) dX5_sentence_232 rfl) ?_
  refine tcons (ok_iload_n dX5_sentence_235 rfl rfl) ?_
  refine tcons (ok_ireturn rfl dX5_sentence_236) ?_
  exact fun _ h => nomatch h
def sp_X5_sentence : Spc := fun av s N _ => match av with
  | [.inl (.inr (20, 0)), .inl (.inl c)] => MI s ∧ WI s ∧ f2 (isC s c) (s.2.1 44 0 (cl c) = 1 ∧ s.2.1 47 0 (cl c) = 3) (some (aI 0)) N s ((s.2.1 45 0 (cl c) = 1 ∨ s.2.1 45 0 (cl c) = 2 ∨ s.2.1 45 0 (cl c) = 3) ∧ senP s (cl c) N)
  | _ => False
theorem i31 (n : Nat) : (3 : Int32) * nI n + 1 = nI (3 * n + 1) := row3k n 1
theorem i32 (n : Nat) : (3 : Int32) * nI n + 2 = nI (3 * n + 2) := row3k n 2
set_option maxRecDepth 20000 in
set_option maxHeartbeats 2000000 in
theorem M_X5_sentence : AMet yX5_sentence cX5_sentence 5 (some .int) 2 0 sp_X5_sentence := by
  refine AMet.mc (own := RX5) (by decide) rfl [0, 1, 2, 3, 4] rfl tok_X5_sentence 200 ?_
  intro av s0 N X h
  unfold sp_X5_sentence at h
  split at h
  rotate_left
  · exact h.elim
  obtain ⟨hM, hW, h1, h2, h3⟩ := h
  rename_i c
  refine ⟨[(46, fun m u L st s => u = 0 ∧ m = 1 ∧ L = [(0, .inr (20, 0)), (1, .inl c)] ∧ st = [] ∧ s = th s0 0 ∧ isC s0 c ∧ s0.2.1 44 0 (cl c) = 1 ∧ s0.2.1 47 0 (cl c) = 3),
     (120, fun m u L st s => ∃ i : Nat, i < 3 ∧ u = 0 ∧ m = 0 ∧ L = [(0, .inr (20, 0)), (1, .inl c), (2, .inl (3 * c)), (3, .inl (majM s0 (cl c))), (4, .inl (nI (i + 1)))] ∧ st = [] ∧ s = seM s0 (cl c) i (majM s0 (cl c)) ∧ s0.2.1 45 0 (cl c) = nI (i + 1) ∧ isC s0 c ∧ s0.2.1 44 0 (cl c) = 1 ∧ s0.2.1 47 0 (cl c) = 3)], ?_, ac ?_ (ac ?_ an)⟩
  · repeat' (first | apply And.intro | (intro q; exact absurd q (by decide)) | intro _)
    all_goals first | decide | (exact Nat.le_of_ble_eq_true rfl) | (exact Ib_of (MI_c hM (by assumption))) | (exact ⟨1, 2, trivial, rfl, rfl, rfl, rfl, rfl, by assumption, by simp_all, by simp_all⟩) | (simp_all [f2]; done)
  · rintro m u L st s ⟨rfl, rfl, rfl, rfl, rfl, hC, hh, hvd⟩
    obtain ⟨n, hn, rfl⟩ := MI_cn hM hC
    have hw := (h3 hC ⟨hh, hvd⟩).1
    have c0 : (nI n).toNatClampNeg = n := nI_clamp (by omega)
    have q0 : (3 * nI n).toNatClampNeg = 3 * n := by rw [row3]; exact nI_clamp (by omega)
    have q1 : (3 * nI n + 1).toNatClampNeg = 3 * n + 1 := by rw [i31]; exact nI_clamp (by omega)
    have q2 : (3 * nI n + 2).toNatClampNeg = 3 * n + 2 := by rw [i32]; exact nI_clamp (by omega)
    have i0 : Ib (nI n) 30 := nIb hn (by decide)
    have r0 : Ib (3 * nI n) 90 := by rw [row3]; exact nIb (by omega) (by decide)
    have r1 : Ib (3 * nI n + 1) 90 := by rw [i31]; exact nIb (by omega) (by decide)
    have r2 : Ib (3 * nI n + 2) 90 := by rw [i32]; exact nIb (by omega) (by decide)
    obtain ⟨i, hi, hwi⟩ : ∃ i : Nat, i < 3 ∧ s0.2.1 45 0 (cl (nI n)) = nI (i + 1) := by
      rcases hw with q | q | q
      · exact ⟨0, by decide, q⟩
      · exact ⟨1, by decide, q⟩
      · exact ⟨2, by decide, q⟩
    have hw2 : (th s0 0).2.1 (20 + 25) 0 (nI n).toNatClampNeg = nI (i + 1) := by rw [stS_get]; exact hwi
    have hw3 : (th s0 0).2.1 (20 + 25) 0 n = nI (i + 1) := by rw [← c0]; exact hw2
    have ri : Ib (3 * nI n + nI (i + 1) - 1) 90 := by rw [row3k, ← Nat.add_assoc, nIm1]; exact nIb (by omega) (by decide)
    have qi : (3 * nI n + nI (i + 1) - 1).toNatClampNeg = 3 * n + i := by rw [row3k, ← Nat.add_assoc, nIm1]; exact nI_clamp (by omega)
    have hmj : ((fun x y => x ||| y) ((fun x y => x ||| y) ((fun x y => x &&& y) ((th s0 0).2.1 (20 + 28) 0 ((fun x y => x * y) 3 (nI n)).toNatClampNeg) ((th s0 0).2.1 (20 + 28) 0 ((fun x y => x + y) ((fun x y => x * y) 3 (nI n)) 1).toNatClampNeg)) ((fun x y => x &&& y) ((th s0 0).2.1 (20 + 28) 0 ((fun x y => x * y) 3 (nI n)).toNatClampNeg) ((th s0 0).2.1 (20 + 28) 0 ((fun x y => x + y) ((fun x y => x * y) 3 (nI n)) 2).toNatClampNeg))) ((fun x y => x &&& y) ((th s0 0).2.1 (20 + 28) 0 ((fun x y => x + y) ((fun x y => x * y) 3 (nI n)) 1).toNatClampNeg) ((th s0 0).2.1 (20 + 28) 0 ((fun x y => x + y) ((fun x y => x * y) 3 (nI n)) 2).toNatClampNeg)) : Int32) = majM s0 (cl (nI n)) := by
      simp [majM, maj3, stS_get, q0, q1, q2, c0]
    clear h1 h2 h3
    repeat' (first | apply And.intro | (intro q; exact absurd q (by decide)) | intro _)
    all_goals first | (with_reducible exact i0) | (with_reducible exact r0) | (with_reducible exact r1) | (with_reducible exact r2) | decide | (exact Nat.le_of_ble_eq_true rfl) | (rw [hw2]; exact ri) |
      (refine ⟨0, 5, Nat.one_pos, i, hi, rfl, rfl, ?_, rfl, ?_, hwi, hC, hh, hvd⟩; (simp only [hmj, hw2]; rfl); (simp only [hmj, hw2, qi, seM, c0, hw3]))
  · rintro m u L st s ⟨i, hi, rfl, rfl, rfl, rfl, rfl, hwi, hC, hh, hvd⟩
    obtain ⟨n, hn, rfl⟩ := MI_cn hM hC
    have h4 := (h3 hC ⟨hh, hvd⟩).2
    have hWc := WI_c hM hW hC
    have c0 : cl (nI n) = n := nI_clamp (by omega)
    rw [c0] at h4 hwi hWc ⊢
    have q0 : (3 * nI n).toNatClampNeg = 3 * n := by rw [row3]; exact nI_clamp (by omega)
    have q1 : (3 * nI n + 1).toNatClampNeg = 3 * n + 1 := by rw [i31]; exact nI_clamp (by omega)
    have i0 : Ib (nI n) 30 := nIb hn (by decide)
    have r0 : Ib (3 * nI n) 90 := by rw [row3]; exact nIb (by omega) (by decide)
    have r1 : Ib (3 * nI n + 1) 90 := by rw [i31]; exact nIb (by omega) (by decide)
    obtain ⟨d, hd⟩ : ∃ z, z = majM s0 n := ⟨_, rfl⟩
    obtain ⟨s1, e1⟩ : ∃ z, z = seM s0 n i d := ⟨_, rfl⟩
    unfold senP at h4
    rw [← hd] at h4 ⊢
    rw [← e1]
    have g42 : s1.2.1 42 0 n = s0.2.1 42 0 n := by rw [e1]; simp [seM, stS_get]
    have g49 : 0 < i → s1.2.1 49 0 (3 * n) = s0.2.1 49 0 (3 * n) := fun q => by rw [e1]; simp [seM, stS_get]; omega
    have g49b : 1 < i → s1.2.1 49 0 (3 * n + 1) = s0.2.1 49 0 (3 * n + 1) := fun q => by rw [e1]; simp [seM, stS_get]; omega
    have iW : Ib (s1.2.1 42 0 n) 30 := by rw [g42]; exact hWc
    obtain ⟨a1, a2, a3, a4, a5, a6, a7⟩ := h4
    rcases (show i = 0 ∨ i = 1 ∨ i = 2 by omega) with rfl | rfl | rfl
    · replace a1 := a1 hwi
      replace a2 := a2 hwi
      rw [← e1] at a1 a2
      clear a3 a4 a5 a6 a7 e1 hd h1 h2 h3 hwi hh hvd g49 g49b
      repeat' (first | apply And.intro | (intro q; exact absurd q (by decide)) | intro _)
      all_goals first | (with_reducible exact i0) | decide | (exact Nat.le_of_ble_eq_true rfl) | (simp only [c0]; exact iW) | (simp_all [opnM]; done)
    · replace a3 := a3 hwi
      replace a4 := a4 hwi
      replace a5 := a5 hwi
      rw [← e1] at a3 a4 a5
      have g49 := g49 (by decide)
      rw [← g49] at a3 a4 a5
      clear a1 a2 a6 a7 e1 hd h1 h2 h3 hwi hh hvd g49b
      repeat' (first | apply And.intro | (intro q; exact absurd q (by decide)) | intro _)
      all_goals first | (with_reducible exact i0) | (with_reducible exact r0) | decide | (exact Nat.le_of_ble_eq_true rfl) | (simp only [c0]; exact iW) | (simp_all [likeM, opnM, nulM]; done)
    · replace a6 := a6 hwi
      replace a7 := a7 hwi
      rw [← e1] at a6 a7
      have g49 := g49 (by decide)
      have g49b := g49b (by decide)
      rw [← g49, ← g49b] at a6 a7
      clear a1 a2 a3 a4 a5 e1 hd h1 h2 h3 hwi hh hvd
      repeat' (first | apply And.intro | (intro q; exact absurd q (by decide)) | intro _)
      all_goals first | (with_reducible exact i0) | (with_reducible exact r0) | (with_reducible exact r1) | decide | (exact Nat.le_of_ble_eq_true rfl) | (simp only [c0]; exact iW) | (simp_all [likeM, nulM]; done)
end
section
def op_cret : Sem := fun U _ N _ u _ st s => match st with
  | [.inl (.inl v)] => u ≤ U ∧ (∃ q, q < 65536 ∧ v = nI q) ∧ N (some (aI v)) s
  | _ => False
theorem ok_creturn {own : String} {cc : ByteArray} {nL d U : Nat} {ret : Option FieldType} {pc : Nat} (hr : ret = some .char) (hd : decode cc pc = .ok (.ireturn, 1)) : Snd own cc nL d U ret pc op_cret := by
  intro g p l e R s m args below meth c w0 hC ad K N X Q hQ k hk u L st s0 h
  intro H locs ls hP hS hl
  unfold op_cret at h
  split at h
  · rename_i v
    refine W.mono hQ (W.widen (Nat.mul_le_mul_right _ h.1) (Nat.mul_le_mul_right _ h.1) (vx_ret ?_))
    refine W.zret (ty := .char) hC.1.1 hC.1.2.1 (by rw [hC.2.2.2.1, hr]) ?_ (aQ_ret (v := some (aI v)) hP hS h.2.2) hS.2.2 hd hC.2.2.1
    obtain ⟨q, h1, rfl⟩ := h.2.1
    exact (pk_charN h1).1
  · exact h.elim
/-- the letters written so far -/
def tw (s : Sg) (l : List Int32) : Sg := (s.1, fun a b c => if a = 51 ∧ b = 0 ∧ c < l.length then l.getD c 0 else if a = 20 ∧ b = 0 ∧ c = 30 then nI l.length else s.2.1 a b c, s.2.2)
theorem tw_get {s : Sg} {l : List Int32} {a b c : Nat} : (tw s l).2.1 a b c = if a = 51 ∧ b = 0 ∧ c < l.length then l.getD c 0 else if a = 20 ∧ b = 0 ∧ c = 30 then nI l.length else s.2.1 a b c := rfl
theorem tw_0 {s : Sg} : stS s 20 0 30 0 = tw s [] := by
  refine Sg_ext rfl (fun a b c => ?_) rfl
  rw [stS_get, tw_get]
  by_cases h : a = 20 ∧ b = 0 ∧ c = 30
  · rw [if_pos h, if_neg (by simp), if_pos h]; rfl
  · rw [if_neg h, if_neg (by simp), if_neg h]
theorem tw_put {s : Sg} {l : List Int32} {x : Int32} : stS (stS (tw s l) 51 0 l.length x) 20 0 30 (nI l.length + 1) = tw s (l ++ [x]) := by
  refine Sg_ext rfl (fun a b c => ?_) rfl
  simp only [stS_get, tw_get, List.length_append, List.length_singleton, nIs]
  by_cases h : a = 20 ∧ b = 0 ∧ c = 30
  · obtain ⟨rfl, rfl, rfl⟩ := h
    simp
  · rw [if_neg h, if_neg h, if_neg h]
    by_cases h1 : a = 51 ∧ b = 0
    · obtain ⟨rfl, rfl⟩ := h1
      by_cases h2 : c = l.length
      · subst h2
        simp [List.getD_eq_getElem?_getD]
      · by_cases h3 : c < l.length
        · rw [if_neg (fun q => h2 q.2.2), if_pos ⟨rfl, rfl, h3⟩, if_pos ⟨rfl, rfl, by omega⟩]
          simp [List.getD_eq_getElem?_getD, List.getElem?_append_left h3]
        · rw [if_neg (fun q => h2 q.2.2), if_neg (fun q => h3 q.2.2), if_neg (by omega)]
    · rw [if_neg (fun q => h1 ⟨q.1, q.2.1⟩), if_neg (fun q => h1 ⟨q.1, q.2.1⟩), if_neg (fun q => h1 ⟨q.1, q.2.1⟩)]
def dig (k : Nat) : List Int32 := if 9 < k then [nI (48 + k / 10), nI (48 + k % 10)] else [nI (48 + k % 10)]
theorem dig_len (k : Nat) : (dig k).length ≤ 2 := by unfold dig; split <;> simp
theorem dX5_puts_0 : decode cX5_puts 0 = .ok (.aload_n 0, 1) := by decide +kernel
theorem dX5_puts_1 : decode cX5_puts 1 = .ok (.getfield 89, 3) := by decide +kernel
theorem dX5_puts_4 : decode cX5_puts 4 = .ok (.aload_n 0, 1) := by decide +kernel
theorem dX5_puts_5 : decode cX5_puts 5 = .ok (.getfield 205, 3) := by decide +kernel
theorem dX5_puts_8 : decode cX5_puts 8 = .ok (.iload_n 1, 1) := by decide +kernel
theorem dX5_puts_9 : decode cX5_puts 9 = .ok (.iastore, 1) := by decide +kernel
theorem dX5_puts_10 : decode cX5_puts 10 = .ok (.aload_n 0, 1) := by decide +kernel
theorem dX5_puts_11 : decode cX5_puts 11 = .ok (.dup, 1) := by decide +kernel
theorem dX5_puts_12 : decode cX5_puts 12 = .ok (.getfield 205, 3) := by decide +kernel
theorem dX5_puts_15 : decode cX5_puts 15 = .ok (.iconst 1, 1) := by decide +kernel
theorem dX5_puts_16 : decode cX5_puts 16 = .ok (.iadd, 1) := by decide +kernel
theorem dX5_puts_17 : decode cX5_puts 17 = .ok (.putfield 205, 3) := by decide +kernel
theorem dX5_puts_20 : decode cX5_puts 20 = .ok (.return_, 1) := by decide +kernel
def tab_X5_puts : List (Nat × Sem) := [(0, op_al 0 1), (1, op_gf 7 31 4), (4, op_al 0 5), (5, op_gf 7 30 8), (8, op_il 1 9), (9, op_iast 10), (10, op_al 0 11), (11, op_dup 12), (12, op_gf 7 30 15), (15, op_ic 1 16), (16, op_bin (fun x y => x + y) 17), (17, op_pf 7 30 20), (20, op_vret)]
set_option maxRecDepth 20000 in
theorem tok_X5_puts : ∀ q ∈ tab_X5_puts, Snd RX5 cX5_puts 2 0 0 none q.1 q.2 := by
  unfold tab_X5_puts
  refine tcons (ok_aload_n dX5_puts_0 rfl rfl) ?_
  refine tcons (ok_getfield (C := RX5) (T := TX5) (n := 33) rfl in_X5 (by decide) w_1024 dX5_puts_1 rfl) ?_
  refine tcons (ok_aload_n dX5_puts_4 rfl rfl) ?_
  refine tcons (ok_getfield (C := RX5) (T := TX5) (n := 33) rfl in_X5 (by decide) w_1023 dX5_puts_5 rfl) ?_
  refine tcons (ok_iload_n dX5_puts_8 rfl rfl) ?_
  refine tcons (ok_iastore dX5_puts_9 rfl) ?_
  refine tcons (ok_aload_n dX5_puts_10 rfl rfl) ?_
  refine tcons (ok_dup dX5_puts_11 rfl) ?_
  refine tcons (ok_getfield (C := RX5) (T := TX5) (n := 33) rfl in_X5 (by decide) w_1023 dX5_puts_12 rfl) ?_
  refine tcons (ok_iconst dX5_puts_15 rfl rfl) ?_
  refine tcons (ok_iadd dX5_puts_16 rfl) ?_
  refine tcons (ok_putfield (C := RX5) (T := TX5) (n := 33) tyX5 .int rfl in_X5 tyX5_ok nmX5 (by decide) rfl w_1023 rfl (Or.inl rfl) dX5_puts_17 rfl) ?_
  refine tcons (ok_vreturn rfl dX5_puts_20) ?_
  exact fun _ h => nomatch h
def sp_X5_puts : Spc := fun av s N _ => match av with
  | [.inl (.inr (20, 0)), .inl (.inl x)] => ∃ s1 l, s = tw s1 l ∧ l.length < 30 ∧ N none (tw s1 (l ++ [x]))
  | _ => False
set_option maxRecDepth 20000 in
set_option maxHeartbeats 2000000 in
theorem M_X5_puts : AMet yX5_puts cX5_puts 2 none 0 0 sp_X5_puts := by
  refine AMet.mc (own := RX5) (by decide) rfl [0, 1] rfl tok_X5_puts 200 ?_
  intro av s0 N X h
  unfold sp_X5_puts at h
  split at h
  rotate_left
  · exact h.elim
  obtain ⟨s1, l, rfl, hl, h⟩ := h
  have e1 : (tw s1 l).2.1 20 0 30 = nI l.length := by rw [tw_get]; simp
  have i0 : Ib ((tw s1 l).2.1 20 0 30) 30 := by rw [e1]; exact nIb hl (by decide)
  rename_i x
  have e2 : stS (stS (tw s1 l) 51 0 ((tw s1 l).2.1 20 0 30).toNatClampNeg x) 20 0 30 ((tw s1 l).2.1 20 0 30 + 1) = tw s1 (l ++ [x]) := by rw [e1, nI_clamp (by omega)]; exact tw_put
  rw [← e2] at h
  refine ⟨[], ?_, an⟩
  repeat' (first | apply And.intro | (intro q; exact absurd q (by decide)) | intro _)
  all_goals first | decide | (exact i0) | (exact Nat.le_of_ble_eq_true rfl) | (exact h)
theorem dX5_putsNumber_0 : decode cX5_putsNumber 0 = .ok (.iload_n 1, 1) := by decide +kernel
theorem dX5_putsNumber_1 : decode cX5_putsNumber 1 = .ok (.bipush 9, 2) := by decide +kernel
theorem dX5_putsNumber_3 : decode cX5_putsNumber 3 = .ok (.if_icmp .le 14, 3) := by decide +kernel
theorem dX5_putsNumber_6 : decode cX5_putsNumber 6 = .ok (.aload_n 0, 1) := by decide +kernel
theorem dX5_putsNumber_7 : decode cX5_putsNumber 7 = .ok (.bipush 48, 2) := by decide +kernel
theorem dX5_putsNumber_9 : decode cX5_putsNumber 9 = .ok (.iload_n 1, 1) := by decide +kernel
theorem dX5_putsNumber_10 : decode cX5_putsNumber 10 = .ok (.bipush 10, 2) := by decide +kernel
theorem dX5_putsNumber_12 : decode cX5_putsNumber 12 = .ok (.idiv, 1) := by decide +kernel
theorem dX5_putsNumber_13 : decode cX5_putsNumber 13 = .ok (.iadd, 1) := by decide +kernel
theorem dX5_putsNumber_14 : decode cX5_putsNumber 14 = .ok (.invokevirtual 208, 3) := by decide +kernel
theorem dX5_putsNumber_17 : decode cX5_putsNumber 17 = .ok (.aload_n 0, 1) := by decide +kernel
theorem dX5_putsNumber_18 : decode cX5_putsNumber 18 = .ok (.bipush 48, 2) := by decide +kernel
theorem dX5_putsNumber_20 : decode cX5_putsNumber 20 = .ok (.iload_n 1, 1) := by decide +kernel
theorem dX5_putsNumber_21 : decode cX5_putsNumber 21 = .ok (.bipush 10, 2) := by decide +kernel
theorem dX5_putsNumber_23 : decode cX5_putsNumber 23 = .ok (.irem, 1) := by decide +kernel
theorem dX5_putsNumber_24 : decode cX5_putsNumber 24 = .ok (.iadd, 1) := by decide +kernel
theorem dX5_putsNumber_25 : decode cX5_putsNumber 25 = .ok (.invokevirtual 208, 3) := by decide +kernel
theorem dX5_putsNumber_28 : decode cX5_putsNumber 28 = .ok (.return_, 1) := by decide +kernel
def tab_X5_putsNumber : List (Nat × Sem) := [(0, op_il 1 1), (1, op_ic 9 3), (3, op_cmp (fun x y => x ≤ y) 17 6), (6, op_al 0 7), (7, op_ic 48 9), (9, op_il 1 10), (10, op_ic 10 12), (12, op_dv (fun x y => x / y) 13), (13, op_bin (fun x y => x + y) 14), (14, op_callV 7 sp_X5_puts 2 0 17), (17, op_al 0 18), (18, op_ic 48 20), (20, op_il 1 21), (21, op_ic 10 23), (23, op_dv (fun x y => x - x / y * y) 24), (24, op_bin (fun x y => x + y) 25), (25, op_callV 7 sp_X5_puts 2 0 28), (28, op_vret)]
set_option maxRecDepth 20000 in
theorem tok_X5_putsNumber : ∀ q ∈ tab_X5_putsNumber, Snd RX5 cX5_putsNumber 2 1 0 none q.1 q.2 := by
  unfold tab_X5_putsNumber
  refine tcons (ok_iload_n dX5_putsNumber_0 rfl rfl) ?_
  refine tcons (ok_bipush dX5_putsNumber_1 rfl rfl) ?_
  refine tcons (ok_icmp_le dX5_putsNumber_3 rfl rfl) ?_
  refine tcons (ok_aload_n dX5_putsNumber_6 rfl rfl) ?_
  refine tcons (ok_bipush dX5_putsNumber_7 rfl rfl) ?_
  refine tcons (ok_iload_n dX5_putsNumber_9 rfl rfl) ?_
  refine tcons (ok_bipush dX5_putsNumber_10 rfl rfl) ?_
  refine tcons (ok_idiv dX5_putsNumber_12 rfl) ?_
  refine tcons (ok_iadd dX5_putsNumber_13 rfl) ?_
  refine tcons (ok_invokevirtual M_X5_puts (C := RX5) (T := TX5) (nf := 33) rfl w_1326 w_1328 w_40 w_49 w_1329 ⟨rfl, by decide, by decide, by decide +kernel⟩ (by decide) (by decide) dX5_putsNumber_14 rfl) ?_
  refine tcons (ok_aload_n dX5_putsNumber_17 rfl rfl) ?_
  refine tcons (ok_bipush dX5_putsNumber_18 rfl rfl) ?_
  refine tcons (ok_iload_n dX5_putsNumber_20 rfl rfl) ?_
  refine tcons (ok_bipush dX5_putsNumber_21 rfl rfl) ?_
  refine tcons (ok_irem dX5_putsNumber_23 rfl) ?_
  refine tcons (ok_iadd dX5_putsNumber_24 rfl) ?_
  refine tcons (ok_invokevirtual M_X5_puts (C := RX5) (T := TX5) (nf := 33) rfl w_1326 w_1328 w_40 w_49 w_1329 ⟨rfl, by decide, by decide, by decide +kernel⟩ (by decide) (by decide) dX5_putsNumber_25 rfl) ?_
  refine tcons (ok_vreturn rfl dX5_putsNumber_28) ?_
  exact fun _ h => nomatch h
def sp_X5_putsNumber : Spc := fun av s N _ => match av with
  | [.inl (.inr (20, 0)), .inl (.inl x)] => ∃ s1 l k, s = tw s1 l ∧ x = nI k ∧ k < 100 ∧ l.length < 29 ∧ N none (tw s1 (l ++ dig k))
  | _ => False
set_option maxRecDepth 20000 in
set_option maxHeartbeats 2000000 in
theorem M_X5_putsNumber : AMet yX5_putsNumber cX5_putsNumber 2 none 1 0 sp_X5_putsNumber := by
  refine AMet.mc (own := RX5) (by decide) rfl [0, 1] rfl tok_X5_putsNumber 200 ?_
  intro av s0 N X h
  unfold sp_X5_putsNumber at h
  split at h
  rotate_left
  · exact h.elim
  obtain ⟨s1, l, k, rfl, rfl, hk, hl, h⟩ := h
  have e1 : (48 : Int32) + nI k / 10 = nI (48 + k / 10) := by rw [show (10 : Int32) = nI 10 from rfl, pk_div (by omega) (by decide) (by decide), show (48 : Int32) = nI 48 from rfl, nI_add]
  have e2 : (48 : Int32) + (nI k - nI k / 10 * 10) = nI (48 + k % 10) := by rw [show (10 : Int32) = nI 10 from rfl, pk_rem (by omega) (by decide) (by decide), show (48 : Int32) = nI 48 from rfl, nI_add]
  have e3 : nI k ≤ 9 ↔ k ≤ 9 := nIge (b := k) (a := 9) (N := 100) (by omega) (by omega) (by decide)
  refine ⟨[], ?_, an⟩
  by_cases hk9 : 9 < k
  · have hd : dig k = [nI (48 + k / 10), nI (48 + k % 10)] := if_pos hk9
    rw [hd] at h
    repeat' (first | apply And.intro | (intro q; exact absurd q (by decide)) | (intro q; exact absurd (e3.mp q) (by omega)) | (refine Exists.intro s1 (Exists.intro l (And.intro rfl (And.intro (by omega) ?_)))) | (refine Exists.intro s1 (Exists.intro (l ++ [48 + nI k / 10]) (And.intro rfl (And.intro (by simp; omega) ?_)))) | intro _)
    all_goals first | decide | (exact Nat.le_of_ble_eq_true rfl) | skip
    all_goals (show N none (tw s1 (l ++ [48 + nI k / 10] ++ [48 + (nI k - nI k / 10 * 10)])); rw [e1, e2, List.append_assoc]; exact h)
  · have hd : dig k = [nI (48 + k % 10)] := if_neg hk9
    rw [hd] at h
    repeat' (first | apply And.intro | (intro q; exact absurd q (by decide)) | (intro q; exact absurd (e3.mpr (by omega)) q) | (refine Exists.intro s1 (Exists.intro l (And.intro rfl (And.intro (by omega) ?_)))) | intro _)
    all_goals first | decide | (exact Nat.le_of_ble_eq_true rfl) | skip
    all_goals (show N none (tw s1 (l ++ [48 + (nI k - nI k / 10 * 10)])); rw [e2]; exact h)
end
section
def prtM (s : Sg) (p : Int32) (x : Nat) : Int32 := if s.2.1 33 0 x = p then s.2.1 34 0 x else s.2.1 33 0 x
def txB : List Int32 := [98, 111, 117, 110, 100, 32, 98, 121, 32]
def txT : List Int32 := [32, 116, 111, 32]
/-- the text of a state -/
def txtM (s : Sg) (p x : Int32) : List Int32 := if x = -1 then [102, 114, 101, 101] else txB ++ dig (cl x) ++ txT ++ dig (cl (prtM s p (cl x)))
theorem tw_MI {s : Sg} {l : List Int32} : MI (tw s l) = MI s := by simp [MI, MI0, tw_get]
theorem tw_bb {s : Sg} {l : List Int32} {p t : Int32} : bbQ (tw s l) p t = bbQ s p t := by funext j; simp [bbQ, mof, mbd, tw_get]
theorem tw_nv {s : Sg} {l : List Int32} : nvm (tw s l) = nvm s := by simp [nvm, tw_get]
theorem dX5_writes_0 : decode cX5_writes 0 = .ok (.aload_n 0, 1) := by decide +kernel
theorem dX5_writes_1 : decode cX5_writes 1 = .ok (.iconst 0, 1) := by decide +kernel
theorem dX5_writes_2 : decode cX5_writes 2 = .ok (.putfield 205, 3) := by decide +kernel
theorem dX5_writes_5 : decode cX5_writes 5 = .ok (.aload_n 0, 1) := by decide +kernel
theorem dX5_writes_6 : decode cX5_writes 6 = .ok (.iload_n 1, 1) := by decide +kernel
theorem dX5_writes_7 : decode cX5_writes 7 = .ok (.iload_n 2, 1) := by decide +kernel
theorem dX5_writes_8 : decode cX5_writes 8 = .ok (.invokevirtual 202, 3) := by decide +kernel
theorem dX5_writes_11 : decode cX5_writes 11 = .ok (.istore_n 3, 1) := by decide +kernel
theorem dX5_writes_12 : decode cX5_writes 12 = .ok (.iload_n 3, 1) := by decide +kernel
theorem dX5_writes_13 : decode cX5_writes 13 = .ok (.iconst (-1), 1) := by decide +kernel
theorem dX5_writes_14 : decode cX5_writes 14 = .ok (.if_icmp .ne 28, 3) := by decide +kernel
theorem dX5_writes_17 : decode cX5_writes 17 = .ok (.aload_n 0, 1) := by decide +kernel
theorem dX5_writes_18 : decode cX5_writes 18 = .ok (.bipush 102, 2) := by decide +kernel
theorem dX5_writes_20 : decode cX5_writes 20 = .ok (.invokevirtual 208, 3) := by decide +kernel
theorem dX5_writes_23 : decode cX5_writes 23 = .ok (.aload_n 0, 1) := by decide +kernel
theorem dX5_writes_24 : decode cX5_writes 24 = .ok (.bipush 114, 2) := by decide +kernel
theorem dX5_writes_26 : decode cX5_writes 26 = .ok (.invokevirtual 208, 3) := by decide +kernel
theorem dX5_writes_29 : decode cX5_writes 29 = .ok (.aload_n 0, 1) := by decide +kernel
theorem dX5_writes_30 : decode cX5_writes 30 = .ok (.bipush 101, 2) := by decide +kernel
theorem dX5_writes_32 : decode cX5_writes 32 = .ok (.invokevirtual 208, 3) := by decide +kernel
theorem dX5_writes_35 : decode cX5_writes 35 = .ok (.aload_n 0, 1) := by decide +kernel
theorem dX5_writes_36 : decode cX5_writes 36 = .ok (.bipush 101, 2) := by decide +kernel
theorem dX5_writes_38 : decode cX5_writes 38 = .ok (.invokevirtual 208, 3) := by decide +kernel
theorem dX5_writes_41 : decode cX5_writes 41 = .ok (.return_, 1) := by decide +kernel
theorem dX5_writes_42 : decode cX5_writes 42 = .ok (.aload_n 0, 1) := by decide +kernel
theorem dX5_writes_43 : decode cX5_writes 43 = .ok (.bipush 98, 2) := by decide +kernel
theorem dX5_writes_45 : decode cX5_writes 45 = .ok (.invokevirtual 208, 3) := by decide +kernel
theorem dX5_writes_48 : decode cX5_writes 48 = .ok (.aload_n 0, 1) := by decide +kernel
theorem dX5_writes_49 : decode cX5_writes 49 = .ok (.bipush 111, 2) := by decide +kernel
theorem dX5_writes_51 : decode cX5_writes 51 = .ok (.invokevirtual 208, 3) := by decide +kernel
theorem dX5_writes_54 : decode cX5_writes 54 = .ok (.aload_n 0, 1) := by decide +kernel
theorem dX5_writes_55 : decode cX5_writes 55 = .ok (.bipush 117, 2) := by decide +kernel
theorem dX5_writes_57 : decode cX5_writes 57 = .ok (.invokevirtual 208, 3) := by decide +kernel
theorem dX5_writes_60 : decode cX5_writes 60 = .ok (.aload_n 0, 1) := by decide +kernel
theorem dX5_writes_61 : decode cX5_writes 61 = .ok (.bipush 110, 2) := by decide +kernel
theorem dX5_writes_63 : decode cX5_writes 63 = .ok (.invokevirtual 208, 3) := by decide +kernel
theorem dX5_writes_66 : decode cX5_writes 66 = .ok (.aload_n 0, 1) := by decide +kernel
theorem dX5_writes_67 : decode cX5_writes 67 = .ok (.bipush 100, 2) := by decide +kernel
theorem dX5_writes_69 : decode cX5_writes 69 = .ok (.invokevirtual 208, 3) := by decide +kernel
theorem dX5_writes_72 : decode cX5_writes 72 = .ok (.aload_n 0, 1) := by decide +kernel
theorem dX5_writes_73 : decode cX5_writes 73 = .ok (.bipush 32, 2) := by decide +kernel
theorem dX5_writes_75 : decode cX5_writes 75 = .ok (.invokevirtual 208, 3) := by decide +kernel
theorem dX5_writes_78 : decode cX5_writes 78 = .ok (.aload_n 0, 1) := by decide +kernel
theorem dX5_writes_79 : decode cX5_writes 79 = .ok (.bipush 98, 2) := by decide +kernel
theorem dX5_writes_81 : decode cX5_writes 81 = .ok (.invokevirtual 208, 3) := by decide +kernel
theorem dX5_writes_84 : decode cX5_writes 84 = .ok (.aload_n 0, 1) := by decide +kernel
theorem dX5_writes_85 : decode cX5_writes 85 = .ok (.bipush 121, 2) := by decide +kernel
theorem dX5_writes_87 : decode cX5_writes 87 = .ok (.invokevirtual 208, 3) := by decide +kernel
theorem dX5_writes_90 : decode cX5_writes 90 = .ok (.aload_n 0, 1) := by decide +kernel
theorem dX5_writes_91 : decode cX5_writes 91 = .ok (.bipush 32, 2) := by decide +kernel
theorem dX5_writes_93 : decode cX5_writes 93 = .ok (.invokevirtual 208, 3) := by decide +kernel
theorem dX5_writes_96 : decode cX5_writes 96 = .ok (.aload_n 0, 1) := by decide +kernel
theorem dX5_writes_97 : decode cX5_writes 97 = .ok (.iload_n 3, 1) := by decide +kernel
theorem dX5_writes_98 : decode cX5_writes 98 = .ok (.invokevirtual 212, 3) := by decide +kernel
theorem dX5_writes_101 : decode cX5_writes 101 = .ok (.aload_n 0, 1) := by decide +kernel
theorem dX5_writes_102 : decode cX5_writes 102 = .ok (.bipush 32, 2) := by decide +kernel
theorem dX5_writes_104 : decode cX5_writes 104 = .ok (.invokevirtual 208, 3) := by decide +kernel
theorem dX5_writes_107 : decode cX5_writes 107 = .ok (.aload_n 0, 1) := by decide +kernel
theorem dX5_writes_108 : decode cX5_writes 108 = .ok (.bipush 116, 2) := by decide +kernel
theorem dX5_writes_110 : decode cX5_writes 110 = .ok (.invokevirtual 208, 3) := by decide +kernel
theorem dX5_writes_113 : decode cX5_writes 113 = .ok (.aload_n 0, 1) := by decide +kernel
theorem dX5_writes_114 : decode cX5_writes 114 = .ok (.bipush 111, 2) := by decide +kernel
theorem dX5_writes_116 : decode cX5_writes 116 = .ok (.invokevirtual 208, 3) := by decide +kernel
theorem dX5_writes_119 : decode cX5_writes 119 = .ok (.aload_n 0, 1) := by decide +kernel
theorem dX5_writes_120 : decode cX5_writes 120 = .ok (.bipush 32, 2) := by decide +kernel
theorem dX5_writes_122 : decode cX5_writes 122 = .ok (.invokevirtual 208, 3) := by decide +kernel
theorem dX5_writes_125 : decode cX5_writes 125 = .ok (.aload_n 0, 1) := by decide +kernel
theorem dX5_writes_126 : decode cX5_writes 126 = .ok (.aload_n 0, 1) := by decide +kernel
theorem dX5_writes_127 : decode cX5_writes 127 = .ok (.getfield 41, 3) := by decide +kernel
theorem dX5_writes_130 : decode cX5_writes 130 = .ok (.iload_n 3, 1) := by decide +kernel
theorem dX5_writes_131 : decode cX5_writes 131 = .ok (.iaload, 1) := by decide +kernel
theorem dX5_writes_132 : decode cX5_writes 132 = .ok (.iload_n 1, 1) := by decide +kernel
theorem dX5_writes_133 : decode cX5_writes 133 = .ok (.if_icmp .ne 12, 3) := by decide +kernel
theorem dX5_writes_136 : decode cX5_writes 136 = .ok (.aload_n 0, 1) := by decide +kernel
theorem dX5_writes_137 : decode cX5_writes 137 = .ok (.getfield 44, 3) := by decide +kernel
theorem dX5_writes_140 : decode cX5_writes 140 = .ok (.iload_n 3, 1) := by decide +kernel
theorem dX5_writes_141 : decode cX5_writes 141 = .ok (.iaload, 1) := by decide +kernel
theorem dX5_writes_142 : decode cX5_writes 142 = .ok (.goto 9, 3) := by decide +kernel
theorem dX5_writes_145 : decode cX5_writes 145 = .ok (.aload_n 0, 1) := by decide +kernel
theorem dX5_writes_146 : decode cX5_writes 146 = .ok (.getfield 41, 3) := by decide +kernel
theorem dX5_writes_149 : decode cX5_writes 149 = .ok (.iload_n 3, 1) := by decide +kernel
theorem dX5_writes_150 : decode cX5_writes 150 = .ok (.iaload, 1) := by decide +kernel
theorem dX5_writes_151 : decode cX5_writes 151 = .ok (.invokevirtual 212, 3) := by decide +kernel
theorem dX5_writes_154 : decode cX5_writes 154 = .ok (.return_, 1) := by decide +kernel
def tab_X5_writes : List (Nat × Sem) := [(0, op_al 0 1), (1, op_ic 0 2), (2, op_pf 7 30 5), (5, op_al 0 6), (6, op_il 1 7), (7, op_il 2 8), (8, op_callV 7 sp_X5_boundBy 3 0 11), (11, op_is 3 12), (12, op_il 3 13), (13, op_ic (-1) 14), (14, op_cmp (fun x y => ¬ x = y) 42 17), (17, op_al 0 18), (18, op_ic 102 20), (20, op_callV 7 sp_X5_puts 2 0 23), (23, op_al 0 24), (24, op_ic 114 26), (26, op_callV 7 sp_X5_puts 2 0 29), (29, op_al 0 30), (30, op_ic 101 32), (32, op_callV 7 sp_X5_puts 2 0 35), (35, op_al 0 36), (36, op_ic 101 38), (38, op_callV 7 sp_X5_puts 2 0 41), (41, op_vret), (42, op_al 0 43), (43, op_ic 98 45), (45, op_callV 7 sp_X5_puts 2 0 48), (48, op_al 0 49), (49, op_ic 111 51), (51, op_callV 7 sp_X5_puts 2 0 54), (54, op_al 0 55), (55, op_ic 117 57), (57, op_callV 7 sp_X5_puts 2 0 60), (60, op_al 0 61), (61, op_ic 110 63), (63, op_callV 7 sp_X5_puts 2 0 66), (66, op_al 0 67), (67, op_ic 100 69), (69, op_callV 7 sp_X5_puts 2 0 72), (72, op_al 0 73), (73, op_ic 32 75), (75, op_callV 7 sp_X5_puts 2 0 78), (78, op_al 0 79), (79, op_ic 98 81), (81, op_callV 7 sp_X5_puts 2 0 84), (84, op_al 0 85), (85, op_ic 121 87), (87, op_callV 7 sp_X5_puts 2 0 90), (90, op_al 0 91), (91, op_ic 32 93), (93, op_callV 7 sp_X5_puts 2 0 96), (96, op_al 0 97), (97, op_il 3 98), (98, op_callV 7 sp_X5_putsNumber 2 0 101), (101, op_al 0 102), (102, op_ic 32 104), (104, op_callV 7 sp_X5_puts 2 0 107), (107, op_al 0 108), (108, op_ic 116 110), (110, op_callV 7 sp_X5_puts 2 0 113), (113, op_al 0 114), (114, op_ic 111 116), (116, op_callV 7 sp_X5_puts 2 0 119), (119, op_al 0 120), (120, op_ic 32 122), (122, op_callV 7 sp_X5_puts 2 0 125), (125, op_al 0 126), (126, op_al 0 127), (127, op_gf 7 13 130), (130, op_il 3 131), (131, op_iald 132), (132, op_il 1 133), (133, op_cmp (fun x y => ¬ x = y) 145 136), (136, op_al 0 137), (137, op_gf 7 14 140), (140, op_il 3 141), (141, op_iald 142), (142, op_go 151), (145, op_al 0 146), (146, op_gf 7 13 149), (149, op_il 3 150), (150, op_iald 151), (151, op_callV 7 sp_X5_putsNumber 2 0 154), (154, op_vret)]
set_option maxRecDepth 20000 in
theorem tok_X5_writes : ∀ q ∈ tab_X5_writes, Snd RX5 cX5_writes 4 2 0 none q.1 q.2 := by
  unfold tab_X5_writes
  refine tcons (ok_aload_n dX5_writes_0 rfl rfl) ?_
  refine tcons (ok_iconst dX5_writes_1 rfl rfl) ?_
  refine tcons (ok_putfield (C := RX5) (T := TX5) (n := 33) tyX5 .int rfl in_X5 tyX5_ok nmX5 (by decide) rfl w_1023 rfl (Or.inl rfl) dX5_writes_2 rfl) ?_
  refine tcons (ok_aload_n dX5_writes_5 rfl rfl) ?_
  refine tcons (ok_iload_n dX5_writes_6 rfl rfl) ?_
  refine tcons (ok_iload_n dX5_writes_7 rfl rfl) ?_
  refine tcons (ok_invokevirtual M_X5_boundBy (C := RX5) (T := TX5) (nf := 33) rfl w_1306 w_1308 w_38 w_49 w_1309 ⟨rfl, by decide, by decide, by decide +kernel⟩ (by decide) (by decide) dX5_writes_8 rfl) ?_
  refine tcons (ok_istore_n dX5_writes_11 rfl (by decide) rfl) ?_
  refine tcons (ok_iload_n dX5_writes_12 rfl rfl) ?_
  refine tcons (ok_iconst dX5_writes_13 rfl rfl) ?_
  refine tcons (ok_icmp_ne dX5_writes_14 rfl rfl) ?_
  refine tcons (ok_aload_n dX5_writes_17 rfl rfl) ?_
  refine tcons (ok_bipush dX5_writes_18 rfl rfl) ?_
  refine tcons (ok_invokevirtual M_X5_puts (C := RX5) (T := TX5) (nf := 33) rfl w_1326 w_1328 w_40 w_49 w_1329 ⟨rfl, by decide, by decide, by decide +kernel⟩ (by decide) (by decide) dX5_writes_20 rfl) ?_
  refine tcons (ok_aload_n dX5_writes_23 rfl rfl) ?_
  refine tcons (ok_bipush dX5_writes_24 rfl rfl) ?_
  refine tcons (ok_invokevirtual M_X5_puts (C := RX5) (T := TX5) (nf := 33) rfl w_1326 w_1328 w_40 w_49 w_1329 ⟨rfl, by decide, by decide, by decide +kernel⟩ (by decide) (by decide) dX5_writes_26 rfl) ?_
  refine tcons (ok_aload_n dX5_writes_29 rfl rfl) ?_
  refine tcons (ok_bipush dX5_writes_30 rfl rfl) ?_
  refine tcons (ok_invokevirtual M_X5_puts (C := RX5) (T := TX5) (nf := 33) rfl w_1326 w_1328 w_40 w_49 w_1329 ⟨rfl, by decide, by decide, by decide +kernel⟩ (by decide) (by decide) dX5_writes_32 rfl) ?_
  refine tcons (ok_aload_n dX5_writes_35 rfl rfl) ?_
  refine tcons (ok_bipush dX5_writes_36 rfl rfl) ?_
  refine tcons (ok_invokevirtual M_X5_puts (C := RX5) (T := TX5) (nf := 33) rfl w_1326 w_1328 w_40 w_49 w_1329 ⟨rfl, by decide, by decide, by decide +kernel⟩ (by decide) (by decide) dX5_writes_38 rfl) ?_
  refine tcons (ok_vreturn rfl dX5_writes_41) ?_
  refine tcons (ok_aload_n dX5_writes_42 rfl rfl) ?_
  refine tcons (ok_bipush dX5_writes_43 rfl rfl) ?_
  refine tcons (ok_invokevirtual M_X5_puts (C := RX5) (T := TX5) (nf := 33) rfl w_1326 w_1328 w_40 w_49 w_1329 ⟨rfl, by decide, by decide, by decide +kernel⟩ (by decide) (by decide) dX5_writes_45 rfl) ?_
  refine tcons (ok_aload_n dX5_writes_48 rfl rfl) ?_
  refine tcons (ok_bipush dX5_writes_49 rfl rfl) ?_
  refine tcons (ok_invokevirtual M_X5_puts (C := RX5) (T := TX5) (nf := 33) rfl w_1326 w_1328 w_40 w_49 w_1329 ⟨rfl, by decide, by decide, by decide +kernel⟩ (by decide) (by decide) dX5_writes_51 rfl) ?_
  refine tcons (ok_aload_n dX5_writes_54 rfl rfl) ?_
  refine tcons (ok_bipush dX5_writes_55 rfl rfl) ?_
  refine tcons (ok_invokevirtual M_X5_puts (C := RX5) (T := TX5) (nf := 33) rfl w_1326 w_1328 w_40 w_49 w_1329 ⟨rfl, by decide, by decide, by decide +kernel⟩ (by decide) (by decide) dX5_writes_57 rfl) ?_
  refine tcons (ok_aload_n dX5_writes_60 rfl rfl) ?_
  refine tcons (ok_bipush dX5_writes_61 rfl rfl) ?_
  refine tcons (ok_invokevirtual M_X5_puts (C := RX5) (T := TX5) (nf := 33) rfl w_1326 w_1328 w_40 w_49 w_1329 ⟨rfl, by decide, by decide, by decide +kernel⟩ (by decide) (by decide) dX5_writes_63 rfl) ?_
  refine tcons (ok_aload_n dX5_writes_66 rfl rfl) ?_
  refine tcons (ok_bipush dX5_writes_67 rfl rfl) ?_
  refine tcons (ok_invokevirtual M_X5_puts (C := RX5) (T := TX5) (nf := 33) rfl w_1326 w_1328 w_40 w_49 w_1329 ⟨rfl, by decide, by decide, by decide +kernel⟩ (by decide) (by decide) dX5_writes_69 rfl) ?_
  refine tcons (ok_aload_n dX5_writes_72 rfl rfl) ?_
  refine tcons (ok_bipush dX5_writes_73 rfl rfl) ?_
  refine tcons (ok_invokevirtual M_X5_puts (C := RX5) (T := TX5) (nf := 33) rfl w_1326 w_1328 w_40 w_49 w_1329 ⟨rfl, by decide, by decide, by decide +kernel⟩ (by decide) (by decide) dX5_writes_75 rfl) ?_
  refine tcons (ok_aload_n dX5_writes_78 rfl rfl) ?_
  refine tcons (ok_bipush dX5_writes_79 rfl rfl) ?_
  refine tcons (ok_invokevirtual M_X5_puts (C := RX5) (T := TX5) (nf := 33) rfl w_1326 w_1328 w_40 w_49 w_1329 ⟨rfl, by decide, by decide, by decide +kernel⟩ (by decide) (by decide) dX5_writes_81 rfl) ?_
  refine tcons (ok_aload_n dX5_writes_84 rfl rfl) ?_
  refine tcons (ok_bipush dX5_writes_85 rfl rfl) ?_
  refine tcons (ok_invokevirtual M_X5_puts (C := RX5) (T := TX5) (nf := 33) rfl w_1326 w_1328 w_40 w_49 w_1329 ⟨rfl, by decide, by decide, by decide +kernel⟩ (by decide) (by decide) dX5_writes_87 rfl) ?_
  refine tcons (ok_aload_n dX5_writes_90 rfl rfl) ?_
  refine tcons (ok_bipush dX5_writes_91 rfl rfl) ?_
  refine tcons (ok_invokevirtual M_X5_puts (C := RX5) (T := TX5) (nf := 33) rfl w_1326 w_1328 w_40 w_49 w_1329 ⟨rfl, by decide, by decide, by decide +kernel⟩ (by decide) (by decide) dX5_writes_93 rfl) ?_
  refine tcons (ok_aload_n dX5_writes_96 rfl rfl) ?_
  refine tcons (ok_iload_n dX5_writes_97 rfl rfl) ?_
  refine tcons (ok_invokevirtual M_X5_putsNumber (C := RX5) (T := TX5) (nf := 33) rfl w_1330 w_1332 w_41 w_49 w_1333 ⟨rfl, by decide, by decide, by decide +kernel⟩ (by decide) (by decide) dX5_writes_98 rfl) ?_
  refine tcons (ok_aload_n dX5_writes_101 rfl rfl) ?_
  refine tcons (ok_bipush dX5_writes_102 rfl rfl) ?_
  refine tcons (ok_invokevirtual M_X5_puts (C := RX5) (T := TX5) (nf := 33) rfl w_1326 w_1328 w_40 w_49 w_1329 ⟨rfl, by decide, by decide, by decide +kernel⟩ (by decide) (by decide) dX5_writes_104 rfl) ?_
  refine tcons (ok_aload_n dX5_writes_107 rfl rfl) ?_
  refine tcons (ok_bipush dX5_writes_108 rfl rfl) ?_
  refine tcons (ok_invokevirtual M_X5_puts (C := RX5) (T := TX5) (nf := 33) rfl w_1326 w_1328 w_40 w_49 w_1329 ⟨rfl, by decide, by decide, by decide +kernel⟩ (by decide) (by decide) dX5_writes_110 rfl) ?_
  refine tcons (ok_aload_n dX5_writes_113 rfl rfl) ?_
  refine tcons (ok_bipush dX5_writes_114 rfl rfl) ?_
  refine tcons (ok_invokevirtual M_X5_puts (C := RX5) (T := TX5) (nf := 33) rfl w_1326 w_1328 w_40 w_49 w_1329 ⟨rfl, by decide, by decide, by decide +kernel⟩ (by decide) (by decide) dX5_writes_116 rfl) ?_
  refine tcons (ok_aload_n dX5_writes_119 rfl rfl) ?_
  refine tcons (ok_bipush dX5_writes_120 rfl rfl) ?_
  refine tcons (ok_invokevirtual M_X5_puts (C := RX5) (T := TX5) (nf := 33) rfl w_1326 w_1328 w_40 w_49 w_1329 ⟨rfl, by decide, by decide, by decide +kernel⟩ (by decide) (by decide) dX5_writes_122 rfl) ?_
  refine tcons (ok_aload_n dX5_writes_125 rfl rfl) ?_
  refine tcons (ok_aload_n dX5_writes_126 rfl rfl) ?_
  refine tcons (ok_getfield (C := RX5) (T := TX5) (n := 33) rfl in_X5 (by decide) w_1006 dX5_writes_127 rfl) ?_
  refine tcons (ok_iload_n dX5_writes_130 rfl rfl) ?_
  refine tcons (ok_iaload dX5_writes_131 rfl) ?_
  refine tcons (ok_iload_n dX5_writes_132 rfl rfl) ?_
  refine tcons (ok_icmp_ne dX5_writes_133 rfl rfl) ?_
  refine tcons (ok_aload_n dX5_writes_136 rfl rfl) ?_
  refine tcons (ok_getfield (C := RX5) (T := TX5) (n := 33) rfl in_X5 (by decide) w_1007 dX5_writes_137 rfl) ?_
  refine tcons (ok_iload_n dX5_writes_140 rfl rfl) ?_
  refine tcons (ok_iaload dX5_writes_141 rfl) ?_
  refine tcons (ok_goto dX5_writes_142 rfl) ?_
  refine tcons (ok_aload_n dX5_writes_145 rfl rfl) ?_
  refine tcons (ok_getfield (C := RX5) (T := TX5) (n := 33) rfl in_X5 (by decide) w_1006 dX5_writes_146 rfl) ?_
  refine tcons (ok_iload_n dX5_writes_149 rfl rfl) ?_
  refine tcons (ok_iaload dX5_writes_150 rfl) ?_
  refine tcons (ok_invokevirtual M_X5_putsNumber (C := RX5) (T := TX5) (nf := 33) rfl w_1330 w_1332 w_41 w_49 w_1333 ⟨rfl, by decide, by decide, by decide +kernel⟩ (by decide) (by decide) dX5_writes_151 rfl) ?_
  refine tcons (ok_vreturn rfl dX5_writes_154) ?_
  exact fun _ h => nomatch h
def sp_X5_writes : Spc := fun av s N _ => match av with
  | [.inl (.inr (20, 0)), .inl (.inl p), .inl (.inl t)] => MI s ∧ WI s ∧ ∀ x, lowest (bbQ s p t) 0 (nvm s) x → N none (tw s (txtM s p x))
  | _ => False
set_option maxRecDepth 20000 in
set_option maxHeartbeats 2000000 in
theorem M_X5_writes : AMet yX5_writes cX5_writes 4 none 2 0 sp_X5_writes := by
  refine AMet.mc (own := RX5) (by decide) rfl [0, 1, 2, 3] rfl tok_X5_writes 200 ?_
  intro av s0 N X h
  unfold sp_X5_writes at h
  split at h
  rotate_left
  · exact h.elim
  obtain ⟨hM, hW, h⟩ := h
  rename_i p t
  obtain ⟨-, ⟨n, hn, hv⟩, -⟩ := of_eq_true hM
  have hnv := nvm_eq hv hn
  refine ⟨[(12, fun m u L st s => ∃ x, u = 0 ∧ m = 0 ∧ L = [(0, .inr (20, 0)), (1, .inl p), (2, .inl t), (3, .inl x)] ∧ st = [] ∧ s = tw s0 [] ∧ lowest (bbQ s0 p t) 0 (nvm s0) x)], ?_, ac ?_ an⟩
  · repeat' (first | apply And.intro | (intro q; exact absurd q (by decide)) | intro _)
    all_goals first | (simp only [tw_0, tw_MI]; exact hM) | decide | (exact Nat.le_of_ble_eq_true rfl) | (refine ⟨0, 4, trivial, _, rfl, rfl, rfl, rfl, tw_0, ?_⟩; rename_i q; simp only [tw_0, tw_bb, tw_nv] at q; exact q)
  · rintro m u L st s ⟨x, rfl, rfl, rfl, rfl, rfl, hx⟩
    have hF := h x hx
    rcases hx with ⟨rfl, -⟩ | ⟨v, -, hvn, rfl, hQ, -⟩
    · rw [show txtM s0 p (-1) = [102, 114, 101, 101] from if_pos rfl] at hF
      repeat' (first | apply And.intro | (intro q; exact absurd q (by decide)) | (refine Exists.intro s0 (Exists.intro _ (And.intro rfl (And.intro (Nat.le_of_ble_eq_true rfl) ?_)))) | intro _)
      all_goals first | (with_reducible exact rfl) | (exact Nat.le_of_ble_eq_true rfl) | (exact hF)
    · rw [hnv] at hvn
      have hne : ¬ nI v = -1 := by
        intro q
        have h1 : (nI v).toInt = v := nI_toInt (by omega)
        rw [q] at h1
        have : (-1 : Int32).toInt = -1 := rfl
        omega
      have c0 : cl (nI v) = v := nI_clamp (by omega)
      obtain ⟨w, hw, hp⟩ : ∃ w, w < 24 ∧ prtM s0 p v = nI w := by
        have h2 := (of_eq_true hW).1 v (by rw [hnv]; exact hvn)
        unfold prtM
        split
        · obtain ⟨w, h3, h4⟩ := Ib_nI h2.2 (by decide); exact ⟨w, h3, h4⟩
        · obtain ⟨w, h3, h4⟩ := Ib_nI h2.1 (by decide); exact ⟨w, h3, h4⟩
      rw [show txtM s0 p (nI v) = txB ++ dig v ++ txT ++ dig w by unfold txtM; rw [if_neg hne, c0, hp, show cl (nI w) = w from nI_clamp (by omega)]] at hF
      have i0 : Ib (nI v) 30 := nIb (by omega) (by decide)
      have hdl := dig_len v
      have g33 : ∀ l, (tw s0 l).2.1 (20 + 13) 0 (nI v).toNatClampNeg = s0.2.1 33 0 v := fun l => by rw [nI_clamp (by omega), tw_get]; simp
      have g34 : ∀ l, (tw s0 l).2.1 (20 + 14) 0 (nI v).toNatClampNeg = s0.2.1 34 0 v := fun l => by rw [nI_clamp (by omega), tw_get]; simp
      have hp1 : s0.2.1 33 0 v = p → s0.2.1 34 0 v = nI w := fun q => by rw [← hp]; unfold prtM; rw [if_pos q]
      have hp2 : ¬ s0.2.1 33 0 v = p → s0.2.1 33 0 v = nI w := fun q => by rw [← hp]; unfold prtM; rw [if_neg q]
      have hF2 : N none (tw s0 (txB ++ dig v ++ [32] ++ [116] ++ [111] ++ [32] ++ dig w)) := by
        have e : txB ++ dig v ++ txT ++ dig w = txB ++ dig v ++ [32] ++ [116] ++ [111] ++ [32] ++ dig w := by unfold txT; simp
        rw [← e]; exact hF
      clear h hM hW hF hQ hv hnv
      repeat' (first | apply And.intro | (intro q; exact absurd q (by decide)) | (intro q; exact absurd hne q) | (refine Exists.intro s0 (Exists.intro _ (And.intro rfl (And.intro (Nat.le_of_ble_eq_true rfl) ?_)))) |
        (refine Exists.intro s0 (Exists.intro txB (Exists.intro v (And.intro rfl (And.intro rfl (And.intro (by omega) (And.intro (Nat.le_of_ble_eq_true rfl) ?_))))))) |
        (refine Exists.intro s0 (Exists.intro _ (And.intro rfl (And.intro (by simp [txB]; omega) ?_)))) | intro _)
      all_goals first | (with_reducible exact i0) | (with_reducible exact rfl) | (exact Nat.le_of_ble_eq_true rfl) | skip
      all_goals first | (refine Exists.intro s0 (Exists.intro _ (Exists.intro w (And.intro rfl (And.intro ?_ (And.intro (by omega) (And.intro (by simp [txB]; omega) (And.intro (Nat.le_of_ble_eq_true rfl) hF2))))))); first | (simp only [g33, g34] at *; exact hp1 (by assumption)) | (simp only [g33, g34] at *; exact hp2 (by assumption)) | (simp_all; done)) | skip
/-- a text's letter -/
def chM (l : List Int32) (r : Int32) : Int32 := if cl r < l.length then l.getD (cl r) 0 else 0
theorem dX5_state_0 : decode cX5_state 0 = .ok (.aload_n 0, 1) := by decide +kernel
theorem dX5_state_1 : decode cX5_state 1 = .ok (.aload_n 0, 1) := by decide +kernel
theorem dX5_state_2 : decode cX5_state 2 = .ok (.iload_n 1, 1) := by decide +kernel
theorem dX5_state_3 : decode cX5_state 3 = .ok (.invokevirtual 106, 3) := by decide +kernel
theorem dX5_state_6 : decode cX5_state 6 = .ok (.ifCond .eq 7, 3) := by decide +kernel
theorem dX5_state_9 : decode cX5_state 9 = .ok (.iload_n 3, 1) := by decide +kernel
theorem dX5_state_10 : decode cX5_state 10 = .ok (.ifCond .ge 7, 3) := by decide +kernel
theorem dX5_state_13 : decode cX5_state 13 = .ok (.iconst 1, 1) := by decide +kernel
theorem dX5_state_14 : decode cX5_state 14 = .ok (.goto 18, 3) := by decide +kernel
theorem dX5_state_17 : decode cX5_state 17 = .ok (.iload_n 2, 1) := by decide +kernel
theorem dX5_state_18 : decode cX5_state 18 = .ok (.iconst 0, 1) := by decide +kernel
theorem dX5_state_19 : decode cX5_state 19 = .ok (.ldc 201, 2) := by decide +kernel
theorem dX5_state_21 : decode cX5_state 21 = .ok (.invokestatic 99, 3) := by decide +kernel
theorem dX5_state_24 : decode cX5_state 24 = .ok (.ifCond .eq 7, 3) := by decide +kernel
theorem dX5_state_27 : decode cX5_state 27 = .ok (.iconst 0, 1) := by decide +kernel
theorem dX5_state_28 : decode cX5_state 28 = .ok (.goto 4, 3) := by decide +kernel
theorem dX5_state_31 : decode cX5_state 31 = .ok (.iconst 2, 1) := by decide +kernel
theorem dX5_state_32 : decode cX5_state 32 = .ok (.invokevirtual 114, 3) := by decide +kernel
theorem dX5_state_35 : decode cX5_state 35 = .ok (.ifCond .eq 5, 3) := by decide +kernel
theorem dX5_state_38 : decode cX5_state 38 = .ok (.iconst 0, 1) := by decide +kernel
theorem dX5_state_39 : decode cX5_state 39 = .ok (.ireturn, 1) := by decide +kernel
theorem dX5_state_40 : decode cX5_state 40 = .ok (.aload_n 0, 1) := by decide +kernel
theorem dX5_state_41 : decode cX5_state 41 = .ok (.iload_n 1, 1) := by decide +kernel
theorem dX5_state_42 : decode cX5_state 42 = .ok (.iload_n 2, 1) := by decide +kernel
theorem dX5_state_43 : decode cX5_state 43 = .ok (.invokevirtual 215, 3) := by decide +kernel
theorem dX5_state_46 : decode cX5_state 46 = .ok (.iload_n 3, 1) := by decide +kernel
theorem dX5_state_47 : decode cX5_state 47 = .ok (.aload_n 0, 1) := by decide +kernel
theorem dX5_state_48 : decode cX5_state 48 = .ok (.getfield 205, 3) := by decide +kernel
theorem dX5_state_51 : decode cX5_state 51 = .ok (.if_icmp .ge 13, 3) := by decide +kernel
theorem dX5_state_54 : decode cX5_state 54 = .ok (.aload_n 0, 1) := by decide +kernel
theorem dX5_state_55 : decode cX5_state 55 = .ok (.getfield 89, 3) := by decide +kernel
theorem dX5_state_58 : decode cX5_state 58 = .ok (.iload_n 3, 1) := by decide +kernel
theorem dX5_state_59 : decode cX5_state 59 = .ok (.iaload, 1) := by decide +kernel
theorem dX5_state_60 : decode cX5_state 60 = .ok (.i2c, 1) := by decide +kernel
theorem dX5_state_61 : decode cX5_state 61 = .ok (.goto 4, 3) := by decide +kernel
theorem dX5_state_64 : decode cX5_state 64 = .ok (.iconst 0, 1) := by decide +kernel
theorem dX5_state_65 : decode cX5_state 65 = .ok (.ireturn, 1) := by decide +kernel
def tab_X5_state : List (Nat × Sem) := [(0, op_al 0 1), (1, op_al 0 2), (2, op_il 1 3), (3, op_callV 7 sp_X5_isPerson 2 0 6), (6, op_if (fun x => x = 0) 13 9), (9, op_il 3 10), (10, op_if (fun x => 0 ≤ x) 17 13), (13, op_ic 1 14), (14, op_go 32), (17, op_il 2 18), (18, op_ic 0 19), (19, op_ic 1000000 21), (21, op_call sp_X5_isIn 3 0 24), (24, op_if (fun x => x = 0) 31 27), (27, op_ic 0 28), (28, op_go 32), (31, op_ic 2 32), (32, op_callV 7 sp_X5_fails 2 0 35), (35, op_if (fun x => x = 0) 40 38), (38, op_ic 0 39), (39, op_cret), (40, op_al 0 41), (41, op_il 1 42), (42, op_il 2 43), (43, op_callV 7 sp_X5_writes 3 0 46), (46, op_il 3 47), (47, op_al 0 48), (48, op_gf 7 30 51), (51, op_cmp (fun x y => y ≤ x) 64 54), (54, op_al 0 55), (55, op_gf 7 31 58), (58, op_il 3 59), (59, op_iald 60), (60, op_i2c 61), (61, op_go 65), (64, op_ic 0 65), (65, op_cret)]
set_option maxRecDepth 20000 in
theorem tok_X5_state : ∀ q ∈ tab_X5_state, Snd RX5 cX5_state 4 3 0 (some .char) q.1 q.2 := by
  unfold tab_X5_state
  refine tcons (ok_aload_n dX5_state_0 rfl rfl) ?_
  refine tcons (ok_aload_n dX5_state_1 rfl rfl) ?_
  refine tcons (ok_iload_n dX5_state_2 rfl rfl) ?_
  refine tcons (ok_invokevirtual M_X5_isPerson (C := RX5) (T := TX5) (nf := 33) rfl w_1101 w_1103 w_19 w_49 w_1104 ⟨rfl, by decide, by decide, by decide +kernel⟩ (by decide) (by decide) dX5_state_3 rfl) ?_
  refine tcons (ok_if_eq dX5_state_6 rfl rfl) ?_
  refine tcons (ok_iload_n dX5_state_9 rfl rfl) ?_
  refine tcons (ok_if_ge dX5_state_10 rfl rfl) ?_
  refine tcons (ok_iconst dX5_state_13 rfl rfl) ?_
  refine tcons (ok_goto dX5_state_14 rfl) ?_
  refine tcons (ok_iload_n dX5_state_17 rfl rfl) ?_
  refine tcons (ok_iconst dX5_state_18 rfl rfl) ?_
  refine tcons (ok_ldc w_1305 dX5_state_19 rfl) ?_
  refine tcons (ok_invokestatic M_X5_isIn w_1105 w_1106 w_49 w_1107 ⟨by decide, by decide, by decide +kernel⟩ (by decide) (by decide) dX5_state_21 rfl) ?_
  refine tcons (ok_if_eq dX5_state_24 rfl rfl) ?_
  refine tcons (ok_iconst dX5_state_27 rfl rfl) ?_
  refine tcons (ok_goto dX5_state_28 rfl) ?_
  refine tcons (ok_iconst dX5_state_31 rfl rfl) ?_
  refine tcons (ok_invokevirtual M_X5_fails (C := RX5) (T := TX5) (nf := 33) rfl w_1112 w_1114 w_20 w_49 w_1115 ⟨rfl, by decide, by decide, by decide +kernel⟩ (by decide) (by decide) dX5_state_32 rfl) ?_
  refine tcons (ok_if_eq dX5_state_35 rfl rfl) ?_
  refine tcons (ok_iconst dX5_state_38 rfl rfl) ?_
  refine tcons (ok_creturn rfl dX5_state_39) ?_
  refine tcons (ok_aload_n dX5_state_40 rfl rfl) ?_
  refine tcons (ok_iload_n dX5_state_41 rfl rfl) ?_
  refine tcons (ok_iload_n dX5_state_42 rfl rfl) ?_
  refine tcons (ok_invokevirtual M_X5_writes (C := RX5) (T := TX5) (nf := 33) rfl w_1322 w_1324 w_39 w_49 w_1325 ⟨rfl, by decide, by decide, by decide +kernel⟩ (by decide) (by decide) dX5_state_43 rfl) ?_
  refine tcons (ok_iload_n dX5_state_46 rfl rfl) ?_
  refine tcons (ok_aload_n dX5_state_47 rfl rfl) ?_
  refine tcons (ok_getfield (C := RX5) (T := TX5) (n := 33) rfl in_X5 (by decide) w_1023 dX5_state_48 rfl) ?_
  refine tcons (ok_icmp_ge dX5_state_51 rfl rfl) ?_
  refine tcons (ok_aload_n dX5_state_54 rfl rfl) ?_
  refine tcons (ok_getfield (C := RX5) (T := TX5) (n := 33) rfl in_X5 (by decide) w_1024 dX5_state_55 rfl) ?_
  refine tcons (ok_iload_n dX5_state_58 rfl rfl) ?_
  refine tcons (ok_iaload dX5_state_59 rfl) ?_
  refine tcons (ok_i2c dX5_state_60 rfl) ?_
  refine tcons (ok_goto dX5_state_61 rfl) ?_
  refine tcons (ok_iconst dX5_state_64 rfl rfl) ?_
  refine tcons (ok_creturn rfl dX5_state_65) ?_
  exact fun _ h => nomatch h
def sp_X5_state : Spc := fun av s N _ => match av with
  | [.inl (.inr (20, 0)), .inl (.inl p), .inl (.inl t), .inl (.inl r)] => MI s ∧ WI s ∧ f2 (isP s p ∧ ¬ r < 0) (inR t 0 1000000) (some (aI 0)) N s (∀ x, lowest (bbQ s p t) 0 (nvm s) x → N (some (aI (chM (txtM s p x) r))) (tw (th s 0) (txtM s p x)))
  | _ => False
theorem lst_chr {l : List Int32} (h : ∀ y ∈ l, ∃ q, q < 65536 ∧ y = nI q) (r : Int32) : ∃ q, q < 65536 ∧ chM l r = nI q := by
  unfold chM
  split
  · rename_i hl
    rw [List.getD_eq_getElem?_getD, List.getElem?_eq_getElem hl]
    exact h _ (List.getElem_mem hl)
  · exact ⟨0, by decide, rfl⟩
theorem dig_chr {k : Nat} (hk : k < 100) : ∀ y ∈ dig k, ∃ q, q < 65536 ∧ y = nI q := by
  intro y hy
  unfold dig at hy
  split at hy
  · rcases List.mem_cons.mp hy with rfl | hy
    · exact ⟨48 + k / 10, by omega, rfl⟩
    · exact ⟨48 + k % 10, by omega, List.mem_singleton.mp hy⟩
  · exact ⟨48 + k % 10, by omega, List.mem_singleton.mp hy⟩
theorem lit_chr {l : List Int32} (h : l.all (fun y => decide (0 ≤ y) && decide (y < 1000)) = true) : ∀ y ∈ l, ∃ q, q < 65536 ∧ y = nI q := by
  intro y hy
  have h1 := List.all_eq_true.mp h y hy
  simp only [Bool.and_eq_true, decide_eq_true_eq] at h1
  obtain ⟨j, hj, rfl⟩ := nI_of (x := y) (by simpa using h1.1)
  refine ⟨j, ?_, rfl⟩
  have h2 := Int32.lt_iff_toInt_lt.mp h1.2
  rw [nI_toInt hj] at h2
  have : (1000 : Int32).toInt = 1000 := rfl
  omega
theorem txt_in {s : Sg} (hM : MI s) (hW : WI s) {p t x : Int32} (hx : lowest (bbQ s p t) 0 (nvm s) x) : (∀ y ∈ txtM s p x, ∃ q, q < 65536 ∧ y = nI q) ∧ (txtM s p x).length ≤ 20 := by
  obtain ⟨-, ⟨n, hn, hv⟩, -⟩ := of_eq_true hM
  have hnv := nvm_eq hv hn
  rcases hx with ⟨rfl, -⟩ | ⟨v, -, hvn, rfl, -, -⟩
  · rw [show txtM s p (-1) = [102, 114, 101, 101] from if_pos rfl]
    exact ⟨lit_chr (by decide), by simp⟩
  · unfold txtM
    have c0 : cl (nI v) = v := nI_clamp (by omega)
    have hw : ∃ w, w < 24 ∧ prtM s p v = nI w := by
      have h2 := (of_eq_true hW).1 v hvn
      unfold prtM
      split
      · obtain ⟨w, h3, h4⟩ := Ib_nI h2.2 (by decide); exact ⟨w, h3, h4⟩
      · obtain ⟨w, h3, h4⟩ := Ib_nI h2.1 (by decide); exact ⟨w, h3, h4⟩
    obtain ⟨w, hw, hp⟩ := hw
    split
    · exact ⟨lit_chr (by decide), by simp⟩
    · rw [c0, hp, show cl (nI w) = w from nI_clamp (by omega)]
      refine ⟨fun y hy => ?_, ?_⟩
      · simp only [List.mem_append] at hy
        rcases hy with ((hy | hy) | hy) | hy
        · exact lit_chr (l := txB) (by decide) y hy
        · exact dig_chr (by omega) y hy
        · exact lit_chr (l := txT) (by decide) y hy
        · exact dig_chr (by omega) y hy
      · have h1 := dig_len v
        have h2 := dig_len w
        simp [txB, txT]
        omega
theorem WI_th {s : Sg} {k : Int32} : WI (th s k) = WI s := by simp [WI, WI0, stS_get, nvm_th, ncm_th]
theorem txtM_th {s : Sg} {k p x : Int32} : txtM (th s k) p x = txtM s p x := by simp [txtM, prtM, stS_get]
theorem i2c_nI {q : Nat} (h : q < 65536) : ((nI q).toUInt32 % 65536).toInt32 = nI q := by
  have := (pk_char (nI q)).trans (by rw [pk_tn (by omega), Nat.mod_eq_of_lt h])
  exact this
set_option maxRecDepth 20000 in
set_option maxHeartbeats 2000000 in
theorem M_X5_state : AMet yX5_state cX5_state 4 (some .char) 3 0 sp_X5_state := by
  refine AMet.mc (own := RX5) (by decide) rfl [0, 1, 2, 3] rfl tok_X5_state 200 ?_
  intro av s0 N X h
  unfold sp_X5_state at h
  split at h
  rotate_left
  · exact h.elim
  obtain ⟨hM, hW, h1, h2, h3⟩ := h
  rename_i p t r
  refine ⟨[(46, fun m u L st s => ∃ x, u = 0 ∧ m = 0 ∧ L = [(0, .inr (20, 0)), (1, .inl p), (2, .inl t), (3, .inl r)] ∧ st = [] ∧ s = tw (th s0 0) (txtM s0 p x) ∧ (isP s0 p ∧ ¬ r < 0) ∧ inR t 0 1000000 ∧ lowest (bbQ s0 p t) 0 (nvm s0) x)], ?_, ac ?_ an⟩
  · repeat' (first | apply And.intro | (intro q; exact absurd q (by decide)) | intro _)
    all_goals first | (rw [MI_th]; exact hM) | (rw [WI_th]; exact hW) | (exact ⟨0, Nat.le_of_ble_eq_true rfl, rfl⟩) | decide | (exact Nat.le_of_ble_eq_true rfl) |
      (rename_i x q; refine ⟨0, 4, trivial, x, rfl, rfl, rfl, rfl, by rw [txtM_th], ?_, by assumption, by rw [bbQ_th, nvm_th] at q; exact q⟩; simp_all) | (exact ⟨0, by decide, rfl⟩) | (simp_all; done)
  · rintro m u L st s ⟨x, rfl, rfl, rfl, rfl, rfl, hp, ht, hx⟩
    have hF := h3 hp ht x hx
    obtain ⟨g1, g2⟩ := txt_in hM hW hx
    obtain ⟨l, hl⟩ : ∃ z, z = txtM s0 p x := ⟨_, rfl⟩
    rw [← hl] at hF g1 g2 ⊢
    obtain ⟨j, hj, rfl⟩ := nI_of hp.2
    have e1 : (tw (th s0 0) l).2.1 20 0 30 = nI l.length := by rw [tw_get]; simp
    have cj : cl (nI j) = j := nI_clamp hj
    have hle : nI l.length ≤ nI j ↔ l.length ≤ j := nI_leI (by omega) hj
    obtain ⟨q, hq, hqe⟩ := lst_chr g1 (nI j)
    have hch : chM l (nI j) = if j < l.length then l.getD j 0 else 0 := by unfold chM; rw [cj]
    by_cases hjl : j < l.length
    · have e2 : (tw (th s0 0) l).2.1 51 0 j = l.getD j 0 := by rw [tw_get, if_pos ⟨rfl, rfl, hjl⟩]
      have e4 : l.getD j 0 = nI q := by rw [← hqe, hch, if_pos hjl]
      have hn : ¬ (tw (th s0 0) l).2.1 20 0 30 ≤ nI j := by rw [e1]; intro q; have := hle.mp q; omega
      have e5 : (((tw (th s0 0) l).2.1 (20 + 31) 0 (nI j).toNatClampNeg).toUInt32 % 65536).toInt32 = chM l (nI j) := by
        rw [hqe, show (nI j).toNatClampNeg = j from cj, e2, e4]; exact i2c_nI hq
      clear h1 h2 h3 hl
      repeat' (first | apply And.intro | (intro q; exact absurd q (by decide)) | (intro q; exact absurd q hn) | intro _)
      all_goals first | (with_reducible exact rfl) | (exact Nat.le_of_ble_eq_true rfl) | (exact nIb (by omega) (by decide)) | (exact ⟨q, hq, by rw [e5, hqe]⟩) | (rw [e5]; exact hF)
    · have hn : (tw (th s0 0) l).2.1 20 0 30 ≤ nI j := by rw [e1]; exact hle.mpr (by omega)
      rw [hch, if_neg hjl] at hF
      clear h1 h2 h3 hl
      repeat' (first | apply And.intro | (intro q; exact absurd q (by decide)) | (intro q; exact absurd hn q) | intro _)
      all_goals first | (with_reducible exact rfl) | (exact Nat.le_of_ble_eq_true rfl) | (exact ⟨0, by decide, rfl⟩) | (exact hF)
end
