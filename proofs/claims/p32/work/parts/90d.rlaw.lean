/-! the law's start, over plain worlds -/
theorem w_47 : (.classLink "VowCourtLaw" 9 "VowCourt" : Cond) ∈ TB := TB_mem (List.mem_of_getElem? (i := 47) (by decide +kernel)) rfl
theorem w_48 : (.instantiable "VowCourt" 8 : Cond) ∈ TB := TB_mem (List.mem_of_getElem? (i := 48) (by decide +kernel)) rfl
theorem w_49 : (.methodLink "VowCourtLaw" 184 ⟨"VowCourt", "<init>", "()V"⟩ : Cond) ∈ TB := TB_mem (List.mem_of_getElem? (i := 49) (by decide +kernel)) rfl
theorem w_50 : (.instanceMethod ⟨"VowCourt", "<init>", "()V"⟩ : Cond) ∈ TB := TB_mem (List.mem_of_getElem? (i := 50) (by decide +kernel)) rfl
theorem w_51 : (.code yX4_init cX4_init 1 none : Cond) ∈ TB := TB_mem (List.mem_of_getElem? (i := 51) (by decide +kernel)) rfl
theorem dL_law_0 : decode cL_law 0 = .ok (.new 9, 3) := by decide +kernel
theorem dL_law_3 : decode cL_law 3 = .ok (.dup, 1) := by decide +kernel
theorem dL_law_4 : decode cL_law 4 = .ok (.invokespecial 184, 3) := by decide +kernel
theorem dL_law_7 : decode cL_law 7 = .ok (.astore_n 1, 1) := by decide +kernel
theorem dL_law_8 : decode cL_law 8 = .ok (.bipush 17, 2) := by decide +kernel
theorem dL_law_10 : decode cL_law 10 = .ok (.newarray .int, 2) := by decide +kernel
theorem dL_law_12 : decode cL_law 12 = .ok (.astore_n 2, 1) := by decide +kernel
theorem dL_law_13 : decode cL_law 13 = .ok (.bipush 33, 2) := by decide +kernel
theorem dL_law_15 : decode cL_law 15 = .ok (.newarray .int, 2) := by decide +kernel
theorem dL_law_17 : decode cL_law 17 = .ok (.astore_n 3, 1) := by decide +kernel
theorem dL_law_18 : decode cL_law 18 = .ok (.bipush 64, 2) := by decide +kernel
theorem dL_law_20 : decode cL_law 20 = .ok (.newarray .int, 2) := by decide +kernel
theorem dL_law_22 : decode cL_law 22 = .ok (.astore 4, 2) := by decide +kernel
theorem dL_law_24 : decode cL_law 24 = .ok (.bipush 16, 2) := by decide +kernel
theorem dL_law_26 : decode cL_law 26 = .ok (.newarray .int, 2) := by decide +kernel
theorem dL_law_28 : decode cL_law 28 = .ok (.astore 5, 2) := by decide +kernel
theorem dL_law_30 : decode cL_law 30 = .ok (.bipush 17, 2) := by decide +kernel
theorem dL_law_32 : decode cL_law 32 = .ok (.newarray .int, 2) := by decide +kernel
theorem dL_law_34 : decode cL_law 34 = .ok (.astore 6, 2) := by decide +kernel
theorem dL_law_36 : decode cL_law 36 = .ok (.bipush 32, 2) := by decide +kernel
theorem dL_law_38 : decode cL_law 38 = .ok (.newarray .int, 2) := by decide +kernel
theorem dL_law_40 : decode cL_law 40 = .ok (.astore 7, 2) := by decide +kernel
theorem dL_law_42 : decode cL_law 42 = .ok (.bipush 9, 2) := by decide +kernel
theorem dL_law_44 : decode cL_law 44 = .ok (.newarray .int, 2) := by decide +kernel
theorem dL_law_46 : decode cL_law 46 = .ok (.astore 8, 2) := by decide +kernel
theorem dL_law_48 : decode cL_law 48 = .ok (.bipush 57, 2) := by decide +kernel
theorem dL_law_50 : decode cL_law 50 = .ok (.newarray .int, 2) := by decide +kernel
theorem dL_law_52 : decode cL_law 52 = .ok (.astore 9, 2) := by decide +kernel
theorem dL_law_54 : decode cL_law 54 = .ok (.bipush 9, 2) := by decide +kernel
theorem dL_law_56 : decode cL_law 56 = .ok (.newarray .int, 2) := by decide +kernel
theorem dL_law_58 : decode cL_law 58 = .ok (.astore 10, 2) := by decide +kernel
theorem dL_law_60 : decode cL_law 60 = .ok (.bipush 9, 2) := by decide +kernel
theorem dL_law_62 : decode cL_law 62 = .ok (.newarray .int, 2) := by decide +kernel
theorem dL_law_64 : decode cL_law 64 = .ok (.astore 11, 2) := by decide +kernel
theorem dL_law_66 : decode cL_law 66 = .ok (.iconst 4, 1) := by decide +kernel
theorem dL_law_67 : decode cL_law 67 = .ok (.newarray .int, 2) := by decide +kernel
theorem dL_law_69 : decode cL_law 69 = .ok (.astore 12, 2) := by decide +kernel
def tabR_law : List (Nat × RSem) := [(0, rp_new 6 1 [.null, .null, .null, .null, .null, .null, .null, .int 0] 3), (3, rp_dup 4), (4, rp_callI rs_X4_init 1 70 7), (7, rp_as 1 8), (8, rp_ic 17 10), (10, rp_newa 0 17 1 12), (12, rp_as 2 13), (13, rp_ic 33 15), (15, rp_newa 0 33 2 17), (17, rp_as 3 18), (18, rp_ic 64 20), (20, rp_newa 0 64 3 22), (22, rp_as 4 24), (24, rp_ic 16 26), (26, rp_newa 0 16 1 28), (28, rp_as 5 30), (30, rp_ic 17 32), (32, rp_newa 0 17 1 34), (34, rp_as 6 36), (36, rp_ic 32 38), (38, rp_newa 0 32 2 40), (40, rp_as 7 42), (42, rp_ic 9 44), (44, rp_newa 0 9 1 46), (46, rp_as 8 48), (48, rp_ic 57 50), (50, rp_newa 0 57 3 52), (52, rp_as 9 54), (54, rp_ic 9 56), (56, rp_newa 0 9 1 58), (58, rp_as 10 60), (60, rp_ic 9 62), (62, rp_newa 0 9 1 64), (64, rp_as 11 66), (66, rp_ic 4 67), (67, rp_newa 0 4 1 69), (69, rp_as 12 71)]
set_option maxRecDepth 20000 in
theorem tokR_law : ∀ q ∈ tabR_law, RSnd false RL cL_law 20 15 40000 ret q.1 q.2 := by
  unfold tabR_law
  refine rcons (rk_new (C := RX4) (T := TX4) (n := 8) tyX4 rfl in_X4 tyX4_ok (by intro j hj; match j, hj with | 0, _ => rfl | 1, _ => rfl | 2, _ => rfl | 3, _ => rfl | 4, _ => rfl | 5, _ => rfl | 6, _ => rfl | 7, _ => rfl) w_47 w_48 w_20 (by decide) (by decide) dL_law_0 rfl) ?_
  refine rcons (rk_dup dL_law_3 rfl) ?_
  refine rcons (rk_invokeinit R_X4_init w_49 w_50 w_20 w_51 rfl ⟨by decide, by decide, by decide +kernel⟩ (by decide) (by decide) dL_law_4 rfl) ?_
  refine rcons (rk_astore_n dL_law_7 rfl (by decide) rfl) ?_
  refine rcons (rk_bipush dL_law_8 rfl rfl) ?_
  refine rcons (rk_newarray (ty := .int) rfl (fun _ => rfl) (fun _ => rfl) w_96 (by decide) (by decide) (by decide) dL_law_10 rfl) ?_
  refine rcons (rk_astore_n dL_law_12 rfl (by decide) rfl) ?_
  refine rcons (rk_bipush dL_law_13 rfl rfl) ?_
  refine rcons (rk_newarray (ty := .int) rfl (fun _ => rfl) (fun _ => rfl) w_96 (by decide) (by decide) (by decide) dL_law_15 rfl) ?_
  refine rcons (rk_astore_n dL_law_17 rfl (by decide) rfl) ?_
  refine rcons (rk_bipush dL_law_18 rfl rfl) ?_
  refine rcons (rk_newarray (ty := .int) rfl (fun _ => rfl) (fun _ => rfl) w_96 (by decide) (by decide) (by decide) dL_law_20 rfl) ?_
  refine rcons (rk_astore dL_law_22 (by decide) rfl) ?_
  refine rcons (rk_bipush dL_law_24 rfl rfl) ?_
  refine rcons (rk_newarray (ty := .int) rfl (fun _ => rfl) (fun _ => rfl) w_96 (by decide) (by decide) (by decide) dL_law_26 rfl) ?_
  refine rcons (rk_astore dL_law_28 (by decide) rfl) ?_
  refine rcons (rk_bipush dL_law_30 rfl rfl) ?_
  refine rcons (rk_newarray (ty := .int) rfl (fun _ => rfl) (fun _ => rfl) w_96 (by decide) (by decide) (by decide) dL_law_32 rfl) ?_
  refine rcons (rk_astore dL_law_34 (by decide) rfl) ?_
  refine rcons (rk_bipush dL_law_36 rfl rfl) ?_
  refine rcons (rk_newarray (ty := .int) rfl (fun _ => rfl) (fun _ => rfl) w_96 (by decide) (by decide) (by decide) dL_law_38 rfl) ?_
  refine rcons (rk_astore dL_law_40 (by decide) rfl) ?_
  refine rcons (rk_bipush dL_law_42 rfl rfl) ?_
  refine rcons (rk_newarray (ty := .int) rfl (fun _ => rfl) (fun _ => rfl) w_96 (by decide) (by decide) (by decide) dL_law_44 rfl) ?_
  refine rcons (rk_astore dL_law_46 (by decide) rfl) ?_
  refine rcons (rk_bipush dL_law_48 rfl rfl) ?_
  refine rcons (rk_newarray (ty := .int) rfl (fun _ => rfl) (fun _ => rfl) w_96 (by decide) (by decide) (by decide) dL_law_50 rfl) ?_
  refine rcons (rk_astore dL_law_52 (by decide) rfl) ?_
  refine rcons (rk_bipush dL_law_54 rfl rfl) ?_
  refine rcons (rk_newarray (ty := .int) rfl (fun _ => rfl) (fun _ => rfl) w_96 (by decide) (by decide) (by decide) dL_law_56 rfl) ?_
  refine rcons (rk_astore dL_law_58 (by decide) rfl) ?_
  refine rcons (rk_bipush dL_law_60 rfl rfl) ?_
  refine rcons (rk_newarray (ty := .int) rfl (fun _ => rfl) (fun _ => rfl) w_96 (by decide) (by decide) (by decide) dL_law_62 rfl) ?_
  refine rcons (rk_astore dL_law_64 (by decide) rfl) ?_
  refine rcons (rk_iconst dL_law_66 rfl rfl) ?_
  refine rcons (rk_newarray (ty := .int) rfl (fun _ => rfl) (fun _ => rfl) w_96 (by decide) (by decide) (by decide) dL_law_67 rfl) ?_
  refine rcons (rk_astore dL_law_69 (by decide) rfl) ?_
  exact fun _ h => nomatch h

