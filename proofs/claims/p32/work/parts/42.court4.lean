/-! VowCourt's own: hindrances between two, the end of a person's vows -/
theorem w_8 : (.selects "VowCourt" ⟨"VowCourt", "ageOfYounger", "(II)I"⟩ ⟨"VowCourt", "ageOfYounger", "(II)I"⟩ : Cond) ∈ TB := TB_mem (List.mem_of_getElem? (i := 8) (by decide +kernel)) rfl
theorem w_101 : (.fieldLink "VowCourt" 25 "VowCourt" "lines" "LVowCourt$Lines;" : Cond) ∈ TB := TB_mem (List.mem_of_getElem? (i := 101) (by decide +kernel)) rfl
theorem w_102 : (.fieldLink "VowCourt" 31 "VowCourt" "dispensed" "[[I" : Cond) ∈ TB := TB_mem (List.mem_of_getElem? (i := 102) (by decide +kernel)) rfl
theorem w_283 : (.fieldLink "VowCourt" 94 "VowCourt$Person" "ordered" "Z" : Cond) ∈ TB := TB_mem (List.mem_of_getElem? (i := 283) (by decide +kernel)) rfl
theorem w_406 : (.methodLink "VowCourt" 140 ⟨"VowCourt$Vow", "turn", "(II)V"⟩ : Cond) ∈ TB := TB_mem (List.mem_of_getElem? (i := 406) (by decide +kernel)) rfl
theorem w_407 : (.instanceMethod ⟨"VowCourt$Vow", "turn", "(II)V"⟩ : Cond) ∈ TB := TB_mem (List.mem_of_getElem? (i := 407) (by decide +kernel)) rfl
theorem w_408 : (.selects "VowCourt$Vow" ⟨"VowCourt$Vow", "turn", "(II)V"⟩ ⟨"VowCourt$Vow", "turn", "(II)V"⟩ : Cond) ∈ TB := TB_mem (List.mem_of_getElem? (i := 408) (by decide +kernel)) rfl
theorem w_409 : (.code yX3_turn cX3_turn 3 none : Cond) ∈ TB := TB_mem (List.mem_of_getElem? (i := 409) (by decide +kernel)) rfl
theorem w_421 : (.methodLink "VowCourt" 257 ⟨"VowCourt", "ageOfYounger", "(II)I"⟩ : Cond) ∈ TB := TB_mem (List.mem_of_getElem? (i := 421) (by decide +kernel)) rfl
theorem w_423 : (.instanceMethod ⟨"VowCourt", "ageOfYounger", "(II)I"⟩ : Cond) ∈ TB := TB_mem (List.mem_of_getElem? (i := 423) (by decide +kernel)) rfl
theorem w_424 : (.code yX4_ageOfYounger cX4_ageOfYounger 3 (some .int) : Cond) ∈ TB := TB_mem (List.mem_of_getElem? (i := 424) (by decide +kernel)) rfl
theorem w_426 : (.methodLink "VowCourt" 196 ⟨"VowCourt$Lines", "inLine", "(II)Z"⟩ : Cond) ∈ TB := TB_mem (List.mem_of_getElem? (i := 426) (by decide +kernel)) rfl
theorem w_427 : (.instanceMethod ⟨"VowCourt$Lines", "inLine", "(II)Z"⟩ : Cond) ∈ TB := TB_mem (List.mem_of_getElem? (i := 427) (by decide +kernel)) rfl
theorem w_428 : (.selects "VowCourt$Lines" ⟨"VowCourt$Lines", "inLine", "(II)Z"⟩ ⟨"VowCourt$Lines", "inLine", "(II)Z"⟩ : Cond) ∈ TB := TB_mem (List.mem_of_getElem? (i := 428) (by decide +kernel)) rfl
theorem w_429 : (.code yX1_inLine cX1_inLine 4 (some .boolean) : Cond) ∈ TB := TB_mem (List.mem_of_getElem? (i := 429) (by decide +kernel)) rfl
theorem w_434 : (.methodLink "VowCourt" 193 ⟨"VowCourt$Lines", "degree", "(II)I"⟩ : Cond) ∈ TB := TB_mem (List.mem_of_getElem? (i := 434) (by decide +kernel)) rfl
noncomputable def lh1 (s : Sg) (p q : Int32) : Int32 := iteP (aoy s p q < 5760) (0 ||| 1) 0
noncomputable def lh2 (s : Sg) (p q : Int32) : Int32 := iteP (ilC s p q ∨ dgC s p q ≤ 4) (lh1 s p q ||| 2) (lh1 s p q)
noncomputable def lh3 (s : Sg) (p q : Int32) : Int32 := iteP (¬ s.2.1 12 (cl p) 3 = 0 ∨ ¬ s.2.1 12 (cl q) 3 = 0) (lh2 s p q ||| 8) (lh2 s p q)
noncomputable def lhC (s : Sg) (p q : Int32) : Int32 := lh3 s p q &&& (s.2.1 8 (cl p) (cl q) ^^^ -1)
theorem dX4_lastingHindrances_0 : decode cX4_lastingHindrances 0 = .ok (.iconst 0, 1) := by decide +kernel
theorem dX4_lastingHindrances_1 : decode cX4_lastingHindrances 1 = .ok (.istore_n 3, 1) := by decide +kernel
theorem dX4_lastingHindrances_2 : decode cX4_lastingHindrances 2 = .ok (.aload_n 0, 1) := by decide +kernel
theorem dX4_lastingHindrances_3 : decode cX4_lastingHindrances 3 = .ok (.iload_n 1, 1) := by decide +kernel
theorem dX4_lastingHindrances_4 : decode cX4_lastingHindrances 4 = .ok (.iload_n 2, 1) := by decide +kernel
theorem dX4_lastingHindrances_5 : decode cX4_lastingHindrances 5 = .ok (.invokevirtual 257, 3) := by decide +kernel
theorem dX4_lastingHindrances_8 : decode cX4_lastingHindrances 8 = .ok (.sipush 5760, 3) := by decide +kernel
theorem dX4_lastingHindrances_11 : decode cX4_lastingHindrances 11 = .ok (.if_icmp .ge 7, 3) := by decide +kernel
theorem dX4_lastingHindrances_14 : decode cX4_lastingHindrances 14 = .ok (.iload_n 3, 1) := by decide +kernel
theorem dX4_lastingHindrances_15 : decode cX4_lastingHindrances 15 = .ok (.iconst 1, 1) := by decide +kernel
theorem dX4_lastingHindrances_16 : decode cX4_lastingHindrances 16 = .ok (.ior, 1) := by decide +kernel
theorem dX4_lastingHindrances_17 : decode cX4_lastingHindrances 17 = .ok (.istore_n 3, 1) := by decide +kernel
theorem dX4_lastingHindrances_18 : decode cX4_lastingHindrances 18 = .ok (.aload_n 0, 1) := by decide +kernel
theorem dX4_lastingHindrances_19 : decode cX4_lastingHindrances 19 = .ok (.getfield 25, 3) := by decide +kernel
theorem dX4_lastingHindrances_22 : decode cX4_lastingHindrances 22 = .ok (.iload_n 1, 1) := by decide +kernel
theorem dX4_lastingHindrances_23 : decode cX4_lastingHindrances 23 = .ok (.iload_n 2, 1) := by decide +kernel
theorem dX4_lastingHindrances_24 : decode cX4_lastingHindrances 24 = .ok (.invokevirtual 196, 3) := by decide +kernel
theorem dX4_lastingHindrances_27 : decode cX4_lastingHindrances 27 = .ok (.ifCond .ne 16, 3) := by decide +kernel
theorem dX4_lastingHindrances_30 : decode cX4_lastingHindrances 30 = .ok (.aload_n 0, 1) := by decide +kernel
theorem dX4_lastingHindrances_31 : decode cX4_lastingHindrances 31 = .ok (.getfield 25, 3) := by decide +kernel
theorem dX4_lastingHindrances_34 : decode cX4_lastingHindrances 34 = .ok (.iload_n 1, 1) := by decide +kernel
theorem dX4_lastingHindrances_35 : decode cX4_lastingHindrances 35 = .ok (.iload_n 2, 1) := by decide +kernel
theorem dX4_lastingHindrances_36 : decode cX4_lastingHindrances 36 = .ok (.invokevirtual 193, 3) := by decide +kernel
theorem dX4_lastingHindrances_39 : decode cX4_lastingHindrances 39 = .ok (.iconst 4, 1) := by decide +kernel
theorem dX4_lastingHindrances_40 : decode cX4_lastingHindrances 40 = .ok (.if_icmp .gt 7, 3) := by decide +kernel
theorem dX4_lastingHindrances_43 : decode cX4_lastingHindrances 43 = .ok (.iload_n 3, 1) := by decide +kernel
theorem dX4_lastingHindrances_44 : decode cX4_lastingHindrances 44 = .ok (.iconst 2, 1) := by decide +kernel
theorem dX4_lastingHindrances_45 : decode cX4_lastingHindrances 45 = .ok (.ior, 1) := by decide +kernel
theorem dX4_lastingHindrances_46 : decode cX4_lastingHindrances 46 = .ok (.istore_n 3, 1) := by decide +kernel
theorem dX4_lastingHindrances_47 : decode cX4_lastingHindrances 47 = .ok (.aload_n 0, 1) := by decide +kernel
theorem dX4_lastingHindrances_48 : decode cX4_lastingHindrances 48 = .ok (.iload_n 1, 1) := by decide +kernel
theorem dX4_lastingHindrances_49 : decode cX4_lastingHindrances 49 = .ok (.invokevirtual 80, 3) := by decide +kernel
theorem dX4_lastingHindrances_52 : decode cX4_lastingHindrances 52 = .ok (.getfield 94, 3) := by decide +kernel
theorem dX4_lastingHindrances_55 : decode cX4_lastingHindrances 55 = .ok (.ifCond .ne 14, 3) := by decide +kernel
theorem dX4_lastingHindrances_58 : decode cX4_lastingHindrances 58 = .ok (.aload_n 0, 1) := by decide +kernel
theorem dX4_lastingHindrances_59 : decode cX4_lastingHindrances 59 = .ok (.iload_n 2, 1) := by decide +kernel
theorem dX4_lastingHindrances_60 : decode cX4_lastingHindrances 60 = .ok (.invokevirtual 80, 3) := by decide +kernel
theorem dX4_lastingHindrances_63 : decode cX4_lastingHindrances 63 = .ok (.getfield 94, 3) := by decide +kernel
theorem dX4_lastingHindrances_66 : decode cX4_lastingHindrances 66 = .ok (.ifCond .eq 8, 3) := by decide +kernel
theorem dX4_lastingHindrances_69 : decode cX4_lastingHindrances 69 = .ok (.iload_n 3, 1) := by decide +kernel
theorem dX4_lastingHindrances_70 : decode cX4_lastingHindrances 70 = .ok (.bipush 8, 2) := by decide +kernel
theorem dX4_lastingHindrances_72 : decode cX4_lastingHindrances 72 = .ok (.ior, 1) := by decide +kernel
theorem dX4_lastingHindrances_73 : decode cX4_lastingHindrances 73 = .ok (.istore_n 3, 1) := by decide +kernel
theorem dX4_lastingHindrances_74 : decode cX4_lastingHindrances 74 = .ok (.iload_n 3, 1) := by decide +kernel
theorem dX4_lastingHindrances_75 : decode cX4_lastingHindrances 75 = .ok (.aload_n 0, 1) := by decide +kernel
theorem dX4_lastingHindrances_76 : decode cX4_lastingHindrances 76 = .ok (.getfield 31, 3) := by decide +kernel
theorem dX4_lastingHindrances_79 : decode cX4_lastingHindrances 79 = .ok (.iload_n 1, 1) := by decide +kernel
theorem dX4_lastingHindrances_80 : decode cX4_lastingHindrances 80 = .ok (.aaload, 1) := by decide +kernel
theorem dX4_lastingHindrances_81 : decode cX4_lastingHindrances 81 = .ok (.iload_n 2, 1) := by decide +kernel
theorem dX4_lastingHindrances_82 : decode cX4_lastingHindrances 82 = .ok (.iaload, 1) := by decide +kernel
theorem dX4_lastingHindrances_83 : decode cX4_lastingHindrances 83 = .ok (.iconst (-1), 1) := by decide +kernel
theorem dX4_lastingHindrances_84 : decode cX4_lastingHindrances 84 = .ok (.ixor, 1) := by decide +kernel
theorem dX4_lastingHindrances_85 : decode cX4_lastingHindrances 85 = .ok (.iand, 1) := by decide +kernel
theorem dX4_lastingHindrances_86 : decode cX4_lastingHindrances 86 = .ok (.ireturn, 1) := by decide +kernel
def tab_X4_lastingHindrances : List (Nat × Sem) := [(0, op_ic 0 1), (1, op_is 3 2), (2, op_al 0 3), (3, op_il 1 4), (4, op_il 2 5), (5, op_callV 6 sp_X4_ageOfYounger 3 2 8), (8, op_ic 5760 11), (11, op_cmp (fun x y => y ≤ x) 18 14), (14, op_il 3 15), (15, op_ic 1 16), (16, op_bin (fun x y => x ||| y) 17), (17, op_is 3 18), (18, op_al 0 19), (19, op_gf 6 3 22), (22, op_il 1 23), (23, op_il 2 24), (24, op_callV 3 sp_X1_inLine 3 0 27), (27, op_if (fun x => ¬ x = 0) 43 30), (30, op_al 0 31), (31, op_gf 6 3 34), (34, op_il 1 35), (35, op_il 2 36), (36, op_callV 3 sp_X1_degree 3 0 39), (39, op_ic 4 40), (40, op_cmp (fun x y => y < x) 47 43), (43, op_il 3 44), (44, op_ic 2 45), (45, op_bin (fun x y => x ||| y) 46), (46, op_is 3 47), (47, op_al 0 48), (48, op_il 1 49), (49, op_callV 6 sp_X4_personAt 2 1 52), (52, op_gf 4 3 55), (55, op_if (fun x => ¬ x = 0) 69 58), (58, op_al 0 59), (59, op_il 2 60), (60, op_callV 6 sp_X4_personAt 2 1 63), (63, op_gf 4 3 66), (66, op_if (fun x => x = 0) 74 69), (69, op_il 3 70), (70, op_ic 8 72), (72, op_bin (fun x y => x ||| y) 73), (73, op_is 3 74), (74, op_il 3 75), (75, op_al 0 76), (76, op_gf 6 4 79), (79, op_il 1 80), (80, op_aald 81), (81, op_il 2 82), (82, op_iald 83), (83, op_ic (-1) 84), (84, op_bin (fun x y => x ^^^ y) 85), (85, op_bin (fun x y => x &&& y) 86), (86, op_iret)]
set_option maxRecDepth 20000 in
theorem tok_X4_lastingHindrances : ∀ q ∈ tab_X4_lastingHindrances, Snd RX4 cX4_lastingHindrances 4 9 4 (some .int) q.1 q.2 := by
  unfold tab_X4_lastingHindrances
  refine tcons (ok_iconst dX4_lastingHindrances_0 rfl rfl) ?_
  refine tcons (ok_istore_n dX4_lastingHindrances_1 rfl (by decide) rfl) ?_
  refine tcons (ok_aload_n dX4_lastingHindrances_2 rfl rfl) ?_
  refine tcons (ok_iload_n dX4_lastingHindrances_3 rfl rfl) ?_
  refine tcons (ok_iload_n dX4_lastingHindrances_4 rfl rfl) ?_
  refine tcons (ok_invokevirtual M_X4_ageOfYounger (C := RX4) (T := TX4) (nf := 8) rfl w_421 w_423 w_8 w_20 w_424 ⟨rfl, by decide, by decide, by decide +kernel⟩ (by decide) (by decide) dX4_lastingHindrances_5 rfl) ?_
  refine tcons (ok_sipush dX4_lastingHindrances_8 rfl rfl) ?_
  refine tcons (ok_icmp_ge dX4_lastingHindrances_11 rfl rfl) ?_
  refine tcons (ok_iload_n dX4_lastingHindrances_14 rfl rfl) ?_
  refine tcons (ok_iconst dX4_lastingHindrances_15 rfl rfl) ?_
  refine tcons (ok_ior dX4_lastingHindrances_16 rfl) ?_
  refine tcons (ok_istore_n dX4_lastingHindrances_17 rfl (by decide) rfl) ?_
  refine tcons (ok_aload_n dX4_lastingHindrances_18 rfl rfl) ?_
  refine tcons (ok_getfield (C := RX4) (T := TX4) (n := 8) rfl in_X4 (by decide) w_101 dX4_lastingHindrances_19 rfl) ?_
  refine tcons (ok_iload_n dX4_lastingHindrances_22 rfl rfl) ?_
  refine tcons (ok_iload_n dX4_lastingHindrances_23 rfl rfl) ?_
  refine tcons (ok_invokevirtual M_X1_inLine (C := RX1) (T := TX1) (nf := 1) rfl w_426 w_427 w_428 w_24 w_429 ⟨rfl, by decide, by decide, by decide +kernel⟩ (by decide) (by decide) dX4_lastingHindrances_24 rfl) ?_
  refine tcons (ok_if_ne dX4_lastingHindrances_27 rfl rfl) ?_
  refine tcons (ok_aload_n dX4_lastingHindrances_30 rfl rfl) ?_
  refine tcons (ok_getfield (C := RX4) (T := TX4) (n := 8) rfl in_X4 (by decide) w_101 dX4_lastingHindrances_31 rfl) ?_
  refine tcons (ok_iload_n dX4_lastingHindrances_34 rfl rfl) ?_
  refine tcons (ok_iload_n dX4_lastingHindrances_35 rfl rfl) ?_
  refine tcons (ok_invokevirtual M_X1_degree (C := RX1) (T := TX1) (nf := 1) rfl w_434 w_431 w_432 w_24 w_433 ⟨rfl, by decide, by decide, by decide +kernel⟩ (by decide) (by decide) dX4_lastingHindrances_36 rfl) ?_
  refine tcons (ok_iconst dX4_lastingHindrances_39 rfl rfl) ?_
  refine tcons (ok_icmp_gt dX4_lastingHindrances_40 rfl rfl) ?_
  refine tcons (ok_iload_n dX4_lastingHindrances_43 rfl rfl) ?_
  refine tcons (ok_iconst dX4_lastingHindrances_44 rfl rfl) ?_
  refine tcons (ok_ior dX4_lastingHindrances_45 rfl) ?_
  refine tcons (ok_istore_n dX4_lastingHindrances_46 rfl (by decide) rfl) ?_
  refine tcons (ok_aload_n dX4_lastingHindrances_47 rfl rfl) ?_
  refine tcons (ok_iload_n dX4_lastingHindrances_48 rfl rfl) ?_
  refine tcons (ok_invokevirtual M_X4_personAt (C := RX4) (T := TX4) (nf := 8) rfl w_360 w_362 w_5 w_20 w_363 ⟨rfl, by decide, by decide, by decide +kernel⟩ (by decide) (by decide) dX4_lastingHindrances_49 rfl) ?_
  refine tcons (ok_getfield (C := RX2) (T := TX2) (n := 6) rfl in_X2 (by decide) w_283 dX4_lastingHindrances_52 rfl) ?_
  refine tcons (ok_if_ne dX4_lastingHindrances_55 rfl rfl) ?_
  refine tcons (ok_aload_n dX4_lastingHindrances_58 rfl rfl) ?_
  refine tcons (ok_iload_n dX4_lastingHindrances_59 rfl rfl) ?_
  refine tcons (ok_invokevirtual M_X4_personAt (C := RX4) (T := TX4) (nf := 8) rfl w_360 w_362 w_5 w_20 w_363 ⟨rfl, by decide, by decide, by decide +kernel⟩ (by decide) (by decide) dX4_lastingHindrances_60 rfl) ?_
  refine tcons (ok_getfield (C := RX2) (T := TX2) (n := 6) rfl in_X2 (by decide) w_283 dX4_lastingHindrances_63 rfl) ?_
  refine tcons (ok_if_eq dX4_lastingHindrances_66 rfl rfl) ?_
  refine tcons (ok_iload_n dX4_lastingHindrances_69 rfl rfl) ?_
  refine tcons (ok_bipush dX4_lastingHindrances_70 rfl rfl) ?_
  refine tcons (ok_ior dX4_lastingHindrances_72 rfl) ?_
  refine tcons (ok_istore_n dX4_lastingHindrances_73 rfl (by decide) rfl) ?_
  refine tcons (ok_iload_n dX4_lastingHindrances_74 rfl rfl) ?_
  refine tcons (ok_aload_n dX4_lastingHindrances_75 rfl rfl) ?_
  refine tcons (ok_getfield (C := RX4) (T := TX4) (n := 8) rfl in_X4 (by decide) w_102 dX4_lastingHindrances_76 rfl) ?_
  refine tcons (ok_iload_n dX4_lastingHindrances_79 rfl rfl) ?_
  refine tcons (ok_aaload dX4_lastingHindrances_80 rfl) ?_
  refine tcons (ok_iload_n dX4_lastingHindrances_81 rfl rfl) ?_
  refine tcons (ok_iaload dX4_lastingHindrances_82 rfl) ?_
  refine tcons (ok_iconst dX4_lastingHindrances_83 rfl rfl) ?_
  refine tcons (ok_ixor dX4_lastingHindrances_84 rfl) ?_
  refine tcons (ok_iand dX4_lastingHindrances_85 rfl) ?_
  refine tcons (ok_ireturn rfl dX4_lastingHindrances_86) ?_
  exact fun _ h => nomatch h
def sp_X4_lastingHindrances : Spc := fun av s N X => match av with
  | [.inl (.inr (1, 0)), .inl (.inl p), .inl (.inl q)] => CI s ∧ iC s 0 p ∧ iC s 0 q ∧ N (some (aI (lhC s p q))) s
  | _ => False
set_option maxRecDepth 20000 in
set_option maxHeartbeats 2000000 in
theorem M_X4_lastingHindrances : AMet yX4_lastingHindrances cX4_lastingHindrances 4 (some .int) 9 4 sp_X4_lastingHindrances := by
  refine AMet.mc (own := RX4) (by decide) rfl [0, 1, 2, 3] rfl tok_X4_lastingHindrances 200 ?_
  intro av s0 N X h
  unfold sp_X4_lastingHindrances at h
  split at h
  rotate_left
  · exact h.elim
  rename_i p q
  obtain ⟨hC, hp, hq, h⟩ := h
  have bp := iC_I hC hp
  have bq := iC_I hC hq
  have lp := iC_p hC hp
  have lq := iC_p hC hq
  refine ⟨[(18, fun w u L st s => w = 3 ∧ u = 2 ∧ L = [(0, .inr (1, 0)), (1, .inl p), (2, .inl q), (3, .inl (lh1 s0 p q))] ∧ st = [] ∧ s = s0),
    (47, fun w u L st s => w = 2 ∧ u = 2 ∧ L = [(0, .inr (1, 0)), (1, .inl p), (2, .inl q), (3, .inl (lh2 s0 p q))] ∧ st = [] ∧ s = s0),
    (74, fun w u L st s => w = 1 ∧ (u = 3 ∨ u = 4) ∧ L = [(0, .inr (1, 0)), (1, .inl p), (2, .inl q), (3, .inl (lh3 s0 p q))] ∧ st = [] ∧ s = s0)], ?_, ac ?_ (ac ?_ (ac ?_ an))⟩
  · repeat' (first | apply And.intro | (intro q; exact absurd q (by decide)) | intro _)
    all_goals first | (with_reducible exact hC) | (with_reducible exact hp) | (with_reducible exact hq) | decide | (exact (rfl : (0 : Nat) = 0)) | (exact Nat.le_of_ble_eq_true rfl) | skip
    · rename_i z
      refine ⟨3, 4, trivial, rfl, rfl, ?_, rfl, rfl⟩
      rw [lh1, iteP_f (Int32.not_lt.mpr z)]; rfl
    · rename_i z
      refine ⟨3, 4, trivial, rfl, rfl, ?_, rfl, rfl⟩
      rw [lh1, iteP_t (Int32.not_le.mp z)]; rfl
  · rintro w u L st s ⟨rfl, rfl, rfl, rfl, rfl⟩
    clear h
    repeat' (first | apply And.intro | (intro q; exact absurd q (by decide)) | intro _)
    all_goals first | (with_reducible exact bp) | (with_reducible exact bq) | decide | (exact (rfl : (0 : Nat) = 0)) | (exact Nat.le_of_ble_eq_true rfl) | skip
    · rename_i z _
      refine ⟨2, 4, by omega, rfl, rfl, ?_, rfl, rfl⟩
      rw [lh2, iteP_t (Or.inl z)]; rfl
    · rename_i z1 _ z2
      refine ⟨2, 4, by omega, rfl, rfl, ?_, rfl, rfl⟩
      rw [lh2, iteP_f (fun z => z.elim z1 (Int32.not_le.mpr z2))]; rfl
    · rename_i z1 _ z2
      refine ⟨2, 4, by omega, rfl, rfl, ?_, rfl, rfl⟩
      rw [lh2, iteP_t (Or.inr (Int32.not_lt.mp z2))]; rfl
  · rintro w u L st s ⟨rfl, rfl, rfl, rfl, rfl⟩
    clear h
    repeat' (first | apply And.intro | (intro q; exact absurd q (by decide)) | (intro q; exact absurd hp q) | (intro q; exact absurd hq q) | intro _)
    all_goals first | (with_reducible exact hC) | decide | (exact (rfl : (0 : Nat) = 0)) | (exact Nat.le_of_ble_eq_true rfl) | (with_reducible exact lp) | (with_reducible exact lq) | skip
    · rename_i z1
      refine ⟨1, 4, by omega, rfl, Or.inl rfl, ?_, rfl, rfl⟩
      rw [lh3, iteP_t (Or.inl z1)]; rfl
    · rename_i z1 _ z2
      refine ⟨1, 4, by omega, rfl, Or.inr rfl, ?_, rfl, rfl⟩
      rw [lh3, iteP_f (fun z => z.elim (fun y => z1 y) (fun y => y z2))]; rfl
    · rename_i z1 _ z2
      refine ⟨1, 4, by omega, rfl, Or.inr rfl, ?_, rfl, rfl⟩
      rw [lh3, iteP_t (Or.inr z2)]; rfl
  · rintro w u L st s ⟨rfl, hu, rfl, rfl, rfl⟩
    repeat' (first | apply And.intro | (intro q; exact absurd q (by decide)) | intro _)
    all_goals first | (with_reducible exact bp) | (with_reducible exact bq) | decide | (exact (rfl : (0 : Nat) = 0)) | (rcases hu with rfl | rfl <;> decide) | (exact Ib_lt bp) | exact h
def cbD (s : Sg) (p q k : Int32) : Prop := (k = 1 ∧ ¬ aoy s p q < 5040) ∨ (k = 2 ∧ ¬ ilC s p q ∧ ¬ dgC s p q ≤ 2) ∨ k = 8
theorem dX4_canBeDispensed_0 : decode cX4_canBeDispensed 0 = .ok (.iload_n 3, 1) := by decide +kernel
theorem dX4_canBeDispensed_1 : decode cX4_canBeDispensed 1 = .ok (.iconst 1, 1) := by decide +kernel
theorem dX4_canBeDispensed_2 : decode cX4_canBeDispensed 2 = .ok (.if_icmp .ne 21, 3) := by decide +kernel
theorem dX4_canBeDispensed_5 : decode cX4_canBeDispensed 5 = .ok (.aload_n 0, 1) := by decide +kernel
theorem dX4_canBeDispensed_6 : decode cX4_canBeDispensed 6 = .ok (.iload_n 1, 1) := by decide +kernel
theorem dX4_canBeDispensed_7 : decode cX4_canBeDispensed 7 = .ok (.iload_n 2, 1) := by decide +kernel
theorem dX4_canBeDispensed_8 : decode cX4_canBeDispensed 8 = .ok (.invokevirtual 257, 3) := by decide +kernel
theorem dX4_canBeDispensed_11 : decode cX4_canBeDispensed 11 = .ok (.sipush 5040, 3) := by decide +kernel
theorem dX4_canBeDispensed_14 : decode cX4_canBeDispensed 14 = .ok (.if_icmp .lt 7, 3) := by decide +kernel
theorem dX4_canBeDispensed_17 : decode cX4_canBeDispensed 17 = .ok (.iconst 1, 1) := by decide +kernel
theorem dX4_canBeDispensed_18 : decode cX4_canBeDispensed 18 = .ok (.goto 4, 3) := by decide +kernel
theorem dX4_canBeDispensed_21 : decode cX4_canBeDispensed 21 = .ok (.iconst 0, 1) := by decide +kernel
theorem dX4_canBeDispensed_22 : decode cX4_canBeDispensed 22 = .ok (.ireturn, 1) := by decide +kernel
theorem dX4_canBeDispensed_23 : decode cX4_canBeDispensed 23 = .ok (.iload_n 3, 1) := by decide +kernel
theorem dX4_canBeDispensed_24 : decode cX4_canBeDispensed 24 = .ok (.iconst 2, 1) := by decide +kernel
theorem dX4_canBeDispensed_25 : decode cX4_canBeDispensed 25 = .ok (.if_icmp .ne 34, 3) := by decide +kernel
theorem dX4_canBeDispensed_28 : decode cX4_canBeDispensed 28 = .ok (.aload_n 0, 1) := by decide +kernel
theorem dX4_canBeDispensed_29 : decode cX4_canBeDispensed 29 = .ok (.getfield 25, 3) := by decide +kernel
theorem dX4_canBeDispensed_32 : decode cX4_canBeDispensed 32 = .ok (.iload_n 1, 1) := by decide +kernel
theorem dX4_canBeDispensed_33 : decode cX4_canBeDispensed 33 = .ok (.iload_n 2, 1) := by decide +kernel
theorem dX4_canBeDispensed_34 : decode cX4_canBeDispensed 34 = .ok (.invokevirtual 196, 3) := by decide +kernel
theorem dX4_canBeDispensed_37 : decode cX4_canBeDispensed 37 = .ok (.ifCond .ne 20, 3) := by decide +kernel
theorem dX4_canBeDispensed_40 : decode cX4_canBeDispensed 40 = .ok (.aload_n 0, 1) := by decide +kernel
theorem dX4_canBeDispensed_41 : decode cX4_canBeDispensed 41 = .ok (.getfield 25, 3) := by decide +kernel
theorem dX4_canBeDispensed_44 : decode cX4_canBeDispensed 44 = .ok (.iload_n 1, 1) := by decide +kernel
theorem dX4_canBeDispensed_45 : decode cX4_canBeDispensed 45 = .ok (.iload_n 2, 1) := by decide +kernel
theorem dX4_canBeDispensed_46 : decode cX4_canBeDispensed 46 = .ok (.invokevirtual 193, 3) := by decide +kernel
theorem dX4_canBeDispensed_49 : decode cX4_canBeDispensed 49 = .ok (.iconst 2, 1) := by decide +kernel
theorem dX4_canBeDispensed_50 : decode cX4_canBeDispensed 50 = .ok (.if_icmp .le 7, 3) := by decide +kernel
theorem dX4_canBeDispensed_53 : decode cX4_canBeDispensed 53 = .ok (.iconst 1, 1) := by decide +kernel
theorem dX4_canBeDispensed_54 : decode cX4_canBeDispensed 54 = .ok (.goto 4, 3) := by decide +kernel
theorem dX4_canBeDispensed_57 : decode cX4_canBeDispensed 57 = .ok (.iconst 0, 1) := by decide +kernel
theorem dX4_canBeDispensed_58 : decode cX4_canBeDispensed 58 = .ok (.ireturn, 1) := by decide +kernel
theorem dX4_canBeDispensed_59 : decode cX4_canBeDispensed 59 = .ok (.iload_n 3, 1) := by decide +kernel
theorem dX4_canBeDispensed_60 : decode cX4_canBeDispensed 60 = .ok (.bipush 8, 2) := by decide +kernel
theorem dX4_canBeDispensed_62 : decode cX4_canBeDispensed 62 = .ok (.if_icmp .ne 7, 3) := by decide +kernel
theorem dX4_canBeDispensed_65 : decode cX4_canBeDispensed 65 = .ok (.iconst 1, 1) := by decide +kernel
theorem dX4_canBeDispensed_66 : decode cX4_canBeDispensed 66 = .ok (.goto 4, 3) := by decide +kernel
theorem dX4_canBeDispensed_69 : decode cX4_canBeDispensed 69 = .ok (.iconst 0, 1) := by decide +kernel
theorem dX4_canBeDispensed_70 : decode cX4_canBeDispensed 70 = .ok (.ireturn, 1) := by decide +kernel
def tab_X4_canBeDispensed : List (Nat × Sem) := [(0, op_il 3 1), (1, op_ic 1 2), (2, op_cmp (fun x y => ¬ x = y) 23 5), (5, op_al 0 6), (6, op_il 1 7), (7, op_il 2 8), (8, op_callV 6 sp_X4_ageOfYounger 3 2 11), (11, op_ic 5040 14), (14, op_cmp (fun x y => x < y) 21 17), (17, op_ic 1 18), (18, op_go 22), (21, op_ic 0 22), (22, op_zret), (23, op_il 3 24), (24, op_ic 2 25), (25, op_cmp (fun x y => ¬ x = y) 59 28), (28, op_al 0 29), (29, op_gf 6 3 32), (32, op_il 1 33), (33, op_il 2 34), (34, op_callV 3 sp_X1_inLine 3 0 37), (37, op_if (fun x => ¬ x = 0) 57 40), (40, op_al 0 41), (41, op_gf 6 3 44), (44, op_il 1 45), (45, op_il 2 46), (46, op_callV 3 sp_X1_degree 3 0 49), (49, op_ic 2 50), (50, op_cmp (fun x y => x ≤ y) 57 53), (53, op_ic 1 54), (54, op_go 58), (57, op_ic 0 58), (58, op_zret), (59, op_il 3 60), (60, op_ic 8 62), (62, op_cmp (fun x y => ¬ x = y) 69 65), (65, op_ic 1 66), (66, op_go 70), (69, op_ic 0 70), (70, op_zret)]
set_option maxRecDepth 20000 in
theorem tok_X4_canBeDispensed : ∀ q ∈ tab_X4_canBeDispensed, Snd RX4 cX4_canBeDispensed 4 9 2 (some .boolean) q.1 q.2 := by
  unfold tab_X4_canBeDispensed
  refine tcons (ok_iload_n dX4_canBeDispensed_0 rfl rfl) ?_
  refine tcons (ok_iconst dX4_canBeDispensed_1 rfl rfl) ?_
  refine tcons (ok_icmp_ne dX4_canBeDispensed_2 rfl rfl) ?_
  refine tcons (ok_aload_n dX4_canBeDispensed_5 rfl rfl) ?_
  refine tcons (ok_iload_n dX4_canBeDispensed_6 rfl rfl) ?_
  refine tcons (ok_iload_n dX4_canBeDispensed_7 rfl rfl) ?_
  refine tcons (ok_invokevirtual M_X4_ageOfYounger (C := RX4) (T := TX4) (nf := 8) rfl w_421 w_423 w_8 w_20 w_424 ⟨rfl, by decide, by decide, by decide +kernel⟩ (by decide) (by decide) dX4_canBeDispensed_8 rfl) ?_
  refine tcons (ok_sipush dX4_canBeDispensed_11 rfl rfl) ?_
  refine tcons (ok_icmp_lt dX4_canBeDispensed_14 rfl rfl) ?_
  refine tcons (ok_iconst dX4_canBeDispensed_17 rfl rfl) ?_
  refine tcons (ok_goto dX4_canBeDispensed_18 rfl) ?_
  refine tcons (ok_iconst dX4_canBeDispensed_21 rfl rfl) ?_
  refine tcons (ok_zreturn rfl (Or.inl rfl) dX4_canBeDispensed_22) ?_
  refine tcons (ok_iload_n dX4_canBeDispensed_23 rfl rfl) ?_
  refine tcons (ok_iconst dX4_canBeDispensed_24 rfl rfl) ?_
  refine tcons (ok_icmp_ne dX4_canBeDispensed_25 rfl rfl) ?_
  refine tcons (ok_aload_n dX4_canBeDispensed_28 rfl rfl) ?_
  refine tcons (ok_getfield (C := RX4) (T := TX4) (n := 8) rfl in_X4 (by decide) w_101 dX4_canBeDispensed_29 rfl) ?_
  refine tcons (ok_iload_n dX4_canBeDispensed_32 rfl rfl) ?_
  refine tcons (ok_iload_n dX4_canBeDispensed_33 rfl rfl) ?_
  refine tcons (ok_invokevirtual M_X1_inLine (C := RX1) (T := TX1) (nf := 1) rfl w_426 w_427 w_428 w_24 w_429 ⟨rfl, by decide, by decide, by decide +kernel⟩ (by decide) (by decide) dX4_canBeDispensed_34 rfl) ?_
  refine tcons (ok_if_ne dX4_canBeDispensed_37 rfl rfl) ?_
  refine tcons (ok_aload_n dX4_canBeDispensed_40 rfl rfl) ?_
  refine tcons (ok_getfield (C := RX4) (T := TX4) (n := 8) rfl in_X4 (by decide) w_101 dX4_canBeDispensed_41 rfl) ?_
  refine tcons (ok_iload_n dX4_canBeDispensed_44 rfl rfl) ?_
  refine tcons (ok_iload_n dX4_canBeDispensed_45 rfl rfl) ?_
  refine tcons (ok_invokevirtual M_X1_degree (C := RX1) (T := TX1) (nf := 1) rfl w_434 w_431 w_432 w_24 w_433 ⟨rfl, by decide, by decide, by decide +kernel⟩ (by decide) (by decide) dX4_canBeDispensed_46 rfl) ?_
  refine tcons (ok_iconst dX4_canBeDispensed_49 rfl rfl) ?_
  refine tcons (ok_icmp_le dX4_canBeDispensed_50 rfl rfl) ?_
  refine tcons (ok_iconst dX4_canBeDispensed_53 rfl rfl) ?_
  refine tcons (ok_goto dX4_canBeDispensed_54 rfl) ?_
  refine tcons (ok_iconst dX4_canBeDispensed_57 rfl rfl) ?_
  refine tcons (ok_zreturn rfl (Or.inl rfl) dX4_canBeDispensed_58) ?_
  refine tcons (ok_iload_n dX4_canBeDispensed_59 rfl rfl) ?_
  refine tcons (ok_bipush dX4_canBeDispensed_60 rfl rfl) ?_
  refine tcons (ok_icmp_ne dX4_canBeDispensed_62 rfl rfl) ?_
  refine tcons (ok_iconst dX4_canBeDispensed_65 rfl rfl) ?_
  refine tcons (ok_goto dX4_canBeDispensed_66 rfl) ?_
  refine tcons (ok_iconst dX4_canBeDispensed_69 rfl rfl) ?_
  refine tcons (ok_zreturn rfl (Or.inl rfl) dX4_canBeDispensed_70) ?_
  exact fun _ h => nomatch h
def sp_X4_canBeDispensed : Spc := fun av s N X => match av with
  | [.inl (.inr (1, 0)), .inl (.inl p), .inl (.inl q), .inl (.inl k)] => CI s ∧ iC s 0 p ∧ iC s 0 q ∧ br (cbD s p q k) N s
  | _ => False
set_option maxRecDepth 20000 in
set_option maxHeartbeats 2000000 in
theorem M_X4_canBeDispensed : AMet yX4_canBeDispensed cX4_canBeDispensed 4 (some .boolean) 9 2 sp_X4_canBeDispensed := by
  refine AMet.mk (own := RX4) (by decide) rfl [0, 1, 2, 3] rfl tok_X4_canBeDispensed 200 ?_
  intro av s0 N X h
  unfold sp_X4_canBeDispensed at h
  split at h
  rotate_left
  · exact h.elim
  refine ⟨fun _ => none, ?_, fun pc P hP => nomatch hP⟩
  repeat' (first | apply And.intro | (intro q; exact absurd q (by decide)) | intro _)
  all_goals first | decide | (exact (rfl : (0 : Nat) = 0)) | (exact Nat.le_of_ble_eq_true rfl) | (exact h.1) | (exact h.2.1) | (exact h.2.2.1) | (exact iC_I h.1 h.2.1) | (exact iC_I h.1 h.2.2.1) | (simp_all [-Int32.not_lt, -Int32.not_le, br, cbD]; done) | (simp_all [-Int32.not_lt, -Int32.not_le, ← Int32.not_le, br, cbD]; done) | (simp_all [br, cbD]; done)
def evB (s : Sg) (k : Nat) (p : Int32) : Prop := s.2.1 13 k 6 = 0 ∧ (p = s.2.1 13 k 0 ∨ p = s.2.1 13 k 1)
noncomputable def evS (s : Sg) (p t : Int32) : Nat → Sg
  | 0 => s
  | k + 1 => iteP (evB (evS s p t k) k p) (stS (stS (evS s p t k) 13 k 6 3) 13 k 7 t) (evS s p t k)
noncomputable def evN (s : Sg) (p t : Int32) : Nat → Int32
  | 0 => 0
  | k + 1 => iteP (evB (evS s p t k) k p) (evN s p t k + 1) (evN s p t k)
theorem evS_1 {s : Sg} {p t : Int32} : ∀ k, (evS s p t k).1 = s.1
  | 0 => rfl
  | k + 1 => by
    rw [evS]
    by_cases h : evB (evS s p t k) k p
    · rw [iteP_t h]; exact evS_1 k
    · rw [iteP_f h]; exact evS_1 k
theorem evS_o {s : Sg} {p t : Int32} {a b c : Nat} (ha : ¬ a = 13) : ∀ k, (evS s p t k).2.1 a b c = s.2.1 a b c
  | 0 => rfl
  | k + 1 => by
    rw [evS]
    by_cases h : evB (evS s p t k) k p
    · rw [iteP_t h, stS_get, if_neg (fun z => ha z.1), stS_get, if_neg (fun z => ha z.1)]; exact evS_o ha k
    · rw [iteP_f h]; exact evS_o ha k
theorem dX4_endVowsOf_0 : decode cX4_endVowsOf 0 = .ok (.iconst 0, 1) := by decide +kernel
theorem dX4_endVowsOf_1 : decode cX4_endVowsOf 1 = .ok (.istore_n 2, 1) := by decide +kernel
theorem dX4_endVowsOf_2 : decode cX4_endVowsOf 2 = .ok (.iconst 0, 1) := by decide +kernel
theorem dX4_endVowsOf_3 : decode cX4_endVowsOf 3 = .ok (.istore_n 3, 1) := by decide +kernel
theorem dX4_endVowsOf_4 : decode cX4_endVowsOf 4 = .ok (.iload_n 3, 1) := by decide +kernel
theorem dX4_endVowsOf_5 : decode cX4_endVowsOf 5 = .ok (.aload_n 0, 1) := by decide +kernel
theorem dX4_endVowsOf_6 : decode cX4_endVowsOf 6 = .ok (.getfield 16, 3) := by decide +kernel
theorem dX4_endVowsOf_9 : decode cX4_endVowsOf 9 = .ok (.invokevirtual 60, 3) := by decide +kernel
theorem dX4_endVowsOf_12 : decode cX4_endVowsOf 12 = .ok (.if_icmp .ge 52, 3) := by decide +kernel
theorem dX4_endVowsOf_15 : decode cX4_endVowsOf 15 = .ok (.aload_n 0, 1) := by decide +kernel
theorem dX4_endVowsOf_16 : decode cX4_endVowsOf 16 = .ok (.getfield 16, 3) := by decide +kernel
theorem dX4_endVowsOf_19 : decode cX4_endVowsOf 19 = .ok (.iload_n 3, 1) := by decide +kernel
theorem dX4_endVowsOf_20 : decode cX4_endVowsOf 20 = .ok (.invokevirtual 253, 3) := by decide +kernel
theorem dX4_endVowsOf_23 : decode cX4_endVowsOf 23 = .ok (.checkcast 119, 3) := by decide +kernel
theorem dX4_endVowsOf_26 : decode cX4_endVowsOf 26 = .ok (.astore 4, 2) := by decide +kernel
theorem dX4_endVowsOf_28 : decode cX4_endVowsOf 28 = .ok (.aload 4, 2) := by decide +kernel
theorem dX4_endVowsOf_30 : decode cX4_endVowsOf 30 = .ok (.getfield 128, 3) := by decide +kernel
theorem dX4_endVowsOf_33 : decode cX4_endVowsOf 33 = .ok (.ifCond .ne 25, 3) := by decide +kernel
theorem dX4_endVowsOf_36 : decode cX4_endVowsOf 36 = .ok (.aload 4, 2) := by decide +kernel
theorem dX4_endVowsOf_38 : decode cX4_endVowsOf 38 = .ok (.iload_n 1, 1) := by decide +kernel
theorem dX4_endVowsOf_39 : decode cX4_endVowsOf 39 = .ok (.invokevirtual 277, 3) := by decide +kernel
theorem dX4_endVowsOf_42 : decode cX4_endVowsOf 42 = .ok (.ifCond .eq 16, 3) := by decide +kernel
theorem dX4_endVowsOf_45 : decode cX4_endVowsOf 45 = .ok (.aload 4, 2) := by decide +kernel
theorem dX4_endVowsOf_47 : decode cX4_endVowsOf 47 = .ok (.iconst 3, 1) := by decide +kernel
theorem dX4_endVowsOf_48 : decode cX4_endVowsOf 48 = .ok (.aload_n 0, 1) := by decide +kernel
theorem dX4_endVowsOf_49 : decode cX4_endVowsOf 49 = .ok (.getfield 41, 3) := by decide +kernel
theorem dX4_endVowsOf_52 : decode cX4_endVowsOf 52 = .ok (.invokevirtual 140, 3) := by decide +kernel
theorem dX4_endVowsOf_55 : decode cX4_endVowsOf 55 = .ok (.iinc 2 1, 3) := by decide +kernel
theorem dX4_endVowsOf_58 : decode cX4_endVowsOf 58 = .ok (.iinc 3 1, 3) := by decide +kernel
theorem dX4_endVowsOf_61 : decode cX4_endVowsOf 61 = .ok (.goto (-57), 3) := by decide +kernel
theorem dX4_endVowsOf_64 : decode cX4_endVowsOf 64 = .ok (.iload_n 2, 1) := by decide +kernel
theorem dX4_endVowsOf_65 : decode cX4_endVowsOf 65 = .ok (.ireturn, 1) := by decide +kernel
def tab_X4_endVowsOf : List (Nat × Sem) := [(0, op_ic 0 1), (1, op_is 2 2), (2, op_ic 0 3), (3, op_is 3 4), (4, op_il 3 5), (5, op_al 0 6), (6, op_gf 6 1 9), (9, op_callV 1 sp_Jx4a65c_size_8abf5 1 0 12), (12, op_cmp (fun x y => y ≤ x) 64 15), (15, op_al 0 16), (16, op_gf 6 1 19), (19, op_il 3 20), (20, op_callV 1 sp_Jx4a65c_get_915e3 2 0 23), (23, op_cc 5 26), (26, op_as 4 28), (28, op_al 4 30), (30, op_gf 5 6 33), (33, op_if (fun x => ¬ x = 0) 58 36), (36, op_al 4 38), (38, op_il 1 39), (39, op_callV 5 sp_X3_isOf 2 0 42), (42, op_if (fun x => x = 0) 58 45), (45, op_al 4 47), (47, op_ic 3 48), (48, op_al 0 49), (49, op_gf 6 7 52), (52, op_callV 5 sp_X3_turn 3 0 55), (55, op_inc 2 1 58), (58, op_inc 3 1 61), (61, op_go 4), (64, op_il 2 65), (65, op_iret)]
set_option maxRecDepth 20000 in
theorem tok_X4_endVowsOf : ∀ q ∈ tab_X4_endVowsOf, Snd RX4 cX4_endVowsOf 5 4 0 (some .int) q.1 q.2 := by
  unfold tab_X4_endVowsOf
  refine tcons (ok_iconst dX4_endVowsOf_0 rfl rfl) ?_
  refine tcons (ok_istore_n dX4_endVowsOf_1 rfl (by decide) rfl) ?_
  refine tcons (ok_iconst dX4_endVowsOf_2 rfl rfl) ?_
  refine tcons (ok_istore_n dX4_endVowsOf_3 rfl (by decide) rfl) ?_
  refine tcons (ok_iload_n dX4_endVowsOf_4 rfl rfl) ?_
  refine tcons (ok_aload_n dX4_endVowsOf_5 rfl rfl) ?_
  refine tcons (ok_getfield (C := RX4) (T := TX4) (n := 8) rfl in_X4 (by decide) w_99 dX4_endVowsOf_6 rfl) ?_
  refine tcons (ok_invokevirtual M_Jx4a65c_size_8abf5 (C := RJx4a65c) (T := TJx4a65c) (nf := 3) rfl w_142 w_143 w_144 w_23 w_145 ⟨rfl, by decide, by decide, by decide +kernel⟩ (by decide) (by decide) dX4_endVowsOf_9 rfl) ?_
  refine tcons (ok_icmp_ge dX4_endVowsOf_12 rfl rfl) ?_
  refine tcons (ok_aload_n dX4_endVowsOf_15 rfl rfl) ?_
  refine tcons (ok_getfield (C := RX4) (T := TX4) (n := 8) rfl in_X4 (by decide) w_99 dX4_endVowsOf_16 rfl) ?_
  refine tcons (ok_iload_n dX4_endVowsOf_19 rfl rfl) ?_
  refine tcons (ok_invokevirtual M_Jx4a65c_get_915e3 (C := RJx4a65c) (T := TJx4a65c) (nf := 3) rfl w_364 w_365 w_366 w_23 w_367 ⟨rfl, by decide, by decide, by decide +kernel⟩ (by decide) (by decide) dX4_endVowsOf_20 rfl) ?_
  refine tcons (ok_checkcast (C := RX3) (T := TX3) (n := 8) rfl w_401 dX4_endVowsOf_23 rfl) ?_
  refine tcons (ok_astore dX4_endVowsOf_26 (by decide) rfl) ?_
  refine tcons (ok_aload dX4_endVowsOf_28 rfl) ?_
  refine tcons (ok_getfield (C := RX3) (T := TX3) (n := 8) rfl in_X3 (by decide) w_479 dX4_endVowsOf_30 rfl) ?_
  refine tcons (ok_if_ne dX4_endVowsOf_33 rfl rfl) ?_
  refine tcons (ok_aload dX4_endVowsOf_36 rfl) ?_
  refine tcons (ok_iload_n dX4_endVowsOf_38 rfl rfl) ?_
  refine tcons (ok_invokevirtual M_X3_isOf (C := RX3) (T := TX3) (nf := 8) rfl w_402 w_403 w_404 w_38 w_405 ⟨rfl, by decide, by decide, by decide +kernel⟩ (by decide) (by decide) dX4_endVowsOf_39 rfl) ?_
  refine tcons (ok_if_eq dX4_endVowsOf_42 rfl rfl) ?_
  refine tcons (ok_aload dX4_endVowsOf_45 rfl) ?_
  refine tcons (ok_iconst dX4_endVowsOf_47 rfl rfl) ?_
  refine tcons (ok_aload_n dX4_endVowsOf_48 rfl rfl) ?_
  refine tcons (ok_getfield (C := RX4) (T := TX4) (n := 8) rfl in_X4 (by decide) w_105 dX4_endVowsOf_49 rfl) ?_
  refine tcons (ok_invokevirtual M_X3_turn (C := RX3) (T := TX3) (nf := 8) rfl w_406 w_407 w_408 w_38 w_409 ⟨rfl, by decide, by decide, by decide +kernel⟩ (by decide) (by decide) dX4_endVowsOf_52 rfl) ?_
  refine tcons (ok_iinc dX4_endVowsOf_55 rfl (by decide) rfl) ?_
  refine tcons (ok_iinc dX4_endVowsOf_58 rfl (by decide) rfl) ?_
  refine tcons (ok_goto dX4_endVowsOf_61 rfl) ?_
  refine tcons (ok_iload_n dX4_endVowsOf_64 rfl rfl) ?_
  refine tcons (ok_ireturn rfl dX4_endVowsOf_65) ?_
  exact fun _ h => nomatch h
def sp_X4_endVowsOf : Spc := fun av s N X => match av with
  | [.inl (.inr (1, 0)), .inl (.inl p)] => CI s ∧ N (some (aI (evN s p (s.2.1 1 0 7) (s.1 1)))) (evS s p (s.2.1 1 0 7) (s.1 1))
  | _ => False
set_option maxRecDepth 20000 in
set_option maxHeartbeats 2000000 in
theorem M_X4_endVowsOf : AMet yX4_endVowsOf cX4_endVowsOf 5 (some .int) 4 0 sp_X4_endVowsOf := by
  refine AMet.mc (own := RX4) (by decide) rfl [0, 1, 2, 3, 4] rfl tok_X4_endVowsOf 200 ?_
  intro av s0 N X h
  unfold sp_X4_endVowsOf at h
  split at h
  rotate_left
  · exact h.elim
  rename_i p
  obtain ⟨hC, h⟩ := h
  have hlt := Gd_lt (CI_1 hC)
  have g1 := CI_1 hC
  obtain ⟨t, ht⟩ : ∃ z, z = s0.2.1 1 0 7 := ⟨_, rfl⟩
  rw [← ht] at h
  refine ⟨[(4, fun w u L st s => ∃ k, k ≤ s0.1 1 ∧ w = s0.1 1 - k ∧ u = 0 ∧ L = [(0, .inr (1, 0)), (1, .inl p), (2, .inl (evN s0 p t k)), (3, .inl (nI k))] ∧ st = [] ∧ s = evS s0 p t k)], ?_, ac ?_ an⟩
  · repeat' (first | apply And.intro | (intro q; exact absurd q (by decide)) | intro _)
    all_goals first | decide | (exact (rfl : (0 : Nat) = 0)) | (exact Nat.le_of_ble_eq_true rfl) | (exact ⟨s0.1 1, 4, trivial, 0, Nat.zero_le _, rfl, rfl, rfl, rfl, rfl⟩)
  · rintro w u L st s ⟨k, hk, rfl, rfl, rfl, rfl, rfl⟩
    have e1 := evS_1 (s := s0) (p := p) (t := t) k
    have et : (evS s0 p t k).2.1 1 0 7 = t := by rw [evS_o (by decide), ht]
    have es : evS s0 p t (k + 1) = iteP (evB (evS s0 p t k) k p) (stS (stS (evS s0 p t k) 13 k 6 3) 13 k 7 t) (evS s0 p t k) := rfl
    have en : evN s0 p t (k + 1) = iteP (evB (evS s0 p t k) k p) (evN s0 p t k + 1) (evN s0 p t k) := rfl
    by_cases hkm : k < s0.1 1
    · obtain ⟨z, hz⟩ : ∃ z, z = evS s0 p t k := ⟨_, rfl⟩
      rw [← hz] at e1 et es en ⊢
      have hle2 : ¬ nI (z.1 1) ≤ nI k := fun q => by rw [e1] at q; have := (nIge (N := 200) (by omega) (by omega) (by decide)).mp q; omega
      have gz : Gd z 1 := by unfold Gd; rw [e1]; exact g1
      have h0 : (0 : Int32) ≤ nI k := Int32.not_lt.mp (nI_pos (by omega))
      have h1 : nI k < nI (z.1 1) := by rw [e1]; exact nI_lt (by omega) (by omega)
      have ck : cl (nI k) = k := nI_clamp (by omega)
      have hv : Lv z 13 (cl (nI k)) := by rw [ck]; show k < z.1 1 + z.1 7; rw [e1]; omega
      have hbk : evB z (cl (nI k)) p = evB z k p := by rw [ck]
      have fs : stS (stS z 13 (cl (nI k)) 6 3) 13 (cl (nI k)) 7 (z.2.1 1 0 7) = stS (stS z 13 k 6 3) 13 k 7 t := by rw [ck, et]
      clear h hz hC
      by_cases hb : evB z k p
      · rw [iteP_t hb] at es en
        rw [← hbk] at hb
        rw [← fs] at es
        have hb1 : z.2.1 13 (cl (nI k)) 6 = 0 := hb.1
        have hb2 : p = z.2.1 13 (cl (nI k)) 0 ∨ p = z.2.1 13 (cl (nI k)) 1 := hb.2
        repeat' (first | apply And.intro | (intro q; exact absurd q (by decide)) | (intro q; exact absurd q hle2) | (intro q; exact absurd hb1 q) | (intro q; exact absurd hb2 q) | intro _)
        all_goals first | (with_reducible exact gz) | (with_reducible exact h0) | (with_reducible exact h1) | (exact (rfl : (0 : Nat) = 0)) | (exact Nat.le_of_ble_eq_true rfl) | (exact hv) |
          (exact ⟨s0.1 1 - (k + 1), 4, by omega, k + 1, by omega, rfl, rfl, by rw [← nIs, en]; rfl, rfl, by rw [es]⟩)
      · rw [iteP_f hb] at es en
        rw [← hbk] at hb
        repeat' (first | apply And.intro | (intro q; exact absurd q (by decide)) | (intro q; exact absurd q hle2) | intro _)
        all_goals first | (with_reducible exact gz) | (with_reducible exact h0) | (with_reducible exact h1) | (exact (rfl : (0 : Nat) = 0)) | (exact Nat.le_of_ble_eq_true rfl) | (exact hv) | (exact absurd (⟨Classical.not_not.mp (by assumption), by assumption⟩ : evB z (cl (nI k)) p) hb) |
          (exact ⟨s0.1 1 - (k + 1), 4, by omega, k + 1, by omega, rfl, rfl, by rw [← nIs, en]; rfl, rfl, by rw [es]⟩)
    · obtain rfl : k = s0.1 1 := by omega
      have hle : nI ((evS s0 p t (s0.1 1)).1 1) ≤ nI (s0.1 1) := by rw [e1]; exact nI_le (Nat.le_refl _) (by omega)
      repeat' (first | apply And.intro | (intro q; exact absurd q (by decide)) | (intro q; exact absurd hle q) | intro _)
      all_goals first | decide | (exact (rfl : (0 : Nat) = 0)) | (exact Nat.le_of_ble_eq_true rfl) | exact h

