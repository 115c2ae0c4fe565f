/-! VowCourt.person, vow, cause -/
theorem w_33 : (.initialized "VowCourt$Person" : Cond) ∈ TB := TB_mem (List.mem_of_getElem? (i := 33) (by decide +kernel)) rfl
theorem w_236 : (.constant "VowCourt" 56 (36000) : Cond) ∈ TB := TB_mem (List.mem_of_getElem? (i := 236) (by decide +kernel)) rfl
theorem w_259 : (.methodLink "VowCourt" 67 ⟨"VowCourt$Lines", "enter", "(III)V"⟩ : Cond) ∈ TB := TB_mem (List.mem_of_getElem? (i := 259) (by decide +kernel)) rfl
theorem w_260 : (.instanceMethod ⟨"VowCourt$Lines", "enter", "(III)V"⟩ : Cond) ∈ TB := TB_mem (List.mem_of_getElem? (i := 260) (by decide +kernel)) rfl
theorem w_261 : (.selects "VowCourt$Lines" ⟨"VowCourt$Lines", "enter", "(III)V"⟩ ⟨"VowCourt$Lines", "enter", "(III)V"⟩ : Cond) ∈ TB := TB_mem (List.mem_of_getElem? (i := 261) (by decide +kernel)) rfl
theorem w_262 : (.code yX1_enter cX1_enter 6 none : Cond) ∈ TB := TB_mem (List.mem_of_getElem? (i := 262) (by decide +kernel)) rfl
theorem w_271 : (.instantiable "VowCourt$Person" 6 : Cond) ∈ TB := TB_mem (List.mem_of_getElem? (i := 271) (by decide +kernel)) rfl
theorem w_272 : (.methodLink "VowCourt" 73 ⟨"VowCourt$Person", "<init>", "(II)V"⟩ : Cond) ∈ TB := TB_mem (List.mem_of_getElem? (i := 272) (by decide +kernel)) rfl
theorem w_273 : (.instanceMethod ⟨"VowCourt$Person", "<init>", "(II)V"⟩ : Cond) ∈ TB := TB_mem (List.mem_of_getElem? (i := 273) (by decide +kernel)) rfl
theorem w_274 : (.code yX2_init cX2_init 3 none : Cond) ∈ TB := TB_mem (List.mem_of_getElem? (i := 274) (by decide +kernel)) rfl
theorem w_301 : (.methodLink "VowCourt" 76 ⟨"java/util/ArrayList", "add", "(Ljava/lang/Object;)Z"⟩ : Cond) ∈ TB := TB_mem (List.mem_of_getElem? (i := 301) (by decide +kernel)) rfl
theorem w_302 : (.instanceMethod ⟨"java/util/ArrayList", "add", "(Ljava/lang/Object;)Z"⟩ : Cond) ∈ TB := TB_mem (List.mem_of_getElem? (i := 302) (by decide +kernel)) rfl
theorem w_303 : (.selects "java/util/ArrayList" ⟨"java/util/ArrayList", "add", "(Ljava/lang/Object;)Z"⟩ ⟨"java/util/ArrayList", "add", "(Ljava/lang/Object;)Z"⟩ : Cond) ∈ TB := TB_mem (List.mem_of_getElem? (i := 303) (by decide +kernel)) rfl
theorem w_304 : (.code yJx4a65c_add_9ea2d cJx4a65c_add_9ea2d 2 (some .boolean) : Cond) ∈ TB := TB_mem (List.mem_of_getElem? (i := 304) (by decide +kernel)) rfl
/-- between two calls: nothing made is outside its list, no row is being made -/
def GI (s : Sg) : Prop := ((s.1 6 = 0 ∧ s.1 7 = 0 ∧ s.1 8 = 0) ∧ (s.1 9 = 0 ∧ s.1 10 = 0 ∧ s.1 11 = 0) ∧ s.1 14 = 0 ∧ (s.1 3 ≤ 48 ∧ s.1 4 ≤ 48 ∧ s.1 5 ≤ 48) ∧ (¬ s.1 3 = 1 ∧ ¬ s.1 4 = 1 ∧ ¬ s.1 5 = 1)) = True
def persT (s : Sg) (age f m h : Int32) : Sg := piC (newS (enC s (s.1 0) f m) 0 1) (s.1 0) ((newS (enC s (s.1 0) f m) 0 1).2.1 1 0 7 - age) h
def perS (s : Sg) (age f m h : Int32) : Sg := addS (stS (persT s age f m h) 2 0 0 ((persT s age f m h).2.1 2 0 0 + 1)) 0
theorem iC_ex {s : Sg} {k : Nat} {j : Int32} (h : iC s k j) (hk : s.1 k < 100) : ∃ q, q < s.1 k ∧ j = nI q := by
  have h0 := iC0 h
  have h1 := iC1 h
  have hnn : ¬ j < 0 := Int32.not_lt.mpr h0
  obtain ⟨q, hq, rfl⟩ := nI_of hnn
  exact ⟨q, (nI_ltI hq (by omega)).mp h1, rfl⟩
theorem dX4_person_0 : decode cX4_person 0 = .ok (.iload_n 2, 1) := by decide +kernel
theorem dX4_person_1 : decode cX4_person 1 = .ok (.iconst (-1), 1) := by decide +kernel
theorem dX4_person_2 : decode cX4_person 2 = .ok (.if_icmp .eq 11, 3) := by decide +kernel
theorem dX4_person_5 : decode cX4_person 5 = .ok (.aload_n 0, 1) := by decide +kernel
theorem dX4_person_6 : decode cX4_person 6 = .ok (.iload_n 2, 1) := by decide +kernel
theorem dX4_person_7 : decode cX4_person 7 = .ok (.invokevirtual 45, 3) := by decide +kernel
theorem dX4_person_10 : decode cX4_person 10 = .ok (.ifCond .eq 7, 3) := by decide +kernel
theorem dX4_person_13 : decode cX4_person 13 = .ok (.iconst 1, 1) := by decide +kernel
theorem dX4_person_14 : decode cX4_person 14 = .ok (.goto 4, 3) := by decide +kernel
theorem dX4_person_17 : decode cX4_person 17 = .ok (.iconst 0, 1) := by decide +kernel
theorem dX4_person_18 : decode cX4_person 18 = .ok (.invokestatic 49, 3) := by decide +kernel
theorem dX4_person_21 : decode cX4_person 21 = .ok (.iload_n 3, 1) := by decide +kernel
theorem dX4_person_22 : decode cX4_person 22 = .ok (.iconst (-1), 1) := by decide +kernel
theorem dX4_person_23 : decode cX4_person 23 = .ok (.if_icmp .eq 11, 3) := by decide +kernel
theorem dX4_person_26 : decode cX4_person 26 = .ok (.aload_n 0, 1) := by decide +kernel
theorem dX4_person_27 : decode cX4_person 27 = .ok (.iload_n 3, 1) := by decide +kernel
theorem dX4_person_28 : decode cX4_person 28 = .ok (.invokevirtual 45, 3) := by decide +kernel
theorem dX4_person_31 : decode cX4_person 31 = .ok (.ifCond .eq 7, 3) := by decide +kernel
theorem dX4_person_34 : decode cX4_person 34 = .ok (.iconst 1, 1) := by decide +kernel
theorem dX4_person_35 : decode cX4_person 35 = .ok (.goto 4, 3) := by decide +kernel
theorem dX4_person_38 : decode cX4_person 38 = .ok (.iconst 0, 1) := by decide +kernel
theorem dX4_person_39 : decode cX4_person 39 = .ok (.invokestatic 49, 3) := by decide +kernel
theorem dX4_person_42 : decode cX4_person 42 = .ok (.iload_n 2, 1) := by decide +kernel
theorem dX4_person_43 : decode cX4_person 43 = .ok (.iconst (-1), 1) := by decide +kernel
theorem dX4_person_44 : decode cX4_person 44 = .ok (.if_icmp .eq 8, 3) := by decide +kernel
theorem dX4_person_47 : decode cX4_person 47 = .ok (.iload_n 2, 1) := by decide +kernel
theorem dX4_person_48 : decode cX4_person 48 = .ok (.iload_n 3, 1) := by decide +kernel
theorem dX4_person_49 : decode cX4_person 49 = .ok (.if_icmp .eq 7, 3) := by decide +kernel
theorem dX4_person_52 : decode cX4_person 52 = .ok (.iconst 1, 1) := by decide +kernel
theorem dX4_person_53 : decode cX4_person 53 = .ok (.goto 4, 3) := by decide +kernel
theorem dX4_person_56 : decode cX4_person 56 = .ok (.iconst 0, 1) := by decide +kernel
theorem dX4_person_57 : decode cX4_person 57 = .ok (.invokestatic 53, 3) := by decide +kernel
theorem dX4_person_60 : decode cX4_person 60 = .ok (.iload_n 1, 1) := by decide +kernel
theorem dX4_person_61 : decode cX4_person 61 = .ok (.ifCond .lt 21, 3) := by decide +kernel
theorem dX4_person_64 : decode cX4_person 64 = .ok (.iload_n 1, 1) := by decide +kernel
theorem dX4_person_65 : decode cX4_person 65 = .ok (.ldc 56, 2) := by decide +kernel
theorem dX4_person_67 : decode cX4_person 67 = .ok (.if_icmp .gt 15, 3) := by decide +kernel
theorem dX4_person_70 : decode cX4_person 70 = .ok (.iload 4, 2) := by decide +kernel
theorem dX4_person_72 : decode cX4_person 72 = .ok (.invokestatic 57, 3) := by decide +kernel
theorem dX4_person_75 : decode cX4_person 75 = .ok (.ifCond .eq 7, 3) := by decide +kernel
theorem dX4_person_78 : decode cX4_person 78 = .ok (.iconst 1, 1) := by decide +kernel
theorem dX4_person_79 : decode cX4_person 79 = .ok (.goto 4, 3) := by decide +kernel
theorem dX4_person_82 : decode cX4_person 82 = .ok (.iconst 0, 1) := by decide +kernel
theorem dX4_person_83 : decode cX4_person 83 = .ok (.invokestatic 53, 3) := by decide +kernel
theorem dX4_person_86 : decode cX4_person 86 = .ok (.aload_n 0, 1) := by decide +kernel
theorem dX4_person_87 : decode cX4_person 87 = .ok (.getfield 12, 3) := by decide +kernel
theorem dX4_person_90 : decode cX4_person 90 = .ok (.invokevirtual 60, 3) := by decide +kernel
theorem dX4_person_93 : decode cX4_person 93 = .ok (.bipush 24, 2) := by decide +kernel
theorem dX4_person_95 : decode cX4_person 95 = .ok (.if_icmp .ge 7, 3) := by decide +kernel
theorem dX4_person_98 : decode cX4_person 98 = .ok (.iconst 1, 1) := by decide +kernel
theorem dX4_person_99 : decode cX4_person 99 = .ok (.goto 4, 3) := by decide +kernel
theorem dX4_person_102 : decode cX4_person 102 = .ok (.iconst 0, 1) := by decide +kernel
theorem dX4_person_103 : decode cX4_person 103 = .ok (.invokestatic 64, 3) := by decide +kernel
theorem dX4_person_106 : decode cX4_person 106 = .ok (.aload_n 0, 1) := by decide +kernel
theorem dX4_person_107 : decode cX4_person 107 = .ok (.getfield 12, 3) := by decide +kernel
theorem dX4_person_110 : decode cX4_person 110 = .ok (.invokevirtual 60, 3) := by decide +kernel
theorem dX4_person_113 : decode cX4_person 113 = .ok (.istore 5, 2) := by decide +kernel
theorem dX4_person_115 : decode cX4_person 115 = .ok (.aload_n 0, 1) := by decide +kernel
theorem dX4_person_116 : decode cX4_person 116 = .ok (.getfield 25, 3) := by decide +kernel
theorem dX4_person_119 : decode cX4_person 119 = .ok (.iload 5, 2) := by decide +kernel
theorem dX4_person_121 : decode cX4_person 121 = .ok (.iload_n 2, 1) := by decide +kernel
theorem dX4_person_122 : decode cX4_person 122 = .ok (.iload_n 3, 1) := by decide +kernel
theorem dX4_person_123 : decode cX4_person 123 = .ok (.invokevirtual 67, 3) := by decide +kernel
theorem dX4_person_126 : decode cX4_person 126 = .ok (.aload_n 0, 1) := by decide +kernel
theorem dX4_person_127 : decode cX4_person 127 = .ok (.getfield 12, 3) := by decide +kernel
theorem dX4_person_130 : decode cX4_person 130 = .ok (.new 71, 3) := by decide +kernel
theorem dX4_person_133 : decode cX4_person 133 = .ok (.dup, 1) := by decide +kernel
theorem dX4_person_134 : decode cX4_person 134 = .ok (.aload_n 0, 1) := by decide +kernel
theorem dX4_person_135 : decode cX4_person 135 = .ok (.getfield 41, 3) := by decide +kernel
theorem dX4_person_138 : decode cX4_person 138 = .ok (.iload_n 1, 1) := by decide +kernel
theorem dX4_person_139 : decode cX4_person 139 = .ok (.isub, 1) := by decide +kernel
theorem dX4_person_140 : decode cX4_person 140 = .ok (.iload 4, 2) := by decide +kernel
theorem dX4_person_142 : decode cX4_person 142 = .ok (.invokespecial 73, 3) := by decide +kernel
theorem dX4_person_145 : decode cX4_person 145 = .ok (.invokevirtual 76, 3) := by decide +kernel
theorem dX4_person_148 : decode cX4_person 148 = .ok (.pop, 1) := by decide +kernel
theorem dX4_person_149 : decode cX4_person 149 = .ok (.iload 5, 2) := by decide +kernel
theorem dX4_person_151 : decode cX4_person 151 = .ok (.ireturn, 1) := by decide +kernel
def tab_X4_person : List (Nat × Sem) := [(0, op_il 2 1), (1, op_ic (-1) 2), (2, op_cmp (fun x y => x = y) 13 5), (5, op_al 0 6), (6, op_il 2 7), (7, op_callV 6 sp_X4_isPerson 2 0 10), (10, op_if (fun x => x = 0) 17 13), (13, op_ic 1 14), (14, op_go 18), (17, op_ic 0 18), (18, op_call sp_X4_checkIndex 1 1 21), (21, op_il 3 22), (22, op_ic (-1) 23), (23, op_cmp (fun x y => x = y) 34 26), (26, op_al 0 27), (27, op_il 3 28), (28, op_callV 6 sp_X4_isPerson 2 0 31), (31, op_if (fun x => x = 0) 38 34), (34, op_ic 1 35), (35, op_go 39), (38, op_ic 0 39), (39, op_call sp_X4_checkIndex 1 1 42), (42, op_il 2 43), (43, op_ic (-1) 44), (44, op_cmp (fun x y => x = y) 52 47), (47, op_il 2 48), (48, op_il 3 49), (49, op_cmp (fun x y => x = y) 56 52), (52, op_ic 1 53), (53, op_go 57), (56, op_ic 0 57), (57, op_call sp_X4_checkArgument 1 1 60), (60, op_il 1 61), (61, op_if (fun x => x < 0) 82 64), (64, op_il 1 65), (65, op_ic 36000 67), (67, op_cmp (fun x y => y < x) 82 70), (70, op_il 4 72), (72, op_call sp_X4_isPlace 1 0 75), (75, op_if (fun x => x = 0) 82 78), (78, op_ic 1 79), (79, op_go 83), (82, op_ic 0 83), (83, op_call sp_X4_checkArgument 1 1 86), (86, op_al 0 87), (87, op_gf 6 0 90), (90, op_callV 1 sp_Jx4a65c_size_8abf5 1 0 93), (93, op_ic 24 95), (95, op_cmp (fun x y => y ≤ x) 102 98), (98, op_ic 1 99), (99, op_go 103), (102, op_ic 0 103), (103, op_call sp_X4_checkPossible 1 1 106), (106, op_al 0 107), (107, op_gf 6 0 110), (110, op_callV 1 sp_Jx4a65c_size_8abf5 1 0 113), (113, op_is 5 115), (115, op_al 0 116), (116, op_gf 6 3 119), (119, op_il 5 121), (121, op_il 2 122), (122, op_il 3 123), (123, op_callV 3 sp_X1_enter 4 0 126), (126, op_al 0 127), (127, op_gf 6 0 130), (130, op_newP 0 133), (133, op_dup 134), (134, op_al 0 135), (135, op_gf 6 7 138), (138, op_il 1 139), (139, op_bin (fun x y => x - y) 140), (140, op_il 4 142), (142, op_callI sp_X2_init 3 0 145), (145, op_callGV 1 sp_Jx4a65c_add_9ea2d 2 2 148), (148, op_pop 149), (149, op_il 5 151), (151, op_iret)]
set_option maxRecDepth 20000 in
theorem tok_X4_person : ∀ q ∈ tab_X4_person, GSnd RX4 cX4_person 6 7 9 (some .int) q.1 q.2 := by
  unfold tab_X4_person
  refine gcons (snd_g (ok_iload_n dX4_person_0 rfl rfl)) ?_
  refine gcons (snd_g (ok_iconst dX4_person_1 rfl rfl)) ?_
  refine gcons (snd_g (ok_icmp_eq dX4_person_2 rfl rfl)) ?_
  refine gcons (snd_g (ok_aload_n dX4_person_5 rfl rfl)) ?_
  refine gcons (snd_g (ok_iload_n dX4_person_6 rfl rfl)) ?_
  refine gcons (snd_g (ok_invokevirtual M_X4_isPerson (C := RX4) (T := TX4) (nf := 8) rfl w_138 w_140 w_0 w_20 w_141 ⟨rfl, by decide, by decide, by decide +kernel⟩ (by decide) (by decide) dX4_person_7 rfl)) ?_
  refine gcons (snd_g (ok_if_eq dX4_person_10 rfl rfl)) ?_
  refine gcons (snd_g (ok_iconst dX4_person_13 rfl rfl)) ?_
  refine gcons (snd_g (ok_goto dX4_person_14 rfl)) ?_
  refine gcons (snd_g (ok_iconst dX4_person_17 rfl rfl)) ?_
  refine gcons (snd_g (ok_invokestatic M_X4_checkIndex w_146 w_147 w_20 w_148 ⟨by decide, by decide, by decide +kernel⟩ (by decide) (by decide) dX4_person_18 rfl)) ?_
  refine gcons (snd_g (ok_iload_n dX4_person_21 rfl rfl)) ?_
  refine gcons (snd_g (ok_iconst dX4_person_22 rfl rfl)) ?_
  refine gcons (snd_g (ok_icmp_eq dX4_person_23 rfl rfl)) ?_
  refine gcons (snd_g (ok_aload_n dX4_person_26 rfl rfl)) ?_
  refine gcons (snd_g (ok_iload_n dX4_person_27 rfl rfl)) ?_
  refine gcons (snd_g (ok_invokevirtual M_X4_isPerson (C := RX4) (T := TX4) (nf := 8) rfl w_138 w_140 w_0 w_20 w_141 ⟨rfl, by decide, by decide, by decide +kernel⟩ (by decide) (by decide) dX4_person_28 rfl)) ?_
  refine gcons (snd_g (ok_if_eq dX4_person_31 rfl rfl)) ?_
  refine gcons (snd_g (ok_iconst dX4_person_34 rfl rfl)) ?_
  refine gcons (snd_g (ok_goto dX4_person_35 rfl)) ?_
  refine gcons (snd_g (ok_iconst dX4_person_38 rfl rfl)) ?_
  refine gcons (snd_g (ok_invokestatic M_X4_checkIndex w_146 w_147 w_20 w_148 ⟨by decide, by decide, by decide +kernel⟩ (by decide) (by decide) dX4_person_39 rfl)) ?_
  refine gcons (snd_g (ok_iload_n dX4_person_42 rfl rfl)) ?_
  refine gcons (snd_g (ok_iconst dX4_person_43 rfl rfl)) ?_
  refine gcons (snd_g (ok_icmp_eq dX4_person_44 rfl rfl)) ?_
  refine gcons (snd_g (ok_iload_n dX4_person_47 rfl rfl)) ?_
  refine gcons (snd_g (ok_iload_n dX4_person_48 rfl rfl)) ?_
  refine gcons (snd_g (ok_icmp_eq dX4_person_49 rfl rfl)) ?_
  refine gcons (snd_g (ok_iconst dX4_person_52 rfl rfl)) ?_
  refine gcons (snd_g (ok_goto dX4_person_53 rfl)) ?_
  refine gcons (snd_g (ok_iconst dX4_person_56 rfl rfl)) ?_
  refine gcons (snd_g (ok_invokestatic M_X4_checkArgument w_217 w_218 w_20 w_219 ⟨by decide, by decide, by decide +kernel⟩ (by decide) (by decide) dX4_person_57 rfl)) ?_
  refine gcons (snd_g (ok_iload_n dX4_person_60 rfl rfl)) ?_
  refine gcons (snd_g (ok_if_lt dX4_person_61 rfl rfl)) ?_
  refine gcons (snd_g (ok_iload_n dX4_person_64 rfl rfl)) ?_
  refine gcons (snd_g (ok_ldc w_236 dX4_person_65 rfl)) ?_
  refine gcons (snd_g (ok_icmp_gt dX4_person_67 rfl rfl)) ?_
  refine gcons (snd_g (ok_iload dX4_person_70 rfl)) ?_
  refine gcons (snd_g (ok_invokestatic M_X4_isPlace w_237 w_238 w_20 w_239 ⟨by decide, by decide, by decide +kernel⟩ (by decide) (by decide) dX4_person_72 rfl)) ?_
  refine gcons (snd_g (ok_if_eq dX4_person_75 rfl rfl)) ?_
  refine gcons (snd_g (ok_iconst dX4_person_78 rfl rfl)) ?_
  refine gcons (snd_g (ok_goto dX4_person_79 rfl)) ?_
  refine gcons (snd_g (ok_iconst dX4_person_82 rfl rfl)) ?_
  refine gcons (snd_g (ok_invokestatic M_X4_checkArgument w_217 w_218 w_20 w_219 ⟨by decide, by decide, by decide +kernel⟩ (by decide) (by decide) dX4_person_83 rfl)) ?_
  refine gcons (snd_g (ok_aload_n dX4_person_86 rfl rfl)) ?_
  refine gcons (snd_g (ok_getfield (C := RX4) (T := TX4) (n := 8) rfl in_X4 (by decide) w_98 dX4_person_87 rfl)) ?_
  refine gcons (snd_g (ok_invokevirtual M_Jx4a65c_size_8abf5 (C := RJx4a65c) (T := TJx4a65c) (nf := 3) rfl w_142 w_143 w_144 w_23 w_145 ⟨rfl, by decide, by decide, by decide +kernel⟩ (by decide) (by decide) dX4_person_90 rfl)) ?_
  refine gcons (snd_g (ok_bipush dX4_person_93 rfl rfl)) ?_
  refine gcons (snd_g (ok_icmp_ge dX4_person_95 rfl rfl)) ?_
  refine gcons (snd_g (ok_iconst dX4_person_98 rfl rfl)) ?_
  refine gcons (snd_g (ok_goto dX4_person_99 rfl)) ?_
  refine gcons (snd_g (ok_iconst dX4_person_102 rfl rfl)) ?_
  refine gcons (snd_g (ok_invokestatic M_X4_checkPossible w_240 w_241 w_20 w_242 ⟨by decide, by decide, by decide +kernel⟩ (by decide) (by decide) dX4_person_103 rfl)) ?_
  refine gcons (snd_g (ok_aload_n dX4_person_106 rfl rfl)) ?_
  refine gcons (snd_g (ok_getfield (C := RX4) (T := TX4) (n := 8) rfl in_X4 (by decide) w_98 dX4_person_107 rfl)) ?_
  refine gcons (snd_g (ok_invokevirtual M_Jx4a65c_size_8abf5 (C := RJx4a65c) (T := TJx4a65c) (nf := 3) rfl w_142 w_143 w_144 w_23 w_145 ⟨rfl, by decide, by decide, by decide +kernel⟩ (by decide) (by decide) dX4_person_110 rfl)) ?_
  refine gcons (snd_g (ok_istore dX4_person_113 (by decide) rfl)) ?_
  refine gcons (snd_g (ok_aload_n dX4_person_115 rfl rfl)) ?_
  refine gcons (snd_g (ok_getfield (C := RX4) (T := TX4) (n := 8) rfl in_X4 (by decide) w_101 dX4_person_116 rfl)) ?_
  refine gcons (snd_g (ok_iload dX4_person_119 rfl)) ?_
  refine gcons (snd_g (ok_iload_n dX4_person_121 rfl rfl)) ?_
  refine gcons (snd_g (ok_iload_n dX4_person_122 rfl rfl)) ?_
  refine gcons (snd_g (ok_invokevirtual M_X1_enter (C := RX1) (T := TX1) (nf := 1) rfl w_259 w_260 w_261 w_24 w_262 ⟨rfl, by decide, by decide, by decide +kernel⟩ (by decide) (by decide) dX4_person_123 rfl)) ?_
  refine gcons (snd_g (ok_aload_n dX4_person_126 rfl rfl)) ?_
  refine gcons (snd_g (ok_getfield (C := RX4) (T := TX4) (n := 8) rfl in_X4 (by decide) w_98 dX4_person_127 rfl)) ?_
  refine gcons (ok_newP (a := 0) (C := RX2) (T := TX2) (n := 6) tyX2 (by decide) rfl rfl (fun _ _ => rfl) in_X2 tyX2_ok (by intro j hj; match j, hj with | 0, _ => rfl | 1, _ => rfl | 2, _ => rfl | 3, _ => rfl | 4, _ => rfl | 5, _ => rfl) w_270 w_271 w_33 (by decide) dX4_person_130 rfl) ?_
  refine gcons (snd_g (ok_dup dX4_person_133 rfl)) ?_
  refine gcons (snd_g (ok_aload_n dX4_person_134 rfl rfl)) ?_
  refine gcons (snd_g (ok_getfield (C := RX4) (T := TX4) (n := 8) rfl in_X4 (by decide) w_105 dX4_person_135 rfl)) ?_
  refine gcons (snd_g (ok_iload_n dX4_person_138 rfl rfl)) ?_
  refine gcons (snd_g (ok_isub dX4_person_139 rfl)) ?_
  refine gcons (snd_g (ok_iload dX4_person_140 rfl)) ?_
  refine gcons (snd_g (ok_invokeinit M_X2_init w_272 w_273 w_33 w_274 rfl ⟨by decide, by decide, by decide +kernel⟩ (by decide) (by decide) dX4_person_142 rfl)) ?_
  refine gcons (ok_invokevirtualG M_Jx4a65c_add_9ea2d (C := RJx4a65c) (T := TJx4a65c) (nf := 3) rfl w_301 w_302 w_303 w_23 w_304 ⟨rfl, by decide, by decide, by decide +kernel⟩ (by decide) (by decide) dX4_person_145 rfl) ?_
  refine gcons (snd_g (ok_pop dX4_person_148 rfl)) ?_
  refine gcons (snd_g (ok_iload dX4_person_149 rfl)) ?_
  refine gcons (snd_g (ok_ireturn rfl dX4_person_151)) ?_
  exact fun _ h => nomatch h
def sp_X4_person : Spc := fun av s N X => match av with
  | [.inl (.inr (1, 0)), .inl (.inl age), .inl (.inl f), .inl (.inl m), .inl (.inl h)] => CI s ∧ GI s ∧ chk (f = -1 ∨ iC s 0 f) 1 s X (chk (m = -1 ∨ iC s 0 m) 1 s X (chk (f = -1 ∨ ¬ f = m) 2 s X (chk ((0 ≤ age ∧ age ≤ 36000) ∧ (0 ≤ h ∧ h < 8)) 2 s X (chk (nI (s.1 0) < 24) 3 s X (N (some (aI (nI (s.1 0)))) (perS s age f m h))))))
  | _ => False
set_option maxRecDepth 20000 in
set_option maxHeartbeats 2000000 in
theorem M_X4_person : GMet yX4_person cX4_person 6 (some .int) 7 9 sp_X4_person := by
  refine GMet.mk (own := RX4) (by decide) rfl [0, 1, 2, 3, 4, 5] rfl tok_X4_person 200 ?_
  intro av s0 N X h
  unfold sp_X4_person at h
  split at h
  rotate_left
  · exact h.elim
  rename_i age f m h9
  obtain ⟨hC, hG, h⟩ := h
  repeat' (first | apply And.intro | (intro q; exact absurd q (by decide)) | intro _)
  all_goals first | decide | (exact (rfl : (0 : Nat) = 0)) | (exact Nat.le_of_ble_eq_true rfl) | (exact hC) | (simp_all [-Int32.not_lt, -Int32.not_le, chk]; done) | (simp_all [-Int32.not_lt, -Int32.not_le, ← Int32.not_le, chk]; done) | (simp_all [chk]; done) | skip
  all_goals
    have hG' := of_eq_true hG
    have h24 : s0.1 0 ≤ 24 := (of_eq_true hC).2.2.2.1
    have hg0 := of_eq_true (CI_0 hC)
    have p1 : f = -1 ∨ iC s0 0 f := by first | exact Or.inl (by assumption) | exact Or.inr (by assumption)
    have p2 : m = -1 ∨ iC s0 0 m := by first | exact Or.inl (by assumption) | exact Or.inr (by assumption)
    have p3 : f = -1 ∨ ¬ f = m := by first | exact Or.inl (by assumption) | exact Or.inr (by assumption)
    have p5 : nI (s0.1 0) < 24 := Int32.not_le.mp (by assumption)
    have p4 : (0 ≤ age ∧ age ≤ 36000) ∧ (0 ≤ h9 ∧ h9 < 8) := ⟨⟨Int32.not_lt.mp (by assumption), Int32.not_lt.mp (by assumption)⟩, by assumption⟩
    have hN := (((((h.2 p1).2 p2).2 p3).2 p4).2 p5)
    have hlt : s0.1 0 < 24 := (nI_ltI (by omega) (by decide)).mp (show nI (s0.1 0) < nI 24 from p5)
    refine ⟨s0.1 0, hlt, rfl, p1.imp id (fun q => iC_ex q (by omega)), p2.imp id (fun q => iC_ex q (by omega)), ?_⟩
    refine ⟨rfl, by decide, hG'.1.1, hG'.2.1.1, hG'.2.2.1, ⟨(by decide : 0 < 3), trivial⟩, rfl, rfl, by decide, Nat.le_of_ble_eq_true rfl, ?_, rfl, ?_⟩
    · show s0.1 0 < (newS (enC s0 (s0.1 0) f m) 0 1).1 0 + (newS (enC s0 (s0.1 0) f m) 0 1).1 6
      rw [newS_1 (by decide), show (newS (enC s0 (s0.1 0) f m) 0 1).1 6 = 1 from rfl]
      exact Nat.lt_succ_self _
    · exact ⟨(by decide : 0 < 3), by decide, Nat.le_of_ble_eq_true rfl, trivial, rfl, rfl, rfl, by decide, hg0.1, Nat.le_trans h24 (by decide), hG'.2.2.2.1.1, hG'.2.2.2.2.1, hG'.2.2.1, rfl, hG'.2.1.1, by decide, hN⟩

