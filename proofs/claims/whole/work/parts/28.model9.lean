theorem dX5_proof_0 : decode cX5_proof 0 = .ok (.iload_n 2, 1) := by decide +kernel
theorem dX5_proof_1 : decode cX5_proof 1 = .ok (.iconst 0, 1) := by decide +kernel
theorem dX5_proof_2 : decode cX5_proof 2 = .ok (.bipush 6, 2) := by decide +kernel
theorem dX5_proof_4 : decode cX5_proof 4 = .ok (.invokestatic 99, 3) := by decide +kernel
theorem dX5_proof_7 : decode cX5_proof 7 = .ok (.ifCond .eq 18, 3) := by decide +kernel
theorem dX5_proof_10 : decode cX5_proof 10 = .ok (.iload_n 3, 1) := by decide +kernel
theorem dX5_proof_11 : decode cX5_proof 11 = .ok (.bipush (-10), 2) := by decide +kernel
theorem dX5_proof_13 : decode cX5_proof 13 = .ok (.bipush 10, 2) := by decide +kernel
theorem dX5_proof_15 : decode cX5_proof 15 = .ok (.invokestatic 99, 3) := by decide +kernel
theorem dX5_proof_18 : decode cX5_proof 18 = .ok (.ifCond .eq 7, 3) := by decide +kernel
theorem dX5_proof_21 : decode cX5_proof 21 = .ok (.iconst 1, 1) := by decide +kernel
theorem dX5_proof_22 : decode cX5_proof 22 = .ok (.goto 4, 3) := by decide +kernel
theorem dX5_proof_25 : decode cX5_proof 25 = .ok (.iconst 0, 1) := by decide +kernel
theorem dX5_proof_26 : decode cX5_proof 26 = .ok (.istore 4, 2) := by decide +kernel
theorem dX5_proof_28 : decode cX5_proof 28 = .ok (.aload_n 0, 1) := by decide +kernel
theorem dX5_proof_29 : decode cX5_proof 29 = .ok (.iload_n 1, 1) := by decide +kernel
theorem dX5_proof_30 : decode cX5_proof 30 = .ok (.invokevirtual 179, 3) := by decide +kernel
theorem dX5_proof_33 : decode cX5_proof 33 = .ok (.ifCond .eq 59, 3) := by decide +kernel
theorem dX5_proof_36 : decode cX5_proof 36 = .ok (.iload 4, 2) := by decide +kernel
theorem dX5_proof_38 : decode cX5_proof 38 = .ok (.ifCond .eq 54, 3) := by decide +kernel
theorem dX5_proof_41 : decode cX5_proof 41 = .ok (.aload_n 0, 1) := by decide +kernel
theorem dX5_proof_42 : decode cX5_proof 42 = .ok (.getfield 71, 3) := by decide +kernel
theorem dX5_proof_45 : decode cX5_proof 45 = .ok (.iload_n 1, 1) := by decide +kernel
theorem dX5_proof_46 : decode cX5_proof 46 = .ok (.iaload, 1) := by decide +kernel
theorem dX5_proof_47 : decode cX5_proof 47 = .ok (.ifCond .ne 45, 3) := by decide +kernel
theorem dX5_proof_50 : decode cX5_proof 50 = .ok (.aload_n 0, 1) := by decide +kernel
theorem dX5_proof_51 : decode cX5_proof 51 = .ok (.getfield 68, 3) := by decide +kernel
theorem dX5_proof_54 : decode cX5_proof 54 = .ok (.iload_n 1, 1) := by decide +kernel
theorem dX5_proof_55 : decode cX5_proof 55 = .ok (.iaload, 1) := by decide +kernel
theorem dX5_proof_56 : decode cX5_proof 56 = .ok (.iload_n 2, 1) := by decide +kernel
theorem dX5_proof_57 : decode cX5_proof 57 = .ok (.invokestatic 182, 3) := by decide +kernel
theorem dX5_proof_60 : decode cX5_proof 60 = .ok (.ifCond .eq 32, 3) := by decide +kernel
theorem dX5_proof_63 : decode cX5_proof 63 = .ok (.aload_n 0, 1) := by decide +kernel
theorem dX5_proof_64 : decode cX5_proof 64 = .ok (.getfield 77, 3) := by decide +kernel
theorem dX5_proof_67 : decode cX5_proof 67 = .ok (.bipush 7, 2) := by decide +kernel
theorem dX5_proof_69 : decode cX5_proof 69 = .ok (.iload_n 1, 1) := by decide +kernel
theorem dX5_proof_70 : decode cX5_proof 70 = .ok (.imul, 1) := by decide +kernel
theorem dX5_proof_71 : decode cX5_proof 71 = .ok (.iload_n 2, 1) := by decide +kernel
theorem dX5_proof_72 : decode cX5_proof 72 = .ok (.iadd, 1) := by decide +kernel
theorem dX5_proof_73 : decode cX5_proof 73 = .ok (.iaload, 1) := by decide +kernel
theorem dX5_proof_74 : decode cX5_proof 74 = .ok (.iload_n 3, 1) := by decide +kernel
theorem dX5_proof_75 : decode cX5_proof 75 = .ok (.iadd, 1) := by decide +kernel
theorem dX5_proof_76 : decode cX5_proof 76 = .ok (.sipush (-1000), 3) := by decide +kernel
theorem dX5_proof_79 : decode cX5_proof 79 = .ok (.sipush 1000, 3) := by decide +kernel
theorem dX5_proof_82 : decode cX5_proof 82 = .ok (.invokestatic 99, 3) := by decide +kernel
theorem dX5_proof_85 : decode cX5_proof 85 = .ok (.ifCond .eq 7, 3) := by decide +kernel
theorem dX5_proof_88 : decode cX5_proof 88 = .ok (.iconst 1, 1) := by decide +kernel
theorem dX5_proof_89 : decode cX5_proof 89 = .ok (.goto 4, 3) := by decide +kernel
theorem dX5_proof_92 : decode cX5_proof 92 = .ok (.iconst 0, 1) := by decide +kernel
theorem dX5_proof_93 : decode cX5_proof 93 = .ok (.istore 5, 2) := by decide +kernel
theorem dX5_proof_95 : decode cX5_proof 95 = .ok (.aload_n 0, 1) := by decide +kernel
theorem dX5_proof_96 : decode cX5_proof 96 = .ok (.aload_n 0, 1) := by decide +kernel
theorem dX5_proof_97 : decode cX5_proof 97 = .ok (.iload_n 1, 1) := by decide +kernel
theorem dX5_proof_98 : decode cX5_proof 98 = .ok (.invokevirtual 179, 3) := by decide +kernel
theorem dX5_proof_101 : decode cX5_proof 101 = .ok (.ifCond .ne 7, 3) := by decide +kernel
theorem dX5_proof_104 : decode cX5_proof 104 = .ok (.iconst 1, 1) := by decide +kernel
theorem dX5_proof_105 : decode cX5_proof 105 = .ok (.goto 22, 3) := by decide +kernel
theorem dX5_proof_108 : decode cX5_proof 108 = .ok (.iload 4, 2) := by decide +kernel
theorem dX5_proof_110 : decode cX5_proof 110 = .ok (.ifCond .ne 7, 3) := by decide +kernel
theorem dX5_proof_113 : decode cX5_proof 113 = .ok (.iconst 2, 1) := by decide +kernel
theorem dX5_proof_114 : decode cX5_proof 114 = .ok (.goto 13, 3) := by decide +kernel
theorem dX5_proof_117 : decode cX5_proof 117 = .ok (.iload 5, 2) := by decide +kernel
theorem dX5_proof_119 : decode cX5_proof 119 = .ok (.ifCond .eq 7, 3) := by decide +kernel
theorem dX5_proof_122 : decode cX5_proof 122 = .ok (.iconst 0, 1) := by decide +kernel
theorem dX5_proof_123 : decode cX5_proof 123 = .ok (.goto 4, 3) := by decide +kernel
theorem dX5_proof_126 : decode cX5_proof 126 = .ok (.iconst 3, 1) := by decide +kernel
theorem dX5_proof_127 : decode cX5_proof 127 = .ok (.invokevirtual 114, 3) := by decide +kernel
theorem dX5_proof_130 : decode cX5_proof 130 = .ok (.ifCond .eq 5, 3) := by decide +kernel
theorem dX5_proof_133 : decode cX5_proof 133 = .ok (.iconst 0, 1) := by decide +kernel
theorem dX5_proof_134 : decode cX5_proof 134 = .ok (.ireturn, 1) := by decide +kernel
theorem dX5_proof_135 : decode cX5_proof 135 = .ok (.aload_n 0, 1) := by decide +kernel
theorem dX5_proof_136 : decode cX5_proof 136 = .ok (.getfield 77, 3) := by decide +kernel
theorem dX5_proof_139 : decode cX5_proof 139 = .ok (.bipush 7, 2) := by decide +kernel
theorem dX5_proof_141 : decode cX5_proof 141 = .ok (.iload_n 1, 1) := by decide +kernel
theorem dX5_proof_142 : decode cX5_proof 142 = .ok (.imul, 1) := by decide +kernel
theorem dX5_proof_143 : decode cX5_proof 143 = .ok (.iload_n 2, 1) := by decide +kernel
theorem dX5_proof_144 : decode cX5_proof 144 = .ok (.iadd, 1) := by decide +kernel
theorem dX5_proof_145 : decode cX5_proof 145 = .ok (.dup2, 1) := by decide +kernel
theorem dX5_proof_146 : decode cX5_proof 146 = .ok (.iaload, 1) := by decide +kernel
theorem dX5_proof_147 : decode cX5_proof 147 = .ok (.iload_n 3, 1) := by decide +kernel
theorem dX5_proof_148 : decode cX5_proof 148 = .ok (.iadd, 1) := by decide +kernel
theorem dX5_proof_149 : decode cX5_proof 149 = .ok (.iastore, 1) := by decide +kernel
theorem dX5_proof_150 : decode cX5_proof 150 = .ok (.aload_n 0, 1) := by decide +kernel
theorem dX5_proof_151 : decode cX5_proof 151 = .ok (.getfield 77, 3) := by decide +kernel
theorem dX5_proof_154 : decode cX5_proof 154 = .ok (.bipush 7, 2) := by decide +kernel
theorem dX5_proof_156 : decode cX5_proof 156 = .ok (.iload_n 1, 1) := by decide +kernel
theorem dX5_proof_157 : decode cX5_proof 157 = .ok (.imul, 1) := by decide +kernel
theorem dX5_proof_158 : decode cX5_proof 158 = .ok (.iload_n 2, 1) := by decide +kernel
theorem dX5_proof_159 : decode cX5_proof 159 = .ok (.iadd, 1) := by decide +kernel
theorem dX5_proof_160 : decode cX5_proof 160 = .ok (.iaload, 1) := by decide +kernel
theorem dX5_proof_161 : decode cX5_proof 161 = .ok (.ireturn, 1) := by decide +kernel
def tab_X5_proof : List (Nat × Sem) := [(0, op_il 2 1), (1, op_ic 0 2), (2, op_ic 6 4), (4, op_call sp_X5_isIn 3 0 7), (7, op_if (fun x => x = 0) 25 10), (10, op_il 3 11), (11, op_ic (-10) 13), (13, op_ic 10 15), (15, op_call sp_X5_isIn 3 0 18), (18, op_if (fun x => x = 0) 25 21), (21, op_ic 1 22), (22, op_go 26), (25, op_ic 0 26), (26, op_is 4 28), (28, op_al 0 29), (29, op_il 1 30), (30, op_callV 7 sp_X5_isCause 2 0 33), (33, op_if (fun x => x = 0) 92 36), (36, op_il 4 38), (38, op_if (fun x => x = 0) 92 41), (41, op_al 0 42), (42, op_gf 7 24 45), (45, op_il 1 46), (46, op_iald 47), (47, op_if (fun x => ¬ x = 0) 92 50), (50, op_al 0 51), (51, op_gf 7 23 54), (54, op_il 1 55), (55, op_iald 56), (56, op_il 2 57), (57, op_call sp_X5_hasGround 2 0 60), (60, op_if (fun x => x = 0) 92 63), (63, op_al 0 64), (64, op_gf 7 26 67), (67, op_ic 7 69), (69, op_il 1 70), (70, op_bin (fun x y => x * y) 71), (71, op_il 2 72), (72, op_bin (fun x y => x + y) 73), (73, op_iald 74), (74, op_il 3 75), (75, op_bin (fun x y => x + y) 76), (76, op_ic (-1000) 79), (79, op_ic 1000 82), (82, op_call sp_X5_isIn 3 0 85), (85, op_if (fun x => x = 0) 92 88), (88, op_ic 1 89), (89, op_go 93), (92, op_ic 0 93), (93, op_is 5 95), (95, op_al 0 96), (96, op_al 0 97), (97, op_il 1 98), (98, op_callV 7 sp_X5_isCause 2 0 101), (101, op_if (fun x => ¬ x = 0) 108 104), (104, op_ic 1 105), (105, op_go 127), (108, op_il 4 110), (110, op_if (fun x => ¬ x = 0) 117 113), (113, op_ic 2 114), (114, op_go 127), (117, op_il 5 119), (119, op_if (fun x => x = 0) 126 122), (122, op_ic 0 123), (123, op_go 127), (126, op_ic 3 127), (127, op_callV 7 sp_X5_fails 2 0 130), (130, op_if (fun x => x = 0) 135 133), (133, op_ic 0 134), (134, op_iret), (135, op_al 0 136), (136, op_gf 7 26 139), (139, op_ic 7 141), (141, op_il 1 142), (142, op_bin (fun x y => x * y) 143), (143, op_il 2 144), (144, op_bin (fun x y => x + y) 145), (145, op_dup2 146), (146, op_iald 147), (147, op_il 3 148), (148, op_bin (fun x y => x + y) 149), (149, op_iast 150), (150, op_al 0 151), (151, op_gf 7 26 154), (154, op_ic 7 156), (156, op_il 1 157), (157, op_bin (fun x y => x * y) 158), (158, op_il 2 159), (159, op_bin (fun x y => x + y) 160), (160, op_iald 161), (161, op_iret)]
set_option maxRecDepth 20000 in
theorem tok_X5_proof : ∀ q ∈ tab_X5_proof, Snd RX5 cX5_proof 6 2 0 (some .int) q.1 q.2 := by
  unfold tab_X5_proof
  refine tcons (ok_iload_n dX5_proof_0 rfl rfl) ?_
  refine tcons (ok_iconst dX5_proof_1 rfl rfl) ?_
  refine tcons (ok_bipush dX5_proof_2 rfl rfl) ?_
  refine tcons (ok_invokestatic M_X5_isIn w_1105 w_1106 w_49 w_1107 ⟨by decide, by decide, by decide +kernel⟩ (by decide) (by decide) dX5_proof_4 rfl) ?_
  refine tcons (ok_if_eq dX5_proof_7 rfl rfl) ?_
  refine tcons (ok_iload_n dX5_proof_10 rfl rfl) ?_
  refine tcons (ok_bipush dX5_proof_11 rfl rfl) ?_
  refine tcons (ok_bipush dX5_proof_13 rfl rfl) ?_
  refine tcons (ok_invokestatic M_X5_isIn w_1105 w_1106 w_49 w_1107 ⟨by decide, by decide, by decide +kernel⟩ (by decide) (by decide) dX5_proof_15 rfl) ?_
  refine tcons (ok_if_eq dX5_proof_18 rfl rfl) ?_
  refine tcons (ok_iconst dX5_proof_21 rfl rfl) ?_
  refine tcons (ok_goto dX5_proof_22 rfl) ?_
  refine tcons (ok_iconst dX5_proof_25 rfl rfl) ?_
  refine tcons (ok_istore dX5_proof_26 (by decide) rfl) ?_
  refine tcons (ok_aload_n dX5_proof_28 rfl rfl) ?_
  refine tcons (ok_iload_n dX5_proof_29 rfl rfl) ?_
  refine tcons (ok_invokevirtual M_X5_isCause (C := RX5) (T := TX5) (nf := 33) rfl w_1236 w_1238 w_34 w_49 w_1239 ⟨rfl, by decide, by decide, by decide +kernel⟩ (by decide) (by decide) dX5_proof_30 rfl) ?_
  refine tcons (ok_if_eq dX5_proof_33 rfl rfl) ?_
  refine tcons (ok_iload dX5_proof_36 rfl) ?_
  refine tcons (ok_if_eq dX5_proof_38 rfl rfl) ?_
  refine tcons (ok_aload_n dX5_proof_41 rfl rfl) ?_
  refine tcons (ok_getfield (C := RX5) (T := TX5) (n := 33) rfl in_X5 (by decide) w_1017 dX5_proof_42 rfl) ?_
  refine tcons (ok_iload_n dX5_proof_45 rfl rfl) ?_
  refine tcons (ok_iaload dX5_proof_46 rfl) ?_
  refine tcons (ok_if_ne dX5_proof_47 rfl rfl) ?_
  refine tcons (ok_aload_n dX5_proof_50 rfl rfl) ?_
  refine tcons (ok_getfield (C := RX5) (T := TX5) (n := 33) rfl in_X5 (by decide) w_1016 dX5_proof_51 rfl) ?_
  refine tcons (ok_iload_n dX5_proof_54 rfl rfl) ?_
  refine tcons (ok_iaload dX5_proof_55 rfl) ?_
  refine tcons (ok_iload_n dX5_proof_56 rfl rfl) ?_
  refine tcons (ok_invokestatic M_X5_hasGround w_1244 w_1245 w_49 w_1246 ⟨by decide, by decide, by decide +kernel⟩ (by decide) (by decide) dX5_proof_57 rfl) ?_
  refine tcons (ok_if_eq dX5_proof_60 rfl rfl) ?_
  refine tcons (ok_aload_n dX5_proof_63 rfl rfl) ?_
  refine tcons (ok_getfield (C := RX5) (T := TX5) (n := 33) rfl in_X5 (by decide) w_1019 dX5_proof_64 rfl) ?_
  refine tcons (ok_bipush dX5_proof_67 rfl rfl) ?_
  refine tcons (ok_iload_n dX5_proof_69 rfl rfl) ?_
  refine tcons (ok_imul dX5_proof_70 rfl) ?_
  refine tcons (ok_iload_n dX5_proof_71 rfl rfl) ?_
  refine tcons (ok_iadd dX5_proof_72 rfl) ?_
  refine tcons (ok_iaload dX5_proof_73 rfl) ?_
  refine tcons (ok_iload_n dX5_proof_74 rfl rfl) ?_
  refine tcons (ok_iadd dX5_proof_75 rfl) ?_
  refine tcons (ok_sipush dX5_proof_76 rfl rfl) ?_
  refine tcons (ok_sipush dX5_proof_79 rfl rfl) ?_
  refine tcons (ok_invokestatic M_X5_isIn w_1105 w_1106 w_49 w_1107 ⟨by decide, by decide, by decide +kernel⟩ (by decide) (by decide) dX5_proof_82 rfl) ?_
  refine tcons (ok_if_eq dX5_proof_85 rfl rfl) ?_
  refine tcons (ok_iconst dX5_proof_88 rfl rfl) ?_
  refine tcons (ok_goto dX5_proof_89 rfl) ?_
  refine tcons (ok_iconst dX5_proof_92 rfl rfl) ?_
  refine tcons (ok_istore dX5_proof_93 (by decide) rfl) ?_
  refine tcons (ok_aload_n dX5_proof_95 rfl rfl) ?_
  refine tcons (ok_aload_n dX5_proof_96 rfl rfl) ?_
  refine tcons (ok_iload_n dX5_proof_97 rfl rfl) ?_
  refine tcons (ok_invokevirtual M_X5_isCause (C := RX5) (T := TX5) (nf := 33) rfl w_1236 w_1238 w_34 w_49 w_1239 ⟨rfl, by decide, by decide, by decide +kernel⟩ (by decide) (by decide) dX5_proof_98 rfl) ?_
  refine tcons (ok_if_ne dX5_proof_101 rfl rfl) ?_
  refine tcons (ok_iconst dX5_proof_104 rfl rfl) ?_
  refine tcons (ok_goto dX5_proof_105 rfl) ?_
  refine tcons (ok_iload dX5_proof_108 rfl) ?_
  refine tcons (ok_if_ne dX5_proof_110 rfl rfl) ?_
  refine tcons (ok_iconst dX5_proof_113 rfl rfl) ?_
  refine tcons (ok_goto dX5_proof_114 rfl) ?_
  refine tcons (ok_iload dX5_proof_117 rfl) ?_
  refine tcons (ok_if_eq dX5_proof_119 rfl rfl) ?_
  refine tcons (ok_iconst dX5_proof_122 rfl rfl) ?_
  refine tcons (ok_goto dX5_proof_123 rfl) ?_
  refine tcons (ok_iconst dX5_proof_126 rfl rfl) ?_
  refine tcons (ok_invokevirtual M_X5_fails (C := RX5) (T := TX5) (nf := 33) rfl w_1112 w_1114 w_20 w_49 w_1115 ⟨rfl, by decide, by decide, by decide +kernel⟩ (by decide) (by decide) dX5_proof_127 rfl) ?_
  refine tcons (ok_if_eq dX5_proof_130 rfl rfl) ?_
  refine tcons (ok_iconst dX5_proof_133 rfl rfl) ?_
  refine tcons (ok_ireturn rfl dX5_proof_134) ?_
  refine tcons (ok_aload_n dX5_proof_135 rfl rfl) ?_
  refine tcons (ok_getfield (C := RX5) (T := TX5) (n := 33) rfl in_X5 (by decide) w_1019 dX5_proof_136 rfl) ?_
  refine tcons (ok_bipush dX5_proof_139 rfl rfl) ?_
  refine tcons (ok_iload_n dX5_proof_141 rfl rfl) ?_
  refine tcons (ok_imul dX5_proof_142 rfl) ?_
  refine tcons (ok_iload_n dX5_proof_143 rfl rfl) ?_
  refine tcons (ok_iadd dX5_proof_144 rfl) ?_
  refine tcons (ok_dup2 dX5_proof_145 rfl) ?_
  refine tcons (ok_iaload dX5_proof_146 rfl) ?_
  refine tcons (ok_iload_n dX5_proof_147 rfl rfl) ?_
  refine tcons (ok_iadd dX5_proof_148 rfl) ?_
  refine tcons (ok_iastore dX5_proof_149 rfl) ?_
  refine tcons (ok_aload_n dX5_proof_150 rfl rfl) ?_
  refine tcons (ok_getfield (C := RX5) (T := TX5) (n := 33) rfl in_X5 (by decide) w_1019 dX5_proof_151 rfl) ?_
  refine tcons (ok_bipush dX5_proof_154 rfl rfl) ?_
  refine tcons (ok_iload_n dX5_proof_156 rfl rfl) ?_
  refine tcons (ok_imul dX5_proof_157 rfl) ?_
  refine tcons (ok_iload_n dX5_proof_158 rfl rfl) ?_
  refine tcons (ok_iadd dX5_proof_159 rfl) ?_
  refine tcons (ok_iaload dX5_proof_160 rfl) ?_
  refine tcons (ok_ireturn rfl dX5_proof_161) ?_
  exact fun _ h => nomatch h
def sp_X5_proof : Spc := fun av s N _ => match av with
  | [.inl (.inr (20, 0)), .inl (.inl c), .inl (.inl k), .inl (.inl w)] => MI s ∧ f3 (isC s c) (inR k 0 6 ∧ inR w (-10) 10) (s.2.1 44 0 (cl c) = 0 ∧ (s.2.1 43 0 (cl c) >>> (k &&& 31)) &&& 1 = 1 ∧ inR (s.2.1 46 0 (cl (7 * c + k)) + w) (-1000) 1000) (some (aI 0)) N s
      (N (some (aI (s.2.1 46 0 (cl (7 * c + k)) + w))) (stS (th s 0) 46 0 (cl (7 * c + k)) (s.2.1 46 0 (cl (7 * c + k)) + w)))
  | _ => False
theorem wt_Ib {s : Sg} {c k : Int32} (hM : MI s) (h : isC s c) (h2 : inR k 0 6) : Ib (7 * c + k) 210 := by
  obtain ⟨j, hj, rfl⟩ := MI_cn hM h
  obtain ⟨i, hi, rfl⟩ := rg_nI (N := 6) h2 rfl
  rw [row7]
  exact nIb (by omega) (by decide)
set_option maxRecDepth 20000 in
set_option maxHeartbeats 2000000 in
theorem M_X5_proof : AMet yX5_proof cX5_proof 6 (some .int) 2 0 sp_X5_proof := by
  refine AMet.mc (own := RX5) (by decide) rfl [0, 1, 2, 3, 4, 5] rfl tok_X5_proof 200 ?_
  intro av s0 N X h
  unfold sp_X5_proof at h
  split at h
  rotate_left
  · exact h.elim
  rename_i c k w
  obtain ⟨hM, h⟩ := h
  refine ⟨[(28, fun m u L st s => ∃ a, u = 0 ∧ m = 1 ∧ L = [(0, .inr (20, 0)), (1, .inl c), (2, .inl k), (3, .inl w), (4, .inl a)] ∧ st = [] ∧ s = s0 ∧ flg a (inR k 0 6 ∧ inR w (-10) 10)),
     (95, fun m u L st s => ∃ a b, u = 0 ∧ m = 0 ∧ L = [(0, .inr (20, 0)), (1, .inl c), (2, .inl k), (3, .inl w), (4, .inl a), (5, .inl b)] ∧ st = [] ∧ s = s0 ∧ flg a (inR k 0 6 ∧ inR w (-10) 10) ∧
       (isC s c → inR k 0 6 ∧ inR w (-10) 10 → flg b (s.2.1 44 0 (cl c) = 0 ∧ (s.2.1 43 0 (cl c) >>> (k &&& 31)) &&& 1 = 1 ∧ inR (s.2.1 46 0 (cl (7 * c + k)) + w) (-1000) 1000)) ∧ (b = 0 ∨ b = 1))], ?_, ac ?_ (ac ?_ an)⟩
  · repeat' (first | apply And.intro | (intro q; exact absurd q (by decide)) | intro _)
    all_goals first | decide | (exact Nat.le_of_ble_eq_true rfl) | (exact ⟨1, 5, trivial, _, rfl, rfl, rfl, rfl, rfl, by simp_all [flg]⟩)
  · rintro m u L st s ⟨a, rfl, rfl, rfl, rfl, rfl, ha⟩
    rcases ha with ⟨rfl, ha⟩ | ⟨rfl, ha⟩
    all_goals repeat' (first | apply And.intro | (intro q; exact absurd q (by decide)) | intro _)
    all_goals first | decide | (exact Nat.le_of_ble_eq_true rfl) | (exact Ib_of (MI_c hM (by assumption))) | (exact wt_Ib hM (by assumption) ha.1) | (exact ⟨0, 6, Nat.one_pos, _, _, rfl, rfl, rfl, rfl, rfl, by simp_all [flg], by simp_all [flg], by simp⟩)
  · rintro m u L st s ⟨a, b, rfl, rfl, rfl, rfl, rfl, ha, hb, hbb⟩
    rcases ha with ⟨rfl, ha⟩ | ⟨rfl, ha⟩ <;> rcases hbb with rfl | rfl
    all_goals repeat' (first | apply And.intro | (intro q; exact absurd q (by decide)) | intro _)
    all_goals first | decide | (exact Nat.le_of_ble_eq_true rfl) | (exact wt_Ib hM (by assumption) ha.1) | (simp_all [f3, flg, stS_get]; done)
theorem dX5_vote_0 : decode cX5_vote 0 = .ok (.aload_n 0, 1) := by decide +kernel
theorem dX5_vote_1 : decode cX5_vote 1 = .ok (.iload_n 1, 1) := by decide +kernel
theorem dX5_vote_2 : decode cX5_vote 2 = .ok (.invokevirtual 179, 3) := by decide +kernel
theorem dX5_vote_5 : decode cX5_vote 5 = .ok (.ifCond .eq 16, 3) := by decide +kernel
theorem dX5_vote_8 : decode cX5_vote 8 = .ok (.iload_n 2, 1) := by decide +kernel
theorem dX5_vote_9 : decode cX5_vote 9 = .ok (.iconst 0, 1) := by decide +kernel
theorem dX5_vote_10 : decode cX5_vote 10 = .ok (.iconst 2, 1) := by decide +kernel
theorem dX5_vote_11 : decode cX5_vote 11 = .ok (.invokestatic 99, 3) := by decide +kernel
theorem dX5_vote_14 : decode cX5_vote 14 = .ok (.ifCond .eq 7, 3) := by decide +kernel
theorem dX5_vote_17 : decode cX5_vote 17 = .ok (.iconst 1, 1) := by decide +kernel
theorem dX5_vote_18 : decode cX5_vote 18 = .ok (.goto 4, 3) := by decide +kernel
theorem dX5_vote_21 : decode cX5_vote 21 = .ok (.iconst 0, 1) := by decide +kernel
theorem dX5_vote_22 : decode cX5_vote 22 = .ok (.istore 4, 2) := by decide +kernel
theorem dX5_vote_24 : decode cX5_vote 24 = .ok (.iload_n 3, 1) := by decide +kernel
theorem dX5_vote_25 : decode cX5_vote 25 = .ok (.iconst 0, 1) := by decide +kernel
theorem dX5_vote_26 : decode cX5_vote 26 = .ok (.bipush 127, 2) := by decide +kernel
theorem dX5_vote_28 : decode cX5_vote 28 = .ok (.invokestatic 99, 3) := by decide +kernel
theorem dX5_vote_31 : decode cX5_vote 31 = .ok (.istore 5, 2) := by decide +kernel
theorem dX5_vote_33 : decode cX5_vote 33 = .ok (.iload 4, 2) := by decide +kernel
theorem dX5_vote_35 : decode cX5_vote 35 = .ok (.ifCond .eq 48, 3) := by decide +kernel
theorem dX5_vote_38 : decode cX5_vote 38 = .ok (.iload 5, 2) := by decide +kernel
theorem dX5_vote_40 : decode cX5_vote 40 = .ok (.ifCond .eq 43, 3) := by decide +kernel
theorem dX5_vote_43 : decode cX5_vote 43 = .ok (.aload_n 0, 1) := by decide +kernel
theorem dX5_vote_44 : decode cX5_vote 44 = .ok (.getfield 71, 3) := by decide +kernel
theorem dX5_vote_47 : decode cX5_vote 47 = .ok (.iload_n 1, 1) := by decide +kernel
theorem dX5_vote_48 : decode cX5_vote 48 = .ok (.iaload, 1) := by decide +kernel
theorem dX5_vote_49 : decode cX5_vote 49 = .ok (.iconst 1, 1) := by decide +kernel
theorem dX5_vote_50 : decode cX5_vote 50 = .ok (.if_icmp .ne 33, 3) := by decide +kernel
theorem dX5_vote_53 : decode cX5_vote 53 = .ok (.aload_n 0, 1) := by decide +kernel
theorem dX5_vote_54 : decode cX5_vote 54 = .ok (.getfield 83, 3) := by decide +kernel
theorem dX5_vote_57 : decode cX5_vote 57 = .ok (.iconst 3, 1) := by decide +kernel
theorem dX5_vote_58 : decode cX5_vote 58 = .ok (.iload_n 1, 1) := by decide +kernel
theorem dX5_vote_59 : decode cX5_vote 59 = .ok (.imul, 1) := by decide +kernel
theorem dX5_vote_60 : decode cX5_vote 60 = .ok (.iload_n 2, 1) := by decide +kernel
theorem dX5_vote_61 : decode cX5_vote 61 = .ok (.iadd, 1) := by decide +kernel
theorem dX5_vote_62 : decode cX5_vote 62 = .ok (.iaload, 1) := by decide +kernel
theorem dX5_vote_63 : decode cX5_vote 63 = .ok (.iconst (-1), 1) := by decide +kernel
theorem dX5_vote_64 : decode cX5_vote 64 = .ok (.if_icmp .ne 19, 3) := by decide +kernel
theorem dX5_vote_67 : decode cX5_vote 67 = .ok (.iload_n 3, 1) := by decide +kernel
theorem dX5_vote_68 : decode cX5_vote 68 = .ok (.aload_n 0, 1) := by decide +kernel
theorem dX5_vote_69 : decode cX5_vote 69 = .ok (.iload_n 1, 1) := by decide +kernel
theorem dX5_vote_70 : decode cX5_vote 70 = .ok (.invokevirtual 185, 3) := by decide +kernel
theorem dX5_vote_73 : decode cX5_vote 73 = .ok (.iconst (-1), 1) := by decide +kernel
theorem dX5_vote_74 : decode cX5_vote 74 = .ok (.ixor, 1) := by decide +kernel
theorem dX5_vote_75 : decode cX5_vote 75 = .ok (.iand, 1) := by decide +kernel
theorem dX5_vote_76 : decode cX5_vote 76 = .ok (.ifCond .ne 7, 3) := by decide +kernel
theorem dX5_vote_79 : decode cX5_vote 79 = .ok (.iconst 1, 1) := by decide +kernel
theorem dX5_vote_80 : decode cX5_vote 80 = .ok (.goto 4, 3) := by decide +kernel
theorem dX5_vote_83 : decode cX5_vote 83 = .ok (.iconst 0, 1) := by decide +kernel
theorem dX5_vote_84 : decode cX5_vote 84 = .ok (.istore 6, 2) := by decide +kernel
theorem dX5_vote_86 : decode cX5_vote 86 = .ok (.aload_n 0, 1) := by decide +kernel
theorem dX5_vote_87 : decode cX5_vote 87 = .ok (.iload 4, 2) := by decide +kernel
theorem dX5_vote_89 : decode cX5_vote 89 = .ok (.ifCond .ne 7, 3) := by decide +kernel
theorem dX5_vote_92 : decode cX5_vote 92 = .ok (.iconst 1, 1) := by decide +kernel
theorem dX5_vote_93 : decode cX5_vote 93 = .ok (.goto 22, 3) := by decide +kernel
theorem dX5_vote_96 : decode cX5_vote 96 = .ok (.iload 5, 2) := by decide +kernel
theorem dX5_vote_98 : decode cX5_vote 98 = .ok (.ifCond .ne 7, 3) := by decide +kernel
theorem dX5_vote_101 : decode cX5_vote 101 = .ok (.iconst 2, 1) := by decide +kernel
theorem dX5_vote_102 : decode cX5_vote 102 = .ok (.goto 13, 3) := by decide +kernel
theorem dX5_vote_105 : decode cX5_vote 105 = .ok (.iload 6, 2) := by decide +kernel
theorem dX5_vote_107 : decode cX5_vote 107 = .ok (.ifCond .eq 7, 3) := by decide +kernel
theorem dX5_vote_110 : decode cX5_vote 110 = .ok (.iconst 0, 1) := by decide +kernel
theorem dX5_vote_111 : decode cX5_vote 111 = .ok (.goto 4, 3) := by decide +kernel
theorem dX5_vote_114 : decode cX5_vote 114 = .ok (.iconst 3, 1) := by decide +kernel
theorem dX5_vote_115 : decode cX5_vote 115 = .ok (.invokevirtual 114, 3) := by decide +kernel
theorem dX5_vote_118 : decode cX5_vote 118 = .ok (.ifCond .eq 5, 3) := by decide +kernel
theorem dX5_vote_121 : decode cX5_vote 121 = .ok (.iconst 0, 1) := by decide +kernel
theorem dX5_vote_122 : decode cX5_vote 122 = .ok (.ireturn, 1) := by decide +kernel
theorem dX5_vote_123 : decode cX5_vote 123 = .ok (.aload_n 0, 1) := by decide +kernel
theorem dX5_vote_124 : decode cX5_vote 124 = .ok (.getfield 83, 3) := by decide +kernel
theorem dX5_vote_127 : decode cX5_vote 127 = .ok (.iconst 3, 1) := by decide +kernel
theorem dX5_vote_128 : decode cX5_vote 128 = .ok (.iload_n 1, 1) := by decide +kernel
theorem dX5_vote_129 : decode cX5_vote 129 = .ok (.imul, 1) := by decide +kernel
theorem dX5_vote_130 : decode cX5_vote 130 = .ok (.iload_n 2, 1) := by decide +kernel
theorem dX5_vote_131 : decode cX5_vote 131 = .ok (.iadd, 1) := by decide +kernel
theorem dX5_vote_132 : decode cX5_vote 132 = .ok (.iload_n 3, 1) := by decide +kernel
theorem dX5_vote_133 : decode cX5_vote 133 = .ok (.iastore, 1) := by decide +kernel
theorem dX5_vote_134 : decode cX5_vote 134 = .ok (.aload_n 0, 1) := by decide +kernel
theorem dX5_vote_135 : decode cX5_vote 135 = .ok (.getfield 80, 3) := by decide +kernel
theorem dX5_vote_138 : decode cX5_vote 138 = .ok (.iload_n 1, 1) := by decide +kernel
theorem dX5_vote_139 : decode cX5_vote 139 = .ok (.dup2, 1) := by decide +kernel
theorem dX5_vote_140 : decode cX5_vote 140 = .ok (.iaload, 1) := by decide +kernel
theorem dX5_vote_141 : decode cX5_vote 141 = .ok (.iconst 1, 1) := by decide +kernel
theorem dX5_vote_142 : decode cX5_vote 142 = .ok (.iadd, 1) := by decide +kernel
theorem dX5_vote_143 : decode cX5_vote 143 = .ok (.iastore, 1) := by decide +kernel
theorem dX5_vote_144 : decode cX5_vote 144 = .ok (.aload_n 0, 1) := by decide +kernel
theorem dX5_vote_145 : decode cX5_vote 145 = .ok (.getfield 80, 3) := by decide +kernel
theorem dX5_vote_148 : decode cX5_vote 148 = .ok (.iload_n 1, 1) := by decide +kernel
theorem dX5_vote_149 : decode cX5_vote 149 = .ok (.iaload, 1) := by decide +kernel
theorem dX5_vote_150 : decode cX5_vote 150 = .ok (.ireturn, 1) := by decide +kernel
def tab_X5_vote : List (Nat × Sem) := [(0, op_al 0 1), (1, op_il 1 2), (2, op_callV 7 sp_X5_isCause 2 0 5), (5, op_if (fun x => x = 0) 21 8), (8, op_il 2 9), (9, op_ic 0 10), (10, op_ic 2 11), (11, op_call sp_X5_isIn 3 0 14), (14, op_if (fun x => x = 0) 21 17), (17, op_ic 1 18), (18, op_go 22), (21, op_ic 0 22), (22, op_is 4 24), (24, op_il 3 25), (25, op_ic 0 26), (26, op_ic 127 28), (28, op_call sp_X5_isIn 3 0 31), (31, op_is 5 33), (33, op_il 4 35), (35, op_if (fun x => x = 0) 83 38), (38, op_il 5 40), (40, op_if (fun x => x = 0) 83 43), (43, op_al 0 44), (44, op_gf 7 24 47), (47, op_il 1 48), (48, op_iald 49), (49, op_ic 1 50), (50, op_cmp (fun x y => ¬ x = y) 83 53), (53, op_al 0 54), (54, op_gf 7 28 57), (57, op_ic 3 58), (58, op_il 1 59), (59, op_bin (fun x y => x * y) 60), (60, op_il 2 61), (61, op_bin (fun x y => x + y) 62), (62, op_iald 63), (63, op_ic (-1) 64), (64, op_cmp (fun x y => ¬ x = y) 83 67), (67, op_il 3 68), (68, op_al 0 69), (69, op_il 1 70), (70, op_callV 7 sp_X5_proven 2 0 73), (73, op_ic (-1) 74), (74, op_bin (fun x y => x ^^^ y) 75), (75, op_bin (fun x y => x &&& y) 76), (76, op_if (fun x => ¬ x = 0) 83 79), (79, op_ic 1 80), (80, op_go 84), (83, op_ic 0 84), (84, op_is 6 86), (86, op_al 0 87), (87, op_il 4 89), (89, op_if (fun x => ¬ x = 0) 96 92), (92, op_ic 1 93), (93, op_go 115), (96, op_il 5 98), (98, op_if (fun x => ¬ x = 0) 105 101), (101, op_ic 2 102), (102, op_go 115), (105, op_il 6 107), (107, op_if (fun x => x = 0) 114 110), (110, op_ic 0 111), (111, op_go 115), (114, op_ic 3 115), (115, op_callV 7 sp_X5_fails 2 0 118), (118, op_if (fun x => x = 0) 123 121), (121, op_ic 0 122), (122, op_iret), (123, op_al 0 124), (124, op_gf 7 28 127), (127, op_ic 3 128), (128, op_il 1 129), (129, op_bin (fun x y => x * y) 130), (130, op_il 2 131), (131, op_bin (fun x y => x + y) 132), (132, op_il 3 133), (133, op_iast 134), (134, op_al 0 135), (135, op_gf 7 27 138), (138, op_il 1 139), (139, op_dup2 140), (140, op_iald 141), (141, op_ic 1 142), (142, op_bin (fun x y => x + y) 143), (143, op_iast 144), (144, op_al 0 145), (145, op_gf 7 27 148), (148, op_il 1 149), (149, op_iald 150), (150, op_iret)]
set_option maxRecDepth 20000 in
theorem tok_X5_vote : ∀ q ∈ tab_X5_vote, Snd RX5 cX5_vote 7 2 0 (some .int) q.1 q.2 := by
  unfold tab_X5_vote
  refine tcons (ok_aload_n dX5_vote_0 rfl rfl) ?_
  refine tcons (ok_iload_n dX5_vote_1 rfl rfl) ?_
  refine tcons (ok_invokevirtual M_X5_isCause (C := RX5) (T := TX5) (nf := 33) rfl w_1236 w_1238 w_34 w_49 w_1239 ⟨rfl, by decide, by decide, by decide +kernel⟩ (by decide) (by decide) dX5_vote_2 rfl) ?_
  refine tcons (ok_if_eq dX5_vote_5 rfl rfl) ?_
  refine tcons (ok_iload_n dX5_vote_8 rfl rfl) ?_
  refine tcons (ok_iconst dX5_vote_9 rfl rfl) ?_
  refine tcons (ok_iconst dX5_vote_10 rfl rfl) ?_
  refine tcons (ok_invokestatic M_X5_isIn w_1105 w_1106 w_49 w_1107 ⟨by decide, by decide, by decide +kernel⟩ (by decide) (by decide) dX5_vote_11 rfl) ?_
  refine tcons (ok_if_eq dX5_vote_14 rfl rfl) ?_
  refine tcons (ok_iconst dX5_vote_17 rfl rfl) ?_
  refine tcons (ok_goto dX5_vote_18 rfl) ?_
  refine tcons (ok_iconst dX5_vote_21 rfl rfl) ?_
  refine tcons (ok_istore dX5_vote_22 (by decide) rfl) ?_
  refine tcons (ok_iload_n dX5_vote_24 rfl rfl) ?_
  refine tcons (ok_iconst dX5_vote_25 rfl rfl) ?_
  refine tcons (ok_bipush dX5_vote_26 rfl rfl) ?_
  refine tcons (ok_invokestatic M_X5_isIn w_1105 w_1106 w_49 w_1107 ⟨by decide, by decide, by decide +kernel⟩ (by decide) (by decide) dX5_vote_28 rfl) ?_
  refine tcons (ok_istore dX5_vote_31 (by decide) rfl) ?_
  refine tcons (ok_iload dX5_vote_33 rfl) ?_
  refine tcons (ok_if_eq dX5_vote_35 rfl rfl) ?_
  refine tcons (ok_iload dX5_vote_38 rfl) ?_
  refine tcons (ok_if_eq dX5_vote_40 rfl rfl) ?_
  refine tcons (ok_aload_n dX5_vote_43 rfl rfl) ?_
  refine tcons (ok_getfield (C := RX5) (T := TX5) (n := 33) rfl in_X5 (by decide) w_1017 dX5_vote_44 rfl) ?_
  refine tcons (ok_iload_n dX5_vote_47 rfl rfl) ?_
  refine tcons (ok_iaload dX5_vote_48 rfl) ?_
  refine tcons (ok_iconst dX5_vote_49 rfl rfl) ?_
  refine tcons (ok_icmp_ne dX5_vote_50 rfl rfl) ?_
  refine tcons (ok_aload_n dX5_vote_53 rfl rfl) ?_
  refine tcons (ok_getfield (C := RX5) (T := TX5) (n := 33) rfl in_X5 (by decide) w_1021 dX5_vote_54 rfl) ?_
  refine tcons (ok_iconst dX5_vote_57 rfl rfl) ?_
  refine tcons (ok_iload_n dX5_vote_58 rfl rfl) ?_
  refine tcons (ok_imul dX5_vote_59 rfl) ?_
  refine tcons (ok_iload_n dX5_vote_60 rfl rfl) ?_
  refine tcons (ok_iadd dX5_vote_61 rfl) ?_
  refine tcons (ok_iaload dX5_vote_62 rfl) ?_
  refine tcons (ok_iconst dX5_vote_63 rfl rfl) ?_
  refine tcons (ok_icmp_ne dX5_vote_64 rfl rfl) ?_
  refine tcons (ok_iload_n dX5_vote_67 rfl rfl) ?_
  refine tcons (ok_aload_n dX5_vote_68 rfl rfl) ?_
  refine tcons (ok_iload_n dX5_vote_69 rfl rfl) ?_
  refine tcons (ok_invokevirtual M_X5_proven (C := RX5) (T := TX5) (nf := 33) rfl w_1251 w_1253 w_35 w_49 w_1254 ⟨rfl, by decide, by decide, by decide +kernel⟩ (by decide) (by decide) dX5_vote_70 rfl) ?_
  refine tcons (ok_iconst dX5_vote_73 rfl rfl) ?_
  refine tcons (ok_ixor dX5_vote_74 rfl) ?_
  refine tcons (ok_iand dX5_vote_75 rfl) ?_
  refine tcons (ok_if_ne dX5_vote_76 rfl rfl) ?_
  refine tcons (ok_iconst dX5_vote_79 rfl rfl) ?_
  refine tcons (ok_goto dX5_vote_80 rfl) ?_
  refine tcons (ok_iconst dX5_vote_83 rfl rfl) ?_
  refine tcons (ok_istore dX5_vote_84 (by decide) rfl) ?_
  refine tcons (ok_aload_n dX5_vote_86 rfl rfl) ?_
  refine tcons (ok_iload dX5_vote_87 rfl) ?_
  refine tcons (ok_if_ne dX5_vote_89 rfl rfl) ?_
  refine tcons (ok_iconst dX5_vote_92 rfl rfl) ?_
  refine tcons (ok_goto dX5_vote_93 rfl) ?_
  refine tcons (ok_iload dX5_vote_96 rfl) ?_
  refine tcons (ok_if_ne dX5_vote_98 rfl rfl) ?_
  refine tcons (ok_iconst dX5_vote_101 rfl rfl) ?_
  refine tcons (ok_goto dX5_vote_102 rfl) ?_
  refine tcons (ok_iload dX5_vote_105 rfl) ?_
  refine tcons (ok_if_eq dX5_vote_107 rfl rfl) ?_
  refine tcons (ok_iconst dX5_vote_110 rfl rfl) ?_
  refine tcons (ok_goto dX5_vote_111 rfl) ?_
  refine tcons (ok_iconst dX5_vote_114 rfl rfl) ?_
  refine tcons (ok_invokevirtual M_X5_fails (C := RX5) (T := TX5) (nf := 33) rfl w_1112 w_1114 w_20 w_49 w_1115 ⟨rfl, by decide, by decide, by decide +kernel⟩ (by decide) (by decide) dX5_vote_115 rfl) ?_
  refine tcons (ok_if_eq dX5_vote_118 rfl rfl) ?_
  refine tcons (ok_iconst dX5_vote_121 rfl rfl) ?_
  refine tcons (ok_ireturn rfl dX5_vote_122) ?_
  refine tcons (ok_aload_n dX5_vote_123 rfl rfl) ?_
  refine tcons (ok_getfield (C := RX5) (T := TX5) (n := 33) rfl in_X5 (by decide) w_1021 dX5_vote_124 rfl) ?_
  refine tcons (ok_iconst dX5_vote_127 rfl rfl) ?_
  refine tcons (ok_iload_n dX5_vote_128 rfl rfl) ?_
  refine tcons (ok_imul dX5_vote_129 rfl) ?_
  refine tcons (ok_iload_n dX5_vote_130 rfl rfl) ?_
  refine tcons (ok_iadd dX5_vote_131 rfl) ?_
  refine tcons (ok_iload_n dX5_vote_132 rfl rfl) ?_
  refine tcons (ok_iastore dX5_vote_133 rfl) ?_
  refine tcons (ok_aload_n dX5_vote_134 rfl rfl) ?_
  refine tcons (ok_getfield (C := RX5) (T := TX5) (n := 33) rfl in_X5 (by decide) w_1020 dX5_vote_135 rfl) ?_
  refine tcons (ok_iload_n dX5_vote_138 rfl rfl) ?_
  refine tcons (ok_dup2 dX5_vote_139 rfl) ?_
  refine tcons (ok_iaload dX5_vote_140 rfl) ?_
  refine tcons (ok_iconst dX5_vote_141 rfl rfl) ?_
  refine tcons (ok_iadd dX5_vote_142 rfl) ?_
  refine tcons (ok_iastore dX5_vote_143 rfl) ?_
  refine tcons (ok_aload_n dX5_vote_144 rfl rfl) ?_
  refine tcons (ok_getfield (C := RX5) (T := TX5) (n := 33) rfl in_X5 (by decide) w_1020 dX5_vote_145 rfl) ?_
  refine tcons (ok_iload_n dX5_vote_148 rfl rfl) ?_
  refine tcons (ok_iaload dX5_vote_149 rfl) ?_
  refine tcons (ok_ireturn rfl dX5_vote_150) ?_
  exact fun _ h => nomatch h
def vtP (s : Sg) (c j d : Int32) : Prop := s.2.1 44 0 (cl c) = 1 ∧ s.2.1 48 0 (cl (3 * c + j)) = -1 ∧ d &&& (prM s (cl c) ^^^ (-1)) = 0
def sp_X5_vote : Spc := fun av s N _ => match av with
  | [.inl (.inr (20, 0)), .inl (.inl c), .inl (.inl j), .inl (.inl d)] => MI s ∧ f3 (isC s c ∧ inR j 0 2) (inR d 0 127) (vtP s c j d) (some (aI 0)) N s
      (N (some (aI (s.2.1 47 0 (cl c) + 1))) (stS (stS (th s 0) 48 0 (cl (3 * c + j)) d) 47 0 (cl c) (s.2.1 47 0 (cl c) + 1)))
  | _ => False
theorem vt_Ib {s : Sg} {c k : Int32} (hM : MI s) (h : isC s c) (h2 : inR k 0 2) : Ib (3 * c + k) 90 := by
  obtain ⟨j, hj, rfl⟩ := MI_cn hM h
  obtain ⟨i, hi, rfl⟩ := rg_nI (N := 2) h2 rfl
  rw [row3k]
  exact nIb (by omega) (by decide)
set_option maxRecDepth 20000 in
set_option maxHeartbeats 2000000 in
theorem M_X5_vote : AMet yX5_vote cX5_vote 7 (some .int) 2 0 sp_X5_vote := by
  refine AMet.mc (own := RX5) (by decide) rfl [0, 1, 2, 3, 4, 5, 6] rfl tok_X5_vote 200 ?_
  intro av s0 N X h
  unfold sp_X5_vote at h
  split at h
  rotate_left
  · exact h.elim
  rename_i c j d
  obtain ⟨hM, h⟩ := h
  refine ⟨[(33, fun m u L st s => ∃ a b, u = 0 ∧ m = 1 ∧ L = [(0, .inr (20, 0)), (1, .inl c), (2, .inl j), (3, .inl d), (4, .inl a), (5, .inl b)] ∧ st = [] ∧ s = s0 ∧ flg a (isC s c ∧ inR j 0 2) ∧ flg b (inR d 0 127)),
     (86, fun m u L st s => ∃ a b x, u = 0 ∧ m = 0 ∧ L = [(0, .inr (20, 0)), (1, .inl c), (2, .inl j), (3, .inl d), (4, .inl a), (5, .inl b), (6, .inl x)] ∧ st = [] ∧ s = s0 ∧ flg a (isC s c ∧ inR j 0 2) ∧ flg b (inR d 0 127) ∧
       (isC s c ∧ inR j 0 2 → inR d 0 127 → flg x (vtP s c j d)) ∧ (x = 0 ∨ x = 1))], ?_, ac ?_ (ac ?_ an)⟩
  · repeat' (first | apply And.intro | (intro q; exact absurd q (by decide)) | intro _)
    all_goals first | decide | (exact Nat.le_of_ble_eq_true rfl) | (exact ⟨1, 6, trivial, _, _, rfl, rfl, rfl, rfl, rfl, by simp_all [flg], by simp_all [flg]⟩)
  · rintro m u L st s ⟨a, b, rfl, rfl, rfl, rfl, rfl, ha, hb⟩
    rcases ha with ⟨rfl, ha⟩ | ⟨rfl, ha⟩ <;> rcases hb with ⟨rfl, hb⟩ | ⟨rfl, hb⟩
    all_goals repeat' (first | apply And.intro | (intro q; exact absurd q (by decide)) | intro _)
    all_goals first | decide | (exact Nat.le_of_ble_eq_true rfl) | (exact Ib_of (MI_c hM ha.1)) | (exact vt_Ib hM ha.1 ha.2) | (exact ⟨0, 7, Nat.one_pos, _, _, _, rfl, rfl, rfl, rfl, rfl, by simp_all [flg], by simp_all [flg], by simp_all [flg, vtP, prM], by simp⟩)
  · rintro m u L st s ⟨a, b, x, rfl, rfl, rfl, rfl, rfl, ha, hb, hx, hxx⟩
    rcases ha with ⟨rfl, ha⟩ | ⟨rfl, ha⟩ <;> rcases hb with ⟨rfl, hb⟩ | ⟨rfl, hb⟩ <;> rcases hxx with rfl | rfl
    all_goals repeat' (first | apply And.intro | (intro q; exact absurd q (by decide)) | intro _)
    all_goals first | decide | (exact Nat.le_of_ble_eq_true rfl) | (exact Ib_of (MI_c hM ha.1)) | (exact vt_Ib hM ha.1 ha.2) | (simp_all [f3, flg, stS_get]; done)

