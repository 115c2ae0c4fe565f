def prtM (s : Sg) (p : Int32) (x : Nat) : Int32 := if s.2.1 33 0 x = p then s.2.1 34 0 x else s.2.1 33 0 x
def txB : List Int32 := [98, 111, 117, 110, 100, 32, 98, 121, 32]
def txT : List Int32 := [32, 116, 111, 32]
/-- the text of a state -/
def txtM (s : Sg) (p x : Int32) : List Int32 := if x = -1 then [102, 114, 101, 101] else txB ++ dig (cl x) ++ txT ++ dig (cl (prtM s p (cl x)))
theorem tw_MI {s : Sg} {l : List Int32} : MI (tw s l) = MI s := by simp [MI, MI0, tw_get]
theorem tw_bb {s : Sg} {l : List Int32} {p t : Int32} : bbQ (tw s l) p t = bbQ s p t := by funext j; simp [bbQ, mof, mbd, tw_get]
theorem tw_nv {s : Sg} {l : List Int32} : nvm (tw s l) = nvm s := by simp [nvm, tw_get]
theorem dX5_writes_0 : decode cX5_writes 0 = .ok (.aload_n 0, 1) := by decide +kernel
theorem dX5_writes_1 : decode cX5_writes 1 = .ok (.iconst 0, 1) := by decide +kernel
theorem dX5_writes_2 : decode cX5_writes 2 = .ok (.putfield 205, 3) := by decide +kernel
theorem dX5_writes_5 : decode cX5_writes 5 = .ok (.aload_n 0, 1) := by decide +kernel
theorem dX5_writes_6 : decode cX5_writes 6 = .ok (.iload_n 1, 1) := by decide +kernel
theorem dX5_writes_7 : decode cX5_writes 7 = .ok (.iload_n 2, 1) := by decide +kernel
theorem dX5_writes_8 : decode cX5_writes 8 = .ok (.invokevirtual 202, 3) := by decide +kernel
theorem dX5_writes_11 : decode cX5_writes 11 = .ok (.istore_n 3, 1) := by decide +kernel
theorem dX5_writes_12 : decode cX5_writes 12 = .ok (.iload_n 3, 1) := by decide +kernel
theorem dX5_writes_13 : decode cX5_writes 13 = .ok (.iconst (-1), 1) := by decide +kernel
theorem dX5_writes_14 : decode cX5_writes 14 = .ok (.if_icmp .ne 28, 3) := by decide +kernel
theorem dX5_writes_17 : decode cX5_writes 17 = .ok (.aload_n 0, 1) := by decide +kernel
theorem dX5_writes_18 : decode cX5_writes 18 = .ok (.bipush 102, 2) := by decide +kernel
theorem dX5_writes_20 : decode cX5_writes 20 = .ok (.invokevirtual 208, 3) := by decide +kernel
theorem dX5_writes_23 : decode cX5_writes 23 = .ok (.aload_n 0, 1) := by decide +kernel
theorem dX5_writes_24 : decode cX5_writes 24 = .ok (.bipush 114, 2) := by decide +kernel
theorem dX5_writes_26 : decode cX5_writes 26 = .ok (.invokevirtual 208, 3) := by decide +kernel
theorem dX5_writes_29 : decode cX5_writes 29 = .ok (.aload_n 0, 1) := by decide +kernel
theorem dX5_writes_30 : decode cX5_writes 30 = .ok (.bipush 101, 2) := by decide +kernel
theorem dX5_writes_32 : decode cX5_writes 32 = .ok (.invokevirtual 208, 3) := by decide +kernel
theorem dX5_writes_35 : decode cX5_writes 35 = .ok (.aload_n 0, 1) := by decide +kernel
theorem dX5_writes_36 : decode cX5_writes 36 = .ok (.bipush 101, 2) := by decide +kernel
theorem dX5_writes_38 : decode cX5_writes 38 = .ok (.invokevirtual 208, 3) := by decide +kernel
theorem dX5_writes_41 : decode cX5_writes 41 = .ok (.return_, 1) := by decide +kernel
theorem dX5_writes_42 : decode cX5_writes 42 = .ok (.aload_n 0, 1) := by decide +kernel
theorem dX5_writes_43 : decode cX5_writes 43 = .ok (.bipush 98, 2) := by decide +kernel
theorem dX5_writes_45 : decode cX5_writes 45 = .ok (.invokevirtual 208, 3) := by decide +kernel
theorem dX5_writes_48 : decode cX5_writes 48 = .ok (.aload_n 0, 1) := by decide +kernel
theorem dX5_writes_49 : decode cX5_writes 49 = .ok (.bipush 111, 2) := by decide +kernel
theorem dX5_writes_51 : decode cX5_writes 51 = .ok (.invokevirtual 208, 3) := by decide +kernel
theorem dX5_writes_54 : decode cX5_writes 54 = .ok (.aload_n 0, 1) := by decide +kernel
theorem dX5_writes_55 : decode cX5_writes 55 = .ok (.bipush 117, 2) := by decide +kernel
theorem dX5_writes_57 : decode cX5_writes 57 = .ok (.invokevirtual 208, 3) := by decide +kernel
theorem dX5_writes_60 : decode cX5_writes 60 = .ok (.aload_n 0, 1) := by decide +kernel
theorem dX5_writes_61 : decode cX5_writes 61 = .ok (.bipush 110, 2) := by decide +kernel
theorem dX5_writes_63 : decode cX5_writes 63 = .ok (.invokevirtual 208, 3) := by decide +kernel
theorem dX5_writes_66 : decode cX5_writes 66 = .ok (.aload_n 0, 1) := by decide +kernel
theorem dX5_writes_67 : decode cX5_writes 67 = .ok (.bipush 100, 2) := by decide +kernel
theorem dX5_writes_69 : decode cX5_writes 69 = .ok (.invokevirtual 208, 3) := by decide +kernel
theorem dX5_writes_72 : decode cX5_writes 72 = .ok (.aload_n 0, 1) := by decide +kernel
theorem dX5_writes_73 : decode cX5_writes 73 = .ok (.bipush 32, 2) := by decide +kernel
theorem dX5_writes_75 : decode cX5_writes 75 = .ok (.invokevirtual 208, 3) := by decide +kernel
theorem dX5_writes_78 : decode cX5_writes 78 = .ok (.aload_n 0, 1) := by decide +kernel
theorem dX5_writes_79 : decode cX5_writes 79 = .ok (.bipush 98, 2) := by decide +kernel
theorem dX5_writes_81 : decode cX5_writes 81 = .ok (.invokevirtual 208, 3) := by decide +kernel
theorem dX5_writes_84 : decode cX5_writes 84 = .ok (.aload_n 0, 1) := by decide +kernel
theorem dX5_writes_85 : decode cX5_writes 85 = .ok (.bipush 121, 2) := by decide +kernel
theorem dX5_writes_87 : decode cX5_writes 87 = .ok (.invokevirtual 208, 3) := by decide +kernel
theorem dX5_writes_90 : decode cX5_writes 90 = .ok (.aload_n 0, 1) := by decide +kernel
theorem dX5_writes_91 : decode cX5_writes 91 = .ok (.bipush 32, 2) := by decide +kernel
theorem dX5_writes_93 : decode cX5_writes 93 = .ok (.invokevirtual 208, 3) := by decide +kernel
theorem dX5_writes_96 : decode cX5_writes 96 = .ok (.aload_n 0, 1) := by decide +kernel
theorem dX5_writes_97 : decode cX5_writes 97 = .ok (.iload_n 3, 1) := by decide +kernel
theorem dX5_writes_98 : decode cX5_writes 98 = .ok (.invokevirtual 212, 3) := by decide +kernel
theorem dX5_writes_101 : decode cX5_writes 101 = .ok (.aload_n 0, 1) := by decide +kernel
theorem dX5_writes_102 : decode cX5_writes 102 = .ok (.bipush 32, 2) := by decide +kernel
theorem dX5_writes_104 : decode cX5_writes 104 = .ok (.invokevirtual 208, 3) := by decide +kernel
theorem dX5_writes_107 : decode cX5_writes 107 = .ok (.aload_n 0, 1) := by decide +kernel
theorem dX5_writes_108 : decode cX5_writes 108 = .ok (.bipush 116, 2) := by decide +kernel
theorem dX5_writes_110 : decode cX5_writes 110 = .ok (.invokevirtual 208, 3) := by decide +kernel
theorem dX5_writes_113 : decode cX5_writes 113 = .ok (.aload_n 0, 1) := by decide +kernel
theorem dX5_writes_114 : decode cX5_writes 114 = .ok (.bipush 111, 2) := by decide +kernel
theorem dX5_writes_116 : decode cX5_writes 116 = .ok (.invokevirtual 208, 3) := by decide +kernel
theorem dX5_writes_119 : decode cX5_writes 119 = .ok (.aload_n 0, 1) := by decide +kernel
theorem dX5_writes_120 : decode cX5_writes 120 = .ok (.bipush 32, 2) := by decide +kernel
theorem dX5_writes_122 : decode cX5_writes 122 = .ok (.invokevirtual 208, 3) := by decide +kernel
theorem dX5_writes_125 : decode cX5_writes 125 = .ok (.aload_n 0, 1) := by decide +kernel
theorem dX5_writes_126 : decode cX5_writes 126 = .ok (.aload_n 0, 1) := by decide +kernel
theorem dX5_writes_127 : decode cX5_writes 127 = .ok (.getfield 41, 3) := by decide +kernel
theorem dX5_writes_130 : decode cX5_writes 130 = .ok (.iload_n 3, 1) := by decide +kernel
theorem dX5_writes_131 : decode cX5_writes 131 = .ok (.iaload, 1) := by decide +kernel
theorem dX5_writes_132 : decode cX5_writes 132 = .ok (.iload_n 1, 1) := by decide +kernel
theorem dX5_writes_133 : decode cX5_writes 133 = .ok (.if_icmp .ne 12, 3) := by decide +kernel
theorem dX5_writes_136 : decode cX5_writes 136 = .ok (.aload_n 0, 1) := by decide +kernel
theorem dX5_writes_137 : decode cX5_writes 137 = .ok (.getfield 44, 3) := by decide +kernel
theorem dX5_writes_140 : decode cX5_writes 140 = .ok (.iload_n 3, 1) := by decide +kernel
theorem dX5_writes_141 : decode cX5_writes 141 = .ok (.iaload, 1) := by decide +kernel
theorem dX5_writes_142 : decode cX5_writes 142 = .ok (.goto 9, 3) := by decide +kernel
theorem dX5_writes_145 : decode cX5_writes 145 = .ok (.aload_n 0, 1) := by decide +kernel
theorem dX5_writes_146 : decode cX5_writes 146 = .ok (.getfield 41, 3) := by decide +kernel
theorem dX5_writes_149 : decode cX5_writes 149 = .ok (.iload_n 3, 1) := by decide +kernel
theorem dX5_writes_150 : decode cX5_writes 150 = .ok (.iaload, 1) := by decide +kernel
theorem dX5_writes_151 : decode cX5_writes 151 = .ok (.invokevirtual 212, 3) := by decide +kernel
theorem dX5_writes_154 : decode cX5_writes 154 = .ok (.return_, 1) := by decide +kernel
def tab_X5_writes : List (Nat × Sem) := [(0, op_al 0 1), (1, op_ic 0 2), (2, op_pf 7 30 5), (5, op_al 0 6), (6, op_il 1 7), (7, op_il 2 8), (8, op_callV 7 sp_X5_boundBy 3 0 11), (11, op_is 3 12), (12, op_il 3 13), (13, op_ic (-1) 14), (14, op_cmp (fun x y => ¬ x = y) 42 17), (17, op_al 0 18), (18, op_ic 102 20), (20, op_callV 7 sp_X5_puts 2 0 23), (23, op_al 0 24), (24, op_ic 114 26), (26, op_callV 7 sp_X5_puts 2 0 29), (29, op_al 0 30), (30, op_ic 101 32), (32, op_callV 7 sp_X5_puts 2 0 35), (35, op_al 0 36), (36, op_ic 101 38), (38, op_callV 7 sp_X5_puts 2 0 41), (41, op_vret), (42, op_al 0 43), (43, op_ic 98 45), (45, op_callV 7 sp_X5_puts 2 0 48), (48, op_al 0 49), (49, op_ic 111 51), (51, op_callV 7 sp_X5_puts 2 0 54), (54, op_al 0 55), (55, op_ic 117 57), (57, op_callV 7 sp_X5_puts 2 0 60), (60, op_al 0 61), (61, op_ic 110 63), (63, op_callV 7 sp_X5_puts 2 0 66), (66, op_al 0 67), (67, op_ic 100 69), (69, op_callV 7 sp_X5_puts 2 0 72), (72, op_al 0 73), (73, op_ic 32 75), (75, op_callV 7 sp_X5_puts 2 0 78), (78, op_al 0 79), (79, op_ic 98 81), (81, op_callV 7 sp_X5_puts 2 0 84), (84, op_al 0 85), (85, op_ic 121 87), (87, op_callV 7 sp_X5_puts 2 0 90), (90, op_al 0 91), (91, op_ic 32 93), (93, op_callV 7 sp_X5_puts 2 0 96), (96, op_al 0 97), (97, op_il 3 98), (98, op_callV 7 sp_X5_putsNumber 2 0 101), (101, op_al 0 102), (102, op_ic 32 104), (104, op_callV 7 sp_X5_puts 2 0 107), (107, op_al 0 108), (108, op_ic 116 110), (110, op_callV 7 sp_X5_puts 2 0 113), (113, op_al 0 114), (114, op_ic 111 116), (116, op_callV 7 sp_X5_puts 2 0 119), (119, op_al 0 120), (120, op_ic 32 122), (122, op_callV 7 sp_X5_puts 2 0 125), (125, op_al 0 126), (126, op_al 0 127), (127, op_gf 7 13 130), (130, op_il 3 131), (131, op_iald 132), (132, op_il 1 133), (133, op_cmp (fun x y => ¬ x = y) 145 136), (136, op_al 0 137), (137, op_gf 7 14 140), (140, op_il 3 141), (141, op_iald 142), (142, op_go 151), (145, op_al 0 146), (146, op_gf 7 13 149), (149, op_il 3 150), (150, op_iald 151), (151, op_callV 7 sp_X5_putsNumber 2 0 154), (154, op_vret)]
set_option maxRecDepth 20000 in
theorem tok_X5_writes : ∀ q ∈ tab_X5_writes, Snd RX5 cX5_writes 4 2 0 none q.1 q.2 := by
  unfold tab_X5_writes
  refine tcons (ok_aload_n dX5_writes_0 rfl rfl) ?_
  refine tcons (ok_iconst dX5_writes_1 rfl rfl) ?_
  refine tcons (ok_putfield (C := RX5) (T := TX5) (n := 33) tyX5 .int rfl in_X5 tyX5_ok nmX5 (by decide) rfl w_1023 rfl (Or.inl rfl) dX5_writes_2 rfl) ?_
  refine tcons (ok_aload_n dX5_writes_5 rfl rfl) ?_
  refine tcons (ok_iload_n dX5_writes_6 rfl rfl) ?_
  refine tcons (ok_iload_n dX5_writes_7 rfl rfl) ?_
  refine tcons (ok_invokevirtual M_X5_boundBy (C := RX5) (T := TX5) (nf := 33) rfl w_1306 w_1308 w_38 w_49 w_1309 ⟨rfl, by decide, by decide, by decide +kernel⟩ (by decide) (by decide) dX5_writes_8 rfl) ?_
  refine tcons (ok_istore_n dX5_writes_11 rfl (by decide) rfl) ?_
  refine tcons (ok_iload_n dX5_writes_12 rfl rfl) ?_
  refine tcons (ok_iconst dX5_writes_13 rfl rfl) ?_
  refine tcons (ok_icmp_ne dX5_writes_14 rfl rfl) ?_
  refine tcons (ok_aload_n dX5_writes_17 rfl rfl) ?_
  refine tcons (ok_bipush dX5_writes_18 rfl rfl) ?_
  refine tcons (ok_invokevirtual M_X5_puts (C := RX5) (T := TX5) (nf := 33) rfl w_1326 w_1328 w_40 w_49 w_1329 ⟨rfl, by decide, by decide, by decide +kernel⟩ (by decide) (by decide) dX5_writes_20 rfl) ?_
  refine tcons (ok_aload_n dX5_writes_23 rfl rfl) ?_
  refine tcons (ok_bipush dX5_writes_24 rfl rfl) ?_
  refine tcons (ok_invokevirtual M_X5_puts (C := RX5) (T := TX5) (nf := 33) rfl w_1326 w_1328 w_40 w_49 w_1329 ⟨rfl, by decide, by decide, by decide +kernel⟩ (by decide) (by decide) dX5_writes_26 rfl) ?_
  refine tcons (ok_aload_n dX5_writes_29 rfl rfl) ?_
  refine tcons (ok_bipush dX5_writes_30 rfl rfl) ?_
  refine tcons (ok_invokevirtual M_X5_puts (C := RX5) (T := TX5) (nf := 33) rfl w_1326 w_1328 w_40 w_49 w_1329 ⟨rfl, by decide, by decide, by decide +kernel⟩ (by decide) (by decide) dX5_writes_32 rfl) ?_
  refine tcons (ok_aload_n dX5_writes_35 rfl rfl) ?_
  refine tcons (ok_bipush dX5_writes_36 rfl rfl) ?_
  refine tcons (ok_invokevirtual M_X5_puts (C := RX5) (T := TX5) (nf := 33) rfl w_1326 w_1328 w_40 w_49 w_1329 ⟨rfl, by decide, by decide, by decide +kernel⟩ (by decide) (by decide) dX5_writes_38 rfl) ?_
  refine tcons (ok_vreturn rfl dX5_writes_41) ?_
  refine tcons (ok_aload_n dX5_writes_42 rfl rfl) ?_
  refine tcons (ok_bipush dX5_writes_43 rfl rfl) ?_
  refine tcons (ok_invokevirtual M_X5_puts (C := RX5) (T := TX5) (nf := 33) rfl w_1326 w_1328 w_40 w_49 w_1329 ⟨rfl, by decide, by decide, by decide +kernel⟩ (by decide) (by decide) dX5_writes_45 rfl) ?_
  refine tcons (ok_aload_n dX5_writes_48 rfl rfl) ?_
  refine tcons (ok_bipush dX5_writes_49 rfl rfl) ?_
  refine tcons (ok_invokevirtual M_X5_puts (C := RX5) (T := TX5) (nf := 33) rfl w_1326 w_1328 w_40 w_49 w_1329 ⟨rfl, by decide, by decide, by decide +kernel⟩ (by decide) (by decide) dX5_writes_51 rfl) ?_
  refine tcons (ok_aload_n dX5_writes_54 rfl rfl) ?_
  refine tcons (ok_bipush dX5_writes_55 rfl rfl) ?_
  refine tcons (ok_invokevirtual M_X5_puts (C := RX5) (T := TX5) (nf := 33) rfl w_1326 w_1328 w_40 w_49 w_1329 ⟨rfl, by decide, by decide, by decide +kernel⟩ (by decide) (by decide) dX5_writes_57 rfl) ?_
  refine tcons (ok_aload_n dX5_writes_60 rfl rfl) ?_
  refine tcons (ok_bipush dX5_writes_61 rfl rfl) ?_
  refine tcons (ok_invokevirtual M_X5_puts (C := RX5) (T := TX5) (nf := 33) rfl w_1326 w_1328 w_40 w_49 w_1329 ⟨rfl, by decide, by decide, by decide +kernel⟩ (by decide) (by decide) dX5_writes_63 rfl) ?_
  refine tcons (ok_aload_n dX5_writes_66 rfl rfl) ?_
  refine tcons (ok_bipush dX5_writes_67 rfl rfl) ?_
  refine tcons (ok_invokevirtual M_X5_puts (C := RX5) (T := TX5) (nf := 33) rfl w_1326 w_1328 w_40 w_49 w_1329 ⟨rfl, by decide, by decide, by decide +kernel⟩ (by decide) (by decide) dX5_writes_69 rfl) ?_
  refine tcons (ok_aload_n dX5_writes_72 rfl rfl) ?_
  refine tcons (ok_bipush dX5_writes_73 rfl rfl) ?_
  refine tcons (ok_invokevirtual M_X5_puts (C := RX5) (T := TX5) (nf := 33) rfl w_1326 w_1328 w_40 w_49 w_1329 ⟨rfl, by decide, by decide, by decide +kernel⟩ (by decide) (by decide) dX5_writes_75 rfl) ?_
  refine tcons (ok_aload_n dX5_writes_78 rfl rfl) ?_
  refine tcons (ok_bipush dX5_writes_79 rfl rfl) ?_
  refine tcons (ok_invokevirtual M_X5_puts (C := RX5) (T := TX5) (nf := 33) rfl w_1326 w_1328 w_40 w_49 w_1329 ⟨rfl, by decide, by decide, by decide +kernel⟩ (by decide) (by decide) dX5_writes_81 rfl) ?_
  refine tcons (ok_aload_n dX5_writes_84 rfl rfl) ?_
  refine tcons (ok_bipush dX5_writes_85 rfl rfl) ?_
  refine tcons (ok_invokevirtual M_X5_puts (C := RX5) (T := TX5) (nf := 33) rfl w_1326 w_1328 w_40 w_49 w_1329 ⟨rfl, by decide, by decide, by decide +kernel⟩ (by decide) (by decide) dX5_writes_87 rfl) ?_
  refine tcons (ok_aload_n dX5_writes_90 rfl rfl) ?_
  refine tcons (ok_bipush dX5_writes_91 rfl rfl) ?_
  refine tcons (ok_invokevirtual M_X5_puts (C := RX5) (T := TX5) (nf := 33) rfl w_1326 w_1328 w_40 w_49 w_1329 ⟨rfl, by decide, by decide, by decide +kernel⟩ (by decide) (by decide) dX5_writes_93 rfl) ?_
  refine tcons (ok_aload_n dX5_writes_96 rfl rfl) ?_
  refine tcons (ok_iload_n dX5_writes_97 rfl rfl) ?_
  refine tcons (ok_invokevirtual M_X5_putsNumber (C := RX5) (T := TX5) (nf := 33) rfl w_1330 w_1332 w_41 w_49 w_1333 ⟨rfl, by decide, by decide, by decide +kernel⟩ (by decide) (by decide) dX5_writes_98 rfl) ?_
  refine tcons (ok_aload_n dX5_writes_101 rfl rfl) ?_
  refine tcons (ok_bipush dX5_writes_102 rfl rfl) ?_
  refine tcons (ok_invokevirtual M_X5_puts (C := RX5) (T := TX5) (nf := 33) rfl w_1326 w_1328 w_40 w_49 w_1329 ⟨rfl, by decide, by decide, by decide +kernel⟩ (by decide) (by decide) dX5_writes_104 rfl) ?_
  refine tcons (ok_aload_n dX5_writes_107 rfl rfl) ?_
  refine tcons (ok_bipush dX5_writes_108 rfl rfl) ?_
  refine tcons (ok_invokevirtual M_X5_puts (C := RX5) (T := TX5) (nf := 33) rfl w_1326 w_1328 w_40 w_49 w_1329 ⟨rfl, by decide, by decide, by decide +kernel⟩ (by decide) (by decide) dX5_writes_110 rfl) ?_
  refine tcons (ok_aload_n dX5_writes_113 rfl rfl) ?_
  refine tcons (ok_bipush dX5_writes_114 rfl rfl) ?_
  refine tcons (ok_invokevirtual M_X5_puts (C := RX5) (T := TX5) (nf := 33) rfl w_1326 w_1328 w_40 w_49 w_1329 ⟨rfl, by decide, by decide, by decide +kernel⟩ (by decide) (by decide) dX5_writes_116 rfl) ?_
  refine tcons (ok_aload_n dX5_writes_119 rfl rfl) ?_
  refine tcons (ok_bipush dX5_writes_120 rfl rfl) ?_
  refine tcons (ok_invokevirtual M_X5_puts (C := RX5) (T := TX5) (nf := 33) rfl w_1326 w_1328 w_40 w_49 w_1329 ⟨rfl, by decide, by decide, by decide +kernel⟩ (by decide) (by decide) dX5_writes_122 rfl) ?_
  refine tcons (ok_aload_n dX5_writes_125 rfl rfl) ?_
  refine tcons (ok_aload_n dX5_writes_126 rfl rfl) ?_
  refine tcons (ok_getfield (C := RX5) (T := TX5) (n := 33) rfl in_X5 (by decide) w_1006 dX5_writes_127 rfl) ?_
  refine tcons (ok_iload_n dX5_writes_130 rfl rfl) ?_
  refine tcons (ok_iaload dX5_writes_131 rfl) ?_
  refine tcons (ok_iload_n dX5_writes_132 rfl rfl) ?_
  refine tcons (ok_icmp_ne dX5_writes_133 rfl rfl) ?_
  refine tcons (ok_aload_n dX5_writes_136 rfl rfl) ?_
  refine tcons (ok_getfield (C := RX5) (T := TX5) (n := 33) rfl in_X5 (by decide) w_1007 dX5_writes_137 rfl) ?_
  refine tcons (ok_iload_n dX5_writes_140 rfl rfl) ?_
  refine tcons (ok_iaload dX5_writes_141 rfl) ?_
  refine tcons (ok_goto dX5_writes_142 rfl) ?_
  refine tcons (ok_aload_n dX5_writes_145 rfl rfl) ?_
  refine tcons (ok_getfield (C := RX5) (T := TX5) (n := 33) rfl in_X5 (by decide) w_1006 dX5_writes_146 rfl) ?_
  refine tcons (ok_iload_n dX5_writes_149 rfl rfl) ?_
  refine tcons (ok_iaload dX5_writes_150 rfl) ?_
  refine tcons (ok_invokevirtual M_X5_putsNumber (C := RX5) (T := TX5) (nf := 33) rfl w_1330 w_1332 w_41 w_49 w_1333 ⟨rfl, by decide, by decide, by decide +kernel⟩ (by decide) (by decide) dX5_writes_151 rfl) ?_
  refine tcons (ok_vreturn rfl dX5_writes_154) ?_
  exact fun _ h => nomatch h
def sp_X5_writes : Spc := fun av s N _ => match av with
  | [.inl (.inr (20, 0)), .inl (.inl p), .inl (.inl t)] => MI s ∧ WI s ∧ ∀ x, lowest (bbQ s p t) 0 (nvm s) x → N none (tw s (txtM s p x))
  | _ => False
set_option maxRecDepth 20000 in
set_option maxHeartbeats 2000000 in
theorem M_X5_writes : AMet yX5_writes cX5_writes 4 none 2 0 sp_X5_writes := by
  refine AMet.mc (own := RX5) (by decide) rfl [0, 1, 2, 3] rfl tok_X5_writes 200 ?_
  intro av s0 N X h
  unfold sp_X5_writes at h
  split at h
  rotate_left
  · exact h.elim
  obtain ⟨hM, hW, h⟩ := h
  rename_i p t
  obtain ⟨-, ⟨n, hn, hv⟩, -⟩ := of_eq_true hM
  have hnv := nvm_eq hv hn
  refine ⟨[(12, fun m u L st s => ∃ x, u = 0 ∧ m = 0 ∧ L = [(0, .inr (20, 0)), (1, .inl p), (2, .inl t), (3, .inl x)] ∧ st = [] ∧ s = tw s0 [] ∧ lowest (bbQ s0 p t) 0 (nvm s0) x)], ?_, ac ?_ an⟩
  · repeat' (first | apply And.intro | (intro q; exact absurd q (by decide)) | intro _)
    all_goals first | (simp only [tw_0, tw_MI]; exact hM) | decide | (exact Nat.le_of_ble_eq_true rfl) | (refine ⟨0, 4, trivial, _, rfl, rfl, rfl, rfl, tw_0, ?_⟩; rename_i q; simp only [tw_0, tw_bb, tw_nv] at q; exact q)
  · rintro m u L st s ⟨x, rfl, rfl, rfl, rfl, rfl, hx⟩
    have hF := h x hx
    rcases hx with ⟨rfl, -⟩ | ⟨v, -, hvn, rfl, hQ, -⟩
    · rw [show txtM s0 p (-1) = [102, 114, 101, 101] from if_pos rfl] at hF
      repeat' (first | apply And.intro | (intro q; exact absurd q (by decide)) | (refine Exists.intro s0 (Exists.intro _ (And.intro rfl (And.intro (Nat.le_of_ble_eq_true rfl) ?_)))) | intro _)
      all_goals first | (with_reducible exact rfl) | (exact Nat.le_of_ble_eq_true rfl) | (exact hF)
    · rw [hnv] at hvn
      have hne : ¬ nI v = -1 := by
        intro q
        have h1 : (nI v).toInt = v := nI_toInt (by omega)
        rw [q] at h1
        have : (-1 : Int32).toInt = -1 := rfl
        omega
      have c0 : cl (nI v) = v := nI_clamp (by omega)
      obtain ⟨w, hw, hp⟩ : ∃ w, w < 24 ∧ prtM s0 p v = nI w := by
        have h2 := (of_eq_true hW).1 v (by rw [hnv]; exact hvn)
        unfold prtM
        split
        · obtain ⟨w, h3, h4⟩ := Ib_nI h2.2 (by decide); exact ⟨w, h3, h4⟩
        · obtain ⟨w, h3, h4⟩ := Ib_nI h2.1 (by decide); exact ⟨w, h3, h4⟩
      rw [show txtM s0 p (nI v) = txB ++ dig v ++ txT ++ dig w by unfold txtM; rw [if_neg hne, c0, hp, show cl (nI w) = w from nI_clamp (by omega)]] at hF
      have i0 : Ib (nI v) 30 := nIb (by omega) (by decide)
      have hdl := dig_len v
      have g33 : ∀ l, (tw s0 l).2.1 (20 + 13) 0 (nI v).toNatClampNeg = s0.2.1 33 0 v := fun l => by rw [nI_clamp (by omega), tw_get]; simp
      have g34 : ∀ l, (tw s0 l).2.1 (20 + 14) 0 (nI v).toNatClampNeg = s0.2.1 34 0 v := fun l => by rw [nI_clamp (by omega), tw_get]; simp
      have hp1 : s0.2.1 33 0 v = p → s0.2.1 34 0 v = nI w := fun q => by rw [← hp]; unfold prtM; rw [if_pos q]
      have hp2 : ¬ s0.2.1 33 0 v = p → s0.2.1 33 0 v = nI w := fun q => by rw [← hp]; unfold prtM; rw [if_neg q]
      have hF2 : N none (tw s0 (txB ++ dig v ++ [32] ++ [116] ++ [111] ++ [32] ++ dig w)) := by
        have e : txB ++ dig v ++ txT ++ dig w = txB ++ dig v ++ [32] ++ [116] ++ [111] ++ [32] ++ dig w := by unfold txT; simp
        rw [← e]; exact hF
      clear h hM hW hF hQ hv hnv
      repeat' (first | apply And.intro | (intro q; exact absurd q (by decide)) | (intro q; exact absurd hne q) | (refine Exists.intro s0 (Exists.intro _ (And.intro rfl (And.intro (Nat.le_of_ble_eq_true rfl) ?_)))) |
        (refine Exists.intro s0 (Exists.intro txB (Exists.intro v (And.intro rfl (And.intro rfl (And.intro (by omega) (And.intro (Nat.le_of_ble_eq_true rfl) ?_))))))) |
        (refine Exists.intro s0 (Exists.intro _ (And.intro rfl (And.intro (by simp [txB]; omega) ?_)))) | intro _)
      all_goals first | (with_reducible exact i0) | (with_reducible exact rfl) | (exact Nat.le_of_ble_eq_true rfl) | skip
      all_goals first | (refine Exists.intro s0 (Exists.intro _ (Exists.intro w (And.intro rfl (And.intro ?_ (And.intro (by omega) (And.intro (by simp [txB]; omega) (And.intro (Nat.le_of_ble_eq_true rfl) hF2))))))); first | (simp only [g33, g34] at *; exact hp1 (by assumption)) | (simp only [g33, g34] at *; exact hp2 (by assumption)) | (simp_all; done)) | skip
/-- a text's letter -/
def chM (l : List Int32) (r : Int32) : Int32 := if cl r < l.length then l.getD (cl r) 0 else 0
theorem dX5_state_0 : decode cX5_state 0 = .ok (.aload_n 0, 1) := by decide +kernel
theorem dX5_state_1 : decode cX5_state 1 = .ok (.aload_n 0, 1) := by decide +kernel
theorem dX5_state_2 : decode cX5_state 2 = .ok (.iload_n 1, 1) := by decide +kernel
theorem dX5_state_3 : decode cX5_state 3 = .ok (.invokevirtual 106, 3) := by decide +kernel
theorem dX5_state_6 : decode cX5_state 6 = .ok (.ifCond .eq 7, 3) := by decide +kernel
theorem dX5_state_9 : decode cX5_state 9 = .ok (.iload_n 3, 1) := by decide +kernel
theorem dX5_state_10 : decode cX5_state 10 = .ok (.ifCond .ge 7, 3) := by decide +kernel
theorem dX5_state_13 : decode cX5_state 13 = .ok (.iconst 1, 1) := by decide +kernel
theorem dX5_state_14 : decode cX5_state 14 = .ok (.goto 18, 3) := by decide +kernel
theorem dX5_state_17 : decode cX5_state 17 = .ok (.iload_n 2, 1) := by decide +kernel
theorem dX5_state_18 : decode cX5_state 18 = .ok (.iconst 0, 1) := by decide +kernel
theorem dX5_state_19 : decode cX5_state 19 = .ok (.ldc 201, 2) := by decide +kernel
theorem dX5_state_21 : decode cX5_state 21 = .ok (.invokestatic 99, 3) := by decide +kernel
theorem dX5_state_24 : decode cX5_state 24 = .ok (.ifCond .eq 7, 3) := by decide +kernel
theorem dX5_state_27 : decode cX5_state 27 = .ok (.iconst 0, 1) := by decide +kernel
theorem dX5_state_28 : decode cX5_state 28 = .ok (.goto 4, 3) := by decide +kernel
theorem dX5_state_31 : decode cX5_state 31 = .ok (.iconst 2, 1) := by decide +kernel
theorem dX5_state_32 : decode cX5_state 32 = .ok (.invokevirtual 114, 3) := by decide +kernel
theorem dX5_state_35 : decode cX5_state 35 = .ok (.ifCond .eq 5, 3) := by decide +kernel
theorem dX5_state_38 : decode cX5_state 38 = .ok (.iconst 0, 1) := by decide +kernel
theorem dX5_state_39 : decode cX5_state 39 = .ok (.ireturn, 1) := by decide +kernel
theorem dX5_state_40 : decode cX5_state 40 = .ok (.aload_n 0, 1) := by decide +kernel
theorem dX5_state_41 : decode cX5_state 41 = .ok (.iload_n 1, 1) := by decide +kernel
theorem dX5_state_42 : decode cX5_state 42 = .ok (.iload_n 2, 1) := by decide +kernel
theorem dX5_state_43 : decode cX5_state 43 = .ok (.invokevirtual 215, 3) := by decide +kernel
theorem dX5_state_46 : decode cX5_state 46 = .ok (.iload_n 3, 1) := by decide +kernel
theorem dX5_state_47 : decode cX5_state 47 = .ok (.aload_n 0, 1) := by decide +kernel
theorem dX5_state_48 : decode cX5_state 48 = .ok (.getfield 205, 3) := by decide +kernel
theorem dX5_state_51 : decode cX5_state 51 = .ok (.if_icmp .ge 13, 3) := by decide +kernel
theorem dX5_state_54 : decode cX5_state 54 = .ok (.aload_n 0, 1) := by decide +kernel
theorem dX5_state_55 : decode cX5_state 55 = .ok (.getfield 89, 3) := by decide +kernel
theorem dX5_state_58 : decode cX5_state 58 = .ok (.iload_n 3, 1) := by decide +kernel
theorem dX5_state_59 : decode cX5_state 59 = .ok (.iaload, 1) := by decide +kernel
theorem dX5_state_60 : decode cX5_state 60 = .ok (.i2c, 1) := by decide +kernel
theorem dX5_state_61 : decode cX5_state 61 = .ok (.goto 4, 3) := by decide +kernel
theorem dX5_state_64 : decode cX5_state 64 = .ok (.iconst 0, 1) := by decide +kernel
theorem dX5_state_65 : decode cX5_state 65 = .ok (.ireturn, 1) := by decide +kernel
def tab_X5_state : List (Nat × Sem) := [(0, op_al 0 1), (1, op_al 0 2), (2, op_il 1 3), (3, op_callV 7 sp_X5_isPerson 2 0 6), (6, op_if (fun x => x = 0) 13 9), (9, op_il 3 10), (10, op_if (fun x => 0 ≤ x) 17 13), (13, op_ic 1 14), (14, op_go 32), (17, op_il 2 18), (18, op_ic 0 19), (19, op_ic 1000000 21), (21, op_call sp_X5_isIn 3 0 24), (24, op_if (fun x => x = 0) 31 27), (27, op_ic 0 28), (28, op_go 32), (31, op_ic 2 32), (32, op_callV 7 sp_X5_fails 2 0 35), (35, op_if (fun x => x = 0) 40 38), (38, op_ic 0 39), (39, op_cret), (40, op_al 0 41), (41, op_il 1 42), (42, op_il 2 43), (43, op_callV 7 sp_X5_writes 3 0 46), (46, op_il 3 47), (47, op_al 0 48), (48, op_gf 7 30 51), (51, op_cmp (fun x y => y ≤ x) 64 54), (54, op_al 0 55), (55, op_gf 7 31 58), (58, op_il 3 59), (59, op_iald 60), (60, op_i2c 61), (61, op_go 65), (64, op_ic 0 65), (65, op_cret)]
set_option maxRecDepth 20000 in
theorem tok_X5_state : ∀ q ∈ tab_X5_state, Snd RX5 cX5_state 4 3 0 (some .char) q.1 q.2 := by
  unfold tab_X5_state
  refine tcons (ok_aload_n dX5_state_0 rfl rfl) ?_
  refine tcons (ok_aload_n dX5_state_1 rfl rfl) ?_
  refine tcons (ok_iload_n dX5_state_2 rfl rfl) ?_
  refine tcons (ok_invokevirtual M_X5_isPerson (C := RX5) (T := TX5) (nf := 33) rfl w_1101 w_1103 w_19 w_49 w_1104 ⟨rfl, by decide, by decide, by decide +kernel⟩ (by decide) (by decide) dX5_state_3 rfl) ?_
  refine tcons (ok_if_eq dX5_state_6 rfl rfl) ?_
  refine tcons (ok_iload_n dX5_state_9 rfl rfl) ?_
  refine tcons (ok_if_ge dX5_state_10 rfl rfl) ?_
  refine tcons (ok_iconst dX5_state_13 rfl rfl) ?_
  refine tcons (ok_goto dX5_state_14 rfl) ?_
  refine tcons (ok_iload_n dX5_state_17 rfl rfl) ?_
  refine tcons (ok_iconst dX5_state_18 rfl rfl) ?_
  refine tcons (ok_ldc w_1305 dX5_state_19 rfl) ?_
  refine tcons (ok_invokestatic M_X5_isIn w_1105 w_1106 w_49 w_1107 ⟨by decide, by decide, by decide +kernel⟩ (by decide) (by decide) dX5_state_21 rfl) ?_
  refine tcons (ok_if_eq dX5_state_24 rfl rfl) ?_
  refine tcons (ok_iconst dX5_state_27 rfl rfl) ?_
  refine tcons (ok_goto dX5_state_28 rfl) ?_
  refine tcons (ok_iconst dX5_state_31 rfl rfl) ?_
  refine tcons (ok_invokevirtual M_X5_fails (C := RX5) (T := TX5) (nf := 33) rfl w_1112 w_1114 w_20 w_49 w_1115 ⟨rfl, by decide, by decide, by decide +kernel⟩ (by decide) (by decide) dX5_state_32 rfl) ?_
  refine tcons (ok_if_eq dX5_state_35 rfl rfl) ?_
  refine tcons (ok_iconst dX5_state_38 rfl rfl) ?_
  refine tcons (ok_creturn rfl dX5_state_39) ?_
  refine tcons (ok_aload_n dX5_state_40 rfl rfl) ?_
  refine tcons (ok_iload_n dX5_state_41 rfl rfl) ?_
  refine tcons (ok_iload_n dX5_state_42 rfl rfl) ?_
  refine tcons (ok_invokevirtual M_X5_writes (C := RX5) (T := TX5) (nf := 33) rfl w_1322 w_1324 w_39 w_49 w_1325 ⟨rfl, by decide, by decide, by decide +kernel⟩ (by decide) (by decide) dX5_state_43 rfl) ?_
  refine tcons (ok_iload_n dX5_state_46 rfl rfl) ?_
  refine tcons (ok_aload_n dX5_state_47 rfl rfl) ?_
  refine tcons (ok_getfield (C := RX5) (T := TX5) (n := 33) rfl in_X5 (by decide) w_1023 dX5_state_48 rfl) ?_
  refine tcons (ok_icmp_ge dX5_state_51 rfl rfl) ?_
  refine tcons (ok_aload_n dX5_state_54 rfl rfl) ?_
  refine tcons (ok_getfield (C := RX5) (T := TX5) (n := 33) rfl in_X5 (by decide) w_1024 dX5_state_55 rfl) ?_
  refine tcons (ok_iload_n dX5_state_58 rfl rfl) ?_
  refine tcons (ok_iaload dX5_state_59 rfl) ?_
  refine tcons (ok_i2c dX5_state_60 rfl) ?_
  refine tcons (ok_goto dX5_state_61 rfl) ?_
  refine tcons (ok_iconst dX5_state_64 rfl rfl) ?_
  refine tcons (ok_creturn rfl dX5_state_65) ?_
  exact fun _ h => nomatch h
def sp_X5_state : Spc := fun av s N _ => match av with
  | [.inl (.inr (20, 0)), .inl (.inl p), .inl (.inl t), .inl (.inl r)] => MI s ∧ WI s ∧ f2 (isP s p ∧ ¬ r < 0) (inR t 0 1000000) (some (aI 0)) N s (∀ x, lowest (bbQ s p t) 0 (nvm s) x → N (some (aI (chM (txtM s p x) r))) (tw (th s 0) (txtM s p x)))
  | _ => False
theorem lst_chr {l : List Int32} (h : ∀ y ∈ l, ∃ q, q < 65536 ∧ y = nI q) (r : Int32) : ∃ q, q < 65536 ∧ chM l r = nI q := by
  unfold chM
  split
  · rename_i hl
    rw [List.getD_eq_getElem?_getD, List.getElem?_eq_getElem hl]
    exact h _ (List.getElem_mem hl)
  · exact ⟨0, by decide, rfl⟩
theorem dig_chr {k : Nat} (hk : k < 100) : ∀ y ∈ dig k, ∃ q, q < 65536 ∧ y = nI q := by
  intro y hy
  unfold dig at hy
  split at hy
  · rcases List.mem_cons.mp hy with rfl | hy
    · exact ⟨48 + k / 10, by omega, rfl⟩
    · exact ⟨48 + k % 10, by omega, List.mem_singleton.mp hy⟩
  · exact ⟨48 + k % 10, by omega, List.mem_singleton.mp hy⟩
theorem lit_chr {l : List Int32} (h : l.all (fun y => decide (0 ≤ y) && decide (y < 1000)) = true) : ∀ y ∈ l, ∃ q, q < 65536 ∧ y = nI q := by
  intro y hy
  have h1 := List.all_eq_true.mp h y hy
  simp only [Bool.and_eq_true, decide_eq_true_eq] at h1
  obtain ⟨j, hj, rfl⟩ := nI_of (x := y) (by simpa using h1.1)
  refine ⟨j, ?_, rfl⟩
  have h2 := Int32.lt_iff_toInt_lt.mp h1.2
  rw [nI_toInt hj] at h2
  have : (1000 : Int32).toInt = 1000 := rfl
  omega
theorem txt_in {s : Sg} (hM : MI s) (hW : WI s) {p t x : Int32} (hx : lowest (bbQ s p t) 0 (nvm s) x) : (∀ y ∈ txtM s p x, ∃ q, q < 65536 ∧ y = nI q) ∧ (txtM s p x).length ≤ 20 := by
  obtain ⟨-, ⟨n, hn, hv⟩, -⟩ := of_eq_true hM
  have hnv := nvm_eq hv hn
  rcases hx with ⟨rfl, -⟩ | ⟨v, -, hvn, rfl, -, -⟩
  · rw [show txtM s p (-1) = [102, 114, 101, 101] from if_pos rfl]
    exact ⟨lit_chr (by decide), by simp⟩
  · unfold txtM
    have c0 : cl (nI v) = v := nI_clamp (by omega)
    have hw : ∃ w, w < 24 ∧ prtM s p v = nI w := by
      have h2 := (of_eq_true hW).1 v hvn
      unfold prtM
      split
      · obtain ⟨w, h3, h4⟩ := Ib_nI h2.2 (by decide); exact ⟨w, h3, h4⟩
      · obtain ⟨w, h3, h4⟩ := Ib_nI h2.1 (by decide); exact ⟨w, h3, h4⟩
    obtain ⟨w, hw, hp⟩ := hw
    split
    · exact ⟨lit_chr (by decide), by simp⟩
    · rw [c0, hp, show cl (nI w) = w from nI_clamp (by omega)]
      refine ⟨fun y hy => ?_, ?_⟩
      · simp only [List.mem_append] at hy
        rcases hy with ((hy | hy) | hy) | hy
        · exact lit_chr (l := txB) (by decide) y hy
        · exact dig_chr (by omega) y hy
        · exact lit_chr (l := txT) (by decide) y hy
        · exact dig_chr (by omega) y hy
      · have h1 := dig_len v
        have h2 := dig_len w
        simp [txB, txT]
        omega
theorem WI_th {s : Sg} {k : Int32} : WI (th s k) = WI s := by simp [WI, WI0, stS_get, nvm_th, ncm_th]
theorem txtM_th {s : Sg} {k p x : Int32} : txtM (th s k) p x = txtM s p x := by simp [txtM, prtM, stS_get]
theorem i2c_nI {q : Nat} (h : q < 65536) : ((nI q).toUInt32 % 65536).toInt32 = nI q := by
  have := (pk_char (nI q)).trans (by rw [pk_tn (by omega), Nat.mod_eq_of_lt h])
  exact this
set_option maxRecDepth 20000 in
set_option maxHeartbeats 2000000 in
theorem M_X5_state : AMet yX5_state cX5_state 4 (some .char) 3 0 sp_X5_state := by
  refine AMet.mc (own := RX5) (by decide) rfl [0, 1, 2, 3] rfl tok_X5_state 200 ?_
  intro av s0 N X h
  unfold sp_X5_state at h
  split at h
  rotate_left
  · exact h.elim
  obtain ⟨hM, hW, h1, h2, h3⟩ := h
  rename_i p t r
  refine ⟨[(46, fun m u L st s => ∃ x, u = 0 ∧ m = 0 ∧ L = [(0, .inr (20, 0)), (1, .inl p), (2, .inl t), (3, .inl r)] ∧ st = [] ∧ s = tw (th s0 0) (txtM s0 p x) ∧ (isP s0 p ∧ ¬ r < 0) ∧ inR t 0 1000000 ∧ lowest (bbQ s0 p t) 0 (nvm s0) x)], ?_, ac ?_ an⟩
  · repeat' (first | apply And.intro | (intro q; exact absurd q (by decide)) | intro _)
    all_goals first | (rw [MI_th]; exact hM) | (rw [WI_th]; exact hW) | (exact ⟨0, Nat.le_of_ble_eq_true rfl, rfl⟩) | decide | (exact Nat.le_of_ble_eq_true rfl) |
      (rename_i x q; refine ⟨0, 4, trivial, x, rfl, rfl, rfl, rfl, by rw [txtM_th], ?_, by assumption, by rw [bbQ_th, nvm_th] at q; exact q⟩; simp_all) | (exact ⟨0, by decide, rfl⟩) | (simp_all; done)
  · rintro m u L st s ⟨x, rfl, rfl, rfl, rfl, rfl, hp, ht, hx⟩
    have hF := h3 hp ht x hx
    obtain ⟨g1, g2⟩ := txt_in hM hW hx
    obtain ⟨l, hl⟩ : ∃ z, z = txtM s0 p x := ⟨_, rfl⟩
    rw [← hl] at hF g1 g2 ⊢
    obtain ⟨j, hj, rfl⟩ := nI_of hp.2
    have e1 : (tw (th s0 0) l).2.1 20 0 30 = nI l.length := by rw [tw_get]; simp
    have cj : cl (nI j) = j := nI_clamp hj
    have hle : nI l.length ≤ nI j ↔ l.length ≤ j := nI_leI (by omega) hj
    obtain ⟨q, hq, hqe⟩ := lst_chr g1 (nI j)
    have hch : chM l (nI j) = if j < l.length then l.getD j 0 else 0 := by unfold chM; rw [cj]
    by_cases hjl : j < l.length
    · have e2 : (tw (th s0 0) l).2.1 51 0 j = l.getD j 0 := by rw [tw_get, if_pos ⟨rfl, rfl, hjl⟩]
      have e4 : l.getD j 0 = nI q := by rw [← hqe, hch, if_pos hjl]
      have hn : ¬ (tw (th s0 0) l).2.1 20 0 30 ≤ nI j := by rw [e1]; intro q; have := hle.mp q; omega
      have e5 : (((tw (th s0 0) l).2.1 (20 + 31) 0 (nI j).toNatClampNeg).toUInt32 % 65536).toInt32 = chM l (nI j) := by
        rw [hqe, show (nI j).toNatClampNeg = j from cj, e2, e4]; exact i2c_nI hq
      clear h1 h2 h3 hl
      repeat' (first | apply And.intro | (intro q; exact absurd q (by decide)) | (intro q; exact absurd q hn) | intro _)
      all_goals first | (with_reducible exact rfl) | (exact Nat.le_of_ble_eq_true rfl) | (exact nIb (by omega) (by decide)) | (exact ⟨q, hq, by rw [e5, hqe]⟩) | (rw [e5]; exact hF)
    · have hn : (tw (th s0 0) l).2.1 20 0 30 ≤ nI j := by rw [e1]; exact hle.mpr (by omega)
      rw [hch, if_neg hjl] at hF
      clear h1 h2 h3 hl
      repeat' (first | apply And.intro | (intro q; exact absurd q (by decide)) | (intro q; exact absurd hn q) | intro _)
      all_goals first | (with_reducible exact rfl) | (exact Nat.le_of_ble_eq_true rfl) | (exact ⟨0, by decide, rfl⟩) | (exact hF)

