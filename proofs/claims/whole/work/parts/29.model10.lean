/-- the cause's rows of three, all -1 -/
theorem st6 {s : Sg} {n : Nat} {x : Int32} : stS (stS (stS (stS (stS (stS s 49 0 (3 * n) x) 48 0 (3 * n) x) 49 0 (3 * n + 1) x) 48 0 (3 * n + 1) x) 49 0 (3 * n + 2) x) 48 0 (3 * n + 2) x = stR (stR s 49 (3 * n) 3 x) 48 (3 * n) 3 x := by
  refine Sg_ext rfl (fun a b c => ?_) rfl
  simp only [stS_get, stR_get]
  grind (splits := 40)
def caM (s : Sg) (v d : Int32) : Sg := stS (stR (stR (stS (stS (stS (th s 0) 42 0 (ncm s) v) 43 0 (ncm s) d) 45 0 (ncm s) 1) 49 (3 * ncm s) 3 (-1)) 48 (3 * ncm s) 3 (-1)) 20 0 21 (s.2.1 20 0 21 + 1)
def caP (s : Sg) (v p b : Int32) : Prop := ¬ 30 ≤ s.2.1 20 0 21 ∧ (s.2.1 39 0 (cl v) = 0 ∨ s.2.1 39 0 (cl v) = 3) ∧ quietM s v (-1) ∧ (¬ b = 0 ∨ hasP s v p)
theorem dX5_cause_0 : decode cX5_cause 0 = .ok (.iload_n 2, 1) := by decide +kernel
theorem dX5_cause_1 : decode cX5_cause 1 = .ok (.invokestatic 111, 3) := by decide +kernel
theorem dX5_cause_4 : decode cX5_cause 4 = .ok (.ifCond .eq 14, 3) := by decide +kernel
theorem dX5_cause_7 : decode cX5_cause 7 = .ok (.iload_n 3, 1) := by decide +kernel
theorem dX5_cause_8 : decode cX5_cause 8 = .ok (.invokestatic 173, 3) := by decide +kernel
theorem dX5_cause_11 : decode cX5_cause 11 = .ok (.ifCond .eq 7, 3) := by decide +kernel
theorem dX5_cause_14 : decode cX5_cause 14 = .ok (.iconst 1, 1) := by decide +kernel
theorem dX5_cause_15 : decode cX5_cause 15 = .ok (.goto 4, 3) := by decide +kernel
theorem dX5_cause_18 : decode cX5_cause 18 = .ok (.iconst 0, 1) := by decide +kernel
theorem dX5_cause_19 : decode cX5_cause 19 = .ok (.istore 5, 2) := by decide +kernel
theorem dX5_cause_21 : decode cX5_cause 21 = .ok (.aload_n 0, 1) := by decide +kernel
theorem dX5_cause_22 : decode cX5_cause 22 = .ok (.iload_n 1, 1) := by decide +kernel
theorem dX5_cause_23 : decode cX5_cause 23 = .ok (.invokevirtual 154, 3) := by decide +kernel
theorem dX5_cause_26 : decode cX5_cause 26 = .ok (.ifCond .eq 47, 3) := by decide +kernel
theorem dX5_cause_29 : decode cX5_cause 29 = .ok (.aload_n 0, 1) := by decide +kernel
theorem dX5_cause_30 : decode cX5_cause 30 = .ok (.getfield 161, 3) := by decide +kernel
theorem dX5_cause_33 : decode cX5_cause 33 = .ok (.bipush 30, 2) := by decide +kernel
theorem dX5_cause_35 : decode cX5_cause 35 = .ok (.if_icmp .ge 38, 3) := by decide +kernel
theorem dX5_cause_38 : decode cX5_cause 38 = .ok (.aload_n 0, 1) := by decide +kernel
theorem dX5_cause_39 : decode cX5_cause 39 = .ok (.iload_n 1, 1) := by decide +kernel
theorem dX5_cause_40 : decode cX5_cause 40 = .ok (.invokevirtual 170, 3) := by decide +kernel
theorem dX5_cause_43 : decode cX5_cause 43 = .ok (.ifCond .eq 30, 3) := by decide +kernel
theorem dX5_cause_46 : decode cX5_cause 46 = .ok (.aload_n 0, 1) := by decide +kernel
theorem dX5_cause_47 : decode cX5_cause 47 = .ok (.iload_n 1, 1) := by decide +kernel
theorem dX5_cause_48 : decode cX5_cause 48 = .ok (.iconst (-1), 1) := by decide +kernel
theorem dX5_cause_49 : decode cX5_cause 49 = .ok (.invokevirtual 167, 3) := by decide +kernel
theorem dX5_cause_52 : decode cX5_cause 52 = .ok (.ifCond .eq 21, 3) := by decide +kernel
theorem dX5_cause_55 : decode cX5_cause 55 = .ok (.iload 4, 2) := by decide +kernel
theorem dX5_cause_57 : decode cX5_cause 57 = .ok (.ifCond .ne 12, 3) := by decide +kernel
theorem dX5_cause_60 : decode cX5_cause 60 = .ok (.aload_n 0, 1) := by decide +kernel
theorem dX5_cause_61 : decode cX5_cause 61 = .ok (.iload_n 1, 1) := by decide +kernel
theorem dX5_cause_62 : decode cX5_cause 62 = .ok (.iload_n 2, 1) := by decide +kernel
theorem dX5_cause_63 : decode cX5_cause 63 = .ok (.invokevirtual 176, 3) := by decide +kernel
theorem dX5_cause_66 : decode cX5_cause 66 = .ok (.ifCond .eq 7, 3) := by decide +kernel
theorem dX5_cause_69 : decode cX5_cause 69 = .ok (.iconst 1, 1) := by decide +kernel
theorem dX5_cause_70 : decode cX5_cause 70 = .ok (.goto 4, 3) := by decide +kernel
theorem dX5_cause_73 : decode cX5_cause 73 = .ok (.iconst 0, 1) := by decide +kernel
theorem dX5_cause_74 : decode cX5_cause 74 = .ok (.istore 6, 2) := by decide +kernel
theorem dX5_cause_76 : decode cX5_cause 76 = .ok (.aload_n 0, 1) := by decide +kernel
theorem dX5_cause_77 : decode cX5_cause 77 = .ok (.aload_n 0, 1) := by decide +kernel
theorem dX5_cause_78 : decode cX5_cause 78 = .ok (.iload_n 1, 1) := by decide +kernel
theorem dX5_cause_79 : decode cX5_cause 79 = .ok (.invokevirtual 154, 3) := by decide +kernel
theorem dX5_cause_82 : decode cX5_cause 82 = .ok (.ifCond .ne 7, 3) := by decide +kernel
theorem dX5_cause_85 : decode cX5_cause 85 = .ok (.iconst 1, 1) := by decide +kernel
theorem dX5_cause_86 : decode cX5_cause 86 = .ok (.goto 22, 3) := by decide +kernel
theorem dX5_cause_89 : decode cX5_cause 89 = .ok (.iload 5, 2) := by decide +kernel
theorem dX5_cause_91 : decode cX5_cause 91 = .ok (.ifCond .ne 7, 3) := by decide +kernel
theorem dX5_cause_94 : decode cX5_cause 94 = .ok (.iconst 2, 1) := by decide +kernel
theorem dX5_cause_95 : decode cX5_cause 95 = .ok (.goto 13, 3) := by decide +kernel
theorem dX5_cause_98 : decode cX5_cause 98 = .ok (.iload 6, 2) := by decide +kernel
theorem dX5_cause_100 : decode cX5_cause 100 = .ok (.ifCond .eq 7, 3) := by decide +kernel
theorem dX5_cause_103 : decode cX5_cause 103 = .ok (.iconst 0, 1) := by decide +kernel
theorem dX5_cause_104 : decode cX5_cause 104 = .ok (.goto 4, 3) := by decide +kernel
theorem dX5_cause_107 : decode cX5_cause 107 = .ok (.iconst 3, 1) := by decide +kernel
theorem dX5_cause_108 : decode cX5_cause 108 = .ok (.invokevirtual 114, 3) := by decide +kernel
theorem dX5_cause_111 : decode cX5_cause 111 = .ok (.ifCond .eq 5, 3) := by decide +kernel
theorem dX5_cause_114 : decode cX5_cause 114 = .ok (.iconst 0, 1) := by decide +kernel
theorem dX5_cause_115 : decode cX5_cause 115 = .ok (.ireturn, 1) := by decide +kernel
theorem dX5_cause_116 : decode cX5_cause 116 = .ok (.aload_n 0, 1) := by decide +kernel
theorem dX5_cause_117 : decode cX5_cause 117 = .ok (.getfield 65, 3) := by decide +kernel
theorem dX5_cause_120 : decode cX5_cause 120 = .ok (.aload_n 0, 1) := by decide +kernel
theorem dX5_cause_121 : decode cX5_cause 121 = .ok (.getfield 161, 3) := by decide +kernel
theorem dX5_cause_124 : decode cX5_cause 124 = .ok (.iload_n 1, 1) := by decide +kernel
theorem dX5_cause_125 : decode cX5_cause 125 = .ok (.iastore, 1) := by decide +kernel
theorem dX5_cause_126 : decode cX5_cause 126 = .ok (.aload_n 0, 1) := by decide +kernel
theorem dX5_cause_127 : decode cX5_cause 127 = .ok (.getfield 68, 3) := by decide +kernel
theorem dX5_cause_130 : decode cX5_cause 130 = .ok (.aload_n 0, 1) := by decide +kernel
theorem dX5_cause_131 : decode cX5_cause 131 = .ok (.getfield 161, 3) := by decide +kernel
theorem dX5_cause_134 : decode cX5_cause 134 = .ok (.iload_n 3, 1) := by decide +kernel
theorem dX5_cause_135 : decode cX5_cause 135 = .ok (.iastore, 1) := by decide +kernel
theorem dX5_cause_136 : decode cX5_cause 136 = .ok (.aload_n 0, 1) := by decide +kernel
theorem dX5_cause_137 : decode cX5_cause 137 = .ok (.getfield 74, 3) := by decide +kernel
theorem dX5_cause_140 : decode cX5_cause 140 = .ok (.aload_n 0, 1) := by decide +kernel
theorem dX5_cause_141 : decode cX5_cause 141 = .ok (.getfield 161, 3) := by decide +kernel
theorem dX5_cause_144 : decode cX5_cause 144 = .ok (.iconst 1, 1) := by decide +kernel
theorem dX5_cause_145 : decode cX5_cause 145 = .ok (.iastore, 1) := by decide +kernel
theorem dX5_cause_146 : decode cX5_cause 146 = .ok (.iconst 0, 1) := by decide +kernel
theorem dX5_cause_147 : decode cX5_cause 147 = .ok (.istore 7, 2) := by decide +kernel
theorem dX5_cause_149 : decode cX5_cause 149 = .ok (.iload 7, 2) := by decide +kernel
theorem dX5_cause_151 : decode cX5_cause 151 = .ok (.iconst 3, 1) := by decide +kernel
theorem dX5_cause_152 : decode cX5_cause 152 = .ok (.if_icmp .ge 39, 3) := by decide +kernel
theorem dX5_cause_155 : decode cX5_cause 155 = .ok (.aload_n 0, 1) := by decide +kernel
theorem dX5_cause_156 : decode cX5_cause 156 = .ok (.getfield 86, 3) := by decide +kernel
theorem dX5_cause_159 : decode cX5_cause 159 = .ok (.iconst 3, 1) := by decide +kernel
theorem dX5_cause_160 : decode cX5_cause 160 = .ok (.aload_n 0, 1) := by decide +kernel
theorem dX5_cause_161 : decode cX5_cause 161 = .ok (.getfield 161, 3) := by decide +kernel
theorem dX5_cause_164 : decode cX5_cause 164 = .ok (.imul, 1) := by decide +kernel
theorem dX5_cause_165 : decode cX5_cause 165 = .ok (.iload 7, 2) := by decide +kernel
theorem dX5_cause_167 : decode cX5_cause 167 = .ok (.iadd, 1) := by decide +kernel
theorem dX5_cause_168 : decode cX5_cause 168 = .ok (.iconst (-1), 1) := by decide +kernel
theorem dX5_cause_169 : decode cX5_cause 169 = .ok (.iastore, 1) := by decide +kernel
theorem dX5_cause_170 : decode cX5_cause 170 = .ok (.aload_n 0, 1) := by decide +kernel
theorem dX5_cause_171 : decode cX5_cause 171 = .ok (.getfield 83, 3) := by decide +kernel
theorem dX5_cause_174 : decode cX5_cause 174 = .ok (.iconst 3, 1) := by decide +kernel
theorem dX5_cause_175 : decode cX5_cause 175 = .ok (.aload_n 0, 1) := by decide +kernel
theorem dX5_cause_176 : decode cX5_cause 176 = .ok (.getfield 161, 3) := by decide +kernel
theorem dX5_cause_179 : decode cX5_cause 179 = .ok (.imul, 1) := by decide +kernel
theorem dX5_cause_180 : decode cX5_cause 180 = .ok (.iload 7, 2) := by decide +kernel
theorem dX5_cause_182 : decode cX5_cause 182 = .ok (.iadd, 1) := by decide +kernel
theorem dX5_cause_183 : decode cX5_cause 183 = .ok (.iconst (-1), 1) := by decide +kernel
theorem dX5_cause_184 : decode cX5_cause 184 = .ok (.iastore, 1) := by decide +kernel
theorem dX5_cause_185 : decode cX5_cause 185 = .ok (.iinc 7 1, 3) := by decide +kernel
theorem dX5_cause_188 : decode cX5_cause 188 = .ok (.goto (-39), 3) := by decide +kernel
theorem dX5_cause_191 : decode cX5_cause 191 = .ok (.aload_n 0, 1) := by decide +kernel
theorem dX5_cause_192 : decode cX5_cause 192 = .ok (.dup, 1) := by decide +kernel
theorem dX5_cause_193 : decode cX5_cause 193 = .ok (.getfield 161, 3) := by decide +kernel
theorem dX5_cause_196 : decode cX5_cause 196 = .ok (.iconst 1, 1) := by decide +kernel
theorem dX5_cause_197 : decode cX5_cause 197 = .ok (.iadd, 1) := by decide +kernel
theorem dX5_cause_198 : decode cX5_cause 198 = .ok (.putfield 161, 3) := by decide +kernel
theorem dX5_cause_201 : decode cX5_cause 201 = .ok (.aload_n 0, 1) := by decide +kernel
theorem dX5_cause_202 : decode cX5_cause 202 = .ok (.getfield 161, 3) := by decide +kernel
theorem dX5_cause_205 : decode cX5_cause 205 = .ok (.iconst 1, 1) := by decide +kernel
theorem dX5_cause_206 : decode cX5_cause 206 = .ok (.isub, 1) := by decide +kernel
theorem dX5_cause_207 : decode cX5_cause 207 = .ok (.ireturn, 1) := by decide +kernel
def tab_X5_cause : List (Nat × Sem) := [(0, op_il 2 1), (1, op_call sp_X5_isPlace 1 0 4), (4, op_if (fun x => x = 0) 18 7), (7, op_il 3 8), (8, op_call sp_X5_isDoubt 1 0 11), (11, op_if (fun x => x = 0) 18 14), (14, op_ic 1 15), (15, op_go 19), (18, op_ic 0 19), (19, op_is 5 21), (21, op_al 0 22), (22, op_il 1 23), (23, op_callV 7 sp_X5_isVow 2 0 26), (26, op_if (fun x => x = 0) 73 29), (29, op_al 0 30), (30, op_gf 7 21 33), (33, op_ic 30 35), (35, op_cmp (fun x y => y ≤ x) 73 38), (38, op_al 0 39), (39, op_il 1 40), (40, op_callV 7 sp_X5_isTold 2 0 43), (43, op_if (fun x => x = 0) 73 46), (46, op_al 0 47), (47, op_il 1 48), (48, op_ic (-1) 49), (49, op_callV 7 sp_X5_isQuiet 3 0 52), (52, op_if (fun x => x = 0) 73 55), (55, op_il 4 57), (57, op_if (fun x => ¬ x = 0) 69 60), (60, op_al 0 61), (61, op_il 1 62), (62, op_il 2 63), (63, op_callV 7 sp_X5_has 3 0 66), (66, op_if (fun x => x = 0) 73 69), (69, op_ic 1 70), (70, op_go 74), (73, op_ic 0 74), (74, op_is 6 76), (76, op_al 0 77), (77, op_al 0 78), (78, op_il 1 79), (79, op_callV 7 sp_X5_isVow 2 0 82), (82, op_if (fun x => ¬ x = 0) 89 85), (85, op_ic 1 86), (86, op_go 108), (89, op_il 5 91), (91, op_if (fun x => ¬ x = 0) 98 94), (94, op_ic 2 95), (95, op_go 108), (98, op_il 6 100), (100, op_if (fun x => x = 0) 107 103), (103, op_ic 0 104), (104, op_go 108), (107, op_ic 3 108), (108, op_callV 7 sp_X5_fails 2 0 111), (111, op_if (fun x => x = 0) 116 114), (114, op_ic 0 115), (115, op_iret), (116, op_al 0 117), (117, op_gf 7 22 120), (120, op_al 0 121), (121, op_gf 7 21 124), (124, op_il 1 125), (125, op_iast 126), (126, op_al 0 127), (127, op_gf 7 23 130), (130, op_al 0 131), (131, op_gf 7 21 134), (134, op_il 3 135), (135, op_iast 136), (136, op_al 0 137), (137, op_gf 7 25 140), (140, op_al 0 141), (141, op_gf 7 21 144), (144, op_ic 1 145), (145, op_iast 146), (146, op_ic 0 147), (147, op_is 7 149), (149, op_il 7 151), (151, op_ic 3 152), (152, op_cmp (fun x y => y ≤ x) 191 155), (155, op_al 0 156), (156, op_gf 7 29 159), (159, op_ic 3 160), (160, op_al 0 161), (161, op_gf 7 21 164), (164, op_bin (fun x y => x * y) 165), (165, op_il 7 167), (167, op_bin (fun x y => x + y) 168), (168, op_ic (-1) 169), (169, op_iast 170), (170, op_al 0 171), (171, op_gf 7 28 174), (174, op_ic 3 175), (175, op_al 0 176), (176, op_gf 7 21 179), (179, op_bin (fun x y => x * y) 180), (180, op_il 7 182), (182, op_bin (fun x y => x + y) 183), (183, op_ic (-1) 184), (184, op_iast 185), (185, op_inc 7 1 188), (188, op_go 149), (191, op_al 0 192), (192, op_dup 193), (193, op_gf 7 21 196), (196, op_ic 1 197), (197, op_bin (fun x y => x + y) 198), (198, op_pf 7 21 201), (201, op_al 0 202), (202, op_gf 7 21 205), (205, op_ic 1 206), (206, op_bin (fun x y => x - y) 207), (207, op_iret)]
set_option maxRecDepth 20000 in
theorem tok_X5_cause : ∀ q ∈ tab_X5_cause, Snd RX5 cX5_cause 8 2 0 (some .int) q.1 q.2 := by
  unfold tab_X5_cause
  refine tcons (ok_iload_n dX5_cause_0 rfl rfl) ?_
  refine tcons (ok_invokestatic M_X5_isPlace w_1109 w_1110 w_49 w_1111 ⟨by decide, by decide, by decide +kernel⟩ (by decide) (by decide) dX5_cause_1 rfl) ?_
  refine tcons (ok_if_eq dX5_cause_4 rfl rfl) ?_
  refine tcons (ok_iload_n dX5_cause_7 rfl rfl) ?_
  refine tcons (ok_invokestatic M_X5_isDoubt w_1225 w_1226 w_49 w_1227 ⟨by decide, by decide, by decide +kernel⟩ (by decide) (by decide) dX5_cause_8 rfl) ?_
  refine tcons (ok_if_eq dX5_cause_11 rfl rfl) ?_
  refine tcons (ok_iconst dX5_cause_14 rfl rfl) ?_
  refine tcons (ok_goto dX5_cause_15 rfl) ?_
  refine tcons (ok_iconst dX5_cause_18 rfl rfl) ?_
  refine tcons (ok_istore dX5_cause_19 (by decide) rfl) ?_
  refine tcons (ok_aload_n dX5_cause_21 rfl rfl) ?_
  refine tcons (ok_iload_n dX5_cause_22 rfl rfl) ?_
  refine tcons (ok_invokevirtual M_X5_isVow (C := RX5) (T := TX5) (nf := 33) rfl w_1186 w_1188 w_27 w_49 w_1189 ⟨rfl, by decide, by decide, by decide +kernel⟩ (by decide) (by decide) dX5_cause_23 rfl) ?_
  refine tcons (ok_if_eq dX5_cause_26 rfl rfl) ?_
  refine tcons (ok_aload_n dX5_cause_29 rfl rfl) ?_
  refine tcons (ok_getfield (C := RX5) (T := TX5) (n := 33) rfl in_X5 (by decide) w_1014 dX5_cause_30 rfl) ?_
  refine tcons (ok_bipush dX5_cause_33 rfl rfl) ?_
  refine tcons (ok_icmp_ge dX5_cause_35 rfl rfl) ?_
  refine tcons (ok_aload_n dX5_cause_38 rfl rfl) ?_
  refine tcons (ok_iload_n dX5_cause_39 rfl rfl) ?_
  refine tcons (ok_invokevirtual M_X5_isTold (C := RX5) (T := TX5) (nf := 33) rfl w_1217 w_1219 w_32 w_49 w_1220 ⟨rfl, by decide, by decide, by decide +kernel⟩ (by decide) (by decide) dX5_cause_40 rfl) ?_
  refine tcons (ok_if_eq dX5_cause_43 rfl rfl) ?_
  refine tcons (ok_aload_n dX5_cause_46 rfl rfl) ?_
  refine tcons (ok_iload_n dX5_cause_47 rfl rfl) ?_
  refine tcons (ok_iconst dX5_cause_48 rfl rfl) ?_
  refine tcons (ok_invokevirtual M_X5_isQuiet (C := RX5) (T := TX5) (nf := 33) rfl w_1206 w_1208 w_31 w_49 w_1209 ⟨rfl, by decide, by decide, by decide +kernel⟩ (by decide) (by decide) dX5_cause_49 rfl) ?_
  refine tcons (ok_if_eq dX5_cause_52 rfl rfl) ?_
  refine tcons (ok_iload dX5_cause_55 rfl) ?_
  refine tcons (ok_if_ne dX5_cause_57 rfl rfl) ?_
  refine tcons (ok_aload_n dX5_cause_60 rfl rfl) ?_
  refine tcons (ok_iload_n dX5_cause_61 rfl rfl) ?_
  refine tcons (ok_iload_n dX5_cause_62 rfl rfl) ?_
  refine tcons (ok_invokevirtual M_X5_has (C := RX5) (T := TX5) (nf := 33) rfl w_1228 w_1230 w_33 w_49 w_1231 ⟨rfl, by decide, by decide, by decide +kernel⟩ (by decide) (by decide) dX5_cause_63 rfl) ?_
  refine tcons (ok_if_eq dX5_cause_66 rfl rfl) ?_
  refine tcons (ok_iconst dX5_cause_69 rfl rfl) ?_
  refine tcons (ok_goto dX5_cause_70 rfl) ?_
  refine tcons (ok_iconst dX5_cause_73 rfl rfl) ?_
  refine tcons (ok_istore dX5_cause_74 (by decide) rfl) ?_
  refine tcons (ok_aload_n dX5_cause_76 rfl rfl) ?_
  refine tcons (ok_aload_n dX5_cause_77 rfl rfl) ?_
  refine tcons (ok_iload_n dX5_cause_78 rfl rfl) ?_
  refine tcons (ok_invokevirtual M_X5_isVow (C := RX5) (T := TX5) (nf := 33) rfl w_1186 w_1188 w_27 w_49 w_1189 ⟨rfl, by decide, by decide, by decide +kernel⟩ (by decide) (by decide) dX5_cause_79 rfl) ?_
  refine tcons (ok_if_ne dX5_cause_82 rfl rfl) ?_
  refine tcons (ok_iconst dX5_cause_85 rfl rfl) ?_
  refine tcons (ok_goto dX5_cause_86 rfl) ?_
  refine tcons (ok_iload dX5_cause_89 rfl) ?_
  refine tcons (ok_if_ne dX5_cause_91 rfl rfl) ?_
  refine tcons (ok_iconst dX5_cause_94 rfl rfl) ?_
  refine tcons (ok_goto dX5_cause_95 rfl) ?_
  refine tcons (ok_iload dX5_cause_98 rfl) ?_
  refine tcons (ok_if_eq dX5_cause_100 rfl rfl) ?_
  refine tcons (ok_iconst dX5_cause_103 rfl rfl) ?_
  refine tcons (ok_goto dX5_cause_104 rfl) ?_
  refine tcons (ok_iconst dX5_cause_107 rfl rfl) ?_
  refine tcons (ok_invokevirtual M_X5_fails (C := RX5) (T := TX5) (nf := 33) rfl w_1112 w_1114 w_20 w_49 w_1115 ⟨rfl, by decide, by decide, by decide +kernel⟩ (by decide) (by decide) dX5_cause_108 rfl) ?_
  refine tcons (ok_if_eq dX5_cause_111 rfl rfl) ?_
  refine tcons (ok_iconst dX5_cause_114 rfl rfl) ?_
  refine tcons (ok_ireturn rfl dX5_cause_115) ?_
  refine tcons (ok_aload_n dX5_cause_116 rfl rfl) ?_
  refine tcons (ok_getfield (C := RX5) (T := TX5) (n := 33) rfl in_X5 (by decide) w_1015 dX5_cause_117 rfl) ?_
  refine tcons (ok_aload_n dX5_cause_120 rfl rfl) ?_
  refine tcons (ok_getfield (C := RX5) (T := TX5) (n := 33) rfl in_X5 (by decide) w_1014 dX5_cause_121 rfl) ?_
  refine tcons (ok_iload_n dX5_cause_124 rfl rfl) ?_
  refine tcons (ok_iastore dX5_cause_125 rfl) ?_
  refine tcons (ok_aload_n dX5_cause_126 rfl rfl) ?_
  refine tcons (ok_getfield (C := RX5) (T := TX5) (n := 33) rfl in_X5 (by decide) w_1016 dX5_cause_127 rfl) ?_
  refine tcons (ok_aload_n dX5_cause_130 rfl rfl) ?_
  refine tcons (ok_getfield (C := RX5) (T := TX5) (n := 33) rfl in_X5 (by decide) w_1014 dX5_cause_131 rfl) ?_
  refine tcons (ok_iload_n dX5_cause_134 rfl rfl) ?_
  refine tcons (ok_iastore dX5_cause_135 rfl) ?_
  refine tcons (ok_aload_n dX5_cause_136 rfl rfl) ?_
  refine tcons (ok_getfield (C := RX5) (T := TX5) (n := 33) rfl in_X5 (by decide) w_1018 dX5_cause_137 rfl) ?_
  refine tcons (ok_aload_n dX5_cause_140 rfl rfl) ?_
  refine tcons (ok_getfield (C := RX5) (T := TX5) (n := 33) rfl in_X5 (by decide) w_1014 dX5_cause_141 rfl) ?_
  refine tcons (ok_iconst dX5_cause_144 rfl rfl) ?_
  refine tcons (ok_iastore dX5_cause_145 rfl) ?_
  refine tcons (ok_iconst dX5_cause_146 rfl rfl) ?_
  refine tcons (ok_istore dX5_cause_147 (by decide) rfl) ?_
  refine tcons (ok_iload dX5_cause_149 rfl) ?_
  refine tcons (ok_iconst dX5_cause_151 rfl rfl) ?_
  refine tcons (ok_icmp_ge dX5_cause_152 rfl rfl) ?_
  refine tcons (ok_aload_n dX5_cause_155 rfl rfl) ?_
  refine tcons (ok_getfield (C := RX5) (T := TX5) (n := 33) rfl in_X5 (by decide) w_1022 dX5_cause_156 rfl) ?_
  refine tcons (ok_iconst dX5_cause_159 rfl rfl) ?_
  refine tcons (ok_aload_n dX5_cause_160 rfl rfl) ?_
  refine tcons (ok_getfield (C := RX5) (T := TX5) (n := 33) rfl in_X5 (by decide) w_1014 dX5_cause_161 rfl) ?_
  refine tcons (ok_imul dX5_cause_164 rfl) ?_
  refine tcons (ok_iload dX5_cause_165 rfl) ?_
  refine tcons (ok_iadd dX5_cause_167 rfl) ?_
  refine tcons (ok_iconst dX5_cause_168 rfl rfl) ?_
  refine tcons (ok_iastore dX5_cause_169 rfl) ?_
  refine tcons (ok_aload_n dX5_cause_170 rfl rfl) ?_
  refine tcons (ok_getfield (C := RX5) (T := TX5) (n := 33) rfl in_X5 (by decide) w_1021 dX5_cause_171 rfl) ?_
  refine tcons (ok_iconst dX5_cause_174 rfl rfl) ?_
  refine tcons (ok_aload_n dX5_cause_175 rfl rfl) ?_
  refine tcons (ok_getfield (C := RX5) (T := TX5) (n := 33) rfl in_X5 (by decide) w_1014 dX5_cause_176 rfl) ?_
  refine tcons (ok_imul dX5_cause_179 rfl) ?_
  refine tcons (ok_iload dX5_cause_180 rfl) ?_
  refine tcons (ok_iadd dX5_cause_182 rfl) ?_
  refine tcons (ok_iconst dX5_cause_183 rfl rfl) ?_
  refine tcons (ok_iastore dX5_cause_184 rfl) ?_
  refine tcons (ok_iinc dX5_cause_185 rfl (by decide) rfl) ?_
  refine tcons (ok_goto dX5_cause_188 rfl) ?_
  refine tcons (ok_aload_n dX5_cause_191 rfl rfl) ?_
  refine tcons (ok_dup dX5_cause_192 rfl) ?_
  refine tcons (ok_getfield (C := RX5) (T := TX5) (n := 33) rfl in_X5 (by decide) w_1014 dX5_cause_193 rfl) ?_
  refine tcons (ok_iconst dX5_cause_196 rfl rfl) ?_
  refine tcons (ok_iadd dX5_cause_197 rfl) ?_
  refine tcons (ok_putfield (C := RX5) (T := TX5) (n := 33) tyX5 .int rfl in_X5 tyX5_ok nmX5 (by decide) rfl w_1014 rfl (Or.inl rfl) dX5_cause_198 rfl) ?_
  refine tcons (ok_aload_n dX5_cause_201 rfl rfl) ?_
  refine tcons (ok_getfield (C := RX5) (T := TX5) (n := 33) rfl in_X5 (by decide) w_1014 dX5_cause_202 rfl) ?_
  refine tcons (ok_iconst dX5_cause_205 rfl rfl) ?_
  refine tcons (ok_isub dX5_cause_206 rfl) ?_
  refine tcons (ok_ireturn rfl dX5_cause_207) ?_
  exact fun _ h => nomatch h
def sp_X5_cause : Spc := fun av s N _ => match av with
  | [.inl (.inr (20, 0)), .inl (.inl v), .inl (.inl p), .inl (.inl d), .inl (.inl b)] => MI s ∧ WI s ∧ f3 (isV s v) (inR p 0 7 ∧ inR d 1 127) (caP s v p b) (some (aI 0)) N s (N (some (aI (s.2.1 20 0 21))) (caM s v d))
  | _ => False
theorem stS_21 {s : Sg} {t j : Nat} {v : Int32} (h : t ≠ 20) : (stS s t 0 j v).2.1 20 0 21 = s.2.1 20 0 21 := if_neg (fun q => h q.1.symm)
set_option maxRecDepth 20000 in
set_option maxHeartbeats 2000000 in
theorem M_X5_cause : AMet yX5_cause cX5_cause 8 (some .int) 2 0 sp_X5_cause := by
  refine AMet.mc (own := RX5) (by decide) rfl [0, 1, 2, 3, 4, 5, 6, 7] rfl tok_X5_cause 200 ?_
  intro av s0 N X h
  unfold sp_X5_cause at h
  split at h
  rotate_left
  · exact h.elim
  rename_i v p d b
  obtain ⟨hM, hW, h⟩ := h
  obtain ⟨-, -, ⟨n, hn, hv⟩⟩ := of_eq_true hM
  have hnc := ncm_eq hv hn
  have hfin : isV s0 v → (inR p 0 7 ∧ inR d 1 127) → caP s0 v p b → ∀ x s', x = nI n → s' = stS (stR (stR (stS (stS (stS (th s0 0) 42 0 n v) 43 0 n d) 45 0 n 1) 49 (3 * n) 3 (-1)) 48 (3 * n) 3 (-1)) 20 0 21 (nI n + 1) → N (some (aI x)) s' := by
    intro h1 h2 h3 x s' hx hs
    have := h.2.2.2 h1 h2 h3
    unfold caM at this
    rw [hv, hnc] at this
    rw [hx, hs]
    exact this
  refine ⟨[(76, fun m u L st s => ∃ a x, u = 0 ∧ m = 1 ∧ L = [(0, .inr (20, 0)), (1, .inl v), (2, .inl p), (3, .inl d), (4, .inl b), (5, .inl a), (6, .inl x)] ∧ st = [] ∧ s = s0 ∧ flg a (inR p 0 7 ∧ inR d 1 127) ∧ (isV s0 v → flg x (caP s v p b)) ∧ (x = 0 ∨ x = 1)),
     (116, fun m u L st s => ∃ a x, u = 0 ∧ m = 0 ∧ L = [(0, .inr (20, 0)), (1, .inl v), (2, .inl p), (3, .inl d), (4, .inl b), (5, .inl a), (6, .inl x)] ∧ st = [] ∧ s = th s0 0 ∧ isV s0 v ∧ (inR p 0 7 ∧ inR d 1 127) ∧ caP s0 v p b)], ?_, ac ?_ (ac ?_ an)⟩
  · clear hfin
    repeat' (first | apply And.intro | (intro q; exact absurd q (by decide)) | intro _)
    all_goals first | decide | (exact Nat.le_of_ble_eq_true rfl) | (exact hM) | (exact (WI_v hM hW (by assumption)).1) | (exact (WI_v hM hW (by assumption)).2.1) | (exact (WI_v hM hW (by assumption)).2.2) |
      (exact ⟨1, 7, trivial, _, _, rfl, rfl, rfl, rfl, rfl, by simp_all [-Int32.not_le, -Int32.not_lt, flg], by simp_all [-Int32.not_le, -Int32.not_lt, flg, caP], by simp⟩)
  · rintro m u L st s ⟨a, x, rfl, rfl, rfl, rfl, rfl, ha, hx, hxx⟩
    clear hfin
    rcases ha with ⟨rfl, ha⟩ | ⟨rfl, ha⟩ <;> rcases hxx with rfl | rfl
    all_goals repeat' (first | apply And.intro | (intro q; exact absurd q (by decide)) | intro _)
    all_goals first | decide | (exact Nat.le_of_ble_eq_true rfl) | (exact ⟨0, 7, Nat.one_pos, _, _, rfl, rfl, rfl, rfl, rfl, by assumption, ha, by simp_all [-Int32.not_le, -Int32.not_lt, flg]⟩) | (simp_all [-Int32.not_le, -Int32.not_lt, f3, flg]; done)
  · rintro m u L st s ⟨a, x, rfl, rfl, rfl, rfl, rfl, hV, hr, hc⟩
    have hn30 : n < 30 := by
      have h9 := hc.1
      rw [hv] at h9
      rcases Nat.lt_or_ge n 30 with q | q
      · exact q
      · exact absurd (show nI 30 ≤ nI n from nI_le q (by omega)) h9
    replace hfin := hfin hV hr hc
    have i0 : Ib (nI n) 30 := nIb hn30 (by decide)
    have r0 : Ib (3 * nI n) 90 := by rw [row3]; exact nIb (by omega) (by decide)
    have r1 : Ib (3 * nI n + 1) 90 := by rw [show (1 : Int32) = nI 1 from rfl, row3k]; exact nIb (by omega) (by decide)
    have r2 : Ib (3 * nI n + 2) 90 := by rw [show (2 : Int32) = nI 2 from rfl, row3k]; exact nIb (by omega) (by decide)
    have c : (nI n).toNatClampNeg = n := nI_clamp (by omega)
    have c0 : (3 * nI n).toNatClampNeg = 3 * n := by rw [row3]; exact nI_clamp (by omega)
    have c1 : (3 * nI n + 1).toNatClampNeg = 3 * n + 1 := by rw [show (1 : Int32) = nI 1 from rfl, row3k]; exact nI_clamp (by omega)
    have c2 : (3 * nI n + 2).toNatClampNeg = 3 * n + 2 := by rw [show (2 : Int32) = nI 2 from rfl, row3k]; exact nI_clamp (by omega)
    obtain ⟨s1, e1⟩ : ∃ z, z = th s0 0 := ⟨_, rfl⟩
    have hv1 : s1.2.1 20 0 21 = nI n := by rw [e1, stS_get]; exact hv
    rw [← e1] at hfin ⊢
    clear h e1 hc hv hM hW hnc
    repeat' (first | apply And.intro | (intro q; exact absurd q (by decide)) | intro _)
    all_goals first | decide | (exact Nat.le_of_ble_eq_true rfl) | (simp [stS_get, hv1, i0, r0, r1, r2]; done) | (refine hfin _ _ (by simp [stS_get, hv1]) ?_; simp [stS_get, hv1, c, c0, c1, c2, ← st6]; done)

