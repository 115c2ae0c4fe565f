/-! constructors over plain worlds: Cause, the model -/
theorem dX0_init_0 : decode cX0_init 0 = .ok (.aload_n 0, 1) := by decide +kernel
theorem dX0_init_1 : decode cX0_init 1 = .ok (.invokespecial 3, 3) := by decide +kernel
theorem dX0_init_4 : decode cX0_init 4 = .ok (.aload_n 0, 1) := by decide +kernel
theorem dX0_init_5 : decode cX0_init 5 = .ok (.iconst 0, 1) := by decide +kernel
theorem dX0_init_6 : decode cX0_init 6 = .ok (.putfield 9, 3) := by decide +kernel
theorem dX0_init_9 : decode cX0_init 9 = .ok (.aload_n 0, 1) := by decide +kernel
theorem dX0_init_10 : decode cX0_init 10 = .ok (.iconst 1, 1) := by decide +kernel
theorem dX0_init_11 : decode cX0_init 11 = .ok (.putfield 15, 3) := by decide +kernel
theorem dX0_init_14 : decode cX0_init 14 = .ok (.aload_n 0, 1) := by decide +kernel
theorem dX0_init_15 : decode cX0_init 15 = .ok (.bipush 7, 2) := by decide +kernel
theorem dX0_init_17 : decode cX0_init 17 = .ok (.newarray .int, 2) := by decide +kernel
theorem dX0_init_19 : decode cX0_init 19 = .ok (.putfield 18, 3) := by decide +kernel
theorem dX0_init_22 : decode cX0_init 22 = .ok (.aload_n 0, 1) := by decide +kernel
theorem dX0_init_23 : decode cX0_init 23 = .ok (.iconst 3, 1) := by decide +kernel
theorem dX0_init_24 : decode cX0_init 24 = .ok (.newarray .int, 2) := by decide +kernel
theorem dX0_init_26 : decode cX0_init 26 = .ok (.putfield 22, 3) := by decide +kernel
theorem dX0_init_29 : decode cX0_init 29 = .ok (.aload_n 0, 1) := by decide +kernel
theorem dX0_init_30 : decode cX0_init 30 = .ok (.iconst 3, 1) := by decide +kernel
theorem dX0_init_31 : decode cX0_init 31 = .ok (.newarray .int, 2) := by decide +kernel
theorem dX0_init_33 : decode cX0_init 33 = .ok (.putfield 25, 3) := by decide +kernel
theorem dX0_init_36 : decode cX0_init 36 = .ok (.aload_n 0, 1) := by decide +kernel
theorem dX0_init_37 : decode cX0_init 37 = .ok (.iload_n 1, 1) := by decide +kernel
theorem dX0_init_38 : decode cX0_init 38 = .ok (.putfield 28, 3) := by decide +kernel
theorem dX0_init_41 : decode cX0_init 41 = .ok (.aload_n 0, 1) := by decide +kernel
theorem dX0_init_42 : decode cX0_init 42 = .ok (.iload_n 2, 1) := by decide +kernel
theorem dX0_init_43 : decode cX0_init 43 = .ok (.putfield 31, 3) := by decide +kernel
theorem dX0_init_46 : decode cX0_init 46 = .ok (.aload_n 0, 1) := by decide +kernel
theorem dX0_init_47 : decode cX0_init 47 = .ok (.getfield 22, 3) := by decide +kernel
theorem dX0_init_50 : decode cX0_init 50 = .ok (.iconst (-1), 1) := by decide +kernel
theorem dX0_init_51 : decode cX0_init 51 = .ok (.invokestatic 34, 3) := by decide +kernel
theorem dX0_init_54 : decode cX0_init 54 = .ok (.aload_n 0, 1) := by decide +kernel
theorem dX0_init_55 : decode cX0_init 55 = .ok (.getfield 25, 3) := by decide +kernel
theorem dX0_init_58 : decode cX0_init 58 = .ok (.iconst (-1), 1) := by decide +kernel
theorem dX0_init_59 : decode cX0_init 59 = .ok (.invokestatic 34, 3) := by decide +kernel
theorem dX0_init_62 : decode cX0_init 62 = .ok (.return_, 1) := by decide +kernel
def tabR_X0_init : List (Nat × RSem) := [(0, rp_al 0 1), (1, rp_oinit 4), (4, rp_al 0 5), (5, rp_ic 0 6), (6, rp_pf 2 2 .int 9), (9, rp_al 0 10), (10, rp_ic 1 11), (11, rp_pf 2 3 .int 14), (14, rp_al 0 15), (15, rp_ic 7 17), (17, rp_newa 0 7 1 19), (19, rp_pf 2 4 (.array .int) 22), (22, rp_al 0 23), (23, rp_ic 3 24), (24, rp_newa 0 3 1 26), (26, rp_pf 2 5 (.array .int) 29), (29, rp_al 0 30), (30, rp_ic 3 31), (31, rp_newa 0 3 1 33), (33, rp_pf 2 6 (.array .int) 36), (36, rp_al 0 37), (37, rp_il 1 38), (38, rp_pf 2 0 .int 41), (41, rp_al 0 42), (42, rp_il 2 43), (43, rp_pf 2 1 .int 46), (46, rp_al 0 47), (47, rp_gf 2 5 50), (50, rp_ic (-1) 51), (51, rp_call rs_J7_fill_53178 2 0 54), (54, rp_al 0 55), (55, rp_gf 2 6 58), (58, rp_ic (-1) 59), (59, rp_call rs_J7_fill_53178 2 0 62), (62, rp_vret)]
set_option maxRecDepth 20000 in
theorem tokR_X0_init : ∀ q ∈ tabR_X0_init, RSnd true RX0 cX0_init 3 1 3 none q.1 q.2 := by
  unfold tabR_X0_init
  refine rcons (rk_aload_n dX0_init_0 rfl rfl) ?_
  refine rcons (rk_oinit w_610 (by decide) dX0_init_1 rfl) ?_
  refine rcons (rk_aload_n dX0_init_4 rfl rfl) ?_
  refine rcons (rk_iconst dX0_init_5 rfl rfl) ?_
  refine rcons (rk_putfield (C := RX0) (T := TX0) (n := 7) tyX0 .int rfl in_X0 tyX0_ok nmX0 (by decide) rfl w_616 rfl dX0_init_6 rfl) ?_
  refine rcons (rk_aload_n dX0_init_9 rfl rfl) ?_
  refine rcons (rk_iconst dX0_init_10 rfl rfl) ?_
  refine rcons (rk_putfield (C := RX0) (T := TX0) (n := 7) tyX0 .int rfl in_X0 tyX0_ok nmX0 (by decide) rfl w_618 rfl dX0_init_11 rfl) ?_
  refine rcons (rk_aload_n dX0_init_14 rfl rfl) ?_
  refine rcons (rk_bipush dX0_init_15 rfl rfl) ?_
  refine rcons (rk_newarray (ty := .int) rfl (fun _ => rfl) (fun _ => rfl) w_120 (by decide) (by decide) (by decide) dX0_init_17 rfl) ?_
  refine rcons (rk_putfieldF (C := RX0) (T := TX0) (n := 7) tyX0 (.array .int) rfl in_X0 tyX0_ok nmX0 (by decide) rfl rfl w_620 rfl dX0_init_19 rfl) ?_
  refine rcons (rk_aload_n dX0_init_22 rfl rfl) ?_
  refine rcons (rk_iconst dX0_init_23 rfl rfl) ?_
  refine rcons (rk_newarray (ty := .int) rfl (fun _ => rfl) (fun _ => rfl) w_120 (by decide) (by decide) (by decide) dX0_init_24 rfl) ?_
  refine rcons (rk_putfieldF (C := RX0) (T := TX0) (n := 7) tyX0 (.array .int) rfl in_X0 tyX0_ok nmX0 (by decide) rfl rfl w_622 rfl dX0_init_26 rfl) ?_
  refine rcons (rk_aload_n dX0_init_29 rfl rfl) ?_
  refine rcons (rk_iconst dX0_init_30 rfl rfl) ?_
  refine rcons (rk_newarray (ty := .int) rfl (fun _ => rfl) (fun _ => rfl) w_120 (by decide) (by decide) (by decide) dX0_init_31 rfl) ?_
  refine rcons (rk_putfieldF (C := RX0) (T := TX0) (n := 7) tyX0 (.array .int) rfl in_X0 tyX0_ok nmX0 (by decide) rfl rfl w_624 rfl dX0_init_33 rfl) ?_
  refine rcons (rk_aload_n dX0_init_36 rfl rfl) ?_
  refine rcons (rk_iload_n dX0_init_37 rfl rfl) ?_
  refine rcons (rk_putfieldF (C := RX0) (T := TX0) (n := 7) tyX0 .int rfl in_X0 tyX0_ok nmX0 (by decide) rfl rfl w_612 rfl dX0_init_38 rfl) ?_
  refine rcons (rk_aload_n dX0_init_41 rfl rfl) ?_
  refine rcons (rk_iload_n dX0_init_42 rfl rfl) ?_
  refine rcons (rk_putfield (C := RX0) (T := TX0) (n := 7) tyX0 .int rfl in_X0 tyX0_ok nmX0 (by decide) rfl w_614 rfl dX0_init_43 rfl) ?_
  refine rcons (rk_aload_n dX0_init_46 rfl rfl) ?_
  refine rcons (rk_getfield (C := RX0) (T := TX0) (n := 7) rfl in_X0 (by decide) w_622 dX0_init_47 rfl) ?_
  refine rcons (rk_iconst dX0_init_50 rfl rfl) ?_
  refine rcons (rk_invokestatic R_J7_fill_53178 w_611 w_114 w_48 w_115 ⟨by decide, by decide, by decide +kernel⟩ (by decide) (by decide) dX0_init_51 rfl) ?_
  refine rcons (rk_aload_n dX0_init_54 rfl rfl) ?_
  refine rcons (rk_getfield (C := RX0) (T := TX0) (n := 7) rfl in_X0 (by decide) w_624 dX0_init_55 rfl) ?_
  refine rcons (rk_iconst dX0_init_58 rfl rfl) ?_
  refine rcons (rk_invokestatic R_J7_fill_53178 w_611 w_114 w_48 w_115 ⟨by decide, by decide, by decide +kernel⟩ (by decide) (by decide) dX0_init_59 rfl) ?_
  refine rcons (rk_vreturn rfl dX0_init_62) ?_
  exact fun _ h => nomatch h
def rs_X0_init : RSpc := fun g av w N => match av, w with
  | [.inl (.inr (_, a)), .inl (.inl x), .inl (.inl y)], [(b, .inr (2, [.int _, .int _, .int _, .int _, _, _, _]))] => a = b ∧ ∀ q1 q2 q3 : Nat, N none [(b, .inr (2, [.int x, .int y, .int 0, .int 1, .ref q1, .ref q2, .ref q3])), (q1, .inl (g.2.1 0, (7, .inl (fun _ => 0)))), (q2, .inl (g.2.1 0, (3, .inl (fR (fun _ => 0) 3 (-1))))), (q3, .inl (g.2.1 0, (3, .inl (fR (fun _ => 0) 3 (-1)))))]
  | _, _ => False
set_option maxRecDepth 20000 in
set_option maxHeartbeats 4000000 in
theorem R_X0_init : RMet yX0_init cX0_init 3 none 1 3 rs_X0_init := by
  refine RMet.mk (own := RX0) true (fun _ => rfl) (by decide) rfl [0, 1, 2] rfl tokR_X0_init 300 ?_
  intro g av w N h
  unfold rs_X0_init at h
  split at h
  rotate_left
  · exact h.elim
  obtain ⟨rfl, h⟩ := h
  refine ⟨[], ?_, an⟩
  repeat' (first | (refine ⟨0, _, rfl, ?_⟩) | (refine ⟨2, rfl, rfl, by decide, ?_⟩) | (refine ⟨3, rfl, rfl, by decide, ?_⟩) | (intro q; exact absurd q (by decide)) | apply And.intro | intro _)
  all_goals first | rfl | decide | (exact Nat.le_of_ble_eq_true rfl) | (exact h _ _ _)
theorem dX5_init_0 : decode cX5_init 0 = .ok (.aload_n 0, 1) := by decide +kernel
theorem dX5_init_1 : decode cX5_init 1 = .ok (.invokespecial 1, 3) := by decide +kernel
theorem dX5_init_4 : decode cX5_init 4 = .ok (.aload_n 0, 1) := by decide +kernel
theorem dX5_init_5 : decode cX5_init 5 = .ok (.bipush 24, 2) := by decide +kernel
theorem dX5_init_7 : decode cX5_init 7 = .ok (.newarray .int, 2) := by decide +kernel
theorem dX5_init_9 : decode cX5_init 9 = .ok (.putfield 7, 3) := by decide +kernel
theorem dX5_init_12 : decode cX5_init 12 = .ok (.aload_n 0, 1) := by decide +kernel
theorem dX5_init_13 : decode cX5_init 13 = .ok (.bipush 24, 2) := by decide +kernel
theorem dX5_init_15 : decode cX5_init 15 = .ok (.newarray .int, 2) := by decide +kernel
theorem dX5_init_17 : decode cX5_init 17 = .ok (.putfield 13, 3) := by decide +kernel
theorem dX5_init_20 : decode cX5_init 20 = .ok (.aload_n 0, 1) := by decide +kernel
theorem dX5_init_21 : decode cX5_init 21 = .ok (.bipush 24, 2) := by decide +kernel
theorem dX5_init_23 : decode cX5_init 23 = .ok (.newarray .int, 2) := by decide +kernel
theorem dX5_init_25 : decode cX5_init 25 = .ok (.putfield 16, 3) := by decide +kernel
theorem dX5_init_28 : decode cX5_init 28 = .ok (.aload_n 0, 1) := by decide +kernel
theorem dX5_init_29 : decode cX5_init 29 = .ok (.bipush 24, 2) := by decide +kernel
theorem dX5_init_31 : decode cX5_init 31 = .ok (.newarray .boolean, 2) := by decide +kernel
theorem dX5_init_33 : decode cX5_init 33 = .ok (.putfield 19, 3) := by decide +kernel
theorem dX5_init_36 : decode cX5_init 36 = .ok (.aload_n 0, 1) := by decide +kernel
theorem dX5_init_37 : decode cX5_init 37 = .ok (.bipush 24, 2) := by decide +kernel
theorem dX5_init_39 : decode cX5_init 39 = .ok (.newarray .boolean, 2) := by decide +kernel
theorem dX5_init_41 : decode cX5_init 41 = .ok (.putfield 23, 3) := by decide +kernel
theorem dX5_init_44 : decode cX5_init 44 = .ok (.aload_n 0, 1) := by decide +kernel
theorem dX5_init_45 : decode cX5_init 45 = .ok (.bipush 24, 2) := by decide +kernel
theorem dX5_init_47 : decode cX5_init 47 = .ok (.newarray .boolean, 2) := by decide +kernel
theorem dX5_init_49 : decode cX5_init 49 = .ok (.putfield 26, 3) := by decide +kernel
theorem dX5_init_52 : decode cX5_init 52 = .ok (.aload_n 0, 1) := by decide +kernel
theorem dX5_init_53 : decode cX5_init 53 = .ok (.sipush 576, 3) := by decide +kernel
theorem dX5_init_56 : decode cX5_init 56 = .ok (.newarray .int, 2) := by decide +kernel
theorem dX5_init_58 : decode cX5_init 58 = .ok (.putfield 29, 3) := by decide +kernel
theorem dX5_init_61 : decode cX5_init 61 = .ok (.aload_n 0, 1) := by decide +kernel
theorem dX5_init_62 : decode cX5_init 62 = .ok (.sipush 1728, 3) := by decide +kernel
theorem dX5_init_65 : decode cX5_init 65 = .ok (.newarray .boolean, 2) := by decide +kernel
theorem dX5_init_67 : decode cX5_init 67 = .ok (.putfield 32, 3) := by decide +kernel
theorem dX5_init_70 : decode cX5_init 70 = .ok (.aload_n 0, 1) := by decide +kernel
theorem dX5_init_71 : decode cX5_init 71 = .ok (.bipush 48, 2) := by decide +kernel
theorem dX5_init_73 : decode cX5_init 73 = .ok (.newarray .int, 2) := by decide +kernel
theorem dX5_init_75 : decode cX5_init 75 = .ok (.putfield 35, 3) := by decide +kernel
theorem dX5_init_78 : decode cX5_init 78 = .ok (.aload_n 0, 1) := by decide +kernel
theorem dX5_init_79 : decode cX5_init 79 = .ok (.bipush 8, 2) := by decide +kernel
theorem dX5_init_81 : decode cX5_init 81 = .ok (.newarray .boolean, 2) := by decide +kernel
theorem dX5_init_83 : decode cX5_init 83 = .ok (.putfield 38, 3) := by decide +kernel
theorem dX5_init_86 : decode cX5_init 86 = .ok (.aload_n 0, 1) := by decide +kernel
theorem dX5_init_87 : decode cX5_init 87 = .ok (.bipush 30, 2) := by decide +kernel
theorem dX5_init_89 : decode cX5_init 89 = .ok (.newarray .int, 2) := by decide +kernel
theorem dX5_init_91 : decode cX5_init 91 = .ok (.putfield 41, 3) := by decide +kernel
theorem dX5_init_94 : decode cX5_init 94 = .ok (.aload_n 0, 1) := by decide +kernel
theorem dX5_init_95 : decode cX5_init 95 = .ok (.bipush 30, 2) := by decide +kernel
theorem dX5_init_97 : decode cX5_init 97 = .ok (.newarray .int, 2) := by decide +kernel
theorem dX5_init_99 : decode cX5_init 99 = .ok (.putfield 44, 3) := by decide +kernel
theorem dX5_init_102 : decode cX5_init 102 = .ok (.aload_n 0, 1) := by decide +kernel
theorem dX5_init_103 : decode cX5_init 103 = .ok (.bipush 30, 2) := by decide +kernel
theorem dX5_init_105 : decode cX5_init 105 = .ok (.newarray .int, 2) := by decide +kernel
theorem dX5_init_107 : decode cX5_init 107 = .ok (.putfield 47, 3) := by decide +kernel
theorem dX5_init_110 : decode cX5_init 110 = .ok (.aload_n 0, 1) := by decide +kernel
theorem dX5_init_111 : decode cX5_init 111 = .ok (.bipush 30, 2) := by decide +kernel
theorem dX5_init_113 : decode cX5_init 113 = .ok (.newarray .int, 2) := by decide +kernel
theorem dX5_init_115 : decode cX5_init 115 = .ok (.putfield 50, 3) := by decide +kernel
theorem dX5_init_118 : decode cX5_init 118 = .ok (.aload_n 0, 1) := by decide +kernel
theorem dX5_init_119 : decode cX5_init 119 = .ok (.bipush 30, 2) := by decide +kernel
theorem dX5_init_121 : decode cX5_init 121 = .ok (.newarray .boolean, 2) := by decide +kernel
theorem dX5_init_123 : decode cX5_init 123 = .ok (.putfield 53, 3) := by decide +kernel
theorem dX5_init_126 : decode cX5_init 126 = .ok (.aload_n 0, 1) := by decide +kernel
theorem dX5_init_127 : decode cX5_init 127 = .ok (.bipush 30, 2) := by decide +kernel
theorem dX5_init_129 : decode cX5_init 129 = .ok (.newarray .int, 2) := by decide +kernel
theorem dX5_init_131 : decode cX5_init 131 = .ok (.putfield 56, 3) := by decide +kernel
theorem dX5_init_134 : decode cX5_init 134 = .ok (.aload_n 0, 1) := by decide +kernel
theorem dX5_init_135 : decode cX5_init 135 = .ok (.bipush 30, 2) := by decide +kernel
theorem dX5_init_137 : decode cX5_init 137 = .ok (.newarray .int, 2) := by decide +kernel
theorem dX5_init_139 : decode cX5_init 139 = .ok (.putfield 59, 3) := by decide +kernel
theorem dX5_init_142 : decode cX5_init 142 = .ok (.aload_n 0, 1) := by decide +kernel
theorem dX5_init_143 : decode cX5_init 143 = .ok (.bipush 30, 2) := by decide +kernel
theorem dX5_init_145 : decode cX5_init 145 = .ok (.newarray .int, 2) := by decide +kernel
theorem dX5_init_147 : decode cX5_init 147 = .ok (.putfield 62, 3) := by decide +kernel
theorem dX5_init_150 : decode cX5_init 150 = .ok (.aload_n 0, 1) := by decide +kernel
theorem dX5_init_151 : decode cX5_init 151 = .ok (.bipush 30, 2) := by decide +kernel
theorem dX5_init_153 : decode cX5_init 153 = .ok (.newarray .int, 2) := by decide +kernel
theorem dX5_init_155 : decode cX5_init 155 = .ok (.putfield 65, 3) := by decide +kernel
theorem dX5_init_158 : decode cX5_init 158 = .ok (.aload_n 0, 1) := by decide +kernel
theorem dX5_init_159 : decode cX5_init 159 = .ok (.bipush 30, 2) := by decide +kernel
theorem dX5_init_161 : decode cX5_init 161 = .ok (.newarray .int, 2) := by decide +kernel
theorem dX5_init_163 : decode cX5_init 163 = .ok (.putfield 68, 3) := by decide +kernel
theorem dX5_init_166 : decode cX5_init 166 = .ok (.aload_n 0, 1) := by decide +kernel
theorem dX5_init_167 : decode cX5_init 167 = .ok (.bipush 30, 2) := by decide +kernel
theorem dX5_init_169 : decode cX5_init 169 = .ok (.newarray .int, 2) := by decide +kernel
theorem dX5_init_171 : decode cX5_init 171 = .ok (.putfield 71, 3) := by decide +kernel
theorem dX5_init_174 : decode cX5_init 174 = .ok (.aload_n 0, 1) := by decide +kernel
theorem dX5_init_175 : decode cX5_init 175 = .ok (.bipush 30, 2) := by decide +kernel
theorem dX5_init_177 : decode cX5_init 177 = .ok (.newarray .int, 2) := by decide +kernel
theorem dX5_init_179 : decode cX5_init 179 = .ok (.putfield 74, 3) := by decide +kernel
theorem dX5_init_182 : decode cX5_init 182 = .ok (.aload_n 0, 1) := by decide +kernel
theorem dX5_init_183 : decode cX5_init 183 = .ok (.sipush 210, 3) := by decide +kernel
theorem dX5_init_186 : decode cX5_init 186 = .ok (.newarray .int, 2) := by decide +kernel
theorem dX5_init_188 : decode cX5_init 188 = .ok (.putfield 77, 3) := by decide +kernel
theorem dX5_init_191 : decode cX5_init 191 = .ok (.aload_n 0, 1) := by decide +kernel
theorem dX5_init_192 : decode cX5_init 192 = .ok (.bipush 30, 2) := by decide +kernel
theorem dX5_init_194 : decode cX5_init 194 = .ok (.newarray .int, 2) := by decide +kernel
theorem dX5_init_196 : decode cX5_init 196 = .ok (.putfield 80, 3) := by decide +kernel
theorem dX5_init_199 : decode cX5_init 199 = .ok (.aload_n 0, 1) := by decide +kernel
theorem dX5_init_200 : decode cX5_init 200 = .ok (.bipush 90, 2) := by decide +kernel
theorem dX5_init_202 : decode cX5_init 202 = .ok (.newarray .int, 2) := by decide +kernel
theorem dX5_init_204 : decode cX5_init 204 = .ok (.putfield 83, 3) := by decide +kernel
theorem dX5_init_207 : decode cX5_init 207 = .ok (.aload_n 0, 1) := by decide +kernel
theorem dX5_init_208 : decode cX5_init 208 = .ok (.bipush 90, 2) := by decide +kernel
theorem dX5_init_210 : decode cX5_init 210 = .ok (.newarray .int, 2) := by decide +kernel
theorem dX5_init_212 : decode cX5_init 212 = .ok (.putfield 86, 3) := by decide +kernel
theorem dX5_init_215 : decode cX5_init 215 = .ok (.aload_n 0, 1) := by decide +kernel
theorem dX5_init_216 : decode cX5_init 216 = .ok (.bipush 30, 2) := by decide +kernel
theorem dX5_init_218 : decode cX5_init 218 = .ok (.newarray .int, 2) := by decide +kernel
theorem dX5_init_220 : decode cX5_init 220 = .ok (.putfield 89, 3) := by decide +kernel
theorem dX5_init_223 : decode cX5_init 223 = .ok (.return_, 1) := by decide +kernel
def tabR_X5_init : List (Nat × RSem) := [(0, rp_al 0 1), (1, rp_oinit 4), (4, rp_al 0 5), (5, rp_ic 24 7), (7, rp_newa 0 24 1 9), (9, rp_pf 7 2 (.array .int) 12), (12, rp_al 0 13), (13, rp_ic 24 15), (15, rp_newa 0 24 1 17), (17, rp_pf 7 3 (.array .int) 20), (20, rp_al 0 21), (21, rp_ic 24 23), (23, rp_newa 0 24 1 25), (25, rp_pf 7 4 (.array .int) 28), (28, rp_al 0 29), (29, rp_ic 24 31), (31, rp_newa 1 24 1 33), (33, rp_pf 7 5 (.array .boolean) 36), (36, rp_al 0 37), (37, rp_ic 24 39), (39, rp_newa 1 24 1 41), (41, rp_pf 7 6 (.array .boolean) 44), (44, rp_al 0 45), (45, rp_ic 24 47), (47, rp_newa 1 24 1 49), (49, rp_pf 7 7 (.array .boolean) 52), (52, rp_al 0 53), (53, rp_ic 576 56), (56, rp_newa 0 576 24 58), (58, rp_pf 7 8 (.array .int) 61), (61, rp_al 0 62), (62, rp_ic 1728 65), (65, rp_newa 1 1728 72 67), (67, rp_pf 7 9 (.array .boolean) 70), (70, rp_al 0 71), (71, rp_ic 48 73), (73, rp_newa 0 48 2 75), (75, rp_pf 7 10 (.array .int) 78), (78, rp_al 0 79), (79, rp_ic 8 81), (81, rp_newa 1 8 1 83), (83, rp_pf 7 11 (.array .boolean) 86), (86, rp_al 0 87), (87, rp_ic 30 89), (89, rp_newa 0 30 2 91), (91, rp_pf 7 13 (.array .int) 94), (94, rp_al 0 95), (95, rp_ic 30 97), (97, rp_newa 0 30 2 99), (99, rp_pf 7 14 (.array .int) 102), (102, rp_al 0 103), (103, rp_ic 30 105), (105, rp_newa 0 30 2 107), (107, rp_pf 7 15 (.array .int) 110), (110, rp_al 0 111), (111, rp_ic 30 113), (113, rp_newa 0 30 2 115), (115, rp_pf 7 16 (.array .int) 118), (118, rp_al 0 119), (119, rp_ic 30 121), (121, rp_newa 1 30 2 123), (123, rp_pf 7 17 (.array .boolean) 126), (126, rp_al 0 127), (127, rp_ic 30 129), (129, rp_newa 0 30 2 131), (131, rp_pf 7 18 (.array .int) 134), (134, rp_al 0 135), (135, rp_ic 30 137), (137, rp_newa 0 30 2 139), (139, rp_pf 7 19 (.array .int) 142), (142, rp_al 0 143), (143, rp_ic 30 145), (145, rp_newa 0 30 2 147), (147, rp_pf 7 20 (.array .int) 150), (150, rp_al 0 151), (151, rp_ic 30 153), (153, rp_newa 0 30 2 155), (155, rp_pf 7 22 (.array .int) 158), (158, rp_al 0 159), (159, rp_ic 30 161), (161, rp_newa 0 30 2 163), (163, rp_pf 7 23 (.array .int) 166), (166, rp_al 0 167), (167, rp_ic 30 169), (169, rp_newa 0 30 2 171), (171, rp_pf 7 24 (.array .int) 174), (174, rp_al 0 175), (175, rp_ic 30 177), (177, rp_newa 0 30 2 179), (179, rp_pf 7 25 (.array .int) 182), (182, rp_al 0 183), (183, rp_ic 210 186), (186, rp_newa 0 210 9 188), (188, rp_pf 7 26 (.array .int) 191), (191, rp_al 0 192), (192, rp_ic 30 194), (194, rp_newa 0 30 2 196), (196, rp_pf 7 27 (.array .int) 199), (199, rp_al 0 200), (200, rp_ic 90 202), (202, rp_newa 0 90 4 204), (204, rp_pf 7 28 (.array .int) 207), (207, rp_al 0 208), (208, rp_ic 90 210), (210, rp_newa 0 90 4 212), (212, rp_pf 7 29 (.array .int) 215), (215, rp_al 0 216), (216, rp_ic 30 218), (218, rp_newa 0 30 2 220), (220, rp_pf 7 31 (.array .int) 223), (223, rp_vret)]
set_option maxRecDepth 20000 in
theorem tokR_X5_init : ∀ q ∈ tabR_X5_init, RSnd true RX5 cX5_init 1 1 240 none q.1 q.2 := by
  unfold tabR_X5_init
  refine rcons (rk_aload_n dX5_init_0 rfl rfl) ?_
  refine rcons (rk_oinit w_992 (by decide) dX5_init_1 rfl) ?_
  refine rcons (rk_aload_n dX5_init_4 rfl rfl) ?_
  refine rcons (rk_bipush dX5_init_5 rfl rfl) ?_
  refine rcons (rk_newarray (ty := .int) rfl (fun _ => rfl) (fun _ => rfl) w_120 (by decide) (by decide) (by decide) dX5_init_7 rfl) ?_
  refine rcons (rk_putfieldF (C := RX5) (T := TX5) (n := 33) tyX5 (.array .int) rfl in_X5 tyX5_ok nmX5 (by decide) rfl rfl w_995 rfl dX5_init_9 rfl) ?_
  refine rcons (rk_aload_n dX5_init_12 rfl rfl) ?_
  refine rcons (rk_bipush dX5_init_13 rfl rfl) ?_
  refine rcons (rk_newarray (ty := .int) rfl (fun _ => rfl) (fun _ => rfl) w_120 (by decide) (by decide) (by decide) dX5_init_15 rfl) ?_
  refine rcons (rk_putfieldF (C := RX5) (T := TX5) (n := 33) tyX5 (.array .int) rfl in_X5 tyX5_ok nmX5 (by decide) rfl rfl w_996 rfl dX5_init_17 rfl) ?_
  refine rcons (rk_aload_n dX5_init_20 rfl rfl) ?_
  refine rcons (rk_bipush dX5_init_21 rfl rfl) ?_
  refine rcons (rk_newarray (ty := .int) rfl (fun _ => rfl) (fun _ => rfl) w_120 (by decide) (by decide) (by decide) dX5_init_23 rfl) ?_
  refine rcons (rk_putfieldF (C := RX5) (T := TX5) (n := 33) tyX5 (.array .int) rfl in_X5 tyX5_ok nmX5 (by decide) rfl rfl w_997 rfl dX5_init_25 rfl) ?_
  refine rcons (rk_aload_n dX5_init_28 rfl rfl) ?_
  refine rcons (rk_bipush dX5_init_29 rfl rfl) ?_
  refine rcons (rk_newarray (ty := .boolean) rfl (fun _ => rfl) (fun _ => rfl) w_147 (by decide) (by decide) (by decide) dX5_init_31 rfl) ?_
  refine rcons (rk_putfieldF (C := RX5) (T := TX5) (n := 33) tyX5 (.array .boolean) rfl in_X5 tyX5_ok nmX5 (by decide) rfl rfl w_998 rfl dX5_init_33 rfl) ?_
  refine rcons (rk_aload_n dX5_init_36 rfl rfl) ?_
  refine rcons (rk_bipush dX5_init_37 rfl rfl) ?_
  refine rcons (rk_newarray (ty := .boolean) rfl (fun _ => rfl) (fun _ => rfl) w_147 (by decide) (by decide) (by decide) dX5_init_39 rfl) ?_
  refine rcons (rk_putfieldF (C := RX5) (T := TX5) (n := 33) tyX5 (.array .boolean) rfl in_X5 tyX5_ok nmX5 (by decide) rfl rfl w_999 rfl dX5_init_41 rfl) ?_
  refine rcons (rk_aload_n dX5_init_44 rfl rfl) ?_
  refine rcons (rk_bipush dX5_init_45 rfl rfl) ?_
  refine rcons (rk_newarray (ty := .boolean) rfl (fun _ => rfl) (fun _ => rfl) w_147 (by decide) (by decide) (by decide) dX5_init_47 rfl) ?_
  refine rcons (rk_putfieldF (C := RX5) (T := TX5) (n := 33) tyX5 (.array .boolean) rfl in_X5 tyX5_ok nmX5 (by decide) rfl rfl w_1000 rfl dX5_init_49 rfl) ?_
  refine rcons (rk_aload_n dX5_init_52 rfl rfl) ?_
  refine rcons (rk_sipush dX5_init_53 rfl rfl) ?_
  refine rcons (rk_newarray (ty := .int) rfl (fun _ => rfl) (fun _ => rfl) w_120 (by decide) (by decide) (by decide) dX5_init_56 rfl) ?_
  refine rcons (rk_putfieldF (C := RX5) (T := TX5) (n := 33) tyX5 (.array .int) rfl in_X5 tyX5_ok nmX5 (by decide) rfl rfl w_1001 rfl dX5_init_58 rfl) ?_
  refine rcons (rk_aload_n dX5_init_61 rfl rfl) ?_
  refine rcons (rk_sipush dX5_init_62 rfl rfl) ?_
  refine rcons (rk_newarray (ty := .boolean) rfl (fun _ => rfl) (fun _ => rfl) w_147 (by decide) (by decide) (by decide) dX5_init_65 rfl) ?_
  refine rcons (rk_putfieldF (C := RX5) (T := TX5) (n := 33) tyX5 (.array .boolean) rfl in_X5 tyX5_ok nmX5 (by decide) rfl rfl w_1002 rfl dX5_init_67 rfl) ?_
  refine rcons (rk_aload_n dX5_init_70 rfl rfl) ?_
  refine rcons (rk_bipush dX5_init_71 rfl rfl) ?_
  refine rcons (rk_newarray (ty := .int) rfl (fun _ => rfl) (fun _ => rfl) w_120 (by decide) (by decide) (by decide) dX5_init_73 rfl) ?_
  refine rcons (rk_putfieldF (C := RX5) (T := TX5) (n := 33) tyX5 (.array .int) rfl in_X5 tyX5_ok nmX5 (by decide) rfl rfl w_1003 rfl dX5_init_75 rfl) ?_
  refine rcons (rk_aload_n dX5_init_78 rfl rfl) ?_
  refine rcons (rk_bipush dX5_init_79 rfl rfl) ?_
  refine rcons (rk_newarray (ty := .boolean) rfl (fun _ => rfl) (fun _ => rfl) w_147 (by decide) (by decide) (by decide) dX5_init_81 rfl) ?_
  refine rcons (rk_putfieldF (C := RX5) (T := TX5) (n := 33) tyX5 (.array .boolean) rfl in_X5 tyX5_ok nmX5 (by decide) rfl rfl w_1004 rfl dX5_init_83 rfl) ?_
  refine rcons (rk_aload_n dX5_init_86 rfl rfl) ?_
  refine rcons (rk_bipush dX5_init_87 rfl rfl) ?_
  refine rcons (rk_newarray (ty := .int) rfl (fun _ => rfl) (fun _ => rfl) w_120 (by decide) (by decide) (by decide) dX5_init_89 rfl) ?_
  refine rcons (rk_putfieldF (C := RX5) (T := TX5) (n := 33) tyX5 (.array .int) rfl in_X5 tyX5_ok nmX5 (by decide) rfl rfl w_1006 rfl dX5_init_91 rfl) ?_
  refine rcons (rk_aload_n dX5_init_94 rfl rfl) ?_
  refine rcons (rk_bipush dX5_init_95 rfl rfl) ?_
  refine rcons (rk_newarray (ty := .int) rfl (fun _ => rfl) (fun _ => rfl) w_120 (by decide) (by decide) (by decide) dX5_init_97 rfl) ?_
  refine rcons (rk_putfieldF (C := RX5) (T := TX5) (n := 33) tyX5 (.array .int) rfl in_X5 tyX5_ok nmX5 (by decide) rfl rfl w_1007 rfl dX5_init_99 rfl) ?_
  refine rcons (rk_aload_n dX5_init_102 rfl rfl) ?_
  refine rcons (rk_bipush dX5_init_103 rfl rfl) ?_
  refine rcons (rk_newarray (ty := .int) rfl (fun _ => rfl) (fun _ => rfl) w_120 (by decide) (by decide) (by decide) dX5_init_105 rfl) ?_
  refine rcons (rk_putfieldF (C := RX5) (T := TX5) (n := 33) tyX5 (.array .int) rfl in_X5 tyX5_ok nmX5 (by decide) rfl rfl w_1008 rfl dX5_init_107 rfl) ?_
  refine rcons (rk_aload_n dX5_init_110 rfl rfl) ?_
  refine rcons (rk_bipush dX5_init_111 rfl rfl) ?_
  refine rcons (rk_newarray (ty := .int) rfl (fun _ => rfl) (fun _ => rfl) w_120 (by decide) (by decide) (by decide) dX5_init_113 rfl) ?_
  refine rcons (rk_putfieldF (C := RX5) (T := TX5) (n := 33) tyX5 (.array .int) rfl in_X5 tyX5_ok nmX5 (by decide) rfl rfl w_1009 rfl dX5_init_115 rfl) ?_
  refine rcons (rk_aload_n dX5_init_118 rfl rfl) ?_
  refine rcons (rk_bipush dX5_init_119 rfl rfl) ?_
  refine rcons (rk_newarray (ty := .boolean) rfl (fun _ => rfl) (fun _ => rfl) w_147 (by decide) (by decide) (by decide) dX5_init_121 rfl) ?_
  refine rcons (rk_putfieldF (C := RX5) (T := TX5) (n := 33) tyX5 (.array .boolean) rfl in_X5 tyX5_ok nmX5 (by decide) rfl rfl w_1010 rfl dX5_init_123 rfl) ?_
  refine rcons (rk_aload_n dX5_init_126 rfl rfl) ?_
  refine rcons (rk_bipush dX5_init_127 rfl rfl) ?_
  refine rcons (rk_newarray (ty := .int) rfl (fun _ => rfl) (fun _ => rfl) w_120 (by decide) (by decide) (by decide) dX5_init_129 rfl) ?_
  refine rcons (rk_putfieldF (C := RX5) (T := TX5) (n := 33) tyX5 (.array .int) rfl in_X5 tyX5_ok nmX5 (by decide) rfl rfl w_1011 rfl dX5_init_131 rfl) ?_
  refine rcons (rk_aload_n dX5_init_134 rfl rfl) ?_
  refine rcons (rk_bipush dX5_init_135 rfl rfl) ?_
  refine rcons (rk_newarray (ty := .int) rfl (fun _ => rfl) (fun _ => rfl) w_120 (by decide) (by decide) (by decide) dX5_init_137 rfl) ?_
  refine rcons (rk_putfieldF (C := RX5) (T := TX5) (n := 33) tyX5 (.array .int) rfl in_X5 tyX5_ok nmX5 (by decide) rfl rfl w_1012 rfl dX5_init_139 rfl) ?_
  refine rcons (rk_aload_n dX5_init_142 rfl rfl) ?_
  refine rcons (rk_bipush dX5_init_143 rfl rfl) ?_
  refine rcons (rk_newarray (ty := .int) rfl (fun _ => rfl) (fun _ => rfl) w_120 (by decide) (by decide) (by decide) dX5_init_145 rfl) ?_
  refine rcons (rk_putfieldF (C := RX5) (T := TX5) (n := 33) tyX5 (.array .int) rfl in_X5 tyX5_ok nmX5 (by decide) rfl rfl w_1013 rfl dX5_init_147 rfl) ?_
  refine rcons (rk_aload_n dX5_init_150 rfl rfl) ?_
  refine rcons (rk_bipush dX5_init_151 rfl rfl) ?_
  refine rcons (rk_newarray (ty := .int) rfl (fun _ => rfl) (fun _ => rfl) w_120 (by decide) (by decide) (by decide) dX5_init_153 rfl) ?_
  refine rcons (rk_putfieldF (C := RX5) (T := TX5) (n := 33) tyX5 (.array .int) rfl in_X5 tyX5_ok nmX5 (by decide) rfl rfl w_1015 rfl dX5_init_155 rfl) ?_
  refine rcons (rk_aload_n dX5_init_158 rfl rfl) ?_
  refine rcons (rk_bipush dX5_init_159 rfl rfl) ?_
  refine rcons (rk_newarray (ty := .int) rfl (fun _ => rfl) (fun _ => rfl) w_120 (by decide) (by decide) (by decide) dX5_init_161 rfl) ?_
  refine rcons (rk_putfieldF (C := RX5) (T := TX5) (n := 33) tyX5 (.array .int) rfl in_X5 tyX5_ok nmX5 (by decide) rfl rfl w_1016 rfl dX5_init_163 rfl) ?_
  refine rcons (rk_aload_n dX5_init_166 rfl rfl) ?_
  refine rcons (rk_bipush dX5_init_167 rfl rfl) ?_
  refine rcons (rk_newarray (ty := .int) rfl (fun _ => rfl) (fun _ => rfl) w_120 (by decide) (by decide) (by decide) dX5_init_169 rfl) ?_
  refine rcons (rk_putfieldF (C := RX5) (T := TX5) (n := 33) tyX5 (.array .int) rfl in_X5 tyX5_ok nmX5 (by decide) rfl rfl w_1017 rfl dX5_init_171 rfl) ?_
  refine rcons (rk_aload_n dX5_init_174 rfl rfl) ?_
  refine rcons (rk_bipush dX5_init_175 rfl rfl) ?_
  refine rcons (rk_newarray (ty := .int) rfl (fun _ => rfl) (fun _ => rfl) w_120 (by decide) (by decide) (by decide) dX5_init_177 rfl) ?_
  refine rcons (rk_putfieldF (C := RX5) (T := TX5) (n := 33) tyX5 (.array .int) rfl in_X5 tyX5_ok nmX5 (by decide) rfl rfl w_1018 rfl dX5_init_179 rfl) ?_
  refine rcons (rk_aload_n dX5_init_182 rfl rfl) ?_
  refine rcons (rk_sipush dX5_init_183 rfl rfl) ?_
  refine rcons (rk_newarray (ty := .int) rfl (fun _ => rfl) (fun _ => rfl) w_120 (by decide) (by decide) (by decide) dX5_init_186 rfl) ?_
  refine rcons (rk_putfieldF (C := RX5) (T := TX5) (n := 33) tyX5 (.array .int) rfl in_X5 tyX5_ok nmX5 (by decide) rfl rfl w_1019 rfl dX5_init_188 rfl) ?_
  refine rcons (rk_aload_n dX5_init_191 rfl rfl) ?_
  refine rcons (rk_bipush dX5_init_192 rfl rfl) ?_
  refine rcons (rk_newarray (ty := .int) rfl (fun _ => rfl) (fun _ => rfl) w_120 (by decide) (by decide) (by decide) dX5_init_194 rfl) ?_
  refine rcons (rk_putfieldF (C := RX5) (T := TX5) (n := 33) tyX5 (.array .int) rfl in_X5 tyX5_ok nmX5 (by decide) rfl rfl w_1020 rfl dX5_init_196 rfl) ?_
  refine rcons (rk_aload_n dX5_init_199 rfl rfl) ?_
  refine rcons (rk_bipush dX5_init_200 rfl rfl) ?_
  refine rcons (rk_newarray (ty := .int) rfl (fun _ => rfl) (fun _ => rfl) w_120 (by decide) (by decide) (by decide) dX5_init_202 rfl) ?_
  refine rcons (rk_putfieldF (C := RX5) (T := TX5) (n := 33) tyX5 (.array .int) rfl in_X5 tyX5_ok nmX5 (by decide) rfl rfl w_1021 rfl dX5_init_204 rfl) ?_
  refine rcons (rk_aload_n dX5_init_207 rfl rfl) ?_
  refine rcons (rk_bipush dX5_init_208 rfl rfl) ?_
  refine rcons (rk_newarray (ty := .int) rfl (fun _ => rfl) (fun _ => rfl) w_120 (by decide) (by decide) (by decide) dX5_init_210 rfl) ?_
  refine rcons (rk_putfieldF (C := RX5) (T := TX5) (n := 33) tyX5 (.array .int) rfl in_X5 tyX5_ok nmX5 (by decide) rfl rfl w_1022 rfl dX5_init_212 rfl) ?_
  refine rcons (rk_aload_n dX5_init_215 rfl rfl) ?_
  refine rcons (rk_bipush dX5_init_216 rfl rfl) ?_
  refine rcons (rk_newarray (ty := .int) rfl (fun _ => rfl) (fun _ => rfl) w_120 (by decide) (by decide) (by decide) dX5_init_218 rfl) ?_
  refine rcons (rk_putfieldF (C := RX5) (T := TX5) (n := 33) tyX5 (.array .int) rfl in_X5 tyX5_ok nmX5 (by decide) rfl rfl w_1024 rfl dX5_init_220 rfl) ?_
  refine rcons (rk_vreturn rfl dX5_init_223) ?_
  exact fun _ h => nomatch h
def rs_X5_init : RSpc := fun g av w N => match av, w with
  | [.inl (.inr (_, a))], [(b, .inr (7, l))] => a = b ∧ l = [.int 0, .int 0, .null, .null, .null, .null, .null, .null, .null, .null, .null, .null, .int 0, .null, .null, .null, .null, .null, .null, .null, .null, .int 0, .null, .null, .null, .null, .null, .null, .null, .null, .int 0, .null, .int 0] ∧ ∀ q2 q3 q4 q5 q6 q7 q8 q9 q10 q11 q13 q14 q15 q16 q17 q18 q19 q20 q22 q23 q24 q25 q26 q27 q28 q29 q31 : Nat, N none [(b, .inr (7, [.int 0, .int 0, .ref q2, .ref q3, .ref q4, .ref q5, .ref q6, .ref q7, .ref q8, .ref q9, .ref q10, .ref q11, .int 0, .ref q13, .ref q14, .ref q15, .ref q16, .ref q17, .ref q18, .ref q19, .ref q20, .int 0, .ref q22, .ref q23, .ref q24, .ref q25, .ref q26, .ref q27, .ref q28, .ref q29, .int 0, .ref q31, .int 0])), (q2, .inl (g.2.1 0, (24, .inl (fun _ => 0)))), (q3, .inl (g.2.1 0, (24, .inl (fun _ => 0)))), (q4, .inl (g.2.1 0, (24, .inl (fun _ => 0)))), (q5, .inl (g.2.1 1, (24, .inl (fun _ => 0)))), (q6, .inl (g.2.1 1, (24, .inl (fun _ => 0)))), (q7, .inl (g.2.1 1, (24, .inl (fun _ => 0)))), (q8, .inl (g.2.1 0, (576, .inl (fun _ => 0)))), (q9, .inl (g.2.1 1, (1728, .inl (fun _ => 0)))), (q10, .inl (g.2.1 0, (48, .inl (fun _ => 0)))), (q11, .inl (g.2.1 1, (8, .inl (fun _ => 0)))), (q13, .inl (g.2.1 0, (30, .inl (fun _ => 0)))), (q14, .inl (g.2.1 0, (30, .inl (fun _ => 0)))), (q15, .inl (g.2.1 0, (30, .inl (fun _ => 0)))), (q16, .inl (g.2.1 0, (30, .inl (fun _ => 0)))), (q17, .inl (g.2.1 1, (30, .inl (fun _ => 0)))), (q18, .inl (g.2.1 0, (30, .inl (fun _ => 0)))), (q19, .inl (g.2.1 0, (30, .inl (fun _ => 0)))), (q20, .inl (g.2.1 0, (30, .inl (fun _ => 0)))), (q22, .inl (g.2.1 0, (30, .inl (fun _ => 0)))), (q23, .inl (g.2.1 0, (30, .inl (fun _ => 0)))), (q24, .inl (g.2.1 0, (30, .inl (fun _ => 0)))), (q25, .inl (g.2.1 0, (30, .inl (fun _ => 0)))), (q26, .inl (g.2.1 0, (210, .inl (fun _ => 0)))), (q27, .inl (g.2.1 0, (30, .inl (fun _ => 0)))), (q28, .inl (g.2.1 0, (90, .inl (fun _ => 0)))), (q29, .inl (g.2.1 0, (90, .inl (fun _ => 0)))), (q31, .inl (g.2.1 0, (30, .inl (fun _ => 0))))]
  | _, _ => False
set_option maxRecDepth 20000 in
set_option maxHeartbeats 4000000 in
theorem R_X5_init : RMet yX5_init cX5_init 1 none 1 240 rs_X5_init := by
  refine RMet.mk (own := RX5) true (fun _ => rfl) (by decide) rfl [0] rfl tokR_X5_init 300 ?_
  intro g av w N h
  unfold rs_X5_init at h
  split at h
  rotate_left
  · exact h.elim
  rename_i x a b l
  obtain ⟨rfl, rfl, h⟩ := h
  refine ⟨[(4, fun m u L st w => m = 28 ∧ u = 0 ∧ L = [(0, .inr (x, a))] ∧ st = [] ∧ w = [(a, .inr (7, [.int 0, .int 0, .null, .null, .null, .null, .null, .null, .null, .null, .null, .null, .int 0, .null, .null, .null, .null, .null, .null, .null, .null, .int 0, .null, .null, .null, .null, .null, .null, .null, .null, .int 0, .null, .int 0]))]),
    (12, fun m u L st w => ∃ q2 : Nat, m = 27 ∧ u = 1 ∧ L = [(0, .inr (x, a))] ∧ st = [] ∧ w = [(a, .inr (7, [.int 0, .int 0, .ref q2, .null, .null, .null, .null, .null, .null, .null, .null, .null, .int 0, .null, .null, .null, .null, .null, .null, .null, .null, .int 0, .null, .null, .null, .null, .null, .null, .null, .null, .int 0, .null, .int 0])), (q2, .inl (g.2.1 0, (24, .inl (fun _ => 0))))]),
    (20, fun m u L st w => ∃ q2 q3 : Nat, m = 26 ∧ u = 2 ∧ L = [(0, .inr (x, a))] ∧ st = [] ∧ w = [(a, .inr (7, [.int 0, .int 0, .ref q2, .ref q3, .null, .null, .null, .null, .null, .null, .null, .null, .int 0, .null, .null, .null, .null, .null, .null, .null, .null, .int 0, .null, .null, .null, .null, .null, .null, .null, .null, .int 0, .null, .int 0])), (q2, .inl (g.2.1 0, (24, .inl (fun _ => 0)))), (q3, .inl (g.2.1 0, (24, .inl (fun _ => 0))))]),
    (28, fun m u L st w => ∃ q2 q3 q4 : Nat, m = 25 ∧ u = 3 ∧ L = [(0, .inr (x, a))] ∧ st = [] ∧ w = [(a, .inr (7, [.int 0, .int 0, .ref q2, .ref q3, .ref q4, .null, .null, .null, .null, .null, .null, .null, .int 0, .null, .null, .null, .null, .null, .null, .null, .null, .int 0, .null, .null, .null, .null, .null, .null, .null, .null, .int 0, .null, .int 0])), (q2, .inl (g.2.1 0, (24, .inl (fun _ => 0)))), (q3, .inl (g.2.1 0, (24, .inl (fun _ => 0)))), (q4, .inl (g.2.1 0, (24, .inl (fun _ => 0))))]),
    (36, fun m u L st w => ∃ q2 q3 q4 q5 : Nat, m = 24 ∧ u = 4 ∧ L = [(0, .inr (x, a))] ∧ st = [] ∧ w = [(a, .inr (7, [.int 0, .int 0, .ref q2, .ref q3, .ref q4, .ref q5, .null, .null, .null, .null, .null, .null, .int 0, .null, .null, .null, .null, .null, .null, .null, .null, .int 0, .null, .null, .null, .null, .null, .null, .null, .null, .int 0, .null, .int 0])), (q2, .inl (g.2.1 0, (24, .inl (fun _ => 0)))), (q3, .inl (g.2.1 0, (24, .inl (fun _ => 0)))), (q4, .inl (g.2.1 0, (24, .inl (fun _ => 0)))), (q5, .inl (g.2.1 1, (24, .inl (fun _ => 0))))]),
    (44, fun m u L st w => ∃ q2 q3 q4 q5 q6 : Nat, m = 23 ∧ u = 5 ∧ L = [(0, .inr (x, a))] ∧ st = [] ∧ w = [(a, .inr (7, [.int 0, .int 0, .ref q2, .ref q3, .ref q4, .ref q5, .ref q6, .null, .null, .null, .null, .null, .int 0, .null, .null, .null, .null, .null, .null, .null, .null, .int 0, .null, .null, .null, .null, .null, .null, .null, .null, .int 0, .null, .int 0])), (q2, .inl (g.2.1 0, (24, .inl (fun _ => 0)))), (q3, .inl (g.2.1 0, (24, .inl (fun _ => 0)))), (q4, .inl (g.2.1 0, (24, .inl (fun _ => 0)))), (q5, .inl (g.2.1 1, (24, .inl (fun _ => 0)))), (q6, .inl (g.2.1 1, (24, .inl (fun _ => 0))))]),
    (52, fun m u L st w => ∃ q2 q3 q4 q5 q6 q7 : Nat, m = 22 ∧ u = 6 ∧ L = [(0, .inr (x, a))] ∧ st = [] ∧ w = [(a, .inr (7, [.int 0, .int 0, .ref q2, .ref q3, .ref q4, .ref q5, .ref q6, .ref q7, .null, .null, .null, .null, .int 0, .null, .null, .null, .null, .null, .null, .null, .null, .int 0, .null, .null, .null, .null, .null, .null, .null, .null, .int 0, .null, .int 0])), (q2, .inl (g.2.1 0, (24, .inl (fun _ => 0)))), (q3, .inl (g.2.1 0, (24, .inl (fun _ => 0)))), (q4, .inl (g.2.1 0, (24, .inl (fun _ => 0)))), (q5, .inl (g.2.1 1, (24, .inl (fun _ => 0)))), (q6, .inl (g.2.1 1, (24, .inl (fun _ => 0)))), (q7, .inl (g.2.1 1, (24, .inl (fun _ => 0))))]),
    (61, fun m u L st w => ∃ q2 q3 q4 q5 q6 q7 q8 : Nat, m = 21 ∧ u = 30 ∧ L = [(0, .inr (x, a))] ∧ st = [] ∧ w = [(a, .inr (7, [.int 0, .int 0, .ref q2, .ref q3, .ref q4, .ref q5, .ref q6, .ref q7, .ref q8, .null, .null, .null, .int 0, .null, .null, .null, .null, .null, .null, .null, .null, .int 0, .null, .null, .null, .null, .null, .null, .null, .null, .int 0, .null, .int 0])), (q2, .inl (g.2.1 0, (24, .inl (fun _ => 0)))), (q3, .inl (g.2.1 0, (24, .inl (fun _ => 0)))), (q4, .inl (g.2.1 0, (24, .inl (fun _ => 0)))), (q5, .inl (g.2.1 1, (24, .inl (fun _ => 0)))), (q6, .inl (g.2.1 1, (24, .inl (fun _ => 0)))), (q7, .inl (g.2.1 1, (24, .inl (fun _ => 0)))), (q8, .inl (g.2.1 0, (576, .inl (fun _ => 0))))]),
    (70, fun m u L st w => ∃ q2 q3 q4 q5 q6 q7 q8 q9 : Nat, m = 20 ∧ u = 102 ∧ L = [(0, .inr (x, a))] ∧ st = [] ∧ w = [(a, .inr (7, [.int 0, .int 0, .ref q2, .ref q3, .ref q4, .ref q5, .ref q6, .ref q7, .ref q8, .ref q9, .null, .null, .int 0, .null, .null, .null, .null, .null, .null, .null, .null, .int 0, .null, .null, .null, .null, .null, .null, .null, .null, .int 0, .null, .int 0])), (q2, .inl (g.2.1 0, (24, .inl (fun _ => 0)))), (q3, .inl (g.2.1 0, (24, .inl (fun _ => 0)))), (q4, .inl (g.2.1 0, (24, .inl (fun _ => 0)))), (q5, .inl (g.2.1 1, (24, .inl (fun _ => 0)))), (q6, .inl (g.2.1 1, (24, .inl (fun _ => 0)))), (q7, .inl (g.2.1 1, (24, .inl (fun _ => 0)))), (q8, .inl (g.2.1 0, (576, .inl (fun _ => 0)))), (q9, .inl (g.2.1 1, (1728, .inl (fun _ => 0))))]),
    (78, fun m u L st w => ∃ q2 q3 q4 q5 q6 q7 q8 q9 q10 : Nat, m = 19 ∧ u = 104 ∧ L = [(0, .inr (x, a))] ∧ st = [] ∧ w = [(a, .inr (7, [.int 0, .int 0, .ref q2, .ref q3, .ref q4, .ref q5, .ref q6, .ref q7, .ref q8, .ref q9, .ref q10, .null, .int 0, .null, .null, .null, .null, .null, .null, .null, .null, .int 0, .null, .null, .null, .null, .null, .null, .null, .null, .int 0, .null, .int 0])), (q2, .inl (g.2.1 0, (24, .inl (fun _ => 0)))), (q3, .inl (g.2.1 0, (24, .inl (fun _ => 0)))), (q4, .inl (g.2.1 0, (24, .inl (fun _ => 0)))), (q5, .inl (g.2.1 1, (24, .inl (fun _ => 0)))), (q6, .inl (g.2.1 1, (24, .inl (fun _ => 0)))), (q7, .inl (g.2.1 1, (24, .inl (fun _ => 0)))), (q8, .inl (g.2.1 0, (576, .inl (fun _ => 0)))), (q9, .inl (g.2.1 1, (1728, .inl (fun _ => 0)))), (q10, .inl (g.2.1 0, (48, .inl (fun _ => 0))))]),
    (86, fun m u L st w => ∃ q2 q3 q4 q5 q6 q7 q8 q9 q10 q11 : Nat, m = 18 ∧ u = 105 ∧ L = [(0, .inr (x, a))] ∧ st = [] ∧ w = [(a, .inr (7, [.int 0, .int 0, .ref q2, .ref q3, .ref q4, .ref q5, .ref q6, .ref q7, .ref q8, .ref q9, .ref q10, .ref q11, .int 0, .null, .null, .null, .null, .null, .null, .null, .null, .int 0, .null, .null, .null, .null, .null, .null, .null, .null, .int 0, .null, .int 0])), (q2, .inl (g.2.1 0, (24, .inl (fun _ => 0)))), (q3, .inl (g.2.1 0, (24, .inl (fun _ => 0)))), (q4, .inl (g.2.1 0, (24, .inl (fun _ => 0)))), (q5, .inl (g.2.1 1, (24, .inl (fun _ => 0)))), (q6, .inl (g.2.1 1, (24, .inl (fun _ => 0)))), (q7, .inl (g.2.1 1, (24, .inl (fun _ => 0)))), (q8, .inl (g.2.1 0, (576, .inl (fun _ => 0)))), (q9, .inl (g.2.1 1, (1728, .inl (fun _ => 0)))), (q10, .inl (g.2.1 0, (48, .inl (fun _ => 0)))), (q11, .inl (g.2.1 1, (8, .inl (fun _ => 0))))]),
    (94, fun m u L st w => ∃ q2 q3 q4 q5 q6 q7 q8 q9 q10 q11 q13 : Nat, m = 17 ∧ u = 107 ∧ L = [(0, .inr (x, a))] ∧ st = [] ∧ w = [(a, .inr (7, [.int 0, .int 0, .ref q2, .ref q3, .ref q4, .ref q5, .ref q6, .ref q7, .ref q8, .ref q9, .ref q10, .ref q11, .int 0, .ref q13, .null, .null, .null, .null, .null, .null, .null, .int 0, .null, .null, .null, .null, .null, .null, .null, .null, .int 0, .null, .int 0])), (q2, .inl (g.2.1 0, (24, .inl (fun _ => 0)))), (q3, .inl (g.2.1 0, (24, .inl (fun _ => 0)))), (q4, .inl (g.2.1 0, (24, .inl (fun _ => 0)))), (q5, .inl (g.2.1 1, (24, .inl (fun _ => 0)))), (q6, .inl (g.2.1 1, (24, .inl (fun _ => 0)))), (q7, .inl (g.2.1 1, (24, .inl (fun _ => 0)))), (q8, .inl (g.2.1 0, (576, .inl (fun _ => 0)))), (q9, .inl (g.2.1 1, (1728, .inl (fun _ => 0)))), (q10, .inl (g.2.1 0, (48, .inl (fun _ => 0)))), (q11, .inl (g.2.1 1, (8, .inl (fun _ => 0)))), (q13, .inl (g.2.1 0, (30, .inl (fun _ => 0))))]),
    (102, fun m u L st w => ∃ q2 q3 q4 q5 q6 q7 q8 q9 q10 q11 q13 q14 : Nat, m = 16 ∧ u = 109 ∧ L = [(0, .inr (x, a))] ∧ st = [] ∧ w = [(a, .inr (7, [.int 0, .int 0, .ref q2, .ref q3, .ref q4, .ref q5, .ref q6, .ref q7, .ref q8, .ref q9, .ref q10, .ref q11, .int 0, .ref q13, .ref q14, .null, .null, .null, .null, .null, .null, .int 0, .null, .null, .null, .null, .null, .null, .null, .null, .int 0, .null, .int 0])), (q2, .inl (g.2.1 0, (24, .inl (fun _ => 0)))), (q3, .inl (g.2.1 0, (24, .inl (fun _ => 0)))), (q4, .inl (g.2.1 0, (24, .inl (fun _ => 0)))), (q5, .inl (g.2.1 1, (24, .inl (fun _ => 0)))), (q6, .inl (g.2.1 1, (24, .inl (fun _ => 0)))), (q7, .inl (g.2.1 1, (24, .inl (fun _ => 0)))), (q8, .inl (g.2.1 0, (576, .inl (fun _ => 0)))), (q9, .inl (g.2.1 1, (1728, .inl (fun _ => 0)))), (q10, .inl (g.2.1 0, (48, .inl (fun _ => 0)))), (q11, .inl (g.2.1 1, (8, .inl (fun _ => 0)))), (q13, .inl (g.2.1 0, (30, .inl (fun _ => 0)))), (q14, .inl (g.2.1 0, (30, .inl (fun _ => 0))))]),
    (110, fun m u L st w => ∃ q2 q3 q4 q5 q6 q7 q8 q9 q10 q11 q13 q14 q15 : Nat, m = 15 ∧ u = 111 ∧ L = [(0, .inr (x, a))] ∧ st = [] ∧ w = [(a, .inr (7, [.int 0, .int 0, .ref q2, .ref q3, .ref q4, .ref q5, .ref q6, .ref q7, .ref q8, .ref q9, .ref q10, .ref q11, .int 0, .ref q13, .ref q14, .ref q15, .null, .null, .null, .null, .null, .int 0, .null, .null, .null, .null, .null, .null, .null, .null, .int 0, .null, .int 0])), (q2, .inl (g.2.1 0, (24, .inl (fun _ => 0)))), (q3, .inl (g.2.1 0, (24, .inl (fun _ => 0)))), (q4, .inl (g.2.1 0, (24, .inl (fun _ => 0)))), (q5, .inl (g.2.1 1, (24, .inl (fun _ => 0)))), (q6, .inl (g.2.1 1, (24, .inl (fun _ => 0)))), (q7, .inl (g.2.1 1, (24, .inl (fun _ => 0)))), (q8, .inl (g.2.1 0, (576, .inl (fun _ => 0)))), (q9, .inl (g.2.1 1, (1728, .inl (fun _ => 0)))), (q10, .inl (g.2.1 0, (48, .inl (fun _ => 0)))), (q11, .inl (g.2.1 1, (8, .inl (fun _ => 0)))), (q13, .inl (g.2.1 0, (30, .inl (fun _ => 0)))), (q14, .inl (g.2.1 0, (30, .inl (fun _ => 0)))), (q15, .inl (g.2.1 0, (30, .inl (fun _ => 0))))]),
    (118, fun m u L st w => ∃ q2 q3 q4 q5 q6 q7 q8 q9 q10 q11 q13 q14 q15 q16 : Nat, m = 14 ∧ u = 113 ∧ L = [(0, .inr (x, a))] ∧ st = [] ∧ w = [(a, .inr (7, [.int 0, .int 0, .ref q2, .ref q3, .ref q4, .ref q5, .ref q6, .ref q7, .ref q8, .ref q9, .ref q10, .ref q11, .int 0, .ref q13, .ref q14, .ref q15, .ref q16, .null, .null, .null, .null, .int 0, .null, .null, .null, .null, .null, .null, .null, .null, .int 0, .null, .int 0])), (q2, .inl (g.2.1 0, (24, .inl (fun _ => 0)))), (q3, .inl (g.2.1 0, (24, .inl (fun _ => 0)))), (q4, .inl (g.2.1 0, (24, .inl (fun _ => 0)))), (q5, .inl (g.2.1 1, (24, .inl (fun _ => 0)))), (q6, .inl (g.2.1 1, (24, .inl (fun _ => 0)))), (q7, .inl (g.2.1 1, (24, .inl (fun _ => 0)))), (q8, .inl (g.2.1 0, (576, .inl (fun _ => 0)))), (q9, .inl (g.2.1 1, (1728, .inl (fun _ => 0)))), (q10, .inl (g.2.1 0, (48, .inl (fun _ => 0)))), (q11, .inl (g.2.1 1, (8, .inl (fun _ => 0)))), (q13, .inl (g.2.1 0, (30, .inl (fun _ => 0)))), (q14, .inl (g.2.1 0, (30, .inl (fun _ => 0)))), (q15, .inl (g.2.1 0, (30, .inl (fun _ => 0)))), (q16, .inl (g.2.1 0, (30, .inl (fun _ => 0))))]),
    (126, fun m u L st w => ∃ q2 q3 q4 q5 q6 q7 q8 q9 q10 q11 q13 q14 q15 q16 q17 : Nat, m = 13 ∧ u = 115 ∧ L = [(0, .inr (x, a))] ∧ st = [] ∧ w = [(a, .inr (7, [.int 0, .int 0, .ref q2, .ref q3, .ref q4, .ref q5, .ref q6, .ref q7, .ref q8, .ref q9, .ref q10, .ref q11, .int 0, .ref q13, .ref q14, .ref q15, .ref q16, .ref q17, .null, .null, .null, .int 0, .null, .null, .null, .null, .null, .null, .null, .null, .int 0, .null, .int 0])), (q2, .inl (g.2.1 0, (24, .inl (fun _ => 0)))), (q3, .inl (g.2.1 0, (24, .inl (fun _ => 0)))), (q4, .inl (g.2.1 0, (24, .inl (fun _ => 0)))), (q5, .inl (g.2.1 1, (24, .inl (fun _ => 0)))), (q6, .inl (g.2.1 1, (24, .inl (fun _ => 0)))), (q7, .inl (g.2.1 1, (24, .inl (fun _ => 0)))), (q8, .inl (g.2.1 0, (576, .inl (fun _ => 0)))), (q9, .inl (g.2.1 1, (1728, .inl (fun _ => 0)))), (q10, .inl (g.2.1 0, (48, .inl (fun _ => 0)))), (q11, .inl (g.2.1 1, (8, .inl (fun _ => 0)))), (q13, .inl (g.2.1 0, (30, .inl (fun _ => 0)))), (q14, .inl (g.2.1 0, (30, .inl (fun _ => 0)))), (q15, .inl (g.2.1 0, (30, .inl (fun _ => 0)))), (q16, .inl (g.2.1 0, (30, .inl (fun _ => 0)))), (q17, .inl (g.2.1 1, (30, .inl (fun _ => 0))))]),
    (134, fun m u L st w => ∃ q2 q3 q4 q5 q6 q7 q8 q9 q10 q11 q13 q14 q15 q16 q17 q18 : Nat, m = 12 ∧ u = 117 ∧ L = [(0, .inr (x, a))] ∧ st = [] ∧ w = [(a, .inr (7, [.int 0, .int 0, .ref q2, .ref q3, .ref q4, .ref q5, .ref q6, .ref q7, .ref q8, .ref q9, .ref q10, .ref q11, .int 0, .ref q13, .ref q14, .ref q15, .ref q16, .ref q17, .ref q18, .null, .null, .int 0, .null, .null, .null, .null, .null, .null, .null, .null, .int 0, .null, .int 0])), (q2, .inl (g.2.1 0, (24, .inl (fun _ => 0)))), (q3, .inl (g.2.1 0, (24, .inl (fun _ => 0)))), (q4, .inl (g.2.1 0, (24, .inl (fun _ => 0)))), (q5, .inl (g.2.1 1, (24, .inl (fun _ => 0)))), (q6, .inl (g.2.1 1, (24, .inl (fun _ => 0)))), (q7, .inl (g.2.1 1, (24, .inl (fun _ => 0)))), (q8, .inl (g.2.1 0, (576, .inl (fun _ => 0)))), (q9, .inl (g.2.1 1, (1728, .inl (fun _ => 0)))), (q10, .inl (g.2.1 0, (48, .inl (fun _ => 0)))), (q11, .inl (g.2.1 1, (8, .inl (fun _ => 0)))), (q13, .inl (g.2.1 0, (30, .inl (fun _ => 0)))), (q14, .inl (g.2.1 0, (30, .inl (fun _ => 0)))), (q15, .inl (g.2.1 0, (30, .inl (fun _ => 0)))), (q16, .inl (g.2.1 0, (30, .inl (fun _ => 0)))), (q17, .inl (g.2.1 1, (30, .inl (fun _ => 0)))), (q18, .inl (g.2.1 0, (30, .inl (fun _ => 0))))]),
    (142, fun m u L st w => ∃ q2 q3 q4 q5 q6 q7 q8 q9 q10 q11 q13 q14 q15 q16 q17 q18 q19 : Nat, m = 11 ∧ u = 119 ∧ L = [(0, .inr (x, a))] ∧ st = [] ∧ w = [(a, .inr (7, [.int 0, .int 0, .ref q2, .ref q3, .ref q4, .ref q5, .ref q6, .ref q7, .ref q8, .ref q9, .ref q10, .ref q11, .int 0, .ref q13, .ref q14, .ref q15, .ref q16, .ref q17, .ref q18, .ref q19, .null, .int 0, .null, .null, .null, .null, .null, .null, .null, .null, .int 0, .null, .int 0])), (q2, .inl (g.2.1 0, (24, .inl (fun _ => 0)))), (q3, .inl (g.2.1 0, (24, .inl (fun _ => 0)))), (q4, .inl (g.2.1 0, (24, .inl (fun _ => 0)))), (q5, .inl (g.2.1 1, (24, .inl (fun _ => 0)))), (q6, .inl (g.2.1 1, (24, .inl (fun _ => 0)))), (q7, .inl (g.2.1 1, (24, .inl (fun _ => 0)))), (q8, .inl (g.2.1 0, (576, .inl (fun _ => 0)))), (q9, .inl (g.2.1 1, (1728, .inl (fun _ => 0)))), (q10, .inl (g.2.1 0, (48, .inl (fun _ => 0)))), (q11, .inl (g.2.1 1, (8, .inl (fun _ => 0)))), (q13, .inl (g.2.1 0, (30, .inl (fun _ => 0)))), (q14, .inl (g.2.1 0, (30, .inl (fun _ => 0)))), (q15, .inl (g.2.1 0, (30, .inl (fun _ => 0)))), (q16, .inl (g.2.1 0, (30, .inl (fun _ => 0)))), (q17, .inl (g.2.1 1, (30, .inl (fun _ => 0)))), (q18, .inl (g.2.1 0, (30, .inl (fun _ => 0)))), (q19, .inl (g.2.1 0, (30, .inl (fun _ => 0))))]),
    (150, fun m u L st w => ∃ q2 q3 q4 q5 q6 q7 q8 q9 q10 q11 q13 q14 q15 q16 q17 q18 q19 q20 : Nat, m = 10 ∧ u = 121 ∧ L = [(0, .inr (x, a))] ∧ st = [] ∧ w = [(a, .inr (7, [.int 0, .int 0, .ref q2, .ref q3, .ref q4, .ref q5, .ref q6, .ref q7, .ref q8, .ref q9, .ref q10, .ref q11, .int 0, .ref q13, .ref q14, .ref q15, .ref q16, .ref q17, .ref q18, .ref q19, .ref q20, .int 0, .null, .null, .null, .null, .null, .null, .null, .null, .int 0, .null, .int 0])), (q2, .inl (g.2.1 0, (24, .inl (fun _ => 0)))), (q3, .inl (g.2.1 0, (24, .inl (fun _ => 0)))), (q4, .inl (g.2.1 0, (24, .inl (fun _ => 0)))), (q5, .inl (g.2.1 1, (24, .inl (fun _ => 0)))), (q6, .inl (g.2.1 1, (24, .inl (fun _ => 0)))), (q7, .inl (g.2.1 1, (24, .inl (fun _ => 0)))), (q8, .inl (g.2.1 0, (576, .inl (fun _ => 0)))), (q9, .inl (g.2.1 1, (1728, .inl (fun _ => 0)))), (q10, .inl (g.2.1 0, (48, .inl (fun _ => 0)))), (q11, .inl (g.2.1 1, (8, .inl (fun _ => 0)))), (q13, .inl (g.2.1 0, (30, .inl (fun _ => 0)))), (q14, .inl (g.2.1 0, (30, .inl (fun _ => 0)))), (q15, .inl (g.2.1 0, (30, .inl (fun _ => 0)))), (q16, .inl (g.2.1 0, (30, .inl (fun _ => 0)))), (q17, .inl (g.2.1 1, (30, .inl (fun _ => 0)))), (q18, .inl (g.2.1 0, (30, .inl (fun _ => 0)))), (q19, .inl (g.2.1 0, (30, .inl (fun _ => 0)))), (q20, .inl (g.2.1 0, (30, .inl (fun _ => 0))))]),
    (158, fun m u L st w => ∃ q2 q3 q4 q5 q6 q7 q8 q9 q10 q11 q13 q14 q15 q16 q17 q18 q19 q20 q22 : Nat, m = 9 ∧ u = 123 ∧ L = [(0, .inr (x, a))] ∧ st = [] ∧ w = [(a, .inr (7, [.int 0, .int 0, .ref q2, .ref q3, .ref q4, .ref q5, .ref q6, .ref q7, .ref q8, .ref q9, .ref q10, .ref q11, .int 0, .ref q13, .ref q14, .ref q15, .ref q16, .ref q17, .ref q18, .ref q19, .ref q20, .int 0, .ref q22, .null, .null, .null, .null, .null, .null, .null, .int 0, .null, .int 0])), (q2, .inl (g.2.1 0, (24, .inl (fun _ => 0)))), (q3, .inl (g.2.1 0, (24, .inl (fun _ => 0)))), (q4, .inl (g.2.1 0, (24, .inl (fun _ => 0)))), (q5, .inl (g.2.1 1, (24, .inl (fun _ => 0)))), (q6, .inl (g.2.1 1, (24, .inl (fun _ => 0)))), (q7, .inl (g.2.1 1, (24, .inl (fun _ => 0)))), (q8, .inl (g.2.1 0, (576, .inl (fun _ => 0)))), (q9, .inl (g.2.1 1, (1728, .inl (fun _ => 0)))), (q10, .inl (g.2.1 0, (48, .inl (fun _ => 0)))), (q11, .inl (g.2.1 1, (8, .inl (fun _ => 0)))), (q13, .inl (g.2.1 0, (30, .inl (fun _ => 0)))), (q14, .inl (g.2.1 0, (30, .inl (fun _ => 0)))), (q15, .inl (g.2.1 0, (30, .inl (fun _ => 0)))), (q16, .inl (g.2.1 0, (30, .inl (fun _ => 0)))), (q17, .inl (g.2.1 1, (30, .inl (fun _ => 0)))), (q18, .inl (g.2.1 0, (30, .inl (fun _ => 0)))), (q19, .inl (g.2.1 0, (30, .inl (fun _ => 0)))), (q20, .inl (g.2.1 0, (30, .inl (fun _ => 0)))), (q22, .inl (g.2.1 0, (30, .inl (fun _ => 0))))]),
    (166, fun m u L st w => ∃ q2 q3 q4 q5 q6 q7 q8 q9 q10 q11 q13 q14 q15 q16 q17 q18 q19 q20 q22 q23 : Nat, m = 8 ∧ u = 125 ∧ L = [(0, .inr (x, a))] ∧ st = [] ∧ w = [(a, .inr (7, [.int 0, .int 0, .ref q2, .ref q3, .ref q4, .ref q5, .ref q6, .ref q7, .ref q8, .ref q9, .ref q10, .ref q11, .int 0, .ref q13, .ref q14, .ref q15, .ref q16, .ref q17, .ref q18, .ref q19, .ref q20, .int 0, .ref q22, .ref q23, .null, .null, .null, .null, .null, .null, .int 0, .null, .int 0])), (q2, .inl (g.2.1 0, (24, .inl (fun _ => 0)))), (q3, .inl (g.2.1 0, (24, .inl (fun _ => 0)))), (q4, .inl (g.2.1 0, (24, .inl (fun _ => 0)))), (q5, .inl (g.2.1 1, (24, .inl (fun _ => 0)))), (q6, .inl (g.2.1 1, (24, .inl (fun _ => 0)))), (q7, .inl (g.2.1 1, (24, .inl (fun _ => 0)))), (q8, .inl (g.2.1 0, (576, .inl (fun _ => 0)))), (q9, .inl (g.2.1 1, (1728, .inl (fun _ => 0)))), (q10, .inl (g.2.1 0, (48, .inl (fun _ => 0)))), (q11, .inl (g.2.1 1, (8, .inl (fun _ => 0)))), (q13, .inl (g.2.1 0, (30, .inl (fun _ => 0)))), (q14, .inl (g.2.1 0, (30, .inl (fun _ => 0)))), (q15, .inl (g.2.1 0, (30, .inl (fun _ => 0)))), (q16, .inl (g.2.1 0, (30, .inl (fun _ => 0)))), (q17, .inl (g.2.1 1, (30, .inl (fun _ => 0)))), (q18, .inl (g.2.1 0, (30, .inl (fun _ => 0)))), (q19, .inl (g.2.1 0, (30, .inl (fun _ => 0)))), (q20, .inl (g.2.1 0, (30, .inl (fun _ => 0)))), (q22, .inl (g.2.1 0, (30, .inl (fun _ => 0)))), (q23, .inl (g.2.1 0, (30, .inl (fun _ => 0))))]),
    (174, fun m u L st w => ∃ q2 q3 q4 q5 q6 q7 q8 q9 q10 q11 q13 q14 q15 q16 q17 q18 q19 q20 q22 q23 q24 : Nat, m = 7 ∧ u = 127 ∧ L = [(0, .inr (x, a))] ∧ st = [] ∧ w = [(a, .inr (7, [.int 0, .int 0, .ref q2, .ref q3, .ref q4, .ref q5, .ref q6, .ref q7, .ref q8, .ref q9, .ref q10, .ref q11, .int 0, .ref q13, .ref q14, .ref q15, .ref q16, .ref q17, .ref q18, .ref q19, .ref q20, .int 0, .ref q22, .ref q23, .ref q24, .null, .null, .null, .null, .null, .int 0, .null, .int 0])), (q2, .inl (g.2.1 0, (24, .inl (fun _ => 0)))), (q3, .inl (g.2.1 0, (24, .inl (fun _ => 0)))), (q4, .inl (g.2.1 0, (24, .inl (fun _ => 0)))), (q5, .inl (g.2.1 1, (24, .inl (fun _ => 0)))), (q6, .inl (g.2.1 1, (24, .inl (fun _ => 0)))), (q7, .inl (g.2.1 1, (24, .inl (fun _ => 0)))), (q8, .inl (g.2.1 0, (576, .inl (fun _ => 0)))), (q9, .inl (g.2.1 1, (1728, .inl (fun _ => 0)))), (q10, .inl (g.2.1 0, (48, .inl (fun _ => 0)))), (q11, .inl (g.2.1 1, (8, .inl (fun _ => 0)))), (q13, .inl (g.2.1 0, (30, .inl (fun _ => 0)))), (q14, .inl (g.2.1 0, (30, .inl (fun _ => 0)))), (q15, .inl (g.2.1 0, (30, .inl (fun _ => 0)))), (q16, .inl (g.2.1 0, (30, .inl (fun _ => 0)))), (q17, .inl (g.2.1 1, (30, .inl (fun _ => 0)))), (q18, .inl (g.2.1 0, (30, .inl (fun _ => 0)))), (q19, .inl (g.2.1 0, (30, .inl (fun _ => 0)))), (q20, .inl (g.2.1 0, (30, .inl (fun _ => 0)))), (q22, .inl (g.2.1 0, (30, .inl (fun _ => 0)))), (q23, .inl (g.2.1 0, (30, .inl (fun _ => 0)))), (q24, .inl (g.2.1 0, (30, .inl (fun _ => 0))))]),
    (182, fun m u L st w => ∃ q2 q3 q4 q5 q6 q7 q8 q9 q10 q11 q13 q14 q15 q16 q17 q18 q19 q20 q22 q23 q24 q25 : Nat, m = 6 ∧ u = 129 ∧ L = [(0, .inr (x, a))] ∧ st = [] ∧ w = [(a, .inr (7, [.int 0, .int 0, .ref q2, .ref q3, .ref q4, .ref q5, .ref q6, .ref q7, .ref q8, .ref q9, .ref q10, .ref q11, .int 0, .ref q13, .ref q14, .ref q15, .ref q16, .ref q17, .ref q18, .ref q19, .ref q20, .int 0, .ref q22, .ref q23, .ref q24, .ref q25, .null, .null, .null, .null, .int 0, .null, .int 0])), (q2, .inl (g.2.1 0, (24, .inl (fun _ => 0)))), (q3, .inl (g.2.1 0, (24, .inl (fun _ => 0)))), (q4, .inl (g.2.1 0, (24, .inl (fun _ => 0)))), (q5, .inl (g.2.1 1, (24, .inl (fun _ => 0)))), (q6, .inl (g.2.1 1, (24, .inl (fun _ => 0)))), (q7, .inl (g.2.1 1, (24, .inl (fun _ => 0)))), (q8, .inl (g.2.1 0, (576, .inl (fun _ => 0)))), (q9, .inl (g.2.1 1, (1728, .inl (fun _ => 0)))), (q10, .inl (g.2.1 0, (48, .inl (fun _ => 0)))), (q11, .inl (g.2.1 1, (8, .inl (fun _ => 0)))), (q13, .inl (g.2.1 0, (30, .inl (fun _ => 0)))), (q14, .inl (g.2.1 0, (30, .inl (fun _ => 0)))), (q15, .inl (g.2.1 0, (30, .inl (fun _ => 0)))), (q16, .inl (g.2.1 0, (30, .inl (fun _ => 0)))), (q17, .inl (g.2.1 1, (30, .inl (fun _ => 0)))), (q18, .inl (g.2.1 0, (30, .inl (fun _ => 0)))), (q19, .inl (g.2.1 0, (30, .inl (fun _ => 0)))), (q20, .inl (g.2.1 0, (30, .inl (fun _ => 0)))), (q22, .inl (g.2.1 0, (30, .inl (fun _ => 0)))), (q23, .inl (g.2.1 0, (30, .inl (fun _ => 0)))), (q24, .inl (g.2.1 0, (30, .inl (fun _ => 0)))), (q25, .inl (g.2.1 0, (30, .inl (fun _ => 0))))]),
    (191, fun m u L st w => ∃ q2 q3 q4 q5 q6 q7 q8 q9 q10 q11 q13 q14 q15 q16 q17 q18 q19 q20 q22 q23 q24 q25 q26 : Nat, m = 5 ∧ u = 138 ∧ L = [(0, .inr (x, a))] ∧ st = [] ∧ w = [(a, .inr (7, [.int 0, .int 0, .ref q2, .ref q3, .ref q4, .ref q5, .ref q6, .ref q7, .ref q8, .ref q9, .ref q10, .ref q11, .int 0, .ref q13, .ref q14, .ref q15, .ref q16, .ref q17, .ref q18, .ref q19, .ref q20, .int 0, .ref q22, .ref q23, .ref q24, .ref q25, .ref q26, .null, .null, .null, .int 0, .null, .int 0])), (q2, .inl (g.2.1 0, (24, .inl (fun _ => 0)))), (q3, .inl (g.2.1 0, (24, .inl (fun _ => 0)))), (q4, .inl (g.2.1 0, (24, .inl (fun _ => 0)))), (q5, .inl (g.2.1 1, (24, .inl (fun _ => 0)))), (q6, .inl (g.2.1 1, (24, .inl (fun _ => 0)))), (q7, .inl (g.2.1 1, (24, .inl (fun _ => 0)))), (q8, .inl (g.2.1 0, (576, .inl (fun _ => 0)))), (q9, .inl (g.2.1 1, (1728, .inl (fun _ => 0)))), (q10, .inl (g.2.1 0, (48, .inl (fun _ => 0)))), (q11, .inl (g.2.1 1, (8, .inl (fun _ => 0)))), (q13, .inl (g.2.1 0, (30, .inl (fun _ => 0)))), (q14, .inl (g.2.1 0, (30, .inl (fun _ => 0)))), (q15, .inl (g.2.1 0, (30, .inl (fun _ => 0)))), (q16, .inl (g.2.1 0, (30, .inl (fun _ => 0)))), (q17, .inl (g.2.1 1, (30, .inl (fun _ => 0)))), (q18, .inl (g.2.1 0, (30, .inl (fun _ => 0)))), (q19, .inl (g.2.1 0, (30, .inl (fun _ => 0)))), (q20, .inl (g.2.1 0, (30, .inl (fun _ => 0)))), (q22, .inl (g.2.1 0, (30, .inl (fun _ => 0)))), (q23, .inl (g.2.1 0, (30, .inl (fun _ => 0)))), (q24, .inl (g.2.1 0, (30, .inl (fun _ => 0)))), (q25, .inl (g.2.1 0, (30, .inl (fun _ => 0)))), (q26, .inl (g.2.1 0, (210, .inl (fun _ => 0))))]),
    (199, fun m u L st w => ∃ q2 q3 q4 q5 q6 q7 q8 q9 q10 q11 q13 q14 q15 q16 q17 q18 q19 q20 q22 q23 q24 q25 q26 q27 : Nat, m = 4 ∧ u = 140 ∧ L = [(0, .inr (x, a))] ∧ st = [] ∧ w = [(a, .inr (7, [.int 0, .int 0, .ref q2, .ref q3, .ref q4, .ref q5, .ref q6, .ref q7, .ref q8, .ref q9, .ref q10, .ref q11, .int 0, .ref q13, .ref q14, .ref q15, .ref q16, .ref q17, .ref q18, .ref q19, .ref q20, .int 0, .ref q22, .ref q23, .ref q24, .ref q25, .ref q26, .ref q27, .null, .null, .int 0, .null, .int 0])), (q2, .inl (g.2.1 0, (24, .inl (fun _ => 0)))), (q3, .inl (g.2.1 0, (24, .inl (fun _ => 0)))), (q4, .inl (g.2.1 0, (24, .inl (fun _ => 0)))), (q5, .inl (g.2.1 1, (24, .inl (fun _ => 0)))), (q6, .inl (g.2.1 1, (24, .inl (fun _ => 0)))), (q7, .inl (g.2.1 1, (24, .inl (fun _ => 0)))), (q8, .inl (g.2.1 0, (576, .inl (fun _ => 0)))), (q9, .inl (g.2.1 1, (1728, .inl (fun _ => 0)))), (q10, .inl (g.2.1 0, (48, .inl (fun _ => 0)))), (q11, .inl (g.2.1 1, (8, .inl (fun _ => 0)))), (q13, .inl (g.2.1 0, (30, .inl (fun _ => 0)))), (q14, .inl (g.2.1 0, (30, .inl (fun _ => 0)))), (q15, .inl (g.2.1 0, (30, .inl (fun _ => 0)))), (q16, .inl (g.2.1 0, (30, .inl (fun _ => 0)))), (q17, .inl (g.2.1 1, (30, .inl (fun _ => 0)))), (q18, .inl (g.2.1 0, (30, .inl (fun _ => 0)))), (q19, .inl (g.2.1 0, (30, .inl (fun _ => 0)))), (q20, .inl (g.2.1 0, (30, .inl (fun _ => 0)))), (q22, .inl (g.2.1 0, (30, .inl (fun _ => 0)))), (q23, .inl (g.2.1 0, (30, .inl (fun _ => 0)))), (q24, .inl (g.2.1 0, (30, .inl (fun _ => 0)))), (q25, .inl (g.2.1 0, (30, .inl (fun _ => 0)))), (q26, .inl (g.2.1 0, (210, .inl (fun _ => 0)))), (q27, .inl (g.2.1 0, (30, .inl (fun _ => 0))))]),
    (207, fun m u L st w => ∃ q2 q3 q4 q5 q6 q7 q8 q9 q10 q11 q13 q14 q15 q16 q17 q18 q19 q20 q22 q23 q24 q25 q26 q27 q28 : Nat, m = 3 ∧ u = 144 ∧ L = [(0, .inr (x, a))] ∧ st = [] ∧ w = [(a, .inr (7, [.int 0, .int 0, .ref q2, .ref q3, .ref q4, .ref q5, .ref q6, .ref q7, .ref q8, .ref q9, .ref q10, .ref q11, .int 0, .ref q13, .ref q14, .ref q15, .ref q16, .ref q17, .ref q18, .ref q19, .ref q20, .int 0, .ref q22, .ref q23, .ref q24, .ref q25, .ref q26, .ref q27, .ref q28, .null, .int 0, .null, .int 0])), (q2, .inl (g.2.1 0, (24, .inl (fun _ => 0)))), (q3, .inl (g.2.1 0, (24, .inl (fun _ => 0)))), (q4, .inl (g.2.1 0, (24, .inl (fun _ => 0)))), (q5, .inl (g.2.1 1, (24, .inl (fun _ => 0)))), (q6, .inl (g.2.1 1, (24, .inl (fun _ => 0)))), (q7, .inl (g.2.1 1, (24, .inl (fun _ => 0)))), (q8, .inl (g.2.1 0, (576, .inl (fun _ => 0)))), (q9, .inl (g.2.1 1, (1728, .inl (fun _ => 0)))), (q10, .inl (g.2.1 0, (48, .inl (fun _ => 0)))), (q11, .inl (g.2.1 1, (8, .inl (fun _ => 0)))), (q13, .inl (g.2.1 0, (30, .inl (fun _ => 0)))), (q14, .inl (g.2.1 0, (30, .inl (fun _ => 0)))), (q15, .inl (g.2.1 0, (30, .inl (fun _ => 0)))), (q16, .inl (g.2.1 0, (30, .inl (fun _ => 0)))), (q17, .inl (g.2.1 1, (30, .inl (fun _ => 0)))), (q18, .inl (g.2.1 0, (30, .inl (fun _ => 0)))), (q19, .inl (g.2.1 0, (30, .inl (fun _ => 0)))), (q20, .inl (g.2.1 0, (30, .inl (fun _ => 0)))), (q22, .inl (g.2.1 0, (30, .inl (fun _ => 0)))), (q23, .inl (g.2.1 0, (30, .inl (fun _ => 0)))), (q24, .inl (g.2.1 0, (30, .inl (fun _ => 0)))), (q25, .inl (g.2.1 0, (30, .inl (fun _ => 0)))), (q26, .inl (g.2.1 0, (210, .inl (fun _ => 0)))), (q27, .inl (g.2.1 0, (30, .inl (fun _ => 0)))), (q28, .inl (g.2.1 0, (90, .inl (fun _ => 0))))]),
    (215, fun m u L st w => ∃ q2 q3 q4 q5 q6 q7 q8 q9 q10 q11 q13 q14 q15 q16 q17 q18 q19 q20 q22 q23 q24 q25 q26 q27 q28 q29 : Nat, m = 2 ∧ u = 148 ∧ L = [(0, .inr (x, a))] ∧ st = [] ∧ w = [(a, .inr (7, [.int 0, .int 0, .ref q2, .ref q3, .ref q4, .ref q5, .ref q6, .ref q7, .ref q8, .ref q9, .ref q10, .ref q11, .int 0, .ref q13, .ref q14, .ref q15, .ref q16, .ref q17, .ref q18, .ref q19, .ref q20, .int 0, .ref q22, .ref q23, .ref q24, .ref q25, .ref q26, .ref q27, .ref q28, .ref q29, .int 0, .null, .int 0])), (q2, .inl (g.2.1 0, (24, .inl (fun _ => 0)))), (q3, .inl (g.2.1 0, (24, .inl (fun _ => 0)))), (q4, .inl (g.2.1 0, (24, .inl (fun _ => 0)))), (q5, .inl (g.2.1 1, (24, .inl (fun _ => 0)))), (q6, .inl (g.2.1 1, (24, .inl (fun _ => 0)))), (q7, .inl (g.2.1 1, (24, .inl (fun _ => 0)))), (q8, .inl (g.2.1 0, (576, .inl (fun _ => 0)))), (q9, .inl (g.2.1 1, (1728, .inl (fun _ => 0)))), (q10, .inl (g.2.1 0, (48, .inl (fun _ => 0)))), (q11, .inl (g.2.1 1, (8, .inl (fun _ => 0)))), (q13, .inl (g.2.1 0, (30, .inl (fun _ => 0)))), (q14, .inl (g.2.1 0, (30, .inl (fun _ => 0)))), (q15, .inl (g.2.1 0, (30, .inl (fun _ => 0)))), (q16, .inl (g.2.1 0, (30, .inl (fun _ => 0)))), (q17, .inl (g.2.1 1, (30, .inl (fun _ => 0)))), (q18, .inl (g.2.1 0, (30, .inl (fun _ => 0)))), (q19, .inl (g.2.1 0, (30, .inl (fun _ => 0)))), (q20, .inl (g.2.1 0, (30, .inl (fun _ => 0)))), (q22, .inl (g.2.1 0, (30, .inl (fun _ => 0)))), (q23, .inl (g.2.1 0, (30, .inl (fun _ => 0)))), (q24, .inl (g.2.1 0, (30, .inl (fun _ => 0)))), (q25, .inl (g.2.1 0, (30, .inl (fun _ => 0)))), (q26, .inl (g.2.1 0, (210, .inl (fun _ => 0)))), (q27, .inl (g.2.1 0, (30, .inl (fun _ => 0)))), (q28, .inl (g.2.1 0, (90, .inl (fun _ => 0)))), (q29, .inl (g.2.1 0, (90, .inl (fun _ => 0))))]),
    (223, fun m u L st w => ∃ q2 q3 q4 q5 q6 q7 q8 q9 q10 q11 q13 q14 q15 q16 q17 q18 q19 q20 q22 q23 q24 q25 q26 q27 q28 q29 q31 : Nat, m = 1 ∧ u = 150 ∧ L = [(0, .inr (x, a))] ∧ st = [] ∧ w = [(a, .inr (7, [.int 0, .int 0, .ref q2, .ref q3, .ref q4, .ref q5, .ref q6, .ref q7, .ref q8, .ref q9, .ref q10, .ref q11, .int 0, .ref q13, .ref q14, .ref q15, .ref q16, .ref q17, .ref q18, .ref q19, .ref q20, .int 0, .ref q22, .ref q23, .ref q24, .ref q25, .ref q26, .ref q27, .ref q28, .ref q29, .int 0, .ref q31, .int 0])), (q2, .inl (g.2.1 0, (24, .inl (fun _ => 0)))), (q3, .inl (g.2.1 0, (24, .inl (fun _ => 0)))), (q4, .inl (g.2.1 0, (24, .inl (fun _ => 0)))), (q5, .inl (g.2.1 1, (24, .inl (fun _ => 0)))), (q6, .inl (g.2.1 1, (24, .inl (fun _ => 0)))), (q7, .inl (g.2.1 1, (24, .inl (fun _ => 0)))), (q8, .inl (g.2.1 0, (576, .inl (fun _ => 0)))), (q9, .inl (g.2.1 1, (1728, .inl (fun _ => 0)))), (q10, .inl (g.2.1 0, (48, .inl (fun _ => 0)))), (q11, .inl (g.2.1 1, (8, .inl (fun _ => 0)))), (q13, .inl (g.2.1 0, (30, .inl (fun _ => 0)))), (q14, .inl (g.2.1 0, (30, .inl (fun _ => 0)))), (q15, .inl (g.2.1 0, (30, .inl (fun _ => 0)))), (q16, .inl (g.2.1 0, (30, .inl (fun _ => 0)))), (q17, .inl (g.2.1 1, (30, .inl (fun _ => 0)))), (q18, .inl (g.2.1 0, (30, .inl (fun _ => 0)))), (q19, .inl (g.2.1 0, (30, .inl (fun _ => 0)))), (q20, .inl (g.2.1 0, (30, .inl (fun _ => 0)))), (q22, .inl (g.2.1 0, (30, .inl (fun _ => 0)))), (q23, .inl (g.2.1 0, (30, .inl (fun _ => 0)))), (q24, .inl (g.2.1 0, (30, .inl (fun _ => 0)))), (q25, .inl (g.2.1 0, (30, .inl (fun _ => 0)))), (q26, .inl (g.2.1 0, (210, .inl (fun _ => 0)))), (q27, .inl (g.2.1 0, (30, .inl (fun _ => 0)))), (q28, .inl (g.2.1 0, (90, .inl (fun _ => 0)))), (q29, .inl (g.2.1 0, (90, .inl (fun _ => 0)))), (q31, .inl (g.2.1 0, (30, .inl (fun _ => 0))))])], ⟨by decide, 28, 1, trivial, rfl, rfl, rfl, rfl, rfl⟩, ac ?_ (ac ?_ (ac ?_ (ac ?_ (ac ?_ (ac ?_ (ac ?_ (ac ?_ (ac ?_ (ac ?_ (ac ?_ (ac ?_ (ac ?_ (ac ?_ (ac ?_ (ac ?_ (ac ?_ (ac ?_ (ac ?_ (ac ?_ (ac ?_ (ac ?_ (ac ?_ (ac ?_ (ac ?_ (ac ?_ (ac ?_ (ac ?_ (an))))))))))))))))))))))))))))⟩
  · rintro m u L st w1 ⟨rfl, rfl, rfl, rfl, rfl⟩
    exact ⟨by decide, rfl, by decide, fun z => ⟨rfl, rfl, 0, _, rfl, Nat.le_of_ble_eq_true rfl, 27, 1, by decide, z, rfl, rfl, rfl, rfl, rfl⟩⟩
  · rintro m u L st w1 ⟨q2, rfl, rfl, rfl, rfl, rfl⟩
    exact ⟨by decide, rfl, by decide, fun z => ⟨rfl, rfl, 0, _, rfl, Nat.le_of_ble_eq_true rfl, 26, 1, by decide, q2, z, rfl, rfl, rfl, rfl, rfl⟩⟩
  · rintro m u L st w1 ⟨q2, q3, rfl, rfl, rfl, rfl, rfl⟩
    exact ⟨by decide, rfl, by decide, fun z => ⟨rfl, rfl, 0, _, rfl, Nat.le_of_ble_eq_true rfl, 25, 1, by decide, q2, q3, z, rfl, rfl, rfl, rfl, rfl⟩⟩
  · rintro m u L st w1 ⟨q2, q3, q4, rfl, rfl, rfl, rfl, rfl⟩
    exact ⟨by decide, rfl, by decide, fun z => ⟨rfl, rfl, 0, _, rfl, Nat.le_of_ble_eq_true rfl, 24, 1, by decide, q2, q3, q4, z, rfl, rfl, rfl, rfl, rfl⟩⟩
  · rintro m u L st w1 ⟨q2, q3, q4, q5, rfl, rfl, rfl, rfl, rfl⟩
    exact ⟨by decide, rfl, by decide, fun z => ⟨rfl, rfl, 0, _, rfl, Nat.le_of_ble_eq_true rfl, 23, 1, by decide, q2, q3, q4, q5, z, rfl, rfl, rfl, rfl, rfl⟩⟩
  · rintro m u L st w1 ⟨q2, q3, q4, q5, q6, rfl, rfl, rfl, rfl, rfl⟩
    exact ⟨by decide, rfl, by decide, fun z => ⟨rfl, rfl, 0, _, rfl, Nat.le_of_ble_eq_true rfl, 22, 1, by decide, q2, q3, q4, q5, q6, z, rfl, rfl, rfl, rfl, rfl⟩⟩
  · rintro m u L st w1 ⟨q2, q3, q4, q5, q6, q7, rfl, rfl, rfl, rfl, rfl⟩
    exact ⟨by decide, rfl, by decide, fun z => ⟨rfl, rfl, 0, _, rfl, Nat.le_of_ble_eq_true rfl, 21, 1, by decide, q2, q3, q4, q5, q6, q7, z, rfl, rfl, rfl, rfl, rfl⟩⟩
  · rintro m u L st w1 ⟨q2, q3, q4, q5, q6, q7, q8, rfl, rfl, rfl, rfl, rfl⟩
    exact ⟨by decide, rfl, by decide, fun z => ⟨rfl, rfl, 0, _, rfl, Nat.le_of_ble_eq_true rfl, 20, 1, by decide, q2, q3, q4, q5, q6, q7, q8, z, rfl, rfl, rfl, rfl, rfl⟩⟩
  · rintro m u L st w1 ⟨q2, q3, q4, q5, q6, q7, q8, q9, rfl, rfl, rfl, rfl, rfl⟩
    exact ⟨by decide, rfl, by decide, fun z => ⟨rfl, rfl, 0, _, rfl, Nat.le_of_ble_eq_true rfl, 19, 1, by decide, q2, q3, q4, q5, q6, q7, q8, q9, z, rfl, rfl, rfl, rfl, rfl⟩⟩
  · rintro m u L st w1 ⟨q2, q3, q4, q5, q6, q7, q8, q9, q10, rfl, rfl, rfl, rfl, rfl⟩
    exact ⟨by decide, rfl, by decide, fun z => ⟨rfl, rfl, 0, _, rfl, Nat.le_of_ble_eq_true rfl, 18, 1, by decide, q2, q3, q4, q5, q6, q7, q8, q9, q10, z, rfl, rfl, rfl, rfl, rfl⟩⟩
  · rintro m u L st w1 ⟨q2, q3, q4, q5, q6, q7, q8, q9, q10, q11, rfl, rfl, rfl, rfl, rfl⟩
    exact ⟨by decide, rfl, by decide, fun z => ⟨rfl, rfl, 0, _, rfl, Nat.le_of_ble_eq_true rfl, 17, 1, by decide, q2, q3, q4, q5, q6, q7, q8, q9, q10, q11, z, rfl, rfl, rfl, rfl, rfl⟩⟩
  · rintro m u L st w1 ⟨q2, q3, q4, q5, q6, q7, q8, q9, q10, q11, q13, rfl, rfl, rfl, rfl, rfl⟩
    exact ⟨by decide, rfl, by decide, fun z => ⟨rfl, rfl, 0, _, rfl, Nat.le_of_ble_eq_true rfl, 16, 1, by decide, q2, q3, q4, q5, q6, q7, q8, q9, q10, q11, q13, z, rfl, rfl, rfl, rfl, rfl⟩⟩
  · rintro m u L st w1 ⟨q2, q3, q4, q5, q6, q7, q8, q9, q10, q11, q13, q14, rfl, rfl, rfl, rfl, rfl⟩
    exact ⟨by decide, rfl, by decide, fun z => ⟨rfl, rfl, 0, _, rfl, Nat.le_of_ble_eq_true rfl, 15, 1, by decide, q2, q3, q4, q5, q6, q7, q8, q9, q10, q11, q13, q14, z, rfl, rfl, rfl, rfl, rfl⟩⟩
  · rintro m u L st w1 ⟨q2, q3, q4, q5, q6, q7, q8, q9, q10, q11, q13, q14, q15, rfl, rfl, rfl, rfl, rfl⟩
    exact ⟨by decide, rfl, by decide, fun z => ⟨rfl, rfl, 0, _, rfl, Nat.le_of_ble_eq_true rfl, 14, 1, by decide, q2, q3, q4, q5, q6, q7, q8, q9, q10, q11, q13, q14, q15, z, rfl, rfl, rfl, rfl, rfl⟩⟩
  · rintro m u L st w1 ⟨q2, q3, q4, q5, q6, q7, q8, q9, q10, q11, q13, q14, q15, q16, rfl, rfl, rfl, rfl, rfl⟩
    exact ⟨by decide, rfl, by decide, fun z => ⟨rfl, rfl, 0, _, rfl, Nat.le_of_ble_eq_true rfl, 13, 1, by decide, q2, q3, q4, q5, q6, q7, q8, q9, q10, q11, q13, q14, q15, q16, z, rfl, rfl, rfl, rfl, rfl⟩⟩
  · rintro m u L st w1 ⟨q2, q3, q4, q5, q6, q7, q8, q9, q10, q11, q13, q14, q15, q16, q17, rfl, rfl, rfl, rfl, rfl⟩
    exact ⟨by decide, rfl, by decide, fun z => ⟨rfl, rfl, 0, _, rfl, Nat.le_of_ble_eq_true rfl, 12, 1, by decide, q2, q3, q4, q5, q6, q7, q8, q9, q10, q11, q13, q14, q15, q16, q17, z, rfl, rfl, rfl, rfl, rfl⟩⟩
  · rintro m u L st w1 ⟨q2, q3, q4, q5, q6, q7, q8, q9, q10, q11, q13, q14, q15, q16, q17, q18, rfl, rfl, rfl, rfl, rfl⟩
    exact ⟨by decide, rfl, by decide, fun z => ⟨rfl, rfl, 0, _, rfl, Nat.le_of_ble_eq_true rfl, 11, 1, by decide, q2, q3, q4, q5, q6, q7, q8, q9, q10, q11, q13, q14, q15, q16, q17, q18, z, rfl, rfl, rfl, rfl, rfl⟩⟩
  · rintro m u L st w1 ⟨q2, q3, q4, q5, q6, q7, q8, q9, q10, q11, q13, q14, q15, q16, q17, q18, q19, rfl, rfl, rfl, rfl, rfl⟩
    exact ⟨by decide, rfl, by decide, fun z => ⟨rfl, rfl, 0, _, rfl, Nat.le_of_ble_eq_true rfl, 10, 1, by decide, q2, q3, q4, q5, q6, q7, q8, q9, q10, q11, q13, q14, q15, q16, q17, q18, q19, z, rfl, rfl, rfl, rfl, rfl⟩⟩
  · rintro m u L st w1 ⟨q2, q3, q4, q5, q6, q7, q8, q9, q10, q11, q13, q14, q15, q16, q17, q18, q19, q20, rfl, rfl, rfl, rfl, rfl⟩
    exact ⟨by decide, rfl, by decide, fun z => ⟨rfl, rfl, 0, _, rfl, Nat.le_of_ble_eq_true rfl, 9, 1, by decide, q2, q3, q4, q5, q6, q7, q8, q9, q10, q11, q13, q14, q15, q16, q17, q18, q19, q20, z, rfl, rfl, rfl, rfl, rfl⟩⟩
  · rintro m u L st w1 ⟨q2, q3, q4, q5, q6, q7, q8, q9, q10, q11, q13, q14, q15, q16, q17, q18, q19, q20, q22, rfl, rfl, rfl, rfl, rfl⟩
    exact ⟨by decide, rfl, by decide, fun z => ⟨rfl, rfl, 0, _, rfl, Nat.le_of_ble_eq_true rfl, 8, 1, by decide, q2, q3, q4, q5, q6, q7, q8, q9, q10, q11, q13, q14, q15, q16, q17, q18, q19, q20, q22, z, rfl, rfl, rfl, rfl, rfl⟩⟩
  · rintro m u L st w1 ⟨q2, q3, q4, q5, q6, q7, q8, q9, q10, q11, q13, q14, q15, q16, q17, q18, q19, q20, q22, q23, rfl, rfl, rfl, rfl, rfl⟩
    exact ⟨by decide, rfl, by decide, fun z => ⟨rfl, rfl, 0, _, rfl, Nat.le_of_ble_eq_true rfl, 7, 1, by decide, q2, q3, q4, q5, q6, q7, q8, q9, q10, q11, q13, q14, q15, q16, q17, q18, q19, q20, q22, q23, z, rfl, rfl, rfl, rfl, rfl⟩⟩
  · rintro m u L st w1 ⟨q2, q3, q4, q5, q6, q7, q8, q9, q10, q11, q13, q14, q15, q16, q17, q18, q19, q20, q22, q23, q24, rfl, rfl, rfl, rfl, rfl⟩
    exact ⟨by decide, rfl, by decide, fun z => ⟨rfl, rfl, 0, _, rfl, Nat.le_of_ble_eq_true rfl, 6, 1, by decide, q2, q3, q4, q5, q6, q7, q8, q9, q10, q11, q13, q14, q15, q16, q17, q18, q19, q20, q22, q23, q24, z, rfl, rfl, rfl, rfl, rfl⟩⟩
  · rintro m u L st w1 ⟨q2, q3, q4, q5, q6, q7, q8, q9, q10, q11, q13, q14, q15, q16, q17, q18, q19, q20, q22, q23, q24, q25, rfl, rfl, rfl, rfl, rfl⟩
    exact ⟨by decide, rfl, by decide, fun z => ⟨rfl, rfl, 0, _, rfl, Nat.le_of_ble_eq_true rfl, 5, 1, by decide, q2, q3, q4, q5, q6, q7, q8, q9, q10, q11, q13, q14, q15, q16, q17, q18, q19, q20, q22, q23, q24, q25, z, rfl, rfl, rfl, rfl, rfl⟩⟩
  · rintro m u L st w1 ⟨q2, q3, q4, q5, q6, q7, q8, q9, q10, q11, q13, q14, q15, q16, q17, q18, q19, q20, q22, q23, q24, q25, q26, rfl, rfl, rfl, rfl, rfl⟩
    exact ⟨by decide, rfl, by decide, fun z => ⟨rfl, rfl, 0, _, rfl, Nat.le_of_ble_eq_true rfl, 4, 1, by decide, q2, q3, q4, q5, q6, q7, q8, q9, q10, q11, q13, q14, q15, q16, q17, q18, q19, q20, q22, q23, q24, q25, q26, z, rfl, rfl, rfl, rfl, rfl⟩⟩
  · rintro m u L st w1 ⟨q2, q3, q4, q5, q6, q7, q8, q9, q10, q11, q13, q14, q15, q16, q17, q18, q19, q20, q22, q23, q24, q25, q26, q27, rfl, rfl, rfl, rfl, rfl⟩
    exact ⟨by decide, rfl, by decide, fun z => ⟨rfl, rfl, 0, _, rfl, Nat.le_of_ble_eq_true rfl, 3, 1, by decide, q2, q3, q4, q5, q6, q7, q8, q9, q10, q11, q13, q14, q15, q16, q17, q18, q19, q20, q22, q23, q24, q25, q26, q27, z, rfl, rfl, rfl, rfl, rfl⟩⟩
  · rintro m u L st w1 ⟨q2, q3, q4, q5, q6, q7, q8, q9, q10, q11, q13, q14, q15, q16, q17, q18, q19, q20, q22, q23, q24, q25, q26, q27, q28, rfl, rfl, rfl, rfl, rfl⟩
    exact ⟨by decide, rfl, by decide, fun z => ⟨rfl, rfl, 0, _, rfl, Nat.le_of_ble_eq_true rfl, 2, 1, by decide, q2, q3, q4, q5, q6, q7, q8, q9, q10, q11, q13, q14, q15, q16, q17, q18, q19, q20, q22, q23, q24, q25, q26, q27, q28, z, rfl, rfl, rfl, rfl, rfl⟩⟩
  · rintro m u L st w1 ⟨q2, q3, q4, q5, q6, q7, q8, q9, q10, q11, q13, q14, q15, q16, q17, q18, q19, q20, q22, q23, q24, q25, q26, q27, q28, q29, rfl, rfl, rfl, rfl, rfl⟩
    exact ⟨by decide, rfl, by decide, fun z => ⟨rfl, rfl, 0, _, rfl, Nat.le_of_ble_eq_true rfl, 1, 1, by decide, q2, q3, q4, q5, q6, q7, q8, q9, q10, q11, q13, q14, q15, q16, q17, q18, q19, q20, q22, q23, q24, q25, q26, q27, q28, q29, z, rfl, rfl, rfl, rfl, rfl⟩⟩
  · rintro m u L st w1 ⟨q2, q3, q4, q5, q6, q7, q8, q9, q10, q11, q13, q14, q15, q16, q17, q18, q19, q20, q22, q23, q24, q25, q26, q27, q28, q29, q31, rfl, rfl, rfl, rfl, rfl⟩
    exact ⟨by decide, h q2 q3 q4 q5 q6 q7 q8 q9 q10 q11 q13 q14 q15 q16 q17 q18 q19 q20 q22 q23 q24 q25 q26 q27 q28 q29 q31⟩

