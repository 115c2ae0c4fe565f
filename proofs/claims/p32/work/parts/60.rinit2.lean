/-! constructors over plain worlds: Cause, the model -/
theorem w_96 : (.arrayClass .int : Cond) ∈ TB := TB_mem (List.mem_of_getElem? (i := 96) (by decide +kernel)) rfl
theorem w_565 : (.methodLink "VowCourt$Cause" 3 ⟨"java/lang/Object", "<init>", "()V"⟩ : Cond) ∈ TB := TB_mem (List.mem_of_getElem? (i := 565) (by decide +kernel)) rfl
theorem w_567 : (.fieldLink "VowCourt$Cause" 28 "VowCourt$Cause" "vowNumber" "I" : Cond) ∈ TB := TB_mem (List.mem_of_getElem? (i := 567) (by decide +kernel)) rfl
theorem dX0_init_0 : decode cX0_init 0 = .ok (.aload_n 0, 1) := by decide +kernel
theorem dX0_init_1 : decode cX0_init 1 = .ok (.invokespecial 3, 3) := by decide +kernel
theorem dX0_init_4 : decode cX0_init 4 = .ok (.aload_n 0, 1) := by decide +kernel
theorem dX0_init_5 : decode cX0_init 5 = .ok (.iconst 0, 1) := by decide +kernel
theorem dX0_init_6 : decode cX0_init 6 = .ok (.putfield 9, 3) := by decide +kernel
theorem dX0_init_9 : decode cX0_init 9 = .ok (.aload_n 0, 1) := by decide +kernel
theorem dX0_init_10 : decode cX0_init 10 = .ok (.iconst 1, 1) := by decide +kernel
theorem dX0_init_11 : decode cX0_init 11 = .ok (.putfield 15, 3) := by decide +kernel
theorem dX0_init_14 : decode cX0_init 14 = .ok (.aload_n 0, 1) := by decide +kernel
theorem dX0_init_15 : decode cX0_init 15 = .ok (.bipush 7, 2) := by decide +kernel
theorem dX0_init_17 : decode cX0_init 17 = .ok (.newarray .int, 2) := by decide +kernel
theorem dX0_init_19 : decode cX0_init 19 = .ok (.putfield 18, 3) := by decide +kernel
theorem dX0_init_22 : decode cX0_init 22 = .ok (.aload_n 0, 1) := by decide +kernel
theorem dX0_init_23 : decode cX0_init 23 = .ok (.iconst 3, 1) := by decide +kernel
theorem dX0_init_24 : decode cX0_init 24 = .ok (.newarray .int, 2) := by decide +kernel
theorem dX0_init_26 : decode cX0_init 26 = .ok (.putfield 22, 3) := by decide +kernel
theorem dX0_init_29 : decode cX0_init 29 = .ok (.aload_n 0, 1) := by decide +kernel
theorem dX0_init_30 : decode cX0_init 30 = .ok (.iconst 3, 1) := by decide +kernel
theorem dX0_init_31 : decode cX0_init 31 = .ok (.newarray .int, 2) := by decide +kernel
theorem dX0_init_33 : decode cX0_init 33 = .ok (.putfield 25, 3) := by decide +kernel
theorem dX0_init_36 : decode cX0_init 36 = .ok (.aload_n 0, 1) := by decide +kernel
theorem dX0_init_37 : decode cX0_init 37 = .ok (.iload_n 1, 1) := by decide +kernel
theorem dX0_init_38 : decode cX0_init 38 = .ok (.putfield 28, 3) := by decide +kernel
theorem dX0_init_41 : decode cX0_init 41 = .ok (.aload_n 0, 1) := by decide +kernel
theorem dX0_init_42 : decode cX0_init 42 = .ok (.iload_n 2, 1) := by decide +kernel
theorem dX0_init_43 : decode cX0_init 43 = .ok (.putfield 31, 3) := by decide +kernel
theorem dX0_init_46 : decode cX0_init 46 = .ok (.aload_n 0, 1) := by decide +kernel
theorem dX0_init_47 : decode cX0_init 47 = .ok (.getfield 22, 3) := by decide +kernel
theorem dX0_init_50 : decode cX0_init 50 = .ok (.iconst (-1), 1) := by decide +kernel
theorem dX0_init_51 : decode cX0_init 51 = .ok (.invokestatic 34, 3) := by decide +kernel
theorem dX0_init_54 : decode cX0_init 54 = .ok (.aload_n 0, 1) := by decide +kernel
theorem dX0_init_55 : decode cX0_init 55 = .ok (.getfield 25, 3) := by decide +kernel
theorem dX0_init_58 : decode cX0_init 58 = .ok (.iconst (-1), 1) := by decide +kernel
theorem dX0_init_59 : decode cX0_init 59 = .ok (.invokestatic 34, 3) := by decide +kernel
theorem dX0_init_62 : decode cX0_init 62 = .ok (.return_, 1) := by decide +kernel
def tabR_X0_init : List (Nat × RSem) := [(0, rp_al 0 1), (1, rp_oinit 4), (4, rp_al 0 5), (5, rp_ic 0 6), (6, rp_pf 2 2 .int 9), (9, rp_al 0 10), (10, rp_ic 1 11), (11, rp_pf 2 3 .int 14), (14, rp_al 0 15), (15, rp_ic 7 17), (17, rp_newa 0 7 1 19), (19, rp_pf 2 4 (.array .int) 22), (22, rp_al 0 23), (23, rp_ic 3 24), (24, rp_newa 0 3 1 26), (26, rp_pf 2 5 (.array .int) 29), (29, rp_al 0 30), (30, rp_ic 3 31), (31, rp_newa 0 3 1 33), (33, rp_pf 2 6 (.array .int) 36), (36, rp_al 0 37), (37, rp_il 1 38), (38, rp_pf 2 0 .int 41), (41, rp_al 0 42), (42, rp_il 2 43), (43, rp_pf 2 1 .int 46), (46, rp_al 0 47), (47, rp_gf 2 5 50), (50, rp_ic (-1) 51), (51, rp_call rs_J7_fill_53178 2 0 54), (54, rp_al 0 55), (55, rp_gf 2 6 58), (58, rp_ic (-1) 59), (59, rp_call rs_J7_fill_53178 2 0 62), (62, rp_vret)]
set_option maxRecDepth 20000 in
theorem tokR_X0_init : ∀ q ∈ tabR_X0_init, RSnd true RX0 cX0_init 3 1 3 none q.1 q.2 := by
  unfold tabR_X0_init
  refine rcons (rk_aload_n dX0_init_0 rfl rfl) ?_
  refine rcons (rk_oinit w_565 (by decide) dX0_init_1 rfl) ?_
  refine rcons (rk_aload_n dX0_init_4 rfl rfl) ?_
  refine rcons (rk_iconst dX0_init_5 rfl rfl) ?_
  refine rcons (rk_putfield (C := RX0) (T := TX0) (n := 7) tyX0 .int rfl in_X0 tyX0_ok nmX0 (by decide) rfl w_571 rfl dX0_init_6 rfl) ?_
  refine rcons (rk_aload_n dX0_init_9 rfl rfl) ?_
  refine rcons (rk_iconst dX0_init_10 rfl rfl) ?_
  refine rcons (rk_putfield (C := RX0) (T := TX0) (n := 7) tyX0 .int rfl in_X0 tyX0_ok nmX0 (by decide) rfl w_573 rfl dX0_init_11 rfl) ?_
  refine rcons (rk_aload_n dX0_init_14 rfl rfl) ?_
  refine rcons (rk_bipush dX0_init_15 rfl rfl) ?_
  refine rcons (rk_newarray (ty := .int) rfl (fun _ => rfl) (fun _ => rfl) w_96 (by decide) (by decide) (by decide) dX0_init_17 rfl) ?_
  refine rcons (rk_putfieldF (C := RX0) (T := TX0) (n := 7) tyX0 (.array .int) rfl in_X0 tyX0_ok nmX0 (by decide) rfl rfl w_575 rfl dX0_init_19 rfl) ?_
  refine rcons (rk_aload_n dX0_init_22 rfl rfl) ?_
  refine rcons (rk_iconst dX0_init_23 rfl rfl) ?_
  refine rcons (rk_newarray (ty := .int) rfl (fun _ => rfl) (fun _ => rfl) w_96 (by decide) (by decide) (by decide) dX0_init_24 rfl) ?_
  refine rcons (rk_putfieldF (C := RX0) (T := TX0) (n := 7) tyX0 (.array .int) rfl in_X0 tyX0_ok nmX0 (by decide) rfl rfl w_577 rfl dX0_init_26 rfl) ?_
  refine rcons (rk_aload_n dX0_init_29 rfl rfl) ?_
  refine rcons (rk_iconst dX0_init_30 rfl rfl) ?_
  refine rcons (rk_newarray (ty := .int) rfl (fun _ => rfl) (fun _ => rfl) w_96 (by decide) (by decide) (by decide) dX0_init_31 rfl) ?_
  refine rcons (rk_putfieldF (C := RX0) (T := TX0) (n := 7) tyX0 (.array .int) rfl in_X0 tyX0_ok nmX0 (by decide) rfl rfl w_579 rfl dX0_init_33 rfl) ?_
  refine rcons (rk_aload_n dX0_init_36 rfl rfl) ?_
  refine rcons (rk_iload_n dX0_init_37 rfl rfl) ?_
  refine rcons (rk_putfieldF (C := RX0) (T := TX0) (n := 7) tyX0 .int rfl in_X0 tyX0_ok nmX0 (by decide) rfl rfl w_567 rfl dX0_init_38 rfl) ?_
  refine rcons (rk_aload_n dX0_init_41 rfl rfl) ?_
  refine rcons (rk_iload_n dX0_init_42 rfl rfl) ?_
  refine rcons (rk_putfield (C := RX0) (T := TX0) (n := 7) tyX0 .int rfl in_X0 tyX0_ok nmX0 (by decide) rfl w_569 rfl dX0_init_43 rfl) ?_
  refine rcons (rk_aload_n dX0_init_46 rfl rfl) ?_
  refine rcons (rk_getfield (C := RX0) (T := TX0) (n := 7) rfl in_X0 (by decide) w_577 dX0_init_47 rfl) ?_
  refine rcons (rk_iconst dX0_init_50 rfl rfl) ?_
  refine rcons (rk_invokestatic R_J7_fill_53178 w_566 w_90 w_25 w_91 ⟨by decide, by decide, by decide +kernel⟩ (by decide) (by decide) dX0_init_51 rfl) ?_
  refine rcons (rk_aload_n dX0_init_54 rfl rfl) ?_
  refine rcons (rk_getfield (C := RX0) (T := TX0) (n := 7) rfl in_X0 (by decide) w_579 dX0_init_55 rfl) ?_
  refine rcons (rk_iconst dX0_init_58 rfl rfl) ?_
  refine rcons (rk_invokestatic R_J7_fill_53178 w_566 w_90 w_25 w_91 ⟨by decide, by decide, by decide +kernel⟩ (by decide) (by decide) dX0_init_59 rfl) ?_
  refine rcons (rk_vreturn rfl dX0_init_62) ?_
  exact fun _ h => nomatch h
def rs_X0_init : RSpc := fun g av w N => match av, w with
  | [.inl (.inr (_, a)), .inl (.inl x), .inl (.inl y)], [(b, .inr (2, [.int _, .int _, .int _, .int _, _, _, _]))] => a = b ∧ ∀ q1 q2 q3 : Nat, N none [(b, .inr (2, [.int x, .int y, .int 0, .int 1, .ref q1, .ref q2, .ref q3])), (q1, .inl (g.2.1 0, (7, .inl (fun _ => 0)))), (q2, .inl (g.2.1 0, (3, .inl (fR (fun _ => 0) 3 (-1))))), (q3, .inl (g.2.1 0, (3, .inl (fR (fun _ => 0) 3 (-1)))))]
  | _, _ => False
set_option maxRecDepth 20000 in
set_option maxHeartbeats 4000000 in
theorem R_X0_init : RMet yX0_init cX0_init 3 none 1 3 rs_X0_init := by
  refine RMet.mk (own := RX0) true (fun _ => rfl) (by decide) rfl [0, 1, 2] rfl tokR_X0_init 300 ?_
  intro g av w N h
  unfold rs_X0_init at h
  split at h
  rotate_left
  · exact h.elim
  obtain ⟨rfl, h⟩ := h
  refine ⟨[], ?_, an⟩
  repeat' (first | (refine ⟨0, _, rfl, ?_⟩) | (refine ⟨2, rfl, rfl, by decide, ?_⟩) | (refine ⟨3, rfl, rfl, by decide, ?_⟩) | (intro q; exact absurd q (by decide)) | apply And.intro | intro _)
  all_goals first | rfl | decide | (exact Nat.le_of_ble_eq_true rfl) | (exact h _ _ _)

