/-! VowCourt's public methods: proofs, votes, sentences, dispensations -/
theorem w_576 : (.fieldLink "VowCourt" 167 "VowCourt$Cause" "weights" "[I" : Cond) ∈ TB := TB_mem (List.mem_of_getElem? (i := 576) (by decide +kernel)) rfl
theorem w_578 : (.fieldLink "VowCourt" 174 "VowCourt$Cause" "votes" "[I" : Cond) ∈ TB := TB_mem (List.mem_of_getElem? (i := 578) (by decide +kernel)) rfl
def pwC (s : Sg) (c k w : Int32) : Int32 := s.2.1 15 (cl c) (cl k) + w
theorem dX4_proof_0 : decode cX4_proof 0 = .ok (.aload_n 0, 1) := by decide +kernel
theorem dX4_proof_1 : decode cX4_proof 1 = .ok (.iload_n 1, 1) := by decide +kernel
theorem dX4_proof_2 : decode cX4_proof 2 = .ok (.invokevirtual 156, 3) := by decide +kernel
theorem dX4_proof_5 : decode cX4_proof 5 = .ok (.astore 4, 2) := by decide +kernel
theorem dX4_proof_7 : decode cX4_proof 7 = .ok (.iload_n 2, 1) := by decide +kernel
theorem dX4_proof_8 : decode cX4_proof 8 = .ok (.ifCond .lt 13, 3) := by decide +kernel
theorem dX4_proof_11 : decode cX4_proof 11 = .ok (.iload_n 2, 1) := by decide +kernel
theorem dX4_proof_12 : decode cX4_proof 12 = .ok (.bipush 7, 2) := by decide +kernel
theorem dX4_proof_14 : decode cX4_proof 14 = .ok (.if_icmp .ge 7, 3) := by decide +kernel
theorem dX4_proof_17 : decode cX4_proof 17 = .ok (.iconst 1, 1) := by decide +kernel
theorem dX4_proof_18 : decode cX4_proof 18 = .ok (.goto 4, 3) := by decide +kernel
theorem dX4_proof_21 : decode cX4_proof 21 = .ok (.iconst 0, 1) := by decide +kernel
theorem dX4_proof_22 : decode cX4_proof 22 = .ok (.invokestatic 53, 3) := by decide +kernel
theorem dX4_proof_25 : decode cX4_proof 25 = .ok (.iload_n 3, 1) := by decide +kernel
theorem dX4_proof_26 : decode cX4_proof 26 = .ok (.bipush (-10), 2) := by decide +kernel
theorem dX4_proof_28 : decode cX4_proof 28 = .ok (.if_icmp .lt 13, 3) := by decide +kernel
theorem dX4_proof_31 : decode cX4_proof 31 = .ok (.iload_n 3, 1) := by decide +kernel
theorem dX4_proof_32 : decode cX4_proof 32 = .ok (.bipush 10, 2) := by decide +kernel
theorem dX4_proof_34 : decode cX4_proof 34 = .ok (.if_icmp .gt 7, 3) := by decide +kernel
theorem dX4_proof_37 : decode cX4_proof 37 = .ok (.iconst 1, 1) := by decide +kernel
theorem dX4_proof_38 : decode cX4_proof 38 = .ok (.goto 4, 3) := by decide +kernel
theorem dX4_proof_41 : decode cX4_proof 41 = .ok (.iconst 0, 1) := by decide +kernel
theorem dX4_proof_42 : decode cX4_proof 42 = .ok (.invokestatic 53, 3) := by decide +kernel
theorem dX4_proof_45 : decode cX4_proof 45 = .ok (.aload 4, 2) := by decide +kernel
theorem dX4_proof_47 : decode cX4_proof 47 = .ok (.getfield 160, 3) := by decide +kernel
theorem dX4_proof_50 : decode cX4_proof 50 = .ok (.ifCond .ne 19, 3) := by decide +kernel
theorem dX4_proof_53 : decode cX4_proof 53 = .ok (.aload 4, 2) := by decide +kernel
theorem dX4_proof_55 : decode cX4_proof 55 = .ok (.getfield 164, 3) := by decide +kernel
theorem dX4_proof_58 : decode cX4_proof 58 = .ok (.iconst 1, 1) := by decide +kernel
theorem dX4_proof_59 : decode cX4_proof 59 = .ok (.iload_n 2, 1) := by decide +kernel
theorem dX4_proof_60 : decode cX4_proof 60 = .ok (.ishl, 1) := by decide +kernel
theorem dX4_proof_61 : decode cX4_proof 61 = .ok (.iand, 1) := by decide +kernel
theorem dX4_proof_62 : decode cX4_proof 62 = .ok (.ifCond .eq 7, 3) := by decide +kernel
theorem dX4_proof_65 : decode cX4_proof 65 = .ok (.iconst 1, 1) := by decide +kernel
theorem dX4_proof_66 : decode cX4_proof 66 = .ok (.goto 4, 3) := by decide +kernel
theorem dX4_proof_69 : decode cX4_proof 69 = .ok (.iconst 0, 1) := by decide +kernel
theorem dX4_proof_70 : decode cX4_proof 70 = .ok (.invokestatic 64, 3) := by decide +kernel
theorem dX4_proof_73 : decode cX4_proof 73 = .ok (.aload 4, 2) := by decide +kernel
theorem dX4_proof_75 : decode cX4_proof 75 = .ok (.getfield 167, 3) := by decide +kernel
theorem dX4_proof_78 : decode cX4_proof 78 = .ok (.iload_n 2, 1) := by decide +kernel
theorem dX4_proof_79 : decode cX4_proof 79 = .ok (.iaload, 1) := by decide +kernel
theorem dX4_proof_80 : decode cX4_proof 80 = .ok (.iload_n 3, 1) := by decide +kernel
theorem dX4_proof_81 : decode cX4_proof 81 = .ok (.iadd, 1) := by decide +kernel
theorem dX4_proof_82 : decode cX4_proof 82 = .ok (.istore 5, 2) := by decide +kernel
theorem dX4_proof_84 : decode cX4_proof 84 = .ok (.iload 5, 2) := by decide +kernel
theorem dX4_proof_86 : decode cX4_proof 86 = .ok (.sipush (-1000), 3) := by decide +kernel
theorem dX4_proof_89 : decode cX4_proof 89 = .ok (.if_icmp .lt 15, 3) := by decide +kernel
theorem dX4_proof_92 : decode cX4_proof 92 = .ok (.iload 5, 2) := by decide +kernel
theorem dX4_proof_94 : decode cX4_proof 94 = .ok (.sipush 1000, 3) := by decide +kernel
theorem dX4_proof_97 : decode cX4_proof 97 = .ok (.if_icmp .gt 7, 3) := by decide +kernel
theorem dX4_proof_100 : decode cX4_proof 100 = .ok (.iconst 1, 1) := by decide +kernel
theorem dX4_proof_101 : decode cX4_proof 101 = .ok (.goto 4, 3) := by decide +kernel
theorem dX4_proof_104 : decode cX4_proof 104 = .ok (.iconst 0, 1) := by decide +kernel
theorem dX4_proof_105 : decode cX4_proof 105 = .ok (.invokestatic 64, 3) := by decide +kernel
theorem dX4_proof_108 : decode cX4_proof 108 = .ok (.aload 4, 2) := by decide +kernel
theorem dX4_proof_110 : decode cX4_proof 110 = .ok (.getfield 167, 3) := by decide +kernel
theorem dX4_proof_113 : decode cX4_proof 113 = .ok (.iload_n 2, 1) := by decide +kernel
theorem dX4_proof_114 : decode cX4_proof 114 = .ok (.iload 5, 2) := by decide +kernel
theorem dX4_proof_116 : decode cX4_proof 116 = .ok (.iastore, 1) := by decide +kernel
theorem dX4_proof_117 : decode cX4_proof 117 = .ok (.iload 5, 2) := by decide +kernel
theorem dX4_proof_119 : decode cX4_proof 119 = .ok (.ireturn, 1) := by decide +kernel
def tab_X4_proof : List (Nat × Sem) := [(0, op_al 0 1), (1, op_il 1 2), (2, op_callV 6 sp_X4_causeAt 2 1 5), (5, op_as 4 7), (7, op_il 2 8), (8, op_if (fun x => x < 0) 21 11), (11, op_il 2 12), (12, op_ic 7 14), (14, op_cmp (fun x y => y ≤ x) 21 17), (17, op_ic 1 18), (18, op_go 22), (21, op_ic 0 22), (22, op_call sp_X4_checkArgument 1 1 25), (25, op_il 3 26), (26, op_ic (-10) 28), (28, op_cmp (fun x y => x < y) 41 31), (31, op_il 3 32), (32, op_ic 10 34), (34, op_cmp (fun x y => y < x) 41 37), (37, op_ic 1 38), (38, op_go 42), (41, op_ic 0 42), (42, op_call sp_X4_checkArgument 1 1 45), (45, op_al 4 47), (47, op_gf 2 2 50), (50, op_if (fun x => ¬ x = 0) 69 53), (53, op_al 4 55), (55, op_gf 2 1 58), (58, op_ic 1 59), (59, op_il 2 60), (60, op_bin (fun x y => x <<< (y &&& 31)) 61), (61, op_bin (fun x y => x &&& y) 62), (62, op_if (fun x => x = 0) 69 65), (65, op_ic 1 66), (66, op_go 70), (69, op_ic 0 70), (70, op_call sp_X4_checkPossible 1 1 73), (73, op_al 4 75), (75, op_gf 2 4 78), (78, op_il 2 79), (79, op_iald 80), (80, op_il 3 81), (81, op_bin (fun x y => x + y) 82), (82, op_is 5 84), (84, op_il 5 86), (86, op_ic (-1000) 89), (89, op_cmp (fun x y => x < y) 104 92), (92, op_il 5 94), (94, op_ic 1000 97), (97, op_cmp (fun x y => y < x) 104 100), (100, op_ic 1 101), (101, op_go 105), (104, op_ic 0 105), (105, op_call sp_X4_checkPossible 1 1 108), (108, op_al 4 110), (110, op_gf 2 4 113), (113, op_il 2 114), (114, op_il 5 116), (116, op_iast 117), (117, op_il 5 119), (119, op_iret)]
set_option maxRecDepth 20000 in
theorem tok_X4_proof : ∀ q ∈ tab_X4_proof, Snd RX4 cX4_proof 6 8 5 (some .int) q.1 q.2 := by
  unfold tab_X4_proof
  refine tcons (ok_aload_n dX4_proof_0 rfl rfl) ?_
  refine tcons (ok_iload_n dX4_proof_1 rfl rfl) ?_
  refine tcons (ok_invokevirtual M_X4_causeAt (C := RX4) (T := TX4) (nf := 8) rfl w_600 w_602 w_17 w_20 w_603 ⟨rfl, by decide, by decide, by decide +kernel⟩ (by decide) (by decide) dX4_proof_2 rfl) ?_
  refine tcons (ok_astore dX4_proof_5 (by decide) rfl) ?_
  refine tcons (ok_iload_n dX4_proof_7 rfl rfl) ?_
  refine tcons (ok_if_lt dX4_proof_8 rfl rfl) ?_
  refine tcons (ok_iload_n dX4_proof_11 rfl rfl) ?_
  refine tcons (ok_bipush dX4_proof_12 rfl rfl) ?_
  refine tcons (ok_icmp_ge dX4_proof_14 rfl rfl) ?_
  refine tcons (ok_iconst dX4_proof_17 rfl rfl) ?_
  refine tcons (ok_goto dX4_proof_18 rfl) ?_
  refine tcons (ok_iconst dX4_proof_21 rfl rfl) ?_
  refine tcons (ok_invokestatic M_X4_checkArgument w_217 w_218 w_20 w_219 ⟨by decide, by decide, by decide +kernel⟩ (by decide) (by decide) dX4_proof_22 rfl) ?_
  refine tcons (ok_iload_n dX4_proof_25 rfl rfl) ?_
  refine tcons (ok_bipush dX4_proof_26 rfl rfl) ?_
  refine tcons (ok_icmp_lt dX4_proof_28 rfl rfl) ?_
  refine tcons (ok_iload_n dX4_proof_31 rfl rfl) ?_
  refine tcons (ok_bipush dX4_proof_32 rfl rfl) ?_
  refine tcons (ok_icmp_gt dX4_proof_34 rfl rfl) ?_
  refine tcons (ok_iconst dX4_proof_37 rfl rfl) ?_
  refine tcons (ok_goto dX4_proof_38 rfl) ?_
  refine tcons (ok_iconst dX4_proof_41 rfl rfl) ?_
  refine tcons (ok_invokestatic M_X4_checkArgument w_217 w_218 w_20 w_219 ⟨by decide, by decide, by decide +kernel⟩ (by decide) (by decide) dX4_proof_42 rfl) ?_
  refine tcons (ok_aload dX4_proof_45 rfl) ?_
  refine tcons (ok_getfield (C := RX0) (T := TX0) (n := 7) rfl in_X0 (by decide) w_572 dX4_proof_47 rfl) ?_
  refine tcons (ok_if_ne dX4_proof_50 rfl rfl) ?_
  refine tcons (ok_aload dX4_proof_53 rfl) ?_
  refine tcons (ok_getfield (C := RX0) (T := TX0) (n := 7) rfl in_X0 (by decide) w_570 dX4_proof_55 rfl) ?_
  refine tcons (ok_iconst dX4_proof_58 rfl rfl) ?_
  refine tcons (ok_iload_n dX4_proof_59 rfl rfl) ?_
  refine tcons (ok_ishl dX4_proof_60 rfl) ?_
  refine tcons (ok_iand dX4_proof_61 rfl) ?_
  refine tcons (ok_if_eq dX4_proof_62 rfl rfl) ?_
  refine tcons (ok_iconst dX4_proof_65 rfl rfl) ?_
  refine tcons (ok_goto dX4_proof_66 rfl) ?_
  refine tcons (ok_iconst dX4_proof_69 rfl rfl) ?_
  refine tcons (ok_invokestatic M_X4_checkPossible w_240 w_241 w_20 w_242 ⟨by decide, by decide, by decide +kernel⟩ (by decide) (by decide) dX4_proof_70 rfl) ?_
  refine tcons (ok_aload dX4_proof_73 rfl) ?_
  refine tcons (ok_getfield (C := RX0) (T := TX0) (n := 7) rfl in_X0 (by decide) w_576 dX4_proof_75 rfl) ?_
  refine tcons (ok_iload_n dX4_proof_78 rfl rfl) ?_
  refine tcons (ok_iaload dX4_proof_79 rfl) ?_
  refine tcons (ok_iload_n dX4_proof_80 rfl rfl) ?_
  refine tcons (ok_iadd dX4_proof_81 rfl) ?_
  refine tcons (ok_istore dX4_proof_82 (by decide) rfl) ?_
  refine tcons (ok_iload dX4_proof_84 rfl) ?_
  refine tcons (ok_sipush dX4_proof_86 rfl rfl) ?_
  refine tcons (ok_icmp_lt dX4_proof_89 rfl rfl) ?_
  refine tcons (ok_iload dX4_proof_92 rfl) ?_
  refine tcons (ok_sipush dX4_proof_94 rfl rfl) ?_
  refine tcons (ok_icmp_gt dX4_proof_97 rfl rfl) ?_
  refine tcons (ok_iconst dX4_proof_100 rfl rfl) ?_
  refine tcons (ok_goto dX4_proof_101 rfl) ?_
  refine tcons (ok_iconst dX4_proof_104 rfl rfl) ?_
  refine tcons (ok_invokestatic M_X4_checkPossible w_240 w_241 w_20 w_242 ⟨by decide, by decide, by decide +kernel⟩ (by decide) (by decide) dX4_proof_105 rfl) ?_
  refine tcons (ok_aload dX4_proof_108 rfl) ?_
  refine tcons (ok_getfield (C := RX0) (T := TX0) (n := 7) rfl in_X0 (by decide) w_576 dX4_proof_110 rfl) ?_
  refine tcons (ok_iload_n dX4_proof_113 rfl rfl) ?_
  refine tcons (ok_iload dX4_proof_114 rfl) ?_
  refine tcons (ok_iastore dX4_proof_116 rfl) ?_
  refine tcons (ok_iload dX4_proof_117 rfl) ?_
  refine tcons (ok_ireturn rfl dX4_proof_119) ?_
  exact fun _ h => nomatch h
def sp_X4_proof : Spc := fun av s N X => match av with
  | [.inl (.inr (1, 0)), .inl (.inl c), .inl (.inl k), .inl (.inl w)] => CI s ∧ chk (iC s 2 c) 1 s X (chk (0 ≤ k ∧ k < 7) 2 s X (chk (-10 ≤ w ∧ w ≤ 10) 2 s X (chk (s.2.1 14 (cl c) 2 = 0 ∧ ¬ s.2.1 14 (cl c) 1 &&& (1 <<< (k &&& 31)) = 0) 3 s X
      (chk (-1000 ≤ pwC s c k w ∧ pwC s c k w ≤ 1000) 3 s X (N (some (aI (pwC s c k w))) (stS s 15 (cl c) (cl k) (pwC s c k w)))))))
  | _ => False
set_option maxRecDepth 20000 in
set_option maxHeartbeats 2000000 in
theorem M_X4_proof : AMet yX4_proof cX4_proof 6 (some .int) 8 5 sp_X4_proof := by
  refine AMet.mk (own := RX4) (by decide) rfl [0, 1, 2, 3, 4, 5] rfl tok_X4_proof 200 ?_
  intro av s0 N X h
  unfold sp_X4_proof at h
  split at h
  rotate_left
  · exact h.elim
  refine ⟨fun _ => none, ?_, fun pc P hP => nomatch hP⟩
  repeat' (first | apply And.intro | (intro q; exact absurd q (by decide)) | intro _)
  all_goals first | decide | (exact (rfl : (0 : Nat) = 0)) | (exact Nat.le_of_ble_eq_true rfl) | (exact h.1) | (exact iC_c h.1 (by assumption)) | (exact Ib_b (n := 7) (by decide) (Int32.not_lt.mp (by assumption)) (Int32.not_le.mp (by assumption))) | (simp_all [-Int32.not_lt, -Int32.not_le, chk, pwC]; done) | (simp_all [-Int32.not_lt, -Int32.not_le, ← Int32.not_le, chk, pwC]; done) | (simp_all [chk, pwC]; done)
theorem dX4_vote_0 : decode cX4_vote 0 = .ok (.aload_n 0, 1) := by decide +kernel
theorem dX4_vote_1 : decode cX4_vote 1 = .ok (.iload_n 1, 1) := by decide +kernel
theorem dX4_vote_2 : decode cX4_vote 2 = .ok (.invokevirtual 156, 3) := by decide +kernel
theorem dX4_vote_5 : decode cX4_vote 5 = .ok (.astore 4, 2) := by decide +kernel
theorem dX4_vote_7 : decode cX4_vote 7 = .ok (.iload_n 2, 1) := by decide +kernel
theorem dX4_vote_8 : decode cX4_vote 8 = .ok (.ifCond .lt 12, 3) := by decide +kernel
theorem dX4_vote_11 : decode cX4_vote 11 = .ok (.iload_n 2, 1) := by decide +kernel
theorem dX4_vote_12 : decode cX4_vote 12 = .ok (.iconst 3, 1) := by decide +kernel
theorem dX4_vote_13 : decode cX4_vote 13 = .ok (.if_icmp .ge 7, 3) := by decide +kernel
theorem dX4_vote_16 : decode cX4_vote 16 = .ok (.iconst 1, 1) := by decide +kernel
theorem dX4_vote_17 : decode cX4_vote 17 = .ok (.goto 4, 3) := by decide +kernel
theorem dX4_vote_20 : decode cX4_vote 20 = .ok (.iconst 0, 1) := by decide +kernel
theorem dX4_vote_21 : decode cX4_vote 21 = .ok (.invokestatic 49, 3) := by decide +kernel
theorem dX4_vote_24 : decode cX4_vote 24 = .ok (.iload_n 3, 1) := by decide +kernel
theorem dX4_vote_25 : decode cX4_vote 25 = .ok (.ifCond .lt 13, 3) := by decide +kernel
theorem dX4_vote_28 : decode cX4_vote 28 = .ok (.iload_n 3, 1) := by decide +kernel
theorem dX4_vote_29 : decode cX4_vote 29 = .ok (.bipush 127, 2) := by decide +kernel
theorem dX4_vote_31 : decode cX4_vote 31 = .ok (.if_icmp .gt 7, 3) := by decide +kernel
theorem dX4_vote_34 : decode cX4_vote 34 = .ok (.iconst 1, 1) := by decide +kernel
theorem dX4_vote_35 : decode cX4_vote 35 = .ok (.goto 4, 3) := by decide +kernel
theorem dX4_vote_38 : decode cX4_vote 38 = .ok (.iconst 0, 1) := by decide +kernel
theorem dX4_vote_39 : decode cX4_vote 39 = .ok (.invokestatic 53, 3) := by decide +kernel
theorem dX4_vote_42 : decode cX4_vote 42 = .ok (.aload 4, 2) := by decide +kernel
theorem dX4_vote_44 : decode cX4_vote 44 = .ok (.getfield 160, 3) := by decide +kernel
theorem dX4_vote_47 : decode cX4_vote 47 = .ok (.iconst 1, 1) := by decide +kernel
theorem dX4_vote_48 : decode cX4_vote 48 = .ok (.if_icmp .ne 18, 3) := by decide +kernel
theorem dX4_vote_51 : decode cX4_vote 51 = .ok (.aload 4, 2) := by decide +kernel
theorem dX4_vote_53 : decode cX4_vote 53 = .ok (.getfield 174, 3) := by decide +kernel
theorem dX4_vote_56 : decode cX4_vote 56 = .ok (.iload_n 2, 1) := by decide +kernel
theorem dX4_vote_57 : decode cX4_vote 57 = .ok (.iaload, 1) := by decide +kernel
theorem dX4_vote_58 : decode cX4_vote 58 = .ok (.iconst (-1), 1) := by decide +kernel
theorem dX4_vote_59 : decode cX4_vote 59 = .ok (.if_icmp .ne 7, 3) := by decide +kernel
theorem dX4_vote_62 : decode cX4_vote 62 = .ok (.iconst 1, 1) := by decide +kernel
theorem dX4_vote_63 : decode cX4_vote 63 = .ok (.goto 4, 3) := by decide +kernel
theorem dX4_vote_66 : decode cX4_vote 66 = .ok (.iconst 0, 1) := by decide +kernel
theorem dX4_vote_67 : decode cX4_vote 67 = .ok (.invokestatic 64, 3) := by decide +kernel
theorem dX4_vote_70 : decode cX4_vote 70 = .ok (.iload_n 3, 1) := by decide +kernel
theorem dX4_vote_71 : decode cX4_vote 71 = .ok (.aload 4, 2) := by decide +kernel
theorem dX4_vote_73 : decode cX4_vote 73 = .ok (.invokevirtual 171, 3) := by decide +kernel
theorem dX4_vote_76 : decode cX4_vote 76 = .ok (.iconst (-1), 1) := by decide +kernel
theorem dX4_vote_77 : decode cX4_vote 77 = .ok (.ixor, 1) := by decide +kernel
theorem dX4_vote_78 : decode cX4_vote 78 = .ok (.iand, 1) := by decide +kernel
theorem dX4_vote_79 : decode cX4_vote 79 = .ok (.ifCond .ne 7, 3) := by decide +kernel
theorem dX4_vote_82 : decode cX4_vote 82 = .ok (.iconst 1, 1) := by decide +kernel
theorem dX4_vote_83 : decode cX4_vote 83 = .ok (.goto 4, 3) := by decide +kernel
theorem dX4_vote_86 : decode cX4_vote 86 = .ok (.iconst 0, 1) := by decide +kernel
theorem dX4_vote_87 : decode cX4_vote 87 = .ok (.invokestatic 64, 3) := by decide +kernel
theorem dX4_vote_90 : decode cX4_vote 90 = .ok (.aload 4, 2) := by decide +kernel
theorem dX4_vote_92 : decode cX4_vote 92 = .ok (.getfield 174, 3) := by decide +kernel
theorem dX4_vote_95 : decode cX4_vote 95 = .ok (.iload_n 2, 1) := by decide +kernel
theorem dX4_vote_96 : decode cX4_vote 96 = .ok (.iload_n 3, 1) := by decide +kernel
theorem dX4_vote_97 : decode cX4_vote 97 = .ok (.iastore, 1) := by decide +kernel
theorem dX4_vote_98 : decode cX4_vote 98 = .ok (.aload 4, 2) := by decide +kernel
theorem dX4_vote_100 : decode cX4_vote 100 = .ok (.invokevirtual 177, 3) := by decide +kernel
theorem dX4_vote_103 : decode cX4_vote 103 = .ok (.ireturn, 1) := by decide +kernel
def tab_X4_vote : List (Nat × Sem) := [(0, op_al 0 1), (1, op_il 1 2), (2, op_callV 6 sp_X4_causeAt 2 1 5), (5, op_as 4 7), (7, op_il 2 8), (8, op_if (fun x => x < 0) 20 11), (11, op_il 2 12), (12, op_ic 3 13), (13, op_cmp (fun x y => y ≤ x) 20 16), (16, op_ic 1 17), (17, op_go 21), (20, op_ic 0 21), (21, op_call sp_X4_checkIndex 1 1 24), (24, op_il 3 25), (25, op_if (fun x => x < 0) 38 28), (28, op_il 3 29), (29, op_ic 127 31), (31, op_cmp (fun x y => y < x) 38 34), (34, op_ic 1 35), (35, op_go 39), (38, op_ic 0 39), (39, op_call sp_X4_checkArgument 1 1 42), (42, op_al 4 44), (44, op_gf 2 2 47), (47, op_ic 1 48), (48, op_cmp (fun x y => ¬ x = y) 66 51), (51, op_al 4 53), (53, op_gf 2 5 56), (56, op_il 2 57), (57, op_iald 58), (58, op_ic (-1) 59), (59, op_cmp (fun x y => ¬ x = y) 66 62), (62, op_ic 1 63), (63, op_go 67), (66, op_ic 0 67), (67, op_call sp_X4_checkPossible 1 1 70), (70, op_il 3 71), (71, op_al 4 73), (73, op_callV 2 sp_X0_provedGrounds 1 0 76), (76, op_ic (-1) 77), (77, op_bin (fun x y => x ^^^ y) 78), (78, op_bin (fun x y => x &&& y) 79), (79, op_if (fun x => ¬ x = 0) 86 82), (82, op_ic 1 83), (83, op_go 87), (86, op_ic 0 87), (87, op_call sp_X4_checkPossible 1 1 90), (90, op_al 4 92), (92, op_gf 2 5 95), (95, op_il 2 96), (96, op_il 3 97), (97, op_iast 98), (98, op_al 4 100), (100, op_callV 2 sp_X0_votesCast 1 0 103), (103, op_iret)]
set_option maxRecDepth 20000 in
theorem tok_X4_vote : ∀ q ∈ tab_X4_vote, Snd RX4 cX4_vote 5 8 5 (some .int) q.1 q.2 := by
  unfold tab_X4_vote
  refine tcons (ok_aload_n dX4_vote_0 rfl rfl) ?_
  refine tcons (ok_iload_n dX4_vote_1 rfl rfl) ?_
  refine tcons (ok_invokevirtual M_X4_causeAt (C := RX4) (T := TX4) (nf := 8) rfl w_600 w_602 w_17 w_20 w_603 ⟨rfl, by decide, by decide, by decide +kernel⟩ (by decide) (by decide) dX4_vote_2 rfl) ?_
  refine tcons (ok_astore dX4_vote_5 (by decide) rfl) ?_
  refine tcons (ok_iload_n dX4_vote_7 rfl rfl) ?_
  refine tcons (ok_if_lt dX4_vote_8 rfl rfl) ?_
  refine tcons (ok_iload_n dX4_vote_11 rfl rfl) ?_
  refine tcons (ok_iconst dX4_vote_12 rfl rfl) ?_
  refine tcons (ok_icmp_ge dX4_vote_13 rfl rfl) ?_
  refine tcons (ok_iconst dX4_vote_16 rfl rfl) ?_
  refine tcons (ok_goto dX4_vote_17 rfl) ?_
  refine tcons (ok_iconst dX4_vote_20 rfl rfl) ?_
  refine tcons (ok_invokestatic M_X4_checkIndex w_146 w_147 w_20 w_148 ⟨by decide, by decide, by decide +kernel⟩ (by decide) (by decide) dX4_vote_21 rfl) ?_
  refine tcons (ok_iload_n dX4_vote_24 rfl rfl) ?_
  refine tcons (ok_if_lt dX4_vote_25 rfl rfl) ?_
  refine tcons (ok_iload_n dX4_vote_28 rfl rfl) ?_
  refine tcons (ok_bipush dX4_vote_29 rfl rfl) ?_
  refine tcons (ok_icmp_gt dX4_vote_31 rfl rfl) ?_
  refine tcons (ok_iconst dX4_vote_34 rfl rfl) ?_
  refine tcons (ok_goto dX4_vote_35 rfl) ?_
  refine tcons (ok_iconst dX4_vote_38 rfl rfl) ?_
  refine tcons (ok_invokestatic M_X4_checkArgument w_217 w_218 w_20 w_219 ⟨by decide, by decide, by decide +kernel⟩ (by decide) (by decide) dX4_vote_39 rfl) ?_
  refine tcons (ok_aload dX4_vote_42 rfl) ?_
  refine tcons (ok_getfield (C := RX0) (T := TX0) (n := 7) rfl in_X0 (by decide) w_572 dX4_vote_44 rfl) ?_
  refine tcons (ok_iconst dX4_vote_47 rfl rfl) ?_
  refine tcons (ok_icmp_ne dX4_vote_48 rfl rfl) ?_
  refine tcons (ok_aload dX4_vote_51 rfl) ?_
  refine tcons (ok_getfield (C := RX0) (T := TX0) (n := 7) rfl in_X0 (by decide) w_578 dX4_vote_53 rfl) ?_
  refine tcons (ok_iload_n dX4_vote_56 rfl rfl) ?_
  refine tcons (ok_iaload dX4_vote_57 rfl) ?_
  refine tcons (ok_iconst dX4_vote_58 rfl rfl) ?_
  refine tcons (ok_icmp_ne dX4_vote_59 rfl rfl) ?_
  refine tcons (ok_iconst dX4_vote_62 rfl rfl) ?_
  refine tcons (ok_goto dX4_vote_63 rfl) ?_
  refine tcons (ok_iconst dX4_vote_66 rfl rfl) ?_
  refine tcons (ok_invokestatic M_X4_checkPossible w_240 w_241 w_20 w_242 ⟨by decide, by decide, by decide +kernel⟩ (by decide) (by decide) dX4_vote_67 rfl) ?_
  refine tcons (ok_iload_n dX4_vote_70 rfl rfl) ?_
  refine tcons (ok_aload dX4_vote_71 rfl) ?_
  refine tcons (ok_invokevirtual M_X0_provedGrounds (C := RX0) (T := TX0) (nf := 7) rfl w_612 w_613 w_614 w_39 w_615 ⟨rfl, by decide, by decide, by decide +kernel⟩ (by decide) (by decide) dX4_vote_73 rfl) ?_
  refine tcons (ok_iconst dX4_vote_76 rfl rfl) ?_
  refine tcons (ok_ixor dX4_vote_77 rfl) ?_
  refine tcons (ok_iand dX4_vote_78 rfl) ?_
  refine tcons (ok_if_ne dX4_vote_79 rfl rfl) ?_
  refine tcons (ok_iconst dX4_vote_82 rfl rfl) ?_
  refine tcons (ok_goto dX4_vote_83 rfl) ?_
  refine tcons (ok_iconst dX4_vote_86 rfl rfl) ?_
  refine tcons (ok_invokestatic M_X4_checkPossible w_240 w_241 w_20 w_242 ⟨by decide, by decide, by decide +kernel⟩ (by decide) (by decide) dX4_vote_87 rfl) ?_
  refine tcons (ok_aload dX4_vote_90 rfl) ?_
  refine tcons (ok_getfield (C := RX0) (T := TX0) (n := 7) rfl in_X0 (by decide) w_578 dX4_vote_92 rfl) ?_
  refine tcons (ok_iload_n dX4_vote_95 rfl rfl) ?_
  refine tcons (ok_iload_n dX4_vote_96 rfl rfl) ?_
  refine tcons (ok_iastore dX4_vote_97 rfl) ?_
  refine tcons (ok_aload dX4_vote_98 rfl) ?_
  refine tcons (ok_invokevirtual M_X0_votesCast (C := RX0) (T := TX0) (nf := 7) rfl w_620 w_621 w_622 w_39 w_623 ⟨rfl, by decide, by decide, by decide +kernel⟩ (by decide) (by decide) dX4_vote_100 rfl) ?_
  refine tcons (ok_ireturn rfl dX4_vote_103) ?_
  exact fun _ h => nomatch h
def sp_X4_vote : Spc := fun av s N X => match av with
  | [.inl (.inr (1, 0)), .inl (.inl c), .inl (.inl j), .inl (.inl g)] => CI s ∧ chk (iC s 2 c) 1 s X (chk (0 ≤ j ∧ j < 3) 1 s X (chk (0 ≤ g ∧ g ≤ 127) 2 s X (chk (s.2.1 14 (cl c) 2 = 1 ∧ s.2.1 16 (cl c) (cl j) = -1) 3 s X
      (chk (g &&& (prC s (cl c) ^^^ -1) = 0) 3 s X (N (some (aI (vcC (stS s 16 (cl c) (cl j) g) (cl c)))) (stS s 16 (cl c) (cl j) g))))))
  | _ => False
set_option maxRecDepth 20000 in
set_option maxHeartbeats 2000000 in
theorem M_X4_vote : AMet yX4_vote cX4_vote 5 (some .int) 8 5 sp_X4_vote := by
  refine AMet.mk (own := RX4) (by decide) rfl [0, 1, 2, 3, 4] rfl tok_X4_vote 200 ?_
  intro av s0 N X h
  unfold sp_X4_vote at h
  split at h
  rotate_left
  · exact h.elim
  refine ⟨fun _ => none, ?_, fun pc P hP => nomatch hP⟩
  repeat' (first | apply And.intro | (intro q; exact absurd q (by decide)) | intro _)
  all_goals first | decide | (exact (rfl : (0 : Nat) = 0)) | (exact Nat.le_of_ble_eq_true rfl) | (exact h.1) | (exact iC_c h.1 (by assumption)) | (show Lv s0 14 _; exact iC_c h.1 (by assumption)) | (exact Ib_b (n := 3) (by decide) (Int32.not_lt.mp (by assumption)) (Int32.not_le.mp (by assumption))) | (simp_all [-Int32.not_lt, -Int32.not_le, chk]; done) | (simp_all [-Int32.not_lt, -Int32.not_le, ← Int32.not_le, chk]; done) | (simp_all [chk]; done)

