/-! VowCourt.cause -/
theorem w_561 : (.instantiable "VowCourt$Cause" 7 : Cond) ∈ TB := TB_mem (List.mem_of_getElem? (i := 561) (by decide +kernel)) rfl
theorem w_562 : (.methodLink "VowCourt" 155 ⟨"VowCourt$Cause", "<init>", "(II)V"⟩ : Cond) ∈ TB := TB_mem (List.mem_of_getElem? (i := 562) (by decide +kernel)) rfl
theorem w_563 : (.instanceMethod ⟨"VowCourt$Cause", "<init>", "(II)V"⟩ : Cond) ∈ TB := TB_mem (List.mem_of_getElem? (i := 563) (by decide +kernel)) rfl
theorem w_564 : (.code yX0_init cX0_init 3 none : Cond) ∈ TB := TB_mem (List.mem_of_getElem? (i := 564) (by decide +kernel)) rfl
def cauS (s : Sg) (v x : Int32) : Sg := addS (stS (newC s v x) 2 2 0 ((newC s v x).2.1 2 2 0 + 1)) 2
theorem Lv_newC {s : Sg} {v x : Int32} {j : Nat} (h : Lv s 13 j) : Lv (newC s v x) 13 j := by
  show j < (newC s v x).1 1 + (newC s v x).1 7
  rw [newC_1 (by decide), newC_1 (by decide)]
  exact h
theorem newC_8 {s : Sg} {v x : Int32} : (newC s v x).1 (6 + 2) = 1 := stC_eq
theorem dX4_cause_0 : decode cX4_cause 0 = .ok (.aload_n 0, 1) := by decide +kernel
theorem dX4_cause_1 : decode cX4_cause 1 = .ok (.iload_n 1, 1) := by decide +kernel
theorem dX4_cause_2 : decode cX4_cause 2 = .ok (.invokevirtual 124, 3) := by decide +kernel
theorem dX4_cause_5 : decode cX4_cause 5 = .ok (.astore 5, 2) := by decide +kernel
theorem dX4_cause_7 : decode cX4_cause 7 = .ok (.iload_n 2, 1) := by decide +kernel
theorem dX4_cause_8 : decode cX4_cause 8 = .ok (.invokestatic 57, 3) := by decide +kernel
theorem dX4_cause_11 : decode cX4_cause 11 = .ok (.ifCond .eq 14, 3) := by decide +kernel
theorem dX4_cause_14 : decode cX4_cause 14 = .ok (.iload_n 3, 1) := by decide +kernel
theorem dX4_cause_15 : decode cX4_cause 15 = .ok (.invokestatic 146, 3) := by decide +kernel
theorem dX4_cause_18 : decode cX4_cause 18 = .ok (.ifCond .eq 7, 3) := by decide +kernel
theorem dX4_cause_21 : decode cX4_cause 21 = .ok (.iconst 1, 1) := by decide +kernel
theorem dX4_cause_22 : decode cX4_cause 22 = .ok (.goto 4, 3) := by decide +kernel
theorem dX4_cause_25 : decode cX4_cause 25 = .ok (.iconst 0, 1) := by decide +kernel
theorem dX4_cause_26 : decode cX4_cause 26 = .ok (.invokestatic 53, 3) := by decide +kernel
theorem dX4_cause_29 : decode cX4_cause 29 = .ok (.iload 4, 2) := by decide +kernel
theorem dX4_cause_31 : decode cX4_cause 31 = .ok (.ifCond .ne 13, 3) := by decide +kernel
theorem dX4_cause_34 : decode cX4_cause 34 = .ok (.aload_n 0, 1) := by decide +kernel
theorem dX4_cause_35 : decode cX4_cause 35 = .ok (.aload 5, 2) := by decide +kernel
theorem dX4_cause_37 : decode cX4_cause 37 = .ok (.iload_n 2, 1) := by decide +kernel
theorem dX4_cause_38 : decode cX4_cause 38 = .ok (.invokevirtual 149, 3) := by decide +kernel
theorem dX4_cause_41 : decode cX4_cause 41 = .ok (.ifCond .eq 7, 3) := by decide +kernel
theorem dX4_cause_44 : decode cX4_cause 44 = .ok (.iconst 1, 1) := by decide +kernel
theorem dX4_cause_45 : decode cX4_cause 45 = .ok (.goto 4, 3) := by decide +kernel
theorem dX4_cause_48 : decode cX4_cause 48 = .ok (.iconst 0, 1) := by decide +kernel
theorem dX4_cause_49 : decode cX4_cause 49 = .ok (.invokestatic 64, 3) := by decide +kernel
theorem dX4_cause_52 : decode cX4_cause 52 = .ok (.aload_n 0, 1) := by decide +kernel
theorem dX4_cause_53 : decode cX4_cause 53 = .ok (.iload_n 1, 1) := by decide +kernel
theorem dX4_cause_54 : decode cX4_cause 54 = .ok (.invokevirtual 143, 3) := by decide +kernel
theorem dX4_cause_57 : decode cX4_cause 57 = .ok (.ifCond .eq 19, 3) := by decide +kernel
theorem dX4_cause_60 : decode cX4_cause 60 = .ok (.aload_n 0, 1) := by decide +kernel
theorem dX4_cause_61 : decode cX4_cause 61 = .ok (.getfield 19, 3) := by decide +kernel
theorem dX4_cause_64 : decode cX4_cause 64 = .ok (.invokevirtual 60, 3) := by decide +kernel
theorem dX4_cause_67 : decode cX4_cause 67 = .ok (.bipush 30, 2) := by decide +kernel
theorem dX4_cause_69 : decode cX4_cause 69 = .ok (.if_icmp .ge 7, 3) := by decide +kernel
theorem dX4_cause_72 : decode cX4_cause 72 = .ok (.iconst 1, 1) := by decide +kernel
theorem dX4_cause_73 : decode cX4_cause 73 = .ok (.goto 4, 3) := by decide +kernel
theorem dX4_cause_76 : decode cX4_cause 76 = .ok (.iconst 0, 1) := by decide +kernel
theorem dX4_cause_77 : decode cX4_cause 77 = .ok (.invokestatic 64, 3) := by decide +kernel
theorem dX4_cause_80 : decode cX4_cause 80 = .ok (.aload_n 0, 1) := by decide +kernel
theorem dX4_cause_81 : decode cX4_cause 81 = .ok (.getfield 19, 3) := by decide +kernel
theorem dX4_cause_84 : decode cX4_cause 84 = .ok (.new 153, 3) := by decide +kernel
theorem dX4_cause_87 : decode cX4_cause 87 = .ok (.dup, 1) := by decide +kernel
theorem dX4_cause_88 : decode cX4_cause 88 = .ok (.iload_n 1, 1) := by decide +kernel
theorem dX4_cause_89 : decode cX4_cause 89 = .ok (.iload_n 3, 1) := by decide +kernel
theorem dX4_cause_90 : decode cX4_cause 90 = .ok (.invokespecial 155, 3) := by decide +kernel
theorem dX4_cause_93 : decode cX4_cause 93 = .ok (.invokevirtual 76, 3) := by decide +kernel
theorem dX4_cause_96 : decode cX4_cause 96 = .ok (.pop, 1) := by decide +kernel
theorem dX4_cause_97 : decode cX4_cause 97 = .ok (.aload_n 0, 1) := by decide +kernel
theorem dX4_cause_98 : decode cX4_cause 98 = .ok (.getfield 19, 3) := by decide +kernel
theorem dX4_cause_101 : decode cX4_cause 101 = .ok (.invokevirtual 60, 3) := by decide +kernel
theorem dX4_cause_104 : decode cX4_cause 104 = .ok (.iconst 1, 1) := by decide +kernel
theorem dX4_cause_105 : decode cX4_cause 105 = .ok (.isub, 1) := by decide +kernel
theorem dX4_cause_106 : decode cX4_cause 106 = .ok (.ireturn, 1) := by decide +kernel
def tab_X4_cause : List (Nat × Sem) := [(0, op_al 0 1), (1, op_il 1 2), (2, op_callV 6 sp_X4_vowAt 2 1 5), (5, op_as 5 7), (7, op_il 2 8), (8, op_call sp_X4_isPlace 1 0 11), (11, op_if (fun x => x = 0) 25 14), (14, op_il 3 15), (15, op_call sp_X4_isDoubt 1 0 18), (18, op_if (fun x => x = 0) 25 21), (21, op_ic 1 22), (22, op_go 26), (25, op_ic 0 26), (26, op_call sp_X4_checkArgument 1 1 29), (29, op_il 4 31), (31, op_if (fun x => ¬ x = 0) 44 34), (34, op_al 0 35), (35, op_al 5 37), (37, op_il 2 38), (38, op_callV 6 sp_X4_isCourtOf 3 2 41), (41, op_if (fun x => x = 0) 48 44), (44, op_ic 1 45), (45, op_go 49), (48, op_ic 0 49), (49, op_call sp_X4_checkPossible 1 1 52), (52, op_al 0 53), (53, op_il 1 54), (54, op_callV 6 sp_X4_mayBeJudged 2 1 57), (57, op_if (fun x => x = 0) 76 60), (60, op_al 0 61), (61, op_gf 6 2 64), (64, op_callV 1 sp_Jx4a65c_size_8abf5 1 0 67), (67, op_ic 30 69), (69, op_cmp (fun x y => y ≤ x) 76 72), (72, op_ic 1 73), (73, op_go 77), (76, op_ic 0 77), (77, op_call sp_X4_checkPossible 1 1 80), (80, op_al 0 81), (81, op_gf 6 2 84), (84, op_newC 1 3 93), (93, op_callGV 1 sp_Jx4a65c_add_9ea2d 2 2 96), (96, op_pop 97), (97, op_al 0 98), (98, op_gf 6 2 101), (101, op_callV 1 sp_Jx4a65c_size_8abf5 1 0 104), (104, op_ic 1 105), (105, op_bin (fun x y => x - y) 106), (106, op_iret)]
set_option maxRecDepth 20000 in
theorem tok_X4_cause : ∀ q ∈ tab_X4_cause, GSnd RX4 cX4_cause 6 10 16 (some .int) q.1 q.2 := by
  unfold tab_X4_cause
  refine gcons (snd_g (ok_aload_n dX4_cause_0 rfl rfl)) ?_
  refine gcons (snd_g (ok_iload_n dX4_cause_1 rfl rfl)) ?_
  refine gcons (snd_g (ok_invokevirtual M_X4_vowAt (C := RX4) (T := TX4) (nf := 8) rfl w_506 w_508 w_10 w_20 w_509 ⟨rfl, by decide, by decide, by decide +kernel⟩ (by decide) (by decide) dX4_cause_2 rfl)) ?_
  refine gcons (snd_g (ok_astore dX4_cause_5 (by decide) rfl)) ?_
  refine gcons (snd_g (ok_iload_n dX4_cause_7 rfl rfl)) ?_
  refine gcons (snd_g (ok_invokestatic M_X4_isPlace w_237 w_238 w_20 w_239 ⟨by decide, by decide, by decide +kernel⟩ (by decide) (by decide) dX4_cause_8 rfl)) ?_
  refine gcons (snd_g (ok_if_eq dX4_cause_11 rfl rfl)) ?_
  refine gcons (snd_g (ok_iload_n dX4_cause_14 rfl rfl)) ?_
  refine gcons (snd_g (ok_invokestatic M_X4_isDoubt w_550 w_551 w_20 w_552 ⟨by decide, by decide, by decide +kernel⟩ (by decide) (by decide) dX4_cause_15 rfl)) ?_
  refine gcons (snd_g (ok_if_eq dX4_cause_18 rfl rfl)) ?_
  refine gcons (snd_g (ok_iconst dX4_cause_21 rfl rfl)) ?_
  refine gcons (snd_g (ok_goto dX4_cause_22 rfl)) ?_
  refine gcons (snd_g (ok_iconst dX4_cause_25 rfl rfl)) ?_
  refine gcons (snd_g (ok_invokestatic M_X4_checkArgument w_217 w_218 w_20 w_219 ⟨by decide, by decide, by decide +kernel⟩ (by decide) (by decide) dX4_cause_26 rfl)) ?_
  refine gcons (snd_g (ok_iload dX4_cause_29 rfl)) ?_
  refine gcons (snd_g (ok_if_ne dX4_cause_31 rfl rfl)) ?_
  refine gcons (snd_g (ok_aload_n dX4_cause_34 rfl rfl)) ?_
  refine gcons (snd_g (ok_aload dX4_cause_35 rfl)) ?_
  refine gcons (snd_g (ok_iload_n dX4_cause_37 rfl rfl)) ?_
  refine gcons (snd_g (ok_invokevirtual M_X4_isCourtOf (C := RX4) (T := TX4) (nf := 8) rfl w_553 w_555 w_15 w_20 w_556 ⟨rfl, by decide, by decide, by decide +kernel⟩ (by decide) (by decide) dX4_cause_38 rfl)) ?_
  refine gcons (snd_g (ok_if_eq dX4_cause_41 rfl rfl)) ?_
  refine gcons (snd_g (ok_iconst dX4_cause_44 rfl rfl)) ?_
  refine gcons (snd_g (ok_goto dX4_cause_45 rfl)) ?_
  refine gcons (snd_g (ok_iconst dX4_cause_48 rfl rfl)) ?_
  refine gcons (snd_g (ok_invokestatic M_X4_checkPossible w_240 w_241 w_20 w_242 ⟨by decide, by decide, by decide +kernel⟩ (by decide) (by decide) dX4_cause_49 rfl)) ?_
  refine gcons (snd_g (ok_aload_n dX4_cause_52 rfl rfl)) ?_
  refine gcons (snd_g (ok_iload_n dX4_cause_53 rfl rfl)) ?_
  refine gcons (snd_g (ok_invokevirtual M_X4_mayBeJudged (C := RX4) (T := TX4) (nf := 8) rfl w_542 w_544 w_14 w_20 w_545 ⟨rfl, by decide, by decide, by decide +kernel⟩ (by decide) (by decide) dX4_cause_54 rfl)) ?_
  refine gcons (snd_g (ok_if_eq dX4_cause_57 rfl rfl)) ?_
  refine gcons (snd_g (ok_aload_n dX4_cause_60 rfl rfl)) ?_
  refine gcons (snd_g (ok_getfield (C := RX4) (T := TX4) (n := 8) rfl in_X4 (by decide) w_100 dX4_cause_61 rfl)) ?_
  refine gcons (snd_g (ok_invokevirtual M_Jx4a65c_size_8abf5 (C := RJx4a65c) (T := TJx4a65c) (nf := 3) rfl w_142 w_143 w_144 w_23 w_145 ⟨rfl, by decide, by decide, by decide +kernel⟩ (by decide) (by decide) dX4_cause_64 rfl)) ?_
  refine gcons (snd_g (ok_bipush dX4_cause_67 rfl rfl)) ?_
  refine gcons (snd_g (ok_icmp_ge dX4_cause_69 rfl rfl)) ?_
  refine gcons (snd_g (ok_iconst dX4_cause_72 rfl rfl)) ?_
  refine gcons (snd_g (ok_goto dX4_cause_73 rfl)) ?_
  refine gcons (snd_g (ok_iconst dX4_cause_76 rfl rfl)) ?_
  refine gcons (snd_g (ok_invokestatic M_X4_checkPossible w_240 w_241 w_20 w_242 ⟨by decide, by decide, by decide +kernel⟩ (by decide) (by decide) dX4_cause_77 rfl)) ?_
  refine gcons (snd_g (ok_aload_n dX4_cause_80 rfl rfl)) ?_
  refine gcons (snd_g (ok_getfield (C := RX4) (T := TX4) (n := 8) rfl in_X4 (by decide) w_100 dX4_cause_81 rfl)) ?_
  refine gcons (ok_newC rfl rfl w_533 w_561 w_39 w_562 w_563 w_564 (by decide) dX4_cause_84 dX4_cause_87 dX4_cause_88 dX4_cause_89 dX4_cause_90 rfl) ?_
  refine gcons (ok_invokevirtualG M_Jx4a65c_add_9ea2d (C := RJx4a65c) (T := TJx4a65c) (nf := 3) rfl w_301 w_302 w_303 w_23 w_304 ⟨rfl, by decide, by decide, by decide +kernel⟩ (by decide) (by decide) dX4_cause_93 rfl) ?_
  refine gcons (snd_g (ok_pop dX4_cause_96 rfl)) ?_
  refine gcons (snd_g (ok_aload_n dX4_cause_97 rfl rfl)) ?_
  refine gcons (snd_g (ok_getfield (C := RX4) (T := TX4) (n := 8) rfl in_X4 (by decide) w_100 dX4_cause_98 rfl)) ?_
  refine gcons (snd_g (ok_invokevirtual M_Jx4a65c_size_8abf5 (C := RJx4a65c) (T := TJx4a65c) (nf := 3) rfl w_142 w_143 w_144 w_23 w_145 ⟨rfl, by decide, by decide, by decide +kernel⟩ (by decide) (by decide) dX4_cause_101 rfl)) ?_
  refine gcons (snd_g (ok_iconst dX4_cause_104 rfl rfl)) ?_
  refine gcons (snd_g (ok_isub dX4_cause_105 rfl)) ?_
  refine gcons (snd_g (ok_ireturn rfl dX4_cause_106)) ?_
  exact fun _ h => nomatch h
def sp_X4_cause : Spc := fun av s N X => match av with
  | [.inl (.inr (1, 0)), .inl (.inl v), .inl (.inl a), .inl (.inl x), .inl (.inl b)] => CI s ∧ GI s ∧ (b = 0 ∨ b = 1) ∧ chk (iC s 1 v) 1 s X (chk ((0 ≤ a ∧ a < 8) ∧ (1 ≤ x ∧ x ≤ 127)) 2 s X (chk (¬ b = 0 ∨ icourt s (cl v) a) 3 s X (chk (mbj s v ∧ nI (s.1 2) < 30) 3 s X
      (N (some (aI (nI ((cauS s v x).1 2) - 1))) (cauS s v x)))))
  | _ => False
set_option maxRecDepth 20000 in
set_option maxHeartbeats 2000000 in
theorem M_X4_cause : GMet yX4_cause cX4_cause 6 (some .int) 10 16 sp_X4_cause := by
  refine GMet.mk (own := RX4) (by decide) rfl [0, 1, 2, 3, 4, 5] rfl tok_X4_cause 200 ?_
  intro av s0 N X h
  unfold sp_X4_cause at h
  split at h
  rotate_left
  · exact h.elim
  rename_i v a x b
  obtain ⟨hC, hG, hb, h⟩ := h
  repeat' (first | apply And.intro | (intro q; exact absurd q (by decide)) | intro _)
  all_goals first | decide | (exact (rfl : (0 : Nat) = 0)) | (exact Nat.le_of_ble_eq_true rfl) | (exact hC) | (exact iC_v hC (by assumption)) | (exact absurd (by assumption) (by assumption : ¬ iC s0 1 _)) | (simp_all [-Int32.not_lt, -Int32.not_le, chk]; done) | (simp_all [-Int32.not_lt, -Int32.not_le, ← Int32.not_le, chk]; done) | (simp_all [chk]; done) | skip
  all_goals
    have hG' := of_eq_true hG
    have hg1 := of_eq_true (CI_2 hC)
    first
    | exact hG'.1.2.2
    | exact hG'.2.1.2.2
    | exact hG'.2.2.1
    | exact trivial
    | exact (by assumption : iC s0 1 v)
    | exact iC_v hC (by assumption : iC s0 1 v)
    | exact Lv_newC (iC_v hC (by assumption : iC s0 1 v))
    | exact (newC_1 (by decide)).symm
    | exact newC_8
    | exact Nat.le_trans (Nat.le_of_eq (newC_1 (by decide))) (Nat.le_of_lt ((nI_ltI (by omega) (by decide)).mp (show nI (s0.1 2) < nI 30 from Int32.not_le.mp (by assumption))))
    | exact (newC_1 (by decide)).trans hG'.2.2.1
    | exact (newC_1 (by decide)).trans hG'.2.1.2.2
    | exact hg1.1
    | exact hG'.2.2.2.1.2.2
    | exact hG'.2.2.2.2.2.2 (by assumption)
    | exact Nat.le_of_lt ((nI_ltI (by omega) (by decide)).mp (show nI (s0.1 2) < nI 30 from Int32.not_le.mp (by assumption)))
    | skip
  all_goals
    have h3 : (0 ≤ a ∧ a < 8) ∧ (1 ≤ x ∧ x ≤ 127) := ⟨by assumption, by assumption⟩
    have h4 : ¬ b = 0 ∨ icourt s0 (cl v) a := by first | exact Or.inl (by assumption) | exact Or.inr (by assumption)
    have h5 : mbj s0 v ∧ nI (s0.1 2) < 30 := ⟨by assumption, Int32.not_le.mp (by assumption)⟩
    exact ((((h.2 (by assumption)).2 h3).2 h4).2 h5)

