/-! VowCourt.vow, cause -/
theorem w_457 : (.methodLink "VowCourt" 115 ⟨"VowCourt$Person", "mayVow", "()Z"⟩ : Cond) ∈ TB := TB_mem (List.mem_of_getElem? (i := 457) (by decide +kernel)) rfl
theorem w_458 : (.instanceMethod ⟨"VowCourt$Person", "mayVow", "()Z"⟩ : Cond) ∈ TB := TB_mem (List.mem_of_getElem? (i := 458) (by decide +kernel)) rfl
theorem w_459 : (.selects "VowCourt$Person" ⟨"VowCourt$Person", "mayVow", "()Z"⟩ ⟨"VowCourt$Person", "mayVow", "()Z"⟩ : Cond) ∈ TB := TB_mem (List.mem_of_getElem? (i := 459) (by decide +kernel)) rfl
theorem w_460 : (.code yX2_mayVow cX2_mayVow 1 (some .boolean) : Cond) ∈ TB := TB_mem (List.mem_of_getElem? (i := 460) (by decide +kernel)) rfl
theorem w_461 : (.instantiable "VowCourt$Vow" 8 : Cond) ∈ TB := TB_mem (List.mem_of_getElem? (i := 461) (by decide +kernel)) rfl
theorem w_462 : (.methodLink "VowCourt" 121 ⟨"VowCourt$Vow", "<init>", "(IIIIIZ)V"⟩ : Cond) ∈ TB := TB_mem (List.mem_of_getElem? (i := 462) (by decide +kernel)) rfl
theorem w_463 : (.instanceMethod ⟨"VowCourt$Vow", "<init>", "(IIIIIZ)V"⟩ : Cond) ∈ TB := TB_mem (List.mem_of_getElem? (i := 463) (by decide +kernel)) rfl
theorem w_464 : (.code yX3_init cX3_init 7 none : Cond) ∈ TB := TB_mem (List.mem_of_getElem? (i := 464) (by decide +kernel)) rfl
def mayV (s : Sg) (p : Int32) : Prop := ¬ s.2.1 12 (cl p) 5 = 0 ∧ s.2.1 12 (cl p) 4 = 0
def wantsF (s : Sg) (p q : Int32) : Prop := s.2.1 12 (cl p) 2 = 0 ∨ s.2.1 12 (cl q) 2 = 0
def hasF (s : Sg) (a w : Int32) : Prop := s.2.1 1 0 7 < s.2.1 10 (cl w) (cl a) ∨ ¬ s.2.1 11 0 (cl a) = 0
noncomputable def vowT (s : Sg) (p q a f : Int32) : Sg := viC (newS s 1 1) (s.1 1) p q a ((newS s 1 1).2.1 1 0 7) (lhC (newS s 1 1) p q) f
noncomputable def vowS (s : Sg) (p q a f : Int32) : Sg := addS (stS (vowT s p q a f) 2 1 0 ((vowT s p q a f).2.1 2 1 0 + 1)) 1
theorem CI_newV {s : Sg} {p : Int32} (hC : CI s) (h7 : s.1 7 = 0) (hp : iC s 0 p) : CI (newS s 1 1) := by
  have h := of_eq_true hC
  refine eq_true ⟨h.1, h.2.1, h.2.2.1, h.2.2.2.1, fun v hv => ?_, fun c hc => ?_⟩
  · have hv' : v < s.1 1 + 1 := hv
    by_cases hv1 : v = s.1 1
    · subst hv1
      rw [show (newS s 1 1).2.1 13 (s.1 1) 0 = 0 from newS_0, show (newS s 1 1).2.1 13 (s.1 1) 1 = 0 from newS_0]
      have h0 : iC (newS s 1 1) 0 0 := eq_true ⟨by decide, Int32.lt_of_le_of_lt (iC0 hp) (iC1 hp)⟩
      exact ⟨h0, h0⟩
    · rw [newS_2 (fun hc => hv1 hc.2), newS_2 (fun hc => hv1 hc.2)]
      exact h.2.2.2.2.1 v (show v < s.1 1 + s.1 7 by omega)
  · rw [newS_2 (fun hc => by omega)]
    exact h.2.2.2.2.2 c hc
theorem ib_of {j : Int32} {n : Nat} (hn : n < 2 ^ 30) (h : 0 ≤ j ∧ j < nI n) : Ib j n ∧ j.toNatClampNeg < n := by
  have hnn : ¬ j < 0 := Int32.not_lt.mpr h.1
  obtain ⟨q, hq, rfl⟩ := nI_of hnn
  have hl := (nI_ltI hq (by omega)).mp h.2
  exact ⟨nIb hl hn, by rw [nI_clamp hq]; exact hl⟩
theorem viC_1 {s : Sg} {i : Nat} {p q a t l f : Int32} : (viC s i p q a t l f).1 = s.1 := rfl
theorem Lv_viC {s : Sg} {i j : Nat} {p q a t l f : Int32} (h : Lv s 12 j) : Lv (viC (newS s 1 1) i p q a t l f) 12 j := by
  show j < (newS s 1 1).1 0 + (newS s 1 1).1 6
  rw [newS_1 (by decide), newS_1 (by decide)]
  exact h
theorem viC_c {s : Sg} {i c : Nat} {p q a t l f : Int32} (h : ¬ c = 7) : (viC (newS s 1 1) i p q a t l f).1 c = s.1 c := by
  rw [viC_1, newS_1 (by omega)]
theorem viC_7 {s : Sg} {i : Nat} {p q a t l f : Int32} : (viC (newS s 1 1) i p q a t l f).1 (6 + 1) = 1 := by
  rw [viC_1]
  exact stC_eq
theorem dX4_vow_0 : decode cX4_vow 0 = .ok (.aload_n 0, 1) := by decide +kernel
theorem dX4_vow_1 : decode cX4_vow 1 = .ok (.iload_n 1, 1) := by decide +kernel
theorem dX4_vow_2 : decode cX4_vow 2 = .ok (.invokevirtual 80, 3) := by decide +kernel
theorem dX4_vow_5 : decode cX4_vow 5 = .ok (.astore 5, 2) := by decide +kernel
theorem dX4_vow_7 : decode cX4_vow 7 = .ok (.aload_n 0, 1) := by decide +kernel
theorem dX4_vow_8 : decode cX4_vow 8 = .ok (.iload_n 2, 1) := by decide +kernel
theorem dX4_vow_9 : decode cX4_vow 9 = .ok (.invokevirtual 80, 3) := by decide +kernel
theorem dX4_vow_12 : decode cX4_vow 12 = .ok (.astore 6, 2) := by decide +kernel
theorem dX4_vow_14 : decode cX4_vow 14 = .ok (.iload_n 1, 1) := by decide +kernel
theorem dX4_vow_15 : decode cX4_vow 15 = .ok (.iload_n 2, 1) := by decide +kernel
theorem dX4_vow_16 : decode cX4_vow 16 = .ok (.if_icmp .eq 22, 3) := by decide +kernel
theorem dX4_vow_19 : decode cX4_vow 19 = .ok (.iload_n 3, 1) := by decide +kernel
theorem dX4_vow_20 : decode cX4_vow 20 = .ok (.invokestatic 57, 3) := by decide +kernel
theorem dX4_vow_23 : decode cX4_vow 23 = .ok (.ifCond .eq 15, 3) := by decide +kernel
theorem dX4_vow_26 : decode cX4_vow 26 = .ok (.iload 4, 2) := by decide +kernel
theorem dX4_vow_28 : decode cX4_vow 28 = .ok (.invokestatic 112, 3) := by decide +kernel
theorem dX4_vow_31 : decode cX4_vow 31 = .ok (.ifCond .eq 7, 3) := by decide +kernel
theorem dX4_vow_34 : decode cX4_vow 34 = .ok (.iconst 1, 1) := by decide +kernel
theorem dX4_vow_35 : decode cX4_vow 35 = .ok (.goto 4, 3) := by decide +kernel
theorem dX4_vow_38 : decode cX4_vow 38 = .ok (.iconst 0, 1) := by decide +kernel
theorem dX4_vow_39 : decode cX4_vow 39 = .ok (.invokestatic 53, 3) := by decide +kernel
theorem dX4_vow_42 : decode cX4_vow 42 = .ok (.aload 5, 2) := by decide +kernel
theorem dX4_vow_44 : decode cX4_vow 44 = .ok (.invokevirtual 115, 3) := by decide +kernel
theorem dX4_vow_47 : decode cX4_vow 47 = .ok (.ifCond .eq 27, 3) := by decide +kernel
theorem dX4_vow_50 : decode cX4_vow 50 = .ok (.aload 6, 2) := by decide +kernel
theorem dX4_vow_52 : decode cX4_vow 52 = .ok (.invokevirtual 115, 3) := by decide +kernel
theorem dX4_vow_55 : decode cX4_vow 55 = .ok (.ifCond .eq 19, 3) := by decide +kernel
theorem dX4_vow_58 : decode cX4_vow 58 = .ok (.aload_n 0, 1) := by decide +kernel
theorem dX4_vow_59 : decode cX4_vow 59 = .ok (.getfield 16, 3) := by decide +kernel
theorem dX4_vow_62 : decode cX4_vow 62 = .ok (.invokevirtual 60, 3) := by decide +kernel
theorem dX4_vow_65 : decode cX4_vow 65 = .ok (.bipush 30, 2) := by decide +kernel
theorem dX4_vow_67 : decode cX4_vow 67 = .ok (.if_icmp .ge 7, 3) := by decide +kernel
theorem dX4_vow_70 : decode cX4_vow 70 = .ok (.iconst 1, 1) := by decide +kernel
theorem dX4_vow_71 : decode cX4_vow 71 = .ok (.goto 4, 3) := by decide +kernel
theorem dX4_vow_74 : decode cX4_vow 74 = .ok (.iconst 0, 1) := by decide +kernel
theorem dX4_vow_75 : decode cX4_vow 75 = .ok (.invokestatic 64, 3) := by decide +kernel
theorem dX4_vow_78 : decode cX4_vow 78 = .ok (.aload 5, 2) := by decide +kernel
theorem dX4_vow_80 : decode cX4_vow 80 = .ok (.getfield 84, 3) := by decide +kernel
theorem dX4_vow_83 : decode cX4_vow 83 = .ok (.ifCond .eq 11, 3) := by decide +kernel
theorem dX4_vow_86 : decode cX4_vow 86 = .ok (.aload 6, 2) := by decide +kernel
theorem dX4_vow_88 : decode cX4_vow 88 = .ok (.getfield 84, 3) := by decide +kernel
theorem dX4_vow_91 : decode cX4_vow 91 = .ok (.ifCond .ne 7, 3) := by decide +kernel
theorem dX4_vow_94 : decode cX4_vow 94 = .ok (.iconst 1, 1) := by decide +kernel
theorem dX4_vow_95 : decode cX4_vow 95 = .ok (.goto 4, 3) := by decide +kernel
theorem dX4_vow_98 : decode cX4_vow 98 = .ok (.iconst 0, 1) := by decide +kernel
theorem dX4_vow_99 : decode cX4_vow 99 = .ok (.istore 7, 2) := by decide +kernel
theorem dX4_vow_101 : decode cX4_vow 101 = .ok (.aload_n 0, 1) := by decide +kernel
theorem dX4_vow_102 : decode cX4_vow 102 = .ok (.getfield 41, 3) := by decide +kernel
theorem dX4_vow_105 : decode cX4_vow 105 = .ok (.aload_n 0, 1) := by decide +kernel
theorem dX4_vow_106 : decode cX4_vow 106 = .ok (.getfield 34, 3) := by decide +kernel
theorem dX4_vow_109 : decode cX4_vow 109 = .ok (.iload 4, 2) := by decide +kernel
theorem dX4_vow_111 : decode cX4_vow 111 = .ok (.aaload, 1) := by decide +kernel
theorem dX4_vow_112 : decode cX4_vow 112 = .ok (.iload_n 3, 1) := by decide +kernel
theorem dX4_vow_113 : decode cX4_vow 113 = .ok (.iaload, 1) := by decide +kernel
theorem dX4_vow_114 : decode cX4_vow 114 = .ok (.if_icmp .lt 12, 3) := by decide +kernel
theorem dX4_vow_117 : decode cX4_vow 117 = .ok (.aload_n 0, 1) := by decide +kernel
theorem dX4_vow_118 : decode cX4_vow 118 = .ok (.getfield 37, 3) := by decide +kernel
theorem dX4_vow_121 : decode cX4_vow 121 = .ok (.iload_n 3, 1) := by decide +kernel
theorem dX4_vow_122 : decode cX4_vow 122 = .ok (.baload, 1) := by decide +kernel
theorem dX4_vow_123 : decode cX4_vow 123 = .ok (.ifCond .eq 7, 3) := by decide +kernel
theorem dX4_vow_126 : decode cX4_vow 126 = .ok (.iconst 1, 1) := by decide +kernel
theorem dX4_vow_127 : decode cX4_vow 127 = .ok (.goto 4, 3) := by decide +kernel
theorem dX4_vow_130 : decode cX4_vow 130 = .ok (.iconst 0, 1) := by decide +kernel
theorem dX4_vow_131 : decode cX4_vow 131 = .ok (.istore 8, 2) := by decide +kernel
theorem dX4_vow_133 : decode cX4_vow 133 = .ok (.aload_n 0, 1) := by decide +kernel
theorem dX4_vow_134 : decode cX4_vow 134 = .ok (.getfield 16, 3) := by decide +kernel
theorem dX4_vow_137 : decode cX4_vow 137 = .ok (.new 119, 3) := by decide +kernel
theorem dX4_vow_140 : decode cX4_vow 140 = .ok (.dup, 1) := by decide +kernel
theorem dX4_vow_141 : decode cX4_vow 141 = .ok (.iload_n 1, 1) := by decide +kernel
theorem dX4_vow_142 : decode cX4_vow 142 = .ok (.iload_n 2, 1) := by decide +kernel
theorem dX4_vow_143 : decode cX4_vow 143 = .ok (.iload_n 3, 1) := by decide +kernel
theorem dX4_vow_144 : decode cX4_vow 144 = .ok (.aload_n 0, 1) := by decide +kernel
theorem dX4_vow_145 : decode cX4_vow 145 = .ok (.getfield 41, 3) := by decide +kernel
theorem dX4_vow_148 : decode cX4_vow 148 = .ok (.aload_n 0, 1) := by decide +kernel
theorem dX4_vow_149 : decode cX4_vow 149 = .ok (.iload_n 1, 1) := by decide +kernel
theorem dX4_vow_150 : decode cX4_vow 150 = .ok (.iload_n 2, 1) := by decide +kernel
theorem dX4_vow_151 : decode cX4_vow 151 = .ok (.invokevirtual 104, 3) := by decide +kernel
theorem dX4_vow_154 : decode cX4_vow 154 = .ok (.iload 7, 2) := by decide +kernel
theorem dX4_vow_156 : decode cX4_vow 156 = .ok (.ifCond .eq 12, 3) := by decide +kernel
theorem dX4_vow_159 : decode cX4_vow 159 = .ok (.iload 8, 2) := by decide +kernel
theorem dX4_vow_161 : decode cX4_vow 161 = .ok (.ifCond .ne 7, 3) := by decide +kernel
theorem dX4_vow_164 : decode cX4_vow 164 = .ok (.iconst 1, 1) := by decide +kernel
theorem dX4_vow_165 : decode cX4_vow 165 = .ok (.goto 4, 3) := by decide +kernel
theorem dX4_vow_168 : decode cX4_vow 168 = .ok (.iconst 0, 1) := by decide +kernel
theorem dX4_vow_169 : decode cX4_vow 169 = .ok (.invokespecial 121, 3) := by decide +kernel
theorem dX4_vow_172 : decode cX4_vow 172 = .ok (.invokevirtual 76, 3) := by decide +kernel
theorem dX4_vow_175 : decode cX4_vow 175 = .ok (.pop, 1) := by decide +kernel
theorem dX4_vow_176 : decode cX4_vow 176 = .ok (.aload_n 0, 1) := by decide +kernel
theorem dX4_vow_177 : decode cX4_vow 177 = .ok (.getfield 16, 3) := by decide +kernel
theorem dX4_vow_180 : decode cX4_vow 180 = .ok (.invokevirtual 60, 3) := by decide +kernel
theorem dX4_vow_183 : decode cX4_vow 183 = .ok (.iconst 1, 1) := by decide +kernel
theorem dX4_vow_184 : decode cX4_vow 184 = .ok (.isub, 1) := by decide +kernel
theorem dX4_vow_185 : decode cX4_vow 185 = .ok (.ireturn, 1) := by decide +kernel
def tab_X4_vow : List (Nat × Sem) := [(0, op_al 0 1), (1, op_il 1 2), (2, op_callV 6 sp_X4_personAt 2 1 5), (5, op_as 5 7), (7, op_al 0 8), (8, op_il 2 9), (9, op_callV 6 sp_X4_personAt 2 1 12), (12, op_as 6 14), (14, op_il 1 15), (15, op_il 2 16), (16, op_cmp (fun x y => x = y) 38 19), (19, op_il 3 20), (20, op_call sp_X4_isPlace 1 0 23), (23, op_if (fun x => x = 0) 38 26), (26, op_il 4 28), (28, op_call sp_X4_isWitness 1 0 31), (31, op_if (fun x => x = 0) 38 34), (34, op_ic 1 35), (35, op_go 39), (38, op_ic 0 39), (39, op_call sp_X4_checkArgument 1 1 42), (42, op_al 5 44), (44, op_callV 4 sp_X2_mayVow 1 0 47), (47, op_if (fun x => x = 0) 74 50), (50, op_al 6 52), (52, op_callV 4 sp_X2_mayVow 1 0 55), (55, op_if (fun x => x = 0) 74 58), (58, op_al 0 59), (59, op_gf 6 1 62), (62, op_callV 1 sp_Jx4a65c_size_8abf5 1 0 65), (65, op_ic 30 67), (67, op_cmp (fun x y => y ≤ x) 74 70), (70, op_ic 1 71), (71, op_go 75), (74, op_ic 0 75), (75, op_call sp_X4_checkPossible 1 1 78), (78, op_al 5 80), (80, op_gf 4 2 83), (83, op_if (fun x => x = 0) 94 86), (86, op_al 6 88), (88, op_gf 4 2 91), (91, op_if (fun x => ¬ x = 0) 98 94), (94, op_ic 1 95), (95, op_go 99), (98, op_ic 0 99), (99, op_is 7 101), (101, op_al 0 102), (102, op_gf 6 7 105), (105, op_al 0 106), (106, op_gf 6 5 109), (109, op_il 4 111), (111, op_aald 112), (112, op_il 3 113), (113, op_iald 114), (114, op_cmp (fun x y => x < y) 126 117), (117, op_al 0 118), (118, op_gf 6 6 121), (121, op_il 3 122), (122, op_bald 123), (123, op_if (fun x => x = 0) 130 126), (126, op_ic 1 127), (127, op_go 131), (130, op_ic 0 131), (131, op_is 8 133), (133, op_al 0 134), (134, op_gf 6 1 137), (137, op_newP 1 140), (140, op_dup 141), (141, op_il 1 142), (142, op_il 2 143), (143, op_il 3 144), (144, op_al 0 145), (145, op_gf 6 7 148), (148, op_al 0 149), (149, op_il 1 150), (150, op_il 2 151), (151, op_callV 6 sp_X4_lastingHindrances 3 4 154), (154, op_il 7 156), (156, op_if (fun x => x = 0) 168 159), (159, op_il 8 161), (161, op_if (fun x => ¬ x = 0) 168 164), (164, op_ic 1 165), (165, op_go 169), (168, op_ic 0 169), (169, op_callI sp_X3_init 7 0 172), (172, op_callGV 1 sp_Jx4a65c_add_9ea2d 2 2 175), (175, op_pop 176), (176, op_al 0 177), (177, op_gf 6 1 180), (180, op_callV 1 sp_Jx4a65c_size_8abf5 1 0 183), (183, op_ic 1 184), (184, op_bin (fun x y => x - y) 185), (185, op_iret)]
set_option maxRecDepth 20000 in
theorem tok_X4_vow : ∀ q ∈ tab_X4_vow, GSnd RX4 cX4_vow 9 10 13 (some .int) q.1 q.2 := by
  unfold tab_X4_vow
  refine gcons (snd_g (ok_aload_n dX4_vow_0 rfl rfl)) ?_
  refine gcons (snd_g (ok_iload_n dX4_vow_1 rfl rfl)) ?_
  refine gcons (snd_g (ok_invokevirtual M_X4_personAt (C := RX4) (T := TX4) (nf := 8) rfl w_360 w_362 w_5 w_20 w_363 ⟨rfl, by decide, by decide, by decide +kernel⟩ (by decide) (by decide) dX4_vow_2 rfl)) ?_
  refine gcons (snd_g (ok_astore dX4_vow_5 (by decide) rfl)) ?_
  refine gcons (snd_g (ok_aload_n dX4_vow_7 rfl rfl)) ?_
  refine gcons (snd_g (ok_iload_n dX4_vow_8 rfl rfl)) ?_
  refine gcons (snd_g (ok_invokevirtual M_X4_personAt (C := RX4) (T := TX4) (nf := 8) rfl w_360 w_362 w_5 w_20 w_363 ⟨rfl, by decide, by decide, by decide +kernel⟩ (by decide) (by decide) dX4_vow_9 rfl)) ?_
  refine gcons (snd_g (ok_astore dX4_vow_12 (by decide) rfl)) ?_
  refine gcons (snd_g (ok_iload_n dX4_vow_14 rfl rfl)) ?_
  refine gcons (snd_g (ok_iload_n dX4_vow_15 rfl rfl)) ?_
  refine gcons (snd_g (ok_icmp_eq dX4_vow_16 rfl rfl)) ?_
  refine gcons (snd_g (ok_iload_n dX4_vow_19 rfl rfl)) ?_
  refine gcons (snd_g (ok_invokestatic M_X4_isPlace w_237 w_238 w_20 w_239 ⟨by decide, by decide, by decide +kernel⟩ (by decide) (by decide) dX4_vow_20 rfl)) ?_
  refine gcons (snd_g (ok_if_eq dX4_vow_23 rfl rfl)) ?_
  refine gcons (snd_g (ok_iload dX4_vow_26 rfl)) ?_
  refine gcons (snd_g (ok_invokestatic M_X4_isWitness w_446 w_447 w_20 w_448 ⟨by decide, by decide, by decide +kernel⟩ (by decide) (by decide) dX4_vow_28 rfl)) ?_
  refine gcons (snd_g (ok_if_eq dX4_vow_31 rfl rfl)) ?_
  refine gcons (snd_g (ok_iconst dX4_vow_34 rfl rfl)) ?_
  refine gcons (snd_g (ok_goto dX4_vow_35 rfl)) ?_
  refine gcons (snd_g (ok_iconst dX4_vow_38 rfl rfl)) ?_
  refine gcons (snd_g (ok_invokestatic M_X4_checkArgument w_217 w_218 w_20 w_219 ⟨by decide, by decide, by decide +kernel⟩ (by decide) (by decide) dX4_vow_39 rfl)) ?_
  refine gcons (snd_g (ok_aload dX4_vow_42 rfl)) ?_
  refine gcons (snd_g (ok_invokevirtual M_X2_mayVow (C := RX2) (T := TX2) (nf := 6) rfl w_457 w_458 w_459 w_33 w_460 ⟨rfl, by decide, by decide, by decide +kernel⟩ (by decide) (by decide) dX4_vow_44 rfl)) ?_
  refine gcons (snd_g (ok_if_eq dX4_vow_47 rfl rfl)) ?_
  refine gcons (snd_g (ok_aload dX4_vow_50 rfl)) ?_
  refine gcons (snd_g (ok_invokevirtual M_X2_mayVow (C := RX2) (T := TX2) (nf := 6) rfl w_457 w_458 w_459 w_33 w_460 ⟨rfl, by decide, by decide, by decide +kernel⟩ (by decide) (by decide) dX4_vow_52 rfl)) ?_
  refine gcons (snd_g (ok_if_eq dX4_vow_55 rfl rfl)) ?_
  refine gcons (snd_g (ok_aload_n dX4_vow_58 rfl rfl)) ?_
  refine gcons (snd_g (ok_getfield (C := RX4) (T := TX4) (n := 8) rfl in_X4 (by decide) w_99 dX4_vow_59 rfl)) ?_
  refine gcons (snd_g (ok_invokevirtual M_Jx4a65c_size_8abf5 (C := RJx4a65c) (T := TJx4a65c) (nf := 3) rfl w_142 w_143 w_144 w_23 w_145 ⟨rfl, by decide, by decide, by decide +kernel⟩ (by decide) (by decide) dX4_vow_62 rfl)) ?_
  refine gcons (snd_g (ok_bipush dX4_vow_65 rfl rfl)) ?_
  refine gcons (snd_g (ok_icmp_ge dX4_vow_67 rfl rfl)) ?_
  refine gcons (snd_g (ok_iconst dX4_vow_70 rfl rfl)) ?_
  refine gcons (snd_g (ok_goto dX4_vow_71 rfl)) ?_
  refine gcons (snd_g (ok_iconst dX4_vow_74 rfl rfl)) ?_
  refine gcons (snd_g (ok_invokestatic M_X4_checkPossible w_240 w_241 w_20 w_242 ⟨by decide, by decide, by decide +kernel⟩ (by decide) (by decide) dX4_vow_75 rfl)) ?_
  refine gcons (snd_g (ok_aload dX4_vow_78 rfl)) ?_
  refine gcons (snd_g (ok_getfield (C := RX2) (T := TX2) (n := 6) rfl in_X2 (by decide) w_281 dX4_vow_80 rfl)) ?_
  refine gcons (snd_g (ok_if_eq dX4_vow_83 rfl rfl)) ?_
  refine gcons (snd_g (ok_aload dX4_vow_86 rfl)) ?_
  refine gcons (snd_g (ok_getfield (C := RX2) (T := TX2) (n := 6) rfl in_X2 (by decide) w_281 dX4_vow_88 rfl)) ?_
  refine gcons (snd_g (ok_if_ne dX4_vow_91 rfl rfl)) ?_
  refine gcons (snd_g (ok_iconst dX4_vow_94 rfl rfl)) ?_
  refine gcons (snd_g (ok_goto dX4_vow_95 rfl)) ?_
  refine gcons (snd_g (ok_iconst dX4_vow_98 rfl rfl)) ?_
  refine gcons (snd_g (ok_istore dX4_vow_99 (by decide) rfl)) ?_
  refine gcons (snd_g (ok_aload_n dX4_vow_101 rfl rfl)) ?_
  refine gcons (snd_g (ok_getfield (C := RX4) (T := TX4) (n := 8) rfl in_X4 (by decide) w_105 dX4_vow_102 rfl)) ?_
  refine gcons (snd_g (ok_aload_n dX4_vow_105 rfl rfl)) ?_
  refine gcons (snd_g (ok_getfield (C := RX4) (T := TX4) (n := 8) rfl in_X4 (by decide) w_103 dX4_vow_106 rfl)) ?_
  refine gcons (snd_g (ok_iload dX4_vow_109 rfl)) ?_
  refine gcons (snd_g (ok_aaload dX4_vow_111 rfl)) ?_
  refine gcons (snd_g (ok_iload_n dX4_vow_112 rfl rfl)) ?_
  refine gcons (snd_g (ok_iaload dX4_vow_113 rfl)) ?_
  refine gcons (snd_g (ok_icmp_lt dX4_vow_114 rfl rfl)) ?_
  refine gcons (snd_g (ok_aload_n dX4_vow_117 rfl rfl)) ?_
  refine gcons (snd_g (ok_getfield (C := RX4) (T := TX4) (n := 8) rfl in_X4 (by decide) w_104 dX4_vow_118 rfl)) ?_
  refine gcons (snd_g (ok_iload_n dX4_vow_121 rfl rfl)) ?_
  refine gcons (snd_g (ok_baload dX4_vow_122 rfl)) ?_
  refine gcons (snd_g (ok_if_eq dX4_vow_123 rfl rfl)) ?_
  refine gcons (snd_g (ok_iconst dX4_vow_126 rfl rfl)) ?_
  refine gcons (snd_g (ok_goto dX4_vow_127 rfl)) ?_
  refine gcons (snd_g (ok_iconst dX4_vow_130 rfl rfl)) ?_
  refine gcons (snd_g (ok_istore dX4_vow_131 (by decide) rfl)) ?_
  refine gcons (snd_g (ok_aload_n dX4_vow_133 rfl rfl)) ?_
  refine gcons (snd_g (ok_getfield (C := RX4) (T := TX4) (n := 8) rfl in_X4 (by decide) w_99 dX4_vow_134 rfl)) ?_
  refine gcons (ok_newP (a := 1) (C := RX3) (T := TX3) (n := 8) tyX3 (by decide) rfl rfl (fun _ _ => rfl) in_X3 tyX3_ok (by intro j hj; match j, hj with | 0, _ => rfl | 1, _ => rfl | 2, _ => rfl | 3, _ => rfl | 4, _ => rfl | 5, _ => rfl | 6, _ => rfl | 7, _ => rfl) w_401 w_461 w_38 (by decide) dX4_vow_137 rfl) ?_
  refine gcons (snd_g (ok_dup dX4_vow_140 rfl)) ?_
  refine gcons (snd_g (ok_iload_n dX4_vow_141 rfl rfl)) ?_
  refine gcons (snd_g (ok_iload_n dX4_vow_142 rfl rfl)) ?_
  refine gcons (snd_g (ok_iload_n dX4_vow_143 rfl rfl)) ?_
  refine gcons (snd_g (ok_aload_n dX4_vow_144 rfl rfl)) ?_
  refine gcons (snd_g (ok_getfield (C := RX4) (T := TX4) (n := 8) rfl in_X4 (by decide) w_105 dX4_vow_145 rfl)) ?_
  refine gcons (snd_g (ok_aload_n dX4_vow_148 rfl rfl)) ?_
  refine gcons (snd_g (ok_iload_n dX4_vow_149 rfl rfl)) ?_
  refine gcons (snd_g (ok_iload_n dX4_vow_150 rfl rfl)) ?_
  refine gcons (snd_g (ok_invokevirtual M_X4_lastingHindrances (C := RX4) (T := TX4) (nf := 8) rfl w_417 w_419 w_7 w_20 w_420 ⟨rfl, by decide, by decide, by decide +kernel⟩ (by decide) (by decide) dX4_vow_151 rfl)) ?_
  refine gcons (snd_g (ok_iload dX4_vow_154 rfl)) ?_
  refine gcons (snd_g (ok_if_eq dX4_vow_156 rfl rfl)) ?_
  refine gcons (snd_g (ok_iload dX4_vow_159 rfl)) ?_
  refine gcons (snd_g (ok_if_ne dX4_vow_161 rfl rfl)) ?_
  refine gcons (snd_g (ok_iconst dX4_vow_164 rfl rfl)) ?_
  refine gcons (snd_g (ok_goto dX4_vow_165 rfl)) ?_
  refine gcons (snd_g (ok_iconst dX4_vow_168 rfl rfl)) ?_
  refine gcons (snd_g (ok_invokeinit M_X3_init w_462 w_463 w_38 w_464 rfl ⟨by decide, by decide, by decide +kernel⟩ (by decide) (by decide) dX4_vow_169 rfl)) ?_
  refine gcons (ok_invokevirtualG M_Jx4a65c_add_9ea2d (C := RJx4a65c) (T := TJx4a65c) (nf := 3) rfl w_301 w_302 w_303 w_23 w_304 ⟨rfl, by decide, by decide, by decide +kernel⟩ (by decide) (by decide) dX4_vow_172 rfl) ?_
  refine gcons (snd_g (ok_pop dX4_vow_175 rfl)) ?_
  refine gcons (snd_g (ok_aload_n dX4_vow_176 rfl rfl)) ?_
  refine gcons (snd_g (ok_getfield (C := RX4) (T := TX4) (n := 8) rfl in_X4 (by decide) w_99 dX4_vow_177 rfl)) ?_
  refine gcons (snd_g (ok_invokevirtual M_Jx4a65c_size_8abf5 (C := RJx4a65c) (T := TJx4a65c) (nf := 3) rfl w_142 w_143 w_144 w_23 w_145 ⟨rfl, by decide, by decide, by decide +kernel⟩ (by decide) (by decide) dX4_vow_180 rfl)) ?_
  refine gcons (snd_g (ok_iconst dX4_vow_183 rfl rfl)) ?_
  refine gcons (snd_g (ok_isub dX4_vow_184 rfl)) ?_
  refine gcons (snd_g (ok_ireturn rfl dX4_vow_185)) ?_
  exact fun _ h => nomatch h
def sp_X4_vow : Spc := fun av s N X => match av with
  | [.inl (.inr (1, 0)), .inl (.inl p), .inl (.inl q), .inl (.inl a), .inl (.inl w)] => CI s ∧ GI s ∧ chk (iC s 0 p) 1 s X (chk (iC s 0 q) 1 s X (chk (¬ p = q ∧ (0 ≤ a ∧ a < 8) ∧ (0 ≤ w ∧ w < 6)) 2 s X (chk (mayV s p ∧ mayV s q ∧ nI (s.1 1) < 30) 3 s X
      ((wantsF s p q ∧ ¬ hasF s a w → N (some (aI (nI ((vowS s p q a 1).1 1) - 1))) (vowS s p q a 1)) ∧ (¬ (wantsF s p q ∧ ¬ hasF s a w) → N (some (aI (nI ((vowS s p q a 0).1 1) - 1))) (vowS s p q a 0))))))
  | _ => False
set_option maxRecDepth 20000 in
set_option maxHeartbeats 2000000 in
theorem M_X4_vow : GMet yX4_vow cX4_vow 9 (some .int) 10 13 sp_X4_vow := by
  refine GMet.mk (own := RX4) (by decide) rfl [0, 1, 2, 3, 4, 5, 6, 7, 8] rfl tok_X4_vow 200 ?_
  intro av s0 N X h
  unfold sp_X4_vow at h
  split at h
  rotate_left
  · exact h.elim
  rename_i p q a w
  obtain ⟨hC, hG, h⟩ := h
  repeat' (first | apply And.intro | (intro q; exact absurd q (by decide)) | intro _)
  all_goals first | decide | (exact (rfl : (0 : Nat) = 0)) | (exact Nat.le_of_ble_eq_true rfl) | (exact hC) | (exact iC_p hC (by assumption)) | (simp_all [-Int32.not_lt, -Int32.not_le, chk, mayV]; done) | (simp_all [-Int32.not_lt, -Int32.not_le, ← Int32.not_le, chk, mayV]; done) | (simp_all [chk, mayV]; done) | skip
  all_goals
    have hG' := of_eq_true hG
    have hg1 := of_eq_true (CI_1 hC)
    first
    | exact hG'.1.2.1
    | exact hG'.2.1.2.1
    | exact hG'.2.2.1
    | exact trivial
    | exact CI_newV hC hG'.1.2.1 (by assumption)
    | exact (by assumption : iC s0 0 p)
    | exact (by assumption : iC s0 0 q)
    | exact Nat.lt_succ_self (s0.1 1)
    | exact iC_p hC (by assumption : iC s0 0 p)
    | exact iC_p hC (by assumption : iC s0 0 q)
    | exact Lv_viC (iC_p hC (by assumption : iC s0 0 p))
    | exact Lv_viC (iC_p hC (by assumption : iC s0 0 q))
    | exact (viC_c (by decide)).symm
    | exact viC_7
    | exact Nat.le_trans (Nat.le_of_eq (viC_c (by decide))) (Nat.le_of_lt ((nI_ltI (by omega) (by decide)).mp (show nI (s0.1 1) < nI 30 from Int32.not_le.mp (by assumption))))
    | exact (ib_of (n := 8) (by decide) (by assumption)).1
    | exact (ib_of (n := 6) (by decide) (by assumption)).1
    | exact (ib_of (n := 6) (by decide) (by assumption : 0 ≤ w ∧ w < 6)).2
    | exact hg1.1
    | exact hG'.2.2.2.1.2.1
    | exact hG'.2.2.2.2.2.1 (by assumption)
    | exact Nat.le_of_lt ((nI_ltI (by omega) (by decide)).mp (show nI (s0.1 1) < nI 30 from Int32.not_le.mp (by assumption)))
    | skip
  all_goals
    have h3 : ¬ p = q ∧ (0 ≤ a ∧ a < 8) ∧ (0 ≤ w ∧ w < 6) := ⟨by assumption, by assumption, by assumption⟩
    have h4 : mayV s0 p ∧ mayV s0 q ∧ nI (s0.1 1) < 30 := ⟨by assumption, by assumption, Int32.not_le.mp (by assumption)⟩
    have hN := (((h.2 (by assumption)).2 (by assumption)).2 h3).2 h4
    unfold vowS vowT at hN
    first
    | exact hN.1 ⟨(by first | exact Or.inl (by assumption) | exact Or.inr (by assumption) | exact Or.inr (Decidable.not_not.mp (by assumption))), (by rintro (z | z) <;> first | exact absurd (show s0.2.1 1 0 7 < s0.2.1 (9 + 1) w.toNatClampNeg a.toNatClampNeg from z) (by assumption) | exact absurd (show s0.2.1 11 0 a.toNatClampNeg = 0 by assumption) z)⟩
    | exact hN.2 (fun z => z.2 (by first | exact Or.inl (show s0.2.1 1 0 7 < s0.2.1 (9 + 1) w.toNatClampNeg a.toNatClampNeg by assumption) | exact Or.inr (show ¬ s0.2.1 11 0 a.toNatClampNeg = 0 by assumption)))
    | exact hN.2 (fun z => z.1.elim (fun z1 => absurd z1 (by assumption)) (fun z1 => absurd z1 (by assumption)))

