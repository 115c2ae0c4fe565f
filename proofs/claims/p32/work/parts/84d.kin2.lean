/-! the law's kin, what hinders two, what hinders a vow -/
theorem w_696 : (.methodLink "VowCourtLaw" 129 ⟨"VowCourtLaw", "isOf", "([III)Z"⟩ : Cond) ∈ TB := TB_mem (List.mem_of_getElem? (i := 696) (by decide +kernel)) rfl
theorem w_697 : (.static ⟨"VowCourtLaw", "isOf", "([III)Z"⟩ : Cond) ∈ TB := TB_mem (List.mem_of_getElem? (i := 697) (by decide +kernel)) rfl
theorem w_698 : (.code yL_isOf cL_isOf 3 (some .boolean) : Cond) ∈ TB := TB_mem (List.mem_of_getElem? (i := 698) (by decide +kernel)) rfl
theorem w_699 : (.methodLink "VowCourtLaw" 133 ⟨"VowCourtLaw", "binds", "([I[III)Z"⟩ : Cond) ∈ TB := TB_mem (List.mem_of_getElem? (i := 699) (by decide +kernel)) rfl
theorem w_700 : (.static ⟨"VowCourtLaw", "binds", "([I[III)Z"⟩ : Cond) ∈ TB := TB_mem (List.mem_of_getElem? (i := 700) (by decide +kernel)) rfl
theorem w_701 : (.code yL_binds cL_binds 5 (some .boolean) : Cond) ∈ TB := TB_mem (List.mem_of_getElem? (i := 701) (by decide +kernel)) rfl
theorem w_707 : (.methodLink "VowCourtLaw" 125 ⟨"VowCourtLaw", "kin", "([III)I"⟩ : Cond) ∈ TB := TB_mem (List.mem_of_getElem? (i := 707) (by decide +kernel)) rfl
theorem w_708 : (.static ⟨"VowCourtLaw", "kin", "([III)I"⟩ : Cond) ∈ TB := TB_mem (List.mem_of_getElem? (i := 708) (by decide +kernel)) rfl
theorem w_709 : (.code yL_kin cL_kin 7 (some .int) : Cond) ∈ TB := TB_mem (List.mem_of_getElem? (i := 709) (by decide +kernel)) rfl
theorem w_710 : (.methodLink "VowCourtLaw" 121 ⟨"VowCourtLaw", "lines", "([II[I)V"⟩ : Cond) ∈ TB := TB_mem (List.mem_of_getElem? (i := 710) (by decide +kernel)) rfl
theorem w_711 : (.static ⟨"VowCourtLaw", "lines", "([II[I)V"⟩ : Cond) ∈ TB := TB_mem (List.mem_of_getElem? (i := 711) (by decide +kernel)) rfl
theorem w_712 : (.code yL_lines cL_lines 6 none : Cond) ∈ TB := TB_mem (List.mem_of_getElem? (i := 712) (by decide +kernel)) rfl
def bestN (F H : Nat → Nat) : Nat → Nat
  | 0 => 100
  | k + 1 => if F k < 50 ∧ H k < 50 ∧ F k + H k < bestN F H k then F k + H k else bestN F H k
theorem bestN_le {F H : Nat → Nat} : ∀ k, bestN F H k ≤ 100
  | 0 => Nat.le_refl _
  | k + 1 => by
    have := bestN_le (F := F) (H := H) k
    unfold bestN
    split <;> omega
def kinV (F H : Nat → Nat) (i j : Nat) : Int32 := if bestN F H 16 = 100 then -1 else nI (100 * bestN F H 16 + (if F j = bestN F H 16 ∨ H i = bestN F H 16 then 1 else 0))
theorem paR_eq {s s' : Sg} {n : Nat} {fa mo : Nat → Nat} (h : ∀ k, s'.2.1 20 0 k = s.2.1 20 0 k) (hp : paR s n fa mo) : paR s' n fa mo :=
  ⟨hp.1, fun k hk => ⟨(hp.2 k hk).1, (hp.2 k hk).2.1, (hp.2 k hk).2.2.imp fun _ z => z.imp fun _ z => z.imp fun _ z => z.imp fun _ z => ⟨z.1, (h k).trans z.2⟩⟩⟩
theorem lnW_le {fa mo : Nat → Nat} : ∀ (k : Nat) {F : Nat → Nat}, (∀ j, F j ≤ 50) → ∀ j, lnW fa mo k F j ≤ 50
  | 0, _, h => h
  | k + 1, _, h => lnW_le k (stpK_le (stpK_le h))
theorem lnF_le {fa mo : Nat → Nat} {f : Nat} (j : Nat) : lnF fa mo f j ≤ 50 := lnW_le f (fun j => by unfold ln0; split <;> omega) j
theorem dL_kin_0 : decode cL_kin 0 = .ok (.bipush 16, 2) := by decide +kernel
theorem dL_kin_2 : decode cL_kin 2 = .ok (.newarray .int, 2) := by decide +kernel
theorem dL_kin_4 : decode cL_kin 4 = .ok (.astore_n 3, 1) := by decide +kernel
theorem dL_kin_5 : decode cL_kin 5 = .ok (.bipush 16, 2) := by decide +kernel
theorem dL_kin_7 : decode cL_kin 7 = .ok (.newarray .int, 2) := by decide +kernel
theorem dL_kin_9 : decode cL_kin 9 = .ok (.astore 4, 2) := by decide +kernel
theorem dL_kin_11 : decode cL_kin 11 = .ok (.aload_n 0, 1) := by decide +kernel
theorem dL_kin_12 : decode cL_kin 12 = .ok (.iload_n 1, 1) := by decide +kernel
theorem dL_kin_13 : decode cL_kin 13 = .ok (.aload_n 3, 1) := by decide +kernel
theorem dL_kin_14 : decode cL_kin 14 = .ok (.invokestatic 121, 3) := by decide +kernel
theorem dL_kin_17 : decode cL_kin 17 = .ok (.aload_n 0, 1) := by decide +kernel
theorem dL_kin_18 : decode cL_kin 18 = .ok (.iload_n 2, 1) := by decide +kernel
theorem dL_kin_19 : decode cL_kin 19 = .ok (.aload 4, 2) := by decide +kernel
theorem dL_kin_21 : decode cL_kin 21 = .ok (.invokestatic 121, 3) := by decide +kernel
theorem dL_kin_24 : decode cL_kin 24 = .ok (.bipush 100, 2) := by decide +kernel
theorem dL_kin_26 : decode cL_kin 26 = .ok (.istore 5, 2) := by decide +kernel
theorem dL_kin_28 : decode cL_kin 28 = .ok (.iconst 0, 1) := by decide +kernel
theorem dL_kin_29 : decode cL_kin 29 = .ok (.istore 6, 2) := by decide +kernel
theorem dL_kin_31 : decode cL_kin 31 = .ok (.iload 6, 2) := by decide +kernel
theorem dL_kin_33 : decode cL_kin 33 = .ok (.bipush 16, 2) := by decide +kernel
theorem dL_kin_35 : decode cL_kin 35 = .ok (.if_icmp .ge 60, 3) := by decide +kernel
theorem dL_kin_38 : decode cL_kin 38 = .ok (.aload_n 3, 1) := by decide +kernel
theorem dL_kin_39 : decode cL_kin 39 = .ok (.iload 6, 2) := by decide +kernel
theorem dL_kin_41 : decode cL_kin 41 = .ok (.iaload, 1) := by decide +kernel
theorem dL_kin_42 : decode cL_kin 42 = .ok (.bipush 50, 2) := by decide +kernel
theorem dL_kin_44 : decode cL_kin 44 = .ok (.if_icmp .ge 41, 3) := by decide +kernel
theorem dL_kin_47 : decode cL_kin 47 = .ok (.aload 4, 2) := by decide +kernel
theorem dL_kin_49 : decode cL_kin 49 = .ok (.iload 6, 2) := by decide +kernel
theorem dL_kin_51 : decode cL_kin 51 = .ok (.iaload, 1) := by decide +kernel
theorem dL_kin_52 : decode cL_kin 52 = .ok (.bipush 50, 2) := by decide +kernel
theorem dL_kin_54 : decode cL_kin 54 = .ok (.if_icmp .ge 31, 3) := by decide +kernel
theorem dL_kin_57 : decode cL_kin 57 = .ok (.aload_n 3, 1) := by decide +kernel
theorem dL_kin_58 : decode cL_kin 58 = .ok (.iload 6, 2) := by decide +kernel
theorem dL_kin_60 : decode cL_kin 60 = .ok (.iaload, 1) := by decide +kernel
theorem dL_kin_61 : decode cL_kin 61 = .ok (.aload 4, 2) := by decide +kernel
theorem dL_kin_63 : decode cL_kin 63 = .ok (.iload 6, 2) := by decide +kernel
theorem dL_kin_65 : decode cL_kin 65 = .ok (.iaload, 1) := by decide +kernel
theorem dL_kin_66 : decode cL_kin 66 = .ok (.iadd, 1) := by decide +kernel
theorem dL_kin_67 : decode cL_kin 67 = .ok (.iload 5, 2) := by decide +kernel
theorem dL_kin_69 : decode cL_kin 69 = .ok (.if_icmp .ge 16, 3) := by decide +kernel
theorem dL_kin_72 : decode cL_kin 72 = .ok (.aload_n 3, 1) := by decide +kernel
theorem dL_kin_73 : decode cL_kin 73 = .ok (.iload 6, 2) := by decide +kernel
theorem dL_kin_75 : decode cL_kin 75 = .ok (.iaload, 1) := by decide +kernel
theorem dL_kin_76 : decode cL_kin 76 = .ok (.aload 4, 2) := by decide +kernel
theorem dL_kin_78 : decode cL_kin 78 = .ok (.iload 6, 2) := by decide +kernel
theorem dL_kin_80 : decode cL_kin 80 = .ok (.iaload, 1) := by decide +kernel
theorem dL_kin_81 : decode cL_kin 81 = .ok (.iadd, 1) := by decide +kernel
theorem dL_kin_82 : decode cL_kin 82 = .ok (.goto 5, 3) := by decide +kernel
theorem dL_kin_85 : decode cL_kin 85 = .ok (.iload 5, 2) := by decide +kernel
theorem dL_kin_87 : decode cL_kin 87 = .ok (.istore 5, 2) := by decide +kernel
theorem dL_kin_89 : decode cL_kin 89 = .ok (.iinc 6 1, 3) := by decide +kernel
theorem dL_kin_92 : decode cL_kin 92 = .ok (.goto (-61), 3) := by decide +kernel
theorem dL_kin_95 : decode cL_kin 95 = .ok (.aload_n 3, 1) := by decide +kernel
theorem dL_kin_96 : decode cL_kin 96 = .ok (.iload_n 2, 1) := by decide +kernel
theorem dL_kin_97 : decode cL_kin 97 = .ok (.iaload, 1) := by decide +kernel
theorem dL_kin_98 : decode cL_kin 98 = .ok (.iload 5, 2) := by decide +kernel
theorem dL_kin_100 : decode cL_kin 100 = .ok (.if_icmp .eq 12, 3) := by decide +kernel
theorem dL_kin_103 : decode cL_kin 103 = .ok (.aload 4, 2) := by decide +kernel
theorem dL_kin_105 : decode cL_kin 105 = .ok (.iload_n 1, 1) := by decide +kernel
theorem dL_kin_106 : decode cL_kin 106 = .ok (.iaload, 1) := by decide +kernel
theorem dL_kin_107 : decode cL_kin 107 = .ok (.iload 5, 2) := by decide +kernel
theorem dL_kin_109 : decode cL_kin 109 = .ok (.if_icmp .ne 7, 3) := by decide +kernel
theorem dL_kin_112 : decode cL_kin 112 = .ok (.iconst 1, 1) := by decide +kernel
theorem dL_kin_113 : decode cL_kin 113 = .ok (.goto 4, 3) := by decide +kernel
theorem dL_kin_116 : decode cL_kin 116 = .ok (.iconst 0, 1) := by decide +kernel
theorem dL_kin_117 : decode cL_kin 117 = .ok (.istore 6, 2) := by decide +kernel
theorem dL_kin_119 : decode cL_kin 119 = .ok (.iload 5, 2) := by decide +kernel
theorem dL_kin_121 : decode cL_kin 121 = .ok (.bipush 100, 2) := by decide +kernel
theorem dL_kin_123 : decode cL_kin 123 = .ok (.if_icmp .ne 7, 3) := by decide +kernel
theorem dL_kin_126 : decode cL_kin 126 = .ok (.iconst (-1), 1) := by decide +kernel
theorem dL_kin_127 : decode cL_kin 127 = .ok (.goto 19, 3) := by decide +kernel
theorem dL_kin_130 : decode cL_kin 130 = .ok (.bipush 100, 2) := by decide +kernel
theorem dL_kin_132 : decode cL_kin 132 = .ok (.iload 5, 2) := by decide +kernel
theorem dL_kin_134 : decode cL_kin 134 = .ok (.imul, 1) := by decide +kernel
theorem dL_kin_135 : decode cL_kin 135 = .ok (.iload 6, 2) := by decide +kernel
theorem dL_kin_137 : decode cL_kin 137 = .ok (.ifCond .eq 7, 3) := by decide +kernel
theorem dL_kin_140 : decode cL_kin 140 = .ok (.iconst 1, 1) := by decide +kernel
theorem dL_kin_141 : decode cL_kin 141 = .ok (.goto 4, 3) := by decide +kernel
theorem dL_kin_144 : decode cL_kin 144 = .ok (.iconst 0, 1) := by decide +kernel
theorem dL_kin_145 : decode cL_kin 145 = .ok (.iadd, 1) := by decide +kernel
theorem dL_kin_146 : decode cL_kin 146 = .ok (.ireturn, 1) := by decide +kernel
def tab_L_kin : List (Nat × Sem) := [(0, op_ic 16 2), (2, op_newF 0 4), (4, op_as 3 5), (5, op_ic 16 7), (7, op_newF 1 9), (9, op_as 4 11), (11, op_al 0 12), (12, op_il 1 13), (13, op_al 3 14), (14, op_callN sp_L_lines 3 0 17), (17, op_al 0 18), (18, op_il 2 19), (19, op_al 4 21), (21, op_callN sp_L_lines 3 0 24), (24, op_ic 100 26), (26, op_is 5 28), (28, op_ic 0 29), (29, op_is 6 31), (31, op_il 6 33), (33, op_ic 16 35), (35, op_cmp (fun x y => y ≤ x) 95 38), (38, op_al 3 39), (39, op_il 6 41), (41, op_iald 42), (42, op_ic 50 44), (44, op_cmp (fun x y => y ≤ x) 85 47), (47, op_al 4 49), (49, op_il 6 51), (51, op_iald 52), (52, op_ic 50 54), (54, op_cmp (fun x y => y ≤ x) 85 57), (57, op_al 3 58), (58, op_il 6 60), (60, op_iald 61), (61, op_al 4 63), (63, op_il 6 65), (65, op_iald 66), (66, op_bin (fun x y => x + y) 67), (67, op_il 5 69), (69, op_cmp (fun x y => y ≤ x) 85 72), (72, op_al 3 73), (73, op_il 6 75), (75, op_iald 76), (76, op_al 4 78), (78, op_il 6 80), (80, op_iald 81), (81, op_bin (fun x y => x + y) 82), (82, op_go 87), (85, op_il 5 87), (87, op_is 5 89), (89, op_inc 6 1 92), (92, op_go 31), (95, op_al 3 96), (96, op_il 2 97), (97, op_iald 98), (98, op_il 5 100), (100, op_cmp (fun x y => x = y) 112 103), (103, op_al 4 105), (105, op_il 1 106), (106, op_iald 107), (107, op_il 5 109), (109, op_cmp (fun x y => ¬ x = y) 116 112), (112, op_ic 1 113), (113, op_go 117), (116, op_ic 0 117), (117, op_is 6 119), (119, op_il 5 121), (121, op_ic 100 123), (123, op_cmp (fun x y => ¬ x = y) 130 126), (126, op_ic (-1) 127), (127, op_go 146), (130, op_ic 100 132), (132, op_il 5 134), (134, op_bin (fun x y => x * y) 135), (135, op_il 6 137), (137, op_if (fun x => x = 0) 144 140), (140, op_ic 1 141), (141, op_go 145), (144, op_ic 0 145), (145, op_bin (fun x y => x + y) 146), (146, op_iret)]
set_option maxRecDepth 20000 in
theorem tok_L_kin : ∀ q ∈ tab_L_kin, KSnd RL cL_kin 7 1 2 (some .int) q.1 q.2 := by
  unfold tab_L_kin
  refine kcons (snd_k (ok_bipush dL_kin_0 rfl rfl)) ?_
  refine kcons (ok_newF w_96 dL_kin_2 rfl) ?_
  refine kcons (snd_k (ok_astore_n dL_kin_4 rfl (by decide) rfl)) ?_
  refine kcons (snd_k (ok_bipush dL_kin_5 rfl rfl)) ?_
  refine kcons (ok_newF w_96 dL_kin_7 rfl) ?_
  refine kcons (snd_k (ok_astore dL_kin_9 (by decide) rfl)) ?_
  refine kcons (snd_k (ok_aload_n dL_kin_11 rfl rfl)) ?_
  refine kcons (snd_k (ok_iload_n dL_kin_12 rfl rfl)) ?_
  refine kcons (snd_k (ok_aload_n dL_kin_13 rfl rfl)) ?_
  refine kcons (snd_k (ok_invokestaticN M_L_lines w_710 w_711 w_19 w_712 ⟨by decide, by decide, by decide +kernel⟩ (by decide) (by decide) dL_kin_14 rfl)) ?_
  refine kcons (snd_k (ok_aload_n dL_kin_17 rfl rfl)) ?_
  refine kcons (snd_k (ok_iload_n dL_kin_18 rfl rfl)) ?_
  refine kcons (snd_k (ok_aload dL_kin_19 rfl)) ?_
  refine kcons (snd_k (ok_invokestaticN M_L_lines w_710 w_711 w_19 w_712 ⟨by decide, by decide, by decide +kernel⟩ (by decide) (by decide) dL_kin_21 rfl)) ?_
  refine kcons (snd_k (ok_bipush dL_kin_24 rfl rfl)) ?_
  refine kcons (snd_k (ok_istore dL_kin_26 (by decide) rfl)) ?_
  refine kcons (snd_k (ok_iconst dL_kin_28 rfl rfl)) ?_
  refine kcons (snd_k (ok_istore dL_kin_29 (by decide) rfl)) ?_
  refine kcons (snd_k (ok_iload dL_kin_31 rfl)) ?_
  refine kcons (snd_k (ok_bipush dL_kin_33 rfl rfl)) ?_
  refine kcons (snd_k (ok_icmp_ge dL_kin_35 rfl rfl)) ?_
  refine kcons (snd_k (ok_aload_n dL_kin_38 rfl rfl)) ?_
  refine kcons (snd_k (ok_iload dL_kin_39 rfl)) ?_
  refine kcons (snd_k (ok_iaload dL_kin_41 rfl)) ?_
  refine kcons (snd_k (ok_bipush dL_kin_42 rfl rfl)) ?_
  refine kcons (snd_k (ok_icmp_ge dL_kin_44 rfl rfl)) ?_
  refine kcons (snd_k (ok_aload dL_kin_47 rfl)) ?_
  refine kcons (snd_k (ok_iload dL_kin_49 rfl)) ?_
  refine kcons (snd_k (ok_iaload dL_kin_51 rfl)) ?_
  refine kcons (snd_k (ok_bipush dL_kin_52 rfl rfl)) ?_
  refine kcons (snd_k (ok_icmp_ge dL_kin_54 rfl rfl)) ?_
  refine kcons (snd_k (ok_aload_n dL_kin_57 rfl rfl)) ?_
  refine kcons (snd_k (ok_iload dL_kin_58 rfl)) ?_
  refine kcons (snd_k (ok_iaload dL_kin_60 rfl)) ?_
  refine kcons (snd_k (ok_aload dL_kin_61 rfl)) ?_
  refine kcons (snd_k (ok_iload dL_kin_63 rfl)) ?_
  refine kcons (snd_k (ok_iaload dL_kin_65 rfl)) ?_
  refine kcons (snd_k (ok_iadd dL_kin_66 rfl)) ?_
  refine kcons (snd_k (ok_iload dL_kin_67 rfl)) ?_
  refine kcons (snd_k (ok_icmp_ge dL_kin_69 rfl rfl)) ?_
  refine kcons (snd_k (ok_aload_n dL_kin_72 rfl rfl)) ?_
  refine kcons (snd_k (ok_iload dL_kin_73 rfl)) ?_
  refine kcons (snd_k (ok_iaload dL_kin_75 rfl)) ?_
  refine kcons (snd_k (ok_aload dL_kin_76 rfl)) ?_
  refine kcons (snd_k (ok_iload dL_kin_78 rfl)) ?_
  refine kcons (snd_k (ok_iaload dL_kin_80 rfl)) ?_
  refine kcons (snd_k (ok_iadd dL_kin_81 rfl)) ?_
  refine kcons (snd_k (ok_goto dL_kin_82 rfl)) ?_
  refine kcons (snd_k (ok_iload dL_kin_85 rfl)) ?_
  refine kcons (snd_k (ok_istore dL_kin_87 (by decide) rfl)) ?_
  refine kcons (snd_k (ok_iinc dL_kin_89 rfl (by decide) rfl)) ?_
  refine kcons (snd_k (ok_goto dL_kin_92 rfl)) ?_
  refine kcons (snd_k (ok_aload_n dL_kin_95 rfl rfl)) ?_
  refine kcons (snd_k (ok_iload_n dL_kin_96 rfl rfl)) ?_
  refine kcons (snd_k (ok_iaload dL_kin_97 rfl)) ?_
  refine kcons (snd_k (ok_iload dL_kin_98 rfl)) ?_
  refine kcons (snd_k (ok_icmp_eq dL_kin_100 rfl rfl)) ?_
  refine kcons (snd_k (ok_aload dL_kin_103 rfl)) ?_
  refine kcons (snd_k (ok_iload_n dL_kin_105 rfl rfl)) ?_
  refine kcons (snd_k (ok_iaload dL_kin_106 rfl)) ?_
  refine kcons (snd_k (ok_iload dL_kin_107 rfl)) ?_
  refine kcons (snd_k (ok_icmp_ne dL_kin_109 rfl rfl)) ?_
  refine kcons (snd_k (ok_iconst dL_kin_112 rfl rfl)) ?_
  refine kcons (snd_k (ok_goto dL_kin_113 rfl)) ?_
  refine kcons (snd_k (ok_iconst dL_kin_116 rfl rfl)) ?_
  refine kcons (snd_k (ok_istore dL_kin_117 (by decide) rfl)) ?_
  refine kcons (snd_k (ok_iload dL_kin_119 rfl)) ?_
  refine kcons (snd_k (ok_bipush dL_kin_121 rfl rfl)) ?_
  refine kcons (snd_k (ok_icmp_ne dL_kin_123 rfl rfl)) ?_
  refine kcons (snd_k (ok_iconst dL_kin_126 rfl rfl)) ?_
  refine kcons (snd_k (ok_goto dL_kin_127 rfl)) ?_
  refine kcons (snd_k (ok_bipush dL_kin_130 rfl rfl)) ?_
  refine kcons (snd_k (ok_iload dL_kin_132 rfl)) ?_
  refine kcons (snd_k (ok_imul dL_kin_134 rfl)) ?_
  refine kcons (snd_k (ok_iload dL_kin_135 rfl)) ?_
  refine kcons (snd_k (ok_if_eq dL_kin_137 rfl rfl)) ?_
  refine kcons (snd_k (ok_iconst dL_kin_140 rfl rfl)) ?_
  refine kcons (snd_k (ok_goto dL_kin_141 rfl)) ?_
  refine kcons (snd_k (ok_iconst dL_kin_144 rfl rfl)) ?_
  refine kcons (snd_k (ok_iadd dL_kin_145 rfl)) ?_
  refine kcons (snd_k (ok_ireturn rfl dL_kin_146)) ?_
  exact fun _ h => nomatch h
def sp_L_kin : Spc := fun av s N _ => match av with
  | [.inl (.inr (20, 0)), .inl (.inl one), .inl (.inl oth)] => ∃ (n i j : Nat) (fa mo : Nat → Nat), i < n ∧ j < n ∧ one = nI i ∧ oth = nI j ∧ paR s n fa mo ∧ s.1 18 = 0 ∧ s.1 14 = 0 ∧ N (some (aI (kinV (lnF fa mo i) (lnF fa mo j) i j))) s
  | _ => False
theorem kin_tail {U : Nat} {N : Nt} {X : Xt} {Z : Kt} (run : Rn tab_L_kin U N X Z) {z : Sg} {u i j : Nat} {F H : Nat → Nat} (hu : u ≤ U) (hi : i < 16) (hj : j < 16) (hF : ∀ k, F k ≤ 50) (hH : ∀ k, H k ≤ 50) (h18 : z.1 18 = 2)
    (r0 : ∀ c, c < 16 → z.2.1 31 0 c = nI (F c)) (r1 : ∀ c, c < 16 → z.2.1 31 1 c = nI (H c)) (h : N (some (aI (kinV F H i j))) z) :
    Z 24 u [(0, .inr (20, 0)), (1, .inl (nI i)), (2, .inl (nI j)), (3, .inr (31, 0)), (4, .inr (31, 1))] [] z := by
  have l0 : 0 < z.1 18 := by omega
  have l1 : 1 < z.1 18 := by omega
  have ci : (nI i).toNatClampNeg = i := nI_clamp (by omega)
  have cj : (nI j).toNatClampNeg = j := nI_clamp (by omega)
  have hbi : Ib (nI i) 16 := nIb hi (by decide)
  have hbj : Ib (nI j) 16 := nIb hj (by decide)
  have hbs := bestN_le (F := F) (H := H) 16
  have rFj := r0 j hj
  have rHi := r1 i hi
  have fin : ∀ x : Int32, Bv x (F j = bestN F H 16 ∨ H i = bestN F H 16) → Z 117 u [(0, .inr (20, 0)), (1, .inl (nI i)), (2, .inl (nI j)), (3, .inr (31, 0)), (4, .inr (31, 1)), (5, .inl (nI (bestN F H 16))), (6, .inl 16)] [aI x] z := by
    intro x hx
    by_cases hb : bestN F H 16 = 100
    · unfold kinV at h
      rw [if_pos hb] at h
      rw [hb]
      refine run.go [] 30 ?_
      repeat' (first | apply And.intro | (intro q; exact absurd q (by decide)) | (intro q; exact absurd (by decide) q) | (intro q; exact absurd rfl q) | intro _)
      all_goals first | (exact hu) | (exact trivial) | decide | (exact (rfl : (0 : Nat) = 0)) | (exact Nat.le_of_ble_eq_true rfl) | contradiction | exact h
    · have hne : ¬ nI (bestN F H 16) = 100 := fun q => hb ((nI_eq (b := 100) (by omega) (by omega)).mp q)
      unfold kinV at h
      rw [if_neg hb] at h
      have e100 : (100 : Int32) * nI (bestN F H 16) = nI (100 * bestN F H 16) := pk_mul 100 _
      rcases hx with ⟨rfl, hx⟩ | ⟨rfl, hx⟩
      · rw [if_pos hx, ← nI_add, ← e100] at h
        refine run.go [] 30 ?_
        repeat' (first | apply And.intro | (intro q; exact absurd q (by decide)) | (intro q; exact absurd (by decide) q) | (intro q; exact absurd rfl q) | (intro q; exact absurd q hne) | (intro q; exact absurd hne q) | intro _)
        all_goals first | (exact hu) | (exact trivial) | decide | (exact (rfl : (0 : Nat) = 0)) | (exact Nat.le_of_ble_eq_true rfl) | contradiction | exact h
      · rw [if_neg hx, ← nI_add, ← e100] at h
        refine run.go [] 30 ?_
        repeat' (first | apply And.intro | (intro q; exact absurd q (by decide)) | (intro q; exact absurd (by decide) q) | (intro q; exact absurd rfl q) | (intro q; exact absurd q hne) | (intro q; exact absurd hne q) | intro _)
        all_goals first | (exact hu) | (exact trivial) | decide | (exact (rfl : (0 : Nat) = 0)) | (exact Nat.le_of_ble_eq_true rfl) | contradiction | exact h
  have lp := loop_up (n := 16) (P := fun k => Z 31 u [(0, .inr (20, 0)), (1, .inl (nI i)), (2, .inl (nI j)), (3, .inr (31, 0)), (4, .inr (31, 1)), (5, .inl (nI (bestN F H k))), (6, .inl (nI k))] [] z) ?_ ?_ 0 (Nat.zero_le _)
  · exact run.go [31] 20 lp
  · have hle : (16 : Int32) ≤ nI 16 := by decide
    refine run.go [117] 40 ?_
    repeat' (first | apply And.intro | (intro q; exact absurd q (by decide)) | (intro q; exact absurd (by decide) q) | (intro q; exact absurd rfl q) | (intro q; exact absurd q hle) | (intro q; exact absurd hle q) | intro _)
    all_goals first | (exact l0) | (exact l1) | (exact hbi) | (exact hbj) | (exact trivial) | decide | (exact (rfl : (0 : Nat) = 0)) | (exact Nat.le_of_ble_eq_true rfl) | contradiction | skip
    all_goals (simp only [ci, cj, rFj, rHi] at *)
    all_goals first | (exact fin _ (Bv_t (Or.inl ((nI_eq (by have := hF j; omega) (by omega)).mp (by assumption))))) | skip
    · rename_i q1 q2
      refine fin _ (Bv_f (fun y => y.elim (fun y => q1 (by rw [y])) (fun y => q2 (by rw [y]))))
    · rename_i q1 q2
      exact fin _ (Bv_t (Or.inr ((nI_eq (by have := hH i; omega) (by omega)).mp (Classical.not_not.mp q2))))
  · intro k hk ih
    have ck : (nI k).toNatClampNeg = k := nI_clamp (by omega)
    have hb16 : Ib (nI k) 16 := nIb hk (by decide)
    have hle : ¬ (16 : Int32) ≤ nI k := nI_ge (b := 16) hk (by decide)
    have a0 := r0 k hk
    have a1 := r1 k hk
    have f0 := hF k
    have f1 := hH k
    have bl := bestN_le (F := F) (H := H) k
    have jn : ∀ y : Int32, y = nI (bestN F H (k + 1)) → Z 87 u [(0, .inr (20, 0)), (1, .inl (nI i)), (2, .inl (nI j)), (3, .inr (31, 0)), (4, .inr (31, 1)), (5, .inl (nI (bestN F H k))), (6, .inl (nI k))] [aI y] z := by
      rintro y rfl
      rw [← nIs] at ih
      exact run.go [31] 20 ih
    refine run.go [87] 60 ?_
    repeat' (first | apply And.intro | (intro q; exact absurd q (by decide)) | (intro q; exact absurd (by decide) q) | (intro q; exact absurd rfl q) | (intro q; exact absurd q hle) | (intro q; exact absurd hle q) | intro _)
    all_goals first | (exact l0) | (exact l1) | (exact hb16) | (exact trivial) | decide | (exact (rfl : (0 : Nat) = 0)) | (exact Nat.le_of_ble_eq_true rfl) | contradiction | skip
    all_goals (simp only [ck, a0, a1, nI_add] at *)
    · rename_i q
      refine jn _ ?_
      have := (nI_leI (a := 50) (by decide) (by omega)).mp q
      rw [bestN, if_neg (by omega)]
    · rename_i q1 q
      refine jn _ ?_
      have := (nI_leI (a := 50) (by decide) (by omega)).mp q
      rw [bestN, if_neg (by omega)]
    · rename_i q1 q2 q
      refine jn _ ?_
      have := (nI_leI (by omega) (by omega)).mp q
      rw [bestN, if_neg (by omega)]
    · rename_i q1 q2 q
      refine jn _ ?_
      have z1 := fun y => q1 ((nI_leI (a := 50) (by decide) (by omega)).mpr y)
      have z2 := fun y => q2 ((nI_leI (a := 50) (by decide) (by omega)).mpr y)
      have z3 := fun y => q ((nI_leI (by omega) (by omega)).mpr y)
      rw [bestN, if_pos ⟨Nat.not_le.mp z1, Nat.not_le.mp z2, Nat.not_le.mp z3⟩]
      exact nI_add _ _
set_option maxRecDepth 20000 in
set_option maxHeartbeats 2000000 in
theorem M_L_kin : AMet yL_kin cL_kin 7 (some .int) 1 2 sp_L_kin := by
  refine AMet.kn (own := RL) (by decide) rfl [0, 1, 2, 3, 4, 5, 6] rfl tok_L_kin ?_
  intro av s0 N X h
  unfold sp_L_kin at h
  split at h
  rotate_left
  · exact h.elim
  rename_i one oth
  obtain ⟨n, i, j, fa, mo, hi, hj, rfl, rfl, hpa, h18, h14, h⟩ := h
  refine ⟨⟨h18, h14⟩, fun Z run => ?_⟩
  have hn := hpa.1
  obtain ⟨S1, hS1⟩ : ∃ S1, S1 = mk31 (mk31 s0 0) 1 := ⟨_, rfl⟩
  have a18 : S1.1 18 = 2 := by rw [hS1]; exact stC_eq
  have b18 : (mk31 s0 0).1 18 = 1 := stC_eq
  have b14 : (mk31 s0 0).1 14 = 0 := by rw [mk31_1 (by decide)]; exact h14
  have k1 : ∀ c, ¬ c = 18 → S1.1 c = s0.1 c := fun c hc => by rw [hS1, mk31_1 hc, mk31_1 hc]
  have k2 : ∀ a b c, ¬ a = 31 → S1.2.1 a b c = s0.2.1 a b c := fun a b c ha => by rw [hS1, mk31_2 (fun z => ha z.1), mk31_2 (fun z => ha z.1)]
  have k3 : S1.2.2 = s0.2.2 := by rw [hS1]; rfl
  have p1 : paR S1 n fa mo := paR_eq (fun k => k2 20 0 k (by decide)) hpa
  obtain ⟨S2, hS2⟩ : ∃ S2, S2 = stG S1 31 0 16 (nF (lnF fa mo i)) := ⟨_, rfl⟩
  have p2 : paR S2 n fa mo := paR_eq (fun k => by rw [hS2, stG_get, if_neg (by omega)]) p1
  obtain ⟨S3, hS3⟩ : ∃ S3, S3 = stG S2 31 1 16 (nF (lnF fa mo j)) := ⟨_, rfl⟩
  have kd3 : kd s0 S3 := by
    refine ⟨fun c hc => ?_, fun a b c ha => ?_, ?_⟩
    · rw [hS3, hS2]; exact k1 c hc
    · rw [hS3, stG_get, if_neg (by omega), hS2, stG_get, if_neg (by omega)]; exact k2 a b c ha
    · rw [hS3, hS2]; exact k3
  have t := kin_tail run (z := S3) (u := 2) (i := i) (j := j) (F := lnF fa mo i) (H := lnF fa mo j) (by decide) (by omega) (by omega) lnF_le lnF_le (by rw [hS3, hS2]; exact a18)
    (fun c hc => by rw [hS3, stG_get, if_neg (by omega), hS2, stG_get, if_pos ⟨rfl, rfl, hc⟩]; rfl) (fun c hc => by rw [hS3, stG_get, if_pos ⟨rfl, rfl, hc⟩]; rfl) ⟨⟨_, rfl⟩, kd3, h⟩
  refine run.go [24] 40 ?_
  refine ⟨rfl, h18, h14, by decide, rfl, rfl, ?_⟩
  refine ⟨rfl, b18, b14, by decide, rfl, rfl, ?_⟩
  rw [← hS1]
  refine ⟨by decide, by decide, fun r s' => r = none ∧ s' = S2, ⟨n, i, fa, mo, hi, rfl, p1, by omega, rfl, hS2.symm⟩, ?_⟩
  rintro r s' ⟨rfl, rfl⟩
  refine ⟨by decide, by decide, fun r s' => r = none ∧ s' = S3, ⟨n, j, fa, mo, hj, rfl, p2, by rw [hS2]; show 1 < S1.1 18; omega, rfl, hS3.symm⟩, ?_⟩
  rintro r s' ⟨rfl, rfl⟩
  exact t
/-- what hinders two, of the law -/
def hA (s : Sg) (i j : Nat) (day : Int32) : Prop := day - s.2.1 21 0 i < 5760 ∨ day - s.2.1 21 0 j < 5760
def hB (its : Int32) : Prop := ¬ its < 0 ∧ (its < 500 ∨ irm its 100 = 1)
def hC9 (s : Sg) (i j : Nat) : Prop := ¬ s.2.1 21 0 (16 + i) < 0 ∨ ¬ s.2.1 21 0 (16 + j) < 0
noncomputable def hinV (s : Sg) (its : Int32) (i j : Nat) (day : Int32) : Int32 := iteP (hA s i j day) 1 0 + iteP (hB its) 2 0 + iteP (hC9 s i j) 8 0
theorem dL_hinders_0 : decode cL_hinders 0 = .ok (.aload_n 0, 1) := by decide +kernel
theorem dL_hinders_1 : decode cL_hinders 1 = .ok (.iload_n 2, 1) := by decide +kernel
theorem dL_hinders_2 : decode cL_hinders 2 = .ok (.iload_n 3, 1) := by decide +kernel
theorem dL_hinders_3 : decode cL_hinders 3 = .ok (.invokestatic 125, 3) := by decide +kernel
theorem dL_hinders_6 : decode cL_hinders 6 = .ok (.istore 5, 2) := by decide +kernel
theorem dL_hinders_8 : decode cL_hinders 8 = .ok (.iload 4, 2) := by decide +kernel
theorem dL_hinders_10 : decode cL_hinders 10 = .ok (.aload_n 1, 1) := by decide +kernel
theorem dL_hinders_11 : decode cL_hinders 11 = .ok (.iload_n 2, 1) := by decide +kernel
theorem dL_hinders_12 : decode cL_hinders 12 = .ok (.iaload, 1) := by decide +kernel
theorem dL_hinders_13 : decode cL_hinders 13 = .ok (.isub, 1) := by decide +kernel
theorem dL_hinders_14 : decode cL_hinders 14 = .ok (.sipush 5760, 3) := by decide +kernel
theorem dL_hinders_17 : decode cL_hinders 17 = .ok (.if_icmp .lt 15, 3) := by decide +kernel
theorem dL_hinders_20 : decode cL_hinders 20 = .ok (.iload 4, 2) := by decide +kernel
theorem dL_hinders_22 : decode cL_hinders 22 = .ok (.aload_n 1, 1) := by decide +kernel
theorem dL_hinders_23 : decode cL_hinders 23 = .ok (.iload_n 3, 1) := by decide +kernel
theorem dL_hinders_24 : decode cL_hinders 24 = .ok (.iaload, 1) := by decide +kernel
theorem dL_hinders_25 : decode cL_hinders 25 = .ok (.isub, 1) := by decide +kernel
theorem dL_hinders_26 : decode cL_hinders 26 = .ok (.sipush 5760, 3) := by decide +kernel
theorem dL_hinders_29 : decode cL_hinders 29 = .ok (.if_icmp .ge 7, 3) := by decide +kernel
theorem dL_hinders_32 : decode cL_hinders 32 = .ok (.iconst 1, 1) := by decide +kernel
theorem dL_hinders_33 : decode cL_hinders 33 = .ok (.goto 4, 3) := by decide +kernel
theorem dL_hinders_36 : decode cL_hinders 36 = .ok (.iconst 0, 1) := by decide +kernel
theorem dL_hinders_37 : decode cL_hinders 37 = .ok (.istore 6, 2) := by decide +kernel
theorem dL_hinders_39 : decode cL_hinders 39 = .ok (.iload 6, 2) := by decide +kernel
theorem dL_hinders_41 : decode cL_hinders 41 = .ok (.iload 5, 2) := by decide +kernel
theorem dL_hinders_43 : decode cL_hinders 43 = .ok (.ifCond .lt 24, 3) := by decide +kernel
theorem dL_hinders_46 : decode cL_hinders 46 = .ok (.iload 5, 2) := by decide +kernel
theorem dL_hinders_48 : decode cL_hinders 48 = .ok (.sipush 500, 3) := by decide +kernel
theorem dL_hinders_51 : decode cL_hinders 51 = .ok (.if_icmp .lt 12, 3) := by decide +kernel
theorem dL_hinders_54 : decode cL_hinders 54 = .ok (.iload 5, 2) := by decide +kernel
theorem dL_hinders_56 : decode cL_hinders 56 = .ok (.bipush 100, 2) := by decide +kernel
theorem dL_hinders_58 : decode cL_hinders 58 = .ok (.irem, 1) := by decide +kernel
theorem dL_hinders_59 : decode cL_hinders 59 = .ok (.iconst 1, 1) := by decide +kernel
theorem dL_hinders_60 : decode cL_hinders 60 = .ok (.if_icmp .ne 7, 3) := by decide +kernel
theorem dL_hinders_63 : decode cL_hinders 63 = .ok (.iconst 2, 1) := by decide +kernel
theorem dL_hinders_64 : decode cL_hinders 64 = .ok (.goto 4, 3) := by decide +kernel
theorem dL_hinders_67 : decode cL_hinders 67 = .ok (.iconst 0, 1) := by decide +kernel
theorem dL_hinders_68 : decode cL_hinders 68 = .ok (.iadd, 1) := by decide +kernel
theorem dL_hinders_69 : decode cL_hinders 69 = .ok (.istore 6, 2) := by decide +kernel
theorem dL_hinders_71 : decode cL_hinders 71 = .ok (.iload 6, 2) := by decide +kernel
theorem dL_hinders_73 : decode cL_hinders 73 = .ok (.aload_n 1, 1) := by decide +kernel
theorem dL_hinders_74 : decode cL_hinders 74 = .ok (.bipush 16, 2) := by decide +kernel
theorem dL_hinders_76 : decode cL_hinders 76 = .ok (.iload_n 2, 1) := by decide +kernel
theorem dL_hinders_77 : decode cL_hinders 77 = .ok (.iadd, 1) := by decide +kernel
theorem dL_hinders_78 : decode cL_hinders 78 = .ok (.iaload, 1) := by decide +kernel
theorem dL_hinders_79 : decode cL_hinders 79 = .ok (.ifCond .ge 12, 3) := by decide +kernel
theorem dL_hinders_82 : decode cL_hinders 82 = .ok (.aload_n 1, 1) := by decide +kernel
theorem dL_hinders_83 : decode cL_hinders 83 = .ok (.bipush 16, 2) := by decide +kernel
theorem dL_hinders_85 : decode cL_hinders 85 = .ok (.iload_n 3, 1) := by decide +kernel
theorem dL_hinders_86 : decode cL_hinders 86 = .ok (.iadd, 1) := by decide +kernel
theorem dL_hinders_87 : decode cL_hinders 87 = .ok (.iaload, 1) := by decide +kernel
theorem dL_hinders_88 : decode cL_hinders 88 = .ok (.ifCond .lt 8, 3) := by decide +kernel
theorem dL_hinders_91 : decode cL_hinders 91 = .ok (.bipush 8, 2) := by decide +kernel
theorem dL_hinders_93 : decode cL_hinders 93 = .ok (.goto 4, 3) := by decide +kernel
theorem dL_hinders_96 : decode cL_hinders 96 = .ok (.iconst 0, 1) := by decide +kernel
theorem dL_hinders_97 : decode cL_hinders 97 = .ok (.iadd, 1) := by decide +kernel
theorem dL_hinders_98 : decode cL_hinders 98 = .ok (.ireturn, 1) := by decide +kernel
def tab_L_hinders : List (Nat × Sem) := [(0, op_al 0 1), (1, op_il 2 2), (2, op_il 3 3), (3, op_callN sp_L_kin 3 2 6), (6, op_is 5 8), (8, op_il 4 10), (10, op_al 1 11), (11, op_il 2 12), (12, op_iald 13), (13, op_bin (fun x y => x - y) 14), (14, op_ic 5760 17), (17, op_cmp (fun x y => x < y) 32 20), (20, op_il 4 22), (22, op_al 1 23), (23, op_il 3 24), (24, op_iald 25), (25, op_bin (fun x y => x - y) 26), (26, op_ic 5760 29), (29, op_cmp (fun x y => y ≤ x) 36 32), (32, op_ic 1 33), (33, op_go 37), (36, op_ic 0 37), (37, op_is 6 39), (39, op_il 6 41), (41, op_il 5 43), (43, op_if (fun x => x < 0) 67 46), (46, op_il 5 48), (48, op_ic 500 51), (51, op_cmp (fun x y => x < y) 63 54), (54, op_il 5 56), (56, op_ic 100 58), (58, op_dv (fun x y => irm x y) 59), (59, op_ic 1 60), (60, op_cmp (fun x y => ¬ x = y) 67 63), (63, op_ic 2 64), (64, op_go 68), (67, op_ic 0 68), (68, op_bin (fun x y => x + y) 69), (69, op_is 6 71), (71, op_il 6 73), (73, op_al 1 74), (74, op_ic 16 76), (76, op_il 2 77), (77, op_bin (fun x y => x + y) 78), (78, op_iald 79), (79, op_if (fun x => 0 ≤ x) 91 82), (82, op_al 1 83), (83, op_ic 16 85), (85, op_il 3 86), (86, op_bin (fun x y => x + y) 87), (87, op_iald 88), (88, op_if (fun x => x < 0) 96 91), (91, op_ic 8 93), (93, op_go 97), (96, op_ic 0 97), (97, op_bin (fun x y => x + y) 98), (98, op_iret)]
set_option maxRecDepth 20000 in
theorem tok_L_hinders : ∀ q ∈ tab_L_hinders, Snd RL cL_hinders 7 2 2 (some .int) q.1 q.2 := by
  unfold tab_L_hinders
  refine tcons (ok_aload_n dL_hinders_0 rfl rfl) ?_
  refine tcons (ok_iload_n dL_hinders_1 rfl rfl) ?_
  refine tcons (ok_iload_n dL_hinders_2 rfl rfl) ?_
  refine tcons (ok_invokestaticN M_L_kin w_707 w_708 w_19 w_709 ⟨by decide, by decide, by decide +kernel⟩ (by decide) (by decide) dL_hinders_3 rfl) ?_
  refine tcons (ok_istore dL_hinders_6 (by decide) rfl) ?_
  refine tcons (ok_iload dL_hinders_8 rfl) ?_
  refine tcons (ok_aload_n dL_hinders_10 rfl rfl) ?_
  refine tcons (ok_iload_n dL_hinders_11 rfl rfl) ?_
  refine tcons (ok_iaload dL_hinders_12 rfl) ?_
  refine tcons (ok_isub dL_hinders_13 rfl) ?_
  refine tcons (ok_sipush dL_hinders_14 rfl rfl) ?_
  refine tcons (ok_icmp_lt dL_hinders_17 rfl rfl) ?_
  refine tcons (ok_iload dL_hinders_20 rfl) ?_
  refine tcons (ok_aload_n dL_hinders_22 rfl rfl) ?_
  refine tcons (ok_iload_n dL_hinders_23 rfl rfl) ?_
  refine tcons (ok_iaload dL_hinders_24 rfl) ?_
  refine tcons (ok_isub dL_hinders_25 rfl) ?_
  refine tcons (ok_sipush dL_hinders_26 rfl rfl) ?_
  refine tcons (ok_icmp_ge dL_hinders_29 rfl rfl) ?_
  refine tcons (ok_iconst dL_hinders_32 rfl rfl) ?_
  refine tcons (ok_goto dL_hinders_33 rfl) ?_
  refine tcons (ok_iconst dL_hinders_36 rfl rfl) ?_
  refine tcons (ok_istore dL_hinders_37 (by decide) rfl) ?_
  refine tcons (ok_iload dL_hinders_39 rfl) ?_
  refine tcons (ok_iload dL_hinders_41 rfl) ?_
  refine tcons (ok_if_lt dL_hinders_43 rfl rfl) ?_
  refine tcons (ok_iload dL_hinders_46 rfl) ?_
  refine tcons (ok_sipush dL_hinders_48 rfl rfl) ?_
  refine tcons (ok_icmp_lt dL_hinders_51 rfl rfl) ?_
  refine tcons (ok_iload dL_hinders_54 rfl) ?_
  refine tcons (ok_bipush dL_hinders_56 rfl rfl) ?_
  refine tcons (ok_irem dL_hinders_58 rfl) ?_
  refine tcons (ok_iconst dL_hinders_59 rfl rfl) ?_
  refine tcons (ok_icmp_ne dL_hinders_60 rfl rfl) ?_
  refine tcons (ok_iconst dL_hinders_63 rfl rfl) ?_
  refine tcons (ok_goto dL_hinders_64 rfl) ?_
  refine tcons (ok_iconst dL_hinders_67 rfl rfl) ?_
  refine tcons (ok_iadd dL_hinders_68 rfl) ?_
  refine tcons (ok_istore dL_hinders_69 (by decide) rfl) ?_
  refine tcons (ok_iload dL_hinders_71 rfl) ?_
  refine tcons (ok_aload_n dL_hinders_73 rfl rfl) ?_
  refine tcons (ok_bipush dL_hinders_74 rfl rfl) ?_
  refine tcons (ok_iload_n dL_hinders_76 rfl rfl) ?_
  refine tcons (ok_iadd dL_hinders_77 rfl) ?_
  refine tcons (ok_iaload dL_hinders_78 rfl) ?_
  refine tcons (ok_if_ge dL_hinders_79 rfl rfl) ?_
  refine tcons (ok_aload_n dL_hinders_82 rfl rfl) ?_
  refine tcons (ok_bipush dL_hinders_83 rfl rfl) ?_
  refine tcons (ok_iload_n dL_hinders_85 rfl rfl) ?_
  refine tcons (ok_iadd dL_hinders_86 rfl) ?_
  refine tcons (ok_iaload dL_hinders_87 rfl) ?_
  refine tcons (ok_if_lt dL_hinders_88 rfl rfl) ?_
  refine tcons (ok_bipush dL_hinders_91 rfl rfl) ?_
  refine tcons (ok_goto dL_hinders_93 rfl) ?_
  refine tcons (ok_iconst dL_hinders_96 rfl rfl) ?_
  refine tcons (ok_iadd dL_hinders_97 rfl) ?_
  refine tcons (ok_ireturn rfl dL_hinders_98) ?_
  exact fun _ h => nomatch h
def sp_L_hinders : Spc := fun av s N _ => match av with
  | [.inl (.inr (20, 0)), .inl (.inr (21, 0)), .inl (.inl one), .inl (.inl oth), .inl (.inl day)] => ∃ (n i j : Nat) (fa mo : Nat → Nat), i < n ∧ j < n ∧ one = nI i ∧ oth = nI j ∧ paR s n fa mo ∧ s.1 18 = 0 ∧ s.1 14 = 0 ∧ N (some (aI (hinV s (kinV (lnF fa mo i) (lnF fa mo j) i j) i j day))) s
  | _ => False
theorem Bv_it {x : Int32} {P : Prop} {a : Int32} (h : (x = a ∧ P) ∨ (x = 0 ∧ ¬ P)) : x = iteP P a 0 := by
  rcases h with ⟨rfl, h⟩ | ⟨rfl, h⟩
  · rw [iteP_t h]
  · rw [iteP_f h]
set_option maxRecDepth 20000 in
set_option maxHeartbeats 2000000 in
theorem M_L_hinders : AMet yL_hinders cL_hinders 7 (some .int) 2 2 sp_L_hinders := by
  refine AMet.rn (own := RL) (by decide) rfl [0, 1, 2, 3, 4, 5, 6] rfl tok_L_hinders ?_
  intro av s0 N X h Z run
  unfold sp_L_hinders at h
  split at h
  rotate_left
  · exact h.elim
  rename_i one oth day
  obtain ⟨n, i, j, fa, mo, hi, hj, rfl, rfl, hpa, h18, h14, h⟩ := h
  have hn := hpa.1
  obtain ⟨its, hits⟩ : ∃ its, its = kinV (lnF fa mo i) (lnF fa mo j) i j := ⟨_, rfl⟩
  have ci : (nI i).toNatClampNeg = i := nI_clamp (by omega)
  have cj : (nI j).toNatClampNeg = j := nI_clamp (by omega)
  have ei : (16 : Int32) + nI i = nI (16 + i) := nI_add 16 i
  have ej : (16 : Int32) + nI j = nI (16 + j) := nI_add 16 j
  have c16i : ((16 : Int32) + nI i).toNatClampNeg = 16 + i := by rw [ei]; exact nI_clamp (by omega)
  have c16j : ((16 : Int32) + nI j).toNatClampNeg = 16 + j := by rw [ej]; exact nI_clamp (by omega)
  have hbi : Ib (nI i) 33 := nIb (by omega) (by decide)
  have hbj : Ib (nI j) 33 := nIb (by omega) (by decide)
  have hb16i : Ib ((16 : Int32) + nI i) 33 := by rw [ei]; exact nIb (by omega) (by decide)
  have hb16j : Ib ((16 : Int32) + nI j) 33 := by rw [ej]; exact nIb (by omega) (by decide)
  rw [← hits] at h
  have j3 : ∀ x y : Int32, x = iteP (hA s0 i j day) 1 0 + iteP (hB its) 2 0 → y = iteP (hC9 s0 i j) 8 0 → Z 97 2 [(0, .inr (20, 0)), (1, .inr (21, 0)), (2, .inl (nI i)), (3, .inl (nI j)), (4, .inl day), (5, .inl its), (6, .inl x)] [aI y, aI x] s0 := by
    rintro x y rfl rfl
    refine run.go [] 20 ?_
    repeat' (first | apply And.intro | (intro q; exact absurd q (by decide)) | (intro q; exact absurd (by decide) q) | (intro q; exact absurd rfl q) | intro _)
    all_goals first | (exact trivial) | decide | (exact (rfl : (0 : Nat) = 0)) | (exact Nat.le_of_ble_eq_true rfl) | contradiction | exact h
  have j2 : ∀ x y : Int32, x = iteP (hA s0 i j day) 1 0 → y = iteP (hB its) 2 0 → Z 68 2 [(0, .inr (20, 0)), (1, .inr (21, 0)), (2, .inl (nI i)), (3, .inl (nI j)), (4, .inl day), (5, .inl its), (6, .inl x)] [aI y, aI x] s0 := by
    intro x y hx hy
    refine run.go [97] 40 ?_
    repeat' (first | apply And.intro | (intro q; exact absurd q (by decide)) | (intro q; exact absurd (by decide) q) | (intro q; exact absurd rfl q) | intro _)
    all_goals first | (exact hb16i) | (exact hb16j) | (exact trivial) | decide | (exact (rfl : (0 : Nat) = 0)) | (exact Nat.le_of_ble_eq_true rfl) | contradiction | skip
    all_goals (simp only [c16i, c16j] at *)
    all_goals refine j3 _ _ (by rw [hx, hy]) (Bv_it ?_)
    all_goals first | (exact Or.inl ⟨rfl, by unfold hC9; simp only [Int32.not_lt]; grind⟩) | (exact Or.inr ⟨rfl, by unfold hC9; simp only [Int32.not_lt]; grind⟩)
  have j1 : ∀ x : Int32, x = iteP (hA s0 i j day) 1 0 → Z 37 2 [(0, .inr (20, 0)), (1, .inr (21, 0)), (2, .inl (nI i)), (3, .inl (nI j)), (4, .inl day), (5, .inl its)] [aI x] s0 := by
    intro x hx
    refine run.go [68] 40 ?_
    repeat' (first | apply And.intro | (intro q; exact absurd q (by decide)) | (intro q; exact absurd (by decide) q) | (intro q; exact absurd rfl q) | intro _)
    all_goals first | (exact trivial) | decide | (exact (rfl : (0 : Nat) = 0)) | (exact Nat.le_of_ble_eq_true rfl) | contradiction | skip
    all_goals refine j2 _ _ hx (Bv_it ?_)
    all_goals first | (exact Or.inl ⟨rfl, by unfold hB; grind⟩) | (exact Or.inr ⟨rfl, by unfold hB; grind⟩)
  refine run.go [37] 40 ?_
  refine ⟨by decide, by decide, fun r s' => r = some (aI its) ∧ s' = s0, ⟨n, i, j, fa, mo, hi, hj, rfl, rfl, hpa, h18, h14, by rw [hits], rfl⟩, ?_⟩
  rintro r s' ⟨rfl, rfl⟩
  repeat' (first | apply And.intro | (intro q; exact absurd q (by decide)) | (intro q; exact absurd (by decide) q) | (intro q; exact absurd rfl q) | intro _)
  all_goals first | (exact hbi) | (exact hbj) | (exact trivial) | decide | (exact (rfl : (0 : Nat) = 0)) | (exact Nat.le_of_ble_eq_true rfl) | contradiction | skip
  all_goals (simp only [ci, cj] at *)
  all_goals refine j1 _ (Bv_it ?_)
  all_goals first | (exact Or.inl ⟨rfl, by unfold hA; grind⟩) | (exact Or.inr ⟨rfl, by unfold hA; grind⟩)
/-- what hinders a vow, of the law -/
def bndL (s : Sg) (i k : Nat) : Prop := (isOfL s k (irm (s.2.1 24 0 i) 16) ∨ isOfL s k (irm (s.2.1 24 0 i / 16) 16)) ∧ bindsL s k (s.2.1 25 0 i)
noncomputable def hnL (s : Sg) (i : Nat) : Int32 := s.2.1 24 0 i / 16384 + iteP (∃ k, k < i ∧ bndL s i k) 4 0
theorem dL_hindered_0 : decode cL_hindered 0 = .ok (.aload_n 0, 1) := by decide +kernel
theorem dL_hindered_1 : decode cL_hindered 1 = .ok (.iload_n 2, 1) := by decide +kernel
theorem dL_hindered_2 : decode cL_hindered 2 = .ok (.iaload, 1) := by decide +kernel
theorem dL_hindered_3 : decode cL_hindered 3 = .ok (.bipush 16, 2) := by decide +kernel
theorem dL_hindered_5 : decode cL_hindered 5 = .ok (.irem, 1) := by decide +kernel
theorem dL_hindered_6 : decode cL_hindered 6 = .ok (.istore_n 3, 1) := by decide +kernel
theorem dL_hindered_7 : decode cL_hindered 7 = .ok (.aload_n 0, 1) := by decide +kernel
theorem dL_hindered_8 : decode cL_hindered 8 = .ok (.iload_n 2, 1) := by decide +kernel
theorem dL_hindered_9 : decode cL_hindered 9 = .ok (.iaload, 1) := by decide +kernel
theorem dL_hindered_10 : decode cL_hindered 10 = .ok (.bipush 16, 2) := by decide +kernel
theorem dL_hindered_12 : decode cL_hindered 12 = .ok (.idiv, 1) := by decide +kernel
theorem dL_hindered_13 : decode cL_hindered 13 = .ok (.bipush 16, 2) := by decide +kernel
theorem dL_hindered_15 : decode cL_hindered 15 = .ok (.irem, 1) := by decide +kernel
theorem dL_hindered_16 : decode cL_hindered 16 = .ok (.istore 4, 2) := by decide +kernel
theorem dL_hindered_18 : decode cL_hindered 18 = .ok (.iconst 0, 1) := by decide +kernel
theorem dL_hindered_19 : decode cL_hindered 19 = .ok (.istore 5, 2) := by decide +kernel
theorem dL_hindered_21 : decode cL_hindered 21 = .ok (.iconst 0, 1) := by decide +kernel
theorem dL_hindered_22 : decode cL_hindered 22 = .ok (.istore 6, 2) := by decide +kernel
theorem dL_hindered_24 : decode cL_hindered 24 = .ok (.iload 6, 2) := by decide +kernel
theorem dL_hindered_26 : decode cL_hindered 26 = .ok (.iload_n 2, 1) := by decide +kernel
theorem dL_hindered_27 : decode cL_hindered 27 = .ok (.if_icmp .ge 55, 3) := by decide +kernel
theorem dL_hindered_30 : decode cL_hindered 30 = .ok (.iload 5, 2) := by decide +kernel
theorem dL_hindered_32 : decode cL_hindered 32 = .ok (.ifCond .ne 37, 3) := by decide +kernel
theorem dL_hindered_35 : decode cL_hindered 35 = .ok (.aload_n 0, 1) := by decide +kernel
theorem dL_hindered_36 : decode cL_hindered 36 = .ok (.iload 6, 2) := by decide +kernel
theorem dL_hindered_38 : decode cL_hindered 38 = .ok (.iload_n 3, 1) := by decide +kernel
theorem dL_hindered_39 : decode cL_hindered 39 = .ok (.invokestatic 129, 3) := by decide +kernel
theorem dL_hindered_42 : decode cL_hindered 42 = .ok (.ifCond .ne 14, 3) := by decide +kernel
theorem dL_hindered_45 : decode cL_hindered 45 = .ok (.aload_n 0, 1) := by decide +kernel
theorem dL_hindered_46 : decode cL_hindered 46 = .ok (.iload 6, 2) := by decide +kernel
theorem dL_hindered_48 : decode cL_hindered 48 = .ok (.iload 4, 2) := by decide +kernel
theorem dL_hindered_50 : decode cL_hindered 50 = .ok (.invokestatic 129, 3) := by decide +kernel
theorem dL_hindered_53 : decode cL_hindered 53 = .ok (.ifCond .eq 20, 3) := by decide +kernel
theorem dL_hindered_56 : decode cL_hindered 56 = .ok (.aload_n 0, 1) := by decide +kernel
theorem dL_hindered_57 : decode cL_hindered 57 = .ok (.aload_n 1, 1) := by decide +kernel
theorem dL_hindered_58 : decode cL_hindered 58 = .ok (.iload 6, 2) := by decide +kernel
theorem dL_hindered_60 : decode cL_hindered 60 = .ok (.aload_n 1, 1) := by decide +kernel
theorem dL_hindered_61 : decode cL_hindered 61 = .ok (.iload_n 2, 1) := by decide +kernel
theorem dL_hindered_62 : decode cL_hindered 62 = .ok (.iaload, 1) := by decide +kernel
theorem dL_hindered_63 : decode cL_hindered 63 = .ok (.invokestatic 133, 3) := by decide +kernel
theorem dL_hindered_66 : decode cL_hindered 66 = .ok (.ifCond .eq 7, 3) := by decide +kernel
theorem dL_hindered_69 : decode cL_hindered 69 = .ok (.iconst 1, 1) := by decide +kernel
theorem dL_hindered_70 : decode cL_hindered 70 = .ok (.goto 4, 3) := by decide +kernel
theorem dL_hindered_73 : decode cL_hindered 73 = .ok (.iconst 0, 1) := by decide +kernel
theorem dL_hindered_74 : decode cL_hindered 74 = .ok (.istore 5, 2) := by decide +kernel
theorem dL_hindered_76 : decode cL_hindered 76 = .ok (.iinc 6 1, 3) := by decide +kernel
theorem dL_hindered_79 : decode cL_hindered 79 = .ok (.goto (-55), 3) := by decide +kernel
theorem dL_hindered_82 : decode cL_hindered 82 = .ok (.aload_n 0, 1) := by decide +kernel
theorem dL_hindered_83 : decode cL_hindered 83 = .ok (.iload_n 2, 1) := by decide +kernel
theorem dL_hindered_84 : decode cL_hindered 84 = .ok (.iaload, 1) := by decide +kernel
theorem dL_hindered_85 : decode cL_hindered 85 = .ok (.sipush 16384, 3) := by decide +kernel
theorem dL_hindered_88 : decode cL_hindered 88 = .ok (.idiv, 1) := by decide +kernel
theorem dL_hindered_89 : decode cL_hindered 89 = .ok (.iload 5, 2) := by decide +kernel
theorem dL_hindered_91 : decode cL_hindered 91 = .ok (.ifCond .eq 7, 3) := by decide +kernel
theorem dL_hindered_94 : decode cL_hindered 94 = .ok (.iconst 4, 1) := by decide +kernel
theorem dL_hindered_95 : decode cL_hindered 95 = .ok (.goto 4, 3) := by decide +kernel
theorem dL_hindered_98 : decode cL_hindered 98 = .ok (.iconst 0, 1) := by decide +kernel
theorem dL_hindered_99 : decode cL_hindered 99 = .ok (.iadd, 1) := by decide +kernel
theorem dL_hindered_100 : decode cL_hindered 100 = .ok (.ireturn, 1) := by decide +kernel
def tab_L_hindered : List (Nat × Sem) := [(0, op_al 0 1), (1, op_il 2 2), (2, op_iald 3), (3, op_ic 16 5), (5, op_dv (fun x y => irm x y) 6), (6, op_is 3 7), (7, op_al 0 8), (8, op_il 2 9), (9, op_iald 10), (10, op_ic 16 12), (12, op_dv (fun x y => x / y) 13), (13, op_ic 16 15), (15, op_dv (fun x y => irm x y) 16), (16, op_is 4 18), (18, op_ic 0 19), (19, op_is 5 21), (21, op_ic 0 22), (22, op_is 6 24), (24, op_il 6 26), (26, op_il 2 27), (27, op_cmp (fun x y => y ≤ x) 82 30), (30, op_il 5 32), (32, op_if (fun x => ¬ x = 0) 69 35), (35, op_al 0 36), (36, op_il 6 38), (38, op_il 3 39), (39, op_callN sp_L_isOf 3 0 42), (42, op_if (fun x => ¬ x = 0) 56 45), (45, op_al 0 46), (46, op_il 6 48), (48, op_il 4 50), (50, op_callN sp_L_isOf 3 0 53), (53, op_if (fun x => x = 0) 73 56), (56, op_al 0 57), (57, op_al 1 58), (58, op_il 6 60), (60, op_al 1 61), (61, op_il 2 62), (62, op_iald 63), (63, op_callN sp_L_binds 4 0 66), (66, op_if (fun x => x = 0) 73 69), (69, op_ic 1 70), (70, op_go 74), (73, op_ic 0 74), (74, op_is 5 76), (76, op_inc 6 1 79), (79, op_go 24), (82, op_al 0 83), (83, op_il 2 84), (84, op_iald 85), (85, op_ic 16384 88), (88, op_dv (fun x y => x / y) 89), (89, op_il 5 91), (91, op_if (fun x => x = 0) 98 94), (94, op_ic 4 95), (95, op_go 99), (98, op_ic 0 99), (99, op_bin (fun x y => x + y) 100), (100, op_iret)]
set_option maxRecDepth 20000 in
theorem tok_L_hindered : ∀ q ∈ tab_L_hindered, Snd RL cL_hindered 7 1 0 (some .int) q.1 q.2 := by
  unfold tab_L_hindered
  refine tcons (ok_aload_n dL_hindered_0 rfl rfl) ?_
  refine tcons (ok_iload_n dL_hindered_1 rfl rfl) ?_
  refine tcons (ok_iaload dL_hindered_2 rfl) ?_
  refine tcons (ok_bipush dL_hindered_3 rfl rfl) ?_
  refine tcons (ok_irem dL_hindered_5 rfl) ?_
  refine tcons (ok_istore_n dL_hindered_6 rfl (by decide) rfl) ?_
  refine tcons (ok_aload_n dL_hindered_7 rfl rfl) ?_
  refine tcons (ok_iload_n dL_hindered_8 rfl rfl) ?_
  refine tcons (ok_iaload dL_hindered_9 rfl) ?_
  refine tcons (ok_bipush dL_hindered_10 rfl rfl) ?_
  refine tcons (ok_idiv dL_hindered_12 rfl) ?_
  refine tcons (ok_bipush dL_hindered_13 rfl rfl) ?_
  refine tcons (ok_irem dL_hindered_15 rfl) ?_
  refine tcons (ok_istore dL_hindered_16 (by decide) rfl) ?_
  refine tcons (ok_iconst dL_hindered_18 rfl rfl) ?_
  refine tcons (ok_istore dL_hindered_19 (by decide) rfl) ?_
  refine tcons (ok_iconst dL_hindered_21 rfl rfl) ?_
  refine tcons (ok_istore dL_hindered_22 (by decide) rfl) ?_
  refine tcons (ok_iload dL_hindered_24 rfl) ?_
  refine tcons (ok_iload_n dL_hindered_26 rfl rfl) ?_
  refine tcons (ok_icmp_ge dL_hindered_27 rfl rfl) ?_
  refine tcons (ok_iload dL_hindered_30 rfl) ?_
  refine tcons (ok_if_ne dL_hindered_32 rfl rfl) ?_
  refine tcons (ok_aload_n dL_hindered_35 rfl rfl) ?_
  refine tcons (ok_iload dL_hindered_36 rfl) ?_
  refine tcons (ok_iload_n dL_hindered_38 rfl rfl) ?_
  refine tcons (ok_invokestaticN M_L_isOf w_696 w_697 w_19 w_698 ⟨by decide, by decide, by decide +kernel⟩ (by decide) (by decide) dL_hindered_39 rfl) ?_
  refine tcons (ok_if_ne dL_hindered_42 rfl rfl) ?_
  refine tcons (ok_aload_n dL_hindered_45 rfl rfl) ?_
  refine tcons (ok_iload dL_hindered_46 rfl) ?_
  refine tcons (ok_iload dL_hindered_48 rfl) ?_
  refine tcons (ok_invokestaticN M_L_isOf w_696 w_697 w_19 w_698 ⟨by decide, by decide, by decide +kernel⟩ (by decide) (by decide) dL_hindered_50 rfl) ?_
  refine tcons (ok_if_eq dL_hindered_53 rfl rfl) ?_
  refine tcons (ok_aload_n dL_hindered_56 rfl rfl) ?_
  refine tcons (ok_aload_n dL_hindered_57 rfl rfl) ?_
  refine tcons (ok_iload dL_hindered_58 rfl) ?_
  refine tcons (ok_aload_n dL_hindered_60 rfl rfl) ?_
  refine tcons (ok_iload_n dL_hindered_61 rfl rfl) ?_
  refine tcons (ok_iaload dL_hindered_62 rfl) ?_
  refine tcons (ok_invokestaticN M_L_binds w_699 w_700 w_19 w_701 ⟨by decide, by decide, by decide +kernel⟩ (by decide) (by decide) dL_hindered_63 rfl) ?_
  refine tcons (ok_if_eq dL_hindered_66 rfl rfl) ?_
  refine tcons (ok_iconst dL_hindered_69 rfl rfl) ?_
  refine tcons (ok_goto dL_hindered_70 rfl) ?_
  refine tcons (ok_iconst dL_hindered_73 rfl rfl) ?_
  refine tcons (ok_istore dL_hindered_74 (by decide) rfl) ?_
  refine tcons (ok_iinc dL_hindered_76 rfl (by decide) rfl) ?_
  refine tcons (ok_goto dL_hindered_79 rfl) ?_
  refine tcons (ok_aload_n dL_hindered_82 rfl rfl) ?_
  refine tcons (ok_iload_n dL_hindered_83 rfl rfl) ?_
  refine tcons (ok_iaload dL_hindered_84 rfl) ?_
  refine tcons (ok_sipush dL_hindered_85 rfl rfl) ?_
  refine tcons (ok_idiv dL_hindered_88 rfl) ?_
  refine tcons (ok_iload dL_hindered_89 rfl) ?_
  refine tcons (ok_if_eq dL_hindered_91 rfl rfl) ?_
  refine tcons (ok_iconst dL_hindered_94 rfl rfl) ?_
  refine tcons (ok_goto dL_hindered_95 rfl) ?_
  refine tcons (ok_iconst dL_hindered_98 rfl rfl) ?_
  refine tcons (ok_iadd dL_hindered_99 rfl) ?_
  refine tcons (ok_ireturn rfl dL_hindered_100) ?_
  exact fun _ h => nomatch h
def sp_L_hindered : Spc := fun av s N _ => match av with
  | [.inl (.inr (24, 0)), .inl (.inr (25, 0)), .inl (.inl v)] => ∃ i : Nat, i < 16 ∧ v = nI i ∧ N (some (aI (hnL s i))) s
  | _ => False
set_option maxRecDepth 20000 in
set_option maxHeartbeats 2000000 in
theorem M_L_hindered : AMet yL_hindered cL_hindered 7 (some .int) 1 0 sp_L_hindered := by
  refine AMet.rn (own := RL) (by decide) rfl [0, 1, 2, 3, 4, 5, 6] rfl tok_L_hindered ?_
  intro av s0 N X h Z run
  unfold sp_L_hindered at h
  split at h
  rotate_left
  · exact h.elim
  rename_i v
  obtain ⟨i, hi, rfl, h⟩ := h
  have ci : (nI i).toNatClampNeg = i := nI_clamp (by omega)
  have hbi : Ib (nI i) 17 := nIb (by omega) (by decide)
  have hbi2 : Ib (nI i) 32 := nIb (by omega) (by decide)
  obtain ⟨one, hone⟩ : ∃ one, one = irm (s0.2.1 24 0 i) 16 := ⟨_, rfl⟩
  obtain ⟨oth, hoth⟩ : ∃ oth, oth = irm (s0.2.1 24 0 i / 16) 16 := ⟨_, rfl⟩
  have lp := loop_up (n := i) (P := fun k => ∀ x : Int32, Bv x (∃ j, j < k ∧ bndL s0 i j) → Z 24 0 [(0, .inr (24, 0)), (1, .inr (25, 0)), (2, .inl (nI i)), (3, .inl one), (4, .inl oth), (5, .inl x), (6, .inl (nI k))] [] s0) ?_ ?_ 0 (Nat.zero_le _)
  · refine run.go [24] 40 ?_
    repeat' (first | apply And.intro | (intro q; exact absurd q (by decide)) | (intro q; exact absurd (by decide) q) | (intro q; exact absurd rfl q) | intro _)
    all_goals first | (exact hbi) | (exact trivial) | decide | (exact (rfl : (0 : Nat) = 0)) | (exact Nat.le_of_ble_eq_true rfl) | contradiction | skip
    simp only [ci, ← hone, ← hoth]
    exact lp _ (Bv_f ex_0)
  · intro x hx
    have hle : nI i ≤ nI i := nI_le (Nat.le_refl _) (by omega)
    unfold hnL at h
    rcases hx with ⟨rfl, hx⟩ | ⟨rfl, hx⟩
    · rw [iteP_t hx] at h
      refine run.go [] 30 ?_
      repeat' (first | apply And.intro | (intro q; exact absurd q (by decide)) | (intro q; exact absurd (by decide) q) | (intro q; exact absurd rfl q) | (intro q; exact absurd q hle) | (intro q; exact absurd hle q) | intro _)
      all_goals first | (exact hbi) | (exact trivial) | decide | (exact (rfl : (0 : Nat) = 0)) | (exact Nat.le_of_ble_eq_true rfl) | contradiction | skip
      simp only [ci]
      exact h
    · rw [iteP_f hx] at h
      refine run.go [] 30 ?_
      repeat' (first | apply And.intro | (intro q; exact absurd q (by decide)) | (intro q; exact absurd (by decide) q) | (intro q; exact absurd rfl q) | (intro q; exact absurd q hle) | (intro q; exact absurd hle q) | intro _)
      all_goals first | (exact hbi) | (exact trivial) | decide | (exact (rfl : (0 : Nat) = 0)) | (exact Nat.le_of_ble_eq_true rfl) | contradiction | skip
      simp only [ci]
      exact h
  · intro k hk ih x hx
    have ck : (nI k).toNatClampNeg = k := nI_clamp (by omega)
    have hle : ¬ nI i ≤ nI k := nI_ge hk (by omega)
    have j : ∀ y : Int32, Bv y ((∃ j, j < k ∧ bndL s0 i j) ∨ bndL s0 i k) → Z 74 0 [(0, .inr (24, 0)), (1, .inr (25, 0)), (2, .inl (nI i)), (3, .inl one), (4, .inl oth), (5, .inl x), (6, .inl (nI k))] [aI y] s0 := by
      intro y hy
      have ih := ih _ (Bv_iff hy ex_s.symm)
      rw [← nIs] at ih
      exact run.go [24] 20 ih
    clear ih
    rcases hx with ⟨rfl, hA⟩ | ⟨rfl, hA⟩
    · refine run.go [74] 60 ?_
      repeat' (first | apply And.intro | (intro q; exact absurd q (by decide)) | (intro q; exact absurd (by decide) q) | (intro q; exact absurd rfl q) | (intro q; exact absurd q hle) | (intro q; exact absurd hle q) | intro _)
      all_goals first | (exact trivial) | decide | (exact (rfl : (0 : Nat) = 0)) | (exact Nat.le_of_ble_eq_true rfl) | contradiction | (exact j _ (Bv_t (Or.inl hA)))
    · have i1 : ∀ p : Int32, sp_L_isOf [aR 24 0, aI (nI k), aI p] s0 (fun r s' => s' = s0 ∧ ∃ y : Int32, r = some (aI y) ∧ Bv y (isOfL s0 k p)) X := fun p => ⟨k, by omega, rfl, ⟨fun q => ⟨rfl, _, rfl, Bv_t q⟩, fun q => ⟨rfl, _, rfl, Bv_f q⟩⟩⟩
      have j56 : isOfL s0 k one ∨ isOfL s0 k oth → Z 56 0 [(0, .inr (24, 0)), (1, .inr (25, 0)), (2, .inl (nI i)), (3, .inl one), (4, .inl oth), (5, .inl 0), (6, .inl (nI k))] [] s0 := by
        intro ho
        refine run.go [74] 60 ?_
        refine ⟨⟨rfl, by decide, by decide⟩, hbi2, ?_⟩
        rw [ci]
        refine ⟨by decide, by decide, fun r s' => s' = s0 ∧ ∃ y : Int32, r = some (aI y) ∧ Bv y (bindsL s0 k (s0.2.1 25 0 i)), ⟨k, by omega, rfl, ⟨fun q => ⟨rfl, _, rfl, Bv_t q⟩, fun q => ⟨rfl, _, rfl, Bv_f q⟩⟩⟩, ?_⟩
        rintro r s' ⟨rfl, y, rfl, hy⟩
        rw [hone, hoth] at ho
        rcases hy with ⟨rfl, hy⟩ | ⟨rfl, hy⟩
        · repeat' (first | apply And.intro | (intro q; exact absurd q (by decide)) | (intro q; exact absurd (by decide) q) | (intro q; exact absurd rfl q) | intro _)
          all_goals first | (exact trivial) | decide | (exact (rfl : (0 : Nat) = 0)) | (exact Nat.le_of_ble_eq_true rfl) | contradiction | (exact j _ (Bv_t (Or.inr ⟨ho, hy⟩)))
        · repeat' (first | apply And.intro | (intro q; exact absurd q (by decide)) | (intro q; exact absurd (by decide) q) | (intro q; exact absurd rfl q) | intro _)
          all_goals first | (exact trivial) | decide | (exact (rfl : (0 : Nat) = 0)) | (exact Nat.le_of_ble_eq_true rfl) | contradiction | (exact j _ (Bv_f (fun z => z.elim hA (fun z => hy z.2))))
      have j45 : ¬ isOfL s0 k one → Z 45 0 [(0, .inr (24, 0)), (1, .inr (25, 0)), (2, .inl (nI i)), (3, .inl one), (4, .inl oth), (5, .inl 0), (6, .inl (nI k))] [] s0 := by
        intro ho
        refine run.go [56, 74] 60 ?_
        refine ⟨by decide, by decide, _, i1 oth, ?_⟩
        rintro r s' ⟨rfl, y, rfl, hy⟩
        rcases hy with ⟨rfl, hy⟩ | ⟨rfl, hy⟩
        · repeat' (first | apply And.intro | (intro q; exact absurd q (by decide)) | (intro q; exact absurd (by decide) q) | (intro q; exact absurd rfl q) | intro _)
          all_goals first | (exact trivial) | decide | (exact (rfl : (0 : Nat) = 0)) | (exact Nat.le_of_ble_eq_true rfl) | contradiction | (exact j56 (Or.inr hy))
        · rw [hone] at ho
          rw [hoth] at hy
          repeat' (first | apply And.intro | (intro q; exact absurd q (by decide)) | (intro q; exact absurd (by decide) q) | (intro q; exact absurd rfl q) | intro _)
          all_goals first | (exact trivial) | decide | (exact (rfl : (0 : Nat) = 0)) | (exact Nat.le_of_ble_eq_true rfl) | contradiction | (exact j _ (Bv_f (fun z => z.elim hA (fun z => z.1.elim ho hy))))
      have j35 : Z 35 0 [(0, .inr (24, 0)), (1, .inr (25, 0)), (2, .inl (nI i)), (3, .inl one), (4, .inl oth), (5, .inl 0), (6, .inl (nI k))] [] s0 := by
        refine run.go [45, 56] 60 ?_
        refine ⟨by decide, by decide, _, i1 one, ?_⟩
        rintro r s' ⟨rfl, y, rfl, hy⟩
        rcases hy with ⟨rfl, hy⟩ | ⟨rfl, hy⟩
        · repeat' (first | apply And.intro | (intro q; exact absurd q (by decide)) | (intro q; exact absurd (by decide) q) | (intro q; exact absurd rfl q) | intro _)
          all_goals first | (exact trivial) | decide | (exact (rfl : (0 : Nat) = 0)) | (exact Nat.le_of_ble_eq_true rfl) | contradiction | (exact j56 (Or.inl hy))
        · repeat' (first | apply And.intro | (intro q; exact absurd q (by decide)) | (intro q; exact absurd (by decide) q) | (intro q; exact absurd rfl q) | intro _)
          all_goals first | (exact trivial) | decide | (exact (rfl : (0 : Nat) = 0)) | (exact Nat.le_of_ble_eq_true rfl) | contradiction | (exact j45 hy)
      refine run.go [35] 20 ?_
      repeat' (first | apply And.intro | (intro q; exact absurd q (by decide)) | (intro q; exact absurd (by decide) q) | (intro q; exact absurd rfl q) | (intro q; exact absurd q hle) | (intro q; exact absurd hle q) | intro _)
      all_goals first | (exact trivial) | decide | (exact (rfl : (0 : Nat) = 0)) | (exact Nat.le_of_ble_eq_true rfl) | contradiction | (exact j35)

