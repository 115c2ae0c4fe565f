theorem Ib_nI {p : Int32} {N : Nat} (h : Ib p N) (hN : N < 2 ^ 30) : ∃ i, i < N ∧ p = nI i := by
  have hv := of_eq_true h
  obtain ⟨j, hj, rfl⟩ := nI_of (fun q => hv (Or.inl q))
  refine ⟨j, ?_, rfl⟩
  have := Nat.not_le.mp fun q => hv (Or.inr q)
  rw [nI_clamp hj] at this
  exact this
theorem nIb {k N : Nat} (h : k < N) (hN : N < 2 ^ 30) : Ib (nI k) N := Ib_of (nI_vp h hN)
theorem row24 (i k : Nat) : (24 : Int32) * nI i + nI k = nI (24 * i + k) := by rw [show (24 : Int32) = nI 24 from rfl, nIm, nI_add]
def stepK (a b : Int32) (r : Int32 × Int32) : Int32 × Int32 := if 100 ≤ a then r else if 100 ≤ b then r else
  (if r.1 ≤ a + b then r.1 else a + b, if r.1 ≤ a + b then (if a + b = r.1 then (if a = 0 then 1 else if b = 0 then 1 else if r.2 = 0 then 0 else 1) else (if r.2 = 0 then 0 else 1)) else (if a = 0 then 1 else if b = 0 then 1 else 0))
def kinR (f h : Nat → Int32) : Nat → Int32 × Int32
  | 0 => (200, 0)
  | k + 1 => stepK (f k) (h k) (kinR f h k)
def kinV (r : Int32 × Int32) : Int32 := if r.1 = 200 then -1 else 100 * r.1 + (if r.2 = 0 then 0 else 1)
/-- the steps' row of a person, in the model -/
def mrow (s : Sg) (i : Nat) : Nat → Int32 := fun k => s.2.1 28 0 (24 * i + k)
def kinM (s : Sg) (p q : Int32) : Int32 := kinV (kinR (mrow s (cl p)) (mrow s (cl q)) (npm s))
theorem dX5_kinOf_0 : decode cX5_kinOf 0 = .ok (.sipush 200, 3) := by decide +kernel
theorem dX5_kinOf_3 : decode cX5_kinOf 3 = .ok (.istore_n 3, 1) := by decide +kernel
theorem dX5_kinOf_4 : decode cX5_kinOf 4 = .ok (.iconst 0, 1) := by decide +kernel
theorem dX5_kinOf_5 : decode cX5_kinOf 5 = .ok (.istore 4, 2) := by decide +kernel
theorem dX5_kinOf_7 : decode cX5_kinOf 7 = .ok (.iconst 0, 1) := by decide +kernel
theorem dX5_kinOf_8 : decode cX5_kinOf 8 = .ok (.istore 5, 2) := by decide +kernel
theorem dX5_kinOf_10 : decode cX5_kinOf 10 = .ok (.iload 5, 2) := by decide +kernel
theorem dX5_kinOf_12 : decode cX5_kinOf 12 = .ok (.aload_n 0, 1) := by decide +kernel
theorem dX5_kinOf_13 : decode cX5_kinOf 13 = .ok (.getfield 96, 3) := by decide +kernel
theorem dX5_kinOf_16 : decode cX5_kinOf 16 = .ok (.if_icmp .ge 127, 3) := by decide +kernel
theorem dX5_kinOf_19 : decode cX5_kinOf 19 = .ok (.aload_n 0, 1) := by decide +kernel
theorem dX5_kinOf_20 : decode cX5_kinOf 20 = .ok (.getfield 29, 3) := by decide +kernel
theorem dX5_kinOf_23 : decode cX5_kinOf 23 = .ok (.bipush 24, 2) := by decide +kernel
theorem dX5_kinOf_25 : decode cX5_kinOf 25 = .ok (.iload_n 1, 1) := by decide +kernel
theorem dX5_kinOf_26 : decode cX5_kinOf 26 = .ok (.imul, 1) := by decide +kernel
theorem dX5_kinOf_27 : decode cX5_kinOf 27 = .ok (.iload 5, 2) := by decide +kernel
theorem dX5_kinOf_29 : decode cX5_kinOf 29 = .ok (.iadd, 1) := by decide +kernel
theorem dX5_kinOf_30 : decode cX5_kinOf 30 = .ok (.iaload, 1) := by decide +kernel
theorem dX5_kinOf_31 : decode cX5_kinOf 31 = .ok (.istore 6, 2) := by decide +kernel
theorem dX5_kinOf_33 : decode cX5_kinOf 33 = .ok (.aload_n 0, 1) := by decide +kernel
theorem dX5_kinOf_34 : decode cX5_kinOf 34 = .ok (.getfield 29, 3) := by decide +kernel
theorem dX5_kinOf_37 : decode cX5_kinOf 37 = .ok (.bipush 24, 2) := by decide +kernel
theorem dX5_kinOf_39 : decode cX5_kinOf 39 = .ok (.iload_n 2, 1) := by decide +kernel
theorem dX5_kinOf_40 : decode cX5_kinOf 40 = .ok (.imul, 1) := by decide +kernel
theorem dX5_kinOf_41 : decode cX5_kinOf 41 = .ok (.iload 5, 2) := by decide +kernel
theorem dX5_kinOf_43 : decode cX5_kinOf 43 = .ok (.iadd, 1) := by decide +kernel
theorem dX5_kinOf_44 : decode cX5_kinOf 44 = .ok (.iaload, 1) := by decide +kernel
theorem dX5_kinOf_45 : decode cX5_kinOf 45 = .ok (.istore 7, 2) := by decide +kernel
theorem dX5_kinOf_47 : decode cX5_kinOf 47 = .ok (.iload 6, 2) := by decide +kernel
theorem dX5_kinOf_49 : decode cX5_kinOf 49 = .ok (.bipush 100, 2) := by decide +kernel
theorem dX5_kinOf_51 : decode cX5_kinOf 51 = .ok (.if_icmp .ge 86, 3) := by decide +kernel
theorem dX5_kinOf_54 : decode cX5_kinOf 54 = .ok (.iload 7, 2) := by decide +kernel
theorem dX5_kinOf_56 : decode cX5_kinOf 56 = .ok (.bipush 100, 2) := by decide +kernel
theorem dX5_kinOf_58 : decode cX5_kinOf 58 = .ok (.if_icmp .ge 79, 3) := by decide +kernel
theorem dX5_kinOf_61 : decode cX5_kinOf 61 = .ok (.iload 6, 2) := by decide +kernel
theorem dX5_kinOf_63 : decode cX5_kinOf 63 = .ok (.ifCond .eq 8, 3) := by decide +kernel
theorem dX5_kinOf_66 : decode cX5_kinOf 66 = .ok (.iload 7, 2) := by decide +kernel
theorem dX5_kinOf_68 : decode cX5_kinOf 68 = .ok (.ifCond .ne 7, 3) := by decide +kernel
theorem dX5_kinOf_71 : decode cX5_kinOf 71 = .ok (.iconst 1, 1) := by decide +kernel
theorem dX5_kinOf_72 : decode cX5_kinOf 72 = .ok (.goto 4, 3) := by decide +kernel
theorem dX5_kinOf_75 : decode cX5_kinOf 75 = .ok (.iconst 0, 1) := by decide +kernel
theorem dX5_kinOf_76 : decode cX5_kinOf 76 = .ok (.istore 8, 2) := by decide +kernel
theorem dX5_kinOf_78 : decode cX5_kinOf 78 = .ok (.iload 6, 2) := by decide +kernel
theorem dX5_kinOf_80 : decode cX5_kinOf 80 = .ok (.iload 7, 2) := by decide +kernel
theorem dX5_kinOf_82 : decode cX5_kinOf 82 = .ok (.iadd, 1) := by decide +kernel
theorem dX5_kinOf_83 : decode cX5_kinOf 83 = .ok (.iload_n 3, 1) := by decide +kernel
theorem dX5_kinOf_84 : decode cX5_kinOf 84 = .ok (.if_icmp .ge 8, 3) := by decide +kernel
theorem dX5_kinOf_87 : decode cX5_kinOf 87 = .ok (.iload 8, 2) := by decide +kernel
theorem dX5_kinOf_89 : decode cX5_kinOf 89 = .ok (.goto 27, 3) := by decide +kernel
theorem dX5_kinOf_92 : decode cX5_kinOf 92 = .ok (.iload 6, 2) := by decide +kernel
theorem dX5_kinOf_94 : decode cX5_kinOf 94 = .ok (.iload 7, 2) := by decide +kernel
theorem dX5_kinOf_96 : decode cX5_kinOf 96 = .ok (.iadd, 1) := by decide +kernel
theorem dX5_kinOf_97 : decode cX5_kinOf 97 = .ok (.iload_n 3, 1) := by decide +kernel
theorem dX5_kinOf_98 : decode cX5_kinOf 98 = .ok (.if_icmp .ne 8, 3) := by decide +kernel
theorem dX5_kinOf_101 : decode cX5_kinOf 101 = .ok (.iload 8, 2) := by decide +kernel
theorem dX5_kinOf_103 : decode cX5_kinOf 103 = .ok (.ifCond .ne 8, 3) := by decide +kernel
theorem dX5_kinOf_106 : decode cX5_kinOf 106 = .ok (.iload 4, 2) := by decide +kernel
theorem dX5_kinOf_108 : decode cX5_kinOf 108 = .ok (.ifCond .eq 7, 3) := by decide +kernel
theorem dX5_kinOf_111 : decode cX5_kinOf 111 = .ok (.iconst 1, 1) := by decide +kernel
theorem dX5_kinOf_112 : decode cX5_kinOf 112 = .ok (.goto 4, 3) := by decide +kernel
theorem dX5_kinOf_115 : decode cX5_kinOf 115 = .ok (.iconst 0, 1) := by decide +kernel
theorem dX5_kinOf_116 : decode cX5_kinOf 116 = .ok (.istore 4, 2) := by decide +kernel
theorem dX5_kinOf_118 : decode cX5_kinOf 118 = .ok (.iload 6, 2) := by decide +kernel
theorem dX5_kinOf_120 : decode cX5_kinOf 120 = .ok (.iload 7, 2) := by decide +kernel
theorem dX5_kinOf_122 : decode cX5_kinOf 122 = .ok (.iadd, 1) := by decide +kernel
theorem dX5_kinOf_123 : decode cX5_kinOf 123 = .ok (.iload_n 3, 1) := by decide +kernel
theorem dX5_kinOf_124 : decode cX5_kinOf 124 = .ok (.if_icmp .ge 11, 3) := by decide +kernel
theorem dX5_kinOf_127 : decode cX5_kinOf 127 = .ok (.iload 6, 2) := by decide +kernel
theorem dX5_kinOf_129 : decode cX5_kinOf 129 = .ok (.iload 7, 2) := by decide +kernel
theorem dX5_kinOf_131 : decode cX5_kinOf 131 = .ok (.iadd, 1) := by decide +kernel
theorem dX5_kinOf_132 : decode cX5_kinOf 132 = .ok (.goto 4, 3) := by decide +kernel
theorem dX5_kinOf_135 : decode cX5_kinOf 135 = .ok (.iload_n 3, 1) := by decide +kernel
theorem dX5_kinOf_136 : decode cX5_kinOf 136 = .ok (.istore_n 3, 1) := by decide +kernel
theorem dX5_kinOf_137 : decode cX5_kinOf 137 = .ok (.iinc 5 1, 3) := by decide +kernel
theorem dX5_kinOf_140 : decode cX5_kinOf 140 = .ok (.goto (-130), 3) := by decide +kernel
theorem dX5_kinOf_143 : decode cX5_kinOf 143 = .ok (.iload_n 3, 1) := by decide +kernel
theorem dX5_kinOf_144 : decode cX5_kinOf 144 = .ok (.sipush 200, 3) := by decide +kernel
theorem dX5_kinOf_147 : decode cX5_kinOf 147 = .ok (.if_icmp .ne 7, 3) := by decide +kernel
theorem dX5_kinOf_150 : decode cX5_kinOf 150 = .ok (.iconst (-1), 1) := by decide +kernel
theorem dX5_kinOf_151 : decode cX5_kinOf 151 = .ok (.goto 18, 3) := by decide +kernel
theorem dX5_kinOf_154 : decode cX5_kinOf 154 = .ok (.bipush 100, 2) := by decide +kernel
theorem dX5_kinOf_156 : decode cX5_kinOf 156 = .ok (.iload_n 3, 1) := by decide +kernel
theorem dX5_kinOf_157 : decode cX5_kinOf 157 = .ok (.imul, 1) := by decide +kernel
theorem dX5_kinOf_158 : decode cX5_kinOf 158 = .ok (.iload 4, 2) := by decide +kernel
theorem dX5_kinOf_160 : decode cX5_kinOf 160 = .ok (.ifCond .eq 7, 3) := by decide +kernel
theorem dX5_kinOf_163 : decode cX5_kinOf 163 = .ok (.iconst 1, 1) := by decide +kernel
theorem dX5_kinOf_164 : decode cX5_kinOf 164 = .ok (.goto 4, 3) := by decide +kernel
theorem dX5_kinOf_167 : decode cX5_kinOf 167 = .ok (.iconst 0, 1) := by decide +kernel
theorem dX5_kinOf_168 : decode cX5_kinOf 168 = .ok (.iadd, 1) := by decide +kernel
theorem dX5_kinOf_169 : decode cX5_kinOf 169 = .ok (.ireturn, 1) := by decide +kernel
def tab_X5_kinOf : List (Nat × Sem) := [(0, op_ic 200 3), (3, op_is 3 4), (4, op_ic 0 5), (5, op_is 4 7), (7, op_ic 0 8), (8, op_is 5 10), (10, op_il 5 12), (12, op_al 0 13), (13, op_gf 7 1 16), (16, op_cmp (fun x y => y ≤ x) 143 19), (19, op_al 0 20), (20, op_gf 7 8 23), (23, op_ic 24 25), (25, op_il 1 26), (26, op_bin (fun x y => x * y) 27), (27, op_il 5 29), (29, op_bin (fun x y => x + y) 30), (30, op_iald 31), (31, op_is 6 33), (33, op_al 0 34), (34, op_gf 7 8 37), (37, op_ic 24 39), (39, op_il 2 40), (40, op_bin (fun x y => x * y) 41), (41, op_il 5 43), (43, op_bin (fun x y => x + y) 44), (44, op_iald 45), (45, op_is 7 47), (47, op_il 6 49), (49, op_ic 100 51), (51, op_cmp (fun x y => y ≤ x) 137 54), (54, op_il 7 56), (56, op_ic 100 58), (58, op_cmp (fun x y => y ≤ x) 137 61), (61, op_il 6 63), (63, op_if (fun x => x = 0) 71 66), (66, op_il 7 68), (68, op_if (fun x => ¬ x = 0) 75 71), (71, op_ic 1 72), (72, op_go 76), (75, op_ic 0 76), (76, op_is 8 78), (78, op_il 6 80), (80, op_il 7 82), (82, op_bin (fun x y => x + y) 83), (83, op_il 3 84), (84, op_cmp (fun x y => y ≤ x) 92 87), (87, op_il 8 89), (89, op_go 116), (92, op_il 6 94), (94, op_il 7 96), (96, op_bin (fun x y => x + y) 97), (97, op_il 3 98), (98, op_cmp (fun x y => ¬ x = y) 106 101), (101, op_il 8 103), (103, op_if (fun x => ¬ x = 0) 111 106), (106, op_il 4 108), (108, op_if (fun x => x = 0) 115 111), (111, op_ic 1 112), (112, op_go 116), (115, op_ic 0 116), (116, op_is 4 118), (118, op_il 6 120), (120, op_il 7 122), (122, op_bin (fun x y => x + y) 123), (123, op_il 3 124), (124, op_cmp (fun x y => y ≤ x) 135 127), (127, op_il 6 129), (129, op_il 7 131), (131, op_bin (fun x y => x + y) 132), (132, op_go 136), (135, op_il 3 136), (136, op_is 3 137), (137, op_inc 5 1 140), (140, op_go 10), (143, op_il 3 144), (144, op_ic 200 147), (147, op_cmp (fun x y => ¬ x = y) 154 150), (150, op_ic (-1) 151), (151, op_go 169), (154, op_ic 100 156), (156, op_il 3 157), (157, op_bin (fun x y => x * y) 158), (158, op_il 4 160), (160, op_if (fun x => x = 0) 167 163), (163, op_ic 1 164), (164, op_go 168), (167, op_ic 0 168), (168, op_bin (fun x y => x + y) 169), (169, op_iret)]
set_option maxRecDepth 20000 in
theorem tok_X5_kinOf : ∀ q ∈ tab_X5_kinOf, Snd RX5 cX5_kinOf 9 0 0 (some .int) q.1 q.2 := by
  unfold tab_X5_kinOf
  refine tcons (ok_sipush dX5_kinOf_0 rfl rfl) ?_
  refine tcons (ok_istore_n dX5_kinOf_3 rfl (by decide) rfl) ?_
  refine tcons (ok_iconst dX5_kinOf_4 rfl rfl) ?_
  refine tcons (ok_istore dX5_kinOf_5 (by decide) rfl) ?_
  refine tcons (ok_iconst dX5_kinOf_7 rfl rfl) ?_
  refine tcons (ok_istore dX5_kinOf_8 (by decide) rfl) ?_
  refine tcons (ok_iload dX5_kinOf_10 rfl) ?_
  refine tcons (ok_aload_n dX5_kinOf_12 rfl rfl) ?_
  refine tcons (ok_getfield (C := RX5) (T := TX5) (n := 33) rfl in_X5 (by decide) w_994 dX5_kinOf_13 rfl) ?_
  refine tcons (ok_icmp_ge dX5_kinOf_16 rfl rfl) ?_
  refine tcons (ok_aload_n dX5_kinOf_19 rfl rfl) ?_
  refine tcons (ok_getfield (C := RX5) (T := TX5) (n := 33) rfl in_X5 (by decide) w_1001 dX5_kinOf_20 rfl) ?_
  refine tcons (ok_bipush dX5_kinOf_23 rfl rfl) ?_
  refine tcons (ok_iload_n dX5_kinOf_25 rfl rfl) ?_
  refine tcons (ok_imul dX5_kinOf_26 rfl) ?_
  refine tcons (ok_iload dX5_kinOf_27 rfl) ?_
  refine tcons (ok_iadd dX5_kinOf_29 rfl) ?_
  refine tcons (ok_iaload dX5_kinOf_30 rfl) ?_
  refine tcons (ok_istore dX5_kinOf_31 (by decide) rfl) ?_
  refine tcons (ok_aload_n dX5_kinOf_33 rfl rfl) ?_
  refine tcons (ok_getfield (C := RX5) (T := TX5) (n := 33) rfl in_X5 (by decide) w_1001 dX5_kinOf_34 rfl) ?_
  refine tcons (ok_bipush dX5_kinOf_37 rfl rfl) ?_
  refine tcons (ok_iload_n dX5_kinOf_39 rfl rfl) ?_
  refine tcons (ok_imul dX5_kinOf_40 rfl) ?_
  refine tcons (ok_iload dX5_kinOf_41 rfl) ?_
  refine tcons (ok_iadd dX5_kinOf_43 rfl) ?_
  refine tcons (ok_iaload dX5_kinOf_44 rfl) ?_
  refine tcons (ok_istore dX5_kinOf_45 (by decide) rfl) ?_
  refine tcons (ok_iload dX5_kinOf_47 rfl) ?_
  refine tcons (ok_bipush dX5_kinOf_49 rfl rfl) ?_
  refine tcons (ok_icmp_ge dX5_kinOf_51 rfl rfl) ?_
  refine tcons (ok_iload dX5_kinOf_54 rfl) ?_
  refine tcons (ok_bipush dX5_kinOf_56 rfl rfl) ?_
  refine tcons (ok_icmp_ge dX5_kinOf_58 rfl rfl) ?_
  refine tcons (ok_iload dX5_kinOf_61 rfl) ?_
  refine tcons (ok_if_eq dX5_kinOf_63 rfl rfl) ?_
  refine tcons (ok_iload dX5_kinOf_66 rfl) ?_
  refine tcons (ok_if_ne dX5_kinOf_68 rfl rfl) ?_
  refine tcons (ok_iconst dX5_kinOf_71 rfl rfl) ?_
  refine tcons (ok_goto dX5_kinOf_72 rfl) ?_
  refine tcons (ok_iconst dX5_kinOf_75 rfl rfl) ?_
  refine tcons (ok_istore dX5_kinOf_76 (by decide) rfl) ?_
  refine tcons (ok_iload dX5_kinOf_78 rfl) ?_
  refine tcons (ok_iload dX5_kinOf_80 rfl) ?_
  refine tcons (ok_iadd dX5_kinOf_82 rfl) ?_
  refine tcons (ok_iload_n dX5_kinOf_83 rfl rfl) ?_
  refine tcons (ok_icmp_ge dX5_kinOf_84 rfl rfl) ?_
  refine tcons (ok_iload dX5_kinOf_87 rfl) ?_
  refine tcons (ok_goto dX5_kinOf_89 rfl) ?_
  refine tcons (ok_iload dX5_kinOf_92 rfl) ?_
  refine tcons (ok_iload dX5_kinOf_94 rfl) ?_
  refine tcons (ok_iadd dX5_kinOf_96 rfl) ?_
  refine tcons (ok_iload_n dX5_kinOf_97 rfl rfl) ?_
  refine tcons (ok_icmp_ne dX5_kinOf_98 rfl rfl) ?_
  refine tcons (ok_iload dX5_kinOf_101 rfl) ?_
  refine tcons (ok_if_ne dX5_kinOf_103 rfl rfl) ?_
  refine tcons (ok_iload dX5_kinOf_106 rfl) ?_
  refine tcons (ok_if_eq dX5_kinOf_108 rfl rfl) ?_
  refine tcons (ok_iconst dX5_kinOf_111 rfl rfl) ?_
  refine tcons (ok_goto dX5_kinOf_112 rfl) ?_
  refine tcons (ok_iconst dX5_kinOf_115 rfl rfl) ?_
  refine tcons (ok_istore dX5_kinOf_116 (by decide) rfl) ?_
  refine tcons (ok_iload dX5_kinOf_118 rfl) ?_
  refine tcons (ok_iload dX5_kinOf_120 rfl) ?_
  refine tcons (ok_iadd dX5_kinOf_122 rfl) ?_
  refine tcons (ok_iload_n dX5_kinOf_123 rfl rfl) ?_
  refine tcons (ok_icmp_ge dX5_kinOf_124 rfl rfl) ?_
  refine tcons (ok_iload dX5_kinOf_127 rfl) ?_
  refine tcons (ok_iload dX5_kinOf_129 rfl) ?_
  refine tcons (ok_iadd dX5_kinOf_131 rfl) ?_
  refine tcons (ok_goto dX5_kinOf_132 rfl) ?_
  refine tcons (ok_iload_n dX5_kinOf_135 rfl rfl) ?_
  refine tcons (ok_istore_n dX5_kinOf_136 rfl (by decide) rfl) ?_
  refine tcons (ok_iinc dX5_kinOf_137 rfl (by decide) rfl) ?_
  refine tcons (ok_goto dX5_kinOf_140 rfl) ?_
  refine tcons (ok_iload_n dX5_kinOf_143 rfl rfl) ?_
  refine tcons (ok_sipush dX5_kinOf_144 rfl rfl) ?_
  refine tcons (ok_icmp_ne dX5_kinOf_147 rfl rfl) ?_
  refine tcons (ok_iconst dX5_kinOf_150 rfl rfl) ?_
  refine tcons (ok_goto dX5_kinOf_151 rfl) ?_
  refine tcons (ok_bipush dX5_kinOf_154 rfl rfl) ?_
  refine tcons (ok_iload_n dX5_kinOf_156 rfl rfl) ?_
  refine tcons (ok_imul dX5_kinOf_157 rfl) ?_
  refine tcons (ok_iload dX5_kinOf_158 rfl) ?_
  refine tcons (ok_if_eq dX5_kinOf_160 rfl rfl) ?_
  refine tcons (ok_iconst dX5_kinOf_163 rfl rfl) ?_
  refine tcons (ok_goto dX5_kinOf_164 rfl) ?_
  refine tcons (ok_iconst dX5_kinOf_167 rfl rfl) ?_
  refine tcons (ok_iadd dX5_kinOf_168 rfl) ?_
  refine tcons (ok_ireturn rfl dX5_kinOf_169) ?_
  exact fun _ h => nomatch h
def sp_X5_kinOf : Spc := fun av s N _ => match av with
  | [.inl (.inr (20, 0)), .inl (.inl p), .inl (.inl q)] => MI s ∧ Ib p 24 ∧ Ib q 24 ∧ N (some (aI (kinM s p q))) s
  | _ => False
set_option maxRecDepth 20000 in
set_option maxHeartbeats 2000000 in
theorem M_X5_kinOf : AMet yX5_kinOf cX5_kinOf 9 (some .int) 0 0 sp_X5_kinOf := by
  refine AMet.mc (own := RX5) (by decide) rfl [0, 1, 2, 3, 4, 5, 6, 7, 8] rfl tok_X5_kinOf 200 ?_
  intro av s0 N X h
  unfold sp_X5_kinOf at h
  split at h
  rotate_left
  · exact h.elim
  obtain ⟨hM, hp, hq, h⟩ := h
  obtain ⟨i, hi, rfl⟩ := Ib_nI hp (by decide)
  obtain ⟨j, hj, rfl⟩ := Ib_nI hq (by decide)
  obtain ⟨⟨n, hn, hv⟩, -, -⟩ := of_eq_true hM
  unfold kinM at h
  rw [npm_eq hv hn] at h
  rw [show cl (nI i) = i from nI_clamp (by omega), show cl (nI j) = j from nI_clamp (by omega)] at h
  obtain ⟨f, hf⟩ : ∃ z, z = mrow s0 i := ⟨_, rfl⟩
  obtain ⟨g, hg⟩ : ∃ z, z = mrow s0 j := ⟨_, rfl⟩
  rw [← hf, ← hg] at h
  refine ⟨[(10, fun m u L st s => ∃ k, k ≤ n ∧ m = n - k ∧ u = 0 ∧ L = [(0, .inr (20, 0)), (1, .inl (nI i)), (2, .inl (nI j)), (3, .inl (kinR f g k).1), (4, .inl (kinR f g k).2), (5, .inl (nI k))] ∧ st = [] ∧ s = s0)], ?_, ac ?_ an⟩
  · repeat' (first | apply And.intro | (intro q; exact absurd q (by decide)) | intro _)
    all_goals first | decide | (exact Nat.le_of_ble_eq_true rfl) | (exact ⟨n, 6, trivial, 0, Nat.zero_le _, rfl, rfl, rfl, rfl, rfl⟩)
  · rintro m u L st s ⟨k, hk, rfl, rfl, rfl, rfl, rfl⟩
    by_cases hkn : k < n
    · have hle : ¬ nI n ≤ nI k := fun q => by have := (nIge (Nat.le_trans hk hn) hn (by decide)).mp q; omega
      have hf1 : s.2.1 (20 + 8) 0 ((24 : Int32) * nI i + nI k).toNatClampNeg = f k := by rw [row24, nI_clamp (by omega), hf]; rfl
      have hg1 : s.2.1 (20 + 8) 0 ((24 : Int32) * nI j + nI k).toNatClampNeg = g k := by rw [row24, nI_clamp (by omega), hg]; rfl
      have hb1 : Ib ((24 : Int32) * nI i + nI k) 576 := by rw [row24]; exact nIb (by omega) (by decide)
      have hb2 : Ib ((24 : Int32) * nI j + nI k) 576 := by rw [row24]; exact nIb (by omega) (by decide)
      clear hf hg h hM hp hq
      repeat' (first | apply And.intro | (intro q; exact absurd q (by decide)) | (intro q; exact absurd (by rw [← hv]; exact q) hle) | intro _)
      all_goals first | decide | (exact Nat.le_of_ble_eq_true rfl) | exact hb1 | exact hb2 |
        (exact ⟨n - (k + 1), 6, by omega, k + 1, by omega, rfl, rfl, by simp_all [-Int32.not_le, -Int32.not_lt, kinR, stepK, nIs], rfl, rfl⟩)
    · obtain rfl : k = n := by omega
      have hle : s.2.1 20 0 1 ≤ nI k := by rw [hv]; exact nI_le (Nat.le_refl _) (by omega)
      clear hf hg hM hp hq
      repeat' (first | apply And.intro | (intro q; exact absurd q (by decide)) | (intro q; exact absurd hle q) | intro _)
      all_goals first | decide | (exact Nat.le_of_ble_eq_true rfl) | (simp_all [kinV]; done)

