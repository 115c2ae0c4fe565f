theorem dX5_decides_0 : decode cX5_decides 0 = .ok (.aload_n 0, 1) := by decide +kernel
theorem dX5_decides_1 : decode cX5_decides 1 = .ok (.getfield 71, 3) := by decide +kernel
theorem dX5_decides_4 : decode cX5_decides 4 = .ok (.iload_n 1, 1) := by decide +kernel
theorem dX5_decides_5 : decode cX5_decides 5 = .ok (.iload_n 2, 1) := by decide +kernel
theorem dX5_decides_6 : decode cX5_decides 6 = .ok (.ifCond .eq 7, 3) := by decide +kernel
theorem dX5_decides_9 : decode cX5_decides 9 = .ok (.iconst 2, 1) := by decide +kernel
theorem dX5_decides_10 : decode cX5_decides 10 = .ok (.goto 4, 3) := by decide +kernel
theorem dX5_decides_13 : decode cX5_decides 13 = .ok (.iconst 3, 1) := by decide +kernel
theorem dX5_decides_14 : decode cX5_decides 14 = .ok (.iastore, 1) := by decide +kernel
theorem dX5_decides_15 : decode cX5_decides 15 = .ok (.iload_n 2, 1) := by decide +kernel
theorem dX5_decides_16 : decode cX5_decides 16 = .ok (.ifCond .eq 14, 3) := by decide +kernel
theorem dX5_decides_19 : decode cX5_decides 19 = .ok (.aload_n 0, 1) := by decide +kernel
theorem dX5_decides_20 : decode cX5_decides 20 = .ok (.aload_n 0, 1) := by decide +kernel
theorem dX5_decides_21 : decode cX5_decides 21 = .ok (.getfield 65, 3) := by decide +kernel
theorem dX5_decides_24 : decode cX5_decides 24 = .ok (.iload_n 1, 1) := by decide +kernel
theorem dX5_decides_25 : decode cX5_decides 25 = .ok (.iaload, 1) := by decide +kernel
theorem dX5_decides_26 : decode cX5_decides 26 = .ok (.iconst 1, 1) := by decide +kernel
theorem dX5_decides_27 : decode cX5_decides 27 = .ok (.invokevirtual 120, 3) := by decide +kernel
theorem dX5_decides_30 : decode cX5_decides 30 = .ok (.return_, 1) := by decide +kernel
def tab_X5_decides : List (Nat × Sem) := [(0, op_al 0 1), (1, op_gf 7 24 4), (4, op_il 1 5), (5, op_il 2 6), (6, op_if (fun x => x = 0) 13 9), (9, op_ic 2 10), (10, op_go 14), (13, op_ic 3 14), (14, op_iast 15), (15, op_il 2 16), (16, op_if (fun x => x = 0) 30 19), (19, op_al 0 20), (20, op_al 0 21), (21, op_gf 7 22 24), (24, op_il 1 25), (25, op_iald 26), (26, op_ic 1 27), (27, op_callV 7 sp_X5_ends 3 0 30), (30, op_vret)]
set_option maxRecDepth 20000 in
theorem tok_X5_decides : ∀ q ∈ tab_X5_decides, Snd RX5 cX5_decides 3 1 0 none q.1 q.2 := by
  unfold tab_X5_decides
  refine tcons (ok_aload_n dX5_decides_0 rfl rfl) ?_
  refine tcons (ok_getfield (C := RX5) (T := TX5) (n := 33) rfl in_X5 (by decide) w_1017 dX5_decides_1 rfl) ?_
  refine tcons (ok_iload_n dX5_decides_4 rfl rfl) ?_
  refine tcons (ok_iload_n dX5_decides_5 rfl rfl) ?_
  refine tcons (ok_if_eq dX5_decides_6 rfl rfl) ?_
  refine tcons (ok_iconst dX5_decides_9 rfl rfl) ?_
  refine tcons (ok_goto dX5_decides_10 rfl) ?_
  refine tcons (ok_iconst dX5_decides_13 rfl rfl) ?_
  refine tcons (ok_iastore dX5_decides_14 rfl) ?_
  refine tcons (ok_iload_n dX5_decides_15 rfl rfl) ?_
  refine tcons (ok_if_eq dX5_decides_16 rfl rfl) ?_
  refine tcons (ok_aload_n dX5_decides_19 rfl rfl) ?_
  refine tcons (ok_aload_n dX5_decides_20 rfl rfl) ?_
  refine tcons (ok_getfield (C := RX5) (T := TX5) (n := 33) rfl in_X5 (by decide) w_1015 dX5_decides_21 rfl) ?_
  refine tcons (ok_iload_n dX5_decides_24 rfl rfl) ?_
  refine tcons (ok_iaload dX5_decides_25 rfl) ?_
  refine tcons (ok_iconst dX5_decides_26 rfl rfl) ?_
  refine tcons (ok_invokevirtual M_X5_ends (C := RX5) (T := TX5) (nf := 33) rfl w_1136 w_1138 w_21 w_49 w_1139 ⟨rfl, by decide, by decide, by decide +kernel⟩ (by decide) (by decide) dX5_decides_27 rfl) ?_
  refine tcons (ok_vreturn rfl dX5_decides_30) ?_
  exact fun _ h => nomatch h
def sp_X5_decides : Spc := fun av s N _ => match av with
  | [.inl (.inr (20, 0)), .inl (.inl c), .inl (.inl x)] => Ib c 30 ∧ Ib (s.2.1 42 0 (cl c)) 30 ∧ (x = 0 → N none (stS s 44 0 (cl c) 3)) ∧ (¬ x = 0 → N none (stS (stS (stS s 44 0 (cl c) 2) 39 0 (cl (s.2.1 42 0 (cl c))) 1) 40 0 (cl (s.2.1 42 0 (cl c))) (s.2.1 20 0 0)))
  | _ => False
set_option maxRecDepth 20000 in
set_option maxHeartbeats 2000000 in
theorem M_X5_decides : AMet yX5_decides cX5_decides 3 none 1 0 sp_X5_decides := by
  refine AMet.mk (own := RX5) (by decide) rfl [0, 1, 2] rfl tok_X5_decides 200 ?_
  intro av s0 N X h
  unfold sp_X5_decides at h
  split at h
  rotate_left
  · exact h.elim
  refine ⟨fun _ => none, ?_, fun pc P hP => nomatch hP⟩
  repeat' (first | apply And.intro | (intro q; exact absurd q (by decide)) | intro _)
  all_goals first | decide | (exact (rfl : (0 : Nat) = 0)) | (exact Nat.le_of_ble_eq_true rfl) | (exact h.1) | (simp_all [stS_get]; done)
def maj3 (a b c : Int32) : Int32 := ((a &&& b) ||| (a &&& c)) ||| (b &&& c)
def likeM (a b : Int32) : Prop := (a = 0 ∧ b = 0) ∨ ¬ eff a &&& eff b = 0
def opnM (s : Sg) (c : Nat) (w : Int32) : Sg := stR (stS (stS (stS s 44 0 c 0) 45 0 c w) 47 0 c 0) 48 (3 * c) 3 (-1)
def nulM (s : Sg) (c : Nat) : Sg := stS (stS (stS s 44 0 c 2) 39 0 (cl (s.2.1 42 0 c)) 1) 40 0 (cl (s.2.1 42 0 c)) (s.2.1 20 0 0)
/-- the sentence's state, with the set d in the instance of number i (from 0) -/
def seM (s : Sg) (c i : Nat) (d : Int32) : Sg := stS (th s 0) 49 0 (3 * c + i) d
def majM (s : Sg) (c : Nat) : Int32 := maj3 (s.2.1 48 0 (3 * c)) (s.2.1 48 0 (3 * c + 1)) (s.2.1 48 0 (3 * c + 2))
def senP (s : Sg) (c : Nat) (N : Nt) : Prop :=
  (s.2.1 45 0 c = 1 → majM s c = 0 → N (some (aI (majM s c))) (stS (seM s c 0 (majM s c)) 44 0 c 3)) ∧
  (s.2.1 45 0 c = 1 → ¬ majM s c = 0 → N (some (aI (majM s c))) (opnM (seM s c 0 (majM s c)) c 2)) ∧
  (s.2.1 45 0 c = 2 → likeM (majM s c) (s.2.1 49 0 (3 * c)) → majM s c = 0 → N (some (aI (majM s c))) (stS (seM s c 1 (majM s c)) 44 0 c 3)) ∧
  (s.2.1 45 0 c = 2 → likeM (majM s c) (s.2.1 49 0 (3 * c)) → ¬ majM s c = 0 → N (some (aI (majM s c))) (nulM (seM s c 1 (majM s c)) c)) ∧
  (s.2.1 45 0 c = 2 → ¬ likeM (majM s c) (s.2.1 49 0 (3 * c)) → N (some (aI (majM s c))) (opnM (seM s c 1 (majM s c)) c 3)) ∧
  (s.2.1 45 0 c = 3 → (¬ majM s c = 0 ∧ (likeM (majM s c) (s.2.1 49 0 (3 * c)) ∨ likeM (majM s c) (s.2.1 49 0 (3 * c + 1)))) → N (some (aI (majM s c))) (nulM (seM s c 2 (majM s c)) c)) ∧
  (s.2.1 45 0 c = 3 → ¬ (¬ majM s c = 0 ∧ (likeM (majM s c) (s.2.1 49 0 (3 * c)) ∨ likeM (majM s c) (s.2.1 49 0 (3 * c + 1)))) → N (some (aI (majM s c))) (stS (seM s c 2 (majM s c)) 44 0 c 3))
theorem dX5_sentence_0 : decode cX5_sentence 0 = .ok (.aload_n 0, 1) := by decide +kernel
theorem dX5_sentence_1 : decode cX5_sentence 1 = .ok (.aload_n 0, 1) := by decide +kernel
theorem dX5_sentence_2 : decode cX5_sentence 2 = .ok (.iload_n 1, 1) := by decide +kernel
theorem dX5_sentence_3 : decode cX5_sentence 3 = .ok (.invokevirtual 179, 3) := by decide +kernel
theorem dX5_sentence_6 : decode cX5_sentence 6 = .ok (.ifCond .ne 7, 3) := by decide +kernel
theorem dX5_sentence_9 : decode cX5_sentence 9 = .ok (.iconst 1, 1) := by decide +kernel
theorem dX5_sentence_10 : decode cX5_sentence 10 = .ok (.goto 28, 3) := by decide +kernel
theorem dX5_sentence_13 : decode cX5_sentence 13 = .ok (.aload_n 0, 1) := by decide +kernel
theorem dX5_sentence_14 : decode cX5_sentence 14 = .ok (.getfield 71, 3) := by decide +kernel
theorem dX5_sentence_17 : decode cX5_sentence 17 = .ok (.iload_n 1, 1) := by decide +kernel
theorem dX5_sentence_18 : decode cX5_sentence 18 = .ok (.iaload, 1) := by decide +kernel
theorem dX5_sentence_19 : decode cX5_sentence 19 = .ok (.iconst 1, 1) := by decide +kernel
theorem dX5_sentence_20 : decode cX5_sentence 20 = .ok (.if_icmp .ne 17, 3) := by decide +kernel
theorem dX5_sentence_23 : decode cX5_sentence 23 = .ok (.aload_n 0, 1) := by decide +kernel
theorem dX5_sentence_24 : decode cX5_sentence 24 = .ok (.getfield 80, 3) := by decide +kernel
theorem dX5_sentence_27 : decode cX5_sentence 27 = .ok (.iload_n 1, 1) := by decide +kernel
theorem dX5_sentence_28 : decode cX5_sentence 28 = .ok (.iaload, 1) := by decide +kernel
theorem dX5_sentence_29 : decode cX5_sentence 29 = .ok (.iconst 3, 1) := by decide +kernel
theorem dX5_sentence_30 : decode cX5_sentence 30 = .ok (.if_icmp .ne 7, 3) := by decide +kernel
theorem dX5_sentence_33 : decode cX5_sentence 33 = .ok (.iconst 0, 1) := by decide +kernel
theorem dX5_sentence_34 : decode cX5_sentence 34 = .ok (.goto 4, 3) := by decide +kernel
theorem dX5_sentence_37 : decode cX5_sentence 37 = .ok (.iconst 2, 1) := by decide +kernel
theorem dX5_sentence_38 : decode cX5_sentence 38 = .ok (.invokevirtual 114, 3) := by decide +kernel
theorem dX5_sentence_41 : decode cX5_sentence 41 = .ok (.ifCond .eq 5, 3) := by decide +kernel
theorem dX5_sentence_44 : decode cX5_sentence 44 = .ok (.iconst 0, 1) := by decide +kernel
theorem dX5_sentence_45 : decode cX5_sentence 45 = .ok (.ireturn, 1) := by decide +kernel
theorem dX5_sentence_46 : decode cX5_sentence 46 = .ok (.iconst 3, 1) := by decide +kernel
theorem dX5_sentence_47 : decode cX5_sentence 47 = .ok (.iload_n 1, 1) := by decide +kernel
theorem dX5_sentence_48 : decode cX5_sentence 48 = .ok (.imul, 1) := by decide +kernel
theorem dX5_sentence_49 : decode cX5_sentence 49 = .ok (.istore_n 2, 1) := by decide +kernel
theorem dX5_sentence_50 : decode cX5_sentence 50 = .ok (.aload_n 0, 1) := by decide +kernel
theorem dX5_sentence_51 : decode cX5_sentence 51 = .ok (.getfield 83, 3) := by decide +kernel
theorem dX5_sentence_54 : decode cX5_sentence 54 = .ok (.iload_n 2, 1) := by decide +kernel
theorem dX5_sentence_55 : decode cX5_sentence 55 = .ok (.iaload, 1) := by decide +kernel
theorem dX5_sentence_56 : decode cX5_sentence 56 = .ok (.aload_n 0, 1) := by decide +kernel
theorem dX5_sentence_57 : decode cX5_sentence 57 = .ok (.getfield 83, 3) := by decide +kernel
theorem dX5_sentence_60 : decode cX5_sentence 60 = .ok (.iload_n 2, 1) := by decide +kernel
theorem dX5_sentence_61 : decode cX5_sentence 61 = .ok (.iconst 1, 1) := by decide +kernel
theorem dX5_sentence_62 : decode cX5_sentence 62 = .ok (.iadd, 1) := by decide +kernel
theorem dX5_sentence_63 : decode cX5_sentence 63 = .ok (.iaload, 1) := by decide +kernel
theorem dX5_sentence_64 : decode cX5_sentence 64 = .ok (.iand, 1) := by decide +kernel
theorem dX5_sentence_65 : decode cX5_sentence 65 = .ok (.aload_n 0, 1) := by decide +kernel
theorem dX5_sentence_66 : decode cX5_sentence 66 = .ok (.getfield 83, 3) := by decide +kernel
theorem dX5_sentence_69 : decode cX5_sentence 69 = .ok (.iload_n 2, 1) := by decide +kernel
theorem dX5_sentence_70 : decode cX5_sentence 70 = .ok (.iaload, 1) := by decide +kernel
theorem dX5_sentence_71 : decode cX5_sentence 71 = .ok (.aload_n 0, 1) := by decide +kernel
theorem dX5_sentence_72 : decode cX5_sentence 72 = .ok (.getfield 83, 3) := by decide +kernel
theorem dX5_sentence_75 : decode cX5_sentence 75 = .ok (.iload_n 2, 1) := by decide +kernel
theorem dX5_sentence_76 : decode cX5_sentence 76 = .ok (.iconst 2, 1) := by decide +kernel
theorem dX5_sentence_77 : decode cX5_sentence 77 = .ok (.iadd, 1) := by decide +kernel
theorem dX5_sentence_78 : decode cX5_sentence 78 = .ok (.iaload, 1) := by decide +kernel
theorem dX5_sentence_79 : decode cX5_sentence 79 = .ok (.iand, 1) := by decide +kernel
theorem dX5_sentence_80 : decode cX5_sentence 80 = .ok (.ior, 1) := by decide +kernel
theorem dX5_sentence_81 : decode cX5_sentence 81 = .ok (.aload_n 0, 1) := by decide +kernel
theorem dX5_sentence_82 : decode cX5_sentence 82 = .ok (.getfield 83, 3) := by decide +kernel
theorem dX5_sentence_85 : decode cX5_sentence 85 = .ok (.iload_n 2, 1) := by decide +kernel
theorem dX5_sentence_86 : decode cX5_sentence 86 = .ok (.iconst 1, 1) := by decide +kernel
theorem dX5_sentence_87 : decode cX5_sentence 87 = .ok (.iadd, 1) := by decide +kernel
theorem dX5_sentence_88 : decode cX5_sentence 88 = .ok (.iaload, 1) := by decide +kernel
theorem dX5_sentence_89 : decode cX5_sentence 89 = .ok (.aload_n 0, 1) := by decide +kernel
theorem dX5_sentence_90 : decode cX5_sentence 90 = .ok (.getfield 83, 3) := by decide +kernel
theorem dX5_sentence_93 : decode cX5_sentence 93 = .ok (.iload_n 2, 1) := by decide +kernel
theorem dX5_sentence_94 : decode cX5_sentence 94 = .ok (.iconst 2, 1) := by decide +kernel
theorem dX5_sentence_95 : decode cX5_sentence 95 = .ok (.iadd, 1) := by decide +kernel
theorem dX5_sentence_96 : decode cX5_sentence 96 = .ok (.iaload, 1) := by decide +kernel
theorem dX5_sentence_97 : decode cX5_sentence 97 = .ok (.iand, 1) := by decide +kernel
theorem dX5_sentence_98 : decode cX5_sentence 98 = .ok (.ior, 1) := by decide +kernel
theorem dX5_sentence_99 : decode cX5_sentence 99 = .ok (.istore_n 3, 1) := by decide +kernel
theorem dX5_sentence_100 : decode cX5_sentence 100 = .ok (.aload_n 0, 1) := by decide +kernel
theorem dX5_sentence_101 : decode cX5_sentence 101 = .ok (.getfield 74, 3) := by decide +kernel
theorem dX5_sentence_104 : decode cX5_sentence 104 = .ok (.iload_n 1, 1) := by decide +kernel
theorem dX5_sentence_105 : decode cX5_sentence 105 = .ok (.iaload, 1) := by decide +kernel
theorem dX5_sentence_106 : decode cX5_sentence 106 = .ok (.istore 4, 2) := by decide +kernel
theorem dX5_sentence_108 : decode cX5_sentence 108 = .ok (.aload_n 0, 1) := by decide +kernel
theorem dX5_sentence_109 : decode cX5_sentence 109 = .ok (.getfield 86, 3) := by decide +kernel
theorem dX5_sentence_112 : decode cX5_sentence 112 = .ok (.iload_n 2, 1) := by decide +kernel
theorem dX5_sentence_113 : decode cX5_sentence 113 = .ok (.iload 4, 2) := by decide +kernel
theorem dX5_sentence_115 : decode cX5_sentence 115 = .ok (.iadd, 1) := by decide +kernel
theorem dX5_sentence_116 : decode cX5_sentence 116 = .ok (.iconst 1, 1) := by decide +kernel
theorem dX5_sentence_117 : decode cX5_sentence 117 = .ok (.isub, 1) := by decide +kernel
theorem dX5_sentence_118 : decode cX5_sentence 118 = .ok (.iload_n 3, 1) := by decide +kernel
theorem dX5_sentence_119 : decode cX5_sentence 119 = .ok (.iastore, 1) := by decide +kernel
theorem dX5_sentence_120 : decode cX5_sentence 120 = .ok (.iload 4, 2) := by decide +kernel
theorem dX5_sentence_122 : decode cX5_sentence 122 = .ok (.iconst 1, 1) := by decide +kernel
theorem dX5_sentence_123 : decode cX5_sentence 123 = .ok (.if_icmp .ne 25, 3) := by decide +kernel
theorem dX5_sentence_126 : decode cX5_sentence 126 = .ok (.iload_n 3, 1) := by decide +kernel
theorem dX5_sentence_127 : decode cX5_sentence 127 = .ok (.ifCond .ne 12, 3) := by decide +kernel
theorem dX5_sentence_130 : decode cX5_sentence 130 = .ok (.aload_n 0, 1) := by decide +kernel
theorem dX5_sentence_131 : decode cX5_sentence 131 = .ok (.iload_n 1, 1) := by decide +kernel
theorem dX5_sentence_132 : decode cX5_sentence 132 = .ok (.iconst 0, 1) := by decide +kernel
theorem dX5_sentence_133 : decode cX5_sentence 133 = .ok (.invokevirtual 191, 3) := by decide +kernel
theorem dX5_sentence_136 : decode cX5_sentence 136 = .ok (.goto 99, 3) := by decide +kernel
theorem dX5_sentence_139 : decode cX5_sentence 139 = .ok (.aload_n 0, 1) := by decide +kernel
theorem dX5_sentence_140 : decode cX5_sentence 140 = .ok (.iload_n 1, 1) := by decide +kernel
theorem dX5_sentence_141 : decode cX5_sentence 141 = .ok (.iconst 2, 1) := by decide +kernel
theorem dX5_sentence_142 : decode cX5_sentence 142 = .ok (.invokevirtual 195, 3) := by decide +kernel
theorem dX5_sentence_145 : decode cX5_sentence 145 = .ok (.goto 90, 3) := by decide +kernel
theorem dX5_sentence_148 : decode cX5_sentence 148 = .ok (.iload 4, 2) := by decide +kernel
theorem dX5_sentence_150 : decode cX5_sentence 150 = .ok (.iconst 2, 1) := by decide +kernel
theorem dX5_sentence_151 : decode cX5_sentence 151 = .ok (.if_icmp .ne 42, 3) := by decide +kernel
theorem dX5_sentence_154 : decode cX5_sentence 154 = .ok (.iload_n 3, 1) := by decide +kernel
theorem dX5_sentence_155 : decode cX5_sentence 155 = .ok (.aload_n 0, 1) := by decide +kernel
theorem dX5_sentence_156 : decode cX5_sentence 156 = .ok (.getfield 86, 3) := by decide +kernel
theorem dX5_sentence_159 : decode cX5_sentence 159 = .ok (.iload_n 2, 1) := by decide +kernel
theorem dX5_sentence_160 : decode cX5_sentence 160 = .ok (.iaload, 1) := by decide +kernel
theorem dX5_sentence_161 : decode cX5_sentence 161 = .ok (.invokestatic 198, 3) := by decide +kernel
theorem dX5_sentence_164 : decode cX5_sentence 164 = .ok (.ifCond .eq 20, 3) := by decide +kernel
theorem dX5_sentence_167 : decode cX5_sentence 167 = .ok (.aload_n 0, 1) := by decide +kernel
theorem dX5_sentence_168 : decode cX5_sentence 168 = .ok (.iload_n 1, 1) := by decide +kernel
theorem dX5_sentence_169 : decode cX5_sentence 169 = .ok (.iload_n 3, 1) := by decide +kernel
theorem dX5_sentence_170 : decode cX5_sentence 170 = .ok (.ifCond .eq 7, 3) := by decide +kernel
theorem dX5_sentence_173 : decode cX5_sentence 173 = .ok (.iconst 1, 1) := by decide +kernel
theorem dX5_sentence_174 : decode cX5_sentence 174 = .ok (.goto 4, 3) := by decide +kernel
theorem dX5_sentence_177 : decode cX5_sentence 177 = .ok (.iconst 0, 1) := by decide +kernel
theorem dX5_sentence_178 : decode cX5_sentence 178 = .ok (.invokevirtual 191, 3) := by decide +kernel
theorem dX5_sentence_181 : decode cX5_sentence 181 = .ok (.goto 54, 3) := by decide +kernel
theorem dX5_sentence_184 : decode cX5_sentence 184 = .ok (.aload_n 0, 1) := by decide +kernel
theorem dX5_sentence_185 : decode cX5_sentence 185 = .ok (.iload_n 1, 1) := by decide +kernel
theorem dX5_sentence_186 : decode cX5_sentence 186 = .ok (.iconst 3, 1) := by decide +kernel
theorem dX5_sentence_187 : decode cX5_sentence 187 = .ok (.invokevirtual 195, 3) := by decide +kernel
theorem dX5_sentence_190 : decode cX5_sentence 190 = .ok (.goto 45, 3) := by decide +kernel
theorem dX5_sentence_193 : decode cX5_sentence 193 = .ok (.aload_n 0, 1) := by decide +kernel
theorem dX5_sentence_194 : decode cX5_sentence 194 = .ok (.iload_n 1, 1) := by decide +kernel
theorem dX5_sentence_195 : decode cX5_sentence 195 = .ok (.iload_n 3, 1) := by decide +kernel
theorem dX5_sentence_196 : decode cX5_sentence 196 = .ok (.ifCond .eq 35, 3) := by decide +kernel
theorem dX5_sentence_199 : decode cX5_sentence 199 = .ok (.iload_n 3, 1) := by decide +kernel
theorem dX5_sentence_200 : decode cX5_sentence 200 = .ok (.aload_n 0, 1) := by decide +kernel
theorem dX5_sentence_201 : decode cX5_sentence 201 = .ok (.getfield 86, 3) := by decide +kernel
theorem dX5_sentence_204 : decode cX5_sentence 204 = .ok (.iload_n 2, 1) := by decide +kernel
theorem dX5_sentence_205 : decode cX5_sentence 205 = .ok (.iaload, 1) := by decide +kernel
theorem dX5_sentence_206 : decode cX5_sentence 206 = .ok (.invokestatic 198, 3) := by decide +kernel
theorem dX5_sentence_209 : decode cX5_sentence 209 = .ok (.ifCond .ne 18, 3) := by decide +kernel
theorem dX5_sentence_212 : decode cX5_sentence 212 = .ok (.iload_n 3, 1) := by decide +kernel
theorem dX5_sentence_213 : decode cX5_sentence 213 = .ok (.aload_n 0, 1) := by decide +kernel
theorem dX5_sentence_214 : decode cX5_sentence 214 = .ok (.getfield 86, 3) := by decide +kernel
theorem dX5_sentence_217 : decode cX5_sentence 217 = .ok (.iload_n 2, 1) := by decide +kernel
theorem dX5_sentence_218 : decode cX5_sentence 218 = .ok (.iconst 1, 1) := by decide +kernel
theorem dX5_sentence_219 : decode cX5_sentence 219 = .ok (.iadd, 1) := by decide +kernel
theorem dX5_sentence_220 : decode cX5_sentence 220 = .ok (.iaload, 1) := by decide +kernel
theorem dX5_sentence_221 : decode cX5_sentence 221 = .ok (.invokestatic 198, 3) := by decide +kernel
theorem dX5_sentence_224 : decode cX5_sentence 224 = .ok (.ifCond .eq 7, 3) := by decide +kernel
theorem dX5_sentence_227 : decode cX5_sentence 227 = .ok (.iconst 1, 1) := by decide +kernel
theorem dX5_sentence_228 : decode cX5_sentence 228 = .ok (.goto 4, 3) := by decide +kernel
theorem dX5_sentence_231 : decode cX5_sentence 231 = .ok (.iconst 0, 1) := by decide +kernel
theorem dX5_sentence_232 : decode cX5_sentence 232 = .ok (.invokevirtual 191, 3) := by decide +kernel
theorem dX5_sentence_235 : decode cX5_sentence 235 = .ok (.iload_n 3, 1) := by decide +kernel
theorem dX5_sentence_236 : decode cX5_sentence 236 = .ok (.ireturn, 1) := by decide +kernel
def tab_X5_sentence : List (Nat × Sem) := [(0, op_al 0 1), (1, op_al 0 2), (2, op_il 1 3), (3, op_callV 7 sp_X5_isCause 2 0 6), (6, op_if (fun x => ¬ x = 0) 13 9), (9, op_ic 1 10), (10, op_go 38), (13, op_al 0 14), (14, op_gf 7 24 17), (17, op_il 1 18), (18, op_iald 19), (19, op_ic 1 20), (20, op_cmp (fun x y => ¬ x = y) 37 23), (23, op_al 0 24), (24, op_gf 7 27 27), (27, op_il 1 28), (28, op_iald 29), (29, op_ic 3 30), (30, op_cmp (fun x y => ¬ x = y) 37 33), (33, op_ic 0 34), (34, op_go 38), (37, op_ic 2 38), (38, op_callV 7 sp_X5_fails 2 0 41), (41, op_if (fun x => x = 0) 46 44), (44, op_ic 0 45), (45, op_iret), (46, op_ic 3 47), (47, op_il 1 48), (48, op_bin (fun x y => x * y) 49), (49, op_is 2 50), (50, op_al 0 51), (51, op_gf 7 28 54), (54, op_il 2 55), (55, op_iald 56), (56, op_al 0 57), (57, op_gf 7 28 60), (60, op_il 2 61), (61, op_ic 1 62), (62, op_bin (fun x y => x + y) 63), (63, op_iald 64), (64, op_bin (fun x y => x &&& y) 65), (65, op_al 0 66), (66, op_gf 7 28 69), (69, op_il 2 70), (70, op_iald 71), (71, op_al 0 72), (72, op_gf 7 28 75), (75, op_il 2 76), (76, op_ic 2 77), (77, op_bin (fun x y => x + y) 78), (78, op_iald 79), (79, op_bin (fun x y => x &&& y) 80), (80, op_bin (fun x y => x ||| y) 81), (81, op_al 0 82), (82, op_gf 7 28 85), (85, op_il 2 86), (86, op_ic 1 87), (87, op_bin (fun x y => x + y) 88), (88, op_iald 89), (89, op_al 0 90), (90, op_gf 7 28 93), (93, op_il 2 94), (94, op_ic 2 95), (95, op_bin (fun x y => x + y) 96), (96, op_iald 97), (97, op_bin (fun x y => x &&& y) 98), (98, op_bin (fun x y => x ||| y) 99), (99, op_is 3 100), (100, op_al 0 101), (101, op_gf 7 25 104), (104, op_il 1 105), (105, op_iald 106), (106, op_is 4 108), (108, op_al 0 109), (109, op_gf 7 29 112), (112, op_il 2 113), (113, op_il 4 115), (115, op_bin (fun x y => x + y) 116), (116, op_ic 1 117), (117, op_bin (fun x y => x - y) 118), (118, op_il 3 119), (119, op_iast 120), (120, op_il 4 122), (122, op_ic 1 123), (123, op_cmp (fun x y => ¬ x = y) 148 126), (126, op_il 3 127), (127, op_if (fun x => ¬ x = 0) 139 130), (130, op_al 0 131), (131, op_il 1 132), (132, op_ic 0 133), (133, op_callV 7 sp_X5_decides 3 0 136), (136, op_go 235), (139, op_al 0 140), (140, op_il 1 141), (141, op_ic 2 142), (142, op_callV 7 sp_X5_opens 3 0 145), (145, op_go 235), (148, op_il 4 150), (150, op_ic 2 151), (151, op_cmp (fun x y => ¬ x = y) 193 154), (154, op_il 3 155), (155, op_al 0 156), (156, op_gf 7 29 159), (159, op_il 2 160), (160, op_iald 161), (161, op_call sp_X5_areLike 2 0 164), (164, op_if (fun x => x = 0) 184 167), (167, op_al 0 168), (168, op_il 1 169), (169, op_il 3 170), (170, op_if (fun x => x = 0) 177 173), (173, op_ic 1 174), (174, op_go 178), (177, op_ic 0 178), (178, op_callV 7 sp_X5_decides 3 0 181), (181, op_go 235), (184, op_al 0 185), (185, op_il 1 186), (186, op_ic 3 187), (187, op_callV 7 sp_X5_opens 3 0 190), (190, op_go 235), (193, op_al 0 194), (194, op_il 1 195), (195, op_il 3 196), (196, op_if (fun x => x = 0) 231 199), (199, op_il 3 200), (200, op_al 0 201), (201, op_gf 7 29 204), (204, op_il 2 205), (205, op_iald 206), (206, op_call sp_X5_areLike 2 0 209), (209, op_if (fun x => ¬ x = 0) 227 212), (212, op_il 3 213), (213, op_al 0 214), (214, op_gf 7 29 217), (217, op_il 2 218), (218, op_ic 1 219), (219, op_bin (fun x y => x + y) 220), (220, op_iald 221), (221, op_call sp_X5_areLike 2 0 224), (224, op_if (fun x => x = 0) 231 227), (227, op_ic 1 228), (228, op_go 232), (231, op_ic 0 232), (232, op_callV 7 sp_X5_decides 3 0 235), (235, op_il 3 236), (236, op_iret)]
set_option maxRecDepth 20000 in
theorem tok_X5_sentence : ∀ q ∈ tab_X5_sentence, Snd RX5 cX5_sentence 5 2 0 (some .int) q.1 q.2 := by
  unfold tab_X5_sentence
  refine tcons (ok_aload_n dX5_sentence_0 rfl rfl) ?_
  refine tcons (ok_aload_n dX5_sentence_1 rfl rfl) ?_
  refine tcons (ok_iload_n dX5_sentence_2 rfl rfl) ?_
  refine tcons (ok_invokevirtual M_X5_isCause (C := RX5) (T := TX5) (nf := 33) rfl w_1236 w_1238 w_34 w_49 w_1239 ⟨rfl, by decide, by decide, by decide +kernel⟩ (by decide) (by decide) dX5_sentence_3 rfl) ?_
  refine tcons (ok_if_ne dX5_sentence_6 rfl rfl) ?_
  refine tcons (ok_iconst dX5_sentence_9 rfl rfl) ?_
  refine tcons (ok_goto dX5_sentence_10 rfl) ?_
  refine tcons (ok_aload_n dX5_sentence_13 rfl rfl) ?_
  refine tcons (ok_getfield (C := RX5) (T := TX5) (n := 33) rfl in_X5 (by decide) w_1017 dX5_sentence_14 rfl) ?_
  refine tcons (ok_iload_n dX5_sentence_17 rfl rfl) ?_
  refine tcons (ok_iaload dX5_sentence_18 rfl) ?_
  refine tcons (ok_iconst dX5_sentence_19 rfl rfl) ?_
  refine tcons (ok_icmp_ne dX5_sentence_20 rfl rfl) ?_
  refine tcons (ok_aload_n dX5_sentence_23 rfl rfl) ?_
  refine tcons (ok_getfield (C := RX5) (T := TX5) (n := 33) rfl in_X5 (by decide) w_1020 dX5_sentence_24 rfl) ?_
  refine tcons (ok_iload_n dX5_sentence_27 rfl rfl) ?_
  refine tcons (ok_iaload dX5_sentence_28 rfl) ?_
  refine tcons (ok_iconst dX5_sentence_29 rfl rfl) ?_
  refine tcons (ok_icmp_ne dX5_sentence_30 rfl rfl) ?_
  refine tcons (ok_iconst dX5_sentence_33 rfl rfl) ?_
  refine tcons (ok_goto dX5_sentence_34 rfl) ?_
  refine tcons (ok_iconst dX5_sentence_37 rfl rfl) ?_
  refine tcons (ok_invokevirtual M_X5_fails (C := RX5) (T := TX5) (nf := 33) rfl w_1112 w_1114 w_20 w_49 w_1115 ⟨rfl, by decide, by decide, by decide +kernel⟩ (by decide) (by decide) dX5_sentence_38 rfl) ?_
  refine tcons (ok_if_eq dX5_sentence_41 rfl rfl) ?_
  refine tcons (ok_iconst dX5_sentence_44 rfl rfl) ?_
  refine tcons (ok_ireturn rfl dX5_sentence_45) ?_
  refine tcons (ok_iconst dX5_sentence_46 rfl rfl) ?_
  refine tcons (ok_iload_n dX5_sentence_47 rfl rfl) ?_
  refine tcons (ok_imul dX5_sentence_48 rfl) ?_
  refine tcons (ok_istore_n dX5_sentence_49 rfl (by decide) rfl) ?_
  refine tcons (ok_aload_n dX5_sentence_50 rfl rfl) ?_
  refine tcons (ok_getfield (C := RX5) (T := TX5) (n := 33) rfl in_X5 (by decide) w_1021 dX5_sentence_51 rfl) ?_
  refine tcons (ok_iload_n dX5_sentence_54 rfl rfl) ?_
  refine tcons (ok_iaload dX5_sentence_55 rfl) ?_
  refine tcons (ok_aload_n dX5_sentence_56 rfl rfl) ?_
  refine tcons (ok_getfield (C := RX5) (T := TX5) (n := 33) rfl in_X5 (by decide) w_1021 dX5_sentence_57 rfl) ?_
  refine tcons (ok_iload_n dX5_sentence_60 rfl rfl) ?_
  refine tcons (ok_iconst dX5_sentence_61 rfl rfl) ?_
  refine tcons (ok_iadd dX5_sentence_62 rfl) ?_
  refine tcons (ok_iaload dX5_sentence_63 rfl) ?_
  refine tcons (ok_iand dX5_sentence_64 rfl) ?_
  refine tcons (ok_aload_n dX5_sentence_65 rfl rfl) ?_
  refine tcons (ok_getfield (C := RX5) (T := TX5) (n := 33) rfl in_X5 (by decide) w_1021 dX5_sentence_66 rfl) ?_
  refine tcons (ok_iload_n dX5_sentence_69 rfl rfl) ?_
  refine tcons (ok_iaload dX5_sentence_70 rfl) ?_
  refine tcons (ok_aload_n dX5_sentence_71 rfl rfl) ?_
  refine tcons (ok_getfield (C := RX5) (T := TX5) (n := 33) rfl in_X5 (by decide) w_1021 dX5_sentence_72 rfl) ?_
  refine tcons (ok_iload_n dX5_sentence_75 rfl rfl) ?_
  refine tcons (ok_iconst dX5_sentence_76 rfl rfl) ?_
  refine tcons (ok_iadd dX5_sentence_77 rfl) ?_
  refine tcons (ok_iaload dX5_sentence_78 rfl) ?_
  refine tcons (ok_iand dX5_sentence_79 rfl) ?_
  refine tcons (ok_ior dX5_sentence_80 rfl) ?_
  refine tcons (ok_aload_n dX5_sentence_81 rfl rfl) ?_
  refine tcons (ok_getfield (C := RX5) (T := TX5) (n := 33) rfl in_X5 (by decide) w_1021 dX5_sentence_82 rfl) ?_
  refine tcons (ok_iload_n dX5_sentence_85 rfl rfl) ?_
  refine tcons (ok_iconst dX5_sentence_86 rfl rfl) ?_
  refine tcons (ok_iadd dX5_sentence_87 rfl) ?_
  refine tcons (ok_iaload dX5_sentence_88 rfl) ?_
  refine tcons (ok_aload_n dX5_sentence_89 rfl rfl) ?_
  refine tcons (ok_getfield (C := RX5) (T := TX5) (n := 33) rfl in_X5 (by decide) w_1021 dX5_sentence_90 rfl) ?_
  refine tcons (ok_iload_n dX5_sentence_93 rfl rfl) ?_
  refine tcons (ok_iconst dX5_sentence_94 rfl rfl) ?_
  refine tcons (ok_iadd dX5_sentence_95 rfl) ?_
  refine tcons (ok_iaload dX5_sentence_96 rfl) ?_
  refine tcons (ok_iand dX5_sentence_97 rfl) ?_
  refine tcons (ok_ior dX5_sentence_98 rfl) ?_
  refine tcons (ok_istore_n dX5_sentence_99 rfl (by decide) rfl) ?_
  refine tcons (ok_aload_n dX5_sentence_100 rfl rfl) ?_
  refine tcons (ok_getfield (C := RX5) (T := TX5) (n := 33) rfl in_X5 (by decide) w_1018 dX5_sentence_101 rfl) ?_
  refine tcons (ok_iload_n dX5_sentence_104 rfl rfl) ?_
  refine tcons (ok_iaload dX5_sentence_105 rfl) ?_
  refine tcons (ok_istore dX5_sentence_106 (by decide) rfl) ?_
  refine tcons (ok_aload_n dX5_sentence_108 rfl rfl) ?_
  refine tcons (ok_getfield (C := RX5) (T := TX5) (n := 33) rfl in_X5 (by decide) w_1022 dX5_sentence_109 rfl) ?_
  refine tcons (ok_iload_n dX5_sentence_112 rfl rfl) ?_
  refine tcons (ok_iload dX5_sentence_113 rfl) ?_
  refine tcons (ok_iadd dX5_sentence_115 rfl) ?_
  refine tcons (ok_iconst dX5_sentence_116 rfl rfl) ?_
  refine tcons (ok_isub dX5_sentence_117 rfl) ?_
  refine tcons (ok_iload_n dX5_sentence_118 rfl rfl) ?_
  refine tcons (ok_iastore dX5_sentence_119 rfl) ?_
  refine tcons (ok_iload dX5_sentence_120 rfl) ?_
  refine tcons (ok_iconst dX5_sentence_122 rfl rfl) ?_
  refine tcons (ok_icmp_ne dX5_sentence_123 rfl rfl) ?_
  refine tcons (ok_iload_n dX5_sentence_126 rfl rfl) ?_
  refine tcons (ok_if_ne dX5_sentence_127 rfl rfl) ?_
  refine tcons (ok_aload_n dX5_sentence_130 rfl rfl) ?_
  refine tcons (ok_iload_n dX5_sentence_131 rfl rfl) ?_
  refine tcons (ok_iconst dX5_sentence_132 rfl rfl) ?_
  refine tcons (ok_invokevirtual M_X5_decides (C := RX5) (T := TX5) (nf := 33) rfl w_1263 w_1265 w_36 w_49 w_1266 ⟨rfl, by decide, by decide, by decide +kernel⟩ (by decide) (by decide) dX5_sentence_133 rfl) ?_
  refine tcons (ok_goto dX5_sentence_136 rfl) ?_
  refine tcons (ok_aload_n dX5_sentence_139 rfl rfl) ?_
  refine tcons (ok_iload_n dX5_sentence_140 rfl rfl) ?_
  refine tcons (ok_iconst dX5_sentence_141 rfl rfl) ?_
  refine tcons (ok_invokevirtual M_X5_opens (C := RX5) (T := TX5) (nf := 33) rfl w_1267 w_1269 w_37 w_49 w_1270 ⟨rfl, by decide, by decide, by decide +kernel⟩ (by decide) (by decide) dX5_sentence_142 rfl) ?_
  refine tcons (ok_goto dX5_sentence_145 rfl) ?_
  refine tcons (ok_iload dX5_sentence_148 rfl) ?_
  refine tcons (ok_iconst dX5_sentence_150 rfl rfl) ?_
  refine tcons (ok_icmp_ne dX5_sentence_151 rfl rfl) ?_
  refine tcons (ok_iload_n dX5_sentence_154 rfl rfl) ?_
  refine tcons (ok_aload_n dX5_sentence_155 rfl rfl) ?_
  refine tcons (ok_getfield (C := RX5) (T := TX5) (n := 33) rfl in_X5 (by decide) w_1022 dX5_sentence_156 rfl) ?_
  refine tcons (ok_iload_n dX5_sentence_159 rfl rfl) ?_
  refine tcons (ok_iaload dX5_sentence_160 rfl) ?_
  refine tcons (ok_invokestatic M_X5_areLike w_1271 w_1272 w_49 w_1273 ⟨by decide, by decide, by decide +kernel⟩ (by decide) (by decide) dX5_sentence_161 rfl) ?_
  refine tcons (ok_if_eq dX5_sentence_164 rfl rfl) ?_
  refine tcons (ok_aload_n dX5_sentence_167 rfl rfl) ?_
  refine tcons (ok_iload_n dX5_sentence_168 rfl rfl) ?_
  refine tcons (ok_iload_n dX5_sentence_169 rfl rfl) ?_
  refine tcons (ok_if_eq dX5_sentence_170 rfl rfl) ?_
  refine tcons (ok_iconst dX5_sentence_173 rfl rfl) ?_
  refine tcons (ok_goto dX5_sentence_174 rfl) ?_
  refine tcons (ok_iconst dX5_sentence_177 rfl rfl) ?_
  refine tcons (ok_invokevirtual M_X5_decides (C := RX5) (T := TX5) (nf := 33) rfl w_1263 w_1265 w_36 w_49 w_1266 ⟨rfl, by decide, by decide, by decide +kernel⟩ (by decide) (by decide) dX5_sentence_178 rfl) ?_
  refine tcons (ok_goto dX5_sentence_181 rfl) ?_
  refine tcons (ok_aload_n dX5_sentence_184 rfl rfl) ?_
  refine tcons (ok_iload_n dX5_sentence_185 rfl rfl) ?_
  refine tcons (ok_iconst dX5_sentence_186 rfl rfl) ?_
  refine tcons (ok_invokevirtual M_X5_opens (C := RX5) (T := TX5) (nf := 33) rfl w_1267 w_1269 w_37 w_49 w_1270 ⟨rfl, by decide, by decide, by decide +kernel⟩ (by decide) (by decide) dX5_sentence_187 rfl) ?_
  refine tcons (ok_goto dX5_sentence_190 rfl) ?_
  refine tcons (ok_aload_n dX5_sentence_193 rfl rfl) ?_
  refine tcons (ok_iload_n dX5_sentence_194 rfl rfl) ?_
  refine tcons (ok_iload_n dX5_sentence_195 rfl rfl) ?_
  refine tcons (ok_if_eq dX5_sentence_196 rfl rfl) ?_
  refine tcons (ok_iload_n dX5_sentence_199 rfl rfl) ?_
  refine tcons (ok_aload_n dX5_sentence_200 rfl rfl) ?_
  refine tcons (ok_getfield (C := RX5) (T := TX5) (n := 33) rfl in_X5 (by decide) w_1022 dX5_sentence_201 rfl) ?_
  refine tcons (ok_iload_n dX5_sentence_204 rfl rfl) ?_
  refine tcons (ok_iaload dX5_sentence_205 rfl) ?_
  refine tcons (ok_invokestatic M_X5_areLike w_1271 w_1272 w_49 w_1273 ⟨by decide, by decide, by decide +kernel⟩ (by decide) (by decide) dX5_sentence_206 rfl) ?_
  refine tcons (ok_if_ne dX5_sentence_209 rfl rfl) ?_
  refine tcons (ok_iload_n dX5_sentence_212 rfl rfl) ?_
  refine tcons (ok_aload_n dX5_sentence_213 rfl rfl) ?_
  refine tcons (ok_getfield (C := RX5) (T := TX5) (n := 33) rfl in_X5 (by decide) w_1022 dX5_sentence_214 rfl) ?_
  refine tcons (ok_iload_n dX5_sentence_217 rfl rfl) ?_
  refine tcons (ok_iconst dX5_sentence_218 rfl rfl) ?_
  refine tcons (ok_iadd dX5_sentence_219 rfl) ?_
  refine tcons (ok_iaload dX5_sentence_220 rfl) ?_
  refine tcons (ok_invokestatic M_X5_areLike w_1271 w_1272 w_49 w_1273 ⟨by decide, by decide, by decide +kernel⟩ (by decide) (by decide) dX5_sentence_221 rfl) ?_
  refine tcons (ok_if_eq dX5_sentence_224 rfl rfl) ?_
  refine tcons (ok_iconst dX5_sentence_227 rfl rfl) ?_
  refine tcons (ok_goto dX5_sentence_228 rfl) ?_
  refine tcons (ok_iconst dX5_sentence_231 rfl rfl) ?_
  refine tcons (ok_invokevirtual M_X5_decides (C := RX5) (T := TX5) (nf := 33) rfl w_1263 w_1265 w_36 w_49 w_1266 ⟨rfl, by decide, by decide, by decide +kernel⟩ (by decide) (by decide) dX5_sentence_232 rfl) ?_
  refine tcons (ok_iload_n dX5_sentence_235 rfl rfl) ?_
  refine tcons (ok_ireturn rfl dX5_sentence_236) ?_
  exact fun _ h => nomatch h
def sp_X5_sentence : Spc := fun av s N _ => match av with
  | [.inl (.inr (20, 0)), .inl (.inl c)] => MI s ∧ WI s ∧ f2 (isC s c) (s.2.1 44 0 (cl c) = 1 ∧ s.2.1 47 0 (cl c) = 3) (some (aI 0)) N s ((s.2.1 45 0 (cl c) = 1 ∨ s.2.1 45 0 (cl c) = 2 ∨ s.2.1 45 0 (cl c) = 3) ∧ senP s (cl c) N)
  | _ => False
theorem i31 (n : Nat) : (3 : Int32) * nI n + 1 = nI (3 * n + 1) := row3k n 1
theorem i32 (n : Nat) : (3 : Int32) * nI n + 2 = nI (3 * n + 2) := row3k n 2
set_option maxRecDepth 20000 in
set_option maxHeartbeats 2000000 in
theorem M_X5_sentence : AMet yX5_sentence cX5_sentence 5 (some .int) 2 0 sp_X5_sentence := by
  refine AMet.mc (own := RX5) (by decide) rfl [0, 1, 2, 3, 4] rfl tok_X5_sentence 200 ?_
  intro av s0 N X h
  unfold sp_X5_sentence at h
  split at h
  rotate_left
  · exact h.elim
  obtain ⟨hM, hW, h1, h2, h3⟩ := h
  rename_i c
  refine ⟨[(46, fun m u L st s => u = 0 ∧ m = 1 ∧ L = [(0, .inr (20, 0)), (1, .inl c)] ∧ st = [] ∧ s = th s0 0 ∧ isC s0 c ∧ s0.2.1 44 0 (cl c) = 1 ∧ s0.2.1 47 0 (cl c) = 3),
     (120, fun m u L st s => ∃ i : Nat, i < 3 ∧ u = 0 ∧ m = 0 ∧ L = [(0, .inr (20, 0)), (1, .inl c), (2, .inl (3 * c)), (3, .inl (majM s0 (cl c))), (4, .inl (nI (i + 1)))] ∧ st = [] ∧ s = seM s0 (cl c) i (majM s0 (cl c)) ∧ s0.2.1 45 0 (cl c) = nI (i + 1) ∧ isC s0 c ∧ s0.2.1 44 0 (cl c) = 1 ∧ s0.2.1 47 0 (cl c) = 3)], ?_, ac ?_ (ac ?_ an)⟩
  · repeat' (first | apply And.intro | (intro q; exact absurd q (by decide)) | intro _)
    all_goals first | decide | (exact Nat.le_of_ble_eq_true rfl) | (exact Ib_of (MI_c hM (by assumption))) | (exact ⟨1, 2, trivial, rfl, rfl, rfl, rfl, rfl, by assumption, by simp_all, by simp_all⟩) | (simp_all [f2]; done)
  · rintro m u L st s ⟨rfl, rfl, rfl, rfl, rfl, hC, hh, hvd⟩
    obtain ⟨n, hn, rfl⟩ := MI_cn hM hC
    have hw := (h3 hC ⟨hh, hvd⟩).1
    have c0 : (nI n).toNatClampNeg = n := nI_clamp (by omega)
    have q0 : (3 * nI n).toNatClampNeg = 3 * n := by rw [row3]; exact nI_clamp (by omega)
    have q1 : (3 * nI n + 1).toNatClampNeg = 3 * n + 1 := by rw [i31]; exact nI_clamp (by omega)
    have q2 : (3 * nI n + 2).toNatClampNeg = 3 * n + 2 := by rw [i32]; exact nI_clamp (by omega)
    have i0 : Ib (nI n) 30 := nIb hn (by decide)
    have r0 : Ib (3 * nI n) 90 := by rw [row3]; exact nIb (by omega) (by decide)
    have r1 : Ib (3 * nI n + 1) 90 := by rw [i31]; exact nIb (by omega) (by decide)
    have r2 : Ib (3 * nI n + 2) 90 := by rw [i32]; exact nIb (by omega) (by decide)
    obtain ⟨i, hi, hwi⟩ : ∃ i : Nat, i < 3 ∧ s0.2.1 45 0 (cl (nI n)) = nI (i + 1) := by
      rcases hw with q | q | q
      · exact ⟨0, by decide, q⟩
      · exact ⟨1, by decide, q⟩
      · exact ⟨2, by decide, q⟩
    have hw2 : (th s0 0).2.1 (20 + 25) 0 (nI n).toNatClampNeg = nI (i + 1) := by rw [stS_get]; exact hwi
    have hw3 : (th s0 0).2.1 (20 + 25) 0 n = nI (i + 1) := by rw [← c0]; exact hw2
    have ri : Ib (3 * nI n + nI (i + 1) - 1) 90 := by rw [row3k, ← Nat.add_assoc, nIm1]; exact nIb (by omega) (by decide)
    have qi : (3 * nI n + nI (i + 1) - 1).toNatClampNeg = 3 * n + i := by rw [row3k, ← Nat.add_assoc, nIm1]; exact nI_clamp (by omega)
    have hmj : ((fun x y => x ||| y) ((fun x y => x ||| y) ((fun x y => x &&& y) ((th s0 0).2.1 (20 + 28) 0 ((fun x y => x * y) 3 (nI n)).toNatClampNeg) ((th s0 0).2.1 (20 + 28) 0 ((fun x y => x + y) ((fun x y => x * y) 3 (nI n)) 1).toNatClampNeg)) ((fun x y => x &&& y) ((th s0 0).2.1 (20 + 28) 0 ((fun x y => x * y) 3 (nI n)).toNatClampNeg) ((th s0 0).2.1 (20 + 28) 0 ((fun x y => x + y) ((fun x y => x * y) 3 (nI n)) 2).toNatClampNeg))) ((fun x y => x &&& y) ((th s0 0).2.1 (20 + 28) 0 ((fun x y => x + y) ((fun x y => x * y) 3 (nI n)) 1).toNatClampNeg) ((th s0 0).2.1 (20 + 28) 0 ((fun x y => x + y) ((fun x y => x * y) 3 (nI n)) 2).toNatClampNeg)) : Int32) = majM s0 (cl (nI n)) := by
      simp [majM, maj3, stS_get, q0, q1, q2, c0]
    clear h1 h2 h3
    repeat' (first | apply And.intro | (intro q; exact absurd q (by decide)) | intro _)
    all_goals first | (with_reducible exact i0) | (with_reducible exact r0) | (with_reducible exact r1) | (with_reducible exact r2) | decide | (exact Nat.le_of_ble_eq_true rfl) | (rw [hw2]; exact ri) |
      (refine ⟨0, 5, Nat.one_pos, i, hi, rfl, rfl, ?_, rfl, ?_, hwi, hC, hh, hvd⟩; (simp only [hmj, hw2]; rfl); (simp only [hmj, hw2, qi, seM, c0, hw3]))
  · rintro m u L st s ⟨i, hi, rfl, rfl, rfl, rfl, rfl, hwi, hC, hh, hvd⟩
    obtain ⟨n, hn, rfl⟩ := MI_cn hM hC
    have h4 := (h3 hC ⟨hh, hvd⟩).2
    have hWc := WI_c hM hW hC
    have c0 : cl (nI n) = n := nI_clamp (by omega)
    rw [c0] at h4 hwi hWc ⊢
    have q0 : (3 * nI n).toNatClampNeg = 3 * n := by rw [row3]; exact nI_clamp (by omega)
    have q1 : (3 * nI n + 1).toNatClampNeg = 3 * n + 1 := by rw [i31]; exact nI_clamp (by omega)
    have i0 : Ib (nI n) 30 := nIb hn (by decide)
    have r0 : Ib (3 * nI n) 90 := by rw [row3]; exact nIb (by omega) (by decide)
    have r1 : Ib (3 * nI n + 1) 90 := by rw [i31]; exact nIb (by omega) (by decide)
    obtain ⟨d, hd⟩ : ∃ z, z = majM s0 n := ⟨_, rfl⟩
    obtain ⟨s1, e1⟩ : ∃ z, z = seM s0 n i d := ⟨_, rfl⟩
    unfold senP at h4
    rw [← hd] at h4 ⊢
    rw [← e1]
    have g42 : s1.2.1 42 0 n = s0.2.1 42 0 n := by rw [e1]; simp [seM, stS_get]
    have g49 : 0 < i → s1.2.1 49 0 (3 * n) = s0.2.1 49 0 (3 * n) := fun q => by rw [e1]; simp [seM, stS_get]; omega
    have g49b : 1 < i → s1.2.1 49 0 (3 * n + 1) = s0.2.1 49 0 (3 * n + 1) := fun q => by rw [e1]; simp [seM, stS_get]; omega
    have iW : Ib (s1.2.1 42 0 n) 30 := by rw [g42]; exact hWc
    obtain ⟨a1, a2, a3, a4, a5, a6, a7⟩ := h4
    rcases (show i = 0 ∨ i = 1 ∨ i = 2 by omega) with rfl | rfl | rfl
    · replace a1 := a1 hwi
      replace a2 := a2 hwi
      rw [← e1] at a1 a2
      clear a3 a4 a5 a6 a7 e1 hd h1 h2 h3 hwi hh hvd g49 g49b
      repeat' (first | apply And.intro | (intro q; exact absurd q (by decide)) | intro _)
      all_goals first | (with_reducible exact i0) | decide | (exact Nat.le_of_ble_eq_true rfl) | (simp only [c0]; exact iW) | (simp_all [opnM]; done)
    · replace a3 := a3 hwi
      replace a4 := a4 hwi
      replace a5 := a5 hwi
      rw [← e1] at a3 a4 a5
      have g49 := g49 (by decide)
      rw [← g49] at a3 a4 a5
      clear a1 a2 a6 a7 e1 hd h1 h2 h3 hwi hh hvd g49b
      repeat' (first | apply And.intro | (intro q; exact absurd q (by decide)) | intro _)
      all_goals first | (with_reducible exact i0) | (with_reducible exact r0) | decide | (exact Nat.le_of_ble_eq_true rfl) | (simp only [c0]; exact iW) | (simp_all [likeM, opnM, nulM]; done)
    · replace a6 := a6 hwi
      replace a7 := a7 hwi
      rw [← e1] at a6 a7
      have g49 := g49 (by decide)
      have g49b := g49b (by decide)
      rw [← g49, ← g49b] at a6 a7
      clear a1 a2 a3 a4 a5 e1 hd h1 h2 h3 hwi hh hvd
      repeat' (first | apply And.intro | (intro q; exact absurd q (by decide)) | intro _)
      all_goals first | (with_reducible exact i0) | (with_reducible exact r0) | (with_reducible exact r1) | decide | (exact Nat.le_of_ble_eq_true rfl) | (simp only [c0]; exact iW) | (simp_all [likeM, nulM]; done)

