/-- a stretch of a row, by a function -/
def stF (s : Sg) (t b n : Nat) (f : Nat → Int32) : Sg := (s.1, fun a i c => if a = t ∧ i = 0 ∧ b ≤ c ∧ c < b + n then f (c - b) else s.2.1 a i c, s.2.2)
theorem stF_get {s : Sg} {t b n a i c : Nat} {f : Nat → Int32} : (stF s t b n f).2.1 a i c = if a = t ∧ i = 0 ∧ b ≤ c ∧ c < b + n then f (c - b) else s.2.1 a i c := rfl
theorem stF_0 {s : Sg} {t b : Nat} {f : Nat → Int32} : stF s t b 0 f = s := Sg_ext rfl (fun a i c => by rw [stF_get, if_neg (by omega)]) rfl
theorem stF_s {s : Sg} {t b n : Nat} {f : Nat → Int32} {v : Int32} (hv : v = f n) : stS (stF s t b n f) t 0 (b + n) v = stF s t b (n + 1) f := by
  refine Sg_ext rfl (fun a i c => ?_) rfl
  rw [stS_get, stF_get, stF_get]
  by_cases e : a = t ∧ i = 0
  · obtain ⟨rfl, rfl⟩ := e
    by_cases e2 : c = b + n
    · rw [if_pos ⟨rfl, rfl, e2⟩, if_pos ⟨rfl, rfl, by omega, by omega⟩, hv, e2, Nat.add_sub_cancel_left]
    · rw [if_neg (by omega)]
      by_cases e3 : b ≤ c ∧ c < b + n
      · rw [if_pos ⟨rfl, rfl, e3⟩, if_pos ⟨rfl, rfl, by omega, by omega⟩]
      · rw [if_neg (by omega), if_neg (by omega)]
  · rw [if_neg (by omega), if_neg (by omega), if_neg (by omega)]
def psrc (s : Sg) (fa : Int32) (k : Nat) : Int32 := if fa = -1 then 100 else s.2.1 28 0 (24 * cl fa + k)
def pvl (x y : Int32) : Int32 := if x < y then x else y
/-- the steps from a new person of number n to the one of number k -/
def pval (s : Sg) (fa mo : Int32) (n k : Nat) : Int32 := if nI n < nI k then 100 else if nI k = nI n then 0 else if pvl (psrc s fa k) (psrc s mo k) < 100 then pvl (psrc s fa k) (psrc s mo k) + 1 else 100
def peM (s : Sg) (age fa mo at' : Int32) : Sg := stS (stF (stS (stS (th s 0) 22 0 (npm s) (s.2.1 20 0 0 - age)) 23 0 (npm s) at') 28 (24 * npm s) 24 (pval s fa mo (npm s))) 20 0 1 (s.2.1 20 0 1 + 1)
def orP (s : Sg) (fa : Int32) : Prop := fa = -1 ∨ isP s fa
theorem dX5_person_0 : decode cX5_person 0 = .ok (.iload_n 2, 1) := by decide +kernel
theorem dX5_person_1 : decode cX5_person 1 = .ok (.iconst (-1), 1) := by decide +kernel
theorem dX5_person_2 : decode cX5_person 2 = .ok (.if_icmp .eq 11, 3) := by decide +kernel
theorem dX5_person_5 : decode cX5_person 5 = .ok (.aload_n 0, 1) := by decide +kernel
theorem dX5_person_6 : decode cX5_person 6 = .ok (.iload_n 2, 1) := by decide +kernel
theorem dX5_person_7 : decode cX5_person 7 = .ok (.invokevirtual 106, 3) := by decide +kernel
theorem dX5_person_10 : decode cX5_person 10 = .ok (.ifCond .eq 20, 3) := by decide +kernel
theorem dX5_person_13 : decode cX5_person 13 = .ok (.iload_n 3, 1) := by decide +kernel
theorem dX5_person_14 : decode cX5_person 14 = .ok (.iconst (-1), 1) := by decide +kernel
theorem dX5_person_15 : decode cX5_person 15 = .ok (.if_icmp .eq 11, 3) := by decide +kernel
theorem dX5_person_18 : decode cX5_person 18 = .ok (.aload_n 0, 1) := by decide +kernel
theorem dX5_person_19 : decode cX5_person 19 = .ok (.iload_n 3, 1) := by decide +kernel
theorem dX5_person_20 : decode cX5_person 20 = .ok (.invokevirtual 106, 3) := by decide +kernel
theorem dX5_person_23 : decode cX5_person 23 = .ok (.ifCond .eq 7, 3) := by decide +kernel
theorem dX5_person_26 : decode cX5_person 26 = .ok (.iconst 1, 1) := by decide +kernel
theorem dX5_person_27 : decode cX5_person 27 = .ok (.goto 4, 3) := by decide +kernel
theorem dX5_person_30 : decode cX5_person 30 = .ok (.iconst 0, 1) := by decide +kernel
theorem dX5_person_31 : decode cX5_person 31 = .ok (.istore 5, 2) := by decide +kernel
theorem dX5_person_33 : decode cX5_person 33 = .ok (.iload_n 2, 1) := by decide +kernel
theorem dX5_person_34 : decode cX5_person 34 = .ok (.iconst (-1), 1) := by decide +kernel
theorem dX5_person_35 : decode cX5_person 35 = .ok (.if_icmp .eq 8, 3) := by decide +kernel
theorem dX5_person_38 : decode cX5_person 38 = .ok (.iload_n 2, 1) := by decide +kernel
theorem dX5_person_39 : decode cX5_person 39 = .ok (.iload_n 3, 1) := by decide +kernel
theorem dX5_person_40 : decode cX5_person 40 = .ok (.if_icmp .eq 25, 3) := by decide +kernel
theorem dX5_person_43 : decode cX5_person 43 = .ok (.iload_n 1, 1) := by decide +kernel
theorem dX5_person_44 : decode cX5_person 44 = .ok (.iconst 0, 1) := by decide +kernel
theorem dX5_person_45 : decode cX5_person 45 = .ok (.ldc 110, 2) := by decide +kernel
theorem dX5_person_47 : decode cX5_person 47 = .ok (.invokestatic 99, 3) := by decide +kernel
theorem dX5_person_50 : decode cX5_person 50 = .ok (.ifCond .eq 15, 3) := by decide +kernel
theorem dX5_person_53 : decode cX5_person 53 = .ok (.iload 4, 2) := by decide +kernel
theorem dX5_person_55 : decode cX5_person 55 = .ok (.invokestatic 111, 3) := by decide +kernel
theorem dX5_person_58 : decode cX5_person 58 = .ok (.ifCond .eq 7, 3) := by decide +kernel
theorem dX5_person_61 : decode cX5_person 61 = .ok (.iconst 1, 1) := by decide +kernel
theorem dX5_person_62 : decode cX5_person 62 = .ok (.goto 4, 3) := by decide +kernel
theorem dX5_person_65 : decode cX5_person 65 = .ok (.iconst 0, 1) := by decide +kernel
theorem dX5_person_66 : decode cX5_person 66 = .ok (.istore 6, 2) := by decide +kernel
theorem dX5_person_68 : decode cX5_person 68 = .ok (.aload_n 0, 1) := by decide +kernel
theorem dX5_person_69 : decode cX5_person 69 = .ok (.iload 5, 2) := by decide +kernel
theorem dX5_person_71 : decode cX5_person 71 = .ok (.ifCond .ne 7, 3) := by decide +kernel
theorem dX5_person_74 : decode cX5_person 74 = .ok (.iconst 1, 1) := by decide +kernel
theorem dX5_person_75 : decode cX5_person 75 = .ok (.goto 26, 3) := by decide +kernel
theorem dX5_person_78 : decode cX5_person 78 = .ok (.iload 6, 2) := by decide +kernel
theorem dX5_person_80 : decode cX5_person 80 = .ok (.ifCond .ne 7, 3) := by decide +kernel
theorem dX5_person_83 : decode cX5_person 83 = .ok (.iconst 2, 1) := by decide +kernel
theorem dX5_person_84 : decode cX5_person 84 = .ok (.goto 17, 3) := by decide +kernel
theorem dX5_person_87 : decode cX5_person 87 = .ok (.aload_n 0, 1) := by decide +kernel
theorem dX5_person_88 : decode cX5_person 88 = .ok (.getfield 96, 3) := by decide +kernel
theorem dX5_person_91 : decode cX5_person 91 = .ok (.bipush 24, 2) := by decide +kernel
theorem dX5_person_93 : decode cX5_person 93 = .ok (.if_icmp .ne 7, 3) := by decide +kernel
theorem dX5_person_96 : decode cX5_person 96 = .ok (.iconst 3, 1) := by decide +kernel
theorem dX5_person_97 : decode cX5_person 97 = .ok (.goto 4, 3) := by decide +kernel
theorem dX5_person_100 : decode cX5_person 100 = .ok (.iconst 0, 1) := by decide +kernel
theorem dX5_person_101 : decode cX5_person 101 = .ok (.invokevirtual 114, 3) := by decide +kernel
theorem dX5_person_104 : decode cX5_person 104 = .ok (.ifCond .eq 5, 3) := by decide +kernel
theorem dX5_person_107 : decode cX5_person 107 = .ok (.iconst 0, 1) := by decide +kernel
theorem dX5_person_108 : decode cX5_person 108 = .ok (.ireturn, 1) := by decide +kernel
theorem dX5_person_109 : decode cX5_person 109 = .ok (.aload_n 0, 1) := by decide +kernel
theorem dX5_person_110 : decode cX5_person 110 = .ok (.getfield 96, 3) := by decide +kernel
theorem dX5_person_113 : decode cX5_person 113 = .ok (.istore 7, 2) := by decide +kernel
theorem dX5_person_115 : decode cX5_person 115 = .ok (.aload_n 0, 1) := by decide +kernel
theorem dX5_person_116 : decode cX5_person 116 = .ok (.getfield 7, 3) := by decide +kernel
theorem dX5_person_119 : decode cX5_person 119 = .ok (.iload 7, 2) := by decide +kernel
theorem dX5_person_121 : decode cX5_person 121 = .ok (.aload_n 0, 1) := by decide +kernel
theorem dX5_person_122 : decode cX5_person 122 = .ok (.getfield 117, 3) := by decide +kernel
theorem dX5_person_125 : decode cX5_person 125 = .ok (.iload_n 1, 1) := by decide +kernel
theorem dX5_person_126 : decode cX5_person 126 = .ok (.isub, 1) := by decide +kernel
theorem dX5_person_127 : decode cX5_person 127 = .ok (.iastore, 1) := by decide +kernel
theorem dX5_person_128 : decode cX5_person 128 = .ok (.aload_n 0, 1) := by decide +kernel
theorem dX5_person_129 : decode cX5_person 129 = .ok (.getfield 13, 3) := by decide +kernel
theorem dX5_person_132 : decode cX5_person 132 = .ok (.iload 7, 2) := by decide +kernel
theorem dX5_person_134 : decode cX5_person 134 = .ok (.iload 4, 2) := by decide +kernel
theorem dX5_person_136 : decode cX5_person 136 = .ok (.iastore, 1) := by decide +kernel
theorem dX5_person_137 : decode cX5_person 137 = .ok (.iconst 0, 1) := by decide +kernel
theorem dX5_person_138 : decode cX5_person 138 = .ok (.istore 8, 2) := by decide +kernel
theorem dX5_person_140 : decode cX5_person 140 = .ok (.iload 8, 2) := by decide +kernel
theorem dX5_person_142 : decode cX5_person 142 = .ok (.bipush 24, 2) := by decide +kernel
theorem dX5_person_144 : decode cX5_person 144 = .ok (.if_icmp .ge 125, 3) := by decide +kernel
theorem dX5_person_147 : decode cX5_person 147 = .ok (.iload_n 2, 1) := by decide +kernel
theorem dX5_person_148 : decode cX5_person 148 = .ok (.iconst (-1), 1) := by decide +kernel
theorem dX5_person_149 : decode cX5_person 149 = .ok (.if_icmp .ne 8, 3) := by decide +kernel
theorem dX5_person_152 : decode cX5_person 152 = .ok (.bipush 100, 2) := by decide +kernel
theorem dX5_person_154 : decode cX5_person 154 = .ok (.goto 15, 3) := by decide +kernel
theorem dX5_person_157 : decode cX5_person 157 = .ok (.aload_n 0, 1) := by decide +kernel
theorem dX5_person_158 : decode cX5_person 158 = .ok (.getfield 29, 3) := by decide +kernel
theorem dX5_person_161 : decode cX5_person 161 = .ok (.bipush 24, 2) := by decide +kernel
theorem dX5_person_163 : decode cX5_person 163 = .ok (.iload_n 2, 1) := by decide +kernel
theorem dX5_person_164 : decode cX5_person 164 = .ok (.imul, 1) := by decide +kernel
theorem dX5_person_165 : decode cX5_person 165 = .ok (.iload 8, 2) := by decide +kernel
theorem dX5_person_167 : decode cX5_person 167 = .ok (.iadd, 1) := by decide +kernel
theorem dX5_person_168 : decode cX5_person 168 = .ok (.iaload, 1) := by decide +kernel
theorem dX5_person_169 : decode cX5_person 169 = .ok (.istore 9, 2) := by decide +kernel
theorem dX5_person_171 : decode cX5_person 171 = .ok (.iload_n 3, 1) := by decide +kernel
theorem dX5_person_172 : decode cX5_person 172 = .ok (.iconst (-1), 1) := by decide +kernel
theorem dX5_person_173 : decode cX5_person 173 = .ok (.if_icmp .ne 8, 3) := by decide +kernel
theorem dX5_person_176 : decode cX5_person 176 = .ok (.bipush 100, 2) := by decide +kernel
theorem dX5_person_178 : decode cX5_person 178 = .ok (.goto 15, 3) := by decide +kernel
theorem dX5_person_181 : decode cX5_person 181 = .ok (.aload_n 0, 1) := by decide +kernel
theorem dX5_person_182 : decode cX5_person 182 = .ok (.getfield 29, 3) := by decide +kernel
theorem dX5_person_185 : decode cX5_person 185 = .ok (.bipush 24, 2) := by decide +kernel
theorem dX5_person_187 : decode cX5_person 187 = .ok (.iload_n 3, 1) := by decide +kernel
theorem dX5_person_188 : decode cX5_person 188 = .ok (.imul, 1) := by decide +kernel
theorem dX5_person_189 : decode cX5_person 189 = .ok (.iload 8, 2) := by decide +kernel
theorem dX5_person_191 : decode cX5_person 191 = .ok (.iadd, 1) := by decide +kernel
theorem dX5_person_192 : decode cX5_person 192 = .ok (.iaload, 1) := by decide +kernel
theorem dX5_person_193 : decode cX5_person 193 = .ok (.istore 10, 2) := by decide +kernel
theorem dX5_person_195 : decode cX5_person 195 = .ok (.iload 9, 2) := by decide +kernel
theorem dX5_person_197 : decode cX5_person 197 = .ok (.iload 10, 2) := by decide +kernel
theorem dX5_person_199 : decode cX5_person 199 = .ok (.if_icmp .ge 8, 3) := by decide +kernel
theorem dX5_person_202 : decode cX5_person 202 = .ok (.iload 9, 2) := by decide +kernel
theorem dX5_person_204 : decode cX5_person 204 = .ok (.goto 5, 3) := by decide +kernel
theorem dX5_person_207 : decode cX5_person 207 = .ok (.iload 10, 2) := by decide +kernel
theorem dX5_person_209 : decode cX5_person 209 = .ok (.istore 11, 2) := by decide +kernel
theorem dX5_person_211 : decode cX5_person 211 = .ok (.aload_n 0, 1) := by decide +kernel
theorem dX5_person_212 : decode cX5_person 212 = .ok (.getfield 29, 3) := by decide +kernel
theorem dX5_person_215 : decode cX5_person 215 = .ok (.bipush 24, 2) := by decide +kernel
theorem dX5_person_217 : decode cX5_person 217 = .ok (.iload 7, 2) := by decide +kernel
theorem dX5_person_219 : decode cX5_person 219 = .ok (.imul, 1) := by decide +kernel
theorem dX5_person_220 : decode cX5_person 220 = .ok (.iload 8, 2) := by decide +kernel
theorem dX5_person_222 : decode cX5_person 222 = .ok (.iadd, 1) := by decide +kernel
theorem dX5_person_223 : decode cX5_person 223 = .ok (.iload 8, 2) := by decide +kernel
theorem dX5_person_225 : decode cX5_person 225 = .ok (.iload 7, 2) := by decide +kernel
theorem dX5_person_227 : decode cX5_person 227 = .ok (.if_icmp .le 8, 3) := by decide +kernel
theorem dX5_person_230 : decode cX5_person 230 = .ok (.bipush 100, 2) := by decide +kernel
theorem dX5_person_232 : decode cX5_person 232 = .ok (.goto 30, 3) := by decide +kernel
theorem dX5_person_235 : decode cX5_person 235 = .ok (.iload 8, 2) := by decide +kernel
theorem dX5_person_237 : decode cX5_person 237 = .ok (.iload 7, 2) := by decide +kernel
theorem dX5_person_239 : decode cX5_person 239 = .ok (.if_icmp .ne 7, 3) := by decide +kernel
theorem dX5_person_242 : decode cX5_person 242 = .ok (.iconst 0, 1) := by decide +kernel
theorem dX5_person_243 : decode cX5_person 243 = .ok (.goto 19, 3) := by decide +kernel
theorem dX5_person_246 : decode cX5_person 246 = .ok (.iload 11, 2) := by decide +kernel
theorem dX5_person_248 : decode cX5_person 248 = .ok (.bipush 100, 2) := by decide +kernel
theorem dX5_person_250 : decode cX5_person 250 = .ok (.if_icmp .ge 10, 3) := by decide +kernel
theorem dX5_person_253 : decode cX5_person 253 = .ok (.iload 11, 2) := by decide +kernel
theorem dX5_person_255 : decode cX5_person 255 = .ok (.iconst 1, 1) := by decide +kernel
theorem dX5_person_256 : decode cX5_person 256 = .ok (.iadd, 1) := by decide +kernel
theorem dX5_person_257 : decode cX5_person 257 = .ok (.goto 5, 3) := by decide +kernel
theorem dX5_person_260 : decode cX5_person 260 = .ok (.bipush 100, 2) := by decide +kernel
theorem dX5_person_262 : decode cX5_person 262 = .ok (.iastore, 1) := by decide +kernel
theorem dX5_person_263 : decode cX5_person 263 = .ok (.iinc 8 1, 3) := by decide +kernel
theorem dX5_person_266 : decode cX5_person 266 = .ok (.goto (-126), 3) := by decide +kernel
theorem dX5_person_269 : decode cX5_person 269 = .ok (.aload_n 0, 1) := by decide +kernel
theorem dX5_person_270 : decode cX5_person 270 = .ok (.dup, 1) := by decide +kernel
theorem dX5_person_271 : decode cX5_person 271 = .ok (.getfield 96, 3) := by decide +kernel
theorem dX5_person_274 : decode cX5_person 274 = .ok (.iconst 1, 1) := by decide +kernel
theorem dX5_person_275 : decode cX5_person 275 = .ok (.iadd, 1) := by decide +kernel
theorem dX5_person_276 : decode cX5_person 276 = .ok (.putfield 96, 3) := by decide +kernel
theorem dX5_person_279 : decode cX5_person 279 = .ok (.iload 7, 2) := by decide +kernel
theorem dX5_person_281 : decode cX5_person 281 = .ok (.ireturn, 1) := by decide +kernel
def tab_X5_person : List (Nat × Sem) := [(0, op_il 2 1), (1, op_ic (-1) 2), (2, op_cmp (fun x y => x = y) 13 5), (5, op_al 0 6), (6, op_il 2 7), (7, op_callV 7 sp_X5_isPerson 2 0 10), (10, op_if (fun x => x = 0) 30 13), (13, op_il 3 14), (14, op_ic (-1) 15), (15, op_cmp (fun x y => x = y) 26 18), (18, op_al 0 19), (19, op_il 3 20), (20, op_callV 7 sp_X5_isPerson 2 0 23), (23, op_if (fun x => x = 0) 30 26), (26, op_ic 1 27), (27, op_go 31), (30, op_ic 0 31), (31, op_is 5 33), (33, op_il 2 34), (34, op_ic (-1) 35), (35, op_cmp (fun x y => x = y) 43 38), (38, op_il 2 39), (39, op_il 3 40), (40, op_cmp (fun x y => x = y) 65 43), (43, op_il 1 44), (44, op_ic 0 45), (45, op_ic 36000 47), (47, op_call sp_X5_isIn 3 0 50), (50, op_if (fun x => x = 0) 65 53), (53, op_il 4 55), (55, op_call sp_X5_isPlace 1 0 58), (58, op_if (fun x => x = 0) 65 61), (61, op_ic 1 62), (62, op_go 66), (65, op_ic 0 66), (66, op_is 6 68), (68, op_al 0 69), (69, op_il 5 71), (71, op_if (fun x => ¬ x = 0) 78 74), (74, op_ic 1 75), (75, op_go 101), (78, op_il 6 80), (80, op_if (fun x => ¬ x = 0) 87 83), (83, op_ic 2 84), (84, op_go 101), (87, op_al 0 88), (88, op_gf 7 1 91), (91, op_ic 24 93), (93, op_cmp (fun x y => ¬ x = y) 100 96), (96, op_ic 3 97), (97, op_go 101), (100, op_ic 0 101), (101, op_callV 7 sp_X5_fails 2 0 104), (104, op_if (fun x => x = 0) 109 107), (107, op_ic 0 108), (108, op_iret), (109, op_al 0 110), (110, op_gf 7 1 113), (113, op_is 7 115), (115, op_al 0 116), (116, op_gf 7 2 119), (119, op_il 7 121), (121, op_al 0 122), (122, op_gf 7 0 125), (125, op_il 1 126), (126, op_bin (fun x y => x - y) 127), (127, op_iast 128), (128, op_al 0 129), (129, op_gf 7 3 132), (132, op_il 7 134), (134, op_il 4 136), (136, op_iast 137), (137, op_ic 0 138), (138, op_is 8 140), (140, op_il 8 142), (142, op_ic 24 144), (144, op_cmp (fun x y => y ≤ x) 269 147), (147, op_il 2 148), (148, op_ic (-1) 149), (149, op_cmp (fun x y => ¬ x = y) 157 152), (152, op_ic 100 154), (154, op_go 169), (157, op_al 0 158), (158, op_gf 7 8 161), (161, op_ic 24 163), (163, op_il 2 164), (164, op_bin (fun x y => x * y) 165), (165, op_il 8 167), (167, op_bin (fun x y => x + y) 168), (168, op_iald 169), (169, op_is 9 171), (171, op_il 3 172), (172, op_ic (-1) 173), (173, op_cmp (fun x y => ¬ x = y) 181 176), (176, op_ic 100 178), (178, op_go 193), (181, op_al 0 182), (182, op_gf 7 8 185), (185, op_ic 24 187), (187, op_il 3 188), (188, op_bin (fun x y => x * y) 189), (189, op_il 8 191), (191, op_bin (fun x y => x + y) 192), (192, op_iald 193), (193, op_is 10 195), (195, op_il 9 197), (197, op_il 10 199), (199, op_cmp (fun x y => y ≤ x) 207 202), (202, op_il 9 204), (204, op_go 209), (207, op_il 10 209), (209, op_is 11 211), (211, op_al 0 212), (212, op_gf 7 8 215), (215, op_ic 24 217), (217, op_il 7 219), (219, op_bin (fun x y => x * y) 220), (220, op_il 8 222), (222, op_bin (fun x y => x + y) 223), (223, op_il 8 225), (225, op_il 7 227), (227, op_cmp (fun x y => x ≤ y) 235 230), (230, op_ic 100 232), (232, op_go 262), (235, op_il 8 237), (237, op_il 7 239), (239, op_cmp (fun x y => ¬ x = y) 246 242), (242, op_ic 0 243), (243, op_go 262), (246, op_il 11 248), (248, op_ic 100 250), (250, op_cmp (fun x y => y ≤ x) 260 253), (253, op_il 11 255), (255, op_ic 1 256), (256, op_bin (fun x y => x + y) 257), (257, op_go 262), (260, op_ic 100 262), (262, op_iast 263), (263, op_inc 8 1 266), (266, op_go 140), (269, op_al 0 270), (270, op_dup 271), (271, op_gf 7 1 274), (274, op_ic 1 275), (275, op_bin (fun x y => x + y) 276), (276, op_pf 7 1 279), (279, op_il 7 281), (281, op_iret)]
set_option maxRecDepth 20000 in
theorem tok_X5_person : ∀ q ∈ tab_X5_person, Snd RX5 cX5_person 12 2 0 (some .int) q.1 q.2 := by
  unfold tab_X5_person
  refine tcons (ok_iload_n dX5_person_0 rfl rfl) ?_
  refine tcons (ok_iconst dX5_person_1 rfl rfl) ?_
  refine tcons (ok_icmp_eq dX5_person_2 rfl rfl) ?_
  refine tcons (ok_aload_n dX5_person_5 rfl rfl) ?_
  refine tcons (ok_iload_n dX5_person_6 rfl rfl) ?_
  refine tcons (ok_invokevirtual M_X5_isPerson (C := RX5) (T := TX5) (nf := 33) rfl w_1101 w_1103 w_19 w_49 w_1104 ⟨rfl, by decide, by decide, by decide +kernel⟩ (by decide) (by decide) dX5_person_7 rfl) ?_
  refine tcons (ok_if_eq dX5_person_10 rfl rfl) ?_
  refine tcons (ok_iload_n dX5_person_13 rfl rfl) ?_
  refine tcons (ok_iconst dX5_person_14 rfl rfl) ?_
  refine tcons (ok_icmp_eq dX5_person_15 rfl rfl) ?_
  refine tcons (ok_aload_n dX5_person_18 rfl rfl) ?_
  refine tcons (ok_iload_n dX5_person_19 rfl rfl) ?_
  refine tcons (ok_invokevirtual M_X5_isPerson (C := RX5) (T := TX5) (nf := 33) rfl w_1101 w_1103 w_19 w_49 w_1104 ⟨rfl, by decide, by decide, by decide +kernel⟩ (by decide) (by decide) dX5_person_20 rfl) ?_
  refine tcons (ok_if_eq dX5_person_23 rfl rfl) ?_
  refine tcons (ok_iconst dX5_person_26 rfl rfl) ?_
  refine tcons (ok_goto dX5_person_27 rfl) ?_
  refine tcons (ok_iconst dX5_person_30 rfl rfl) ?_
  refine tcons (ok_istore dX5_person_31 (by decide) rfl) ?_
  refine tcons (ok_iload_n dX5_person_33 rfl rfl) ?_
  refine tcons (ok_iconst dX5_person_34 rfl rfl) ?_
  refine tcons (ok_icmp_eq dX5_person_35 rfl rfl) ?_
  refine tcons (ok_iload_n dX5_person_38 rfl rfl) ?_
  refine tcons (ok_iload_n dX5_person_39 rfl rfl) ?_
  refine tcons (ok_icmp_eq dX5_person_40 rfl rfl) ?_
  refine tcons (ok_iload_n dX5_person_43 rfl rfl) ?_
  refine tcons (ok_iconst dX5_person_44 rfl rfl) ?_
  refine tcons (ok_ldc w_1108 dX5_person_45 rfl) ?_
  refine tcons (ok_invokestatic M_X5_isIn w_1105 w_1106 w_49 w_1107 ⟨by decide, by decide, by decide +kernel⟩ (by decide) (by decide) dX5_person_47 rfl) ?_
  refine tcons (ok_if_eq dX5_person_50 rfl rfl) ?_
  refine tcons (ok_iload dX5_person_53 rfl) ?_
  refine tcons (ok_invokestatic M_X5_isPlace w_1109 w_1110 w_49 w_1111 ⟨by decide, by decide, by decide +kernel⟩ (by decide) (by decide) dX5_person_55 rfl) ?_
  refine tcons (ok_if_eq dX5_person_58 rfl rfl) ?_
  refine tcons (ok_iconst dX5_person_61 rfl rfl) ?_
  refine tcons (ok_goto dX5_person_62 rfl) ?_
  refine tcons (ok_iconst dX5_person_65 rfl rfl) ?_
  refine tcons (ok_istore dX5_person_66 (by decide) rfl) ?_
  refine tcons (ok_aload_n dX5_person_68 rfl rfl) ?_
  refine tcons (ok_iload dX5_person_69 rfl) ?_
  refine tcons (ok_if_ne dX5_person_71 rfl rfl) ?_
  refine tcons (ok_iconst dX5_person_74 rfl rfl) ?_
  refine tcons (ok_goto dX5_person_75 rfl) ?_
  refine tcons (ok_iload dX5_person_78 rfl) ?_
  refine tcons (ok_if_ne dX5_person_80 rfl rfl) ?_
  refine tcons (ok_iconst dX5_person_83 rfl rfl) ?_
  refine tcons (ok_goto dX5_person_84 rfl) ?_
  refine tcons (ok_aload_n dX5_person_87 rfl rfl) ?_
  refine tcons (ok_getfield (C := RX5) (T := TX5) (n := 33) rfl in_X5 (by decide) w_994 dX5_person_88 rfl) ?_
  refine tcons (ok_bipush dX5_person_91 rfl rfl) ?_
  refine tcons (ok_icmp_ne dX5_person_93 rfl rfl) ?_
  refine tcons (ok_iconst dX5_person_96 rfl rfl) ?_
  refine tcons (ok_goto dX5_person_97 rfl) ?_
  refine tcons (ok_iconst dX5_person_100 rfl rfl) ?_
  refine tcons (ok_invokevirtual M_X5_fails (C := RX5) (T := TX5) (nf := 33) rfl w_1112 w_1114 w_20 w_49 w_1115 ⟨rfl, by decide, by decide, by decide +kernel⟩ (by decide) (by decide) dX5_person_101 rfl) ?_
  refine tcons (ok_if_eq dX5_person_104 rfl rfl) ?_
  refine tcons (ok_iconst dX5_person_107 rfl rfl) ?_
  refine tcons (ok_ireturn rfl dX5_person_108) ?_
  refine tcons (ok_aload_n dX5_person_109 rfl rfl) ?_
  refine tcons (ok_getfield (C := RX5) (T := TX5) (n := 33) rfl in_X5 (by decide) w_994 dX5_person_110 rfl) ?_
  refine tcons (ok_istore dX5_person_113 (by decide) rfl) ?_
  refine tcons (ok_aload_n dX5_person_115 rfl rfl) ?_
  refine tcons (ok_getfield (C := RX5) (T := TX5) (n := 33) rfl in_X5 (by decide) w_995 dX5_person_116 rfl) ?_
  refine tcons (ok_iload dX5_person_119 rfl) ?_
  refine tcons (ok_aload_n dX5_person_121 rfl rfl) ?_
  refine tcons (ok_getfield (C := RX5) (T := TX5) (n := 33) rfl in_X5 (by decide) w_993 dX5_person_122 rfl) ?_
  refine tcons (ok_iload_n dX5_person_125 rfl rfl) ?_
  refine tcons (ok_isub dX5_person_126 rfl) ?_
  refine tcons (ok_iastore dX5_person_127 rfl) ?_
  refine tcons (ok_aload_n dX5_person_128 rfl rfl) ?_
  refine tcons (ok_getfield (C := RX5) (T := TX5) (n := 33) rfl in_X5 (by decide) w_996 dX5_person_129 rfl) ?_
  refine tcons (ok_iload dX5_person_132 rfl) ?_
  refine tcons (ok_iload dX5_person_134 rfl) ?_
  refine tcons (ok_iastore dX5_person_136 rfl) ?_
  refine tcons (ok_iconst dX5_person_137 rfl rfl) ?_
  refine tcons (ok_istore dX5_person_138 (by decide) rfl) ?_
  refine tcons (ok_iload dX5_person_140 rfl) ?_
  refine tcons (ok_bipush dX5_person_142 rfl rfl) ?_
  refine tcons (ok_icmp_ge dX5_person_144 rfl rfl) ?_
  refine tcons (ok_iload_n dX5_person_147 rfl rfl) ?_
  refine tcons (ok_iconst dX5_person_148 rfl rfl) ?_
  refine tcons (ok_icmp_ne dX5_person_149 rfl rfl) ?_
  refine tcons (ok_bipush dX5_person_152 rfl rfl) ?_
  refine tcons (ok_goto dX5_person_154 rfl) ?_
  refine tcons (ok_aload_n dX5_person_157 rfl rfl) ?_
  refine tcons (ok_getfield (C := RX5) (T := TX5) (n := 33) rfl in_X5 (by decide) w_1001 dX5_person_158 rfl) ?_
  refine tcons (ok_bipush dX5_person_161 rfl rfl) ?_
  refine tcons (ok_iload_n dX5_person_163 rfl rfl) ?_
  refine tcons (ok_imul dX5_person_164 rfl) ?_
  refine tcons (ok_iload dX5_person_165 rfl) ?_
  refine tcons (ok_iadd dX5_person_167 rfl) ?_
  refine tcons (ok_iaload dX5_person_168 rfl) ?_
  refine tcons (ok_istore dX5_person_169 (by decide) rfl) ?_
  refine tcons (ok_iload_n dX5_person_171 rfl rfl) ?_
  refine tcons (ok_iconst dX5_person_172 rfl rfl) ?_
  refine tcons (ok_icmp_ne dX5_person_173 rfl rfl) ?_
  refine tcons (ok_bipush dX5_person_176 rfl rfl) ?_
  refine tcons (ok_goto dX5_person_178 rfl) ?_
  refine tcons (ok_aload_n dX5_person_181 rfl rfl) ?_
  refine tcons (ok_getfield (C := RX5) (T := TX5) (n := 33) rfl in_X5 (by decide) w_1001 dX5_person_182 rfl) ?_
  refine tcons (ok_bipush dX5_person_185 rfl rfl) ?_
  refine tcons (ok_iload_n dX5_person_187 rfl rfl) ?_
  refine tcons (ok_imul dX5_person_188 rfl) ?_
  refine tcons (ok_iload dX5_person_189 rfl) ?_
  refine tcons (ok_iadd dX5_person_191 rfl) ?_
  refine tcons (ok_iaload dX5_person_192 rfl) ?_
  refine tcons (ok_istore dX5_person_193 (by decide) rfl) ?_
  refine tcons (ok_iload dX5_person_195 rfl) ?_
  refine tcons (ok_iload dX5_person_197 rfl) ?_
  refine tcons (ok_icmp_ge dX5_person_199 rfl rfl) ?_
  refine tcons (ok_iload dX5_person_202 rfl) ?_
  refine tcons (ok_goto dX5_person_204 rfl) ?_
  refine tcons (ok_iload dX5_person_207 rfl) ?_
  refine tcons (ok_istore dX5_person_209 (by decide) rfl) ?_
  refine tcons (ok_aload_n dX5_person_211 rfl rfl) ?_
  refine tcons (ok_getfield (C := RX5) (T := TX5) (n := 33) rfl in_X5 (by decide) w_1001 dX5_person_212 rfl) ?_
  refine tcons (ok_bipush dX5_person_215 rfl rfl) ?_
  refine tcons (ok_iload dX5_person_217 rfl) ?_
  refine tcons (ok_imul dX5_person_219 rfl) ?_
  refine tcons (ok_iload dX5_person_220 rfl) ?_
  refine tcons (ok_iadd dX5_person_222 rfl) ?_
  refine tcons (ok_iload dX5_person_223 rfl) ?_
  refine tcons (ok_iload dX5_person_225 rfl) ?_
  refine tcons (ok_icmp_le dX5_person_227 rfl rfl) ?_
  refine tcons (ok_bipush dX5_person_230 rfl rfl) ?_
  refine tcons (ok_goto dX5_person_232 rfl) ?_
  refine tcons (ok_iload dX5_person_235 rfl) ?_
  refine tcons (ok_iload dX5_person_237 rfl) ?_
  refine tcons (ok_icmp_ne dX5_person_239 rfl rfl) ?_
  refine tcons (ok_iconst dX5_person_242 rfl rfl) ?_
  refine tcons (ok_goto dX5_person_243 rfl) ?_
  refine tcons (ok_iload dX5_person_246 rfl) ?_
  refine tcons (ok_bipush dX5_person_248 rfl rfl) ?_
  refine tcons (ok_icmp_ge dX5_person_250 rfl rfl) ?_
  refine tcons (ok_iload dX5_person_253 rfl) ?_
  refine tcons (ok_iconst dX5_person_255 rfl rfl) ?_
  refine tcons (ok_iadd dX5_person_256 rfl) ?_
  refine tcons (ok_goto dX5_person_257 rfl) ?_
  refine tcons (ok_bipush dX5_person_260 rfl rfl) ?_
  refine tcons (ok_iastore dX5_person_262 rfl) ?_
  refine tcons (ok_iinc dX5_person_263 rfl (by decide) rfl) ?_
  refine tcons (ok_goto dX5_person_266 rfl) ?_
  refine tcons (ok_aload_n dX5_person_269 rfl rfl) ?_
  refine tcons (ok_dup dX5_person_270 rfl) ?_
  refine tcons (ok_getfield (C := RX5) (T := TX5) (n := 33) rfl in_X5 (by decide) w_994 dX5_person_271 rfl) ?_
  refine tcons (ok_iconst dX5_person_274 rfl rfl) ?_
  refine tcons (ok_iadd dX5_person_275 rfl) ?_
  refine tcons (ok_putfield (C := RX5) (T := TX5) (n := 33) tyX5 .int rfl in_X5 tyX5_ok nmX5 (by decide) rfl w_994 rfl (Or.inl rfl) dX5_person_276 rfl) ?_
  refine tcons (ok_iload dX5_person_279 rfl) ?_
  refine tcons (ok_ireturn rfl dX5_person_281) ?_
  exact fun _ h => nomatch h
def sp_X5_person : Spc := fun av s N _ => match av with
  | [.inl (.inr (20, 0)), .inl (.inl g), .inl (.inl fa), .inl (.inl mo), .inl (.inl a)] => MI s ∧ f3 (orP s fa ∧ orP s mo) ((fa = -1 ∨ ¬ fa = mo) ∧ inR g 0 36000 ∧ inR a 0 7) (¬ s.2.1 20 0 1 = 24) (some (aI 0)) N s (N (some (aI (s.2.1 20 0 1))) (peM s g fa mo a))
  | _ => False
set_option maxRecDepth 20000 in
set_option maxHeartbeats 2000000 in
theorem M_X5_person : AMet yX5_person cX5_person 12 (some .int) 2 0 sp_X5_person := by
  refine AMet.mc (own := RX5) (by decide) rfl [0, 1, 2, 3, 4, 5, 6, 7, 8, 9, 10, 11] rfl tok_X5_person 200 ?_
  intro av s0 N X h
  unfold sp_X5_person at h
  split at h
  rotate_left
  · exact h.elim
  rename_i g fa mo a
  obtain ⟨hM, h⟩ := h
  obtain ⟨⟨n, hn, hv⟩, -, -⟩ := of_eq_true hM
  have hnp := npm_eq hv hn
  have hfin : (orP s0 fa ∧ orP s0 mo) → ((fa = -1 ∨ ¬ fa = mo) ∧ inR g 0 36000 ∧ inR a 0 7) → ¬ s0.2.1 20 0 1 = 24 → N (some (aI (nI n))) (stS (stF (stS (stS (th s0 0) 22 0 n (s0.2.1 20 0 0 - g)) 23 0 n a) 28 (24 * n) 24 (pval s0 fa mo n)) 20 0 1 (nI n + 1)) := by
    intro h1 h2 h3
    have := h.2.2.2 h1 h2 h3
    unfold peM at this
    rw [hv, hnp] at this
    exact this
  refine ⟨[(68, fun m u L st s => ∃ f1 f2, u = 0 ∧ m = 30 ∧ L = [(0, .inr (20, 0)), (1, .inl g), (2, .inl fa), (3, .inl mo), (4, .inl a), (5, .inl f1), (6, .inl f2)] ∧ st = [] ∧ s = s0 ∧ flg f1 (orP s0 fa ∧ orP s0 mo) ∧ flg f2 ((fa = -1 ∨ ¬ fa = mo) ∧ inR g 0 36000 ∧ inR a 0 7)),
     (109, fun m u L st s => u = 0 ∧ m = 29 ∧ L = [(0, .inr (20, 0)), (1, .inl g), (2, .inl fa), (3, .inl mo), (4, .inl a), (5, .inl 1), (6, .inl 1)] ∧ st = [] ∧ s = th s0 0 ∧ (orP s0 fa ∧ orP s0 mo) ∧ ((fa = -1 ∨ ¬ fa = mo) ∧ inR g 0 36000 ∧ inR a 0 7) ∧ ¬ s0.2.1 20 0 1 = 24),
     (140, fun m u L st s => ∃ k, k ≤ 24 ∧ u = 0 ∧ m = 24 - k ∧ L = [(0, .inr (20, 0)), (1, .inl g), (2, .inl fa), (3, .inl mo), (4, .inl a), (5, .inl 1), (6, .inl 1), (7, .inl (nI n)), (8, .inl (nI k))] ∧ st = [] ∧ s = stF (stS (stS (th s0 0) 22 0 n (s0.2.1 20 0 0 - g)) 23 0 n a) 28 (24 * n) k (pval s0 fa mo n) ∧ (orP s0 fa ∧ orP s0 mo) ∧ ((fa = -1 ∨ ¬ fa = mo) ∧ inR g 0 36000 ∧ inR a 0 7) ∧ ¬ s0.2.1 20 0 1 = 24)], ?_, ac ?_ (ac ?_ (ac ?_ an))⟩
  · clear hfin hv hnp
    repeat' (first | apply And.intro | (intro q; exact absurd q (by decide)) | intro _)
    all_goals first | decide | (exact Nat.le_of_ble_eq_true rfl) | (exact ⟨30, 7, trivial, _, _, rfl, rfl, rfl, rfl, rfl, by simp_all [flg, orP], by simp_all [flg, orP]⟩)
  · rintro m u L st s ⟨f1, f2, rfl, rfl, rfl, rfl, rfl, h1, h2⟩
    clear hfin hv hnp
    rcases h1 with ⟨rfl, h1⟩ | ⟨rfl, h1⟩ <;> rcases h2 with ⟨rfl, h2⟩ | ⟨rfl, h2⟩
    all_goals repeat' (first | apply And.intro | (intro q; exact absurd q (by decide)) | intro _)
    all_goals first | decide | (exact Nat.le_of_ble_eq_true rfl) | (exact ⟨29, 7, by decide, rfl, rfl, rfl, rfl, rfl, h1, h2, by simp_all⟩) | (simp_all [f3]; done)
  · rintro m u L st s ⟨rfl, rfl, rfl, rfl, rfl, h1, h2, h3⟩
    have hn24 : n < 24 := by
      rcases Nat.lt_or_ge n 24 with q | q
      · exact q
      · exact absurd (by rw [hv, show n = 24 by omega]; rfl) h3
    have i0 : Ib (nI n) 24 := nIb hn24 (by decide)
    have c0 : (nI n).toNatClampNeg = n := nI_clamp (by omega)
    have hv1 : (th s0 0).2.1 20 0 1 = nI n := by rw [stS_get]; exact hv
    clear hfin h
    repeat' (first | apply And.intro | (intro q; exact absurd q (by decide)) | intro _)
    all_goals first | (with_reducible exact rfl) | (exact Nat.le_of_ble_eq_true rfl) | (rw [hv1]; exact i0) | (simp only [hv1]; exact i0) |
      (refine ⟨24, 9, by decide, 0, by omega, rfl, rfl, by rw [← hv1]; rfl, rfl, ?_, h1, h2, h3⟩; rw [stF_0]; simp only [hv1, c0]; rfl)
  · rintro m u L st s ⟨k, hk, rfl, rfl, rfl, rfl, rfl, h1, h2, h3⟩
    have hn24 : n < 24 := by
      rcases Nat.lt_or_ge n 24 with q | q
      · exact q
      · exact absurd (by rw [hv, show n = 24 by omega]; rfl) h3
    obtain ⟨s1, e1⟩ : ∃ z, z = stS (stS (th s0 0) 22 0 n (s0.2.1 20 0 0 - g)) 23 0 n a := ⟨_, rfl⟩
    have h28 : ∀ j, s1.2.1 28 0 j = s0.2.1 28 0 j := fun j => by rw [e1]; simp [stS_get]
    have hv1 : s1.2.1 20 0 1 = nI n := by rw [e1]; simp [stS_get, hv]
    replace hfin := hfin h1 h2 h3
    rw [← e1] at hfin
    rw [← e1]
    obtain ⟨pv, hpv⟩ : ∃ z, z = pval s0 fa mo n := ⟨_, rfl⟩
    rw [← hpv] at hfin ⊢
    have hpk : pv k = if nI n < nI k then 100 else if nI k = nI n then 0 else if pvl (psrc s0 fa k) (psrc s0 mo k) < 100 then pvl (psrc s0 fa k) (psrc s0 mo k) + 1 else 100 := by rw [hpv]; rfl
    clear hpv
    by_cases hkn : k < 24
    · have hle : ¬ (24 : Int32) ≤ nI k := fun q => by have := (nIge (a := k) (b := 24) (N := 30) (by omega) (by omega) (by decide)).mp q; omega
      have rd : ∀ x, orP s0 x → ¬ x = -1 → Ib (24 * x + nI k) 576 ∧ (stF s1 28 (24 * n) k pv).2.1 (20 + 8) 0 (24 * x + nI k).toNatClampNeg = psrc s0 x k := by
        intro x hx hne
        rcases hx with hx | hx
        · exact absurd hx hne
        · obtain ⟨j, hj, rfl⟩ := ix_nI hx hv (by omega)
          rw [row24, nI_clamp (by omega)]
          refine ⟨nIb (by omega) (by decide), ?_⟩
          rw [stF_get, if_neg (by omega), h28]
          unfold psrc
          rw [if_neg hne, show cl (nI j) = j from nI_clamp (by omega)]
      have rf1 := rd fa h1.1
      have rm1 := rd mo h1.2
      have if1 : Ib (24 * nI n + nI k) 576 := by rw [row24]; exact nIb (by omega) (by decide)
      have cx : (24 * nI n + nI k).toNatClampNeg = 24 * n + k := by rw [row24, nI_clamp (by omega)]
      have pf : fa = -1 → psrc s0 fa k = 100 := fun q => if_pos q
      have pm : mo = -1 → psrc s0 mo k = 100 := fun q => if_pos q
      have fin : ∀ v, v = pv k → stS (stF s1 28 (24 * n) k pv) (20 + 8) 0 (24 * nI n + nI k).toNatClampNeg v = stF s1 28 (24 * n) (k + 1) pv := fun v hv9 => by rw [cx]; exact stF_s hv9
      clear hfin h rd h28 e1 hM
      repeat' (first | apply And.intro | (intro q; exact absurd q (by decide)) | (intro q; exact absurd q hle) | intro _)
      all_goals first | (with_reducible exact rfl) | (exact Nat.le_of_ble_eq_true rfl) | (with_reducible exact if1) | (exact (rf1 (by assumption)).1) | (exact (rm1 (by assumption)).1) |
        (refine ⟨24 - (k + 1), 9, by omega, k + 1, by omega, rfl, rfl, by rw [← nIs]; rfl, rfl, ?_, h1, h2, h3⟩; refine fin _ ?_; rw [hpk]; clear fin hpk; unfold pvl; simp_all [-Int32.not_le, -Int32.not_lt]; done) |
        (refine ⟨24 - (k + 1), 9, by omega, k + 1, by omega, rfl, rfl, by rw [← nIs]; rfl, rfl, ?_, h1, h2, h3⟩; refine fin _ ?_; rw [hpk]; clear fin hpk; unfold pvl; simp_all [-Int32.not_le, -Int32.not_lt, ← Int32.not_le]; done)
    · obtain rfl : k = 24 := by omega
      have hle : (24 : Int32) ≤ nI 24 := by decide
      have hv2 : (stF s1 28 (24 * n) 24 pv).2.1 20 0 1 = nI n := by rw [stF_get, if_neg (by omega)]; exact hv1
      rw [← hv2] at hfin
      clear h h28 e1 hM
      repeat' (first | apply And.intro | (intro q; exact absurd q (by decide)) | (intro q; exact absurd hle q) | intro _)
      all_goals first | (with_reducible exact rfl) | (exact Nat.le_of_ble_eq_true rfl) | (simp only [hv2] at *; exact hfin)

