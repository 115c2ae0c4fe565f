/-! the law's instructions: cases 0 to 7 -/
theorem w_150 : (.codeWith yL_person cL_person 7 (some .int) [(0, 14, 17, 13), (0, 14, 21, 15), (0, 14, 25, 17)] : Cond) ∈ TB := TB_mem (List.mem_of_getElem? (i := 150) (by decide +kernel)) rfl
theorem w_379 : (.codeWith yL_rite cL_rite 5 (some .int) [(0, 10, 13, 13), (0, 10, 17, 15)] : Cond) ∈ TB := TB_mem (List.mem_of_getElem? (i := 379) (by decide +kernel)) rfl
theorem w_404 : (.codeWith yL_home cL_home 5 (some .int) [(0, 10, 13, 13), (0, 10, 17, 15)] : Cond) ∈ TB := TB_mem (List.mem_of_getElem? (i := 404) (by decide +kernel)) rfl
theorem w_411 : (.codeWith yL_order cL_order 3 (some .int) [(0, 5, 8, 13), (0, 5, 11, 17)] : Cond) ∈ TB := TB_mem (List.mem_of_getElem? (i := 411) (by decide +kernel)) rfl
theorem w_418 : (.codeWith yL_ban cL_ban 4 (some .int) [(0, 16, 19, 13)] : Cond) ∈ TB := TB_mem (List.mem_of_getElem? (i := 418) (by decide +kernel)) rfl
theorem w_425 : (.codeWith yL_die cL_die 4 (some .int) [(0, 9, 12, 13), (0, 9, 15, 17)] : Cond) ∈ TB := TB_mem (List.mem_of_getElem? (i := 425) (by decide +kernel)) rfl
theorem w_445 : (.codeWith yL_dispense cL_dispense 5 (some .int) [(0, 7, 10, 13), (0, 7, 14, 15), (0, 7, 18, 17)] : Cond) ∈ TB := TB_mem (List.mem_of_getElem? (i := 445) (by decide +kernel)) rfl
theorem w_474 : (.codeWith yL_faculty cL_faculty 5 (some .int) [(0, 7, 10, 15)] : Cond) ∈ TB := TB_mem (List.mem_of_getElem? (i := 474) (by decide +kernel)) rfl
theorem dL_law_168 : decode cL_law 168 = .ok (.aload_n 1, 1) := by decide +kernel
theorem dL_law_169 : decode cL_law 169 = .ok (.aload_n 0, 1) := by decide +kernel
theorem dL_law_170 : decode cL_law 170 = .ok (.iload 4, 2) := by decide +kernel
theorem dL_law_172 : decode cL_law 172 = .ok (.iconst 1, 1) := by decide +kernel
theorem dL_law_173 : decode cL_law 173 = .ok (.iadd, 1) := by decide +kernel
theorem dL_law_174 : decode cL_law 174 = .ok (.iaload, 1) := by decide +kernel
theorem dL_law_175 : decode cL_law 175 = .ok (.aload_n 0, 1) := by decide +kernel
theorem dL_law_176 : decode cL_law 176 = .ok (.iload 4, 2) := by decide +kernel
theorem dL_law_178 : decode cL_law 178 = .ok (.iconst 2, 1) := by decide +kernel
theorem dL_law_179 : decode cL_law 179 = .ok (.iadd, 1) := by decide +kernel
theorem dL_law_180 : decode cL_law 180 = .ok (.iaload, 1) := by decide +kernel
theorem dL_law_181 : decode cL_law 181 = .ok (.aload_n 0, 1) := by decide +kernel
theorem dL_law_182 : decode cL_law 182 = .ok (.iload 4, 2) := by decide +kernel
theorem dL_law_184 : decode cL_law 184 = .ok (.iconst 3, 1) := by decide +kernel
theorem dL_law_185 : decode cL_law 185 = .ok (.iadd, 1) := by decide +kernel
theorem dL_law_186 : decode cL_law 186 = .ok (.iaload, 1) := by decide +kernel
theorem dL_law_187 : decode cL_law 187 = .ok (.aload_n 0, 1) := by decide +kernel
theorem dL_law_188 : decode cL_law 188 = .ok (.iload 4, 2) := by decide +kernel
theorem dL_law_190 : decode cL_law 190 = .ok (.iconst 4, 1) := by decide +kernel
theorem dL_law_191 : decode cL_law 191 = .ok (.iadd, 1) := by decide +kernel
theorem dL_law_192 : decode cL_law 192 = .ok (.iaload, 1) := by decide +kernel
theorem dL_law_193 : decode cL_law 193 = .ok (.aload_n 3, 1) := by decide +kernel
theorem dL_law_194 : decode cL_law 194 = .ok (.invokestatic 116, 3) := by decide +kernel
theorem dL_law_197 : decode cL_law 197 = .ok (.istore 5, 2) := by decide +kernel
theorem dL_law_199 : decode cL_law 199 = .ok (.aload_n 2, 1) := by decide +kernel
theorem dL_law_200 : decode cL_law 200 = .ok (.aload_n 0, 1) := by decide +kernel
theorem dL_law_201 : decode cL_law 201 = .ok (.iload 4, 2) := by decide +kernel
theorem dL_law_203 : decode cL_law 203 = .ok (.iconst 1, 1) := by decide +kernel
theorem dL_law_204 : decode cL_law 204 = .ok (.iadd, 1) := by decide +kernel
theorem dL_law_205 : decode cL_law 205 = .ok (.iaload, 1) := by decide +kernel
theorem dL_law_206 : decode cL_law 206 = .ok (.aload_n 0, 1) := by decide +kernel
theorem dL_law_207 : decode cL_law 207 = .ok (.iload 4, 2) := by decide +kernel
theorem dL_law_209 : decode cL_law 209 = .ok (.iconst 2, 1) := by decide +kernel
theorem dL_law_210 : decode cL_law 210 = .ok (.iadd, 1) := by decide +kernel
theorem dL_law_211 : decode cL_law 211 = .ok (.iaload, 1) := by decide +kernel
theorem dL_law_212 : decode cL_law 212 = .ok (.aload_n 0, 1) := by decide +kernel
theorem dL_law_213 : decode cL_law 213 = .ok (.iload 4, 2) := by decide +kernel
theorem dL_law_215 : decode cL_law 215 = .ok (.iconst 3, 1) := by decide +kernel
theorem dL_law_216 : decode cL_law 216 = .ok (.iadd, 1) := by decide +kernel
theorem dL_law_217 : decode cL_law 217 = .ok (.iaload, 1) := by decide +kernel
theorem dL_law_218 : decode cL_law 218 = .ok (.aload_n 0, 1) := by decide +kernel
theorem dL_law_219 : decode cL_law 219 = .ok (.iload 4, 2) := by decide +kernel
theorem dL_law_221 : decode cL_law 221 = .ok (.iconst 4, 1) := by decide +kernel
theorem dL_law_222 : decode cL_law 222 = .ok (.iadd, 1) := by decide +kernel
theorem dL_law_223 : decode cL_law 223 = .ok (.iaload, 1) := by decide +kernel
theorem dL_law_224 : decode cL_law 224 = .ok (.invokevirtual 121, 3) := by decide +kernel
theorem dL_law_227 : decode cL_law 227 = .ok (.istore 6, 2) := by decide +kernel
theorem dL_law_229 : decode cL_law 229 = .ok (.aload_n 2, 1) := by decide +kernel
theorem dL_law_230 : decode cL_law 230 = .ok (.invokevirtual 122, 3) := by decide +kernel
theorem dL_law_233 : decode cL_law 233 = .ok (.iload 5, 2) := by decide +kernel
theorem dL_law_235 : decode cL_law 235 = .ok (.if_icmp .eq 5, 3) := by decide +kernel
theorem dL_law_238 : decode cL_law 238 = .ok (.iconst 0, 1) := by decide +kernel
theorem dL_law_239 : decode cL_law 239 = .ok (.ireturn, 1) := by decide +kernel
theorem dL_law_240 : decode cL_law 240 = .ok (.iload 5, 2) := by decide +kernel
theorem dL_law_242 : decode cL_law 242 = .ok (.ifCond .ne 15, 3) := by decide +kernel
theorem dL_law_245 : decode cL_law 245 = .ok (.aload_n 3, 1) := by decide +kernel
theorem dL_law_246 : decode cL_law 246 = .ok (.iconst 0, 1) := by decide +kernel
theorem dL_law_247 : decode cL_law 247 = .ok (.laload, 1) := by decide +kernel
theorem dL_law_248 : decode cL_law 248 = .ok (.iload 6, 2) := by decide +kernel
theorem dL_law_250 : decode cL_law 250 = .ok (.i2l, 1) := by decide +kernel
theorem dL_law_251 : decode cL_law 251 = .ok (.lcmp, 1) := by decide +kernel
theorem dL_law_252 : decode cL_law 252 = .ok (.ifCond .eq 5, 3) := by decide +kernel
theorem dL_law_255 : decode cL_law 255 = .ok (.iconst 0, 1) := by decide +kernel
theorem dL_law_256 : decode cL_law 256 = .ok (.ireturn, 1) := by decide +kernel
theorem dL_law_257 : decode cL_law 257 = .ok (.goto 1788, 3) := by decide +kernel
def tab_lawC0 (L : Nat) (xs : Nat → Int32) : List (Nat × Sem) := [(168, op_al 1 169), (169, op_al 0 170), (170, op_il 4 172), (172, op_ic 1 173), (173, op_bin (fun x y => x + y) 174), (174, op_sld L xs 175), (175, op_al 0 176), (176, op_il 4 178), (178, op_ic 2 179), (179, op_bin (fun x y => x + y) 180), (180, op_sld L xs 181), (181, op_al 0 182), (182, op_il 4 184), (184, op_ic 3 185), (185, op_bin (fun x y => x + y) 186), (186, op_sld L xs 187), (187, op_al 0 188), (188, op_il 4 190), (190, op_ic 4 191), (191, op_bin (fun x y => x + y) 192), (192, op_sld L xs 193), (193, op_al 3 194), (194, op_callL sp_L_person 6 9 197), (197, op_is 5 199), (199, op_al 2 200), (200, op_al 0 201), (201, op_il 4 203), (203, op_ic 1 204), (204, op_bin (fun x y => x + y) 205), (205, op_sld L xs 206), (206, op_al 0 207), (207, op_il 4 209), (209, op_ic 2 210), (210, op_bin (fun x y => x + y) 211), (211, op_sld L xs 212), (212, op_al 0 213), (213, op_il 4 215), (215, op_ic 3 216), (216, op_bin (fun x y => x + y) 217), (217, op_sld L xs 218), (218, op_al 0 219), (219, op_il 4 221), (221, op_ic 4 222), (222, op_bin (fun x y => x + y) 223), (223, op_sld L xs 224), (224, op_callVN 7 sp_X5_person 5 0 227), (227, op_is 6 229), (229, op_al 2 230), (230, op_callV 7 sp_X5_thrown 1 0 233), (233, op_il 5 235), (235, op_cmp (fun x y => x = y) 240 238), (238, op_ic 0 239), (239, op_lret), (240, op_il 5 242), (242, op_if (fun x => ¬ x = 0) 257 245), (245, op_al 3 246), (246, op_ic 0 247), (247, op_lald 248), (248, op_il 6 250), (250, op_i2l 251), (251, op_lcmp 252), (252, op_if (fun x => x = 0) 257 255), (255, op_ic 0 256), (256, op_lret), (257, op_go 2045)]
set_option maxRecDepth 20000 in
theorem tok_lawC0 {L : Nat} {xs : Nat → Int32} : ∀ q ∈ tab_lawC0 L xs, LSnd L xs RL cL_law 7 15 150256 ret q.1 q.2 := by
  unfold tab_lawC0
  refine lcons (lsnd_g (snd_g (ok_aload_n dL_law_168 rfl rfl))) ?_
  refine lcons (lsnd_g (snd_g (ok_aload_n dL_law_169 rfl rfl))) ?_
  refine lcons (lsnd_g (snd_g (ok_iload dL_law_170 rfl))) ?_
  refine lcons (lsnd_g (snd_g (ok_iconst dL_law_172 rfl rfl))) ?_
  refine lcons (lsnd_g (snd_g (ok_iadd dL_law_173 rfl))) ?_
  refine lcons (ok_sld dL_law_174 rfl) ?_
  refine lcons (lsnd_g (snd_g (ok_aload_n dL_law_175 rfl rfl))) ?_
  refine lcons (lsnd_g (snd_g (ok_iload dL_law_176 rfl))) ?_
  refine lcons (lsnd_g (snd_g (ok_iconst dL_law_178 rfl rfl))) ?_
  refine lcons (lsnd_g (snd_g (ok_iadd dL_law_179 rfl))) ?_
  refine lcons (ok_sld dL_law_180 rfl) ?_
  refine lcons (lsnd_g (snd_g (ok_aload_n dL_law_181 rfl rfl))) ?_
  refine lcons (lsnd_g (snd_g (ok_iload dL_law_182 rfl))) ?_
  refine lcons (lsnd_g (snd_g (ok_iconst dL_law_184 rfl rfl))) ?_
  refine lcons (lsnd_g (snd_g (ok_iadd dL_law_185 rfl))) ?_
  refine lcons (ok_sld dL_law_186 rfl) ?_
  refine lcons (lsnd_g (snd_g (ok_aload_n dL_law_187 rfl rfl))) ?_
  refine lcons (lsnd_g (snd_g (ok_iload dL_law_188 rfl))) ?_
  refine lcons (lsnd_g (snd_g (ok_iconst dL_law_190 rfl rfl))) ?_
  refine lcons (lsnd_g (snd_g (ok_iadd dL_law_191 rfl))) ?_
  refine lcons (ok_sld dL_law_192 rfl) ?_
  refine lcons (lsnd_g (snd_g (ok_aload_n dL_law_193 rfl rfl))) ?_
  refine lcons (ok_callL M_L_person w_148 w_149 w_42 w_150 ⟨by decide, by decide, by decide +kernel⟩ (by decide) (by decide) dL_law_194 rfl) ?_
  refine lcons (lsnd_g (snd_g (ok_istore dL_law_197 (by decide) rfl))) ?_
  refine lcons (lsnd_g (snd_g (ok_aload_n dL_law_199 rfl rfl))) ?_
  refine lcons (lsnd_g (snd_g (ok_aload_n dL_law_200 rfl rfl))) ?_
  refine lcons (lsnd_g (snd_g (ok_iload dL_law_201 rfl))) ?_
  refine lcons (lsnd_g (snd_g (ok_iconst dL_law_203 rfl rfl))) ?_
  refine lcons (lsnd_g (snd_g (ok_iadd dL_law_204 rfl))) ?_
  refine lcons (ok_sld dL_law_205 rfl) ?_
  refine lcons (lsnd_g (snd_g (ok_aload_n dL_law_206 rfl rfl))) ?_
  refine lcons (lsnd_g (snd_g (ok_iload dL_law_207 rfl))) ?_
  refine lcons (lsnd_g (snd_g (ok_iconst dL_law_209 rfl rfl))) ?_
  refine lcons (lsnd_g (snd_g (ok_iadd dL_law_210 rfl))) ?_
  refine lcons (ok_sld dL_law_211 rfl) ?_
  refine lcons (lsnd_g (snd_g (ok_aload_n dL_law_212 rfl rfl))) ?_
  refine lcons (lsnd_g (snd_g (ok_iload dL_law_213 rfl))) ?_
  refine lcons (lsnd_g (snd_g (ok_iconst dL_law_215 rfl rfl))) ?_
  refine lcons (lsnd_g (snd_g (ok_iadd dL_law_216 rfl))) ?_
  refine lcons (ok_sld dL_law_217 rfl) ?_
  refine lcons (lsnd_g (snd_g (ok_aload_n dL_law_218 rfl rfl))) ?_
  refine lcons (lsnd_g (snd_g (ok_iload dL_law_219 rfl))) ?_
  refine lcons (lsnd_g (snd_g (ok_iconst dL_law_221 rfl rfl))) ?_
  refine lcons (lsnd_g (snd_g (ok_iadd dL_law_222 rfl))) ?_
  refine lcons (ok_sld dL_law_223 rfl) ?_
  refine lcons (lsnd_g (snd_g (ok_invokevirtualN M_X5_person (C := RX5) (T := TX5) (nf := 33) rfl w_1097 w_1098 w_1099 w_49 w_1100 ⟨rfl, by decide, by decide, by decide +kernel⟩ (by decide) (by decide) dL_law_224 rfl))) ?_
  refine lcons (lsnd_g (snd_g (ok_istore dL_law_227 (by decide) rfl))) ?_
  refine lcons (lsnd_g (snd_g (ok_aload_n dL_law_229 rfl rfl))) ?_
  refine lcons (lsnd_g (snd_g (ok_invokevirtual M_X5_thrown (C := RX5) (T := TX5) (nf := 33) rfl w_1093 w_1094 w_1095 w_49 w_1096 ⟨rfl, by decide, by decide, by decide +kernel⟩ (by decide) (by decide) dL_law_230 rfl))) ?_
  refine lcons (lsnd_g (snd_g (ok_iload dL_law_233 rfl))) ?_
  refine lcons (lsnd_g (snd_g (ok_icmp_eq dL_law_235 rfl rfl))) ?_
  refine lcons (lsnd_g (snd_g (ok_iconst dL_law_238 rfl rfl))) ?_
  refine lcons (ok_lret dL_law_239) ?_
  refine lcons (lsnd_g (snd_g (ok_iload dL_law_240 rfl))) ?_
  refine lcons (lsnd_g (snd_g (ok_if_ne dL_law_242 rfl rfl))) ?_
  refine lcons (lsnd_g (snd_g (ok_aload_n dL_law_245 rfl rfl))) ?_
  refine lcons (lsnd_g (snd_g (ok_iconst dL_law_246 rfl rfl))) ?_
  refine lcons (lsnd_g (snd_g (ok_laload dL_law_247 rfl))) ?_
  refine lcons (lsnd_g (snd_g (ok_iload dL_law_248 rfl))) ?_
  refine lcons (lsnd_g (snd_g (ok_i2l dL_law_250 rfl))) ?_
  refine lcons (lsnd_g (snd_g (ok_lcmp dL_law_251 rfl))) ?_
  refine lcons (lsnd_g (snd_g (ok_if_eq dL_law_252 rfl rfl))) ?_
  refine lcons (lsnd_g (snd_g (ok_iconst dL_law_255 rfl rfl))) ?_
  refine lcons (ok_lret dL_law_256) ?_
  refine lcons (lsnd_g (snd_g (ok_goto dL_law_257 rfl))) ?_
  exact fun _ h => nomatch h
theorem dL_law_260 : decode cL_law 260 = .ok (.aload_n 1, 1) := by decide +kernel
theorem dL_law_261 : decode cL_law 261 = .ok (.aload_n 0, 1) := by decide +kernel
theorem dL_law_262 : decode cL_law 262 = .ok (.iload 4, 2) := by decide +kernel
theorem dL_law_264 : decode cL_law 264 = .ok (.iconst 1, 1) := by decide +kernel
theorem dL_law_265 : decode cL_law 265 = .ok (.iadd, 1) := by decide +kernel
theorem dL_law_266 : decode cL_law 266 = .ok (.iaload, 1) := by decide +kernel
theorem dL_law_267 : decode cL_law 267 = .ok (.aload_n 0, 1) := by decide +kernel
theorem dL_law_268 : decode cL_law 268 = .ok (.iload 4, 2) := by decide +kernel
theorem dL_law_270 : decode cL_law 270 = .ok (.iconst 2, 1) := by decide +kernel
theorem dL_law_271 : decode cL_law 271 = .ok (.iadd, 1) := by decide +kernel
theorem dL_law_272 : decode cL_law 272 = .ok (.iaload, 1) := by decide +kernel
theorem dL_law_273 : decode cL_law 273 = .ok (.aload_n 3, 1) := by decide +kernel
theorem dL_law_274 : decode cL_law 274 = .ok (.invokestatic 126, 3) := by decide +kernel
theorem dL_law_277 : decode cL_law 277 = .ok (.istore 5, 2) := by decide +kernel
theorem dL_law_279 : decode cL_law 279 = .ok (.aload_n 2, 1) := by decide +kernel
theorem dL_law_280 : decode cL_law 280 = .ok (.aload_n 0, 1) := by decide +kernel
theorem dL_law_281 : decode cL_law 281 = .ok (.iload 4, 2) := by decide +kernel
theorem dL_law_283 : decode cL_law 283 = .ok (.iconst 1, 1) := by decide +kernel
theorem dL_law_284 : decode cL_law 284 = .ok (.iadd, 1) := by decide +kernel
theorem dL_law_285 : decode cL_law 285 = .ok (.iaload, 1) := by decide +kernel
theorem dL_law_286 : decode cL_law 286 = .ok (.aload_n 0, 1) := by decide +kernel
theorem dL_law_287 : decode cL_law 287 = .ok (.iload 4, 2) := by decide +kernel
theorem dL_law_289 : decode cL_law 289 = .ok (.iconst 2, 1) := by decide +kernel
theorem dL_law_290 : decode cL_law 290 = .ok (.iadd, 1) := by decide +kernel
theorem dL_law_291 : decode cL_law 291 = .ok (.iaload, 1) := by decide +kernel
theorem dL_law_292 : decode cL_law 292 = .ok (.invokevirtual 129, 3) := by decide +kernel
theorem dL_law_295 : decode cL_law 295 = .ok (.istore 6, 2) := by decide +kernel
theorem dL_law_297 : decode cL_law 297 = .ok (.aload_n 2, 1) := by decide +kernel
theorem dL_law_298 : decode cL_law 298 = .ok (.invokevirtual 122, 3) := by decide +kernel
theorem dL_law_301 : decode cL_law 301 = .ok (.iload 5, 2) := by decide +kernel
theorem dL_law_303 : decode cL_law 303 = .ok (.if_icmp .eq 5, 3) := by decide +kernel
theorem dL_law_306 : decode cL_law 306 = .ok (.iconst 0, 1) := by decide +kernel
theorem dL_law_307 : decode cL_law 307 = .ok (.ireturn, 1) := by decide +kernel
theorem dL_law_308 : decode cL_law 308 = .ok (.iload 5, 2) := by decide +kernel
theorem dL_law_310 : decode cL_law 310 = .ok (.ifCond .ne 15, 3) := by decide +kernel
theorem dL_law_313 : decode cL_law 313 = .ok (.aload_n 3, 1) := by decide +kernel
theorem dL_law_314 : decode cL_law 314 = .ok (.iconst 0, 1) := by decide +kernel
theorem dL_law_315 : decode cL_law 315 = .ok (.laload, 1) := by decide +kernel
theorem dL_law_316 : decode cL_law 316 = .ok (.iload 6, 2) := by decide +kernel
theorem dL_law_318 : decode cL_law 318 = .ok (.i2l, 1) := by decide +kernel
theorem dL_law_319 : decode cL_law 319 = .ok (.lcmp, 1) := by decide +kernel
theorem dL_law_320 : decode cL_law 320 = .ok (.ifCond .eq 5, 3) := by decide +kernel
theorem dL_law_323 : decode cL_law 323 = .ok (.iconst 0, 1) := by decide +kernel
theorem dL_law_324 : decode cL_law 324 = .ok (.ireturn, 1) := by decide +kernel
theorem dL_law_325 : decode cL_law 325 = .ok (.goto 1720, 3) := by decide +kernel
def tab_lawC1 (L : Nat) (xs : Nat → Int32) : List (Nat × Sem) := [(260, op_al 1 261), (261, op_al 0 262), (262, op_il 4 264), (264, op_ic 1 265), (265, op_bin (fun x y => x + y) 266), (266, op_sld L xs 267), (267, op_al 0 268), (268, op_il 4 270), (270, op_ic 2 271), (271, op_bin (fun x y => x + y) 272), (272, op_sld L xs 273), (273, op_al 3 274), (274, op_callL sp_L_rite 4 2 277), (277, op_is 5 279), (279, op_al 2 280), (280, op_al 0 281), (281, op_il 4 283), (283, op_ic 1 284), (284, op_bin (fun x y => x + y) 285), (285, op_sld L xs 286), (286, op_al 0 287), (287, op_il 4 289), (289, op_ic 2 290), (290, op_bin (fun x y => x + y) 291), (291, op_sld L xs 292), (292, op_callVN 7 sp_X5_rite 3 0 295), (295, op_is 6 297), (297, op_al 2 298), (298, op_callV 7 sp_X5_thrown 1 0 301), (301, op_il 5 303), (303, op_cmp (fun x y => x = y) 308 306), (306, op_ic 0 307), (307, op_lret), (308, op_il 5 310), (310, op_if (fun x => ¬ x = 0) 325 313), (313, op_al 3 314), (314, op_ic 0 315), (315, op_lald 316), (316, op_il 6 318), (318, op_i2l 319), (319, op_lcmp 320), (320, op_if (fun x => x = 0) 325 323), (323, op_ic 0 324), (324, op_lret), (325, op_go 2045)]
set_option maxRecDepth 20000 in
theorem tok_lawC1 {L : Nat} {xs : Nat → Int32} : ∀ q ∈ tab_lawC1 L xs, LSnd L xs RL cL_law 7 15 150256 ret q.1 q.2 := by
  unfold tab_lawC1
  refine lcons (lsnd_g (snd_g (ok_aload_n dL_law_260 rfl rfl))) ?_
  refine lcons (lsnd_g (snd_g (ok_aload_n dL_law_261 rfl rfl))) ?_
  refine lcons (lsnd_g (snd_g (ok_iload dL_law_262 rfl))) ?_
  refine lcons (lsnd_g (snd_g (ok_iconst dL_law_264 rfl rfl))) ?_
  refine lcons (lsnd_g (snd_g (ok_iadd dL_law_265 rfl))) ?_
  refine lcons (ok_sld dL_law_266 rfl) ?_
  refine lcons (lsnd_g (snd_g (ok_aload_n dL_law_267 rfl rfl))) ?_
  refine lcons (lsnd_g (snd_g (ok_iload dL_law_268 rfl))) ?_
  refine lcons (lsnd_g (snd_g (ok_iconst dL_law_270 rfl rfl))) ?_
  refine lcons (lsnd_g (snd_g (ok_iadd dL_law_271 rfl))) ?_
  refine lcons (ok_sld dL_law_272 rfl) ?_
  refine lcons (lsnd_g (snd_g (ok_aload_n dL_law_273 rfl rfl))) ?_
  refine lcons (ok_callL M_L_rite w_377 w_378 w_42 w_379 ⟨by decide, by decide, by decide +kernel⟩ (by decide) (by decide) dL_law_274 rfl) ?_
  refine lcons (lsnd_g (snd_g (ok_istore dL_law_277 (by decide) rfl))) ?_
  refine lcons (lsnd_g (snd_g (ok_aload_n dL_law_279 rfl rfl))) ?_
  refine lcons (lsnd_g (snd_g (ok_aload_n dL_law_280 rfl rfl))) ?_
  refine lcons (lsnd_g (snd_g (ok_iload dL_law_281 rfl))) ?_
  refine lcons (lsnd_g (snd_g (ok_iconst dL_law_283 rfl rfl))) ?_
  refine lcons (lsnd_g (snd_g (ok_iadd dL_law_284 rfl))) ?_
  refine lcons (ok_sld dL_law_285 rfl) ?_
  refine lcons (lsnd_g (snd_g (ok_aload_n dL_law_286 rfl rfl))) ?_
  refine lcons (lsnd_g (snd_g (ok_iload dL_law_287 rfl))) ?_
  refine lcons (lsnd_g (snd_g (ok_iconst dL_law_289 rfl rfl))) ?_
  refine lcons (lsnd_g (snd_g (ok_iadd dL_law_290 rfl))) ?_
  refine lcons (ok_sld dL_law_291 rfl) ?_
  refine lcons (lsnd_g (snd_g (ok_invokevirtualN M_X5_rite (C := RX5) (T := TX5) (nf := 33) rfl w_1116 w_1117 w_1118 w_49 w_1119 ⟨rfl, by decide, by decide, by decide +kernel⟩ (by decide) (by decide) dL_law_292 rfl))) ?_
  refine lcons (lsnd_g (snd_g (ok_istore dL_law_295 (by decide) rfl))) ?_
  refine lcons (lsnd_g (snd_g (ok_aload_n dL_law_297 rfl rfl))) ?_
  refine lcons (lsnd_g (snd_g (ok_invokevirtual M_X5_thrown (C := RX5) (T := TX5) (nf := 33) rfl w_1093 w_1094 w_1095 w_49 w_1096 ⟨rfl, by decide, by decide, by decide +kernel⟩ (by decide) (by decide) dL_law_298 rfl))) ?_
  refine lcons (lsnd_g (snd_g (ok_iload dL_law_301 rfl))) ?_
  refine lcons (lsnd_g (snd_g (ok_icmp_eq dL_law_303 rfl rfl))) ?_
  refine lcons (lsnd_g (snd_g (ok_iconst dL_law_306 rfl rfl))) ?_
  refine lcons (ok_lret dL_law_307) ?_
  refine lcons (lsnd_g (snd_g (ok_iload dL_law_308 rfl))) ?_
  refine lcons (lsnd_g (snd_g (ok_if_ne dL_law_310 rfl rfl))) ?_
  refine lcons (lsnd_g (snd_g (ok_aload_n dL_law_313 rfl rfl))) ?_
  refine lcons (lsnd_g (snd_g (ok_iconst dL_law_314 rfl rfl))) ?_
  refine lcons (lsnd_g (snd_g (ok_laload dL_law_315 rfl))) ?_
  refine lcons (lsnd_g (snd_g (ok_iload dL_law_316 rfl))) ?_
  refine lcons (lsnd_g (snd_g (ok_i2l dL_law_318 rfl))) ?_
  refine lcons (lsnd_g (snd_g (ok_lcmp dL_law_319 rfl))) ?_
  refine lcons (lsnd_g (snd_g (ok_if_eq dL_law_320 rfl rfl))) ?_
  refine lcons (lsnd_g (snd_g (ok_iconst dL_law_323 rfl rfl))) ?_
  refine lcons (ok_lret dL_law_324) ?_
  refine lcons (lsnd_g (snd_g (ok_goto dL_law_325 rfl))) ?_
  exact fun _ h => nomatch h
theorem dL_law_328 : decode cL_law 328 = .ok (.aload_n 1, 1) := by decide +kernel
theorem dL_law_329 : decode cL_law 329 = .ok (.aload_n 0, 1) := by decide +kernel
theorem dL_law_330 : decode cL_law 330 = .ok (.iload 4, 2) := by decide +kernel
theorem dL_law_332 : decode cL_law 332 = .ok (.iconst 1, 1) := by decide +kernel
theorem dL_law_333 : decode cL_law 333 = .ok (.iadd, 1) := by decide +kernel
theorem dL_law_334 : decode cL_law 334 = .ok (.iaload, 1) := by decide +kernel
theorem dL_law_335 : decode cL_law 335 = .ok (.aload_n 0, 1) := by decide +kernel
theorem dL_law_336 : decode cL_law 336 = .ok (.iload 4, 2) := by decide +kernel
theorem dL_law_338 : decode cL_law 338 = .ok (.iconst 2, 1) := by decide +kernel
theorem dL_law_339 : decode cL_law 339 = .ok (.iadd, 1) := by decide +kernel
theorem dL_law_340 : decode cL_law 340 = .ok (.iaload, 1) := by decide +kernel
theorem dL_law_341 : decode cL_law 341 = .ok (.aload_n 3, 1) := by decide +kernel
theorem dL_law_342 : decode cL_law 342 = .ok (.invokestatic 130, 3) := by decide +kernel
theorem dL_law_345 : decode cL_law 345 = .ok (.istore 5, 2) := by decide +kernel
theorem dL_law_347 : decode cL_law 347 = .ok (.aload_n 2, 1) := by decide +kernel
theorem dL_law_348 : decode cL_law 348 = .ok (.aload_n 0, 1) := by decide +kernel
theorem dL_law_349 : decode cL_law 349 = .ok (.iload 4, 2) := by decide +kernel
theorem dL_law_351 : decode cL_law 351 = .ok (.iconst 1, 1) := by decide +kernel
theorem dL_law_352 : decode cL_law 352 = .ok (.iadd, 1) := by decide +kernel
theorem dL_law_353 : decode cL_law 353 = .ok (.iaload, 1) := by decide +kernel
theorem dL_law_354 : decode cL_law 354 = .ok (.aload_n 0, 1) := by decide +kernel
theorem dL_law_355 : decode cL_law 355 = .ok (.iload 4, 2) := by decide +kernel
theorem dL_law_357 : decode cL_law 357 = .ok (.iconst 2, 1) := by decide +kernel
theorem dL_law_358 : decode cL_law 358 = .ok (.iadd, 1) := by decide +kernel
theorem dL_law_359 : decode cL_law 359 = .ok (.iaload, 1) := by decide +kernel
theorem dL_law_360 : decode cL_law 360 = .ok (.invokevirtual 132, 3) := by decide +kernel
theorem dL_law_363 : decode cL_law 363 = .ok (.istore 6, 2) := by decide +kernel
theorem dL_law_365 : decode cL_law 365 = .ok (.aload_n 2, 1) := by decide +kernel
theorem dL_law_366 : decode cL_law 366 = .ok (.invokevirtual 122, 3) := by decide +kernel
theorem dL_law_369 : decode cL_law 369 = .ok (.iload 5, 2) := by decide +kernel
theorem dL_law_371 : decode cL_law 371 = .ok (.if_icmp .eq 5, 3) := by decide +kernel
theorem dL_law_374 : decode cL_law 374 = .ok (.iconst 0, 1) := by decide +kernel
theorem dL_law_375 : decode cL_law 375 = .ok (.ireturn, 1) := by decide +kernel
theorem dL_law_376 : decode cL_law 376 = .ok (.iload 5, 2) := by decide +kernel
theorem dL_law_378 : decode cL_law 378 = .ok (.ifCond .ne 15, 3) := by decide +kernel
theorem dL_law_381 : decode cL_law 381 = .ok (.aload_n 3, 1) := by decide +kernel
theorem dL_law_382 : decode cL_law 382 = .ok (.iconst 0, 1) := by decide +kernel
theorem dL_law_383 : decode cL_law 383 = .ok (.laload, 1) := by decide +kernel
theorem dL_law_384 : decode cL_law 384 = .ok (.iload 6, 2) := by decide +kernel
theorem dL_law_386 : decode cL_law 386 = .ok (.i2l, 1) := by decide +kernel
theorem dL_law_387 : decode cL_law 387 = .ok (.lcmp, 1) := by decide +kernel
theorem dL_law_388 : decode cL_law 388 = .ok (.ifCond .eq 5, 3) := by decide +kernel
theorem dL_law_391 : decode cL_law 391 = .ok (.iconst 0, 1) := by decide +kernel
theorem dL_law_392 : decode cL_law 392 = .ok (.ireturn, 1) := by decide +kernel
theorem dL_law_393 : decode cL_law 393 = .ok (.goto 1652, 3) := by decide +kernel
def tab_lawC2 (L : Nat) (xs : Nat → Int32) : List (Nat × Sem) := [(328, op_al 1 329), (329, op_al 0 330), (330, op_il 4 332), (332, op_ic 1 333), (333, op_bin (fun x y => x + y) 334), (334, op_sld L xs 335), (335, op_al 0 336), (336, op_il 4 338), (338, op_ic 2 339), (339, op_bin (fun x y => x + y) 340), (340, op_sld L xs 341), (341, op_al 3 342), (342, op_callL sp_L_home 4 2 345), (345, op_is 5 347), (347, op_al 2 348), (348, op_al 0 349), (349, op_il 4 351), (351, op_ic 1 352), (352, op_bin (fun x y => x + y) 353), (353, op_sld L xs 354), (354, op_al 0 355), (355, op_il 4 357), (357, op_ic 2 358), (358, op_bin (fun x y => x + y) 359), (359, op_sld L xs 360), (360, op_callVN 7 sp_X5_home 3 0 363), (363, op_is 6 365), (365, op_al 2 366), (366, op_callV 7 sp_X5_thrown 1 0 369), (369, op_il 5 371), (371, op_cmp (fun x y => x = y) 376 374), (374, op_ic 0 375), (375, op_lret), (376, op_il 5 378), (378, op_if (fun x => ¬ x = 0) 393 381), (381, op_al 3 382), (382, op_ic 0 383), (383, op_lald 384), (384, op_il 6 386), (386, op_i2l 387), (387, op_lcmp 388), (388, op_if (fun x => x = 0) 393 391), (391, op_ic 0 392), (392, op_lret), (393, op_go 2045)]
set_option maxRecDepth 20000 in
theorem tok_lawC2 {L : Nat} {xs : Nat → Int32} : ∀ q ∈ tab_lawC2 L xs, LSnd L xs RL cL_law 7 15 150256 ret q.1 q.2 := by
  unfold tab_lawC2
  refine lcons (lsnd_g (snd_g (ok_aload_n dL_law_328 rfl rfl))) ?_
  refine lcons (lsnd_g (snd_g (ok_aload_n dL_law_329 rfl rfl))) ?_
  refine lcons (lsnd_g (snd_g (ok_iload dL_law_330 rfl))) ?_
  refine lcons (lsnd_g (snd_g (ok_iconst dL_law_332 rfl rfl))) ?_
  refine lcons (lsnd_g (snd_g (ok_iadd dL_law_333 rfl))) ?_
  refine lcons (ok_sld dL_law_334 rfl) ?_
  refine lcons (lsnd_g (snd_g (ok_aload_n dL_law_335 rfl rfl))) ?_
  refine lcons (lsnd_g (snd_g (ok_iload dL_law_336 rfl))) ?_
  refine lcons (lsnd_g (snd_g (ok_iconst dL_law_338 rfl rfl))) ?_
  refine lcons (lsnd_g (snd_g (ok_iadd dL_law_339 rfl))) ?_
  refine lcons (ok_sld dL_law_340 rfl) ?_
  refine lcons (lsnd_g (snd_g (ok_aload_n dL_law_341 rfl rfl))) ?_
  refine lcons (ok_callL M_L_home w_402 w_403 w_42 w_404 ⟨by decide, by decide, by decide +kernel⟩ (by decide) (by decide) dL_law_342 rfl) ?_
  refine lcons (lsnd_g (snd_g (ok_istore dL_law_345 (by decide) rfl))) ?_
  refine lcons (lsnd_g (snd_g (ok_aload_n dL_law_347 rfl rfl))) ?_
  refine lcons (lsnd_g (snd_g (ok_aload_n dL_law_348 rfl rfl))) ?_
  refine lcons (lsnd_g (snd_g (ok_iload dL_law_349 rfl))) ?_
  refine lcons (lsnd_g (snd_g (ok_iconst dL_law_351 rfl rfl))) ?_
  refine lcons (lsnd_g (snd_g (ok_iadd dL_law_352 rfl))) ?_
  refine lcons (ok_sld dL_law_353 rfl) ?_
  refine lcons (lsnd_g (snd_g (ok_aload_n dL_law_354 rfl rfl))) ?_
  refine lcons (lsnd_g (snd_g (ok_iload dL_law_355 rfl))) ?_
  refine lcons (lsnd_g (snd_g (ok_iconst dL_law_357 rfl rfl))) ?_
  refine lcons (lsnd_g (snd_g (ok_iadd dL_law_358 rfl))) ?_
  refine lcons (ok_sld dL_law_359 rfl) ?_
  refine lcons (lsnd_g (snd_g (ok_invokevirtualN M_X5_home (C := RX5) (T := TX5) (nf := 33) rfl w_1120 w_1121 w_1122 w_49 w_1123 ⟨rfl, by decide, by decide, by decide +kernel⟩ (by decide) (by decide) dL_law_360 rfl))) ?_
  refine lcons (lsnd_g (snd_g (ok_istore dL_law_363 (by decide) rfl))) ?_
  refine lcons (lsnd_g (snd_g (ok_aload_n dL_law_365 rfl rfl))) ?_
  refine lcons (lsnd_g (snd_g (ok_invokevirtual M_X5_thrown (C := RX5) (T := TX5) (nf := 33) rfl w_1093 w_1094 w_1095 w_49 w_1096 ⟨rfl, by decide, by decide, by decide +kernel⟩ (by decide) (by decide) dL_law_366 rfl))) ?_
  refine lcons (lsnd_g (snd_g (ok_iload dL_law_369 rfl))) ?_
  refine lcons (lsnd_g (snd_g (ok_icmp_eq dL_law_371 rfl rfl))) ?_
  refine lcons (lsnd_g (snd_g (ok_iconst dL_law_374 rfl rfl))) ?_
  refine lcons (ok_lret dL_law_375) ?_
  refine lcons (lsnd_g (snd_g (ok_iload dL_law_376 rfl))) ?_
  refine lcons (lsnd_g (snd_g (ok_if_ne dL_law_378 rfl rfl))) ?_
  refine lcons (lsnd_g (snd_g (ok_aload_n dL_law_381 rfl rfl))) ?_
  refine lcons (lsnd_g (snd_g (ok_iconst dL_law_382 rfl rfl))) ?_
  refine lcons (lsnd_g (snd_g (ok_laload dL_law_383 rfl))) ?_
  refine lcons (lsnd_g (snd_g (ok_iload dL_law_384 rfl))) ?_
  refine lcons (lsnd_g (snd_g (ok_i2l dL_law_386 rfl))) ?_
  refine lcons (lsnd_g (snd_g (ok_lcmp dL_law_387 rfl))) ?_
  refine lcons (lsnd_g (snd_g (ok_if_eq dL_law_388 rfl rfl))) ?_
  refine lcons (lsnd_g (snd_g (ok_iconst dL_law_391 rfl rfl))) ?_
  refine lcons (ok_lret dL_law_392) ?_
  refine lcons (lsnd_g (snd_g (ok_goto dL_law_393 rfl))) ?_
  exact fun _ h => nomatch h
theorem dL_law_396 : decode cL_law 396 = .ok (.aload_n 1, 1) := by decide +kernel
theorem dL_law_397 : decode cL_law 397 = .ok (.aload_n 0, 1) := by decide +kernel
theorem dL_law_398 : decode cL_law 398 = .ok (.iload 4, 2) := by decide +kernel
theorem dL_law_400 : decode cL_law 400 = .ok (.iconst 1, 1) := by decide +kernel
theorem dL_law_401 : decode cL_law 401 = .ok (.iadd, 1) := by decide +kernel
theorem dL_law_402 : decode cL_law 402 = .ok (.iaload, 1) := by decide +kernel
theorem dL_law_403 : decode cL_law 403 = .ok (.invokestatic 133, 3) := by decide +kernel
theorem dL_law_406 : decode cL_law 406 = .ok (.istore 5, 2) := by decide +kernel
theorem dL_law_408 : decode cL_law 408 = .ok (.aload_n 2, 1) := by decide +kernel
theorem dL_law_409 : decode cL_law 409 = .ok (.aload_n 0, 1) := by decide +kernel
theorem dL_law_410 : decode cL_law 410 = .ok (.iload 4, 2) := by decide +kernel
theorem dL_law_412 : decode cL_law 412 = .ok (.iconst 1, 1) := by decide +kernel
theorem dL_law_413 : decode cL_law 413 = .ok (.iadd, 1) := by decide +kernel
theorem dL_law_414 : decode cL_law 414 = .ok (.iaload, 1) := by decide +kernel
theorem dL_law_415 : decode cL_law 415 = .ok (.invokevirtual 136, 3) := by decide +kernel
theorem dL_law_418 : decode cL_law 418 = .ok (.aload_n 2, 1) := by decide +kernel
theorem dL_law_419 : decode cL_law 419 = .ok (.invokevirtual 122, 3) := by decide +kernel
theorem dL_law_422 : decode cL_law 422 = .ok (.iload 5, 2) := by decide +kernel
theorem dL_law_424 : decode cL_law 424 = .ok (.if_icmp .eq 5, 3) := by decide +kernel
theorem dL_law_427 : decode cL_law 427 = .ok (.iconst 0, 1) := by decide +kernel
theorem dL_law_428 : decode cL_law 428 = .ok (.ireturn, 1) := by decide +kernel
theorem dL_law_429 : decode cL_law 429 = .ok (.goto 1616, 3) := by decide +kernel
def tab_lawC3 (L : Nat) (xs : Nat → Int32) : List (Nat × Sem) := [(396, op_al 1 397), (397, op_al 0 398), (398, op_il 4 400), (400, op_ic 1 401), (401, op_bin (fun x y => x + y) 402), (402, op_sld L xs 403), (403, op_callL sp_L_order 2 2 406), (406, op_is 5 408), (408, op_al 2 409), (409, op_al 0 410), (410, op_il 4 412), (412, op_ic 1 413), (413, op_bin (fun x y => x + y) 414), (414, op_sld L xs 415), (415, op_callVN 7 sp_X5_order 2 0 418), (418, op_al 2 419), (419, op_callV 7 sp_X5_thrown 1 0 422), (422, op_il 5 424), (424, op_cmp (fun x y => x = y) 429 427), (427, op_ic 0 428), (428, op_lret), (429, op_go 2045)]
set_option maxRecDepth 20000 in
theorem tok_lawC3 {L : Nat} {xs : Nat → Int32} : ∀ q ∈ tab_lawC3 L xs, LSnd L xs RL cL_law 7 15 150256 ret q.1 q.2 := by
  unfold tab_lawC3
  refine lcons (lsnd_g (snd_g (ok_aload_n dL_law_396 rfl rfl))) ?_
  refine lcons (lsnd_g (snd_g (ok_aload_n dL_law_397 rfl rfl))) ?_
  refine lcons (lsnd_g (snd_g (ok_iload dL_law_398 rfl))) ?_
  refine lcons (lsnd_g (snd_g (ok_iconst dL_law_400 rfl rfl))) ?_
  refine lcons (lsnd_g (snd_g (ok_iadd dL_law_401 rfl))) ?_
  refine lcons (ok_sld dL_law_402 rfl) ?_
  refine lcons (ok_callL M_L_order w_409 w_410 w_42 w_411 ⟨by decide, by decide, by decide +kernel⟩ (by decide) (by decide) dL_law_403 rfl) ?_
  refine lcons (lsnd_g (snd_g (ok_istore dL_law_406 (by decide) rfl))) ?_
  refine lcons (lsnd_g (snd_g (ok_aload_n dL_law_408 rfl rfl))) ?_
  refine lcons (lsnd_g (snd_g (ok_aload_n dL_law_409 rfl rfl))) ?_
  refine lcons (lsnd_g (snd_g (ok_iload dL_law_410 rfl))) ?_
  refine lcons (lsnd_g (snd_g (ok_iconst dL_law_412 rfl rfl))) ?_
  refine lcons (lsnd_g (snd_g (ok_iadd dL_law_413 rfl))) ?_
  refine lcons (ok_sld dL_law_414 rfl) ?_
  refine lcons (lsnd_g (snd_g (ok_invokevirtualN M_X5_order (C := RX5) (T := TX5) (nf := 33) rfl w_1124 w_1125 w_1126 w_49 w_1127 ⟨rfl, by decide, by decide, by decide +kernel⟩ (by decide) (by decide) dL_law_415 rfl))) ?_
  refine lcons (lsnd_g (snd_g (ok_aload_n dL_law_418 rfl rfl))) ?_
  refine lcons (lsnd_g (snd_g (ok_invokevirtual M_X5_thrown (C := RX5) (T := TX5) (nf := 33) rfl w_1093 w_1094 w_1095 w_49 w_1096 ⟨rfl, by decide, by decide, by decide +kernel⟩ (by decide) (by decide) dL_law_419 rfl))) ?_
  refine lcons (lsnd_g (snd_g (ok_iload dL_law_422 rfl))) ?_
  refine lcons (lsnd_g (snd_g (ok_icmp_eq dL_law_424 rfl rfl))) ?_
  refine lcons (lsnd_g (snd_g (ok_iconst dL_law_427 rfl rfl))) ?_
  refine lcons (ok_lret dL_law_428) ?_
  refine lcons (lsnd_g (snd_g (ok_goto dL_law_429 rfl))) ?_
  exact fun _ h => nomatch h
theorem dL_law_432 : decode cL_law 432 = .ok (.aload_n 1, 1) := by decide +kernel
theorem dL_law_433 : decode cL_law 433 = .ok (.aload_n 0, 1) := by decide +kernel
theorem dL_law_434 : decode cL_law 434 = .ok (.iload 4, 2) := by decide +kernel
theorem dL_law_436 : decode cL_law 436 = .ok (.iconst 1, 1) := by decide +kernel
theorem dL_law_437 : decode cL_law 437 = .ok (.iadd, 1) := by decide +kernel
theorem dL_law_438 : decode cL_law 438 = .ok (.iaload, 1) := by decide +kernel
theorem dL_law_439 : decode cL_law 439 = .ok (.aload_n 3, 1) := by decide +kernel
theorem dL_law_440 : decode cL_law 440 = .ok (.invokestatic 137, 3) := by decide +kernel
theorem dL_law_443 : decode cL_law 443 = .ok (.istore 5, 2) := by decide +kernel
theorem dL_law_445 : decode cL_law 445 = .ok (.aload_n 2, 1) := by decide +kernel
theorem dL_law_446 : decode cL_law 446 = .ok (.aload_n 0, 1) := by decide +kernel
theorem dL_law_447 : decode cL_law 447 = .ok (.iload 4, 2) := by decide +kernel
theorem dL_law_449 : decode cL_law 449 = .ok (.iconst 1, 1) := by decide +kernel
theorem dL_law_450 : decode cL_law 450 = .ok (.iadd, 1) := by decide +kernel
theorem dL_law_451 : decode cL_law 451 = .ok (.iaload, 1) := by decide +kernel
theorem dL_law_452 : decode cL_law 452 = .ok (.invokevirtual 140, 3) := by decide +kernel
theorem dL_law_455 : decode cL_law 455 = .ok (.istore 6, 2) := by decide +kernel
theorem dL_law_457 : decode cL_law 457 = .ok (.aload_n 2, 1) := by decide +kernel
theorem dL_law_458 : decode cL_law 458 = .ok (.invokevirtual 122, 3) := by decide +kernel
theorem dL_law_461 : decode cL_law 461 = .ok (.iload 5, 2) := by decide +kernel
theorem dL_law_463 : decode cL_law 463 = .ok (.if_icmp .eq 5, 3) := by decide +kernel
theorem dL_law_466 : decode cL_law 466 = .ok (.iconst 0, 1) := by decide +kernel
theorem dL_law_467 : decode cL_law 467 = .ok (.ireturn, 1) := by decide +kernel
theorem dL_law_468 : decode cL_law 468 = .ok (.iload 5, 2) := by decide +kernel
theorem dL_law_470 : decode cL_law 470 = .ok (.ifCond .ne 22, 3) := by decide +kernel
theorem dL_law_473 : decode cL_law 473 = .ok (.aload_n 3, 1) := by decide +kernel
theorem dL_law_474 : decode cL_law 474 = .ok (.iconst 0, 1) := by decide +kernel
theorem dL_law_475 : decode cL_law 475 = .ok (.laload, 1) := by decide +kernel
theorem dL_law_476 : decode cL_law 476 = .ok (.iload 6, 2) := by decide +kernel
theorem dL_law_478 : decode cL_law 478 = .ok (.ifCond .eq 7, 3) := by decide +kernel
theorem dL_law_481 : decode cL_law 481 = .ok (.lconst 1, 1) := by decide +kernel
theorem dL_law_482 : decode cL_law 482 = .ok (.goto 4, 3) := by decide +kernel
theorem dL_law_485 : decode cL_law 485 = .ok (.lconst 0, 1) := by decide +kernel
theorem dL_law_486 : decode cL_law 486 = .ok (.lcmp, 1) := by decide +kernel
theorem dL_law_487 : decode cL_law 487 = .ok (.ifCond .eq 5, 3) := by decide +kernel
theorem dL_law_490 : decode cL_law 490 = .ok (.iconst 0, 1) := by decide +kernel
theorem dL_law_491 : decode cL_law 491 = .ok (.ireturn, 1) := by decide +kernel
theorem dL_law_492 : decode cL_law 492 = .ok (.goto 1553, 3) := by decide +kernel
def tab_lawC4 (L : Nat) (xs : Nat → Int32) : List (Nat × Sem) := [(432, op_al 1 433), (433, op_al 0 434), (434, op_il 4 436), (436, op_ic 1 437), (437, op_bin (fun x y => x + y) 438), (438, op_sld L xs 439), (439, op_al 3 440), (440, op_callL sp_L_ban 3 1 443), (443, op_is 5 445), (445, op_al 2 446), (446, op_al 0 447), (447, op_il 4 449), (449, op_ic 1 450), (450, op_bin (fun x y => x + y) 451), (451, op_sld L xs 452), (452, op_callVN 7 sp_X5_ban 2 0 455), (455, op_is 6 457), (457, op_al 2 458), (458, op_callV 7 sp_X5_thrown 1 0 461), (461, op_il 5 463), (463, op_cmp (fun x y => x = y) 468 466), (466, op_ic 0 467), (467, op_lret), (468, op_il 5 470), (470, op_if (fun x => ¬ x = 0) 492 473), (473, op_al 3 474), (474, op_ic 0 475), (475, op_lald 476), (476, op_il 6 478), (478, op_if (fun x => x = 0) 485 481), (481, op_lc 1 482), (482, op_go 486), (485, op_lc 0 486), (486, op_lcmp 487), (487, op_if (fun x => x = 0) 492 490), (490, op_ic 0 491), (491, op_lret), (492, op_go 2045)]
set_option maxRecDepth 20000 in
theorem tok_lawC4 {L : Nat} {xs : Nat → Int32} : ∀ q ∈ tab_lawC4 L xs, LSnd L xs RL cL_law 7 15 150256 ret q.1 q.2 := by
  unfold tab_lawC4
  refine lcons (lsnd_g (snd_g (ok_aload_n dL_law_432 rfl rfl))) ?_
  refine lcons (lsnd_g (snd_g (ok_aload_n dL_law_433 rfl rfl))) ?_
  refine lcons (lsnd_g (snd_g (ok_iload dL_law_434 rfl))) ?_
  refine lcons (lsnd_g (snd_g (ok_iconst dL_law_436 rfl rfl))) ?_
  refine lcons (lsnd_g (snd_g (ok_iadd dL_law_437 rfl))) ?_
  refine lcons (ok_sld dL_law_438 rfl) ?_
  refine lcons (lsnd_g (snd_g (ok_aload_n dL_law_439 rfl rfl))) ?_
  refine lcons (ok_callL M_L_ban w_416 w_417 w_42 w_418 ⟨by decide, by decide, by decide +kernel⟩ (by decide) (by decide) dL_law_440 rfl) ?_
  refine lcons (lsnd_g (snd_g (ok_istore dL_law_443 (by decide) rfl))) ?_
  refine lcons (lsnd_g (snd_g (ok_aload_n dL_law_445 rfl rfl))) ?_
  refine lcons (lsnd_g (snd_g (ok_aload_n dL_law_446 rfl rfl))) ?_
  refine lcons (lsnd_g (snd_g (ok_iload dL_law_447 rfl))) ?_
  refine lcons (lsnd_g (snd_g (ok_iconst dL_law_449 rfl rfl))) ?_
  refine lcons (lsnd_g (snd_g (ok_iadd dL_law_450 rfl))) ?_
  refine lcons (ok_sld dL_law_451 rfl) ?_
  refine lcons (lsnd_g (snd_g (ok_invokevirtualN M_X5_ban (C := RX5) (T := TX5) (nf := 33) rfl w_1128 w_1129 w_1130 w_49 w_1131 ⟨rfl, by decide, by decide, by decide +kernel⟩ (by decide) (by decide) dL_law_452 rfl))) ?_
  refine lcons (lsnd_g (snd_g (ok_istore dL_law_455 (by decide) rfl))) ?_
  refine lcons (lsnd_g (snd_g (ok_aload_n dL_law_457 rfl rfl))) ?_
  refine lcons (lsnd_g (snd_g (ok_invokevirtual M_X5_thrown (C := RX5) (T := TX5) (nf := 33) rfl w_1093 w_1094 w_1095 w_49 w_1096 ⟨rfl, by decide, by decide, by decide +kernel⟩ (by decide) (by decide) dL_law_458 rfl))) ?_
  refine lcons (lsnd_g (snd_g (ok_iload dL_law_461 rfl))) ?_
  refine lcons (lsnd_g (snd_g (ok_icmp_eq dL_law_463 rfl rfl))) ?_
  refine lcons (lsnd_g (snd_g (ok_iconst dL_law_466 rfl rfl))) ?_
  refine lcons (ok_lret dL_law_467) ?_
  refine lcons (lsnd_g (snd_g (ok_iload dL_law_468 rfl))) ?_
  refine lcons (lsnd_g (snd_g (ok_if_ne dL_law_470 rfl rfl))) ?_
  refine lcons (lsnd_g (snd_g (ok_aload_n dL_law_473 rfl rfl))) ?_
  refine lcons (lsnd_g (snd_g (ok_iconst dL_law_474 rfl rfl))) ?_
  refine lcons (lsnd_g (snd_g (ok_laload dL_law_475 rfl))) ?_
  refine lcons (lsnd_g (snd_g (ok_iload dL_law_476 rfl))) ?_
  refine lcons (lsnd_g (snd_g (ok_if_eq dL_law_478 rfl rfl))) ?_
  refine lcons (lsnd_g (snd_g (ok_lconst dL_law_481 rfl rfl))) ?_
  refine lcons (lsnd_g (snd_g (ok_goto dL_law_482 rfl))) ?_
  refine lcons (lsnd_g (snd_g (ok_lconst dL_law_485 rfl rfl))) ?_
  refine lcons (lsnd_g (snd_g (ok_lcmp dL_law_486 rfl))) ?_
  refine lcons (lsnd_g (snd_g (ok_if_eq dL_law_487 rfl rfl))) ?_
  refine lcons (lsnd_g (snd_g (ok_iconst dL_law_490 rfl rfl))) ?_
  refine lcons (ok_lret dL_law_491) ?_
  refine lcons (lsnd_g (snd_g (ok_goto dL_law_492 rfl))) ?_
  exact fun _ h => nomatch h
theorem dL_law_495 : decode cL_law 495 = .ok (.aload_n 1, 1) := by decide +kernel
theorem dL_law_496 : decode cL_law 496 = .ok (.aload_n 0, 1) := by decide +kernel
theorem dL_law_497 : decode cL_law 497 = .ok (.iload 4, 2) := by decide +kernel
theorem dL_law_499 : decode cL_law 499 = .ok (.iconst 1, 1) := by decide +kernel
theorem dL_law_500 : decode cL_law 500 = .ok (.iadd, 1) := by decide +kernel
theorem dL_law_501 : decode cL_law 501 = .ok (.iaload, 1) := by decide +kernel
theorem dL_law_502 : decode cL_law 502 = .ok (.aload_n 3, 1) := by decide +kernel
theorem dL_law_503 : decode cL_law 503 = .ok (.invokestatic 141, 3) := by decide +kernel
theorem dL_law_506 : decode cL_law 506 = .ok (.istore 5, 2) := by decide +kernel
theorem dL_law_508 : decode cL_law 508 = .ok (.aload_n 2, 1) := by decide +kernel
theorem dL_law_509 : decode cL_law 509 = .ok (.aload_n 0, 1) := by decide +kernel
theorem dL_law_510 : decode cL_law 510 = .ok (.iload 4, 2) := by decide +kernel
theorem dL_law_512 : decode cL_law 512 = .ok (.iconst 1, 1) := by decide +kernel
theorem dL_law_513 : decode cL_law 513 = .ok (.iadd, 1) := by decide +kernel
theorem dL_law_514 : decode cL_law 514 = .ok (.iaload, 1) := by decide +kernel
theorem dL_law_515 : decode cL_law 515 = .ok (.invokevirtual 143, 3) := by decide +kernel
theorem dL_law_518 : decode cL_law 518 = .ok (.istore 6, 2) := by decide +kernel
theorem dL_law_520 : decode cL_law 520 = .ok (.aload_n 2, 1) := by decide +kernel
theorem dL_law_521 : decode cL_law 521 = .ok (.invokevirtual 122, 3) := by decide +kernel
theorem dL_law_524 : decode cL_law 524 = .ok (.iload 5, 2) := by decide +kernel
theorem dL_law_526 : decode cL_law 526 = .ok (.if_icmp .eq 5, 3) := by decide +kernel
theorem dL_law_529 : decode cL_law 529 = .ok (.iconst 0, 1) := by decide +kernel
theorem dL_law_530 : decode cL_law 530 = .ok (.ireturn, 1) := by decide +kernel
theorem dL_law_531 : decode cL_law 531 = .ok (.iload 5, 2) := by decide +kernel
theorem dL_law_533 : decode cL_law 533 = .ok (.ifCond .ne 15, 3) := by decide +kernel
theorem dL_law_536 : decode cL_law 536 = .ok (.aload_n 3, 1) := by decide +kernel
theorem dL_law_537 : decode cL_law 537 = .ok (.iconst 0, 1) := by decide +kernel
theorem dL_law_538 : decode cL_law 538 = .ok (.laload, 1) := by decide +kernel
theorem dL_law_539 : decode cL_law 539 = .ok (.iload 6, 2) := by decide +kernel
theorem dL_law_541 : decode cL_law 541 = .ok (.i2l, 1) := by decide +kernel
theorem dL_law_542 : decode cL_law 542 = .ok (.lcmp, 1) := by decide +kernel
theorem dL_law_543 : decode cL_law 543 = .ok (.ifCond .eq 5, 3) := by decide +kernel
theorem dL_law_546 : decode cL_law 546 = .ok (.iconst 0, 1) := by decide +kernel
theorem dL_law_547 : decode cL_law 547 = .ok (.ireturn, 1) := by decide +kernel
theorem dL_law_548 : decode cL_law 548 = .ok (.goto 1497, 3) := by decide +kernel
def tab_lawC5 (L : Nat) (xs : Nat → Int32) : List (Nat × Sem) := [(495, op_al 1 496), (496, op_al 0 497), (497, op_il 4 499), (499, op_ic 1 500), (500, op_bin (fun x y => x + y) 501), (501, op_sld L xs 502), (502, op_al 3 503), (503, op_callL sp_L_die 3 2 506), (506, op_is 5 508), (508, op_al 2 509), (509, op_al 0 510), (510, op_il 4 512), (512, op_ic 1 513), (513, op_bin (fun x y => x + y) 514), (514, op_sld L xs 515), (515, op_callVN 7 sp_X5_die 2 0 518), (518, op_is 6 520), (520, op_al 2 521), (521, op_callV 7 sp_X5_thrown 1 0 524), (524, op_il 5 526), (526, op_cmp (fun x y => x = y) 531 529), (529, op_ic 0 530), (530, op_lret), (531, op_il 5 533), (533, op_if (fun x => ¬ x = 0) 548 536), (536, op_al 3 537), (537, op_ic 0 538), (538, op_lald 539), (539, op_il 6 541), (541, op_i2l 542), (542, op_lcmp 543), (543, op_if (fun x => x = 0) 548 546), (546, op_ic 0 547), (547, op_lret), (548, op_go 2045)]
set_option maxRecDepth 20000 in
theorem tok_lawC5 {L : Nat} {xs : Nat → Int32} : ∀ q ∈ tab_lawC5 L xs, LSnd L xs RL cL_law 7 15 150256 ret q.1 q.2 := by
  unfold tab_lawC5
  refine lcons (lsnd_g (snd_g (ok_aload_n dL_law_495 rfl rfl))) ?_
  refine lcons (lsnd_g (snd_g (ok_aload_n dL_law_496 rfl rfl))) ?_
  refine lcons (lsnd_g (snd_g (ok_iload dL_law_497 rfl))) ?_
  refine lcons (lsnd_g (snd_g (ok_iconst dL_law_499 rfl rfl))) ?_
  refine lcons (lsnd_g (snd_g (ok_iadd dL_law_500 rfl))) ?_
  refine lcons (ok_sld dL_law_501 rfl) ?_
  refine lcons (lsnd_g (snd_g (ok_aload_n dL_law_502 rfl rfl))) ?_
  refine lcons (ok_callL M_L_die w_423 w_424 w_42 w_425 ⟨by decide, by decide, by decide +kernel⟩ (by decide) (by decide) dL_law_503 rfl) ?_
  refine lcons (lsnd_g (snd_g (ok_istore dL_law_506 (by decide) rfl))) ?_
  refine lcons (lsnd_g (snd_g (ok_aload_n dL_law_508 rfl rfl))) ?_
  refine lcons (lsnd_g (snd_g (ok_aload_n dL_law_509 rfl rfl))) ?_
  refine lcons (lsnd_g (snd_g (ok_iload dL_law_510 rfl))) ?_
  refine lcons (lsnd_g (snd_g (ok_iconst dL_law_512 rfl rfl))) ?_
  refine lcons (lsnd_g (snd_g (ok_iadd dL_law_513 rfl))) ?_
  refine lcons (ok_sld dL_law_514 rfl) ?_
  refine lcons (lsnd_g (snd_g (ok_invokevirtualN M_X5_die (C := RX5) (T := TX5) (nf := 33) rfl w_1132 w_1133 w_1134 w_49 w_1135 ⟨rfl, by decide, by decide, by decide +kernel⟩ (by decide) (by decide) dL_law_515 rfl))) ?_
  refine lcons (lsnd_g (snd_g (ok_istore dL_law_518 (by decide) rfl))) ?_
  refine lcons (lsnd_g (snd_g (ok_aload_n dL_law_520 rfl rfl))) ?_
  refine lcons (lsnd_g (snd_g (ok_invokevirtual M_X5_thrown (C := RX5) (T := TX5) (nf := 33) rfl w_1093 w_1094 w_1095 w_49 w_1096 ⟨rfl, by decide, by decide, by decide +kernel⟩ (by decide) (by decide) dL_law_521 rfl))) ?_
  refine lcons (lsnd_g (snd_g (ok_iload dL_law_524 rfl))) ?_
  refine lcons (lsnd_g (snd_g (ok_icmp_eq dL_law_526 rfl rfl))) ?_
  refine lcons (lsnd_g (snd_g (ok_iconst dL_law_529 rfl rfl))) ?_
  refine lcons (ok_lret dL_law_530) ?_
  refine lcons (lsnd_g (snd_g (ok_iload dL_law_531 rfl))) ?_
  refine lcons (lsnd_g (snd_g (ok_if_ne dL_law_533 rfl rfl))) ?_
  refine lcons (lsnd_g (snd_g (ok_aload_n dL_law_536 rfl rfl))) ?_
  refine lcons (lsnd_g (snd_g (ok_iconst dL_law_537 rfl rfl))) ?_
  refine lcons (lsnd_g (snd_g (ok_laload dL_law_538 rfl))) ?_
  refine lcons (lsnd_g (snd_g (ok_iload dL_law_539 rfl))) ?_
  refine lcons (lsnd_g (snd_g (ok_i2l dL_law_541 rfl))) ?_
  refine lcons (lsnd_g (snd_g (ok_lcmp dL_law_542 rfl))) ?_
  refine lcons (lsnd_g (snd_g (ok_if_eq dL_law_543 rfl rfl))) ?_
  refine lcons (lsnd_g (snd_g (ok_iconst dL_law_546 rfl rfl))) ?_
  refine lcons (ok_lret dL_law_547) ?_
  refine lcons (lsnd_g (snd_g (ok_goto dL_law_548 rfl))) ?_
  exact fun _ h => nomatch h
theorem dL_law_551 : decode cL_law 551 = .ok (.aload_n 1, 1) := by decide +kernel
theorem dL_law_552 : decode cL_law 552 = .ok (.aload_n 0, 1) := by decide +kernel
theorem dL_law_553 : decode cL_law 553 = .ok (.iload 4, 2) := by decide +kernel
theorem dL_law_555 : decode cL_law 555 = .ok (.iconst 1, 1) := by decide +kernel
theorem dL_law_556 : decode cL_law 556 = .ok (.iadd, 1) := by decide +kernel
theorem dL_law_557 : decode cL_law 557 = .ok (.iaload, 1) := by decide +kernel
theorem dL_law_558 : decode cL_law 558 = .ok (.aload_n 0, 1) := by decide +kernel
theorem dL_law_559 : decode cL_law 559 = .ok (.iload 4, 2) := by decide +kernel
theorem dL_law_561 : decode cL_law 561 = .ok (.iconst 2, 1) := by decide +kernel
theorem dL_law_562 : decode cL_law 562 = .ok (.iadd, 1) := by decide +kernel
theorem dL_law_563 : decode cL_law 563 = .ok (.iaload, 1) := by decide +kernel
theorem dL_law_564 : decode cL_law 564 = .ok (.aload_n 0, 1) := by decide +kernel
theorem dL_law_565 : decode cL_law 565 = .ok (.iload 4, 2) := by decide +kernel
theorem dL_law_567 : decode cL_law 567 = .ok (.iconst 3, 1) := by decide +kernel
theorem dL_law_568 : decode cL_law 568 = .ok (.iadd, 1) := by decide +kernel
theorem dL_law_569 : decode cL_law 569 = .ok (.iaload, 1) := by decide +kernel
theorem dL_law_570 : decode cL_law 570 = .ok (.invokestatic 144, 3) := by decide +kernel
theorem dL_law_573 : decode cL_law 573 = .ok (.istore 5, 2) := by decide +kernel
theorem dL_law_575 : decode cL_law 575 = .ok (.aload_n 2, 1) := by decide +kernel
theorem dL_law_576 : decode cL_law 576 = .ok (.aload_n 0, 1) := by decide +kernel
theorem dL_law_577 : decode cL_law 577 = .ok (.iload 4, 2) := by decide +kernel
theorem dL_law_579 : decode cL_law 579 = .ok (.iconst 1, 1) := by decide +kernel
theorem dL_law_580 : decode cL_law 580 = .ok (.iadd, 1) := by decide +kernel
theorem dL_law_581 : decode cL_law 581 = .ok (.iaload, 1) := by decide +kernel
theorem dL_law_582 : decode cL_law 582 = .ok (.aload_n 0, 1) := by decide +kernel
theorem dL_law_583 : decode cL_law 583 = .ok (.iload 4, 2) := by decide +kernel
theorem dL_law_585 : decode cL_law 585 = .ok (.iconst 2, 1) := by decide +kernel
theorem dL_law_586 : decode cL_law 586 = .ok (.iadd, 1) := by decide +kernel
theorem dL_law_587 : decode cL_law 587 = .ok (.iaload, 1) := by decide +kernel
theorem dL_law_588 : decode cL_law 588 = .ok (.aload_n 0, 1) := by decide +kernel
theorem dL_law_589 : decode cL_law 589 = .ok (.iload 4, 2) := by decide +kernel
theorem dL_law_591 : decode cL_law 591 = .ok (.iconst 3, 1) := by decide +kernel
theorem dL_law_592 : decode cL_law 592 = .ok (.iadd, 1) := by decide +kernel
theorem dL_law_593 : decode cL_law 593 = .ok (.iaload, 1) := by decide +kernel
theorem dL_law_594 : decode cL_law 594 = .ok (.invokevirtual 147, 3) := by decide +kernel
theorem dL_law_597 : decode cL_law 597 = .ok (.aload_n 2, 1) := by decide +kernel
theorem dL_law_598 : decode cL_law 598 = .ok (.invokevirtual 122, 3) := by decide +kernel
theorem dL_law_601 : decode cL_law 601 = .ok (.iload 5, 2) := by decide +kernel
theorem dL_law_603 : decode cL_law 603 = .ok (.if_icmp .eq 5, 3) := by decide +kernel
theorem dL_law_606 : decode cL_law 606 = .ok (.iconst 0, 1) := by decide +kernel
theorem dL_law_607 : decode cL_law 607 = .ok (.ireturn, 1) := by decide +kernel
theorem dL_law_608 : decode cL_law 608 = .ok (.goto 1437, 3) := by decide +kernel
def tab_lawC6 (L : Nat) (xs : Nat → Int32) : List (Nat × Sem) := [(551, op_al 1 552), (552, op_al 0 553), (553, op_il 4 555), (555, op_ic 1 556), (556, op_bin (fun x y => x + y) 557), (557, op_sld L xs 558), (558, op_al 0 559), (559, op_il 4 561), (561, op_ic 2 562), (562, op_bin (fun x y => x + y) 563), (563, op_sld L xs 564), (564, op_al 0 565), (565, op_il 4 567), (567, op_ic 3 568), (568, op_bin (fun x y => x + y) 569), (569, op_sld L xs 570), (570, op_callL sp_L_dispense 4 10 573), (573, op_is 5 575), (575, op_al 2 576), (576, op_al 0 577), (577, op_il 4 579), (579, op_ic 1 580), (580, op_bin (fun x y => x + y) 581), (581, op_sld L xs 582), (582, op_al 0 583), (583, op_il 4 585), (585, op_ic 2 586), (586, op_bin (fun x y => x + y) 587), (587, op_sld L xs 588), (588, op_al 0 589), (589, op_il 4 591), (591, op_ic 3 592), (592, op_bin (fun x y => x + y) 593), (593, op_sld L xs 594), (594, op_callVN 7 sp_X5_dispense 4 0 597), (597, op_al 2 598), (598, op_callV 7 sp_X5_thrown 1 0 601), (601, op_il 5 603), (603, op_cmp (fun x y => x = y) 608 606), (606, op_ic 0 607), (607, op_lret), (608, op_go 2045)]
set_option maxRecDepth 20000 in
theorem tok_lawC6 {L : Nat} {xs : Nat → Int32} : ∀ q ∈ tab_lawC6 L xs, LSnd L xs RL cL_law 7 15 150256 ret q.1 q.2 := by
  unfold tab_lawC6
  refine lcons (lsnd_g (snd_g (ok_aload_n dL_law_551 rfl rfl))) ?_
  refine lcons (lsnd_g (snd_g (ok_aload_n dL_law_552 rfl rfl))) ?_
  refine lcons (lsnd_g (snd_g (ok_iload dL_law_553 rfl))) ?_
  refine lcons (lsnd_g (snd_g (ok_iconst dL_law_555 rfl rfl))) ?_
  refine lcons (lsnd_g (snd_g (ok_iadd dL_law_556 rfl))) ?_
  refine lcons (ok_sld dL_law_557 rfl) ?_
  refine lcons (lsnd_g (snd_g (ok_aload_n dL_law_558 rfl rfl))) ?_
  refine lcons (lsnd_g (snd_g (ok_iload dL_law_559 rfl))) ?_
  refine lcons (lsnd_g (snd_g (ok_iconst dL_law_561 rfl rfl))) ?_
  refine lcons (lsnd_g (snd_g (ok_iadd dL_law_562 rfl))) ?_
  refine lcons (ok_sld dL_law_563 rfl) ?_
  refine lcons (lsnd_g (snd_g (ok_aload_n dL_law_564 rfl rfl))) ?_
  refine lcons (lsnd_g (snd_g (ok_iload dL_law_565 rfl))) ?_
  refine lcons (lsnd_g (snd_g (ok_iconst dL_law_567 rfl rfl))) ?_
  refine lcons (lsnd_g (snd_g (ok_iadd dL_law_568 rfl))) ?_
  refine lcons (ok_sld dL_law_569 rfl) ?_
  refine lcons (ok_callL M_L_dispense w_443 w_444 w_42 w_445 ⟨by decide, by decide, by decide +kernel⟩ (by decide) (by decide) dL_law_570 rfl) ?_
  refine lcons (lsnd_g (snd_g (ok_istore dL_law_573 (by decide) rfl))) ?_
  refine lcons (lsnd_g (snd_g (ok_aload_n dL_law_575 rfl rfl))) ?_
  refine lcons (lsnd_g (snd_g (ok_aload_n dL_law_576 rfl rfl))) ?_
  refine lcons (lsnd_g (snd_g (ok_iload dL_law_577 rfl))) ?_
  refine lcons (lsnd_g (snd_g (ok_iconst dL_law_579 rfl rfl))) ?_
  refine lcons (lsnd_g (snd_g (ok_iadd dL_law_580 rfl))) ?_
  refine lcons (ok_sld dL_law_581 rfl) ?_
  refine lcons (lsnd_g (snd_g (ok_aload_n dL_law_582 rfl rfl))) ?_
  refine lcons (lsnd_g (snd_g (ok_iload dL_law_583 rfl))) ?_
  refine lcons (lsnd_g (snd_g (ok_iconst dL_law_585 rfl rfl))) ?_
  refine lcons (lsnd_g (snd_g (ok_iadd dL_law_586 rfl))) ?_
  refine lcons (ok_sld dL_law_587 rfl) ?_
  refine lcons (lsnd_g (snd_g (ok_aload_n dL_law_588 rfl rfl))) ?_
  refine lcons (lsnd_g (snd_g (ok_iload dL_law_589 rfl))) ?_
  refine lcons (lsnd_g (snd_g (ok_iconst dL_law_591 rfl rfl))) ?_
  refine lcons (lsnd_g (snd_g (ok_iadd dL_law_592 rfl))) ?_
  refine lcons (ok_sld dL_law_593 rfl) ?_
  refine lcons (lsnd_g (snd_g (ok_invokevirtualN M_X5_dispense (C := RX5) (T := TX5) (nf := 33) rfl w_1140 w_1141 w_1142 w_49 w_1143 ⟨rfl, by decide, by decide, by decide +kernel⟩ (by decide) (by decide) dL_law_594 rfl))) ?_
  refine lcons (lsnd_g (snd_g (ok_aload_n dL_law_597 rfl rfl))) ?_
  refine lcons (lsnd_g (snd_g (ok_invokevirtual M_X5_thrown (C := RX5) (T := TX5) (nf := 33) rfl w_1093 w_1094 w_1095 w_49 w_1096 ⟨rfl, by decide, by decide, by decide +kernel⟩ (by decide) (by decide) dL_law_598 rfl))) ?_
  refine lcons (lsnd_g (snd_g (ok_iload dL_law_601 rfl))) ?_
  refine lcons (lsnd_g (snd_g (ok_icmp_eq dL_law_603 rfl rfl))) ?_
  refine lcons (lsnd_g (snd_g (ok_iconst dL_law_606 rfl rfl))) ?_
  refine lcons (ok_lret dL_law_607) ?_
  refine lcons (lsnd_g (snd_g (ok_goto dL_law_608 rfl))) ?_
  exact fun _ h => nomatch h
theorem dL_law_611 : decode cL_law 611 = .ok (.aload_n 1, 1) := by decide +kernel
theorem dL_law_612 : decode cL_law 612 = .ok (.aload_n 0, 1) := by decide +kernel
theorem dL_law_613 : decode cL_law 613 = .ok (.iload 4, 2) := by decide +kernel
theorem dL_law_615 : decode cL_law 615 = .ok (.iconst 1, 1) := by decide +kernel
theorem dL_law_616 : decode cL_law 616 = .ok (.iadd, 1) := by decide +kernel
theorem dL_law_617 : decode cL_law 617 = .ok (.iaload, 1) := by decide +kernel
theorem dL_law_618 : decode cL_law 618 = .ok (.aload_n 0, 1) := by decide +kernel
theorem dL_law_619 : decode cL_law 619 = .ok (.iload 4, 2) := by decide +kernel
theorem dL_law_621 : decode cL_law 621 = .ok (.iconst 2, 1) := by decide +kernel
theorem dL_law_622 : decode cL_law 622 = .ok (.iadd, 1) := by decide +kernel
theorem dL_law_623 : decode cL_law 623 = .ok (.iaload, 1) := by decide +kernel
theorem dL_law_624 : decode cL_law 624 = .ok (.aload_n 0, 1) := by decide +kernel
theorem dL_law_625 : decode cL_law 625 = .ok (.iload 4, 2) := by decide +kernel
theorem dL_law_627 : decode cL_law 627 = .ok (.iconst 3, 1) := by decide +kernel
theorem dL_law_628 : decode cL_law 628 = .ok (.iadd, 1) := by decide +kernel
theorem dL_law_629 : decode cL_law 629 = .ok (.iaload, 1) := by decide +kernel
theorem dL_law_630 : decode cL_law 630 = .ok (.invokestatic 148, 3) := by decide +kernel
theorem dL_law_633 : decode cL_law 633 = .ok (.istore 5, 2) := by decide +kernel
theorem dL_law_635 : decode cL_law 635 = .ok (.aload_n 2, 1) := by decide +kernel
theorem dL_law_636 : decode cL_law 636 = .ok (.aload_n 0, 1) := by decide +kernel
theorem dL_law_637 : decode cL_law 637 = .ok (.iload 4, 2) := by decide +kernel
theorem dL_law_639 : decode cL_law 639 = .ok (.iconst 1, 1) := by decide +kernel
theorem dL_law_640 : decode cL_law 640 = .ok (.iadd, 1) := by decide +kernel
theorem dL_law_641 : decode cL_law 641 = .ok (.iaload, 1) := by decide +kernel
theorem dL_law_642 : decode cL_law 642 = .ok (.aload_n 0, 1) := by decide +kernel
theorem dL_law_643 : decode cL_law 643 = .ok (.iload 4, 2) := by decide +kernel
theorem dL_law_645 : decode cL_law 645 = .ok (.iconst 2, 1) := by decide +kernel
theorem dL_law_646 : decode cL_law 646 = .ok (.iadd, 1) := by decide +kernel
theorem dL_law_647 : decode cL_law 647 = .ok (.iaload, 1) := by decide +kernel
theorem dL_law_648 : decode cL_law 648 = .ok (.aload_n 0, 1) := by decide +kernel
theorem dL_law_649 : decode cL_law 649 = .ok (.iload 4, 2) := by decide +kernel
theorem dL_law_651 : decode cL_law 651 = .ok (.iconst 3, 1) := by decide +kernel
theorem dL_law_652 : decode cL_law 652 = .ok (.iadd, 1) := by decide +kernel
theorem dL_law_653 : decode cL_law 653 = .ok (.iaload, 1) := by decide +kernel
theorem dL_law_654 : decode cL_law 654 = .ok (.invokevirtual 150, 3) := by decide +kernel
theorem dL_law_657 : decode cL_law 657 = .ok (.aload_n 2, 1) := by decide +kernel
theorem dL_law_658 : decode cL_law 658 = .ok (.invokevirtual 122, 3) := by decide +kernel
theorem dL_law_661 : decode cL_law 661 = .ok (.iload 5, 2) := by decide +kernel
theorem dL_law_663 : decode cL_law 663 = .ok (.if_icmp .eq 5, 3) := by decide +kernel
theorem dL_law_666 : decode cL_law 666 = .ok (.iconst 0, 1) := by decide +kernel
theorem dL_law_667 : decode cL_law 667 = .ok (.ireturn, 1) := by decide +kernel
theorem dL_law_668 : decode cL_law 668 = .ok (.goto 1377, 3) := by decide +kernel
def tab_lawC7 (L : Nat) (xs : Nat → Int32) : List (Nat × Sem) := [(611, op_al 1 612), (612, op_al 0 613), (613, op_il 4 615), (615, op_ic 1 616), (616, op_bin (fun x y => x + y) 617), (617, op_sld L xs 618), (618, op_al 0 619), (619, op_il 4 621), (621, op_ic 2 622), (622, op_bin (fun x y => x + y) 623), (623, op_sld L xs 624), (624, op_al 0 625), (625, op_il 4 627), (627, op_ic 3 628), (628, op_bin (fun x y => x + y) 629), (629, op_sld L xs 630), (630, op_callL sp_L_faculty 4 1 633), (633, op_is 5 635), (635, op_al 2 636), (636, op_al 0 637), (637, op_il 4 639), (639, op_ic 1 640), (640, op_bin (fun x y => x + y) 641), (641, op_sld L xs 642), (642, op_al 0 643), (643, op_il 4 645), (645, op_ic 2 646), (646, op_bin (fun x y => x + y) 647), (647, op_sld L xs 648), (648, op_al 0 649), (649, op_il 4 651), (651, op_ic 3 652), (652, op_bin (fun x y => x + y) 653), (653, op_sld L xs 654), (654, op_callVN 7 sp_X5_faculty 4 0 657), (657, op_al 2 658), (658, op_callV 7 sp_X5_thrown 1 0 661), (661, op_il 5 663), (663, op_cmp (fun x y => x = y) 668 666), (666, op_ic 0 667), (667, op_lret), (668, op_go 2045)]
set_option maxRecDepth 20000 in
theorem tok_lawC7 {L : Nat} {xs : Nat → Int32} : ∀ q ∈ tab_lawC7 L xs, LSnd L xs RL cL_law 7 15 150256 ret q.1 q.2 := by
  unfold tab_lawC7
  refine lcons (lsnd_g (snd_g (ok_aload_n dL_law_611 rfl rfl))) ?_
  refine lcons (lsnd_g (snd_g (ok_aload_n dL_law_612 rfl rfl))) ?_
  refine lcons (lsnd_g (snd_g (ok_iload dL_law_613 rfl))) ?_
  refine lcons (lsnd_g (snd_g (ok_iconst dL_law_615 rfl rfl))) ?_
  refine lcons (lsnd_g (snd_g (ok_iadd dL_law_616 rfl))) ?_
  refine lcons (ok_sld dL_law_617 rfl) ?_
  refine lcons (lsnd_g (snd_g (ok_aload_n dL_law_618 rfl rfl))) ?_
  refine lcons (lsnd_g (snd_g (ok_iload dL_law_619 rfl))) ?_
  refine lcons (lsnd_g (snd_g (ok_iconst dL_law_621 rfl rfl))) ?_
  refine lcons (lsnd_g (snd_g (ok_iadd dL_law_622 rfl))) ?_
  refine lcons (ok_sld dL_law_623 rfl) ?_
  refine lcons (lsnd_g (snd_g (ok_aload_n dL_law_624 rfl rfl))) ?_
  refine lcons (lsnd_g (snd_g (ok_iload dL_law_625 rfl))) ?_
  refine lcons (lsnd_g (snd_g (ok_iconst dL_law_627 rfl rfl))) ?_
  refine lcons (lsnd_g (snd_g (ok_iadd dL_law_628 rfl))) ?_
  refine lcons (ok_sld dL_law_629 rfl) ?_
  refine lcons (ok_callL M_L_faculty w_472 w_473 w_42 w_474 ⟨by decide, by decide, by decide +kernel⟩ (by decide) (by decide) dL_law_630 rfl) ?_
  refine lcons (lsnd_g (snd_g (ok_istore dL_law_633 (by decide) rfl))) ?_
  refine lcons (lsnd_g (snd_g (ok_aload_n dL_law_635 rfl rfl))) ?_
  refine lcons (lsnd_g (snd_g (ok_aload_n dL_law_636 rfl rfl))) ?_
  refine lcons (lsnd_g (snd_g (ok_iload dL_law_637 rfl))) ?_
  refine lcons (lsnd_g (snd_g (ok_iconst dL_law_639 rfl rfl))) ?_
  refine lcons (lsnd_g (snd_g (ok_iadd dL_law_640 rfl))) ?_
  refine lcons (ok_sld dL_law_641 rfl) ?_
  refine lcons (lsnd_g (snd_g (ok_aload_n dL_law_642 rfl rfl))) ?_
  refine lcons (lsnd_g (snd_g (ok_iload dL_law_643 rfl))) ?_
  refine lcons (lsnd_g (snd_g (ok_iconst dL_law_645 rfl rfl))) ?_
  refine lcons (lsnd_g (snd_g (ok_iadd dL_law_646 rfl))) ?_
  refine lcons (ok_sld dL_law_647 rfl) ?_
  refine lcons (lsnd_g (snd_g (ok_aload_n dL_law_648 rfl rfl))) ?_
  refine lcons (lsnd_g (snd_g (ok_iload dL_law_649 rfl))) ?_
  refine lcons (lsnd_g (snd_g (ok_iconst dL_law_651 rfl rfl))) ?_
  refine lcons (lsnd_g (snd_g (ok_iadd dL_law_652 rfl))) ?_
  refine lcons (ok_sld dL_law_653 rfl) ?_
  refine lcons (lsnd_g (snd_g (ok_invokevirtualN M_X5_faculty (C := RX5) (T := TX5) (nf := 33) rfl w_1167 w_1168 w_1169 w_49 w_1170 ⟨rfl, by decide, by decide, by decide +kernel⟩ (by decide) (by decide) dL_law_654 rfl))) ?_
  refine lcons (lsnd_g (snd_g (ok_aload_n dL_law_657 rfl rfl))) ?_
  refine lcons (lsnd_g (snd_g (ok_invokevirtual M_X5_thrown (C := RX5) (T := TX5) (nf := 33) rfl w_1093 w_1094 w_1095 w_49 w_1096 ⟨rfl, by decide, by decide, by decide +kernel⟩ (by decide) (by decide) dL_law_658 rfl))) ?_
  refine lcons (lsnd_g (snd_g (ok_iload dL_law_661 rfl))) ?_
  refine lcons (lsnd_g (snd_g (ok_icmp_eq dL_law_663 rfl rfl))) ?_
  refine lcons (lsnd_g (snd_g (ok_iconst dL_law_666 rfl rfl))) ?_
  refine lcons (ok_lret dL_law_667) ?_
  refine lcons (lsnd_g (snd_g (ok_goto dL_law_668 rfl))) ?_
  exact fun _ h => nomatch h

