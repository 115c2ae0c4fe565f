/-! the law's main: its instructions -/
theorem w_124 : (.methodLink "VowCourtLaw" 185 ⟨"VowCourtLaw", "part", "([III)I"⟩ : Cond) ∈ TB := TB_mem (List.mem_of_getElem? (i := 124) (by decide +kernel)) rfl
theorem w_125 : (.static ⟨"VowCourtLaw", "part", "([III)I"⟩ : Cond) ∈ TB := TB_mem (List.mem_of_getElem? (i := 125) (by decide +kernel)) rfl
theorem w_126 : (.code yL_part cL_part 4 (some .int) : Cond) ∈ TB := TB_mem (List.mem_of_getElem? (i := 126) (by decide +kernel)) rfl
theorem w_686 : (.methodLink "VowCourtLaw" 200 ⟨"VowCourtLaw", "isSo", "(LVowCourt;[I[I[I[I[I[I[III)Z"⟩ : Cond) ∈ TB := TB_mem (List.mem_of_getElem? (i := 686) (by decide +kernel)) rfl
theorem w_687 : (.static ⟨"VowCourtLaw", "isSo", "(LVowCourt;[I[I[I[I[I[I[III)Z"⟩ : Cond) ∈ TB := TB_mem (List.mem_of_getElem? (i := 687) (by decide +kernel)) rfl
set_option maxRecDepth 100000 in
set_option maxHeartbeats 4000000 in
theorem w_688 : (.code yL_isSo cL_isSo 17 (some .boolean) : Cond) ∈ TB := TB_mem (List.mem_of_getElem? (i := 688) rfl) rfl
theorem w_910 : (.methodLink "VowCourtLaw" 189 ⟨"VowCourtLaw", "isPerson", "(LVowCourt;[I[I[I[I[I[IIII)Z"⟩ : Cond) ∈ TB := TB_mem (List.mem_of_getElem? (i := 910) (by decide +kernel)) rfl
theorem w_911 : (.static ⟨"VowCourtLaw", "isPerson", "(LVowCourt;[I[I[I[I[I[IIII)Z"⟩ : Cond) ∈ TB := TB_mem (List.mem_of_getElem? (i := 911) (by decide +kernel)) rfl
set_option maxRecDepth 100000 in
set_option maxHeartbeats 4000000 in
theorem w_912 : (.code yL_isPerson cL_isPerson 18 (some .boolean) : Cond) ∈ TB := TB_mem (List.mem_of_getElem? (i := 912) rfl) rfl
theorem w_924 : (.methodLink "VowCourtLaw" 193 ⟨"VowCourtLaw", "isVow", "(LVowCourt;[I[I[I[I[I[I[I[IIII)Z"⟩ : Cond) ∈ TB := TB_mem (List.mem_of_getElem? (i := 924) (by decide +kernel)) rfl
theorem w_925 : (.static ⟨"VowCourtLaw", "isVow", "(LVowCourt;[I[I[I[I[I[I[I[IIII)Z"⟩ : Cond) ∈ TB := TB_mem (List.mem_of_getElem? (i := 925) (by decide +kernel)) rfl
set_option maxRecDepth 100000 in
set_option maxHeartbeats 4000000 in
theorem w_926 : (.code yL_isVow cL_isVow 23 (some .boolean) : Cond) ∈ TB := TB_mem (List.mem_of_getElem? (i := 926) rfl) rfl
theorem w_930 : (.methodLink "VowCourtLaw" 197 ⟨"VowCourtLaw", "isCause", "(LVowCourt;[I[I[I[I[I[I[I[IIII)Z"⟩ : Cond) ∈ TB := TB_mem (List.mem_of_getElem? (i := 930) (by decide +kernel)) rfl
theorem w_931 : (.static ⟨"VowCourtLaw", "isCause", "(LVowCourt;[I[I[I[I[I[I[I[IIII)Z"⟩ : Cond) ∈ TB := TB_mem (List.mem_of_getElem? (i := 931) (by decide +kernel)) rfl
set_option maxRecDepth 100000 in
set_option maxHeartbeats 4000000 in
theorem w_932 : (.code yL_isCause cL_isCause 22 (some .boolean) : Cond) ∈ TB := TB_mem (List.mem_of_getElem? (i := 932) rfl) rfl
theorem w_946 : (.constant "VowCourtLaw" 188 (60000) : Cond) ∈ TB := TB_mem (List.mem_of_getElem? (i := 946) (by decide +kernel)) rfl
theorem dL_law_71 : decode cL_law 71 = .ok (.iconst 0, 1) := by decide +kernel
theorem dL_law_72 : decode cL_law 72 = .ok (.istore 13, 2) := by decide +kernel
theorem dL_law_74 : decode cL_law 74 = .ok (.iload 13, 2) := by decide +kernel
theorem dL_law_76 : decode cL_law 76 = .ok (.bipush 16, 2) := by decide +kernel
theorem dL_law_78 : decode cL_law 78 = .ok (.if_icmp .ge 17, 3) := by decide +kernel
theorem dL_law_81 : decode cL_law 81 = .ok (.aload_n 3, 1) := by decide +kernel
theorem dL_law_82 : decode cL_law 82 = .ok (.bipush 16, 2) := by decide +kernel
theorem dL_law_84 : decode cL_law 84 = .ok (.iload 13, 2) := by decide +kernel
theorem dL_law_86 : decode cL_law 86 = .ok (.iadd, 1) := by decide +kernel
theorem dL_law_87 : decode cL_law 87 = .ok (.iconst (-1), 1) := by decide +kernel
theorem dL_law_88 : decode cL_law 88 = .ok (.iastore, 1) := by decide +kernel
theorem dL_law_89 : decode cL_law 89 = .ok (.iinc 13 1, 3) := by decide +kernel
theorem dL_law_92 : decode cL_law 92 = .ok (.goto (-18), 3) := by decide +kernel
theorem dL_law_95 : decode cL_law 95 = .ok (.aload_n 1, 1) := by decide +kernel
theorem dL_law_96 : decode cL_law 96 = .ok (.iconst 0, 1) := by decide +kernel
theorem dL_law_97 : decode cL_law 97 = .ok (.iconst 0, 1) := by decide +kernel
theorem dL_law_98 : decode cL_law 98 = .ok (.iconst 0, 1) := by decide +kernel
theorem dL_law_99 : decode cL_law 99 = .ok (.iconst (-1), 1) := by decide +kernel
theorem dL_law_100 : decode cL_law 100 = .ok (.iconst 0, 1) := by decide +kernel
theorem dL_law_101 : decode cL_law 101 = .ok (.invokestatic 150, 3) := by decide +kernel
theorem dL_law_104 : decode cL_law 104 = .ok (.ldc 94, 2) := by decide +kernel
theorem dL_law_106 : decode cL_law 106 = .ok (.if_icmp .ne 83, 3) := by decide +kernel
theorem dL_law_109 : decode cL_law 109 = .ok (.aload_n 1, 1) := by decide +kernel
theorem dL_law_110 : decode cL_law 110 = .ok (.iconst 0, 1) := by decide +kernel
theorem dL_law_111 : decode cL_law 111 = .ok (.ldc 155, 2) := by decide +kernel
theorem dL_law_113 : decode cL_law 113 = .ok (.iconst (-1), 1) := by decide +kernel
theorem dL_law_114 : decode cL_law 114 = .ok (.iconst (-1), 1) := by decide +kernel
theorem dL_law_115 : decode cL_law 115 = .ok (.iconst 0, 1) := by decide +kernel
theorem dL_law_116 : decode cL_law 116 = .ok (.invokestatic 150, 3) := by decide +kernel
theorem dL_law_119 : decode cL_law 119 = .ok (.ldc 97, 2) := by decide +kernel
theorem dL_law_121 : decode cL_law 121 = .ok (.if_icmp .ne 68, 3) := by decide +kernel
theorem dL_law_124 : decode cL_law 124 = .ok (.aload_n 1, 1) := by decide +kernel
theorem dL_law_125 : decode cL_law 125 = .ok (.bipush 20, 2) := by decide +kernel
theorem dL_law_127 : decode cL_law 127 = .ok (.iconst 0, 1) := by decide +kernel
theorem dL_law_128 : decode cL_law 128 = .ok (.iconst 0, 1) := by decide +kernel
theorem dL_law_129 : decode cL_law 129 = .ok (.iconst 0, 1) := by decide +kernel
theorem dL_law_130 : decode cL_law 130 = .ok (.iconst 0, 1) := by decide +kernel
theorem dL_law_131 : decode cL_law 131 = .ok (.invokestatic 150, 3) := by decide +kernel
theorem dL_law_134 : decode cL_law 134 = .ok (.ldc 97, 2) := by decide +kernel
theorem dL_law_136 : decode cL_law 136 = .ok (.if_icmp .ne 53, 3) := by decide +kernel
theorem dL_law_139 : decode cL_law 139 = .ok (.aload_n 1, 1) := by decide +kernel
theorem dL_law_140 : decode cL_law 140 = .ok (.bipush 8, 2) := by decide +kernel
theorem dL_law_142 : decode cL_law 142 = .ok (.iconst (-1), 1) := by decide +kernel
theorem dL_law_143 : decode cL_law 143 = .ok (.iconst 0, 1) := by decide +kernel
theorem dL_law_144 : decode cL_law 144 = .ok (.iconst 0, 1) := by decide +kernel
theorem dL_law_145 : decode cL_law 145 = .ok (.iconst 0, 1) := by decide +kernel
theorem dL_law_146 : decode cL_law 146 = .ok (.invokestatic 150, 3) := by decide +kernel
theorem dL_law_149 : decode cL_law 149 = .ok (.ldc 97, 2) := by decide +kernel
theorem dL_law_151 : decode cL_law 151 = .ok (.if_icmp .ne 38, 3) := by decide +kernel
theorem dL_law_154 : decode cL_law 154 = .ok (.aload_n 1, 1) := by decide +kernel
theorem dL_law_155 : decode cL_law 155 = .ok (.bipush 23, 2) := by decide +kernel
theorem dL_law_157 : decode cL_law 157 = .ok (.iconst 0, 1) := by decide +kernel
theorem dL_law_158 : decode cL_law 158 = .ok (.iconst 0, 1) := by decide +kernel
theorem dL_law_159 : decode cL_law 159 = .ok (.iconst 0, 1) := by decide +kernel
theorem dL_law_160 : decode cL_law 160 = .ok (.iconst 0, 1) := by decide +kernel
theorem dL_law_161 : decode cL_law 161 = .ok (.invokestatic 150, 3) := by decide +kernel
theorem dL_law_164 : decode cL_law 164 = .ok (.ldc 94, 2) := by decide +kernel
theorem dL_law_166 : decode cL_law 166 = .ok (.if_icmp .ne 23, 3) := by decide +kernel
theorem dL_law_169 : decode cL_law 169 = .ok (.aload_n 1, 1) := by decide +kernel
theorem dL_law_170 : decode cL_law 170 = .ok (.bipush 21, 2) := by decide +kernel
theorem dL_law_172 : decode cL_law 172 = .ok (.iconst 0, 1) := by decide +kernel
theorem dL_law_173 : decode cL_law 173 = .ok (.bipush 9, 2) := by decide +kernel
theorem dL_law_175 : decode cL_law 175 = .ok (.iconst 0, 1) := by decide +kernel
theorem dL_law_176 : decode cL_law 176 = .ok (.iconst 0, 1) := by decide +kernel
theorem dL_law_177 : decode cL_law 177 = .ok (.invokestatic 150, 3) := by decide +kernel
theorem dL_law_180 : decode cL_law 180 = .ok (.ldc 94, 2) := by decide +kernel
theorem dL_law_182 : decode cL_law 182 = .ok (.if_icmp .ne 7, 3) := by decide +kernel
theorem dL_law_185 : decode cL_law 185 = .ok (.iconst 1, 1) := by decide +kernel
theorem dL_law_186 : decode cL_law 186 = .ok (.goto 4, 3) := by decide +kernel
theorem dL_law_189 : decode cL_law 189 = .ok (.iconst 0, 1) := by decide +kernel
theorem dL_law_190 : decode cL_law 190 = .ok (.istore 13, 2) := by decide +kernel
theorem dL_law_192 : decode cL_law 192 = .ok (.iconst 0, 1) := by decide +kernel
theorem dL_law_193 : decode cL_law 193 = .ok (.istore 14, 2) := by decide +kernel
theorem dL_law_195 : decode cL_law 195 = .ok (.iload 14, 2) := by decide +kernel
theorem dL_law_197 : decode cL_law 197 = .ok (.bipush 64, 2) := by decide +kernel
theorem dL_law_199 : decode cL_law 199 = .ok (.if_icmp .ge 502, 3) := by decide +kernel
theorem dL_law_202 : decode cL_law 202 = .ok (.iload 13, 2) := by decide +kernel
theorem dL_law_204 : decode cL_law 204 = .ok (.ifCond .eq 497, 3) := by decide +kernel
theorem dL_law_207 : decode cL_law 207 = .ok (.iload 14, 2) := by decide +kernel
theorem dL_law_209 : decode cL_law 209 = .ok (.bipush 8, 2) := by decide +kernel
theorem dL_law_211 : decode cL_law 211 = .ok (.if_icmp .ge 7, 3) := by decide +kernel
theorem dL_law_214 : decode cL_law 214 = .ok (.iconst 0, 1) := by decide +kernel
theorem dL_law_215 : decode cL_law 215 = .ok (.goto 37, 3) := by decide +kernel
theorem dL_law_218 : decode cL_law 218 = .ok (.iload 14, 2) := by decide +kernel
theorem dL_law_220 : decode cL_law 220 = .ok (.bipush 11, 2) := by decide +kernel
theorem dL_law_222 : decode cL_law 222 = .ok (.if_icmp .ge 8, 3) := by decide +kernel
theorem dL_law_225 : decode cL_law 225 = .ok (.bipush 12, 2) := by decide +kernel
theorem dL_law_227 : decode cL_law 227 = .ok (.goto 25, 3) := by decide +kernel
theorem dL_law_230 : decode cL_law 230 = .ok (.iload 14, 2) := by decide +kernel
theorem dL_law_232 : decode cL_law 232 = .ok (.bipush 12, 2) := by decide +kernel
theorem dL_law_234 : decode cL_law 234 = .ok (.if_icmp .ge 8, 3) := by decide +kernel
theorem dL_law_237 : decode cL_law 237 = .ok (.bipush 22, 2) := by decide +kernel
theorem dL_law_239 : decode cL_law 239 = .ok (.goto 13, 3) := by decide +kernel
theorem dL_law_242 : decode cL_law 242 = .ok (.aload_n 0, 1) := by decide +kernel
theorem dL_law_243 : decode cL_law 243 = .ok (.iconst 3, 1) := by decide +kernel
theorem dL_law_244 : decode cL_law 244 = .ok (.iload 14, 2) := by decide +kernel
theorem dL_law_246 : decode cL_law 246 = .ok (.imul, 1) := by decide +kernel
theorem dL_law_247 : decode cL_law 247 = .ok (.bipush 48, 2) := by decide +kernel
theorem dL_law_249 : decode cL_law 249 = .ok (.invokestatic 185, 3) := by decide +kernel
theorem dL_law_252 : decode cL_law 252 = .ok (.istore 15, 2) := by decide +kernel
theorem dL_law_254 : decode cL_law 254 = .ok (.aload_n 0, 1) := by decide +kernel
theorem dL_law_255 : decode cL_law 255 = .ok (.iconst 3, 1) := by decide +kernel
theorem dL_law_256 : decode cL_law 256 = .ok (.iload 14, 2) := by decide +kernel
theorem dL_law_258 : decode cL_law 258 = .ok (.imul, 1) := by decide +kernel
theorem dL_law_259 : decode cL_law 259 = .ok (.iconst 1, 1) := by decide +kernel
theorem dL_law_260 : decode cL_law 260 = .ok (.iadd, 1) := by decide +kernel
theorem dL_law_261 : decode cL_law 261 = .ok (.ldc 188, 2) := by decide +kernel
theorem dL_law_263 : decode cL_law 263 = .ok (.invokestatic 185, 3) := by decide +kernel
theorem dL_law_266 : decode cL_law 266 = .ok (.istore 16, 2) := by decide +kernel
theorem dL_law_268 : decode cL_law 268 = .ok (.aload_n 0, 1) := by decide +kernel
theorem dL_law_269 : decode cL_law 269 = .ok (.iconst 3, 1) := by decide +kernel
theorem dL_law_270 : decode cL_law 270 = .ok (.iload 14, 2) := by decide +kernel
theorem dL_law_272 : decode cL_law 272 = .ok (.imul, 1) := by decide +kernel
theorem dL_law_273 : decode cL_law 273 = .ok (.iconst 2, 1) := by decide +kernel
theorem dL_law_274 : decode cL_law 274 = .ok (.iadd, 1) := by decide +kernel
theorem dL_law_275 : decode cL_law 275 = .ok (.ldc 188, 2) := by decide +kernel
theorem dL_law_277 : decode cL_law 277 = .ok (.invokestatic 185, 3) := by decide +kernel
theorem dL_law_280 : decode cL_law 280 = .ok (.istore 17, 2) := by decide +kernel
theorem dL_law_282 : decode cL_law 282 = .ok (.iload 15, 2) := by decide +kernel
theorem dL_law_284 : decode cL_law 284 = .ok (.bipush 9, 2) := by decide +kernel
theorem dL_law_286 : decode cL_law 286 = .ok (.if_icmp .ge 78, 3) := by decide +kernel
theorem dL_law_289 : decode cL_law 289 = .ok (.aload_n 1, 1) := by decide +kernel
theorem dL_law_290 : decode cL_law 290 = .ok (.aload_n 2, 1) := by decide +kernel
theorem dL_law_291 : decode cL_law 291 = .ok (.aload_n 3, 1) := by decide +kernel
theorem dL_law_292 : decode cL_law 292 = .ok (.aload 5, 2) := by decide +kernel
theorem dL_law_294 : decode cL_law 294 = .ok (.aload 6, 2) := by decide +kernel
theorem dL_law_296 : decode cL_law 296 = .ok (.aload 7, 2) := by decide +kernel
theorem dL_law_298 : decode cL_law 298 = .ok (.aload 12, 2) := by decide +kernel
theorem dL_law_300 : decode cL_law 300 = .ok (.iload 15, 2) := by decide +kernel
theorem dL_law_302 : decode cL_law 302 = .ok (.iconst 3, 1) := by decide +kernel
theorem dL_law_303 : decode cL_law 303 = .ok (.if_icmp .ge 7, 3) := by decide +kernel
theorem dL_law_306 : decode cL_law 306 = .ok (.iconst 0, 1) := by decide +kernel
theorem dL_law_307 : decode cL_law 307 = .ok (.goto 45, 3) := by decide +kernel
theorem dL_law_310 : decode cL_law 310 = .ok (.iload 15, 2) := by decide +kernel
theorem dL_law_312 : decode cL_law 312 = .ok (.iconst 3, 1) := by decide +kernel
theorem dL_law_313 : decode cL_law 313 = .ok (.if_icmp .ne 7, 3) := by decide +kernel
theorem dL_law_316 : decode cL_law 316 = .ok (.iconst 1, 1) := by decide +kernel
theorem dL_law_317 : decode cL_law 317 = .ok (.goto 35, 3) := by decide +kernel
theorem dL_law_320 : decode cL_law 320 = .ok (.iload 15, 2) := by decide +kernel
theorem dL_law_322 : decode cL_law 322 = .ok (.iconst 4, 1) := by decide +kernel
theorem dL_law_323 : decode cL_law 323 = .ok (.if_icmp .ne 7, 3) := by decide +kernel
theorem dL_law_326 : decode cL_law 326 = .ok (.iconst 2, 1) := by decide +kernel
theorem dL_law_327 : decode cL_law 327 = .ok (.goto 25, 3) := by decide +kernel
theorem dL_law_330 : decode cL_law 330 = .ok (.iload 15, 2) := by decide +kernel
theorem dL_law_332 : decode cL_law 332 = .ok (.iconst 5, 1) := by decide +kernel
theorem dL_law_333 : decode cL_law 333 = .ok (.if_icmp .ne 7, 3) := by decide +kernel
theorem dL_law_336 : decode cL_law 336 = .ok (.iconst 3, 1) := by decide +kernel
theorem dL_law_337 : decode cL_law 337 = .ok (.goto 15, 3) := by decide +kernel
theorem dL_law_340 : decode cL_law 340 = .ok (.iload 15, 2) := by decide +kernel
theorem dL_law_342 : decode cL_law 342 = .ok (.bipush 6, 2) := by decide +kernel
theorem dL_law_344 : decode cL_law 344 = .ok (.if_icmp .ne 7, 3) := by decide +kernel
theorem dL_law_347 : decode cL_law 347 = .ok (.iconst 4, 1) := by decide +kernel
theorem dL_law_348 : decode cL_law 348 = .ok (.goto 4, 3) := by decide +kernel
theorem dL_law_351 : decode cL_law 351 = .ok (.iconst 5, 1) := by decide +kernel
theorem dL_law_352 : decode cL_law 352 = .ok (.iload 16, 2) := by decide +kernel
theorem dL_law_354 : decode cL_law 354 = .ok (.iload 17, 2) := by decide +kernel
theorem dL_law_356 : decode cL_law 356 = .ok (.invokestatic 189, 3) := by decide +kernel
theorem dL_law_359 : decode cL_law 359 = .ok (.istore 13, 2) := by decide +kernel
theorem dL_law_361 : decode cL_law 361 = .ok (.goto 298, 3) := by decide +kernel
theorem dL_law_364 : decode cL_law 364 = .ok (.iload 15, 2) := by decide +kernel
theorem dL_law_366 : decode cL_law 366 = .ok (.bipush 20, 2) := by decide +kernel
theorem dL_law_368 : decode cL_law 368 = .ok (.if_icmp .ge 86, 3) := by decide +kernel
theorem dL_law_371 : decode cL_law 371 = .ok (.aload_n 1, 1) := by decide +kernel
theorem dL_law_372 : decode cL_law 372 = .ok (.aload_n 2, 1) := by decide +kernel
theorem dL_law_373 : decode cL_law 373 = .ok (.aload_n 3, 1) := by decide +kernel
theorem dL_law_374 : decode cL_law 374 = .ok (.aload 4, 2) := by decide +kernel
theorem dL_law_376 : decode cL_law 376 = .ok (.aload 5, 2) := by decide +kernel
theorem dL_law_378 : decode cL_law 378 = .ok (.aload 6, 2) := by decide +kernel
theorem dL_law_380 : decode cL_law 380 = .ok (.aload 7, 2) := by decide +kernel
theorem dL_law_382 : decode cL_law 382 = .ok (.aload 8, 2) := by decide +kernel
theorem dL_law_384 : decode cL_law 384 = .ok (.aload 12, 2) := by decide +kernel
theorem dL_law_386 : decode cL_law 386 = .ok (.iload 15, 2) := by decide +kernel
theorem dL_law_388 : decode cL_law 388 = .ok (.bipush 9, 2) := by decide +kernel
theorem dL_law_390 : decode cL_law 390 = .ok (.if_icmp .ne 7, 3) := by decide +kernel
theorem dL_law_393 : decode cL_law 393 = .ok (.iconst 0, 1) := by decide +kernel
theorem dL_law_394 : decode cL_law 394 = .ok (.goto 48, 3) := by decide +kernel
theorem dL_law_397 : decode cL_law 397 = .ok (.iload 15, 2) := by decide +kernel
theorem dL_law_399 : decode cL_law 399 = .ok (.bipush 10, 2) := by decide +kernel
theorem dL_law_401 : decode cL_law 401 = .ok (.if_icmp .ne 7, 3) := by decide +kernel
theorem dL_law_404 : decode cL_law 404 = .ok (.iconst 1, 1) := by decide +kernel
theorem dL_law_405 : decode cL_law 405 = .ok (.goto 37, 3) := by decide +kernel
theorem dL_law_408 : decode cL_law 408 = .ok (.iload 15, 2) := by decide +kernel
theorem dL_law_410 : decode cL_law 410 = .ok (.bipush 16, 2) := by decide +kernel
theorem dL_law_412 : decode cL_law 412 = .ok (.if_icmp .ge 7, 3) := by decide +kernel
theorem dL_law_415 : decode cL_law 415 = .ok (.iconst 2, 1) := by decide +kernel
theorem dL_law_416 : decode cL_law 416 = .ok (.goto 26, 3) := by decide +kernel
theorem dL_law_419 : decode cL_law 419 = .ok (.iload 15, 2) := by decide +kernel
theorem dL_law_421 : decode cL_law 421 = .ok (.bipush 18, 2) := by decide +kernel
theorem dL_law_423 : decode cL_law 423 = .ok (.if_icmp .ge 7, 3) := by decide +kernel
theorem dL_law_426 : decode cL_law 426 = .ok (.iconst 3, 1) := by decide +kernel
theorem dL_law_427 : decode cL_law 427 = .ok (.goto 15, 3) := by decide +kernel
theorem dL_law_430 : decode cL_law 430 = .ok (.iload 15, 2) := by decide +kernel
theorem dL_law_432 : decode cL_law 432 = .ok (.bipush 18, 2) := by decide +kernel
theorem dL_law_434 : decode cL_law 434 = .ok (.if_icmp .ne 7, 3) := by decide +kernel
theorem dL_law_437 : decode cL_law 437 = .ok (.iconst 4, 1) := by decide +kernel
theorem dL_law_438 : decode cL_law 438 = .ok (.goto 4, 3) := by decide +kernel
theorem dL_law_441 : decode cL_law 441 = .ok (.iconst 5, 1) := by decide +kernel
theorem dL_law_442 : decode cL_law 442 = .ok (.iload 16, 2) := by decide +kernel
theorem dL_law_444 : decode cL_law 444 = .ok (.iload 17, 2) := by decide +kernel
theorem dL_law_446 : decode cL_law 446 = .ok (.invokestatic 193, 3) := by decide +kernel
theorem dL_law_449 : decode cL_law 449 = .ok (.istore 13, 2) := by decide +kernel
theorem dL_law_451 : decode cL_law 451 = .ok (.goto 208, 3) := by decide +kernel
theorem dL_law_454 : decode cL_law 454 = .ok (.iload 15, 2) := by decide +kernel
theorem dL_law_456 : decode cL_law 456 = .ok (.bipush 45, 2) := by decide +kernel
theorem dL_law_458 : decode cL_law 458 = .ok (.if_icmp .ge 99, 3) := by decide +kernel
theorem dL_law_461 : decode cL_law 461 = .ok (.aload_n 1, 1) := by decide +kernel
theorem dL_law_462 : decode cL_law 462 = .ok (.aload_n 2, 1) := by decide +kernel
theorem dL_law_463 : decode cL_law 463 = .ok (.aload 6, 2) := by decide +kernel
theorem dL_law_465 : decode cL_law 465 = .ok (.aload 7, 2) := by decide +kernel
theorem dL_law_467 : decode cL_law 467 = .ok (.aload 8, 2) := by decide +kernel
theorem dL_law_469 : decode cL_law 469 = .ok (.aload 9, 2) := by decide +kernel
theorem dL_law_471 : decode cL_law 471 = .ok (.aload 10, 2) := by decide +kernel
theorem dL_law_473 : decode cL_law 473 = .ok (.aload 11, 2) := by decide +kernel
theorem dL_law_475 : decode cL_law 475 = .ok (.aload 12, 2) := by decide +kernel
theorem dL_law_477 : decode cL_law 477 = .ok (.iload 15, 2) := by decide +kernel
theorem dL_law_479 : decode cL_law 479 = .ok (.bipush 24, 2) := by decide +kernel
theorem dL_law_481 : decode cL_law 481 = .ok (.if_icmp .ge 7, 3) := by decide +kernel
theorem dL_law_484 : decode cL_law 484 = .ok (.iconst 0, 1) := by decide +kernel
theorem dL_law_485 : decode cL_law 485 = .ok (.goto 60, 3) := by decide +kernel
theorem dL_law_488 : decode cL_law 488 = .ok (.iload 15, 2) := by decide +kernel
theorem dL_law_490 : decode cL_law 490 = .ok (.bipush 24, 2) := by decide +kernel
theorem dL_law_492 : decode cL_law 492 = .ok (.if_icmp .ne 7, 3) := by decide +kernel
theorem dL_law_495 : decode cL_law 495 = .ok (.iconst 1, 1) := by decide +kernel
theorem dL_law_496 : decode cL_law 496 = .ok (.goto 49, 3) := by decide +kernel
theorem dL_law_499 : decode cL_law 499 = .ok (.iload 15, 2) := by decide +kernel
theorem dL_law_501 : decode cL_law 501 = .ok (.bipush 31, 2) := by decide +kernel
theorem dL_law_503 : decode cL_law 503 = .ok (.if_icmp .ge 7, 3) := by decide +kernel
theorem dL_law_506 : decode cL_law 506 = .ok (.iconst 2, 1) := by decide +kernel
theorem dL_law_507 : decode cL_law 507 = .ok (.goto 38, 3) := by decide +kernel
theorem dL_law_510 : decode cL_law 510 = .ok (.iload 15, 2) := by decide +kernel
theorem dL_law_512 : decode cL_law 512 = .ok (.bipush 34, 2) := by decide +kernel
theorem dL_law_514 : decode cL_law 514 = .ok (.if_icmp .ge 7, 3) := by decide +kernel
theorem dL_law_517 : decode cL_law 517 = .ok (.iconst 3, 1) := by decide +kernel
theorem dL_law_518 : decode cL_law 518 = .ok (.goto 27, 3) := by decide +kernel
theorem dL_law_521 : decode cL_law 521 = .ok (.iload 15, 2) := by decide +kernel
theorem dL_law_523 : decode cL_law 523 = .ok (.bipush 41, 2) := by decide +kernel
theorem dL_law_525 : decode cL_law 525 = .ok (.if_icmp .ge 7, 3) := by decide +kernel
theorem dL_law_528 : decode cL_law 528 = .ok (.iconst 4, 1) := by decide +kernel
theorem dL_law_529 : decode cL_law 529 = .ok (.goto 16, 3) := by decide +kernel
theorem dL_law_532 : decode cL_law 532 = .ok (.iload 15, 2) := by decide +kernel
theorem dL_law_534 : decode cL_law 534 = .ok (.bipush 44, 2) := by decide +kernel
theorem dL_law_536 : decode cL_law 536 = .ok (.if_icmp .ge 7, 3) := by decide +kernel
theorem dL_law_539 : decode cL_law 539 = .ok (.iconst 5, 1) := by decide +kernel
theorem dL_law_540 : decode cL_law 540 = .ok (.goto 5, 3) := by decide +kernel
theorem dL_law_543 : decode cL_law 543 = .ok (.bipush 6, 2) := by decide +kernel
theorem dL_law_545 : decode cL_law 545 = .ok (.iload 16, 2) := by decide +kernel
theorem dL_law_547 : decode cL_law 547 = .ok (.iload 17, 2) := by decide +kernel
theorem dL_law_549 : decode cL_law 549 = .ok (.invokestatic 197, 3) := by decide +kernel
theorem dL_law_552 : decode cL_law 552 = .ok (.istore 13, 2) := by decide +kernel
theorem dL_law_554 : decode cL_law 554 = .ok (.goto 105, 3) := by decide +kernel
theorem dL_law_557 : decode cL_law 557 = .ok (.iload 16, 2) := by decide +kernel
theorem dL_law_559 : decode cL_law 559 = .ok (.bipush 9, 2) := by decide +kernel
theorem dL_law_561 : decode cL_law 561 = .ok (.irem, 1) := by decide +kernel
theorem dL_law_562 : decode cL_law 562 = .ok (.ifCond .ne 14, 3) := by decide +kernel
theorem dL_law_565 : decode cL_law 565 = .ok (.iload 17, 2) := by decide +kernel
theorem dL_law_567 : decode cL_law 567 = .ok (.iconst 3, 1) := by decide +kernel
theorem dL_law_568 : decode cL_law 568 = .ok (.irem, 1) := by decide +kernel
theorem dL_law_569 : decode cL_law 569 = .ok (.sipush 5001, 3) := by decide +kernel
theorem dL_law_572 : decode cL_law 572 = .ok (.imul, 1) := by decide +kernel
theorem dL_law_573 : decode cL_law 573 = .ok (.goto 11, 3) := by decide +kernel
theorem dL_law_576 : decode cL_law 576 = .ok (.iconst 1, 1) := by decide +kernel
theorem dL_law_577 : decode cL_law 577 = .ok (.iload 17, 2) := by decide +kernel
theorem dL_law_579 : decode cL_law 579 = .ok (.sipush 300, 3) := by decide +kernel
theorem dL_law_582 : decode cL_law 582 = .ok (.irem, 1) := by decide +kernel
theorem dL_law_583 : decode cL_law 583 = .ok (.iadd, 1) := by decide +kernel
theorem dL_law_584 : decode cL_law 584 = .ok (.istore 18, 2) := by decide +kernel
theorem dL_law_586 : decode cL_law 586 = .ok (.iload 18, 2) := by decide +kernel
theorem dL_law_588 : decode cL_law 588 = .ok (.ifCond .le 15, 3) := by decide +kernel
theorem dL_law_591 : decode cL_law 591 = .ok (.iload 18, 2) := by decide +kernel
theorem dL_law_593 : decode cL_law 593 = .ok (.sipush 10001, 3) := by decide +kernel
theorem dL_law_596 : decode cL_law 596 = .ok (.if_icmp .ge 7, 3) := by decide +kernel
theorem dL_law_599 : decode cL_law 599 = .ok (.iconst 1, 1) := by decide +kernel
theorem dL_law_600 : decode cL_law 600 = .ok (.goto 4, 3) := by decide +kernel
theorem dL_law_603 : decode cL_law 603 = .ok (.iconst 0, 1) := by decide +kernel
theorem dL_law_604 : decode cL_law 604 = .ok (.istore 19, 2) := by decide +kernel
theorem dL_law_606 : decode cL_law 606 = .ok (.aload 12, 2) := by decide +kernel
theorem dL_law_608 : decode cL_law 608 = .ok (.iconst 0, 1) := by decide +kernel
theorem dL_law_609 : decode cL_law 609 = .ok (.dup2, 1) := by decide +kernel
theorem dL_law_610 : decode cL_law 610 = .ok (.iaload, 1) := by decide +kernel
theorem dL_law_611 : decode cL_law 611 = .ok (.iload 19, 2) := by decide +kernel
theorem dL_law_613 : decode cL_law 613 = .ok (.ifCond .eq 8, 3) := by decide +kernel
theorem dL_law_616 : decode cL_law 616 = .ok (.iload 18, 2) := by decide +kernel
theorem dL_law_618 : decode cL_law 618 = .ok (.goto 4, 3) := by decide +kernel
theorem dL_law_621 : decode cL_law 621 = .ok (.iconst 0, 1) := by decide +kernel
theorem dL_law_622 : decode cL_law 622 = .ok (.iadd, 1) := by decide +kernel
theorem dL_law_623 : decode cL_law 623 = .ok (.iastore, 1) := by decide +kernel
theorem dL_law_624 : decode cL_law 624 = .ok (.aload_n 1, 1) := by decide +kernel
theorem dL_law_625 : decode cL_law 625 = .ok (.bipush 20, 2) := by decide +kernel
theorem dL_law_627 : decode cL_law 627 = .ok (.iload 18, 2) := by decide +kernel
theorem dL_law_629 : decode cL_law 629 = .ok (.iconst 0, 1) := by decide +kernel
theorem dL_law_630 : decode cL_law 630 = .ok (.iconst 0, 1) := by decide +kernel
theorem dL_law_631 : decode cL_law 631 = .ok (.iconst 0, 1) := by decide +kernel
theorem dL_law_632 : decode cL_law 632 = .ok (.invokestatic 150, 3) := by decide +kernel
theorem dL_law_635 : decode cL_law 635 = .ok (.iload 19, 2) := by decide +kernel
theorem dL_law_637 : decode cL_law 637 = .ok (.ifCond .eq 10, 3) := by decide +kernel
theorem dL_law_640 : decode cL_law 640 = .ok (.aload 12, 2) := by decide +kernel
theorem dL_law_642 : decode cL_law 642 = .ok (.iconst 0, 1) := by decide +kernel
theorem dL_law_643 : decode cL_law 643 = .ok (.iaload, 1) := by decide +kernel
theorem dL_law_644 : decode cL_law 644 = .ok (.goto 5, 3) := by decide +kernel
theorem dL_law_647 : decode cL_law 647 = .ok (.ldc 97, 2) := by decide +kernel
theorem dL_law_649 : decode cL_law 649 = .ok (.if_icmp .ne 7, 3) := by decide +kernel
theorem dL_law_652 : decode cL_law 652 = .ok (.iconst 1, 1) := by decide +kernel
theorem dL_law_653 : decode cL_law 653 = .ok (.goto 4, 3) := by decide +kernel
theorem dL_law_656 : decode cL_law 656 = .ok (.iconst 0, 1) := by decide +kernel
theorem dL_law_657 : decode cL_law 657 = .ok (.istore 13, 2) := by decide +kernel
theorem dL_law_659 : decode cL_law 659 = .ok (.iload 13, 2) := by decide +kernel
theorem dL_law_661 : decode cL_law 661 = .ok (.ifCond .eq 31, 3) := by decide +kernel
theorem dL_law_664 : decode cL_law 664 = .ok (.aload_n 1, 1) := by decide +kernel
theorem dL_law_665 : decode cL_law 665 = .ok (.aload_n 2, 1) := by decide +kernel
theorem dL_law_666 : decode cL_law 666 = .ok (.aload 6, 2) := by decide +kernel
theorem dL_law_668 : decode cL_law 668 = .ok (.aload 7, 2) := by decide +kernel
theorem dL_law_670 : decode cL_law 670 = .ok (.aload 8, 2) := by decide +kernel
theorem dL_law_672 : decode cL_law 672 = .ok (.aload 10, 2) := by decide +kernel
theorem dL_law_674 : decode cL_law 674 = .ok (.aload 11, 2) := by decide +kernel
theorem dL_law_676 : decode cL_law 676 = .ok (.aload 12, 2) := by decide +kernel
theorem dL_law_678 : decode cL_law 678 = .ok (.iload 16, 2) := by decide +kernel
theorem dL_law_680 : decode cL_law 680 = .ok (.iload 17, 2) := by decide +kernel
theorem dL_law_682 : decode cL_law 682 = .ok (.invokestatic 200, 3) := by decide +kernel
theorem dL_law_685 : decode cL_law 685 = .ok (.ifCond .eq 7, 3) := by decide +kernel
theorem dL_law_688 : decode cL_law 688 = .ok (.iconst 1, 1) := by decide +kernel
theorem dL_law_689 : decode cL_law 689 = .ok (.goto 4, 3) := by decide +kernel
theorem dL_law_692 : decode cL_law 692 = .ok (.iconst 0, 1) := by decide +kernel
theorem dL_law_693 : decode cL_law 693 = .ok (.istore 13, 2) := by decide +kernel
theorem dL_law_695 : decode cL_law 695 = .ok (.iinc 14 1, 3) := by decide +kernel
theorem dL_law_698 : decode cL_law 698 = .ok (.goto (-503), 3) := by decide +kernel
theorem dL_law_701 : decode cL_law 701 = .ok (.iload 13, 2) := by decide +kernel
theorem dL_law_703 : decode cL_law 703 = .ok (.ireturn, 1) := by decide +kernel
def tab_L_law_0 : List (Nat × Sem) := [(71, op_ic 0 72), (72, op_is 13 74), (74, op_il 13 76), (76, op_ic 16 78), (78, op_cmp (fun x y => y ≤ x) 95 81), (81, op_al 3 82), (82, op_ic 16 84), (84, op_il 13 86), (86, op_bin (fun x y => x + y) 87), (87, op_ic (-1) 88), (88, op_iast 89), (89, op_inc 13 1 92), (92, op_go 74), (95, op_al 1 96), (96, op_ic 0 97), (97, op_ic 0 98), (98, op_ic 0 99), (99, op_ic (-1) 100), (100, op_ic 0 101), (101, op_callHN sp_L_does 6 16 104), (104, op_ic (-3000000) 106), (106, op_cmp (fun x y => ¬ x = y) 189 109), (109, op_al 1 110), (110, op_ic 0 111), (111, op_ic 36001 113), (113, op_ic (-1) 114), (114, op_ic (-1) 115), (115, op_ic 0 116), (116, op_callHN sp_L_does 6 16 119), (119, op_ic (-2000000) 121), (121, op_cmp (fun x y => ¬ x = y) 189 124), (124, op_al 1 125), (125, op_ic 20 127), (127, op_ic 0 128), (128, op_ic 0 129), (129, op_ic 0 130), (130, op_ic 0 131), (131, op_callHN sp_L_does 6 16 134), (134, op_ic (-2000000) 136), (136, op_cmp (fun x y => ¬ x = y) 189 139), (139, op_al 1 140), (140, op_ic 8 142), (142, op_ic (-1) 143), (143, op_ic 0 144), (144, op_ic 0 145), (145, op_ic 0 146), (146, op_callHN sp_L_does 6 16 149), (149, op_ic (-2000000) 151), (151, op_cmp (fun x y => ¬ x = y) 189 154), (154, op_al 1 155), (155, op_ic 23 157), (157, op_ic 0 158), (158, op_ic 0 159), (159, op_ic 0 160), (160, op_ic 0 161), (161, op_callHN sp_L_does 6 16 164), (164, op_ic (-3000000) 166), (166, op_cmp (fun x y => ¬ x = y) 189 169), (169, op_al 1 170), (170, op_ic 21 172)]
set_option maxRecDepth 20000 in
theorem tok_L_law_0 : ∀ q ∈ tab_L_law_0, LSnd RL cL_law 20 15 40000 ret q.1 q.2 := by
  unfold tab_L_law_0
  refine lcons (lsnd_g (snd_g (ok_iconst dL_law_71 rfl rfl))) ?_
  refine lcons (lsnd_g (snd_g (ok_istore dL_law_72 (by decide) rfl))) ?_
  refine lcons (lsnd_g (snd_g (ok_iload dL_law_74 rfl))) ?_
  refine lcons (lsnd_g (snd_g (ok_bipush dL_law_76 rfl rfl))) ?_
  refine lcons (lsnd_g (snd_g (ok_icmp_ge dL_law_78 rfl rfl))) ?_
  refine lcons (lsnd_g (snd_g (ok_aload_n dL_law_81 rfl rfl))) ?_
  refine lcons (lsnd_g (snd_g (ok_bipush dL_law_82 rfl rfl))) ?_
  refine lcons (lsnd_g (snd_g (ok_iload dL_law_84 rfl))) ?_
  refine lcons (lsnd_g (snd_g (ok_iadd dL_law_86 rfl))) ?_
  refine lcons (lsnd_g (snd_g (ok_iconst dL_law_87 rfl rfl))) ?_
  refine lcons (lsnd_g (snd_g (ok_iastore dL_law_88 rfl))) ?_
  refine lcons (lsnd_g (snd_g (ok_iinc dL_law_89 rfl (by decide) rfl))) ?_
  refine lcons (lsnd_g (snd_g (ok_goto dL_law_92 rfl))) ?_
  refine lcons (lsnd_g (snd_g (ok_aload_n dL_law_95 rfl rfl))) ?_
  refine lcons (lsnd_g (snd_g (ok_iconst dL_law_96 rfl rfl))) ?_
  refine lcons (lsnd_g (snd_g (ok_iconst dL_law_97 rfl rfl))) ?_
  refine lcons (lsnd_g (snd_g (ok_iconst dL_law_98 rfl rfl))) ?_
  refine lcons (lsnd_g (snd_g (ok_iconst dL_law_99 rfl rfl))) ?_
  refine lcons (lsnd_g (snd_g (ok_iconst dL_law_100 rfl rfl))) ?_
  refine lcons (lsnd_g (ok_invokestaticHN M_L_does w_128 w_129 w_19 w_130 ⟨by decide, by decide, by decide +kernel⟩ (by decide) (by decide) dL_law_101 rfl)) ?_
  refine lcons (lsnd_g (snd_g (ok_ldc w_683 dL_law_104 rfl))) ?_
  refine lcons (lsnd_g (snd_g (ok_icmp_ne dL_law_106 rfl rfl))) ?_
  refine lcons (lsnd_g (snd_g (ok_aload_n dL_law_109 rfl rfl))) ?_
  refine lcons (lsnd_g (snd_g (ok_iconst dL_law_110 rfl rfl))) ?_
  refine lcons (lsnd_g (snd_g (ok_ldc w_914 dL_law_111 rfl))) ?_
  refine lcons (lsnd_g (snd_g (ok_iconst dL_law_113 rfl rfl))) ?_
  refine lcons (lsnd_g (snd_g (ok_iconst dL_law_114 rfl rfl))) ?_
  refine lcons (lsnd_g (snd_g (ok_iconst dL_law_115 rfl rfl))) ?_
  refine lcons (lsnd_g (ok_invokestaticHN M_L_does w_128 w_129 w_19 w_130 ⟨by decide, by decide, by decide +kernel⟩ (by decide) (by decide) dL_law_116 rfl)) ?_
  refine lcons (lsnd_g (snd_g (ok_ldc w_684 dL_law_119 rfl))) ?_
  refine lcons (lsnd_g (snd_g (ok_icmp_ne dL_law_121 rfl rfl))) ?_
  refine lcons (lsnd_g (snd_g (ok_aload_n dL_law_124 rfl rfl))) ?_
  refine lcons (lsnd_g (snd_g (ok_bipush dL_law_125 rfl rfl))) ?_
  refine lcons (lsnd_g (snd_g (ok_iconst dL_law_127 rfl rfl))) ?_
  refine lcons (lsnd_g (snd_g (ok_iconst dL_law_128 rfl rfl))) ?_
  refine lcons (lsnd_g (snd_g (ok_iconst dL_law_129 rfl rfl))) ?_
  refine lcons (lsnd_g (snd_g (ok_iconst dL_law_130 rfl rfl))) ?_
  refine lcons (lsnd_g (ok_invokestaticHN M_L_does w_128 w_129 w_19 w_130 ⟨by decide, by decide, by decide +kernel⟩ (by decide) (by decide) dL_law_131 rfl)) ?_
  refine lcons (lsnd_g (snd_g (ok_ldc w_684 dL_law_134 rfl))) ?_
  refine lcons (lsnd_g (snd_g (ok_icmp_ne dL_law_136 rfl rfl))) ?_
  refine lcons (lsnd_g (snd_g (ok_aload_n dL_law_139 rfl rfl))) ?_
  refine lcons (lsnd_g (snd_g (ok_bipush dL_law_140 rfl rfl))) ?_
  refine lcons (lsnd_g (snd_g (ok_iconst dL_law_142 rfl rfl))) ?_
  refine lcons (lsnd_g (snd_g (ok_iconst dL_law_143 rfl rfl))) ?_
  refine lcons (lsnd_g (snd_g (ok_iconst dL_law_144 rfl rfl))) ?_
  refine lcons (lsnd_g (snd_g (ok_iconst dL_law_145 rfl rfl))) ?_
  refine lcons (lsnd_g (ok_invokestaticHN M_L_does w_128 w_129 w_19 w_130 ⟨by decide, by decide, by decide +kernel⟩ (by decide) (by decide) dL_law_146 rfl)) ?_
  refine lcons (lsnd_g (snd_g (ok_ldc w_684 dL_law_149 rfl))) ?_
  refine lcons (lsnd_g (snd_g (ok_icmp_ne dL_law_151 rfl rfl))) ?_
  refine lcons (lsnd_g (snd_g (ok_aload_n dL_law_154 rfl rfl))) ?_
  refine lcons (lsnd_g (snd_g (ok_bipush dL_law_155 rfl rfl))) ?_
  refine lcons (lsnd_g (snd_g (ok_iconst dL_law_157 rfl rfl))) ?_
  refine lcons (lsnd_g (snd_g (ok_iconst dL_law_158 rfl rfl))) ?_
  refine lcons (lsnd_g (snd_g (ok_iconst dL_law_159 rfl rfl))) ?_
  refine lcons (lsnd_g (snd_g (ok_iconst dL_law_160 rfl rfl))) ?_
  refine lcons (lsnd_g (ok_invokestaticHN M_L_does w_128 w_129 w_19 w_130 ⟨by decide, by decide, by decide +kernel⟩ (by decide) (by decide) dL_law_161 rfl)) ?_
  refine lcons (lsnd_g (snd_g (ok_ldc w_683 dL_law_164 rfl))) ?_
  refine lcons (lsnd_g (snd_g (ok_icmp_ne dL_law_166 rfl rfl))) ?_
  refine lcons (lsnd_g (snd_g (ok_aload_n dL_law_169 rfl rfl))) ?_
  refine lcons (lsnd_g (snd_g (ok_bipush dL_law_170 rfl rfl))) ?_
  exact fun _ h => nomatch h
def tab_L_law_1 : List (Nat × Sem) := [(172, op_ic 0 173), (173, op_ic 9 175), (175, op_ic 0 176), (176, op_ic 0 177), (177, op_callHN sp_L_does 6 16 180), (180, op_ic (-3000000) 182), (182, op_cmp (fun x y => ¬ x = y) 189 185), (185, op_ic 1 186), (186, op_go 190), (189, op_ic 0 190), (190, op_is 13 192), (192, op_ic 0 193), (193, op_is 14 195), (195, op_il 14 197), (197, op_ic 64 199), (199, op_cmp (fun x y => y ≤ x) 701 202), (202, op_il 13 204), (204, op_if (fun x => x = 0) 701 207), (207, op_il 14 209), (209, op_ic 8 211), (211, op_cmp (fun x y => y ≤ x) 218 214), (214, op_ic 0 215), (215, op_go 252), (218, op_il 14 220), (220, op_ic 11 222), (222, op_cmp (fun x y => y ≤ x) 230 225), (225, op_ic 12 227), (227, op_go 252), (230, op_il 14 232), (232, op_ic 12 234), (234, op_cmp (fun x y => y ≤ x) 242 237), (237, op_ic 22 239), (239, op_go 252), (242, op_al 0 243), (243, op_ic 3 244), (244, op_il 14 246), (246, op_bin (fun x y => x * y) 247), (247, op_ic 48 249), (249, op_callN sp_L_part 3 0 252), (252, op_is 15 254), (254, op_al 0 255), (255, op_ic 3 256), (256, op_il 14 258), (258, op_bin (fun x y => x * y) 259), (259, op_ic 1 260), (260, op_bin (fun x y => x + y) 261), (261, op_ic 60000 263), (263, op_callN sp_L_part 3 0 266), (266, op_is 16 268), (268, op_al 0 269), (269, op_ic 3 270), (270, op_il 14 272), (272, op_bin (fun x y => x * y) 273), (273, op_ic 2 274), (274, op_bin (fun x y => x + y) 275), (275, op_ic 60000 277), (277, op_callN sp_L_part 3 0 280), (280, op_is 17 282), (282, op_il 15 284), (284, op_ic 9 286)]
set_option maxRecDepth 20000 in
theorem tok_L_law_1 : ∀ q ∈ tab_L_law_1, LSnd RL cL_law 20 15 40000 ret q.1 q.2 := by
  unfold tab_L_law_1
  refine lcons (lsnd_g (snd_g (ok_iconst dL_law_172 rfl rfl))) ?_
  refine lcons (lsnd_g (snd_g (ok_bipush dL_law_173 rfl rfl))) ?_
  refine lcons (lsnd_g (snd_g (ok_iconst dL_law_175 rfl rfl))) ?_
  refine lcons (lsnd_g (snd_g (ok_iconst dL_law_176 rfl rfl))) ?_
  refine lcons (lsnd_g (ok_invokestaticHN M_L_does w_128 w_129 w_19 w_130 ⟨by decide, by decide, by decide +kernel⟩ (by decide) (by decide) dL_law_177 rfl)) ?_
  refine lcons (lsnd_g (snd_g (ok_ldc w_683 dL_law_180 rfl))) ?_
  refine lcons (lsnd_g (snd_g (ok_icmp_ne dL_law_182 rfl rfl))) ?_
  refine lcons (lsnd_g (snd_g (ok_iconst dL_law_185 rfl rfl))) ?_
  refine lcons (lsnd_g (snd_g (ok_goto dL_law_186 rfl))) ?_
  refine lcons (lsnd_g (snd_g (ok_iconst dL_law_189 rfl rfl))) ?_
  refine lcons (lsnd_g (snd_g (ok_istore dL_law_190 (by decide) rfl))) ?_
  refine lcons (lsnd_g (snd_g (ok_iconst dL_law_192 rfl rfl))) ?_
  refine lcons (lsnd_g (snd_g (ok_istore dL_law_193 (by decide) rfl))) ?_
  refine lcons (lsnd_g (snd_g (ok_iload dL_law_195 rfl))) ?_
  refine lcons (lsnd_g (snd_g (ok_bipush dL_law_197 rfl rfl))) ?_
  refine lcons (lsnd_g (snd_g (ok_icmp_ge dL_law_199 rfl rfl))) ?_
  refine lcons (lsnd_g (snd_g (ok_iload dL_law_202 rfl))) ?_
  refine lcons (lsnd_g (snd_g (ok_if_eq dL_law_204 rfl rfl))) ?_
  refine lcons (lsnd_g (snd_g (ok_iload dL_law_207 rfl))) ?_
  refine lcons (lsnd_g (snd_g (ok_bipush dL_law_209 rfl rfl))) ?_
  refine lcons (lsnd_g (snd_g (ok_icmp_ge dL_law_211 rfl rfl))) ?_
  refine lcons (lsnd_g (snd_g (ok_iconst dL_law_214 rfl rfl))) ?_
  refine lcons (lsnd_g (snd_g (ok_goto dL_law_215 rfl))) ?_
  refine lcons (lsnd_g (snd_g (ok_iload dL_law_218 rfl))) ?_
  refine lcons (lsnd_g (snd_g (ok_bipush dL_law_220 rfl rfl))) ?_
  refine lcons (lsnd_g (snd_g (ok_icmp_ge dL_law_222 rfl rfl))) ?_
  refine lcons (lsnd_g (snd_g (ok_bipush dL_law_225 rfl rfl))) ?_
  refine lcons (lsnd_g (snd_g (ok_goto dL_law_227 rfl))) ?_
  refine lcons (lsnd_g (snd_g (ok_iload dL_law_230 rfl))) ?_
  refine lcons (lsnd_g (snd_g (ok_bipush dL_law_232 rfl rfl))) ?_
  refine lcons (lsnd_g (snd_g (ok_icmp_ge dL_law_234 rfl rfl))) ?_
  refine lcons (lsnd_g (snd_g (ok_bipush dL_law_237 rfl rfl))) ?_
  refine lcons (lsnd_g (snd_g (ok_goto dL_law_239 rfl))) ?_
  refine lcons (lsnd_g (snd_g (ok_aload_n dL_law_242 rfl rfl))) ?_
  refine lcons (lsnd_g (snd_g (ok_iconst dL_law_243 rfl rfl))) ?_
  refine lcons (lsnd_g (snd_g (ok_iload dL_law_244 rfl))) ?_
  refine lcons (lsnd_g (snd_g (ok_imul dL_law_246 rfl))) ?_
  refine lcons (lsnd_g (snd_g (ok_bipush dL_law_247 rfl rfl))) ?_
  refine lcons (lsnd_g (snd_g (ok_invokestaticN M_L_part w_124 w_125 w_19 w_126 ⟨by decide, by decide, by decide +kernel⟩ (by decide) (by decide) dL_law_249 rfl))) ?_
  refine lcons (lsnd_g (snd_g (ok_istore dL_law_252 (by decide) rfl))) ?_
  refine lcons (lsnd_g (snd_g (ok_aload_n dL_law_254 rfl rfl))) ?_
  refine lcons (lsnd_g (snd_g (ok_iconst dL_law_255 rfl rfl))) ?_
  refine lcons (lsnd_g (snd_g (ok_iload dL_law_256 rfl))) ?_
  refine lcons (lsnd_g (snd_g (ok_imul dL_law_258 rfl))) ?_
  refine lcons (lsnd_g (snd_g (ok_iconst dL_law_259 rfl rfl))) ?_
  refine lcons (lsnd_g (snd_g (ok_iadd dL_law_260 rfl))) ?_
  refine lcons (lsnd_g (snd_g (ok_ldc w_946 dL_law_261 rfl))) ?_
  refine lcons (lsnd_g (snd_g (ok_invokestaticN M_L_part w_124 w_125 w_19 w_126 ⟨by decide, by decide, by decide +kernel⟩ (by decide) (by decide) dL_law_263 rfl))) ?_
  refine lcons (lsnd_g (snd_g (ok_istore dL_law_266 (by decide) rfl))) ?_
  refine lcons (lsnd_g (snd_g (ok_aload_n dL_law_268 rfl rfl))) ?_
  refine lcons (lsnd_g (snd_g (ok_iconst dL_law_269 rfl rfl))) ?_
  refine lcons (lsnd_g (snd_g (ok_iload dL_law_270 rfl))) ?_
  refine lcons (lsnd_g (snd_g (ok_imul dL_law_272 rfl))) ?_
  refine lcons (lsnd_g (snd_g (ok_iconst dL_law_273 rfl rfl))) ?_
  refine lcons (lsnd_g (snd_g (ok_iadd dL_law_274 rfl))) ?_
  refine lcons (lsnd_g (snd_g (ok_ldc w_946 dL_law_275 rfl))) ?_
  refine lcons (lsnd_g (snd_g (ok_invokestaticN M_L_part w_124 w_125 w_19 w_126 ⟨by decide, by decide, by decide +kernel⟩ (by decide) (by decide) dL_law_277 rfl))) ?_
  refine lcons (lsnd_g (snd_g (ok_istore dL_law_280 (by decide) rfl))) ?_
  refine lcons (lsnd_g (snd_g (ok_iload dL_law_282 rfl))) ?_
  refine lcons (lsnd_g (snd_g (ok_bipush dL_law_284 rfl rfl))) ?_
  exact fun _ h => nomatch h
def tab_L_law_2 : List (Nat × Sem) := [(286, op_cmp (fun x y => y ≤ x) 364 289), (289, op_al 1 290), (290, op_al 2 291), (291, op_al 3 292), (292, op_al 5 294), (294, op_al 6 296), (296, op_al 7 298), (298, op_al 12 300), (300, op_il 15 302), (302, op_ic 3 303), (303, op_cmp (fun x y => y ≤ x) 310 306), (306, op_ic 0 307), (307, op_go 352), (310, op_il 15 312), (312, op_ic 3 313), (313, op_cmp (fun x y => ¬ x = y) 320 316), (316, op_ic 1 317), (317, op_go 352), (320, op_il 15 322), (322, op_ic 4 323), (323, op_cmp (fun x y => ¬ x = y) 330 326), (326, op_ic 2 327), (327, op_go 352), (330, op_il 15 332), (332, op_ic 5 333), (333, op_cmp (fun x y => ¬ x = y) 340 336), (336, op_ic 3 337), (337, op_go 352), (340, op_il 15 342), (342, op_ic 6 344), (344, op_cmp (fun x y => ¬ x = y) 351 347), (347, op_ic 4 348), (348, op_go 352), (351, op_ic 5 352), (352, op_il 16 354), (354, op_il 17 356), (356, op_callGN sp_L_isPerson 10 20 359), (359, op_is 13 361), (361, op_go 659), (364, op_il 15 366), (366, op_ic 20 368), (368, op_cmp (fun x y => y ≤ x) 454 371), (371, op_al 1 372), (372, op_al 2 373), (373, op_al 3 374), (374, op_al 4 376), (376, op_al 5 378), (378, op_al 6 380), (380, op_al 7 382), (382, op_al 8 384), (384, op_al 12 386), (386, op_il 15 388), (388, op_ic 9 390), (390, op_cmp (fun x y => ¬ x = y) 397 393), (393, op_ic 0 394), (394, op_go 442), (397, op_il 15 399), (399, op_ic 10 401), (401, op_cmp (fun x y => ¬ x = y) 408 404), (404, op_ic 1 405)]
set_option maxRecDepth 20000 in
theorem tok_L_law_2 : ∀ q ∈ tab_L_law_2, LSnd RL cL_law 20 15 40000 ret q.1 q.2 := by
  unfold tab_L_law_2
  refine lcons (lsnd_g (snd_g (ok_icmp_ge dL_law_286 rfl rfl))) ?_
  refine lcons (lsnd_g (snd_g (ok_aload_n dL_law_289 rfl rfl))) ?_
  refine lcons (lsnd_g (snd_g (ok_aload_n dL_law_290 rfl rfl))) ?_
  refine lcons (lsnd_g (snd_g (ok_aload_n dL_law_291 rfl rfl))) ?_
  refine lcons (lsnd_g (snd_g (ok_aload dL_law_292 rfl))) ?_
  refine lcons (lsnd_g (snd_g (ok_aload dL_law_294 rfl))) ?_
  refine lcons (lsnd_g (snd_g (ok_aload dL_law_296 rfl))) ?_
  refine lcons (lsnd_g (snd_g (ok_aload dL_law_298 rfl))) ?_
  refine lcons (lsnd_g (snd_g (ok_iload dL_law_300 rfl))) ?_
  refine lcons (lsnd_g (snd_g (ok_iconst dL_law_302 rfl rfl))) ?_
  refine lcons (lsnd_g (snd_g (ok_icmp_ge dL_law_303 rfl rfl))) ?_
  refine lcons (lsnd_g (snd_g (ok_iconst dL_law_306 rfl rfl))) ?_
  refine lcons (lsnd_g (snd_g (ok_goto dL_law_307 rfl))) ?_
  refine lcons (lsnd_g (snd_g (ok_iload dL_law_310 rfl))) ?_
  refine lcons (lsnd_g (snd_g (ok_iconst dL_law_312 rfl rfl))) ?_
  refine lcons (lsnd_g (snd_g (ok_icmp_ne dL_law_313 rfl rfl))) ?_
  refine lcons (lsnd_g (snd_g (ok_iconst dL_law_316 rfl rfl))) ?_
  refine lcons (lsnd_g (snd_g (ok_goto dL_law_317 rfl))) ?_
  refine lcons (lsnd_g (snd_g (ok_iload dL_law_320 rfl))) ?_
  refine lcons (lsnd_g (snd_g (ok_iconst dL_law_322 rfl rfl))) ?_
  refine lcons (lsnd_g (snd_g (ok_icmp_ne dL_law_323 rfl rfl))) ?_
  refine lcons (lsnd_g (snd_g (ok_iconst dL_law_326 rfl rfl))) ?_
  refine lcons (lsnd_g (snd_g (ok_goto dL_law_327 rfl))) ?_
  refine lcons (lsnd_g (snd_g (ok_iload dL_law_330 rfl))) ?_
  refine lcons (lsnd_g (snd_g (ok_iconst dL_law_332 rfl rfl))) ?_
  refine lcons (lsnd_g (snd_g (ok_icmp_ne dL_law_333 rfl rfl))) ?_
  refine lcons (lsnd_g (snd_g (ok_iconst dL_law_336 rfl rfl))) ?_
  refine lcons (lsnd_g (snd_g (ok_goto dL_law_337 rfl))) ?_
  refine lcons (lsnd_g (snd_g (ok_iload dL_law_340 rfl))) ?_
  refine lcons (lsnd_g (snd_g (ok_bipush dL_law_342 rfl rfl))) ?_
  refine lcons (lsnd_g (snd_g (ok_icmp_ne dL_law_344 rfl rfl))) ?_
  refine lcons (lsnd_g (snd_g (ok_iconst dL_law_347 rfl rfl))) ?_
  refine lcons (lsnd_g (snd_g (ok_goto dL_law_348 rfl))) ?_
  refine lcons (lsnd_g (snd_g (ok_iconst dL_law_351 rfl rfl))) ?_
  refine lcons (lsnd_g (snd_g (ok_iload dL_law_352 rfl))) ?_
  refine lcons (lsnd_g (snd_g (ok_iload dL_law_354 rfl))) ?_
  refine lcons (lsnd_g (ok_invokestaticGN M_L_isPerson w_910 w_911 w_19 w_912 ⟨by decide, by decide, by decide +kernel⟩ (fun U w => rm_fit (by decide) (by decide)) dL_law_356 rfl)) ?_
  refine lcons (lsnd_g (snd_g (ok_istore dL_law_359 (by decide) rfl))) ?_
  refine lcons (lsnd_g (snd_g (ok_goto dL_law_361 rfl))) ?_
  refine lcons (lsnd_g (snd_g (ok_iload dL_law_364 rfl))) ?_
  refine lcons (lsnd_g (snd_g (ok_bipush dL_law_366 rfl rfl))) ?_
  refine lcons (lsnd_g (snd_g (ok_icmp_ge dL_law_368 rfl rfl))) ?_
  refine lcons (lsnd_g (snd_g (ok_aload_n dL_law_371 rfl rfl))) ?_
  refine lcons (lsnd_g (snd_g (ok_aload_n dL_law_372 rfl rfl))) ?_
  refine lcons (lsnd_g (snd_g (ok_aload_n dL_law_373 rfl rfl))) ?_
  refine lcons (lsnd_g (snd_g (ok_aload dL_law_374 rfl))) ?_
  refine lcons (lsnd_g (snd_g (ok_aload dL_law_376 rfl))) ?_
  refine lcons (lsnd_g (snd_g (ok_aload dL_law_378 rfl))) ?_
  refine lcons (lsnd_g (snd_g (ok_aload dL_law_380 rfl))) ?_
  refine lcons (lsnd_g (snd_g (ok_aload dL_law_382 rfl))) ?_
  refine lcons (lsnd_g (snd_g (ok_aload dL_law_384 rfl))) ?_
  refine lcons (lsnd_g (snd_g (ok_iload dL_law_386 rfl))) ?_
  refine lcons (lsnd_g (snd_g (ok_bipush dL_law_388 rfl rfl))) ?_
  refine lcons (lsnd_g (snd_g (ok_icmp_ne dL_law_390 rfl rfl))) ?_
  refine lcons (lsnd_g (snd_g (ok_iconst dL_law_393 rfl rfl))) ?_
  refine lcons (lsnd_g (snd_g (ok_goto dL_law_394 rfl))) ?_
  refine lcons (lsnd_g (snd_g (ok_iload dL_law_397 rfl))) ?_
  refine lcons (lsnd_g (snd_g (ok_bipush dL_law_399 rfl rfl))) ?_
  refine lcons (lsnd_g (snd_g (ok_icmp_ne dL_law_401 rfl rfl))) ?_
  refine lcons (lsnd_g (snd_g (ok_iconst dL_law_404 rfl rfl))) ?_
  exact fun _ h => nomatch h
def tab_L_law_3 : List (Nat × Sem) := [(405, op_go 442), (408, op_il 15 410), (410, op_ic 16 412), (412, op_cmp (fun x y => y ≤ x) 419 415), (415, op_ic 2 416), (416, op_go 442), (419, op_il 15 421), (421, op_ic 18 423), (423, op_cmp (fun x y => y ≤ x) 430 426), (426, op_ic 3 427), (427, op_go 442), (430, op_il 15 432), (432, op_ic 18 434), (434, op_cmp (fun x y => ¬ x = y) 441 437), (437, op_ic 4 438), (438, op_go 442), (441, op_ic 5 442), (442, op_il 16 444), (444, op_il 17 446), (446, op_callGN sp_L_isVow 12 20 449), (449, op_is 13 451), (451, op_go 659), (454, op_il 15 456), (456, op_ic 45 458), (458, op_cmp (fun x y => y ≤ x) 557 461), (461, op_al 1 462), (462, op_al 2 463), (463, op_al 6 465), (465, op_al 7 467), (467, op_al 8 469), (469, op_al 9 471), (471, op_al 10 473), (473, op_al 11 475), (475, op_al 12 477), (477, op_il 15 479), (479, op_ic 24 481), (481, op_cmp (fun x y => y ≤ x) 488 484), (484, op_ic 0 485), (485, op_go 545), (488, op_il 15 490), (490, op_ic 24 492), (492, op_cmp (fun x y => ¬ x = y) 499 495), (495, op_ic 1 496), (496, op_go 545), (499, op_il 15 501), (501, op_ic 31 503), (503, op_cmp (fun x y => y ≤ x) 510 506), (506, op_ic 2 507), (507, op_go 545), (510, op_il 15 512), (512, op_ic 34 514), (514, op_cmp (fun x y => y ≤ x) 521 517), (517, op_ic 3 518), (518, op_go 545), (521, op_il 15 523), (523, op_ic 41 525), (525, op_cmp (fun x y => y ≤ x) 532 528), (528, op_ic 4 529), (529, op_go 545), (532, op_il 15 534)]
set_option maxRecDepth 20000 in
theorem tok_L_law_3 : ∀ q ∈ tab_L_law_3, LSnd RL cL_law 20 15 40000 ret q.1 q.2 := by
  unfold tab_L_law_3
  refine lcons (lsnd_g (snd_g (ok_goto dL_law_405 rfl))) ?_
  refine lcons (lsnd_g (snd_g (ok_iload dL_law_408 rfl))) ?_
  refine lcons (lsnd_g (snd_g (ok_bipush dL_law_410 rfl rfl))) ?_
  refine lcons (lsnd_g (snd_g (ok_icmp_ge dL_law_412 rfl rfl))) ?_
  refine lcons (lsnd_g (snd_g (ok_iconst dL_law_415 rfl rfl))) ?_
  refine lcons (lsnd_g (snd_g (ok_goto dL_law_416 rfl))) ?_
  refine lcons (lsnd_g (snd_g (ok_iload dL_law_419 rfl))) ?_
  refine lcons (lsnd_g (snd_g (ok_bipush dL_law_421 rfl rfl))) ?_
  refine lcons (lsnd_g (snd_g (ok_icmp_ge dL_law_423 rfl rfl))) ?_
  refine lcons (lsnd_g (snd_g (ok_iconst dL_law_426 rfl rfl))) ?_
  refine lcons (lsnd_g (snd_g (ok_goto dL_law_427 rfl))) ?_
  refine lcons (lsnd_g (snd_g (ok_iload dL_law_430 rfl))) ?_
  refine lcons (lsnd_g (snd_g (ok_bipush dL_law_432 rfl rfl))) ?_
  refine lcons (lsnd_g (snd_g (ok_icmp_ne dL_law_434 rfl rfl))) ?_
  refine lcons (lsnd_g (snd_g (ok_iconst dL_law_437 rfl rfl))) ?_
  refine lcons (lsnd_g (snd_g (ok_goto dL_law_438 rfl))) ?_
  refine lcons (lsnd_g (snd_g (ok_iconst dL_law_441 rfl rfl))) ?_
  refine lcons (lsnd_g (snd_g (ok_iload dL_law_442 rfl))) ?_
  refine lcons (lsnd_g (snd_g (ok_iload dL_law_444 rfl))) ?_
  refine lcons (lsnd_g (ok_invokestaticGN M_L_isVow w_924 w_925 w_19 w_926 ⟨by decide, by decide, by decide +kernel⟩ (fun U w => rm_fit2 (by decide) (by decide)) dL_law_446 rfl)) ?_
  refine lcons (lsnd_g (snd_g (ok_istore dL_law_449 (by decide) rfl))) ?_
  refine lcons (lsnd_g (snd_g (ok_goto dL_law_451 rfl))) ?_
  refine lcons (lsnd_g (snd_g (ok_iload dL_law_454 rfl))) ?_
  refine lcons (lsnd_g (snd_g (ok_bipush dL_law_456 rfl rfl))) ?_
  refine lcons (lsnd_g (snd_g (ok_icmp_ge dL_law_458 rfl rfl))) ?_
  refine lcons (lsnd_g (snd_g (ok_aload_n dL_law_461 rfl rfl))) ?_
  refine lcons (lsnd_g (snd_g (ok_aload_n dL_law_462 rfl rfl))) ?_
  refine lcons (lsnd_g (snd_g (ok_aload dL_law_463 rfl))) ?_
  refine lcons (lsnd_g (snd_g (ok_aload dL_law_465 rfl))) ?_
  refine lcons (lsnd_g (snd_g (ok_aload dL_law_467 rfl))) ?_
  refine lcons (lsnd_g (snd_g (ok_aload dL_law_469 rfl))) ?_
  refine lcons (lsnd_g (snd_g (ok_aload dL_law_471 rfl))) ?_
  refine lcons (lsnd_g (snd_g (ok_aload dL_law_473 rfl))) ?_
  refine lcons (lsnd_g (snd_g (ok_aload dL_law_475 rfl))) ?_
  refine lcons (lsnd_g (snd_g (ok_iload dL_law_477 rfl))) ?_
  refine lcons (lsnd_g (snd_g (ok_bipush dL_law_479 rfl rfl))) ?_
  refine lcons (lsnd_g (snd_g (ok_icmp_ge dL_law_481 rfl rfl))) ?_
  refine lcons (lsnd_g (snd_g (ok_iconst dL_law_484 rfl rfl))) ?_
  refine lcons (lsnd_g (snd_g (ok_goto dL_law_485 rfl))) ?_
  refine lcons (lsnd_g (snd_g (ok_iload dL_law_488 rfl))) ?_
  refine lcons (lsnd_g (snd_g (ok_bipush dL_law_490 rfl rfl))) ?_
  refine lcons (lsnd_g (snd_g (ok_icmp_ne dL_law_492 rfl rfl))) ?_
  refine lcons (lsnd_g (snd_g (ok_iconst dL_law_495 rfl rfl))) ?_
  refine lcons (lsnd_g (snd_g (ok_goto dL_law_496 rfl))) ?_
  refine lcons (lsnd_g (snd_g (ok_iload dL_law_499 rfl))) ?_
  refine lcons (lsnd_g (snd_g (ok_bipush dL_law_501 rfl rfl))) ?_
  refine lcons (lsnd_g (snd_g (ok_icmp_ge dL_law_503 rfl rfl))) ?_
  refine lcons (lsnd_g (snd_g (ok_iconst dL_law_506 rfl rfl))) ?_
  refine lcons (lsnd_g (snd_g (ok_goto dL_law_507 rfl))) ?_
  refine lcons (lsnd_g (snd_g (ok_iload dL_law_510 rfl))) ?_
  refine lcons (lsnd_g (snd_g (ok_bipush dL_law_512 rfl rfl))) ?_
  refine lcons (lsnd_g (snd_g (ok_icmp_ge dL_law_514 rfl rfl))) ?_
  refine lcons (lsnd_g (snd_g (ok_iconst dL_law_517 rfl rfl))) ?_
  refine lcons (lsnd_g (snd_g (ok_goto dL_law_518 rfl))) ?_
  refine lcons (lsnd_g (snd_g (ok_iload dL_law_521 rfl))) ?_
  refine lcons (lsnd_g (snd_g (ok_bipush dL_law_523 rfl rfl))) ?_
  refine lcons (lsnd_g (snd_g (ok_icmp_ge dL_law_525 rfl rfl))) ?_
  refine lcons (lsnd_g (snd_g (ok_iconst dL_law_528 rfl rfl))) ?_
  refine lcons (lsnd_g (snd_g (ok_goto dL_law_529 rfl))) ?_
  refine lcons (lsnd_g (snd_g (ok_iload dL_law_532 rfl))) ?_
  exact fun _ h => nomatch h
def tab_L_law_4 : List (Nat × Sem) := [(534, op_ic 44 536), (536, op_cmp (fun x y => y ≤ x) 543 539), (539, op_ic 5 540), (540, op_go 545), (543, op_ic 6 545), (545, op_il 16 547), (547, op_il 17 549), (549, op_callGN sp_L_isCause 12 20 552), (552, op_is 13 554), (554, op_go 659), (557, op_il 16 559), (559, op_ic 9 561), (561, op_dv (fun x y => irm x y) 562), (562, op_if (fun x => ¬ x = 0) 576 565), (565, op_il 17 567), (567, op_ic 3 568), (568, op_dv (fun x y => irm x y) 569), (569, op_ic 5001 572), (572, op_bin (fun x y => x * y) 573), (573, op_go 584), (576, op_ic 1 577), (577, op_il 17 579), (579, op_ic 300 582), (582, op_dv (fun x y => irm x y) 583), (583, op_bin (fun x y => x + y) 584), (584, op_is 18 586), (586, op_il 18 588), (588, op_if (fun x => x ≤ 0) 603 591), (591, op_il 18 593), (593, op_ic 10001 596), (596, op_cmp (fun x y => y ≤ x) 603 599), (599, op_ic 1 600), (600, op_go 604), (603, op_ic 0 604), (604, op_is 19 606), (606, op_al 12 608), (608, op_ic 0 609), (609, op_dup2 610), (610, op_iald 611), (611, op_il 19 613), (613, op_if (fun x => x = 0) 621 616), (616, op_il 18 618), (618, op_go 622), (621, op_ic 0 622), (622, op_bin (fun x y => x + y) 623), (623, op_iast 624), (624, op_al 1 625), (625, op_ic 20 627), (627, op_il 18 629), (629, op_ic 0 630), (630, op_ic 0 631), (631, op_ic 0 632), (632, op_callHN sp_L_does 6 16 635), (635, op_il 19 637), (637, op_if (fun x => x = 0) 647 640), (640, op_al 12 642), (642, op_ic 0 643), (643, op_iald 644), (644, op_go 649), (647, op_ic (-2000000) 649)]
set_option maxRecDepth 20000 in
theorem tok_L_law_4 : ∀ q ∈ tab_L_law_4, LSnd RL cL_law 20 15 40000 ret q.1 q.2 := by
  unfold tab_L_law_4
  refine lcons (lsnd_g (snd_g (ok_bipush dL_law_534 rfl rfl))) ?_
  refine lcons (lsnd_g (snd_g (ok_icmp_ge dL_law_536 rfl rfl))) ?_
  refine lcons (lsnd_g (snd_g (ok_iconst dL_law_539 rfl rfl))) ?_
  refine lcons (lsnd_g (snd_g (ok_goto dL_law_540 rfl))) ?_
  refine lcons (lsnd_g (snd_g (ok_bipush dL_law_543 rfl rfl))) ?_
  refine lcons (lsnd_g (snd_g (ok_iload dL_law_545 rfl))) ?_
  refine lcons (lsnd_g (snd_g (ok_iload dL_law_547 rfl))) ?_
  refine lcons (lsnd_g (ok_invokestaticGN M_L_isCause w_930 w_931 w_19 w_932 ⟨by decide, by decide, by decide +kernel⟩ (fun U w => rm_fit2 (by decide) (by decide)) dL_law_549 rfl)) ?_
  refine lcons (lsnd_g (snd_g (ok_istore dL_law_552 (by decide) rfl))) ?_
  refine lcons (lsnd_g (snd_g (ok_goto dL_law_554 rfl))) ?_
  refine lcons (lsnd_g (snd_g (ok_iload dL_law_557 rfl))) ?_
  refine lcons (lsnd_g (snd_g (ok_bipush dL_law_559 rfl rfl))) ?_
  refine lcons (lsnd_g (snd_g (ok_irem dL_law_561 rfl))) ?_
  refine lcons (lsnd_g (snd_g (ok_if_ne dL_law_562 rfl rfl))) ?_
  refine lcons (lsnd_g (snd_g (ok_iload dL_law_565 rfl))) ?_
  refine lcons (lsnd_g (snd_g (ok_iconst dL_law_567 rfl rfl))) ?_
  refine lcons (lsnd_g (snd_g (ok_irem dL_law_568 rfl))) ?_
  refine lcons (lsnd_g (snd_g (ok_sipush dL_law_569 rfl rfl))) ?_
  refine lcons (lsnd_g (snd_g (ok_imul dL_law_572 rfl))) ?_
  refine lcons (lsnd_g (snd_g (ok_goto dL_law_573 rfl))) ?_
  refine lcons (lsnd_g (snd_g (ok_iconst dL_law_576 rfl rfl))) ?_
  refine lcons (lsnd_g (snd_g (ok_iload dL_law_577 rfl))) ?_
  refine lcons (lsnd_g (snd_g (ok_sipush dL_law_579 rfl rfl))) ?_
  refine lcons (lsnd_g (snd_g (ok_irem dL_law_582 rfl))) ?_
  refine lcons (lsnd_g (snd_g (ok_iadd dL_law_583 rfl))) ?_
  refine lcons (lsnd_g (snd_g (ok_istore dL_law_584 (by decide) rfl))) ?_
  refine lcons (lsnd_g (snd_g (ok_iload dL_law_586 rfl))) ?_
  refine lcons (lsnd_g (snd_g (ok_if_le dL_law_588 rfl rfl))) ?_
  refine lcons (lsnd_g (snd_g (ok_iload dL_law_591 rfl))) ?_
  refine lcons (lsnd_g (snd_g (ok_sipush dL_law_593 rfl rfl))) ?_
  refine lcons (lsnd_g (snd_g (ok_icmp_ge dL_law_596 rfl rfl))) ?_
  refine lcons (lsnd_g (snd_g (ok_iconst dL_law_599 rfl rfl))) ?_
  refine lcons (lsnd_g (snd_g (ok_goto dL_law_600 rfl))) ?_
  refine lcons (lsnd_g (snd_g (ok_iconst dL_law_603 rfl rfl))) ?_
  refine lcons (lsnd_g (snd_g (ok_istore dL_law_604 (by decide) rfl))) ?_
  refine lcons (lsnd_g (snd_g (ok_aload dL_law_606 rfl))) ?_
  refine lcons (lsnd_g (snd_g (ok_iconst dL_law_608 rfl rfl))) ?_
  refine lcons (lsnd_g (snd_g (ok_dup2 dL_law_609 rfl))) ?_
  refine lcons (lsnd_g (snd_g (ok_iaload dL_law_610 rfl))) ?_
  refine lcons (lsnd_g (snd_g (ok_iload dL_law_611 rfl))) ?_
  refine lcons (lsnd_g (snd_g (ok_if_eq dL_law_613 rfl rfl))) ?_
  refine lcons (lsnd_g (snd_g (ok_iload dL_law_616 rfl))) ?_
  refine lcons (lsnd_g (snd_g (ok_goto dL_law_618 rfl))) ?_
  refine lcons (lsnd_g (snd_g (ok_iconst dL_law_621 rfl rfl))) ?_
  refine lcons (lsnd_g (snd_g (ok_iadd dL_law_622 rfl))) ?_
  refine lcons (lsnd_g (snd_g (ok_iastore dL_law_623 rfl))) ?_
  refine lcons (lsnd_g (snd_g (ok_aload_n dL_law_624 rfl rfl))) ?_
  refine lcons (lsnd_g (snd_g (ok_bipush dL_law_625 rfl rfl))) ?_
  refine lcons (lsnd_g (snd_g (ok_iload dL_law_627 rfl))) ?_
  refine lcons (lsnd_g (snd_g (ok_iconst dL_law_629 rfl rfl))) ?_
  refine lcons (lsnd_g (snd_g (ok_iconst dL_law_630 rfl rfl))) ?_
  refine lcons (lsnd_g (snd_g (ok_iconst dL_law_631 rfl rfl))) ?_
  refine lcons (lsnd_g (ok_invokestaticHN M_L_does w_128 w_129 w_19 w_130 ⟨by decide, by decide, by decide +kernel⟩ (by decide) (by decide) dL_law_632 rfl)) ?_
  refine lcons (lsnd_g (snd_g (ok_iload dL_law_635 rfl))) ?_
  refine lcons (lsnd_g (snd_g (ok_if_eq dL_law_637 rfl rfl))) ?_
  refine lcons (lsnd_g (snd_g (ok_aload dL_law_640 rfl))) ?_
  refine lcons (lsnd_g (snd_g (ok_iconst dL_law_642 rfl rfl))) ?_
  refine lcons (lsnd_g (snd_g (ok_iaload dL_law_643 rfl))) ?_
  refine lcons (lsnd_g (snd_g (ok_goto dL_law_644 rfl))) ?_
  refine lcons (lsnd_g (snd_g (ok_ldc w_684 dL_law_647 rfl))) ?_
  exact fun _ h => nomatch h
def tab_L_law_5 : List (Nat × Sem) := [(649, op_cmp (fun x y => ¬ x = y) 656 652), (652, op_ic 1 653), (653, op_go 657), (656, op_ic 0 657), (657, op_is 13 659), (659, op_il 13 661), (661, op_if (fun x => x = 0) 692 664), (664, op_al 1 665), (665, op_al 2 666), (666, op_al 6 668), (668, op_al 7 670), (670, op_al 8 672), (672, op_al 10 674), (674, op_al 11 676), (676, op_al 12 678), (678, op_il 16 680), (680, op_il 17 682), (682, op_callGN sp_L_isSo 10 450 685), (685, op_if (fun x => x = 0) 692 688), (688, op_ic 1 689), (689, op_go 693), (692, op_ic 0 693), (693, op_is 13 695), (695, op_inc 14 1 698), (698, op_go 195), (701, op_il 13 703), (703, op_lret)]
set_option maxRecDepth 20000 in
theorem tok_L_law_5 : ∀ q ∈ tab_L_law_5, LSnd RL cL_law 20 15 40000 ret q.1 q.2 := by
  unfold tab_L_law_5
  refine lcons (lsnd_g (snd_g (ok_icmp_ne dL_law_649 rfl rfl))) ?_
  refine lcons (lsnd_g (snd_g (ok_iconst dL_law_652 rfl rfl))) ?_
  refine lcons (lsnd_g (snd_g (ok_goto dL_law_653 rfl))) ?_
  refine lcons (lsnd_g (snd_g (ok_iconst dL_law_656 rfl rfl))) ?_
  refine lcons (lsnd_g (snd_g (ok_istore dL_law_657 (by decide) rfl))) ?_
  refine lcons (lsnd_g (snd_g (ok_iload dL_law_659 rfl))) ?_
  refine lcons (lsnd_g (snd_g (ok_if_eq dL_law_661 rfl rfl))) ?_
  refine lcons (lsnd_g (snd_g (ok_aload_n dL_law_664 rfl rfl))) ?_
  refine lcons (lsnd_g (snd_g (ok_aload_n dL_law_665 rfl rfl))) ?_
  refine lcons (lsnd_g (snd_g (ok_aload dL_law_666 rfl))) ?_
  refine lcons (lsnd_g (snd_g (ok_aload dL_law_668 rfl))) ?_
  refine lcons (lsnd_g (snd_g (ok_aload dL_law_670 rfl))) ?_
  refine lcons (lsnd_g (snd_g (ok_aload dL_law_672 rfl))) ?_
  refine lcons (lsnd_g (snd_g (ok_aload dL_law_674 rfl))) ?_
  refine lcons (lsnd_g (snd_g (ok_aload dL_law_676 rfl))) ?_
  refine lcons (lsnd_g (snd_g (ok_iload dL_law_678 rfl))) ?_
  refine lcons (lsnd_g (snd_g (ok_iload dL_law_680 rfl))) ?_
  refine lcons (lsnd_g (ok_invokestaticGN M_L_isSo w_686 w_687 w_19 w_688 ⟨by decide, by decide, by decide +kernel⟩ (fun U w => rm_fit (by decide) (by decide)) dL_law_682 rfl)) ?_
  refine lcons (lsnd_g (snd_g (ok_if_eq dL_law_685 rfl rfl))) ?_
  refine lcons (lsnd_g (snd_g (ok_iconst dL_law_688 rfl rfl))) ?_
  refine lcons (lsnd_g (snd_g (ok_goto dL_law_689 rfl))) ?_
  refine lcons (lsnd_g (snd_g (ok_iconst dL_law_692 rfl rfl))) ?_
  refine lcons (lsnd_g (snd_g (ok_istore dL_law_693 (by decide) rfl))) ?_
  refine lcons (lsnd_g (snd_g (ok_iinc dL_law_695 rfl (by decide) rfl))) ?_
  refine lcons (lsnd_g (snd_g (ok_goto dL_law_698 rfl))) ?_
  refine lcons (lsnd_g (snd_g (ok_iload dL_law_701 rfl))) ?_
  refine lcons (ok_lret dL_law_703) ?_
  exact fun _ h => nomatch h
def tab_L_law : List (Nat × Sem) := tab_L_law_0 ++ (tab_L_law_1 ++ (tab_L_law_2 ++ (tab_L_law_3 ++ (tab_L_law_4 ++ (tab_L_law_5)))))
theorem tok_L_law : ∀ q ∈ tab_L_law, LSnd RL cL_law 20 15 40000 ret q.1 q.2 := lapp tok_L_law_0 (lapp tok_L_law_1 (lapp tok_L_law_2 (lapp tok_L_law_3 (lapp tok_L_law_4 (tok_L_law_5)))))

