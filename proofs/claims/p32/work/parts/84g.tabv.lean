/-! the law's isVow: its instructions -/
theorem w_693 : (.methodLink "VowCourtLaw" 140 ⟨"VowCourtLaw", "hindered", "([I[II)I"⟩ : Cond) ∈ TB := TB_mem (List.mem_of_getElem? (i := 693) (by decide +kernel)) rfl
theorem w_694 : (.static ⟨"VowCourtLaw", "hindered", "([I[II)I"⟩ : Cond) ∈ TB := TB_mem (List.mem_of_getElem? (i := 694) (by decide +kernel)) rfl
theorem w_695 : (.code yL_hindered cL_hindered 7 (some .int) : Cond) ∈ TB := TB_mem (List.mem_of_getElem? (i := 695) (by decide +kernel)) rfl
theorem w_927 : (.methodLink "VowCourtLaw" 168 ⟨"VowCourtLaw", "isQuiet", "([I[III)Z"⟩ : Cond) ∈ TB := TB_mem (List.mem_of_getElem? (i := 927) (by decide +kernel)) rfl
theorem w_928 : (.static ⟨"VowCourtLaw", "isQuiet", "([I[III)Z"⟩ : Cond) ∈ TB := TB_mem (List.mem_of_getElem? (i := 928) (by decide +kernel)) rfl
theorem w_929 : (.code yL_isQuiet cL_isQuiet 6 (some .boolean) : Cond) ∈ TB := TB_mem (List.mem_of_getElem? (i := 929) (by decide +kernel)) rfl
theorem dL_isVow_0 : decode cL_isVow 0 = .ok (.iload 9, 2) := by decide +kernel
theorem dL_isVow_2 : decode cL_isVow 2 = .ok (.ifCond .ne 151, 3) := by decide +kernel
theorem dL_isVow_5 : decode cL_isVow 5 = .ok (.iload 10, 2) := by decide +kernel
theorem dL_isVow_7 : decode cL_isVow 7 = .ok (.bipush 9, 2) := by decide +kernel
theorem dL_isVow_9 : decode cL_isVow 9 = .ok (.irem, 1) := by decide +kernel
theorem dL_isVow_10 : decode cL_isVow 10 = .ok (.bipush 8, 2) := by decide +kernel
theorem dL_isVow_12 : decode cL_isVow 12 = .ok (.if_icmp .ne 8, 3) := by decide +kernel
theorem dL_isVow_15 : decode cL_isVow 15 = .ok (.bipush 6, 2) := by decide +kernel
theorem dL_isVow_17 : decode cL_isVow 17 = .ok (.goto 7, 3) := by decide +kernel
theorem dL_isVow_20 : decode cL_isVow 20 = .ok (.iload 10, 2) := by decide +kernel
theorem dL_isVow_22 : decode cL_isVow 22 = .ok (.iconst 2, 1) := by decide +kernel
theorem dL_isVow_23 : decode cL_isVow 23 = .ok (.irem, 1) := by decide +kernel
theorem dL_isVow_24 : decode cL_isVow 24 = .ok (.istore 12, 2) := by decide +kernel
theorem dL_isVow_26 : decode cL_isVow 26 = .ok (.iload 11, 2) := by decide +kernel
theorem dL_isVow_28 : decode cL_isVow 28 = .ok (.bipush 9, 2) := by decide +kernel
theorem dL_isVow_30 : decode cL_isVow 30 = .ok (.irem, 1) := by decide +kernel
theorem dL_isVow_31 : decode cL_isVow 31 = .ok (.istore 13, 2) := by decide +kernel
theorem dL_isVow_33 : decode cL_isVow 33 = .ok (.iload 10, 2) := by decide +kernel
theorem dL_isVow_35 : decode cL_isVow 35 = .ok (.bipush 9, 2) := by decide +kernel
theorem dL_isVow_37 : decode cL_isVow 37 = .ok (.idiv, 1) := by decide +kernel
theorem dL_isVow_38 : decode cL_isVow 38 = .ok (.bipush 9, 2) := by decide +kernel
theorem dL_isVow_40 : decode cL_isVow 40 = .ok (.irem, 1) := by decide +kernel
theorem dL_isVow_41 : decode cL_isVow 41 = .ok (.ifCond .ne 17, 3) := by decide +kernel
theorem dL_isVow_44 : decode cL_isVow 44 = .ok (.iload 10, 2) := by decide +kernel
theorem dL_isVow_46 : decode cL_isVow 46 = .ok (.bipush 81, 2) := by decide +kernel
theorem dL_isVow_48 : decode cL_isVow 48 = .ok (.idiv, 1) := by decide +kernel
theorem dL_isVow_49 : decode cL_isVow 49 = .ok (.iconst 2, 1) := by decide +kernel
theorem dL_isVow_50 : decode cL_isVow 50 = .ok (.irem, 1) := by decide +kernel
theorem dL_isVow_51 : decode cL_isVow 51 = .ok (.sipush 10001, 3) := by decide +kernel
theorem dL_isVow_54 : decode cL_isVow 54 = .ok (.imul, 1) := by decide +kernel
theorem dL_isVow_55 : decode cL_isVow 55 = .ok (.goto 12, 3) := by decide +kernel
theorem dL_isVow_58 : decode cL_isVow 58 = .ok (.iload 10, 2) := by decide +kernel
theorem dL_isVow_60 : decode cL_isVow 60 = .ok (.bipush 9, 2) := by decide +kernel
theorem dL_isVow_62 : decode cL_isVow 62 = .ok (.idiv, 1) := by decide +kernel
theorem dL_isVow_63 : decode cL_isVow 63 = .ok (.sipush 400, 3) := by decide +kernel
theorem dL_isVow_66 : decode cL_isVow 66 = .ok (.irem, 1) := by decide +kernel
theorem dL_isVow_67 : decode cL_isVow 67 = .ok (.istore 14, 2) := by decide +kernel
theorem dL_isVow_69 : decode cL_isVow 69 = .ok (.iload 12, 2) := by decide +kernel
theorem dL_isVow_71 : decode cL_isVow 71 = .ok (.bipush 6, 2) := by decide +kernel
theorem dL_isVow_73 : decode cL_isVow 73 = .ok (.if_icmp .ge 22, 3) := by decide +kernel
theorem dL_isVow_76 : decode cL_isVow 76 = .ok (.iload 13, 2) := by decide +kernel
theorem dL_isVow_78 : decode cL_isVow 78 = .ok (.bipush 8, 2) := by decide +kernel
theorem dL_isVow_80 : decode cL_isVow 80 = .ok (.if_icmp .ge 15, 3) := by decide +kernel
theorem dL_isVow_83 : decode cL_isVow 83 = .ok (.iload 14, 2) := by decide +kernel
theorem dL_isVow_85 : decode cL_isVow 85 = .ok (.sipush 10001, 3) := by decide +kernel
theorem dL_isVow_88 : decode cL_isVow 88 = .ok (.if_icmp .ge 7, 3) := by decide +kernel
theorem dL_isVow_91 : decode cL_isVow 91 = .ok (.iconst 1, 1) := by decide +kernel
theorem dL_isVow_92 : decode cL_isVow 92 = .ok (.goto 4, 3) := by decide +kernel
theorem dL_isVow_95 : decode cL_isVow 95 = .ok (.iconst 0, 1) := by decide +kernel
theorem dL_isVow_96 : decode cL_isVow 96 = .ok (.istore 15, 2) := by decide +kernel
theorem dL_isVow_98 : decode cL_isVow 98 = .ok (.iload 15, 2) := by decide +kernel
theorem dL_isVow_100 : decode cL_isVow 100 = .ok (.ifCond .eq 20, 3) := by decide +kernel
theorem dL_isVow_103 : decode cL_isVow 103 = .ok (.aload_n 3, 1) := by decide +kernel
theorem dL_isVow_104 : decode cL_isVow 104 = .ok (.bipush 8, 2) := by decide +kernel
theorem dL_isVow_106 : decode cL_isVow 106 = .ok (.iload 12, 2) := by decide +kernel
theorem dL_isVow_108 : decode cL_isVow 108 = .ok (.imul, 1) := by decide +kernel
theorem dL_isVow_109 : decode cL_isVow 109 = .ok (.iload 13, 2) := by decide +kernel
theorem dL_isVow_111 : decode cL_isVow 111 = .ok (.iadd, 1) := by decide +kernel
theorem dL_isVow_112 : decode cL_isVow 112 = .ok (.aload 8, 2) := by decide +kernel
theorem dL_isVow_114 : decode cL_isVow 114 = .ok (.iconst 0, 1) := by decide +kernel
theorem dL_isVow_115 : decode cL_isVow 115 = .ok (.iaload, 1) := by decide +kernel
theorem dL_isVow_116 : decode cL_isVow 116 = .ok (.iload 14, 2) := by decide +kernel
theorem dL_isVow_118 : decode cL_isVow 118 = .ok (.iadd, 1) := by decide +kernel
theorem dL_isVow_119 : decode cL_isVow 119 = .ok (.iastore, 1) := by decide +kernel
theorem dL_isVow_120 : decode cL_isVow 120 = .ok (.aload_n 0, 1) := by decide +kernel
theorem dL_isVow_121 : decode cL_isVow 121 = .ok (.bipush 7, 2) := by decide +kernel
theorem dL_isVow_123 : decode cL_isVow 123 = .ok (.iload 12, 2) := by decide +kernel
theorem dL_isVow_125 : decode cL_isVow 125 = .ok (.iload 13, 2) := by decide +kernel
theorem dL_isVow_127 : decode cL_isVow 127 = .ok (.iload 14, 2) := by decide +kernel
theorem dL_isVow_129 : decode cL_isVow 129 = .ok (.iconst 0, 1) := by decide +kernel
theorem dL_isVow_130 : decode cL_isVow 130 = .ok (.invokestatic 150, 3) := by decide +kernel
theorem dL_isVow_133 : decode cL_isVow 133 = .ok (.iload 15, 2) := by decide +kernel
theorem dL_isVow_135 : decode cL_isVow 135 = .ok (.ifCond .eq 7, 3) := by decide +kernel
theorem dL_isVow_138 : decode cL_isVow 138 = .ok (.iconst 0, 1) := by decide +kernel
theorem dL_isVow_139 : decode cL_isVow 139 = .ok (.goto 5, 3) := by decide +kernel
theorem dL_isVow_142 : decode cL_isVow 142 = .ok (.ldc 97, 2) := by decide +kernel
theorem dL_isVow_144 : decode cL_isVow 144 = .ok (.if_icmp .ne 7, 3) := by decide +kernel
theorem dL_isVow_147 : decode cL_isVow 147 = .ok (.iconst 1, 1) := by decide +kernel
theorem dL_isVow_148 : decode cL_isVow 148 = .ok (.goto 4, 3) := by decide +kernel
theorem dL_isVow_151 : decode cL_isVow 151 = .ok (.iconst 0, 1) := by decide +kernel
theorem dL_isVow_152 : decode cL_isVow 152 = .ok (.ireturn, 1) := by decide +kernel
theorem dL_isVow_153 : decode cL_isVow 153 = .ok (.iload 9, 2) := by decide +kernel
theorem dL_isVow_155 : decode cL_isVow 155 = .ok (.iconst 1, 1) := by decide +kernel
theorem dL_isVow_156 : decode cL_isVow 156 = .ok (.if_icmp .ne 73, 3) := by decide +kernel
theorem dL_isVow_159 : decode cL_isVow 159 = .ok (.iload 10, 2) := by decide +kernel
theorem dL_isVow_161 : decode cL_isVow 161 = .ok (.bipush 9, 2) := by decide +kernel
theorem dL_isVow_163 : decode cL_isVow 163 = .ok (.irem, 1) := by decide +kernel
theorem dL_isVow_164 : decode cL_isVow 164 = .ok (.istore 12, 2) := by decide +kernel
theorem dL_isVow_166 : decode cL_isVow 166 = .ok (.aload_n 3, 1) := by decide +kernel
theorem dL_isVow_167 : decode cL_isVow 167 = .ok (.bipush 16, 2) := by decide +kernel
theorem dL_isVow_169 : decode cL_isVow 169 = .ok (.dup2, 1) := by decide +kernel
theorem dL_isVow_170 : decode cL_isVow 170 = .ok (.iaload, 1) := by decide +kernel
theorem dL_isVow_171 : decode cL_isVow 171 = .ok (.iload 12, 2) := by decide +kernel
theorem dL_isVow_173 : decode cL_isVow 173 = .ok (.bipush 8, 2) := by decide +kernel
theorem dL_isVow_175 : decode cL_isVow 175 = .ok (.if_icmp .ge 10, 3) := by decide +kernel
theorem dL_isVow_178 : decode cL_isVow 178 = .ok (.iconst 1, 1) := by decide +kernel
theorem dL_isVow_179 : decode cL_isVow 179 = .ok (.iload 12, 2) := by decide +kernel
theorem dL_isVow_181 : decode cL_isVow 181 = .ok (.ishl, 1) := by decide +kernel
theorem dL_isVow_182 : decode cL_isVow 182 = .ok (.goto 4, 3) := by decide +kernel
theorem dL_isVow_185 : decode cL_isVow 185 = .ok (.iconst 0, 1) := by decide +kernel
theorem dL_isVow_186 : decode cL_isVow 186 = .ok (.ixor, 1) := by decide +kernel
theorem dL_isVow_187 : decode cL_isVow 187 = .ok (.iastore, 1) := by decide +kernel
theorem dL_isVow_188 : decode cL_isVow 188 = .ok (.aload_n 0, 1) := by decide +kernel
theorem dL_isVow_189 : decode cL_isVow 189 = .ok (.bipush 8, 2) := by decide +kernel
theorem dL_isVow_191 : decode cL_isVow 191 = .ok (.iload 12, 2) := by decide +kernel
theorem dL_isVow_193 : decode cL_isVow 193 = .ok (.iconst 0, 1) := by decide +kernel
theorem dL_isVow_194 : decode cL_isVow 194 = .ok (.iconst 0, 1) := by decide +kernel
theorem dL_isVow_195 : decode cL_isVow 195 = .ok (.iconst 0, 1) := by decide +kernel
theorem dL_isVow_196 : decode cL_isVow 196 = .ok (.invokestatic 150, 3) := by decide +kernel
theorem dL_isVow_199 : decode cL_isVow 199 = .ok (.iload 12, 2) := by decide +kernel
theorem dL_isVow_201 : decode cL_isVow 201 = .ok (.bipush 8, 2) := by decide +kernel
theorem dL_isVow_203 : decode cL_isVow 203 = .ok (.if_icmp .ne 8, 3) := by decide +kernel
theorem dL_isVow_206 : decode cL_isVow 206 = .ok (.ldc 97, 2) := by decide +kernel
theorem dL_isVow_208 : decode cL_isVow 208 = .ok (.goto 12, 3) := by decide +kernel
theorem dL_isVow_211 : decode cL_isVow 211 = .ok (.aload_n 3, 1) := by decide +kernel
theorem dL_isVow_212 : decode cL_isVow 212 = .ok (.bipush 16, 2) := by decide +kernel
theorem dL_isVow_214 : decode cL_isVow 214 = .ok (.iaload, 1) := by decide +kernel
theorem dL_isVow_215 : decode cL_isVow 215 = .ok (.iload 12, 2) := by decide +kernel
theorem dL_isVow_217 : decode cL_isVow 217 = .ok (.ishr, 1) := by decide +kernel
theorem dL_isVow_218 : decode cL_isVow 218 = .ok (.iconst 1, 1) := by decide +kernel
theorem dL_isVow_219 : decode cL_isVow 219 = .ok (.iand, 1) := by decide +kernel
theorem dL_isVow_220 : decode cL_isVow 220 = .ok (.if_icmp .ne 7, 3) := by decide +kernel
theorem dL_isVow_223 : decode cL_isVow 223 = .ok (.iconst 1, 1) := by decide +kernel
theorem dL_isVow_224 : decode cL_isVow 224 = .ok (.goto 4, 3) := by decide +kernel
theorem dL_isVow_227 : decode cL_isVow 227 = .ok (.iconst 0, 1) := by decide +kernel
theorem dL_isVow_228 : decode cL_isVow 228 = .ok (.ireturn, 1) := by decide +kernel
theorem dL_isVow_229 : decode cL_isVow 229 = .ok (.iload 9, 2) := by decide +kernel
theorem dL_isVow_231 : decode cL_isVow 231 = .ok (.iconst 2, 1) := by decide +kernel
theorem dL_isVow_232 : decode cL_isVow 232 = .ok (.if_icmp .ne 438, 3) := by decide +kernel
theorem dL_isVow_235 : decode cL_isVow 235 = .ok (.aload 8, 2) := by decide +kernel
theorem dL_isVow_237 : decode cL_isVow 237 = .ok (.iconst 2, 1) := by decide +kernel
theorem dL_isVow_238 : decode cL_isVow 238 = .ok (.iaload, 1) := by decide +kernel
theorem dL_isVow_239 : decode cL_isVow 239 = .ok (.bipush 16, 2) := by decide +kernel
theorem dL_isVow_241 : decode cL_isVow 241 = .ok (.if_icmp .ge 429, 3) := by decide +kernel
theorem dL_isVow_244 : decode cL_isVow 244 = .ok (.iload 10, 2) := by decide +kernel
theorem dL_isVow_246 : decode cL_isVow 246 = .ok (.aload 8, 2) := by decide +kernel
theorem dL_isVow_248 : decode cL_isVow 248 = .ok (.iconst 1, 1) := by decide +kernel
theorem dL_isVow_249 : decode cL_isVow 249 = .ok (.iaload, 1) := by decide +kernel
theorem dL_isVow_250 : decode cL_isVow 250 = .ok (.iconst 1, 1) := by decide +kernel
theorem dL_isVow_251 : decode cL_isVow 251 = .ok (.iadd, 1) := by decide +kernel
theorem dL_isVow_252 : decode cL_isVow 252 = .ok (.irem, 1) := by decide +kernel
theorem dL_isVow_253 : decode cL_isVow 253 = .ok (.istore 12, 2) := by decide +kernel
theorem dL_isVow_255 : decode cL_isVow 255 = .ok (.iload 11, 2) := by decide +kernel
theorem dL_isVow_257 : decode cL_isVow 257 = .ok (.aload 8, 2) := by decide +kernel
theorem dL_isVow_259 : decode cL_isVow 259 = .ok (.iconst 1, 1) := by decide +kernel
theorem dL_isVow_260 : decode cL_isVow 260 = .ok (.iaload, 1) := by decide +kernel
theorem dL_isVow_261 : decode cL_isVow 261 = .ok (.iconst 1, 1) := by decide +kernel
theorem dL_isVow_262 : decode cL_isVow 262 = .ok (.iadd, 1) := by decide +kernel
theorem dL_isVow_263 : decode cL_isVow 263 = .ok (.irem, 1) := by decide +kernel
theorem dL_isVow_264 : decode cL_isVow 264 = .ok (.istore 13, 2) := by decide +kernel
theorem dL_isVow_266 : decode cL_isVow 266 = .ok (.iload 10, 2) := by decide +kernel
theorem dL_isVow_268 : decode cL_isVow 268 = .ok (.bipush 17, 2) := by decide +kernel
theorem dL_isVow_270 : decode cL_isVow 270 = .ok (.idiv, 1) := by decide +kernel
theorem dL_isVow_271 : decode cL_isVow 271 = .ok (.bipush 9, 2) := by decide +kernel
theorem dL_isVow_273 : decode cL_isVow 273 = .ok (.irem, 1) := by decide +kernel
theorem dL_isVow_274 : decode cL_isVow 274 = .ok (.istore 14, 2) := by decide +kernel
theorem dL_isVow_276 : decode cL_isVow 276 = .ok (.iload 11, 2) := by decide +kernel
theorem dL_isVow_278 : decode cL_isVow 278 = .ok (.bipush 17, 2) := by decide +kernel
theorem dL_isVow_280 : decode cL_isVow 280 = .ok (.idiv, 1) := by decide +kernel
theorem dL_isVow_281 : decode cL_isVow 281 = .ok (.bipush 9, 2) := by decide +kernel
theorem dL_isVow_283 : decode cL_isVow 283 = .ok (.irem, 1) := by decide +kernel
theorem dL_isVow_284 : decode cL_isVow 284 = .ok (.bipush 8, 2) := by decide +kernel
theorem dL_isVow_286 : decode cL_isVow 286 = .ok (.if_icmp .ne 7, 3) := by decide +kernel
theorem dL_isVow_289 : decode cL_isVow 289 = .ok (.iconst (-1), 1) := by decide +kernel
theorem dL_isVow_290 : decode cL_isVow 290 = .ok (.goto 10, 3) := by decide +kernel
theorem dL_isVow_293 : decode cL_isVow 293 = .ok (.iload 11, 2) := by decide +kernel
theorem dL_isVow_295 : decode cL_isVow 295 = .ok (.bipush 17, 2) := by decide +kernel
theorem dL_isVow_297 : decode cL_isVow 297 = .ok (.idiv, 1) := by decide +kernel
theorem dL_isVow_298 : decode cL_isVow 298 = .ok (.iconst 2, 1) := by decide +kernel
theorem dL_isVow_299 : decode cL_isVow 299 = .ok (.irem, 1) := by decide +kernel
theorem dL_isVow_300 : decode cL_isVow 300 = .ok (.istore 15, 2) := by decide +kernel
theorem dL_isVow_302 : decode cL_isVow 302 = .ok (.iload 12, 2) := by decide +kernel
theorem dL_isVow_304 : decode cL_isVow 304 = .ok (.aload 8, 2) := by decide +kernel
theorem dL_isVow_306 : decode cL_isVow 306 = .ok (.iconst 1, 1) := by decide +kernel
theorem dL_isVow_307 : decode cL_isVow 307 = .ok (.iaload, 1) := by decide +kernel
theorem dL_isVow_308 : decode cL_isVow 308 = .ok (.if_icmp .ge 16, 3) := by decide +kernel
theorem dL_isVow_311 : decode cL_isVow 311 = .ok (.iload 13, 2) := by decide +kernel
theorem dL_isVow_313 : decode cL_isVow 313 = .ok (.aload 8, 2) := by decide +kernel
theorem dL_isVow_315 : decode cL_isVow 315 = .ok (.iconst 1, 1) := by decide +kernel
theorem dL_isVow_316 : decode cL_isVow 316 = .ok (.iaload, 1) := by decide +kernel
theorem dL_isVow_317 : decode cL_isVow 317 = .ok (.if_icmp .ge 7, 3) := by decide +kernel
theorem dL_isVow_320 : decode cL_isVow 320 = .ok (.iconst 1, 1) := by decide +kernel
theorem dL_isVow_321 : decode cL_isVow 321 = .ok (.goto 4, 3) := by decide +kernel
theorem dL_isVow_324 : decode cL_isVow 324 = .ok (.iconst 0, 1) := by decide +kernel
theorem dL_isVow_325 : decode cL_isVow 325 = .ok (.istore 16, 2) := by decide +kernel
theorem dL_isVow_327 : decode cL_isVow 327 = .ok (.iload 12, 2) := by decide +kernel
theorem dL_isVow_329 : decode cL_isVow 329 = .ok (.iload 13, 2) := by decide +kernel
theorem dL_isVow_331 : decode cL_isVow 331 = .ok (.if_icmp .eq 19, 3) := by decide +kernel
theorem dL_isVow_334 : decode cL_isVow 334 = .ok (.iload 14, 2) := by decide +kernel
theorem dL_isVow_336 : decode cL_isVow 336 = .ok (.bipush 8, 2) := by decide +kernel
theorem dL_isVow_338 : decode cL_isVow 338 = .ok (.if_icmp .ge 12, 3) := by decide +kernel
theorem dL_isVow_341 : decode cL_isVow 341 = .ok (.iload 15, 2) := by decide +kernel
theorem dL_isVow_343 : decode cL_isVow 343 = .ok (.ifCond .lt 7, 3) := by decide +kernel
theorem dL_isVow_346 : decode cL_isVow 346 = .ok (.iconst 1, 1) := by decide +kernel
theorem dL_isVow_347 : decode cL_isVow 347 = .ok (.goto 4, 3) := by decide +kernel
theorem dL_isVow_350 : decode cL_isVow 350 = .ok (.iconst 0, 1) := by decide +kernel
theorem dL_isVow_351 : decode cL_isVow 351 = .ok (.istore 17, 2) := by decide +kernel
theorem dL_isVow_353 : decode cL_isVow 353 = .ok (.iload 16, 2) := by decide +kernel
theorem dL_isVow_355 : decode cL_isVow 355 = .ok (.ifCond .eq 36, 3) := by decide +kernel
theorem dL_isVow_358 : decode cL_isVow 358 = .ok (.iload 17, 2) := by decide +kernel
theorem dL_isVow_360 : decode cL_isVow 360 = .ok (.ifCond .eq 31, 3) := by decide +kernel
theorem dL_isVow_363 : decode cL_isVow 363 = .ok (.aload_n 1, 1) := by decide +kernel
theorem dL_isVow_364 : decode cL_isVow 364 = .ok (.iload 12, 2) := by decide +kernel
theorem dL_isVow_366 : decode cL_isVow 366 = .ok (.iaload, 1) := by decide +kernel
theorem dL_isVow_367 : decode cL_isVow 367 = .ok (.bipush 32, 2) := by decide +kernel
theorem dL_isVow_369 : decode cL_isVow 369 = .ok (.idiv, 1) := by decide +kernel
theorem dL_isVow_370 : decode cL_isVow 370 = .ok (.iconst 4, 1) := by decide +kernel
theorem dL_isVow_371 : decode cL_isVow 371 = .ok (.irem, 1) := by decide +kernel
theorem dL_isVow_372 : decode cL_isVow 372 = .ok (.ifCond .ne 19, 3) := by decide +kernel
theorem dL_isVow_375 : decode cL_isVow 375 = .ok (.aload_n 1, 1) := by decide +kernel
theorem dL_isVow_376 : decode cL_isVow 376 = .ok (.iload 13, 2) := by decide +kernel
theorem dL_isVow_378 : decode cL_isVow 378 = .ok (.iaload, 1) := by decide +kernel
theorem dL_isVow_379 : decode cL_isVow 379 = .ok (.bipush 32, 2) := by decide +kernel
theorem dL_isVow_381 : decode cL_isVow 381 = .ok (.idiv, 1) := by decide +kernel
theorem dL_isVow_382 : decode cL_isVow 382 = .ok (.iconst 4, 1) := by decide +kernel
theorem dL_isVow_383 : decode cL_isVow 383 = .ok (.irem, 1) := by decide +kernel
theorem dL_isVow_384 : decode cL_isVow 384 = .ok (.ifCond .ne 7, 3) := by decide +kernel
theorem dL_isVow_387 : decode cL_isVow 387 = .ok (.iconst 1, 1) := by decide +kernel
theorem dL_isVow_388 : decode cL_isVow 388 = .ok (.goto 4, 3) := by decide +kernel
theorem dL_isVow_391 : decode cL_isVow 391 = .ok (.iconst 0, 1) := by decide +kernel
theorem dL_isVow_392 : decode cL_isVow 392 = .ok (.istore 18, 2) := by decide +kernel
theorem dL_isVow_394 : decode cL_isVow 394 = .ok (.iload 18, 2) := by decide +kernel
theorem dL_isVow_396 : decode cL_isVow 396 = .ok (.ifCond .eq 215, 3) := by decide +kernel
theorem dL_isVow_399 : decode cL_isVow 399 = .ok (.aload_n 1, 1) := by decide +kernel
theorem dL_isVow_400 : decode cL_isVow 400 = .ok (.iload 12, 2) := by decide +kernel
theorem dL_isVow_402 : decode cL_isVow 402 = .ok (.iaload, 1) := by decide +kernel
theorem dL_isVow_403 : decode cL_isVow 403 = .ok (.bipush 8, 2) := by decide +kernel
theorem dL_isVow_405 : decode cL_isVow 405 = .ok (.idiv, 1) := by decide +kernel
theorem dL_isVow_406 : decode cL_isVow 406 = .ok (.iconst 4, 1) := by decide +kernel
theorem dL_isVow_407 : decode cL_isVow 407 = .ok (.irem, 1) := by decide +kernel
theorem dL_isVow_408 : decode cL_isVow 408 = .ok (.ifCond .eq 15, 3) := by decide +kernel
theorem dL_isVow_411 : decode cL_isVow 411 = .ok (.aload_n 1, 1) := by decide +kernel
theorem dL_isVow_412 : decode cL_isVow 412 = .ok (.iload 13, 2) := by decide +kernel
theorem dL_isVow_414 : decode cL_isVow 414 = .ok (.iaload, 1) := by decide +kernel
theorem dL_isVow_415 : decode cL_isVow 415 = .ok (.bipush 8, 2) := by decide +kernel
theorem dL_isVow_417 : decode cL_isVow 417 = .ok (.idiv, 1) := by decide +kernel
theorem dL_isVow_418 : decode cL_isVow 418 = .ok (.iconst 4, 1) := by decide +kernel
theorem dL_isVow_419 : decode cL_isVow 419 = .ok (.irem, 1) := by decide +kernel
theorem dL_isVow_420 : decode cL_isVow 420 = .ok (.ifCond .ne 7, 3) := by decide +kernel
theorem dL_isVow_423 : decode cL_isVow 423 = .ok (.iconst 1, 1) := by decide +kernel
theorem dL_isVow_424 : decode cL_isVow 424 = .ok (.goto 4, 3) := by decide +kernel
theorem dL_isVow_427 : decode cL_isVow 427 = .ok (.iconst 0, 1) := by decide +kernel
theorem dL_isVow_428 : decode cL_isVow 428 = .ok (.istore 19, 2) := by decide +kernel
theorem dL_isVow_430 : decode cL_isVow 430 = .ok (.aload_n 3, 1) := by decide +kernel
theorem dL_isVow_431 : decode cL_isVow 431 = .ok (.bipush 8, 2) := by decide +kernel
theorem dL_isVow_433 : decode cL_isVow 433 = .ok (.iload 15, 2) := by decide +kernel
theorem dL_isVow_435 : decode cL_isVow 435 = .ok (.imul, 1) := by decide +kernel
theorem dL_isVow_436 : decode cL_isVow 436 = .ok (.iload 14, 2) := by decide +kernel
theorem dL_isVow_438 : decode cL_isVow 438 = .ok (.iadd, 1) := by decide +kernel
theorem dL_isVow_439 : decode cL_isVow 439 = .ok (.iaload, 1) := by decide +kernel
theorem dL_isVow_440 : decode cL_isVow 440 = .ok (.aload 8, 2) := by decide +kernel
theorem dL_isVow_442 : decode cL_isVow 442 = .ok (.iconst 0, 1) := by decide +kernel
theorem dL_isVow_443 : decode cL_isVow 443 = .ok (.iaload, 1) := by decide +kernel
theorem dL_isVow_444 : decode cL_isVow 444 = .ok (.if_icmp .gt 16, 3) := by decide +kernel
theorem dL_isVow_447 : decode cL_isVow 447 = .ok (.aload_n 3, 1) := by decide +kernel
theorem dL_isVow_448 : decode cL_isVow 448 = .ok (.bipush 16, 2) := by decide +kernel
theorem dL_isVow_450 : decode cL_isVow 450 = .ok (.iaload, 1) := by decide +kernel
theorem dL_isVow_451 : decode cL_isVow 451 = .ok (.iload 14, 2) := by decide +kernel
theorem dL_isVow_453 : decode cL_isVow 453 = .ok (.ishr, 1) := by decide +kernel
theorem dL_isVow_454 : decode cL_isVow 454 = .ok (.iconst 1, 1) := by decide +kernel
theorem dL_isVow_455 : decode cL_isVow 455 = .ok (.iand, 1) := by decide +kernel
theorem dL_isVow_456 : decode cL_isVow 456 = .ok (.iconst 1, 1) := by decide +kernel
theorem dL_isVow_457 : decode cL_isVow 457 = .ok (.if_icmp .ne 7, 3) := by decide +kernel
theorem dL_isVow_460 : decode cL_isVow 460 = .ok (.iconst 1, 1) := by decide +kernel
theorem dL_isVow_461 : decode cL_isVow 461 = .ok (.goto 4, 3) := by decide +kernel
theorem dL_isVow_464 : decode cL_isVow 464 = .ok (.iconst 0, 1) := by decide +kernel
theorem dL_isVow_465 : decode cL_isVow 465 = .ok (.istore 20, 2) := by decide +kernel
theorem dL_isVow_467 : decode cL_isVow 467 = .ok (.aload_n 1, 1) := by decide +kernel
theorem dL_isVow_468 : decode cL_isVow 468 = .ok (.aload_n 2, 1) := by decide +kernel
theorem dL_isVow_469 : decode cL_isVow 469 = .ok (.iload 12, 2) := by decide +kernel
theorem dL_isVow_471 : decode cL_isVow 471 = .ok (.iload 13, 2) := by decide +kernel
theorem dL_isVow_473 : decode cL_isVow 473 = .ok (.aload 8, 2) := by decide +kernel
theorem dL_isVow_475 : decode cL_isVow 475 = .ok (.iconst 0, 1) := by decide +kernel
theorem dL_isVow_476 : decode cL_isVow 476 = .ok (.iaload, 1) := by decide +kernel
theorem dL_isVow_477 : decode cL_isVow 477 = .ok (.invokestatic 160, 3) := by decide +kernel
theorem dL_isVow_480 : decode cL_isVow 480 = .ok (.istore 21, 2) := by decide +kernel
theorem dL_isVow_482 : decode cL_isVow 482 = .ok (.iconst 1, 1) := by decide +kernel
theorem dL_isVow_483 : decode cL_isVow 483 = .ok (.istore 22, 2) := by decide +kernel
theorem dL_isVow_485 : decode cL_isVow 485 = .ok (.iload 22, 2) := by decide +kernel
theorem dL_isVow_487 : decode cL_isVow 487 = .ok (.bipush 16, 2) := by decide +kernel
theorem dL_isVow_489 : decode cL_isVow 489 = .ok (.if_icmp .ge 45, 3) := by decide +kernel
theorem dL_isVow_492 : decode cL_isVow 492 = .ok (.iload 21, 2) := by decide +kernel
theorem dL_isVow_494 : decode cL_isVow 494 = .ok (.iload 21, 2) := by decide +kernel
theorem dL_isVow_496 : decode cL_isVow 496 = .ok (.iload 22, 2) := by decide +kernel
theorem dL_isVow_498 : decode cL_isVow 498 = .ok (.iand, 1) := by decide +kernel
theorem dL_isVow_499 : decode cL_isVow 499 = .ok (.ifCond .le 22, 3) := by decide +kernel
theorem dL_isVow_502 : decode cL_isVow 502 = .ok (.aload 4, 2) := by decide +kernel
theorem dL_isVow_504 : decode cL_isVow 504 = .ok (.iload 12, 2) := by decide +kernel
theorem dL_isVow_506 : decode cL_isVow 506 = .ok (.iload 13, 2) := by decide +kernel
theorem dL_isVow_508 : decode cL_isVow 508 = .ok (.iload 22, 2) := by decide +kernel
theorem dL_isVow_510 : decode cL_isVow 510 = .ok (.invokestatic 164, 3) := by decide +kernel
theorem dL_isVow_513 : decode cL_isVow 513 = .ok (.ifCond .eq 8, 3) := by decide +kernel
theorem dL_isVow_516 : decode cL_isVow 516 = .ok (.iload 22, 2) := by decide +kernel
theorem dL_isVow_518 : decode cL_isVow 518 = .ok (.goto 4, 3) := by decide +kernel
theorem dL_isVow_521 : decode cL_isVow 521 = .ok (.iconst 0, 1) := by decide +kernel
theorem dL_isVow_522 : decode cL_isVow 522 = .ok (.isub, 1) := by decide +kernel
theorem dL_isVow_523 : decode cL_isVow 523 = .ok (.istore 21, 2) := by decide +kernel
theorem dL_isVow_525 : decode cL_isVow 525 = .ok (.iload 22, 2) := by decide +kernel
theorem dL_isVow_527 : decode cL_isVow 527 = .ok (.iconst 2, 1) := by decide +kernel
theorem dL_isVow_528 : decode cL_isVow 528 = .ok (.imul, 1) := by decide +kernel
theorem dL_isVow_529 : decode cL_isVow 529 = .ok (.istore 22, 2) := by decide +kernel
theorem dL_isVow_531 : decode cL_isVow 531 = .ok (.goto (-46), 3) := by decide +kernel
theorem dL_isVow_534 : decode cL_isVow 534 = .ok (.aload 5, 2) := by decide +kernel
theorem dL_isVow_536 : decode cL_isVow 536 = .ok (.aload 8, 2) := by decide +kernel
theorem dL_isVow_538 : decode cL_isVow 538 = .ok (.iconst 2, 1) := by decide +kernel
theorem dL_isVow_539 : decode cL_isVow 539 = .ok (.iaload, 1) := by decide +kernel
theorem dL_isVow_540 : decode cL_isVow 540 = .ok (.iload 12, 2) := by decide +kernel
theorem dL_isVow_542 : decode cL_isVow 542 = .ok (.bipush 16, 2) := by decide +kernel
theorem dL_isVow_544 : decode cL_isVow 544 = .ok (.iload 13, 2) := by decide +kernel
theorem dL_isVow_546 : decode cL_isVow 546 = .ok (.imul, 1) := by decide +kernel
theorem dL_isVow_547 : decode cL_isVow 547 = .ok (.iadd, 1) := by decide +kernel
theorem dL_isVow_548 : decode cL_isVow 548 = .ok (.sipush 256, 3) := by decide +kernel
theorem dL_isVow_551 : decode cL_isVow 551 = .ok (.iload 14, 2) := by decide +kernel
theorem dL_isVow_553 : decode cL_isVow 553 = .ok (.imul, 1) := by decide +kernel
theorem dL_isVow_554 : decode cL_isVow 554 = .ok (.iadd, 1) := by decide +kernel
theorem dL_isVow_555 : decode cL_isVow 555 = .ok (.iload 19, 2) := by decide +kernel
theorem dL_isVow_557 : decode cL_isVow 557 = .ok (.ifCond .eq 14, 3) := by decide +kernel
theorem dL_isVow_560 : decode cL_isVow 560 = .ok (.iload 20, 2) := by decide +kernel
theorem dL_isVow_562 : decode cL_isVow 562 = .ok (.ifCond .ne 9, 3) := by decide +kernel
theorem dL_isVow_565 : decode cL_isVow 565 = .ok (.sipush 2048, 3) := by decide +kernel
theorem dL_isVow_568 : decode cL_isVow 568 = .ok (.goto 4, 3) := by decide +kernel
theorem dL_isVow_571 : decode cL_isVow 571 = .ok (.iconst 0, 1) := by decide +kernel
theorem dL_isVow_572 : decode cL_isVow 572 = .ok (.iadd, 1) := by decide +kernel
theorem dL_isVow_573 : decode cL_isVow 573 = .ok (.sipush 16384, 3) := by decide +kernel
theorem dL_isVow_576 : decode cL_isVow 576 = .ok (.iload 21, 2) := by decide +kernel
theorem dL_isVow_578 : decode cL_isVow 578 = .ok (.imul, 1) := by decide +kernel
theorem dL_isVow_579 : decode cL_isVow 579 = .ok (.iadd, 1) := by decide +kernel
theorem dL_isVow_580 : decode cL_isVow 580 = .ok (.iastore, 1) := by decide +kernel
theorem dL_isVow_581 : decode cL_isVow 581 = .ok (.aload 6, 2) := by decide +kernel
theorem dL_isVow_583 : decode cL_isVow 583 = .ok (.aload 8, 2) := by decide +kernel
theorem dL_isVow_585 : decode cL_isVow 585 = .ok (.iconst 2, 1) := by decide +kernel
theorem dL_isVow_586 : decode cL_isVow 586 = .ok (.iaload, 1) := by decide +kernel
theorem dL_isVow_587 : decode cL_isVow 587 = .ok (.aload 8, 2) := by decide +kernel
theorem dL_isVow_589 : decode cL_isVow 589 = .ok (.iconst 0, 1) := by decide +kernel
theorem dL_isVow_590 : decode cL_isVow 590 = .ok (.iaload, 1) := by decide +kernel
theorem dL_isVow_591 : decode cL_isVow 591 = .ok (.iastore, 1) := by decide +kernel
theorem dL_isVow_592 : decode cL_isVow 592 = .ok (.aload 6, 2) := by decide +kernel
theorem dL_isVow_594 : decode cL_isVow 594 = .ok (.bipush 16, 2) := by decide +kernel
theorem dL_isVow_596 : decode cL_isVow 596 = .ok (.aload 8, 2) := by decide +kernel
theorem dL_isVow_598 : decode cL_isVow 598 = .ok (.iconst 2, 1) := by decide +kernel
theorem dL_isVow_599 : decode cL_isVow 599 = .ok (.iaload, 1) := by decide +kernel
theorem dL_isVow_600 : decode cL_isVow 600 = .ok (.iadd, 1) := by decide +kernel
theorem dL_isVow_601 : decode cL_isVow 601 = .ok (.iconst (-1), 1) := by decide +kernel
theorem dL_isVow_602 : decode cL_isVow 602 = .ok (.iastore, 1) := by decide +kernel
theorem dL_isVow_603 : decode cL_isVow 603 = .ok (.aload 8, 2) := by decide +kernel
theorem dL_isVow_605 : decode cL_isVow 605 = .ok (.iconst 2, 1) := by decide +kernel
theorem dL_isVow_606 : decode cL_isVow 606 = .ok (.dup2, 1) := by decide +kernel
theorem dL_isVow_607 : decode cL_isVow 607 = .ok (.iaload, 1) := by decide +kernel
theorem dL_isVow_608 : decode cL_isVow 608 = .ok (.iconst 1, 1) := by decide +kernel
theorem dL_isVow_609 : decode cL_isVow 609 = .ok (.iadd, 1) := by decide +kernel
theorem dL_isVow_610 : decode cL_isVow 610 = .ok (.iastore, 1) := by decide +kernel
theorem dL_isVow_611 : decode cL_isVow 611 = .ok (.aload_n 0, 1) := by decide +kernel
theorem dL_isVow_612 : decode cL_isVow 612 = .ok (.bipush 9, 2) := by decide +kernel
theorem dL_isVow_614 : decode cL_isVow 614 = .ok (.iload 12, 2) := by decide +kernel
theorem dL_isVow_616 : decode cL_isVow 616 = .ok (.iload 13, 2) := by decide +kernel
theorem dL_isVow_618 : decode cL_isVow 618 = .ok (.iload 14, 2) := by decide +kernel
theorem dL_isVow_620 : decode cL_isVow 620 = .ok (.iload 15, 2) := by decide +kernel
theorem dL_isVow_622 : decode cL_isVow 622 = .ok (.invokestatic 150, 3) := by decide +kernel
theorem dL_isVow_625 : decode cL_isVow 625 = .ok (.iload 16, 2) := by decide +kernel
theorem dL_isVow_627 : decode cL_isVow 627 = .ok (.ifCond .ne 8, 3) := by decide +kernel
theorem dL_isVow_630 : decode cL_isVow 630 = .ok (.ldc 94, 2) := by decide +kernel
theorem dL_isVow_632 : decode cL_isVow 632 = .ok (.goto 29, 3) := by decide +kernel
theorem dL_isVow_635 : decode cL_isVow 635 = .ok (.iload 17, 2) := by decide +kernel
theorem dL_isVow_637 : decode cL_isVow 637 = .ok (.ifCond .ne 8, 3) := by decide +kernel
theorem dL_isVow_640 : decode cL_isVow 640 = .ok (.ldc 97, 2) := by decide +kernel
theorem dL_isVow_642 : decode cL_isVow 642 = .ok (.goto 19, 3) := by decide +kernel
theorem dL_isVow_645 : decode cL_isVow 645 = .ok (.iload 18, 2) := by decide +kernel
theorem dL_isVow_647 : decode cL_isVow 647 = .ok (.ifCond .eq 12, 3) := by decide +kernel
theorem dL_isVow_650 : decode cL_isVow 650 = .ok (.aload 8, 2) := by decide +kernel
theorem dL_isVow_652 : decode cL_isVow 652 = .ok (.iconst 2, 1) := by decide +kernel
theorem dL_isVow_653 : decode cL_isVow 653 = .ok (.iaload, 1) := by decide +kernel
theorem dL_isVow_654 : decode cL_isVow 654 = .ok (.iconst 1, 1) := by decide +kernel
theorem dL_isVow_655 : decode cL_isVow 655 = .ok (.isub, 1) := by decide +kernel
theorem dL_isVow_656 : decode cL_isVow 656 = .ok (.goto 5, 3) := by decide +kernel
theorem dL_isVow_659 : decode cL_isVow 659 = .ok (.ldc 100, 2) := by decide +kernel
theorem dL_isVow_661 : decode cL_isVow 661 = .ok (.if_icmp .ne 7, 3) := by decide +kernel
theorem dL_isVow_664 : decode cL_isVow 664 = .ok (.iconst 1, 1) := by decide +kernel
theorem dL_isVow_665 : decode cL_isVow 665 = .ok (.goto 4, 3) := by decide +kernel
theorem dL_isVow_668 : decode cL_isVow 668 = .ok (.iconst 0, 1) := by decide +kernel
theorem dL_isVow_669 : decode cL_isVow 669 = .ok (.ireturn, 1) := by decide +kernel
theorem dL_isVow_670 : decode cL_isVow 670 = .ok (.iload 10, 2) := by decide +kernel
theorem dL_isVow_672 : decode cL_isVow 672 = .ok (.aload 8, 2) := by decide +kernel
theorem dL_isVow_674 : decode cL_isVow 674 = .ok (.iconst 2, 1) := by decide +kernel
theorem dL_isVow_675 : decode cL_isVow 675 = .ok (.iaload, 1) := by decide +kernel
theorem dL_isVow_676 : decode cL_isVow 676 = .ok (.iconst 1, 1) := by decide +kernel
theorem dL_isVow_677 : decode cL_isVow 677 = .ok (.iadd, 1) := by decide +kernel
theorem dL_isVow_678 : decode cL_isVow 678 = .ok (.irem, 1) := by decide +kernel
theorem dL_isVow_679 : decode cL_isVow 679 = .ok (.istore 12, 2) := by decide +kernel
theorem dL_isVow_681 : decode cL_isVow 681 = .ok (.iload 12, 2) := by decide +kernel
theorem dL_isVow_683 : decode cL_isVow 683 = .ok (.aload 8, 2) := by decide +kernel
theorem dL_isVow_685 : decode cL_isVow 685 = .ok (.iconst 2, 1) := by decide +kernel
theorem dL_isVow_686 : decode cL_isVow 686 = .ok (.iaload, 1) := by decide +kernel
theorem dL_isVow_687 : decode cL_isVow 687 = .ok (.if_icmp .ge 7, 3) := by decide +kernel
theorem dL_isVow_690 : decode cL_isVow 690 = .ok (.iconst 1, 1) := by decide +kernel
theorem dL_isVow_691 : decode cL_isVow 691 = .ok (.goto 4, 3) := by decide +kernel
theorem dL_isVow_694 : decode cL_isVow 694 = .ok (.iconst 0, 1) := by decide +kernel
theorem dL_isVow_695 : decode cL_isVow 695 = .ok (.istore 13, 2) := by decide +kernel
theorem dL_isVow_697 : decode cL_isVow 697 = .ok (.iload 13, 2) := by decide +kernel
theorem dL_isVow_699 : decode cL_isVow 699 = .ok (.ifCond .eq 14, 3) := by decide +kernel
theorem dL_isVow_702 : decode cL_isVow 702 = .ok (.aload 5, 2) := by decide +kernel
theorem dL_isVow_704 : decode cL_isVow 704 = .ok (.iload 12, 2) := by decide +kernel
theorem dL_isVow_706 : decode cL_isVow 706 = .ok (.iaload, 1) := by decide +kernel
theorem dL_isVow_707 : decode cL_isVow 707 = .ok (.bipush 16, 2) := by decide +kernel
theorem dL_isVow_709 : decode cL_isVow 709 = .ok (.irem, 1) := by decide +kernel
theorem dL_isVow_710 : decode cL_isVow 710 = .ok (.goto 4, 3) := by decide +kernel
theorem dL_isVow_713 : decode cL_isVow 713 = .ok (.iconst 0, 1) := by decide +kernel
theorem dL_isVow_714 : decode cL_isVow 714 = .ok (.istore 14, 2) := by decide +kernel
theorem dL_isVow_716 : decode cL_isVow 716 = .ok (.iload 13, 2) := by decide +kernel
theorem dL_isVow_718 : decode cL_isVow 718 = .ok (.ifCond .eq 17, 3) := by decide +kernel
theorem dL_isVow_721 : decode cL_isVow 721 = .ok (.aload 5, 2) := by decide +kernel
theorem dL_isVow_723 : decode cL_isVow 723 = .ok (.iload 12, 2) := by decide +kernel
theorem dL_isVow_725 : decode cL_isVow 725 = .ok (.iaload, 1) := by decide +kernel
theorem dL_isVow_726 : decode cL_isVow 726 = .ok (.bipush 16, 2) := by decide +kernel
theorem dL_isVow_728 : decode cL_isVow 728 = .ok (.idiv, 1) := by decide +kernel
theorem dL_isVow_729 : decode cL_isVow 729 = .ok (.bipush 16, 2) := by decide +kernel
theorem dL_isVow_731 : decode cL_isVow 731 = .ok (.irem, 1) := by decide +kernel
theorem dL_isVow_732 : decode cL_isVow 732 = .ok (.goto 4, 3) := by decide +kernel
theorem dL_isVow_735 : decode cL_isVow 735 = .ok (.iconst 0, 1) := by decide +kernel
theorem dL_isVow_736 : decode cL_isVow 736 = .ok (.istore 15, 2) := by decide +kernel
theorem dL_isVow_738 : decode cL_isVow 738 = .ok (.iload 13, 2) := by decide +kernel
theorem dL_isVow_740 : decode cL_isVow 740 = .ok (.ifCond .eq 17, 3) := by decide +kernel
theorem dL_isVow_743 : decode cL_isVow 743 = .ok (.aload 5, 2) := by decide +kernel
theorem dL_isVow_745 : decode cL_isVow 745 = .ok (.iload 12, 2) := by decide +kernel
theorem dL_isVow_747 : decode cL_isVow 747 = .ok (.iaload, 1) := by decide +kernel
theorem dL_isVow_748 : decode cL_isVow 748 = .ok (.sipush 4096, 3) := by decide +kernel
theorem dL_isVow_751 : decode cL_isVow 751 = .ok (.idiv, 1) := by decide +kernel
theorem dL_isVow_752 : decode cL_isVow 752 = .ok (.iconst 4, 1) := by decide +kernel
theorem dL_isVow_753 : decode cL_isVow 753 = .ok (.irem, 1) := by decide +kernel
theorem dL_isVow_754 : decode cL_isVow 754 = .ok (.goto 4, 3) := by decide +kernel
theorem dL_isVow_757 : decode cL_isVow 757 = .ok (.iconst 1, 1) := by decide +kernel
theorem dL_isVow_758 : decode cL_isVow 758 = .ok (.istore 16, 2) := by decide +kernel
theorem dL_isVow_760 : decode cL_isVow 760 = .ok (.iload 13, 2) := by decide +kernel
theorem dL_isVow_762 : decode cL_isVow 762 = .ok (.ifCond .eq 22, 3) := by decide +kernel
theorem dL_isVow_765 : decode cL_isVow 765 = .ok (.aload 5, 2) := by decide +kernel
theorem dL_isVow_767 : decode cL_isVow 767 = .ok (.iload 12, 2) := by decide +kernel
theorem dL_isVow_769 : decode cL_isVow 769 = .ok (.iaload, 1) := by decide +kernel
theorem dL_isVow_770 : decode cL_isVow 770 = .ok (.sipush 2048, 3) := by decide +kernel
theorem dL_isVow_773 : decode cL_isVow 773 = .ok (.idiv, 1) := by decide +kernel
theorem dL_isVow_774 : decode cL_isVow 774 = .ok (.iconst 2, 1) := by decide +kernel
theorem dL_isVow_775 : decode cL_isVow 775 = .ok (.irem, 1) := by decide +kernel
theorem dL_isVow_776 : decode cL_isVow 776 = .ok (.iconst 1, 1) := by decide +kernel
theorem dL_isVow_777 : decode cL_isVow 777 = .ok (.if_icmp .ne 7, 3) := by decide +kernel
theorem dL_isVow_780 : decode cL_isVow 780 = .ok (.iconst 1, 1) := by decide +kernel
theorem dL_isVow_781 : decode cL_isVow 781 = .ok (.goto 4, 3) := by decide +kernel
theorem dL_isVow_784 : decode cL_isVow 784 = .ok (.iconst 0, 1) := by decide +kernel
theorem dL_isVow_785 : decode cL_isVow 785 = .ok (.istore 17, 2) := by decide +kernel
theorem dL_isVow_787 : decode cL_isVow 787 = .ok (.iload 13, 2) := by decide +kernel
theorem dL_isVow_789 : decode cL_isVow 789 = .ok (.ifCond .eq 15, 3) := by decide +kernel
theorem dL_isVow_792 : decode cL_isVow 792 = .ok (.aload 5, 2) := by decide +kernel
theorem dL_isVow_794 : decode cL_isVow 794 = .ok (.aload 6, 2) := by decide +kernel
theorem dL_isVow_796 : decode cL_isVow 796 = .ok (.iload 12, 2) := by decide +kernel
theorem dL_isVow_798 : decode cL_isVow 798 = .ok (.invokestatic 140, 3) := by decide +kernel
theorem dL_isVow_801 : decode cL_isVow 801 = .ok (.goto 4, 3) := by decide +kernel
theorem dL_isVow_804 : decode cL_isVow 804 = .ok (.iconst 0, 1) := by decide +kernel
theorem dL_isVow_805 : decode cL_isVow 805 = .ok (.istore 18, 2) := by decide +kernel
theorem dL_isVow_807 : decode cL_isVow 807 = .ok (.iload 9, 2) := by decide +kernel
theorem dL_isVow_809 : decode cL_isVow 809 = .ok (.iconst 4, 1) := by decide +kernel
theorem dL_isVow_810 : decode cL_isVow 810 = .ok (.if_icmp .ge 120, 3) := by decide +kernel
theorem dL_isVow_813 : decode cL_isVow 813 = .ok (.iload 17, 2) := by decide +kernel
theorem dL_isVow_815 : decode cL_isVow 815 = .ok (.ifCond .eq 41, 3) := by decide +kernel
theorem dL_isVow_818 : decode cL_isVow 818 = .ok (.iload 16, 2) := by decide +kernel
theorem dL_isVow_820 : decode cL_isVow 820 = .ok (.ifCond .ne 36, 3) := by decide +kernel
theorem dL_isVow_823 : decode cL_isVow 823 = .ok (.iload 18, 2) := by decide +kernel
theorem dL_isVow_825 : decode cL_isVow 825 = .ok (.ifCond .ne 31, 3) := by decide +kernel
theorem dL_isVow_828 : decode cL_isVow 828 = .ok (.aload_n 1, 1) := by decide +kernel
theorem dL_isVow_829 : decode cL_isVow 829 = .ok (.iload 14, 2) := by decide +kernel
theorem dL_isVow_831 : decode cL_isVow 831 = .ok (.iaload, 1) := by decide +kernel
theorem dL_isVow_832 : decode cL_isVow 832 = .ok (.bipush 64, 2) := by decide +kernel
theorem dL_isVow_834 : decode cL_isVow 834 = .ok (.idiv, 1) := by decide +kernel
theorem dL_isVow_835 : decode cL_isVow 835 = .ok (.iconst 2, 1) := by decide +kernel
theorem dL_isVow_836 : decode cL_isVow 836 = .ok (.irem, 1) := by decide +kernel
theorem dL_isVow_837 : decode cL_isVow 837 = .ok (.ifCond .ne 19, 3) := by decide +kernel
theorem dL_isVow_840 : decode cL_isVow 840 = .ok (.aload_n 1, 1) := by decide +kernel
theorem dL_isVow_841 : decode cL_isVow 841 = .ok (.iload 15, 2) := by decide +kernel
theorem dL_isVow_843 : decode cL_isVow 843 = .ok (.iaload, 1) := by decide +kernel
theorem dL_isVow_844 : decode cL_isVow 844 = .ok (.bipush 64, 2) := by decide +kernel
theorem dL_isVow_846 : decode cL_isVow 846 = .ok (.idiv, 1) := by decide +kernel
theorem dL_isVow_847 : decode cL_isVow 847 = .ok (.iconst 2, 1) := by decide +kernel
theorem dL_isVow_848 : decode cL_isVow 848 = .ok (.irem, 1) := by decide +kernel
theorem dL_isVow_849 : decode cL_isVow 849 = .ok (.ifCond .ne 7, 3) := by decide +kernel
theorem dL_isVow_852 : decode cL_isVow 852 = .ok (.iconst 1, 1) := by decide +kernel
theorem dL_isVow_853 : decode cL_isVow 853 = .ok (.goto 4, 3) := by decide +kernel
theorem dL_isVow_856 : decode cL_isVow 856 = .ok (.iconst 0, 1) := by decide +kernel
theorem dL_isVow_857 : decode cL_isVow 857 = .ok (.istore 19, 2) := by decide +kernel
theorem dL_isVow_859 : decode cL_isVow 859 = .ok (.aload 5, 2) := by decide +kernel
theorem dL_isVow_861 : decode cL_isVow 861 = .ok (.iload 19, 2) := by decide +kernel
theorem dL_isVow_863 : decode cL_isVow 863 = .ok (.ifCond .eq 8, 3) := by decide +kernel
theorem dL_isVow_866 : decode cL_isVow 866 = .ok (.iload 12, 2) := by decide +kernel
theorem dL_isVow_868 : decode cL_isVow 868 = .ok (.goto 5, 3) := by decide +kernel
theorem dL_isVow_871 : decode cL_isVow 871 = .ok (.bipush 16, 2) := by decide +kernel
theorem dL_isVow_873 : decode cL_isVow 873 = .ok (.dup2, 1) := by decide +kernel
theorem dL_isVow_874 : decode cL_isVow 874 = .ok (.iaload, 1) := by decide +kernel
theorem dL_isVow_875 : decode cL_isVow 875 = .ok (.iload 19, 2) := by decide +kernel
theorem dL_isVow_877 : decode cL_isVow 877 = .ok (.ifCond .eq 9, 3) := by decide +kernel
theorem dL_isVow_880 : decode cL_isVow 880 = .ok (.sipush 2048, 3) := by decide +kernel
theorem dL_isVow_883 : decode cL_isVow 883 = .ok (.goto 4, 3) := by decide +kernel
theorem dL_isVow_886 : decode cL_isVow 886 = .ok (.iconst 0, 1) := by decide +kernel
theorem dL_isVow_887 : decode cL_isVow 887 = .ok (.isub, 1) := by decide +kernel
theorem dL_isVow_888 : decode cL_isVow 888 = .ok (.iastore, 1) := by decide +kernel
theorem dL_isVow_889 : decode cL_isVow 889 = .ok (.aload_n 0, 1) := by decide +kernel
theorem dL_isVow_890 : decode cL_isVow 890 = .ok (.bipush 10, 2) := by decide +kernel
theorem dL_isVow_892 : decode cL_isVow 892 = .ok (.iload 12, 2) := by decide +kernel
theorem dL_isVow_894 : decode cL_isVow 894 = .ok (.iconst 0, 1) := by decide +kernel
theorem dL_isVow_895 : decode cL_isVow 895 = .ok (.iconst 0, 1) := by decide +kernel
theorem dL_isVow_896 : decode cL_isVow 896 = .ok (.iconst 0, 1) := by decide +kernel
theorem dL_isVow_897 : decode cL_isVow 897 = .ok (.invokestatic 150, 3) := by decide +kernel
theorem dL_isVow_900 : decode cL_isVow 900 = .ok (.iload 13, 2) := by decide +kernel
theorem dL_isVow_902 : decode cL_isVow 902 = .ok (.ifCond .ne 8, 3) := by decide +kernel
theorem dL_isVow_905 : decode cL_isVow 905 = .ok (.ldc 94, 2) := by decide +kernel
theorem dL_isVow_907 : decode cL_isVow 907 = .ok (.goto 14, 3) := by decide +kernel
theorem dL_isVow_910 : decode cL_isVow 910 = .ok (.iload 19, 2) := by decide +kernel
theorem dL_isVow_912 : decode cL_isVow 912 = .ok (.ifCond .eq 7, 3) := by decide +kernel
theorem dL_isVow_915 : decode cL_isVow 915 = .ok (.iconst 0, 1) := by decide +kernel
theorem dL_isVow_916 : decode cL_isVow 916 = .ok (.goto 5, 3) := by decide +kernel
theorem dL_isVow_919 : decode cL_isVow 919 = .ok (.ldc 100, 2) := by decide +kernel
theorem dL_isVow_921 : decode cL_isVow 921 = .ok (.if_icmp .ne 7, 3) := by decide +kernel
theorem dL_isVow_924 : decode cL_isVow 924 = .ok (.iconst 1, 1) := by decide +kernel
theorem dL_isVow_925 : decode cL_isVow 925 = .ok (.goto 4, 3) := by decide +kernel
theorem dL_isVow_928 : decode cL_isVow 928 = .ok (.iconst 0, 1) := by decide +kernel
theorem dL_isVow_929 : decode cL_isVow 929 = .ok (.ireturn, 1) := by decide +kernel
theorem dL_isVow_930 : decode cL_isVow 930 = .ok (.iload 13, 2) := by decide +kernel
theorem dL_isVow_932 : decode cL_isVow 932 = .ok (.ifCond .eq 20, 3) := by decide +kernel
theorem dL_isVow_935 : decode cL_isVow 935 = .ok (.aload 7, 2) := by decide +kernel
theorem dL_isVow_937 : decode cL_isVow 937 = .ok (.aload 8, 2) := by decide +kernel
theorem dL_isVow_939 : decode cL_isVow 939 = .ok (.iload 12, 2) := by decide +kernel
theorem dL_isVow_941 : decode cL_isVow 941 = .ok (.iconst (-1), 1) := by decide +kernel
theorem dL_isVow_942 : decode cL_isVow 942 = .ok (.invokestatic 168, 3) := by decide +kernel
theorem dL_isVow_945 : decode cL_isVow 945 = .ok (.ifCond .eq 7, 3) := by decide +kernel
theorem dL_isVow_948 : decode cL_isVow 948 = .ok (.iconst 1, 1) := by decide +kernel
theorem dL_isVow_949 : decode cL_isVow 949 = .ok (.goto 4, 3) := by decide +kernel
theorem dL_isVow_952 : decode cL_isVow 952 = .ok (.iconst 0, 1) := by decide +kernel
theorem dL_isVow_953 : decode cL_isVow 953 = .ok (.istore 19, 2) := by decide +kernel
theorem dL_isVow_955 : decode cL_isVow 955 = .ok (.iload 9, 2) := by decide +kernel
theorem dL_isVow_957 : decode cL_isVow 957 = .ok (.iconst 4, 1) := by decide +kernel
theorem dL_isVow_958 : decode cL_isVow 958 = .ok (.if_icmp .ne 78, 3) := by decide +kernel
theorem dL_isVow_961 : decode cL_isVow 961 = .ok (.iload 19, 2) := by decide +kernel
theorem dL_isVow_963 : decode cL_isVow 963 = .ok (.ifCond .eq 12, 3) := by decide +kernel
theorem dL_isVow_966 : decode cL_isVow 966 = .ok (.iload 16, 2) := by decide +kernel
theorem dL_isVow_968 : decode cL_isVow 968 = .ok (.ifCond .ne 7, 3) := by decide +kernel
theorem dL_isVow_971 : decode cL_isVow 971 = .ok (.iconst 1, 1) := by decide +kernel
theorem dL_isVow_972 : decode cL_isVow 972 = .ok (.goto 4, 3) := by decide +kernel
theorem dL_isVow_975 : decode cL_isVow 975 = .ok (.iconst 0, 1) := by decide +kernel
theorem dL_isVow_976 : decode cL_isVow 976 = .ok (.istore 20, 2) := by decide +kernel
theorem dL_isVow_978 : decode cL_isVow 978 = .ok (.iload 20, 2) := by decide +kernel
theorem dL_isVow_980 : decode cL_isVow 980 = .ok (.ifCond .eq 15, 3) := by decide +kernel
theorem dL_isVow_983 : decode cL_isVow 983 = .ok (.aload 5, 2) := by decide +kernel
theorem dL_isVow_985 : decode cL_isVow 985 = .ok (.aload 6, 2) := by decide +kernel
theorem dL_isVow_987 : decode cL_isVow 987 = .ok (.aload 8, 2) := by decide +kernel
theorem dL_isVow_989 : decode cL_isVow 989 = .ok (.iload 12, 2) := by decide +kernel
theorem dL_isVow_991 : decode cL_isVow 991 = .ok (.iconst 2, 1) := by decide +kernel
theorem dL_isVow_992 : decode cL_isVow 992 = .ok (.invokestatic 156, 3) := by decide +kernel
theorem dL_isVow_995 : decode cL_isVow 995 = .ok (.aload_n 0, 1) := by decide +kernel
theorem dL_isVow_996 : decode cL_isVow 996 = .ok (.bipush 11, 2) := by decide +kernel
theorem dL_isVow_998 : decode cL_isVow 998 = .ok (.iload 12, 2) := by decide +kernel
theorem dL_isVow_1000 : decode cL_isVow 1000 = .ok (.iconst 0, 1) := by decide +kernel
theorem dL_isVow_1001 : decode cL_isVow 1001 = .ok (.iconst 0, 1) := by decide +kernel
theorem dL_isVow_1002 : decode cL_isVow 1002 = .ok (.iconst 0, 1) := by decide +kernel
theorem dL_isVow_1003 : decode cL_isVow 1003 = .ok (.invokestatic 150, 3) := by decide +kernel
theorem dL_isVow_1006 : decode cL_isVow 1006 = .ok (.iload 13, 2) := by decide +kernel
theorem dL_isVow_1008 : decode cL_isVow 1008 = .ok (.ifCond .ne 8, 3) := by decide +kernel
theorem dL_isVow_1011 : decode cL_isVow 1011 = .ok (.ldc 94, 2) := by decide +kernel
theorem dL_isVow_1013 : decode cL_isVow 1013 = .ok (.goto 14, 3) := by decide +kernel
theorem dL_isVow_1016 : decode cL_isVow 1016 = .ok (.iload 20, 2) := by decide +kernel
theorem dL_isVow_1018 : decode cL_isVow 1018 = .ok (.ifCond .eq 7, 3) := by decide +kernel
theorem dL_isVow_1021 : decode cL_isVow 1021 = .ok (.iconst 0, 1) := by decide +kernel
theorem dL_isVow_1022 : decode cL_isVow 1022 = .ok (.goto 5, 3) := by decide +kernel
theorem dL_isVow_1025 : decode cL_isVow 1025 = .ok (.ldc 100, 2) := by decide +kernel
theorem dL_isVow_1027 : decode cL_isVow 1027 = .ok (.if_icmp .ne 7, 3) := by decide +kernel
theorem dL_isVow_1030 : decode cL_isVow 1030 = .ok (.iconst 1, 1) := by decide +kernel
theorem dL_isVow_1031 : decode cL_isVow 1031 = .ok (.goto 4, 3) := by decide +kernel
theorem dL_isVow_1034 : decode cL_isVow 1034 = .ok (.iconst 0, 1) := by decide +kernel
theorem dL_isVow_1035 : decode cL_isVow 1035 = .ok (.ireturn, 1) := by decide +kernel
theorem dL_isVow_1036 : decode cL_isVow 1036 = .ok (.iload 18, 2) := by decide +kernel
theorem dL_isVow_1038 : decode cL_isVow 1038 = .ok (.iload 17, 2) := by decide +kernel
theorem dL_isVow_1040 : decode cL_isVow 1040 = .ok (.ifCond .eq 8, 3) := by decide +kernel
theorem dL_isVow_1043 : decode cL_isVow 1043 = .ok (.bipush 16, 2) := by decide +kernel
theorem dL_isVow_1045 : decode cL_isVow 1045 = .ok (.goto 4, 3) := by decide +kernel
theorem dL_isVow_1048 : decode cL_isVow 1048 = .ok (.iconst 0, 1) := by decide +kernel
theorem dL_isVow_1049 : decode cL_isVow 1049 = .ok (.iadd, 1) := by decide +kernel
theorem dL_isVow_1050 : decode cL_isVow 1050 = .ok (.istore 20, 2) := by decide +kernel
theorem dL_isVow_1052 : decode cL_isVow 1052 = .ok (.iload 19, 2) := by decide +kernel
theorem dL_isVow_1054 : decode cL_isVow 1054 = .ok (.ifCond .eq 19, 3) := by decide +kernel
theorem dL_isVow_1057 : decode cL_isVow 1057 = .ok (.iload 16, 2) := by decide +kernel
theorem dL_isVow_1059 : decode cL_isVow 1059 = .ok (.iconst 3, 1) := by decide +kernel
theorem dL_isVow_1060 : decode cL_isVow 1060 = .ok (.irem, 1) := by decide +kernel
theorem dL_isVow_1061 : decode cL_isVow 1061 = .ok (.ifCond .ne 12, 3) := by decide +kernel
theorem dL_isVow_1064 : decode cL_isVow 1064 = .ok (.iload 20, 2) := by decide +kernel
theorem dL_isVow_1066 : decode cL_isVow 1066 = .ok (.ifCond .le 7, 3) := by decide +kernel
theorem dL_isVow_1069 : decode cL_isVow 1069 = .ok (.iconst 1, 1) := by decide +kernel
theorem dL_isVow_1070 : decode cL_isVow 1070 = .ok (.goto 4, 3) := by decide +kernel
theorem dL_isVow_1073 : decode cL_isVow 1073 = .ok (.iconst 0, 1) := by decide +kernel
theorem dL_isVow_1074 : decode cL_isVow 1074 = .ok (.istore 21, 2) := by decide +kernel
theorem dL_isVow_1076 : decode cL_isVow 1076 = .ok (.iload 21, 2) := by decide +kernel
theorem dL_isVow_1078 : decode cL_isVow 1078 = .ok (.ifCond .eq 15, 3) := by decide +kernel
theorem dL_isVow_1081 : decode cL_isVow 1081 = .ok (.aload 5, 2) := by decide +kernel
theorem dL_isVow_1083 : decode cL_isVow 1083 = .ok (.aload 6, 2) := by decide +kernel
theorem dL_isVow_1085 : decode cL_isVow 1085 = .ok (.aload 8, 2) := by decide +kernel
theorem dL_isVow_1087 : decode cL_isVow 1087 = .ok (.iload 12, 2) := by decide +kernel
theorem dL_isVow_1089 : decode cL_isVow 1089 = .ok (.iconst 1, 1) := by decide +kernel
theorem dL_isVow_1090 : decode cL_isVow 1090 = .ok (.invokestatic 156, 3) := by decide +kernel
theorem dL_isVow_1093 : decode cL_isVow 1093 = .ok (.aload_n 0, 1) := by decide +kernel
theorem dL_isVow_1094 : decode cL_isVow 1094 = .ok (.bipush 12, 2) := by decide +kernel
theorem dL_isVow_1096 : decode cL_isVow 1096 = .ok (.iload 12, 2) := by decide +kernel
theorem dL_isVow_1098 : decode cL_isVow 1098 = .ok (.iconst 0, 1) := by decide +kernel
theorem dL_isVow_1099 : decode cL_isVow 1099 = .ok (.iconst 0, 1) := by decide +kernel
theorem dL_isVow_1100 : decode cL_isVow 1100 = .ok (.iconst 0, 1) := by decide +kernel
theorem dL_isVow_1101 : decode cL_isVow 1101 = .ok (.invokestatic 150, 3) := by decide +kernel
theorem dL_isVow_1104 : decode cL_isVow 1104 = .ok (.iload 13, 2) := by decide +kernel
theorem dL_isVow_1106 : decode cL_isVow 1106 = .ok (.ifCond .ne 8, 3) := by decide +kernel
theorem dL_isVow_1109 : decode cL_isVow 1109 = .ok (.ldc 94, 2) := by decide +kernel
theorem dL_isVow_1111 : decode cL_isVow 1111 = .ok (.goto 15, 3) := by decide +kernel
theorem dL_isVow_1114 : decode cL_isVow 1114 = .ok (.iload 21, 2) := by decide +kernel
theorem dL_isVow_1116 : decode cL_isVow 1116 = .ok (.ifCond .eq 8, 3) := by decide +kernel
theorem dL_isVow_1119 : decode cL_isVow 1119 = .ok (.iload 20, 2) := by decide +kernel
theorem dL_isVow_1121 : decode cL_isVow 1121 = .ok (.goto 5, 3) := by decide +kernel
theorem dL_isVow_1124 : decode cL_isVow 1124 = .ok (.ldc 100, 2) := by decide +kernel
theorem dL_isVow_1126 : decode cL_isVow 1126 = .ok (.if_icmp .ne 7, 3) := by decide +kernel
theorem dL_isVow_1129 : decode cL_isVow 1129 = .ok (.iconst 1, 1) := by decide +kernel
theorem dL_isVow_1130 : decode cL_isVow 1130 = .ok (.goto 4, 3) := by decide +kernel
theorem dL_isVow_1133 : decode cL_isVow 1133 = .ok (.iconst 0, 1) := by decide +kernel
theorem dL_isVow_1134 : decode cL_isVow 1134 = .ok (.ireturn, 1) := by decide +kernel
def tab_L_isVow_0 : List (Nat × Sem) := [(0, op_il 9 2), (2, op_if (fun x => ¬ x = 0) 153 5), (5, op_il 10 7), (7, op_ic 9 9), (9, op_dv (fun x y => irm x y) 10), (10, op_ic 8 12), (12, op_cmp (fun x y => ¬ x = y) 20 15), (15, op_ic 6 17), (17, op_go 24), (20, op_il 10 22), (22, op_ic 2 23), (23, op_dv (fun x y => irm x y) 24), (24, op_is 12 26), (26, op_il 11 28), (28, op_ic 9 30), (30, op_dv (fun x y => irm x y) 31), (31, op_is 13 33), (33, op_il 10 35), (35, op_ic 9 37), (37, op_dv (fun x y => x / y) 38), (38, op_ic 9 40), (40, op_dv (fun x y => irm x y) 41), (41, op_if (fun x => ¬ x = 0) 58 44), (44, op_il 10 46), (46, op_ic 81 48), (48, op_dv (fun x y => x / y) 49), (49, op_ic 2 50), (50, op_dv (fun x y => irm x y) 51), (51, op_ic 10001 54), (54, op_bin (fun x y => x * y) 55), (55, op_go 67), (58, op_il 10 60), (60, op_ic 9 62), (62, op_dv (fun x y => x / y) 63), (63, op_ic 400 66), (66, op_dv (fun x y => irm x y) 67), (67, op_is 14 69), (69, op_il 12 71), (71, op_ic 6 73), (73, op_cmp (fun x y => y ≤ x) 95 76), (76, op_il 13 78), (78, op_ic 8 80), (80, op_cmp (fun x y => y ≤ x) 95 83), (83, op_il 14 85), (85, op_ic 10001 88), (88, op_cmp (fun x y => y ≤ x) 95 91), (91, op_ic 1 92), (92, op_go 96), (95, op_ic 0 96), (96, op_is 15 98), (98, op_il 15 100), (100, op_if (fun x => x = 0) 120 103), (103, op_al 3 104), (104, op_ic 8 106), (106, op_il 12 108), (108, op_bin (fun x y => x * y) 109), (109, op_il 13 111), (111, op_bin (fun x y => x + y) 112), (112, op_al 8 114), (114, op_ic 0 115)]
set_option maxRecDepth 20000 in
theorem tok_L_isVow_0 : ∀ q ∈ tab_L_isVow_0, GSnd RL cL_isVow 23 13 20 (some .boolean) q.1 q.2 := by
  unfold tab_L_isVow_0
  refine gcons (snd_g (ok_iload dL_isVow_0 rfl)) ?_
  refine gcons (snd_g (ok_if_ne dL_isVow_2 rfl rfl)) ?_
  refine gcons (snd_g (ok_iload dL_isVow_5 rfl)) ?_
  refine gcons (snd_g (ok_bipush dL_isVow_7 rfl rfl)) ?_
  refine gcons (snd_g (ok_irem dL_isVow_9 rfl)) ?_
  refine gcons (snd_g (ok_bipush dL_isVow_10 rfl rfl)) ?_
  refine gcons (snd_g (ok_icmp_ne dL_isVow_12 rfl rfl)) ?_
  refine gcons (snd_g (ok_bipush dL_isVow_15 rfl rfl)) ?_
  refine gcons (snd_g (ok_goto dL_isVow_17 rfl)) ?_
  refine gcons (snd_g (ok_iload dL_isVow_20 rfl)) ?_
  refine gcons (snd_g (ok_iconst dL_isVow_22 rfl rfl)) ?_
  refine gcons (snd_g (ok_irem dL_isVow_23 rfl)) ?_
  refine gcons (snd_g (ok_istore dL_isVow_24 (by decide) rfl)) ?_
  refine gcons (snd_g (ok_iload dL_isVow_26 rfl)) ?_
  refine gcons (snd_g (ok_bipush dL_isVow_28 rfl rfl)) ?_
  refine gcons (snd_g (ok_irem dL_isVow_30 rfl)) ?_
  refine gcons (snd_g (ok_istore dL_isVow_31 (by decide) rfl)) ?_
  refine gcons (snd_g (ok_iload dL_isVow_33 rfl)) ?_
  refine gcons (snd_g (ok_bipush dL_isVow_35 rfl rfl)) ?_
  refine gcons (snd_g (ok_idiv dL_isVow_37 rfl)) ?_
  refine gcons (snd_g (ok_bipush dL_isVow_38 rfl rfl)) ?_
  refine gcons (snd_g (ok_irem dL_isVow_40 rfl)) ?_
  refine gcons (snd_g (ok_if_ne dL_isVow_41 rfl rfl)) ?_
  refine gcons (snd_g (ok_iload dL_isVow_44 rfl)) ?_
  refine gcons (snd_g (ok_bipush dL_isVow_46 rfl rfl)) ?_
  refine gcons (snd_g (ok_idiv dL_isVow_48 rfl)) ?_
  refine gcons (snd_g (ok_iconst dL_isVow_49 rfl rfl)) ?_
  refine gcons (snd_g (ok_irem dL_isVow_50 rfl)) ?_
  refine gcons (snd_g (ok_sipush dL_isVow_51 rfl rfl)) ?_
  refine gcons (snd_g (ok_imul dL_isVow_54 rfl)) ?_
  refine gcons (snd_g (ok_goto dL_isVow_55 rfl)) ?_
  refine gcons (snd_g (ok_iload dL_isVow_58 rfl)) ?_
  refine gcons (snd_g (ok_bipush dL_isVow_60 rfl rfl)) ?_
  refine gcons (snd_g (ok_idiv dL_isVow_62 rfl)) ?_
  refine gcons (snd_g (ok_sipush dL_isVow_63 rfl rfl)) ?_
  refine gcons (snd_g (ok_irem dL_isVow_66 rfl)) ?_
  refine gcons (snd_g (ok_istore dL_isVow_67 (by decide) rfl)) ?_
  refine gcons (snd_g (ok_iload dL_isVow_69 rfl)) ?_
  refine gcons (snd_g (ok_bipush dL_isVow_71 rfl rfl)) ?_
  refine gcons (snd_g (ok_icmp_ge dL_isVow_73 rfl rfl)) ?_
  refine gcons (snd_g (ok_iload dL_isVow_76 rfl)) ?_
  refine gcons (snd_g (ok_bipush dL_isVow_78 rfl rfl)) ?_
  refine gcons (snd_g (ok_icmp_ge dL_isVow_80 rfl rfl)) ?_
  refine gcons (snd_g (ok_iload dL_isVow_83 rfl)) ?_
  refine gcons (snd_g (ok_sipush dL_isVow_85 rfl rfl)) ?_
  refine gcons (snd_g (ok_icmp_ge dL_isVow_88 rfl rfl)) ?_
  refine gcons (snd_g (ok_iconst dL_isVow_91 rfl rfl)) ?_
  refine gcons (snd_g (ok_goto dL_isVow_92 rfl)) ?_
  refine gcons (snd_g (ok_iconst dL_isVow_95 rfl rfl)) ?_
  refine gcons (snd_g (ok_istore dL_isVow_96 (by decide) rfl)) ?_
  refine gcons (snd_g (ok_iload dL_isVow_98 rfl)) ?_
  refine gcons (snd_g (ok_if_eq dL_isVow_100 rfl rfl)) ?_
  refine gcons (snd_g (ok_aload_n dL_isVow_103 rfl rfl)) ?_
  refine gcons (snd_g (ok_bipush dL_isVow_104 rfl rfl)) ?_
  refine gcons (snd_g (ok_iload dL_isVow_106 rfl)) ?_
  refine gcons (snd_g (ok_imul dL_isVow_108 rfl)) ?_
  refine gcons (snd_g (ok_iload dL_isVow_109 rfl)) ?_
  refine gcons (snd_g (ok_iadd dL_isVow_111 rfl)) ?_
  refine gcons (snd_g (ok_aload dL_isVow_112 rfl)) ?_
  refine gcons (snd_g (ok_iconst dL_isVow_114 rfl rfl)) ?_
  exact fun _ h => nomatch h
def tab_L_isVow_1 : List (Nat × Sem) := [(115, op_iald 116), (116, op_il 14 118), (118, op_bin (fun x y => x + y) 119), (119, op_iast 120), (120, op_al 0 121), (121, op_ic 7 123), (123, op_il 12 125), (125, op_il 13 127), (127, op_il 14 129), (129, op_ic 0 130), (130, op_callHN sp_L_does 6 16 133), (133, op_il 15 135), (135, op_if (fun x => x = 0) 142 138), (138, op_ic 0 139), (139, op_go 144), (142, op_ic (-2000000) 144), (144, op_cmp (fun x y => ¬ x = y) 151 147), (147, op_ic 1 148), (148, op_go 152), (151, op_ic 0 152), (152, op_zret), (153, op_il 9 155), (155, op_ic 1 156), (156, op_cmp (fun x y => ¬ x = y) 229 159), (159, op_il 10 161), (161, op_ic 9 163), (163, op_dv (fun x y => irm x y) 164), (164, op_is 12 166), (166, op_al 3 167), (167, op_ic 16 169), (169, op_dup2 170), (170, op_iald 171), (171, op_il 12 173), (173, op_ic 8 175), (175, op_cmp (fun x y => y ≤ x) 185 178), (178, op_ic 1 179), (179, op_il 12 181), (181, op_bin (fun x y => x <<< (y &&& 31)) 182), (182, op_go 186), (185, op_ic 0 186), (186, op_bin (fun x y => x ^^^ y) 187), (187, op_iast 188), (188, op_al 0 189), (189, op_ic 8 191), (191, op_il 12 193), (193, op_ic 0 194), (194, op_ic 0 195), (195, op_ic 0 196), (196, op_callHN sp_L_does 6 16 199), (199, op_il 12 201), (201, op_ic 8 203), (203, op_cmp (fun x y => ¬ x = y) 211 206), (206, op_ic (-2000000) 208), (208, op_go 220), (211, op_al 3 212), (212, op_ic 16 214), (214, op_iald 215), (215, op_il 12 217), (217, op_bin (fun x y => x >>> (y &&& 31)) 218), (218, op_ic 1 219)]
set_option maxRecDepth 20000 in
theorem tok_L_isVow_1 : ∀ q ∈ tab_L_isVow_1, GSnd RL cL_isVow 23 13 20 (some .boolean) q.1 q.2 := by
  unfold tab_L_isVow_1
  refine gcons (snd_g (ok_iaload dL_isVow_115 rfl)) ?_
  refine gcons (snd_g (ok_iload dL_isVow_116 rfl)) ?_
  refine gcons (snd_g (ok_iadd dL_isVow_118 rfl)) ?_
  refine gcons (snd_g (ok_iastore dL_isVow_119 rfl)) ?_
  refine gcons (snd_g (ok_aload_n dL_isVow_120 rfl rfl)) ?_
  refine gcons (snd_g (ok_bipush dL_isVow_121 rfl rfl)) ?_
  refine gcons (snd_g (ok_iload dL_isVow_123 rfl)) ?_
  refine gcons (snd_g (ok_iload dL_isVow_125 rfl)) ?_
  refine gcons (snd_g (ok_iload dL_isVow_127 rfl)) ?_
  refine gcons (snd_g (ok_iconst dL_isVow_129 rfl rfl)) ?_
  refine gcons (ok_invokestaticHN M_L_does w_128 w_129 w_19 w_130 ⟨by decide, by decide, by decide +kernel⟩ (by decide) (by decide) dL_isVow_130 rfl) ?_
  refine gcons (snd_g (ok_iload dL_isVow_133 rfl)) ?_
  refine gcons (snd_g (ok_if_eq dL_isVow_135 rfl rfl)) ?_
  refine gcons (snd_g (ok_iconst dL_isVow_138 rfl rfl)) ?_
  refine gcons (snd_g (ok_goto dL_isVow_139 rfl)) ?_
  refine gcons (snd_g (ok_ldc w_684 dL_isVow_142 rfl)) ?_
  refine gcons (snd_g (ok_icmp_ne dL_isVow_144 rfl rfl)) ?_
  refine gcons (snd_g (ok_iconst dL_isVow_147 rfl rfl)) ?_
  refine gcons (snd_g (ok_goto dL_isVow_148 rfl)) ?_
  refine gcons (snd_g (ok_iconst dL_isVow_151 rfl rfl)) ?_
  refine gcons (snd_g (ok_zreturn rfl (Or.inl rfl) dL_isVow_152)) ?_
  refine gcons (snd_g (ok_iload dL_isVow_153 rfl)) ?_
  refine gcons (snd_g (ok_iconst dL_isVow_155 rfl rfl)) ?_
  refine gcons (snd_g (ok_icmp_ne dL_isVow_156 rfl rfl)) ?_
  refine gcons (snd_g (ok_iload dL_isVow_159 rfl)) ?_
  refine gcons (snd_g (ok_bipush dL_isVow_161 rfl rfl)) ?_
  refine gcons (snd_g (ok_irem dL_isVow_163 rfl)) ?_
  refine gcons (snd_g (ok_istore dL_isVow_164 (by decide) rfl)) ?_
  refine gcons (snd_g (ok_aload_n dL_isVow_166 rfl rfl)) ?_
  refine gcons (snd_g (ok_bipush dL_isVow_167 rfl rfl)) ?_
  refine gcons (snd_g (ok_dup2 dL_isVow_169 rfl)) ?_
  refine gcons (snd_g (ok_iaload dL_isVow_170 rfl)) ?_
  refine gcons (snd_g (ok_iload dL_isVow_171 rfl)) ?_
  refine gcons (snd_g (ok_bipush dL_isVow_173 rfl rfl)) ?_
  refine gcons (snd_g (ok_icmp_ge dL_isVow_175 rfl rfl)) ?_
  refine gcons (snd_g (ok_iconst dL_isVow_178 rfl rfl)) ?_
  refine gcons (snd_g (ok_iload dL_isVow_179 rfl)) ?_
  refine gcons (snd_g (ok_ishl dL_isVow_181 rfl)) ?_
  refine gcons (snd_g (ok_goto dL_isVow_182 rfl)) ?_
  refine gcons (snd_g (ok_iconst dL_isVow_185 rfl rfl)) ?_
  refine gcons (snd_g (ok_ixor dL_isVow_186 rfl)) ?_
  refine gcons (snd_g (ok_iastore dL_isVow_187 rfl)) ?_
  refine gcons (snd_g (ok_aload_n dL_isVow_188 rfl rfl)) ?_
  refine gcons (snd_g (ok_bipush dL_isVow_189 rfl rfl)) ?_
  refine gcons (snd_g (ok_iload dL_isVow_191 rfl)) ?_
  refine gcons (snd_g (ok_iconst dL_isVow_193 rfl rfl)) ?_
  refine gcons (snd_g (ok_iconst dL_isVow_194 rfl rfl)) ?_
  refine gcons (snd_g (ok_iconst dL_isVow_195 rfl rfl)) ?_
  refine gcons (ok_invokestaticHN M_L_does w_128 w_129 w_19 w_130 ⟨by decide, by decide, by decide +kernel⟩ (by decide) (by decide) dL_isVow_196 rfl) ?_
  refine gcons (snd_g (ok_iload dL_isVow_199 rfl)) ?_
  refine gcons (snd_g (ok_bipush dL_isVow_201 rfl rfl)) ?_
  refine gcons (snd_g (ok_icmp_ne dL_isVow_203 rfl rfl)) ?_
  refine gcons (snd_g (ok_ldc w_684 dL_isVow_206 rfl)) ?_
  refine gcons (snd_g (ok_goto dL_isVow_208 rfl)) ?_
  refine gcons (snd_g (ok_aload_n dL_isVow_211 rfl rfl)) ?_
  refine gcons (snd_g (ok_bipush dL_isVow_212 rfl rfl)) ?_
  refine gcons (snd_g (ok_iaload dL_isVow_214 rfl)) ?_
  refine gcons (snd_g (ok_iload dL_isVow_215 rfl)) ?_
  refine gcons (snd_g (ok_ishr dL_isVow_217 rfl)) ?_
  refine gcons (snd_g (ok_iconst dL_isVow_218 rfl rfl)) ?_
  exact fun _ h => nomatch h
def tab_L_isVow_2 : List (Nat × Sem) := [(219, op_bin (fun x y => x &&& y) 220), (220, op_cmp (fun x y => ¬ x = y) 227 223), (223, op_ic 1 224), (224, op_go 228), (227, op_ic 0 228), (228, op_zret), (229, op_il 9 231), (231, op_ic 2 232), (232, op_cmp (fun x y => ¬ x = y) 670 235), (235, op_al 8 237), (237, op_ic 2 238), (238, op_iald 239), (239, op_ic 16 241), (241, op_cmp (fun x y => y ≤ x) 670 244), (244, op_il 10 246), (246, op_al 8 248), (248, op_ic 1 249), (249, op_iald 250), (250, op_ic 1 251), (251, op_bin (fun x y => x + y) 252), (252, op_dv (fun x y => irm x y) 253), (253, op_is 12 255), (255, op_il 11 257), (257, op_al 8 259), (259, op_ic 1 260), (260, op_iald 261), (261, op_ic 1 262), (262, op_bin (fun x y => x + y) 263), (263, op_dv (fun x y => irm x y) 264), (264, op_is 13 266), (266, op_il 10 268), (268, op_ic 17 270), (270, op_dv (fun x y => x / y) 271), (271, op_ic 9 273), (273, op_dv (fun x y => irm x y) 274), (274, op_is 14 276), (276, op_il 11 278), (278, op_ic 17 280), (280, op_dv (fun x y => x / y) 281), (281, op_ic 9 283), (283, op_dv (fun x y => irm x y) 284), (284, op_ic 8 286), (286, op_cmp (fun x y => ¬ x = y) 293 289), (289, op_ic (-1) 290), (290, op_go 300), (293, op_il 11 295), (295, op_ic 17 297), (297, op_dv (fun x y => x / y) 298), (298, op_ic 2 299), (299, op_dv (fun x y => irm x y) 300), (300, op_is 15 302), (302, op_il 12 304), (304, op_al 8 306), (306, op_ic 1 307), (307, op_iald 308), (308, op_cmp (fun x y => y ≤ x) 324 311), (311, op_il 13 313), (313, op_al 8 315), (315, op_ic 1 316), (316, op_iald 317)]
set_option maxRecDepth 20000 in
theorem tok_L_isVow_2 : ∀ q ∈ tab_L_isVow_2, GSnd RL cL_isVow 23 13 20 (some .boolean) q.1 q.2 := by
  unfold tab_L_isVow_2
  refine gcons (snd_g (ok_iand dL_isVow_219 rfl)) ?_
  refine gcons (snd_g (ok_icmp_ne dL_isVow_220 rfl rfl)) ?_
  refine gcons (snd_g (ok_iconst dL_isVow_223 rfl rfl)) ?_
  refine gcons (snd_g (ok_goto dL_isVow_224 rfl)) ?_
  refine gcons (snd_g (ok_iconst dL_isVow_227 rfl rfl)) ?_
  refine gcons (snd_g (ok_zreturn rfl (Or.inl rfl) dL_isVow_228)) ?_
  refine gcons (snd_g (ok_iload dL_isVow_229 rfl)) ?_
  refine gcons (snd_g (ok_iconst dL_isVow_231 rfl rfl)) ?_
  refine gcons (snd_g (ok_icmp_ne dL_isVow_232 rfl rfl)) ?_
  refine gcons (snd_g (ok_aload dL_isVow_235 rfl)) ?_
  refine gcons (snd_g (ok_iconst dL_isVow_237 rfl rfl)) ?_
  refine gcons (snd_g (ok_iaload dL_isVow_238 rfl)) ?_
  refine gcons (snd_g (ok_bipush dL_isVow_239 rfl rfl)) ?_
  refine gcons (snd_g (ok_icmp_ge dL_isVow_241 rfl rfl)) ?_
  refine gcons (snd_g (ok_iload dL_isVow_244 rfl)) ?_
  refine gcons (snd_g (ok_aload dL_isVow_246 rfl)) ?_
  refine gcons (snd_g (ok_iconst dL_isVow_248 rfl rfl)) ?_
  refine gcons (snd_g (ok_iaload dL_isVow_249 rfl)) ?_
  refine gcons (snd_g (ok_iconst dL_isVow_250 rfl rfl)) ?_
  refine gcons (snd_g (ok_iadd dL_isVow_251 rfl)) ?_
  refine gcons (snd_g (ok_irem dL_isVow_252 rfl)) ?_
  refine gcons (snd_g (ok_istore dL_isVow_253 (by decide) rfl)) ?_
  refine gcons (snd_g (ok_iload dL_isVow_255 rfl)) ?_
  refine gcons (snd_g (ok_aload dL_isVow_257 rfl)) ?_
  refine gcons (snd_g (ok_iconst dL_isVow_259 rfl rfl)) ?_
  refine gcons (snd_g (ok_iaload dL_isVow_260 rfl)) ?_
  refine gcons (snd_g (ok_iconst dL_isVow_261 rfl rfl)) ?_
  refine gcons (snd_g (ok_iadd dL_isVow_262 rfl)) ?_
  refine gcons (snd_g (ok_irem dL_isVow_263 rfl)) ?_
  refine gcons (snd_g (ok_istore dL_isVow_264 (by decide) rfl)) ?_
  refine gcons (snd_g (ok_iload dL_isVow_266 rfl)) ?_
  refine gcons (snd_g (ok_bipush dL_isVow_268 rfl rfl)) ?_
  refine gcons (snd_g (ok_idiv dL_isVow_270 rfl)) ?_
  refine gcons (snd_g (ok_bipush dL_isVow_271 rfl rfl)) ?_
  refine gcons (snd_g (ok_irem dL_isVow_273 rfl)) ?_
  refine gcons (snd_g (ok_istore dL_isVow_274 (by decide) rfl)) ?_
  refine gcons (snd_g (ok_iload dL_isVow_276 rfl)) ?_
  refine gcons (snd_g (ok_bipush dL_isVow_278 rfl rfl)) ?_
  refine gcons (snd_g (ok_idiv dL_isVow_280 rfl)) ?_
  refine gcons (snd_g (ok_bipush dL_isVow_281 rfl rfl)) ?_
  refine gcons (snd_g (ok_irem dL_isVow_283 rfl)) ?_
  refine gcons (snd_g (ok_bipush dL_isVow_284 rfl rfl)) ?_
  refine gcons (snd_g (ok_icmp_ne dL_isVow_286 rfl rfl)) ?_
  refine gcons (snd_g (ok_iconst dL_isVow_289 rfl rfl)) ?_
  refine gcons (snd_g (ok_goto dL_isVow_290 rfl)) ?_
  refine gcons (snd_g (ok_iload dL_isVow_293 rfl)) ?_
  refine gcons (snd_g (ok_bipush dL_isVow_295 rfl rfl)) ?_
  refine gcons (snd_g (ok_idiv dL_isVow_297 rfl)) ?_
  refine gcons (snd_g (ok_iconst dL_isVow_298 rfl rfl)) ?_
  refine gcons (snd_g (ok_irem dL_isVow_299 rfl)) ?_
  refine gcons (snd_g (ok_istore dL_isVow_300 (by decide) rfl)) ?_
  refine gcons (snd_g (ok_iload dL_isVow_302 rfl)) ?_
  refine gcons (snd_g (ok_aload dL_isVow_304 rfl)) ?_
  refine gcons (snd_g (ok_iconst dL_isVow_306 rfl rfl)) ?_
  refine gcons (snd_g (ok_iaload dL_isVow_307 rfl)) ?_
  refine gcons (snd_g (ok_icmp_ge dL_isVow_308 rfl rfl)) ?_
  refine gcons (snd_g (ok_iload dL_isVow_311 rfl)) ?_
  refine gcons (snd_g (ok_aload dL_isVow_313 rfl)) ?_
  refine gcons (snd_g (ok_iconst dL_isVow_315 rfl rfl)) ?_
  refine gcons (snd_g (ok_iaload dL_isVow_316 rfl)) ?_
  exact fun _ h => nomatch h
def tab_L_isVow_3 : List (Nat × Sem) := [(317, op_cmp (fun x y => y ≤ x) 324 320), (320, op_ic 1 321), (321, op_go 325), (324, op_ic 0 325), (325, op_is 16 327), (327, op_il 12 329), (329, op_il 13 331), (331, op_cmp (fun x y => x = y) 350 334), (334, op_il 14 336), (336, op_ic 8 338), (338, op_cmp (fun x y => y ≤ x) 350 341), (341, op_il 15 343), (343, op_if (fun x => x < 0) 350 346), (346, op_ic 1 347), (347, op_go 351), (350, op_ic 0 351), (351, op_is 17 353), (353, op_il 16 355), (355, op_if (fun x => x = 0) 391 358), (358, op_il 17 360), (360, op_if (fun x => x = 0) 391 363), (363, op_al 1 364), (364, op_il 12 366), (366, op_iald 367), (367, op_ic 32 369), (369, op_dv (fun x y => x / y) 370), (370, op_ic 4 371), (371, op_dv (fun x y => irm x y) 372), (372, op_if (fun x => ¬ x = 0) 391 375), (375, op_al 1 376), (376, op_il 13 378), (378, op_iald 379), (379, op_ic 32 381), (381, op_dv (fun x y => x / y) 382), (382, op_ic 4 383), (383, op_dv (fun x y => irm x y) 384), (384, op_if (fun x => ¬ x = 0) 391 387), (387, op_ic 1 388), (388, op_go 392), (391, op_ic 0 392), (392, op_is 18 394), (394, op_il 18 396), (396, op_if (fun x => x = 0) 611 399), (399, op_al 1 400), (400, op_il 12 402), (402, op_iald 403), (403, op_ic 8 405), (405, op_dv (fun x y => x / y) 406), (406, op_ic 4 407), (407, op_dv (fun x y => irm x y) 408), (408, op_if (fun x => x = 0) 423 411), (411, op_al 1 412), (412, op_il 13 414), (414, op_iald 415), (415, op_ic 8 417), (417, op_dv (fun x y => x / y) 418), (418, op_ic 4 419), (419, op_dv (fun x y => irm x y) 420), (420, op_if (fun x => ¬ x = 0) 427 423), (423, op_ic 1 424)]
set_option maxRecDepth 20000 in
theorem tok_L_isVow_3 : ∀ q ∈ tab_L_isVow_3, GSnd RL cL_isVow 23 13 20 (some .boolean) q.1 q.2 := by
  unfold tab_L_isVow_3
  refine gcons (snd_g (ok_icmp_ge dL_isVow_317 rfl rfl)) ?_
  refine gcons (snd_g (ok_iconst dL_isVow_320 rfl rfl)) ?_
  refine gcons (snd_g (ok_goto dL_isVow_321 rfl)) ?_
  refine gcons (snd_g (ok_iconst dL_isVow_324 rfl rfl)) ?_
  refine gcons (snd_g (ok_istore dL_isVow_325 (by decide) rfl)) ?_
  refine gcons (snd_g (ok_iload dL_isVow_327 rfl)) ?_
  refine gcons (snd_g (ok_iload dL_isVow_329 rfl)) ?_
  refine gcons (snd_g (ok_icmp_eq dL_isVow_331 rfl rfl)) ?_
  refine gcons (snd_g (ok_iload dL_isVow_334 rfl)) ?_
  refine gcons (snd_g (ok_bipush dL_isVow_336 rfl rfl)) ?_
  refine gcons (snd_g (ok_icmp_ge dL_isVow_338 rfl rfl)) ?_
  refine gcons (snd_g (ok_iload dL_isVow_341 rfl)) ?_
  refine gcons (snd_g (ok_if_lt dL_isVow_343 rfl rfl)) ?_
  refine gcons (snd_g (ok_iconst dL_isVow_346 rfl rfl)) ?_
  refine gcons (snd_g (ok_goto dL_isVow_347 rfl)) ?_
  refine gcons (snd_g (ok_iconst dL_isVow_350 rfl rfl)) ?_
  refine gcons (snd_g (ok_istore dL_isVow_351 (by decide) rfl)) ?_
  refine gcons (snd_g (ok_iload dL_isVow_353 rfl)) ?_
  refine gcons (snd_g (ok_if_eq dL_isVow_355 rfl rfl)) ?_
  refine gcons (snd_g (ok_iload dL_isVow_358 rfl)) ?_
  refine gcons (snd_g (ok_if_eq dL_isVow_360 rfl rfl)) ?_
  refine gcons (snd_g (ok_aload_n dL_isVow_363 rfl rfl)) ?_
  refine gcons (snd_g (ok_iload dL_isVow_364 rfl)) ?_
  refine gcons (snd_g (ok_iaload dL_isVow_366 rfl)) ?_
  refine gcons (snd_g (ok_bipush dL_isVow_367 rfl rfl)) ?_
  refine gcons (snd_g (ok_idiv dL_isVow_369 rfl)) ?_
  refine gcons (snd_g (ok_iconst dL_isVow_370 rfl rfl)) ?_
  refine gcons (snd_g (ok_irem dL_isVow_371 rfl)) ?_
  refine gcons (snd_g (ok_if_ne dL_isVow_372 rfl rfl)) ?_
  refine gcons (snd_g (ok_aload_n dL_isVow_375 rfl rfl)) ?_
  refine gcons (snd_g (ok_iload dL_isVow_376 rfl)) ?_
  refine gcons (snd_g (ok_iaload dL_isVow_378 rfl)) ?_
  refine gcons (snd_g (ok_bipush dL_isVow_379 rfl rfl)) ?_
  refine gcons (snd_g (ok_idiv dL_isVow_381 rfl)) ?_
  refine gcons (snd_g (ok_iconst dL_isVow_382 rfl rfl)) ?_
  refine gcons (snd_g (ok_irem dL_isVow_383 rfl)) ?_
  refine gcons (snd_g (ok_if_ne dL_isVow_384 rfl rfl)) ?_
  refine gcons (snd_g (ok_iconst dL_isVow_387 rfl rfl)) ?_
  refine gcons (snd_g (ok_goto dL_isVow_388 rfl)) ?_
  refine gcons (snd_g (ok_iconst dL_isVow_391 rfl rfl)) ?_
  refine gcons (snd_g (ok_istore dL_isVow_392 (by decide) rfl)) ?_
  refine gcons (snd_g (ok_iload dL_isVow_394 rfl)) ?_
  refine gcons (snd_g (ok_if_eq dL_isVow_396 rfl rfl)) ?_
  refine gcons (snd_g (ok_aload_n dL_isVow_399 rfl rfl)) ?_
  refine gcons (snd_g (ok_iload dL_isVow_400 rfl)) ?_
  refine gcons (snd_g (ok_iaload dL_isVow_402 rfl)) ?_
  refine gcons (snd_g (ok_bipush dL_isVow_403 rfl rfl)) ?_
  refine gcons (snd_g (ok_idiv dL_isVow_405 rfl)) ?_
  refine gcons (snd_g (ok_iconst dL_isVow_406 rfl rfl)) ?_
  refine gcons (snd_g (ok_irem dL_isVow_407 rfl)) ?_
  refine gcons (snd_g (ok_if_eq dL_isVow_408 rfl rfl)) ?_
  refine gcons (snd_g (ok_aload_n dL_isVow_411 rfl rfl)) ?_
  refine gcons (snd_g (ok_iload dL_isVow_412 rfl)) ?_
  refine gcons (snd_g (ok_iaload dL_isVow_414 rfl)) ?_
  refine gcons (snd_g (ok_bipush dL_isVow_415 rfl rfl)) ?_
  refine gcons (snd_g (ok_idiv dL_isVow_417 rfl)) ?_
  refine gcons (snd_g (ok_iconst dL_isVow_418 rfl rfl)) ?_
  refine gcons (snd_g (ok_irem dL_isVow_419 rfl)) ?_
  refine gcons (snd_g (ok_if_ne dL_isVow_420 rfl rfl)) ?_
  refine gcons (snd_g (ok_iconst dL_isVow_423 rfl rfl)) ?_
  exact fun _ h => nomatch h
def tab_L_isVow_4 : List (Nat × Sem) := [(424, op_go 428), (427, op_ic 0 428), (428, op_is 19 430), (430, op_al 3 431), (431, op_ic 8 433), (433, op_il 15 435), (435, op_bin (fun x y => x * y) 436), (436, op_il 14 438), (438, op_bin (fun x y => x + y) 439), (439, op_iald 440), (440, op_al 8 442), (442, op_ic 0 443), (443, op_iald 444), (444, op_cmp (fun x y => y < x) 460 447), (447, op_al 3 448), (448, op_ic 16 450), (450, op_iald 451), (451, op_il 14 453), (453, op_bin (fun x y => x >>> (y &&& 31)) 454), (454, op_ic 1 455), (455, op_bin (fun x y => x &&& y) 456), (456, op_ic 1 457), (457, op_cmp (fun x y => ¬ x = y) 464 460), (460, op_ic 1 461), (461, op_go 465), (464, op_ic 0 465), (465, op_is 20 467), (467, op_al 1 468), (468, op_al 2 469), (469, op_il 12 471), (471, op_il 13 473), (473, op_al 8 475), (475, op_ic 0 476), (476, op_iald 477), (477, op_callN sp_L_hinders 5 2 480), (480, op_is 21 482), (482, op_ic 1 483), (483, op_is 22 485), (485, op_il 22 487), (487, op_ic 16 489), (489, op_cmp (fun x y => y ≤ x) 534 492), (492, op_il 21 494), (494, op_il 21 496), (496, op_il 22 498), (498, op_bin (fun x y => x &&& y) 499), (499, op_if (fun x => x ≤ 0) 521 502), (502, op_al 4 504), (504, op_il 12 506), (506, op_il 13 508), (508, op_il 22 510), (510, op_callN sp_L_isDispensed 4 0 513), (513, op_if (fun x => x = 0) 521 516), (516, op_il 22 518), (518, op_go 522), (521, op_ic 0 522), (522, op_bin (fun x y => x - y) 523), (523, op_is 21 525), (525, op_il 22 527), (527, op_ic 2 528), (528, op_bin (fun x y => x * y) 529)]
set_option maxRecDepth 20000 in
theorem tok_L_isVow_4 : ∀ q ∈ tab_L_isVow_4, GSnd RL cL_isVow 23 13 20 (some .boolean) q.1 q.2 := by
  unfold tab_L_isVow_4
  refine gcons (snd_g (ok_goto dL_isVow_424 rfl)) ?_
  refine gcons (snd_g (ok_iconst dL_isVow_427 rfl rfl)) ?_
  refine gcons (snd_g (ok_istore dL_isVow_428 (by decide) rfl)) ?_
  refine gcons (snd_g (ok_aload_n dL_isVow_430 rfl rfl)) ?_
  refine gcons (snd_g (ok_bipush dL_isVow_431 rfl rfl)) ?_
  refine gcons (snd_g (ok_iload dL_isVow_433 rfl)) ?_
  refine gcons (snd_g (ok_imul dL_isVow_435 rfl)) ?_
  refine gcons (snd_g (ok_iload dL_isVow_436 rfl)) ?_
  refine gcons (snd_g (ok_iadd dL_isVow_438 rfl)) ?_
  refine gcons (snd_g (ok_iaload dL_isVow_439 rfl)) ?_
  refine gcons (snd_g (ok_aload dL_isVow_440 rfl)) ?_
  refine gcons (snd_g (ok_iconst dL_isVow_442 rfl rfl)) ?_
  refine gcons (snd_g (ok_iaload dL_isVow_443 rfl)) ?_
  refine gcons (snd_g (ok_icmp_gt dL_isVow_444 rfl rfl)) ?_
  refine gcons (snd_g (ok_aload_n dL_isVow_447 rfl rfl)) ?_
  refine gcons (snd_g (ok_bipush dL_isVow_448 rfl rfl)) ?_
  refine gcons (snd_g (ok_iaload dL_isVow_450 rfl)) ?_
  refine gcons (snd_g (ok_iload dL_isVow_451 rfl)) ?_
  refine gcons (snd_g (ok_ishr dL_isVow_453 rfl)) ?_
  refine gcons (snd_g (ok_iconst dL_isVow_454 rfl rfl)) ?_
  refine gcons (snd_g (ok_iand dL_isVow_455 rfl)) ?_
  refine gcons (snd_g (ok_iconst dL_isVow_456 rfl rfl)) ?_
  refine gcons (snd_g (ok_icmp_ne dL_isVow_457 rfl rfl)) ?_
  refine gcons (snd_g (ok_iconst dL_isVow_460 rfl rfl)) ?_
  refine gcons (snd_g (ok_goto dL_isVow_461 rfl)) ?_
  refine gcons (snd_g (ok_iconst dL_isVow_464 rfl rfl)) ?_
  refine gcons (snd_g (ok_istore dL_isVow_465 (by decide) rfl)) ?_
  refine gcons (snd_g (ok_aload_n dL_isVow_467 rfl rfl)) ?_
  refine gcons (snd_g (ok_aload_n dL_isVow_468 rfl rfl)) ?_
  refine gcons (snd_g (ok_iload dL_isVow_469 rfl)) ?_
  refine gcons (snd_g (ok_iload dL_isVow_471 rfl)) ?_
  refine gcons (snd_g (ok_aload dL_isVow_473 rfl)) ?_
  refine gcons (snd_g (ok_iconst dL_isVow_475 rfl rfl)) ?_
  refine gcons (snd_g (ok_iaload dL_isVow_476 rfl)) ?_
  refine gcons (snd_g (ok_invokestaticN M_L_hinders w_918 w_919 w_19 w_920 ⟨by decide, by decide, by decide +kernel⟩ (by decide) (by decide) dL_isVow_477 rfl)) ?_
  refine gcons (snd_g (ok_istore dL_isVow_480 (by decide) rfl)) ?_
  refine gcons (snd_g (ok_iconst dL_isVow_482 rfl rfl)) ?_
  refine gcons (snd_g (ok_istore dL_isVow_483 (by decide) rfl)) ?_
  refine gcons (snd_g (ok_iload dL_isVow_485 rfl)) ?_
  refine gcons (snd_g (ok_bipush dL_isVow_487 rfl rfl)) ?_
  refine gcons (snd_g (ok_icmp_ge dL_isVow_489 rfl rfl)) ?_
  refine gcons (snd_g (ok_iload dL_isVow_492 rfl)) ?_
  refine gcons (snd_g (ok_iload dL_isVow_494 rfl)) ?_
  refine gcons (snd_g (ok_iload dL_isVow_496 rfl)) ?_
  refine gcons (snd_g (ok_iand dL_isVow_498 rfl)) ?_
  refine gcons (snd_g (ok_if_le dL_isVow_499 rfl rfl)) ?_
  refine gcons (snd_g (ok_aload dL_isVow_502 rfl)) ?_
  refine gcons (snd_g (ok_iload dL_isVow_504 rfl)) ?_
  refine gcons (snd_g (ok_iload dL_isVow_506 rfl)) ?_
  refine gcons (snd_g (ok_iload dL_isVow_508 rfl)) ?_
  refine gcons (snd_g (ok_invokestaticN M_L_isDispensed w_921 w_922 w_19 w_923 ⟨by decide, by decide, by decide +kernel⟩ (by decide) (by decide) dL_isVow_510 rfl)) ?_
  refine gcons (snd_g (ok_if_eq dL_isVow_513 rfl rfl)) ?_
  refine gcons (snd_g (ok_iload dL_isVow_516 rfl)) ?_
  refine gcons (snd_g (ok_goto dL_isVow_518 rfl)) ?_
  refine gcons (snd_g (ok_iconst dL_isVow_521 rfl rfl)) ?_
  refine gcons (snd_g (ok_isub dL_isVow_522 rfl)) ?_
  refine gcons (snd_g (ok_istore dL_isVow_523 (by decide) rfl)) ?_
  refine gcons (snd_g (ok_iload dL_isVow_525 rfl)) ?_
  refine gcons (snd_g (ok_iconst dL_isVow_527 rfl rfl)) ?_
  refine gcons (snd_g (ok_imul dL_isVow_528 rfl)) ?_
  exact fun _ h => nomatch h
def tab_L_isVow_5 : List (Nat × Sem) := [(529, op_is 22 531), (531, op_go 485), (534, op_al 5 536), (536, op_al 8 538), (538, op_ic 2 539), (539, op_iald 540), (540, op_il 12 542), (542, op_ic 16 544), (544, op_il 13 546), (546, op_bin (fun x y => x * y) 547), (547, op_bin (fun x y => x + y) 548), (548, op_ic 256 551), (551, op_il 14 553), (553, op_bin (fun x y => x * y) 554), (554, op_bin (fun x y => x + y) 555), (555, op_il 19 557), (557, op_if (fun x => x = 0) 571 560), (560, op_il 20 562), (562, op_if (fun x => ¬ x = 0) 571 565), (565, op_ic 2048 568), (568, op_go 572), (571, op_ic 0 572), (572, op_bin (fun x y => x + y) 573), (573, op_ic 16384 576), (576, op_il 21 578), (578, op_bin (fun x y => x * y) 579), (579, op_bin (fun x y => x + y) 580), (580, op_iast 581), (581, op_al 6 583), (583, op_al 8 585), (585, op_ic 2 586), (586, op_iald 587), (587, op_al 8 589), (589, op_ic 0 590), (590, op_iald 591), (591, op_iast 592), (592, op_al 6 594), (594, op_ic 16 596), (596, op_al 8 598), (598, op_ic 2 599), (599, op_iald 600), (600, op_bin (fun x y => x + y) 601), (601, op_ic (-1) 602), (602, op_iast 603), (603, op_al 8 605), (605, op_ic 2 606), (606, op_dup2 607), (607, op_iald 608), (608, op_ic 1 609), (609, op_bin (fun x y => x + y) 610), (610, op_iast 611), (611, op_al 0 612), (612, op_ic 9 614), (614, op_il 12 616), (616, op_il 13 618), (618, op_il 14 620), (620, op_il 15 622), (622, op_callHN sp_L_does 6 16 625), (625, op_il 16 627), (627, op_if (fun x => ¬ x = 0) 635 630)]
set_option maxRecDepth 20000 in
theorem tok_L_isVow_5 : ∀ q ∈ tab_L_isVow_5, GSnd RL cL_isVow 23 13 20 (some .boolean) q.1 q.2 := by
  unfold tab_L_isVow_5
  refine gcons (snd_g (ok_istore dL_isVow_529 (by decide) rfl)) ?_
  refine gcons (snd_g (ok_goto dL_isVow_531 rfl)) ?_
  refine gcons (snd_g (ok_aload dL_isVow_534 rfl)) ?_
  refine gcons (snd_g (ok_aload dL_isVow_536 rfl)) ?_
  refine gcons (snd_g (ok_iconst dL_isVow_538 rfl rfl)) ?_
  refine gcons (snd_g (ok_iaload dL_isVow_539 rfl)) ?_
  refine gcons (snd_g (ok_iload dL_isVow_540 rfl)) ?_
  refine gcons (snd_g (ok_bipush dL_isVow_542 rfl rfl)) ?_
  refine gcons (snd_g (ok_iload dL_isVow_544 rfl)) ?_
  refine gcons (snd_g (ok_imul dL_isVow_546 rfl)) ?_
  refine gcons (snd_g (ok_iadd dL_isVow_547 rfl)) ?_
  refine gcons (snd_g (ok_sipush dL_isVow_548 rfl rfl)) ?_
  refine gcons (snd_g (ok_iload dL_isVow_551 rfl)) ?_
  refine gcons (snd_g (ok_imul dL_isVow_553 rfl)) ?_
  refine gcons (snd_g (ok_iadd dL_isVow_554 rfl)) ?_
  refine gcons (snd_g (ok_iload dL_isVow_555 rfl)) ?_
  refine gcons (snd_g (ok_if_eq dL_isVow_557 rfl rfl)) ?_
  refine gcons (snd_g (ok_iload dL_isVow_560 rfl)) ?_
  refine gcons (snd_g (ok_if_ne dL_isVow_562 rfl rfl)) ?_
  refine gcons (snd_g (ok_sipush dL_isVow_565 rfl rfl)) ?_
  refine gcons (snd_g (ok_goto dL_isVow_568 rfl)) ?_
  refine gcons (snd_g (ok_iconst dL_isVow_571 rfl rfl)) ?_
  refine gcons (snd_g (ok_iadd dL_isVow_572 rfl)) ?_
  refine gcons (snd_g (ok_sipush dL_isVow_573 rfl rfl)) ?_
  refine gcons (snd_g (ok_iload dL_isVow_576 rfl)) ?_
  refine gcons (snd_g (ok_imul dL_isVow_578 rfl)) ?_
  refine gcons (snd_g (ok_iadd dL_isVow_579 rfl)) ?_
  refine gcons (snd_g (ok_iastore dL_isVow_580 rfl)) ?_
  refine gcons (snd_g (ok_aload dL_isVow_581 rfl)) ?_
  refine gcons (snd_g (ok_aload dL_isVow_583 rfl)) ?_
  refine gcons (snd_g (ok_iconst dL_isVow_585 rfl rfl)) ?_
  refine gcons (snd_g (ok_iaload dL_isVow_586 rfl)) ?_
  refine gcons (snd_g (ok_aload dL_isVow_587 rfl)) ?_
  refine gcons (snd_g (ok_iconst dL_isVow_589 rfl rfl)) ?_
  refine gcons (snd_g (ok_iaload dL_isVow_590 rfl)) ?_
  refine gcons (snd_g (ok_iastore dL_isVow_591 rfl)) ?_
  refine gcons (snd_g (ok_aload dL_isVow_592 rfl)) ?_
  refine gcons (snd_g (ok_bipush dL_isVow_594 rfl rfl)) ?_
  refine gcons (snd_g (ok_aload dL_isVow_596 rfl)) ?_
  refine gcons (snd_g (ok_iconst dL_isVow_598 rfl rfl)) ?_
  refine gcons (snd_g (ok_iaload dL_isVow_599 rfl)) ?_
  refine gcons (snd_g (ok_iadd dL_isVow_600 rfl)) ?_
  refine gcons (snd_g (ok_iconst dL_isVow_601 rfl rfl)) ?_
  refine gcons (snd_g (ok_iastore dL_isVow_602 rfl)) ?_
  refine gcons (snd_g (ok_aload dL_isVow_603 rfl)) ?_
  refine gcons (snd_g (ok_iconst dL_isVow_605 rfl rfl)) ?_
  refine gcons (snd_g (ok_dup2 dL_isVow_606 rfl)) ?_
  refine gcons (snd_g (ok_iaload dL_isVow_607 rfl)) ?_
  refine gcons (snd_g (ok_iconst dL_isVow_608 rfl rfl)) ?_
  refine gcons (snd_g (ok_iadd dL_isVow_609 rfl)) ?_
  refine gcons (snd_g (ok_iastore dL_isVow_610 rfl)) ?_
  refine gcons (snd_g (ok_aload_n dL_isVow_611 rfl rfl)) ?_
  refine gcons (snd_g (ok_bipush dL_isVow_612 rfl rfl)) ?_
  refine gcons (snd_g (ok_iload dL_isVow_614 rfl)) ?_
  refine gcons (snd_g (ok_iload dL_isVow_616 rfl)) ?_
  refine gcons (snd_g (ok_iload dL_isVow_618 rfl)) ?_
  refine gcons (snd_g (ok_iload dL_isVow_620 rfl)) ?_
  refine gcons (ok_invokestaticHN M_L_does w_128 w_129 w_19 w_130 ⟨by decide, by decide, by decide +kernel⟩ (by decide) (by decide) dL_isVow_622 rfl) ?_
  refine gcons (snd_g (ok_iload dL_isVow_625 rfl)) ?_
  refine gcons (snd_g (ok_if_ne dL_isVow_627 rfl rfl)) ?_
  exact fun _ h => nomatch h
def tab_L_isVow_6 : List (Nat × Sem) := [(630, op_ic (-3000000) 632), (632, op_go 661), (635, op_il 17 637), (637, op_if (fun x => ¬ x = 0) 645 640), (640, op_ic (-2000000) 642), (642, op_go 661), (645, op_il 18 647), (647, op_if (fun x => x = 0) 659 650), (650, op_al 8 652), (652, op_ic 2 653), (653, op_iald 654), (654, op_ic 1 655), (655, op_bin (fun x y => x - y) 656), (656, op_go 661), (659, op_ic (-1000000) 661), (661, op_cmp (fun x y => ¬ x = y) 668 664), (664, op_ic 1 665), (665, op_go 669), (668, op_ic 0 669), (669, op_zret), (670, op_il 10 672), (672, op_al 8 674), (674, op_ic 2 675), (675, op_iald 676), (676, op_ic 1 677), (677, op_bin (fun x y => x + y) 678), (678, op_dv (fun x y => irm x y) 679), (679, op_is 12 681), (681, op_il 12 683), (683, op_al 8 685), (685, op_ic 2 686), (686, op_iald 687), (687, op_cmp (fun x y => y ≤ x) 694 690), (690, op_ic 1 691), (691, op_go 695), (694, op_ic 0 695), (695, op_is 13 697), (697, op_il 13 699), (699, op_if (fun x => x = 0) 713 702), (702, op_al 5 704), (704, op_il 12 706), (706, op_iald 707), (707, op_ic 16 709), (709, op_dv (fun x y => irm x y) 710), (710, op_go 714), (713, op_ic 0 714), (714, op_is 14 716), (716, op_il 13 718), (718, op_if (fun x => x = 0) 735 721), (721, op_al 5 723), (723, op_il 12 725), (725, op_iald 726), (726, op_ic 16 728), (728, op_dv (fun x y => x / y) 729), (729, op_ic 16 731), (731, op_dv (fun x y => irm x y) 732), (732, op_go 736), (735, op_ic 0 736), (736, op_is 15 738), (738, op_il 13 740)]
set_option maxRecDepth 20000 in
theorem tok_L_isVow_6 : ∀ q ∈ tab_L_isVow_6, GSnd RL cL_isVow 23 13 20 (some .boolean) q.1 q.2 := by
  unfold tab_L_isVow_6
  refine gcons (snd_g (ok_ldc w_683 dL_isVow_630 rfl)) ?_
  refine gcons (snd_g (ok_goto dL_isVow_632 rfl)) ?_
  refine gcons (snd_g (ok_iload dL_isVow_635 rfl)) ?_
  refine gcons (snd_g (ok_if_ne dL_isVow_637 rfl rfl)) ?_
  refine gcons (snd_g (ok_ldc w_684 dL_isVow_640 rfl)) ?_
  refine gcons (snd_g (ok_goto dL_isVow_642 rfl)) ?_
  refine gcons (snd_g (ok_iload dL_isVow_645 rfl)) ?_
  refine gcons (snd_g (ok_if_eq dL_isVow_647 rfl rfl)) ?_
  refine gcons (snd_g (ok_aload dL_isVow_650 rfl)) ?_
  refine gcons (snd_g (ok_iconst dL_isVow_652 rfl rfl)) ?_
  refine gcons (snd_g (ok_iaload dL_isVow_653 rfl)) ?_
  refine gcons (snd_g (ok_iconst dL_isVow_654 rfl rfl)) ?_
  refine gcons (snd_g (ok_isub dL_isVow_655 rfl)) ?_
  refine gcons (snd_g (ok_goto dL_isVow_656 rfl)) ?_
  refine gcons (snd_g (ok_ldc w_685 dL_isVow_659 rfl)) ?_
  refine gcons (snd_g (ok_icmp_ne dL_isVow_661 rfl rfl)) ?_
  refine gcons (snd_g (ok_iconst dL_isVow_664 rfl rfl)) ?_
  refine gcons (snd_g (ok_goto dL_isVow_665 rfl)) ?_
  refine gcons (snd_g (ok_iconst dL_isVow_668 rfl rfl)) ?_
  refine gcons (snd_g (ok_zreturn rfl (Or.inl rfl) dL_isVow_669)) ?_
  refine gcons (snd_g (ok_iload dL_isVow_670 rfl)) ?_
  refine gcons (snd_g (ok_aload dL_isVow_672 rfl)) ?_
  refine gcons (snd_g (ok_iconst dL_isVow_674 rfl rfl)) ?_
  refine gcons (snd_g (ok_iaload dL_isVow_675 rfl)) ?_
  refine gcons (snd_g (ok_iconst dL_isVow_676 rfl rfl)) ?_
  refine gcons (snd_g (ok_iadd dL_isVow_677 rfl)) ?_
  refine gcons (snd_g (ok_irem dL_isVow_678 rfl)) ?_
  refine gcons (snd_g (ok_istore dL_isVow_679 (by decide) rfl)) ?_
  refine gcons (snd_g (ok_iload dL_isVow_681 rfl)) ?_
  refine gcons (snd_g (ok_aload dL_isVow_683 rfl)) ?_
  refine gcons (snd_g (ok_iconst dL_isVow_685 rfl rfl)) ?_
  refine gcons (snd_g (ok_iaload dL_isVow_686 rfl)) ?_
  refine gcons (snd_g (ok_icmp_ge dL_isVow_687 rfl rfl)) ?_
  refine gcons (snd_g (ok_iconst dL_isVow_690 rfl rfl)) ?_
  refine gcons (snd_g (ok_goto dL_isVow_691 rfl)) ?_
  refine gcons (snd_g (ok_iconst dL_isVow_694 rfl rfl)) ?_
  refine gcons (snd_g (ok_istore dL_isVow_695 (by decide) rfl)) ?_
  refine gcons (snd_g (ok_iload dL_isVow_697 rfl)) ?_
  refine gcons (snd_g (ok_if_eq dL_isVow_699 rfl rfl)) ?_
  refine gcons (snd_g (ok_aload dL_isVow_702 rfl)) ?_
  refine gcons (snd_g (ok_iload dL_isVow_704 rfl)) ?_
  refine gcons (snd_g (ok_iaload dL_isVow_706 rfl)) ?_
  refine gcons (snd_g (ok_bipush dL_isVow_707 rfl rfl)) ?_
  refine gcons (snd_g (ok_irem dL_isVow_709 rfl)) ?_
  refine gcons (snd_g (ok_goto dL_isVow_710 rfl)) ?_
  refine gcons (snd_g (ok_iconst dL_isVow_713 rfl rfl)) ?_
  refine gcons (snd_g (ok_istore dL_isVow_714 (by decide) rfl)) ?_
  refine gcons (snd_g (ok_iload dL_isVow_716 rfl)) ?_
  refine gcons (snd_g (ok_if_eq dL_isVow_718 rfl rfl)) ?_
  refine gcons (snd_g (ok_aload dL_isVow_721 rfl)) ?_
  refine gcons (snd_g (ok_iload dL_isVow_723 rfl)) ?_
  refine gcons (snd_g (ok_iaload dL_isVow_725 rfl)) ?_
  refine gcons (snd_g (ok_bipush dL_isVow_726 rfl rfl)) ?_
  refine gcons (snd_g (ok_idiv dL_isVow_728 rfl)) ?_
  refine gcons (snd_g (ok_bipush dL_isVow_729 rfl rfl)) ?_
  refine gcons (snd_g (ok_irem dL_isVow_731 rfl)) ?_
  refine gcons (snd_g (ok_goto dL_isVow_732 rfl)) ?_
  refine gcons (snd_g (ok_iconst dL_isVow_735 rfl rfl)) ?_
  refine gcons (snd_g (ok_istore dL_isVow_736 (by decide) rfl)) ?_
  refine gcons (snd_g (ok_iload dL_isVow_738 rfl)) ?_
  exact fun _ h => nomatch h
def tab_L_isVow_7 : List (Nat × Sem) := [(740, op_if (fun x => x = 0) 757 743), (743, op_al 5 745), (745, op_il 12 747), (747, op_iald 748), (748, op_ic 4096 751), (751, op_dv (fun x y => x / y) 752), (752, op_ic 4 753), (753, op_dv (fun x y => irm x y) 754), (754, op_go 758), (757, op_ic 1 758), (758, op_is 16 760), (760, op_il 13 762), (762, op_if (fun x => x = 0) 784 765), (765, op_al 5 767), (767, op_il 12 769), (769, op_iald 770), (770, op_ic 2048 773), (773, op_dv (fun x y => x / y) 774), (774, op_ic 2 775), (775, op_dv (fun x y => irm x y) 776), (776, op_ic 1 777), (777, op_cmp (fun x y => ¬ x = y) 784 780), (780, op_ic 1 781), (781, op_go 785), (784, op_ic 0 785), (785, op_is 17 787), (787, op_il 13 789), (789, op_if (fun x => x = 0) 804 792), (792, op_al 5 794), (794, op_al 6 796), (796, op_il 12 798), (798, op_callN sp_L_hindered 3 0 801), (801, op_go 805), (804, op_ic 0 805), (805, op_is 18 807), (807, op_il 9 809), (809, op_ic 4 810), (810, op_cmp (fun x y => y ≤ x) 930 813), (813, op_il 17 815), (815, op_if (fun x => x = 0) 856 818), (818, op_il 16 820), (820, op_if (fun x => ¬ x = 0) 856 823), (823, op_il 18 825), (825, op_if (fun x => ¬ x = 0) 856 828), (828, op_al 1 829), (829, op_il 14 831), (831, op_iald 832), (832, op_ic 64 834), (834, op_dv (fun x y => x / y) 835), (835, op_ic 2 836), (836, op_dv (fun x y => irm x y) 837), (837, op_if (fun x => ¬ x = 0) 856 840), (840, op_al 1 841), (841, op_il 15 843), (843, op_iald 844), (844, op_ic 64 846), (846, op_dv (fun x y => x / y) 847), (847, op_ic 2 848), (848, op_dv (fun x y => irm x y) 849), (849, op_if (fun x => ¬ x = 0) 856 852)]
set_option maxRecDepth 20000 in
theorem tok_L_isVow_7 : ∀ q ∈ tab_L_isVow_7, GSnd RL cL_isVow 23 13 20 (some .boolean) q.1 q.2 := by
  unfold tab_L_isVow_7
  refine gcons (snd_g (ok_if_eq dL_isVow_740 rfl rfl)) ?_
  refine gcons (snd_g (ok_aload dL_isVow_743 rfl)) ?_
  refine gcons (snd_g (ok_iload dL_isVow_745 rfl)) ?_
  refine gcons (snd_g (ok_iaload dL_isVow_747 rfl)) ?_
  refine gcons (snd_g (ok_sipush dL_isVow_748 rfl rfl)) ?_
  refine gcons (snd_g (ok_idiv dL_isVow_751 rfl)) ?_
  refine gcons (snd_g (ok_iconst dL_isVow_752 rfl rfl)) ?_
  refine gcons (snd_g (ok_irem dL_isVow_753 rfl)) ?_
  refine gcons (snd_g (ok_goto dL_isVow_754 rfl)) ?_
  refine gcons (snd_g (ok_iconst dL_isVow_757 rfl rfl)) ?_
  refine gcons (snd_g (ok_istore dL_isVow_758 (by decide) rfl)) ?_
  refine gcons (snd_g (ok_iload dL_isVow_760 rfl)) ?_
  refine gcons (snd_g (ok_if_eq dL_isVow_762 rfl rfl)) ?_
  refine gcons (snd_g (ok_aload dL_isVow_765 rfl)) ?_
  refine gcons (snd_g (ok_iload dL_isVow_767 rfl)) ?_
  refine gcons (snd_g (ok_iaload dL_isVow_769 rfl)) ?_
  refine gcons (snd_g (ok_sipush dL_isVow_770 rfl rfl)) ?_
  refine gcons (snd_g (ok_idiv dL_isVow_773 rfl)) ?_
  refine gcons (snd_g (ok_iconst dL_isVow_774 rfl rfl)) ?_
  refine gcons (snd_g (ok_irem dL_isVow_775 rfl)) ?_
  refine gcons (snd_g (ok_iconst dL_isVow_776 rfl rfl)) ?_
  refine gcons (snd_g (ok_icmp_ne dL_isVow_777 rfl rfl)) ?_
  refine gcons (snd_g (ok_iconst dL_isVow_780 rfl rfl)) ?_
  refine gcons (snd_g (ok_goto dL_isVow_781 rfl)) ?_
  refine gcons (snd_g (ok_iconst dL_isVow_784 rfl rfl)) ?_
  refine gcons (snd_g (ok_istore dL_isVow_785 (by decide) rfl)) ?_
  refine gcons (snd_g (ok_iload dL_isVow_787 rfl)) ?_
  refine gcons (snd_g (ok_if_eq dL_isVow_789 rfl rfl)) ?_
  refine gcons (snd_g (ok_aload dL_isVow_792 rfl)) ?_
  refine gcons (snd_g (ok_aload dL_isVow_794 rfl)) ?_
  refine gcons (snd_g (ok_iload dL_isVow_796 rfl)) ?_
  refine gcons (snd_g (ok_invokestaticN M_L_hindered w_693 w_694 w_19 w_695 ⟨by decide, by decide, by decide +kernel⟩ (by decide) (by decide) dL_isVow_798 rfl)) ?_
  refine gcons (snd_g (ok_goto dL_isVow_801 rfl)) ?_
  refine gcons (snd_g (ok_iconst dL_isVow_804 rfl rfl)) ?_
  refine gcons (snd_g (ok_istore dL_isVow_805 (by decide) rfl)) ?_
  refine gcons (snd_g (ok_iload dL_isVow_807 rfl)) ?_
  refine gcons (snd_g (ok_iconst dL_isVow_809 rfl rfl)) ?_
  refine gcons (snd_g (ok_icmp_ge dL_isVow_810 rfl rfl)) ?_
  refine gcons (snd_g (ok_iload dL_isVow_813 rfl)) ?_
  refine gcons (snd_g (ok_if_eq dL_isVow_815 rfl rfl)) ?_
  refine gcons (snd_g (ok_iload dL_isVow_818 rfl)) ?_
  refine gcons (snd_g (ok_if_ne dL_isVow_820 rfl rfl)) ?_
  refine gcons (snd_g (ok_iload dL_isVow_823 rfl)) ?_
  refine gcons (snd_g (ok_if_ne dL_isVow_825 rfl rfl)) ?_
  refine gcons (snd_g (ok_aload_n dL_isVow_828 rfl rfl)) ?_
  refine gcons (snd_g (ok_iload dL_isVow_829 rfl)) ?_
  refine gcons (snd_g (ok_iaload dL_isVow_831 rfl)) ?_
  refine gcons (snd_g (ok_bipush dL_isVow_832 rfl rfl)) ?_
  refine gcons (snd_g (ok_idiv dL_isVow_834 rfl)) ?_
  refine gcons (snd_g (ok_iconst dL_isVow_835 rfl rfl)) ?_
  refine gcons (snd_g (ok_irem dL_isVow_836 rfl)) ?_
  refine gcons (snd_g (ok_if_ne dL_isVow_837 rfl rfl)) ?_
  refine gcons (snd_g (ok_aload_n dL_isVow_840 rfl rfl)) ?_
  refine gcons (snd_g (ok_iload dL_isVow_841 rfl)) ?_
  refine gcons (snd_g (ok_iaload dL_isVow_843 rfl)) ?_
  refine gcons (snd_g (ok_bipush dL_isVow_844 rfl rfl)) ?_
  refine gcons (snd_g (ok_idiv dL_isVow_846 rfl)) ?_
  refine gcons (snd_g (ok_iconst dL_isVow_847 rfl rfl)) ?_
  refine gcons (snd_g (ok_irem dL_isVow_848 rfl)) ?_
  refine gcons (snd_g (ok_if_ne dL_isVow_849 rfl rfl)) ?_
  exact fun _ h => nomatch h
def tab_L_isVow_8 : List (Nat × Sem) := [(852, op_ic 1 853), (853, op_go 857), (856, op_ic 0 857), (857, op_is 19 859), (859, op_al 5 861), (861, op_il 19 863), (863, op_if (fun x => x = 0) 871 866), (866, op_il 12 868), (868, op_go 873), (871, op_ic 16 873), (873, op_dup2 874), (874, op_iald 875), (875, op_il 19 877), (877, op_if (fun x => x = 0) 886 880), (880, op_ic 2048 883), (883, op_go 887), (886, op_ic 0 887), (887, op_bin (fun x y => x - y) 888), (888, op_iast 889), (889, op_al 0 890), (890, op_ic 10 892), (892, op_il 12 894), (894, op_ic 0 895), (895, op_ic 0 896), (896, op_ic 0 897), (897, op_callHN sp_L_does 6 16 900), (900, op_il 13 902), (902, op_if (fun x => ¬ x = 0) 910 905), (905, op_ic (-3000000) 907), (907, op_go 921), (910, op_il 19 912), (912, op_if (fun x => x = 0) 919 915), (915, op_ic 0 916), (916, op_go 921), (919, op_ic (-1000000) 921), (921, op_cmp (fun x y => ¬ x = y) 928 924), (924, op_ic 1 925), (925, op_go 929), (928, op_ic 0 929), (929, op_zret), (930, op_il 13 932), (932, op_if (fun x => x = 0) 952 935), (935, op_al 7 937), (937, op_al 8 939), (939, op_il 12 941), (941, op_ic (-1) 942), (942, op_callN sp_L_isQuiet 4 0 945), (945, op_if (fun x => x = 0) 952 948), (948, op_ic 1 949), (949, op_go 953), (952, op_ic 0 953), (953, op_is 19 955), (955, op_il 9 957), (957, op_ic 4 958), (958, op_cmp (fun x y => ¬ x = y) 1036 961), (961, op_il 19 963), (963, op_if (fun x => x = 0) 975 966), (966, op_il 16 968), (968, op_if (fun x => ¬ x = 0) 975 971), (971, op_ic 1 972)]
set_option maxRecDepth 20000 in
theorem tok_L_isVow_8 : ∀ q ∈ tab_L_isVow_8, GSnd RL cL_isVow 23 13 20 (some .boolean) q.1 q.2 := by
  unfold tab_L_isVow_8
  refine gcons (snd_g (ok_iconst dL_isVow_852 rfl rfl)) ?_
  refine gcons (snd_g (ok_goto dL_isVow_853 rfl)) ?_
  refine gcons (snd_g (ok_iconst dL_isVow_856 rfl rfl)) ?_
  refine gcons (snd_g (ok_istore dL_isVow_857 (by decide) rfl)) ?_
  refine gcons (snd_g (ok_aload dL_isVow_859 rfl)) ?_
  refine gcons (snd_g (ok_iload dL_isVow_861 rfl)) ?_
  refine gcons (snd_g (ok_if_eq dL_isVow_863 rfl rfl)) ?_
  refine gcons (snd_g (ok_iload dL_isVow_866 rfl)) ?_
  refine gcons (snd_g (ok_goto dL_isVow_868 rfl)) ?_
  refine gcons (snd_g (ok_bipush dL_isVow_871 rfl rfl)) ?_
  refine gcons (snd_g (ok_dup2 dL_isVow_873 rfl)) ?_
  refine gcons (snd_g (ok_iaload dL_isVow_874 rfl)) ?_
  refine gcons (snd_g (ok_iload dL_isVow_875 rfl)) ?_
  refine gcons (snd_g (ok_if_eq dL_isVow_877 rfl rfl)) ?_
  refine gcons (snd_g (ok_sipush dL_isVow_880 rfl rfl)) ?_
  refine gcons (snd_g (ok_goto dL_isVow_883 rfl)) ?_
  refine gcons (snd_g (ok_iconst dL_isVow_886 rfl rfl)) ?_
  refine gcons (snd_g (ok_isub dL_isVow_887 rfl)) ?_
  refine gcons (snd_g (ok_iastore dL_isVow_888 rfl)) ?_
  refine gcons (snd_g (ok_aload_n dL_isVow_889 rfl rfl)) ?_
  refine gcons (snd_g (ok_bipush dL_isVow_890 rfl rfl)) ?_
  refine gcons (snd_g (ok_iload dL_isVow_892 rfl)) ?_
  refine gcons (snd_g (ok_iconst dL_isVow_894 rfl rfl)) ?_
  refine gcons (snd_g (ok_iconst dL_isVow_895 rfl rfl)) ?_
  refine gcons (snd_g (ok_iconst dL_isVow_896 rfl rfl)) ?_
  refine gcons (ok_invokestaticHN M_L_does w_128 w_129 w_19 w_130 ⟨by decide, by decide, by decide +kernel⟩ (by decide) (by decide) dL_isVow_897 rfl) ?_
  refine gcons (snd_g (ok_iload dL_isVow_900 rfl)) ?_
  refine gcons (snd_g (ok_if_ne dL_isVow_902 rfl rfl)) ?_
  refine gcons (snd_g (ok_ldc w_683 dL_isVow_905 rfl)) ?_
  refine gcons (snd_g (ok_goto dL_isVow_907 rfl)) ?_
  refine gcons (snd_g (ok_iload dL_isVow_910 rfl)) ?_
  refine gcons (snd_g (ok_if_eq dL_isVow_912 rfl rfl)) ?_
  refine gcons (snd_g (ok_iconst dL_isVow_915 rfl rfl)) ?_
  refine gcons (snd_g (ok_goto dL_isVow_916 rfl)) ?_
  refine gcons (snd_g (ok_ldc w_685 dL_isVow_919 rfl)) ?_
  refine gcons (snd_g (ok_icmp_ne dL_isVow_921 rfl rfl)) ?_
  refine gcons (snd_g (ok_iconst dL_isVow_924 rfl rfl)) ?_
  refine gcons (snd_g (ok_goto dL_isVow_925 rfl)) ?_
  refine gcons (snd_g (ok_iconst dL_isVow_928 rfl rfl)) ?_
  refine gcons (snd_g (ok_zreturn rfl (Or.inl rfl) dL_isVow_929)) ?_
  refine gcons (snd_g (ok_iload dL_isVow_930 rfl)) ?_
  refine gcons (snd_g (ok_if_eq dL_isVow_932 rfl rfl)) ?_
  refine gcons (snd_g (ok_aload dL_isVow_935 rfl)) ?_
  refine gcons (snd_g (ok_aload dL_isVow_937 rfl)) ?_
  refine gcons (snd_g (ok_iload dL_isVow_939 rfl)) ?_
  refine gcons (snd_g (ok_iconst dL_isVow_941 rfl rfl)) ?_
  refine gcons (snd_g (ok_invokestaticN M_L_isQuiet w_927 w_928 w_19 w_929 ⟨by decide, by decide, by decide +kernel⟩ (by decide) (by decide) dL_isVow_942 rfl)) ?_
  refine gcons (snd_g (ok_if_eq dL_isVow_945 rfl rfl)) ?_
  refine gcons (snd_g (ok_iconst dL_isVow_948 rfl rfl)) ?_
  refine gcons (snd_g (ok_goto dL_isVow_949 rfl)) ?_
  refine gcons (snd_g (ok_iconst dL_isVow_952 rfl rfl)) ?_
  refine gcons (snd_g (ok_istore dL_isVow_953 (by decide) rfl)) ?_
  refine gcons (snd_g (ok_iload dL_isVow_955 rfl)) ?_
  refine gcons (snd_g (ok_iconst dL_isVow_957 rfl rfl)) ?_
  refine gcons (snd_g (ok_icmp_ne dL_isVow_958 rfl rfl)) ?_
  refine gcons (snd_g (ok_iload dL_isVow_961 rfl)) ?_
  refine gcons (snd_g (ok_if_eq dL_isVow_963 rfl rfl)) ?_
  refine gcons (snd_g (ok_iload dL_isVow_966 rfl)) ?_
  refine gcons (snd_g (ok_if_ne dL_isVow_968 rfl rfl)) ?_
  refine gcons (snd_g (ok_iconst dL_isVow_971 rfl rfl)) ?_
  exact fun _ h => nomatch h
def tab_L_isVow_9 : List (Nat × Sem) := [(972, op_go 976), (975, op_ic 0 976), (976, op_is 20 978), (978, op_il 20 980), (980, op_if (fun x => x = 0) 995 983), (983, op_al 5 985), (985, op_al 6 987), (987, op_al 8 989), (989, op_il 12 991), (991, op_ic 2 992), (992, op_callN sp_L_changes 5 0 995), (995, op_al 0 996), (996, op_ic 11 998), (998, op_il 12 1000), (1000, op_ic 0 1001), (1001, op_ic 0 1002), (1002, op_ic 0 1003), (1003, op_callHN sp_L_does 6 16 1006), (1006, op_il 13 1008), (1008, op_if (fun x => ¬ x = 0) 1016 1011), (1011, op_ic (-3000000) 1013), (1013, op_go 1027), (1016, op_il 20 1018), (1018, op_if (fun x => x = 0) 1025 1021), (1021, op_ic 0 1022), (1022, op_go 1027), (1025, op_ic (-1000000) 1027), (1027, op_cmp (fun x y => ¬ x = y) 1034 1030), (1030, op_ic 1 1031), (1031, op_go 1035), (1034, op_ic 0 1035), (1035, op_zret), (1036, op_il 18 1038), (1038, op_il 17 1040), (1040, op_if (fun x => x = 0) 1048 1043), (1043, op_ic 16 1045), (1045, op_go 1049), (1048, op_ic 0 1049), (1049, op_bin (fun x y => x + y) 1050), (1050, op_is 20 1052), (1052, op_il 19 1054), (1054, op_if (fun x => x = 0) 1073 1057), (1057, op_il 16 1059), (1059, op_ic 3 1060), (1060, op_dv (fun x y => irm x y) 1061), (1061, op_if (fun x => ¬ x = 0) 1073 1064), (1064, op_il 20 1066), (1066, op_if (fun x => x ≤ 0) 1073 1069), (1069, op_ic 1 1070), (1070, op_go 1074), (1073, op_ic 0 1074), (1074, op_is 21 1076), (1076, op_il 21 1078), (1078, op_if (fun x => x = 0) 1093 1081), (1081, op_al 5 1083), (1083, op_al 6 1085), (1085, op_al 8 1087), (1087, op_il 12 1089), (1089, op_ic 1 1090), (1090, op_callN sp_L_changes 5 0 1093)]
set_option maxRecDepth 20000 in
theorem tok_L_isVow_9 : ∀ q ∈ tab_L_isVow_9, GSnd RL cL_isVow 23 13 20 (some .boolean) q.1 q.2 := by
  unfold tab_L_isVow_9
  refine gcons (snd_g (ok_goto dL_isVow_972 rfl)) ?_
  refine gcons (snd_g (ok_iconst dL_isVow_975 rfl rfl)) ?_
  refine gcons (snd_g (ok_istore dL_isVow_976 (by decide) rfl)) ?_
  refine gcons (snd_g (ok_iload dL_isVow_978 rfl)) ?_
  refine gcons (snd_g (ok_if_eq dL_isVow_980 rfl rfl)) ?_
  refine gcons (snd_g (ok_aload dL_isVow_983 rfl)) ?_
  refine gcons (snd_g (ok_aload dL_isVow_985 rfl)) ?_
  refine gcons (snd_g (ok_aload dL_isVow_987 rfl)) ?_
  refine gcons (snd_g (ok_iload dL_isVow_989 rfl)) ?_
  refine gcons (snd_g (ok_iconst dL_isVow_991 rfl rfl)) ?_
  refine gcons (snd_g (ok_invokestaticN M_L_changes w_915 w_916 w_19 w_917 ⟨by decide, by decide, by decide +kernel⟩ (by decide) (by decide) dL_isVow_992 rfl)) ?_
  refine gcons (snd_g (ok_aload_n dL_isVow_995 rfl rfl)) ?_
  refine gcons (snd_g (ok_bipush dL_isVow_996 rfl rfl)) ?_
  refine gcons (snd_g (ok_iload dL_isVow_998 rfl)) ?_
  refine gcons (snd_g (ok_iconst dL_isVow_1000 rfl rfl)) ?_
  refine gcons (snd_g (ok_iconst dL_isVow_1001 rfl rfl)) ?_
  refine gcons (snd_g (ok_iconst dL_isVow_1002 rfl rfl)) ?_
  refine gcons (ok_invokestaticHN M_L_does w_128 w_129 w_19 w_130 ⟨by decide, by decide, by decide +kernel⟩ (by decide) (by decide) dL_isVow_1003 rfl) ?_
  refine gcons (snd_g (ok_iload dL_isVow_1006 rfl)) ?_
  refine gcons (snd_g (ok_if_ne dL_isVow_1008 rfl rfl)) ?_
  refine gcons (snd_g (ok_ldc w_683 dL_isVow_1011 rfl)) ?_
  refine gcons (snd_g (ok_goto dL_isVow_1013 rfl)) ?_
  refine gcons (snd_g (ok_iload dL_isVow_1016 rfl)) ?_
  refine gcons (snd_g (ok_if_eq dL_isVow_1018 rfl rfl)) ?_
  refine gcons (snd_g (ok_iconst dL_isVow_1021 rfl rfl)) ?_
  refine gcons (snd_g (ok_goto dL_isVow_1022 rfl)) ?_
  refine gcons (snd_g (ok_ldc w_685 dL_isVow_1025 rfl)) ?_
  refine gcons (snd_g (ok_icmp_ne dL_isVow_1027 rfl rfl)) ?_
  refine gcons (snd_g (ok_iconst dL_isVow_1030 rfl rfl)) ?_
  refine gcons (snd_g (ok_goto dL_isVow_1031 rfl)) ?_
  refine gcons (snd_g (ok_iconst dL_isVow_1034 rfl rfl)) ?_
  refine gcons (snd_g (ok_zreturn rfl (Or.inl rfl) dL_isVow_1035)) ?_
  refine gcons (snd_g (ok_iload dL_isVow_1036 rfl)) ?_
  refine gcons (snd_g (ok_iload dL_isVow_1038 rfl)) ?_
  refine gcons (snd_g (ok_if_eq dL_isVow_1040 rfl rfl)) ?_
  refine gcons (snd_g (ok_bipush dL_isVow_1043 rfl rfl)) ?_
  refine gcons (snd_g (ok_goto dL_isVow_1045 rfl)) ?_
  refine gcons (snd_g (ok_iconst dL_isVow_1048 rfl rfl)) ?_
  refine gcons (snd_g (ok_iadd dL_isVow_1049 rfl)) ?_
  refine gcons (snd_g (ok_istore dL_isVow_1050 (by decide) rfl)) ?_
  refine gcons (snd_g (ok_iload dL_isVow_1052 rfl)) ?_
  refine gcons (snd_g (ok_if_eq dL_isVow_1054 rfl rfl)) ?_
  refine gcons (snd_g (ok_iload dL_isVow_1057 rfl)) ?_
  refine gcons (snd_g (ok_iconst dL_isVow_1059 rfl rfl)) ?_
  refine gcons (snd_g (ok_irem dL_isVow_1060 rfl)) ?_
  refine gcons (snd_g (ok_if_ne dL_isVow_1061 rfl rfl)) ?_
  refine gcons (snd_g (ok_iload dL_isVow_1064 rfl)) ?_
  refine gcons (snd_g (ok_if_le dL_isVow_1066 rfl rfl)) ?_
  refine gcons (snd_g (ok_iconst dL_isVow_1069 rfl rfl)) ?_
  refine gcons (snd_g (ok_goto dL_isVow_1070 rfl)) ?_
  refine gcons (snd_g (ok_iconst dL_isVow_1073 rfl rfl)) ?_
  refine gcons (snd_g (ok_istore dL_isVow_1074 (by decide) rfl)) ?_
  refine gcons (snd_g (ok_iload dL_isVow_1076 rfl)) ?_
  refine gcons (snd_g (ok_if_eq dL_isVow_1078 rfl rfl)) ?_
  refine gcons (snd_g (ok_aload dL_isVow_1081 rfl)) ?_
  refine gcons (snd_g (ok_aload dL_isVow_1083 rfl)) ?_
  refine gcons (snd_g (ok_aload dL_isVow_1085 rfl)) ?_
  refine gcons (snd_g (ok_iload dL_isVow_1087 rfl)) ?_
  refine gcons (snd_g (ok_iconst dL_isVow_1089 rfl rfl)) ?_
  refine gcons (snd_g (ok_invokestaticN M_L_changes w_915 w_916 w_19 w_917 ⟨by decide, by decide, by decide +kernel⟩ (by decide) (by decide) dL_isVow_1090 rfl)) ?_
  exact fun _ h => nomatch h
def tab_L_isVow_10 : List (Nat × Sem) := [(1093, op_al 0 1094), (1094, op_ic 12 1096), (1096, op_il 12 1098), (1098, op_ic 0 1099), (1099, op_ic 0 1100), (1100, op_ic 0 1101), (1101, op_callHN sp_L_does 6 16 1104), (1104, op_il 13 1106), (1106, op_if (fun x => ¬ x = 0) 1114 1109), (1109, op_ic (-3000000) 1111), (1111, op_go 1126), (1114, op_il 21 1116), (1116, op_if (fun x => x = 0) 1124 1119), (1119, op_il 20 1121), (1121, op_go 1126), (1124, op_ic (-1000000) 1126), (1126, op_cmp (fun x y => ¬ x = y) 1133 1129), (1129, op_ic 1 1130), (1130, op_go 1134), (1133, op_ic 0 1134), (1134, op_zret)]
set_option maxRecDepth 20000 in
theorem tok_L_isVow_10 : ∀ q ∈ tab_L_isVow_10, GSnd RL cL_isVow 23 13 20 (some .boolean) q.1 q.2 := by
  unfold tab_L_isVow_10
  refine gcons (snd_g (ok_aload_n dL_isVow_1093 rfl rfl)) ?_
  refine gcons (snd_g (ok_bipush dL_isVow_1094 rfl rfl)) ?_
  refine gcons (snd_g (ok_iload dL_isVow_1096 rfl)) ?_
  refine gcons (snd_g (ok_iconst dL_isVow_1098 rfl rfl)) ?_
  refine gcons (snd_g (ok_iconst dL_isVow_1099 rfl rfl)) ?_
  refine gcons (snd_g (ok_iconst dL_isVow_1100 rfl rfl)) ?_
  refine gcons (ok_invokestaticHN M_L_does w_128 w_129 w_19 w_130 ⟨by decide, by decide, by decide +kernel⟩ (by decide) (by decide) dL_isVow_1101 rfl) ?_
  refine gcons (snd_g (ok_iload dL_isVow_1104 rfl)) ?_
  refine gcons (snd_g (ok_if_ne dL_isVow_1106 rfl rfl)) ?_
  refine gcons (snd_g (ok_ldc w_683 dL_isVow_1109 rfl)) ?_
  refine gcons (snd_g (ok_goto dL_isVow_1111 rfl)) ?_
  refine gcons (snd_g (ok_iload dL_isVow_1114 rfl)) ?_
  refine gcons (snd_g (ok_if_eq dL_isVow_1116 rfl rfl)) ?_
  refine gcons (snd_g (ok_iload dL_isVow_1119 rfl)) ?_
  refine gcons (snd_g (ok_goto dL_isVow_1121 rfl)) ?_
  refine gcons (snd_g (ok_ldc w_685 dL_isVow_1124 rfl)) ?_
  refine gcons (snd_g (ok_icmp_ne dL_isVow_1126 rfl rfl)) ?_
  refine gcons (snd_g (ok_iconst dL_isVow_1129 rfl rfl)) ?_
  refine gcons (snd_g (ok_goto dL_isVow_1130 rfl)) ?_
  refine gcons (snd_g (ok_iconst dL_isVow_1133 rfl rfl)) ?_
  refine gcons (snd_g (ok_zreturn rfl (Or.inl rfl) dL_isVow_1134)) ?_
  exact fun _ h => nomatch h
def tab_L_isVow : List (Nat × Sem) := tab_L_isVow_0 ++ (tab_L_isVow_1 ++ (tab_L_isVow_2 ++ (tab_L_isVow_3 ++ (tab_L_isVow_4 ++ (tab_L_isVow_5 ++ (tab_L_isVow_6 ++ (tab_L_isVow_7 ++ (tab_L_isVow_8 ++ (tab_L_isVow_9 ++ (tab_L_isVow_10))))))))))
theorem tok_L_isVow : ∀ q ∈ tab_L_isVow, GSnd RL cL_isVow 23 13 20 (some .boolean) q.1 q.2 := gapp tok_L_isVow_0 (gapp tok_L_isVow_1 (gapp tok_L_isVow_2 (gapp tok_L_isVow_3 (gapp tok_L_isVow_4 (gapp tok_L_isVow_5 (gapp tok_L_isVow_6 (gapp tok_L_isVow_7 (gapp tok_L_isVow_8 (gapp tok_L_isVow_9 (tok_L_isVow_10))))))))))

