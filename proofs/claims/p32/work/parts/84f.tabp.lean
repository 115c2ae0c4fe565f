/-! the law's isPerson: its instructions -/
theorem w_128 : (.methodLink "VowCourtLaw" 150 ⟨"VowCourtLaw", "does", "(LVowCourt;IIIII)I"⟩ : Cond) ∈ TB := TB_mem (List.mem_of_getElem? (i := 128) (by decide +kernel)) rfl
theorem w_129 : (.static ⟨"VowCourtLaw", "does", "(LVowCourt;IIIII)I"⟩ : Cond) ∈ TB := TB_mem (List.mem_of_getElem? (i := 129) (by decide +kernel)) rfl
theorem w_130 : (.codeWith yL_does cL_does 7 (some .int) [(0, 378, 379, 92), (0, 378, 384, 95), (0, 378, 389, 98)] : Cond) ∈ TB := TB_mem (List.mem_of_getElem? (i := 130) (by decide +kernel)) rfl
theorem w_913 : (.constant "VowCourtLaw" 154 (36002) : Cond) ∈ TB := TB_mem (List.mem_of_getElem? (i := 913) (by decide +kernel)) rfl
theorem w_914 : (.constant "VowCourtLaw" 155 (36001) : Cond) ∈ TB := TB_mem (List.mem_of_getElem? (i := 914) (by decide +kernel)) rfl
theorem w_918 : (.methodLink "VowCourtLaw" 160 ⟨"VowCourtLaw", "hinders", "([I[IIII)I"⟩ : Cond) ∈ TB := TB_mem (List.mem_of_getElem? (i := 918) (by decide +kernel)) rfl
theorem w_919 : (.static ⟨"VowCourtLaw", "hinders", "([I[IIII)I"⟩ : Cond) ∈ TB := TB_mem (List.mem_of_getElem? (i := 919) (by decide +kernel)) rfl
theorem w_920 : (.code yL_hinders cL_hinders 7 (some .int) : Cond) ∈ TB := TB_mem (List.mem_of_getElem? (i := 920) (by decide +kernel)) rfl
theorem w_921 : (.methodLink "VowCourtLaw" 164 ⟨"VowCourtLaw", "isDispensed", "([IIII)Z"⟩ : Cond) ∈ TB := TB_mem (List.mem_of_getElem? (i := 921) (by decide +kernel)) rfl
theorem w_922 : (.static ⟨"VowCourtLaw", "isDispensed", "([IIII)Z"⟩ : Cond) ∈ TB := TB_mem (List.mem_of_getElem? (i := 922) (by decide +kernel)) rfl
theorem w_923 : (.code yL_isDispensed cL_isDispensed 7 (some .boolean) : Cond) ∈ TB := TB_mem (List.mem_of_getElem? (i := 923) (by decide +kernel)) rfl
theorem dL_isPerson_0 : decode cL_isPerson 0 = .ok (.iload 7, 2) := by decide +kernel
theorem dL_isPerson_2 : decode cL_isPerson 2 = .ok (.ifCond .ne 295, 3) := by decide +kernel
theorem dL_isPerson_5 : decode cL_isPerson 5 = .ok (.aload 6, 2) := by decide +kernel
theorem dL_isPerson_7 : decode cL_isPerson 7 = .ok (.iconst 1, 1) := by decide +kernel
theorem dL_isPerson_8 : decode cL_isPerson 8 = .ok (.iaload, 1) := by decide +kernel
theorem dL_isPerson_9 : decode cL_isPerson 9 = .ok (.bipush 16, 2) := by decide +kernel
theorem dL_isPerson_11 : decode cL_isPerson 11 = .ok (.if_icmp .ge 286, 3) := by decide +kernel
theorem dL_isPerson_14 : decode cL_isPerson 14 = .ok (.iload 9, 2) := by decide +kernel
theorem dL_isPerson_16 : decode cL_isPerson 16 = .ok (.bipush 9, 2) := by decide +kernel
theorem dL_isPerson_18 : decode cL_isPerson 18 = .ok (.irem, 1) := by decide +kernel
theorem dL_isPerson_19 : decode cL_isPerson 19 = .ok (.ifCond .ne 17, 3) := by decide +kernel
theorem dL_isPerson_22 : decode cL_isPerson 22 = .ok (.iload 9, 2) := by decide +kernel
theorem dL_isPerson_24 : decode cL_isPerson 24 = .ok (.bipush 9, 2) := by decide +kernel
theorem dL_isPerson_26 : decode cL_isPerson 26 = .ok (.idiv, 1) := by decide +kernel
theorem dL_isPerson_27 : decode cL_isPerson 27 = .ok (.bipush 6, 2) := by decide +kernel
theorem dL_isPerson_29 : decode cL_isPerson 29 = .ok (.imul, 1) := by decide +kernel
theorem dL_isPerson_30 : decode cL_isPerson 30 = .ok (.ldc 154, 2) := by decide +kernel
theorem dL_isPerson_32 : decode cL_isPerson 32 = .ok (.irem, 1) := by decide +kernel
theorem dL_isPerson_33 : decode cL_isPerson 33 = .ok (.goto 13, 3) := by decide +kernel
theorem dL_isPerson_36 : decode cL_isPerson 36 = .ok (.sipush 4900, 3) := by decide +kernel
theorem dL_isPerson_39 : decode cL_isPerson 39 = .ok (.iload 9, 2) := by decide +kernel
theorem dL_isPerson_41 : decode cL_isPerson 41 = .ok (.sipush 1800, 3) := by decide +kernel
theorem dL_isPerson_44 : decode cL_isPerson 44 = .ok (.irem, 1) := by decide +kernel
theorem dL_isPerson_45 : decode cL_isPerson 45 = .ok (.iadd, 1) := by decide +kernel
theorem dL_isPerson_46 : decode cL_isPerson 46 = .ok (.istore 10, 2) := by decide +kernel
theorem dL_isPerson_48 : decode cL_isPerson 48 = .ok (.iload 8, 2) := by decide +kernel
theorem dL_isPerson_50 : decode cL_isPerson 50 = .ok (.iconst 3, 1) := by decide +kernel
theorem dL_isPerson_51 : decode cL_isPerson 51 = .ok (.irem, 1) := by decide +kernel
theorem dL_isPerson_52 : decode cL_isPerson 52 = .ok (.ifCond .ne 7, 3) := by decide +kernel
theorem dL_isPerson_55 : decode cL_isPerson 55 = .ok (.iconst (-1), 1) := by decide +kernel
theorem dL_isPerson_56 : decode cL_isPerson 56 = .ok (.goto 14, 3) := by decide +kernel
theorem dL_isPerson_59 : decode cL_isPerson 59 = .ok (.iload 8, 2) := by decide +kernel
theorem dL_isPerson_61 : decode cL_isPerson 61 = .ok (.iconst 3, 1) := by decide +kernel
theorem dL_isPerson_62 : decode cL_isPerson 62 = .ok (.idiv, 1) := by decide +kernel
theorem dL_isPerson_63 : decode cL_isPerson 63 = .ok (.aload 6, 2) := by decide +kernel
theorem dL_isPerson_65 : decode cL_isPerson 65 = .ok (.iconst 1, 1) := by decide +kernel
theorem dL_isPerson_66 : decode cL_isPerson 66 = .ok (.iaload, 1) := by decide +kernel
theorem dL_isPerson_67 : decode cL_isPerson 67 = .ok (.iconst 1, 1) := by decide +kernel
theorem dL_isPerson_68 : decode cL_isPerson 68 = .ok (.iadd, 1) := by decide +kernel
theorem dL_isPerson_69 : decode cL_isPerson 69 = .ok (.irem, 1) := by decide +kernel
theorem dL_isPerson_70 : decode cL_isPerson 70 = .ok (.istore 11, 2) := by decide +kernel
theorem dL_isPerson_72 : decode cL_isPerson 72 = .ok (.iload 8, 2) := by decide +kernel
theorem dL_isPerson_74 : decode cL_isPerson 74 = .ok (.bipush 60, 2) := by decide +kernel
theorem dL_isPerson_76 : decode cL_isPerson 76 = .ok (.idiv, 1) := by decide +kernel
theorem dL_isPerson_77 : decode cL_isPerson 77 = .ok (.iconst 3, 1) := by decide +kernel
theorem dL_isPerson_78 : decode cL_isPerson 78 = .ok (.irem, 1) := by decide +kernel
theorem dL_isPerson_79 : decode cL_isPerson 79 = .ok (.ifCond .ne 7, 3) := by decide +kernel
theorem dL_isPerson_82 : decode cL_isPerson 82 = .ok (.iconst (-1), 1) := by decide +kernel
theorem dL_isPerson_83 : decode cL_isPerson 83 = .ok (.goto 16, 3) := by decide +kernel
theorem dL_isPerson_86 : decode cL_isPerson 86 = .ok (.iload 8, 2) := by decide +kernel
theorem dL_isPerson_88 : decode cL_isPerson 88 = .ok (.sipush 180, 3) := by decide +kernel
theorem dL_isPerson_91 : decode cL_isPerson 91 = .ok (.idiv, 1) := by decide +kernel
theorem dL_isPerson_92 : decode cL_isPerson 92 = .ok (.aload 6, 2) := by decide +kernel
theorem dL_isPerson_94 : decode cL_isPerson 94 = .ok (.iconst 1, 1) := by decide +kernel
theorem dL_isPerson_95 : decode cL_isPerson 95 = .ok (.iaload, 1) := by decide +kernel
theorem dL_isPerson_96 : decode cL_isPerson 96 = .ok (.iconst 1, 1) := by decide +kernel
theorem dL_isPerson_97 : decode cL_isPerson 97 = .ok (.iadd, 1) := by decide +kernel
theorem dL_isPerson_98 : decode cL_isPerson 98 = .ok (.irem, 1) := by decide +kernel
theorem dL_isPerson_99 : decode cL_isPerson 99 = .ok (.istore 12, 2) := by decide +kernel
theorem dL_isPerson_101 : decode cL_isPerson 101 = .ok (.iload 8, 2) := by decide +kernel
theorem dL_isPerson_103 : decode cL_isPerson 103 = .ok (.bipush 9, 2) := by decide +kernel
theorem dL_isPerson_105 : decode cL_isPerson 105 = .ok (.irem, 1) := by decide +kernel
theorem dL_isPerson_106 : decode cL_isPerson 106 = .ok (.bipush 8, 2) := by decide +kernel
theorem dL_isPerson_108 : decode cL_isPerson 108 = .ok (.if_icmp .ne 8, 3) := by decide +kernel
theorem dL_isPerson_111 : decode cL_isPerson 111 = .ok (.bipush 8, 2) := by decide +kernel
theorem dL_isPerson_113 : decode cL_isPerson 113 = .ok (.goto 7, 3) := by decide +kernel
theorem dL_isPerson_116 : decode cL_isPerson 116 = .ok (.iload 8, 2) := by decide +kernel
theorem dL_isPerson_118 : decode cL_isPerson 118 = .ok (.iconst 3, 1) := by decide +kernel
theorem dL_isPerson_119 : decode cL_isPerson 119 = .ok (.irem, 1) := by decide +kernel
theorem dL_isPerson_120 : decode cL_isPerson 120 = .ok (.istore 13, 2) := by decide +kernel
theorem dL_isPerson_122 : decode cL_isPerson 122 = .ok (.iload 11, 2) := by decide +kernel
theorem dL_isPerson_124 : decode cL_isPerson 124 = .ok (.aload 6, 2) := by decide +kernel
theorem dL_isPerson_126 : decode cL_isPerson 126 = .ok (.iconst 1, 1) := by decide +kernel
theorem dL_isPerson_127 : decode cL_isPerson 127 = .ok (.iaload, 1) := by decide +kernel
theorem dL_isPerson_128 : decode cL_isPerson 128 = .ok (.if_icmp .ge 16, 3) := by decide +kernel
theorem dL_isPerson_131 : decode cL_isPerson 131 = .ok (.iload 12, 2) := by decide +kernel
theorem dL_isPerson_133 : decode cL_isPerson 133 = .ok (.aload 6, 2) := by decide +kernel
theorem dL_isPerson_135 : decode cL_isPerson 135 = .ok (.iconst 1, 1) := by decide +kernel
theorem dL_isPerson_136 : decode cL_isPerson 136 = .ok (.iaload, 1) := by decide +kernel
theorem dL_isPerson_137 : decode cL_isPerson 137 = .ok (.if_icmp .ge 7, 3) := by decide +kernel
theorem dL_isPerson_140 : decode cL_isPerson 140 = .ok (.iconst 1, 1) := by decide +kernel
theorem dL_isPerson_141 : decode cL_isPerson 141 = .ok (.goto 4, 3) := by decide +kernel
theorem dL_isPerson_144 : decode cL_isPerson 144 = .ok (.iconst 0, 1) := by decide +kernel
theorem dL_isPerson_145 : decode cL_isPerson 145 = .ok (.istore 14, 2) := by decide +kernel
theorem dL_isPerson_147 : decode cL_isPerson 147 = .ok (.iload 11, 2) := by decide +kernel
theorem dL_isPerson_149 : decode cL_isPerson 149 = .ok (.ifCond .lt 10, 3) := by decide +kernel
theorem dL_isPerson_152 : decode cL_isPerson 152 = .ok (.iload 11, 2) := by decide +kernel
theorem dL_isPerson_154 : decode cL_isPerson 154 = .ok (.iload 12, 2) := by decide +kernel
theorem dL_isPerson_156 : decode cL_isPerson 156 = .ok (.if_icmp .eq 21, 3) := by decide +kernel
theorem dL_isPerson_159 : decode cL_isPerson 159 = .ok (.iload 10, 2) := by decide +kernel
theorem dL_isPerson_161 : decode cL_isPerson 161 = .ok (.ldc 155, 2) := by decide +kernel
theorem dL_isPerson_163 : decode cL_isPerson 163 = .ok (.if_icmp .ge 14, 3) := by decide +kernel
theorem dL_isPerson_166 : decode cL_isPerson 166 = .ok (.iload 13, 2) := by decide +kernel
theorem dL_isPerson_168 : decode cL_isPerson 168 = .ok (.bipush 8, 2) := by decide +kernel
theorem dL_isPerson_170 : decode cL_isPerson 170 = .ok (.if_icmp .ge 7, 3) := by decide +kernel
theorem dL_isPerson_173 : decode cL_isPerson 173 = .ok (.iconst 1, 1) := by decide +kernel
theorem dL_isPerson_174 : decode cL_isPerson 174 = .ok (.goto 4, 3) := by decide +kernel
theorem dL_isPerson_177 : decode cL_isPerson 177 = .ok (.iconst 0, 1) := by decide +kernel
theorem dL_isPerson_178 : decode cL_isPerson 178 = .ok (.istore 15, 2) := by decide +kernel
theorem dL_isPerson_180 : decode cL_isPerson 180 = .ok (.iload 14, 2) := by decide +kernel
theorem dL_isPerson_182 : decode cL_isPerson 182 = .ok (.ifCond .eq 12, 3) := by decide +kernel
theorem dL_isPerson_185 : decode cL_isPerson 185 = .ok (.iload 15, 2) := by decide +kernel
theorem dL_isPerson_187 : decode cL_isPerson 187 = .ok (.ifCond .eq 7, 3) := by decide +kernel
theorem dL_isPerson_190 : decode cL_isPerson 190 = .ok (.iconst 1, 1) := by decide +kernel
theorem dL_isPerson_191 : decode cL_isPerson 191 = .ok (.goto 4, 3) := by decide +kernel
theorem dL_isPerson_194 : decode cL_isPerson 194 = .ok (.iconst 0, 1) := by decide +kernel
theorem dL_isPerson_195 : decode cL_isPerson 195 = .ok (.istore 16, 2) := by decide +kernel
theorem dL_isPerson_197 : decode cL_isPerson 197 = .ok (.iload 16, 2) := by decide +kernel
theorem dL_isPerson_199 : decode cL_isPerson 199 = .ok (.ifCond .eq 50, 3) := by decide +kernel
theorem dL_isPerson_202 : decode cL_isPerson 202 = .ok (.aload_n 1, 1) := by decide +kernel
theorem dL_isPerson_203 : decode cL_isPerson 203 = .ok (.aload 6, 2) := by decide +kernel
theorem dL_isPerson_205 : decode cL_isPerson 205 = .ok (.iconst 1, 1) := by decide +kernel
theorem dL_isPerson_206 : decode cL_isPerson 206 = .ok (.iaload, 1) := by decide +kernel
theorem dL_isPerson_207 : decode cL_isPerson 207 = .ok (.iload 13, 2) := by decide +kernel
theorem dL_isPerson_209 : decode cL_isPerson 209 = .ok (.sipush 128, 3) := by decide +kernel
theorem dL_isPerson_212 : decode cL_isPerson 212 = .ok (.iload 11, 2) := by decide +kernel
theorem dL_isPerson_214 : decode cL_isPerson 214 = .ok (.iconst 1, 1) := by decide +kernel
theorem dL_isPerson_215 : decode cL_isPerson 215 = .ok (.iadd, 1) := by decide +kernel
theorem dL_isPerson_216 : decode cL_isPerson 216 = .ok (.imul, 1) := by decide +kernel
theorem dL_isPerson_217 : decode cL_isPerson 217 = .ok (.iadd, 1) := by decide +kernel
theorem dL_isPerson_218 : decode cL_isPerson 218 = .ok (.sipush 4096, 3) := by decide +kernel
theorem dL_isPerson_221 : decode cL_isPerson 221 = .ok (.iload 12, 2) := by decide +kernel
theorem dL_isPerson_223 : decode cL_isPerson 223 = .ok (.iconst 1, 1) := by decide +kernel
theorem dL_isPerson_224 : decode cL_isPerson 224 = .ok (.iadd, 1) := by decide +kernel
theorem dL_isPerson_225 : decode cL_isPerson 225 = .ok (.imul, 1) := by decide +kernel
theorem dL_isPerson_226 : decode cL_isPerson 226 = .ok (.iadd, 1) := by decide +kernel
theorem dL_isPerson_227 : decode cL_isPerson 227 = .ok (.iastore, 1) := by decide +kernel
theorem dL_isPerson_228 : decode cL_isPerson 228 = .ok (.aload_n 2, 1) := by decide +kernel
theorem dL_isPerson_229 : decode cL_isPerson 229 = .ok (.aload 6, 2) := by decide +kernel
theorem dL_isPerson_231 : decode cL_isPerson 231 = .ok (.iconst 1, 1) := by decide +kernel
theorem dL_isPerson_232 : decode cL_isPerson 232 = .ok (.iaload, 1) := by decide +kernel
theorem dL_isPerson_233 : decode cL_isPerson 233 = .ok (.aload 6, 2) := by decide +kernel
theorem dL_isPerson_235 : decode cL_isPerson 235 = .ok (.iconst 0, 1) := by decide +kernel
theorem dL_isPerson_236 : decode cL_isPerson 236 = .ok (.iaload, 1) := by decide +kernel
theorem dL_isPerson_237 : decode cL_isPerson 237 = .ok (.iload 10, 2) := by decide +kernel
theorem dL_isPerson_239 : decode cL_isPerson 239 = .ok (.isub, 1) := by decide +kernel
theorem dL_isPerson_240 : decode cL_isPerson 240 = .ok (.iastore, 1) := by decide +kernel
theorem dL_isPerson_241 : decode cL_isPerson 241 = .ok (.aload 6, 2) := by decide +kernel
theorem dL_isPerson_243 : decode cL_isPerson 243 = .ok (.iconst 1, 1) := by decide +kernel
theorem dL_isPerson_244 : decode cL_isPerson 244 = .ok (.dup2, 1) := by decide +kernel
theorem dL_isPerson_245 : decode cL_isPerson 245 = .ok (.iaload, 1) := by decide +kernel
theorem dL_isPerson_246 : decode cL_isPerson 246 = .ok (.iconst 1, 1) := by decide +kernel
theorem dL_isPerson_247 : decode cL_isPerson 247 = .ok (.iadd, 1) := by decide +kernel
theorem dL_isPerson_248 : decode cL_isPerson 248 = .ok (.iastore, 1) := by decide +kernel
theorem dL_isPerson_249 : decode cL_isPerson 249 = .ok (.aload_n 0, 1) := by decide +kernel
theorem dL_isPerson_250 : decode cL_isPerson 250 = .ok (.iconst 0, 1) := by decide +kernel
theorem dL_isPerson_251 : decode cL_isPerson 251 = .ok (.iload 10, 2) := by decide +kernel
theorem dL_isPerson_253 : decode cL_isPerson 253 = .ok (.iload 11, 2) := by decide +kernel
theorem dL_isPerson_255 : decode cL_isPerson 255 = .ok (.iload 12, 2) := by decide +kernel
theorem dL_isPerson_257 : decode cL_isPerson 257 = .ok (.iload 13, 2) := by decide +kernel
theorem dL_isPerson_259 : decode cL_isPerson 259 = .ok (.invokestatic 150, 3) := by decide +kernel
theorem dL_isPerson_262 : decode cL_isPerson 262 = .ok (.iload 14, 2) := by decide +kernel
theorem dL_isPerson_264 : decode cL_isPerson 264 = .ok (.ifCond .ne 8, 3) := by decide +kernel
theorem dL_isPerson_267 : decode cL_isPerson 267 = .ok (.ldc 94, 2) := by decide +kernel
theorem dL_isPerson_269 : decode cL_isPerson 269 = .ok (.goto 19, 3) := by decide +kernel
theorem dL_isPerson_272 : decode cL_isPerson 272 = .ok (.iload 16, 2) := by decide +kernel
theorem dL_isPerson_274 : decode cL_isPerson 274 = .ok (.ifCond .eq 12, 3) := by decide +kernel
theorem dL_isPerson_277 : decode cL_isPerson 277 = .ok (.aload 6, 2) := by decide +kernel
theorem dL_isPerson_279 : decode cL_isPerson 279 = .ok (.iconst 1, 1) := by decide +kernel
theorem dL_isPerson_280 : decode cL_isPerson 280 = .ok (.iaload, 1) := by decide +kernel
theorem dL_isPerson_281 : decode cL_isPerson 281 = .ok (.iconst 1, 1) := by decide +kernel
theorem dL_isPerson_282 : decode cL_isPerson 282 = .ok (.isub, 1) := by decide +kernel
theorem dL_isPerson_283 : decode cL_isPerson 283 = .ok (.goto 5, 3) := by decide +kernel
theorem dL_isPerson_286 : decode cL_isPerson 286 = .ok (.ldc 97, 2) := by decide +kernel
theorem dL_isPerson_288 : decode cL_isPerson 288 = .ok (.if_icmp .ne 7, 3) := by decide +kernel
theorem dL_isPerson_291 : decode cL_isPerson 291 = .ok (.iconst 1, 1) := by decide +kernel
theorem dL_isPerson_292 : decode cL_isPerson 292 = .ok (.goto 4, 3) := by decide +kernel
theorem dL_isPerson_295 : decode cL_isPerson 295 = .ok (.iconst 0, 1) := by decide +kernel
theorem dL_isPerson_296 : decode cL_isPerson 296 = .ok (.ireturn, 1) := by decide +kernel
theorem dL_isPerson_297 : decode cL_isPerson 297 = .ok (.iload 8, 2) := by decide +kernel
theorem dL_isPerson_299 : decode cL_isPerson 299 = .ok (.aload 6, 2) := by decide +kernel
theorem dL_isPerson_301 : decode cL_isPerson 301 = .ok (.iconst 1, 1) := by decide +kernel
theorem dL_isPerson_302 : decode cL_isPerson 302 = .ok (.iaload, 1) := by decide +kernel
theorem dL_isPerson_303 : decode cL_isPerson 303 = .ok (.iconst 1, 1) := by decide +kernel
theorem dL_isPerson_304 : decode cL_isPerson 304 = .ok (.iadd, 1) := by decide +kernel
theorem dL_isPerson_305 : decode cL_isPerson 305 = .ok (.irem, 1) := by decide +kernel
theorem dL_isPerson_306 : decode cL_isPerson 306 = .ok (.istore 10, 2) := by decide +kernel
theorem dL_isPerson_308 : decode cL_isPerson 308 = .ok (.iload 10, 2) := by decide +kernel
theorem dL_isPerson_310 : decode cL_isPerson 310 = .ok (.aload 6, 2) := by decide +kernel
theorem dL_isPerson_312 : decode cL_isPerson 312 = .ok (.iconst 1, 1) := by decide +kernel
theorem dL_isPerson_313 : decode cL_isPerson 313 = .ok (.iaload, 1) := by decide +kernel
theorem dL_isPerson_314 : decode cL_isPerson 314 = .ok (.if_icmp .ge 7, 3) := by decide +kernel
theorem dL_isPerson_317 : decode cL_isPerson 317 = .ok (.iconst 1, 1) := by decide +kernel
theorem dL_isPerson_318 : decode cL_isPerson 318 = .ok (.goto 4, 3) := by decide +kernel
theorem dL_isPerson_321 : decode cL_isPerson 321 = .ok (.iconst 0, 1) := by decide +kernel
theorem dL_isPerson_322 : decode cL_isPerson 322 = .ok (.istore 11, 2) := by decide +kernel
theorem dL_isPerson_324 : decode cL_isPerson 324 = .ok (.iload 7, 2) := by decide +kernel
theorem dL_isPerson_326 : decode cL_isPerson 326 = .ok (.iconst 2, 1) := by decide +kernel
theorem dL_isPerson_327 : decode cL_isPerson 327 = .ok (.if_icmp .ge 178, 3) := by decide +kernel
theorem dL_isPerson_330 : decode cL_isPerson 330 = .ok (.iload 9, 2) := by decide +kernel
theorem dL_isPerson_332 : decode cL_isPerson 332 = .ok (.iconst 2, 1) := by decide +kernel
theorem dL_isPerson_333 : decode cL_isPerson 333 = .ok (.irem, 1) := by decide +kernel
theorem dL_isPerson_334 : decode cL_isPerson 334 = .ok (.ifCond .ne 7, 3) := by decide +kernel
theorem dL_isPerson_337 : decode cL_isPerson 337 = .ok (.iconst 1, 1) := by decide +kernel
theorem dL_isPerson_338 : decode cL_isPerson 338 = .ok (.goto 4, 3) := by decide +kernel
theorem dL_isPerson_341 : decode cL_isPerson 341 = .ok (.iconst 0, 1) := by decide +kernel
theorem dL_isPerson_342 : decode cL_isPerson 342 = .ok (.istore 12, 2) := by decide +kernel
theorem dL_isPerson_344 : decode cL_isPerson 344 = .ok (.iload 9, 2) := by decide +kernel
theorem dL_isPerson_346 : decode cL_isPerson 346 = .ok (.iconst 2, 1) := by decide +kernel
theorem dL_isPerson_347 : decode cL_isPerson 347 = .ok (.idiv, 1) := by decide +kernel
theorem dL_isPerson_348 : decode cL_isPerson 348 = .ok (.iload 12, 2) := by decide +kernel
theorem dL_isPerson_350 : decode cL_isPerson 350 = .ok (.ifCond .eq 7, 3) := by decide +kernel
theorem dL_isPerson_353 : decode cL_isPerson 353 = .ok (.iconst 4, 1) := by decide +kernel
theorem dL_isPerson_354 : decode cL_isPerson 354 = .ok (.goto 5, 3) := by decide +kernel
theorem dL_isPerson_357 : decode cL_isPerson 357 = .ok (.bipush 9, 2) := by decide +kernel
theorem dL_isPerson_359 : decode cL_isPerson 359 = .ok (.irem, 1) := by decide +kernel
theorem dL_isPerson_360 : decode cL_isPerson 360 = .ok (.istore 13, 2) := by decide +kernel
theorem dL_isPerson_362 : decode cL_isPerson 362 = .ok (.iload 11, 2) := by decide +kernel
theorem dL_isPerson_364 : decode cL_isPerson 364 = .ok (.ifCond .eq 23, 3) := by decide +kernel
theorem dL_isPerson_367 : decode cL_isPerson 367 = .ok (.iload 13, 2) := by decide +kernel
theorem dL_isPerson_369 : decode cL_isPerson 369 = .ok (.iload 12, 2) := by decide +kernel
theorem dL_isPerson_371 : decode cL_isPerson 371 = .ok (.ifCond .eq 7, 3) := by decide +kernel
theorem dL_isPerson_374 : decode cL_isPerson 374 = .ok (.iconst 3, 1) := by decide +kernel
theorem dL_isPerson_375 : decode cL_isPerson 375 = .ok (.goto 5, 3) := by decide +kernel
theorem dL_isPerson_378 : decode cL_isPerson 378 = .ok (.bipush 8, 2) := by decide +kernel
theorem dL_isPerson_380 : decode cL_isPerson 380 = .ok (.if_icmp .ge 7, 3) := by decide +kernel
theorem dL_isPerson_383 : decode cL_isPerson 383 = .ok (.iconst 1, 1) := by decide +kernel
theorem dL_isPerson_384 : decode cL_isPerson 384 = .ok (.goto 4, 3) := by decide +kernel
theorem dL_isPerson_387 : decode cL_isPerson 387 = .ok (.iconst 0, 1) := by decide +kernel
theorem dL_isPerson_388 : decode cL_isPerson 388 = .ok (.istore 14, 2) := by decide +kernel
theorem dL_isPerson_390 : decode cL_isPerson 390 = .ok (.iload 11, 2) := by decide +kernel
theorem dL_isPerson_392 : decode cL_isPerson 392 = .ok (.ifCond .eq 30, 3) := by decide +kernel
theorem dL_isPerson_395 : decode cL_isPerson 395 = .ok (.iload 12, 2) := by decide +kernel
theorem dL_isPerson_397 : decode cL_isPerson 397 = .ok (.ifCond .eq 15, 3) := by decide +kernel
theorem dL_isPerson_400 : decode cL_isPerson 400 = .ok (.aload_n 1, 1) := by decide +kernel
theorem dL_isPerson_401 : decode cL_isPerson 401 = .ok (.iload 10, 2) := by decide +kernel
theorem dL_isPerson_403 : decode cL_isPerson 403 = .ok (.iaload, 1) := by decide +kernel
theorem dL_isPerson_404 : decode cL_isPerson 404 = .ok (.bipush 8, 2) := by decide +kernel
theorem dL_isPerson_406 : decode cL_isPerson 406 = .ok (.idiv, 1) := by decide +kernel
theorem dL_isPerson_407 : decode cL_isPerson 407 = .ok (.iconst 4, 1) := by decide +kernel
theorem dL_isPerson_408 : decode cL_isPerson 408 = .ok (.irem, 1) := by decide +kernel
theorem dL_isPerson_409 : decode cL_isPerson 409 = .ok (.goto 14, 3) := by decide +kernel
theorem dL_isPerson_412 : decode cL_isPerson 412 = .ok (.aload_n 1, 1) := by decide +kernel
theorem dL_isPerson_413 : decode cL_isPerson 413 = .ok (.iload 10, 2) := by decide +kernel
theorem dL_isPerson_415 : decode cL_isPerson 415 = .ok (.iaload, 1) := by decide +kernel
theorem dL_isPerson_416 : decode cL_isPerson 416 = .ok (.bipush 8, 2) := by decide +kernel
theorem dL_isPerson_418 : decode cL_isPerson 418 = .ok (.irem, 1) := by decide +kernel
theorem dL_isPerson_419 : decode cL_isPerson 419 = .ok (.goto 4, 3) := by decide +kernel
theorem dL_isPerson_422 : decode cL_isPerson 422 = .ok (.iconst 0, 1) := by decide +kernel
theorem dL_isPerson_423 : decode cL_isPerson 423 = .ok (.istore 15, 2) := by decide +kernel
theorem dL_isPerson_425 : decode cL_isPerson 425 = .ok (.iload 14, 2) := by decide +kernel
theorem dL_isPerson_427 : decode cL_isPerson 427 = .ok (.ifCond .eq 27, 3) := by decide +kernel
theorem dL_isPerson_430 : decode cL_isPerson 430 = .ok (.aload_n 1, 1) := by decide +kernel
theorem dL_isPerson_431 : decode cL_isPerson 431 = .ok (.iload 10, 2) := by decide +kernel
theorem dL_isPerson_433 : decode cL_isPerson 433 = .ok (.dup2, 1) := by decide +kernel
theorem dL_isPerson_434 : decode cL_isPerson 434 = .ok (.iaload, 1) := by decide +kernel
theorem dL_isPerson_435 : decode cL_isPerson 435 = .ok (.iload 12, 2) := by decide +kernel
theorem dL_isPerson_437 : decode cL_isPerson 437 = .ok (.ifCond .eq 8, 3) := by decide +kernel
theorem dL_isPerson_440 : decode cL_isPerson 440 = .ok (.bipush 8, 2) := by decide +kernel
theorem dL_isPerson_442 : decode cL_isPerson 442 = .ok (.goto 4, 3) := by decide +kernel
theorem dL_isPerson_445 : decode cL_isPerson 445 = .ok (.iconst 1, 1) := by decide +kernel
theorem dL_isPerson_446 : decode cL_isPerson 446 = .ok (.iload 13, 2) := by decide +kernel
theorem dL_isPerson_448 : decode cL_isPerson 448 = .ok (.iload 15, 2) := by decide +kernel
theorem dL_isPerson_450 : decode cL_isPerson 450 = .ok (.isub, 1) := by decide +kernel
theorem dL_isPerson_451 : decode cL_isPerson 451 = .ok (.imul, 1) := by decide +kernel
theorem dL_isPerson_452 : decode cL_isPerson 452 = .ok (.iadd, 1) := by decide +kernel
theorem dL_isPerson_453 : decode cL_isPerson 453 = .ok (.iastore, 1) := by decide +kernel
theorem dL_isPerson_454 : decode cL_isPerson 454 = .ok (.aload_n 0, 1) := by decide +kernel
theorem dL_isPerson_455 : decode cL_isPerson 455 = .ok (.iload 12, 2) := by decide +kernel
theorem dL_isPerson_457 : decode cL_isPerson 457 = .ok (.ifCond .eq 7, 3) := by decide +kernel
theorem dL_isPerson_460 : decode cL_isPerson 460 = .ok (.iconst 1, 1) := by decide +kernel
theorem dL_isPerson_461 : decode cL_isPerson 461 = .ok (.goto 4, 3) := by decide +kernel
theorem dL_isPerson_464 : decode cL_isPerson 464 = .ok (.iconst 2, 1) := by decide +kernel
theorem dL_isPerson_465 : decode cL_isPerson 465 = .ok (.iload 10, 2) := by decide +kernel
theorem dL_isPerson_467 : decode cL_isPerson 467 = .ok (.iload 13, 2) := by decide +kernel
theorem dL_isPerson_469 : decode cL_isPerson 469 = .ok (.iconst 0, 1) := by decide +kernel
theorem dL_isPerson_470 : decode cL_isPerson 470 = .ok (.iconst 0, 1) := by decide +kernel
theorem dL_isPerson_471 : decode cL_isPerson 471 = .ok (.invokestatic 150, 3) := by decide +kernel
theorem dL_isPerson_474 : decode cL_isPerson 474 = .ok (.iload 11, 2) := by decide +kernel
theorem dL_isPerson_476 : decode cL_isPerson 476 = .ok (.ifCond .ne 8, 3) := by decide +kernel
theorem dL_isPerson_479 : decode cL_isPerson 479 = .ok (.ldc 94, 2) := by decide +kernel
theorem dL_isPerson_481 : decode cL_isPerson 481 = .ok (.goto 15, 3) := by decide +kernel
theorem dL_isPerson_484 : decode cL_isPerson 484 = .ok (.iload 14, 2) := by decide +kernel
theorem dL_isPerson_486 : decode cL_isPerson 486 = .ok (.ifCond .eq 8, 3) := by decide +kernel
theorem dL_isPerson_489 : decode cL_isPerson 489 = .ok (.iload 15, 2) := by decide +kernel
theorem dL_isPerson_491 : decode cL_isPerson 491 = .ok (.goto 5, 3) := by decide +kernel
theorem dL_isPerson_494 : decode cL_isPerson 494 = .ok (.ldc 97, 2) := by decide +kernel
theorem dL_isPerson_496 : decode cL_isPerson 496 = .ok (.if_icmp .ne 7, 3) := by decide +kernel
theorem dL_isPerson_499 : decode cL_isPerson 499 = .ok (.iconst 1, 1) := by decide +kernel
theorem dL_isPerson_500 : decode cL_isPerson 500 = .ok (.goto 4, 3) := by decide +kernel
theorem dL_isPerson_503 : decode cL_isPerson 503 = .ok (.iconst 0, 1) := by decide +kernel
theorem dL_isPerson_504 : decode cL_isPerson 504 = .ok (.ireturn, 1) := by decide +kernel
theorem dL_isPerson_505 : decode cL_isPerson 505 = .ok (.iload 7, 2) := by decide +kernel
theorem dL_isPerson_507 : decode cL_isPerson 507 = .ok (.iconst 2, 1) := by decide +kernel
theorem dL_isPerson_508 : decode cL_isPerson 508 = .ok (.if_icmp .ne 98, 3) := by decide +kernel
theorem dL_isPerson_511 : decode cL_isPerson 511 = .ok (.iload 11, 2) := by decide +kernel
theorem dL_isPerson_513 : decode cL_isPerson 513 = .ok (.ifCond .eq 29, 3) := by decide +kernel
theorem dL_isPerson_516 : decode cL_isPerson 516 = .ok (.aload_n 1, 1) := by decide +kernel
theorem dL_isPerson_517 : decode cL_isPerson 517 = .ok (.iload 10, 2) := by decide +kernel
theorem dL_isPerson_519 : decode cL_isPerson 519 = .ok (.iaload, 1) := by decide +kernel
theorem dL_isPerson_520 : decode cL_isPerson 520 = .ok (.bipush 64, 2) := by decide +kernel
theorem dL_isPerson_522 : decode cL_isPerson 522 = .ok (.idiv, 1) := by decide +kernel
theorem dL_isPerson_523 : decode cL_isPerson 523 = .ok (.iconst 2, 1) := by decide +kernel
theorem dL_isPerson_524 : decode cL_isPerson 524 = .ok (.irem, 1) := by decide +kernel
theorem dL_isPerson_525 : decode cL_isPerson 525 = .ok (.ifCond .ne 17, 3) := by decide +kernel
theorem dL_isPerson_528 : decode cL_isPerson 528 = .ok (.aload_n 2, 1) := by decide +kernel
theorem dL_isPerson_529 : decode cL_isPerson 529 = .ok (.bipush 16, 2) := by decide +kernel
theorem dL_isPerson_531 : decode cL_isPerson 531 = .ok (.iload 10, 2) := by decide +kernel
theorem dL_isPerson_533 : decode cL_isPerson 533 = .ok (.iadd, 1) := by decide +kernel
theorem dL_isPerson_534 : decode cL_isPerson 534 = .ok (.iaload, 1) := by decide +kernel
theorem dL_isPerson_535 : decode cL_isPerson 535 = .ok (.ifCond .ge 7, 3) := by decide +kernel
theorem dL_isPerson_538 : decode cL_isPerson 538 = .ok (.iconst 1, 1) := by decide +kernel
theorem dL_isPerson_539 : decode cL_isPerson 539 = .ok (.goto 4, 3) := by decide +kernel
theorem dL_isPerson_542 : decode cL_isPerson 542 = .ok (.iconst 0, 1) := by decide +kernel
theorem dL_isPerson_543 : decode cL_isPerson 543 = .ok (.istore 12, 2) := by decide +kernel
theorem dL_isPerson_545 : decode cL_isPerson 545 = .ok (.aload_n 2, 1) := by decide +kernel
theorem dL_isPerson_546 : decode cL_isPerson 546 = .ok (.iload 12, 2) := by decide +kernel
theorem dL_isPerson_548 : decode cL_isPerson 548 = .ok (.ifCond .eq 11, 3) := by decide +kernel
theorem dL_isPerson_551 : decode cL_isPerson 551 = .ok (.bipush 16, 2) := by decide +kernel
theorem dL_isPerson_553 : decode cL_isPerson 553 = .ok (.iload 10, 2) := by decide +kernel
theorem dL_isPerson_555 : decode cL_isPerson 555 = .ok (.iadd, 1) := by decide +kernel
theorem dL_isPerson_556 : decode cL_isPerson 556 = .ok (.goto 5, 3) := by decide +kernel
theorem dL_isPerson_559 : decode cL_isPerson 559 = .ok (.bipush 32, 2) := by decide +kernel
theorem dL_isPerson_561 : decode cL_isPerson 561 = .ok (.aload 6, 2) := by decide +kernel
theorem dL_isPerson_563 : decode cL_isPerson 563 = .ok (.iconst 0, 1) := by decide +kernel
theorem dL_isPerson_564 : decode cL_isPerson 564 = .ok (.iaload, 1) := by decide +kernel
theorem dL_isPerson_565 : decode cL_isPerson 565 = .ok (.iastore, 1) := by decide +kernel
theorem dL_isPerson_566 : decode cL_isPerson 566 = .ok (.aload_n 0, 1) := by decide +kernel
theorem dL_isPerson_567 : decode cL_isPerson 567 = .ok (.iconst 3, 1) := by decide +kernel
theorem dL_isPerson_568 : decode cL_isPerson 568 = .ok (.iload 10, 2) := by decide +kernel
theorem dL_isPerson_570 : decode cL_isPerson 570 = .ok (.iconst 0, 1) := by decide +kernel
theorem dL_isPerson_571 : decode cL_isPerson 571 = .ok (.iconst 0, 1) := by decide +kernel
theorem dL_isPerson_572 : decode cL_isPerson 572 = .ok (.iconst 0, 1) := by decide +kernel
theorem dL_isPerson_573 : decode cL_isPerson 573 = .ok (.invokestatic 150, 3) := by decide +kernel
theorem dL_isPerson_576 : decode cL_isPerson 576 = .ok (.iload 11, 2) := by decide +kernel
theorem dL_isPerson_578 : decode cL_isPerson 578 = .ok (.ifCond .ne 8, 3) := by decide +kernel
theorem dL_isPerson_581 : decode cL_isPerson 581 = .ok (.ldc 94, 2) := by decide +kernel
theorem dL_isPerson_583 : decode cL_isPerson 583 = .ok (.goto 14, 3) := by decide +kernel
theorem dL_isPerson_586 : decode cL_isPerson 586 = .ok (.iload 12, 2) := by decide +kernel
theorem dL_isPerson_588 : decode cL_isPerson 588 = .ok (.ifCond .eq 7, 3) := by decide +kernel
theorem dL_isPerson_591 : decode cL_isPerson 591 = .ok (.iconst 0, 1) := by decide +kernel
theorem dL_isPerson_592 : decode cL_isPerson 592 = .ok (.goto 5, 3) := by decide +kernel
theorem dL_isPerson_595 : decode cL_isPerson 595 = .ok (.ldc 100, 2) := by decide +kernel
theorem dL_isPerson_597 : decode cL_isPerson 597 = .ok (.if_icmp .ne 7, 3) := by decide +kernel
theorem dL_isPerson_600 : decode cL_isPerson 600 = .ok (.iconst 1, 1) := by decide +kernel
theorem dL_isPerson_601 : decode cL_isPerson 601 = .ok (.goto 4, 3) := by decide +kernel
theorem dL_isPerson_604 : decode cL_isPerson 604 = .ok (.iconst 0, 1) := by decide +kernel
theorem dL_isPerson_605 : decode cL_isPerson 605 = .ok (.ireturn, 1) := by decide +kernel
theorem dL_isPerson_606 : decode cL_isPerson 606 = .ok (.iload 7, 2) := by decide +kernel
theorem dL_isPerson_608 : decode cL_isPerson 608 = .ok (.iconst 3, 1) := by decide +kernel
theorem dL_isPerson_609 : decode cL_isPerson 609 = .ok (.if_icmp .ne 86, 3) := by decide +kernel
theorem dL_isPerson_612 : decode cL_isPerson 612 = .ok (.iload 11, 2) := by decide +kernel
theorem dL_isPerson_614 : decode cL_isPerson 614 = .ok (.ifCond .eq 15, 3) := by decide +kernel
theorem dL_isPerson_617 : decode cL_isPerson 617 = .ok (.aload_n 1, 1) := by decide +kernel
theorem dL_isPerson_618 : decode cL_isPerson 618 = .ok (.iload 10, 2) := by decide +kernel
theorem dL_isPerson_620 : decode cL_isPerson 620 = .ok (.iaload, 1) := by decide +kernel
theorem dL_isPerson_621 : decode cL_isPerson 621 = .ok (.bipush 32, 2) := by decide +kernel
theorem dL_isPerson_623 : decode cL_isPerson 623 = .ok (.idiv, 1) := by decide +kernel
theorem dL_isPerson_624 : decode cL_isPerson 624 = .ok (.iconst 2, 1) := by decide +kernel
theorem dL_isPerson_625 : decode cL_isPerson 625 = .ok (.irem, 1) := by decide +kernel
theorem dL_isPerson_626 : decode cL_isPerson 626 = .ok (.goto 4, 3) := by decide +kernel
theorem dL_isPerson_629 : decode cL_isPerson 629 = .ok (.iconst 0, 1) := by decide +kernel
theorem dL_isPerson_630 : decode cL_isPerson 630 = .ok (.istore 12, 2) := by decide +kernel
theorem dL_isPerson_632 : decode cL_isPerson 632 = .ok (.aload_n 1, 1) := by decide +kernel
theorem dL_isPerson_633 : decode cL_isPerson 633 = .ok (.iload 11, 2) := by decide +kernel
theorem dL_isPerson_635 : decode cL_isPerson 635 = .ok (.ifCond .eq 8, 3) := by decide +kernel
theorem dL_isPerson_638 : decode cL_isPerson 638 = .ok (.iload 10, 2) := by decide +kernel
theorem dL_isPerson_640 : decode cL_isPerson 640 = .ok (.goto 5, 3) := by decide +kernel
theorem dL_isPerson_643 : decode cL_isPerson 643 = .ok (.bipush 16, 2) := by decide +kernel
theorem dL_isPerson_645 : decode cL_isPerson 645 = .ok (.dup2, 1) := by decide +kernel
theorem dL_isPerson_646 : decode cL_isPerson 646 = .ok (.iaload, 1) := by decide +kernel
theorem dL_isPerson_647 : decode cL_isPerson 647 = .ok (.iload 12, 2) := by decide +kernel
theorem dL_isPerson_649 : decode cL_isPerson 649 = .ok (.iconst 1, 1) := by decide +kernel
theorem dL_isPerson_650 : decode cL_isPerson 650 = .ok (.if_icmp .ne 8, 3) := by decide +kernel
theorem dL_isPerson_653 : decode cL_isPerson 653 = .ok (.bipush (-32), 2) := by decide +kernel
theorem dL_isPerson_655 : decode cL_isPerson 655 = .ok (.goto 5, 3) := by decide +kernel
theorem dL_isPerson_658 : decode cL_isPerson 658 = .ok (.bipush 32, 2) := by decide +kernel
theorem dL_isPerson_660 : decode cL_isPerson 660 = .ok (.iadd, 1) := by decide +kernel
theorem dL_isPerson_661 : decode cL_isPerson 661 = .ok (.iastore, 1) := by decide +kernel
theorem dL_isPerson_662 : decode cL_isPerson 662 = .ok (.aload_n 0, 1) := by decide +kernel
theorem dL_isPerson_663 : decode cL_isPerson 663 = .ok (.iconst 4, 1) := by decide +kernel
theorem dL_isPerson_664 : decode cL_isPerson 664 = .ok (.iload 10, 2) := by decide +kernel
theorem dL_isPerson_666 : decode cL_isPerson 666 = .ok (.iconst 0, 1) := by decide +kernel
theorem dL_isPerson_667 : decode cL_isPerson 667 = .ok (.iconst 0, 1) := by decide +kernel
theorem dL_isPerson_668 : decode cL_isPerson 668 = .ok (.iconst 0, 1) := by decide +kernel
theorem dL_isPerson_669 : decode cL_isPerson 669 = .ok (.invokestatic 150, 3) := by decide +kernel
theorem dL_isPerson_672 : decode cL_isPerson 672 = .ok (.iload 11, 2) := by decide +kernel
theorem dL_isPerson_674 : decode cL_isPerson 674 = .ok (.ifCond .eq 10, 3) := by decide +kernel
theorem dL_isPerson_677 : decode cL_isPerson 677 = .ok (.iconst 1, 1) := by decide +kernel
theorem dL_isPerson_678 : decode cL_isPerson 678 = .ok (.iload 12, 2) := by decide +kernel
theorem dL_isPerson_680 : decode cL_isPerson 680 = .ok (.isub, 1) := by decide +kernel
theorem dL_isPerson_681 : decode cL_isPerson 681 = .ok (.goto 5, 3) := by decide +kernel
theorem dL_isPerson_684 : decode cL_isPerson 684 = .ok (.ldc 94, 2) := by decide +kernel
theorem dL_isPerson_686 : decode cL_isPerson 686 = .ok (.if_icmp .ne 7, 3) := by decide +kernel
theorem dL_isPerson_689 : decode cL_isPerson 689 = .ok (.iconst 1, 1) := by decide +kernel
theorem dL_isPerson_690 : decode cL_isPerson 690 = .ok (.goto 4, 3) := by decide +kernel
theorem dL_isPerson_693 : decode cL_isPerson 693 = .ok (.iconst 0, 1) := by decide +kernel
theorem dL_isPerson_694 : decode cL_isPerson 694 = .ok (.ireturn, 1) := by decide +kernel
theorem dL_isPerson_695 : decode cL_isPerson 695 = .ok (.iload 7, 2) := by decide +kernel
theorem dL_isPerson_697 : decode cL_isPerson 697 = .ok (.iconst 4, 1) := by decide +kernel
theorem dL_isPerson_698 : decode cL_isPerson 698 = .ok (.if_icmp .ne 154, 3) := by decide +kernel
theorem dL_isPerson_701 : decode cL_isPerson 701 = .ok (.iload 11, 2) := by decide +kernel
theorem dL_isPerson_703 : decode cL_isPerson 703 = .ok (.ifCond .eq 19, 3) := by decide +kernel
theorem dL_isPerson_706 : decode cL_isPerson 706 = .ok (.aload_n 1, 1) := by decide +kernel
theorem dL_isPerson_707 : decode cL_isPerson 707 = .ok (.iload 10, 2) := by decide +kernel
theorem dL_isPerson_709 : decode cL_isPerson 709 = .ok (.iaload, 1) := by decide +kernel
theorem dL_isPerson_710 : decode cL_isPerson 710 = .ok (.bipush 64, 2) := by decide +kernel
theorem dL_isPerson_712 : decode cL_isPerson 712 = .ok (.idiv, 1) := by decide +kernel
theorem dL_isPerson_713 : decode cL_isPerson 713 = .ok (.iconst 2, 1) := by decide +kernel
theorem dL_isPerson_714 : decode cL_isPerson 714 = .ok (.irem, 1) := by decide +kernel
theorem dL_isPerson_715 : decode cL_isPerson 715 = .ok (.ifCond .ne 7, 3) := by decide +kernel
theorem dL_isPerson_718 : decode cL_isPerson 718 = .ok (.iconst 1, 1) := by decide +kernel
theorem dL_isPerson_719 : decode cL_isPerson 719 = .ok (.goto 4, 3) := by decide +kernel
theorem dL_isPerson_722 : decode cL_isPerson 722 = .ok (.iconst 0, 1) := by decide +kernel
theorem dL_isPerson_723 : decode cL_isPerson 723 = .ok (.istore 12, 2) := by decide +kernel
theorem dL_isPerson_725 : decode cL_isPerson 725 = .ok (.aload_n 1, 1) := by decide +kernel
theorem dL_isPerson_726 : decode cL_isPerson 726 = .ok (.iload 12, 2) := by decide +kernel
theorem dL_isPerson_728 : decode cL_isPerson 728 = .ok (.ifCond .eq 8, 3) := by decide +kernel
theorem dL_isPerson_731 : decode cL_isPerson 731 = .ok (.iload 10, 2) := by decide +kernel
theorem dL_isPerson_733 : decode cL_isPerson 733 = .ok (.goto 5, 3) := by decide +kernel
theorem dL_isPerson_736 : decode cL_isPerson 736 = .ok (.bipush 16, 2) := by decide +kernel
theorem dL_isPerson_738 : decode cL_isPerson 738 = .ok (.dup2, 1) := by decide +kernel
theorem dL_isPerson_739 : decode cL_isPerson 739 = .ok (.iaload, 1) := by decide +kernel
theorem dL_isPerson_740 : decode cL_isPerson 740 = .ok (.bipush 64, 2) := by decide +kernel
theorem dL_isPerson_742 : decode cL_isPerson 742 = .ok (.iadd, 1) := by decide +kernel
theorem dL_isPerson_743 : decode cL_isPerson 743 = .ok (.iastore, 1) := by decide +kernel
theorem dL_isPerson_744 : decode cL_isPerson 744 = .ok (.iconst 0, 1) := by decide +kernel
theorem dL_isPerson_745 : decode cL_isPerson 745 = .ok (.istore 13, 2) := by decide +kernel
theorem dL_isPerson_747 : decode cL_isPerson 747 = .ok (.iconst 0, 1) := by decide +kernel
theorem dL_isPerson_748 : decode cL_isPerson 748 = .ok (.istore 14, 2) := by decide +kernel
theorem dL_isPerson_750 : decode cL_isPerson 750 = .ok (.iload 14, 2) := by decide +kernel
theorem dL_isPerson_752 : decode cL_isPerson 752 = .ok (.aload 6, 2) := by decide +kernel
theorem dL_isPerson_754 : decode cL_isPerson 754 = .ok (.iconst 2, 1) := by decide +kernel
theorem dL_isPerson_755 : decode cL_isPerson 755 = .ok (.iaload, 1) := by decide +kernel
theorem dL_isPerson_756 : decode cL_isPerson 756 = .ok (.if_icmp .ge 55, 3) := by decide +kernel
theorem dL_isPerson_759 : decode cL_isPerson 759 = .ok (.iload 12, 2) := by decide +kernel
theorem dL_isPerson_761 : decode cL_isPerson 761 = .ok (.ifCond .eq 50, 3) := by decide +kernel
theorem dL_isPerson_764 : decode cL_isPerson 764 = .ok (.aload 4, 2) := by decide +kernel
theorem dL_isPerson_766 : decode cL_isPerson 766 = .ok (.iload 14, 2) := by decide +kernel
theorem dL_isPerson_768 : decode cL_isPerson 768 = .ok (.iaload, 1) := by decide +kernel
theorem dL_isPerson_769 : decode cL_isPerson 769 = .ok (.sipush 4096, 3) := by decide +kernel
theorem dL_isPerson_772 : decode cL_isPerson 772 = .ok (.idiv, 1) := by decide +kernel
theorem dL_isPerson_773 : decode cL_isPerson 773 = .ok (.iconst 4, 1) := by decide +kernel
theorem dL_isPerson_774 : decode cL_isPerson 774 = .ok (.irem, 1) := by decide +kernel
theorem dL_isPerson_775 : decode cL_isPerson 775 = .ok (.ifCond .ne 30, 3) := by decide +kernel
theorem dL_isPerson_778 : decode cL_isPerson 778 = .ok (.aload 4, 2) := by decide +kernel
theorem dL_isPerson_780 : decode cL_isPerson 780 = .ok (.iload 14, 2) := by decide +kernel
theorem dL_isPerson_782 : decode cL_isPerson 782 = .ok (.iload 10, 2) := by decide +kernel
theorem dL_isPerson_784 : decode cL_isPerson 784 = .ok (.invokestatic 129, 3) := by decide +kernel
theorem dL_isPerson_787 : decode cL_isPerson 787 = .ok (.ifCond .eq 18, 3) := by decide +kernel
theorem dL_isPerson_790 : decode cL_isPerson 790 = .ok (.aload 4, 2) := by decide +kernel
theorem dL_isPerson_792 : decode cL_isPerson 792 = .ok (.aload 5, 2) := by decide +kernel
theorem dL_isPerson_794 : decode cL_isPerson 794 = .ok (.aload 6, 2) := by decide +kernel
theorem dL_isPerson_796 : decode cL_isPerson 796 = .ok (.iload 14, 2) := by decide +kernel
theorem dL_isPerson_798 : decode cL_isPerson 798 = .ok (.iconst 3, 1) := by decide +kernel
theorem dL_isPerson_799 : decode cL_isPerson 799 = .ok (.invokestatic 156, 3) := by decide +kernel
theorem dL_isPerson_802 : decode cL_isPerson 802 = .ok (.iinc 13 1, 3) := by decide +kernel
theorem dL_isPerson_805 : decode cL_isPerson 805 = .ok (.iinc 14 1, 3) := by decide +kernel
theorem dL_isPerson_808 : decode cL_isPerson 808 = .ok (.goto (-58), 3) := by decide +kernel
theorem dL_isPerson_811 : decode cL_isPerson 811 = .ok (.aload_n 0, 1) := by decide +kernel
theorem dL_isPerson_812 : decode cL_isPerson 812 = .ok (.iconst 5, 1) := by decide +kernel
theorem dL_isPerson_813 : decode cL_isPerson 813 = .ok (.iload 10, 2) := by decide +kernel
theorem dL_isPerson_815 : decode cL_isPerson 815 = .ok (.iconst 0, 1) := by decide +kernel
theorem dL_isPerson_816 : decode cL_isPerson 816 = .ok (.iconst 0, 1) := by decide +kernel
theorem dL_isPerson_817 : decode cL_isPerson 817 = .ok (.iconst 0, 1) := by decide +kernel
theorem dL_isPerson_818 : decode cL_isPerson 818 = .ok (.invokestatic 150, 3) := by decide +kernel
theorem dL_isPerson_821 : decode cL_isPerson 821 = .ok (.iload 11, 2) := by decide +kernel
theorem dL_isPerson_823 : decode cL_isPerson 823 = .ok (.ifCond .ne 8, 3) := by decide +kernel
theorem dL_isPerson_826 : decode cL_isPerson 826 = .ok (.ldc 94, 2) := by decide +kernel
theorem dL_isPerson_828 : decode cL_isPerson 828 = .ok (.goto 15, 3) := by decide +kernel
theorem dL_isPerson_831 : decode cL_isPerson 831 = .ok (.iload 12, 2) := by decide +kernel
theorem dL_isPerson_833 : decode cL_isPerson 833 = .ok (.ifCond .eq 8, 3) := by decide +kernel
theorem dL_isPerson_836 : decode cL_isPerson 836 = .ok (.iload 13, 2) := by decide +kernel
theorem dL_isPerson_838 : decode cL_isPerson 838 = .ok (.goto 5, 3) := by decide +kernel
theorem dL_isPerson_841 : decode cL_isPerson 841 = .ok (.ldc 100, 2) := by decide +kernel
theorem dL_isPerson_843 : decode cL_isPerson 843 = .ok (.if_icmp .ne 7, 3) := by decide +kernel
theorem dL_isPerson_846 : decode cL_isPerson 846 = .ok (.iconst 1, 1) := by decide +kernel
theorem dL_isPerson_847 : decode cL_isPerson 847 = .ok (.goto 4, 3) := by decide +kernel
theorem dL_isPerson_850 : decode cL_isPerson 850 = .ok (.iconst 0, 1) := by decide +kernel
theorem dL_isPerson_851 : decode cL_isPerson 851 = .ok (.ireturn, 1) := by decide +kernel
theorem dL_isPerson_852 : decode cL_isPerson 852 = .ok (.iload 9, 2) := by decide +kernel
theorem dL_isPerson_854 : decode cL_isPerson 854 = .ok (.aload 6, 2) := by decide +kernel
theorem dL_isPerson_856 : decode cL_isPerson 856 = .ok (.iconst 1, 1) := by decide +kernel
theorem dL_isPerson_857 : decode cL_isPerson 857 = .ok (.iaload, 1) := by decide +kernel
theorem dL_isPerson_858 : decode cL_isPerson 858 = .ok (.iconst 1, 1) := by decide +kernel
theorem dL_isPerson_859 : decode cL_isPerson 859 = .ok (.iadd, 1) := by decide +kernel
theorem dL_isPerson_860 : decode cL_isPerson 860 = .ok (.irem, 1) := by decide +kernel
theorem dL_isPerson_861 : decode cL_isPerson 861 = .ok (.istore 12, 2) := by decide +kernel
theorem dL_isPerson_863 : decode cL_isPerson 863 = .ok (.iload 9, 2) := by decide +kernel
theorem dL_isPerson_865 : decode cL_isPerson 865 = .ok (.bipush 17, 2) := by decide +kernel
theorem dL_isPerson_867 : decode cL_isPerson 867 = .ok (.idiv, 1) := by decide +kernel
theorem dL_isPerson_868 : decode cL_isPerson 868 = .ok (.bipush 9, 2) := by decide +kernel
theorem dL_isPerson_870 : decode cL_isPerson 870 = .ok (.irem, 1) := by decide +kernel
theorem dL_isPerson_871 : decode cL_isPerson 871 = .ok (.bipush 8, 2) := by decide +kernel
theorem dL_isPerson_873 : decode cL_isPerson 873 = .ok (.if_icmp .ne 7, 3) := by decide +kernel
theorem dL_isPerson_876 : decode cL_isPerson 876 = .ok (.iconst 4, 1) := by decide +kernel
theorem dL_isPerson_877 : decode cL_isPerson 877 = .ok (.goto 34, 3) := by decide +kernel
theorem dL_isPerson_880 : decode cL_isPerson 880 = .ok (.iload 9, 2) := by decide +kernel
theorem dL_isPerson_882 : decode cL_isPerson 882 = .ok (.bipush 17, 2) := by decide +kernel
theorem dL_isPerson_884 : decode cL_isPerson 884 = .ok (.idiv, 1) := by decide +kernel
theorem dL_isPerson_885 : decode cL_isPerson 885 = .ok (.iconst 3, 1) := by decide +kernel
theorem dL_isPerson_886 : decode cL_isPerson 886 = .ok (.irem, 1) := by decide +kernel
theorem dL_isPerson_887 : decode cL_isPerson 887 = .ok (.ifCond .ne 7, 3) := by decide +kernel
theorem dL_isPerson_890 : decode cL_isPerson 890 = .ok (.iconst 1, 1) := by decide +kernel
theorem dL_isPerson_891 : decode cL_isPerson 891 = .ok (.goto 20, 3) := by decide +kernel
theorem dL_isPerson_894 : decode cL_isPerson 894 = .ok (.iload 9, 2) := by decide +kernel
theorem dL_isPerson_896 : decode cL_isPerson 896 = .ok (.bipush 17, 2) := by decide +kernel
theorem dL_isPerson_898 : decode cL_isPerson 898 = .ok (.idiv, 1) := by decide +kernel
theorem dL_isPerson_899 : decode cL_isPerson 899 = .ok (.iconst 3, 1) := by decide +kernel
theorem dL_isPerson_900 : decode cL_isPerson 900 = .ok (.irem, 1) := by decide +kernel
theorem dL_isPerson_901 : decode cL_isPerson 901 = .ok (.iconst 1, 1) := by decide +kernel
theorem dL_isPerson_902 : decode cL_isPerson 902 = .ok (.if_icmp .ne 7, 3) := by decide +kernel
theorem dL_isPerson_905 : decode cL_isPerson 905 = .ok (.iconst 2, 1) := by decide +kernel
theorem dL_isPerson_906 : decode cL_isPerson 906 = .ok (.goto 5, 3) := by decide +kernel
theorem dL_isPerson_909 : decode cL_isPerson 909 = .ok (.bipush 8, 2) := by decide +kernel
theorem dL_isPerson_911 : decode cL_isPerson 911 = .ok (.istore 13, 2) := by decide +kernel
theorem dL_isPerson_913 : decode cL_isPerson 913 = .ok (.iload 11, 2) := by decide +kernel
theorem dL_isPerson_915 : decode cL_isPerson 915 = .ok (.ifCond .eq 16, 3) := by decide +kernel
theorem dL_isPerson_918 : decode cL_isPerson 918 = .ok (.iload 12, 2) := by decide +kernel
theorem dL_isPerson_920 : decode cL_isPerson 920 = .ok (.aload 6, 2) := by decide +kernel
theorem dL_isPerson_922 : decode cL_isPerson 922 = .ok (.iconst 1, 1) := by decide +kernel
theorem dL_isPerson_923 : decode cL_isPerson 923 = .ok (.iaload, 1) := by decide +kernel
theorem dL_isPerson_924 : decode cL_isPerson 924 = .ok (.if_icmp .ge 7, 3) := by decide +kernel
theorem dL_isPerson_927 : decode cL_isPerson 927 = .ok (.iconst 1, 1) := by decide +kernel
theorem dL_isPerson_928 : decode cL_isPerson 928 = .ok (.goto 4, 3) := by decide +kernel
theorem dL_isPerson_931 : decode cL_isPerson 931 = .ok (.iconst 0, 1) := by decide +kernel
theorem dL_isPerson_932 : decode cL_isPerson 932 = .ok (.istore 14, 2) := by decide +kernel
theorem dL_isPerson_934 : decode cL_isPerson 934 = .ok (.iload 10, 2) := by decide +kernel
theorem dL_isPerson_936 : decode cL_isPerson 936 = .ok (.iload 12, 2) := by decide +kernel
theorem dL_isPerson_938 : decode cL_isPerson 938 = .ok (.if_icmp .eq 13, 3) := by decide +kernel
theorem dL_isPerson_941 : decode cL_isPerson 941 = .ok (.iload 13, 2) := by decide +kernel
theorem dL_isPerson_943 : decode cL_isPerson 943 = .ok (.iconst 4, 1) := by decide +kernel
theorem dL_isPerson_944 : decode cL_isPerson 944 = .ok (.if_icmp .eq 7, 3) := by decide +kernel
theorem dL_isPerson_947 : decode cL_isPerson 947 = .ok (.iconst 1, 1) := by decide +kernel
theorem dL_isPerson_948 : decode cL_isPerson 948 = .ok (.goto 4, 3) := by decide +kernel
theorem dL_isPerson_951 : decode cL_isPerson 951 = .ok (.iconst 0, 1) := by decide +kernel
theorem dL_isPerson_952 : decode cL_isPerson 952 = .ok (.istore 15, 2) := by decide +kernel
theorem dL_isPerson_954 : decode cL_isPerson 954 = .ok (.aload_n 3, 1) := by decide +kernel
theorem dL_isPerson_955 : decode cL_isPerson 955 = .ok (.bipush 15, 2) := by decide +kernel
theorem dL_isPerson_957 : decode cL_isPerson 957 = .ok (.iaload, 1) := by decide +kernel
theorem dL_isPerson_958 : decode cL_isPerson 958 = .ok (.bipush 15, 2) := by decide +kernel
theorem dL_isPerson_960 : decode cL_isPerson 960 = .ok (.if_icmp .ne 5, 3) := by decide +kernel
theorem dL_isPerson_963 : decode cL_isPerson 963 = .ok (.iconst 1, 1) := by decide +kernel
theorem dL_isPerson_964 : decode cL_isPerson 964 = .ok (.ireturn, 1) := by decide +kernel
theorem dL_isPerson_965 : decode cL_isPerson 965 = .ok (.iload 14, 2) := by decide +kernel
theorem dL_isPerson_967 : decode cL_isPerson 967 = .ok (.ifCond .eq 44, 3) := by decide +kernel
theorem dL_isPerson_970 : decode cL_isPerson 970 = .ok (.iload 15, 2) := by decide +kernel
theorem dL_isPerson_972 : decode cL_isPerson 972 = .ok (.ifCond .eq 39, 3) := by decide +kernel
theorem dL_isPerson_975 : decode cL_isPerson 975 = .ok (.aload_n 1, 1) := by decide +kernel
theorem dL_isPerson_976 : decode cL_isPerson 976 = .ok (.aload_n 2, 1) := by decide +kernel
theorem dL_isPerson_977 : decode cL_isPerson 977 = .ok (.iload 10, 2) := by decide +kernel
theorem dL_isPerson_979 : decode cL_isPerson 979 = .ok (.iload 12, 2) := by decide +kernel
theorem dL_isPerson_981 : decode cL_isPerson 981 = .ok (.aload 6, 2) := by decide +kernel
theorem dL_isPerson_983 : decode cL_isPerson 983 = .ok (.iconst 0, 1) := by decide +kernel
theorem dL_isPerson_984 : decode cL_isPerson 984 = .ok (.iaload, 1) := by decide +kernel
theorem dL_isPerson_985 : decode cL_isPerson 985 = .ok (.invokestatic 160, 3) := by decide +kernel
theorem dL_isPerson_988 : decode cL_isPerson 988 = .ok (.iload 13, 2) := by decide +kernel
theorem dL_isPerson_990 : decode cL_isPerson 990 = .ok (.iand, 1) := by decide +kernel
theorem dL_isPerson_991 : decode cL_isPerson 991 = .ok (.ifCond .le 20, 3) := by decide +kernel
theorem dL_isPerson_994 : decode cL_isPerson 994 = .ok (.aload_n 3, 1) := by decide +kernel
theorem dL_isPerson_995 : decode cL_isPerson 995 = .ok (.iload 10, 2) := by decide +kernel
theorem dL_isPerson_997 : decode cL_isPerson 997 = .ok (.iload 12, 2) := by decide +kernel
theorem dL_isPerson_999 : decode cL_isPerson 999 = .ok (.iload 13, 2) := by decide +kernel
theorem dL_isPerson_1001 : decode cL_isPerson 1001 = .ok (.invokestatic 164, 3) := by decide +kernel
theorem dL_isPerson_1004 : decode cL_isPerson 1004 = .ok (.ifCond .ne 7, 3) := by decide +kernel
theorem dL_isPerson_1007 : decode cL_isPerson 1007 = .ok (.iconst 1, 1) := by decide +kernel
theorem dL_isPerson_1008 : decode cL_isPerson 1008 = .ok (.goto 4, 3) := by decide +kernel
theorem dL_isPerson_1011 : decode cL_isPerson 1011 = .ok (.iconst 0, 1) := by decide +kernel
theorem dL_isPerson_1012 : decode cL_isPerson 1012 = .ok (.istore 16, 2) := by decide +kernel
theorem dL_isPerson_1014 : decode cL_isPerson 1014 = .ok (.iload 16, 2) := by decide +kernel
theorem dL_isPerson_1016 : decode cL_isPerson 1016 = .ok (.ifCond .eq 49, 3) := by decide +kernel
theorem dL_isPerson_1019 : decode cL_isPerson 1019 = .ok (.iload 13, 2) := by decide +kernel
theorem dL_isPerson_1021 : decode cL_isPerson 1021 = .ok (.iconst 1, 1) := by decide +kernel
theorem dL_isPerson_1022 : decode cL_isPerson 1022 = .ok (.if_icmp .ne 43, 3) := by decide +kernel
theorem dL_isPerson_1025 : decode cL_isPerson 1025 = .ok (.aload 6, 2) := by decide +kernel
theorem dL_isPerson_1027 : decode cL_isPerson 1027 = .ok (.iconst 0, 1) := by decide +kernel
theorem dL_isPerson_1028 : decode cL_isPerson 1028 = .ok (.iaload, 1) := by decide +kernel
theorem dL_isPerson_1029 : decode cL_isPerson 1029 = .ok (.aload_n 2, 1) := by decide +kernel
theorem dL_isPerson_1030 : decode cL_isPerson 1030 = .ok (.iload 10, 2) := by decide +kernel
theorem dL_isPerson_1032 : decode cL_isPerson 1032 = .ok (.iaload, 1) := by decide +kernel
theorem dL_isPerson_1033 : decode cL_isPerson 1033 = .ok (.isub, 1) := by decide +kernel
theorem dL_isPerson_1034 : decode cL_isPerson 1034 = .ok (.sipush 5040, 3) := by decide +kernel
theorem dL_isPerson_1037 : decode cL_isPerson 1037 = .ok (.if_icmp .lt 22, 3) := by decide +kernel
theorem dL_isPerson_1040 : decode cL_isPerson 1040 = .ok (.aload 6, 2) := by decide +kernel
theorem dL_isPerson_1042 : decode cL_isPerson 1042 = .ok (.iconst 0, 1) := by decide +kernel
theorem dL_isPerson_1043 : decode cL_isPerson 1043 = .ok (.iaload, 1) := by decide +kernel
theorem dL_isPerson_1044 : decode cL_isPerson 1044 = .ok (.aload_n 2, 1) := by decide +kernel
theorem dL_isPerson_1045 : decode cL_isPerson 1045 = .ok (.iload 12, 2) := by decide +kernel
theorem dL_isPerson_1047 : decode cL_isPerson 1047 = .ok (.iaload, 1) := by decide +kernel
theorem dL_isPerson_1048 : decode cL_isPerson 1048 = .ok (.isub, 1) := by decide +kernel
theorem dL_isPerson_1049 : decode cL_isPerson 1049 = .ok (.sipush 5040, 3) := by decide +kernel
theorem dL_isPerson_1052 : decode cL_isPerson 1052 = .ok (.if_icmp .lt 7, 3) := by decide +kernel
theorem dL_isPerson_1055 : decode cL_isPerson 1055 = .ok (.iconst 1, 1) := by decide +kernel
theorem dL_isPerson_1056 : decode cL_isPerson 1056 = .ok (.goto 4, 3) := by decide +kernel
theorem dL_isPerson_1059 : decode cL_isPerson 1059 = .ok (.iconst 0, 1) := by decide +kernel
theorem dL_isPerson_1060 : decode cL_isPerson 1060 = .ok (.istore 16, 2) := by decide +kernel
theorem dL_isPerson_1062 : decode cL_isPerson 1062 = .ok (.goto 47, 3) := by decide +kernel
theorem dL_isPerson_1065 : decode cL_isPerson 1065 = .ok (.iload 16, 2) := by decide +kernel
theorem dL_isPerson_1067 : decode cL_isPerson 1067 = .ok (.ifCond .eq 42, 3) := by decide +kernel
theorem dL_isPerson_1070 : decode cL_isPerson 1070 = .ok (.iload 13, 2) := by decide +kernel
theorem dL_isPerson_1072 : decode cL_isPerson 1072 = .ok (.iconst 2, 1) := by decide +kernel
theorem dL_isPerson_1073 : decode cL_isPerson 1073 = .ok (.if_icmp .ne 36, 3) := by decide +kernel
theorem dL_isPerson_1076 : decode cL_isPerson 1076 = .ok (.aload_n 1, 1) := by decide +kernel
theorem dL_isPerson_1077 : decode cL_isPerson 1077 = .ok (.iload 10, 2) := by decide +kernel
theorem dL_isPerson_1079 : decode cL_isPerson 1079 = .ok (.iload 12, 2) := by decide +kernel
theorem dL_isPerson_1081 : decode cL_isPerson 1081 = .ok (.invokestatic 125, 3) := by decide +kernel
theorem dL_isPerson_1084 : decode cL_isPerson 1084 = .ok (.istore 17, 2) := by decide +kernel
theorem dL_isPerson_1086 : decode cL_isPerson 1086 = .ok (.iload 17, 2) := by decide +kernel
theorem dL_isPerson_1088 : decode cL_isPerson 1088 = .ok (.sipush 300, 3) := by decide +kernel
theorem dL_isPerson_1091 : decode cL_isPerson 1091 = .ok (.if_icmp .eq 11, 3) := by decide +kernel
theorem dL_isPerson_1094 : decode cL_isPerson 1094 = .ok (.iload 17, 2) := by decide +kernel
theorem dL_isPerson_1096 : decode cL_isPerson 1096 = .ok (.sipush 400, 3) := by decide +kernel
theorem dL_isPerson_1099 : decode cL_isPerson 1099 = .ok (.if_icmp .ne 7, 3) := by decide +kernel
theorem dL_isPerson_1102 : decode cL_isPerson 1102 = .ok (.iconst 1, 1) := by decide +kernel
theorem dL_isPerson_1103 : decode cL_isPerson 1103 = .ok (.goto 4, 3) := by decide +kernel
theorem dL_isPerson_1106 : decode cL_isPerson 1106 = .ok (.iconst 0, 1) := by decide +kernel
theorem dL_isPerson_1107 : decode cL_isPerson 1107 = .ok (.istore 16, 2) := by decide +kernel
theorem dL_isPerson_1109 : decode cL_isPerson 1109 = .ok (.iload 16, 2) := by decide +kernel
theorem dL_isPerson_1111 : decode cL_isPerson 1111 = .ok (.ifCond .eq 32, 3) := by decide +kernel
theorem dL_isPerson_1114 : decode cL_isPerson 1114 = .ok (.aload_n 3, 1) := by decide +kernel
theorem dL_isPerson_1115 : decode cL_isPerson 1115 = .ok (.aload_n 3, 1) := by decide +kernel
theorem dL_isPerson_1116 : decode cL_isPerson 1116 = .ok (.bipush 15, 2) := by decide +kernel
theorem dL_isPerson_1118 : decode cL_isPerson 1118 = .ok (.iaload, 1) := by decide +kernel
theorem dL_isPerson_1119 : decode cL_isPerson 1119 = .ok (.iload 10, 2) := by decide +kernel
theorem dL_isPerson_1121 : decode cL_isPerson 1121 = .ok (.bipush 16, 2) := by decide +kernel
theorem dL_isPerson_1123 : decode cL_isPerson 1123 = .ok (.iload 12, 2) := by decide +kernel
theorem dL_isPerson_1125 : decode cL_isPerson 1125 = .ok (.imul, 1) := by decide +kernel
theorem dL_isPerson_1126 : decode cL_isPerson 1126 = .ok (.iadd, 1) := by decide +kernel
theorem dL_isPerson_1127 : decode cL_isPerson 1127 = .ok (.sipush 256, 3) := by decide +kernel
theorem dL_isPerson_1130 : decode cL_isPerson 1130 = .ok (.iload 13, 2) := by decide +kernel
theorem dL_isPerson_1132 : decode cL_isPerson 1132 = .ok (.imul, 1) := by decide +kernel
theorem dL_isPerson_1133 : decode cL_isPerson 1133 = .ok (.iadd, 1) := by decide +kernel
theorem dL_isPerson_1134 : decode cL_isPerson 1134 = .ok (.iastore, 1) := by decide +kernel
theorem dL_isPerson_1135 : decode cL_isPerson 1135 = .ok (.aload_n 3, 1) := by decide +kernel
theorem dL_isPerson_1136 : decode cL_isPerson 1136 = .ok (.bipush 15, 2) := by decide +kernel
theorem dL_isPerson_1138 : decode cL_isPerson 1138 = .ok (.dup2, 1) := by decide +kernel
theorem dL_isPerson_1139 : decode cL_isPerson 1139 = .ok (.iaload, 1) := by decide +kernel
theorem dL_isPerson_1140 : decode cL_isPerson 1140 = .ok (.iconst 1, 1) := by decide +kernel
theorem dL_isPerson_1141 : decode cL_isPerson 1141 = .ok (.iadd, 1) := by decide +kernel
theorem dL_isPerson_1142 : decode cL_isPerson 1142 = .ok (.iastore, 1) := by decide +kernel
theorem dL_isPerson_1143 : decode cL_isPerson 1143 = .ok (.aload_n 0, 1) := by decide +kernel
theorem dL_isPerson_1144 : decode cL_isPerson 1144 = .ok (.bipush 6, 2) := by decide +kernel
theorem dL_isPerson_1146 : decode cL_isPerson 1146 = .ok (.iload 10, 2) := by decide +kernel
theorem dL_isPerson_1148 : decode cL_isPerson 1148 = .ok (.iload 12, 2) := by decide +kernel
theorem dL_isPerson_1150 : decode cL_isPerson 1150 = .ok (.iload 13, 2) := by decide +kernel
theorem dL_isPerson_1152 : decode cL_isPerson 1152 = .ok (.iconst 0, 1) := by decide +kernel
theorem dL_isPerson_1153 : decode cL_isPerson 1153 = .ok (.invokestatic 150, 3) := by decide +kernel
theorem dL_isPerson_1156 : decode cL_isPerson 1156 = .ok (.iload 14, 2) := by decide +kernel
theorem dL_isPerson_1158 : decode cL_isPerson 1158 = .ok (.ifCond .ne 8, 3) := by decide +kernel
theorem dL_isPerson_1161 : decode cL_isPerson 1161 = .ok (.ldc 94, 2) := by decide +kernel
theorem dL_isPerson_1163 : decode cL_isPerson 1163 = .ok (.goto 24, 3) := by decide +kernel
theorem dL_isPerson_1166 : decode cL_isPerson 1166 = .ok (.iload 15, 2) := by decide +kernel
theorem dL_isPerson_1168 : decode cL_isPerson 1168 = .ok (.ifCond .ne 8, 3) := by decide +kernel
theorem dL_isPerson_1171 : decode cL_isPerson 1171 = .ok (.ldc 97, 2) := by decide +kernel
theorem dL_isPerson_1173 : decode cL_isPerson 1173 = .ok (.goto 14, 3) := by decide +kernel
theorem dL_isPerson_1176 : decode cL_isPerson 1176 = .ok (.iload 16, 2) := by decide +kernel
theorem dL_isPerson_1178 : decode cL_isPerson 1178 = .ok (.ifCond .eq 7, 3) := by decide +kernel
theorem dL_isPerson_1181 : decode cL_isPerson 1181 = .ok (.iconst 0, 1) := by decide +kernel
theorem dL_isPerson_1182 : decode cL_isPerson 1182 = .ok (.goto 5, 3) := by decide +kernel
theorem dL_isPerson_1185 : decode cL_isPerson 1185 = .ok (.ldc 100, 2) := by decide +kernel
theorem dL_isPerson_1187 : decode cL_isPerson 1187 = .ok (.if_icmp .ne 7, 3) := by decide +kernel
theorem dL_isPerson_1190 : decode cL_isPerson 1190 = .ok (.iconst 1, 1) := by decide +kernel
theorem dL_isPerson_1191 : decode cL_isPerson 1191 = .ok (.goto 4, 3) := by decide +kernel
theorem dL_isPerson_1194 : decode cL_isPerson 1194 = .ok (.iconst 0, 1) := by decide +kernel
theorem dL_isPerson_1195 : decode cL_isPerson 1195 = .ok (.ireturn, 1) := by decide +kernel
def tab_L_isPerson_0 : List (Nat × Sem) := [(0, op_il 7 2), (2, op_if (fun x => ¬ x = 0) 297 5), (5, op_al 6 7), (7, op_ic 1 8), (8, op_iald 9), (9, op_ic 16 11), (11, op_cmp (fun x y => y ≤ x) 297 14), (14, op_il 9 16), (16, op_ic 9 18), (18, op_dv (fun x y => irm x y) 19), (19, op_if (fun x => ¬ x = 0) 36 22), (22, op_il 9 24), (24, op_ic 9 26), (26, op_dv (fun x y => x / y) 27), (27, op_ic 6 29), (29, op_bin (fun x y => x * y) 30), (30, op_ic 36002 32), (32, op_dv (fun x y => irm x y) 33), (33, op_go 46), (36, op_ic 4900 39), (39, op_il 9 41), (41, op_ic 1800 44), (44, op_dv (fun x y => irm x y) 45), (45, op_bin (fun x y => x + y) 46), (46, op_is 10 48), (48, op_il 8 50), (50, op_ic 3 51), (51, op_dv (fun x y => irm x y) 52), (52, op_if (fun x => ¬ x = 0) 59 55), (55, op_ic (-1) 56), (56, op_go 70), (59, op_il 8 61), (61, op_ic 3 62), (62, op_dv (fun x y => x / y) 63), (63, op_al 6 65), (65, op_ic 1 66), (66, op_iald 67), (67, op_ic 1 68), (68, op_bin (fun x y => x + y) 69), (69, op_dv (fun x y => irm x y) 70), (70, op_is 11 72), (72, op_il 8 74), (74, op_ic 60 76), (76, op_dv (fun x y => x / y) 77), (77, op_ic 3 78), (78, op_dv (fun x y => irm x y) 79), (79, op_if (fun x => ¬ x = 0) 86 82), (82, op_ic (-1) 83), (83, op_go 99), (86, op_il 8 88), (88, op_ic 180 91), (91, op_dv (fun x y => x / y) 92), (92, op_al 6 94), (94, op_ic 1 95), (95, op_iald 96), (96, op_ic 1 97), (97, op_bin (fun x y => x + y) 98), (98, op_dv (fun x y => irm x y) 99), (99, op_is 12 101), (101, op_il 8 103)]
set_option maxRecDepth 20000 in
theorem tok_L_isPerson_0 : ∀ q ∈ tab_L_isPerson_0, GSnd RL cL_isPerson 18 13 20 (some .boolean) q.1 q.2 := by
  unfold tab_L_isPerson_0
  refine gcons (snd_g (ok_iload dL_isPerson_0 rfl)) ?_
  refine gcons (snd_g (ok_if_ne dL_isPerson_2 rfl rfl)) ?_
  refine gcons (snd_g (ok_aload dL_isPerson_5 rfl)) ?_
  refine gcons (snd_g (ok_iconst dL_isPerson_7 rfl rfl)) ?_
  refine gcons (snd_g (ok_iaload dL_isPerson_8 rfl)) ?_
  refine gcons (snd_g (ok_bipush dL_isPerson_9 rfl rfl)) ?_
  refine gcons (snd_g (ok_icmp_ge dL_isPerson_11 rfl rfl)) ?_
  refine gcons (snd_g (ok_iload dL_isPerson_14 rfl)) ?_
  refine gcons (snd_g (ok_bipush dL_isPerson_16 rfl rfl)) ?_
  refine gcons (snd_g (ok_irem dL_isPerson_18 rfl)) ?_
  refine gcons (snd_g (ok_if_ne dL_isPerson_19 rfl rfl)) ?_
  refine gcons (snd_g (ok_iload dL_isPerson_22 rfl)) ?_
  refine gcons (snd_g (ok_bipush dL_isPerson_24 rfl rfl)) ?_
  refine gcons (snd_g (ok_idiv dL_isPerson_26 rfl)) ?_
  refine gcons (snd_g (ok_bipush dL_isPerson_27 rfl rfl)) ?_
  refine gcons (snd_g (ok_imul dL_isPerson_29 rfl)) ?_
  refine gcons (snd_g (ok_ldc w_913 dL_isPerson_30 rfl)) ?_
  refine gcons (snd_g (ok_irem dL_isPerson_32 rfl)) ?_
  refine gcons (snd_g (ok_goto dL_isPerson_33 rfl)) ?_
  refine gcons (snd_g (ok_sipush dL_isPerson_36 rfl rfl)) ?_
  refine gcons (snd_g (ok_iload dL_isPerson_39 rfl)) ?_
  refine gcons (snd_g (ok_sipush dL_isPerson_41 rfl rfl)) ?_
  refine gcons (snd_g (ok_irem dL_isPerson_44 rfl)) ?_
  refine gcons (snd_g (ok_iadd dL_isPerson_45 rfl)) ?_
  refine gcons (snd_g (ok_istore dL_isPerson_46 (by decide) rfl)) ?_
  refine gcons (snd_g (ok_iload dL_isPerson_48 rfl)) ?_
  refine gcons (snd_g (ok_iconst dL_isPerson_50 rfl rfl)) ?_
  refine gcons (snd_g (ok_irem dL_isPerson_51 rfl)) ?_
  refine gcons (snd_g (ok_if_ne dL_isPerson_52 rfl rfl)) ?_
  refine gcons (snd_g (ok_iconst dL_isPerson_55 rfl rfl)) ?_
  refine gcons (snd_g (ok_goto dL_isPerson_56 rfl)) ?_
  refine gcons (snd_g (ok_iload dL_isPerson_59 rfl)) ?_
  refine gcons (snd_g (ok_iconst dL_isPerson_61 rfl rfl)) ?_
  refine gcons (snd_g (ok_idiv dL_isPerson_62 rfl)) ?_
  refine gcons (snd_g (ok_aload dL_isPerson_63 rfl)) ?_
  refine gcons (snd_g (ok_iconst dL_isPerson_65 rfl rfl)) ?_
  refine gcons (snd_g (ok_iaload dL_isPerson_66 rfl)) ?_
  refine gcons (snd_g (ok_iconst dL_isPerson_67 rfl rfl)) ?_
  refine gcons (snd_g (ok_iadd dL_isPerson_68 rfl)) ?_
  refine gcons (snd_g (ok_irem dL_isPerson_69 rfl)) ?_
  refine gcons (snd_g (ok_istore dL_isPerson_70 (by decide) rfl)) ?_
  refine gcons (snd_g (ok_iload dL_isPerson_72 rfl)) ?_
  refine gcons (snd_g (ok_bipush dL_isPerson_74 rfl rfl)) ?_
  refine gcons (snd_g (ok_idiv dL_isPerson_76 rfl)) ?_
  refine gcons (snd_g (ok_iconst dL_isPerson_77 rfl rfl)) ?_
  refine gcons (snd_g (ok_irem dL_isPerson_78 rfl)) ?_
  refine gcons (snd_g (ok_if_ne dL_isPerson_79 rfl rfl)) ?_
  refine gcons (snd_g (ok_iconst dL_isPerson_82 rfl rfl)) ?_
  refine gcons (snd_g (ok_goto dL_isPerson_83 rfl)) ?_
  refine gcons (snd_g (ok_iload dL_isPerson_86 rfl)) ?_
  refine gcons (snd_g (ok_sipush dL_isPerson_88 rfl rfl)) ?_
  refine gcons (snd_g (ok_idiv dL_isPerson_91 rfl)) ?_
  refine gcons (snd_g (ok_aload dL_isPerson_92 rfl)) ?_
  refine gcons (snd_g (ok_iconst dL_isPerson_94 rfl rfl)) ?_
  refine gcons (snd_g (ok_iaload dL_isPerson_95 rfl)) ?_
  refine gcons (snd_g (ok_iconst dL_isPerson_96 rfl rfl)) ?_
  refine gcons (snd_g (ok_iadd dL_isPerson_97 rfl)) ?_
  refine gcons (snd_g (ok_irem dL_isPerson_98 rfl)) ?_
  refine gcons (snd_g (ok_istore dL_isPerson_99 (by decide) rfl)) ?_
  refine gcons (snd_g (ok_iload dL_isPerson_101 rfl)) ?_
  exact fun _ h => nomatch h
def tab_L_isPerson_1 : List (Nat × Sem) := [(103, op_ic 9 105), (105, op_dv (fun x y => irm x y) 106), (106, op_ic 8 108), (108, op_cmp (fun x y => ¬ x = y) 116 111), (111, op_ic 8 113), (113, op_go 120), (116, op_il 8 118), (118, op_ic 3 119), (119, op_dv (fun x y => irm x y) 120), (120, op_is 13 122), (122, op_il 11 124), (124, op_al 6 126), (126, op_ic 1 127), (127, op_iald 128), (128, op_cmp (fun x y => y ≤ x) 144 131), (131, op_il 12 133), (133, op_al 6 135), (135, op_ic 1 136), (136, op_iald 137), (137, op_cmp (fun x y => y ≤ x) 144 140), (140, op_ic 1 141), (141, op_go 145), (144, op_ic 0 145), (145, op_is 14 147), (147, op_il 11 149), (149, op_if (fun x => x < 0) 159 152), (152, op_il 11 154), (154, op_il 12 156), (156, op_cmp (fun x y => x = y) 177 159), (159, op_il 10 161), (161, op_ic 36001 163), (163, op_cmp (fun x y => y ≤ x) 177 166), (166, op_il 13 168), (168, op_ic 8 170), (170, op_cmp (fun x y => y ≤ x) 177 173), (173, op_ic 1 174), (174, op_go 178), (177, op_ic 0 178), (178, op_is 15 180), (180, op_il 14 182), (182, op_if (fun x => x = 0) 194 185), (185, op_il 15 187), (187, op_if (fun x => x = 0) 194 190), (190, op_ic 1 191), (191, op_go 195), (194, op_ic 0 195), (195, op_is 16 197), (197, op_il 16 199), (199, op_if (fun x => x = 0) 249 202), (202, op_al 1 203), (203, op_al 6 205), (205, op_ic 1 206), (206, op_iald 207), (207, op_il 13 209), (209, op_ic 128 212), (212, op_il 11 214), (214, op_ic 1 215), (215, op_bin (fun x y => x + y) 216), (216, op_bin (fun x y => x * y) 217), (217, op_bin (fun x y => x + y) 218)]
set_option maxRecDepth 20000 in
theorem tok_L_isPerson_1 : ∀ q ∈ tab_L_isPerson_1, GSnd RL cL_isPerson 18 13 20 (some .boolean) q.1 q.2 := by
  unfold tab_L_isPerson_1
  refine gcons (snd_g (ok_bipush dL_isPerson_103 rfl rfl)) ?_
  refine gcons (snd_g (ok_irem dL_isPerson_105 rfl)) ?_
  refine gcons (snd_g (ok_bipush dL_isPerson_106 rfl rfl)) ?_
  refine gcons (snd_g (ok_icmp_ne dL_isPerson_108 rfl rfl)) ?_
  refine gcons (snd_g (ok_bipush dL_isPerson_111 rfl rfl)) ?_
  refine gcons (snd_g (ok_goto dL_isPerson_113 rfl)) ?_
  refine gcons (snd_g (ok_iload dL_isPerson_116 rfl)) ?_
  refine gcons (snd_g (ok_iconst dL_isPerson_118 rfl rfl)) ?_
  refine gcons (snd_g (ok_irem dL_isPerson_119 rfl)) ?_
  refine gcons (snd_g (ok_istore dL_isPerson_120 (by decide) rfl)) ?_
  refine gcons (snd_g (ok_iload dL_isPerson_122 rfl)) ?_
  refine gcons (snd_g (ok_aload dL_isPerson_124 rfl)) ?_
  refine gcons (snd_g (ok_iconst dL_isPerson_126 rfl rfl)) ?_
  refine gcons (snd_g (ok_iaload dL_isPerson_127 rfl)) ?_
  refine gcons (snd_g (ok_icmp_ge dL_isPerson_128 rfl rfl)) ?_
  refine gcons (snd_g (ok_iload dL_isPerson_131 rfl)) ?_
  refine gcons (snd_g (ok_aload dL_isPerson_133 rfl)) ?_
  refine gcons (snd_g (ok_iconst dL_isPerson_135 rfl rfl)) ?_
  refine gcons (snd_g (ok_iaload dL_isPerson_136 rfl)) ?_
  refine gcons (snd_g (ok_icmp_ge dL_isPerson_137 rfl rfl)) ?_
  refine gcons (snd_g (ok_iconst dL_isPerson_140 rfl rfl)) ?_
  refine gcons (snd_g (ok_goto dL_isPerson_141 rfl)) ?_
  refine gcons (snd_g (ok_iconst dL_isPerson_144 rfl rfl)) ?_
  refine gcons (snd_g (ok_istore dL_isPerson_145 (by decide) rfl)) ?_
  refine gcons (snd_g (ok_iload dL_isPerson_147 rfl)) ?_
  refine gcons (snd_g (ok_if_lt dL_isPerson_149 rfl rfl)) ?_
  refine gcons (snd_g (ok_iload dL_isPerson_152 rfl)) ?_
  refine gcons (snd_g (ok_iload dL_isPerson_154 rfl)) ?_
  refine gcons (snd_g (ok_icmp_eq dL_isPerson_156 rfl rfl)) ?_
  refine gcons (snd_g (ok_iload dL_isPerson_159 rfl)) ?_
  refine gcons (snd_g (ok_ldc w_914 dL_isPerson_161 rfl)) ?_
  refine gcons (snd_g (ok_icmp_ge dL_isPerson_163 rfl rfl)) ?_
  refine gcons (snd_g (ok_iload dL_isPerson_166 rfl)) ?_
  refine gcons (snd_g (ok_bipush dL_isPerson_168 rfl rfl)) ?_
  refine gcons (snd_g (ok_icmp_ge dL_isPerson_170 rfl rfl)) ?_
  refine gcons (snd_g (ok_iconst dL_isPerson_173 rfl rfl)) ?_
  refine gcons (snd_g (ok_goto dL_isPerson_174 rfl)) ?_
  refine gcons (snd_g (ok_iconst dL_isPerson_177 rfl rfl)) ?_
  refine gcons (snd_g (ok_istore dL_isPerson_178 (by decide) rfl)) ?_
  refine gcons (snd_g (ok_iload dL_isPerson_180 rfl)) ?_
  refine gcons (snd_g (ok_if_eq dL_isPerson_182 rfl rfl)) ?_
  refine gcons (snd_g (ok_iload dL_isPerson_185 rfl)) ?_
  refine gcons (snd_g (ok_if_eq dL_isPerson_187 rfl rfl)) ?_
  refine gcons (snd_g (ok_iconst dL_isPerson_190 rfl rfl)) ?_
  refine gcons (snd_g (ok_goto dL_isPerson_191 rfl)) ?_
  refine gcons (snd_g (ok_iconst dL_isPerson_194 rfl rfl)) ?_
  refine gcons (snd_g (ok_istore dL_isPerson_195 (by decide) rfl)) ?_
  refine gcons (snd_g (ok_iload dL_isPerson_197 rfl)) ?_
  refine gcons (snd_g (ok_if_eq dL_isPerson_199 rfl rfl)) ?_
  refine gcons (snd_g (ok_aload_n dL_isPerson_202 rfl rfl)) ?_
  refine gcons (snd_g (ok_aload dL_isPerson_203 rfl)) ?_
  refine gcons (snd_g (ok_iconst dL_isPerson_205 rfl rfl)) ?_
  refine gcons (snd_g (ok_iaload dL_isPerson_206 rfl)) ?_
  refine gcons (snd_g (ok_iload dL_isPerson_207 rfl)) ?_
  refine gcons (snd_g (ok_sipush dL_isPerson_209 rfl rfl)) ?_
  refine gcons (snd_g (ok_iload dL_isPerson_212 rfl)) ?_
  refine gcons (snd_g (ok_iconst dL_isPerson_214 rfl rfl)) ?_
  refine gcons (snd_g (ok_iadd dL_isPerson_215 rfl)) ?_
  refine gcons (snd_g (ok_imul dL_isPerson_216 rfl)) ?_
  refine gcons (snd_g (ok_iadd dL_isPerson_217 rfl)) ?_
  exact fun _ h => nomatch h
def tab_L_isPerson_2 : List (Nat × Sem) := [(218, op_ic 4096 221), (221, op_il 12 223), (223, op_ic 1 224), (224, op_bin (fun x y => x + y) 225), (225, op_bin (fun x y => x * y) 226), (226, op_bin (fun x y => x + y) 227), (227, op_iast 228), (228, op_al 2 229), (229, op_al 6 231), (231, op_ic 1 232), (232, op_iald 233), (233, op_al 6 235), (235, op_ic 0 236), (236, op_iald 237), (237, op_il 10 239), (239, op_bin (fun x y => x - y) 240), (240, op_iast 241), (241, op_al 6 243), (243, op_ic 1 244), (244, op_dup2 245), (245, op_iald 246), (246, op_ic 1 247), (247, op_bin (fun x y => x + y) 248), (248, op_iast 249), (249, op_al 0 250), (250, op_ic 0 251), (251, op_il 10 253), (253, op_il 11 255), (255, op_il 12 257), (257, op_il 13 259), (259, op_callHN sp_L_does 6 16 262), (262, op_il 14 264), (264, op_if (fun x => ¬ x = 0) 272 267), (267, op_ic (-3000000) 269), (269, op_go 288), (272, op_il 16 274), (274, op_if (fun x => x = 0) 286 277), (277, op_al 6 279), (279, op_ic 1 280), (280, op_iald 281), (281, op_ic 1 282), (282, op_bin (fun x y => x - y) 283), (283, op_go 288), (286, op_ic (-2000000) 288), (288, op_cmp (fun x y => ¬ x = y) 295 291), (291, op_ic 1 292), (292, op_go 296), (295, op_ic 0 296), (296, op_zret), (297, op_il 8 299), (299, op_al 6 301), (301, op_ic 1 302), (302, op_iald 303), (303, op_ic 1 304), (304, op_bin (fun x y => x + y) 305), (305, op_dv (fun x y => irm x y) 306), (306, op_is 10 308), (308, op_il 10 310), (310, op_al 6 312), (312, op_ic 1 313)]
set_option maxRecDepth 20000 in
theorem tok_L_isPerson_2 : ∀ q ∈ tab_L_isPerson_2, GSnd RL cL_isPerson 18 13 20 (some .boolean) q.1 q.2 := by
  unfold tab_L_isPerson_2
  refine gcons (snd_g (ok_sipush dL_isPerson_218 rfl rfl)) ?_
  refine gcons (snd_g (ok_iload dL_isPerson_221 rfl)) ?_
  refine gcons (snd_g (ok_iconst dL_isPerson_223 rfl rfl)) ?_
  refine gcons (snd_g (ok_iadd dL_isPerson_224 rfl)) ?_
  refine gcons (snd_g (ok_imul dL_isPerson_225 rfl)) ?_
  refine gcons (snd_g (ok_iadd dL_isPerson_226 rfl)) ?_
  refine gcons (snd_g (ok_iastore dL_isPerson_227 rfl)) ?_
  refine gcons (snd_g (ok_aload_n dL_isPerson_228 rfl rfl)) ?_
  refine gcons (snd_g (ok_aload dL_isPerson_229 rfl)) ?_
  refine gcons (snd_g (ok_iconst dL_isPerson_231 rfl rfl)) ?_
  refine gcons (snd_g (ok_iaload dL_isPerson_232 rfl)) ?_
  refine gcons (snd_g (ok_aload dL_isPerson_233 rfl)) ?_
  refine gcons (snd_g (ok_iconst dL_isPerson_235 rfl rfl)) ?_
  refine gcons (snd_g (ok_iaload dL_isPerson_236 rfl)) ?_
  refine gcons (snd_g (ok_iload dL_isPerson_237 rfl)) ?_
  refine gcons (snd_g (ok_isub dL_isPerson_239 rfl)) ?_
  refine gcons (snd_g (ok_iastore dL_isPerson_240 rfl)) ?_
  refine gcons (snd_g (ok_aload dL_isPerson_241 rfl)) ?_
  refine gcons (snd_g (ok_iconst dL_isPerson_243 rfl rfl)) ?_
  refine gcons (snd_g (ok_dup2 dL_isPerson_244 rfl)) ?_
  refine gcons (snd_g (ok_iaload dL_isPerson_245 rfl)) ?_
  refine gcons (snd_g (ok_iconst dL_isPerson_246 rfl rfl)) ?_
  refine gcons (snd_g (ok_iadd dL_isPerson_247 rfl)) ?_
  refine gcons (snd_g (ok_iastore dL_isPerson_248 rfl)) ?_
  refine gcons (snd_g (ok_aload_n dL_isPerson_249 rfl rfl)) ?_
  refine gcons (snd_g (ok_iconst dL_isPerson_250 rfl rfl)) ?_
  refine gcons (snd_g (ok_iload dL_isPerson_251 rfl)) ?_
  refine gcons (snd_g (ok_iload dL_isPerson_253 rfl)) ?_
  refine gcons (snd_g (ok_iload dL_isPerson_255 rfl)) ?_
  refine gcons (snd_g (ok_iload dL_isPerson_257 rfl)) ?_
  refine gcons (ok_invokestaticHN M_L_does w_128 w_129 w_19 w_130 ⟨by decide, by decide, by decide +kernel⟩ (by decide) (by decide) dL_isPerson_259 rfl) ?_
  refine gcons (snd_g (ok_iload dL_isPerson_262 rfl)) ?_
  refine gcons (snd_g (ok_if_ne dL_isPerson_264 rfl rfl)) ?_
  refine gcons (snd_g (ok_ldc w_683 dL_isPerson_267 rfl)) ?_
  refine gcons (snd_g (ok_goto dL_isPerson_269 rfl)) ?_
  refine gcons (snd_g (ok_iload dL_isPerson_272 rfl)) ?_
  refine gcons (snd_g (ok_if_eq dL_isPerson_274 rfl rfl)) ?_
  refine gcons (snd_g (ok_aload dL_isPerson_277 rfl)) ?_
  refine gcons (snd_g (ok_iconst dL_isPerson_279 rfl rfl)) ?_
  refine gcons (snd_g (ok_iaload dL_isPerson_280 rfl)) ?_
  refine gcons (snd_g (ok_iconst dL_isPerson_281 rfl rfl)) ?_
  refine gcons (snd_g (ok_isub dL_isPerson_282 rfl)) ?_
  refine gcons (snd_g (ok_goto dL_isPerson_283 rfl)) ?_
  refine gcons (snd_g (ok_ldc w_684 dL_isPerson_286 rfl)) ?_
  refine gcons (snd_g (ok_icmp_ne dL_isPerson_288 rfl rfl)) ?_
  refine gcons (snd_g (ok_iconst dL_isPerson_291 rfl rfl)) ?_
  refine gcons (snd_g (ok_goto dL_isPerson_292 rfl)) ?_
  refine gcons (snd_g (ok_iconst dL_isPerson_295 rfl rfl)) ?_
  refine gcons (snd_g (ok_zreturn rfl (Or.inl rfl) dL_isPerson_296)) ?_
  refine gcons (snd_g (ok_iload dL_isPerson_297 rfl)) ?_
  refine gcons (snd_g (ok_aload dL_isPerson_299 rfl)) ?_
  refine gcons (snd_g (ok_iconst dL_isPerson_301 rfl rfl)) ?_
  refine gcons (snd_g (ok_iaload dL_isPerson_302 rfl)) ?_
  refine gcons (snd_g (ok_iconst dL_isPerson_303 rfl rfl)) ?_
  refine gcons (snd_g (ok_iadd dL_isPerson_304 rfl)) ?_
  refine gcons (snd_g (ok_irem dL_isPerson_305 rfl)) ?_
  refine gcons (snd_g (ok_istore dL_isPerson_306 (by decide) rfl)) ?_
  refine gcons (snd_g (ok_iload dL_isPerson_308 rfl)) ?_
  refine gcons (snd_g (ok_aload dL_isPerson_310 rfl)) ?_
  refine gcons (snd_g (ok_iconst dL_isPerson_312 rfl rfl)) ?_
  exact fun _ h => nomatch h
def tab_L_isPerson_3 : List (Nat × Sem) := [(313, op_iald 314), (314, op_cmp (fun x y => y ≤ x) 321 317), (317, op_ic 1 318), (318, op_go 322), (321, op_ic 0 322), (322, op_is 11 324), (324, op_il 7 326), (326, op_ic 2 327), (327, op_cmp (fun x y => y ≤ x) 505 330), (330, op_il 9 332), (332, op_ic 2 333), (333, op_dv (fun x y => irm x y) 334), (334, op_if (fun x => ¬ x = 0) 341 337), (337, op_ic 1 338), (338, op_go 342), (341, op_ic 0 342), (342, op_is 12 344), (344, op_il 9 346), (346, op_ic 2 347), (347, op_dv (fun x y => x / y) 348), (348, op_il 12 350), (350, op_if (fun x => x = 0) 357 353), (353, op_ic 4 354), (354, op_go 359), (357, op_ic 9 359), (359, op_dv (fun x y => irm x y) 360), (360, op_is 13 362), (362, op_il 11 364), (364, op_if (fun x => x = 0) 387 367), (367, op_il 13 369), (369, op_il 12 371), (371, op_if (fun x => x = 0) 378 374), (374, op_ic 3 375), (375, op_go 380), (378, op_ic 8 380), (380, op_cmp (fun x y => y ≤ x) 387 383), (383, op_ic 1 384), (384, op_go 388), (387, op_ic 0 388), (388, op_is 14 390), (390, op_il 11 392), (392, op_if (fun x => x = 0) 422 395), (395, op_il 12 397), (397, op_if (fun x => x = 0) 412 400), (400, op_al 1 401), (401, op_il 10 403), (403, op_iald 404), (404, op_ic 8 406), (406, op_dv (fun x y => x / y) 407), (407, op_ic 4 408), (408, op_dv (fun x y => irm x y) 409), (409, op_go 423), (412, op_al 1 413), (413, op_il 10 415), (415, op_iald 416), (416, op_ic 8 418), (418, op_dv (fun x y => irm x y) 419), (419, op_go 423), (422, op_ic 0 423), (423, op_is 15 425)]
set_option maxRecDepth 20000 in
theorem tok_L_isPerson_3 : ∀ q ∈ tab_L_isPerson_3, GSnd RL cL_isPerson 18 13 20 (some .boolean) q.1 q.2 := by
  unfold tab_L_isPerson_3
  refine gcons (snd_g (ok_iaload dL_isPerson_313 rfl)) ?_
  refine gcons (snd_g (ok_icmp_ge dL_isPerson_314 rfl rfl)) ?_
  refine gcons (snd_g (ok_iconst dL_isPerson_317 rfl rfl)) ?_
  refine gcons (snd_g (ok_goto dL_isPerson_318 rfl)) ?_
  refine gcons (snd_g (ok_iconst dL_isPerson_321 rfl rfl)) ?_
  refine gcons (snd_g (ok_istore dL_isPerson_322 (by decide) rfl)) ?_
  refine gcons (snd_g (ok_iload dL_isPerson_324 rfl)) ?_
  refine gcons (snd_g (ok_iconst dL_isPerson_326 rfl rfl)) ?_
  refine gcons (snd_g (ok_icmp_ge dL_isPerson_327 rfl rfl)) ?_
  refine gcons (snd_g (ok_iload dL_isPerson_330 rfl)) ?_
  refine gcons (snd_g (ok_iconst dL_isPerson_332 rfl rfl)) ?_
  refine gcons (snd_g (ok_irem dL_isPerson_333 rfl)) ?_
  refine gcons (snd_g (ok_if_ne dL_isPerson_334 rfl rfl)) ?_
  refine gcons (snd_g (ok_iconst dL_isPerson_337 rfl rfl)) ?_
  refine gcons (snd_g (ok_goto dL_isPerson_338 rfl)) ?_
  refine gcons (snd_g (ok_iconst dL_isPerson_341 rfl rfl)) ?_
  refine gcons (snd_g (ok_istore dL_isPerson_342 (by decide) rfl)) ?_
  refine gcons (snd_g (ok_iload dL_isPerson_344 rfl)) ?_
  refine gcons (snd_g (ok_iconst dL_isPerson_346 rfl rfl)) ?_
  refine gcons (snd_g (ok_idiv dL_isPerson_347 rfl)) ?_
  refine gcons (snd_g (ok_iload dL_isPerson_348 rfl)) ?_
  refine gcons (snd_g (ok_if_eq dL_isPerson_350 rfl rfl)) ?_
  refine gcons (snd_g (ok_iconst dL_isPerson_353 rfl rfl)) ?_
  refine gcons (snd_g (ok_goto dL_isPerson_354 rfl)) ?_
  refine gcons (snd_g (ok_bipush dL_isPerson_357 rfl rfl)) ?_
  refine gcons (snd_g (ok_irem dL_isPerson_359 rfl)) ?_
  refine gcons (snd_g (ok_istore dL_isPerson_360 (by decide) rfl)) ?_
  refine gcons (snd_g (ok_iload dL_isPerson_362 rfl)) ?_
  refine gcons (snd_g (ok_if_eq dL_isPerson_364 rfl rfl)) ?_
  refine gcons (snd_g (ok_iload dL_isPerson_367 rfl)) ?_
  refine gcons (snd_g (ok_iload dL_isPerson_369 rfl)) ?_
  refine gcons (snd_g (ok_if_eq dL_isPerson_371 rfl rfl)) ?_
  refine gcons (snd_g (ok_iconst dL_isPerson_374 rfl rfl)) ?_
  refine gcons (snd_g (ok_goto dL_isPerson_375 rfl)) ?_
  refine gcons (snd_g (ok_bipush dL_isPerson_378 rfl rfl)) ?_
  refine gcons (snd_g (ok_icmp_ge dL_isPerson_380 rfl rfl)) ?_
  refine gcons (snd_g (ok_iconst dL_isPerson_383 rfl rfl)) ?_
  refine gcons (snd_g (ok_goto dL_isPerson_384 rfl)) ?_
  refine gcons (snd_g (ok_iconst dL_isPerson_387 rfl rfl)) ?_
  refine gcons (snd_g (ok_istore dL_isPerson_388 (by decide) rfl)) ?_
  refine gcons (snd_g (ok_iload dL_isPerson_390 rfl)) ?_
  refine gcons (snd_g (ok_if_eq dL_isPerson_392 rfl rfl)) ?_
  refine gcons (snd_g (ok_iload dL_isPerson_395 rfl)) ?_
  refine gcons (snd_g (ok_if_eq dL_isPerson_397 rfl rfl)) ?_
  refine gcons (snd_g (ok_aload_n dL_isPerson_400 rfl rfl)) ?_
  refine gcons (snd_g (ok_iload dL_isPerson_401 rfl)) ?_
  refine gcons (snd_g (ok_iaload dL_isPerson_403 rfl)) ?_
  refine gcons (snd_g (ok_bipush dL_isPerson_404 rfl rfl)) ?_
  refine gcons (snd_g (ok_idiv dL_isPerson_406 rfl)) ?_
  refine gcons (snd_g (ok_iconst dL_isPerson_407 rfl rfl)) ?_
  refine gcons (snd_g (ok_irem dL_isPerson_408 rfl)) ?_
  refine gcons (snd_g (ok_goto dL_isPerson_409 rfl)) ?_
  refine gcons (snd_g (ok_aload_n dL_isPerson_412 rfl rfl)) ?_
  refine gcons (snd_g (ok_iload dL_isPerson_413 rfl)) ?_
  refine gcons (snd_g (ok_iaload dL_isPerson_415 rfl)) ?_
  refine gcons (snd_g (ok_bipush dL_isPerson_416 rfl rfl)) ?_
  refine gcons (snd_g (ok_irem dL_isPerson_418 rfl)) ?_
  refine gcons (snd_g (ok_goto dL_isPerson_419 rfl)) ?_
  refine gcons (snd_g (ok_iconst dL_isPerson_422 rfl rfl)) ?_
  refine gcons (snd_g (ok_istore dL_isPerson_423 (by decide) rfl)) ?_
  exact fun _ h => nomatch h
def tab_L_isPerson_4 : List (Nat × Sem) := [(425, op_il 14 427), (427, op_if (fun x => x = 0) 454 430), (430, op_al 1 431), (431, op_il 10 433), (433, op_dup2 434), (434, op_iald 435), (435, op_il 12 437), (437, op_if (fun x => x = 0) 445 440), (440, op_ic 8 442), (442, op_go 446), (445, op_ic 1 446), (446, op_il 13 448), (448, op_il 15 450), (450, op_bin (fun x y => x - y) 451), (451, op_bin (fun x y => x * y) 452), (452, op_bin (fun x y => x + y) 453), (453, op_iast 454), (454, op_al 0 455), (455, op_il 12 457), (457, op_if (fun x => x = 0) 464 460), (460, op_ic 1 461), (461, op_go 465), (464, op_ic 2 465), (465, op_il 10 467), (467, op_il 13 469), (469, op_ic 0 470), (470, op_ic 0 471), (471, op_callHN sp_L_does 6 16 474), (474, op_il 11 476), (476, op_if (fun x => ¬ x = 0) 484 479), (479, op_ic (-3000000) 481), (481, op_go 496), (484, op_il 14 486), (486, op_if (fun x => x = 0) 494 489), (489, op_il 15 491), (491, op_go 496), (494, op_ic (-2000000) 496), (496, op_cmp (fun x y => ¬ x = y) 503 499), (499, op_ic 1 500), (500, op_go 504), (503, op_ic 0 504), (504, op_zret), (505, op_il 7 507), (507, op_ic 2 508), (508, op_cmp (fun x y => ¬ x = y) 606 511), (511, op_il 11 513), (513, op_if (fun x => x = 0) 542 516), (516, op_al 1 517), (517, op_il 10 519), (519, op_iald 520), (520, op_ic 64 522), (522, op_dv (fun x y => x / y) 523), (523, op_ic 2 524), (524, op_dv (fun x y => irm x y) 525), (525, op_if (fun x => ¬ x = 0) 542 528), (528, op_al 2 529), (529, op_ic 16 531), (531, op_il 10 533), (533, op_bin (fun x y => x + y) 534), (534, op_iald 535)]
set_option maxRecDepth 20000 in
theorem tok_L_isPerson_4 : ∀ q ∈ tab_L_isPerson_4, GSnd RL cL_isPerson 18 13 20 (some .boolean) q.1 q.2 := by
  unfold tab_L_isPerson_4
  refine gcons (snd_g (ok_iload dL_isPerson_425 rfl)) ?_
  refine gcons (snd_g (ok_if_eq dL_isPerson_427 rfl rfl)) ?_
  refine gcons (snd_g (ok_aload_n dL_isPerson_430 rfl rfl)) ?_
  refine gcons (snd_g (ok_iload dL_isPerson_431 rfl)) ?_
  refine gcons (snd_g (ok_dup2 dL_isPerson_433 rfl)) ?_
  refine gcons (snd_g (ok_iaload dL_isPerson_434 rfl)) ?_
  refine gcons (snd_g (ok_iload dL_isPerson_435 rfl)) ?_
  refine gcons (snd_g (ok_if_eq dL_isPerson_437 rfl rfl)) ?_
  refine gcons (snd_g (ok_bipush dL_isPerson_440 rfl rfl)) ?_
  refine gcons (snd_g (ok_goto dL_isPerson_442 rfl)) ?_
  refine gcons (snd_g (ok_iconst dL_isPerson_445 rfl rfl)) ?_
  refine gcons (snd_g (ok_iload dL_isPerson_446 rfl)) ?_
  refine gcons (snd_g (ok_iload dL_isPerson_448 rfl)) ?_
  refine gcons (snd_g (ok_isub dL_isPerson_450 rfl)) ?_
  refine gcons (snd_g (ok_imul dL_isPerson_451 rfl)) ?_
  refine gcons (snd_g (ok_iadd dL_isPerson_452 rfl)) ?_
  refine gcons (snd_g (ok_iastore dL_isPerson_453 rfl)) ?_
  refine gcons (snd_g (ok_aload_n dL_isPerson_454 rfl rfl)) ?_
  refine gcons (snd_g (ok_iload dL_isPerson_455 rfl)) ?_
  refine gcons (snd_g (ok_if_eq dL_isPerson_457 rfl rfl)) ?_
  refine gcons (snd_g (ok_iconst dL_isPerson_460 rfl rfl)) ?_
  refine gcons (snd_g (ok_goto dL_isPerson_461 rfl)) ?_
  refine gcons (snd_g (ok_iconst dL_isPerson_464 rfl rfl)) ?_
  refine gcons (snd_g (ok_iload dL_isPerson_465 rfl)) ?_
  refine gcons (snd_g (ok_iload dL_isPerson_467 rfl)) ?_
  refine gcons (snd_g (ok_iconst dL_isPerson_469 rfl rfl)) ?_
  refine gcons (snd_g (ok_iconst dL_isPerson_470 rfl rfl)) ?_
  refine gcons (ok_invokestaticHN M_L_does w_128 w_129 w_19 w_130 ⟨by decide, by decide, by decide +kernel⟩ (by decide) (by decide) dL_isPerson_471 rfl) ?_
  refine gcons (snd_g (ok_iload dL_isPerson_474 rfl)) ?_
  refine gcons (snd_g (ok_if_ne dL_isPerson_476 rfl rfl)) ?_
  refine gcons (snd_g (ok_ldc w_683 dL_isPerson_479 rfl)) ?_
  refine gcons (snd_g (ok_goto dL_isPerson_481 rfl)) ?_
  refine gcons (snd_g (ok_iload dL_isPerson_484 rfl)) ?_
  refine gcons (snd_g (ok_if_eq dL_isPerson_486 rfl rfl)) ?_
  refine gcons (snd_g (ok_iload dL_isPerson_489 rfl)) ?_
  refine gcons (snd_g (ok_goto dL_isPerson_491 rfl)) ?_
  refine gcons (snd_g (ok_ldc w_684 dL_isPerson_494 rfl)) ?_
  refine gcons (snd_g (ok_icmp_ne dL_isPerson_496 rfl rfl)) ?_
  refine gcons (snd_g (ok_iconst dL_isPerson_499 rfl rfl)) ?_
  refine gcons (snd_g (ok_goto dL_isPerson_500 rfl)) ?_
  refine gcons (snd_g (ok_iconst dL_isPerson_503 rfl rfl)) ?_
  refine gcons (snd_g (ok_zreturn rfl (Or.inl rfl) dL_isPerson_504)) ?_
  refine gcons (snd_g (ok_iload dL_isPerson_505 rfl)) ?_
  refine gcons (snd_g (ok_iconst dL_isPerson_507 rfl rfl)) ?_
  refine gcons (snd_g (ok_icmp_ne dL_isPerson_508 rfl rfl)) ?_
  refine gcons (snd_g (ok_iload dL_isPerson_511 rfl)) ?_
  refine gcons (snd_g (ok_if_eq dL_isPerson_513 rfl rfl)) ?_
  refine gcons (snd_g (ok_aload_n dL_isPerson_516 rfl rfl)) ?_
  refine gcons (snd_g (ok_iload dL_isPerson_517 rfl)) ?_
  refine gcons (snd_g (ok_iaload dL_isPerson_519 rfl)) ?_
  refine gcons (snd_g (ok_bipush dL_isPerson_520 rfl rfl)) ?_
  refine gcons (snd_g (ok_idiv dL_isPerson_522 rfl)) ?_
  refine gcons (snd_g (ok_iconst dL_isPerson_523 rfl rfl)) ?_
  refine gcons (snd_g (ok_irem dL_isPerson_524 rfl)) ?_
  refine gcons (snd_g (ok_if_ne dL_isPerson_525 rfl rfl)) ?_
  refine gcons (snd_g (ok_aload_n dL_isPerson_528 rfl rfl)) ?_
  refine gcons (snd_g (ok_bipush dL_isPerson_529 rfl rfl)) ?_
  refine gcons (snd_g (ok_iload dL_isPerson_531 rfl)) ?_
  refine gcons (snd_g (ok_iadd dL_isPerson_533 rfl)) ?_
  refine gcons (snd_g (ok_iaload dL_isPerson_534 rfl)) ?_
  exact fun _ h => nomatch h
def tab_L_isPerson_5 : List (Nat × Sem) := [(535, op_if (fun x => 0 ≤ x) 542 538), (538, op_ic 1 539), (539, op_go 543), (542, op_ic 0 543), (543, op_is 12 545), (545, op_al 2 546), (546, op_il 12 548), (548, op_if (fun x => x = 0) 559 551), (551, op_ic 16 553), (553, op_il 10 555), (555, op_bin (fun x y => x + y) 556), (556, op_go 561), (559, op_ic 32 561), (561, op_al 6 563), (563, op_ic 0 564), (564, op_iald 565), (565, op_iast 566), (566, op_al 0 567), (567, op_ic 3 568), (568, op_il 10 570), (570, op_ic 0 571), (571, op_ic 0 572), (572, op_ic 0 573), (573, op_callHN sp_L_does 6 16 576), (576, op_il 11 578), (578, op_if (fun x => ¬ x = 0) 586 581), (581, op_ic (-3000000) 583), (583, op_go 597), (586, op_il 12 588), (588, op_if (fun x => x = 0) 595 591), (591, op_ic 0 592), (592, op_go 597), (595, op_ic (-1000000) 597), (597, op_cmp (fun x y => ¬ x = y) 604 600), (600, op_ic 1 601), (601, op_go 605), (604, op_ic 0 605), (605, op_zret), (606, op_il 7 608), (608, op_ic 3 609), (609, op_cmp (fun x y => ¬ x = y) 695 612), (612, op_il 11 614), (614, op_if (fun x => x = 0) 629 617), (617, op_al 1 618), (618, op_il 10 620), (620, op_iald 621), (621, op_ic 32 623), (623, op_dv (fun x y => x / y) 624), (624, op_ic 2 625), (625, op_dv (fun x y => irm x y) 626), (626, op_go 630), (629, op_ic 0 630), (630, op_is 12 632), (632, op_al 1 633), (633, op_il 11 635), (635, op_if (fun x => x = 0) 643 638), (638, op_il 10 640), (640, op_go 645), (643, op_ic 16 645), (645, op_dup2 646)]
set_option maxRecDepth 20000 in
theorem tok_L_isPerson_5 : ∀ q ∈ tab_L_isPerson_5, GSnd RL cL_isPerson 18 13 20 (some .boolean) q.1 q.2 := by
  unfold tab_L_isPerson_5
  refine gcons (snd_g (ok_if_ge dL_isPerson_535 rfl rfl)) ?_
  refine gcons (snd_g (ok_iconst dL_isPerson_538 rfl rfl)) ?_
  refine gcons (snd_g (ok_goto dL_isPerson_539 rfl)) ?_
  refine gcons (snd_g (ok_iconst dL_isPerson_542 rfl rfl)) ?_
  refine gcons (snd_g (ok_istore dL_isPerson_543 (by decide) rfl)) ?_
  refine gcons (snd_g (ok_aload_n dL_isPerson_545 rfl rfl)) ?_
  refine gcons (snd_g (ok_iload dL_isPerson_546 rfl)) ?_
  refine gcons (snd_g (ok_if_eq dL_isPerson_548 rfl rfl)) ?_
  refine gcons (snd_g (ok_bipush dL_isPerson_551 rfl rfl)) ?_
  refine gcons (snd_g (ok_iload dL_isPerson_553 rfl)) ?_
  refine gcons (snd_g (ok_iadd dL_isPerson_555 rfl)) ?_
  refine gcons (snd_g (ok_goto dL_isPerson_556 rfl)) ?_
  refine gcons (snd_g (ok_bipush dL_isPerson_559 rfl rfl)) ?_
  refine gcons (snd_g (ok_aload dL_isPerson_561 rfl)) ?_
  refine gcons (snd_g (ok_iconst dL_isPerson_563 rfl rfl)) ?_
  refine gcons (snd_g (ok_iaload dL_isPerson_564 rfl)) ?_
  refine gcons (snd_g (ok_iastore dL_isPerson_565 rfl)) ?_
  refine gcons (snd_g (ok_aload_n dL_isPerson_566 rfl rfl)) ?_
  refine gcons (snd_g (ok_iconst dL_isPerson_567 rfl rfl)) ?_
  refine gcons (snd_g (ok_iload dL_isPerson_568 rfl)) ?_
  refine gcons (snd_g (ok_iconst dL_isPerson_570 rfl rfl)) ?_
  refine gcons (snd_g (ok_iconst dL_isPerson_571 rfl rfl)) ?_
  refine gcons (snd_g (ok_iconst dL_isPerson_572 rfl rfl)) ?_
  refine gcons (ok_invokestaticHN M_L_does w_128 w_129 w_19 w_130 ⟨by decide, by decide, by decide +kernel⟩ (by decide) (by decide) dL_isPerson_573 rfl) ?_
  refine gcons (snd_g (ok_iload dL_isPerson_576 rfl)) ?_
  refine gcons (snd_g (ok_if_ne dL_isPerson_578 rfl rfl)) ?_
  refine gcons (snd_g (ok_ldc w_683 dL_isPerson_581 rfl)) ?_
  refine gcons (snd_g (ok_goto dL_isPerson_583 rfl)) ?_
  refine gcons (snd_g (ok_iload dL_isPerson_586 rfl)) ?_
  refine gcons (snd_g (ok_if_eq dL_isPerson_588 rfl rfl)) ?_
  refine gcons (snd_g (ok_iconst dL_isPerson_591 rfl rfl)) ?_
  refine gcons (snd_g (ok_goto dL_isPerson_592 rfl)) ?_
  refine gcons (snd_g (ok_ldc w_685 dL_isPerson_595 rfl)) ?_
  refine gcons (snd_g (ok_icmp_ne dL_isPerson_597 rfl rfl)) ?_
  refine gcons (snd_g (ok_iconst dL_isPerson_600 rfl rfl)) ?_
  refine gcons (snd_g (ok_goto dL_isPerson_601 rfl)) ?_
  refine gcons (snd_g (ok_iconst dL_isPerson_604 rfl rfl)) ?_
  refine gcons (snd_g (ok_zreturn rfl (Or.inl rfl) dL_isPerson_605)) ?_
  refine gcons (snd_g (ok_iload dL_isPerson_606 rfl)) ?_
  refine gcons (snd_g (ok_iconst dL_isPerson_608 rfl rfl)) ?_
  refine gcons (snd_g (ok_icmp_ne dL_isPerson_609 rfl rfl)) ?_
  refine gcons (snd_g (ok_iload dL_isPerson_612 rfl)) ?_
  refine gcons (snd_g (ok_if_eq dL_isPerson_614 rfl rfl)) ?_
  refine gcons (snd_g (ok_aload_n dL_isPerson_617 rfl rfl)) ?_
  refine gcons (snd_g (ok_iload dL_isPerson_618 rfl)) ?_
  refine gcons (snd_g (ok_iaload dL_isPerson_620 rfl)) ?_
  refine gcons (snd_g (ok_bipush dL_isPerson_621 rfl rfl)) ?_
  refine gcons (snd_g (ok_idiv dL_isPerson_623 rfl)) ?_
  refine gcons (snd_g (ok_iconst dL_isPerson_624 rfl rfl)) ?_
  refine gcons (snd_g (ok_irem dL_isPerson_625 rfl)) ?_
  refine gcons (snd_g (ok_goto dL_isPerson_626 rfl)) ?_
  refine gcons (snd_g (ok_iconst dL_isPerson_629 rfl rfl)) ?_
  refine gcons (snd_g (ok_istore dL_isPerson_630 (by decide) rfl)) ?_
  refine gcons (snd_g (ok_aload_n dL_isPerson_632 rfl rfl)) ?_
  refine gcons (snd_g (ok_iload dL_isPerson_633 rfl)) ?_
  refine gcons (snd_g (ok_if_eq dL_isPerson_635 rfl rfl)) ?_
  refine gcons (snd_g (ok_iload dL_isPerson_638 rfl)) ?_
  refine gcons (snd_g (ok_goto dL_isPerson_640 rfl)) ?_
  refine gcons (snd_g (ok_bipush dL_isPerson_643 rfl rfl)) ?_
  refine gcons (snd_g (ok_dup2 dL_isPerson_645 rfl)) ?_
  exact fun _ h => nomatch h
def tab_L_isPerson_6 : List (Nat × Sem) := [(646, op_iald 647), (647, op_il 12 649), (649, op_ic 1 650), (650, op_cmp (fun x y => ¬ x = y) 658 653), (653, op_ic (-32) 655), (655, op_go 660), (658, op_ic 32 660), (660, op_bin (fun x y => x + y) 661), (661, op_iast 662), (662, op_al 0 663), (663, op_ic 4 664), (664, op_il 10 666), (666, op_ic 0 667), (667, op_ic 0 668), (668, op_ic 0 669), (669, op_callHN sp_L_does 6 16 672), (672, op_il 11 674), (674, op_if (fun x => x = 0) 684 677), (677, op_ic 1 678), (678, op_il 12 680), (680, op_bin (fun x y => x - y) 681), (681, op_go 686), (684, op_ic (-3000000) 686), (686, op_cmp (fun x y => ¬ x = y) 693 689), (689, op_ic 1 690), (690, op_go 694), (693, op_ic 0 694), (694, op_zret), (695, op_il 7 697), (697, op_ic 4 698), (698, op_cmp (fun x y => ¬ x = y) 852 701), (701, op_il 11 703), (703, op_if (fun x => x = 0) 722 706), (706, op_al 1 707), (707, op_il 10 709), (709, op_iald 710), (710, op_ic 64 712), (712, op_dv (fun x y => x / y) 713), (713, op_ic 2 714), (714, op_dv (fun x y => irm x y) 715), (715, op_if (fun x => ¬ x = 0) 722 718), (718, op_ic 1 719), (719, op_go 723), (722, op_ic 0 723), (723, op_is 12 725), (725, op_al 1 726), (726, op_il 12 728), (728, op_if (fun x => x = 0) 736 731), (731, op_il 10 733), (733, op_go 738), (736, op_ic 16 738), (738, op_dup2 739), (739, op_iald 740), (740, op_ic 64 742), (742, op_bin (fun x y => x + y) 743), (743, op_iast 744), (744, op_ic 0 745), (745, op_is 13 747), (747, op_ic 0 748), (748, op_is 14 750)]
set_option maxRecDepth 20000 in
theorem tok_L_isPerson_6 : ∀ q ∈ tab_L_isPerson_6, GSnd RL cL_isPerson 18 13 20 (some .boolean) q.1 q.2 := by
  unfold tab_L_isPerson_6
  refine gcons (snd_g (ok_iaload dL_isPerson_646 rfl)) ?_
  refine gcons (snd_g (ok_iload dL_isPerson_647 rfl)) ?_
  refine gcons (snd_g (ok_iconst dL_isPerson_649 rfl rfl)) ?_
  refine gcons (snd_g (ok_icmp_ne dL_isPerson_650 rfl rfl)) ?_
  refine gcons (snd_g (ok_bipush dL_isPerson_653 rfl rfl)) ?_
  refine gcons (snd_g (ok_goto dL_isPerson_655 rfl)) ?_
  refine gcons (snd_g (ok_bipush dL_isPerson_658 rfl rfl)) ?_
  refine gcons (snd_g (ok_iadd dL_isPerson_660 rfl)) ?_
  refine gcons (snd_g (ok_iastore dL_isPerson_661 rfl)) ?_
  refine gcons (snd_g (ok_aload_n dL_isPerson_662 rfl rfl)) ?_
  refine gcons (snd_g (ok_iconst dL_isPerson_663 rfl rfl)) ?_
  refine gcons (snd_g (ok_iload dL_isPerson_664 rfl)) ?_
  refine gcons (snd_g (ok_iconst dL_isPerson_666 rfl rfl)) ?_
  refine gcons (snd_g (ok_iconst dL_isPerson_667 rfl rfl)) ?_
  refine gcons (snd_g (ok_iconst dL_isPerson_668 rfl rfl)) ?_
  refine gcons (ok_invokestaticHN M_L_does w_128 w_129 w_19 w_130 ⟨by decide, by decide, by decide +kernel⟩ (by decide) (by decide) dL_isPerson_669 rfl) ?_
  refine gcons (snd_g (ok_iload dL_isPerson_672 rfl)) ?_
  refine gcons (snd_g (ok_if_eq dL_isPerson_674 rfl rfl)) ?_
  refine gcons (snd_g (ok_iconst dL_isPerson_677 rfl rfl)) ?_
  refine gcons (snd_g (ok_iload dL_isPerson_678 rfl)) ?_
  refine gcons (snd_g (ok_isub dL_isPerson_680 rfl)) ?_
  refine gcons (snd_g (ok_goto dL_isPerson_681 rfl)) ?_
  refine gcons (snd_g (ok_ldc w_683 dL_isPerson_684 rfl)) ?_
  refine gcons (snd_g (ok_icmp_ne dL_isPerson_686 rfl rfl)) ?_
  refine gcons (snd_g (ok_iconst dL_isPerson_689 rfl rfl)) ?_
  refine gcons (snd_g (ok_goto dL_isPerson_690 rfl)) ?_
  refine gcons (snd_g (ok_iconst dL_isPerson_693 rfl rfl)) ?_
  refine gcons (snd_g (ok_zreturn rfl (Or.inl rfl) dL_isPerson_694)) ?_
  refine gcons (snd_g (ok_iload dL_isPerson_695 rfl)) ?_
  refine gcons (snd_g (ok_iconst dL_isPerson_697 rfl rfl)) ?_
  refine gcons (snd_g (ok_icmp_ne dL_isPerson_698 rfl rfl)) ?_
  refine gcons (snd_g (ok_iload dL_isPerson_701 rfl)) ?_
  refine gcons (snd_g (ok_if_eq dL_isPerson_703 rfl rfl)) ?_
  refine gcons (snd_g (ok_aload_n dL_isPerson_706 rfl rfl)) ?_
  refine gcons (snd_g (ok_iload dL_isPerson_707 rfl)) ?_
  refine gcons (snd_g (ok_iaload dL_isPerson_709 rfl)) ?_
  refine gcons (snd_g (ok_bipush dL_isPerson_710 rfl rfl)) ?_
  refine gcons (snd_g (ok_idiv dL_isPerson_712 rfl)) ?_
  refine gcons (snd_g (ok_iconst dL_isPerson_713 rfl rfl)) ?_
  refine gcons (snd_g (ok_irem dL_isPerson_714 rfl)) ?_
  refine gcons (snd_g (ok_if_ne dL_isPerson_715 rfl rfl)) ?_
  refine gcons (snd_g (ok_iconst dL_isPerson_718 rfl rfl)) ?_
  refine gcons (snd_g (ok_goto dL_isPerson_719 rfl)) ?_
  refine gcons (snd_g (ok_iconst dL_isPerson_722 rfl rfl)) ?_
  refine gcons (snd_g (ok_istore dL_isPerson_723 (by decide) rfl)) ?_
  refine gcons (snd_g (ok_aload_n dL_isPerson_725 rfl rfl)) ?_
  refine gcons (snd_g (ok_iload dL_isPerson_726 rfl)) ?_
  refine gcons (snd_g (ok_if_eq dL_isPerson_728 rfl rfl)) ?_
  refine gcons (snd_g (ok_iload dL_isPerson_731 rfl)) ?_
  refine gcons (snd_g (ok_goto dL_isPerson_733 rfl)) ?_
  refine gcons (snd_g (ok_bipush dL_isPerson_736 rfl rfl)) ?_
  refine gcons (snd_g (ok_dup2 dL_isPerson_738 rfl)) ?_
  refine gcons (snd_g (ok_iaload dL_isPerson_739 rfl)) ?_
  refine gcons (snd_g (ok_bipush dL_isPerson_740 rfl rfl)) ?_
  refine gcons (snd_g (ok_iadd dL_isPerson_742 rfl)) ?_
  refine gcons (snd_g (ok_iastore dL_isPerson_743 rfl)) ?_
  refine gcons (snd_g (ok_iconst dL_isPerson_744 rfl rfl)) ?_
  refine gcons (snd_g (ok_istore dL_isPerson_745 (by decide) rfl)) ?_
  refine gcons (snd_g (ok_iconst dL_isPerson_747 rfl rfl)) ?_
  refine gcons (snd_g (ok_istore dL_isPerson_748 (by decide) rfl)) ?_
  exact fun _ h => nomatch h
def tab_L_isPerson_7 : List (Nat × Sem) := [(750, op_il 14 752), (752, op_al 6 754), (754, op_ic 2 755), (755, op_iald 756), (756, op_cmp (fun x y => y ≤ x) 811 759), (759, op_il 12 761), (761, op_if (fun x => x = 0) 811 764), (764, op_al 4 766), (766, op_il 14 768), (768, op_iald 769), (769, op_ic 4096 772), (772, op_dv (fun x y => x / y) 773), (773, op_ic 4 774), (774, op_dv (fun x y => irm x y) 775), (775, op_if (fun x => ¬ x = 0) 805 778), (778, op_al 4 780), (780, op_il 14 782), (782, op_il 10 784), (784, op_callN sp_L_isOf 3 0 787), (787, op_if (fun x => x = 0) 805 790), (790, op_al 4 792), (792, op_al 5 794), (794, op_al 6 796), (796, op_il 14 798), (798, op_ic 3 799), (799, op_callN sp_L_changes 5 0 802), (802, op_inc 13 1 805), (805, op_inc 14 1 808), (808, op_go 750), (811, op_al 0 812), (812, op_ic 5 813), (813, op_il 10 815), (815, op_ic 0 816), (816, op_ic 0 817), (817, op_ic 0 818), (818, op_callHN sp_L_does 6 16 821), (821, op_il 11 823), (823, op_if (fun x => ¬ x = 0) 831 826), (826, op_ic (-3000000) 828), (828, op_go 843), (831, op_il 12 833), (833, op_if (fun x => x = 0) 841 836), (836, op_il 13 838), (838, op_go 843), (841, op_ic (-1000000) 843), (843, op_cmp (fun x y => ¬ x = y) 850 846), (846, op_ic 1 847), (847, op_go 851), (850, op_ic 0 851), (851, op_zret), (852, op_il 9 854), (854, op_al 6 856), (856, op_ic 1 857), (857, op_iald 858), (858, op_ic 1 859), (859, op_bin (fun x y => x + y) 860), (860, op_dv (fun x y => irm x y) 861), (861, op_is 12 863), (863, op_il 9 865), (865, op_ic 17 867)]
set_option maxRecDepth 20000 in
theorem tok_L_isPerson_7 : ∀ q ∈ tab_L_isPerson_7, GSnd RL cL_isPerson 18 13 20 (some .boolean) q.1 q.2 := by
  unfold tab_L_isPerson_7
  refine gcons (snd_g (ok_iload dL_isPerson_750 rfl)) ?_
  refine gcons (snd_g (ok_aload dL_isPerson_752 rfl)) ?_
  refine gcons (snd_g (ok_iconst dL_isPerson_754 rfl rfl)) ?_
  refine gcons (snd_g (ok_iaload dL_isPerson_755 rfl)) ?_
  refine gcons (snd_g (ok_icmp_ge dL_isPerson_756 rfl rfl)) ?_
  refine gcons (snd_g (ok_iload dL_isPerson_759 rfl)) ?_
  refine gcons (snd_g (ok_if_eq dL_isPerson_761 rfl rfl)) ?_
  refine gcons (snd_g (ok_aload dL_isPerson_764 rfl)) ?_
  refine gcons (snd_g (ok_iload dL_isPerson_766 rfl)) ?_
  refine gcons (snd_g (ok_iaload dL_isPerson_768 rfl)) ?_
  refine gcons (snd_g (ok_sipush dL_isPerson_769 rfl rfl)) ?_
  refine gcons (snd_g (ok_idiv dL_isPerson_772 rfl)) ?_
  refine gcons (snd_g (ok_iconst dL_isPerson_773 rfl rfl)) ?_
  refine gcons (snd_g (ok_irem dL_isPerson_774 rfl)) ?_
  refine gcons (snd_g (ok_if_ne dL_isPerson_775 rfl rfl)) ?_
  refine gcons (snd_g (ok_aload dL_isPerson_778 rfl)) ?_
  refine gcons (snd_g (ok_iload dL_isPerson_780 rfl)) ?_
  refine gcons (snd_g (ok_iload dL_isPerson_782 rfl)) ?_
  refine gcons (snd_g (ok_invokestaticN M_L_isOf w_696 w_697 w_19 w_698 ⟨by decide, by decide, by decide +kernel⟩ (by decide) (by decide) dL_isPerson_784 rfl)) ?_
  refine gcons (snd_g (ok_if_eq dL_isPerson_787 rfl rfl)) ?_
  refine gcons (snd_g (ok_aload dL_isPerson_790 rfl)) ?_
  refine gcons (snd_g (ok_aload dL_isPerson_792 rfl)) ?_
  refine gcons (snd_g (ok_aload dL_isPerson_794 rfl)) ?_
  refine gcons (snd_g (ok_iload dL_isPerson_796 rfl)) ?_
  refine gcons (snd_g (ok_iconst dL_isPerson_798 rfl rfl)) ?_
  refine gcons (snd_g (ok_invokestaticN M_L_changes w_915 w_916 w_19 w_917 ⟨by decide, by decide, by decide +kernel⟩ (by decide) (by decide) dL_isPerson_799 rfl)) ?_
  refine gcons (snd_g (ok_iinc dL_isPerson_802 rfl (by decide) rfl)) ?_
  refine gcons (snd_g (ok_iinc dL_isPerson_805 rfl (by decide) rfl)) ?_
  refine gcons (snd_g (ok_goto dL_isPerson_808 rfl)) ?_
  refine gcons (snd_g (ok_aload_n dL_isPerson_811 rfl rfl)) ?_
  refine gcons (snd_g (ok_iconst dL_isPerson_812 rfl rfl)) ?_
  refine gcons (snd_g (ok_iload dL_isPerson_813 rfl)) ?_
  refine gcons (snd_g (ok_iconst dL_isPerson_815 rfl rfl)) ?_
  refine gcons (snd_g (ok_iconst dL_isPerson_816 rfl rfl)) ?_
  refine gcons (snd_g (ok_iconst dL_isPerson_817 rfl rfl)) ?_
  refine gcons (ok_invokestaticHN M_L_does w_128 w_129 w_19 w_130 ⟨by decide, by decide, by decide +kernel⟩ (by decide) (by decide) dL_isPerson_818 rfl) ?_
  refine gcons (snd_g (ok_iload dL_isPerson_821 rfl)) ?_
  refine gcons (snd_g (ok_if_ne dL_isPerson_823 rfl rfl)) ?_
  refine gcons (snd_g (ok_ldc w_683 dL_isPerson_826 rfl)) ?_
  refine gcons (snd_g (ok_goto dL_isPerson_828 rfl)) ?_
  refine gcons (snd_g (ok_iload dL_isPerson_831 rfl)) ?_
  refine gcons (snd_g (ok_if_eq dL_isPerson_833 rfl rfl)) ?_
  refine gcons (snd_g (ok_iload dL_isPerson_836 rfl)) ?_
  refine gcons (snd_g (ok_goto dL_isPerson_838 rfl)) ?_
  refine gcons (snd_g (ok_ldc w_685 dL_isPerson_841 rfl)) ?_
  refine gcons (snd_g (ok_icmp_ne dL_isPerson_843 rfl rfl)) ?_
  refine gcons (snd_g (ok_iconst dL_isPerson_846 rfl rfl)) ?_
  refine gcons (snd_g (ok_goto dL_isPerson_847 rfl)) ?_
  refine gcons (snd_g (ok_iconst dL_isPerson_850 rfl rfl)) ?_
  refine gcons (snd_g (ok_zreturn rfl (Or.inl rfl) dL_isPerson_851)) ?_
  refine gcons (snd_g (ok_iload dL_isPerson_852 rfl)) ?_
  refine gcons (snd_g (ok_aload dL_isPerson_854 rfl)) ?_
  refine gcons (snd_g (ok_iconst dL_isPerson_856 rfl rfl)) ?_
  refine gcons (snd_g (ok_iaload dL_isPerson_857 rfl)) ?_
  refine gcons (snd_g (ok_iconst dL_isPerson_858 rfl rfl)) ?_
  refine gcons (snd_g (ok_iadd dL_isPerson_859 rfl)) ?_
  refine gcons (snd_g (ok_irem dL_isPerson_860 rfl)) ?_
  refine gcons (snd_g (ok_istore dL_isPerson_861 (by decide) rfl)) ?_
  refine gcons (snd_g (ok_iload dL_isPerson_863 rfl)) ?_
  refine gcons (snd_g (ok_bipush dL_isPerson_865 rfl rfl)) ?_
  exact fun _ h => nomatch h
def tab_L_isPerson_8 : List (Nat × Sem) := [(867, op_dv (fun x y => x / y) 868), (868, op_ic 9 870), (870, op_dv (fun x y => irm x y) 871), (871, op_ic 8 873), (873, op_cmp (fun x y => ¬ x = y) 880 876), (876, op_ic 4 877), (877, op_go 911), (880, op_il 9 882), (882, op_ic 17 884), (884, op_dv (fun x y => x / y) 885), (885, op_ic 3 886), (886, op_dv (fun x y => irm x y) 887), (887, op_if (fun x => ¬ x = 0) 894 890), (890, op_ic 1 891), (891, op_go 911), (894, op_il 9 896), (896, op_ic 17 898), (898, op_dv (fun x y => x / y) 899), (899, op_ic 3 900), (900, op_dv (fun x y => irm x y) 901), (901, op_ic 1 902), (902, op_cmp (fun x y => ¬ x = y) 909 905), (905, op_ic 2 906), (906, op_go 911), (909, op_ic 8 911), (911, op_is 13 913), (913, op_il 11 915), (915, op_if (fun x => x = 0) 931 918), (918, op_il 12 920), (920, op_al 6 922), (922, op_ic 1 923), (923, op_iald 924), (924, op_cmp (fun x y => y ≤ x) 931 927), (927, op_ic 1 928), (928, op_go 932), (931, op_ic 0 932), (932, op_is 14 934), (934, op_il 10 936), (936, op_il 12 938), (938, op_cmp (fun x y => x = y) 951 941), (941, op_il 13 943), (943, op_ic 4 944), (944, op_cmp (fun x y => x = y) 951 947), (947, op_ic 1 948), (948, op_go 952), (951, op_ic 0 952), (952, op_is 15 954), (954, op_al 3 955), (955, op_ic 15 957), (957, op_iald 958), (958, op_ic 15 960), (960, op_cmp (fun x y => ¬ x = y) 965 963), (963, op_ic 1 964), (964, op_zret), (965, op_il 14 967), (967, op_if (fun x => x = 0) 1011 970), (970, op_il 15 972), (972, op_if (fun x => x = 0) 1011 975), (975, op_al 1 976), (976, op_al 2 977)]
set_option maxRecDepth 20000 in
theorem tok_L_isPerson_8 : ∀ q ∈ tab_L_isPerson_8, GSnd RL cL_isPerson 18 13 20 (some .boolean) q.1 q.2 := by
  unfold tab_L_isPerson_8
  refine gcons (snd_g (ok_idiv dL_isPerson_867 rfl)) ?_
  refine gcons (snd_g (ok_bipush dL_isPerson_868 rfl rfl)) ?_
  refine gcons (snd_g (ok_irem dL_isPerson_870 rfl)) ?_
  refine gcons (snd_g (ok_bipush dL_isPerson_871 rfl rfl)) ?_
  refine gcons (snd_g (ok_icmp_ne dL_isPerson_873 rfl rfl)) ?_
  refine gcons (snd_g (ok_iconst dL_isPerson_876 rfl rfl)) ?_
  refine gcons (snd_g (ok_goto dL_isPerson_877 rfl)) ?_
  refine gcons (snd_g (ok_iload dL_isPerson_880 rfl)) ?_
  refine gcons (snd_g (ok_bipush dL_isPerson_882 rfl rfl)) ?_
  refine gcons (snd_g (ok_idiv dL_isPerson_884 rfl)) ?_
  refine gcons (snd_g (ok_iconst dL_isPerson_885 rfl rfl)) ?_
  refine gcons (snd_g (ok_irem dL_isPerson_886 rfl)) ?_
  refine gcons (snd_g (ok_if_ne dL_isPerson_887 rfl rfl)) ?_
  refine gcons (snd_g (ok_iconst dL_isPerson_890 rfl rfl)) ?_
  refine gcons (snd_g (ok_goto dL_isPerson_891 rfl)) ?_
  refine gcons (snd_g (ok_iload dL_isPerson_894 rfl)) ?_
  refine gcons (snd_g (ok_bipush dL_isPerson_896 rfl rfl)) ?_
  refine gcons (snd_g (ok_idiv dL_isPerson_898 rfl)) ?_
  refine gcons (snd_g (ok_iconst dL_isPerson_899 rfl rfl)) ?_
  refine gcons (snd_g (ok_irem dL_isPerson_900 rfl)) ?_
  refine gcons (snd_g (ok_iconst dL_isPerson_901 rfl rfl)) ?_
  refine gcons (snd_g (ok_icmp_ne dL_isPerson_902 rfl rfl)) ?_
  refine gcons (snd_g (ok_iconst dL_isPerson_905 rfl rfl)) ?_
  refine gcons (snd_g (ok_goto dL_isPerson_906 rfl)) ?_
  refine gcons (snd_g (ok_bipush dL_isPerson_909 rfl rfl)) ?_
  refine gcons (snd_g (ok_istore dL_isPerson_911 (by decide) rfl)) ?_
  refine gcons (snd_g (ok_iload dL_isPerson_913 rfl)) ?_
  refine gcons (snd_g (ok_if_eq dL_isPerson_915 rfl rfl)) ?_
  refine gcons (snd_g (ok_iload dL_isPerson_918 rfl)) ?_
  refine gcons (snd_g (ok_aload dL_isPerson_920 rfl)) ?_
  refine gcons (snd_g (ok_iconst dL_isPerson_922 rfl rfl)) ?_
  refine gcons (snd_g (ok_iaload dL_isPerson_923 rfl)) ?_
  refine gcons (snd_g (ok_icmp_ge dL_isPerson_924 rfl rfl)) ?_
  refine gcons (snd_g (ok_iconst dL_isPerson_927 rfl rfl)) ?_
  refine gcons (snd_g (ok_goto dL_isPerson_928 rfl)) ?_
  refine gcons (snd_g (ok_iconst dL_isPerson_931 rfl rfl)) ?_
  refine gcons (snd_g (ok_istore dL_isPerson_932 (by decide) rfl)) ?_
  refine gcons (snd_g (ok_iload dL_isPerson_934 rfl)) ?_
  refine gcons (snd_g (ok_iload dL_isPerson_936 rfl)) ?_
  refine gcons (snd_g (ok_icmp_eq dL_isPerson_938 rfl rfl)) ?_
  refine gcons (snd_g (ok_iload dL_isPerson_941 rfl)) ?_
  refine gcons (snd_g (ok_iconst dL_isPerson_943 rfl rfl)) ?_
  refine gcons (snd_g (ok_icmp_eq dL_isPerson_944 rfl rfl)) ?_
  refine gcons (snd_g (ok_iconst dL_isPerson_947 rfl rfl)) ?_
  refine gcons (snd_g (ok_goto dL_isPerson_948 rfl)) ?_
  refine gcons (snd_g (ok_iconst dL_isPerson_951 rfl rfl)) ?_
  refine gcons (snd_g (ok_istore dL_isPerson_952 (by decide) rfl)) ?_
  refine gcons (snd_g (ok_aload_n dL_isPerson_954 rfl rfl)) ?_
  refine gcons (snd_g (ok_bipush dL_isPerson_955 rfl rfl)) ?_
  refine gcons (snd_g (ok_iaload dL_isPerson_957 rfl)) ?_
  refine gcons (snd_g (ok_bipush dL_isPerson_958 rfl rfl)) ?_
  refine gcons (snd_g (ok_icmp_ne dL_isPerson_960 rfl rfl)) ?_
  refine gcons (snd_g (ok_iconst dL_isPerson_963 rfl rfl)) ?_
  refine gcons (snd_g (ok_zreturn rfl (Or.inl rfl) dL_isPerson_964)) ?_
  refine gcons (snd_g (ok_iload dL_isPerson_965 rfl)) ?_
  refine gcons (snd_g (ok_if_eq dL_isPerson_967 rfl rfl)) ?_
  refine gcons (snd_g (ok_iload dL_isPerson_970 rfl)) ?_
  refine gcons (snd_g (ok_if_eq dL_isPerson_972 rfl rfl)) ?_
  refine gcons (snd_g (ok_aload_n dL_isPerson_975 rfl rfl)) ?_
  refine gcons (snd_g (ok_aload_n dL_isPerson_976 rfl rfl)) ?_
  exact fun _ h => nomatch h
def tab_L_isPerson_9 : List (Nat × Sem) := [(977, op_il 10 979), (979, op_il 12 981), (981, op_al 6 983), (983, op_ic 0 984), (984, op_iald 985), (985, op_callN sp_L_hinders 5 2 988), (988, op_il 13 990), (990, op_bin (fun x y => x &&& y) 991), (991, op_if (fun x => x ≤ 0) 1011 994), (994, op_al 3 995), (995, op_il 10 997), (997, op_il 12 999), (999, op_il 13 1001), (1001, op_callN sp_L_isDispensed 4 0 1004), (1004, op_if (fun x => ¬ x = 0) 1011 1007), (1007, op_ic 1 1008), (1008, op_go 1012), (1011, op_ic 0 1012), (1012, op_is 16 1014), (1014, op_il 16 1016), (1016, op_if (fun x => x = 0) 1065 1019), (1019, op_il 13 1021), (1021, op_ic 1 1022), (1022, op_cmp (fun x y => ¬ x = y) 1065 1025), (1025, op_al 6 1027), (1027, op_ic 0 1028), (1028, op_iald 1029), (1029, op_al 2 1030), (1030, op_il 10 1032), (1032, op_iald 1033), (1033, op_bin (fun x y => x - y) 1034), (1034, op_ic 5040 1037), (1037, op_cmp (fun x y => x < y) 1059 1040), (1040, op_al 6 1042), (1042, op_ic 0 1043), (1043, op_iald 1044), (1044, op_al 2 1045), (1045, op_il 12 1047), (1047, op_iald 1048), (1048, op_bin (fun x y => x - y) 1049), (1049, op_ic 5040 1052), (1052, op_cmp (fun x y => x < y) 1059 1055), (1055, op_ic 1 1056), (1056, op_go 1060), (1059, op_ic 0 1060), (1060, op_is 16 1062), (1062, op_go 1109), (1065, op_il 16 1067), (1067, op_if (fun x => x = 0) 1109 1070), (1070, op_il 13 1072), (1072, op_ic 2 1073), (1073, op_cmp (fun x y => ¬ x = y) 1109 1076), (1076, op_al 1 1077), (1077, op_il 10 1079), (1079, op_il 12 1081), (1081, op_callN sp_L_kin 3 2 1084), (1084, op_is 17 1086), (1086, op_il 17 1088), (1088, op_ic 300 1091), (1091, op_cmp (fun x y => x = y) 1102 1094)]
set_option maxRecDepth 20000 in
theorem tok_L_isPerson_9 : ∀ q ∈ tab_L_isPerson_9, GSnd RL cL_isPerson 18 13 20 (some .boolean) q.1 q.2 := by
  unfold tab_L_isPerson_9
  refine gcons (snd_g (ok_iload dL_isPerson_977 rfl)) ?_
  refine gcons (snd_g (ok_iload dL_isPerson_979 rfl)) ?_
  refine gcons (snd_g (ok_aload dL_isPerson_981 rfl)) ?_
  refine gcons (snd_g (ok_iconst dL_isPerson_983 rfl rfl)) ?_
  refine gcons (snd_g (ok_iaload dL_isPerson_984 rfl)) ?_
  refine gcons (snd_g (ok_invokestaticN M_L_hinders w_918 w_919 w_19 w_920 ⟨by decide, by decide, by decide +kernel⟩ (by decide) (by decide) dL_isPerson_985 rfl)) ?_
  refine gcons (snd_g (ok_iload dL_isPerson_988 rfl)) ?_
  refine gcons (snd_g (ok_iand dL_isPerson_990 rfl)) ?_
  refine gcons (snd_g (ok_if_le dL_isPerson_991 rfl rfl)) ?_
  refine gcons (snd_g (ok_aload_n dL_isPerson_994 rfl rfl)) ?_
  refine gcons (snd_g (ok_iload dL_isPerson_995 rfl)) ?_
  refine gcons (snd_g (ok_iload dL_isPerson_997 rfl)) ?_
  refine gcons (snd_g (ok_iload dL_isPerson_999 rfl)) ?_
  refine gcons (snd_g (ok_invokestaticN M_L_isDispensed w_921 w_922 w_19 w_923 ⟨by decide, by decide, by decide +kernel⟩ (by decide) (by decide) dL_isPerson_1001 rfl)) ?_
  refine gcons (snd_g (ok_if_ne dL_isPerson_1004 rfl rfl)) ?_
  refine gcons (snd_g (ok_iconst dL_isPerson_1007 rfl rfl)) ?_
  refine gcons (snd_g (ok_goto dL_isPerson_1008 rfl)) ?_
  refine gcons (snd_g (ok_iconst dL_isPerson_1011 rfl rfl)) ?_
  refine gcons (snd_g (ok_istore dL_isPerson_1012 (by decide) rfl)) ?_
  refine gcons (snd_g (ok_iload dL_isPerson_1014 rfl)) ?_
  refine gcons (snd_g (ok_if_eq dL_isPerson_1016 rfl rfl)) ?_
  refine gcons (snd_g (ok_iload dL_isPerson_1019 rfl)) ?_
  refine gcons (snd_g (ok_iconst dL_isPerson_1021 rfl rfl)) ?_
  refine gcons (snd_g (ok_icmp_ne dL_isPerson_1022 rfl rfl)) ?_
  refine gcons (snd_g (ok_aload dL_isPerson_1025 rfl)) ?_
  refine gcons (snd_g (ok_iconst dL_isPerson_1027 rfl rfl)) ?_
  refine gcons (snd_g (ok_iaload dL_isPerson_1028 rfl)) ?_
  refine gcons (snd_g (ok_aload_n dL_isPerson_1029 rfl rfl)) ?_
  refine gcons (snd_g (ok_iload dL_isPerson_1030 rfl)) ?_
  refine gcons (snd_g (ok_iaload dL_isPerson_1032 rfl)) ?_
  refine gcons (snd_g (ok_isub dL_isPerson_1033 rfl)) ?_
  refine gcons (snd_g (ok_sipush dL_isPerson_1034 rfl rfl)) ?_
  refine gcons (snd_g (ok_icmp_lt dL_isPerson_1037 rfl rfl)) ?_
  refine gcons (snd_g (ok_aload dL_isPerson_1040 rfl)) ?_
  refine gcons (snd_g (ok_iconst dL_isPerson_1042 rfl rfl)) ?_
  refine gcons (snd_g (ok_iaload dL_isPerson_1043 rfl)) ?_
  refine gcons (snd_g (ok_aload_n dL_isPerson_1044 rfl rfl)) ?_
  refine gcons (snd_g (ok_iload dL_isPerson_1045 rfl)) ?_
  refine gcons (snd_g (ok_iaload dL_isPerson_1047 rfl)) ?_
  refine gcons (snd_g (ok_isub dL_isPerson_1048 rfl)) ?_
  refine gcons (snd_g (ok_sipush dL_isPerson_1049 rfl rfl)) ?_
  refine gcons (snd_g (ok_icmp_lt dL_isPerson_1052 rfl rfl)) ?_
  refine gcons (snd_g (ok_iconst dL_isPerson_1055 rfl rfl)) ?_
  refine gcons (snd_g (ok_goto dL_isPerson_1056 rfl)) ?_
  refine gcons (snd_g (ok_iconst dL_isPerson_1059 rfl rfl)) ?_
  refine gcons (snd_g (ok_istore dL_isPerson_1060 (by decide) rfl)) ?_
  refine gcons (snd_g (ok_goto dL_isPerson_1062 rfl)) ?_
  refine gcons (snd_g (ok_iload dL_isPerson_1065 rfl)) ?_
  refine gcons (snd_g (ok_if_eq dL_isPerson_1067 rfl rfl)) ?_
  refine gcons (snd_g (ok_iload dL_isPerson_1070 rfl)) ?_
  refine gcons (snd_g (ok_iconst dL_isPerson_1072 rfl rfl)) ?_
  refine gcons (snd_g (ok_icmp_ne dL_isPerson_1073 rfl rfl)) ?_
  refine gcons (snd_g (ok_aload_n dL_isPerson_1076 rfl rfl)) ?_
  refine gcons (snd_g (ok_iload dL_isPerson_1077 rfl)) ?_
  refine gcons (snd_g (ok_iload dL_isPerson_1079 rfl)) ?_
  refine gcons (snd_g (ok_invokestaticN M_L_kin w_707 w_708 w_19 w_709 ⟨by decide, by decide, by decide +kernel⟩ (by decide) (by decide) dL_isPerson_1081 rfl)) ?_
  refine gcons (snd_g (ok_istore dL_isPerson_1084 (by decide) rfl)) ?_
  refine gcons (snd_g (ok_iload dL_isPerson_1086 rfl)) ?_
  refine gcons (snd_g (ok_sipush dL_isPerson_1088 rfl rfl)) ?_
  refine gcons (snd_g (ok_icmp_eq dL_isPerson_1091 rfl rfl)) ?_
  exact fun _ h => nomatch h
def tab_L_isPerson_10 : List (Nat × Sem) := [(1094, op_il 17 1096), (1096, op_ic 400 1099), (1099, op_cmp (fun x y => ¬ x = y) 1106 1102), (1102, op_ic 1 1103), (1103, op_go 1107), (1106, op_ic 0 1107), (1107, op_is 16 1109), (1109, op_il 16 1111), (1111, op_if (fun x => x = 0) 1143 1114), (1114, op_al 3 1115), (1115, op_al 3 1116), (1116, op_ic 15 1118), (1118, op_iald 1119), (1119, op_il 10 1121), (1121, op_ic 16 1123), (1123, op_il 12 1125), (1125, op_bin (fun x y => x * y) 1126), (1126, op_bin (fun x y => x + y) 1127), (1127, op_ic 256 1130), (1130, op_il 13 1132), (1132, op_bin (fun x y => x * y) 1133), (1133, op_bin (fun x y => x + y) 1134), (1134, op_iast 1135), (1135, op_al 3 1136), (1136, op_ic 15 1138), (1138, op_dup2 1139), (1139, op_iald 1140), (1140, op_ic 1 1141), (1141, op_bin (fun x y => x + y) 1142), (1142, op_iast 1143), (1143, op_al 0 1144), (1144, op_ic 6 1146), (1146, op_il 10 1148), (1148, op_il 12 1150), (1150, op_il 13 1152), (1152, op_ic 0 1153), (1153, op_callHN sp_L_does 6 16 1156), (1156, op_il 14 1158), (1158, op_if (fun x => ¬ x = 0) 1166 1161), (1161, op_ic (-3000000) 1163), (1163, op_go 1187), (1166, op_il 15 1168), (1168, op_if (fun x => ¬ x = 0) 1176 1171), (1171, op_ic (-2000000) 1173), (1173, op_go 1187), (1176, op_il 16 1178), (1178, op_if (fun x => x = 0) 1185 1181), (1181, op_ic 0 1182), (1182, op_go 1187), (1185, op_ic (-1000000) 1187), (1187, op_cmp (fun x y => ¬ x = y) 1194 1190), (1190, op_ic 1 1191), (1191, op_go 1195), (1194, op_ic 0 1195), (1195, op_zret)]
set_option maxRecDepth 20000 in
theorem tok_L_isPerson_10 : ∀ q ∈ tab_L_isPerson_10, GSnd RL cL_isPerson 18 13 20 (some .boolean) q.1 q.2 := by
  unfold tab_L_isPerson_10
  refine gcons (snd_g (ok_iload dL_isPerson_1094 rfl)) ?_
  refine gcons (snd_g (ok_sipush dL_isPerson_1096 rfl rfl)) ?_
  refine gcons (snd_g (ok_icmp_ne dL_isPerson_1099 rfl rfl)) ?_
  refine gcons (snd_g (ok_iconst dL_isPerson_1102 rfl rfl)) ?_
  refine gcons (snd_g (ok_goto dL_isPerson_1103 rfl)) ?_
  refine gcons (snd_g (ok_iconst dL_isPerson_1106 rfl rfl)) ?_
  refine gcons (snd_g (ok_istore dL_isPerson_1107 (by decide) rfl)) ?_
  refine gcons (snd_g (ok_iload dL_isPerson_1109 rfl)) ?_
  refine gcons (snd_g (ok_if_eq dL_isPerson_1111 rfl rfl)) ?_
  refine gcons (snd_g (ok_aload_n dL_isPerson_1114 rfl rfl)) ?_
  refine gcons (snd_g (ok_aload_n dL_isPerson_1115 rfl rfl)) ?_
  refine gcons (snd_g (ok_bipush dL_isPerson_1116 rfl rfl)) ?_
  refine gcons (snd_g (ok_iaload dL_isPerson_1118 rfl)) ?_
  refine gcons (snd_g (ok_iload dL_isPerson_1119 rfl)) ?_
  refine gcons (snd_g (ok_bipush dL_isPerson_1121 rfl rfl)) ?_
  refine gcons (snd_g (ok_iload dL_isPerson_1123 rfl)) ?_
  refine gcons (snd_g (ok_imul dL_isPerson_1125 rfl)) ?_
  refine gcons (snd_g (ok_iadd dL_isPerson_1126 rfl)) ?_
  refine gcons (snd_g (ok_sipush dL_isPerson_1127 rfl rfl)) ?_
  refine gcons (snd_g (ok_iload dL_isPerson_1130 rfl)) ?_
  refine gcons (snd_g (ok_imul dL_isPerson_1132 rfl)) ?_
  refine gcons (snd_g (ok_iadd dL_isPerson_1133 rfl)) ?_
  refine gcons (snd_g (ok_iastore dL_isPerson_1134 rfl)) ?_
  refine gcons (snd_g (ok_aload_n dL_isPerson_1135 rfl rfl)) ?_
  refine gcons (snd_g (ok_bipush dL_isPerson_1136 rfl rfl)) ?_
  refine gcons (snd_g (ok_dup2 dL_isPerson_1138 rfl)) ?_
  refine gcons (snd_g (ok_iaload dL_isPerson_1139 rfl)) ?_
  refine gcons (snd_g (ok_iconst dL_isPerson_1140 rfl rfl)) ?_
  refine gcons (snd_g (ok_iadd dL_isPerson_1141 rfl)) ?_
  refine gcons (snd_g (ok_iastore dL_isPerson_1142 rfl)) ?_
  refine gcons (snd_g (ok_aload_n dL_isPerson_1143 rfl rfl)) ?_
  refine gcons (snd_g (ok_bipush dL_isPerson_1144 rfl rfl)) ?_
  refine gcons (snd_g (ok_iload dL_isPerson_1146 rfl)) ?_
  refine gcons (snd_g (ok_iload dL_isPerson_1148 rfl)) ?_
  refine gcons (snd_g (ok_iload dL_isPerson_1150 rfl)) ?_
  refine gcons (snd_g (ok_iconst dL_isPerson_1152 rfl rfl)) ?_
  refine gcons (ok_invokestaticHN M_L_does w_128 w_129 w_19 w_130 ⟨by decide, by decide, by decide +kernel⟩ (by decide) (by decide) dL_isPerson_1153 rfl) ?_
  refine gcons (snd_g (ok_iload dL_isPerson_1156 rfl)) ?_
  refine gcons (snd_g (ok_if_ne dL_isPerson_1158 rfl rfl)) ?_
  refine gcons (snd_g (ok_ldc w_683 dL_isPerson_1161 rfl)) ?_
  refine gcons (snd_g (ok_goto dL_isPerson_1163 rfl)) ?_
  refine gcons (snd_g (ok_iload dL_isPerson_1166 rfl)) ?_
  refine gcons (snd_g (ok_if_ne dL_isPerson_1168 rfl rfl)) ?_
  refine gcons (snd_g (ok_ldc w_684 dL_isPerson_1171 rfl)) ?_
  refine gcons (snd_g (ok_goto dL_isPerson_1173 rfl)) ?_
  refine gcons (snd_g (ok_iload dL_isPerson_1176 rfl)) ?_
  refine gcons (snd_g (ok_if_eq dL_isPerson_1178 rfl rfl)) ?_
  refine gcons (snd_g (ok_iconst dL_isPerson_1181 rfl rfl)) ?_
  refine gcons (snd_g (ok_goto dL_isPerson_1182 rfl)) ?_
  refine gcons (snd_g (ok_ldc w_685 dL_isPerson_1185 rfl)) ?_
  refine gcons (snd_g (ok_icmp_ne dL_isPerson_1187 rfl rfl)) ?_
  refine gcons (snd_g (ok_iconst dL_isPerson_1190 rfl rfl)) ?_
  refine gcons (snd_g (ok_goto dL_isPerson_1191 rfl)) ?_
  refine gcons (snd_g (ok_iconst dL_isPerson_1194 rfl rfl)) ?_
  refine gcons (snd_g (ok_zreturn rfl (Or.inl rfl) dL_isPerson_1195)) ?_
  exact fun _ h => nomatch h
def tab_L_isPerson : List (Nat × Sem) := tab_L_isPerson_0 ++ (tab_L_isPerson_1 ++ (tab_L_isPerson_2 ++ (tab_L_isPerson_3 ++ (tab_L_isPerson_4 ++ (tab_L_isPerson_5 ++ (tab_L_isPerson_6 ++ (tab_L_isPerson_7 ++ (tab_L_isPerson_8 ++ (tab_L_isPerson_9 ++ (tab_L_isPerson_10))))))))))
theorem tok_L_isPerson : ∀ q ∈ tab_L_isPerson, GSnd RL cL_isPerson 18 13 20 (some .boolean) q.1 q.2 := gapp tok_L_isPerson_0 (gapp tok_L_isPerson_1 (gapp tok_L_isPerson_2 (gapp tok_L_isPerson_3 (gapp tok_L_isPerson_4 (gapp tok_L_isPerson_5 (gapp tok_L_isPerson_6 (gapp tok_L_isPerson_7 (gapp tok_L_isPerson_8 (gapp tok_L_isPerson_9 (tok_L_isPerson_10))))))))))

