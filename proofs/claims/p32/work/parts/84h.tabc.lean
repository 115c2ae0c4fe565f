/-! the law's isCause: its instructions -/
theorem w_702 : (.constant "VowCourtLaw" 143 (3000000) : Cond) ∈ TB := TB_mem (List.mem_of_getElem? (i := 702) (by decide +kernel)) rfl
theorem w_933 : (.methodLink "VowCourtLaw" 175 ⟨"VowCourt", "hasCause", "(II)Z"⟩ : Cond) ∈ TB := TB_mem (List.mem_of_getElem? (i := 933) (by decide +kernel)) rfl
theorem w_934 : (.instanceMethod ⟨"VowCourt", "hasCause", "(II)Z"⟩ : Cond) ∈ TB := TB_mem (List.mem_of_getElem? (i := 934) (by decide +kernel)) rfl
theorem w_935 : (.selects "VowCourt" ⟨"VowCourt", "hasCause", "(II)Z"⟩ ⟨"VowCourt", "hasCause", "(II)Z"⟩ : Cond) ∈ TB := TB_mem (List.mem_of_getElem? (i := 935) (by decide +kernel)) rfl
theorem w_936 : (.code yX4_hasCause cX4_hasCause 4 (some .boolean) : Cond) ∈ TB := TB_mem (List.mem_of_getElem? (i := 936) (by decide +kernel)) rfl
theorem w_937 : (.methodLink "VowCourtLaw" 178 ⟨"VowCourtLaw", "proven", "([I[II)I"⟩ : Cond) ∈ TB := TB_mem (List.mem_of_getElem? (i := 937) (by decide +kernel)) rfl
theorem w_938 : (.static ⟨"VowCourtLaw", "proven", "([I[II)I"⟩ : Cond) ∈ TB := TB_mem (List.mem_of_getElem? (i := 938) (by decide +kernel)) rfl
theorem w_939 : (.code yL_proven cL_proven 5 (some .int) : Cond) ∈ TB := TB_mem (List.mem_of_getElem? (i := 939) (by decide +kernel)) rfl
theorem w_940 : (.methodLink "VowCourtLaw" 181 ⟨"VowCourtLaw", "sentence", "([I[I[I[I[I[II)I"⟩ : Cond) ∈ TB := TB_mem (List.mem_of_getElem? (i := 940) (by decide +kernel)) rfl
theorem w_941 : (.static ⟨"VowCourtLaw", "sentence", "([I[I[I[I[I[II)I"⟩ : Cond) ∈ TB := TB_mem (List.mem_of_getElem? (i := 941) (by decide +kernel)) rfl
theorem w_942 : (.code yL_sentence cL_sentence 16 (some .int) : Cond) ∈ TB := TB_mem (List.mem_of_getElem? (i := 942) (by decide +kernel)) rfl
theorem dL_isCause_0 : decode cL_isCause 0 = .ok (.iload 9, 2) := by decide +kernel
theorem dL_isCause_2 : decode cL_isCause 2 = .ok (.ifCond .ne 423, 3) := by decide +kernel
theorem dL_isCause_5 : decode cL_isCause 5 = .ok (.aload 8, 2) := by decide +kernel
theorem dL_isCause_7 : decode cL_isCause 7 = .ok (.iconst 3, 1) := by decide +kernel
theorem dL_isCause_8 : decode cL_isCause 8 = .ok (.iaload, 1) := by decide +kernel
theorem dL_isCause_9 : decode cL_isCause 9 = .ok (.bipush 8, 2) := by decide +kernel
theorem dL_isCause_11 : decode cL_isCause 11 = .ok (.if_icmp .ge 414, 3) := by decide +kernel
theorem dL_isCause_14 : decode cL_isCause 14 = .ok (.iload 10, 2) := by decide +kernel
theorem dL_isCause_16 : decode cL_isCause 16 = .ok (.aload 8, 2) := by decide +kernel
theorem dL_isCause_18 : decode cL_isCause 18 = .ok (.iconst 2, 1) := by decide +kernel
theorem dL_isCause_19 : decode cL_isCause 19 = .ok (.iaload, 1) := by decide +kernel
theorem dL_isCause_20 : decode cL_isCause 20 = .ok (.iconst 1, 1) := by decide +kernel
theorem dL_isCause_21 : decode cL_isCause 21 = .ok (.iadd, 1) := by decide +kernel
theorem dL_isCause_22 : decode cL_isCause 22 = .ok (.irem, 1) := by decide +kernel
theorem dL_isCause_23 : decode cL_isCause 23 = .ok (.istore 12, 2) := by decide +kernel
theorem dL_isCause_25 : decode cL_isCause 25 = .ok (.iload 10, 2) := by decide +kernel
theorem dL_isCause_27 : decode cL_isCause 27 = .ok (.bipush 17, 2) := by decide +kernel
theorem dL_isCause_29 : decode cL_isCause 29 = .ok (.idiv, 1) := by decide +kernel
theorem dL_isCause_30 : decode cL_isCause 30 = .ok (.bipush 9, 2) := by decide +kernel
theorem dL_isCause_32 : decode cL_isCause 32 = .ok (.irem, 1) := by decide +kernel
theorem dL_isCause_33 : decode cL_isCause 33 = .ok (.istore 13, 2) := by decide +kernel
theorem dL_isCause_35 : decode cL_isCause 35 = .ok (.iload 11, 2) := by decide +kernel
theorem dL_isCause_37 : decode cL_isCause 37 = .ok (.bipush 9, 2) := by decide +kernel
theorem dL_isCause_39 : decode cL_isCause 39 = .ok (.irem, 1) := by decide +kernel
theorem dL_isCause_40 : decode cL_isCause 40 = .ok (.ifCond .ne 15, 3) := by decide +kernel
theorem dL_isCause_43 : decode cL_isCause 43 = .ok (.iload 11, 2) := by decide +kernel
theorem dL_isCause_45 : decode cL_isCause 45 = .ok (.bipush 9, 2) := by decide +kernel
theorem dL_isCause_47 : decode cL_isCause 47 = .ok (.idiv, 1) := by decide +kernel
theorem dL_isCause_48 : decode cL_isCause 48 = .ok (.sipush 129, 3) := by decide +kernel
theorem dL_isCause_51 : decode cL_isCause 51 = .ok (.irem, 1) := by decide +kernel
theorem dL_isCause_52 : decode cL_isCause 52 = .ok (.goto 11, 3) := by decide +kernel
theorem dL_isCause_55 : decode cL_isCause 55 = .ok (.bipush 64, 2) := by decide +kernel
theorem dL_isCause_57 : decode cL_isCause 57 = .ok (.iload 11, 2) := by decide +kernel
theorem dL_isCause_59 : decode cL_isCause 59 = .ok (.bipush 64, 2) := by decide +kernel
theorem dL_isCause_61 : decode cL_isCause 61 = .ok (.irem, 1) := by decide +kernel
theorem dL_isCause_62 : decode cL_isCause 62 = .ok (.iadd, 1) := by decide +kernel
theorem dL_isCause_63 : decode cL_isCause 63 = .ok (.istore 14, 2) := by decide +kernel
theorem dL_isCause_65 : decode cL_isCause 65 = .ok (.iload 11, 2) := by decide +kernel
theorem dL_isCause_67 : decode cL_isCause 67 = .ok (.iconst 2, 1) := by decide +kernel
theorem dL_isCause_68 : decode cL_isCause 68 = .ok (.irem, 1) := by decide +kernel
theorem dL_isCause_69 : decode cL_isCause 69 = .ok (.ifCond .ne 7, 3) := by decide +kernel
theorem dL_isCause_72 : decode cL_isCause 72 = .ok (.iconst 1, 1) := by decide +kernel
theorem dL_isCause_73 : decode cL_isCause 73 = .ok (.goto 4, 3) := by decide +kernel
theorem dL_isCause_76 : decode cL_isCause 76 = .ok (.iconst 0, 1) := by decide +kernel
theorem dL_isCause_77 : decode cL_isCause 77 = .ok (.istore 15, 2) := by decide +kernel
theorem dL_isCause_79 : decode cL_isCause 79 = .ok (.iload 12, 2) := by decide +kernel
theorem dL_isCause_81 : decode cL_isCause 81 = .ok (.aload 8, 2) := by decide +kernel
theorem dL_isCause_83 : decode cL_isCause 83 = .ok (.iconst 2, 1) := by decide +kernel
theorem dL_isCause_84 : decode cL_isCause 84 = .ok (.iaload, 1) := by decide +kernel
theorem dL_isCause_85 : decode cL_isCause 85 = .ok (.if_icmp .ge 7, 3) := by decide +kernel
theorem dL_isCause_88 : decode cL_isCause 88 = .ok (.iconst 1, 1) := by decide +kernel
theorem dL_isCause_89 : decode cL_isCause 89 = .ok (.goto 4, 3) := by decide +kernel
theorem dL_isCause_92 : decode cL_isCause 92 = .ok (.iconst 0, 1) := by decide +kernel
theorem dL_isCause_93 : decode cL_isCause 93 = .ok (.istore 16, 2) := by decide +kernel
theorem dL_isCause_95 : decode cL_isCause 95 = .ok (.iload 13, 2) := by decide +kernel
theorem dL_isCause_97 : decode cL_isCause 97 = .ok (.bipush 8, 2) := by decide +kernel
theorem dL_isCause_99 : decode cL_isCause 99 = .ok (.if_icmp .ge 20, 3) := by decide +kernel
theorem dL_isCause_102 : decode cL_isCause 102 = .ok (.iload 14, 2) := by decide +kernel
theorem dL_isCause_104 : decode cL_isCause 104 = .ok (.ifCond .le 15, 3) := by decide +kernel
theorem dL_isCause_107 : decode cL_isCause 107 = .ok (.iload 14, 2) := by decide +kernel
theorem dL_isCause_109 : decode cL_isCause 109 = .ok (.sipush 128, 3) := by decide +kernel
theorem dL_isCause_112 : decode cL_isCause 112 = .ok (.if_icmp .ge 7, 3) := by decide +kernel
theorem dL_isCause_115 : decode cL_isCause 115 = .ok (.iconst 1, 1) := by decide +kernel
theorem dL_isCause_116 : decode cL_isCause 116 = .ok (.goto 4, 3) := by decide +kernel
theorem dL_isCause_119 : decode cL_isCause 119 = .ok (.iconst 0, 1) := by decide +kernel
theorem dL_isCause_120 : decode cL_isCause 120 = .ok (.istore 17, 2) := by decide +kernel
theorem dL_isCause_122 : decode cL_isCause 122 = .ok (.iload 16, 2) := by decide +kernel
theorem dL_isCause_124 : decode cL_isCause 124 = .ok (.ifCond .eq 13, 3) := by decide +kernel
theorem dL_isCause_127 : decode cL_isCause 127 = .ok (.aload_n 2, 1) := by decide +kernel
theorem dL_isCause_128 : decode cL_isCause 128 = .ok (.iload 12, 2) := by decide +kernel
theorem dL_isCause_130 : decode cL_isCause 130 = .ok (.iaload, 1) := by decide +kernel
theorem dL_isCause_131 : decode cL_isCause 131 = .ok (.bipush 16, 2) := by decide +kernel
theorem dL_isCause_133 : decode cL_isCause 133 = .ok (.irem, 1) := by decide +kernel
theorem dL_isCause_134 : decode cL_isCause 134 = .ok (.goto 4, 3) := by decide +kernel
theorem dL_isCause_137 : decode cL_isCause 137 = .ok (.iconst 0, 1) := by decide +kernel
theorem dL_isCause_138 : decode cL_isCause 138 = .ok (.istore 18, 2) := by decide +kernel
theorem dL_isCause_140 : decode cL_isCause 140 = .ok (.iload 16, 2) := by decide +kernel
theorem dL_isCause_142 : decode cL_isCause 142 = .ok (.ifCond .eq 16, 3) := by decide +kernel
theorem dL_isCause_145 : decode cL_isCause 145 = .ok (.aload_n 2, 1) := by decide +kernel
theorem dL_isCause_146 : decode cL_isCause 146 = .ok (.iload 12, 2) := by decide +kernel
theorem dL_isCause_148 : decode cL_isCause 148 = .ok (.iaload, 1) := by decide +kernel
theorem dL_isCause_149 : decode cL_isCause 149 = .ok (.bipush 16, 2) := by decide +kernel
theorem dL_isCause_151 : decode cL_isCause 151 = .ok (.idiv, 1) := by decide +kernel
theorem dL_isCause_152 : decode cL_isCause 152 = .ok (.bipush 16, 2) := by decide +kernel
theorem dL_isCause_154 : decode cL_isCause 154 = .ok (.irem, 1) := by decide +kernel
theorem dL_isCause_155 : decode cL_isCause 155 = .ok (.goto 4, 3) := by decide +kernel
theorem dL_isCause_158 : decode cL_isCause 158 = .ok (.iconst 0, 1) := by decide +kernel
theorem dL_isCause_159 : decode cL_isCause 159 = .ok (.istore 19, 2) := by decide +kernel
theorem dL_isCause_161 : decode cL_isCause 161 = .ok (.iload 16, 2) := by decide +kernel
theorem dL_isCause_163 : decode cL_isCause 163 = .ok (.ifCond .eq 78, 3) := by decide +kernel
theorem dL_isCause_166 : decode cL_isCause 166 = .ok (.iload 13, 2) := by decide +kernel
theorem dL_isCause_168 : decode cL_isCause 168 = .ok (.bipush 8, 2) := by decide +kernel
theorem dL_isCause_170 : decode cL_isCause 170 = .ok (.if_icmp .ge 71, 3) := by decide +kernel
theorem dL_isCause_173 : decode cL_isCause 173 = .ok (.aload_n 2, 1) := by decide +kernel
theorem dL_isCause_174 : decode cL_isCause 174 = .ok (.iload 12, 2) := by decide +kernel
theorem dL_isCause_176 : decode cL_isCause 176 = .ok (.iaload, 1) := by decide +kernel
theorem dL_isCause_177 : decode cL_isCause 177 = .ok (.sipush 256, 3) := by decide +kernel
theorem dL_isCause_180 : decode cL_isCause 180 = .ok (.idiv, 1) := by decide +kernel
theorem dL_isCause_181 : decode cL_isCause 181 = .ok (.bipush 8, 2) := by decide +kernel
theorem dL_isCause_183 : decode cL_isCause 183 = .ok (.irem, 1) := by decide +kernel
theorem dL_isCause_184 : decode cL_isCause 184 = .ok (.iload 13, 2) := by decide +kernel
theorem dL_isCause_186 : decode cL_isCause 186 = .ok (.if_icmp .eq 51, 3) := by decide +kernel
theorem dL_isCause_189 : decode cL_isCause 189 = .ok (.aload_n 1, 1) := by decide +kernel
theorem dL_isCause_190 : decode cL_isCause 190 = .ok (.iload 18, 2) := by decide +kernel
theorem dL_isCause_192 : decode cL_isCause 192 = .ok (.iaload, 1) := by decide +kernel
theorem dL_isCause_193 : decode cL_isCause 193 = .ok (.bipush 64, 2) := by decide +kernel
theorem dL_isCause_195 : decode cL_isCause 195 = .ok (.idiv, 1) := by decide +kernel
theorem dL_isCause_196 : decode cL_isCause 196 = .ok (.iconst 2, 1) := by decide +kernel
theorem dL_isCause_197 : decode cL_isCause 197 = .ok (.irem, 1) := by decide +kernel
theorem dL_isCause_198 : decode cL_isCause 198 = .ok (.ifCond .ne 15, 3) := by decide +kernel
theorem dL_isCause_201 : decode cL_isCause 201 = .ok (.aload_n 1, 1) := by decide +kernel
theorem dL_isCause_202 : decode cL_isCause 202 = .ok (.iload 18, 2) := by decide +kernel
theorem dL_isCause_204 : decode cL_isCause 204 = .ok (.iaload, 1) := by decide +kernel
theorem dL_isCause_205 : decode cL_isCause 205 = .ok (.bipush 8, 2) := by decide +kernel
theorem dL_isCause_207 : decode cL_isCause 207 = .ok (.irem, 1) := by decide +kernel
theorem dL_isCause_208 : decode cL_isCause 208 = .ok (.iload 13, 2) := by decide +kernel
theorem dL_isCause_210 : decode cL_isCause 210 = .ok (.if_icmp .eq 27, 3) := by decide +kernel
theorem dL_isCause_213 : decode cL_isCause 213 = .ok (.aload_n 1, 1) := by decide +kernel
theorem dL_isCause_214 : decode cL_isCause 214 = .ok (.iload 19, 2) := by decide +kernel
theorem dL_isCause_216 : decode cL_isCause 216 = .ok (.iaload, 1) := by decide +kernel
theorem dL_isCause_217 : decode cL_isCause 217 = .ok (.bipush 64, 2) := by decide +kernel
theorem dL_isCause_219 : decode cL_isCause 219 = .ok (.idiv, 1) := by decide +kernel
theorem dL_isCause_220 : decode cL_isCause 220 = .ok (.iconst 2, 1) := by decide +kernel
theorem dL_isCause_221 : decode cL_isCause 221 = .ok (.irem, 1) := by decide +kernel
theorem dL_isCause_222 : decode cL_isCause 222 = .ok (.ifCond .ne 19, 3) := by decide +kernel
theorem dL_isCause_225 : decode cL_isCause 225 = .ok (.aload_n 1, 1) := by decide +kernel
theorem dL_isCause_226 : decode cL_isCause 226 = .ok (.iload 19, 2) := by decide +kernel
theorem dL_isCause_228 : decode cL_isCause 228 = .ok (.iaload, 1) := by decide +kernel
theorem dL_isCause_229 : decode cL_isCause 229 = .ok (.bipush 8, 2) := by decide +kernel
theorem dL_isCause_231 : decode cL_isCause 231 = .ok (.irem, 1) := by decide +kernel
theorem dL_isCause_232 : decode cL_isCause 232 = .ok (.iload 13, 2) := by decide +kernel
theorem dL_isCause_234 : decode cL_isCause 234 = .ok (.if_icmp .ne 7, 3) := by decide +kernel
theorem dL_isCause_237 : decode cL_isCause 237 = .ok (.iconst 1, 1) := by decide +kernel
theorem dL_isCause_238 : decode cL_isCause 238 = .ok (.goto 4, 3) := by decide +kernel
theorem dL_isCause_241 : decode cL_isCause 241 = .ok (.iconst 0, 1) := by decide +kernel
theorem dL_isCause_242 : decode cL_isCause 242 = .ok (.istore 20, 2) := by decide +kernel
theorem dL_isCause_244 : decode cL_isCause 244 = .ok (.iload 16, 2) := by decide +kernel
theorem dL_isCause_246 : decode cL_isCause 246 = .ok (.ifCond .eq 50, 3) := by decide +kernel
theorem dL_isCause_249 : decode cL_isCause 249 = .ok (.iload 17, 2) := by decide +kernel
theorem dL_isCause_251 : decode cL_isCause 251 = .ok (.ifCond .eq 45, 3) := by decide +kernel
theorem dL_isCause_254 : decode cL_isCause 254 = .ok (.aload_n 2, 1) := by decide +kernel
theorem dL_isCause_255 : decode cL_isCause 255 = .ok (.iload 12, 2) := by decide +kernel
theorem dL_isCause_257 : decode cL_isCause 257 = .ok (.iaload, 1) := by decide +kernel
theorem dL_isCause_258 : decode cL_isCause 258 = .ok (.sipush 4096, 3) := by decide +kernel
theorem dL_isCause_261 : decode cL_isCause 261 = .ok (.idiv, 1) := by decide +kernel
theorem dL_isCause_262 : decode cL_isCause 262 = .ok (.iconst 4, 1) := by decide +kernel
theorem dL_isCause_263 : decode cL_isCause 263 = .ok (.irem, 1) := by decide +kernel
theorem dL_isCause_264 : decode cL_isCause 264 = .ok (.iconst 3, 1) := by decide +kernel
theorem dL_isCause_265 : decode cL_isCause 265 = .ok (.irem, 1) := by decide +kernel
theorem dL_isCause_266 : decode cL_isCause 266 = .ok (.ifCond .ne 30, 3) := by decide +kernel
theorem dL_isCause_269 : decode cL_isCause 269 = .ok (.aload 4, 2) := by decide +kernel
theorem dL_isCause_271 : decode cL_isCause 271 = .ok (.aload 8, 2) := by decide +kernel
theorem dL_isCause_273 : decode cL_isCause 273 = .ok (.iload 12, 2) := by decide +kernel
theorem dL_isCause_275 : decode cL_isCause 275 = .ok (.iconst (-1), 1) := by decide +kernel
theorem dL_isCause_276 : decode cL_isCause 276 = .ok (.invokestatic 168, 3) := by decide +kernel
theorem dL_isCause_279 : decode cL_isCause 279 = .ok (.ifCond .eq 17, 3) := by decide +kernel
theorem dL_isCause_282 : decode cL_isCause 282 = .ok (.iload 15, 2) := by decide +kernel
theorem dL_isCause_284 : decode cL_isCause 284 = .ok (.ifCond .ne 8, 3) := by decide +kernel
theorem dL_isCause_287 : decode cL_isCause 287 = .ok (.iload 20, 2) := by decide +kernel
theorem dL_isCause_289 : decode cL_isCause 289 = .ok (.ifCond .eq 7, 3) := by decide +kernel
theorem dL_isCause_292 : decode cL_isCause 292 = .ok (.iconst 1, 1) := by decide +kernel
theorem dL_isCause_293 : decode cL_isCause 293 = .ok (.goto 4, 3) := by decide +kernel
theorem dL_isCause_296 : decode cL_isCause 296 = .ok (.iconst 0, 1) := by decide +kernel
theorem dL_isCause_297 : decode cL_isCause 297 = .ok (.istore 21, 2) := by decide +kernel
theorem dL_isCause_299 : decode cL_isCause 299 = .ok (.iload 16, 2) := by decide +kernel
theorem dL_isCause_301 : decode cL_isCause 301 = .ok (.ifCond .eq 25, 3) := by decide +kernel
theorem dL_isCause_304 : decode cL_isCause 304 = .ok (.iload 13, 2) := by decide +kernel
theorem dL_isCause_306 : decode cL_isCause 306 = .ok (.bipush 8, 2) := by decide +kernel
theorem dL_isCause_308 : decode cL_isCause 308 = .ok (.if_icmp .ge 18, 3) := by decide +kernel
theorem dL_isCause_311 : decode cL_isCause 311 = .ok (.aload_n 0, 1) := by decide +kernel
theorem dL_isCause_312 : decode cL_isCause 312 = .ok (.iload 12, 2) := by decide +kernel
theorem dL_isCause_314 : decode cL_isCause 314 = .ok (.iload 13, 2) := by decide +kernel
theorem dL_isCause_316 : decode cL_isCause 316 = .ok (.invokevirtual 175, 3) := by decide +kernel
theorem dL_isCause_319 : decode cL_isCause 319 = .ok (.iload 20, 2) := by decide +kernel
theorem dL_isCause_321 : decode cL_isCause 321 = .ok (.if_icmp .eq 5, 3) := by decide +kernel
theorem dL_isCause_324 : decode cL_isCause 324 = .ok (.iconst 0, 1) := by decide +kernel
theorem dL_isCause_325 : decode cL_isCause 325 = .ok (.ireturn, 1) := by decide +kernel
theorem dL_isCause_326 : decode cL_isCause 326 = .ok (.iload 21, 2) := by decide +kernel
theorem dL_isCause_328 : decode cL_isCause 328 = .ok (.ifCond .eq 30, 3) := by decide +kernel
theorem dL_isCause_331 : decode cL_isCause 331 = .ok (.aload 4, 2) := by decide +kernel
theorem dL_isCause_333 : decode cL_isCause 333 = .ok (.aload 8, 2) := by decide +kernel
theorem dL_isCause_335 : decode cL_isCause 335 = .ok (.iconst 3, 1) := by decide +kernel
theorem dL_isCause_336 : decode cL_isCause 336 = .ok (.iaload, 1) := by decide +kernel
theorem dL_isCause_337 : decode cL_isCause 337 = .ok (.iload 12, 2) := by decide +kernel
theorem dL_isCause_339 : decode cL_isCause 339 = .ok (.bipush 16, 2) := by decide +kernel
theorem dL_isCause_341 : decode cL_isCause 341 = .ok (.iload 14, 2) := by decide +kernel
theorem dL_isCause_343 : decode cL_isCause 343 = .ok (.imul, 1) := by decide +kernel
theorem dL_isCause_344 : decode cL_isCause 344 = .ok (.iadd, 1) := by decide +kernel
theorem dL_isCause_345 : decode cL_isCause 345 = .ok (.sipush 8192, 3) := by decide +kernel
theorem dL_isCause_348 : decode cL_isCause 348 = .ok (.iadd, 1) := by decide +kernel
theorem dL_isCause_349 : decode cL_isCause 349 = .ok (.iastore, 1) := by decide +kernel
theorem dL_isCause_350 : decode cL_isCause 350 = .ok (.aload 8, 2) := by decide +kernel
theorem dL_isCause_352 : decode cL_isCause 352 = .ok (.iconst 3, 1) := by decide +kernel
theorem dL_isCause_353 : decode cL_isCause 353 = .ok (.dup2, 1) := by decide +kernel
theorem dL_isCause_354 : decode cL_isCause 354 = .ok (.iaload, 1) := by decide +kernel
theorem dL_isCause_355 : decode cL_isCause 355 = .ok (.iconst 1, 1) := by decide +kernel
theorem dL_isCause_356 : decode cL_isCause 356 = .ok (.iadd, 1) := by decide +kernel
theorem dL_isCause_357 : decode cL_isCause 357 = .ok (.iastore, 1) := by decide +kernel
theorem dL_isCause_358 : decode cL_isCause 358 = .ok (.aload_n 0, 1) := by decide +kernel
theorem dL_isCause_359 : decode cL_isCause 359 = .ok (.bipush 13, 2) := by decide +kernel
theorem dL_isCause_361 : decode cL_isCause 361 = .ok (.iload 12, 2) := by decide +kernel
theorem dL_isCause_363 : decode cL_isCause 363 = .ok (.iload 13, 2) := by decide +kernel
theorem dL_isCause_365 : decode cL_isCause 365 = .ok (.iload 14, 2) := by decide +kernel
theorem dL_isCause_367 : decode cL_isCause 367 = .ok (.iload 15, 2) := by decide +kernel
theorem dL_isCause_369 : decode cL_isCause 369 = .ok (.ifCond .eq 7, 3) := by decide +kernel
theorem dL_isCause_372 : decode cL_isCause 372 = .ok (.iconst 1, 1) := by decide +kernel
theorem dL_isCause_373 : decode cL_isCause 373 = .ok (.goto 4, 3) := by decide +kernel
theorem dL_isCause_376 : decode cL_isCause 376 = .ok (.iconst 0, 1) := by decide +kernel
theorem dL_isCause_377 : decode cL_isCause 377 = .ok (.invokestatic 150, 3) := by decide +kernel
theorem dL_isCause_380 : decode cL_isCause 380 = .ok (.iload 16, 2) := by decide +kernel
theorem dL_isCause_382 : decode cL_isCause 382 = .ok (.ifCond .ne 8, 3) := by decide +kernel
theorem dL_isCause_385 : decode cL_isCause 385 = .ok (.ldc 94, 2) := by decide +kernel
theorem dL_isCause_387 : decode cL_isCause 387 = .ok (.goto 29, 3) := by decide +kernel
theorem dL_isCause_390 : decode cL_isCause 390 = .ok (.iload 17, 2) := by decide +kernel
theorem dL_isCause_392 : decode cL_isCause 392 = .ok (.ifCond .ne 8, 3) := by decide +kernel
theorem dL_isCause_395 : decode cL_isCause 395 = .ok (.ldc 97, 2) := by decide +kernel
theorem dL_isCause_397 : decode cL_isCause 397 = .ok (.goto 19, 3) := by decide +kernel
theorem dL_isCause_400 : decode cL_isCause 400 = .ok (.iload 21, 2) := by decide +kernel
theorem dL_isCause_402 : decode cL_isCause 402 = .ok (.ifCond .eq 12, 3) := by decide +kernel
theorem dL_isCause_405 : decode cL_isCause 405 = .ok (.aload 8, 2) := by decide +kernel
theorem dL_isCause_407 : decode cL_isCause 407 = .ok (.iconst 3, 1) := by decide +kernel
theorem dL_isCause_408 : decode cL_isCause 408 = .ok (.iaload, 1) := by decide +kernel
theorem dL_isCause_409 : decode cL_isCause 409 = .ok (.iconst 1, 1) := by decide +kernel
theorem dL_isCause_410 : decode cL_isCause 410 = .ok (.isub, 1) := by decide +kernel
theorem dL_isCause_411 : decode cL_isCause 411 = .ok (.goto 5, 3) := by decide +kernel
theorem dL_isCause_414 : decode cL_isCause 414 = .ok (.ldc 100, 2) := by decide +kernel
theorem dL_isCause_416 : decode cL_isCause 416 = .ok (.if_icmp .ne 7, 3) := by decide +kernel
theorem dL_isCause_419 : decode cL_isCause 419 = .ok (.iconst 1, 1) := by decide +kernel
theorem dL_isCause_420 : decode cL_isCause 420 = .ok (.goto 4, 3) := by decide +kernel
theorem dL_isCause_423 : decode cL_isCause 423 = .ok (.iconst 0, 1) := by decide +kernel
theorem dL_isCause_424 : decode cL_isCause 424 = .ok (.ireturn, 1) := by decide +kernel
theorem dL_isCause_425 : decode cL_isCause 425 = .ok (.iload 10, 2) := by decide +kernel
theorem dL_isCause_427 : decode cL_isCause 427 = .ok (.aload 8, 2) := by decide +kernel
theorem dL_isCause_429 : decode cL_isCause 429 = .ok (.iconst 3, 1) := by decide +kernel
theorem dL_isCause_430 : decode cL_isCause 430 = .ok (.iaload, 1) := by decide +kernel
theorem dL_isCause_431 : decode cL_isCause 431 = .ok (.iconst 1, 1) := by decide +kernel
theorem dL_isCause_432 : decode cL_isCause 432 = .ok (.iadd, 1) := by decide +kernel
theorem dL_isCause_433 : decode cL_isCause 433 = .ok (.irem, 1) := by decide +kernel
theorem dL_isCause_434 : decode cL_isCause 434 = .ok (.istore 12, 2) := by decide +kernel
theorem dL_isCause_436 : decode cL_isCause 436 = .ok (.iload 12, 2) := by decide +kernel
theorem dL_isCause_438 : decode cL_isCause 438 = .ok (.aload 8, 2) := by decide +kernel
theorem dL_isCause_440 : decode cL_isCause 440 = .ok (.iconst 3, 1) := by decide +kernel
theorem dL_isCause_441 : decode cL_isCause 441 = .ok (.iaload, 1) := by decide +kernel
theorem dL_isCause_442 : decode cL_isCause 442 = .ok (.if_icmp .ge 7, 3) := by decide +kernel
theorem dL_isCause_445 : decode cL_isCause 445 = .ok (.iconst 1, 1) := by decide +kernel
theorem dL_isCause_446 : decode cL_isCause 446 = .ok (.goto 4, 3) := by decide +kernel
theorem dL_isCause_449 : decode cL_isCause 449 = .ok (.iconst 0, 1) := by decide +kernel
theorem dL_isCause_450 : decode cL_isCause 450 = .ok (.istore 13, 2) := by decide +kernel
theorem dL_isCause_452 : decode cL_isCause 452 = .ok (.iload 13, 2) := by decide +kernel
theorem dL_isCause_454 : decode cL_isCause 454 = .ok (.ifCond .eq 17, 3) := by decide +kernel
theorem dL_isCause_457 : decode cL_isCause 457 = .ok (.aload 4, 2) := by decide +kernel
theorem dL_isCause_459 : decode cL_isCause 459 = .ok (.iload 12, 2) := by decide +kernel
theorem dL_isCause_461 : decode cL_isCause 461 = .ok (.iaload, 1) := by decide +kernel
theorem dL_isCause_462 : decode cL_isCause 462 = .ok (.sipush 2048, 3) := by decide +kernel
theorem dL_isCause_465 : decode cL_isCause 465 = .ok (.idiv, 1) := by decide +kernel
theorem dL_isCause_466 : decode cL_isCause 466 = .ok (.iconst 4, 1) := by decide +kernel
theorem dL_isCause_467 : decode cL_isCause 467 = .ok (.irem, 1) := by decide +kernel
theorem dL_isCause_468 : decode cL_isCause 468 = .ok (.goto 4, 3) := by decide +kernel
theorem dL_isCause_471 : decode cL_isCause 471 = .ok (.iconst 3, 1) := by decide +kernel
theorem dL_isCause_472 : decode cL_isCause 472 = .ok (.istore 14, 2) := by decide +kernel
theorem dL_isCause_474 : decode cL_isCause 474 = .ok (.iload 9, 2) := by decide +kernel
theorem dL_isCause_476 : decode cL_isCause 476 = .ok (.iconst 2, 1) := by decide +kernel
theorem dL_isCause_477 : decode cL_isCause 477 = .ok (.if_icmp .ge 199, 3) := by decide +kernel
theorem dL_isCause_480 : decode cL_isCause 480 = .ok (.iload 11, 2) := by decide +kernel
theorem dL_isCause_482 : decode cL_isCause 482 = .ok (.bipush 9, 2) := by decide +kernel
theorem dL_isCause_484 : decode cL_isCause 484 = .ok (.irem, 1) := by decide +kernel
theorem dL_isCause_485 : decode cL_isCause 485 = .ok (.ifCond .ne 15, 3) := by decide +kernel
theorem dL_isCause_488 : decode cL_isCause 488 = .ok (.iload 11, 2) := by decide +kernel
theorem dL_isCause_490 : decode cL_isCause 490 = .ok (.bipush 9, 2) := by decide +kernel
theorem dL_isCause_492 : decode cL_isCause 492 = .ok (.idiv, 1) := by decide +kernel
theorem dL_isCause_493 : decode cL_isCause 493 = .ok (.sipush 129, 3) := by decide +kernel
theorem dL_isCause_496 : decode cL_isCause 496 = .ok (.irem, 1) := by decide +kernel
theorem dL_isCause_497 : decode cL_isCause 497 = .ok (.goto 11, 3) := by decide +kernel
theorem dL_isCause_500 : decode cL_isCause 500 = .ok (.bipush 32, 2) := by decide +kernel
theorem dL_isCause_502 : decode cL_isCause 502 = .ok (.iload 11, 2) := by decide +kernel
theorem dL_isCause_504 : decode cL_isCause 504 = .ok (.bipush 96, 2) := by decide +kernel
theorem dL_isCause_506 : decode cL_isCause 506 = .ok (.irem, 1) := by decide +kernel
theorem dL_isCause_507 : decode cL_isCause 507 = .ok (.iadd, 1) := by decide +kernel
theorem dL_isCause_508 : decode cL_isCause 508 = .ok (.istore 15, 2) := by decide +kernel
theorem dL_isCause_510 : decode cL_isCause 510 = .ok (.iload 15, 2) := by decide +kernel
theorem dL_isCause_512 : decode cL_isCause 512 = .ok (.ifCond .le 15, 3) := by decide +kernel
theorem dL_isCause_515 : decode cL_isCause 515 = .ok (.iload 15, 2) := by decide +kernel
theorem dL_isCause_517 : decode cL_isCause 517 = .ok (.sipush 128, 3) := by decide +kernel
theorem dL_isCause_520 : decode cL_isCause 520 = .ok (.if_icmp .ge 7, 3) := by decide +kernel
theorem dL_isCause_523 : decode cL_isCause 523 = .ok (.iconst 1, 1) := by decide +kernel
theorem dL_isCause_524 : decode cL_isCause 524 = .ok (.goto 4, 3) := by decide +kernel
theorem dL_isCause_527 : decode cL_isCause 527 = .ok (.iconst 0, 1) := by decide +kernel
theorem dL_isCause_528 : decode cL_isCause 528 = .ok (.istore 16, 2) := by decide +kernel
theorem dL_isCause_530 : decode cL_isCause 530 = .ok (.iload 13, 2) := by decide +kernel
theorem dL_isCause_532 : decode cL_isCause 532 = .ok (.ifCond .eq 30, 3) := by decide +kernel
theorem dL_isCause_535 : decode cL_isCause 535 = .ok (.iload 16, 2) := by decide +kernel
theorem dL_isCause_537 : decode cL_isCause 537 = .ok (.ifCond .eq 25, 3) := by decide +kernel
theorem dL_isCause_540 : decode cL_isCause 540 = .ok (.iload 14, 2) := by decide +kernel
theorem dL_isCause_542 : decode cL_isCause 542 = .ok (.ifCond .ne 20, 3) := by decide +kernel
theorem dL_isCause_545 : decode cL_isCause 545 = .ok (.aload 4, 2) := by decide +kernel
theorem dL_isCause_547 : decode cL_isCause 547 = .ok (.iload 12, 2) := by decide +kernel
theorem dL_isCause_549 : decode cL_isCause 549 = .ok (.iaload, 1) := by decide +kernel
theorem dL_isCause_550 : decode cL_isCause 550 = .ok (.sipush 8192, 3) := by decide +kernel
theorem dL_isCause_553 : decode cL_isCause 553 = .ok (.idiv, 1) := by decide +kernel
theorem dL_isCause_554 : decode cL_isCause 554 = .ok (.iconst 1, 1) := by decide +kernel
theorem dL_isCause_555 : decode cL_isCause 555 = .ok (.if_icmp .ne 7, 3) := by decide +kernel
theorem dL_isCause_558 : decode cL_isCause 558 = .ok (.iconst 1, 1) := by decide +kernel
theorem dL_isCause_559 : decode cL_isCause 559 = .ok (.goto 4, 3) := by decide +kernel
theorem dL_isCause_562 : decode cL_isCause 562 = .ok (.iconst 0, 1) := by decide +kernel
theorem dL_isCause_563 : decode cL_isCause 563 = .ok (.istore 17, 2) := by decide +kernel
theorem dL_isCause_565 : decode cL_isCause 565 = .ok (.iload 13, 2) := by decide +kernel
theorem dL_isCause_567 : decode cL_isCause 567 = .ok (.ifCond .eq 18, 3) := by decide +kernel
theorem dL_isCause_570 : decode cL_isCause 570 = .ok (.aload 4, 2) := by decide +kernel
theorem dL_isCause_572 : decode cL_isCause 572 = .ok (.iload 12, 2) := by decide +kernel
theorem dL_isCause_574 : decode cL_isCause 574 = .ok (.iaload, 1) := by decide +kernel
theorem dL_isCause_575 : decode cL_isCause 575 = .ok (.bipush 16, 2) := by decide +kernel
theorem dL_isCause_577 : decode cL_isCause 577 = .ok (.idiv, 1) := by decide +kernel
theorem dL_isCause_578 : decode cL_isCause 578 = .ok (.sipush 128, 3) := by decide +kernel
theorem dL_isCause_581 : decode cL_isCause 581 = .ok (.irem, 1) := by decide +kernel
theorem dL_isCause_582 : decode cL_isCause 582 = .ok (.goto 4, 3) := by decide +kernel
theorem dL_isCause_585 : decode cL_isCause 585 = .ok (.iconst 0, 1) := by decide +kernel
theorem dL_isCause_586 : decode cL_isCause 586 = .ok (.istore 18, 2) := by decide +kernel
theorem dL_isCause_588 : decode cL_isCause 588 = .ok (.aload 4, 2) := by decide +kernel
theorem dL_isCause_590 : decode cL_isCause 590 = .ok (.iload 17, 2) := by decide +kernel
theorem dL_isCause_592 : decode cL_isCause 592 = .ok (.ifCond .eq 8, 3) := by decide +kernel
theorem dL_isCause_595 : decode cL_isCause 595 = .ok (.iload 12, 2) := by decide +kernel
theorem dL_isCause_597 : decode cL_isCause 597 = .ok (.goto 5, 3) := by decide +kernel
theorem dL_isCause_600 : decode cL_isCause 600 = .ok (.bipush 8, 2) := by decide +kernel
theorem dL_isCause_602 : decode cL_isCause 602 = .ok (.dup2, 1) := by decide +kernel
theorem dL_isCause_603 : decode cL_isCause 603 = .ok (.iaload, 1) := by decide +kernel
theorem dL_isCause_604 : decode cL_isCause 604 = .ok (.iload 17, 2) := by decide +kernel
theorem dL_isCause_606 : decode cL_isCause 606 = .ok (.ifCond .eq 14, 3) := by decide +kernel
theorem dL_isCause_609 : decode cL_isCause 609 = .ok (.bipush 16, 2) := by decide +kernel
theorem dL_isCause_611 : decode cL_isCause 611 = .ok (.iload 15, 2) := by decide +kernel
theorem dL_isCause_613 : decode cL_isCause 613 = .ok (.iload 18, 2) := by decide +kernel
theorem dL_isCause_615 : decode cL_isCause 615 = .ok (.isub, 1) := by decide +kernel
theorem dL_isCause_616 : decode cL_isCause 616 = .ok (.imul, 1) := by decide +kernel
theorem dL_isCause_617 : decode cL_isCause 617 = .ok (.goto 4, 3) := by decide +kernel
theorem dL_isCause_620 : decode cL_isCause 620 = .ok (.iconst 0, 1) := by decide +kernel
theorem dL_isCause_621 : decode cL_isCause 621 = .ok (.iadd, 1) := by decide +kernel
theorem dL_isCause_622 : decode cL_isCause 622 = .ok (.iastore, 1) := by decide +kernel
theorem dL_isCause_623 : decode cL_isCause 623 = .ok (.aload_n 0, 1) := by decide +kernel
theorem dL_isCause_624 : decode cL_isCause 624 = .ok (.bipush 14, 2) := by decide +kernel
theorem dL_isCause_626 : decode cL_isCause 626 = .ok (.iload 12, 2) := by decide +kernel
theorem dL_isCause_628 : decode cL_isCause 628 = .ok (.iload 15, 2) := by decide +kernel
theorem dL_isCause_630 : decode cL_isCause 630 = .ok (.iconst 0, 1) := by decide +kernel
theorem dL_isCause_631 : decode cL_isCause 631 = .ok (.iconst 0, 1) := by decide +kernel
theorem dL_isCause_632 : decode cL_isCause 632 = .ok (.invokestatic 150, 3) := by decide +kernel
theorem dL_isCause_635 : decode cL_isCause 635 = .ok (.iload 13, 2) := by decide +kernel
theorem dL_isCause_637 : decode cL_isCause 637 = .ok (.ifCond .ne 8, 3) := by decide +kernel
theorem dL_isCause_640 : decode cL_isCause 640 = .ok (.ldc 94, 2) := by decide +kernel
theorem dL_isCause_642 : decode cL_isCause 642 = .ok (.goto 25, 3) := by decide +kernel
theorem dL_isCause_645 : decode cL_isCause 645 = .ok (.iload 16, 2) := by decide +kernel
theorem dL_isCause_647 : decode cL_isCause 647 = .ok (.ifCond .ne 8, 3) := by decide +kernel
theorem dL_isCause_650 : decode cL_isCause 650 = .ok (.ldc 97, 2) := by decide +kernel
theorem dL_isCause_652 : decode cL_isCause 652 = .ok (.goto 15, 3) := by decide +kernel
theorem dL_isCause_655 : decode cL_isCause 655 = .ok (.iload 17, 2) := by decide +kernel
theorem dL_isCause_657 : decode cL_isCause 657 = .ok (.ifCond .eq 8, 3) := by decide +kernel
theorem dL_isCause_660 : decode cL_isCause 660 = .ok (.iload 18, 2) := by decide +kernel
theorem dL_isCause_662 : decode cL_isCause 662 = .ok (.goto 5, 3) := by decide +kernel
theorem dL_isCause_665 : decode cL_isCause 665 = .ok (.ldc 100, 2) := by decide +kernel
theorem dL_isCause_667 : decode cL_isCause 667 = .ok (.if_icmp .ne 7, 3) := by decide +kernel
theorem dL_isCause_670 : decode cL_isCause 670 = .ok (.iconst 1, 1) := by decide +kernel
theorem dL_isCause_671 : decode cL_isCause 671 = .ok (.goto 4, 3) := by decide +kernel
theorem dL_isCause_674 : decode cL_isCause 674 = .ok (.iconst 0, 1) := by decide +kernel
theorem dL_isCause_675 : decode cL_isCause 675 = .ok (.ireturn, 1) := by decide +kernel
theorem dL_isCause_676 : decode cL_isCause 676 = .ok (.iload 9, 2) := by decide +kernel
theorem dL_isCause_678 : decode cL_isCause 678 = .ok (.iconst 2, 1) := by decide +kernel
theorem dL_isCause_679 : decode cL_isCause 679 = .ok (.if_icmp .ne 227, 3) := by decide +kernel
theorem dL_isCause_682 : decode cL_isCause 682 = .ok (.iload 11, 2) := by decide +kernel
theorem dL_isCause_684 : decode cL_isCause 684 = .ok (.bipush 9, 2) := by decide +kernel
theorem dL_isCause_686 : decode cL_isCause 686 = .ok (.irem, 1) := by decide +kernel
theorem dL_isCause_687 : decode cL_isCause 687 = .ok (.bipush 8, 2) := by decide +kernel
theorem dL_isCause_689 : decode cL_isCause 689 = .ok (.if_icmp .ne 8, 3) := by decide +kernel
theorem dL_isCause_692 : decode cL_isCause 692 = .ok (.bipush 7, 2) := by decide +kernel
theorem dL_isCause_694 : decode cL_isCause 694 = .ok (.goto 9, 3) := by decide +kernel
theorem dL_isCause_697 : decode cL_isCause 697 = .ok (.iconst 4, 1) := by decide +kernel
theorem dL_isCause_698 : decode cL_isCause 698 = .ok (.iload 11, 2) := by decide +kernel
theorem dL_isCause_700 : decode cL_isCause 700 = .ok (.iconst 3, 1) := by decide +kernel
theorem dL_isCause_701 : decode cL_isCause 701 = .ok (.irem, 1) := by decide +kernel
theorem dL_isCause_702 : decode cL_isCause 702 = .ok (.iadd, 1) := by decide +kernel
theorem dL_isCause_703 : decode cL_isCause 703 = .ok (.istore 15, 2) := by decide +kernel
theorem dL_isCause_705 : decode cL_isCause 705 = .ok (.iload 11, 2) := by decide +kernel
theorem dL_isCause_707 : decode cL_isCause 707 = .ok (.bipush 9, 2) := by decide +kernel
theorem dL_isCause_709 : decode cL_isCause 709 = .ok (.idiv, 1) := by decide +kernel
theorem dL_isCause_710 : decode cL_isCause 710 = .ok (.iconst 5, 1) := by decide +kernel
theorem dL_isCause_711 : decode cL_isCause 711 = .ok (.irem, 1) := by decide +kernel
theorem dL_isCause_712 : decode cL_isCause 712 = .ok (.ifCond .ne 17, 3) := by decide +kernel
theorem dL_isCause_715 : decode cL_isCause 715 = .ok (.iload 11, 2) := by decide +kernel
theorem dL_isCause_717 : decode cL_isCause 717 = .ok (.bipush 45, 2) := by decide +kernel
theorem dL_isCause_719 : decode cL_isCause 719 = .ok (.idiv, 1) := by decide +kernel
theorem dL_isCause_720 : decode cL_isCause 720 = .ok (.bipush 23, 2) := by decide +kernel
theorem dL_isCause_722 : decode cL_isCause 722 = .ok (.irem, 1) := by decide +kernel
theorem dL_isCause_723 : decode cL_isCause 723 = .ok (.bipush 11, 2) := by decide +kernel
theorem dL_isCause_725 : decode cL_isCause 725 = .ok (.isub, 1) := by decide +kernel
theorem dL_isCause_726 : decode cL_isCause 726 = .ok (.goto 13, 3) := by decide +kernel
theorem dL_isCause_729 : decode cL_isCause 729 = .ok (.iconst 5, 1) := by decide +kernel
theorem dL_isCause_730 : decode cL_isCause 730 = .ok (.iload 11, 2) := by decide +kernel
theorem dL_isCause_732 : decode cL_isCause 732 = .ok (.bipush 45, 2) := by decide +kernel
theorem dL_isCause_734 : decode cL_isCause 734 = .ok (.idiv, 1) := by decide +kernel
theorem dL_isCause_735 : decode cL_isCause 735 = .ok (.bipush 6, 2) := by decide +kernel
theorem dL_isCause_737 : decode cL_isCause 737 = .ok (.irem, 1) := by decide +kernel
theorem dL_isCause_738 : decode cL_isCause 738 = .ok (.iadd, 1) := by decide +kernel
theorem dL_isCause_739 : decode cL_isCause 739 = .ok (.istore 16, 2) := by decide +kernel
theorem dL_isCause_741 : decode cL_isCause 741 = .ok (.iload 15, 2) := by decide +kernel
theorem dL_isCause_743 : decode cL_isCause 743 = .ok (.bipush 7, 2) := by decide +kernel
theorem dL_isCause_745 : decode cL_isCause 745 = .ok (.if_icmp .ge 21, 3) := by decide +kernel
theorem dL_isCause_748 : decode cL_isCause 748 = .ok (.iload 16, 2) := by decide +kernel
theorem dL_isCause_750 : decode cL_isCause 750 = .ok (.bipush (-11), 2) := by decide +kernel
theorem dL_isCause_752 : decode cL_isCause 752 = .ok (.if_icmp .le 14, 3) := by decide +kernel
theorem dL_isCause_755 : decode cL_isCause 755 = .ok (.iload 16, 2) := by decide +kernel
theorem dL_isCause_757 : decode cL_isCause 757 = .ok (.bipush 11, 2) := by decide +kernel
theorem dL_isCause_759 : decode cL_isCause 759 = .ok (.if_icmp .ge 7, 3) := by decide +kernel
theorem dL_isCause_762 : decode cL_isCause 762 = .ok (.iconst 1, 1) := by decide +kernel
theorem dL_isCause_763 : decode cL_isCause 763 = .ok (.goto 4, 3) := by decide +kernel
theorem dL_isCause_766 : decode cL_isCause 766 = .ok (.iconst 0, 1) := by decide +kernel
theorem dL_isCause_767 : decode cL_isCause 767 = .ok (.istore 17, 2) := by decide +kernel
theorem dL_isCause_769 : decode cL_isCause 769 = .ok (.iload 13, 2) := by decide +kernel
theorem dL_isCause_771 : decode cL_isCause 771 = .ok (.ifCond .eq 34, 3) := by decide +kernel
theorem dL_isCause_774 : decode cL_isCause 774 = .ok (.iload 17, 2) := by decide +kernel
theorem dL_isCause_776 : decode cL_isCause 776 = .ok (.ifCond .eq 29, 3) := by decide +kernel
theorem dL_isCause_779 : decode cL_isCause 779 = .ok (.iload 14, 2) := by decide +kernel
theorem dL_isCause_781 : decode cL_isCause 781 = .ok (.ifCond .ne 24, 3) := by decide +kernel
theorem dL_isCause_784 : decode cL_isCause 784 = .ok (.aload 4, 2) := by decide +kernel
theorem dL_isCause_786 : decode cL_isCause 786 = .ok (.iload 12, 2) := by decide +kernel
theorem dL_isCause_788 : decode cL_isCause 788 = .ok (.iaload, 1) := by decide +kernel
theorem dL_isCause_789 : decode cL_isCause 789 = .ok (.bipush 16, 2) := by decide +kernel
theorem dL_isCause_791 : decode cL_isCause 791 = .ok (.idiv, 1) := by decide +kernel
theorem dL_isCause_792 : decode cL_isCause 792 = .ok (.iload 15, 2) := by decide +kernel
theorem dL_isCause_794 : decode cL_isCause 794 = .ok (.ishr, 1) := by decide +kernel
theorem dL_isCause_795 : decode cL_isCause 795 = .ok (.iconst 1, 1) := by decide +kernel
theorem dL_isCause_796 : decode cL_isCause 796 = .ok (.iand, 1) := by decide +kernel
theorem dL_isCause_797 : decode cL_isCause 797 = .ok (.iconst 1, 1) := by decide +kernel
theorem dL_isCause_798 : decode cL_isCause 798 = .ok (.if_icmp .ne 7, 3) := by decide +kernel
theorem dL_isCause_801 : decode cL_isCause 801 = .ok (.iconst 1, 1) := by decide +kernel
theorem dL_isCause_802 : decode cL_isCause 802 = .ok (.goto 4, 3) := by decide +kernel
theorem dL_isCause_805 : decode cL_isCause 805 = .ok (.iconst 0, 1) := by decide +kernel
theorem dL_isCause_806 : decode cL_isCause 806 = .ok (.istore 18, 2) := by decide +kernel
theorem dL_isCause_808 : decode cL_isCause 808 = .ok (.aload 5, 2) := by decide +kernel
theorem dL_isCause_810 : decode cL_isCause 810 = .ok (.iload 18, 2) := by decide +kernel
theorem dL_isCause_812 : decode cL_isCause 812 = .ok (.ifCond .eq 14, 3) := by decide +kernel
theorem dL_isCause_815 : decode cL_isCause 815 = .ok (.bipush 7, 2) := by decide +kernel
theorem dL_isCause_817 : decode cL_isCause 817 = .ok (.iload 12, 2) := by decide +kernel
theorem dL_isCause_819 : decode cL_isCause 819 = .ok (.imul, 1) := by decide +kernel
theorem dL_isCause_820 : decode cL_isCause 820 = .ok (.iload 15, 2) := by decide +kernel
theorem dL_isCause_822 : decode cL_isCause 822 = .ok (.iadd, 1) := by decide +kernel
theorem dL_isCause_823 : decode cL_isCause 823 = .ok (.goto 5, 3) := by decide +kernel
theorem dL_isCause_826 : decode cL_isCause 826 = .ok (.bipush 56, 2) := by decide +kernel
theorem dL_isCause_828 : decode cL_isCause 828 = .ok (.dup2, 1) := by decide +kernel
theorem dL_isCause_829 : decode cL_isCause 829 = .ok (.iaload, 1) := by decide +kernel
theorem dL_isCause_830 : decode cL_isCause 830 = .ok (.iload 18, 2) := by decide +kernel
theorem dL_isCause_832 : decode cL_isCause 832 = .ok (.ifCond .eq 8, 3) := by decide +kernel
theorem dL_isCause_835 : decode cL_isCause 835 = .ok (.iload 16, 2) := by decide +kernel
theorem dL_isCause_837 : decode cL_isCause 837 = .ok (.goto 4, 3) := by decide +kernel
theorem dL_isCause_840 : decode cL_isCause 840 = .ok (.iconst 0, 1) := by decide +kernel
theorem dL_isCause_841 : decode cL_isCause 841 = .ok (.iadd, 1) := by decide +kernel
theorem dL_isCause_842 : decode cL_isCause 842 = .ok (.iastore, 1) := by decide +kernel
theorem dL_isCause_843 : decode cL_isCause 843 = .ok (.aload_n 0, 1) := by decide +kernel
theorem dL_isCause_844 : decode cL_isCause 844 = .ok (.bipush 15, 2) := by decide +kernel
theorem dL_isCause_846 : decode cL_isCause 846 = .ok (.iload 12, 2) := by decide +kernel
theorem dL_isCause_848 : decode cL_isCause 848 = .ok (.iload 15, 2) := by decide +kernel
theorem dL_isCause_850 : decode cL_isCause 850 = .ok (.iload 16, 2) := by decide +kernel
theorem dL_isCause_852 : decode cL_isCause 852 = .ok (.iconst 0, 1) := by decide +kernel
theorem dL_isCause_853 : decode cL_isCause 853 = .ok (.invokestatic 150, 3) := by decide +kernel
theorem dL_isCause_856 : decode cL_isCause 856 = .ok (.iload 13, 2) := by decide +kernel
theorem dL_isCause_858 : decode cL_isCause 858 = .ok (.ifCond .ne 8, 3) := by decide +kernel
theorem dL_isCause_861 : decode cL_isCause 861 = .ok (.ldc 94, 2) := by decide +kernel
theorem dL_isCause_863 : decode cL_isCause 863 = .ok (.goto 34, 3) := by decide +kernel
theorem dL_isCause_866 : decode cL_isCause 866 = .ok (.iload 17, 2) := by decide +kernel
theorem dL_isCause_868 : decode cL_isCause 868 = .ok (.ifCond .ne 8, 3) := by decide +kernel
theorem dL_isCause_871 : decode cL_isCause 871 = .ok (.ldc 97, 2) := by decide +kernel
theorem dL_isCause_873 : decode cL_isCause 873 = .ok (.goto 24, 3) := by decide +kernel
theorem dL_isCause_876 : decode cL_isCause 876 = .ok (.iload 18, 2) := by decide +kernel
theorem dL_isCause_878 : decode cL_isCause 878 = .ok (.ifCond .eq 17, 3) := by decide +kernel
theorem dL_isCause_881 : decode cL_isCause 881 = .ok (.aload 5, 2) := by decide +kernel
theorem dL_isCause_883 : decode cL_isCause 883 = .ok (.bipush 7, 2) := by decide +kernel
theorem dL_isCause_885 : decode cL_isCause 885 = .ok (.iload 12, 2) := by decide +kernel
theorem dL_isCause_887 : decode cL_isCause 887 = .ok (.imul, 1) := by decide +kernel
theorem dL_isCause_888 : decode cL_isCause 888 = .ok (.iload 15, 2) := by decide +kernel
theorem dL_isCause_890 : decode cL_isCause 890 = .ok (.iadd, 1) := by decide +kernel
theorem dL_isCause_891 : decode cL_isCause 891 = .ok (.iaload, 1) := by decide +kernel
theorem dL_isCause_892 : decode cL_isCause 892 = .ok (.goto 5, 3) := by decide +kernel
theorem dL_isCause_895 : decode cL_isCause 895 = .ok (.ldc 100, 2) := by decide +kernel
theorem dL_isCause_897 : decode cL_isCause 897 = .ok (.if_icmp .ne 7, 3) := by decide +kernel
theorem dL_isCause_900 : decode cL_isCause 900 = .ok (.iconst 1, 1) := by decide +kernel
theorem dL_isCause_901 : decode cL_isCause 901 = .ok (.goto 4, 3) := by decide +kernel
theorem dL_isCause_904 : decode cL_isCause 904 = .ok (.iconst 0, 1) := by decide +kernel
theorem dL_isCause_905 : decode cL_isCause 905 = .ok (.ireturn, 1) := by decide +kernel
theorem dL_isCause_906 : decode cL_isCause 906 = .ok (.iload 9, 2) := by decide +kernel
theorem dL_isCause_908 : decode cL_isCause 908 = .ok (.iconst 3, 1) := by decide +kernel
theorem dL_isCause_909 : decode cL_isCause 909 = .ok (.if_icmp .ne 99, 3) := by decide +kernel
theorem dL_isCause_912 : decode cL_isCause 912 = .ok (.iload 13, 2) := by decide +kernel
theorem dL_isCause_914 : decode cL_isCause 914 = .ok (.ifCond .eq 12, 3) := by decide +kernel
theorem dL_isCause_917 : decode cL_isCause 917 = .ok (.iload 14, 2) := by decide +kernel
theorem dL_isCause_919 : decode cL_isCause 919 = .ok (.ifCond .ne 7, 3) := by decide +kernel
theorem dL_isCause_922 : decode cL_isCause 922 = .ok (.iconst 1, 1) := by decide +kernel
theorem dL_isCause_923 : decode cL_isCause 923 = .ok (.goto 4, 3) := by decide +kernel
theorem dL_isCause_926 : decode cL_isCause 926 = .ok (.iconst 0, 1) := by decide +kernel
theorem dL_isCause_927 : decode cL_isCause 927 = .ok (.istore 15, 2) := by decide +kernel
theorem dL_isCause_929 : decode cL_isCause 929 = .ok (.aload 4, 2) := by decide +kernel
theorem dL_isCause_931 : decode cL_isCause 931 = .ok (.iload 15, 2) := by decide +kernel
theorem dL_isCause_933 : decode cL_isCause 933 = .ok (.ifCond .eq 8, 3) := by decide +kernel
theorem dL_isCause_936 : decode cL_isCause 936 = .ok (.iload 12, 2) := by decide +kernel
theorem dL_isCause_938 : decode cL_isCause 938 = .ok (.goto 5, 3) := by decide +kernel
theorem dL_isCause_941 : decode cL_isCause 941 = .ok (.bipush 8, 2) := by decide +kernel
theorem dL_isCause_943 : decode cL_isCause 943 = .ok (.dup2, 1) := by decide +kernel
theorem dL_isCause_944 : decode cL_isCause 944 = .ok (.iaload, 1) := by decide +kernel
theorem dL_isCause_945 : decode cL_isCause 945 = .ok (.iload 15, 2) := by decide +kernel
theorem dL_isCause_947 : decode cL_isCause 947 = .ok (.ifCond .eq 9, 3) := by decide +kernel
theorem dL_isCause_950 : decode cL_isCause 950 = .ok (.sipush 2048, 3) := by decide +kernel
theorem dL_isCause_953 : decode cL_isCause 953 = .ok (.goto 4, 3) := by decide +kernel
theorem dL_isCause_956 : decode cL_isCause 956 = .ok (.iconst 0, 1) := by decide +kernel
theorem dL_isCause_957 : decode cL_isCause 957 = .ok (.iadd, 1) := by decide +kernel
theorem dL_isCause_958 : decode cL_isCause 958 = .ok (.iastore, 1) := by decide +kernel
theorem dL_isCause_959 : decode cL_isCause 959 = .ok (.aload_n 0, 1) := by decide +kernel
theorem dL_isCause_960 : decode cL_isCause 960 = .ok (.bipush 16, 2) := by decide +kernel
theorem dL_isCause_962 : decode cL_isCause 962 = .ok (.iload 12, 2) := by decide +kernel
theorem dL_isCause_964 : decode cL_isCause 964 = .ok (.iconst 0, 1) := by decide +kernel
theorem dL_isCause_965 : decode cL_isCause 965 = .ok (.iconst 0, 1) := by decide +kernel
theorem dL_isCause_966 : decode cL_isCause 966 = .ok (.iconst 0, 1) := by decide +kernel
theorem dL_isCause_967 : decode cL_isCause 967 = .ok (.invokestatic 150, 3) := by decide +kernel
theorem dL_isCause_970 : decode cL_isCause 970 = .ok (.iload 13, 2) := by decide +kernel
theorem dL_isCause_972 : decode cL_isCause 972 = .ok (.ifCond .ne 8, 3) := by decide +kernel
theorem dL_isCause_975 : decode cL_isCause 975 = .ok (.ldc 94, 2) := by decide +kernel
theorem dL_isCause_977 : decode cL_isCause 977 = .ok (.goto 22, 3) := by decide +kernel
theorem dL_isCause_980 : decode cL_isCause 980 = .ok (.iload 15, 2) := by decide +kernel
theorem dL_isCause_982 : decode cL_isCause 982 = .ok (.ifCond .eq 15, 3) := by decide +kernel
theorem dL_isCause_985 : decode cL_isCause 985 = .ok (.aload 4, 2) := by decide +kernel
theorem dL_isCause_987 : decode cL_isCause 987 = .ok (.aload 5, 2) := by decide +kernel
theorem dL_isCause_989 : decode cL_isCause 989 = .ok (.iload 12, 2) := by decide +kernel
theorem dL_isCause_991 : decode cL_isCause 991 = .ok (.invokestatic 178, 3) := by decide +kernel
theorem dL_isCause_994 : decode cL_isCause 994 = .ok (.goto 5, 3) := by decide +kernel
theorem dL_isCause_997 : decode cL_isCause 997 = .ok (.ldc 100, 2) := by decide +kernel
theorem dL_isCause_999 : decode cL_isCause 999 = .ok (.if_icmp .ne 7, 3) := by decide +kernel
theorem dL_isCause_1002 : decode cL_isCause 1002 = .ok (.iconst 1, 1) := by decide +kernel
theorem dL_isCause_1003 : decode cL_isCause 1003 = .ok (.goto 4, 3) := by decide +kernel
theorem dL_isCause_1006 : decode cL_isCause 1006 = .ok (.iconst 0, 1) := by decide +kernel
theorem dL_isCause_1007 : decode cL_isCause 1007 = .ok (.ireturn, 1) := by decide +kernel
theorem dL_isCause_1008 : decode cL_isCause 1008 = .ok (.iload 9, 2) := by decide +kernel
theorem dL_isCause_1010 : decode cL_isCause 1010 = .ok (.iconst 4, 1) := by decide +kernel
theorem dL_isCause_1011 : decode cL_isCause 1011 = .ok (.if_icmp .ne 312, 3) := by decide +kernel
theorem dL_isCause_1014 : decode cL_isCause 1014 = .ok (.iload 11, 2) := by decide +kernel
theorem dL_isCause_1016 : decode cL_isCause 1016 = .ok (.bipush 9, 2) := by decide +kernel
theorem dL_isCause_1018 : decode cL_isCause 1018 = .ok (.irem, 1) := by decide +kernel
theorem dL_isCause_1019 : decode cL_isCause 1019 = .ok (.bipush 8, 2) := by decide +kernel
theorem dL_isCause_1021 : decode cL_isCause 1021 = .ok (.if_icmp .ne 7, 3) := by decide +kernel
theorem dL_isCause_1024 : decode cL_isCause 1024 = .ok (.iconst 3, 1) := by decide +kernel
theorem dL_isCause_1025 : decode cL_isCause 1025 = .ok (.goto 7, 3) := by decide +kernel
theorem dL_isCause_1028 : decode cL_isCause 1028 = .ok (.iload 11, 2) := by decide +kernel
theorem dL_isCause_1030 : decode cL_isCause 1030 = .ok (.iconst 3, 1) := by decide +kernel
theorem dL_isCause_1031 : decode cL_isCause 1031 = .ok (.irem, 1) := by decide +kernel
theorem dL_isCause_1032 : decode cL_isCause 1032 = .ok (.istore 15, 2) := by decide +kernel
theorem dL_isCause_1034 : decode cL_isCause 1034 = .ok (.iload 11, 2) := by decide +kernel
theorem dL_isCause_1036 : decode cL_isCause 1036 = .ok (.bipush 9, 2) := by decide +kernel
theorem dL_isCause_1038 : decode cL_isCause 1038 = .ok (.idiv, 1) := by decide +kernel
theorem dL_isCause_1039 : decode cL_isCause 1039 = .ok (.bipush 9, 2) := by decide +kernel
theorem dL_isCause_1041 : decode cL_isCause 1041 = .ok (.irem, 1) := by decide +kernel
theorem dL_isCause_1042 : decode cL_isCause 1042 = .ok (.ifCond .ne 15, 3) := by decide +kernel
theorem dL_isCause_1045 : decode cL_isCause 1045 = .ok (.iload 11, 2) := by decide +kernel
theorem dL_isCause_1047 : decode cL_isCause 1047 = .ok (.bipush 81, 2) := by decide +kernel
theorem dL_isCause_1049 : decode cL_isCause 1049 = .ok (.idiv, 1) := by decide +kernel
theorem dL_isCause_1050 : decode cL_isCause 1050 = .ok (.sipush 129, 3) := by decide +kernel
theorem dL_isCause_1053 : decode cL_isCause 1053 = .ok (.irem, 1) := by decide +kernel
theorem dL_isCause_1054 : decode cL_isCause 1054 = .ok (.goto 21, 3) := by decide +kernel
theorem dL_isCause_1057 : decode cL_isCause 1057 = .ok (.iload 13, 2) := by decide +kernel
theorem dL_isCause_1059 : decode cL_isCause 1059 = .ok (.ifCond .eq 15, 3) := by decide +kernel
theorem dL_isCause_1062 : decode cL_isCause 1062 = .ok (.aload 4, 2) := by decide +kernel
theorem dL_isCause_1064 : decode cL_isCause 1064 = .ok (.aload 5, 2) := by decide +kernel
theorem dL_isCause_1066 : decode cL_isCause 1066 = .ok (.iload 12, 2) := by decide +kernel
theorem dL_isCause_1068 : decode cL_isCause 1068 = .ok (.invokestatic 178, 3) := by decide +kernel
theorem dL_isCause_1071 : decode cL_isCause 1071 = .ok (.goto 4, 3) := by decide +kernel
theorem dL_isCause_1074 : decode cL_isCause 1074 = .ok (.iconst 0, 1) := by decide +kernel
theorem dL_isCause_1075 : decode cL_isCause 1075 = .ok (.istore 16, 2) := by decide +kernel
theorem dL_isCause_1077 : decode cL_isCause 1077 = .ok (.iload 13, 2) := by decide +kernel
theorem dL_isCause_1079 : decode cL_isCause 1079 = .ok (.ifCond .eq 13, 3) := by decide +kernel
theorem dL_isCause_1082 : decode cL_isCause 1082 = .ok (.iload 15, 2) := by decide +kernel
theorem dL_isCause_1084 : decode cL_isCause 1084 = .ok (.iconst 3, 1) := by decide +kernel
theorem dL_isCause_1085 : decode cL_isCause 1085 = .ok (.if_icmp .ge 7, 3) := by decide +kernel
theorem dL_isCause_1088 : decode cL_isCause 1088 = .ok (.iconst 1, 1) := by decide +kernel
theorem dL_isCause_1089 : decode cL_isCause 1089 = .ok (.goto 4, 3) := by decide +kernel
theorem dL_isCause_1092 : decode cL_isCause 1092 = .ok (.iconst 0, 1) := by decide +kernel
theorem dL_isCause_1093 : decode cL_isCause 1093 = .ok (.istore 17, 2) := by decide +kernel
theorem dL_isCause_1095 : decode cL_isCause 1095 = .ok (.iload 15, 2) := by decide +kernel
theorem dL_isCause_1097 : decode cL_isCause 1097 = .ok (.ifCond .ne 7, 3) := by decide +kernel
theorem dL_isCause_1100 : decode cL_isCause 1100 = .ok (.iconst 1, 1) := by decide +kernel
theorem dL_isCause_1101 : decode cL_isCause 1101 = .ok (.goto 18, 3) := by decide +kernel
theorem dL_isCause_1104 : decode cL_isCause 1104 = .ok (.iload 15, 2) := by decide +kernel
theorem dL_isCause_1106 : decode cL_isCause 1106 = .ok (.iconst 1, 1) := by decide +kernel
theorem dL_isCause_1107 : decode cL_isCause 1107 = .ok (.if_icmp .ne 9, 3) := by decide +kernel
theorem dL_isCause_1110 : decode cL_isCause 1110 = .ok (.sipush 129, 3) := by decide +kernel
theorem dL_isCause_1113 : decode cL_isCause 1113 = .ok (.goto 6, 3) := by decide +kernel
theorem dL_isCause_1116 : decode cL_isCause 1116 = .ok (.sipush 16641, 3) := by decide +kernel
theorem dL_isCause_1119 : decode cL_isCause 1119 = .ok (.istore 18, 2) := by decide +kernel
theorem dL_isCause_1121 : decode cL_isCause 1121 = .ok (.iload 17, 2) := by decide +kernel
theorem dL_isCause_1123 : decode cL_isCause 1123 = .ok (.ifCond .eq 53, 3) := by decide +kernel
theorem dL_isCause_1126 : decode cL_isCause 1126 = .ok (.iload 16, 2) := by decide +kernel
theorem dL_isCause_1128 : decode cL_isCause 1128 = .ok (.sipush 128, 3) := by decide +kernel
theorem dL_isCause_1131 : decode cL_isCause 1131 = .ok (.if_icmp .ge 45, 3) := by decide +kernel
theorem dL_isCause_1134 : decode cL_isCause 1134 = .ok (.iload 14, 2) := by decide +kernel
theorem dL_isCause_1136 : decode cL_isCause 1136 = .ok (.iconst 1, 1) := by decide +kernel
theorem dL_isCause_1137 : decode cL_isCause 1137 = .ok (.if_icmp .ne 39, 3) := by decide +kernel
theorem dL_isCause_1140 : decode cL_isCause 1140 = .ok (.aload 6, 2) := by decide +kernel
theorem dL_isCause_1142 : decode cL_isCause 1142 = .ok (.iload 12, 2) := by decide +kernel
theorem dL_isCause_1144 : decode cL_isCause 1144 = .ok (.iaload, 1) := by decide +kernel
theorem dL_isCause_1145 : decode cL_isCause 1145 = .ok (.iload 18, 2) := by decide +kernel
theorem dL_isCause_1147 : decode cL_isCause 1147 = .ok (.idiv, 1) := by decide +kernel
theorem dL_isCause_1148 : decode cL_isCause 1148 = .ok (.sipush 129, 3) := by decide +kernel
theorem dL_isCause_1151 : decode cL_isCause 1151 = .ok (.irem, 1) := by decide +kernel
theorem dL_isCause_1152 : decode cL_isCause 1152 = .ok (.ifCond .ne 24, 3) := by decide +kernel
theorem dL_isCause_1155 : decode cL_isCause 1155 = .ok (.iload 16, 2) := by decide +kernel
theorem dL_isCause_1157 : decode cL_isCause 1157 = .ok (.aload 4, 2) := by decide +kernel
theorem dL_isCause_1159 : decode cL_isCause 1159 = .ok (.aload 5, 2) := by decide +kernel
theorem dL_isCause_1161 : decode cL_isCause 1161 = .ok (.iload 12, 2) := by decide +kernel
theorem dL_isCause_1163 : decode cL_isCause 1163 = .ok (.invokestatic 178, 3) := by decide +kernel
theorem dL_isCause_1166 : decode cL_isCause 1166 = .ok (.iconst (-1), 1) := by decide +kernel
theorem dL_isCause_1167 : decode cL_isCause 1167 = .ok (.ixor, 1) := by decide +kernel
theorem dL_isCause_1168 : decode cL_isCause 1168 = .ok (.iand, 1) := by decide +kernel
theorem dL_isCause_1169 : decode cL_isCause 1169 = .ok (.ifCond .ne 7, 3) := by decide +kernel
theorem dL_isCause_1172 : decode cL_isCause 1172 = .ok (.iconst 1, 1) := by decide +kernel
theorem dL_isCause_1173 : decode cL_isCause 1173 = .ok (.goto 4, 3) := by decide +kernel
theorem dL_isCause_1176 : decode cL_isCause 1176 = .ok (.iconst 0, 1) := by decide +kernel
theorem dL_isCause_1177 : decode cL_isCause 1177 = .ok (.istore 19, 2) := by decide +kernel
theorem dL_isCause_1179 : decode cL_isCause 1179 = .ok (.aload 6, 2) := by decide +kernel
theorem dL_isCause_1181 : decode cL_isCause 1181 = .ok (.iload 19, 2) := by decide +kernel
theorem dL_isCause_1183 : decode cL_isCause 1183 = .ok (.ifCond .eq 8, 3) := by decide +kernel
theorem dL_isCause_1186 : decode cL_isCause 1186 = .ok (.iload 12, 2) := by decide +kernel
theorem dL_isCause_1188 : decode cL_isCause 1188 = .ok (.goto 5, 3) := by decide +kernel
theorem dL_isCause_1191 : decode cL_isCause 1191 = .ok (.bipush 8, 2) := by decide +kernel
theorem dL_isCause_1193 : decode cL_isCause 1193 = .ok (.dup2, 1) := by decide +kernel
theorem dL_isCause_1194 : decode cL_isCause 1194 = .ok (.iaload, 1) := by decide +kernel
theorem dL_isCause_1195 : decode cL_isCause 1195 = .ok (.iload 19, 2) := by decide +kernel
theorem dL_isCause_1197 : decode cL_isCause 1197 = .ok (.ifCond .eq 13, 3) := by decide +kernel
theorem dL_isCause_1200 : decode cL_isCause 1200 = .ok (.iload 18, 2) := by decide +kernel
theorem dL_isCause_1202 : decode cL_isCause 1202 = .ok (.iload 16, 2) := by decide +kernel
theorem dL_isCause_1204 : decode cL_isCause 1204 = .ok (.iconst 1, 1) := by decide +kernel
theorem dL_isCause_1205 : decode cL_isCause 1205 = .ok (.iadd, 1) := by decide +kernel
theorem dL_isCause_1206 : decode cL_isCause 1206 = .ok (.imul, 1) := by decide +kernel
theorem dL_isCause_1207 : decode cL_isCause 1207 = .ok (.goto 4, 3) := by decide +kernel
theorem dL_isCause_1210 : decode cL_isCause 1210 = .ok (.iconst 0, 1) := by decide +kernel
theorem dL_isCause_1211 : decode cL_isCause 1211 = .ok (.iadd, 1) := by decide +kernel
theorem dL_isCause_1212 : decode cL_isCause 1212 = .ok (.iastore, 1) := by decide +kernel
theorem dL_isCause_1213 : decode cL_isCause 1213 = .ok (.iconst 0, 1) := by decide +kernel
theorem dL_isCause_1214 : decode cL_isCause 1214 = .ok (.istore 20, 2) := by decide +kernel
theorem dL_isCause_1216 : decode cL_isCause 1216 = .ok (.iconst 1, 1) := by decide +kernel
theorem dL_isCause_1217 : decode cL_isCause 1217 = .ok (.istore 21, 2) := by decide +kernel
theorem dL_isCause_1219 : decode cL_isCause 1219 = .ok (.iload 21, 2) := by decide +kernel
theorem dL_isCause_1221 : decode cL_isCause 1221 = .ok (.ldc 143, 2) := by decide +kernel
theorem dL_isCause_1223 : decode cL_isCause 1223 = .ok (.if_icmp .ge 44, 3) := by decide +kernel
theorem dL_isCause_1226 : decode cL_isCause 1226 = .ok (.iload 13, 2) := by decide +kernel
theorem dL_isCause_1228 : decode cL_isCause 1228 = .ok (.ifCond .eq 39, 3) := by decide +kernel
theorem dL_isCause_1231 : decode cL_isCause 1231 = .ok (.iload 20, 2) := by decide +kernel
theorem dL_isCause_1233 : decode cL_isCause 1233 = .ok (.aload 6, 2) := by decide +kernel
theorem dL_isCause_1235 : decode cL_isCause 1235 = .ok (.iload 12, 2) := by decide +kernel
theorem dL_isCause_1237 : decode cL_isCause 1237 = .ok (.iaload, 1) := by decide +kernel
theorem dL_isCause_1238 : decode cL_isCause 1238 = .ok (.iload 21, 2) := by decide +kernel
theorem dL_isCause_1240 : decode cL_isCause 1240 = .ok (.idiv, 1) := by decide +kernel
theorem dL_isCause_1241 : decode cL_isCause 1241 = .ok (.sipush 129, 3) := by decide +kernel
theorem dL_isCause_1244 : decode cL_isCause 1244 = .ok (.irem, 1) := by decide +kernel
theorem dL_isCause_1245 : decode cL_isCause 1245 = .ok (.ifCond .le 7, 3) := by decide +kernel
theorem dL_isCause_1248 : decode cL_isCause 1248 = .ok (.iconst 1, 1) := by decide +kernel
theorem dL_isCause_1249 : decode cL_isCause 1249 = .ok (.goto 4, 3) := by decide +kernel
theorem dL_isCause_1252 : decode cL_isCause 1252 = .ok (.iconst 0, 1) := by decide +kernel
theorem dL_isCause_1253 : decode cL_isCause 1253 = .ok (.iadd, 1) := by decide +kernel
theorem dL_isCause_1254 : decode cL_isCause 1254 = .ok (.istore 20, 2) := by decide +kernel
theorem dL_isCause_1256 : decode cL_isCause 1256 = .ok (.iload 21, 2) := by decide +kernel
theorem dL_isCause_1258 : decode cL_isCause 1258 = .ok (.sipush 129, 3) := by decide +kernel
theorem dL_isCause_1261 : decode cL_isCause 1261 = .ok (.imul, 1) := by decide +kernel
theorem dL_isCause_1262 : decode cL_isCause 1262 = .ok (.istore 21, 2) := by decide +kernel
theorem dL_isCause_1264 : decode cL_isCause 1264 = .ok (.goto (-45), 3) := by decide +kernel
theorem dL_isCause_1267 : decode cL_isCause 1267 = .ok (.aload_n 0, 1) := by decide +kernel
theorem dL_isCause_1268 : decode cL_isCause 1268 = .ok (.bipush 17, 2) := by decide +kernel
theorem dL_isCause_1270 : decode cL_isCause 1270 = .ok (.iload 12, 2) := by decide +kernel
theorem dL_isCause_1272 : decode cL_isCause 1272 = .ok (.iload 15, 2) := by decide +kernel
theorem dL_isCause_1274 : decode cL_isCause 1274 = .ok (.iload 16, 2) := by decide +kernel
theorem dL_isCause_1276 : decode cL_isCause 1276 = .ok (.iconst 0, 1) := by decide +kernel
theorem dL_isCause_1277 : decode cL_isCause 1277 = .ok (.invokestatic 150, 3) := by decide +kernel
theorem dL_isCause_1280 : decode cL_isCause 1280 = .ok (.iload 17, 2) := by decide +kernel
theorem dL_isCause_1282 : decode cL_isCause 1282 = .ok (.ifCond .ne 8, 3) := by decide +kernel
theorem dL_isCause_1285 : decode cL_isCause 1285 = .ok (.ldc 94, 2) := by decide +kernel
theorem dL_isCause_1287 : decode cL_isCause 1287 = .ok (.goto 27, 3) := by decide +kernel
theorem dL_isCause_1290 : decode cL_isCause 1290 = .ok (.iload 16, 2) := by decide +kernel
theorem dL_isCause_1292 : decode cL_isCause 1292 = .ok (.bipush 127, 2) := by decide +kernel
theorem dL_isCause_1294 : decode cL_isCause 1294 = .ok (.if_icmp .le 8, 3) := by decide +kernel
theorem dL_isCause_1297 : decode cL_isCause 1297 = .ok (.ldc 97, 2) := by decide +kernel
theorem dL_isCause_1299 : decode cL_isCause 1299 = .ok (.goto 15, 3) := by decide +kernel
theorem dL_isCause_1302 : decode cL_isCause 1302 = .ok (.iload 19, 2) := by decide +kernel
theorem dL_isCause_1304 : decode cL_isCause 1304 = .ok (.ifCond .eq 8, 3) := by decide +kernel
theorem dL_isCause_1307 : decode cL_isCause 1307 = .ok (.iload 20, 2) := by decide +kernel
theorem dL_isCause_1309 : decode cL_isCause 1309 = .ok (.goto 5, 3) := by decide +kernel
theorem dL_isCause_1312 : decode cL_isCause 1312 = .ok (.ldc 100, 2) := by decide +kernel
theorem dL_isCause_1314 : decode cL_isCause 1314 = .ok (.if_icmp .ne 7, 3) := by decide +kernel
theorem dL_isCause_1317 : decode cL_isCause 1317 = .ok (.iconst 1, 1) := by decide +kernel
theorem dL_isCause_1318 : decode cL_isCause 1318 = .ok (.goto 4, 3) := by decide +kernel
theorem dL_isCause_1321 : decode cL_isCause 1321 = .ok (.iconst 0, 1) := by decide +kernel
theorem dL_isCause_1322 : decode cL_isCause 1322 = .ok (.ireturn, 1) := by decide +kernel
theorem dL_isCause_1323 : decode cL_isCause 1323 = .ok (.iload 9, 2) := by decide +kernel
theorem dL_isCause_1325 : decode cL_isCause 1325 = .ok (.iconst 5, 1) := by decide +kernel
theorem dL_isCause_1326 : decode cL_isCause 1326 = .ok (.if_icmp .ne 116, 3) := by decide +kernel
theorem dL_isCause_1329 : decode cL_isCause 1329 = .ok (.iload 13, 2) := by decide +kernel
theorem dL_isCause_1331 : decode cL_isCause 1331 = .ok (.ifCond .eq 53, 3) := by decide +kernel
theorem dL_isCause_1334 : decode cL_isCause 1334 = .ok (.iload 14, 2) := by decide +kernel
theorem dL_isCause_1336 : decode cL_isCause 1336 = .ok (.iconst 1, 1) := by decide +kernel
theorem dL_isCause_1337 : decode cL_isCause 1337 = .ok (.if_icmp .ne 47, 3) := by decide +kernel
theorem dL_isCause_1340 : decode cL_isCause 1340 = .ok (.aload 6, 2) := by decide +kernel
theorem dL_isCause_1342 : decode cL_isCause 1342 = .ok (.iload 12, 2) := by decide +kernel
theorem dL_isCause_1344 : decode cL_isCause 1344 = .ok (.iaload, 1) := by decide +kernel
theorem dL_isCause_1345 : decode cL_isCause 1345 = .ok (.sipush 129, 3) := by decide +kernel
theorem dL_isCause_1348 : decode cL_isCause 1348 = .ok (.irem, 1) := by decide +kernel
theorem dL_isCause_1349 : decode cL_isCause 1349 = .ok (.ifCond .le 35, 3) := by decide +kernel
theorem dL_isCause_1352 : decode cL_isCause 1352 = .ok (.aload 6, 2) := by decide +kernel
theorem dL_isCause_1354 : decode cL_isCause 1354 = .ok (.iload 12, 2) := by decide +kernel
theorem dL_isCause_1356 : decode cL_isCause 1356 = .ok (.iaload, 1) := by decide +kernel
theorem dL_isCause_1357 : decode cL_isCause 1357 = .ok (.sipush 129, 3) := by decide +kernel
theorem dL_isCause_1360 : decode cL_isCause 1360 = .ok (.idiv, 1) := by decide +kernel
theorem dL_isCause_1361 : decode cL_isCause 1361 = .ok (.sipush 129, 3) := by decide +kernel
theorem dL_isCause_1364 : decode cL_isCause 1364 = .ok (.irem, 1) := by decide +kernel
theorem dL_isCause_1365 : decode cL_isCause 1365 = .ok (.ifCond .le 19, 3) := by decide +kernel
theorem dL_isCause_1368 : decode cL_isCause 1368 = .ok (.aload 6, 2) := by decide +kernel
theorem dL_isCause_1370 : decode cL_isCause 1370 = .ok (.iload 12, 2) := by decide +kernel
theorem dL_isCause_1372 : decode cL_isCause 1372 = .ok (.iaload, 1) := by decide +kernel
theorem dL_isCause_1373 : decode cL_isCause 1373 = .ok (.sipush 16641, 3) := by decide +kernel
theorem dL_isCause_1376 : decode cL_isCause 1376 = .ok (.idiv, 1) := by decide +kernel
theorem dL_isCause_1377 : decode cL_isCause 1377 = .ok (.ifCond .le 7, 3) := by decide +kernel
theorem dL_isCause_1380 : decode cL_isCause 1380 = .ok (.iconst 1, 1) := by decide +kernel
theorem dL_isCause_1381 : decode cL_isCause 1381 = .ok (.goto 4, 3) := by decide +kernel
theorem dL_isCause_1384 : decode cL_isCause 1384 = .ok (.iconst 0, 1) := by decide +kernel
theorem dL_isCause_1385 : decode cL_isCause 1385 = .ok (.istore 15, 2) := by decide +kernel
theorem dL_isCause_1387 : decode cL_isCause 1387 = .ok (.aload_n 0, 1) := by decide +kernel
theorem dL_isCause_1388 : decode cL_isCause 1388 = .ok (.bipush 18, 2) := by decide +kernel
theorem dL_isCause_1390 : decode cL_isCause 1390 = .ok (.iload 12, 2) := by decide +kernel
theorem dL_isCause_1392 : decode cL_isCause 1392 = .ok (.iconst 0, 1) := by decide +kernel
theorem dL_isCause_1393 : decode cL_isCause 1393 = .ok (.iconst 0, 1) := by decide +kernel
theorem dL_isCause_1394 : decode cL_isCause 1394 = .ok (.iconst 0, 1) := by decide +kernel
theorem dL_isCause_1395 : decode cL_isCause 1395 = .ok (.invokestatic 150, 3) := by decide +kernel
theorem dL_isCause_1398 : decode cL_isCause 1398 = .ok (.iload 13, 2) := by decide +kernel
theorem dL_isCause_1400 : decode cL_isCause 1400 = .ok (.ifCond .ne 8, 3) := by decide +kernel
theorem dL_isCause_1403 : decode cL_isCause 1403 = .ok (.ldc 94, 2) := by decide +kernel
theorem dL_isCause_1405 : decode cL_isCause 1405 = .ok (.goto 28, 3) := by decide +kernel
theorem dL_isCause_1408 : decode cL_isCause 1408 = .ok (.iload 15, 2) := by decide +kernel
theorem dL_isCause_1410 : decode cL_isCause 1410 = .ok (.ifCond .eq 21, 3) := by decide +kernel
theorem dL_isCause_1413 : decode cL_isCause 1413 = .ok (.aload_n 2, 1) := by decide +kernel
theorem dL_isCause_1414 : decode cL_isCause 1414 = .ok (.aload_n 3, 1) := by decide +kernel
theorem dL_isCause_1415 : decode cL_isCause 1415 = .ok (.aload 4, 2) := by decide +kernel
theorem dL_isCause_1417 : decode cL_isCause 1417 = .ok (.aload 6, 2) := by decide +kernel
theorem dL_isCause_1419 : decode cL_isCause 1419 = .ok (.aload 7, 2) := by decide +kernel
theorem dL_isCause_1421 : decode cL_isCause 1421 = .ok (.aload 8, 2) := by decide +kernel
theorem dL_isCause_1423 : decode cL_isCause 1423 = .ok (.iload 12, 2) := by decide +kernel
theorem dL_isCause_1425 : decode cL_isCause 1425 = .ok (.invokestatic 181, 3) := by decide +kernel
theorem dL_isCause_1428 : decode cL_isCause 1428 = .ok (.goto 5, 3) := by decide +kernel
theorem dL_isCause_1431 : decode cL_isCause 1431 = .ok (.ldc 100, 2) := by decide +kernel
theorem dL_isCause_1433 : decode cL_isCause 1433 = .ok (.if_icmp .ne 7, 3) := by decide +kernel
theorem dL_isCause_1436 : decode cL_isCause 1436 = .ok (.iconst 1, 1) := by decide +kernel
theorem dL_isCause_1437 : decode cL_isCause 1437 = .ok (.goto 4, 3) := by decide +kernel
theorem dL_isCause_1440 : decode cL_isCause 1440 = .ok (.iconst 0, 1) := by decide +kernel
theorem dL_isCause_1441 : decode cL_isCause 1441 = .ok (.ireturn, 1) := by decide +kernel
theorem dL_isCause_1442 : decode cL_isCause 1442 = .ok (.iload 13, 2) := by decide +kernel
theorem dL_isCause_1444 : decode cL_isCause 1444 = .ok (.ifCond .eq 67, 3) := by decide +kernel
theorem dL_isCause_1447 : decode cL_isCause 1447 = .ok (.iload 14, 2) := by decide +kernel
theorem dL_isCause_1449 : decode cL_isCause 1449 = .ok (.iconst 3, 1) := by decide +kernel
theorem dL_isCause_1450 : decode cL_isCause 1450 = .ok (.if_icmp .ne 61, 3) := by decide +kernel
theorem dL_isCause_1453 : decode cL_isCause 1453 = .ok (.aload 4, 2) := by decide +kernel
theorem dL_isCause_1455 : decode cL_isCause 1455 = .ok (.iload 12, 2) := by decide +kernel
theorem dL_isCause_1457 : decode cL_isCause 1457 = .ok (.iaload, 1) := by decide +kernel
theorem dL_isCause_1458 : decode cL_isCause 1458 = .ok (.sipush 8192, 3) := by decide +kernel
theorem dL_isCause_1461 : decode cL_isCause 1461 = .ok (.idiv, 1) := by decide +kernel
theorem dL_isCause_1462 : decode cL_isCause 1462 = .ok (.iconst 1, 1) := by decide +kernel
theorem dL_isCause_1463 : decode cL_isCause 1463 = .ok (.if_icmp .ne 48, 3) := by decide +kernel
theorem dL_isCause_1466 : decode cL_isCause 1466 = .ok (.aload_n 2, 1) := by decide +kernel
theorem dL_isCause_1467 : decode cL_isCause 1467 = .ok (.aload 4, 2) := by decide +kernel
theorem dL_isCause_1469 : decode cL_isCause 1469 = .ok (.iload 12, 2) := by decide +kernel
theorem dL_isCause_1471 : decode cL_isCause 1471 = .ok (.iaload, 1) := by decide +kernel
theorem dL_isCause_1472 : decode cL_isCause 1472 = .ok (.bipush 16, 2) := by decide +kernel
theorem dL_isCause_1474 : decode cL_isCause 1474 = .ok (.irem, 1) := by decide +kernel
theorem dL_isCause_1475 : decode cL_isCause 1475 = .ok (.iaload, 1) := by decide +kernel
theorem dL_isCause_1476 : decode cL_isCause 1476 = .ok (.sipush 4096, 3) := by decide +kernel
theorem dL_isCause_1479 : decode cL_isCause 1479 = .ok (.idiv, 1) := by decide +kernel
theorem dL_isCause_1480 : decode cL_isCause 1480 = .ok (.iconst 4, 1) := by decide +kernel
theorem dL_isCause_1481 : decode cL_isCause 1481 = .ok (.irem, 1) := by decide +kernel
theorem dL_isCause_1482 : decode cL_isCause 1482 = .ok (.iconst 3, 1) := by decide +kernel
theorem dL_isCause_1483 : decode cL_isCause 1483 = .ok (.irem, 1) := by decide +kernel
theorem dL_isCause_1484 : decode cL_isCause 1484 = .ok (.ifCond .ne 27, 3) := by decide +kernel
theorem dL_isCause_1487 : decode cL_isCause 1487 = .ok (.aload 4, 2) := by decide +kernel
theorem dL_isCause_1489 : decode cL_isCause 1489 = .ok (.aload 8, 2) := by decide +kernel
theorem dL_isCause_1491 : decode cL_isCause 1491 = .ok (.aload 4, 2) := by decide +kernel
theorem dL_isCause_1493 : decode cL_isCause 1493 = .ok (.iload 12, 2) := by decide +kernel
theorem dL_isCause_1495 : decode cL_isCause 1495 = .ok (.iaload, 1) := by decide +kernel
theorem dL_isCause_1496 : decode cL_isCause 1496 = .ok (.bipush 16, 2) := by decide +kernel
theorem dL_isCause_1498 : decode cL_isCause 1498 = .ok (.irem, 1) := by decide +kernel
theorem dL_isCause_1499 : decode cL_isCause 1499 = .ok (.iload 12, 2) := by decide +kernel
theorem dL_isCause_1501 : decode cL_isCause 1501 = .ok (.invokestatic 168, 3) := by decide +kernel
theorem dL_isCause_1504 : decode cL_isCause 1504 = .ok (.ifCond .eq 7, 3) := by decide +kernel
theorem dL_isCause_1507 : decode cL_isCause 1507 = .ok (.iconst 1, 1) := by decide +kernel
theorem dL_isCause_1508 : decode cL_isCause 1508 = .ok (.goto 4, 3) := by decide +kernel
theorem dL_isCause_1511 : decode cL_isCause 1511 = .ok (.iconst 0, 1) := by decide +kernel
theorem dL_isCause_1512 : decode cL_isCause 1512 = .ok (.istore 15, 2) := by decide +kernel
theorem dL_isCause_1514 : decode cL_isCause 1514 = .ok (.iload 15, 2) := by decide +kernel
theorem dL_isCause_1516 : decode cL_isCause 1516 = .ok (.ifCond .eq 27, 3) := by decide +kernel
theorem dL_isCause_1519 : decode cL_isCause 1519 = .ok (.aload 4, 2) := by decide +kernel
theorem dL_isCause_1521 : decode cL_isCause 1521 = .ok (.iload 12, 2) := by decide +kernel
theorem dL_isCause_1523 : decode cL_isCause 1523 = .ok (.aload 4, 2) := by decide +kernel
theorem dL_isCause_1525 : decode cL_isCause 1525 = .ok (.iload 12, 2) := by decide +kernel
theorem dL_isCause_1527 : decode cL_isCause 1527 = .ok (.iaload, 1) := by decide +kernel
theorem dL_isCause_1528 : decode cL_isCause 1528 = .ok (.sipush 2048, 3) := by decide +kernel
theorem dL_isCause_1531 : decode cL_isCause 1531 = .ok (.irem, 1) := by decide +kernel
theorem dL_isCause_1532 : decode cL_isCause 1532 = .ok (.sipush 16384, 3) := by decide +kernel
theorem dL_isCause_1535 : decode cL_isCause 1535 = .ok (.iadd, 1) := by decide +kernel
theorem dL_isCause_1536 : decode cL_isCause 1536 = .ok (.iastore, 1) := by decide +kernel
theorem dL_isCause_1537 : decode cL_isCause 1537 = .ok (.aload 6, 2) := by decide +kernel
theorem dL_isCause_1539 : decode cL_isCause 1539 = .ok (.iload 12, 2) := by decide +kernel
theorem dL_isCause_1541 : decode cL_isCause 1541 = .ok (.iconst 0, 1) := by decide +kernel
theorem dL_isCause_1542 : decode cL_isCause 1542 = .ok (.iastore, 1) := by decide +kernel
theorem dL_isCause_1543 : decode cL_isCause 1543 = .ok (.aload_n 0, 1) := by decide +kernel
theorem dL_isCause_1544 : decode cL_isCause 1544 = .ok (.bipush 19, 2) := by decide +kernel
theorem dL_isCause_1546 : decode cL_isCause 1546 = .ok (.iload 12, 2) := by decide +kernel
theorem dL_isCause_1548 : decode cL_isCause 1548 = .ok (.iconst 0, 1) := by decide +kernel
theorem dL_isCause_1549 : decode cL_isCause 1549 = .ok (.iconst 0, 1) := by decide +kernel
theorem dL_isCause_1550 : decode cL_isCause 1550 = .ok (.iconst 0, 1) := by decide +kernel
theorem dL_isCause_1551 : decode cL_isCause 1551 = .ok (.invokestatic 150, 3) := by decide +kernel
theorem dL_isCause_1554 : decode cL_isCause 1554 = .ok (.iload 13, 2) := by decide +kernel
theorem dL_isCause_1556 : decode cL_isCause 1556 = .ok (.ifCond .ne 8, 3) := by decide +kernel
theorem dL_isCause_1559 : decode cL_isCause 1559 = .ok (.ldc 94, 2) := by decide +kernel
theorem dL_isCause_1561 : decode cL_isCause 1561 = .ok (.goto 14, 3) := by decide +kernel
theorem dL_isCause_1564 : decode cL_isCause 1564 = .ok (.iload 15, 2) := by decide +kernel
theorem dL_isCause_1566 : decode cL_isCause 1566 = .ok (.ifCond .eq 7, 3) := by decide +kernel
theorem dL_isCause_1569 : decode cL_isCause 1569 = .ok (.iconst 0, 1) := by decide +kernel
theorem dL_isCause_1570 : decode cL_isCause 1570 = .ok (.goto 5, 3) := by decide +kernel
theorem dL_isCause_1573 : decode cL_isCause 1573 = .ok (.ldc 100, 2) := by decide +kernel
theorem dL_isCause_1575 : decode cL_isCause 1575 = .ok (.if_icmp .ne 7, 3) := by decide +kernel
theorem dL_isCause_1578 : decode cL_isCause 1578 = .ok (.iconst 1, 1) := by decide +kernel
theorem dL_isCause_1579 : decode cL_isCause 1579 = .ok (.goto 4, 3) := by decide +kernel
theorem dL_isCause_1582 : decode cL_isCause 1582 = .ok (.iconst 0, 1) := by decide +kernel
theorem dL_isCause_1583 : decode cL_isCause 1583 = .ok (.ireturn, 1) := by decide +kernel
def tab_L_isCause_0 : List (Nat × Sem) := [(0, op_il 9 2), (2, op_if (fun x => ¬ x = 0) 425 5), (5, op_al 8 7), (7, op_ic 3 8), (8, op_iald 9), (9, op_ic 8 11), (11, op_cmp (fun x y => y ≤ x) 425 14), (14, op_il 10 16), (16, op_al 8 18), (18, op_ic 2 19), (19, op_iald 20), (20, op_ic 1 21), (21, op_bin (fun x y => x + y) 22), (22, op_dv (fun x y => irm x y) 23), (23, op_is 12 25), (25, op_il 10 27), (27, op_ic 17 29), (29, op_dv (fun x y => x / y) 30), (30, op_ic 9 32), (32, op_dv (fun x y => irm x y) 33), (33, op_is 13 35), (35, op_il 11 37), (37, op_ic 9 39), (39, op_dv (fun x y => irm x y) 40), (40, op_if (fun x => ¬ x = 0) 55 43), (43, op_il 11 45), (45, op_ic 9 47), (47, op_dv (fun x y => x / y) 48), (48, op_ic 129 51), (51, op_dv (fun x y => irm x y) 52), (52, op_go 63), (55, op_ic 64 57), (57, op_il 11 59), (59, op_ic 64 61), (61, op_dv (fun x y => irm x y) 62), (62, op_bin (fun x y => x + y) 63), (63, op_is 14 65), (65, op_il 11 67), (67, op_ic 2 68), (68, op_dv (fun x y => irm x y) 69), (69, op_if (fun x => ¬ x = 0) 76 72), (72, op_ic 1 73), (73, op_go 77), (76, op_ic 0 77), (77, op_is 15 79), (79, op_il 12 81), (81, op_al 8 83), (83, op_ic 2 84), (84, op_iald 85), (85, op_cmp (fun x y => y ≤ x) 92 88), (88, op_ic 1 89), (89, op_go 93), (92, op_ic 0 93), (93, op_is 16 95), (95, op_il 13 97), (97, op_ic 8 99), (99, op_cmp (fun x y => y ≤ x) 119 102), (102, op_il 14 104), (104, op_if (fun x => x ≤ 0) 119 107), (107, op_il 14 109)]
set_option maxRecDepth 20000 in
theorem tok_L_isCause_0 : ∀ q ∈ tab_L_isCause_0, GSnd RL cL_isCause 22 13 20 (some .boolean) q.1 q.2 := by
  unfold tab_L_isCause_0
  refine gcons (snd_g (ok_iload dL_isCause_0 rfl)) ?_
  refine gcons (snd_g (ok_if_ne dL_isCause_2 rfl rfl)) ?_
  refine gcons (snd_g (ok_aload dL_isCause_5 rfl)) ?_
  refine gcons (snd_g (ok_iconst dL_isCause_7 rfl rfl)) ?_
  refine gcons (snd_g (ok_iaload dL_isCause_8 rfl)) ?_
  refine gcons (snd_g (ok_bipush dL_isCause_9 rfl rfl)) ?_
  refine gcons (snd_g (ok_icmp_ge dL_isCause_11 rfl rfl)) ?_
  refine gcons (snd_g (ok_iload dL_isCause_14 rfl)) ?_
  refine gcons (snd_g (ok_aload dL_isCause_16 rfl)) ?_
  refine gcons (snd_g (ok_iconst dL_isCause_18 rfl rfl)) ?_
  refine gcons (snd_g (ok_iaload dL_isCause_19 rfl)) ?_
  refine gcons (snd_g (ok_iconst dL_isCause_20 rfl rfl)) ?_
  refine gcons (snd_g (ok_iadd dL_isCause_21 rfl)) ?_
  refine gcons (snd_g (ok_irem dL_isCause_22 rfl)) ?_
  refine gcons (snd_g (ok_istore dL_isCause_23 (by decide) rfl)) ?_
  refine gcons (snd_g (ok_iload dL_isCause_25 rfl)) ?_
  refine gcons (snd_g (ok_bipush dL_isCause_27 rfl rfl)) ?_
  refine gcons (snd_g (ok_idiv dL_isCause_29 rfl)) ?_
  refine gcons (snd_g (ok_bipush dL_isCause_30 rfl rfl)) ?_
  refine gcons (snd_g (ok_irem dL_isCause_32 rfl)) ?_
  refine gcons (snd_g (ok_istore dL_isCause_33 (by decide) rfl)) ?_
  refine gcons (snd_g (ok_iload dL_isCause_35 rfl)) ?_
  refine gcons (snd_g (ok_bipush dL_isCause_37 rfl rfl)) ?_
  refine gcons (snd_g (ok_irem dL_isCause_39 rfl)) ?_
  refine gcons (snd_g (ok_if_ne dL_isCause_40 rfl rfl)) ?_
  refine gcons (snd_g (ok_iload dL_isCause_43 rfl)) ?_
  refine gcons (snd_g (ok_bipush dL_isCause_45 rfl rfl)) ?_
  refine gcons (snd_g (ok_idiv dL_isCause_47 rfl)) ?_
  refine gcons (snd_g (ok_sipush dL_isCause_48 rfl rfl)) ?_
  refine gcons (snd_g (ok_irem dL_isCause_51 rfl)) ?_
  refine gcons (snd_g (ok_goto dL_isCause_52 rfl)) ?_
  refine gcons (snd_g (ok_bipush dL_isCause_55 rfl rfl)) ?_
  refine gcons (snd_g (ok_iload dL_isCause_57 rfl)) ?_
  refine gcons (snd_g (ok_bipush dL_isCause_59 rfl rfl)) ?_
  refine gcons (snd_g (ok_irem dL_isCause_61 rfl)) ?_
  refine gcons (snd_g (ok_iadd dL_isCause_62 rfl)) ?_
  refine gcons (snd_g (ok_istore dL_isCause_63 (by decide) rfl)) ?_
  refine gcons (snd_g (ok_iload dL_isCause_65 rfl)) ?_
  refine gcons (snd_g (ok_iconst dL_isCause_67 rfl rfl)) ?_
  refine gcons (snd_g (ok_irem dL_isCause_68 rfl)) ?_
  refine gcons (snd_g (ok_if_ne dL_isCause_69 rfl rfl)) ?_
  refine gcons (snd_g (ok_iconst dL_isCause_72 rfl rfl)) ?_
  refine gcons (snd_g (ok_goto dL_isCause_73 rfl)) ?_
  refine gcons (snd_g (ok_iconst dL_isCause_76 rfl rfl)) ?_
  refine gcons (snd_g (ok_istore dL_isCause_77 (by decide) rfl)) ?_
  refine gcons (snd_g (ok_iload dL_isCause_79 rfl)) ?_
  refine gcons (snd_g (ok_aload dL_isCause_81 rfl)) ?_
  refine gcons (snd_g (ok_iconst dL_isCause_83 rfl rfl)) ?_
  refine gcons (snd_g (ok_iaload dL_isCause_84 rfl)) ?_
  refine gcons (snd_g (ok_icmp_ge dL_isCause_85 rfl rfl)) ?_
  refine gcons (snd_g (ok_iconst dL_isCause_88 rfl rfl)) ?_
  refine gcons (snd_g (ok_goto dL_isCause_89 rfl)) ?_
  refine gcons (snd_g (ok_iconst dL_isCause_92 rfl rfl)) ?_
  refine gcons (snd_g (ok_istore dL_isCause_93 (by decide) rfl)) ?_
  refine gcons (snd_g (ok_iload dL_isCause_95 rfl)) ?_
  refine gcons (snd_g (ok_bipush dL_isCause_97 rfl rfl)) ?_
  refine gcons (snd_g (ok_icmp_ge dL_isCause_99 rfl rfl)) ?_
  refine gcons (snd_g (ok_iload dL_isCause_102 rfl)) ?_
  refine gcons (snd_g (ok_if_le dL_isCause_104 rfl rfl)) ?_
  refine gcons (snd_g (ok_iload dL_isCause_107 rfl)) ?_
  exact fun _ h => nomatch h
def tab_L_isCause_1 : List (Nat × Sem) := [(109, op_ic 128 112), (112, op_cmp (fun x y => y ≤ x) 119 115), (115, op_ic 1 116), (116, op_go 120), (119, op_ic 0 120), (120, op_is 17 122), (122, op_il 16 124), (124, op_if (fun x => x = 0) 137 127), (127, op_al 2 128), (128, op_il 12 130), (130, op_iald 131), (131, op_ic 16 133), (133, op_dv (fun x y => irm x y) 134), (134, op_go 138), (137, op_ic 0 138), (138, op_is 18 140), (140, op_il 16 142), (142, op_if (fun x => x = 0) 158 145), (145, op_al 2 146), (146, op_il 12 148), (148, op_iald 149), (149, op_ic 16 151), (151, op_dv (fun x y => x / y) 152), (152, op_ic 16 154), (154, op_dv (fun x y => irm x y) 155), (155, op_go 159), (158, op_ic 0 159), (159, op_is 19 161), (161, op_il 16 163), (163, op_if (fun x => x = 0) 241 166), (166, op_il 13 168), (168, op_ic 8 170), (170, op_cmp (fun x y => y ≤ x) 241 173), (173, op_al 2 174), (174, op_il 12 176), (176, op_iald 177), (177, op_ic 256 180), (180, op_dv (fun x y => x / y) 181), (181, op_ic 8 183), (183, op_dv (fun x y => irm x y) 184), (184, op_il 13 186), (186, op_cmp (fun x y => x = y) 237 189), (189, op_al 1 190), (190, op_il 18 192), (192, op_iald 193), (193, op_ic 64 195), (195, op_dv (fun x y => x / y) 196), (196, op_ic 2 197), (197, op_dv (fun x y => irm x y) 198), (198, op_if (fun x => ¬ x = 0) 213 201), (201, op_al 1 202), (202, op_il 18 204), (204, op_iald 205), (205, op_ic 8 207), (207, op_dv (fun x y => irm x y) 208), (208, op_il 13 210), (210, op_cmp (fun x y => x = y) 237 213), (213, op_al 1 214), (214, op_il 19 216), (216, op_iald 217)]
set_option maxRecDepth 20000 in
theorem tok_L_isCause_1 : ∀ q ∈ tab_L_isCause_1, GSnd RL cL_isCause 22 13 20 (some .boolean) q.1 q.2 := by
  unfold tab_L_isCause_1
  refine gcons (snd_g (ok_sipush dL_isCause_109 rfl rfl)) ?_
  refine gcons (snd_g (ok_icmp_ge dL_isCause_112 rfl rfl)) ?_
  refine gcons (snd_g (ok_iconst dL_isCause_115 rfl rfl)) ?_
  refine gcons (snd_g (ok_goto dL_isCause_116 rfl)) ?_
  refine gcons (snd_g (ok_iconst dL_isCause_119 rfl rfl)) ?_
  refine gcons (snd_g (ok_istore dL_isCause_120 (by decide) rfl)) ?_
  refine gcons (snd_g (ok_iload dL_isCause_122 rfl)) ?_
  refine gcons (snd_g (ok_if_eq dL_isCause_124 rfl rfl)) ?_
  refine gcons (snd_g (ok_aload_n dL_isCause_127 rfl rfl)) ?_
  refine gcons (snd_g (ok_iload dL_isCause_128 rfl)) ?_
  refine gcons (snd_g (ok_iaload dL_isCause_130 rfl)) ?_
  refine gcons (snd_g (ok_bipush dL_isCause_131 rfl rfl)) ?_
  refine gcons (snd_g (ok_irem dL_isCause_133 rfl)) ?_
  refine gcons (snd_g (ok_goto dL_isCause_134 rfl)) ?_
  refine gcons (snd_g (ok_iconst dL_isCause_137 rfl rfl)) ?_
  refine gcons (snd_g (ok_istore dL_isCause_138 (by decide) rfl)) ?_
  refine gcons (snd_g (ok_iload dL_isCause_140 rfl)) ?_
  refine gcons (snd_g (ok_if_eq dL_isCause_142 rfl rfl)) ?_
  refine gcons (snd_g (ok_aload_n dL_isCause_145 rfl rfl)) ?_
  refine gcons (snd_g (ok_iload dL_isCause_146 rfl)) ?_
  refine gcons (snd_g (ok_iaload dL_isCause_148 rfl)) ?_
  refine gcons (snd_g (ok_bipush dL_isCause_149 rfl rfl)) ?_
  refine gcons (snd_g (ok_idiv dL_isCause_151 rfl)) ?_
  refine gcons (snd_g (ok_bipush dL_isCause_152 rfl rfl)) ?_
  refine gcons (snd_g (ok_irem dL_isCause_154 rfl)) ?_
  refine gcons (snd_g (ok_goto dL_isCause_155 rfl)) ?_
  refine gcons (snd_g (ok_iconst dL_isCause_158 rfl rfl)) ?_
  refine gcons (snd_g (ok_istore dL_isCause_159 (by decide) rfl)) ?_
  refine gcons (snd_g (ok_iload dL_isCause_161 rfl)) ?_
  refine gcons (snd_g (ok_if_eq dL_isCause_163 rfl rfl)) ?_
  refine gcons (snd_g (ok_iload dL_isCause_166 rfl)) ?_
  refine gcons (snd_g (ok_bipush dL_isCause_168 rfl rfl)) ?_
  refine gcons (snd_g (ok_icmp_ge dL_isCause_170 rfl rfl)) ?_
  refine gcons (snd_g (ok_aload_n dL_isCause_173 rfl rfl)) ?_
  refine gcons (snd_g (ok_iload dL_isCause_174 rfl)) ?_
  refine gcons (snd_g (ok_iaload dL_isCause_176 rfl)) ?_
  refine gcons (snd_g (ok_sipush dL_isCause_177 rfl rfl)) ?_
  refine gcons (snd_g (ok_idiv dL_isCause_180 rfl)) ?_
  refine gcons (snd_g (ok_bipush dL_isCause_181 rfl rfl)) ?_
  refine gcons (snd_g (ok_irem dL_isCause_183 rfl)) ?_
  refine gcons (snd_g (ok_iload dL_isCause_184 rfl)) ?_
  refine gcons (snd_g (ok_icmp_eq dL_isCause_186 rfl rfl)) ?_
  refine gcons (snd_g (ok_aload_n dL_isCause_189 rfl rfl)) ?_
  refine gcons (snd_g (ok_iload dL_isCause_190 rfl)) ?_
  refine gcons (snd_g (ok_iaload dL_isCause_192 rfl)) ?_
  refine gcons (snd_g (ok_bipush dL_isCause_193 rfl rfl)) ?_
  refine gcons (snd_g (ok_idiv dL_isCause_195 rfl)) ?_
  refine gcons (snd_g (ok_iconst dL_isCause_196 rfl rfl)) ?_
  refine gcons (snd_g (ok_irem dL_isCause_197 rfl)) ?_
  refine gcons (snd_g (ok_if_ne dL_isCause_198 rfl rfl)) ?_
  refine gcons (snd_g (ok_aload_n dL_isCause_201 rfl rfl)) ?_
  refine gcons (snd_g (ok_iload dL_isCause_202 rfl)) ?_
  refine gcons (snd_g (ok_iaload dL_isCause_204 rfl)) ?_
  refine gcons (snd_g (ok_bipush dL_isCause_205 rfl rfl)) ?_
  refine gcons (snd_g (ok_irem dL_isCause_207 rfl)) ?_
  refine gcons (snd_g (ok_iload dL_isCause_208 rfl)) ?_
  refine gcons (snd_g (ok_icmp_eq dL_isCause_210 rfl rfl)) ?_
  refine gcons (snd_g (ok_aload_n dL_isCause_213 rfl rfl)) ?_
  refine gcons (snd_g (ok_iload dL_isCause_214 rfl)) ?_
  refine gcons (snd_g (ok_iaload dL_isCause_216 rfl)) ?_
  exact fun _ h => nomatch h
def tab_L_isCause_2 : List (Nat × Sem) := [(217, op_ic 64 219), (219, op_dv (fun x y => x / y) 220), (220, op_ic 2 221), (221, op_dv (fun x y => irm x y) 222), (222, op_if (fun x => ¬ x = 0) 241 225), (225, op_al 1 226), (226, op_il 19 228), (228, op_iald 229), (229, op_ic 8 231), (231, op_dv (fun x y => irm x y) 232), (232, op_il 13 234), (234, op_cmp (fun x y => ¬ x = y) 241 237), (237, op_ic 1 238), (238, op_go 242), (241, op_ic 0 242), (242, op_is 20 244), (244, op_il 16 246), (246, op_if (fun x => x = 0) 296 249), (249, op_il 17 251), (251, op_if (fun x => x = 0) 296 254), (254, op_al 2 255), (255, op_il 12 257), (257, op_iald 258), (258, op_ic 4096 261), (261, op_dv (fun x y => x / y) 262), (262, op_ic 4 263), (263, op_dv (fun x y => irm x y) 264), (264, op_ic 3 265), (265, op_dv (fun x y => irm x y) 266), (266, op_if (fun x => ¬ x = 0) 296 269), (269, op_al 4 271), (271, op_al 8 273), (273, op_il 12 275), (275, op_ic (-1) 276), (276, op_callN sp_L_isQuiet 4 0 279), (279, op_if (fun x => x = 0) 296 282), (282, op_il 15 284), (284, op_if (fun x => ¬ x = 0) 292 287), (287, op_il 20 289), (289, op_if (fun x => x = 0) 296 292), (292, op_ic 1 293), (293, op_go 297), (296, op_ic 0 297), (297, op_is 21 299), (299, op_il 16 301), (301, op_if (fun x => x = 0) 326 304), (304, op_il 13 306), (306, op_ic 8 308), (308, op_cmp (fun x y => y ≤ x) 326 311), (311, op_al 0 312), (312, op_il 12 314), (314, op_il 13 316), (316, op_callVN 6 sp_X4_hasCause 3 4 319), (319, op_il 20 321), (321, op_cmp (fun x y => x = y) 326 324), (324, op_ic 0 325), (325, op_zret), (326, op_il 21 328), (328, op_if (fun x => x = 0) 358 331), (331, op_al 4 333)]
set_option maxRecDepth 20000 in
theorem tok_L_isCause_2 : ∀ q ∈ tab_L_isCause_2, GSnd RL cL_isCause 22 13 20 (some .boolean) q.1 q.2 := by
  unfold tab_L_isCause_2
  refine gcons (snd_g (ok_bipush dL_isCause_217 rfl rfl)) ?_
  refine gcons (snd_g (ok_idiv dL_isCause_219 rfl)) ?_
  refine gcons (snd_g (ok_iconst dL_isCause_220 rfl rfl)) ?_
  refine gcons (snd_g (ok_irem dL_isCause_221 rfl)) ?_
  refine gcons (snd_g (ok_if_ne dL_isCause_222 rfl rfl)) ?_
  refine gcons (snd_g (ok_aload_n dL_isCause_225 rfl rfl)) ?_
  refine gcons (snd_g (ok_iload dL_isCause_226 rfl)) ?_
  refine gcons (snd_g (ok_iaload dL_isCause_228 rfl)) ?_
  refine gcons (snd_g (ok_bipush dL_isCause_229 rfl rfl)) ?_
  refine gcons (snd_g (ok_irem dL_isCause_231 rfl)) ?_
  refine gcons (snd_g (ok_iload dL_isCause_232 rfl)) ?_
  refine gcons (snd_g (ok_icmp_ne dL_isCause_234 rfl rfl)) ?_
  refine gcons (snd_g (ok_iconst dL_isCause_237 rfl rfl)) ?_
  refine gcons (snd_g (ok_goto dL_isCause_238 rfl)) ?_
  refine gcons (snd_g (ok_iconst dL_isCause_241 rfl rfl)) ?_
  refine gcons (snd_g (ok_istore dL_isCause_242 (by decide) rfl)) ?_
  refine gcons (snd_g (ok_iload dL_isCause_244 rfl)) ?_
  refine gcons (snd_g (ok_if_eq dL_isCause_246 rfl rfl)) ?_
  refine gcons (snd_g (ok_iload dL_isCause_249 rfl)) ?_
  refine gcons (snd_g (ok_if_eq dL_isCause_251 rfl rfl)) ?_
  refine gcons (snd_g (ok_aload_n dL_isCause_254 rfl rfl)) ?_
  refine gcons (snd_g (ok_iload dL_isCause_255 rfl)) ?_
  refine gcons (snd_g (ok_iaload dL_isCause_257 rfl)) ?_
  refine gcons (snd_g (ok_sipush dL_isCause_258 rfl rfl)) ?_
  refine gcons (snd_g (ok_idiv dL_isCause_261 rfl)) ?_
  refine gcons (snd_g (ok_iconst dL_isCause_262 rfl rfl)) ?_
  refine gcons (snd_g (ok_irem dL_isCause_263 rfl)) ?_
  refine gcons (snd_g (ok_iconst dL_isCause_264 rfl rfl)) ?_
  refine gcons (snd_g (ok_irem dL_isCause_265 rfl)) ?_
  refine gcons (snd_g (ok_if_ne dL_isCause_266 rfl rfl)) ?_
  refine gcons (snd_g (ok_aload dL_isCause_269 rfl)) ?_
  refine gcons (snd_g (ok_aload dL_isCause_271 rfl)) ?_
  refine gcons (snd_g (ok_iload dL_isCause_273 rfl)) ?_
  refine gcons (snd_g (ok_iconst dL_isCause_275 rfl rfl)) ?_
  refine gcons (snd_g (ok_invokestaticN M_L_isQuiet w_927 w_928 w_19 w_929 ⟨by decide, by decide, by decide +kernel⟩ (by decide) (by decide) dL_isCause_276 rfl)) ?_
  refine gcons (snd_g (ok_if_eq dL_isCause_279 rfl rfl)) ?_
  refine gcons (snd_g (ok_iload dL_isCause_282 rfl)) ?_
  refine gcons (snd_g (ok_if_ne dL_isCause_284 rfl rfl)) ?_
  refine gcons (snd_g (ok_iload dL_isCause_287 rfl)) ?_
  refine gcons (snd_g (ok_if_eq dL_isCause_289 rfl rfl)) ?_
  refine gcons (snd_g (ok_iconst dL_isCause_292 rfl rfl)) ?_
  refine gcons (snd_g (ok_goto dL_isCause_293 rfl)) ?_
  refine gcons (snd_g (ok_iconst dL_isCause_296 rfl rfl)) ?_
  refine gcons (snd_g (ok_istore dL_isCause_297 (by decide) rfl)) ?_
  refine gcons (snd_g (ok_iload dL_isCause_299 rfl)) ?_
  refine gcons (snd_g (ok_if_eq dL_isCause_301 rfl rfl)) ?_
  refine gcons (snd_g (ok_iload dL_isCause_304 rfl)) ?_
  refine gcons (snd_g (ok_bipush dL_isCause_306 rfl rfl)) ?_
  refine gcons (snd_g (ok_icmp_ge dL_isCause_308 rfl rfl)) ?_
  refine gcons (snd_g (ok_aload_n dL_isCause_311 rfl rfl)) ?_
  refine gcons (snd_g (ok_iload dL_isCause_312 rfl)) ?_
  refine gcons (snd_g (ok_iload dL_isCause_314 rfl)) ?_
  refine gcons (snd_g (ok_invokevirtualN M_X4_hasCause (C := RX4) (T := TX4) (nf := 8) rfl w_933 w_934 w_935 w_20 w_936 ⟨rfl, by decide, by decide, by decide +kernel⟩ (by decide) (by decide) dL_isCause_316 rfl)) ?_
  refine gcons (snd_g (ok_iload dL_isCause_319 rfl)) ?_
  refine gcons (snd_g (ok_icmp_eq dL_isCause_321 rfl rfl)) ?_
  refine gcons (snd_g (ok_iconst dL_isCause_324 rfl rfl)) ?_
  refine gcons (snd_g (ok_zreturn rfl (Or.inl rfl) dL_isCause_325)) ?_
  refine gcons (snd_g (ok_iload dL_isCause_326 rfl)) ?_
  refine gcons (snd_g (ok_if_eq dL_isCause_328 rfl rfl)) ?_
  refine gcons (snd_g (ok_aload dL_isCause_331 rfl)) ?_
  exact fun _ h => nomatch h
def tab_L_isCause_3 : List (Nat × Sem) := [(333, op_al 8 335), (335, op_ic 3 336), (336, op_iald 337), (337, op_il 12 339), (339, op_ic 16 341), (341, op_il 14 343), (343, op_bin (fun x y => x * y) 344), (344, op_bin (fun x y => x + y) 345), (345, op_ic 8192 348), (348, op_bin (fun x y => x + y) 349), (349, op_iast 350), (350, op_al 8 352), (352, op_ic 3 353), (353, op_dup2 354), (354, op_iald 355), (355, op_ic 1 356), (356, op_bin (fun x y => x + y) 357), (357, op_iast 358), (358, op_al 0 359), (359, op_ic 13 361), (361, op_il 12 363), (363, op_il 13 365), (365, op_il 14 367), (367, op_il 15 369), (369, op_if (fun x => x = 0) 376 372), (372, op_ic 1 373), (373, op_go 377), (376, op_ic 0 377), (377, op_callHN sp_L_does 6 16 380), (380, op_il 16 382), (382, op_if (fun x => ¬ x = 0) 390 385), (385, op_ic (-3000000) 387), (387, op_go 416), (390, op_il 17 392), (392, op_if (fun x => ¬ x = 0) 400 395), (395, op_ic (-2000000) 397), (397, op_go 416), (400, op_il 21 402), (402, op_if (fun x => x = 0) 414 405), (405, op_al 8 407), (407, op_ic 3 408), (408, op_iald 409), (409, op_ic 1 410), (410, op_bin (fun x y => x - y) 411), (411, op_go 416), (414, op_ic (-1000000) 416), (416, op_cmp (fun x y => ¬ x = y) 423 419), (419, op_ic 1 420), (420, op_go 424), (423, op_ic 0 424), (424, op_zret), (425, op_il 10 427), (427, op_al 8 429), (429, op_ic 3 430), (430, op_iald 431), (431, op_ic 1 432), (432, op_bin (fun x y => x + y) 433), (433, op_dv (fun x y => irm x y) 434), (434, op_is 12 436), (436, op_il 12 438)]
set_option maxRecDepth 20000 in
theorem tok_L_isCause_3 : ∀ q ∈ tab_L_isCause_3, GSnd RL cL_isCause 22 13 20 (some .boolean) q.1 q.2 := by
  unfold tab_L_isCause_3
  refine gcons (snd_g (ok_aload dL_isCause_333 rfl)) ?_
  refine gcons (snd_g (ok_iconst dL_isCause_335 rfl rfl)) ?_
  refine gcons (snd_g (ok_iaload dL_isCause_336 rfl)) ?_
  refine gcons (snd_g (ok_iload dL_isCause_337 rfl)) ?_
  refine gcons (snd_g (ok_bipush dL_isCause_339 rfl rfl)) ?_
  refine gcons (snd_g (ok_iload dL_isCause_341 rfl)) ?_
  refine gcons (snd_g (ok_imul dL_isCause_343 rfl)) ?_
  refine gcons (snd_g (ok_iadd dL_isCause_344 rfl)) ?_
  refine gcons (snd_g (ok_sipush dL_isCause_345 rfl rfl)) ?_
  refine gcons (snd_g (ok_iadd dL_isCause_348 rfl)) ?_
  refine gcons (snd_g (ok_iastore dL_isCause_349 rfl)) ?_
  refine gcons (snd_g (ok_aload dL_isCause_350 rfl)) ?_
  refine gcons (snd_g (ok_iconst dL_isCause_352 rfl rfl)) ?_
  refine gcons (snd_g (ok_dup2 dL_isCause_353 rfl)) ?_
  refine gcons (snd_g (ok_iaload dL_isCause_354 rfl)) ?_
  refine gcons (snd_g (ok_iconst dL_isCause_355 rfl rfl)) ?_
  refine gcons (snd_g (ok_iadd dL_isCause_356 rfl)) ?_
  refine gcons (snd_g (ok_iastore dL_isCause_357 rfl)) ?_
  refine gcons (snd_g (ok_aload_n dL_isCause_358 rfl rfl)) ?_
  refine gcons (snd_g (ok_bipush dL_isCause_359 rfl rfl)) ?_
  refine gcons (snd_g (ok_iload dL_isCause_361 rfl)) ?_
  refine gcons (snd_g (ok_iload dL_isCause_363 rfl)) ?_
  refine gcons (snd_g (ok_iload dL_isCause_365 rfl)) ?_
  refine gcons (snd_g (ok_iload dL_isCause_367 rfl)) ?_
  refine gcons (snd_g (ok_if_eq dL_isCause_369 rfl rfl)) ?_
  refine gcons (snd_g (ok_iconst dL_isCause_372 rfl rfl)) ?_
  refine gcons (snd_g (ok_goto dL_isCause_373 rfl)) ?_
  refine gcons (snd_g (ok_iconst dL_isCause_376 rfl rfl)) ?_
  refine gcons (ok_invokestaticHN M_L_does w_128 w_129 w_19 w_130 ⟨by decide, by decide, by decide +kernel⟩ (by decide) (by decide) dL_isCause_377 rfl) ?_
  refine gcons (snd_g (ok_iload dL_isCause_380 rfl)) ?_
  refine gcons (snd_g (ok_if_ne dL_isCause_382 rfl rfl)) ?_
  refine gcons (snd_g (ok_ldc w_683 dL_isCause_385 rfl)) ?_
  refine gcons (snd_g (ok_goto dL_isCause_387 rfl)) ?_
  refine gcons (snd_g (ok_iload dL_isCause_390 rfl)) ?_
  refine gcons (snd_g (ok_if_ne dL_isCause_392 rfl rfl)) ?_
  refine gcons (snd_g (ok_ldc w_684 dL_isCause_395 rfl)) ?_
  refine gcons (snd_g (ok_goto dL_isCause_397 rfl)) ?_
  refine gcons (snd_g (ok_iload dL_isCause_400 rfl)) ?_
  refine gcons (snd_g (ok_if_eq dL_isCause_402 rfl rfl)) ?_
  refine gcons (snd_g (ok_aload dL_isCause_405 rfl)) ?_
  refine gcons (snd_g (ok_iconst dL_isCause_407 rfl rfl)) ?_
  refine gcons (snd_g (ok_iaload dL_isCause_408 rfl)) ?_
  refine gcons (snd_g (ok_iconst dL_isCause_409 rfl rfl)) ?_
  refine gcons (snd_g (ok_isub dL_isCause_410 rfl)) ?_
  refine gcons (snd_g (ok_goto dL_isCause_411 rfl)) ?_
  refine gcons (snd_g (ok_ldc w_685 dL_isCause_414 rfl)) ?_
  refine gcons (snd_g (ok_icmp_ne dL_isCause_416 rfl rfl)) ?_
  refine gcons (snd_g (ok_iconst dL_isCause_419 rfl rfl)) ?_
  refine gcons (snd_g (ok_goto dL_isCause_420 rfl)) ?_
  refine gcons (snd_g (ok_iconst dL_isCause_423 rfl rfl)) ?_
  refine gcons (snd_g (ok_zreturn rfl (Or.inl rfl) dL_isCause_424)) ?_
  refine gcons (snd_g (ok_iload dL_isCause_425 rfl)) ?_
  refine gcons (snd_g (ok_aload dL_isCause_427 rfl)) ?_
  refine gcons (snd_g (ok_iconst dL_isCause_429 rfl rfl)) ?_
  refine gcons (snd_g (ok_iaload dL_isCause_430 rfl)) ?_
  refine gcons (snd_g (ok_iconst dL_isCause_431 rfl rfl)) ?_
  refine gcons (snd_g (ok_iadd dL_isCause_432 rfl)) ?_
  refine gcons (snd_g (ok_irem dL_isCause_433 rfl)) ?_
  refine gcons (snd_g (ok_istore dL_isCause_434 (by decide) rfl)) ?_
  refine gcons (snd_g (ok_iload dL_isCause_436 rfl)) ?_
  exact fun _ h => nomatch h
def tab_L_isCause_4 : List (Nat × Sem) := [(438, op_al 8 440), (440, op_ic 3 441), (441, op_iald 442), (442, op_cmp (fun x y => y ≤ x) 449 445), (445, op_ic 1 446), (446, op_go 450), (449, op_ic 0 450), (450, op_is 13 452), (452, op_il 13 454), (454, op_if (fun x => x = 0) 471 457), (457, op_al 4 459), (459, op_il 12 461), (461, op_iald 462), (462, op_ic 2048 465), (465, op_dv (fun x y => x / y) 466), (466, op_ic 4 467), (467, op_dv (fun x y => irm x y) 468), (468, op_go 472), (471, op_ic 3 472), (472, op_is 14 474), (474, op_il 9 476), (476, op_ic 2 477), (477, op_cmp (fun x y => y ≤ x) 676 480), (480, op_il 11 482), (482, op_ic 9 484), (484, op_dv (fun x y => irm x y) 485), (485, op_if (fun x => ¬ x = 0) 500 488), (488, op_il 11 490), (490, op_ic 9 492), (492, op_dv (fun x y => x / y) 493), (493, op_ic 129 496), (496, op_dv (fun x y => irm x y) 497), (497, op_go 508), (500, op_ic 32 502), (502, op_il 11 504), (504, op_ic 96 506), (506, op_dv (fun x y => irm x y) 507), (507, op_bin (fun x y => x + y) 508), (508, op_is 15 510), (510, op_il 15 512), (512, op_if (fun x => x ≤ 0) 527 515), (515, op_il 15 517), (517, op_ic 128 520), (520, op_cmp (fun x y => y ≤ x) 527 523), (523, op_ic 1 524), (524, op_go 528), (527, op_ic 0 528), (528, op_is 16 530), (530, op_il 13 532), (532, op_if (fun x => x = 0) 562 535), (535, op_il 16 537), (537, op_if (fun x => x = 0) 562 540), (540, op_il 14 542), (542, op_if (fun x => ¬ x = 0) 562 545), (545, op_al 4 547), (547, op_il 12 549), (549, op_iald 550), (550, op_ic 8192 553), (553, op_dv (fun x y => x / y) 554), (554, op_ic 1 555)]
set_option maxRecDepth 20000 in
theorem tok_L_isCause_4 : ∀ q ∈ tab_L_isCause_4, GSnd RL cL_isCause 22 13 20 (some .boolean) q.1 q.2 := by
  unfold tab_L_isCause_4
  refine gcons (snd_g (ok_aload dL_isCause_438 rfl)) ?_
  refine gcons (snd_g (ok_iconst dL_isCause_440 rfl rfl)) ?_
  refine gcons (snd_g (ok_iaload dL_isCause_441 rfl)) ?_
  refine gcons (snd_g (ok_icmp_ge dL_isCause_442 rfl rfl)) ?_
  refine gcons (snd_g (ok_iconst dL_isCause_445 rfl rfl)) ?_
  refine gcons (snd_g (ok_goto dL_isCause_446 rfl)) ?_
  refine gcons (snd_g (ok_iconst dL_isCause_449 rfl rfl)) ?_
  refine gcons (snd_g (ok_istore dL_isCause_450 (by decide) rfl)) ?_
  refine gcons (snd_g (ok_iload dL_isCause_452 rfl)) ?_
  refine gcons (snd_g (ok_if_eq dL_isCause_454 rfl rfl)) ?_
  refine gcons (snd_g (ok_aload dL_isCause_457 rfl)) ?_
  refine gcons (snd_g (ok_iload dL_isCause_459 rfl)) ?_
  refine gcons (snd_g (ok_iaload dL_isCause_461 rfl)) ?_
  refine gcons (snd_g (ok_sipush dL_isCause_462 rfl rfl)) ?_
  refine gcons (snd_g (ok_idiv dL_isCause_465 rfl)) ?_
  refine gcons (snd_g (ok_iconst dL_isCause_466 rfl rfl)) ?_
  refine gcons (snd_g (ok_irem dL_isCause_467 rfl)) ?_
  refine gcons (snd_g (ok_goto dL_isCause_468 rfl)) ?_
  refine gcons (snd_g (ok_iconst dL_isCause_471 rfl rfl)) ?_
  refine gcons (snd_g (ok_istore dL_isCause_472 (by decide) rfl)) ?_
  refine gcons (snd_g (ok_iload dL_isCause_474 rfl)) ?_
  refine gcons (snd_g (ok_iconst dL_isCause_476 rfl rfl)) ?_
  refine gcons (snd_g (ok_icmp_ge dL_isCause_477 rfl rfl)) ?_
  refine gcons (snd_g (ok_iload dL_isCause_480 rfl)) ?_
  refine gcons (snd_g (ok_bipush dL_isCause_482 rfl rfl)) ?_
  refine gcons (snd_g (ok_irem dL_isCause_484 rfl)) ?_
  refine gcons (snd_g (ok_if_ne dL_isCause_485 rfl rfl)) ?_
  refine gcons (snd_g (ok_iload dL_isCause_488 rfl)) ?_
  refine gcons (snd_g (ok_bipush dL_isCause_490 rfl rfl)) ?_
  refine gcons (snd_g (ok_idiv dL_isCause_492 rfl)) ?_
  refine gcons (snd_g (ok_sipush dL_isCause_493 rfl rfl)) ?_
  refine gcons (snd_g (ok_irem dL_isCause_496 rfl)) ?_
  refine gcons (snd_g (ok_goto dL_isCause_497 rfl)) ?_
  refine gcons (snd_g (ok_bipush dL_isCause_500 rfl rfl)) ?_
  refine gcons (snd_g (ok_iload dL_isCause_502 rfl)) ?_
  refine gcons (snd_g (ok_bipush dL_isCause_504 rfl rfl)) ?_
  refine gcons (snd_g (ok_irem dL_isCause_506 rfl)) ?_
  refine gcons (snd_g (ok_iadd dL_isCause_507 rfl)) ?_
  refine gcons (snd_g (ok_istore dL_isCause_508 (by decide) rfl)) ?_
  refine gcons (snd_g (ok_iload dL_isCause_510 rfl)) ?_
  refine gcons (snd_g (ok_if_le dL_isCause_512 rfl rfl)) ?_
  refine gcons (snd_g (ok_iload dL_isCause_515 rfl)) ?_
  refine gcons (snd_g (ok_sipush dL_isCause_517 rfl rfl)) ?_
  refine gcons (snd_g (ok_icmp_ge dL_isCause_520 rfl rfl)) ?_
  refine gcons (snd_g (ok_iconst dL_isCause_523 rfl rfl)) ?_
  refine gcons (snd_g (ok_goto dL_isCause_524 rfl)) ?_
  refine gcons (snd_g (ok_iconst dL_isCause_527 rfl rfl)) ?_
  refine gcons (snd_g (ok_istore dL_isCause_528 (by decide) rfl)) ?_
  refine gcons (snd_g (ok_iload dL_isCause_530 rfl)) ?_
  refine gcons (snd_g (ok_if_eq dL_isCause_532 rfl rfl)) ?_
  refine gcons (snd_g (ok_iload dL_isCause_535 rfl)) ?_
  refine gcons (snd_g (ok_if_eq dL_isCause_537 rfl rfl)) ?_
  refine gcons (snd_g (ok_iload dL_isCause_540 rfl)) ?_
  refine gcons (snd_g (ok_if_ne dL_isCause_542 rfl rfl)) ?_
  refine gcons (snd_g (ok_aload dL_isCause_545 rfl)) ?_
  refine gcons (snd_g (ok_iload dL_isCause_547 rfl)) ?_
  refine gcons (snd_g (ok_iaload dL_isCause_549 rfl)) ?_
  refine gcons (snd_g (ok_sipush dL_isCause_550 rfl rfl)) ?_
  refine gcons (snd_g (ok_idiv dL_isCause_553 rfl)) ?_
  refine gcons (snd_g (ok_iconst dL_isCause_554 rfl rfl)) ?_
  exact fun _ h => nomatch h
def tab_L_isCause_5 : List (Nat × Sem) := [(555, op_cmp (fun x y => ¬ x = y) 562 558), (558, op_ic 1 559), (559, op_go 563), (562, op_ic 0 563), (563, op_is 17 565), (565, op_il 13 567), (567, op_if (fun x => x = 0) 585 570), (570, op_al 4 572), (572, op_il 12 574), (574, op_iald 575), (575, op_ic 16 577), (577, op_dv (fun x y => x / y) 578), (578, op_ic 128 581), (581, op_dv (fun x y => irm x y) 582), (582, op_go 586), (585, op_ic 0 586), (586, op_is 18 588), (588, op_al 4 590), (590, op_il 17 592), (592, op_if (fun x => x = 0) 600 595), (595, op_il 12 597), (597, op_go 602), (600, op_ic 8 602), (602, op_dup2 603), (603, op_iald 604), (604, op_il 17 606), (606, op_if (fun x => x = 0) 620 609), (609, op_ic 16 611), (611, op_il 15 613), (613, op_il 18 615), (615, op_bin (fun x y => x - y) 616), (616, op_bin (fun x y => x * y) 617), (617, op_go 621), (620, op_ic 0 621), (621, op_bin (fun x y => x + y) 622), (622, op_iast 623), (623, op_al 0 624), (624, op_ic 14 626), (626, op_il 12 628), (628, op_il 15 630), (630, op_ic 0 631), (631, op_ic 0 632), (632, op_callHN sp_L_does 6 16 635), (635, op_il 13 637), (637, op_if (fun x => ¬ x = 0) 645 640), (640, op_ic (-3000000) 642), (642, op_go 667), (645, op_il 16 647), (647, op_if (fun x => ¬ x = 0) 655 650), (650, op_ic (-2000000) 652), (652, op_go 667), (655, op_il 17 657), (657, op_if (fun x => x = 0) 665 660), (660, op_il 18 662), (662, op_go 667), (665, op_ic (-1000000) 667), (667, op_cmp (fun x y => ¬ x = y) 674 670), (670, op_ic 1 671), (671, op_go 675), (674, op_ic 0 675)]
set_option maxRecDepth 20000 in
theorem tok_L_isCause_5 : ∀ q ∈ tab_L_isCause_5, GSnd RL cL_isCause 22 13 20 (some .boolean) q.1 q.2 := by
  unfold tab_L_isCause_5
  refine gcons (snd_g (ok_icmp_ne dL_isCause_555 rfl rfl)) ?_
  refine gcons (snd_g (ok_iconst dL_isCause_558 rfl rfl)) ?_
  refine gcons (snd_g (ok_goto dL_isCause_559 rfl)) ?_
  refine gcons (snd_g (ok_iconst dL_isCause_562 rfl rfl)) ?_
  refine gcons (snd_g (ok_istore dL_isCause_563 (by decide) rfl)) ?_
  refine gcons (snd_g (ok_iload dL_isCause_565 rfl)) ?_
  refine gcons (snd_g (ok_if_eq dL_isCause_567 rfl rfl)) ?_
  refine gcons (snd_g (ok_aload dL_isCause_570 rfl)) ?_
  refine gcons (snd_g (ok_iload dL_isCause_572 rfl)) ?_
  refine gcons (snd_g (ok_iaload dL_isCause_574 rfl)) ?_
  refine gcons (snd_g (ok_bipush dL_isCause_575 rfl rfl)) ?_
  refine gcons (snd_g (ok_idiv dL_isCause_577 rfl)) ?_
  refine gcons (snd_g (ok_sipush dL_isCause_578 rfl rfl)) ?_
  refine gcons (snd_g (ok_irem dL_isCause_581 rfl)) ?_
  refine gcons (snd_g (ok_goto dL_isCause_582 rfl)) ?_
  refine gcons (snd_g (ok_iconst dL_isCause_585 rfl rfl)) ?_
  refine gcons (snd_g (ok_istore dL_isCause_586 (by decide) rfl)) ?_
  refine gcons (snd_g (ok_aload dL_isCause_588 rfl)) ?_
  refine gcons (snd_g (ok_iload dL_isCause_590 rfl)) ?_
  refine gcons (snd_g (ok_if_eq dL_isCause_592 rfl rfl)) ?_
  refine gcons (snd_g (ok_iload dL_isCause_595 rfl)) ?_
  refine gcons (snd_g (ok_goto dL_isCause_597 rfl)) ?_
  refine gcons (snd_g (ok_bipush dL_isCause_600 rfl rfl)) ?_
  refine gcons (snd_g (ok_dup2 dL_isCause_602 rfl)) ?_
  refine gcons (snd_g (ok_iaload dL_isCause_603 rfl)) ?_
  refine gcons (snd_g (ok_iload dL_isCause_604 rfl)) ?_
  refine gcons (snd_g (ok_if_eq dL_isCause_606 rfl rfl)) ?_
  refine gcons (snd_g (ok_bipush dL_isCause_609 rfl rfl)) ?_
  refine gcons (snd_g (ok_iload dL_isCause_611 rfl)) ?_
  refine gcons (snd_g (ok_iload dL_isCause_613 rfl)) ?_
  refine gcons (snd_g (ok_isub dL_isCause_615 rfl)) ?_
  refine gcons (snd_g (ok_imul dL_isCause_616 rfl)) ?_
  refine gcons (snd_g (ok_goto dL_isCause_617 rfl)) ?_
  refine gcons (snd_g (ok_iconst dL_isCause_620 rfl rfl)) ?_
  refine gcons (snd_g (ok_iadd dL_isCause_621 rfl)) ?_
  refine gcons (snd_g (ok_iastore dL_isCause_622 rfl)) ?_
  refine gcons (snd_g (ok_aload_n dL_isCause_623 rfl rfl)) ?_
  refine gcons (snd_g (ok_bipush dL_isCause_624 rfl rfl)) ?_
  refine gcons (snd_g (ok_iload dL_isCause_626 rfl)) ?_
  refine gcons (snd_g (ok_iload dL_isCause_628 rfl)) ?_
  refine gcons (snd_g (ok_iconst dL_isCause_630 rfl rfl)) ?_
  refine gcons (snd_g (ok_iconst dL_isCause_631 rfl rfl)) ?_
  refine gcons (ok_invokestaticHN M_L_does w_128 w_129 w_19 w_130 ⟨by decide, by decide, by decide +kernel⟩ (by decide) (by decide) dL_isCause_632 rfl) ?_
  refine gcons (snd_g (ok_iload dL_isCause_635 rfl)) ?_
  refine gcons (snd_g (ok_if_ne dL_isCause_637 rfl rfl)) ?_
  refine gcons (snd_g (ok_ldc w_683 dL_isCause_640 rfl)) ?_
  refine gcons (snd_g (ok_goto dL_isCause_642 rfl)) ?_
  refine gcons (snd_g (ok_iload dL_isCause_645 rfl)) ?_
  refine gcons (snd_g (ok_if_ne dL_isCause_647 rfl rfl)) ?_
  refine gcons (snd_g (ok_ldc w_684 dL_isCause_650 rfl)) ?_
  refine gcons (snd_g (ok_goto dL_isCause_652 rfl)) ?_
  refine gcons (snd_g (ok_iload dL_isCause_655 rfl)) ?_
  refine gcons (snd_g (ok_if_eq dL_isCause_657 rfl rfl)) ?_
  refine gcons (snd_g (ok_iload dL_isCause_660 rfl)) ?_
  refine gcons (snd_g (ok_goto dL_isCause_662 rfl)) ?_
  refine gcons (snd_g (ok_ldc w_685 dL_isCause_665 rfl)) ?_
  refine gcons (snd_g (ok_icmp_ne dL_isCause_667 rfl rfl)) ?_
  refine gcons (snd_g (ok_iconst dL_isCause_670 rfl rfl)) ?_
  refine gcons (snd_g (ok_goto dL_isCause_671 rfl)) ?_
  refine gcons (snd_g (ok_iconst dL_isCause_674 rfl rfl)) ?_
  exact fun _ h => nomatch h
def tab_L_isCause_6 : List (Nat × Sem) := [(675, op_zret), (676, op_il 9 678), (678, op_ic 2 679), (679, op_cmp (fun x y => ¬ x = y) 906 682), (682, op_il 11 684), (684, op_ic 9 686), (686, op_dv (fun x y => irm x y) 687), (687, op_ic 8 689), (689, op_cmp (fun x y => ¬ x = y) 697 692), (692, op_ic 7 694), (694, op_go 703), (697, op_ic 4 698), (698, op_il 11 700), (700, op_ic 3 701), (701, op_dv (fun x y => irm x y) 702), (702, op_bin (fun x y => x + y) 703), (703, op_is 15 705), (705, op_il 11 707), (707, op_ic 9 709), (709, op_dv (fun x y => x / y) 710), (710, op_ic 5 711), (711, op_dv (fun x y => irm x y) 712), (712, op_if (fun x => ¬ x = 0) 729 715), (715, op_il 11 717), (717, op_ic 45 719), (719, op_dv (fun x y => x / y) 720), (720, op_ic 23 722), (722, op_dv (fun x y => irm x y) 723), (723, op_ic 11 725), (725, op_bin (fun x y => x - y) 726), (726, op_go 739), (729, op_ic 5 730), (730, op_il 11 732), (732, op_ic 45 734), (734, op_dv (fun x y => x / y) 735), (735, op_ic 6 737), (737, op_dv (fun x y => irm x y) 738), (738, op_bin (fun x y => x + y) 739), (739, op_is 16 741), (741, op_il 15 743), (743, op_ic 7 745), (745, op_cmp (fun x y => y ≤ x) 766 748), (748, op_il 16 750), (750, op_ic (-11) 752), (752, op_cmp (fun x y => x ≤ y) 766 755), (755, op_il 16 757), (757, op_ic 11 759), (759, op_cmp (fun x y => y ≤ x) 766 762), (762, op_ic 1 763), (763, op_go 767), (766, op_ic 0 767), (767, op_is 17 769), (769, op_il 13 771), (771, op_if (fun x => x = 0) 805 774), (774, op_il 17 776), (776, op_if (fun x => x = 0) 805 779), (779, op_il 14 781), (781, op_if (fun x => ¬ x = 0) 805 784), (784, op_al 4 786), (786, op_il 12 788)]
set_option maxRecDepth 20000 in
theorem tok_L_isCause_6 : ∀ q ∈ tab_L_isCause_6, GSnd RL cL_isCause 22 13 20 (some .boolean) q.1 q.2 := by
  unfold tab_L_isCause_6
  refine gcons (snd_g (ok_zreturn rfl (Or.inl rfl) dL_isCause_675)) ?_
  refine gcons (snd_g (ok_iload dL_isCause_676 rfl)) ?_
  refine gcons (snd_g (ok_iconst dL_isCause_678 rfl rfl)) ?_
  refine gcons (snd_g (ok_icmp_ne dL_isCause_679 rfl rfl)) ?_
  refine gcons (snd_g (ok_iload dL_isCause_682 rfl)) ?_
  refine gcons (snd_g (ok_bipush dL_isCause_684 rfl rfl)) ?_
  refine gcons (snd_g (ok_irem dL_isCause_686 rfl)) ?_
  refine gcons (snd_g (ok_bipush dL_isCause_687 rfl rfl)) ?_
  refine gcons (snd_g (ok_icmp_ne dL_isCause_689 rfl rfl)) ?_
  refine gcons (snd_g (ok_bipush dL_isCause_692 rfl rfl)) ?_
  refine gcons (snd_g (ok_goto dL_isCause_694 rfl)) ?_
  refine gcons (snd_g (ok_iconst dL_isCause_697 rfl rfl)) ?_
  refine gcons (snd_g (ok_iload dL_isCause_698 rfl)) ?_
  refine gcons (snd_g (ok_iconst dL_isCause_700 rfl rfl)) ?_
  refine gcons (snd_g (ok_irem dL_isCause_701 rfl)) ?_
  refine gcons (snd_g (ok_iadd dL_isCause_702 rfl)) ?_
  refine gcons (snd_g (ok_istore dL_isCause_703 (by decide) rfl)) ?_
  refine gcons (snd_g (ok_iload dL_isCause_705 rfl)) ?_
  refine gcons (snd_g (ok_bipush dL_isCause_707 rfl rfl)) ?_
  refine gcons (snd_g (ok_idiv dL_isCause_709 rfl)) ?_
  refine gcons (snd_g (ok_iconst dL_isCause_710 rfl rfl)) ?_
  refine gcons (snd_g (ok_irem dL_isCause_711 rfl)) ?_
  refine gcons (snd_g (ok_if_ne dL_isCause_712 rfl rfl)) ?_
  refine gcons (snd_g (ok_iload dL_isCause_715 rfl)) ?_
  refine gcons (snd_g (ok_bipush dL_isCause_717 rfl rfl)) ?_
  refine gcons (snd_g (ok_idiv dL_isCause_719 rfl)) ?_
  refine gcons (snd_g (ok_bipush dL_isCause_720 rfl rfl)) ?_
  refine gcons (snd_g (ok_irem dL_isCause_722 rfl)) ?_
  refine gcons (snd_g (ok_bipush dL_isCause_723 rfl rfl)) ?_
  refine gcons (snd_g (ok_isub dL_isCause_725 rfl)) ?_
  refine gcons (snd_g (ok_goto dL_isCause_726 rfl)) ?_
  refine gcons (snd_g (ok_iconst dL_isCause_729 rfl rfl)) ?_
  refine gcons (snd_g (ok_iload dL_isCause_730 rfl)) ?_
  refine gcons (snd_g (ok_bipush dL_isCause_732 rfl rfl)) ?_
  refine gcons (snd_g (ok_idiv dL_isCause_734 rfl)) ?_
  refine gcons (snd_g (ok_bipush dL_isCause_735 rfl rfl)) ?_
  refine gcons (snd_g (ok_irem dL_isCause_737 rfl)) ?_
  refine gcons (snd_g (ok_iadd dL_isCause_738 rfl)) ?_
  refine gcons (snd_g (ok_istore dL_isCause_739 (by decide) rfl)) ?_
  refine gcons (snd_g (ok_iload dL_isCause_741 rfl)) ?_
  refine gcons (snd_g (ok_bipush dL_isCause_743 rfl rfl)) ?_
  refine gcons (snd_g (ok_icmp_ge dL_isCause_745 rfl rfl)) ?_
  refine gcons (snd_g (ok_iload dL_isCause_748 rfl)) ?_
  refine gcons (snd_g (ok_bipush dL_isCause_750 rfl rfl)) ?_
  refine gcons (snd_g (ok_icmp_le dL_isCause_752 rfl rfl)) ?_
  refine gcons (snd_g (ok_iload dL_isCause_755 rfl)) ?_
  refine gcons (snd_g (ok_bipush dL_isCause_757 rfl rfl)) ?_
  refine gcons (snd_g (ok_icmp_ge dL_isCause_759 rfl rfl)) ?_
  refine gcons (snd_g (ok_iconst dL_isCause_762 rfl rfl)) ?_
  refine gcons (snd_g (ok_goto dL_isCause_763 rfl)) ?_
  refine gcons (snd_g (ok_iconst dL_isCause_766 rfl rfl)) ?_
  refine gcons (snd_g (ok_istore dL_isCause_767 (by decide) rfl)) ?_
  refine gcons (snd_g (ok_iload dL_isCause_769 rfl)) ?_
  refine gcons (snd_g (ok_if_eq dL_isCause_771 rfl rfl)) ?_
  refine gcons (snd_g (ok_iload dL_isCause_774 rfl)) ?_
  refine gcons (snd_g (ok_if_eq dL_isCause_776 rfl rfl)) ?_
  refine gcons (snd_g (ok_iload dL_isCause_779 rfl)) ?_
  refine gcons (snd_g (ok_if_ne dL_isCause_781 rfl rfl)) ?_
  refine gcons (snd_g (ok_aload dL_isCause_784 rfl)) ?_
  refine gcons (snd_g (ok_iload dL_isCause_786 rfl)) ?_
  exact fun _ h => nomatch h
def tab_L_isCause_7 : List (Nat × Sem) := [(788, op_iald 789), (789, op_ic 16 791), (791, op_dv (fun x y => x / y) 792), (792, op_il 15 794), (794, op_bin (fun x y => x >>> (y &&& 31)) 795), (795, op_ic 1 796), (796, op_bin (fun x y => x &&& y) 797), (797, op_ic 1 798), (798, op_cmp (fun x y => ¬ x = y) 805 801), (801, op_ic 1 802), (802, op_go 806), (805, op_ic 0 806), (806, op_is 18 808), (808, op_al 5 810), (810, op_il 18 812), (812, op_if (fun x => x = 0) 826 815), (815, op_ic 7 817), (817, op_il 12 819), (819, op_bin (fun x y => x * y) 820), (820, op_il 15 822), (822, op_bin (fun x y => x + y) 823), (823, op_go 828), (826, op_ic 56 828), (828, op_dup2 829), (829, op_iald 830), (830, op_il 18 832), (832, op_if (fun x => x = 0) 840 835), (835, op_il 16 837), (837, op_go 841), (840, op_ic 0 841), (841, op_bin (fun x y => x + y) 842), (842, op_iast 843), (843, op_al 0 844), (844, op_ic 15 846), (846, op_il 12 848), (848, op_il 15 850), (850, op_il 16 852), (852, op_ic 0 853), (853, op_callHN sp_L_does 6 16 856), (856, op_il 13 858), (858, op_if (fun x => ¬ x = 0) 866 861), (861, op_ic (-3000000) 863), (863, op_go 897), (866, op_il 17 868), (868, op_if (fun x => ¬ x = 0) 876 871), (871, op_ic (-2000000) 873), (873, op_go 897), (876, op_il 18 878), (878, op_if (fun x => x = 0) 895 881), (881, op_al 5 883), (883, op_ic 7 885), (885, op_il 12 887), (887, op_bin (fun x y => x * y) 888), (888, op_il 15 890), (890, op_bin (fun x y => x + y) 891), (891, op_iald 892), (892, op_go 897), (895, op_ic (-1000000) 897), (897, op_cmp (fun x y => ¬ x = y) 904 900), (900, op_ic 1 901)]
set_option maxRecDepth 20000 in
theorem tok_L_isCause_7 : ∀ q ∈ tab_L_isCause_7, GSnd RL cL_isCause 22 13 20 (some .boolean) q.1 q.2 := by
  unfold tab_L_isCause_7
  refine gcons (snd_g (ok_iaload dL_isCause_788 rfl)) ?_
  refine gcons (snd_g (ok_bipush dL_isCause_789 rfl rfl)) ?_
  refine gcons (snd_g (ok_idiv dL_isCause_791 rfl)) ?_
  refine gcons (snd_g (ok_iload dL_isCause_792 rfl)) ?_
  refine gcons (snd_g (ok_ishr dL_isCause_794 rfl)) ?_
  refine gcons (snd_g (ok_iconst dL_isCause_795 rfl rfl)) ?_
  refine gcons (snd_g (ok_iand dL_isCause_796 rfl)) ?_
  refine gcons (snd_g (ok_iconst dL_isCause_797 rfl rfl)) ?_
  refine gcons (snd_g (ok_icmp_ne dL_isCause_798 rfl rfl)) ?_
  refine gcons (snd_g (ok_iconst dL_isCause_801 rfl rfl)) ?_
  refine gcons (snd_g (ok_goto dL_isCause_802 rfl)) ?_
  refine gcons (snd_g (ok_iconst dL_isCause_805 rfl rfl)) ?_
  refine gcons (snd_g (ok_istore dL_isCause_806 (by decide) rfl)) ?_
  refine gcons (snd_g (ok_aload dL_isCause_808 rfl)) ?_
  refine gcons (snd_g (ok_iload dL_isCause_810 rfl)) ?_
  refine gcons (snd_g (ok_if_eq dL_isCause_812 rfl rfl)) ?_
  refine gcons (snd_g (ok_bipush dL_isCause_815 rfl rfl)) ?_
  refine gcons (snd_g (ok_iload dL_isCause_817 rfl)) ?_
  refine gcons (snd_g (ok_imul dL_isCause_819 rfl)) ?_
  refine gcons (snd_g (ok_iload dL_isCause_820 rfl)) ?_
  refine gcons (snd_g (ok_iadd dL_isCause_822 rfl)) ?_
  refine gcons (snd_g (ok_goto dL_isCause_823 rfl)) ?_
  refine gcons (snd_g (ok_bipush dL_isCause_826 rfl rfl)) ?_
  refine gcons (snd_g (ok_dup2 dL_isCause_828 rfl)) ?_
  refine gcons (snd_g (ok_iaload dL_isCause_829 rfl)) ?_
  refine gcons (snd_g (ok_iload dL_isCause_830 rfl)) ?_
  refine gcons (snd_g (ok_if_eq dL_isCause_832 rfl rfl)) ?_
  refine gcons (snd_g (ok_iload dL_isCause_835 rfl)) ?_
  refine gcons (snd_g (ok_goto dL_isCause_837 rfl)) ?_
  refine gcons (snd_g (ok_iconst dL_isCause_840 rfl rfl)) ?_
  refine gcons (snd_g (ok_iadd dL_isCause_841 rfl)) ?_
  refine gcons (snd_g (ok_iastore dL_isCause_842 rfl)) ?_
  refine gcons (snd_g (ok_aload_n dL_isCause_843 rfl rfl)) ?_
  refine gcons (snd_g (ok_bipush dL_isCause_844 rfl rfl)) ?_
  refine gcons (snd_g (ok_iload dL_isCause_846 rfl)) ?_
  refine gcons (snd_g (ok_iload dL_isCause_848 rfl)) ?_
  refine gcons (snd_g (ok_iload dL_isCause_850 rfl)) ?_
  refine gcons (snd_g (ok_iconst dL_isCause_852 rfl rfl)) ?_
  refine gcons (ok_invokestaticHN M_L_does w_128 w_129 w_19 w_130 ⟨by decide, by decide, by decide +kernel⟩ (by decide) (by decide) dL_isCause_853 rfl) ?_
  refine gcons (snd_g (ok_iload dL_isCause_856 rfl)) ?_
  refine gcons (snd_g (ok_if_ne dL_isCause_858 rfl rfl)) ?_
  refine gcons (snd_g (ok_ldc w_683 dL_isCause_861 rfl)) ?_
  refine gcons (snd_g (ok_goto dL_isCause_863 rfl)) ?_
  refine gcons (snd_g (ok_iload dL_isCause_866 rfl)) ?_
  refine gcons (snd_g (ok_if_ne dL_isCause_868 rfl rfl)) ?_
  refine gcons (snd_g (ok_ldc w_684 dL_isCause_871 rfl)) ?_
  refine gcons (snd_g (ok_goto dL_isCause_873 rfl)) ?_
  refine gcons (snd_g (ok_iload dL_isCause_876 rfl)) ?_
  refine gcons (snd_g (ok_if_eq dL_isCause_878 rfl rfl)) ?_
  refine gcons (snd_g (ok_aload dL_isCause_881 rfl)) ?_
  refine gcons (snd_g (ok_bipush dL_isCause_883 rfl rfl)) ?_
  refine gcons (snd_g (ok_iload dL_isCause_885 rfl)) ?_
  refine gcons (snd_g (ok_imul dL_isCause_887 rfl)) ?_
  refine gcons (snd_g (ok_iload dL_isCause_888 rfl)) ?_
  refine gcons (snd_g (ok_iadd dL_isCause_890 rfl)) ?_
  refine gcons (snd_g (ok_iaload dL_isCause_891 rfl)) ?_
  refine gcons (snd_g (ok_goto dL_isCause_892 rfl)) ?_
  refine gcons (snd_g (ok_ldc w_685 dL_isCause_895 rfl)) ?_
  refine gcons (snd_g (ok_icmp_ne dL_isCause_897 rfl rfl)) ?_
  refine gcons (snd_g (ok_iconst dL_isCause_900 rfl rfl)) ?_
  exact fun _ h => nomatch h
def tab_L_isCause_8 : List (Nat × Sem) := [(901, op_go 905), (904, op_ic 0 905), (905, op_zret), (906, op_il 9 908), (908, op_ic 3 909), (909, op_cmp (fun x y => ¬ x = y) 1008 912), (912, op_il 13 914), (914, op_if (fun x => x = 0) 926 917), (917, op_il 14 919), (919, op_if (fun x => ¬ x = 0) 926 922), (922, op_ic 1 923), (923, op_go 927), (926, op_ic 0 927), (927, op_is 15 929), (929, op_al 4 931), (931, op_il 15 933), (933, op_if (fun x => x = 0) 941 936), (936, op_il 12 938), (938, op_go 943), (941, op_ic 8 943), (943, op_dup2 944), (944, op_iald 945), (945, op_il 15 947), (947, op_if (fun x => x = 0) 956 950), (950, op_ic 2048 953), (953, op_go 957), (956, op_ic 0 957), (957, op_bin (fun x y => x + y) 958), (958, op_iast 959), (959, op_al 0 960), (960, op_ic 16 962), (962, op_il 12 964), (964, op_ic 0 965), (965, op_ic 0 966), (966, op_ic 0 967), (967, op_callHN sp_L_does 6 16 970), (970, op_il 13 972), (972, op_if (fun x => ¬ x = 0) 980 975), (975, op_ic (-3000000) 977), (977, op_go 999), (980, op_il 15 982), (982, op_if (fun x => x = 0) 997 985), (985, op_al 4 987), (987, op_al 5 989), (989, op_il 12 991), (991, op_callN sp_L_proven 3 0 994), (994, op_go 999), (997, op_ic (-1000000) 999), (999, op_cmp (fun x y => ¬ x = y) 1006 1002), (1002, op_ic 1 1003), (1003, op_go 1007), (1006, op_ic 0 1007), (1007, op_zret), (1008, op_il 9 1010), (1010, op_ic 4 1011), (1011, op_cmp (fun x y => ¬ x = y) 1323 1014), (1014, op_il 11 1016), (1016, op_ic 9 1018), (1018, op_dv (fun x y => irm x y) 1019), (1019, op_ic 8 1021)]
set_option maxRecDepth 20000 in
theorem tok_L_isCause_8 : ∀ q ∈ tab_L_isCause_8, GSnd RL cL_isCause 22 13 20 (some .boolean) q.1 q.2 := by
  unfold tab_L_isCause_8
  refine gcons (snd_g (ok_goto dL_isCause_901 rfl)) ?_
  refine gcons (snd_g (ok_iconst dL_isCause_904 rfl rfl)) ?_
  refine gcons (snd_g (ok_zreturn rfl (Or.inl rfl) dL_isCause_905)) ?_
  refine gcons (snd_g (ok_iload dL_isCause_906 rfl)) ?_
  refine gcons (snd_g (ok_iconst dL_isCause_908 rfl rfl)) ?_
  refine gcons (snd_g (ok_icmp_ne dL_isCause_909 rfl rfl)) ?_
  refine gcons (snd_g (ok_iload dL_isCause_912 rfl)) ?_
  refine gcons (snd_g (ok_if_eq dL_isCause_914 rfl rfl)) ?_
  refine gcons (snd_g (ok_iload dL_isCause_917 rfl)) ?_
  refine gcons (snd_g (ok_if_ne dL_isCause_919 rfl rfl)) ?_
  refine gcons (snd_g (ok_iconst dL_isCause_922 rfl rfl)) ?_
  refine gcons (snd_g (ok_goto dL_isCause_923 rfl)) ?_
  refine gcons (snd_g (ok_iconst dL_isCause_926 rfl rfl)) ?_
  refine gcons (snd_g (ok_istore dL_isCause_927 (by decide) rfl)) ?_
  refine gcons (snd_g (ok_aload dL_isCause_929 rfl)) ?_
  refine gcons (snd_g (ok_iload dL_isCause_931 rfl)) ?_
  refine gcons (snd_g (ok_if_eq dL_isCause_933 rfl rfl)) ?_
  refine gcons (snd_g (ok_iload dL_isCause_936 rfl)) ?_
  refine gcons (snd_g (ok_goto dL_isCause_938 rfl)) ?_
  refine gcons (snd_g (ok_bipush dL_isCause_941 rfl rfl)) ?_
  refine gcons (snd_g (ok_dup2 dL_isCause_943 rfl)) ?_
  refine gcons (snd_g (ok_iaload dL_isCause_944 rfl)) ?_
  refine gcons (snd_g (ok_iload dL_isCause_945 rfl)) ?_
  refine gcons (snd_g (ok_if_eq dL_isCause_947 rfl rfl)) ?_
  refine gcons (snd_g (ok_sipush dL_isCause_950 rfl rfl)) ?_
  refine gcons (snd_g (ok_goto dL_isCause_953 rfl)) ?_
  refine gcons (snd_g (ok_iconst dL_isCause_956 rfl rfl)) ?_
  refine gcons (snd_g (ok_iadd dL_isCause_957 rfl)) ?_
  refine gcons (snd_g (ok_iastore dL_isCause_958 rfl)) ?_
  refine gcons (snd_g (ok_aload_n dL_isCause_959 rfl rfl)) ?_
  refine gcons (snd_g (ok_bipush dL_isCause_960 rfl rfl)) ?_
  refine gcons (snd_g (ok_iload dL_isCause_962 rfl)) ?_
  refine gcons (snd_g (ok_iconst dL_isCause_964 rfl rfl)) ?_
  refine gcons (snd_g (ok_iconst dL_isCause_965 rfl rfl)) ?_
  refine gcons (snd_g (ok_iconst dL_isCause_966 rfl rfl)) ?_
  refine gcons (ok_invokestaticHN M_L_does w_128 w_129 w_19 w_130 ⟨by decide, by decide, by decide +kernel⟩ (by decide) (by decide) dL_isCause_967 rfl) ?_
  refine gcons (snd_g (ok_iload dL_isCause_970 rfl)) ?_
  refine gcons (snd_g (ok_if_ne dL_isCause_972 rfl rfl)) ?_
  refine gcons (snd_g (ok_ldc w_683 dL_isCause_975 rfl)) ?_
  refine gcons (snd_g (ok_goto dL_isCause_977 rfl)) ?_
  refine gcons (snd_g (ok_iload dL_isCause_980 rfl)) ?_
  refine gcons (snd_g (ok_if_eq dL_isCause_982 rfl rfl)) ?_
  refine gcons (snd_g (ok_aload dL_isCause_985 rfl)) ?_
  refine gcons (snd_g (ok_aload dL_isCause_987 rfl)) ?_
  refine gcons (snd_g (ok_iload dL_isCause_989 rfl)) ?_
  refine gcons (snd_g (ok_invokestaticN M_L_proven w_937 w_938 w_19 w_939 ⟨by decide, by decide, by decide +kernel⟩ (by decide) (by decide) dL_isCause_991 rfl)) ?_
  refine gcons (snd_g (ok_goto dL_isCause_994 rfl)) ?_
  refine gcons (snd_g (ok_ldc w_685 dL_isCause_997 rfl)) ?_
  refine gcons (snd_g (ok_icmp_ne dL_isCause_999 rfl rfl)) ?_
  refine gcons (snd_g (ok_iconst dL_isCause_1002 rfl rfl)) ?_
  refine gcons (snd_g (ok_goto dL_isCause_1003 rfl)) ?_
  refine gcons (snd_g (ok_iconst dL_isCause_1006 rfl rfl)) ?_
  refine gcons (snd_g (ok_zreturn rfl (Or.inl rfl) dL_isCause_1007)) ?_
  refine gcons (snd_g (ok_iload dL_isCause_1008 rfl)) ?_
  refine gcons (snd_g (ok_iconst dL_isCause_1010 rfl rfl)) ?_
  refine gcons (snd_g (ok_icmp_ne dL_isCause_1011 rfl rfl)) ?_
  refine gcons (snd_g (ok_iload dL_isCause_1014 rfl)) ?_
  refine gcons (snd_g (ok_bipush dL_isCause_1016 rfl rfl)) ?_
  refine gcons (snd_g (ok_irem dL_isCause_1018 rfl)) ?_
  refine gcons (snd_g (ok_bipush dL_isCause_1019 rfl rfl)) ?_
  exact fun _ h => nomatch h
def tab_L_isCause_9 : List (Nat × Sem) := [(1021, op_cmp (fun x y => ¬ x = y) 1028 1024), (1024, op_ic 3 1025), (1025, op_go 1032), (1028, op_il 11 1030), (1030, op_ic 3 1031), (1031, op_dv (fun x y => irm x y) 1032), (1032, op_is 15 1034), (1034, op_il 11 1036), (1036, op_ic 9 1038), (1038, op_dv (fun x y => x / y) 1039), (1039, op_ic 9 1041), (1041, op_dv (fun x y => irm x y) 1042), (1042, op_if (fun x => ¬ x = 0) 1057 1045), (1045, op_il 11 1047), (1047, op_ic 81 1049), (1049, op_dv (fun x y => x / y) 1050), (1050, op_ic 129 1053), (1053, op_dv (fun x y => irm x y) 1054), (1054, op_go 1075), (1057, op_il 13 1059), (1059, op_if (fun x => x = 0) 1074 1062), (1062, op_al 4 1064), (1064, op_al 5 1066), (1066, op_il 12 1068), (1068, op_callN sp_L_proven 3 0 1071), (1071, op_go 1075), (1074, op_ic 0 1075), (1075, op_is 16 1077), (1077, op_il 13 1079), (1079, op_if (fun x => x = 0) 1092 1082), (1082, op_il 15 1084), (1084, op_ic 3 1085), (1085, op_cmp (fun x y => y ≤ x) 1092 1088), (1088, op_ic 1 1089), (1089, op_go 1093), (1092, op_ic 0 1093), (1093, op_is 17 1095), (1095, op_il 15 1097), (1097, op_if (fun x => ¬ x = 0) 1104 1100), (1100, op_ic 1 1101), (1101, op_go 1119), (1104, op_il 15 1106), (1106, op_ic 1 1107), (1107, op_cmp (fun x y => ¬ x = y) 1116 1110), (1110, op_ic 129 1113), (1113, op_go 1119), (1116, op_ic 16641 1119), (1119, op_is 18 1121), (1121, op_il 17 1123), (1123, op_if (fun x => x = 0) 1176 1126), (1126, op_il 16 1128), (1128, op_ic 128 1131), (1131, op_cmp (fun x y => y ≤ x) 1176 1134), (1134, op_il 14 1136), (1136, op_ic 1 1137), (1137, op_cmp (fun x y => ¬ x = y) 1176 1140), (1140, op_al 6 1142), (1142, op_il 12 1144), (1144, op_iald 1145), (1145, op_il 18 1147)]
set_option maxRecDepth 20000 in
theorem tok_L_isCause_9 : ∀ q ∈ tab_L_isCause_9, GSnd RL cL_isCause 22 13 20 (some .boolean) q.1 q.2 := by
  unfold tab_L_isCause_9
  refine gcons (snd_g (ok_icmp_ne dL_isCause_1021 rfl rfl)) ?_
  refine gcons (snd_g (ok_iconst dL_isCause_1024 rfl rfl)) ?_
  refine gcons (snd_g (ok_goto dL_isCause_1025 rfl)) ?_
  refine gcons (snd_g (ok_iload dL_isCause_1028 rfl)) ?_
  refine gcons (snd_g (ok_iconst dL_isCause_1030 rfl rfl)) ?_
  refine gcons (snd_g (ok_irem dL_isCause_1031 rfl)) ?_
  refine gcons (snd_g (ok_istore dL_isCause_1032 (by decide) rfl)) ?_
  refine gcons (snd_g (ok_iload dL_isCause_1034 rfl)) ?_
  refine gcons (snd_g (ok_bipush dL_isCause_1036 rfl rfl)) ?_
  refine gcons (snd_g (ok_idiv dL_isCause_1038 rfl)) ?_
  refine gcons (snd_g (ok_bipush dL_isCause_1039 rfl rfl)) ?_
  refine gcons (snd_g (ok_irem dL_isCause_1041 rfl)) ?_
  refine gcons (snd_g (ok_if_ne dL_isCause_1042 rfl rfl)) ?_
  refine gcons (snd_g (ok_iload dL_isCause_1045 rfl)) ?_
  refine gcons (snd_g (ok_bipush dL_isCause_1047 rfl rfl)) ?_
  refine gcons (snd_g (ok_idiv dL_isCause_1049 rfl)) ?_
  refine gcons (snd_g (ok_sipush dL_isCause_1050 rfl rfl)) ?_
  refine gcons (snd_g (ok_irem dL_isCause_1053 rfl)) ?_
  refine gcons (snd_g (ok_goto dL_isCause_1054 rfl)) ?_
  refine gcons (snd_g (ok_iload dL_isCause_1057 rfl)) ?_
  refine gcons (snd_g (ok_if_eq dL_isCause_1059 rfl rfl)) ?_
  refine gcons (snd_g (ok_aload dL_isCause_1062 rfl)) ?_
  refine gcons (snd_g (ok_aload dL_isCause_1064 rfl)) ?_
  refine gcons (snd_g (ok_iload dL_isCause_1066 rfl)) ?_
  refine gcons (snd_g (ok_invokestaticN M_L_proven w_937 w_938 w_19 w_939 ⟨by decide, by decide, by decide +kernel⟩ (by decide) (by decide) dL_isCause_1068 rfl)) ?_
  refine gcons (snd_g (ok_goto dL_isCause_1071 rfl)) ?_
  refine gcons (snd_g (ok_iconst dL_isCause_1074 rfl rfl)) ?_
  refine gcons (snd_g (ok_istore dL_isCause_1075 (by decide) rfl)) ?_
  refine gcons (snd_g (ok_iload dL_isCause_1077 rfl)) ?_
  refine gcons (snd_g (ok_if_eq dL_isCause_1079 rfl rfl)) ?_
  refine gcons (snd_g (ok_iload dL_isCause_1082 rfl)) ?_
  refine gcons (snd_g (ok_iconst dL_isCause_1084 rfl rfl)) ?_
  refine gcons (snd_g (ok_icmp_ge dL_isCause_1085 rfl rfl)) ?_
  refine gcons (snd_g (ok_iconst dL_isCause_1088 rfl rfl)) ?_
  refine gcons (snd_g (ok_goto dL_isCause_1089 rfl)) ?_
  refine gcons (snd_g (ok_iconst dL_isCause_1092 rfl rfl)) ?_
  refine gcons (snd_g (ok_istore dL_isCause_1093 (by decide) rfl)) ?_
  refine gcons (snd_g (ok_iload dL_isCause_1095 rfl)) ?_
  refine gcons (snd_g (ok_if_ne dL_isCause_1097 rfl rfl)) ?_
  refine gcons (snd_g (ok_iconst dL_isCause_1100 rfl rfl)) ?_
  refine gcons (snd_g (ok_goto dL_isCause_1101 rfl)) ?_
  refine gcons (snd_g (ok_iload dL_isCause_1104 rfl)) ?_
  refine gcons (snd_g (ok_iconst dL_isCause_1106 rfl rfl)) ?_
  refine gcons (snd_g (ok_icmp_ne dL_isCause_1107 rfl rfl)) ?_
  refine gcons (snd_g (ok_sipush dL_isCause_1110 rfl rfl)) ?_
  refine gcons (snd_g (ok_goto dL_isCause_1113 rfl)) ?_
  refine gcons (snd_g (ok_sipush dL_isCause_1116 rfl rfl)) ?_
  refine gcons (snd_g (ok_istore dL_isCause_1119 (by decide) rfl)) ?_
  refine gcons (snd_g (ok_iload dL_isCause_1121 rfl)) ?_
  refine gcons (snd_g (ok_if_eq dL_isCause_1123 rfl rfl)) ?_
  refine gcons (snd_g (ok_iload dL_isCause_1126 rfl)) ?_
  refine gcons (snd_g (ok_sipush dL_isCause_1128 rfl rfl)) ?_
  refine gcons (snd_g (ok_icmp_ge dL_isCause_1131 rfl rfl)) ?_
  refine gcons (snd_g (ok_iload dL_isCause_1134 rfl)) ?_
  refine gcons (snd_g (ok_iconst dL_isCause_1136 rfl rfl)) ?_
  refine gcons (snd_g (ok_icmp_ne dL_isCause_1137 rfl rfl)) ?_
  refine gcons (snd_g (ok_aload dL_isCause_1140 rfl)) ?_
  refine gcons (snd_g (ok_iload dL_isCause_1142 rfl)) ?_
  refine gcons (snd_g (ok_iaload dL_isCause_1144 rfl)) ?_
  refine gcons (snd_g (ok_iload dL_isCause_1145 rfl)) ?_
  exact fun _ h => nomatch h
def tab_L_isCause_10 : List (Nat × Sem) := [(1147, op_dv (fun x y => x / y) 1148), (1148, op_ic 129 1151), (1151, op_dv (fun x y => irm x y) 1152), (1152, op_if (fun x => ¬ x = 0) 1176 1155), (1155, op_il 16 1157), (1157, op_al 4 1159), (1159, op_al 5 1161), (1161, op_il 12 1163), (1163, op_callN sp_L_proven 3 0 1166), (1166, op_ic (-1) 1167), (1167, op_bin (fun x y => x ^^^ y) 1168), (1168, op_bin (fun x y => x &&& y) 1169), (1169, op_if (fun x => ¬ x = 0) 1176 1172), (1172, op_ic 1 1173), (1173, op_go 1177), (1176, op_ic 0 1177), (1177, op_is 19 1179), (1179, op_al 6 1181), (1181, op_il 19 1183), (1183, op_if (fun x => x = 0) 1191 1186), (1186, op_il 12 1188), (1188, op_go 1193), (1191, op_ic 8 1193), (1193, op_dup2 1194), (1194, op_iald 1195), (1195, op_il 19 1197), (1197, op_if (fun x => x = 0) 1210 1200), (1200, op_il 18 1202), (1202, op_il 16 1204), (1204, op_ic 1 1205), (1205, op_bin (fun x y => x + y) 1206), (1206, op_bin (fun x y => x * y) 1207), (1207, op_go 1211), (1210, op_ic 0 1211), (1211, op_bin (fun x y => x + y) 1212), (1212, op_iast 1213), (1213, op_ic 0 1214), (1214, op_is 20 1216), (1216, op_ic 1 1217), (1217, op_is 21 1219), (1219, op_il 21 1221), (1221, op_ic 3000000 1223), (1223, op_cmp (fun x y => y ≤ x) 1267 1226), (1226, op_il 13 1228), (1228, op_if (fun x => x = 0) 1267 1231), (1231, op_il 20 1233), (1233, op_al 6 1235), (1235, op_il 12 1237), (1237, op_iald 1238), (1238, op_il 21 1240), (1240, op_dv (fun x y => x / y) 1241), (1241, op_ic 129 1244), (1244, op_dv (fun x y => irm x y) 1245), (1245, op_if (fun x => x ≤ 0) 1252 1248), (1248, op_ic 1 1249), (1249, op_go 1253), (1252, op_ic 0 1253), (1253, op_bin (fun x y => x + y) 1254), (1254, op_is 20 1256), (1256, op_il 21 1258)]
set_option maxRecDepth 20000 in
theorem tok_L_isCause_10 : ∀ q ∈ tab_L_isCause_10, GSnd RL cL_isCause 22 13 20 (some .boolean) q.1 q.2 := by
  unfold tab_L_isCause_10
  refine gcons (snd_g (ok_idiv dL_isCause_1147 rfl)) ?_
  refine gcons (snd_g (ok_sipush dL_isCause_1148 rfl rfl)) ?_
  refine gcons (snd_g (ok_irem dL_isCause_1151 rfl)) ?_
  refine gcons (snd_g (ok_if_ne dL_isCause_1152 rfl rfl)) ?_
  refine gcons (snd_g (ok_iload dL_isCause_1155 rfl)) ?_
  refine gcons (snd_g (ok_aload dL_isCause_1157 rfl)) ?_
  refine gcons (snd_g (ok_aload dL_isCause_1159 rfl)) ?_
  refine gcons (snd_g (ok_iload dL_isCause_1161 rfl)) ?_
  refine gcons (snd_g (ok_invokestaticN M_L_proven w_937 w_938 w_19 w_939 ⟨by decide, by decide, by decide +kernel⟩ (by decide) (by decide) dL_isCause_1163 rfl)) ?_
  refine gcons (snd_g (ok_iconst dL_isCause_1166 rfl rfl)) ?_
  refine gcons (snd_g (ok_ixor dL_isCause_1167 rfl)) ?_
  refine gcons (snd_g (ok_iand dL_isCause_1168 rfl)) ?_
  refine gcons (snd_g (ok_if_ne dL_isCause_1169 rfl rfl)) ?_
  refine gcons (snd_g (ok_iconst dL_isCause_1172 rfl rfl)) ?_
  refine gcons (snd_g (ok_goto dL_isCause_1173 rfl)) ?_
  refine gcons (snd_g (ok_iconst dL_isCause_1176 rfl rfl)) ?_
  refine gcons (snd_g (ok_istore dL_isCause_1177 (by decide) rfl)) ?_
  refine gcons (snd_g (ok_aload dL_isCause_1179 rfl)) ?_
  refine gcons (snd_g (ok_iload dL_isCause_1181 rfl)) ?_
  refine gcons (snd_g (ok_if_eq dL_isCause_1183 rfl rfl)) ?_
  refine gcons (snd_g (ok_iload dL_isCause_1186 rfl)) ?_
  refine gcons (snd_g (ok_goto dL_isCause_1188 rfl)) ?_
  refine gcons (snd_g (ok_bipush dL_isCause_1191 rfl rfl)) ?_
  refine gcons (snd_g (ok_dup2 dL_isCause_1193 rfl)) ?_
  refine gcons (snd_g (ok_iaload dL_isCause_1194 rfl)) ?_
  refine gcons (snd_g (ok_iload dL_isCause_1195 rfl)) ?_
  refine gcons (snd_g (ok_if_eq dL_isCause_1197 rfl rfl)) ?_
  refine gcons (snd_g (ok_iload dL_isCause_1200 rfl)) ?_
  refine gcons (snd_g (ok_iload dL_isCause_1202 rfl)) ?_
  refine gcons (snd_g (ok_iconst dL_isCause_1204 rfl rfl)) ?_
  refine gcons (snd_g (ok_iadd dL_isCause_1205 rfl)) ?_
  refine gcons (snd_g (ok_imul dL_isCause_1206 rfl)) ?_
  refine gcons (snd_g (ok_goto dL_isCause_1207 rfl)) ?_
  refine gcons (snd_g (ok_iconst dL_isCause_1210 rfl rfl)) ?_
  refine gcons (snd_g (ok_iadd dL_isCause_1211 rfl)) ?_
  refine gcons (snd_g (ok_iastore dL_isCause_1212 rfl)) ?_
  refine gcons (snd_g (ok_iconst dL_isCause_1213 rfl rfl)) ?_
  refine gcons (snd_g (ok_istore dL_isCause_1214 (by decide) rfl)) ?_
  refine gcons (snd_g (ok_iconst dL_isCause_1216 rfl rfl)) ?_
  refine gcons (snd_g (ok_istore dL_isCause_1217 (by decide) rfl)) ?_
  refine gcons (snd_g (ok_iload dL_isCause_1219 rfl)) ?_
  refine gcons (snd_g (ok_ldc w_702 dL_isCause_1221 rfl)) ?_
  refine gcons (snd_g (ok_icmp_ge dL_isCause_1223 rfl rfl)) ?_
  refine gcons (snd_g (ok_iload dL_isCause_1226 rfl)) ?_
  refine gcons (snd_g (ok_if_eq dL_isCause_1228 rfl rfl)) ?_
  refine gcons (snd_g (ok_iload dL_isCause_1231 rfl)) ?_
  refine gcons (snd_g (ok_aload dL_isCause_1233 rfl)) ?_
  refine gcons (snd_g (ok_iload dL_isCause_1235 rfl)) ?_
  refine gcons (snd_g (ok_iaload dL_isCause_1237 rfl)) ?_
  refine gcons (snd_g (ok_iload dL_isCause_1238 rfl)) ?_
  refine gcons (snd_g (ok_idiv dL_isCause_1240 rfl)) ?_
  refine gcons (snd_g (ok_sipush dL_isCause_1241 rfl rfl)) ?_
  refine gcons (snd_g (ok_irem dL_isCause_1244 rfl)) ?_
  refine gcons (snd_g (ok_if_le dL_isCause_1245 rfl rfl)) ?_
  refine gcons (snd_g (ok_iconst dL_isCause_1248 rfl rfl)) ?_
  refine gcons (snd_g (ok_goto dL_isCause_1249 rfl)) ?_
  refine gcons (snd_g (ok_iconst dL_isCause_1252 rfl rfl)) ?_
  refine gcons (snd_g (ok_iadd dL_isCause_1253 rfl)) ?_
  refine gcons (snd_g (ok_istore dL_isCause_1254 (by decide) rfl)) ?_
  refine gcons (snd_g (ok_iload dL_isCause_1256 rfl)) ?_
  exact fun _ h => nomatch h
def tab_L_isCause_11 : List (Nat × Sem) := [(1258, op_ic 129 1261), (1261, op_bin (fun x y => x * y) 1262), (1262, op_is 21 1264), (1264, op_go 1219), (1267, op_al 0 1268), (1268, op_ic 17 1270), (1270, op_il 12 1272), (1272, op_il 15 1274), (1274, op_il 16 1276), (1276, op_ic 0 1277), (1277, op_callHN sp_L_does 6 16 1280), (1280, op_il 17 1282), (1282, op_if (fun x => ¬ x = 0) 1290 1285), (1285, op_ic (-3000000) 1287), (1287, op_go 1314), (1290, op_il 16 1292), (1292, op_ic 127 1294), (1294, op_cmp (fun x y => x ≤ y) 1302 1297), (1297, op_ic (-2000000) 1299), (1299, op_go 1314), (1302, op_il 19 1304), (1304, op_if (fun x => x = 0) 1312 1307), (1307, op_il 20 1309), (1309, op_go 1314), (1312, op_ic (-1000000) 1314), (1314, op_cmp (fun x y => ¬ x = y) 1321 1317), (1317, op_ic 1 1318), (1318, op_go 1322), (1321, op_ic 0 1322), (1322, op_zret), (1323, op_il 9 1325), (1325, op_ic 5 1326), (1326, op_cmp (fun x y => ¬ x = y) 1442 1329), (1329, op_il 13 1331), (1331, op_if (fun x => x = 0) 1384 1334), (1334, op_il 14 1336), (1336, op_ic 1 1337), (1337, op_cmp (fun x y => ¬ x = y) 1384 1340), (1340, op_al 6 1342), (1342, op_il 12 1344), (1344, op_iald 1345), (1345, op_ic 129 1348), (1348, op_dv (fun x y => irm x y) 1349), (1349, op_if (fun x => x ≤ 0) 1384 1352), (1352, op_al 6 1354), (1354, op_il 12 1356), (1356, op_iald 1357), (1357, op_ic 129 1360), (1360, op_dv (fun x y => x / y) 1361), (1361, op_ic 129 1364), (1364, op_dv (fun x y => irm x y) 1365), (1365, op_if (fun x => x ≤ 0) 1384 1368), (1368, op_al 6 1370), (1370, op_il 12 1372), (1372, op_iald 1373), (1373, op_ic 16641 1376), (1376, op_dv (fun x y => x / y) 1377), (1377, op_if (fun x => x ≤ 0) 1384 1380), (1380, op_ic 1 1381), (1381, op_go 1385)]
set_option maxRecDepth 20000 in
theorem tok_L_isCause_11 : ∀ q ∈ tab_L_isCause_11, GSnd RL cL_isCause 22 13 20 (some .boolean) q.1 q.2 := by
  unfold tab_L_isCause_11
  refine gcons (snd_g (ok_sipush dL_isCause_1258 rfl rfl)) ?_
  refine gcons (snd_g (ok_imul dL_isCause_1261 rfl)) ?_
  refine gcons (snd_g (ok_istore dL_isCause_1262 (by decide) rfl)) ?_
  refine gcons (snd_g (ok_goto dL_isCause_1264 rfl)) ?_
  refine gcons (snd_g (ok_aload_n dL_isCause_1267 rfl rfl)) ?_
  refine gcons (snd_g (ok_bipush dL_isCause_1268 rfl rfl)) ?_
  refine gcons (snd_g (ok_iload dL_isCause_1270 rfl)) ?_
  refine gcons (snd_g (ok_iload dL_isCause_1272 rfl)) ?_
  refine gcons (snd_g (ok_iload dL_isCause_1274 rfl)) ?_
  refine gcons (snd_g (ok_iconst dL_isCause_1276 rfl rfl)) ?_
  refine gcons (ok_invokestaticHN M_L_does w_128 w_129 w_19 w_130 ⟨by decide, by decide, by decide +kernel⟩ (by decide) (by decide) dL_isCause_1277 rfl) ?_
  refine gcons (snd_g (ok_iload dL_isCause_1280 rfl)) ?_
  refine gcons (snd_g (ok_if_ne dL_isCause_1282 rfl rfl)) ?_
  refine gcons (snd_g (ok_ldc w_683 dL_isCause_1285 rfl)) ?_
  refine gcons (snd_g (ok_goto dL_isCause_1287 rfl)) ?_
  refine gcons (snd_g (ok_iload dL_isCause_1290 rfl)) ?_
  refine gcons (snd_g (ok_bipush dL_isCause_1292 rfl rfl)) ?_
  refine gcons (snd_g (ok_icmp_le dL_isCause_1294 rfl rfl)) ?_
  refine gcons (snd_g (ok_ldc w_684 dL_isCause_1297 rfl)) ?_
  refine gcons (snd_g (ok_goto dL_isCause_1299 rfl)) ?_
  refine gcons (snd_g (ok_iload dL_isCause_1302 rfl)) ?_
  refine gcons (snd_g (ok_if_eq dL_isCause_1304 rfl rfl)) ?_
  refine gcons (snd_g (ok_iload dL_isCause_1307 rfl)) ?_
  refine gcons (snd_g (ok_goto dL_isCause_1309 rfl)) ?_
  refine gcons (snd_g (ok_ldc w_685 dL_isCause_1312 rfl)) ?_
  refine gcons (snd_g (ok_icmp_ne dL_isCause_1314 rfl rfl)) ?_
  refine gcons (snd_g (ok_iconst dL_isCause_1317 rfl rfl)) ?_
  refine gcons (snd_g (ok_goto dL_isCause_1318 rfl)) ?_
  refine gcons (snd_g (ok_iconst dL_isCause_1321 rfl rfl)) ?_
  refine gcons (snd_g (ok_zreturn rfl (Or.inl rfl) dL_isCause_1322)) ?_
  refine gcons (snd_g (ok_iload dL_isCause_1323 rfl)) ?_
  refine gcons (snd_g (ok_iconst dL_isCause_1325 rfl rfl)) ?_
  refine gcons (snd_g (ok_icmp_ne dL_isCause_1326 rfl rfl)) ?_
  refine gcons (snd_g (ok_iload dL_isCause_1329 rfl)) ?_
  refine gcons (snd_g (ok_if_eq dL_isCause_1331 rfl rfl)) ?_
  refine gcons (snd_g (ok_iload dL_isCause_1334 rfl)) ?_
  refine gcons (snd_g (ok_iconst dL_isCause_1336 rfl rfl)) ?_
  refine gcons (snd_g (ok_icmp_ne dL_isCause_1337 rfl rfl)) ?_
  refine gcons (snd_g (ok_aload dL_isCause_1340 rfl)) ?_
  refine gcons (snd_g (ok_iload dL_isCause_1342 rfl)) ?_
  refine gcons (snd_g (ok_iaload dL_isCause_1344 rfl)) ?_
  refine gcons (snd_g (ok_sipush dL_isCause_1345 rfl rfl)) ?_
  refine gcons (snd_g (ok_irem dL_isCause_1348 rfl)) ?_
  refine gcons (snd_g (ok_if_le dL_isCause_1349 rfl rfl)) ?_
  refine gcons (snd_g (ok_aload dL_isCause_1352 rfl)) ?_
  refine gcons (snd_g (ok_iload dL_isCause_1354 rfl)) ?_
  refine gcons (snd_g (ok_iaload dL_isCause_1356 rfl)) ?_
  refine gcons (snd_g (ok_sipush dL_isCause_1357 rfl rfl)) ?_
  refine gcons (snd_g (ok_idiv dL_isCause_1360 rfl)) ?_
  refine gcons (snd_g (ok_sipush dL_isCause_1361 rfl rfl)) ?_
  refine gcons (snd_g (ok_irem dL_isCause_1364 rfl)) ?_
  refine gcons (snd_g (ok_if_le dL_isCause_1365 rfl rfl)) ?_
  refine gcons (snd_g (ok_aload dL_isCause_1368 rfl)) ?_
  refine gcons (snd_g (ok_iload dL_isCause_1370 rfl)) ?_
  refine gcons (snd_g (ok_iaload dL_isCause_1372 rfl)) ?_
  refine gcons (snd_g (ok_sipush dL_isCause_1373 rfl rfl)) ?_
  refine gcons (snd_g (ok_idiv dL_isCause_1376 rfl)) ?_
  refine gcons (snd_g (ok_if_le dL_isCause_1377 rfl rfl)) ?_
  refine gcons (snd_g (ok_iconst dL_isCause_1380 rfl rfl)) ?_
  refine gcons (snd_g (ok_goto dL_isCause_1381 rfl)) ?_
  exact fun _ h => nomatch h
def tab_L_isCause_12 : List (Nat × Sem) := [(1384, op_ic 0 1385), (1385, op_is 15 1387), (1387, op_al 0 1388), (1388, op_ic 18 1390), (1390, op_il 12 1392), (1392, op_ic 0 1393), (1393, op_ic 0 1394), (1394, op_ic 0 1395), (1395, op_callHN sp_L_does 6 16 1398), (1398, op_il 13 1400), (1400, op_if (fun x => ¬ x = 0) 1408 1403), (1403, op_ic (-3000000) 1405), (1405, op_go 1433), (1408, op_il 15 1410), (1410, op_if (fun x => x = 0) 1431 1413), (1413, op_al 2 1414), (1414, op_al 3 1415), (1415, op_al 4 1417), (1417, op_al 6 1419), (1419, op_al 7 1421), (1421, op_al 8 1423), (1423, op_il 12 1425), (1425, op_callN sp_L_sentence 7 0 1428), (1428, op_go 1433), (1431, op_ic (-1000000) 1433), (1433, op_cmp (fun x y => ¬ x = y) 1440 1436), (1436, op_ic 1 1437), (1437, op_go 1441), (1440, op_ic 0 1441), (1441, op_zret), (1442, op_il 13 1444), (1444, op_if (fun x => x = 0) 1511 1447), (1447, op_il 14 1449), (1449, op_ic 3 1450), (1450, op_cmp (fun x y => ¬ x = y) 1511 1453), (1453, op_al 4 1455), (1455, op_il 12 1457), (1457, op_iald 1458), (1458, op_ic 8192 1461), (1461, op_dv (fun x y => x / y) 1462), (1462, op_ic 1 1463), (1463, op_cmp (fun x y => ¬ x = y) 1511 1466), (1466, op_al 2 1467), (1467, op_al 4 1469), (1469, op_il 12 1471), (1471, op_iald 1472), (1472, op_ic 16 1474), (1474, op_dv (fun x y => irm x y) 1475), (1475, op_iald 1476), (1476, op_ic 4096 1479), (1479, op_dv (fun x y => x / y) 1480), (1480, op_ic 4 1481), (1481, op_dv (fun x y => irm x y) 1482), (1482, op_ic 3 1483), (1483, op_dv (fun x y => irm x y) 1484), (1484, op_if (fun x => ¬ x = 0) 1511 1487), (1487, op_al 4 1489), (1489, op_al 8 1491), (1491, op_al 4 1493), (1493, op_il 12 1495)]
set_option maxRecDepth 20000 in
theorem tok_L_isCause_12 : ∀ q ∈ tab_L_isCause_12, GSnd RL cL_isCause 22 13 20 (some .boolean) q.1 q.2 := by
  unfold tab_L_isCause_12
  refine gcons (snd_g (ok_iconst dL_isCause_1384 rfl rfl)) ?_
  refine gcons (snd_g (ok_istore dL_isCause_1385 (by decide) rfl)) ?_
  refine gcons (snd_g (ok_aload_n dL_isCause_1387 rfl rfl)) ?_
  refine gcons (snd_g (ok_bipush dL_isCause_1388 rfl rfl)) ?_
  refine gcons (snd_g (ok_iload dL_isCause_1390 rfl)) ?_
  refine gcons (snd_g (ok_iconst dL_isCause_1392 rfl rfl)) ?_
  refine gcons (snd_g (ok_iconst dL_isCause_1393 rfl rfl)) ?_
  refine gcons (snd_g (ok_iconst dL_isCause_1394 rfl rfl)) ?_
  refine gcons (ok_invokestaticHN M_L_does w_128 w_129 w_19 w_130 ⟨by decide, by decide, by decide +kernel⟩ (by decide) (by decide) dL_isCause_1395 rfl) ?_
  refine gcons (snd_g (ok_iload dL_isCause_1398 rfl)) ?_
  refine gcons (snd_g (ok_if_ne dL_isCause_1400 rfl rfl)) ?_
  refine gcons (snd_g (ok_ldc w_683 dL_isCause_1403 rfl)) ?_
  refine gcons (snd_g (ok_goto dL_isCause_1405 rfl)) ?_
  refine gcons (snd_g (ok_iload dL_isCause_1408 rfl)) ?_
  refine gcons (snd_g (ok_if_eq dL_isCause_1410 rfl rfl)) ?_
  refine gcons (snd_g (ok_aload_n dL_isCause_1413 rfl rfl)) ?_
  refine gcons (snd_g (ok_aload_n dL_isCause_1414 rfl rfl)) ?_
  refine gcons (snd_g (ok_aload dL_isCause_1415 rfl)) ?_
  refine gcons (snd_g (ok_aload dL_isCause_1417 rfl)) ?_
  refine gcons (snd_g (ok_aload dL_isCause_1419 rfl)) ?_
  refine gcons (snd_g (ok_aload dL_isCause_1421 rfl)) ?_
  refine gcons (snd_g (ok_iload dL_isCause_1423 rfl)) ?_
  refine gcons (snd_g (ok_invokestaticN M_L_sentence w_940 w_941 w_19 w_942 ⟨by decide, by decide, by decide +kernel⟩ (by decide) (by decide) dL_isCause_1425 rfl)) ?_
  refine gcons (snd_g (ok_goto dL_isCause_1428 rfl)) ?_
  refine gcons (snd_g (ok_ldc w_685 dL_isCause_1431 rfl)) ?_
  refine gcons (snd_g (ok_icmp_ne dL_isCause_1433 rfl rfl)) ?_
  refine gcons (snd_g (ok_iconst dL_isCause_1436 rfl rfl)) ?_
  refine gcons (snd_g (ok_goto dL_isCause_1437 rfl)) ?_
  refine gcons (snd_g (ok_iconst dL_isCause_1440 rfl rfl)) ?_
  refine gcons (snd_g (ok_zreturn rfl (Or.inl rfl) dL_isCause_1441)) ?_
  refine gcons (snd_g (ok_iload dL_isCause_1442 rfl)) ?_
  refine gcons (snd_g (ok_if_eq dL_isCause_1444 rfl rfl)) ?_
  refine gcons (snd_g (ok_iload dL_isCause_1447 rfl)) ?_
  refine gcons (snd_g (ok_iconst dL_isCause_1449 rfl rfl)) ?_
  refine gcons (snd_g (ok_icmp_ne dL_isCause_1450 rfl rfl)) ?_
  refine gcons (snd_g (ok_aload dL_isCause_1453 rfl)) ?_
  refine gcons (snd_g (ok_iload dL_isCause_1455 rfl)) ?_
  refine gcons (snd_g (ok_iaload dL_isCause_1457 rfl)) ?_
  refine gcons (snd_g (ok_sipush dL_isCause_1458 rfl rfl)) ?_
  refine gcons (snd_g (ok_idiv dL_isCause_1461 rfl)) ?_
  refine gcons (snd_g (ok_iconst dL_isCause_1462 rfl rfl)) ?_
  refine gcons (snd_g (ok_icmp_ne dL_isCause_1463 rfl rfl)) ?_
  refine gcons (snd_g (ok_aload_n dL_isCause_1466 rfl rfl)) ?_
  refine gcons (snd_g (ok_aload dL_isCause_1467 rfl)) ?_
  refine gcons (snd_g (ok_iload dL_isCause_1469 rfl)) ?_
  refine gcons (snd_g (ok_iaload dL_isCause_1471 rfl)) ?_
  refine gcons (snd_g (ok_bipush dL_isCause_1472 rfl rfl)) ?_
  refine gcons (snd_g (ok_irem dL_isCause_1474 rfl)) ?_
  refine gcons (snd_g (ok_iaload dL_isCause_1475 rfl)) ?_
  refine gcons (snd_g (ok_sipush dL_isCause_1476 rfl rfl)) ?_
  refine gcons (snd_g (ok_idiv dL_isCause_1479 rfl)) ?_
  refine gcons (snd_g (ok_iconst dL_isCause_1480 rfl rfl)) ?_
  refine gcons (snd_g (ok_irem dL_isCause_1481 rfl)) ?_
  refine gcons (snd_g (ok_iconst dL_isCause_1482 rfl rfl)) ?_
  refine gcons (snd_g (ok_irem dL_isCause_1483 rfl)) ?_
  refine gcons (snd_g (ok_if_ne dL_isCause_1484 rfl rfl)) ?_
  refine gcons (snd_g (ok_aload dL_isCause_1487 rfl)) ?_
  refine gcons (snd_g (ok_aload dL_isCause_1489 rfl)) ?_
  refine gcons (snd_g (ok_aload dL_isCause_1491 rfl)) ?_
  refine gcons (snd_g (ok_iload dL_isCause_1493 rfl)) ?_
  exact fun _ h => nomatch h
def tab_L_isCause_13 : List (Nat × Sem) := [(1495, op_iald 1496), (1496, op_ic 16 1498), (1498, op_dv (fun x y => irm x y) 1499), (1499, op_il 12 1501), (1501, op_callN sp_L_isQuiet 4 0 1504), (1504, op_if (fun x => x = 0) 1511 1507), (1507, op_ic 1 1508), (1508, op_go 1512), (1511, op_ic 0 1512), (1512, op_is 15 1514), (1514, op_il 15 1516), (1516, op_if (fun x => x = 0) 1543 1519), (1519, op_al 4 1521), (1521, op_il 12 1523), (1523, op_al 4 1525), (1525, op_il 12 1527), (1527, op_iald 1528), (1528, op_ic 2048 1531), (1531, op_dv (fun x y => irm x y) 1532), (1532, op_ic 16384 1535), (1535, op_bin (fun x y => x + y) 1536), (1536, op_iast 1537), (1537, op_al 6 1539), (1539, op_il 12 1541), (1541, op_ic 0 1542), (1542, op_iast 1543), (1543, op_al 0 1544), (1544, op_ic 19 1546), (1546, op_il 12 1548), (1548, op_ic 0 1549), (1549, op_ic 0 1550), (1550, op_ic 0 1551), (1551, op_callHN sp_L_does 6 16 1554), (1554, op_il 13 1556), (1556, op_if (fun x => ¬ x = 0) 1564 1559), (1559, op_ic (-3000000) 1561), (1561, op_go 1575), (1564, op_il 15 1566), (1566, op_if (fun x => x = 0) 1573 1569), (1569, op_ic 0 1570), (1570, op_go 1575), (1573, op_ic (-1000000) 1575), (1575, op_cmp (fun x y => ¬ x = y) 1582 1578), (1578, op_ic 1 1579), (1579, op_go 1583), (1582, op_ic 0 1583), (1583, op_zret)]
set_option maxRecDepth 20000 in
theorem tok_L_isCause_13 : ∀ q ∈ tab_L_isCause_13, GSnd RL cL_isCause 22 13 20 (some .boolean) q.1 q.2 := by
  unfold tab_L_isCause_13
  refine gcons (snd_g (ok_iaload dL_isCause_1495 rfl)) ?_
  refine gcons (snd_g (ok_bipush dL_isCause_1496 rfl rfl)) ?_
  refine gcons (snd_g (ok_irem dL_isCause_1498 rfl)) ?_
  refine gcons (snd_g (ok_iload dL_isCause_1499 rfl)) ?_
  refine gcons (snd_g (ok_invokestaticN M_L_isQuiet w_927 w_928 w_19 w_929 ⟨by decide, by decide, by decide +kernel⟩ (by decide) (by decide) dL_isCause_1501 rfl)) ?_
  refine gcons (snd_g (ok_if_eq dL_isCause_1504 rfl rfl)) ?_
  refine gcons (snd_g (ok_iconst dL_isCause_1507 rfl rfl)) ?_
  refine gcons (snd_g (ok_goto dL_isCause_1508 rfl)) ?_
  refine gcons (snd_g (ok_iconst dL_isCause_1511 rfl rfl)) ?_
  refine gcons (snd_g (ok_istore dL_isCause_1512 (by decide) rfl)) ?_
  refine gcons (snd_g (ok_iload dL_isCause_1514 rfl)) ?_
  refine gcons (snd_g (ok_if_eq dL_isCause_1516 rfl rfl)) ?_
  refine gcons (snd_g (ok_aload dL_isCause_1519 rfl)) ?_
  refine gcons (snd_g (ok_iload dL_isCause_1521 rfl)) ?_
  refine gcons (snd_g (ok_aload dL_isCause_1523 rfl)) ?_
  refine gcons (snd_g (ok_iload dL_isCause_1525 rfl)) ?_
  refine gcons (snd_g (ok_iaload dL_isCause_1527 rfl)) ?_
  refine gcons (snd_g (ok_sipush dL_isCause_1528 rfl rfl)) ?_
  refine gcons (snd_g (ok_irem dL_isCause_1531 rfl)) ?_
  refine gcons (snd_g (ok_sipush dL_isCause_1532 rfl rfl)) ?_
  refine gcons (snd_g (ok_iadd dL_isCause_1535 rfl)) ?_
  refine gcons (snd_g (ok_iastore dL_isCause_1536 rfl)) ?_
  refine gcons (snd_g (ok_aload dL_isCause_1537 rfl)) ?_
  refine gcons (snd_g (ok_iload dL_isCause_1539 rfl)) ?_
  refine gcons (snd_g (ok_iconst dL_isCause_1541 rfl rfl)) ?_
  refine gcons (snd_g (ok_iastore dL_isCause_1542 rfl)) ?_
  refine gcons (snd_g (ok_aload_n dL_isCause_1543 rfl rfl)) ?_
  refine gcons (snd_g (ok_bipush dL_isCause_1544 rfl rfl)) ?_
  refine gcons (snd_g (ok_iload dL_isCause_1546 rfl)) ?_
  refine gcons (snd_g (ok_iconst dL_isCause_1548 rfl rfl)) ?_
  refine gcons (snd_g (ok_iconst dL_isCause_1549 rfl rfl)) ?_
  refine gcons (snd_g (ok_iconst dL_isCause_1550 rfl rfl)) ?_
  refine gcons (ok_invokestaticHN M_L_does w_128 w_129 w_19 w_130 ⟨by decide, by decide, by decide +kernel⟩ (by decide) (by decide) dL_isCause_1551 rfl) ?_
  refine gcons (snd_g (ok_iload dL_isCause_1554 rfl)) ?_
  refine gcons (snd_g (ok_if_ne dL_isCause_1556 rfl rfl)) ?_
  refine gcons (snd_g (ok_ldc w_683 dL_isCause_1559 rfl)) ?_
  refine gcons (snd_g (ok_goto dL_isCause_1561 rfl)) ?_
  refine gcons (snd_g (ok_iload dL_isCause_1564 rfl)) ?_
  refine gcons (snd_g (ok_if_eq dL_isCause_1566 rfl rfl)) ?_
  refine gcons (snd_g (ok_iconst dL_isCause_1569 rfl rfl)) ?_
  refine gcons (snd_g (ok_goto dL_isCause_1570 rfl)) ?_
  refine gcons (snd_g (ok_ldc w_685 dL_isCause_1573 rfl)) ?_
  refine gcons (snd_g (ok_icmp_ne dL_isCause_1575 rfl rfl)) ?_
  refine gcons (snd_g (ok_iconst dL_isCause_1578 rfl rfl)) ?_
  refine gcons (snd_g (ok_goto dL_isCause_1579 rfl)) ?_
  refine gcons (snd_g (ok_iconst dL_isCause_1582 rfl rfl)) ?_
  refine gcons (snd_g (ok_zreturn rfl (Or.inl rfl) dL_isCause_1583)) ?_
  exact fun _ h => nomatch h
def tab_L_isCause : List (Nat × Sem) := tab_L_isCause_0 ++ (tab_L_isCause_1 ++ (tab_L_isCause_2 ++ (tab_L_isCause_3 ++ (tab_L_isCause_4 ++ (tab_L_isCause_5 ++ (tab_L_isCause_6 ++ (tab_L_isCause_7 ++ (tab_L_isCause_8 ++ (tab_L_isCause_9 ++ (tab_L_isCause_10 ++ (tab_L_isCause_11 ++ (tab_L_isCause_12 ++ (tab_L_isCause_13)))))))))))))
theorem tok_L_isCause : ∀ q ∈ tab_L_isCause, GSnd RL cL_isCause 22 13 20 (some .boolean) q.1 q.2 := gapp tok_L_isCause_0 (gapp tok_L_isCause_1 (gapp tok_L_isCause_2 (gapp tok_L_isCause_3 (gapp tok_L_isCause_4 (gapp tok_L_isCause_5 (gapp tok_L_isCause_6 (gapp tok_L_isCause_7 (gapp tok_L_isCause_8 (gapp tok_L_isCause_9 (gapp tok_L_isCause_10 (gapp tok_L_isCause_11 (gapp tok_L_isCause_12 (tok_L_isCause_13)))))))))))))

