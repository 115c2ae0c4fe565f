/-! the law's isSo: its instructions -/
theorem w_689 : (.methodLink "VowCourtLaw" 137 ⟨"VowCourt", "hindered", "(I)I"⟩ : Cond) ∈ TB := TB_mem (List.mem_of_getElem? (i := 689) (by decide +kernel)) rfl
theorem w_690 : (.instanceMethod ⟨"VowCourt", "hindered", "(I)I"⟩ : Cond) ∈ TB := TB_mem (List.mem_of_getElem? (i := 690) (by decide +kernel)) rfl
theorem w_691 : (.selects "VowCourt" ⟨"VowCourt", "hindered", "(I)I"⟩ ⟨"VowCourt", "hindered", "(I)I"⟩ : Cond) ∈ TB := TB_mem (List.mem_of_getElem? (i := 691) (by decide +kernel)) rfl
theorem w_692 : (.code yX4_hindered cX4_hindered 2 (some .int) : Cond) ∈ TB := TB_mem (List.mem_of_getElem? (i := 692) (by decide +kernel)) rfl
theorem w_703 : (.methodLink "VowCourtLaw" 144 ⟨"VowCourt", "kin", "(II)I"⟩ : Cond) ∈ TB := TB_mem (List.mem_of_getElem? (i := 703) (by decide +kernel)) rfl
theorem w_704 : (.instanceMethod ⟨"VowCourt", "kin", "(II)I"⟩ : Cond) ∈ TB := TB_mem (List.mem_of_getElem? (i := 704) (by decide +kernel)) rfl
theorem w_705 : (.selects "VowCourt" ⟨"VowCourt", "kin", "(II)I"⟩ ⟨"VowCourt", "kin", "(II)I"⟩ : Cond) ∈ TB := TB_mem (List.mem_of_getElem? (i := 705) (by decide +kernel)) rfl
theorem w_706 : (.code yX4_kin cX4_kin 4 (some .int) : Cond) ∈ TB := TB_mem (List.mem_of_getElem? (i := 706) (by decide +kernel)) rfl
theorem w_713 : (.methodLink "VowCourtLaw" 146 ⟨"VowCourt", "state", "(III)C"⟩ : Cond) ∈ TB := TB_mem (List.mem_of_getElem? (i := 713) (by decide +kernel)) rfl
theorem w_714 : (.instanceMethod ⟨"VowCourt", "state", "(III)C"⟩ : Cond) ∈ TB := TB_mem (List.mem_of_getElem? (i := 714) (by decide +kernel)) rfl
theorem w_715 : (.selects "VowCourt" ⟨"VowCourt", "state", "(III)C"⟩ ⟨"VowCourt", "state", "(III)C"⟩ : Cond) ∈ TB := TB_mem (List.mem_of_getElem? (i := 715) (by decide +kernel)) rfl
theorem w_716 : (.code yX4_state cX4_state 5 (some .char) : Cond) ∈ TB := TB_mem (List.mem_of_getElem? (i := 716) (by decide +kernel)) rfl
theorem dL_isSo_0 : decode cL_isSo 0 = .ok (.iconst 1, 1) := by decide +kernel
theorem dL_isSo_1 : decode cL_isSo 1 = .ok (.istore 10, 2) := by decide +kernel
theorem dL_isSo_3 : decode cL_isSo 3 = .ok (.iconst 0, 1) := by decide +kernel
theorem dL_isSo_4 : decode cL_isSo 4 = .ok (.istore 11, 2) := by decide +kernel
theorem dL_isSo_6 : decode cL_isSo 6 = .ok (.iload 11, 2) := by decide +kernel
theorem dL_isSo_8 : decode cL_isSo 8 = .ok (.aload 7, 2) := by decide +kernel
theorem dL_isSo_10 : decode cL_isSo 10 = .ok (.iconst 2, 1) := by decide +kernel
theorem dL_isSo_11 : decode cL_isSo 11 = .ok (.iaload, 1) := by decide +kernel
theorem dL_isSo_12 : decode cL_isSo 12 = .ok (.if_icmp .ge 139, 3) := by decide +kernel
theorem dL_isSo_15 : decode cL_isSo 15 = .ok (.iload 10, 2) := by decide +kernel
theorem dL_isSo_17 : decode cL_isSo 17 = .ok (.ifCond .eq 134, 3) := by decide +kernel
theorem dL_isSo_20 : decode cL_isSo 20 = .ok (.aload_n 0, 1) := by decide +kernel
theorem dL_isSo_21 : decode cL_isSo 21 = .ok (.iload 11, 2) := by decide +kernel
theorem dL_isSo_23 : decode cL_isSo 23 = .ok (.iconst 0, 1) := by decide +kernel
theorem dL_isSo_24 : decode cL_isSo 24 = .ok (.invokevirtual 83, 3) := by decide +kernel
theorem dL_isSo_27 : decode cL_isSo 27 = .ok (.aload_n 2, 1) := by decide +kernel
theorem dL_isSo_28 : decode cL_isSo 28 = .ok (.iload 11, 2) := by decide +kernel
theorem dL_isSo_30 : decode cL_isSo 30 = .ok (.iaload, 1) := by decide +kernel
theorem dL_isSo_31 : decode cL_isSo 31 = .ok (.sipush 4096, 3) := by decide +kernel
theorem dL_isSo_34 : decode cL_isSo 34 = .ok (.idiv, 1) := by decide +kernel
theorem dL_isSo_35 : decode cL_isSo 35 = .ok (.iconst 4, 1) := by decide +kernel
theorem dL_isSo_36 : decode cL_isSo 36 = .ok (.irem, 1) := by decide +kernel
theorem dL_isSo_37 : decode cL_isSo 37 = .ok (.if_icmp .ne 105, 3) := by decide +kernel
theorem dL_isSo_40 : decode cL_isSo 40 = .ok (.aload_n 0, 1) := by decide +kernel
theorem dL_isSo_41 : decode cL_isSo 41 = .ok (.iload 11, 2) := by decide +kernel
theorem dL_isSo_43 : decode cL_isSo 43 = .ok (.iconst 1, 1) := by decide +kernel
theorem dL_isSo_44 : decode cL_isSo 44 = .ok (.invokevirtual 83, 3) := by decide +kernel
theorem dL_isSo_47 : decode cL_isSo 47 = .ok (.aload_n 3, 1) := by decide +kernel
theorem dL_isSo_48 : decode cL_isSo 48 = .ok (.iload 11, 2) := by decide +kernel
theorem dL_isSo_50 : decode cL_isSo 50 = .ok (.iaload, 1) := by decide +kernel
theorem dL_isSo_51 : decode cL_isSo 51 = .ok (.if_icmp .ne 91, 3) := by decide +kernel
theorem dL_isSo_54 : decode cL_isSo 54 = .ok (.aload_n 0, 1) := by decide +kernel
theorem dL_isSo_55 : decode cL_isSo 55 = .ok (.iload 11, 2) := by decide +kernel
theorem dL_isSo_57 : decode cL_isSo 57 = .ok (.iconst 2, 1) := by decide +kernel
theorem dL_isSo_58 : decode cL_isSo 58 = .ok (.invokevirtual 83, 3) := by decide +kernel
theorem dL_isSo_61 : decode cL_isSo 61 = .ok (.aload_n 3, 1) := by decide +kernel
theorem dL_isSo_62 : decode cL_isSo 62 = .ok (.bipush 16, 2) := by decide +kernel
theorem dL_isSo_64 : decode cL_isSo 64 = .ok (.iload 11, 2) := by decide +kernel
theorem dL_isSo_66 : decode cL_isSo 66 = .ok (.iadd, 1) := by decide +kernel
theorem dL_isSo_67 : decode cL_isSo 67 = .ok (.iaload, 1) := by decide +kernel
theorem dL_isSo_68 : decode cL_isSo 68 = .ok (.if_icmp .ne 74, 3) := by decide +kernel
theorem dL_isSo_71 : decode cL_isSo 71 = .ok (.aload_n 0, 1) := by decide +kernel
theorem dL_isSo_72 : decode cL_isSo 72 = .ok (.iload 11, 2) := by decide +kernel
theorem dL_isSo_74 : decode cL_isSo 74 = .ok (.iconst 3, 1) := by decide +kernel
theorem dL_isSo_75 : decode cL_isSo 75 = .ok (.invokevirtual 83, 3) := by decide +kernel
theorem dL_isSo_78 : decode cL_isSo 78 = .ok (.aload_n 2, 1) := by decide +kernel
theorem dL_isSo_79 : decode cL_isSo 79 = .ok (.iload 11, 2) := by decide +kernel
theorem dL_isSo_81 : decode cL_isSo 81 = .ok (.iaload, 1) := by decide +kernel
theorem dL_isSo_82 : decode cL_isSo 82 = .ok (.sipush 2048, 3) := by decide +kernel
theorem dL_isSo_85 : decode cL_isSo 85 = .ok (.idiv, 1) := by decide +kernel
theorem dL_isSo_86 : decode cL_isSo 86 = .ok (.iconst 2, 1) := by decide +kernel
theorem dL_isSo_87 : decode cL_isSo 87 = .ok (.irem, 1) := by decide +kernel
theorem dL_isSo_88 : decode cL_isSo 88 = .ok (.if_icmp .ne 54, 3) := by decide +kernel
theorem dL_isSo_91 : decode cL_isSo 91 = .ok (.aload_n 0, 1) := by decide +kernel
theorem dL_isSo_92 : decode cL_isSo 92 = .ok (.iload 11, 2) := by decide +kernel
theorem dL_isSo_94 : decode cL_isSo 94 = .ok (.iconst 4, 1) := by decide +kernel
theorem dL_isSo_95 : decode cL_isSo 95 = .ok (.invokevirtual 83, 3) := by decide +kernel
theorem dL_isSo_98 : decode cL_isSo 98 = .ok (.aload_n 2, 1) := by decide +kernel
theorem dL_isSo_99 : decode cL_isSo 99 = .ok (.iload 11, 2) := by decide +kernel
theorem dL_isSo_101 : decode cL_isSo 101 = .ok (.iaload, 1) := by decide +kernel
theorem dL_isSo_102 : decode cL_isSo 102 = .ok (.sipush 256, 3) := by decide +kernel
theorem dL_isSo_105 : decode cL_isSo 105 = .ok (.idiv, 1) := by decide +kernel
theorem dL_isSo_106 : decode cL_isSo 106 = .ok (.bipush 8, 2) := by decide +kernel
theorem dL_isSo_108 : decode cL_isSo 108 = .ok (.irem, 1) := by decide +kernel
theorem dL_isSo_109 : decode cL_isSo 109 = .ok (.if_icmp .ne 33, 3) := by decide +kernel
theorem dL_isSo_112 : decode cL_isSo 112 = .ok (.iload 11, 2) := by decide +kernel
theorem dL_isSo_114 : decode cL_isSo 114 = .ok (.iload 8, 2) := by decide +kernel
theorem dL_isSo_116 : decode cL_isSo 116 = .ok (.iadd, 1) := by decide +kernel
theorem dL_isSo_117 : decode cL_isSo 117 = .ok (.iconst 4, 1) := by decide +kernel
theorem dL_isSo_118 : decode cL_isSo 118 = .ok (.irem, 1) := by decide +kernel
theorem dL_isSo_119 : decode cL_isSo 119 = .ok (.ifCond .gt 19, 3) := by decide +kernel
theorem dL_isSo_122 : decode cL_isSo 122 = .ok (.aload_n 0, 1) := by decide +kernel
theorem dL_isSo_123 : decode cL_isSo 123 = .ok (.iload 11, 2) := by decide +kernel
theorem dL_isSo_125 : decode cL_isSo 125 = .ok (.invokevirtual 137, 3) := by decide +kernel
theorem dL_isSo_128 : decode cL_isSo 128 = .ok (.aload_n 2, 1) := by decide +kernel
theorem dL_isSo_129 : decode cL_isSo 129 = .ok (.aload_n 3, 1) := by decide +kernel
theorem dL_isSo_130 : decode cL_isSo 130 = .ok (.iload 11, 2) := by decide +kernel
theorem dL_isSo_132 : decode cL_isSo 132 = .ok (.invokestatic 140, 3) := by decide +kernel
theorem dL_isSo_135 : decode cL_isSo 135 = .ok (.if_icmp .ne 7, 3) := by decide +kernel
theorem dL_isSo_138 : decode cL_isSo 138 = .ok (.iconst 1, 1) := by decide +kernel
theorem dL_isSo_139 : decode cL_isSo 139 = .ok (.goto 4, 3) := by decide +kernel
theorem dL_isSo_142 : decode cL_isSo 142 = .ok (.iconst 0, 1) := by decide +kernel
theorem dL_isSo_143 : decode cL_isSo 143 = .ok (.istore 10, 2) := by decide +kernel
theorem dL_isSo_145 : decode cL_isSo 145 = .ok (.iinc 11 1, 3) := by decide +kernel
theorem dL_isSo_148 : decode cL_isSo 148 = .ok (.goto (-142), 3) := by decide +kernel
theorem dL_isSo_151 : decode cL_isSo 151 = .ok (.iconst 0, 1) := by decide +kernel
theorem dL_isSo_152 : decode cL_isSo 152 = .ok (.istore 11, 2) := by decide +kernel
theorem dL_isSo_154 : decode cL_isSo 154 = .ok (.iload 11, 2) := by decide +kernel
theorem dL_isSo_156 : decode cL_isSo 156 = .ok (.aload 7, 2) := by decide +kernel
theorem dL_isSo_158 : decode cL_isSo 158 = .ok (.iconst 3, 1) := by decide +kernel
theorem dL_isSo_159 : decode cL_isSo 159 = .ok (.iaload, 1) := by decide +kernel
theorem dL_isSo_160 : decode cL_isSo 160 = .ok (.if_icmp .ge 212, 3) := by decide +kernel
theorem dL_isSo_163 : decode cL_isSo 163 = .ok (.iload 10, 2) := by decide +kernel
theorem dL_isSo_165 : decode cL_isSo 165 = .ok (.ifCond .eq 207, 3) := by decide +kernel
theorem dL_isSo_168 : decode cL_isSo 168 = .ok (.iconst 0, 1) := by decide +kernel
theorem dL_isSo_169 : decode cL_isSo 169 = .ok (.istore 12, 2) := by decide +kernel
theorem dL_isSo_171 : decode cL_isSo 171 = .ok (.iconst 1, 1) := by decide +kernel
theorem dL_isSo_172 : decode cL_isSo 172 = .ok (.istore 13, 2) := by decide +kernel
theorem dL_isSo_174 : decode cL_isSo 174 = .ok (.iload 13, 2) := by decide +kernel
theorem dL_isSo_176 : decode cL_isSo 176 = .ok (.ldc 143, 2) := by decide +kernel
theorem dL_isSo_178 : decode cL_isSo 178 = .ok (.if_icmp .ge 39, 3) := by decide +kernel
theorem dL_isSo_181 : decode cL_isSo 181 = .ok (.iload 12, 2) := by decide +kernel
theorem dL_isSo_183 : decode cL_isSo 183 = .ok (.aload 5, 2) := by decide +kernel
theorem dL_isSo_185 : decode cL_isSo 185 = .ok (.iload 11, 2) := by decide +kernel
theorem dL_isSo_187 : decode cL_isSo 187 = .ok (.iaload, 1) := by decide +kernel
theorem dL_isSo_188 : decode cL_isSo 188 = .ok (.iload 13, 2) := by decide +kernel
theorem dL_isSo_190 : decode cL_isSo 190 = .ok (.idiv, 1) := by decide +kernel
theorem dL_isSo_191 : decode cL_isSo 191 = .ok (.sipush 129, 3) := by decide +kernel
theorem dL_isSo_194 : decode cL_isSo 194 = .ok (.irem, 1) := by decide +kernel
theorem dL_isSo_195 : decode cL_isSo 195 = .ok (.ifCond .le 7, 3) := by decide +kernel
theorem dL_isSo_198 : decode cL_isSo 198 = .ok (.iconst 1, 1) := by decide +kernel
theorem dL_isSo_199 : decode cL_isSo 199 = .ok (.goto 4, 3) := by decide +kernel
theorem dL_isSo_202 : decode cL_isSo 202 = .ok (.iconst 0, 1) := by decide +kernel
theorem dL_isSo_203 : decode cL_isSo 203 = .ok (.iadd, 1) := by decide +kernel
theorem dL_isSo_204 : decode cL_isSo 204 = .ok (.istore 12, 2) := by decide +kernel
theorem dL_isSo_206 : decode cL_isSo 206 = .ok (.iload 13, 2) := by decide +kernel
theorem dL_isSo_208 : decode cL_isSo 208 = .ok (.sipush 129, 3) := by decide +kernel
theorem dL_isSo_211 : decode cL_isSo 211 = .ok (.imul, 1) := by decide +kernel
theorem dL_isSo_212 : decode cL_isSo 212 = .ok (.istore 13, 2) := by decide +kernel
theorem dL_isSo_214 : decode cL_isSo 214 = .ok (.goto (-40), 3) := by decide +kernel
theorem dL_isSo_217 : decode cL_isSo 217 = .ok (.aload_n 0, 1) := by decide +kernel
theorem dL_isSo_218 : decode cL_isSo 218 = .ok (.iload 11, 2) := by decide +kernel
theorem dL_isSo_220 : decode cL_isSo 220 = .ok (.iconst 0, 1) := by decide +kernel
theorem dL_isSo_221 : decode cL_isSo 221 = .ok (.invokevirtual 86, 3) := by decide +kernel
theorem dL_isSo_224 : decode cL_isSo 224 = .ok (.aload 4, 2) := by decide +kernel
theorem dL_isSo_226 : decode cL_isSo 226 = .ok (.iload 11, 2) := by decide +kernel
theorem dL_isSo_228 : decode cL_isSo 228 = .ok (.iaload, 1) := by decide +kernel
theorem dL_isSo_229 : decode cL_isSo 229 = .ok (.sipush 2048, 3) := by decide +kernel
theorem dL_isSo_232 : decode cL_isSo 232 = .ok (.idiv, 1) := by decide +kernel
theorem dL_isSo_233 : decode cL_isSo 233 = .ok (.iconst 4, 1) := by decide +kernel
theorem dL_isSo_234 : decode cL_isSo 234 = .ok (.irem, 1) := by decide +kernel
theorem dL_isSo_235 : decode cL_isSo 235 = .ok (.if_icmp .ne 128, 3) := by decide +kernel
theorem dL_isSo_238 : decode cL_isSo 238 = .ok (.aload_n 0, 1) := by decide +kernel
theorem dL_isSo_239 : decode cL_isSo 239 = .ok (.iload 11, 2) := by decide +kernel
theorem dL_isSo_241 : decode cL_isSo 241 = .ok (.iconst 1, 1) := by decide +kernel
theorem dL_isSo_242 : decode cL_isSo 242 = .ok (.invokevirtual 86, 3) := by decide +kernel
theorem dL_isSo_245 : decode cL_isSo 245 = .ok (.aload 4, 2) := by decide +kernel
theorem dL_isSo_247 : decode cL_isSo 247 = .ok (.iload 11, 2) := by decide +kernel
theorem dL_isSo_249 : decode cL_isSo 249 = .ok (.iaload, 1) := by decide +kernel
theorem dL_isSo_250 : decode cL_isSo 250 = .ok (.sipush 8192, 3) := by decide +kernel
theorem dL_isSo_253 : decode cL_isSo 253 = .ok (.idiv, 1) := by decide +kernel
theorem dL_isSo_254 : decode cL_isSo 254 = .ok (.if_icmp .ne 109, 3) := by decide +kernel
theorem dL_isSo_257 : decode cL_isSo 257 = .ok (.aload_n 0, 1) := by decide +kernel
theorem dL_isSo_258 : decode cL_isSo 258 = .ok (.iload 11, 2) := by decide +kernel
theorem dL_isSo_260 : decode cL_isSo 260 = .ok (.iconst 2, 1) := by decide +kernel
theorem dL_isSo_261 : decode cL_isSo 261 = .ok (.invokevirtual 86, 3) := by decide +kernel
theorem dL_isSo_264 : decode cL_isSo 264 = .ok (.aload 4, 2) := by decide +kernel
theorem dL_isSo_266 : decode cL_isSo 266 = .ok (.iload 11, 2) := by decide +kernel
theorem dL_isSo_268 : decode cL_isSo 268 = .ok (.iaload, 1) := by decide +kernel
theorem dL_isSo_269 : decode cL_isSo 269 = .ok (.bipush 16, 2) := by decide +kernel
theorem dL_isSo_271 : decode cL_isSo 271 = .ok (.idiv, 1) := by decide +kernel
theorem dL_isSo_272 : decode cL_isSo 272 = .ok (.sipush 128, 3) := by decide +kernel
theorem dL_isSo_275 : decode cL_isSo 275 = .ok (.irem, 1) := by decide +kernel
theorem dL_isSo_276 : decode cL_isSo 276 = .ok (.if_icmp .ne 87, 3) := by decide +kernel
theorem dL_isSo_279 : decode cL_isSo 279 = .ok (.aload_n 0, 1) := by decide +kernel
theorem dL_isSo_280 : decode cL_isSo 280 = .ok (.iload 11, 2) := by decide +kernel
theorem dL_isSo_282 : decode cL_isSo 282 = .ok (.iconst 3, 1) := by decide +kernel
theorem dL_isSo_283 : decode cL_isSo 283 = .ok (.invokevirtual 86, 3) := by decide +kernel
theorem dL_isSo_286 : decode cL_isSo 286 = .ok (.aload 6, 2) := by decide +kernel
theorem dL_isSo_288 : decode cL_isSo 288 = .ok (.iload 11, 2) := by decide +kernel
theorem dL_isSo_290 : decode cL_isSo 290 = .ok (.iaload, 1) := by decide +kernel
theorem dL_isSo_291 : decode cL_isSo 291 = .ok (.sipush 129, 3) := by decide +kernel
theorem dL_isSo_294 : decode cL_isSo 294 = .ok (.irem, 1) := by decide +kernel
theorem dL_isSo_295 : decode cL_isSo 295 = .ok (.iconst 1, 1) := by decide +kernel
theorem dL_isSo_296 : decode cL_isSo 296 = .ok (.isub, 1) := by decide +kernel
theorem dL_isSo_297 : decode cL_isSo 297 = .ok (.if_icmp .ne 66, 3) := by decide +kernel
theorem dL_isSo_300 : decode cL_isSo 300 = .ok (.aload_n 0, 1) := by decide +kernel
theorem dL_isSo_301 : decode cL_isSo 301 = .ok (.iload 11, 2) := by decide +kernel
theorem dL_isSo_303 : decode cL_isSo 303 = .ok (.iconst 4, 1) := by decide +kernel
theorem dL_isSo_304 : decode cL_isSo 304 = .ok (.invokevirtual 86, 3) := by decide +kernel
theorem dL_isSo_307 : decode cL_isSo 307 = .ok (.aload 6, 2) := by decide +kernel
theorem dL_isSo_309 : decode cL_isSo 309 = .ok (.iload 11, 2) := by decide +kernel
theorem dL_isSo_311 : decode cL_isSo 311 = .ok (.iaload, 1) := by decide +kernel
theorem dL_isSo_312 : decode cL_isSo 312 = .ok (.sipush 129, 3) := by decide +kernel
theorem dL_isSo_315 : decode cL_isSo 315 = .ok (.idiv, 1) := by decide +kernel
theorem dL_isSo_316 : decode cL_isSo 316 = .ok (.sipush 129, 3) := by decide +kernel
theorem dL_isSo_319 : decode cL_isSo 319 = .ok (.irem, 1) := by decide +kernel
theorem dL_isSo_320 : decode cL_isSo 320 = .ok (.iconst 1, 1) := by decide +kernel
theorem dL_isSo_321 : decode cL_isSo 321 = .ok (.isub, 1) := by decide +kernel
theorem dL_isSo_322 : decode cL_isSo 322 = .ok (.if_icmp .ne 41, 3) := by decide +kernel
theorem dL_isSo_325 : decode cL_isSo 325 = .ok (.aload_n 0, 1) := by decide +kernel
theorem dL_isSo_326 : decode cL_isSo 326 = .ok (.iload 11, 2) := by decide +kernel
theorem dL_isSo_328 : decode cL_isSo 328 = .ok (.iconst 5, 1) := by decide +kernel
theorem dL_isSo_329 : decode cL_isSo 329 = .ok (.invokevirtual 86, 3) := by decide +kernel
theorem dL_isSo_332 : decode cL_isSo 332 = .ok (.aload 6, 2) := by decide +kernel
theorem dL_isSo_334 : decode cL_isSo 334 = .ok (.iload 11, 2) := by decide +kernel
theorem dL_isSo_336 : decode cL_isSo 336 = .ok (.iaload, 1) := by decide +kernel
theorem dL_isSo_337 : decode cL_isSo 337 = .ok (.sipush 16641, 3) := by decide +kernel
theorem dL_isSo_340 : decode cL_isSo 340 = .ok (.idiv, 1) := by decide +kernel
theorem dL_isSo_341 : decode cL_isSo 341 = .ok (.iconst 1, 1) := by decide +kernel
theorem dL_isSo_342 : decode cL_isSo 342 = .ok (.isub, 1) := by decide +kernel
theorem dL_isSo_343 : decode cL_isSo 343 = .ok (.if_icmp .ne 20, 3) := by decide +kernel
theorem dL_isSo_346 : decode cL_isSo 346 = .ok (.aload_n 0, 1) := by decide +kernel
theorem dL_isSo_347 : decode cL_isSo 347 = .ok (.iload 11, 2) := by decide +kernel
theorem dL_isSo_349 : decode cL_isSo 349 = .ok (.bipush 6, 2) := by decide +kernel
theorem dL_isSo_351 : decode cL_isSo 351 = .ok (.invokevirtual 86, 3) := by decide +kernel
theorem dL_isSo_354 : decode cL_isSo 354 = .ok (.iload 12, 2) := by decide +kernel
theorem dL_isSo_356 : decode cL_isSo 356 = .ok (.if_icmp .ne 7, 3) := by decide +kernel
theorem dL_isSo_359 : decode cL_isSo 359 = .ok (.iconst 1, 1) := by decide +kernel
theorem dL_isSo_360 : decode cL_isSo 360 = .ok (.goto 4, 3) := by decide +kernel
theorem dL_isSo_363 : decode cL_isSo 363 = .ok (.iconst 0, 1) := by decide +kernel
theorem dL_isSo_364 : decode cL_isSo 364 = .ok (.istore 10, 2) := by decide +kernel
theorem dL_isSo_366 : decode cL_isSo 366 = .ok (.iinc 11 1, 3) := by decide +kernel
theorem dL_isSo_369 : decode cL_isSo 369 = .ok (.goto (-215), 3) := by decide +kernel
theorem dL_isSo_372 : decode cL_isSo 372 = .ok (.iload 10, 2) := by decide +kernel
theorem dL_isSo_374 : decode cL_isSo 374 = .ok (.ifCond .eq 372, 3) := by decide +kernel
theorem dL_isSo_377 : decode cL_isSo 377 = .ok (.aload 7, 2) := by decide +kernel
theorem dL_isSo_379 : decode cL_isSo 379 = .ok (.iconst 1, 1) := by decide +kernel
theorem dL_isSo_380 : decode cL_isSo 380 = .ok (.iaload, 1) := by decide +kernel
theorem dL_isSo_381 : decode cL_isSo 381 = .ok (.ifCond .le 365, 3) := by decide +kernel
theorem dL_isSo_384 : decode cL_isSo 384 = .ok (.iload 8, 2) := by decide +kernel
theorem dL_isSo_386 : decode cL_isSo 386 = .ok (.aload 7, 2) := by decide +kernel
theorem dL_isSo_388 : decode cL_isSo 388 = .ok (.iconst 1, 1) := by decide +kernel
theorem dL_isSo_389 : decode cL_isSo 389 = .ok (.iaload, 1) := by decide +kernel
theorem dL_isSo_390 : decode cL_isSo 390 = .ok (.irem, 1) := by decide +kernel
theorem dL_isSo_391 : decode cL_isSo 391 = .ok (.istore 11, 2) := by decide +kernel
theorem dL_isSo_393 : decode cL_isSo 393 = .ok (.iload 9, 2) := by decide +kernel
theorem dL_isSo_395 : decode cL_isSo 395 = .ok (.aload 7, 2) := by decide +kernel
theorem dL_isSo_397 : decode cL_isSo 397 = .ok (.iconst 1, 1) := by decide +kernel
theorem dL_isSo_398 : decode cL_isSo 398 = .ok (.iaload, 1) := by decide +kernel
theorem dL_isSo_399 : decode cL_isSo 399 = .ok (.irem, 1) := by decide +kernel
theorem dL_isSo_400 : decode cL_isSo 400 = .ok (.istore 12, 2) := by decide +kernel
theorem dL_isSo_402 : decode cL_isSo 402 = .ok (.iload 9, 2) := by decide +kernel
theorem dL_isSo_404 : decode cL_isSo 404 = .ok (.iconst 3, 1) := by decide +kernel
theorem dL_isSo_405 : decode cL_isSo 405 = .ok (.irem, 1) := by decide +kernel
theorem dL_isSo_406 : decode cL_isSo 406 = .ok (.ifCond .ne 10, 3) := by decide +kernel
theorem dL_isSo_409 : decode cL_isSo 409 = .ok (.aload 7, 2) := by decide +kernel
theorem dL_isSo_411 : decode cL_isSo 411 = .ok (.iconst 0, 1) := by decide +kernel
theorem dL_isSo_412 : decode cL_isSo 412 = .ok (.iaload, 1) := by decide +kernel
theorem dL_isSo_413 : decode cL_isSo 413 = .ok (.goto 16, 3) := by decide +kernel
theorem dL_isSo_416 : decode cL_isSo 416 = .ok (.iload 9, 2) := by decide +kernel
theorem dL_isSo_418 : decode cL_isSo 418 = .ok (.iconst 3, 1) := by decide +kernel
theorem dL_isSo_419 : decode cL_isSo 419 = .ok (.idiv, 1) := by decide +kernel
theorem dL_isSo_420 : decode cL_isSo 420 = .ok (.aload 7, 2) := by decide +kernel
theorem dL_isSo_422 : decode cL_isSo 422 = .ok (.iconst 0, 1) := by decide +kernel
theorem dL_isSo_423 : decode cL_isSo 423 = .ok (.iaload, 1) := by decide +kernel
theorem dL_isSo_424 : decode cL_isSo 424 = .ok (.sipush 500, 3) := by decide +kernel
theorem dL_isSo_427 : decode cL_isSo 427 = .ok (.iadd, 1) := by decide +kernel
theorem dL_isSo_428 : decode cL_isSo 428 = .ok (.irem, 1) := by decide +kernel
theorem dL_isSo_429 : decode cL_isSo 429 = .ok (.istore 13, 2) := by decide +kernel
theorem dL_isSo_431 : decode cL_isSo 431 = .ok (.iconst (-1), 1) := by decide +kernel
theorem dL_isSo_432 : decode cL_isSo 432 = .ok (.istore 14, 2) := by decide +kernel
theorem dL_isSo_434 : decode cL_isSo 434 = .ok (.aload 7, 2) := by decide +kernel
theorem dL_isSo_436 : decode cL_isSo 436 = .ok (.iconst 2, 1) := by decide +kernel
theorem dL_isSo_437 : decode cL_isSo 437 = .ok (.iaload, 1) := by decide +kernel
theorem dL_isSo_438 : decode cL_isSo 438 = .ok (.iconst 1, 1) := by decide +kernel
theorem dL_isSo_439 : decode cL_isSo 439 = .ok (.isub, 1) := by decide +kernel
theorem dL_isSo_440 : decode cL_isSo 440 = .ok (.istore 15, 2) := by decide +kernel
theorem dL_isSo_442 : decode cL_isSo 442 = .ok (.iload 15, 2) := by decide +kernel
theorem dL_isSo_444 : decode cL_isSo 444 = .ok (.ifCond .lt 41, 3) := by decide +kernel
theorem dL_isSo_447 : decode cL_isSo 447 = .ok (.aload_n 2, 1) := by decide +kernel
theorem dL_isSo_448 : decode cL_isSo 448 = .ok (.iload 15, 2) := by decide +kernel
theorem dL_isSo_450 : decode cL_isSo 450 = .ok (.iload 11, 2) := by decide +kernel
theorem dL_isSo_452 : decode cL_isSo 452 = .ok (.invokestatic 129, 3) := by decide +kernel
theorem dL_isSo_455 : decode cL_isSo 455 = .ok (.ifCond .eq 20, 3) := by decide +kernel
theorem dL_isSo_458 : decode cL_isSo 458 = .ok (.aload_n 2, 1) := by decide +kernel
theorem dL_isSo_459 : decode cL_isSo 459 = .ok (.aload_n 3, 1) := by decide +kernel
theorem dL_isSo_460 : decode cL_isSo 460 = .ok (.iload 15, 2) := by decide +kernel
theorem dL_isSo_462 : decode cL_isSo 462 = .ok (.iload 13, 2) := by decide +kernel
theorem dL_isSo_464 : decode cL_isSo 464 = .ok (.invokestatic 133, 3) := by decide +kernel
theorem dL_isSo_467 : decode cL_isSo 467 = .ok (.ifCond .eq 8, 3) := by decide +kernel
theorem dL_isSo_470 : decode cL_isSo 470 = .ok (.iload 15, 2) := by decide +kernel
theorem dL_isSo_472 : decode cL_isSo 472 = .ok (.goto 5, 3) := by decide +kernel
theorem dL_isSo_475 : decode cL_isSo 475 = .ok (.iload 14, 2) := by decide +kernel
theorem dL_isSo_477 : decode cL_isSo 477 = .ok (.istore 14, 2) := by decide +kernel
theorem dL_isSo_479 : decode cL_isSo 479 = .ok (.iinc 15 (-1), 3) := by decide +kernel
theorem dL_isSo_482 : decode cL_isSo 482 = .ok (.goto (-40), 3) := by decide +kernel
theorem dL_isSo_485 : decode cL_isSo 485 = .ok (.aload_n 0, 1) := by decide +kernel
theorem dL_isSo_486 : decode cL_isSo 486 = .ok (.iload 11, 2) := by decide +kernel
theorem dL_isSo_488 : decode cL_isSo 488 = .ok (.iload 12, 2) := by decide +kernel
theorem dL_isSo_490 : decode cL_isSo 490 = .ok (.invokevirtual 144, 3) := by decide +kernel
theorem dL_isSo_493 : decode cL_isSo 493 = .ok (.aload_n 1, 1) := by decide +kernel
theorem dL_isSo_494 : decode cL_isSo 494 = .ok (.iload 11, 2) := by decide +kernel
theorem dL_isSo_496 : decode cL_isSo 496 = .ok (.iload 12, 2) := by decide +kernel
theorem dL_isSo_498 : decode cL_isSo 498 = .ok (.invokestatic 125, 3) := by decide +kernel
theorem dL_isSo_501 : decode cL_isSo 501 = .ok (.if_icmp .ne 63, 3) := by decide +kernel
theorem dL_isSo_504 : decode cL_isSo 504 = .ok (.aload_n 0, 1) := by decide +kernel
theorem dL_isSo_505 : decode cL_isSo 505 = .ok (.iload 12, 2) := by decide +kernel
theorem dL_isSo_507 : decode cL_isSo 507 = .ok (.iload 11, 2) := by decide +kernel
theorem dL_isSo_509 : decode cL_isSo 509 = .ok (.invokevirtual 144, 3) := by decide +kernel
theorem dL_isSo_512 : decode cL_isSo 512 = .ok (.aload_n 0, 1) := by decide +kernel
theorem dL_isSo_513 : decode cL_isSo 513 = .ok (.iload 11, 2) := by decide +kernel
theorem dL_isSo_515 : decode cL_isSo 515 = .ok (.iload 12, 2) := by decide +kernel
theorem dL_isSo_517 : decode cL_isSo 517 = .ok (.invokevirtual 144, 3) := by decide +kernel
theorem dL_isSo_520 : decode cL_isSo 520 = .ok (.if_icmp .ne 44, 3) := by decide +kernel
theorem dL_isSo_523 : decode cL_isSo 523 = .ok (.aload_n 0, 1) := by decide +kernel
theorem dL_isSo_524 : decode cL_isSo 524 = .ok (.iload 11, 2) := by decide +kernel
theorem dL_isSo_526 : decode cL_isSo 526 = .ok (.iload 13, 2) := by decide +kernel
theorem dL_isSo_528 : decode cL_isSo 528 = .ok (.invokevirtual 89, 3) := by decide +kernel
theorem dL_isSo_531 : decode cL_isSo 531 = .ok (.iload 14, 2) := by decide +kernel
theorem dL_isSo_533 : decode cL_isSo 533 = .ok (.if_icmp .ne 31, 3) := by decide +kernel
theorem dL_isSo_536 : decode cL_isSo 536 = .ok (.aload_n 0, 1) := by decide +kernel
theorem dL_isSo_537 : decode cL_isSo 537 = .ok (.iload 11, 2) := by decide +kernel
theorem dL_isSo_539 : decode cL_isSo 539 = .ok (.iload 13, 2) := by decide +kernel
theorem dL_isSo_541 : decode cL_isSo 541 = .ok (.iconst 0, 1) := by decide +kernel
theorem dL_isSo_542 : decode cL_isSo 542 = .ok (.invokevirtual 146, 3) := by decide +kernel
theorem dL_isSo_545 : decode cL_isSo 545 = .ok (.iload 14, 2) := by decide +kernel
theorem dL_isSo_547 : decode cL_isSo 547 = .ok (.ifCond .ge 8, 3) := by decide +kernel
theorem dL_isSo_550 : decode cL_isSo 550 = .ok (.bipush 102, 2) := by decide +kernel
theorem dL_isSo_552 : decode cL_isSo 552 = .ok (.goto 5, 3) := by decide +kernel
theorem dL_isSo_555 : decode cL_isSo 555 = .ok (.bipush 98, 2) := by decide +kernel
theorem dL_isSo_557 : decode cL_isSo 557 = .ok (.if_icmp .ne 7, 3) := by decide +kernel
theorem dL_isSo_560 : decode cL_isSo 560 = .ok (.iconst 1, 1) := by decide +kernel
theorem dL_isSo_561 : decode cL_isSo 561 = .ok (.goto 4, 3) := by decide +kernel
theorem dL_isSo_564 : decode cL_isSo 564 = .ok (.iconst 0, 1) := by decide +kernel
theorem dL_isSo_565 : decode cL_isSo 565 = .ok (.istore 10, 2) := by decide +kernel
theorem dL_isSo_567 : decode cL_isSo 567 = .ok (.iload 10, 2) := by decide +kernel
theorem dL_isSo_569 : decode cL_isSo 569 = .ok (.ifCond .eq 177, 3) := by decide +kernel
theorem dL_isSo_572 : decode cL_isSo 572 = .ok (.iload 14, 2) := by decide +kernel
theorem dL_isSo_574 : decode cL_isSo 574 = .ok (.ifCond .lt 172, 3) := by decide +kernel
theorem dL_isSo_577 : decode cL_isSo 577 = .ok (.aload_n 2, 1) := by decide +kernel
theorem dL_isSo_578 : decode cL_isSo 578 = .ok (.iload 14, 2) := by decide +kernel
theorem dL_isSo_580 : decode cL_isSo 580 = .ok (.iaload, 1) := by decide +kernel
theorem dL_isSo_581 : decode cL_isSo 581 = .ok (.bipush 16, 2) := by decide +kernel
theorem dL_isSo_583 : decode cL_isSo 583 = .ok (.irem, 1) := by decide +kernel
theorem dL_isSo_584 : decode cL_isSo 584 = .ok (.iload 11, 2) := by decide +kernel
theorem dL_isSo_586 : decode cL_isSo 586 = .ok (.if_icmp .ne 16, 3) := by decide +kernel
theorem dL_isSo_589 : decode cL_isSo 589 = .ok (.aload_n 2, 1) := by decide +kernel
theorem dL_isSo_590 : decode cL_isSo 590 = .ok (.iload 14, 2) := by decide +kernel
theorem dL_isSo_592 : decode cL_isSo 592 = .ok (.iaload, 1) := by decide +kernel
theorem dL_isSo_593 : decode cL_isSo 593 = .ok (.bipush 16, 2) := by decide +kernel
theorem dL_isSo_595 : decode cL_isSo 595 = .ok (.idiv, 1) := by decide +kernel
theorem dL_isSo_596 : decode cL_isSo 596 = .ok (.bipush 16, 2) := by decide +kernel
theorem dL_isSo_598 : decode cL_isSo 598 = .ok (.irem, 1) := by decide +kernel
theorem dL_isSo_599 : decode cL_isSo 599 = .ok (.goto 10, 3) := by decide +kernel
theorem dL_isSo_602 : decode cL_isSo 602 = .ok (.aload_n 2, 1) := by decide +kernel
theorem dL_isSo_603 : decode cL_isSo 603 = .ok (.iload 14, 2) := by decide +kernel
theorem dL_isSo_605 : decode cL_isSo 605 = .ok (.iaload, 1) := by decide +kernel
theorem dL_isSo_606 : decode cL_isSo 606 = .ok (.bipush 16, 2) := by decide +kernel
theorem dL_isSo_608 : decode cL_isSo 608 = .ok (.irem, 1) := by decide +kernel
theorem dL_isSo_609 : decode cL_isSo 609 = .ok (.istore 15, 2) := by decide +kernel
theorem dL_isSo_611 : decode cL_isSo 611 = .ok (.iload 14, 2) := by decide +kernel
theorem dL_isSo_613 : decode cL_isSo 613 = .ok (.bipush 9, 2) := by decide +kernel
theorem dL_isSo_615 : decode cL_isSo 615 = .ok (.if_icmp .le 8, 3) := by decide +kernel
theorem dL_isSo_618 : decode cL_isSo 618 = .ok (.bipush 15, 2) := by decide +kernel
theorem dL_isSo_620 : decode cL_isSo 620 = .ok (.goto 5, 3) := by decide +kernel
theorem dL_isSo_623 : decode cL_isSo 623 = .ok (.bipush 14, 2) := by decide +kernel
theorem dL_isSo_625 : decode cL_isSo 625 = .ok (.istore 16, 2) := by decide +kernel
theorem dL_isSo_627 : decode cL_isSo 627 = .ok (.aload_n 0, 1) := by decide +kernel
theorem dL_isSo_628 : decode cL_isSo 628 = .ok (.iload 11, 2) := by decide +kernel
theorem dL_isSo_630 : decode cL_isSo 630 = .ok (.iload 13, 2) := by decide +kernel
theorem dL_isSo_632 : decode cL_isSo 632 = .ok (.bipush 9, 2) := by decide +kernel
theorem dL_isSo_634 : decode cL_isSo 634 = .ok (.invokevirtual 146, 3) := by decide +kernel
theorem dL_isSo_637 : decode cL_isSo 637 = .ok (.iload 14, 2) := by decide +kernel
theorem dL_isSo_639 : decode cL_isSo 639 = .ok (.bipush 9, 2) := by decide +kernel
theorem dL_isSo_641 : decode cL_isSo 641 = .ok (.if_icmp .le 8, 3) := by decide +kernel
theorem dL_isSo_644 : decode cL_isSo 644 = .ok (.bipush 49, 2) := by decide +kernel
theorem dL_isSo_646 : decode cL_isSo 646 = .ok (.goto 8, 3) := by decide +kernel
theorem dL_isSo_649 : decode cL_isSo 649 = .ok (.bipush 48, 2) := by decide +kernel
theorem dL_isSo_651 : decode cL_isSo 651 = .ok (.iload 14, 2) := by decide +kernel
theorem dL_isSo_653 : decode cL_isSo 653 = .ok (.iadd, 1) := by decide +kernel
theorem dL_isSo_654 : decode cL_isSo 654 = .ok (.i2c, 1) := by decide +kernel
theorem dL_isSo_655 : decode cL_isSo 655 = .ok (.if_icmp .ne 88, 3) := by decide +kernel
theorem dL_isSo_658 : decode cL_isSo 658 = .ok (.aload_n 0, 1) := by decide +kernel
theorem dL_isSo_659 : decode cL_isSo 659 = .ok (.iload 11, 2) := by decide +kernel
theorem dL_isSo_661 : decode cL_isSo 661 = .ok (.iload 13, 2) := by decide +kernel
theorem dL_isSo_663 : decode cL_isSo 663 = .ok (.iload 16, 2) := by decide +kernel
theorem dL_isSo_665 : decode cL_isSo 665 = .ok (.invokevirtual 146, 3) := by decide +kernel
theorem dL_isSo_668 : decode cL_isSo 668 = .ok (.iload 15, 2) := by decide +kernel
theorem dL_isSo_670 : decode cL_isSo 670 = .ok (.bipush 9, 2) := by decide +kernel
theorem dL_isSo_672 : decode cL_isSo 672 = .ok (.if_icmp .le 8, 3) := by decide +kernel
theorem dL_isSo_675 : decode cL_isSo 675 = .ok (.bipush 49, 2) := by decide +kernel
theorem dL_isSo_677 : decode cL_isSo 677 = .ok (.goto 8, 3) := by decide +kernel
theorem dL_isSo_680 : decode cL_isSo 680 = .ok (.bipush 48, 2) := by decide +kernel
theorem dL_isSo_682 : decode cL_isSo 682 = .ok (.iload 15, 2) := by decide +kernel
theorem dL_isSo_684 : decode cL_isSo 684 = .ok (.iadd, 1) := by decide +kernel
theorem dL_isSo_685 : decode cL_isSo 685 = .ok (.i2c, 1) := by decide +kernel
theorem dL_isSo_686 : decode cL_isSo 686 = .ok (.if_icmp .ne 57, 3) := by decide +kernel
theorem dL_isSo_689 : decode cL_isSo 689 = .ok (.aload_n 0, 1) := by decide +kernel
theorem dL_isSo_690 : decode cL_isSo 690 = .ok (.iload 11, 2) := by decide +kernel
theorem dL_isSo_692 : decode cL_isSo 692 = .ok (.iload 13, 2) := by decide +kernel
theorem dL_isSo_694 : decode cL_isSo 694 = .ok (.iload 16, 2) := by decide +kernel
theorem dL_isSo_696 : decode cL_isSo 696 = .ok (.iconst 1, 1) := by decide +kernel
theorem dL_isSo_697 : decode cL_isSo 697 = .ok (.iadd, 1) := by decide +kernel
theorem dL_isSo_698 : decode cL_isSo 698 = .ok (.invokevirtual 146, 3) := by decide +kernel
theorem dL_isSo_701 : decode cL_isSo 701 = .ok (.iload 15, 2) := by decide +kernel
theorem dL_isSo_703 : decode cL_isSo 703 = .ok (.bipush 9, 2) := by decide +kernel
theorem dL_isSo_705 : decode cL_isSo 705 = .ok (.if_icmp .le 14, 3) := by decide +kernel
theorem dL_isSo_708 : decode cL_isSo 708 = .ok (.bipush 48, 2) := by decide +kernel
theorem dL_isSo_710 : decode cL_isSo 710 = .ok (.iload 15, 2) := by decide +kernel
theorem dL_isSo_712 : decode cL_isSo 712 = .ok (.bipush 10, 2) := by decide +kernel
theorem dL_isSo_714 : decode cL_isSo 714 = .ok (.irem, 1) := by decide +kernel
theorem dL_isSo_715 : decode cL_isSo 715 = .ok (.iadd, 1) := by decide +kernel
theorem dL_isSo_716 : decode cL_isSo 716 = .ok (.goto 4, 3) := by decide +kernel
theorem dL_isSo_719 : decode cL_isSo 719 = .ok (.iconst 0, 1) := by decide +kernel
theorem dL_isSo_720 : decode cL_isSo 720 = .ok (.i2c, 1) := by decide +kernel
theorem dL_isSo_721 : decode cL_isSo 721 = .ok (.if_icmp .ne 22, 3) := by decide +kernel
theorem dL_isSo_724 : decode cL_isSo 724 = .ok (.aload_n 0, 1) := by decide +kernel
theorem dL_isSo_725 : decode cL_isSo 725 = .ok (.iload 11, 2) := by decide +kernel
theorem dL_isSo_727 : decode cL_isSo 727 = .ok (.iload 13, 2) := by decide +kernel
theorem dL_isSo_729 : decode cL_isSo 729 = .ok (.iload 16, 2) := by decide +kernel
theorem dL_isSo_731 : decode cL_isSo 731 = .ok (.iconst 2, 1) := by decide +kernel
theorem dL_isSo_732 : decode cL_isSo 732 = .ok (.iadd, 1) := by decide +kernel
theorem dL_isSo_733 : decode cL_isSo 733 = .ok (.invokevirtual 146, 3) := by decide +kernel
theorem dL_isSo_736 : decode cL_isSo 736 = .ok (.ifCond .ne 7, 3) := by decide +kernel
theorem dL_isSo_739 : decode cL_isSo 739 = .ok (.iconst 1, 1) := by decide +kernel
theorem dL_isSo_740 : decode cL_isSo 740 = .ok (.goto 4, 3) := by decide +kernel
theorem dL_isSo_743 : decode cL_isSo 743 = .ok (.iconst 0, 1) := by decide +kernel
theorem dL_isSo_744 : decode cL_isSo 744 = .ok (.istore 10, 2) := by decide +kernel
theorem dL_isSo_746 : decode cL_isSo 746 = .ok (.iload 10, 2) := by decide +kernel
theorem dL_isSo_748 : decode cL_isSo 748 = .ok (.ifCond .eq 43, 3) := by decide +kernel
theorem dL_isSo_751 : decode cL_isSo 751 = .ok (.aload_n 0, 1) := by decide +kernel
theorem dL_isSo_752 : decode cL_isSo 752 = .ok (.bipush 21, 2) := by decide +kernel
theorem dL_isSo_754 : decode cL_isSo 754 = .ok (.aload 7, 2) := by decide +kernel
theorem dL_isSo_756 : decode cL_isSo 756 = .ok (.iconst 2, 1) := by decide +kernel
theorem dL_isSo_757 : decode cL_isSo 757 = .ok (.iaload, 1) := by decide +kernel
theorem dL_isSo_758 : decode cL_isSo 758 = .ok (.iconst 0, 1) := by decide +kernel
theorem dL_isSo_759 : decode cL_isSo 759 = .ok (.iconst 0, 1) := by decide +kernel
theorem dL_isSo_760 : decode cL_isSo 760 = .ok (.iconst 0, 1) := by decide +kernel
theorem dL_isSo_761 : decode cL_isSo 761 = .ok (.invokestatic 150, 3) := by decide +kernel
theorem dL_isSo_764 : decode cL_isSo 764 = .ok (.ldc 94, 2) := by decide +kernel
theorem dL_isSo_766 : decode cL_isSo 766 = .ok (.if_icmp .ne 25, 3) := by decide +kernel
theorem dL_isSo_769 : decode cL_isSo 769 = .ok (.aload_n 0, 1) := by decide +kernel
theorem dL_isSo_770 : decode cL_isSo 770 = .ok (.bipush 22, 2) := by decide +kernel
theorem dL_isSo_772 : decode cL_isSo 772 = .ok (.aload 7, 2) := by decide +kernel
theorem dL_isSo_774 : decode cL_isSo 774 = .ok (.iconst 3, 1) := by decide +kernel
theorem dL_isSo_775 : decode cL_isSo 775 = .ok (.iaload, 1) := by decide +kernel
theorem dL_isSo_776 : decode cL_isSo 776 = .ok (.iconst 0, 1) := by decide +kernel
theorem dL_isSo_777 : decode cL_isSo 777 = .ok (.iconst 0, 1) := by decide +kernel
theorem dL_isSo_778 : decode cL_isSo 778 = .ok (.iconst 0, 1) := by decide +kernel
theorem dL_isSo_779 : decode cL_isSo 779 = .ok (.invokestatic 150, 3) := by decide +kernel
theorem dL_isSo_782 : decode cL_isSo 782 = .ok (.ldc 94, 2) := by decide +kernel
theorem dL_isSo_784 : decode cL_isSo 784 = .ok (.if_icmp .ne 7, 3) := by decide +kernel
theorem dL_isSo_787 : decode cL_isSo 787 = .ok (.iconst 1, 1) := by decide +kernel
theorem dL_isSo_788 : decode cL_isSo 788 = .ok (.goto 4, 3) := by decide +kernel
theorem dL_isSo_791 : decode cL_isSo 791 = .ok (.iconst 0, 1) := by decide +kernel
theorem dL_isSo_792 : decode cL_isSo 792 = .ok (.ireturn, 1) := by decide +kernel
def tab_L_isSo_0 : List (Nat × Sem) := [(0, op_ic 1 1), (1, op_is 10 3), (3, op_ic 0 4), (4, op_is 11 6), (6, op_il 11 8), (8, op_al 7 10), (10, op_ic 2 11), (11, op_iald 12), (12, op_cmp (fun x y => y ≤ x) 151 15), (15, op_il 10 17), (17, op_if (fun x => x = 0) 151 20), (20, op_al 0 21), (21, op_il 11 23), (23, op_ic 0 24), (24, op_callVN 6 sp_X4_vowOf 3 2 27), (27, op_al 2 28), (28, op_il 11 30), (30, op_iald 31), (31, op_ic 4096 34), (34, op_dv (fun x y => x / y) 35), (35, op_ic 4 36), (36, op_dv (fun x y => irm x y) 37), (37, op_cmp (fun x y => ¬ x = y) 142 40), (40, op_al 0 41), (41, op_il 11 43), (43, op_ic 1 44), (44, op_callVN 6 sp_X4_vowOf 3 2 47), (47, op_al 3 48), (48, op_il 11 50), (50, op_iald 51), (51, op_cmp (fun x y => ¬ x = y) 142 54), (54, op_al 0 55), (55, op_il 11 57), (57, op_ic 2 58), (58, op_callVN 6 sp_X4_vowOf 3 2 61), (61, op_al 3 62), (62, op_ic 16 64), (64, op_il 11 66), (66, op_bin (fun x y => x + y) 67), (67, op_iald 68), (68, op_cmp (fun x y => ¬ x = y) 142 71), (71, op_al 0 72), (72, op_il 11 74), (74, op_ic 3 75), (75, op_callVN 6 sp_X4_vowOf 3 2 78), (78, op_al 2 79), (79, op_il 11 81), (81, op_iald 82), (82, op_ic 2048 85), (85, op_dv (fun x y => x / y) 86), (86, op_ic 2 87), (87, op_dv (fun x y => irm x y) 88), (88, op_cmp (fun x y => ¬ x = y) 142 91), (91, op_al 0 92), (92, op_il 11 94), (94, op_ic 4 95), (95, op_callVN 6 sp_X4_vowOf 3 2 98), (98, op_al 2 99), (99, op_il 11 101), (101, op_iald 102)]
set_option maxRecDepth 20000 in
theorem tok_L_isSo_0 : ∀ q ∈ tab_L_isSo_0, GSnd RL cL_isSo 17 13 450 (some .boolean) q.1 q.2 := by
  unfold tab_L_isSo_0
  refine gcons (snd_g (ok_iconst dL_isSo_0 rfl rfl)) ?_
  refine gcons (snd_g (ok_istore dL_isSo_1 (by decide) rfl)) ?_
  refine gcons (snd_g (ok_iconst dL_isSo_3 rfl rfl)) ?_
  refine gcons (snd_g (ok_istore dL_isSo_4 (by decide) rfl)) ?_
  refine gcons (snd_g (ok_iload dL_isSo_6 rfl)) ?_
  refine gcons (snd_g (ok_aload dL_isSo_8 rfl)) ?_
  refine gcons (snd_g (ok_iconst dL_isSo_10 rfl rfl)) ?_
  refine gcons (snd_g (ok_iaload dL_isSo_11 rfl)) ?_
  refine gcons (snd_g (ok_icmp_ge dL_isSo_12 rfl rfl)) ?_
  refine gcons (snd_g (ok_iload dL_isSo_15 rfl)) ?_
  refine gcons (snd_g (ok_if_eq dL_isSo_17 rfl rfl)) ?_
  refine gcons (snd_g (ok_aload_n dL_isSo_20 rfl rfl)) ?_
  refine gcons (snd_g (ok_iload dL_isSo_21 rfl)) ?_
  refine gcons (snd_g (ok_iconst dL_isSo_23 rfl rfl)) ?_
  refine gcons (snd_g (ok_invokevirtualN M_X4_vowOf (C := RX4) (T := TX4) (nf := 8) rfl w_667 w_668 w_669 w_20 w_670 ⟨rfl, by decide, by decide, by decide +kernel⟩ (by decide) (by decide) dL_isSo_24 rfl)) ?_
  refine gcons (snd_g (ok_aload_n dL_isSo_27 rfl rfl)) ?_
  refine gcons (snd_g (ok_iload dL_isSo_28 rfl)) ?_
  refine gcons (snd_g (ok_iaload dL_isSo_30 rfl)) ?_
  refine gcons (snd_g (ok_sipush dL_isSo_31 rfl rfl)) ?_
  refine gcons (snd_g (ok_idiv dL_isSo_34 rfl)) ?_
  refine gcons (snd_g (ok_iconst dL_isSo_35 rfl rfl)) ?_
  refine gcons (snd_g (ok_irem dL_isSo_36 rfl)) ?_
  refine gcons (snd_g (ok_icmp_ne dL_isSo_37 rfl rfl)) ?_
  refine gcons (snd_g (ok_aload_n dL_isSo_40 rfl rfl)) ?_
  refine gcons (snd_g (ok_iload dL_isSo_41 rfl)) ?_
  refine gcons (snd_g (ok_iconst dL_isSo_43 rfl rfl)) ?_
  refine gcons (snd_g (ok_invokevirtualN M_X4_vowOf (C := RX4) (T := TX4) (nf := 8) rfl w_667 w_668 w_669 w_20 w_670 ⟨rfl, by decide, by decide, by decide +kernel⟩ (by decide) (by decide) dL_isSo_44 rfl)) ?_
  refine gcons (snd_g (ok_aload_n dL_isSo_47 rfl rfl)) ?_
  refine gcons (snd_g (ok_iload dL_isSo_48 rfl)) ?_
  refine gcons (snd_g (ok_iaload dL_isSo_50 rfl)) ?_
  refine gcons (snd_g (ok_icmp_ne dL_isSo_51 rfl rfl)) ?_
  refine gcons (snd_g (ok_aload_n dL_isSo_54 rfl rfl)) ?_
  refine gcons (snd_g (ok_iload dL_isSo_55 rfl)) ?_
  refine gcons (snd_g (ok_iconst dL_isSo_57 rfl rfl)) ?_
  refine gcons (snd_g (ok_invokevirtualN M_X4_vowOf (C := RX4) (T := TX4) (nf := 8) rfl w_667 w_668 w_669 w_20 w_670 ⟨rfl, by decide, by decide, by decide +kernel⟩ (by decide) (by decide) dL_isSo_58 rfl)) ?_
  refine gcons (snd_g (ok_aload_n dL_isSo_61 rfl rfl)) ?_
  refine gcons (snd_g (ok_bipush dL_isSo_62 rfl rfl)) ?_
  refine gcons (snd_g (ok_iload dL_isSo_64 rfl)) ?_
  refine gcons (snd_g (ok_iadd dL_isSo_66 rfl)) ?_
  refine gcons (snd_g (ok_iaload dL_isSo_67 rfl)) ?_
  refine gcons (snd_g (ok_icmp_ne dL_isSo_68 rfl rfl)) ?_
  refine gcons (snd_g (ok_aload_n dL_isSo_71 rfl rfl)) ?_
  refine gcons (snd_g (ok_iload dL_isSo_72 rfl)) ?_
  refine gcons (snd_g (ok_iconst dL_isSo_74 rfl rfl)) ?_
  refine gcons (snd_g (ok_invokevirtualN M_X4_vowOf (C := RX4) (T := TX4) (nf := 8) rfl w_667 w_668 w_669 w_20 w_670 ⟨rfl, by decide, by decide, by decide +kernel⟩ (by decide) (by decide) dL_isSo_75 rfl)) ?_
  refine gcons (snd_g (ok_aload_n dL_isSo_78 rfl rfl)) ?_
  refine gcons (snd_g (ok_iload dL_isSo_79 rfl)) ?_
  refine gcons (snd_g (ok_iaload dL_isSo_81 rfl)) ?_
  refine gcons (snd_g (ok_sipush dL_isSo_82 rfl rfl)) ?_
  refine gcons (snd_g (ok_idiv dL_isSo_85 rfl)) ?_
  refine gcons (snd_g (ok_iconst dL_isSo_86 rfl rfl)) ?_
  refine gcons (snd_g (ok_irem dL_isSo_87 rfl)) ?_
  refine gcons (snd_g (ok_icmp_ne dL_isSo_88 rfl rfl)) ?_
  refine gcons (snd_g (ok_aload_n dL_isSo_91 rfl rfl)) ?_
  refine gcons (snd_g (ok_iload dL_isSo_92 rfl)) ?_
  refine gcons (snd_g (ok_iconst dL_isSo_94 rfl rfl)) ?_
  refine gcons (snd_g (ok_invokevirtualN M_X4_vowOf (C := RX4) (T := TX4) (nf := 8) rfl w_667 w_668 w_669 w_20 w_670 ⟨rfl, by decide, by decide, by decide +kernel⟩ (by decide) (by decide) dL_isSo_95 rfl)) ?_
  refine gcons (snd_g (ok_aload_n dL_isSo_98 rfl rfl)) ?_
  refine gcons (snd_g (ok_iload dL_isSo_99 rfl)) ?_
  refine gcons (snd_g (ok_iaload dL_isSo_101 rfl)) ?_
  exact fun _ h => nomatch h
def tab_L_isSo_1 : List (Nat × Sem) := [(102, op_ic 256 105), (105, op_dv (fun x y => x / y) 106), (106, op_ic 8 108), (108, op_dv (fun x y => irm x y) 109), (109, op_cmp (fun x y => ¬ x = y) 142 112), (112, op_il 11 114), (114, op_il 8 116), (116, op_bin (fun x y => x + y) 117), (117, op_ic 4 118), (118, op_dv (fun x y => irm x y) 119), (119, op_if (fun x => 0 < x) 138 122), (122, op_al 0 123), (123, op_il 11 125), (125, op_callVN 6 sp_X4_hindered 2 1 128), (128, op_al 2 129), (129, op_al 3 130), (130, op_il 11 132), (132, op_callN sp_L_hindered 3 0 135), (135, op_cmp (fun x y => ¬ x = y) 142 138), (138, op_ic 1 139), (139, op_go 143), (142, op_ic 0 143), (143, op_is 10 145), (145, op_inc 11 1 148), (148, op_go 6), (151, op_ic 0 152), (152, op_is 11 154), (154, op_il 11 156), (156, op_al 7 158), (158, op_ic 3 159), (159, op_iald 160), (160, op_cmp (fun x y => y ≤ x) 372 163), (163, op_il 10 165), (165, op_if (fun x => x = 0) 372 168), (168, op_ic 0 169), (169, op_is 12 171), (171, op_ic 1 172), (172, op_is 13 174), (174, op_il 13 176), (176, op_ic 3000000 178), (178, op_cmp (fun x y => y ≤ x) 217 181), (181, op_il 12 183), (183, op_al 5 185), (185, op_il 11 187), (187, op_iald 188), (188, op_il 13 190), (190, op_dv (fun x y => x / y) 191), (191, op_ic 129 194), (194, op_dv (fun x y => irm x y) 195), (195, op_if (fun x => x ≤ 0) 202 198), (198, op_ic 1 199), (199, op_go 203), (202, op_ic 0 203), (203, op_bin (fun x y => x + y) 204), (204, op_is 12 206), (206, op_il 13 208), (208, op_ic 129 211), (211, op_bin (fun x y => x * y) 212), (212, op_is 13 214), (214, op_go 174)]
set_option maxRecDepth 20000 in
theorem tok_L_isSo_1 : ∀ q ∈ tab_L_isSo_1, GSnd RL cL_isSo 17 13 450 (some .boolean) q.1 q.2 := by
  unfold tab_L_isSo_1
  refine gcons (snd_g (ok_sipush dL_isSo_102 rfl rfl)) ?_
  refine gcons (snd_g (ok_idiv dL_isSo_105 rfl)) ?_
  refine gcons (snd_g (ok_bipush dL_isSo_106 rfl rfl)) ?_
  refine gcons (snd_g (ok_irem dL_isSo_108 rfl)) ?_
  refine gcons (snd_g (ok_icmp_ne dL_isSo_109 rfl rfl)) ?_
  refine gcons (snd_g (ok_iload dL_isSo_112 rfl)) ?_
  refine gcons (snd_g (ok_iload dL_isSo_114 rfl)) ?_
  refine gcons (snd_g (ok_iadd dL_isSo_116 rfl)) ?_
  refine gcons (snd_g (ok_iconst dL_isSo_117 rfl rfl)) ?_
  refine gcons (snd_g (ok_irem dL_isSo_118 rfl)) ?_
  refine gcons (snd_g (ok_if_gt dL_isSo_119 rfl rfl)) ?_
  refine gcons (snd_g (ok_aload_n dL_isSo_122 rfl rfl)) ?_
  refine gcons (snd_g (ok_iload dL_isSo_123 rfl)) ?_
  refine gcons (snd_g (ok_invokevirtualN M_X4_hindered (C := RX4) (T := TX4) (nf := 8) rfl w_689 w_690 w_691 w_20 w_692 ⟨rfl, by decide, by decide, by decide +kernel⟩ (by decide) (by decide) dL_isSo_125 rfl)) ?_
  refine gcons (snd_g (ok_aload_n dL_isSo_128 rfl rfl)) ?_
  refine gcons (snd_g (ok_aload_n dL_isSo_129 rfl rfl)) ?_
  refine gcons (snd_g (ok_iload dL_isSo_130 rfl)) ?_
  refine gcons (snd_g (ok_invokestaticN M_L_hindered w_693 w_694 w_19 w_695 ⟨by decide, by decide, by decide +kernel⟩ (by decide) (by decide) dL_isSo_132 rfl)) ?_
  refine gcons (snd_g (ok_icmp_ne dL_isSo_135 rfl rfl)) ?_
  refine gcons (snd_g (ok_iconst dL_isSo_138 rfl rfl)) ?_
  refine gcons (snd_g (ok_goto dL_isSo_139 rfl)) ?_
  refine gcons (snd_g (ok_iconst dL_isSo_142 rfl rfl)) ?_
  refine gcons (snd_g (ok_istore dL_isSo_143 (by decide) rfl)) ?_
  refine gcons (snd_g (ok_iinc dL_isSo_145 rfl (by decide) rfl)) ?_
  refine gcons (snd_g (ok_goto dL_isSo_148 rfl)) ?_
  refine gcons (snd_g (ok_iconst dL_isSo_151 rfl rfl)) ?_
  refine gcons (snd_g (ok_istore dL_isSo_152 (by decide) rfl)) ?_
  refine gcons (snd_g (ok_iload dL_isSo_154 rfl)) ?_
  refine gcons (snd_g (ok_aload dL_isSo_156 rfl)) ?_
  refine gcons (snd_g (ok_iconst dL_isSo_158 rfl rfl)) ?_
  refine gcons (snd_g (ok_iaload dL_isSo_159 rfl)) ?_
  refine gcons (snd_g (ok_icmp_ge dL_isSo_160 rfl rfl)) ?_
  refine gcons (snd_g (ok_iload dL_isSo_163 rfl)) ?_
  refine gcons (snd_g (ok_if_eq dL_isSo_165 rfl rfl)) ?_
  refine gcons (snd_g (ok_iconst dL_isSo_168 rfl rfl)) ?_
  refine gcons (snd_g (ok_istore dL_isSo_169 (by decide) rfl)) ?_
  refine gcons (snd_g (ok_iconst dL_isSo_171 rfl rfl)) ?_
  refine gcons (snd_g (ok_istore dL_isSo_172 (by decide) rfl)) ?_
  refine gcons (snd_g (ok_iload dL_isSo_174 rfl)) ?_
  refine gcons (snd_g (ok_ldc w_702 dL_isSo_176 rfl)) ?_
  refine gcons (snd_g (ok_icmp_ge dL_isSo_178 rfl rfl)) ?_
  refine gcons (snd_g (ok_iload dL_isSo_181 rfl)) ?_
  refine gcons (snd_g (ok_aload dL_isSo_183 rfl)) ?_
  refine gcons (snd_g (ok_iload dL_isSo_185 rfl)) ?_
  refine gcons (snd_g (ok_iaload dL_isSo_187 rfl)) ?_
  refine gcons (snd_g (ok_iload dL_isSo_188 rfl)) ?_
  refine gcons (snd_g (ok_idiv dL_isSo_190 rfl)) ?_
  refine gcons (snd_g (ok_sipush dL_isSo_191 rfl rfl)) ?_
  refine gcons (snd_g (ok_irem dL_isSo_194 rfl)) ?_
  refine gcons (snd_g (ok_if_le dL_isSo_195 rfl rfl)) ?_
  refine gcons (snd_g (ok_iconst dL_isSo_198 rfl rfl)) ?_
  refine gcons (snd_g (ok_goto dL_isSo_199 rfl)) ?_
  refine gcons (snd_g (ok_iconst dL_isSo_202 rfl rfl)) ?_
  refine gcons (snd_g (ok_iadd dL_isSo_203 rfl)) ?_
  refine gcons (snd_g (ok_istore dL_isSo_204 (by decide) rfl)) ?_
  refine gcons (snd_g (ok_iload dL_isSo_206 rfl)) ?_
  refine gcons (snd_g (ok_sipush dL_isSo_208 rfl rfl)) ?_
  refine gcons (snd_g (ok_imul dL_isSo_211 rfl)) ?_
  refine gcons (snd_g (ok_istore dL_isSo_212 (by decide) rfl)) ?_
  refine gcons (snd_g (ok_goto dL_isSo_214 rfl)) ?_
  exact fun _ h => nomatch h
def tab_L_isSo_2 : List (Nat × Sem) := [(217, op_al 0 218), (218, op_il 11 220), (220, op_ic 0 221), (221, op_callVN 6 sp_X4_causeOf 3 2 224), (224, op_al 4 226), (226, op_il 11 228), (228, op_iald 229), (229, op_ic 2048 232), (232, op_dv (fun x y => x / y) 233), (233, op_ic 4 234), (234, op_dv (fun x y => irm x y) 235), (235, op_cmp (fun x y => ¬ x = y) 363 238), (238, op_al 0 239), (239, op_il 11 241), (241, op_ic 1 242), (242, op_callVN 6 sp_X4_causeOf 3 2 245), (245, op_al 4 247), (247, op_il 11 249), (249, op_iald 250), (250, op_ic 8192 253), (253, op_dv (fun x y => x / y) 254), (254, op_cmp (fun x y => ¬ x = y) 363 257), (257, op_al 0 258), (258, op_il 11 260), (260, op_ic 2 261), (261, op_callVN 6 sp_X4_causeOf 3 2 264), (264, op_al 4 266), (266, op_il 11 268), (268, op_iald 269), (269, op_ic 16 271), (271, op_dv (fun x y => x / y) 272), (272, op_ic 128 275), (275, op_dv (fun x y => irm x y) 276), (276, op_cmp (fun x y => ¬ x = y) 363 279), (279, op_al 0 280), (280, op_il 11 282), (282, op_ic 3 283), (283, op_callVN 6 sp_X4_causeOf 3 2 286), (286, op_al 6 288), (288, op_il 11 290), (290, op_iald 291), (291, op_ic 129 294), (294, op_dv (fun x y => irm x y) 295), (295, op_ic 1 296), (296, op_bin (fun x y => x - y) 297), (297, op_cmp (fun x y => ¬ x = y) 363 300), (300, op_al 0 301), (301, op_il 11 303), (303, op_ic 4 304), (304, op_callVN 6 sp_X4_causeOf 3 2 307), (307, op_al 6 309), (309, op_il 11 311), (311, op_iald 312), (312, op_ic 129 315), (315, op_dv (fun x y => x / y) 316), (316, op_ic 129 319), (319, op_dv (fun x y => irm x y) 320), (320, op_ic 1 321), (321, op_bin (fun x y => x - y) 322), (322, op_cmp (fun x y => ¬ x = y) 363 325)]
set_option maxRecDepth 20000 in
theorem tok_L_isSo_2 : ∀ q ∈ tab_L_isSo_2, GSnd RL cL_isSo 17 13 450 (some .boolean) q.1 q.2 := by
  unfold tab_L_isSo_2
  refine gcons (snd_g (ok_aload_n dL_isSo_217 rfl rfl)) ?_
  refine gcons (snd_g (ok_iload dL_isSo_218 rfl)) ?_
  refine gcons (snd_g (ok_iconst dL_isSo_220 rfl rfl)) ?_
  refine gcons (snd_g (ok_invokevirtualN M_X4_causeOf (C := RX4) (T := TX4) (nf := 8) rfl w_671 w_672 w_673 w_20 w_674 ⟨rfl, by decide, by decide, by decide +kernel⟩ (by decide) (by decide) dL_isSo_221 rfl)) ?_
  refine gcons (snd_g (ok_aload dL_isSo_224 rfl)) ?_
  refine gcons (snd_g (ok_iload dL_isSo_226 rfl)) ?_
  refine gcons (snd_g (ok_iaload dL_isSo_228 rfl)) ?_
  refine gcons (snd_g (ok_sipush dL_isSo_229 rfl rfl)) ?_
  refine gcons (snd_g (ok_idiv dL_isSo_232 rfl)) ?_
  refine gcons (snd_g (ok_iconst dL_isSo_233 rfl rfl)) ?_
  refine gcons (snd_g (ok_irem dL_isSo_234 rfl)) ?_
  refine gcons (snd_g (ok_icmp_ne dL_isSo_235 rfl rfl)) ?_
  refine gcons (snd_g (ok_aload_n dL_isSo_238 rfl rfl)) ?_
  refine gcons (snd_g (ok_iload dL_isSo_239 rfl)) ?_
  refine gcons (snd_g (ok_iconst dL_isSo_241 rfl rfl)) ?_
  refine gcons (snd_g (ok_invokevirtualN M_X4_causeOf (C := RX4) (T := TX4) (nf := 8) rfl w_671 w_672 w_673 w_20 w_674 ⟨rfl, by decide, by decide, by decide +kernel⟩ (by decide) (by decide) dL_isSo_242 rfl)) ?_
  refine gcons (snd_g (ok_aload dL_isSo_245 rfl)) ?_
  refine gcons (snd_g (ok_iload dL_isSo_247 rfl)) ?_
  refine gcons (snd_g (ok_iaload dL_isSo_249 rfl)) ?_
  refine gcons (snd_g (ok_sipush dL_isSo_250 rfl rfl)) ?_
  refine gcons (snd_g (ok_idiv dL_isSo_253 rfl)) ?_
  refine gcons (snd_g (ok_icmp_ne dL_isSo_254 rfl rfl)) ?_
  refine gcons (snd_g (ok_aload_n dL_isSo_257 rfl rfl)) ?_
  refine gcons (snd_g (ok_iload dL_isSo_258 rfl)) ?_
  refine gcons (snd_g (ok_iconst dL_isSo_260 rfl rfl)) ?_
  refine gcons (snd_g (ok_invokevirtualN M_X4_causeOf (C := RX4) (T := TX4) (nf := 8) rfl w_671 w_672 w_673 w_20 w_674 ⟨rfl, by decide, by decide, by decide +kernel⟩ (by decide) (by decide) dL_isSo_261 rfl)) ?_
  refine gcons (snd_g (ok_aload dL_isSo_264 rfl)) ?_
  refine gcons (snd_g (ok_iload dL_isSo_266 rfl)) ?_
  refine gcons (snd_g (ok_iaload dL_isSo_268 rfl)) ?_
  refine gcons (snd_g (ok_bipush dL_isSo_269 rfl rfl)) ?_
  refine gcons (snd_g (ok_idiv dL_isSo_271 rfl)) ?_
  refine gcons (snd_g (ok_sipush dL_isSo_272 rfl rfl)) ?_
  refine gcons (snd_g (ok_irem dL_isSo_275 rfl)) ?_
  refine gcons (snd_g (ok_icmp_ne dL_isSo_276 rfl rfl)) ?_
  refine gcons (snd_g (ok_aload_n dL_isSo_279 rfl rfl)) ?_
  refine gcons (snd_g (ok_iload dL_isSo_280 rfl)) ?_
  refine gcons (snd_g (ok_iconst dL_isSo_282 rfl rfl)) ?_
  refine gcons (snd_g (ok_invokevirtualN M_X4_causeOf (C := RX4) (T := TX4) (nf := 8) rfl w_671 w_672 w_673 w_20 w_674 ⟨rfl, by decide, by decide, by decide +kernel⟩ (by decide) (by decide) dL_isSo_283 rfl)) ?_
  refine gcons (snd_g (ok_aload dL_isSo_286 rfl)) ?_
  refine gcons (snd_g (ok_iload dL_isSo_288 rfl)) ?_
  refine gcons (snd_g (ok_iaload dL_isSo_290 rfl)) ?_
  refine gcons (snd_g (ok_sipush dL_isSo_291 rfl rfl)) ?_
  refine gcons (snd_g (ok_irem dL_isSo_294 rfl)) ?_
  refine gcons (snd_g (ok_iconst dL_isSo_295 rfl rfl)) ?_
  refine gcons (snd_g (ok_isub dL_isSo_296 rfl)) ?_
  refine gcons (snd_g (ok_icmp_ne dL_isSo_297 rfl rfl)) ?_
  refine gcons (snd_g (ok_aload_n dL_isSo_300 rfl rfl)) ?_
  refine gcons (snd_g (ok_iload dL_isSo_301 rfl)) ?_
  refine gcons (snd_g (ok_iconst dL_isSo_303 rfl rfl)) ?_
  refine gcons (snd_g (ok_invokevirtualN M_X4_causeOf (C := RX4) (T := TX4) (nf := 8) rfl w_671 w_672 w_673 w_20 w_674 ⟨rfl, by decide, by decide, by decide +kernel⟩ (by decide) (by decide) dL_isSo_304 rfl)) ?_
  refine gcons (snd_g (ok_aload dL_isSo_307 rfl)) ?_
  refine gcons (snd_g (ok_iload dL_isSo_309 rfl)) ?_
  refine gcons (snd_g (ok_iaload dL_isSo_311 rfl)) ?_
  refine gcons (snd_g (ok_sipush dL_isSo_312 rfl rfl)) ?_
  refine gcons (snd_g (ok_idiv dL_isSo_315 rfl)) ?_
  refine gcons (snd_g (ok_sipush dL_isSo_316 rfl rfl)) ?_
  refine gcons (snd_g (ok_irem dL_isSo_319 rfl)) ?_
  refine gcons (snd_g (ok_iconst dL_isSo_320 rfl rfl)) ?_
  refine gcons (snd_g (ok_isub dL_isSo_321 rfl)) ?_
  refine gcons (snd_g (ok_icmp_ne dL_isSo_322 rfl rfl)) ?_
  exact fun _ h => nomatch h
def tab_L_isSo_3 : List (Nat × Sem) := [(325, op_al 0 326), (326, op_il 11 328), (328, op_ic 5 329), (329, op_callVN 6 sp_X4_causeOf 3 2 332), (332, op_al 6 334), (334, op_il 11 336), (336, op_iald 337), (337, op_ic 16641 340), (340, op_dv (fun x y => x / y) 341), (341, op_ic 1 342), (342, op_bin (fun x y => x - y) 343), (343, op_cmp (fun x y => ¬ x = y) 363 346), (346, op_al 0 347), (347, op_il 11 349), (349, op_ic 6 351), (351, op_callVN 6 sp_X4_causeOf 3 2 354), (354, op_il 12 356), (356, op_cmp (fun x y => ¬ x = y) 363 359), (359, op_ic 1 360), (360, op_go 364), (363, op_ic 0 364), (364, op_is 10 366), (366, op_inc 11 1 369), (369, op_go 154), (372, op_il 10 374), (374, op_if (fun x => x = 0) 746 377), (377, op_al 7 379), (379, op_ic 1 380), (380, op_iald 381), (381, op_if (fun x => x ≤ 0) 746 384), (384, op_il 8 386), (386, op_al 7 388), (388, op_ic 1 389), (389, op_iald 390), (390, op_dv (fun x y => irm x y) 391), (391, op_is 11 393), (393, op_il 9 395), (395, op_al 7 397), (397, op_ic 1 398), (398, op_iald 399), (399, op_dv (fun x y => irm x y) 400), (400, op_is 12 402), (402, op_il 9 404), (404, op_ic 3 405), (405, op_dv (fun x y => irm x y) 406), (406, op_if (fun x => ¬ x = 0) 416 409), (409, op_al 7 411), (411, op_ic 0 412), (412, op_iald 413), (413, op_go 429), (416, op_il 9 418), (418, op_ic 3 419), (419, op_dv (fun x y => x / y) 420), (420, op_al 7 422), (422, op_ic 0 423), (423, op_iald 424), (424, op_ic 500 427), (427, op_bin (fun x y => x + y) 428), (428, op_dv (fun x y => irm x y) 429), (429, op_is 13 431)]
set_option maxRecDepth 20000 in
theorem tok_L_isSo_3 : ∀ q ∈ tab_L_isSo_3, GSnd RL cL_isSo 17 13 450 (some .boolean) q.1 q.2 := by
  unfold tab_L_isSo_3
  refine gcons (snd_g (ok_aload_n dL_isSo_325 rfl rfl)) ?_
  refine gcons (snd_g (ok_iload dL_isSo_326 rfl)) ?_
  refine gcons (snd_g (ok_iconst dL_isSo_328 rfl rfl)) ?_
  refine gcons (snd_g (ok_invokevirtualN M_X4_causeOf (C := RX4) (T := TX4) (nf := 8) rfl w_671 w_672 w_673 w_20 w_674 ⟨rfl, by decide, by decide, by decide +kernel⟩ (by decide) (by decide) dL_isSo_329 rfl)) ?_
  refine gcons (snd_g (ok_aload dL_isSo_332 rfl)) ?_
  refine gcons (snd_g (ok_iload dL_isSo_334 rfl)) ?_
  refine gcons (snd_g (ok_iaload dL_isSo_336 rfl)) ?_
  refine gcons (snd_g (ok_sipush dL_isSo_337 rfl rfl)) ?_
  refine gcons (snd_g (ok_idiv dL_isSo_340 rfl)) ?_
  refine gcons (snd_g (ok_iconst dL_isSo_341 rfl rfl)) ?_
  refine gcons (snd_g (ok_isub dL_isSo_342 rfl)) ?_
  refine gcons (snd_g (ok_icmp_ne dL_isSo_343 rfl rfl)) ?_
  refine gcons (snd_g (ok_aload_n dL_isSo_346 rfl rfl)) ?_
  refine gcons (snd_g (ok_iload dL_isSo_347 rfl)) ?_
  refine gcons (snd_g (ok_bipush dL_isSo_349 rfl rfl)) ?_
  refine gcons (snd_g (ok_invokevirtualN M_X4_causeOf (C := RX4) (T := TX4) (nf := 8) rfl w_671 w_672 w_673 w_20 w_674 ⟨rfl, by decide, by decide, by decide +kernel⟩ (by decide) (by decide) dL_isSo_351 rfl)) ?_
  refine gcons (snd_g (ok_iload dL_isSo_354 rfl)) ?_
  refine gcons (snd_g (ok_icmp_ne dL_isSo_356 rfl rfl)) ?_
  refine gcons (snd_g (ok_iconst dL_isSo_359 rfl rfl)) ?_
  refine gcons (snd_g (ok_goto dL_isSo_360 rfl)) ?_
  refine gcons (snd_g (ok_iconst dL_isSo_363 rfl rfl)) ?_
  refine gcons (snd_g (ok_istore dL_isSo_364 (by decide) rfl)) ?_
  refine gcons (snd_g (ok_iinc dL_isSo_366 rfl (by decide) rfl)) ?_
  refine gcons (snd_g (ok_goto dL_isSo_369 rfl)) ?_
  refine gcons (snd_g (ok_iload dL_isSo_372 rfl)) ?_
  refine gcons (snd_g (ok_if_eq dL_isSo_374 rfl rfl)) ?_
  refine gcons (snd_g (ok_aload dL_isSo_377 rfl)) ?_
  refine gcons (snd_g (ok_iconst dL_isSo_379 rfl rfl)) ?_
  refine gcons (snd_g (ok_iaload dL_isSo_380 rfl)) ?_
  refine gcons (snd_g (ok_if_le dL_isSo_381 rfl rfl)) ?_
  refine gcons (snd_g (ok_iload dL_isSo_384 rfl)) ?_
  refine gcons (snd_g (ok_aload dL_isSo_386 rfl)) ?_
  refine gcons (snd_g (ok_iconst dL_isSo_388 rfl rfl)) ?_
  refine gcons (snd_g (ok_iaload dL_isSo_389 rfl)) ?_
  refine gcons (snd_g (ok_irem dL_isSo_390 rfl)) ?_
  refine gcons (snd_g (ok_istore dL_isSo_391 (by decide) rfl)) ?_
  refine gcons (snd_g (ok_iload dL_isSo_393 rfl)) ?_
  refine gcons (snd_g (ok_aload dL_isSo_395 rfl)) ?_
  refine gcons (snd_g (ok_iconst dL_isSo_397 rfl rfl)) ?_
  refine gcons (snd_g (ok_iaload dL_isSo_398 rfl)) ?_
  refine gcons (snd_g (ok_irem dL_isSo_399 rfl)) ?_
  refine gcons (snd_g (ok_istore dL_isSo_400 (by decide) rfl)) ?_
  refine gcons (snd_g (ok_iload dL_isSo_402 rfl)) ?_
  refine gcons (snd_g (ok_iconst dL_isSo_404 rfl rfl)) ?_
  refine gcons (snd_g (ok_irem dL_isSo_405 rfl)) ?_
  refine gcons (snd_g (ok_if_ne dL_isSo_406 rfl rfl)) ?_
  refine gcons (snd_g (ok_aload dL_isSo_409 rfl)) ?_
  refine gcons (snd_g (ok_iconst dL_isSo_411 rfl rfl)) ?_
  refine gcons (snd_g (ok_iaload dL_isSo_412 rfl)) ?_
  refine gcons (snd_g (ok_goto dL_isSo_413 rfl)) ?_
  refine gcons (snd_g (ok_iload dL_isSo_416 rfl)) ?_
  refine gcons (snd_g (ok_iconst dL_isSo_418 rfl rfl)) ?_
  refine gcons (snd_g (ok_idiv dL_isSo_419 rfl)) ?_
  refine gcons (snd_g (ok_aload dL_isSo_420 rfl)) ?_
  refine gcons (snd_g (ok_iconst dL_isSo_422 rfl rfl)) ?_
  refine gcons (snd_g (ok_iaload dL_isSo_423 rfl)) ?_
  refine gcons (snd_g (ok_sipush dL_isSo_424 rfl rfl)) ?_
  refine gcons (snd_g (ok_iadd dL_isSo_427 rfl)) ?_
  refine gcons (snd_g (ok_irem dL_isSo_428 rfl)) ?_
  refine gcons (snd_g (ok_istore dL_isSo_429 (by decide) rfl)) ?_
  exact fun _ h => nomatch h
def tab_L_isSo_4 : List (Nat × Sem) := [(431, op_ic (-1) 432), (432, op_is 14 434), (434, op_al 7 436), (436, op_ic 2 437), (437, op_iald 438), (438, op_ic 1 439), (439, op_bin (fun x y => x - y) 440), (440, op_is 15 442), (442, op_il 15 444), (444, op_if (fun x => x < 0) 485 447), (447, op_al 2 448), (448, op_il 15 450), (450, op_il 11 452), (452, op_callN sp_L_isOf 3 0 455), (455, op_if (fun x => x = 0) 475 458), (458, op_al 2 459), (459, op_al 3 460), (460, op_il 15 462), (462, op_il 13 464), (464, op_callN sp_L_binds 4 0 467), (467, op_if (fun x => x = 0) 475 470), (470, op_il 15 472), (472, op_go 477), (475, op_il 14 477), (477, op_is 14 479), (479, op_inc 15 (-1) 482), (482, op_go 442), (485, op_al 0 486), (486, op_il 11 488), (488, op_il 12 490), (490, op_callVN 6 sp_X4_kin 3 1 493), (493, op_al 1 494), (494, op_il 11 496), (496, op_il 12 498), (498, op_callN sp_L_kin 3 2 501), (501, op_cmp (fun x y => ¬ x = y) 564 504), (504, op_al 0 505), (505, op_il 12 507), (507, op_il 11 509), (509, op_callVN 6 sp_X4_kin 3 1 512), (512, op_al 0 513), (513, op_il 11 515), (515, op_il 12 517), (517, op_callVN 6 sp_X4_kin 3 1 520), (520, op_cmp (fun x y => ¬ x = y) 564 523), (523, op_al 0 524), (524, op_il 11 526), (526, op_il 13 528), (528, op_callVN 6 sp_X4_bound 3 2 531), (531, op_il 14 533), (533, op_cmp (fun x y => ¬ x = y) 564 536), (536, op_al 0 537), (537, op_il 11 539), (539, op_il 13 541), (541, op_ic 0 542), (542, op_callGVN 6 sp_X4_state 4 18 545), (545, op_il 14 547), (547, op_if (fun x => 0 ≤ x) 555 550), (550, op_ic 102 552), (552, op_go 557)]
set_option maxRecDepth 20000 in
theorem tok_L_isSo_4 : ∀ q ∈ tab_L_isSo_4, GSnd RL cL_isSo 17 13 450 (some .boolean) q.1 q.2 := by
  unfold tab_L_isSo_4
  refine gcons (snd_g (ok_iconst dL_isSo_431 rfl rfl)) ?_
  refine gcons (snd_g (ok_istore dL_isSo_432 (by decide) rfl)) ?_
  refine gcons (snd_g (ok_aload dL_isSo_434 rfl)) ?_
  refine gcons (snd_g (ok_iconst dL_isSo_436 rfl rfl)) ?_
  refine gcons (snd_g (ok_iaload dL_isSo_437 rfl)) ?_
  refine gcons (snd_g (ok_iconst dL_isSo_438 rfl rfl)) ?_
  refine gcons (snd_g (ok_isub dL_isSo_439 rfl)) ?_
  refine gcons (snd_g (ok_istore dL_isSo_440 (by decide) rfl)) ?_
  refine gcons (snd_g (ok_iload dL_isSo_442 rfl)) ?_
  refine gcons (snd_g (ok_if_lt dL_isSo_444 rfl rfl)) ?_
  refine gcons (snd_g (ok_aload_n dL_isSo_447 rfl rfl)) ?_
  refine gcons (snd_g (ok_iload dL_isSo_448 rfl)) ?_
  refine gcons (snd_g (ok_iload dL_isSo_450 rfl)) ?_
  refine gcons (snd_g (ok_invokestaticN M_L_isOf w_696 w_697 w_19 w_698 ⟨by decide, by decide, by decide +kernel⟩ (by decide) (by decide) dL_isSo_452 rfl)) ?_
  refine gcons (snd_g (ok_if_eq dL_isSo_455 rfl rfl)) ?_
  refine gcons (snd_g (ok_aload_n dL_isSo_458 rfl rfl)) ?_
  refine gcons (snd_g (ok_aload_n dL_isSo_459 rfl rfl)) ?_
  refine gcons (snd_g (ok_iload dL_isSo_460 rfl)) ?_
  refine gcons (snd_g (ok_iload dL_isSo_462 rfl)) ?_
  refine gcons (snd_g (ok_invokestaticN M_L_binds w_699 w_700 w_19 w_701 ⟨by decide, by decide, by decide +kernel⟩ (by decide) (by decide) dL_isSo_464 rfl)) ?_
  refine gcons (snd_g (ok_if_eq dL_isSo_467 rfl rfl)) ?_
  refine gcons (snd_g (ok_iload dL_isSo_470 rfl)) ?_
  refine gcons (snd_g (ok_goto dL_isSo_472 rfl)) ?_
  refine gcons (snd_g (ok_iload dL_isSo_475 rfl)) ?_
  refine gcons (snd_g (ok_istore dL_isSo_477 (by decide) rfl)) ?_
  refine gcons (snd_g (ok_iinc dL_isSo_479 rfl (by decide) rfl)) ?_
  refine gcons (snd_g (ok_goto dL_isSo_482 rfl)) ?_
  refine gcons (snd_g (ok_aload_n dL_isSo_485 rfl rfl)) ?_
  refine gcons (snd_g (ok_iload dL_isSo_486 rfl)) ?_
  refine gcons (snd_g (ok_iload dL_isSo_488 rfl)) ?_
  refine gcons (snd_g (ok_invokevirtualN M_X4_kin (C := RX4) (T := TX4) (nf := 8) rfl w_703 w_704 w_705 w_20 w_706 ⟨rfl, by decide, by decide, by decide +kernel⟩ (by decide) (by decide) dL_isSo_490 rfl)) ?_
  refine gcons (snd_g (ok_aload_n dL_isSo_493 rfl rfl)) ?_
  refine gcons (snd_g (ok_iload dL_isSo_494 rfl)) ?_
  refine gcons (snd_g (ok_iload dL_isSo_496 rfl)) ?_
  refine gcons (snd_g (ok_invokestaticN M_L_kin w_707 w_708 w_19 w_709 ⟨by decide, by decide, by decide +kernel⟩ (by decide) (by decide) dL_isSo_498 rfl)) ?_
  refine gcons (snd_g (ok_icmp_ne dL_isSo_501 rfl rfl)) ?_
  refine gcons (snd_g (ok_aload_n dL_isSo_504 rfl rfl)) ?_
  refine gcons (snd_g (ok_iload dL_isSo_505 rfl)) ?_
  refine gcons (snd_g (ok_iload dL_isSo_507 rfl)) ?_
  refine gcons (snd_g (ok_invokevirtualN M_X4_kin (C := RX4) (T := TX4) (nf := 8) rfl w_703 w_704 w_705 w_20 w_706 ⟨rfl, by decide, by decide, by decide +kernel⟩ (by decide) (by decide) dL_isSo_509 rfl)) ?_
  refine gcons (snd_g (ok_aload_n dL_isSo_512 rfl rfl)) ?_
  refine gcons (snd_g (ok_iload dL_isSo_513 rfl)) ?_
  refine gcons (snd_g (ok_iload dL_isSo_515 rfl)) ?_
  refine gcons (snd_g (ok_invokevirtualN M_X4_kin (C := RX4) (T := TX4) (nf := 8) rfl w_703 w_704 w_705 w_20 w_706 ⟨rfl, by decide, by decide, by decide +kernel⟩ (by decide) (by decide) dL_isSo_517 rfl)) ?_
  refine gcons (snd_g (ok_icmp_ne dL_isSo_520 rfl rfl)) ?_
  refine gcons (snd_g (ok_aload_n dL_isSo_523 rfl rfl)) ?_
  refine gcons (snd_g (ok_iload dL_isSo_524 rfl)) ?_
  refine gcons (snd_g (ok_iload dL_isSo_526 rfl)) ?_
  refine gcons (snd_g (ok_invokevirtualN M_X4_bound (C := RX4) (T := TX4) (nf := 8) rfl w_675 w_676 w_677 w_20 w_678 ⟨rfl, by decide, by decide, by decide +kernel⟩ (by decide) (by decide) dL_isSo_528 rfl)) ?_
  refine gcons (snd_g (ok_iload dL_isSo_531 rfl)) ?_
  refine gcons (snd_g (ok_icmp_ne dL_isSo_533 rfl rfl)) ?_
  refine gcons (snd_g (ok_aload_n dL_isSo_536 rfl rfl)) ?_
  refine gcons (snd_g (ok_iload dL_isSo_537 rfl)) ?_
  refine gcons (snd_g (ok_iload dL_isSo_539 rfl)) ?_
  refine gcons (snd_g (ok_iconst dL_isSo_541 rfl rfl)) ?_
  refine gcons (ok_invokevirtualGN M_X4_state (C := RX4) (T := TX4) (nf := 8) rfl w_713 w_714 w_715 w_20 w_716 ⟨rfl, by decide, by decide, by decide +kernel⟩ (by decide) (by decide) dL_isSo_542 rfl) ?_
  refine gcons (snd_g (ok_iload dL_isSo_545 rfl)) ?_
  refine gcons (snd_g (ok_if_ge dL_isSo_547 rfl rfl)) ?_
  refine gcons (snd_g (ok_bipush dL_isSo_550 rfl rfl)) ?_
  refine gcons (snd_g (ok_goto dL_isSo_552 rfl)) ?_
  exact fun _ h => nomatch h
def tab_L_isSo_5 : List (Nat × Sem) := [(555, op_ic 98 557), (557, op_cmp (fun x y => ¬ x = y) 564 560), (560, op_ic 1 561), (561, op_go 565), (564, op_ic 0 565), (565, op_is 10 567), (567, op_il 10 569), (569, op_if (fun x => x = 0) 746 572), (572, op_il 14 574), (574, op_if (fun x => x < 0) 746 577), (577, op_al 2 578), (578, op_il 14 580), (580, op_iald 581), (581, op_ic 16 583), (583, op_dv (fun x y => irm x y) 584), (584, op_il 11 586), (586, op_cmp (fun x y => ¬ x = y) 602 589), (589, op_al 2 590), (590, op_il 14 592), (592, op_iald 593), (593, op_ic 16 595), (595, op_dv (fun x y => x / y) 596), (596, op_ic 16 598), (598, op_dv (fun x y => irm x y) 599), (599, op_go 609), (602, op_al 2 603), (603, op_il 14 605), (605, op_iald 606), (606, op_ic 16 608), (608, op_dv (fun x y => irm x y) 609), (609, op_is 15 611), (611, op_il 14 613), (613, op_ic 9 615), (615, op_cmp (fun x y => x ≤ y) 623 618), (618, op_ic 15 620), (620, op_go 625), (623, op_ic 14 625), (625, op_is 16 627), (627, op_al 0 628), (628, op_il 11 630), (630, op_il 13 632), (632, op_ic 9 634), (634, op_callGVN 6 sp_X4_state 4 18 637), (637, op_il 14 639), (639, op_ic 9 641), (641, op_cmp (fun x y => x ≤ y) 649 644), (644, op_ic 49 646), (646, op_go 654), (649, op_ic 48 651), (651, op_il 14 653), (653, op_bin (fun x y => x + y) 654), (654, op_i2c 655), (655, op_cmp (fun x y => ¬ x = y) 743 658), (658, op_al 0 659), (659, op_il 11 661), (661, op_il 13 663), (663, op_il 16 665), (665, op_callGVN 6 sp_X4_state 4 18 668), (668, op_il 15 670), (670, op_ic 9 672)]
set_option maxRecDepth 20000 in
theorem tok_L_isSo_5 : ∀ q ∈ tab_L_isSo_5, GSnd RL cL_isSo 17 13 450 (some .boolean) q.1 q.2 := by
  unfold tab_L_isSo_5
  refine gcons (snd_g (ok_bipush dL_isSo_555 rfl rfl)) ?_
  refine gcons (snd_g (ok_icmp_ne dL_isSo_557 rfl rfl)) ?_
  refine gcons (snd_g (ok_iconst dL_isSo_560 rfl rfl)) ?_
  refine gcons (snd_g (ok_goto dL_isSo_561 rfl)) ?_
  refine gcons (snd_g (ok_iconst dL_isSo_564 rfl rfl)) ?_
  refine gcons (snd_g (ok_istore dL_isSo_565 (by decide) rfl)) ?_
  refine gcons (snd_g (ok_iload dL_isSo_567 rfl)) ?_
  refine gcons (snd_g (ok_if_eq dL_isSo_569 rfl rfl)) ?_
  refine gcons (snd_g (ok_iload dL_isSo_572 rfl)) ?_
  refine gcons (snd_g (ok_if_lt dL_isSo_574 rfl rfl)) ?_
  refine gcons (snd_g (ok_aload_n dL_isSo_577 rfl rfl)) ?_
  refine gcons (snd_g (ok_iload dL_isSo_578 rfl)) ?_
  refine gcons (snd_g (ok_iaload dL_isSo_580 rfl)) ?_
  refine gcons (snd_g (ok_bipush dL_isSo_581 rfl rfl)) ?_
  refine gcons (snd_g (ok_irem dL_isSo_583 rfl)) ?_
  refine gcons (snd_g (ok_iload dL_isSo_584 rfl)) ?_
  refine gcons (snd_g (ok_icmp_ne dL_isSo_586 rfl rfl)) ?_
  refine gcons (snd_g (ok_aload_n dL_isSo_589 rfl rfl)) ?_
  refine gcons (snd_g (ok_iload dL_isSo_590 rfl)) ?_
  refine gcons (snd_g (ok_iaload dL_isSo_592 rfl)) ?_
  refine gcons (snd_g (ok_bipush dL_isSo_593 rfl rfl)) ?_
  refine gcons (snd_g (ok_idiv dL_isSo_595 rfl)) ?_
  refine gcons (snd_g (ok_bipush dL_isSo_596 rfl rfl)) ?_
  refine gcons (snd_g (ok_irem dL_isSo_598 rfl)) ?_
  refine gcons (snd_g (ok_goto dL_isSo_599 rfl)) ?_
  refine gcons (snd_g (ok_aload_n dL_isSo_602 rfl rfl)) ?_
  refine gcons (snd_g (ok_iload dL_isSo_603 rfl)) ?_
  refine gcons (snd_g (ok_iaload dL_isSo_605 rfl)) ?_
  refine gcons (snd_g (ok_bipush dL_isSo_606 rfl rfl)) ?_
  refine gcons (snd_g (ok_irem dL_isSo_608 rfl)) ?_
  refine gcons (snd_g (ok_istore dL_isSo_609 (by decide) rfl)) ?_
  refine gcons (snd_g (ok_iload dL_isSo_611 rfl)) ?_
  refine gcons (snd_g (ok_bipush dL_isSo_613 rfl rfl)) ?_
  refine gcons (snd_g (ok_icmp_le dL_isSo_615 rfl rfl)) ?_
  refine gcons (snd_g (ok_bipush dL_isSo_618 rfl rfl)) ?_
  refine gcons (snd_g (ok_goto dL_isSo_620 rfl)) ?_
  refine gcons (snd_g (ok_bipush dL_isSo_623 rfl rfl)) ?_
  refine gcons (snd_g (ok_istore dL_isSo_625 (by decide) rfl)) ?_
  refine gcons (snd_g (ok_aload_n dL_isSo_627 rfl rfl)) ?_
  refine gcons (snd_g (ok_iload dL_isSo_628 rfl)) ?_
  refine gcons (snd_g (ok_iload dL_isSo_630 rfl)) ?_
  refine gcons (snd_g (ok_bipush dL_isSo_632 rfl rfl)) ?_
  refine gcons (ok_invokevirtualGN M_X4_state (C := RX4) (T := TX4) (nf := 8) rfl w_713 w_714 w_715 w_20 w_716 ⟨rfl, by decide, by decide, by decide +kernel⟩ (by decide) (by decide) dL_isSo_634 rfl) ?_
  refine gcons (snd_g (ok_iload dL_isSo_637 rfl)) ?_
  refine gcons (snd_g (ok_bipush dL_isSo_639 rfl rfl)) ?_
  refine gcons (snd_g (ok_icmp_le dL_isSo_641 rfl rfl)) ?_
  refine gcons (snd_g (ok_bipush dL_isSo_644 rfl rfl)) ?_
  refine gcons (snd_g (ok_goto dL_isSo_646 rfl)) ?_
  refine gcons (snd_g (ok_bipush dL_isSo_649 rfl rfl)) ?_
  refine gcons (snd_g (ok_iload dL_isSo_651 rfl)) ?_
  refine gcons (snd_g (ok_iadd dL_isSo_653 rfl)) ?_
  refine gcons (snd_g (ok_i2c dL_isSo_654 rfl)) ?_
  refine gcons (snd_g (ok_icmp_ne dL_isSo_655 rfl rfl)) ?_
  refine gcons (snd_g (ok_aload_n dL_isSo_658 rfl rfl)) ?_
  refine gcons (snd_g (ok_iload dL_isSo_659 rfl)) ?_
  refine gcons (snd_g (ok_iload dL_isSo_661 rfl)) ?_
  refine gcons (snd_g (ok_iload dL_isSo_663 rfl)) ?_
  refine gcons (ok_invokevirtualGN M_X4_state (C := RX4) (T := TX4) (nf := 8) rfl w_713 w_714 w_715 w_20 w_716 ⟨rfl, by decide, by decide, by decide +kernel⟩ (by decide) (by decide) dL_isSo_665 rfl) ?_
  refine gcons (snd_g (ok_iload dL_isSo_668 rfl)) ?_
  refine gcons (snd_g (ok_bipush dL_isSo_670 rfl rfl)) ?_
  exact fun _ h => nomatch h
def tab_L_isSo_6 : List (Nat × Sem) := [(672, op_cmp (fun x y => x ≤ y) 680 675), (675, op_ic 49 677), (677, op_go 685), (680, op_ic 48 682), (682, op_il 15 684), (684, op_bin (fun x y => x + y) 685), (685, op_i2c 686), (686, op_cmp (fun x y => ¬ x = y) 743 689), (689, op_al 0 690), (690, op_il 11 692), (692, op_il 13 694), (694, op_il 16 696), (696, op_ic 1 697), (697, op_bin (fun x y => x + y) 698), (698, op_callGVN 6 sp_X4_state 4 18 701), (701, op_il 15 703), (703, op_ic 9 705), (705, op_cmp (fun x y => x ≤ y) 719 708), (708, op_ic 48 710), (710, op_il 15 712), (712, op_ic 10 714), (714, op_dv (fun x y => irm x y) 715), (715, op_bin (fun x y => x + y) 716), (716, op_go 720), (719, op_ic 0 720), (720, op_i2c 721), (721, op_cmp (fun x y => ¬ x = y) 743 724), (724, op_al 0 725), (725, op_il 11 727), (727, op_il 13 729), (729, op_il 16 731), (731, op_ic 2 732), (732, op_bin (fun x y => x + y) 733), (733, op_callGVN 6 sp_X4_state 4 18 736), (736, op_if (fun x => ¬ x = 0) 743 739), (739, op_ic 1 740), (740, op_go 744), (743, op_ic 0 744), (744, op_is 10 746), (746, op_il 10 748), (748, op_if (fun x => x = 0) 791 751), (751, op_al 0 752), (752, op_ic 21 754), (754, op_al 7 756), (756, op_ic 2 757), (757, op_iald 758), (758, op_ic 0 759), (759, op_ic 0 760), (760, op_ic 0 761), (761, op_callHN sp_L_does 6 16 764), (764, op_ic (-3000000) 766), (766, op_cmp (fun x y => ¬ x = y) 791 769), (769, op_al 0 770), (770, op_ic 22 772), (772, op_al 7 774), (774, op_ic 3 775), (775, op_iald 776), (776, op_ic 0 777), (777, op_ic 0 778), (778, op_ic 0 779)]
set_option maxRecDepth 20000 in
theorem tok_L_isSo_6 : ∀ q ∈ tab_L_isSo_6, GSnd RL cL_isSo 17 13 450 (some .boolean) q.1 q.2 := by
  unfold tab_L_isSo_6
  refine gcons (snd_g (ok_icmp_le dL_isSo_672 rfl rfl)) ?_
  refine gcons (snd_g (ok_bipush dL_isSo_675 rfl rfl)) ?_
  refine gcons (snd_g (ok_goto dL_isSo_677 rfl)) ?_
  refine gcons (snd_g (ok_bipush dL_isSo_680 rfl rfl)) ?_
  refine gcons (snd_g (ok_iload dL_isSo_682 rfl)) ?_
  refine gcons (snd_g (ok_iadd dL_isSo_684 rfl)) ?_
  refine gcons (snd_g (ok_i2c dL_isSo_685 rfl)) ?_
  refine gcons (snd_g (ok_icmp_ne dL_isSo_686 rfl rfl)) ?_
  refine gcons (snd_g (ok_aload_n dL_isSo_689 rfl rfl)) ?_
  refine gcons (snd_g (ok_iload dL_isSo_690 rfl)) ?_
  refine gcons (snd_g (ok_iload dL_isSo_692 rfl)) ?_
  refine gcons (snd_g (ok_iload dL_isSo_694 rfl)) ?_
  refine gcons (snd_g (ok_iconst dL_isSo_696 rfl rfl)) ?_
  refine gcons (snd_g (ok_iadd dL_isSo_697 rfl)) ?_
  refine gcons (ok_invokevirtualGN M_X4_state (C := RX4) (T := TX4) (nf := 8) rfl w_713 w_714 w_715 w_20 w_716 ⟨rfl, by decide, by decide, by decide +kernel⟩ (by decide) (by decide) dL_isSo_698 rfl) ?_
  refine gcons (snd_g (ok_iload dL_isSo_701 rfl)) ?_
  refine gcons (snd_g (ok_bipush dL_isSo_703 rfl rfl)) ?_
  refine gcons (snd_g (ok_icmp_le dL_isSo_705 rfl rfl)) ?_
  refine gcons (snd_g (ok_bipush dL_isSo_708 rfl rfl)) ?_
  refine gcons (snd_g (ok_iload dL_isSo_710 rfl)) ?_
  refine gcons (snd_g (ok_bipush dL_isSo_712 rfl rfl)) ?_
  refine gcons (snd_g (ok_irem dL_isSo_714 rfl)) ?_
  refine gcons (snd_g (ok_iadd dL_isSo_715 rfl)) ?_
  refine gcons (snd_g (ok_goto dL_isSo_716 rfl)) ?_
  refine gcons (snd_g (ok_iconst dL_isSo_719 rfl rfl)) ?_
  refine gcons (snd_g (ok_i2c dL_isSo_720 rfl)) ?_
  refine gcons (snd_g (ok_icmp_ne dL_isSo_721 rfl rfl)) ?_
  refine gcons (snd_g (ok_aload_n dL_isSo_724 rfl rfl)) ?_
  refine gcons (snd_g (ok_iload dL_isSo_725 rfl)) ?_
  refine gcons (snd_g (ok_iload dL_isSo_727 rfl)) ?_
  refine gcons (snd_g (ok_iload dL_isSo_729 rfl)) ?_
  refine gcons (snd_g (ok_iconst dL_isSo_731 rfl rfl)) ?_
  refine gcons (snd_g (ok_iadd dL_isSo_732 rfl)) ?_
  refine gcons (ok_invokevirtualGN M_X4_state (C := RX4) (T := TX4) (nf := 8) rfl w_713 w_714 w_715 w_20 w_716 ⟨rfl, by decide, by decide, by decide +kernel⟩ (by decide) (by decide) dL_isSo_733 rfl) ?_
  refine gcons (snd_g (ok_if_ne dL_isSo_736 rfl rfl)) ?_
  refine gcons (snd_g (ok_iconst dL_isSo_739 rfl rfl)) ?_
  refine gcons (snd_g (ok_goto dL_isSo_740 rfl)) ?_
  refine gcons (snd_g (ok_iconst dL_isSo_743 rfl rfl)) ?_
  refine gcons (snd_g (ok_istore dL_isSo_744 (by decide) rfl)) ?_
  refine gcons (snd_g (ok_iload dL_isSo_746 rfl)) ?_
  refine gcons (snd_g (ok_if_eq dL_isSo_748 rfl rfl)) ?_
  refine gcons (snd_g (ok_aload_n dL_isSo_751 rfl rfl)) ?_
  refine gcons (snd_g (ok_bipush dL_isSo_752 rfl rfl)) ?_
  refine gcons (snd_g (ok_aload dL_isSo_754 rfl)) ?_
  refine gcons (snd_g (ok_iconst dL_isSo_756 rfl rfl)) ?_
  refine gcons (snd_g (ok_iaload dL_isSo_757 rfl)) ?_
  refine gcons (snd_g (ok_iconst dL_isSo_758 rfl rfl)) ?_
  refine gcons (snd_g (ok_iconst dL_isSo_759 rfl rfl)) ?_
  refine gcons (snd_g (ok_iconst dL_isSo_760 rfl rfl)) ?_
  refine gcons (ok_invokestaticHN M_L_does w_128 w_129 w_19 w_130 ⟨by decide, by decide, by decide +kernel⟩ (by decide) (by decide) dL_isSo_761 rfl) ?_
  refine gcons (snd_g (ok_ldc w_683 dL_isSo_764 rfl)) ?_
  refine gcons (snd_g (ok_icmp_ne dL_isSo_766 rfl rfl)) ?_
  refine gcons (snd_g (ok_aload_n dL_isSo_769 rfl rfl)) ?_
  refine gcons (snd_g (ok_bipush dL_isSo_770 rfl rfl)) ?_
  refine gcons (snd_g (ok_aload dL_isSo_772 rfl)) ?_
  refine gcons (snd_g (ok_iconst dL_isSo_774 rfl rfl)) ?_
  refine gcons (snd_g (ok_iaload dL_isSo_775 rfl)) ?_
  refine gcons (snd_g (ok_iconst dL_isSo_776 rfl rfl)) ?_
  refine gcons (snd_g (ok_iconst dL_isSo_777 rfl rfl)) ?_
  refine gcons (snd_g (ok_iconst dL_isSo_778 rfl rfl)) ?_
  exact fun _ h => nomatch h
def tab_L_isSo_7 : List (Nat × Sem) := [(779, op_callHN sp_L_does 6 16 782), (782, op_ic (-3000000) 784), (784, op_cmp (fun x y => ¬ x = y) 791 787), (787, op_ic 1 788), (788, op_go 792), (791, op_ic 0 792), (792, op_zret)]
set_option maxRecDepth 20000 in
theorem tok_L_isSo_7 : ∀ q ∈ tab_L_isSo_7, GSnd RL cL_isSo 17 13 450 (some .boolean) q.1 q.2 := by
  unfold tab_L_isSo_7
  refine gcons (ok_invokestaticHN M_L_does w_128 w_129 w_19 w_130 ⟨by decide, by decide, by decide +kernel⟩ (by decide) (by decide) dL_isSo_779 rfl) ?_
  refine gcons (snd_g (ok_ldc w_683 dL_isSo_782 rfl)) ?_
  refine gcons (snd_g (ok_icmp_ne dL_isSo_784 rfl rfl)) ?_
  refine gcons (snd_g (ok_iconst dL_isSo_787 rfl rfl)) ?_
  refine gcons (snd_g (ok_goto dL_isSo_788 rfl)) ?_
  refine gcons (snd_g (ok_iconst dL_isSo_791 rfl rfl)) ?_
  refine gcons (snd_g (ok_zreturn rfl (Or.inl rfl) dL_isSo_792)) ?_
  exact fun _ h => nomatch h
def tab_L_isSo : List (Nat × Sem) := tab_L_isSo_0 ++ (tab_L_isSo_1 ++ (tab_L_isSo_2 ++ (tab_L_isSo_3 ++ (tab_L_isSo_4 ++ (tab_L_isSo_5 ++ (tab_L_isSo_6 ++ (tab_L_isSo_7)))))))
theorem tok_L_isSo : ∀ q ∈ tab_L_isSo, GSnd RL cL_isSo 17 13 450 (some .boolean) q.1 q.2 := gapp tok_L_isSo_0 (gapp tok_L_isSo_1 (gapp tok_L_isSo_2 (gapp tok_L_isSo_3 (gapp tok_L_isSo_4 (gapp tok_L_isSo_5 (gapp tok_L_isSo_6 (tok_L_isSo_7)))))))

