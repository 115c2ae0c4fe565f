def mk1 (s : Sg) (p q k : Int32) : Int32 := if s.2.1 29 0 (cl (plc p q k)) = 0 then -1 else k ^^^ (-1)
/-- what hinders a vow of today for good -/
noncomputable def kepM (s : Sg) (p q : Int32) : Int32 := (((hndM s p q &&& mk1 s p q 1) &&& mk1 s p q 2) &&& (-1)) &&& mk1 s p q 8
def lkP (s : Sg) (p q a w : Int32) : Prop := (s.2.1 24 0 (cl p) = 0 ∨ s.2.1 24 0 (cl q) = 0) ∧ ¬ s.2.1 20 0 0 < s.2.1 30 0 (cl (8 * w + a)) ∧ s.2.1 31 0 (cl a) = 0
noncomputable def voM (s : Sg) (p q a w : Int32) : Sg := stS (stS (stS (stS (stS (stS (stS (stS (th s 0) 33 0 (nvm s) p) 34 0 (nvm s) q) 35 0 (nvm s) a) 36 0 (nvm s) (s.2.1 20 0 0)) 37 0 (nvm s) (iteP (lkP s p q a w) 1 0)) 40 0 (nvm s) (-1)) 38 0 (nvm s) (kepM s p q)) 20 0 12 (s.2.1 20 0 12 + 1)
def voP (s : Sg) (p q : Int32) : Prop := ¬ 30 ≤ s.2.1 20 0 12 ∧ s.2.1 27 0 (cl p) = 0 ∧ s.2.1 27 0 (cl q) = 0 ∧ s.2.1 26 0 (cl p) = 0 ∧ s.2.1 26 0 (cl q) = 0
theorem dX5_vow_0 : decode cX5_vow 0 = .ok (.aload_n 0, 1) := by decide +kernel
theorem dX5_vow_1 : decode cX5_vow 1 = .ok (.iload_n 1, 1) := by decide +kernel
theorem dX5_vow_2 : decode cX5_vow 2 = .ok (.invokevirtual 106, 3) := by decide +kernel
theorem dX5_vow_5 : decode cX5_vow 5 = .ok (.ifCond .eq 15, 3) := by decide +kernel
theorem dX5_vow_8 : decode cX5_vow 8 = .ok (.aload_n 0, 1) := by decide +kernel
theorem dX5_vow_9 : decode cX5_vow 9 = .ok (.iload_n 2, 1) := by decide +kernel
theorem dX5_vow_10 : decode cX5_vow 10 = .ok (.invokevirtual 106, 3) := by decide +kernel
theorem dX5_vow_13 : decode cX5_vow 13 = .ok (.ifCond .eq 7, 3) := by decide +kernel
theorem dX5_vow_16 : decode cX5_vow 16 = .ok (.iconst 1, 1) := by decide +kernel
theorem dX5_vow_17 : decode cX5_vow 17 = .ok (.goto 4, 3) := by decide +kernel
theorem dX5_vow_20 : decode cX5_vow 20 = .ok (.iconst 0, 1) := by decide +kernel
theorem dX5_vow_21 : decode cX5_vow 21 = .ok (.istore 5, 2) := by decide +kernel
theorem dX5_vow_23 : decode cX5_vow 23 = .ok (.iload_n 1, 1) := by decide +kernel
theorem dX5_vow_24 : decode cX5_vow 24 = .ok (.iload_n 2, 1) := by decide +kernel
theorem dX5_vow_25 : decode cX5_vow 25 = .ok (.if_icmp .eq 22, 3) := by decide +kernel
theorem dX5_vow_28 : decode cX5_vow 28 = .ok (.iload_n 3, 1) := by decide +kernel
theorem dX5_vow_29 : decode cX5_vow 29 = .ok (.invokestatic 111, 3) := by decide +kernel
theorem dX5_vow_32 : decode cX5_vow 32 = .ok (.ifCond .eq 15, 3) := by decide +kernel
theorem dX5_vow_35 : decode cX5_vow 35 = .ok (.iload 4, 2) := by decide +kernel
theorem dX5_vow_37 : decode cX5_vow 37 = .ok (.invokestatic 145, 3) := by decide +kernel
theorem dX5_vow_40 : decode cX5_vow 40 = .ok (.ifCond .eq 7, 3) := by decide +kernel
theorem dX5_vow_43 : decode cX5_vow 43 = .ok (.iconst 1, 1) := by decide +kernel
theorem dX5_vow_44 : decode cX5_vow 44 = .ok (.goto 4, 3) := by decide +kernel
theorem dX5_vow_47 : decode cX5_vow 47 = .ok (.iconst 0, 1) := by decide +kernel
theorem dX5_vow_48 : decode cX5_vow 48 = .ok (.istore 6, 2) := by decide +kernel
theorem dX5_vow_50 : decode cX5_vow 50 = .ok (.iload 5, 2) := by decide +kernel
theorem dX5_vow_52 : decode cX5_vow 52 = .ok (.ifCond .eq 52, 3) := by decide +kernel
theorem dX5_vow_55 : decode cX5_vow 55 = .ok (.aload_n 0, 1) := by decide +kernel
theorem dX5_vow_56 : decode cX5_vow 56 = .ok (.getfield 103, 3) := by decide +kernel
theorem dX5_vow_59 : decode cX5_vow 59 = .ok (.bipush 30, 2) := by decide +kernel
theorem dX5_vow_61 : decode cX5_vow 61 = .ok (.if_icmp .ge 43, 3) := by decide +kernel
theorem dX5_vow_64 : decode cX5_vow 64 = .ok (.aload_n 0, 1) := by decide +kernel
theorem dX5_vow_65 : decode cX5_vow 65 = .ok (.getfield 26, 3) := by decide +kernel
theorem dX5_vow_68 : decode cX5_vow 68 = .ok (.iload_n 1, 1) := by decide +kernel
theorem dX5_vow_69 : decode cX5_vow 69 = .ok (.baload, 1) := by decide +kernel
theorem dX5_vow_70 : decode cX5_vow 70 = .ok (.ifCond .ne 34, 3) := by decide +kernel
theorem dX5_vow_73 : decode cX5_vow 73 = .ok (.aload_n 0, 1) := by decide +kernel
theorem dX5_vow_74 : decode cX5_vow 74 = .ok (.getfield 26, 3) := by decide +kernel
theorem dX5_vow_77 : decode cX5_vow 77 = .ok (.iload_n 2, 1) := by decide +kernel
theorem dX5_vow_78 : decode cX5_vow 78 = .ok (.baload, 1) := by decide +kernel
theorem dX5_vow_79 : decode cX5_vow 79 = .ok (.ifCond .ne 25, 3) := by decide +kernel
theorem dX5_vow_82 : decode cX5_vow 82 = .ok (.aload_n 0, 1) := by decide +kernel
theorem dX5_vow_83 : decode cX5_vow 83 = .ok (.getfield 23, 3) := by decide +kernel
theorem dX5_vow_86 : decode cX5_vow 86 = .ok (.iload_n 1, 1) := by decide +kernel
theorem dX5_vow_87 : decode cX5_vow 87 = .ok (.baload, 1) := by decide +kernel
theorem dX5_vow_88 : decode cX5_vow 88 = .ok (.ifCond .ne 16, 3) := by decide +kernel
theorem dX5_vow_91 : decode cX5_vow 91 = .ok (.aload_n 0, 1) := by decide +kernel
theorem dX5_vow_92 : decode cX5_vow 92 = .ok (.getfield 23, 3) := by decide +kernel
theorem dX5_vow_95 : decode cX5_vow 95 = .ok (.iload_n 2, 1) := by decide +kernel
theorem dX5_vow_96 : decode cX5_vow 96 = .ok (.baload, 1) := by decide +kernel
theorem dX5_vow_97 : decode cX5_vow 97 = .ok (.ifCond .ne 7, 3) := by decide +kernel
theorem dX5_vow_100 : decode cX5_vow 100 = .ok (.iconst 1, 1) := by decide +kernel
theorem dX5_vow_101 : decode cX5_vow 101 = .ok (.goto 4, 3) := by decide +kernel
theorem dX5_vow_104 : decode cX5_vow 104 = .ok (.iconst 0, 1) := by decide +kernel
theorem dX5_vow_105 : decode cX5_vow 105 = .ok (.istore 7, 2) := by decide +kernel
theorem dX5_vow_107 : decode cX5_vow 107 = .ok (.aload_n 0, 1) := by decide +kernel
theorem dX5_vow_108 : decode cX5_vow 108 = .ok (.iload 5, 2) := by decide +kernel
theorem dX5_vow_110 : decode cX5_vow 110 = .ok (.ifCond .ne 7, 3) := by decide +kernel
theorem dX5_vow_113 : decode cX5_vow 113 = .ok (.iconst 1, 1) := by decide +kernel
theorem dX5_vow_114 : decode cX5_vow 114 = .ok (.goto 22, 3) := by decide +kernel
theorem dX5_vow_117 : decode cX5_vow 117 = .ok (.iload 6, 2) := by decide +kernel
theorem dX5_vow_119 : decode cX5_vow 119 = .ok (.ifCond .ne 7, 3) := by decide +kernel
theorem dX5_vow_122 : decode cX5_vow 122 = .ok (.iconst 2, 1) := by decide +kernel
theorem dX5_vow_123 : decode cX5_vow 123 = .ok (.goto 13, 3) := by decide +kernel
theorem dX5_vow_126 : decode cX5_vow 126 = .ok (.iload 7, 2) := by decide +kernel
theorem dX5_vow_128 : decode cX5_vow 128 = .ok (.ifCond .eq 7, 3) := by decide +kernel
theorem dX5_vow_131 : decode cX5_vow 131 = .ok (.iconst 0, 1) := by decide +kernel
theorem dX5_vow_132 : decode cX5_vow 132 = .ok (.goto 4, 3) := by decide +kernel
theorem dX5_vow_135 : decode cX5_vow 135 = .ok (.iconst 3, 1) := by decide +kernel
theorem dX5_vow_136 : decode cX5_vow 136 = .ok (.invokevirtual 114, 3) := by decide +kernel
theorem dX5_vow_139 : decode cX5_vow 139 = .ok (.ifCond .eq 5, 3) := by decide +kernel
theorem dX5_vow_142 : decode cX5_vow 142 = .ok (.iconst 0, 1) := by decide +kernel
theorem dX5_vow_143 : decode cX5_vow 143 = .ok (.ireturn, 1) := by decide +kernel
theorem dX5_vow_144 : decode cX5_vow 144 = .ok (.aload_n 0, 1) := by decide +kernel
theorem dX5_vow_145 : decode cX5_vow 145 = .ok (.getfield 41, 3) := by decide +kernel
theorem dX5_vow_148 : decode cX5_vow 148 = .ok (.aload_n 0, 1) := by decide +kernel
theorem dX5_vow_149 : decode cX5_vow 149 = .ok (.getfield 103, 3) := by decide +kernel
theorem dX5_vow_152 : decode cX5_vow 152 = .ok (.iload_n 1, 1) := by decide +kernel
theorem dX5_vow_153 : decode cX5_vow 153 = .ok (.iastore, 1) := by decide +kernel
theorem dX5_vow_154 : decode cX5_vow 154 = .ok (.aload_n 0, 1) := by decide +kernel
theorem dX5_vow_155 : decode cX5_vow 155 = .ok (.getfield 44, 3) := by decide +kernel
theorem dX5_vow_158 : decode cX5_vow 158 = .ok (.aload_n 0, 1) := by decide +kernel
theorem dX5_vow_159 : decode cX5_vow 159 = .ok (.getfield 103, 3) := by decide +kernel
theorem dX5_vow_162 : decode cX5_vow 162 = .ok (.iload_n 2, 1) := by decide +kernel
theorem dX5_vow_163 : decode cX5_vow 163 = .ok (.iastore, 1) := by decide +kernel
theorem dX5_vow_164 : decode cX5_vow 164 = .ok (.aload_n 0, 1) := by decide +kernel
theorem dX5_vow_165 : decode cX5_vow 165 = .ok (.getfield 47, 3) := by decide +kernel
theorem dX5_vow_168 : decode cX5_vow 168 = .ok (.aload_n 0, 1) := by decide +kernel
theorem dX5_vow_169 : decode cX5_vow 169 = .ok (.getfield 103, 3) := by decide +kernel
theorem dX5_vow_172 : decode cX5_vow 172 = .ok (.iload_n 3, 1) := by decide +kernel
theorem dX5_vow_173 : decode cX5_vow 173 = .ok (.iastore, 1) := by decide +kernel
theorem dX5_vow_174 : decode cX5_vow 174 = .ok (.aload_n 0, 1) := by decide +kernel
theorem dX5_vow_175 : decode cX5_vow 175 = .ok (.getfield 50, 3) := by decide +kernel
theorem dX5_vow_178 : decode cX5_vow 178 = .ok (.aload_n 0, 1) := by decide +kernel
theorem dX5_vow_179 : decode cX5_vow 179 = .ok (.getfield 103, 3) := by decide +kernel
theorem dX5_vow_182 : decode cX5_vow 182 = .ok (.aload_n 0, 1) := by decide +kernel
theorem dX5_vow_183 : decode cX5_vow 183 = .ok (.getfield 117, 3) := by decide +kernel
theorem dX5_vow_186 : decode cX5_vow 186 = .ok (.iastore, 1) := by decide +kernel
theorem dX5_vow_187 : decode cX5_vow 187 = .ok (.aload_n 0, 1) := by decide +kernel
theorem dX5_vow_188 : decode cX5_vow 188 = .ok (.getfield 53, 3) := by decide +kernel
theorem dX5_vow_191 : decode cX5_vow 191 = .ok (.aload_n 0, 1) := by decide +kernel
theorem dX5_vow_192 : decode cX5_vow 192 = .ok (.getfield 103, 3) := by decide +kernel
theorem dX5_vow_195 : decode cX5_vow 195 = .ok (.aload_n 0, 1) := by decide +kernel
theorem dX5_vow_196 : decode cX5_vow 196 = .ok (.getfield 16, 3) := by decide +kernel
theorem dX5_vow_199 : decode cX5_vow 199 = .ok (.iload_n 1, 1) := by decide +kernel
theorem dX5_vow_200 : decode cX5_vow 200 = .ok (.iaload, 1) := by decide +kernel
theorem dX5_vow_201 : decode cX5_vow 201 = .ok (.ifCond .eq 12, 3) := by decide +kernel
theorem dX5_vow_204 : decode cX5_vow 204 = .ok (.aload_n 0, 1) := by decide +kernel
theorem dX5_vow_205 : decode cX5_vow 205 = .ok (.getfield 16, 3) := by decide +kernel
theorem dX5_vow_208 : decode cX5_vow 208 = .ok (.iload_n 2, 1) := by decide +kernel
theorem dX5_vow_209 : decode cX5_vow 209 = .ok (.iaload, 1) := by decide +kernel
theorem dX5_vow_210 : decode cX5_vow 210 = .ok (.ifCond .ne 35, 3) := by decide +kernel
theorem dX5_vow_213 : decode cX5_vow 213 = .ok (.aload_n 0, 1) := by decide +kernel
theorem dX5_vow_214 : decode cX5_vow 214 = .ok (.getfield 117, 3) := by decide +kernel
theorem dX5_vow_217 : decode cX5_vow 217 = .ok (.aload_n 0, 1) := by decide +kernel
theorem dX5_vow_218 : decode cX5_vow 218 = .ok (.getfield 35, 3) := by decide +kernel
theorem dX5_vow_221 : decode cX5_vow 221 = .ok (.bipush 8, 2) := by decide +kernel
theorem dX5_vow_223 : decode cX5_vow 223 = .ok (.iload 4, 2) := by decide +kernel
theorem dX5_vow_225 : decode cX5_vow 225 = .ok (.imul, 1) := by decide +kernel
theorem dX5_vow_226 : decode cX5_vow 226 = .ok (.iload_n 3, 1) := by decide +kernel
theorem dX5_vow_227 : decode cX5_vow 227 = .ok (.iadd, 1) := by decide +kernel
theorem dX5_vow_228 : decode cX5_vow 228 = .ok (.iaload, 1) := by decide +kernel
theorem dX5_vow_229 : decode cX5_vow 229 = .ok (.if_icmp .lt 16, 3) := by decide +kernel
theorem dX5_vow_232 : decode cX5_vow 232 = .ok (.aload_n 0, 1) := by decide +kernel
theorem dX5_vow_233 : decode cX5_vow 233 = .ok (.getfield 38, 3) := by decide +kernel
theorem dX5_vow_236 : decode cX5_vow 236 = .ok (.iload_n 3, 1) := by decide +kernel
theorem dX5_vow_237 : decode cX5_vow 237 = .ok (.baload, 1) := by decide +kernel
theorem dX5_vow_238 : decode cX5_vow 238 = .ok (.ifCond .ne 7, 3) := by decide +kernel
theorem dX5_vow_241 : decode cX5_vow 241 = .ok (.iconst 1, 1) := by decide +kernel
theorem dX5_vow_242 : decode cX5_vow 242 = .ok (.goto 4, 3) := by decide +kernel
theorem dX5_vow_245 : decode cX5_vow 245 = .ok (.iconst 0, 1) := by decide +kernel
theorem dX5_vow_246 : decode cX5_vow 246 = .ok (.bastore, 1) := by decide +kernel
theorem dX5_vow_247 : decode cX5_vow 247 = .ok (.aload_n 0, 1) := by decide +kernel
theorem dX5_vow_248 : decode cX5_vow 248 = .ok (.getfield 62, 3) := by decide +kernel
theorem dX5_vow_251 : decode cX5_vow 251 = .ok (.aload_n 0, 1) := by decide +kernel
theorem dX5_vow_252 : decode cX5_vow 252 = .ok (.getfield 103, 3) := by decide +kernel
theorem dX5_vow_255 : decode cX5_vow 255 = .ok (.iconst (-1), 1) := by decide +kernel
theorem dX5_vow_256 : decode cX5_vow 256 = .ok (.iastore, 1) := by decide +kernel
theorem dX5_vow_257 : decode cX5_vow 257 = .ok (.aload_n 0, 1) := by decide +kernel
theorem dX5_vow_258 : decode cX5_vow 258 = .ok (.getfield 56, 3) := by decide +kernel
theorem dX5_vow_261 : decode cX5_vow 261 = .ok (.aload_n 0, 1) := by decide +kernel
theorem dX5_vow_262 : decode cX5_vow 262 = .ok (.getfield 103, 3) := by decide +kernel
theorem dX5_vow_265 : decode cX5_vow 265 = .ok (.aload_n 0, 1) := by decide +kernel
theorem dX5_vow_266 : decode cX5_vow 266 = .ok (.iload_n 1, 1) := by decide +kernel
theorem dX5_vow_267 : decode cX5_vow 267 = .ok (.iload_n 2, 1) := by decide +kernel
theorem dX5_vow_268 : decode cX5_vow 268 = .ok (.invokevirtual 135, 3) := by decide +kernel
theorem dX5_vow_271 : decode cX5_vow 271 = .ok (.iastore, 1) := by decide +kernel
theorem dX5_vow_272 : decode cX5_vow 272 = .ok (.iconst 1, 1) := by decide +kernel
theorem dX5_vow_273 : decode cX5_vow 273 = .ok (.istore 8, 2) := by decide +kernel
theorem dX5_vow_275 : decode cX5_vow 275 = .ok (.iload 8, 2) := by decide +kernel
theorem dX5_vow_277 : decode cX5_vow 277 = .ok (.bipush 8, 2) := by decide +kernel
theorem dX5_vow_279 : decode cX5_vow 279 = .ok (.if_icmp .gt 53, 3) := by decide +kernel
theorem dX5_vow_282 : decode cX5_vow 282 = .ok (.aload_n 0, 1) := by decide +kernel
theorem dX5_vow_283 : decode cX5_vow 283 = .ok (.getfield 56, 3) := by decide +kernel
theorem dX5_vow_286 : decode cX5_vow 286 = .ok (.aload_n 0, 1) := by decide +kernel
theorem dX5_vow_287 : decode cX5_vow 287 = .ok (.getfield 103, 3) := by decide +kernel
theorem dX5_vow_290 : decode cX5_vow 290 = .ok (.dup2, 1) := by decide +kernel
theorem dX5_vow_291 : decode cX5_vow 291 = .ok (.iaload, 1) := by decide +kernel
theorem dX5_vow_292 : decode cX5_vow 292 = .ok (.iload 8, 2) := by decide +kernel
theorem dX5_vow_294 : decode cX5_vow 294 = .ok (.iconst 4, 1) := by decide +kernel
theorem dX5_vow_295 : decode cX5_vow 295 = .ok (.if_icmp .eq 25, 3) := by decide +kernel
theorem dX5_vow_298 : decode cX5_vow 298 = .ok (.aload_n 0, 1) := by decide +kernel
theorem dX5_vow_299 : decode cX5_vow 299 = .ok (.getfield 32, 3) := by decide +kernel
theorem dX5_vow_302 : decode cX5_vow 302 = .ok (.iload_n 1, 1) := by decide +kernel
theorem dX5_vow_303 : decode cX5_vow 303 = .ok (.iload_n 2, 1) := by decide +kernel
theorem dX5_vow_304 : decode cX5_vow 304 = .ok (.iload 8, 2) := by decide +kernel
theorem dX5_vow_306 : decode cX5_vow 306 = .ok (.invokestatic 138, 3) := by decide +kernel
theorem dX5_vow_309 : decode cX5_vow 309 = .ok (.baload, 1) := by decide +kernel
theorem dX5_vow_310 : decode cX5_vow 310 = .ok (.ifCond .eq 10, 3) := by decide +kernel
theorem dX5_vow_313 : decode cX5_vow 313 = .ok (.iload 8, 2) := by decide +kernel
theorem dX5_vow_315 : decode cX5_vow 315 = .ok (.iconst (-1), 1) := by decide +kernel
theorem dX5_vow_316 : decode cX5_vow 316 = .ok (.ixor, 1) := by decide +kernel
theorem dX5_vow_317 : decode cX5_vow 317 = .ok (.goto 4, 3) := by decide +kernel
theorem dX5_vow_320 : decode cX5_vow 320 = .ok (.iconst (-1), 1) := by decide +kernel
theorem dX5_vow_321 : decode cX5_vow 321 = .ok (.iand, 1) := by decide +kernel
theorem dX5_vow_322 : decode cX5_vow 322 = .ok (.iastore, 1) := by decide +kernel
theorem dX5_vow_323 : decode cX5_vow 323 = .ok (.iload 8, 2) := by decide +kernel
theorem dX5_vow_325 : decode cX5_vow 325 = .ok (.iconst 2, 1) := by decide +kernel
theorem dX5_vow_326 : decode cX5_vow 326 = .ok (.imul, 1) := by decide +kernel
theorem dX5_vow_327 : decode cX5_vow 327 = .ok (.istore 8, 2) := by decide +kernel
theorem dX5_vow_329 : decode cX5_vow 329 = .ok (.goto (-54), 3) := by decide +kernel
theorem dX5_vow_332 : decode cX5_vow 332 = .ok (.aload_n 0, 1) := by decide +kernel
theorem dX5_vow_333 : decode cX5_vow 333 = .ok (.dup, 1) := by decide +kernel
theorem dX5_vow_334 : decode cX5_vow 334 = .ok (.getfield 103, 3) := by decide +kernel
theorem dX5_vow_337 : decode cX5_vow 337 = .ok (.iconst 1, 1) := by decide +kernel
theorem dX5_vow_338 : decode cX5_vow 338 = .ok (.iadd, 1) := by decide +kernel
theorem dX5_vow_339 : decode cX5_vow 339 = .ok (.putfield 103, 3) := by decide +kernel
theorem dX5_vow_342 : decode cX5_vow 342 = .ok (.aload_n 0, 1) := by decide +kernel
theorem dX5_vow_343 : decode cX5_vow 343 = .ok (.getfield 103, 3) := by decide +kernel
theorem dX5_vow_346 : decode cX5_vow 346 = .ok (.iconst 1, 1) := by decide +kernel
theorem dX5_vow_347 : decode cX5_vow 347 = .ok (.isub, 1) := by decide +kernel
theorem dX5_vow_348 : decode cX5_vow 348 = .ok (.ireturn, 1) := by decide +kernel
def tab_X5_vow : List (Nat × Sem) := [(0, op_al 0 1), (1, op_il 1 2), (2, op_callV 7 sp_X5_isPerson 2 0 5), (5, op_if (fun x => x = 0) 20 8), (8, op_al 0 9), (9, op_il 2 10), (10, op_callV 7 sp_X5_isPerson 2 0 13), (13, op_if (fun x => x = 0) 20 16), (16, op_ic 1 17), (17, op_go 21), (20, op_ic 0 21), (21, op_is 5 23), (23, op_il 1 24), (24, op_il 2 25), (25, op_cmp (fun x y => x = y) 47 28), (28, op_il 3 29), (29, op_call sp_X5_isPlace 1 0 32), (32, op_if (fun x => x = 0) 47 35), (35, op_il 4 37), (37, op_call sp_X5_isWitness 1 0 40), (40, op_if (fun x => x = 0) 47 43), (43, op_ic 1 44), (44, op_go 48), (47, op_ic 0 48), (48, op_is 6 50), (50, op_il 5 52), (52, op_if (fun x => x = 0) 104 55), (55, op_al 0 56), (56, op_gf 7 12 59), (59, op_ic 30 61), (61, op_cmp (fun x y => y ≤ x) 104 64), (64, op_al 0 65), (65, op_gf 7 7 68), (68, op_il 1 69), (69, op_bald 70), (70, op_if (fun x => ¬ x = 0) 104 73), (73, op_al 0 74), (74, op_gf 7 7 77), (77, op_il 2 78), (78, op_bald 79), (79, op_if (fun x => ¬ x = 0) 104 82), (82, op_al 0 83), (83, op_gf 7 6 86), (86, op_il 1 87), (87, op_bald 88), (88, op_if (fun x => ¬ x = 0) 104 91), (91, op_al 0 92), (92, op_gf 7 6 95), (95, op_il 2 96), (96, op_bald 97), (97, op_if (fun x => ¬ x = 0) 104 100), (100, op_ic 1 101), (101, op_go 105), (104, op_ic 0 105), (105, op_is 7 107), (107, op_al 0 108), (108, op_il 5 110), (110, op_if (fun x => ¬ x = 0) 117 113), (113, op_ic 1 114), (114, op_go 136), (117, op_il 6 119), (119, op_if (fun x => ¬ x = 0) 126 122), (122, op_ic 2 123), (123, op_go 136), (126, op_il 7 128), (128, op_if (fun x => x = 0) 135 131), (131, op_ic 0 132), (132, op_go 136), (135, op_ic 3 136), (136, op_callV 7 sp_X5_fails 2 0 139), (139, op_if (fun x => x = 0) 144 142), (142, op_ic 0 143), (143, op_iret), (144, op_al 0 145), (145, op_gf 7 13 148), (148, op_al 0 149), (149, op_gf 7 12 152), (152, op_il 1 153), (153, op_iast 154), (154, op_al 0 155), (155, op_gf 7 14 158), (158, op_al 0 159), (159, op_gf 7 12 162), (162, op_il 2 163), (163, op_iast 164), (164, op_al 0 165), (165, op_gf 7 15 168), (168, op_al 0 169), (169, op_gf 7 12 172), (172, op_il 3 173), (173, op_iast 174), (174, op_al 0 175), (175, op_gf 7 16 178), (178, op_al 0 179), (179, op_gf 7 12 182), (182, op_al 0 183), (183, op_gf 7 0 186), (186, op_iast 187), (187, op_al 0 188), (188, op_gf 7 17 191), (191, op_al 0 192), (192, op_gf 7 12 195), (195, op_al 0 196), (196, op_gf 7 4 199), (199, op_il 1 200), (200, op_iald 201), (201, op_if (fun x => x = 0) 213 204), (204, op_al 0 205), (205, op_gf 7 4 208), (208, op_il 2 209), (209, op_iald 210), (210, op_if (fun x => ¬ x = 0) 245 213), (213, op_al 0 214), (214, op_gf 7 0 217), (217, op_al 0 218), (218, op_gf 7 10 221), (221, op_ic 8 223), (223, op_il 4 225), (225, op_bin (fun x y => x * y) 226), (226, op_il 3 227), (227, op_bin (fun x y => x + y) 228), (228, op_iald 229), (229, op_cmp (fun x y => x < y) 245 232), (232, op_al 0 233), (233, op_gf 7 11 236), (236, op_il 3 237), (237, op_bald 238), (238, op_if (fun x => ¬ x = 0) 245 241), (241, op_ic 1 242), (242, op_go 246), (245, op_ic 0 246), (246, op_bast 247), (247, op_al 0 248), (248, op_gf 7 20 251), (251, op_al 0 252), (252, op_gf 7 12 255), (255, op_ic (-1) 256), (256, op_iast 257), (257, op_al 0 258), (258, op_gf 7 18 261), (261, op_al 0 262), (262, op_gf 7 12 265), (265, op_al 0 266), (266, op_il 1 267), (267, op_il 2 268), (268, op_callV 7 sp_X5_hinders 3 0 271), (271, op_iast 272), (272, op_ic 1 273), (273, op_is 8 275), (275, op_il 8 277), (277, op_ic 8 279), (279, op_cmp (fun x y => y < x) 332 282), (282, op_al 0 283), (283, op_gf 7 18 286), (286, op_al 0 287), (287, op_gf 7 12 290), (290, op_dup2 291), (291, op_iald 292), (292, op_il 8 294), (294, op_ic 4 295), (295, op_cmp (fun x y => x = y) 320 298), (298, op_al 0 299), (299, op_gf 7 9 302), (302, op_il 1 303), (303, op_il 2 304), (304, op_il 8 306), (306, op_call sp_X5_placeOf 3 0 309), (309, op_bald 310), (310, op_if (fun x => x = 0) 320 313), (313, op_il 8 315), (315, op_ic (-1) 316), (316, op_bin (fun x y => x ^^^ y) 317), (317, op_go 321), (320, op_ic (-1) 321), (321, op_bin (fun x y => x &&& y) 322), (322, op_iast 323), (323, op_il 8 325), (325, op_ic 2 326), (326, op_bin (fun x y => x * y) 327), (327, op_is 8 329), (329, op_go 275), (332, op_al 0 333), (333, op_dup 334), (334, op_gf 7 12 337), (337, op_ic 1 338), (338, op_bin (fun x y => x + y) 339), (339, op_pf 7 12 342), (342, op_al 0 343), (343, op_gf 7 12 346), (346, op_ic 1 347), (347, op_bin (fun x y => x - y) 348), (348, op_iret)]
set_option maxRecDepth 20000 in
theorem tok_X5_vow : ∀ q ∈ tab_X5_vow, Snd RX5 cX5_vow 9 3 0 (some .int) q.1 q.2 := by
  unfold tab_X5_vow
  refine tcons (ok_aload_n dX5_vow_0 rfl rfl) ?_
  refine tcons (ok_iload_n dX5_vow_1 rfl rfl) ?_
  refine tcons (ok_invokevirtual M_X5_isPerson (C := RX5) (T := TX5) (nf := 33) rfl w_1101 w_1103 w_19 w_49 w_1104 ⟨rfl, by decide, by decide, by decide +kernel⟩ (by decide) (by decide) dX5_vow_2 rfl) ?_
  refine tcons (ok_if_eq dX5_vow_5 rfl rfl) ?_
  refine tcons (ok_aload_n dX5_vow_8 rfl rfl) ?_
  refine tcons (ok_iload_n dX5_vow_9 rfl rfl) ?_
  refine tcons (ok_invokevirtual M_X5_isPerson (C := RX5) (T := TX5) (nf := 33) rfl w_1101 w_1103 w_19 w_49 w_1104 ⟨rfl, by decide, by decide, by decide +kernel⟩ (by decide) (by decide) dX5_vow_10 rfl) ?_
  refine tcons (ok_if_eq dX5_vow_13 rfl rfl) ?_
  refine tcons (ok_iconst dX5_vow_16 rfl rfl) ?_
  refine tcons (ok_goto dX5_vow_17 rfl) ?_
  refine tcons (ok_iconst dX5_vow_20 rfl rfl) ?_
  refine tcons (ok_istore dX5_vow_21 (by decide) rfl) ?_
  refine tcons (ok_iload_n dX5_vow_23 rfl rfl) ?_
  refine tcons (ok_iload_n dX5_vow_24 rfl rfl) ?_
  refine tcons (ok_icmp_eq dX5_vow_25 rfl rfl) ?_
  refine tcons (ok_iload_n dX5_vow_28 rfl rfl) ?_
  refine tcons (ok_invokestatic M_X5_isPlace w_1109 w_1110 w_49 w_1111 ⟨by decide, by decide, by decide +kernel⟩ (by decide) (by decide) dX5_vow_29 rfl) ?_
  refine tcons (ok_if_eq dX5_vow_32 rfl rfl) ?_
  refine tcons (ok_iload dX5_vow_35 rfl) ?_
  refine tcons (ok_invokestatic M_X5_isWitness w_1171 w_1172 w_49 w_1173 ⟨by decide, by decide, by decide +kernel⟩ (by decide) (by decide) dX5_vow_37 rfl) ?_
  refine tcons (ok_if_eq dX5_vow_40 rfl rfl) ?_
  refine tcons (ok_iconst dX5_vow_43 rfl rfl) ?_
  refine tcons (ok_goto dX5_vow_44 rfl) ?_
  refine tcons (ok_iconst dX5_vow_47 rfl rfl) ?_
  refine tcons (ok_istore dX5_vow_48 (by decide) rfl) ?_
  refine tcons (ok_iload dX5_vow_50 rfl) ?_
  refine tcons (ok_if_eq dX5_vow_52 rfl rfl) ?_
  refine tcons (ok_aload_n dX5_vow_55 rfl rfl) ?_
  refine tcons (ok_getfield (C := RX5) (T := TX5) (n := 33) rfl in_X5 (by decide) w_1005 dX5_vow_56 rfl) ?_
  refine tcons (ok_bipush dX5_vow_59 rfl rfl) ?_
  refine tcons (ok_icmp_ge dX5_vow_61 rfl rfl) ?_
  refine tcons (ok_aload_n dX5_vow_64 rfl rfl) ?_
  refine tcons (ok_getfield (C := RX5) (T := TX5) (n := 33) rfl in_X5 (by decide) w_1000 dX5_vow_65 rfl) ?_
  refine tcons (ok_iload_n dX5_vow_68 rfl rfl) ?_
  refine tcons (ok_baload dX5_vow_69 rfl) ?_
  refine tcons (ok_if_ne dX5_vow_70 rfl rfl) ?_
  refine tcons (ok_aload_n dX5_vow_73 rfl rfl) ?_
  refine tcons (ok_getfield (C := RX5) (T := TX5) (n := 33) rfl in_X5 (by decide) w_1000 dX5_vow_74 rfl) ?_
  refine tcons (ok_iload_n dX5_vow_77 rfl rfl) ?_
  refine tcons (ok_baload dX5_vow_78 rfl) ?_
  refine tcons (ok_if_ne dX5_vow_79 rfl rfl) ?_
  refine tcons (ok_aload_n dX5_vow_82 rfl rfl) ?_
  refine tcons (ok_getfield (C := RX5) (T := TX5) (n := 33) rfl in_X5 (by decide) w_999 dX5_vow_83 rfl) ?_
  refine tcons (ok_iload_n dX5_vow_86 rfl rfl) ?_
  refine tcons (ok_baload dX5_vow_87 rfl) ?_
  refine tcons (ok_if_ne dX5_vow_88 rfl rfl) ?_
  refine tcons (ok_aload_n dX5_vow_91 rfl rfl) ?_
  refine tcons (ok_getfield (C := RX5) (T := TX5) (n := 33) rfl in_X5 (by decide) w_999 dX5_vow_92 rfl) ?_
  refine tcons (ok_iload_n dX5_vow_95 rfl rfl) ?_
  refine tcons (ok_baload dX5_vow_96 rfl) ?_
  refine tcons (ok_if_ne dX5_vow_97 rfl rfl) ?_
  refine tcons (ok_iconst dX5_vow_100 rfl rfl) ?_
  refine tcons (ok_goto dX5_vow_101 rfl) ?_
  refine tcons (ok_iconst dX5_vow_104 rfl rfl) ?_
  refine tcons (ok_istore dX5_vow_105 (by decide) rfl) ?_
  refine tcons (ok_aload_n dX5_vow_107 rfl rfl) ?_
  refine tcons (ok_iload dX5_vow_108 rfl) ?_
  refine tcons (ok_if_ne dX5_vow_110 rfl rfl) ?_
  refine tcons (ok_iconst dX5_vow_113 rfl rfl) ?_
  refine tcons (ok_goto dX5_vow_114 rfl) ?_
  refine tcons (ok_iload dX5_vow_117 rfl) ?_
  refine tcons (ok_if_ne dX5_vow_119 rfl rfl) ?_
  refine tcons (ok_iconst dX5_vow_122 rfl rfl) ?_
  refine tcons (ok_goto dX5_vow_123 rfl) ?_
  refine tcons (ok_iload dX5_vow_126 rfl) ?_
  refine tcons (ok_if_eq dX5_vow_128 rfl rfl) ?_
  refine tcons (ok_iconst dX5_vow_131 rfl rfl) ?_
  refine tcons (ok_goto dX5_vow_132 rfl) ?_
  refine tcons (ok_iconst dX5_vow_135 rfl rfl) ?_
  refine tcons (ok_invokevirtual M_X5_fails (C := RX5) (T := TX5) (nf := 33) rfl w_1112 w_1114 w_20 w_49 w_1115 ⟨rfl, by decide, by decide, by decide +kernel⟩ (by decide) (by decide) dX5_vow_136 rfl) ?_
  refine tcons (ok_if_eq dX5_vow_139 rfl rfl) ?_
  refine tcons (ok_iconst dX5_vow_142 rfl rfl) ?_
  refine tcons (ok_ireturn rfl dX5_vow_143) ?_
  refine tcons (ok_aload_n dX5_vow_144 rfl rfl) ?_
  refine tcons (ok_getfield (C := RX5) (T := TX5) (n := 33) rfl in_X5 (by decide) w_1006 dX5_vow_145 rfl) ?_
  refine tcons (ok_aload_n dX5_vow_148 rfl rfl) ?_
  refine tcons (ok_getfield (C := RX5) (T := TX5) (n := 33) rfl in_X5 (by decide) w_1005 dX5_vow_149 rfl) ?_
  refine tcons (ok_iload_n dX5_vow_152 rfl rfl) ?_
  refine tcons (ok_iastore dX5_vow_153 rfl) ?_
  refine tcons (ok_aload_n dX5_vow_154 rfl rfl) ?_
  refine tcons (ok_getfield (C := RX5) (T := TX5) (n := 33) rfl in_X5 (by decide) w_1007 dX5_vow_155 rfl) ?_
  refine tcons (ok_aload_n dX5_vow_158 rfl rfl) ?_
  refine tcons (ok_getfield (C := RX5) (T := TX5) (n := 33) rfl in_X5 (by decide) w_1005 dX5_vow_159 rfl) ?_
  refine tcons (ok_iload_n dX5_vow_162 rfl rfl) ?_
  refine tcons (ok_iastore dX5_vow_163 rfl) ?_
  refine tcons (ok_aload_n dX5_vow_164 rfl rfl) ?_
  refine tcons (ok_getfield (C := RX5) (T := TX5) (n := 33) rfl in_X5 (by decide) w_1008 dX5_vow_165 rfl) ?_
  refine tcons (ok_aload_n dX5_vow_168 rfl rfl) ?_
  refine tcons (ok_getfield (C := RX5) (T := TX5) (n := 33) rfl in_X5 (by decide) w_1005 dX5_vow_169 rfl) ?_
  refine tcons (ok_iload_n dX5_vow_172 rfl rfl) ?_
  refine tcons (ok_iastore dX5_vow_173 rfl) ?_
  refine tcons (ok_aload_n dX5_vow_174 rfl rfl) ?_
  refine tcons (ok_getfield (C := RX5) (T := TX5) (n := 33) rfl in_X5 (by decide) w_1009 dX5_vow_175 rfl) ?_
  refine tcons (ok_aload_n dX5_vow_178 rfl rfl) ?_
  refine tcons (ok_getfield (C := RX5) (T := TX5) (n := 33) rfl in_X5 (by decide) w_1005 dX5_vow_179 rfl) ?_
  refine tcons (ok_aload_n dX5_vow_182 rfl rfl) ?_
  refine tcons (ok_getfield (C := RX5) (T := TX5) (n := 33) rfl in_X5 (by decide) w_993 dX5_vow_183 rfl) ?_
  refine tcons (ok_iastore dX5_vow_186 rfl) ?_
  refine tcons (ok_aload_n dX5_vow_187 rfl rfl) ?_
  refine tcons (ok_getfield (C := RX5) (T := TX5) (n := 33) rfl in_X5 (by decide) w_1010 dX5_vow_188 rfl) ?_
  refine tcons (ok_aload_n dX5_vow_191 rfl rfl) ?_
  refine tcons (ok_getfield (C := RX5) (T := TX5) (n := 33) rfl in_X5 (by decide) w_1005 dX5_vow_192 rfl) ?_
  refine tcons (ok_aload_n dX5_vow_195 rfl rfl) ?_
  refine tcons (ok_getfield (C := RX5) (T := TX5) (n := 33) rfl in_X5 (by decide) w_997 dX5_vow_196 rfl) ?_
  refine tcons (ok_iload_n dX5_vow_199 rfl rfl) ?_
  refine tcons (ok_iaload dX5_vow_200 rfl) ?_
  refine tcons (ok_if_eq dX5_vow_201 rfl rfl) ?_
  refine tcons (ok_aload_n dX5_vow_204 rfl rfl) ?_
  refine tcons (ok_getfield (C := RX5) (T := TX5) (n := 33) rfl in_X5 (by decide) w_997 dX5_vow_205 rfl) ?_
  refine tcons (ok_iload_n dX5_vow_208 rfl rfl) ?_
  refine tcons (ok_iaload dX5_vow_209 rfl) ?_
  refine tcons (ok_if_ne dX5_vow_210 rfl rfl) ?_
  refine tcons (ok_aload_n dX5_vow_213 rfl rfl) ?_
  refine tcons (ok_getfield (C := RX5) (T := TX5) (n := 33) rfl in_X5 (by decide) w_993 dX5_vow_214 rfl) ?_
  refine tcons (ok_aload_n dX5_vow_217 rfl rfl) ?_
  refine tcons (ok_getfield (C := RX5) (T := TX5) (n := 33) rfl in_X5 (by decide) w_1003 dX5_vow_218 rfl) ?_
  refine tcons (ok_bipush dX5_vow_221 rfl rfl) ?_
  refine tcons (ok_iload dX5_vow_223 rfl) ?_
  refine tcons (ok_imul dX5_vow_225 rfl) ?_
  refine tcons (ok_iload_n dX5_vow_226 rfl rfl) ?_
  refine tcons (ok_iadd dX5_vow_227 rfl) ?_
  refine tcons (ok_iaload dX5_vow_228 rfl) ?_
  refine tcons (ok_icmp_lt dX5_vow_229 rfl rfl) ?_
  refine tcons (ok_aload_n dX5_vow_232 rfl rfl) ?_
  refine tcons (ok_getfield (C := RX5) (T := TX5) (n := 33) rfl in_X5 (by decide) w_1004 dX5_vow_233 rfl) ?_
  refine tcons (ok_iload_n dX5_vow_236 rfl rfl) ?_
  refine tcons (ok_baload dX5_vow_237 rfl) ?_
  refine tcons (ok_if_ne dX5_vow_238 rfl rfl) ?_
  refine tcons (ok_iconst dX5_vow_241 rfl rfl) ?_
  refine tcons (ok_goto dX5_vow_242 rfl) ?_
  refine tcons (ok_iconst dX5_vow_245 rfl rfl) ?_
  refine tcons (ok_bastore dX5_vow_246 rfl) ?_
  refine tcons (ok_aload_n dX5_vow_247 rfl rfl) ?_
  refine tcons (ok_getfield (C := RX5) (T := TX5) (n := 33) rfl in_X5 (by decide) w_1013 dX5_vow_248 rfl) ?_
  refine tcons (ok_aload_n dX5_vow_251 rfl rfl) ?_
  refine tcons (ok_getfield (C := RX5) (T := TX5) (n := 33) rfl in_X5 (by decide) w_1005 dX5_vow_252 rfl) ?_
  refine tcons (ok_iconst dX5_vow_255 rfl rfl) ?_
  refine tcons (ok_iastore dX5_vow_256 rfl) ?_
  refine tcons (ok_aload_n dX5_vow_257 rfl rfl) ?_
  refine tcons (ok_getfield (C := RX5) (T := TX5) (n := 33) rfl in_X5 (by decide) w_1011 dX5_vow_258 rfl) ?_
  refine tcons (ok_aload_n dX5_vow_261 rfl rfl) ?_
  refine tcons (ok_getfield (C := RX5) (T := TX5) (n := 33) rfl in_X5 (by decide) w_1005 dX5_vow_262 rfl) ?_
  refine tcons (ok_aload_n dX5_vow_265 rfl rfl) ?_
  refine tcons (ok_iload_n dX5_vow_266 rfl rfl) ?_
  refine tcons (ok_iload_n dX5_vow_267 rfl rfl) ?_
  refine tcons (ok_invokevirtual M_X5_hinders (C := RX5) (T := TX5) (nf := 33) rfl w_1148 w_1150 w_23 w_49 w_1151 ⟨rfl, by decide, by decide, by decide +kernel⟩ (by decide) (by decide) dX5_vow_268 rfl) ?_
  refine tcons (ok_iastore dX5_vow_271 rfl) ?_
  refine tcons (ok_iconst dX5_vow_272 rfl rfl) ?_
  refine tcons (ok_istore dX5_vow_273 (by decide) rfl) ?_
  refine tcons (ok_iload dX5_vow_275 rfl) ?_
  refine tcons (ok_bipush dX5_vow_277 rfl rfl) ?_
  refine tcons (ok_icmp_gt dX5_vow_279 rfl rfl) ?_
  refine tcons (ok_aload_n dX5_vow_282 rfl rfl) ?_
  refine tcons (ok_getfield (C := RX5) (T := TX5) (n := 33) rfl in_X5 (by decide) w_1011 dX5_vow_283 rfl) ?_
  refine tcons (ok_aload_n dX5_vow_286 rfl rfl) ?_
  refine tcons (ok_getfield (C := RX5) (T := TX5) (n := 33) rfl in_X5 (by decide) w_1005 dX5_vow_287 rfl) ?_
  refine tcons (ok_dup2 dX5_vow_290 rfl) ?_
  refine tcons (ok_iaload dX5_vow_291 rfl) ?_
  refine tcons (ok_iload dX5_vow_292 rfl) ?_
  refine tcons (ok_iconst dX5_vow_294 rfl rfl) ?_
  refine tcons (ok_icmp_eq dX5_vow_295 rfl rfl) ?_
  refine tcons (ok_aload_n dX5_vow_298 rfl rfl) ?_
  refine tcons (ok_getfield (C := RX5) (T := TX5) (n := 33) rfl in_X5 (by decide) w_1002 dX5_vow_299 rfl) ?_
  refine tcons (ok_iload_n dX5_vow_302 rfl rfl) ?_
  refine tcons (ok_iload_n dX5_vow_303 rfl rfl) ?_
  refine tcons (ok_iload dX5_vow_304 rfl) ?_
  refine tcons (ok_invokestatic M_X5_placeOf w_1164 w_1165 w_49 w_1166 ⟨by decide, by decide, by decide +kernel⟩ (by decide) (by decide) dX5_vow_306 rfl) ?_
  refine tcons (ok_baload dX5_vow_309 rfl) ?_
  refine tcons (ok_if_eq dX5_vow_310 rfl rfl) ?_
  refine tcons (ok_iload dX5_vow_313 rfl) ?_
  refine tcons (ok_iconst dX5_vow_315 rfl rfl) ?_
  refine tcons (ok_ixor dX5_vow_316 rfl) ?_
  refine tcons (ok_goto dX5_vow_317 rfl) ?_
  refine tcons (ok_iconst dX5_vow_320 rfl rfl) ?_
  refine tcons (ok_iand dX5_vow_321 rfl) ?_
  refine tcons (ok_iastore dX5_vow_322 rfl) ?_
  refine tcons (ok_iload dX5_vow_323 rfl) ?_
  refine tcons (ok_iconst dX5_vow_325 rfl rfl) ?_
  refine tcons (ok_imul dX5_vow_326 rfl) ?_
  refine tcons (ok_istore dX5_vow_327 (by decide) rfl) ?_
  refine tcons (ok_goto dX5_vow_329 rfl) ?_
  refine tcons (ok_aload_n dX5_vow_332 rfl rfl) ?_
  refine tcons (ok_dup dX5_vow_333 rfl) ?_
  refine tcons (ok_getfield (C := RX5) (T := TX5) (n := 33) rfl in_X5 (by decide) w_1005 dX5_vow_334 rfl) ?_
  refine tcons (ok_iconst dX5_vow_337 rfl rfl) ?_
  refine tcons (ok_iadd dX5_vow_338 rfl) ?_
  refine tcons (ok_putfield (C := RX5) (T := TX5) (n := 33) tyX5 .int rfl in_X5 tyX5_ok nmX5 (by decide) rfl w_1005 rfl (Or.inl rfl) dX5_vow_339 rfl) ?_
  refine tcons (ok_aload_n dX5_vow_342 rfl rfl) ?_
  refine tcons (ok_getfield (C := RX5) (T := TX5) (n := 33) rfl in_X5 (by decide) w_1005 dX5_vow_343 rfl) ?_
  refine tcons (ok_iconst dX5_vow_346 rfl rfl) ?_
  refine tcons (ok_isub dX5_vow_347 rfl) ?_
  refine tcons (ok_ireturn rfl dX5_vow_348) ?_
  exact fun _ h => nomatch h
def sp_X5_vow : Spc := fun av s N _ => match av with
  | [.inl (.inr (20, 0)), .inl (.inl p), .inl (.inl q), .inl (.inl a), .inl (.inl w)] => MI s ∧ f3 (isP s p ∧ isP s q) (¬ p = q ∧ inR a 0 7 ∧ inR w 0 5) (voP s p q) (some (aI 0)) N s (N (some (aI (s.2.1 20 0 12))) (voM s p q a w))
  | _ => False
theorem stS_2 {s : Sg} {t i j : Nat} {v w : Int32} : stS (stS s t i j v) t i j w = stS s t i j w := by
  refine Sg_ext rfl (fun a b c => ?_) rfl
  simp only [stS_get]
  by_cases h : a = t ∧ b = i ∧ c = j
  · rw [if_pos h, if_pos h]
  · rw [if_neg h, if_neg h, if_neg h]
/-- what hinders does not look at the vows' rows -/
theorem hndM_eq {s s' : Sg} (h20 : s'.2.1 20 0 0 = s.2.1 20 0 0) (h1 : s'.2.1 20 0 1 = s.2.1 20 0 1) (h22 : ∀ j, s'.2.1 22 0 j = s.2.1 22 0 j) (h25 : ∀ j, s'.2.1 25 0 j = s.2.1 25 0 j) (h28 : ∀ j, s'.2.1 28 0 j = s.2.1 28 0 j) (p q : Int32) : hndM s' p q = hndM s p q := by
  have e1 : ∀ i, mrow s' i = mrow s i := fun i => funext fun j => h28 _
  have e2 : kinM s' p q = kinM s p q := by unfold kinM npm; rw [e1, e1, h1]
  unfold hndM ykP
  rw [e2, h20, h22, h22, h25, h25]
set_option maxRecDepth 20000 in
set_option maxHeartbeats 2000000 in
theorem M_X5_vow : AMet yX5_vow cX5_vow 9 (some .int) 3 0 sp_X5_vow := by
  refine AMet.mc (own := RX5) (by decide) rfl [0, 1, 2, 3, 4, 5, 6, 7, 8] rfl tok_X5_vow 200 ?_
  intro av s0 N X h
  unfold sp_X5_vow at h
  split at h
  rotate_left
  · exact h.elim
  rename_i p q a w
  obtain ⟨hM, h⟩ := h
  obtain ⟨-, ⟨n, hn, hv⟩, -⟩ := of_eq_true hM
  have hnv := nvm_eq hv hn
  have hfin : (isP s0 p ∧ isP s0 q) → (¬ p = q ∧ inR a 0 7 ∧ inR w 0 5) → voP s0 p q → ∀ x s', x = nI n → s' = stS (stS (stS (stS (stS (stS (stS (stS (th s0 0) 33 0 n p) 34 0 n q) 35 0 n a) 36 0 n (s0.2.1 20 0 0)) 37 0 n (iteP (lkP s0 p q a w) 1 0)) 40 0 n (-1)) 38 0 n (kepM s0 p q)) 20 0 12 (nI n + 1) → N (some (aI x)) s' := by
    intro h1 h2 h3 x s' hx hs
    have := h.2.2.2 h1 h2 h3
    unfold voM at this
    rw [hv, hnv] at this
    rw [hx, hs]
    exact this
  refine ⟨[(50, fun m u L st s => ∃ f1 f2, u = 0 ∧ m = 3 ∧ L = [(0, .inr (20, 0)), (1, .inl p), (2, .inl q), (3, .inl a), (4, .inl w), (5, .inl f1), (6, .inl f2)] ∧ st = [] ∧ s = s0 ∧ flg f1 (isP s0 p ∧ isP s0 q) ∧ flg f2 (¬ p = q ∧ inR a 0 7 ∧ inR w 0 5)),
     (107, fun m u L st s => ∃ f1 f2 f3, u = 0 ∧ m = 2 ∧ L = [(0, .inr (20, 0)), (1, .inl p), (2, .inl q), (3, .inl a), (4, .inl w), (5, .inl f1), (6, .inl f2), (7, .inl f3)] ∧ st = [] ∧ s = s0 ∧ flg f1 (isP s0 p ∧ isP s0 q) ∧ flg f2 (¬ p = q ∧ inR a 0 7 ∧ inR w 0 5) ∧ (isP s0 p ∧ isP s0 q → flg f3 (voP s0 p q)) ∧ (f3 = 0 ∨ f3 = 1)),
     (144, fun m u L st s => u = 0 ∧ m = 1 ∧ L = [(0, .inr (20, 0)), (1, .inl p), (2, .inl q), (3, .inl a), (4, .inl w)] ∧ st = [] ∧ s = th s0 0 ∧ (isP s0 p ∧ isP s0 q) ∧ (¬ p = q ∧ inR a 0 7 ∧ inR w 0 5) ∧ voP s0 p q),
     (247, fun m u L st s => u = 0 ∧ m = 0 ∧ L = [(0, .inr (20, 0)), (1, .inl p), (2, .inl q), (3, .inl a), (4, .inl w)] ∧ st = [] ∧ s = stS (stS (stS (stS (stS (th s0 0) 33 0 n p) 34 0 n q) 35 0 n a) 36 0 n (s0.2.1 20 0 0)) 37 0 n (iteP (lkP s0 p q a w) 1 0) ∧ (isP s0 p ∧ isP s0 q) ∧ (¬ p = q ∧ inR a 0 7 ∧ inR w 0 5) ∧ voP s0 p q)], ?_, ac ?_ (ac ?_ (ac ?_ (ac ?_ an)))⟩
  · clear hfin
    repeat' (first | apply And.intro | (intro q; exact absurd q (by decide)) | intro _)
    all_goals first | decide | (exact Nat.le_of_ble_eq_true rfl) | (exact ⟨3, 7, trivial, _, _, rfl, rfl, rfl, rfl, rfl, by simp_all [flg], by simp_all [flg]⟩)
  · rintro m u L st s ⟨f1, f2, rfl, rfl, rfl, rfl, rfl, h1, h2⟩
    clear hfin
    rcases h1 with ⟨rfl, h1⟩ | ⟨rfl, h1⟩
    all_goals repeat' (first | apply And.intro | (intro q; exact absurd q (by decide)) | intro _)
    all_goals first | decide | (exact Nat.le_of_ble_eq_true rfl) | (exact Ib_of (MI_p hM h1.1)) | (exact Ib_of (MI_p hM h1.2)) | (exact ⟨2, 8, by decide, _, _, _, rfl, rfl, rfl, rfl, rfl, by simp_all [flg], h2, by simp_all [-Int32.not_le, -Int32.not_lt, flg, voP], by simp⟩)
  · rintro m u L st s ⟨f1, f2, f3, rfl, rfl, rfl, rfl, rfl, h1, h2, h3, h33⟩
    clear hfin
    rcases h1 with ⟨rfl, h1⟩ | ⟨rfl, h1⟩ <;> rcases h2 with ⟨rfl, h2⟩ | ⟨rfl, h2⟩ <;> rcases h33 with rfl | rfl
    all_goals repeat' (first | apply And.intro | (intro q; exact absurd q (by decide)) | intro _)
    all_goals first | decide | (exact Nat.le_of_ble_eq_true rfl) | (exact ⟨1, 5, by decide, rfl, rfl, rfl, rfl, rfl, h1, h2, by simp_all [flg]⟩) | (simp_all [-Int32.not_le, -Int32.not_lt, f3, flg]; done)
  · rintro m u L st s ⟨rfl, rfl, rfl, rfl, rfl, hV, hr, hc⟩
    clear hfin
    have hn30 : n < 30 := by
      have h9 := hc.1
      rw [hv] at h9
      rcases Nat.lt_or_ge n 30 with q | q
      · exact q
      · exact absurd (show nI 30 ≤ nI n from nI_le q (by omega)) h9
    have i0 : Ib (nI n) 30 := nIb hn30 (by decide)
    have ip : Ib p 24 := Ib_of (MI_p hM hV.1)
    have iq : Ib q 24 := Ib_of (MI_p hM hV.2)
    have iw : Ib (8 * w + a) 48 := Ib_of (fac_vp hr.2.2 hr.2.1)
    have ia : Ib a 8 := Ib_of (rg_vp hr.2.1 (by decide) (by decide))
    have c : (nI n).toNatClampNeg = n := nI_clamp (by omega)
    have hlk : ∀ k, lkP (th s0 k) p q a w = lkP s0 p q a w := fun k => by simp [lkP, stS_get]
    obtain ⟨s1, e1⟩ : ∃ z, z = th s0 0 := ⟨_, rfl⟩
    have hv1 : s1.2.1 20 0 12 = nI n := by rw [e1, stS_get]; exact hv
    have hd1 : s0.2.1 20 0 0 = s1.2.1 20 0 0 := by rw [e1, stS_get]; rfl
    have hl1 : lkP s0 p q a w = lkP s1 p q a w := by rw [e1, hlk]
    have e2 : stS s0 20 0 32 0 = s1 := e1.symm
    rw [hl1]
    clear hl1 hlk
    rw [← e1, hd1]
    clear h e1 hM hnv hd1
    repeat' (first | apply And.intro | (intro q; exact absurd q (by decide)) | intro _)
    all_goals first | decide | (exact Nat.le_of_ble_eq_true rfl) | (simp [stS_get, hv1, i0, ip, iq, iw, ia]; done) |
      (refine ⟨0, 5, Nat.one_pos, rfl, rfl, rfl, rfl, ?_, hV, hr, hc⟩; simp_all [-Int32.not_le, -Int32.not_lt, stS_get, lkP, iteP]; done)
  · rintro m u L st s ⟨rfl, rfl, rfl, rfl, rfl, hV, hr, hc⟩
    have hn30 : n < 30 := by
      have h9 := hc.1
      rw [hv] at h9
      rcases Nat.lt_or_ge n 30 with q | q
      · exact q
      · exact absurd (show nI 30 ≤ nI n from nI_le q (by omega)) h9
    replace hfin := hfin hV hr hc
    have i0 : Ib (nI n) 30 := nIb hn30 (by decide)
    have ip : Ib p 24 := Ib_of (MI_p hM hV.1)
    have iq : Ib q 24 := Ib_of (MI_p hM hV.2)
    have c : (nI n).toNatClampNeg = n := nI_clamp (by omega)
    obtain ⟨s5, e5⟩ : ∃ z, z = stS (stS (stS (stS (stS (th s0 0) 33 0 n p) 34 0 n q) 35 0 n a) 36 0 n (s0.2.1 20 0 0)) 37 0 n (iteP (lkP s0 p q a w) 1 0) := ⟨_, rfl⟩
    have hv5 : s5.2.1 20 0 12 = nI n := by rw [e5]; simp [stS_get, hv]
    have h29 : ∀ j, s0.2.1 29 0 j = s5.2.1 29 0 j := fun j => by rw [e5]; simp [stS_get]
    have hh : ∀ x, hndM (stS s5 40 0 n x) p q = hndM s0 p q := fun x => by
      rw [e5]
      exact hndM_eq (by simp [stS_get]) (by simp [stS_get]) (fun j => by simp [stS_get]) (fun j => by simp [stS_get]) (fun j => by simp [stS_get]) p q
    have hM5 : ∀ x, MI (stS s5 40 0 n x) := fun x => by
      rw [e5]
      have : MI (stS (stS (stS (stS (stS (stS (th s0 0) 33 0 n p) 34 0 n q) 35 0 n a) 36 0 n (s0.2.1 20 0 0)) 37 0 n (iteP (lkP s0 p q a w) 1 0)) 40 0 n x) = MI s0 := by simp [MI, MI0, stS_get]
      rw [this]; exact hM
    have hk : kepM s0 p q = (((hndM s0 p q &&& mk1 s5 p q 1) &&& mk1 s5 p q 2) &&& (-1)) &&& mk1 s5 p q 8 := by unfold kepM mk1; simp only [h29]
    rw [← e5, hk] at hfin
    rw [← e5]
    clear h e5 hc hv hM hnv hk h29
    repeat' (first | apply And.intro | (intro q; exact absurd q (by decide)) | intro _)
    all_goals first | (with_reducible exact ip) | (with_reducible exact iq) | (with_reducible exact plc_Ib ip iq) | (simp only [stS_get, hv5, c]; exact hM5 _) | decide | (simp [stS_get, hv5, i0]; done) | (exact Nat.le_of_ble_eq_true rfl) |
      (refine hfin _ _ (by simp [stS_get, hv5]) ?_; simp_all [stS_get, stS_2, mk1]; done)

