theorem dL_isWell_0 : decode cL_isWell 0 = .ok (.aload_n 0, 1) := by decide +kernel
theorem dL_isWell_1 : decode cL_isWell 1 = .ok (.bipush 9, 2) := by decide +kernel
theorem dL_isWell_3 : decode cL_isWell 3 = .ok (.invokevirtual 9, 3) := by decide +kernel
theorem dL_isWell_6 : decode cL_isWell 6 = .ok (.istore_n 1, 1) := by decide +kernel
theorem dL_isWell_7 : decode cL_isWell 7 = .ok (.iconst 0, 1) := by decide +kernel
theorem dL_isWell_8 : decode cL_isWell 8 = .ok (.istore_n 2, 1) := by decide +kernel
theorem dL_isWell_9 : decode cL_isWell 9 = .ok (.iconst (-1), 1) := by decide +kernel
theorem dL_isWell_10 : decode cL_isWell 10 = .ok (.istore_n 3, 1) := by decide +kernel
theorem dL_isWell_11 : decode cL_isWell 11 = .ok (.iconst (-1), 1) := by decide +kernel
theorem dL_isWell_12 : decode cL_isWell 12 = .ok (.istore 4, 2) := by decide +kernel
theorem dL_isWell_14 : decode cL_isWell 14 = .ok (.iconst 4, 1) := by decide +kernel
theorem dL_isWell_15 : decode cL_isWell 15 = .ok (.newarray .int, 2) := by decide +kernel
theorem dL_isWell_17 : decode cL_isWell 17 = .ok (.astore 5, 2) := by decide +kernel
theorem dL_isWell_19 : decode cL_isWell 19 = .ok (.iload_n 1, 1) := by decide +kernel
theorem dL_isWell_20 : decode cL_isWell 20 = .ok (.aload_n 0, 1) := by decide +kernel
theorem dL_isWell_21 : decode cL_isWell 21 = .ok (.iconst 0, 1) := by decide +kernel
theorem dL_isWell_22 : decode cL_isWell 22 = .ok (.invokevirtual 9, 3) := by decide +kernel
theorem dL_isWell_25 : decode cL_isWell 25 = .ok (.sipush 200, 3) := by decide +kernel
theorem dL_isWell_28 : decode cL_isWell 28 = .ok (.if_icmp .ge 11, 3) := by decide +kernel
theorem dL_isWell_31 : decode cL_isWell 31 = .ok (.aload_n 0, 1) := by decide +kernel
theorem dL_isWell_32 : decode cL_isWell 32 = .ok (.iconst 0, 1) := by decide +kernel
theorem dL_isWell_33 : decode cL_isWell 33 = .ok (.invokevirtual 9, 3) := by decide +kernel
theorem dL_isWell_36 : decode cL_isWell 36 = .ok (.goto 6, 3) := by decide +kernel
theorem dL_isWell_39 : decode cL_isWell 39 = .ok (.sipush 200, 3) := by decide +kernel
theorem dL_isWell_42 : decode cL_isWell 42 = .ok (.if_icmp .ne 61, 3) := by decide +kernel
theorem dL_isWell_45 : decode cL_isWell 45 = .ok (.aload_n 0, 1) := by decide +kernel
theorem dL_isWell_46 : decode cL_isWell 46 = .ok (.iload_n 1, 1) := by decide +kernel
theorem dL_isWell_47 : decode cL_isWell 47 = .ok (.iconst 0, 1) := by decide +kernel
theorem dL_isWell_48 : decode cL_isWell 48 = .ok (.invokevirtual 28, 3) := by decide +kernel
theorem dL_isWell_51 : decode cL_isWell 51 = .ok (.iconst (-1), 1) := by decide +kernel
theorem dL_isWell_52 : decode cL_isWell 52 = .ok (.if_icmp .ne 51, 3) := by decide +kernel
theorem dL_isWell_55 : decode cL_isWell 55 = .ok (.aload_n 0, 1) := by decide +kernel
theorem dL_isWell_56 : decode cL_isWell 56 = .ok (.iconst 1, 1) := by decide +kernel
theorem dL_isWell_57 : decode cL_isWell 57 = .ok (.invokevirtual 9, 3) := by decide +kernel
theorem dL_isWell_60 : decode cL_isWell 60 = .ok (.ifCond .lt 43, 3) := by decide +kernel
theorem dL_isWell_63 : decode cL_isWell 63 = .ok (.aload_n 0, 1) := by decide +kernel
theorem dL_isWell_64 : decode cL_isWell 64 = .ok (.iconst 1, 1) := by decide +kernel
theorem dL_isWell_65 : decode cL_isWell 65 = .ok (.invokevirtual 9, 3) := by decide +kernel
theorem dL_isWell_68 : decode cL_isWell 68 = .ok (.aload_n 0, 1) := by decide +kernel
theorem dL_isWell_69 : decode cL_isWell 69 = .ok (.bipush 11, 2) := by decide +kernel
theorem dL_isWell_71 : decode cL_isWell 71 = .ok (.invokevirtual 9, 3) := by decide +kernel
theorem dL_isWell_74 : decode cL_isWell 74 = .ok (.if_icmp .ge 29, 3) := by decide +kernel
theorem dL_isWell_77 : decode cL_isWell 77 = .ok (.aload_n 0, 1) := by decide +kernel
theorem dL_isWell_78 : decode cL_isWell 78 = .ok (.iconst 2, 1) := by decide +kernel
theorem dL_isWell_79 : decode cL_isWell 79 = .ok (.invokevirtual 9, 3) := by decide +kernel
theorem dL_isWell_82 : decode cL_isWell 82 = .ok (.ifCond .lt 21, 3) := by decide +kernel
theorem dL_isWell_85 : decode cL_isWell 85 = .ok (.aload_n 0, 1) := by decide +kernel
theorem dL_isWell_86 : decode cL_isWell 86 = .ok (.iconst 2, 1) := by decide +kernel
theorem dL_isWell_87 : decode cL_isWell 87 = .ok (.invokevirtual 9, 3) := by decide +kernel
theorem dL_isWell_90 : decode cL_isWell 90 = .ok (.aload_n 0, 1) := by decide +kernel
theorem dL_isWell_91 : decode cL_isWell 91 = .ok (.bipush 10, 2) := by decide +kernel
theorem dL_isWell_93 : decode cL_isWell 93 = .ok (.invokevirtual 9, 3) := by decide +kernel
theorem dL_isWell_96 : decode cL_isWell 96 = .ok (.if_icmp .ge 7, 3) := by decide +kernel
theorem dL_isWell_99 : decode cL_isWell 99 = .ok (.iconst 1, 1) := by decide +kernel
theorem dL_isWell_100 : decode cL_isWell 100 = .ok (.goto 4, 3) := by decide +kernel
theorem dL_isWell_103 : decode cL_isWell 103 = .ok (.iconst 0, 1) := by decide +kernel
theorem dL_isWell_104 : decode cL_isWell 104 = .ok (.istore 6, 2) := by decide +kernel
theorem dL_isWell_106 : decode cL_isWell 106 = .ok (.iconst 0, 1) := by decide +kernel
theorem dL_isWell_107 : decode cL_isWell 107 = .ok (.istore 7, 2) := by decide +kernel
theorem dL_isWell_109 : decode cL_isWell 109 = .ok (.iload 7, 2) := by decide +kernel
theorem dL_isWell_111 : decode cL_isWell 111 = .ok (.iload_n 1, 1) := by decide +kernel
theorem dL_isWell_112 : decode cL_isWell 112 = .ok (.if_icmp .ge 124, 3) := by decide +kernel
theorem dL_isWell_115 : decode cL_isWell 115 = .ok (.iload 6, 2) := by decide +kernel
theorem dL_isWell_117 : decode cL_isWell 117 = .ok (.ifCond .eq 119, 3) := by decide +kernel
theorem dL_isWell_120 : decode cL_isWell 120 = .ok (.aload_n 0, 1) := by decide +kernel
theorem dL_isWell_121 : decode cL_isWell 121 = .ok (.iload 7, 2) := by decide +kernel
theorem dL_isWell_123 : decode cL_isWell 123 = .ok (.iconst 2, 1) := by decide +kernel
theorem dL_isWell_124 : decode cL_isWell 124 = .ok (.invokevirtual 28, 3) := by decide +kernel
theorem dL_isWell_127 : decode cL_isWell 127 = .ok (.istore 8, 2) := by decide +kernel
theorem dL_isWell_129 : decode cL_isWell 129 = .ok (.aload 5, 2) := by decide +kernel
theorem dL_isWell_131 : decode cL_isWell 131 = .ok (.iload 8, 2) := by decide +kernel
theorem dL_isWell_133 : decode cL_isWell 133 = .ok (.dup2, 1) := by decide +kernel
theorem dL_isWell_134 : decode cL_isWell 134 = .ok (.iaload, 1) := by decide +kernel
theorem dL_isWell_135 : decode cL_isWell 135 = .ok (.iconst 1, 1) := by decide +kernel
theorem dL_isWell_136 : decode cL_isWell 136 = .ok (.iadd, 1) := by decide +kernel
theorem dL_isWell_137 : decode cL_isWell 137 = .ok (.iastore, 1) := by decide +kernel
theorem dL_isWell_138 : decode cL_isWell 138 = .ok (.iload_n 2, 1) := by decide +kernel
theorem dL_isWell_139 : decode cL_isWell 139 = .ok (.iload 7, 2) := by decide +kernel
theorem dL_isWell_141 : decode cL_isWell 141 = .ok (.aload_n 0, 1) := by decide +kernel
theorem dL_isWell_142 : decode cL_isWell 142 = .ok (.bipush 13, 2) := by decide +kernel
theorem dL_isWell_144 : decode cL_isWell 144 = .ok (.invokevirtual 9, 3) := by decide +kernel
theorem dL_isWell_147 : decode cL_isWell 147 = .ok (.if_icmp .ge 27, 3) := by decide +kernel
theorem dL_isWell_150 : decode cL_isWell 150 = .ok (.iload 8, 2) := by decide +kernel
theorem dL_isWell_152 : decode cL_isWell 152 = .ok (.iconst 1, 1) := by decide +kernel
theorem dL_isWell_153 : decode cL_isWell 153 = .ok (.if_icmp .ne 7, 3) := by decide +kernel
theorem dL_isWell_156 : decode cL_isWell 156 = .ok (.iconst 1, 1) := by decide +kernel
theorem dL_isWell_157 : decode cL_isWell 157 = .ok (.goto 18, 3) := by decide +kernel
theorem dL_isWell_160 : decode cL_isWell 160 = .ok (.iload 8, 2) := by decide +kernel
theorem dL_isWell_162 : decode cL_isWell 162 = .ok (.iconst 2, 1) := by decide +kernel
theorem dL_isWell_163 : decode cL_isWell 163 = .ok (.if_icmp .ne 7, 3) := by decide +kernel
theorem dL_isWell_166 : decode cL_isWell 166 = .ok (.iconst (-1), 1) := by decide +kernel
theorem dL_isWell_167 : decode cL_isWell 167 = .ok (.goto 8, 3) := by decide +kernel
theorem dL_isWell_170 : decode cL_isWell 170 = .ok (.iconst 0, 1) := by decide +kernel
theorem dL_isWell_171 : decode cL_isWell 171 = .ok (.goto 4, 3) := by decide +kernel
theorem dL_isWell_174 : decode cL_isWell 174 = .ok (.iconst 0, 1) := by decide +kernel
theorem dL_isWell_175 : decode cL_isWell 175 = .ok (.iadd, 1) := by decide +kernel
theorem dL_isWell_176 : decode cL_isWell 176 = .ok (.istore_n 2, 1) := by decide +kernel
theorem dL_isWell_177 : decode cL_isWell 177 = .ok (.iload_n 3, 1) := by decide +kernel
theorem dL_isWell_178 : decode cL_isWell 178 = .ok (.ifCond .lt 25, 3) := by decide +kernel
theorem dL_isWell_181 : decode cL_isWell 181 = .ok (.iload 4, 2) := by decide +kernel
theorem dL_isWell_183 : decode cL_isWell 183 = .ok (.ifCond .ge 20, 3) := by decide +kernel
theorem dL_isWell_186 : decode cL_isWell 186 = .ok (.iload 8, 2) := by decide +kernel
theorem dL_isWell_188 : decode cL_isWell 188 = .ok (.iconst 1, 1) := by decide +kernel
theorem dL_isWell_189 : decode cL_isWell 189 = .ok (.if_icmp .eq 9, 3) := by decide +kernel
theorem dL_isWell_192 : decode cL_isWell 192 = .ok (.iload 8, 2) := by decide +kernel
theorem dL_isWell_194 : decode cL_isWell 194 = .ok (.iconst 2, 1) := by decide +kernel
theorem dL_isWell_195 : decode cL_isWell 195 = .ok (.if_icmp .ne 8, 3) := by decide +kernel
theorem dL_isWell_198 : decode cL_isWell 198 = .ok (.iload 7, 2) := by decide +kernel
theorem dL_isWell_200 : decode cL_isWell 200 = .ok (.goto 5, 3) := by decide +kernel
theorem dL_isWell_203 : decode cL_isWell 203 = .ok (.iload 4, 2) := by decide +kernel
theorem dL_isWell_205 : decode cL_isWell 205 = .ok (.istore 4, 2) := by decide +kernel
theorem dL_isWell_207 : decode cL_isWell 207 = .ok (.iload_n 3, 1) := by decide +kernel
theorem dL_isWell_208 : decode cL_isWell 208 = .ok (.ifCond .ge 20, 3) := by decide +kernel
theorem dL_isWell_211 : decode cL_isWell 211 = .ok (.iload 8, 2) := by decide +kernel
theorem dL_isWell_213 : decode cL_isWell 213 = .ok (.iconst 1, 1) := by decide +kernel
theorem dL_isWell_214 : decode cL_isWell 214 = .ok (.if_icmp .eq 9, 3) := by decide +kernel
theorem dL_isWell_217 : decode cL_isWell 217 = .ok (.iload 8, 2) := by decide +kernel
theorem dL_isWell_219 : decode cL_isWell 219 = .ok (.iconst 2, 1) := by decide +kernel
theorem dL_isWell_220 : decode cL_isWell 220 = .ok (.if_icmp .ne 8, 3) := by decide +kernel
theorem dL_isWell_223 : decode cL_isWell 223 = .ok (.iload 7, 2) := by decide +kernel
theorem dL_isWell_225 : decode cL_isWell 225 = .ok (.goto 4, 3) := by decide +kernel
theorem dL_isWell_228 : decode cL_isWell 228 = .ok (.iload_n 3, 1) := by decide +kernel
theorem dL_isWell_229 : decode cL_isWell 229 = .ok (.istore_n 3, 1) := by decide +kernel
theorem dL_isWell_230 : decode cL_isWell 230 = .ok (.iinc 7 1, 3) := by decide +kernel
theorem dL_isWell_233 : decode cL_isWell 233 = .ok (.goto (-124), 3) := by decide +kernel
theorem dL_isWell_236 : decode cL_isWell 236 = .ok (.iconst 0, 1) := by decide +kernel
theorem dL_isWell_237 : decode cL_isWell 237 = .ok (.istore 7, 2) := by decide +kernel
theorem dL_isWell_239 : decode cL_isWell 239 = .ok (.iload 7, 2) := by decide +kernel
theorem dL_isWell_241 : decode cL_isWell 241 = .ok (.iconst 4, 1) := by decide +kernel
theorem dL_isWell_242 : decode cL_isWell 242 = .ok (.if_icmp .ge 79, 3) := by decide +kernel
theorem dL_isWell_245 : decode cL_isWell 245 = .ok (.iload 6, 2) := by decide +kernel
theorem dL_isWell_247 : decode cL_isWell 247 = .ok (.ifCond .eq 65, 3) := by decide +kernel
theorem dL_isWell_250 : decode cL_isWell 250 = .ok (.aload_n 0, 1) := by decide +kernel
theorem dL_isWell_251 : decode cL_isWell 251 = .ok (.iload 7, 2) := by decide +kernel
theorem dL_isWell_253 : decode cL_isWell 253 = .ok (.invokevirtual 65, 3) := by decide +kernel
theorem dL_isWell_256 : decode cL_isWell 256 = .ok (.aload 5, 2) := by decide +kernel
theorem dL_isWell_258 : decode cL_isWell 258 = .ok (.iload 7, 2) := by decide +kernel
theorem dL_isWell_260 : decode cL_isWell 260 = .ok (.iaload, 1) := by decide +kernel
theorem dL_isWell_261 : decode cL_isWell 261 = .ok (.if_icmp .ne 51, 3) := by decide +kernel
theorem dL_isWell_264 : decode cL_isWell 264 = .ok (.iload 7, 2) := by decide +kernel
theorem dL_isWell_266 : decode cL_isWell 266 = .ok (.ifCond .eq 42, 3) := by decide +kernel
theorem dL_isWell_269 : decode cL_isWell 269 = .ok (.aload_n 0, 1) := by decide +kernel
theorem dL_isWell_270 : decode cL_isWell 270 = .ok (.iconst 4, 1) := by decide +kernel
theorem dL_isWell_271 : decode cL_isWell 271 = .ok (.iload 7, 2) := by decide +kernel
theorem dL_isWell_273 : decode cL_isWell 273 = .ok (.iadd, 1) := by decide +kernel
theorem dL_isWell_274 : decode cL_isWell 274 = .ok (.invokevirtual 9, 3) := by decide +kernel
theorem dL_isWell_277 : decode cL_isWell 277 = .ok (.aload 5, 2) := by decide +kernel
theorem dL_isWell_279 : decode cL_isWell 279 = .ok (.iload 7, 2) := by decide +kernel
theorem dL_isWell_281 : decode cL_isWell 281 = .ok (.iaload, 1) := by decide +kernel
theorem dL_isWell_282 : decode cL_isWell 282 = .ok (.if_icmp .lt 30, 3) := by decide +kernel
theorem dL_isWell_285 : decode cL_isWell 285 = .ok (.iload_n 1, 1) := by decide +kernel
theorem dL_isWell_286 : decode cL_isWell 286 = .ok (.sipush 200, 3) := by decide +kernel
theorem dL_isWell_289 : decode cL_isWell 289 = .ok (.if_icmp .eq 19, 3) := by decide +kernel
theorem dL_isWell_292 : decode cL_isWell 292 = .ok (.aload_n 0, 1) := by decide +kernel
theorem dL_isWell_293 : decode cL_isWell 293 = .ok (.iconst 4, 1) := by decide +kernel
theorem dL_isWell_294 : decode cL_isWell 294 = .ok (.iload 7, 2) := by decide +kernel
theorem dL_isWell_296 : decode cL_isWell 296 = .ok (.iadd, 1) := by decide +kernel
theorem dL_isWell_297 : decode cL_isWell 297 = .ok (.invokevirtual 9, 3) := by decide +kernel
theorem dL_isWell_300 : decode cL_isWell 300 = .ok (.aload 5, 2) := by decide +kernel
theorem dL_isWell_302 : decode cL_isWell 302 = .ok (.iload 7, 2) := by decide +kernel
theorem dL_isWell_304 : decode cL_isWell 304 = .ok (.iaload, 1) := by decide +kernel
theorem dL_isWell_305 : decode cL_isWell 305 = .ok (.if_icmp .ne 7, 3) := by decide +kernel
theorem dL_isWell_308 : decode cL_isWell 308 = .ok (.iconst 1, 1) := by decide +kernel
theorem dL_isWell_309 : decode cL_isWell 309 = .ok (.goto 4, 3) := by decide +kernel
theorem dL_isWell_312 : decode cL_isWell 312 = .ok (.iconst 0, 1) := by decide +kernel
theorem dL_isWell_313 : decode cL_isWell 313 = .ok (.istore 6, 2) := by decide +kernel
theorem dL_isWell_315 : decode cL_isWell 315 = .ok (.iinc 7 1, 3) := by decide +kernel
theorem dL_isWell_318 : decode cL_isWell 318 = .ok (.goto (-79), 3) := by decide +kernel
theorem dL_isWell_321 : decode cL_isWell 321 = .ok (.iload 4, 2) := by decide +kernel
theorem dL_isWell_323 : decode cL_isWell 323 = .ok (.ifCond .lt 23, 3) := by decide +kernel
theorem dL_isWell_326 : decode cL_isWell 326 = .ok (.aload_n 0, 1) := by decide +kernel
theorem dL_isWell_327 : decode cL_isWell 327 = .ok (.iload_n 3, 1) := by decide +kernel
theorem dL_isWell_328 : decode cL_isWell 328 = .ok (.iconst 2, 1) := by decide +kernel
theorem dL_isWell_329 : decode cL_isWell 329 = .ok (.invokevirtual 28, 3) := by decide +kernel
theorem dL_isWell_332 : decode cL_isWell 332 = .ok (.aload_n 0, 1) := by decide +kernel
theorem dL_isWell_333 : decode cL_isWell 333 = .ok (.iload 4, 2) := by decide +kernel
theorem dL_isWell_335 : decode cL_isWell 335 = .ok (.iconst 2, 1) := by decide +kernel
theorem dL_isWell_336 : decode cL_isWell 336 = .ok (.invokevirtual 28, 3) := by decide +kernel
theorem dL_isWell_339 : decode cL_isWell 339 = .ok (.if_icmp .ne 7, 3) := by decide +kernel
theorem dL_isWell_342 : decode cL_isWell 342 = .ok (.iconst 1, 1) := by decide +kernel
theorem dL_isWell_343 : decode cL_isWell 343 = .ok (.goto 4, 3) := by decide +kernel
theorem dL_isWell_346 : decode cL_isWell 346 = .ok (.iconst 0, 1) := by decide +kernel
theorem dL_isWell_347 : decode cL_isWell 347 = .ok (.istore 7, 2) := by decide +kernel
theorem dL_isWell_349 : decode cL_isWell 349 = .ok (.iload 6, 2) := by decide +kernel
theorem dL_isWell_351 : decode cL_isWell 351 = .ok (.ifCond .eq 138, 3) := by decide +kernel
theorem dL_isWell_354 : decode cL_isWell 354 = .ok (.aload_n 0, 1) := by decide +kernel
theorem dL_isWell_355 : decode cL_isWell 355 = .ok (.iconst 0, 1) := by decide +kernel
theorem dL_isWell_356 : decode cL_isWell 356 = .ok (.invokevirtual 50, 3) := by decide +kernel
theorem dL_isWell_359 : decode cL_isWell 359 = .ok (.iload_n 2, 1) := by decide +kernel
theorem dL_isWell_360 : decode cL_isWell 360 = .ok (.sipush 1000, 3) := by decide +kernel
theorem dL_isWell_363 : decode cL_isWell 363 = .ok (.iadd, 1) := by decide +kernel
theorem dL_isWell_364 : decode cL_isWell 364 = .ok (.if_icmp .ne 125, 3) := by decide +kernel
theorem dL_isWell_367 : decode cL_isWell 367 = .ok (.iload_n 3, 1) := by decide +kernel
theorem dL_isWell_368 : decode cL_isWell 368 = .ok (.ifCond .lt 17, 3) := by decide +kernel
theorem dL_isWell_371 : decode cL_isWell 371 = .ok (.aload_n 0, 1) := by decide +kernel
theorem dL_isWell_372 : decode cL_isWell 372 = .ok (.iload_n 3, 1) := by decide +kernel
theorem dL_isWell_373 : decode cL_isWell 373 = .ok (.iconst 2, 1) := by decide +kernel
theorem dL_isWell_374 : decode cL_isWell 374 = .ok (.invokevirtual 28, 3) := by decide +kernel
theorem dL_isWell_377 : decode cL_isWell 377 = .ok (.aload_n 0, 1) := by decide +kernel
theorem dL_isWell_378 : decode cL_isWell 378 = .ok (.iconst 4, 1) := by decide +kernel
theorem dL_isWell_379 : decode cL_isWell 379 = .ok (.invokevirtual 9, 3) := by decide +kernel
theorem dL_isWell_382 : decode cL_isWell 382 = .ok (.if_icmp .ne 107, 3) := by decide +kernel
theorem dL_isWell_385 : decode cL_isWell 385 = .ok (.iload 4, 2) := by decide +kernel
theorem dL_isWell_387 : decode cL_isWell 387 = .ok (.ifCond .lt 25, 3) := by decide +kernel
theorem dL_isWell_390 : decode cL_isWell 390 = .ok (.aload_n 0, 1) := by decide +kernel
theorem dL_isWell_391 : decode cL_isWell 391 = .ok (.iconst 1, 1) := by decide +kernel
theorem dL_isWell_392 : decode cL_isWell 392 = .ok (.invokevirtual 50, 3) := by decide +kernel
theorem dL_isWell_395 : decode cL_isWell 395 = .ok (.iload 7, 2) := by decide +kernel
theorem dL_isWell_397 : decode cL_isWell 397 = .ok (.ifCond .eq 10, 3) := by decide +kernel
theorem dL_isWell_400 : decode cL_isWell 400 = .ok (.iload 4, 2) := by decide +kernel
theorem dL_isWell_402 : decode cL_isWell 402 = .ok (.iload_n 3, 1) := by decide +kernel
theorem dL_isWell_403 : decode cL_isWell 403 = .ok (.isub, 1) := by decide +kernel
theorem dL_isWell_404 : decode cL_isWell 404 = .ok (.goto 5, 3) := by decide +kernel
theorem dL_isWell_407 : decode cL_isWell 407 = .ok (.bipush (-6), 2) := by decide +kernel
theorem dL_isWell_409 : decode cL_isWell 409 = .ok (.if_icmp .ne 80, 3) := by decide +kernel
theorem dL_isWell_412 : decode cL_isWell 412 = .ok (.aload_n 0, 1) := by decide +kernel
theorem dL_isWell_413 : decode cL_isWell 413 = .ok (.invokevirtual 56, 3) := by decide +kernel
theorem dL_isWell_416 : decode cL_isWell 416 = .ok (.lconst 0, 1) := by decide +kernel
theorem dL_isWell_417 : decode cL_isWell 417 = .ok (.lcmp, 1) := by decide +kernel
theorem dL_isWell_418 : decode cL_isWell 418 = .ok (.ifCond .ne 7, 3) := by decide +kernel
theorem dL_isWell_421 : decode cL_isWell 421 = .ok (.iconst 1, 1) := by decide +kernel
theorem dL_isWell_422 : decode cL_isWell 422 = .ok (.goto 4, 3) := by decide +kernel
theorem dL_isWell_425 : decode cL_isWell 425 = .ok (.iconst 0, 1) := by decide +kernel
theorem dL_isWell_426 : decode cL_isWell 426 = .ok (.aload_n 0, 1) := by decide +kernel
theorem dL_isWell_427 : decode cL_isWell 427 = .ok (.iconst 1, 1) := by decide +kernel
theorem dL_isWell_428 : decode cL_isWell 428 = .ok (.invokevirtual 50, 3) := by decide +kernel
theorem dL_isWell_431 : decode cL_isWell 431 = .ok (.bipush (-6), 2) := by decide +kernel
theorem dL_isWell_433 : decode cL_isWell 433 = .ok (.if_icmp .ne 7, 3) := by decide +kernel
theorem dL_isWell_436 : decode cL_isWell 436 = .ok (.iconst 1, 1) := by decide +kernel
theorem dL_isWell_437 : decode cL_isWell 437 = .ok (.goto 4, 3) := by decide +kernel
theorem dL_isWell_440 : decode cL_isWell 440 = .ok (.iconst 0, 1) := by decide +kernel
theorem dL_isWell_441 : decode cL_isWell 441 = .ok (.if_icmp .ne 48, 3) := by decide +kernel
theorem dL_isWell_444 : decode cL_isWell 444 = .ok (.aload_n 0, 1) := by decide +kernel
theorem dL_isWell_445 : decode cL_isWell 445 = .ok (.invokevirtual 56, 3) := by decide +kernel
theorem dL_isWell_448 : decode cL_isWell 448 = .ok (.lconst 0, 1) := by decide +kernel
theorem dL_isWell_449 : decode cL_isWell 449 = .ok (.lcmp, 1) := by decide +kernel
theorem dL_isWell_450 : decode cL_isWell 450 = .ok (.ifCond .lt 7, 3) := by decide +kernel
theorem dL_isWell_453 : decode cL_isWell 453 = .ok (.iconst 1, 1) := by decide +kernel
theorem dL_isWell_454 : decode cL_isWell 454 = .ok (.goto 4, 3) := by decide +kernel
theorem dL_isWell_457 : decode cL_isWell 457 = .ok (.iconst 0, 1) := by decide +kernel
theorem dL_isWell_458 : decode cL_isWell 458 = .ok (.aload_n 0, 1) := by decide +kernel
theorem dL_isWell_459 : decode cL_isWell 459 = .ok (.iconst 1, 1) := by decide +kernel
theorem dL_isWell_460 : decode cL_isWell 460 = .ok (.invokevirtual 50, 3) := by decide +kernel
theorem dL_isWell_463 : decode cL_isWell 463 = .ok (.bipush (-6), 2) := by decide +kernel
theorem dL_isWell_465 : decode cL_isWell 465 = .ok (.if_icmp .eq 12, 3) := by decide +kernel
theorem dL_isWell_468 : decode cL_isWell 468 = .ok (.aload_n 0, 1) := by decide +kernel
theorem dL_isWell_469 : decode cL_isWell 469 = .ok (.iconst 4, 1) := by decide +kernel
theorem dL_isWell_470 : decode cL_isWell 470 = .ok (.invokevirtual 9, 3) := by decide +kernel
theorem dL_isWell_473 : decode cL_isWell 473 = .ok (.iconst 1, 1) := by decide +kernel
theorem dL_isWell_474 : decode cL_isWell 474 = .ok (.if_icmp .ne 7, 3) := by decide +kernel
theorem dL_isWell_477 : decode cL_isWell 477 = .ok (.iconst 1, 1) := by decide +kernel
theorem dL_isWell_478 : decode cL_isWell 478 = .ok (.goto 4, 3) := by decide +kernel
theorem dL_isWell_481 : decode cL_isWell 481 = .ok (.iconst 0, 1) := by decide +kernel
theorem dL_isWell_482 : decode cL_isWell 482 = .ok (.if_icmp .ne 7, 3) := by decide +kernel
theorem dL_isWell_485 : decode cL_isWell 485 = .ok (.iconst 1, 1) := by decide +kernel
theorem dL_isWell_486 : decode cL_isWell 486 = .ok (.goto 4, 3) := by decide +kernel
theorem dL_isWell_489 : decode cL_isWell 489 = .ok (.iconst 0, 1) := by decide +kernel
theorem dL_isWell_490 : decode cL_isWell 490 = .ok (.istore 6, 2) := by decide +kernel
theorem dL_isWell_492 : decode cL_isWell 492 = .ok (.iload 6, 2) := by decide +kernel
theorem dL_isWell_494 : decode cL_isWell 494 = .ok (.ifCond .eq 86, 3) := by decide +kernel
theorem dL_isWell_497 : decode cL_isWell 497 = .ok (.aload_n 0, 1) := by decide +kernel
theorem dL_isWell_498 : decode cL_isWell 498 = .ok (.aload_n 0, 1) := by decide +kernel
theorem dL_isWell_499 : decode cL_isWell 499 = .ok (.iconst 3, 1) := by decide +kernel
theorem dL_isWell_500 : decode cL_isWell 500 = .ok (.invokevirtual 9, 3) := by decide +kernel
theorem dL_isWell_503 : decode cL_isWell 503 = .ok (.invokevirtual 62, 3) := by decide +kernel
theorem dL_isWell_506 : decode cL_isWell 506 = .ok (.ifCond .ne 74, 3) := by decide +kernel
theorem dL_isWell_509 : decode cL_isWell 509 = .ok (.aload_n 0, 1) := by decide +kernel
theorem dL_isWell_510 : decode cL_isWell 510 = .ok (.bipush 12, 2) := by decide +kernel
theorem dL_isWell_512 : decode cL_isWell 512 = .ok (.invokevirtual 9, 3) := by decide +kernel
theorem dL_isWell_515 : decode cL_isWell 515 = .ok (.iconst 1, 1) := by decide +kernel
theorem dL_isWell_516 : decode cL_isWell 516 = .ok (.if_icmp .gt 45, 3) := by decide +kernel
theorem dL_isWell_519 : decode cL_isWell 519 = .ok (.aload_n 0, 1) := by decide +kernel
theorem dL_isWell_520 : decode cL_isWell 520 = .ok (.aload_n 0, 1) := by decide +kernel
theorem dL_isWell_521 : decode cL_isWell 521 = .ok (.iconst 3, 1) := by decide +kernel
theorem dL_isWell_522 : decode cL_isWell 522 = .ok (.invokevirtual 9, 3) := by decide +kernel
theorem dL_isWell_525 : decode cL_isWell 525 = .ok (.invokestatic 25, 3) := by decide +kernel
theorem dL_isWell_528 : decode cL_isWell 528 = .ok (.aload_n 0, 1) := by decide +kernel
theorem dL_isWell_529 : decode cL_isWell 529 = .ok (.iconst 3, 1) := by decide +kernel
theorem dL_isWell_530 : decode cL_isWell 530 = .ok (.invokevirtual 9, 3) := by decide +kernel
theorem dL_isWell_533 : decode cL_isWell 533 = .ok (.if_icmp .ne 13, 3) := by decide +kernel
theorem dL_isWell_536 : decode cL_isWell 536 = .ok (.iconst 3, 1) := by decide +kernel
theorem dL_isWell_537 : decode cL_isWell 537 = .ok (.aload_n 0, 1) := by decide +kernel
theorem dL_isWell_538 : decode cL_isWell 538 = .ok (.iconst 3, 1) := by decide +kernel
theorem dL_isWell_539 : decode cL_isWell 539 = .ok (.invokevirtual 9, 3) := by decide +kernel
theorem dL_isWell_542 : decode cL_isWell 542 = .ok (.isub, 1) := by decide +kernel
theorem dL_isWell_543 : decode cL_isWell 543 = .ok (.goto 11, 3) := by decide +kernel
theorem dL_isWell_546 : decode cL_isWell 546 = .ok (.aload_n 0, 1) := by decide +kernel
theorem dL_isWell_547 : decode cL_isWell 547 = .ok (.iconst 3, 1) := by decide +kernel
theorem dL_isWell_548 : decode cL_isWell 548 = .ok (.invokevirtual 9, 3) := by decide +kernel
theorem dL_isWell_551 : decode cL_isWell 551 = .ok (.invokestatic 25, 3) := by decide +kernel
theorem dL_isWell_554 : decode cL_isWell 554 = .ok (.invokevirtual 62, 3) := by decide +kernel
theorem dL_isWell_557 : decode cL_isWell 557 = .ok (.iconst 3, 1) := by decide +kernel
theorem dL_isWell_558 : decode cL_isWell 558 = .ok (.if_icmp .ne 22, 3) := by decide +kernel
theorem dL_isWell_561 : decode cL_isWell 561 = .ok (.aload_n 0, 1) := by decide +kernel
theorem dL_isWell_562 : decode cL_isWell 562 = .ok (.aload_n 0, 1) := by decide +kernel
theorem dL_isWell_563 : decode cL_isWell 563 = .ok (.bipush 12, 2) := by decide +kernel
theorem dL_isWell_565 : decode cL_isWell 565 = .ok (.invokevirtual 9, 3) := by decide +kernel
theorem dL_isWell_568 : decode cL_isWell 568 = .ok (.iconst 2, 1) := by decide +kernel
theorem dL_isWell_569 : decode cL_isWell 569 = .ok (.invokevirtual 68, 3) := by decide +kernel
theorem dL_isWell_572 : decode cL_isWell 572 = .ok (.iload_n 1, 1) := by decide +kernel
theorem dL_isWell_573 : decode cL_isWell 573 = .ok (.if_icmp .gt 7, 3) := by decide +kernel
theorem dL_isWell_576 : decode cL_isWell 576 = .ok (.iconst 1, 1) := by decide +kernel
theorem dL_isWell_577 : decode cL_isWell 577 = .ok (.goto 4, 3) := by decide +kernel
theorem dL_isWell_580 : decode cL_isWell 580 = .ok (.iconst 0, 1) := by decide +kernel
theorem dL_isWell_581 : decode cL_isWell 581 = .ok (.ireturn, 1) := by decide +kernel
set_option maxRecDepth 20000 in
theorem ggL_law_X5_init : GoodIn wsL_law wsX5_init := goodIn_r _ [5, 6, 7, 8, 9, 10, 11, 12, 13, 14, 15, 16, 17, 18, 19, 20, 21, 22, 23, 24, 25, 26, 27, 28, 29, 30, 31, 32, 33, 34, 35, 36, 37, 38, 39, 40, 41, 42, 43, 44, 45, 46, 47, 48, 49, 50, 51, 52, 53, 54, 55, 56, 57, 58, 310, 311, 312, 313, 314, 315, 316, 317, 318, 319, 320, 321, 322, 323, 324, 325, 305, 306, 307, 308, 309, 326, 327, 328, 329, 330, 331, 332, 333, 334, 335, 336] (by decide +kernel) (by decide +kernel)
set_option maxRecDepth 20000 in
theorem gL_law_X5_init : GoodIn wsL_law (wsX5_init) := ggL_law_X5_init
set_option maxRecDepth 20000 in
theorem ggL_law_L_cell : GoodIn wsL_law wsL_cell := goodIn_r _ [62, 63] (by decide +kernel) (by decide +kernel)
set_option maxRecDepth 20000 in
theorem gL_law_L_cell : GoodIn wsL_law (va_wsS RL 75 yL_cell wsL_cell) := goodIn_app (goodIn_of _ (by decide +kernel)) ggL_law_L_cell
set_option maxRecDepth 20000 in
theorem mm_isStep_wsL_isStep_r1 : ∀ w ∈ wsL_isStep_r1, w ∈ wsL_law := zm_places _ [67, 68, 69, 2, 70, 12, 71, 72, 73, 74, 75, 76, 77, 78, 79, 25, 80, 17, 81, 82, 83, 84, 11, 85] (by decide +kernel)
set_option maxRecDepth 20000 in
theorem mm_isStep_wsL_isStep_r2 : ∀ w ∈ wsL_isStep_r2, w ∈ wsL_law := zm_places _ [86, 87, 88, 89, 90, 91, 92, 93, 94, 31, 95, 96, 61, 97, 98, 99, 100, 101, 102, 103, 104, 105, 16, 106] (by decide +kernel)
set_option maxRecDepth 20000 in
theorem mm_isStep_wsL_isStep_r3 : ∀ w ∈ wsL_isStep_r3, w ∈ wsL_law := zm_places _ [107, 108, 109, 110, 111, 42, 112, 113, 114, 33, 34, 35, 36, 32, 115, 116, 117, 118, 119, 120, 121, 122, 123, 124] (by decide +kernel)
set_option maxRecDepth 20000 in
theorem mm_isStep_wsL_isStep_r4 : ∀ w ∈ wsL_isStep_r4, w ∈ wsL_law := zm_places _ [125, 126, 127, 128, 129, 130, 131, 132, 133, 134, 135, 136, 137, 138, 139, 140, 141, 142, 143, 144, 145, 146, 147, 148] (by decide +kernel)
set_option maxRecDepth 20000 in
theorem mm_isStep_wsL_isStep_r5 : ∀ w ∈ wsL_isStep_r5, w ∈ wsL_law := zm_places _ [149, 150, 151, 152, 153, 154, 155, 156, 157, 158, 159, 160, 161, 162, 163, 164, 165, 166, 167, 168, 169, 170, 171, 172] (by decide +kernel)
set_option maxRecDepth 20000 in
theorem mm_isStep_wsL_isStep_r6 : ∀ w ∈ wsL_isStep_r6, w ∈ wsL_law := zm_places _ [173, 174, 175, 176, 177, 178, 179, 180, 181, 182, 183, 184, 185, 186, 187, 188, 189, 190, 191, 192, 193, 194, 195, 196] (by decide +kernel)
set_option maxRecDepth 20000 in
theorem mm_isStep_wsL_isStep_r7 : ∀ w ∈ wsL_isStep_r7, w ∈ wsL_law := zm_places _ [197, 198, 199, 200, 201, 202, 203, 204, 205, 206, 207, 208, 209, 210, 211, 212, 213, 214, 215, 216, 217, 218, 219, 220] (by decide +kernel)
set_option maxRecDepth 20000 in
theorem mm_isStep_wsL_isStep_r8 : ∀ w ∈ wsL_isStep_r8, w ∈ wsL_law := zm_places _ [221, 222, 223, 224, 225, 226, 227, 228, 229, 230, 231, 232] (by decide +kernel)
set_option maxRecDepth 20000 in
theorem mm_isStep_wsX50 : ∀ w ∈ wsX50, w ∈ wsL_law := zm_places _ [305, 306, 307, 308, 309] (by decide +kernel)
set_option maxRecDepth 20000 in
theorem mm_isStep_wsX10 : ∀ w ∈ wsX10, w ∈ wsL_law := zm_places _ [310, 311, 312, 313, 314, 315, 316, 317, 318, 319, 320, 321, 322, 323, 324, 325] (by decide +kernel)
set_option maxRecDepth 20000 in
theorem mm_isStep_wsX30 : ∀ w ∈ wsX30, w ∈ wsL_law := zm_places _ [331, 332, 333, 334, 335, 336] (by decide +kernel)
set_option maxRecDepth 20000 in
theorem mm_isStep_wsX20 : ∀ w ∈ wsX20, w ∈ wsL_law := zm_places _ [326, 327, 328] (by decide +kernel)
set_option maxRecDepth 20000 in
theorem ggL_law_L_isStep : GoodIn wsL_law wsL_isStep := goodIn_sub (List.forall_mem_cons.mpr ⟨List.mem_of_getElem? (i := 66) rfl, (List.forall_mem_append.mpr ⟨(List.forall_mem_append.mpr ⟨(List.forall_mem_append.mpr ⟨(List.forall_mem_append.mpr ⟨(List.forall_mem_append.mpr ⟨mm_isStep_wsL_isStep_r1, (List.forall_mem_append.mpr ⟨mm_isStep_wsL_isStep_r2, (List.forall_mem_append.mpr ⟨mm_isStep_wsL_isStep_r3, (List.forall_mem_append.mpr ⟨mm_isStep_wsL_isStep_r4, (List.forall_mem_append.mpr ⟨mm_isStep_wsL_isStep_r5, (List.forall_mem_append.mpr ⟨mm_isStep_wsL_isStep_r6, (List.forall_mem_append.mpr ⟨mm_isStep_wsL_isStep_r7, mm_isStep_wsL_isStep_r8⟩)⟩)⟩)⟩)⟩)⟩)⟩), mm_isStep_wsX50⟩), mm_isStep_wsX10⟩), mm_isStep_wsX30⟩), mm_isStep_wsX20⟩)⟩) (by decide +kernel)
set_option maxRecDepth 20000 in
theorem gL_law_L_isStep : GoodIn wsL_law (va_wsS RL 79 yL_isStep wsL_isStep) := goodIn_app (goodIn_of _ (by decide +kernel)) ggL_law_L_isStep
set_option maxRecDepth 20000 in
theorem mm_isWell_wsL_isWell_r1 : ∀ w ∈ wsL_isWell_r1, w ∈ wsL_law := zm_places _ [30, 67, 68, 69, 2, 70, 12, 71, 72, 73, 74, 75, 76, 77, 78, 79, 25, 80, 17, 81, 82, 83, 84, 11] (by decide +kernel)
set_option maxRecDepth 20000 in
theorem mm_isWell_wsL_isWell_r2 : ∀ w ∈ wsL_isWell_r2, w ∈ wsL_law := zm_places _ [85, 86, 87, 88, 89, 90, 91, 92, 93, 94, 31, 169, 170, 171, 172, 173, 174, 175, 176, 177, 178, 179, 180, 181] (by decide +kernel)
set_option maxRecDepth 20000 in
theorem mm_isWell_wsL_isWell_r3 : ∀ w ∈ wsL_isWell_r3, w ∈ wsL_law := zm_places _ [182, 183, 184, 185, 32, 186, 187, 188, 189, 190, 191, 192, 193, 194, 236, 237, 238, 239, 240, 241, 242, 243, 244, 245] (by decide +kernel)
set_option maxRecDepth 20000 in
theorem mm_isWell_wsL_isWell_r4 : ∀ w ∈ wsL_isWell_r4, w ∈ wsL_law := zm_places _ [246, 247, 248, 145, 249, 250, 251, 252, 253, 254, 255, 256, 257, 258, 259, 260, 261, 262, 263, 264, 265, 266, 138, 139] (by decide +kernel)
set_option maxRecDepth 20000 in
theorem mm_isWell_wsL_isWell_r5 : ∀ w ∈ wsL_isWell_r5, w ∈ wsL_law := zm_places _ [140, 117, 141, 142, 143, 144, 118, 120, 146, 147, 148, 166, 167, 61, 168, 267, 268, 269, 270, 271, 272, 13, 273, 274] (by decide +kernel)
set_option maxRecDepth 20000 in
theorem mm_isWell_wsL_isWell_r6 : ∀ w ∈ wsL_isWell_r6, w ∈ wsL_law := zm_places _ [275, 276, 33, 34, 35, 36, 277, 278, 279, 280, 115, 116, 119, 121, 122, 123, 124, 125, 126, 127, 281, 282, 133, 134] (by decide +kernel)
set_option maxRecDepth 20000 in
theorem mm_isWell_wsL_isWell_r7 : ∀ w ∈ wsL_isWell_r7, w ∈ wsL_law := zm_places _ [135, 136, 137, 149, 150, 151, 152, 153, 154, 155, 156, 157, 158, 159] (by decide +kernel)
set_option maxRecDepth 20000 in
theorem mm_isWell_wsX50 : ∀ w ∈ wsX50, w ∈ wsL_law := zm_places _ [305, 306, 307, 308, 309] (by decide +kernel)
set_option maxRecDepth 20000 in
theorem mm_isWell_wsX10 : ∀ w ∈ wsX10, w ∈ wsL_law := zm_places _ [310, 311, 312, 313, 314, 315, 316, 317, 318, 319, 320, 321, 322, 323, 324, 325] (by decide +kernel)
set_option maxRecDepth 20000 in
theorem mm_isWell_wsX30 : ∀ w ∈ wsX30, w ∈ wsL_law := zm_places _ [331, 332, 333, 334, 335, 336] (by decide +kernel)
set_option maxRecDepth 20000 in
theorem mm_isWell_wsX20 : ∀ w ∈ wsX20, w ∈ wsL_law := zm_places _ [326, 327, 328] (by decide +kernel)
set_option maxRecDepth 20000 in
theorem ggL_law_L_isWell : GoodIn wsL_law wsL_isWell := goodIn_sub (List.forall_mem_cons.mpr ⟨List.mem_of_getElem? (i := 235) rfl, (List.forall_mem_append.mpr ⟨(List.forall_mem_append.mpr ⟨(List.forall_mem_append.mpr ⟨(List.forall_mem_append.mpr ⟨(List.forall_mem_append.mpr ⟨mm_isWell_wsL_isWell_r1, (List.forall_mem_append.mpr ⟨mm_isWell_wsL_isWell_r2, (List.forall_mem_append.mpr ⟨mm_isWell_wsL_isWell_r3, (List.forall_mem_append.mpr ⟨mm_isWell_wsL_isWell_r4, (List.forall_mem_append.mpr ⟨mm_isWell_wsL_isWell_r5, (List.forall_mem_append.mpr ⟨mm_isWell_wsL_isWell_r6, mm_isWell_wsL_isWell_r7⟩)⟩)⟩)⟩)⟩)⟩), mm_isWell_wsX50⟩), mm_isWell_wsX10⟩), mm_isWell_wsX30⟩), mm_isWell_wsX20⟩)⟩) (by decide +kernel)
set_option maxRecDepth 20000 in
theorem gL_law_L_isWell : GoodIn wsL_law (va_wsS RL 83 yL_isWell wsL_isWell) := goodIn_app (goodIn_of _ (by decide +kernel)) ggL_law_L_isWell
set_option maxRecDepth 20000 in
theorem mm_areAlike_wsL_areAlike_r1 : ∀ w ∈ wsL_areAlike_r1, w ∈ wsL_law := zm_places _ [286, 67, 68, 69, 2, 70, 12, 71, 72, 73, 74, 75, 76, 77, 78, 79, 25, 80, 17, 81, 82, 83, 84, 11] (by decide +kernel)
set_option maxRecDepth 20000 in
theorem mm_areAlike_wsL_areAlike_r2 : ∀ w ∈ wsL_areAlike_r2, w ∈ wsL_law := zm_places _ [85, 86, 87, 88, 89, 90, 91, 92, 93, 94, 31, 95, 96, 61, 97, 98, 287, 288, 289, 166, 167, 168, 290, 291] (by decide +kernel)
set_option maxRecDepth 20000 in
theorem mm_areAlike_wsL_areAlike_r3 : ∀ w ∈ wsL_areAlike_r3, w ∈ wsL_law := zm_places _ [292, 240, 241, 242, 243, 244, 245, 246, 247, 248, 145, 177, 249, 192, 193, 194, 182, 183, 184, 185, 32, 186, 174, 175] (by decide +kernel)
set_option maxRecDepth 20000 in
theorem mm_areAlike_wsL_areAlike_r4 : ∀ w ∈ wsL_areAlike_r4, w ∈ wsL_law := zm_places _ [176, 293, 294, 295, 296, 297, 298, 257, 299, 300, 250, 251, 252, 253, 254, 255, 256, 258, 259, 260, 261, 169, 170, 171] (by decide +kernel)
set_option maxRecDepth 20000 in
theorem mm_areAlike_wsL_areAlike_r5 : ∀ w ∈ wsL_areAlike_r5, w ∈ wsL_law := zm_places _ [172, 173, 178, 179, 180, 181, 187, 188, 189, 190, 191, 262, 263, 264, 265, 266, 138, 139, 140, 117, 141, 142, 143, 144] (by decide +kernel)
set_option maxRecDepth 20000 in
theorem mm_areAlike_wsL_areAlike_r6 : ∀ w ∈ wsL_areAlike_r6, w ∈ wsL_law := zm_places _ [118, 120, 146, 147, 148, 236, 237, 238, 239, 267, 268, 269, 270, 271, 272, 13, 273, 274, 275, 276, 33, 34, 35, 36] (by decide +kernel)
set_option maxRecDepth 20000 in
theorem mm_areAlike_wsL_areAlike_r7 : ∀ w ∈ wsL_areAlike_r7, w ∈ wsL_law := zm_places _ [277, 278, 279, 280, 115, 116, 119, 121, 122, 123, 124, 125, 126, 127, 281, 282, 133, 134, 135, 136, 137, 149, 150, 151] (by decide +kernel)
set_option maxRecDepth 20000 in
theorem mm_areAlike_wsL_areAlike_r8 : ∀ w ∈ wsL_areAlike_r8, w ∈ wsL_law := zm_places _ [152, 153, 154, 155, 156, 157, 158, 159, 301, 302, 303, 304] (by decide +kernel)
set_option maxRecDepth 20000 in
theorem mm_areAlike_wsX50 : ∀ w ∈ wsX50, w ∈ wsL_law := zm_places _ [305, 306, 307, 308, 309] (by decide +kernel)
set_option maxRecDepth 20000 in
theorem mm_areAlike_wsX10 : ∀ w ∈ wsX10, w ∈ wsL_law := zm_places _ [310, 311, 312, 313, 314, 315, 316, 317, 318, 319, 320, 321, 322, 323, 324, 325] (by decide +kernel)
set_option maxRecDepth 20000 in
theorem mm_areAlike_wsX30 : ∀ w ∈ wsX30, w ∈ wsL_law := zm_places _ [331, 332, 333, 334, 335, 336] (by decide +kernel)
set_option maxRecDepth 20000 in
theorem mm_areAlike_wsX20 : ∀ w ∈ wsX20, w ∈ wsL_law := zm_places _ [326, 327, 328] (by decide +kernel)
set_option maxRecDepth 20000 in
theorem ggL_law_L_areAlike : GoodIn wsL_law wsL_areAlike := goodIn_sub (List.forall_mem_cons.mpr ⟨List.mem_of_getElem? (i := 285) rfl, (List.forall_mem_append.mpr ⟨(List.forall_mem_append.mpr ⟨(List.forall_mem_append.mpr ⟨(List.forall_mem_append.mpr ⟨(List.forall_mem_append.mpr ⟨mm_areAlike_wsL_areAlike_r1, (List.forall_mem_append.mpr ⟨mm_areAlike_wsL_areAlike_r2, (List.forall_mem_append.mpr ⟨mm_areAlike_wsL_areAlike_r3, (List.forall_mem_append.mpr ⟨mm_areAlike_wsL_areAlike_r4, (List.forall_mem_append.mpr ⟨mm_areAlike_wsL_areAlike_r5, (List.forall_mem_append.mpr ⟨mm_areAlike_wsL_areAlike_r6, (List.forall_mem_append.mpr ⟨mm_areAlike_wsL_areAlike_r7, mm_areAlike_wsL_areAlike_r8⟩)⟩)⟩)⟩)⟩)⟩)⟩), mm_areAlike_wsX50⟩), mm_areAlike_wsX10⟩), mm_areAlike_wsX30⟩), mm_areAlike_wsX20⟩)⟩) (by decide +kernel)
set_option maxRecDepth 20000 in
theorem gL_law_L_areAlike : GoodIn wsL_law (va_wsS RL 87 yL_areAlike wsL_areAlike) := goodIn_app (goodIn_of _ (by decide +kernel)) ggL_law_L_areAlike
theorem dL_law_0 : decode cL_law 0 = .ok (.new 10, 3) := by decide +kernel
theorem dL_law_3 : decode cL_law 3 = .ok (.dup, 1) := by decide +kernel
theorem dL_law_4 : decode cL_law 4 = .ok (.invokespecial 74, 3) := by decide +kernel
theorem dL_law_7 : decode cL_law 7 = .ok (.astore_n 1, 1) := by decide +kernel
theorem dL_law_8 : decode cL_law 8 = .ok (.new 10, 3) := by decide +kernel
theorem dL_law_11 : decode cL_law 11 = .ok (.dup, 1) := by decide +kernel
theorem dL_law_12 : decode cL_law 12 = .ok (.invokespecial 74, 3) := by decide +kernel
theorem dL_law_15 : decode cL_law 15 = .ok (.astore_n 2, 1) := by decide +kernel
theorem dL_law_16 : decode cL_law 16 = .ok (.iconst 1, 1) := by decide +kernel
theorem dL_law_17 : decode cL_law 17 = .ok (.istore_n 3, 1) := by decide +kernel
theorem dL_law_18 : decode cL_law 18 = .ok (.iconst 0, 1) := by decide +kernel
theorem dL_law_19 : decode cL_law 19 = .ok (.istore 4, 2) := by decide +kernel
theorem dL_law_21 : decode cL_law 21 = .ok (.iload 4, 2) := by decide +kernel
theorem dL_law_23 : decode cL_law 23 = .ok (.bipush 48, 2) := by decide +kernel
theorem dL_law_25 : decode cL_law 25 = .ok (.if_icmp .ge 48, 3) := by decide +kernel
theorem dL_law_28 : decode cL_law 28 = .ok (.iload_n 3, 1) := by decide +kernel
theorem dL_law_29 : decode cL_law 29 = .ok (.ifCond .eq 44, 3) := by decide +kernel
theorem dL_law_32 : decode cL_law 32 = .ok (.aload_n 1, 1) := by decide +kernel
theorem dL_law_33 : decode cL_law 33 = .ok (.aload_n 2, 1) := by decide +kernel
theorem dL_law_34 : decode cL_law 34 = .ok (.aload_n 0, 1) := by decide +kernel
theorem dL_law_35 : decode cL_law 35 = .ok (.iload 4, 2) := by decide +kernel
theorem dL_law_37 : decode cL_law 37 = .ok (.invokestatic 75, 3) := by decide +kernel
theorem dL_law_40 : decode cL_law 40 = .ok (.invokestatic 79, 3) := by decide +kernel
theorem dL_law_43 : decode cL_law 43 = .ok (.ifCond .eq 22, 3) := by decide +kernel
theorem dL_law_46 : decode cL_law 46 = .ok (.iload 4, 2) := by decide +kernel
theorem dL_law_48 : decode cL_law 48 = .ok (.bipush 6, 2) := by decide +kernel
theorem dL_law_50 : decode cL_law 50 = .ok (.irem, 1) := by decide +kernel
theorem dL_law_51 : decode cL_law 51 = .ok (.ifCond .gt 10, 3) := by decide +kernel
theorem dL_law_54 : decode cL_law 54 = .ok (.aload_n 1, 1) := by decide +kernel
theorem dL_law_55 : decode cL_law 55 = .ok (.invokestatic 83, 3) := by decide +kernel
theorem dL_law_58 : decode cL_law 58 = .ok (.ifCond .eq 7, 3) := by decide +kernel
theorem dL_law_61 : decode cL_law 61 = .ok (.iconst 1, 1) := by decide +kernel
theorem dL_law_62 : decode cL_law 62 = .ok (.goto 4, 3) := by decide +kernel
theorem dL_law_65 : decode cL_law 65 = .ok (.iconst 0, 1) := by decide +kernel
theorem dL_law_66 : decode cL_law 66 = .ok (.istore_n 3, 1) := by decide +kernel
theorem dL_law_67 : decode cL_law 67 = .ok (.iinc 4 1, 3) := by decide +kernel
theorem dL_law_70 : decode cL_law 70 = .ok (.goto (-49), 3) := by decide +kernel
theorem dL_law_73 : decode cL_law 73 = .ok (.iload_n 3, 1) := by decide +kernel
theorem dL_law_74 : decode cL_law 74 = .ok (.ifCond .eq 28, 3) := by decide +kernel
theorem dL_law_77 : decode cL_law 77 = .ok (.aload_n 1, 1) := by decide +kernel
theorem dL_law_78 : decode cL_law 78 = .ok (.invokestatic 83, 3) := by decide +kernel
theorem dL_law_81 : decode cL_law 81 = .ok (.ifCond .eq 21, 3) := by decide +kernel
theorem dL_law_84 : decode cL_law 84 = .ok (.aload_n 1, 1) := by decide +kernel
theorem dL_law_85 : decode cL_law 85 = .ok (.aload_n 2, 1) := by decide +kernel
theorem dL_law_86 : decode cL_law 86 = .ok (.aload_n 0, 1) := by decide +kernel
theorem dL_law_87 : decode cL_law 87 = .ok (.bipush 48, 2) := by decide +kernel
theorem dL_law_89 : decode cL_law 89 = .ok (.invokestatic 75, 3) := by decide +kernel
theorem dL_law_92 : decode cL_law 92 = .ok (.invokestatic 87, 3) := by decide +kernel
theorem dL_law_95 : decode cL_law 95 = .ok (.ifCond .eq 7, 3) := by decide +kernel
theorem dL_law_98 : decode cL_law 98 = .ok (.iconst 1, 1) := by decide +kernel
theorem dL_law_99 : decode cL_law 99 = .ok (.goto 4, 3) := by decide +kernel
theorem dL_law_102 : decode cL_law 102 = .ok (.iconst 0, 1) := by decide +kernel
theorem dL_law_103 : decode cL_law 103 = .ok (.ireturn, 1) := by decide +kernel
abbrev vwCl : List vw_C := [(RX1, TX1, 16), (RX2, TX2, 3), (RX3, TX3, 6), (RX4, TX4, 2), (RX5, TX5, 5)]
