theorem dL_areAlike_0 : decode cL_areAlike 0 = .ok (.aload_n 0, 1) := by decide +kernel
theorem dL_areAlike_1 : decode cL_areAlike 1 = .ok (.bipush 10, 2) := by decide +kernel
theorem dL_areAlike_3 : decode cL_areAlike 3 = .ok (.invokevirtual 9, 3) := by decide +kernel
theorem dL_areAlike_6 : decode cL_areAlike 6 = .ok (.istore_n 3, 1) := by decide +kernel
theorem dL_areAlike_7 : decode cL_areAlike 7 = .ok (.aload_n 0, 1) := by decide +kernel
theorem dL_areAlike_8 : decode cL_areAlike 8 = .ok (.bipush 11, 2) := by decide +kernel
theorem dL_areAlike_10 : decode cL_areAlike 10 = .ok (.invokevirtual 9, 3) := by decide +kernel
theorem dL_areAlike_13 : decode cL_areAlike 13 = .ok (.istore 4, 2) := by decide +kernel
theorem dL_areAlike_15 : decode cL_areAlike 15 = .ok (.iconst 1, 1) := by decide +kernel
theorem dL_areAlike_16 : decode cL_areAlike 16 = .ok (.iload_n 2, 1) := by decide +kernel
theorem dL_areAlike_17 : decode cL_areAlike 17 = .ok (.bipush 9, 2) := by decide +kernel
theorem dL_areAlike_19 : decode cL_areAlike 19 = .ok (.invokestatic 15, 3) := by decide +kernel
theorem dL_areAlike_22 : decode cL_areAlike 22 = .ok (.iadd, 1) := by decide +kernel
theorem dL_areAlike_23 : decode cL_areAlike 23 = .ok (.istore 5, 2) := by decide +kernel
theorem dL_areAlike_25 : decode cL_areAlike 25 = .ok (.aload_n 0, 1) := by decide +kernel
theorem dL_areAlike_26 : decode cL_areAlike 26 = .ok (.iconst 0, 1) := by decide +kernel
theorem dL_areAlike_27 : decode cL_areAlike 27 = .ok (.invokevirtual 9, 3) := by decide +kernel
theorem dL_areAlike_30 : decode cL_areAlike 30 = .ok (.aload_n 1, 1) := by decide +kernel
theorem dL_areAlike_31 : decode cL_areAlike 31 = .ok (.iconst 0, 1) := by decide +kernel
theorem dL_areAlike_32 : decode cL_areAlike 32 = .ok (.invokevirtual 9, 3) := by decide +kernel
theorem dL_areAlike_35 : decode cL_areAlike 35 = .ok (.if_icmp .ne 229, 3) := by decide +kernel
theorem dL_areAlike_38 : decode cL_areAlike 38 = .ok (.aload_n 0, 1) := by decide +kernel
theorem dL_areAlike_39 : decode cL_areAlike 39 = .ok (.iconst 1, 1) := by decide +kernel
theorem dL_areAlike_40 : decode cL_areAlike 40 = .ok (.invokevirtual 9, 3) := by decide +kernel
theorem dL_areAlike_43 : decode cL_areAlike 43 = .ok (.aload_n 1, 1) := by decide +kernel
theorem dL_areAlike_44 : decode cL_areAlike 44 = .ok (.iconst 1, 1) := by decide +kernel
theorem dL_areAlike_45 : decode cL_areAlike 45 = .ok (.invokevirtual 9, 3) := by decide +kernel
theorem dL_areAlike_48 : decode cL_areAlike 48 = .ok (.iload 4, 2) := by decide +kernel
theorem dL_areAlike_50 : decode cL_areAlike 50 = .ok (.invokestatic 44, 3) := by decide +kernel
theorem dL_areAlike_53 : decode cL_areAlike 53 = .ok (.if_icmp .ne 211, 3) := by decide +kernel
theorem dL_areAlike_56 : decode cL_areAlike 56 = .ok (.aload_n 0, 1) := by decide +kernel
theorem dL_areAlike_57 : decode cL_areAlike 57 = .ok (.iconst 2, 1) := by decide +kernel
theorem dL_areAlike_58 : decode cL_areAlike 58 = .ok (.invokevirtual 9, 3) := by decide +kernel
theorem dL_areAlike_61 : decode cL_areAlike 61 = .ok (.aload_n 1, 1) := by decide +kernel
theorem dL_areAlike_62 : decode cL_areAlike 62 = .ok (.iconst 2, 1) := by decide +kernel
theorem dL_areAlike_63 : decode cL_areAlike 63 = .ok (.invokevirtual 9, 3) := by decide +kernel
theorem dL_areAlike_66 : decode cL_areAlike 66 = .ok (.iload_n 3, 1) := by decide +kernel
theorem dL_areAlike_67 : decode cL_areAlike 67 = .ok (.invokestatic 44, 3) := by decide +kernel
theorem dL_areAlike_70 : decode cL_areAlike 70 = .ok (.if_icmp .ne 194, 3) := by decide +kernel
theorem dL_areAlike_73 : decode cL_areAlike 73 = .ok (.aload_n 0, 1) := by decide +kernel
theorem dL_areAlike_74 : decode cL_areAlike 74 = .ok (.iconst 3, 1) := by decide +kernel
theorem dL_areAlike_75 : decode cL_areAlike 75 = .ok (.invokevirtual 9, 3) := by decide +kernel
theorem dL_areAlike_78 : decode cL_areAlike 78 = .ok (.aload_n 1, 1) := by decide +kernel
theorem dL_areAlike_79 : decode cL_areAlike 79 = .ok (.iconst 3, 1) := by decide +kernel
theorem dL_areAlike_80 : decode cL_areAlike 80 = .ok (.invokevirtual 9, 3) := by decide +kernel
theorem dL_areAlike_83 : decode cL_areAlike 83 = .ok (.invokestatic 25, 3) := by decide +kernel
theorem dL_areAlike_86 : decode cL_areAlike 86 = .ok (.if_icmp .ne 178, 3) := by decide +kernel
theorem dL_areAlike_89 : decode cL_areAlike 89 = .ok (.aload_n 0, 1) := by decide +kernel
theorem dL_areAlike_90 : decode cL_areAlike 90 = .ok (.iconst 4, 1) := by decide +kernel
theorem dL_areAlike_91 : decode cL_areAlike 91 = .ok (.invokevirtual 9, 3) := by decide +kernel
theorem dL_areAlike_94 : decode cL_areAlike 94 = .ok (.aload_n 1, 1) := by decide +kernel
theorem dL_areAlike_95 : decode cL_areAlike 95 = .ok (.iconst 4, 1) := by decide +kernel
theorem dL_areAlike_96 : decode cL_areAlike 96 = .ok (.invokevirtual 9, 3) := by decide +kernel
theorem dL_areAlike_99 : decode cL_areAlike 99 = .ok (.invokestatic 47, 3) := by decide +kernel
theorem dL_areAlike_102 : decode cL_areAlike 102 = .ok (.if_icmp .ne 162, 3) := by decide +kernel
theorem dL_areAlike_105 : decode cL_areAlike 105 = .ok (.aload_n 0, 1) := by decide +kernel
theorem dL_areAlike_106 : decode cL_areAlike 106 = .ok (.iconst 5, 1) := by decide +kernel
theorem dL_areAlike_107 : decode cL_areAlike 107 = .ok (.invokevirtual 9, 3) := by decide +kernel
theorem dL_areAlike_110 : decode cL_areAlike 110 = .ok (.aload_n 1, 1) := by decide +kernel
theorem dL_areAlike_111 : decode cL_areAlike 111 = .ok (.bipush 6, 2) := by decide +kernel
theorem dL_areAlike_113 : decode cL_areAlike 113 = .ok (.invokevirtual 9, 3) := by decide +kernel
theorem dL_areAlike_116 : decode cL_areAlike 116 = .ok (.if_icmp .ne 148, 3) := by decide +kernel
theorem dL_areAlike_119 : decode cL_areAlike 119 = .ok (.aload_n 0, 1) := by decide +kernel
theorem dL_areAlike_120 : decode cL_areAlike 120 = .ok (.bipush 6, 2) := by decide +kernel
theorem dL_areAlike_122 : decode cL_areAlike 122 = .ok (.invokevirtual 9, 3) := by decide +kernel
theorem dL_areAlike_125 : decode cL_areAlike 125 = .ok (.aload_n 1, 1) := by decide +kernel
theorem dL_areAlike_126 : decode cL_areAlike 126 = .ok (.iconst 5, 1) := by decide +kernel
theorem dL_areAlike_127 : decode cL_areAlike 127 = .ok (.invokevirtual 9, 3) := by decide +kernel
theorem dL_areAlike_130 : decode cL_areAlike 130 = .ok (.if_icmp .ne 134, 3) := by decide +kernel
theorem dL_areAlike_133 : decode cL_areAlike 133 = .ok (.aload_n 0, 1) := by decide +kernel
theorem dL_areAlike_134 : decode cL_areAlike 134 = .ok (.bipush 7, 2) := by decide +kernel
theorem dL_areAlike_136 : decode cL_areAlike 136 = .ok (.invokevirtual 9, 3) := by decide +kernel
theorem dL_areAlike_139 : decode cL_areAlike 139 = .ok (.aload_n 1, 1) := by decide +kernel
theorem dL_areAlike_140 : decode cL_areAlike 140 = .ok (.bipush 7, 2) := by decide +kernel
theorem dL_areAlike_142 : decode cL_areAlike 142 = .ok (.invokevirtual 9, 3) := by decide +kernel
theorem dL_areAlike_145 : decode cL_areAlike 145 = .ok (.if_icmp .ne 119, 3) := by decide +kernel
theorem dL_areAlike_148 : decode cL_areAlike 148 = .ok (.aload_n 0, 1) := by decide +kernel
theorem dL_areAlike_149 : decode cL_areAlike 149 = .ok (.bipush 8, 2) := by decide +kernel
theorem dL_areAlike_151 : decode cL_areAlike 151 = .ok (.invokevirtual 9, 3) := by decide +kernel
theorem dL_areAlike_154 : decode cL_areAlike 154 = .ok (.aload_n 1, 1) := by decide +kernel
theorem dL_areAlike_155 : decode cL_areAlike 155 = .ok (.bipush 8, 2) := by decide +kernel
theorem dL_areAlike_157 : decode cL_areAlike 157 = .ok (.invokevirtual 9, 3) := by decide +kernel
theorem dL_areAlike_160 : decode cL_areAlike 160 = .ok (.if_icmp .ne 104, 3) := by decide +kernel
theorem dL_areAlike_163 : decode cL_areAlike 163 = .ok (.aload_n 0, 1) := by decide +kernel
theorem dL_areAlike_164 : decode cL_areAlike 164 = .ok (.bipush 9, 2) := by decide +kernel
theorem dL_areAlike_166 : decode cL_areAlike 166 = .ok (.invokevirtual 9, 3) := by decide +kernel
theorem dL_areAlike_169 : decode cL_areAlike 169 = .ok (.aload_n 1, 1) := by decide +kernel
theorem dL_areAlike_170 : decode cL_areAlike 170 = .ok (.bipush 9, 2) := by decide +kernel
theorem dL_areAlike_172 : decode cL_areAlike 172 = .ok (.invokevirtual 9, 3) := by decide +kernel
theorem dL_areAlike_175 : decode cL_areAlike 175 = .ok (.if_icmp .ne 89, 3) := by decide +kernel
theorem dL_areAlike_178 : decode cL_areAlike 178 = .ok (.aload_n 0, 1) := by decide +kernel
theorem dL_areAlike_179 : decode cL_areAlike 179 = .ok (.iconst 0, 1) := by decide +kernel
theorem dL_areAlike_180 : decode cL_areAlike 180 = .ok (.invokevirtual 50, 3) := by decide +kernel
theorem dL_areAlike_183 : decode cL_areAlike 183 = .ok (.sipush 1000, 3) := by decide +kernel
theorem dL_areAlike_186 : decode cL_areAlike 186 = .ok (.isub, 1) := by decide +kernel
theorem dL_areAlike_187 : decode cL_areAlike 187 = .ok (.sipush 1000, 3) := by decide +kernel
theorem dL_areAlike_190 : decode cL_areAlike 190 = .ok (.aload_n 1, 1) := by decide +kernel
theorem dL_areAlike_191 : decode cL_areAlike 191 = .ok (.iconst 0, 1) := by decide +kernel
theorem dL_areAlike_192 : decode cL_areAlike 192 = .ok (.invokevirtual 50, 3) := by decide +kernel
theorem dL_areAlike_195 : decode cL_areAlike 195 = .ok (.isub, 1) := by decide +kernel
theorem dL_areAlike_196 : decode cL_areAlike 196 = .ok (.if_icmp .ne 68, 3) := by decide +kernel
theorem dL_areAlike_199 : decode cL_areAlike 199 = .ok (.aload_n 0, 1) := by decide +kernel
theorem dL_areAlike_200 : decode cL_areAlike 200 = .ok (.iconst 1, 1) := by decide +kernel
theorem dL_areAlike_201 : decode cL_areAlike 201 = .ok (.invokevirtual 50, 3) := by decide +kernel
theorem dL_areAlike_204 : decode cL_areAlike 204 = .ok (.aload_n 1, 1) := by decide +kernel
theorem dL_areAlike_205 : decode cL_areAlike 205 = .ok (.iconst 1, 1) := by decide +kernel
theorem dL_areAlike_206 : decode cL_areAlike 206 = .ok (.invokevirtual 50, 3) := by decide +kernel
theorem dL_areAlike_209 : decode cL_areAlike 209 = .ok (.if_icmp .ne 55, 3) := by decide +kernel
theorem dL_areAlike_212 : decode cL_areAlike 212 = .ok (.aload_n 0, 1) := by decide +kernel
theorem dL_areAlike_213 : decode cL_areAlike 213 = .ok (.invokevirtual 53, 3) := by decide +kernel
theorem dL_areAlike_216 : decode cL_areAlike 216 = .ok (.aload_n 1, 1) := by decide +kernel
theorem dL_areAlike_217 : decode cL_areAlike 217 = .ok (.invokevirtual 53, 3) := by decide +kernel
theorem dL_areAlike_220 : decode cL_areAlike 220 = .ok (.if_icmp .ne 44, 3) := by decide +kernel
theorem dL_areAlike_223 : decode cL_areAlike 223 = .ok (.aload_n 0, 1) := by decide +kernel
theorem dL_areAlike_224 : decode cL_areAlike 224 = .ok (.invokevirtual 56, 3) := by decide +kernel
theorem dL_areAlike_227 : decode cL_areAlike 227 = .ok (.lconst 0, 1) := by decide +kernel
theorem dL_areAlike_228 : decode cL_areAlike 228 = .ok (.lcmp, 1) := by decide +kernel
theorem dL_areAlike_229 : decode cL_areAlike 229 = .ok (.ifCond .ne 15, 3) := by decide +kernel
theorem dL_areAlike_232 : decode cL_areAlike 232 = .ok (.aload_n 1, 1) := by decide +kernel
theorem dL_areAlike_233 : decode cL_areAlike 233 = .ok (.invokevirtual 56, 3) := by decide +kernel
theorem dL_areAlike_236 : decode cL_areAlike 236 = .ok (.lconst 0, 1) := by decide +kernel
theorem dL_areAlike_237 : decode cL_areAlike 237 = .ok (.lcmp, 1) := by decide +kernel
theorem dL_areAlike_238 : decode cL_areAlike 238 = .ok (.ifCond .ne 26, 3) := by decide +kernel
theorem dL_areAlike_241 : decode cL_areAlike 241 = .ok (.goto 19, 3) := by decide +kernel
theorem dL_areAlike_244 : decode cL_areAlike 244 = .ok (.aload_n 0, 1) := by decide +kernel
theorem dL_areAlike_245 : decode cL_areAlike 245 = .ok (.invokevirtual 56, 3) := by decide +kernel
theorem dL_areAlike_248 : decode cL_areAlike 248 = .ok (.aload_n 1, 1) := by decide +kernel
theorem dL_areAlike_249 : decode cL_areAlike 249 = .ok (.invokevirtual 56, 3) := by decide +kernel
theorem dL_areAlike_252 : decode cL_areAlike 252 = .ok (.lxor, 1) := by decide +kernel
theorem dL_areAlike_253 : decode cL_areAlike 253 = .ok (.ldc2_w 60, 3) := by decide +kernel
theorem dL_areAlike_256 : decode cL_areAlike 256 = .ok (.lcmp, 1) := by decide +kernel
theorem dL_areAlike_257 : decode cL_areAlike 257 = .ok (.ifCond .ne 7, 3) := by decide +kernel
theorem dL_areAlike_260 : decode cL_areAlike 260 = .ok (.iconst 1, 1) := by decide +kernel
theorem dL_areAlike_261 : decode cL_areAlike 261 = .ok (.goto 4, 3) := by decide +kernel
theorem dL_areAlike_264 : decode cL_areAlike 264 = .ok (.iconst 0, 1) := by decide +kernel
theorem dL_areAlike_265 : decode cL_areAlike 265 = .ok (.istore 6, 2) := by decide +kernel
theorem dL_areAlike_267 : decode cL_areAlike 267 = .ok (.iconst 0, 1) := by decide +kernel
theorem dL_areAlike_268 : decode cL_areAlike 268 = .ok (.istore 7, 2) := by decide +kernel
theorem dL_areAlike_270 : decode cL_areAlike 270 = .ok (.iload 7, 2) := by decide +kernel
theorem dL_areAlike_272 : decode cL_areAlike 272 = .ok (.aload_n 0, 1) := by decide +kernel
theorem dL_areAlike_273 : decode cL_areAlike 273 = .ok (.bipush 9, 2) := by decide +kernel
theorem dL_areAlike_275 : decode cL_areAlike 275 = .ok (.invokevirtual 9, 3) := by decide +kernel
theorem dL_areAlike_278 : decode cL_areAlike 278 = .ok (.if_icmp .ge 78, 3) := by decide +kernel
theorem dL_areAlike_281 : decode cL_areAlike 281 = .ok (.iload 6, 2) := by decide +kernel
theorem dL_areAlike_283 : decode cL_areAlike 283 = .ok (.ifCond .eq 64, 3) := by decide +kernel
theorem dL_areAlike_286 : decode cL_areAlike 286 = .ok (.aload_n 0, 1) := by decide +kernel
theorem dL_areAlike_287 : decode cL_areAlike 287 = .ok (.iload 7, 2) := by decide +kernel
theorem dL_areAlike_289 : decode cL_areAlike 289 = .ok (.iconst 0, 1) := by decide +kernel
theorem dL_areAlike_290 : decode cL_areAlike 290 = .ok (.invokevirtual 28, 3) := by decide +kernel
theorem dL_areAlike_293 : decode cL_areAlike 293 = .ok (.aload_n 1, 1) := by decide +kernel
theorem dL_areAlike_294 : decode cL_areAlike 294 = .ok (.iload 7, 2) := by decide +kernel
theorem dL_areAlike_296 : decode cL_areAlike 296 = .ok (.iconst 0, 1) := by decide +kernel
theorem dL_areAlike_297 : decode cL_areAlike 297 = .ok (.invokevirtual 28, 3) := by decide +kernel
theorem dL_areAlike_300 : decode cL_areAlike 300 = .ok (.invokestatic 25, 3) := by decide +kernel
theorem dL_areAlike_303 : decode cL_areAlike 303 = .ok (.if_icmp .ne 44, 3) := by decide +kernel
theorem dL_areAlike_306 : decode cL_areAlike 306 = .ok (.aload_n 0, 1) := by decide +kernel
theorem dL_areAlike_307 : decode cL_areAlike 307 = .ok (.iload 7, 2) := by decide +kernel
theorem dL_areAlike_309 : decode cL_areAlike 309 = .ok (.iconst 1, 1) := by decide +kernel
theorem dL_areAlike_310 : decode cL_areAlike 310 = .ok (.invokevirtual 28, 3) := by decide +kernel
theorem dL_areAlike_313 : decode cL_areAlike 313 = .ok (.aload_n 1, 1) := by decide +kernel
theorem dL_areAlike_314 : decode cL_areAlike 314 = .ok (.iload 7, 2) := by decide +kernel
theorem dL_areAlike_316 : decode cL_areAlike 316 = .ok (.iconst 1, 1) := by decide +kernel
theorem dL_areAlike_317 : decode cL_areAlike 317 = .ok (.invokevirtual 28, 3) := by decide +kernel
theorem dL_areAlike_320 : decode cL_areAlike 320 = .ok (.if_icmp .ne 27, 3) := by decide +kernel
theorem dL_areAlike_323 : decode cL_areAlike 323 = .ok (.aload_n 0, 1) := by decide +kernel
theorem dL_areAlike_324 : decode cL_areAlike 324 = .ok (.iload 7, 2) := by decide +kernel
theorem dL_areAlike_326 : decode cL_areAlike 326 = .ok (.iconst 2, 1) := by decide +kernel
theorem dL_areAlike_327 : decode cL_areAlike 327 = .ok (.invokevirtual 28, 3) := by decide +kernel
theorem dL_areAlike_330 : decode cL_areAlike 330 = .ok (.aload_n 1, 1) := by decide +kernel
theorem dL_areAlike_331 : decode cL_areAlike 331 = .ok (.iload 7, 2) := by decide +kernel
theorem dL_areAlike_333 : decode cL_areAlike 333 = .ok (.iconst 2, 1) := by decide +kernel
theorem dL_areAlike_334 : decode cL_areAlike 334 = .ok (.invokevirtual 28, 3) := by decide +kernel
theorem dL_areAlike_337 : decode cL_areAlike 337 = .ok (.invokestatic 47, 3) := by decide +kernel
theorem dL_areAlike_340 : decode cL_areAlike 340 = .ok (.if_icmp .ne 7, 3) := by decide +kernel
theorem dL_areAlike_343 : decode cL_areAlike 343 = .ok (.iconst 1, 1) := by decide +kernel
theorem dL_areAlike_344 : decode cL_areAlike 344 = .ok (.goto 4, 3) := by decide +kernel
theorem dL_areAlike_347 : decode cL_areAlike 347 = .ok (.iconst 0, 1) := by decide +kernel
theorem dL_areAlike_348 : decode cL_areAlike 348 = .ok (.istore 6, 2) := by decide +kernel
theorem dL_areAlike_350 : decode cL_areAlike 350 = .ok (.iinc 7 7, 3) := by decide +kernel
theorem dL_areAlike_353 : decode cL_areAlike 353 = .ok (.goto (-83), 3) := by decide +kernel
theorem dL_areAlike_356 : decode cL_areAlike 356 = .ok (.iconst 0, 1) := by decide +kernel
theorem dL_areAlike_357 : decode cL_areAlike 357 = .ok (.istore 7, 2) := by decide +kernel
theorem dL_areAlike_359 : decode cL_areAlike 359 = .ok (.iload 7, 2) := by decide +kernel
theorem dL_areAlike_361 : decode cL_areAlike 361 = .ok (.iconst 4, 1) := by decide +kernel
theorem dL_areAlike_362 : decode cL_areAlike 362 = .ok (.if_icmp .ge 60, 3) := by decide +kernel
theorem dL_areAlike_365 : decode cL_areAlike 365 = .ok (.iload 6, 2) := by decide +kernel
theorem dL_areAlike_367 : decode cL_areAlike 367 = .ok (.ifCond .eq 46, 3) := by decide +kernel
theorem dL_areAlike_370 : decode cL_areAlike 370 = .ok (.aload_n 0, 1) := by decide +kernel
theorem dL_areAlike_371 : decode cL_areAlike 371 = .ok (.iload 7, 2) := by decide +kernel
theorem dL_areAlike_373 : decode cL_areAlike 373 = .ok (.invokevirtual 62, 3) := by decide +kernel
theorem dL_areAlike_376 : decode cL_areAlike 376 = .ok (.aload_n 1, 1) := by decide +kernel
theorem dL_areAlike_377 : decode cL_areAlike 377 = .ok (.iload 7, 2) := by decide +kernel
theorem dL_areAlike_379 : decode cL_areAlike 379 = .ok (.invokestatic 25, 3) := by decide +kernel
theorem dL_areAlike_382 : decode cL_areAlike 382 = .ok (.invokevirtual 62, 3) := by decide +kernel
theorem dL_areAlike_385 : decode cL_areAlike 385 = .ok (.invokestatic 47, 3) := by decide +kernel
theorem dL_areAlike_388 : decode cL_areAlike 388 = .ok (.if_icmp .ne 25, 3) := by decide +kernel
theorem dL_areAlike_391 : decode cL_areAlike 391 = .ok (.aload_n 0, 1) := by decide +kernel
theorem dL_areAlike_392 : decode cL_areAlike 392 = .ok (.iload 7, 2) := by decide +kernel
theorem dL_areAlike_394 : decode cL_areAlike 394 = .ok (.invokevirtual 65, 3) := by decide +kernel
theorem dL_areAlike_397 : decode cL_areAlike 397 = .ok (.aload_n 1, 1) := by decide +kernel
theorem dL_areAlike_398 : decode cL_areAlike 398 = .ok (.iload 7, 2) := by decide +kernel
theorem dL_areAlike_400 : decode cL_areAlike 400 = .ok (.invokestatic 47, 3) := by decide +kernel
theorem dL_areAlike_403 : decode cL_areAlike 403 = .ok (.invokevirtual 65, 3) := by decide +kernel
theorem dL_areAlike_406 : decode cL_areAlike 406 = .ok (.if_icmp .ne 7, 3) := by decide +kernel
theorem dL_areAlike_409 : decode cL_areAlike 409 = .ok (.iconst 1, 1) := by decide +kernel
theorem dL_areAlike_410 : decode cL_areAlike 410 = .ok (.goto 4, 3) := by decide +kernel
theorem dL_areAlike_413 : decode cL_areAlike 413 = .ok (.iconst 0, 1) := by decide +kernel
theorem dL_areAlike_414 : decode cL_areAlike 414 = .ok (.istore 6, 2) := by decide +kernel
theorem dL_areAlike_416 : decode cL_areAlike 416 = .ok (.iinc 7 1, 3) := by decide +kernel
theorem dL_areAlike_419 : decode cL_areAlike 419 = .ok (.goto (-60), 3) := by decide +kernel
theorem dL_areAlike_422 : decode cL_areAlike 422 = .ok (.iload 6, 2) := by decide +kernel
theorem dL_areAlike_424 : decode cL_areAlike 424 = .ok (.ifCond .eq 106, 3) := by decide +kernel
theorem dL_areAlike_427 : decode cL_areAlike 427 = .ok (.aload_n 0, 1) := by decide +kernel
theorem dL_areAlike_428 : decode cL_areAlike 428 = .ok (.iload 5, 2) := by decide +kernel
theorem dL_areAlike_430 : decode cL_areAlike 430 = .ok (.iconst 0, 1) := by decide +kernel
theorem dL_areAlike_431 : decode cL_areAlike 431 = .ok (.invokevirtual 68, 3) := by decide +kernel
theorem dL_areAlike_434 : decode cL_areAlike 434 = .ok (.aload_n 1, 1) := by decide +kernel
theorem dL_areAlike_435 : decode cL_areAlike 435 = .ok (.iload 5, 2) := by decide +kernel
theorem dL_areAlike_437 : decode cL_areAlike 437 = .ok (.iconst 1, 1) := by decide +kernel
theorem dL_areAlike_438 : decode cL_areAlike 438 = .ok (.invokevirtual 68, 3) := by decide +kernel
theorem dL_areAlike_441 : decode cL_areAlike 441 = .ok (.if_icmp .ne 89, 3) := by decide +kernel
theorem dL_areAlike_444 : decode cL_areAlike 444 = .ok (.aload_n 0, 1) := by decide +kernel
theorem dL_areAlike_445 : decode cL_areAlike 445 = .ok (.iload 5, 2) := by decide +kernel
theorem dL_areAlike_447 : decode cL_areAlike 447 = .ok (.iconst 1, 1) := by decide +kernel
theorem dL_areAlike_448 : decode cL_areAlike 448 = .ok (.invokevirtual 68, 3) := by decide +kernel
theorem dL_areAlike_451 : decode cL_areAlike 451 = .ok (.aload_n 1, 1) := by decide +kernel
theorem dL_areAlike_452 : decode cL_areAlike 452 = .ok (.iload 5, 2) := by decide +kernel
theorem dL_areAlike_454 : decode cL_areAlike 454 = .ok (.iconst 0, 1) := by decide +kernel
theorem dL_areAlike_455 : decode cL_areAlike 455 = .ok (.invokevirtual 68, 3) := by decide +kernel
theorem dL_areAlike_458 : decode cL_areAlike 458 = .ok (.if_icmp .ne 72, 3) := by decide +kernel
theorem dL_areAlike_461 : decode cL_areAlike 461 = .ok (.aload_n 0, 1) := by decide +kernel
theorem dL_areAlike_462 : decode cL_areAlike 462 = .ok (.iload 5, 2) := by decide +kernel
theorem dL_areAlike_464 : decode cL_areAlike 464 = .ok (.iconst 2, 1) := by decide +kernel
theorem dL_areAlike_465 : decode cL_areAlike 465 = .ok (.invokevirtual 68, 3) := by decide +kernel
theorem dL_areAlike_468 : decode cL_areAlike 468 = .ok (.aload_n 1, 1) := by decide +kernel
theorem dL_areAlike_469 : decode cL_areAlike 469 = .ok (.iload 5, 2) := by decide +kernel
theorem dL_areAlike_471 : decode cL_areAlike 471 = .ok (.iconst 2, 1) := by decide +kernel
theorem dL_areAlike_472 : decode cL_areAlike 472 = .ok (.invokevirtual 68, 3) := by decide +kernel
theorem dL_areAlike_475 : decode cL_areAlike 475 = .ok (.if_icmp .ne 55, 3) := by decide +kernel
theorem dL_areAlike_478 : decode cL_areAlike 478 = .ok (.aload_n 0, 1) := by decide +kernel
theorem dL_areAlike_479 : decode cL_areAlike 479 = .ok (.iload 5, 2) := by decide +kernel
theorem dL_areAlike_481 : decode cL_areAlike 481 = .ok (.iconst 3, 1) := by decide +kernel
theorem dL_areAlike_482 : decode cL_areAlike 482 = .ok (.invokevirtual 68, 3) := by decide +kernel
theorem dL_areAlike_485 : decode cL_areAlike 485 = .ok (.aload_n 1, 1) := by decide +kernel
theorem dL_areAlike_486 : decode cL_areAlike 486 = .ok (.iload 5, 2) := by decide +kernel
theorem dL_areAlike_488 : decode cL_areAlike 488 = .ok (.iconst 3, 1) := by decide +kernel
theorem dL_areAlike_489 : decode cL_areAlike 489 = .ok (.invokevirtual 68, 3) := by decide +kernel
theorem dL_areAlike_492 : decode cL_areAlike 492 = .ok (.iload 4, 2) := by decide +kernel
theorem dL_areAlike_494 : decode cL_areAlike 494 = .ok (.invokestatic 44, 3) := by decide +kernel
theorem dL_areAlike_497 : decode cL_areAlike 497 = .ok (.if_icmp .ne 33, 3) := by decide +kernel
theorem dL_areAlike_500 : decode cL_areAlike 500 = .ok (.aload_n 0, 1) := by decide +kernel
theorem dL_areAlike_501 : decode cL_areAlike 501 = .ok (.iconst 0, 1) := by decide +kernel
theorem dL_areAlike_502 : decode cL_areAlike 502 = .ok (.invokevirtual 71, 3) := by decide +kernel
theorem dL_areAlike_505 : decode cL_areAlike 505 = .ok (.aload_n 1, 1) := by decide +kernel
theorem dL_areAlike_506 : decode cL_areAlike 506 = .ok (.iconst 0, 1) := by decide +kernel
theorem dL_areAlike_507 : decode cL_areAlike 507 = .ok (.invokevirtual 71, 3) := by decide +kernel
theorem dL_areAlike_510 : decode cL_areAlike 510 = .ok (.if_icmp .ne 20, 3) := by decide +kernel
theorem dL_areAlike_513 : decode cL_areAlike 513 = .ok (.aload_n 0, 1) := by decide +kernel
theorem dL_areAlike_514 : decode cL_areAlike 514 = .ok (.iconst 1, 1) := by decide +kernel
theorem dL_areAlike_515 : decode cL_areAlike 515 = .ok (.invokevirtual 71, 3) := by decide +kernel
theorem dL_areAlike_518 : decode cL_areAlike 518 = .ok (.aload_n 1, 1) := by decide +kernel
theorem dL_areAlike_519 : decode cL_areAlike 519 = .ok (.iconst 1, 1) := by decide +kernel
theorem dL_areAlike_520 : decode cL_areAlike 520 = .ok (.invokevirtual 71, 3) := by decide +kernel
theorem dL_areAlike_523 : decode cL_areAlike 523 = .ok (.if_icmp .ne 7, 3) := by decide +kernel
theorem dL_areAlike_526 : decode cL_areAlike 526 = .ok (.iconst 1, 1) := by decide +kernel
theorem dL_areAlike_527 : decode cL_areAlike 527 = .ok (.goto 4, 3) := by decide +kernel
theorem dL_areAlike_530 : decode cL_areAlike 530 = .ok (.iconst 0, 1) := by decide +kernel
theorem dL_areAlike_531 : decode cL_areAlike 531 = .ok (.ireturn, 1) := by decide +kernel
set_option maxRecDepth 20000 in
theorem ggL_isWell_X5_count : GoodIn wsL_isWell wsX5_count := goodIn_r _ [6, 7, 8, 9, 10, 11, 12, 13, 14, 15, 16, 17, 18, 19, 20, 21, 22, 23, 24, 25, 26, 27, 28, 29, 30, 31, 32, 33, 34, 35, 159, 160, 161, 162, 163, 164, 165, 166, 167, 168, 169, 170, 171, 172, 173, 174, 175, 176, 177, 178, 179, 180, 181, 182, 183, 184, 185, 186, 187, 188] (by decide +kernel) (by decide +kernel)
set_option maxRecDepth 20000 in
theorem gL_isWell_X5_count : GoodIn wsL_isWell (wsV RL 9 RX5 yX5_count wsX5_count) := goodIn_app (goodIn_of _ (by decide +kernel)) ggL_isWell_X5_count
set_option maxRecDepth 20000 in
theorem ggL_isWell_X5_log : GoodIn wsL_isWell wsX5_log := goodIn_r _ [39, 7, 40, 41, 42, 24, 43, 44, 22, 23, 25, 26, 27, 28, 29, 30, 45, 46, 47, 48, 49, 50, 51, 52, 53, 54, 55, 56, 57, 58, 59, 60, 61, 62, 159, 160, 161, 162, 163, 164, 165, 166, 167, 168, 169, 170, 171, 172, 173, 174, 175, 176, 177, 178, 179] (by decide +kernel) (by decide +kernel)
set_option maxRecDepth 20000 in
theorem gL_isWell_X5_log : GoodIn wsL_isWell (wsV RL 28 RX5 yX5_log wsX5_log) := goodIn_app (goodIn_of _ (by decide +kernel)) ggL_isWell_X5_log
set_option maxRecDepth 20000 in
theorem ggL_isWell_X5_deeds : GoodIn wsL_isWell wsX5_deeds := goodIn_r _ [66, 7, 21, 22, 23, 24, 25, 26, 27, 28, 29, 30, 59, 60, 61, 62, 49, 50, 51, 52, 53, 54, 41, 42, 43, 44, 159, 160, 161, 162, 163, 164, 165, 166, 167, 168, 169, 170, 171, 172, 173, 174, 175, 176, 177, 178, 179] (by decide +kernel) (by decide +kernel)
set_option maxRecDepth 20000 in
theorem gL_isWell_X5_deeds : GoodIn wsL_isWell (wsV RL 65 RX5 yX5_deeds wsX5_deeds) := goodIn_app (goodIn_of _ (by decide +kernel)) ggL_isWell_X5_deeds
set_option maxRecDepth 20000 in
theorem ggL_isWell_X5_speed : GoodIn wsL_isWell wsX5_speed := goodIn_r _ [70, 7, 71, 72, 73, 74, 24, 75, 27, 28, 29, 30, 76, 32, 33, 34, 35, 44, 22, 23, 25, 26, 77, 60, 61, 62, 49, 50, 51, 52, 53, 54, 41, 42, 43, 159, 160, 161, 162, 163, 164, 165, 166, 167, 168, 169, 170, 171, 172, 173, 174, 175, 176, 177, 178, 179] (by decide +kernel) (by decide +kernel)
set_option maxRecDepth 20000 in
theorem gL_isWell_X5_speed : GoodIn wsL_isWell (wsV RL 50 RX5 yX5_speed wsX5_speed) := goodIn_app (goodIn_of _ (by decide +kernel)) ggL_isWell_X5_speed
set_option maxRecDepth 20000 in
theorem ggL_isWell_X5_rate : GoodIn wsL_isWell wsX5_rate := goodIn_r _ [81, 7, 71, 12, 82, 31, 32, 33, 24, 34, 35, 83, 84, 85, 86, 87, 88, 89, 159, 160, 161, 162, 163, 164, 165, 166, 167, 168, 169, 170, 171, 172, 173, 174, 175, 176, 177, 178, 179] (by decide +kernel) (by decide +kernel)
set_option maxRecDepth 20000 in
theorem gL_isWell_X5_rate : GoodIn wsL_isWell (wsV RL 56 RX5 yX5_rate wsX5_rate) := goodIn_app (goodIn_of _ (by decide +kernel)) ggL_isWell_X5_rate
set_option maxRecDepth 20000 in
theorem ggL_isWell_X5_would : GoodIn wsL_isWell wsX5_would := goodIn_r _ [93, 7, 94, 95, 96, 24, 97, 98, 99, 100, 101, 102, 103, 104, 76, 32, 33, 34, 35, 105, 106, 107, 159, 160, 161, 162, 163, 164, 165, 166, 167, 168, 169, 170, 171, 172, 173, 174, 175, 176, 177, 178, 179] (by decide +kernel) (by decide +kernel)
set_option maxRecDepth 20000 in
theorem gL_isWell_X5_would : GoodIn wsL_isWell (wsV RL 62 RX5 yX5_would wsX5_would) := goodIn_app (goodIn_of _ (by decide +kernel)) ggL_isWell_X5_would
set_option maxRecDepth 20000 in
theorem ggL_isWell_L_there : GoodIn wsL_isWell wsL_there := goodIn_r _ [111] (by decide +kernel) (by decide +kernel)
set_option maxRecDepth 20000 in
theorem gL_isWell_L_there : GoodIn wsL_isWell (va_wsS RL 25 yL_there wsL_there) := goodIn_app (goodIn_of _ (by decide +kernel)) ggL_isWell_L_there
set_option maxRecDepth 20000 in
theorem ggL_isWell_X5_replay : GoodIn wsL_isWell wsX5_replay := goodIn_r _ [115, 116, 117, 118, 7, 13, 14, 15, 9, 119, 120, 121, 24, 122, 35, 123, 124, 125, 126, 127, 128, 129, 130, 26, 131, 132, 98, 103, 133, 104, 134, 135, 136, 137, 138, 139, 140, 44, 22, 23, 25, 27, 28, 29, 30, 141, 46, 47, 48, 49, 50, 51, 52, 53, 54, 41, 42, 43, 142, 56, 57, 58, 143, 144, 145, 146, 147, 95, 96, 97, 99, 100, 101, 102, 76, 32, 33, 34, 105, 106, 107, 148, 149, 150, 151, 152, 153, 154, 155, 156, 157, 158, 159, 160, 161, 162, 163, 164, 165, 166, 167, 168, 169, 170, 171, 172, 173, 174, 175, 176, 177, 178, 179] (by decide +kernel) (by decide +kernel)
set_option maxRecDepth 20000 in
theorem gL_isWell_X5_replay : GoodIn wsL_isWell (wsV RL 68 RX5 yX5_replay wsX5_replay) := goodIn_app (goodIn_of _ (by decide +kernel)) ggL_isWell_X5_replay
