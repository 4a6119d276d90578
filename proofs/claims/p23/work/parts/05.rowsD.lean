theorem dL_isStep_0 : decode cL_isStep 0 = .ok (.iload_n 2, 1) := by decide +kernel
theorem dL_isStep_1 : decode cL_isStep 1 = .ok (.iconst 4, 1) := by decide +kernel
theorem dL_isStep_2 : decode cL_isStep 2 = .ok (.ishr, 1) := by decide +kernel
theorem dL_isStep_3 : decode cL_isStep 3 = .ok (.istore_n 3, 1) := by decide +kernel
theorem dL_isStep_4 : decode cL_isStep 4 = .ok (.aload_n 0, 1) := by decide +kernel
theorem dL_isStep_5 : decode cL_isStep 5 = .ok (.iconst 0, 1) := by decide +kernel
theorem dL_isStep_6 : decode cL_isStep 6 = .ok (.invokevirtual 9, 3) := by decide +kernel
theorem dL_isStep_9 : decode cL_isStep 9 = .ok (.istore 4, 2) := by decide +kernel
theorem dL_isStep_11 : decode cL_isStep 11 = .ok (.aload_n 0, 1) := by decide +kernel
theorem dL_isStep_12 : decode cL_isStep 12 = .ok (.iconst 1, 1) := by decide +kernel
theorem dL_isStep_13 : decode cL_isStep 13 = .ok (.invokevirtual 9, 3) := by decide +kernel
theorem dL_isStep_16 : decode cL_isStep 16 = .ok (.istore 5, 2) := by decide +kernel
theorem dL_isStep_18 : decode cL_isStep 18 = .ok (.aload_n 0, 1) := by decide +kernel
theorem dL_isStep_19 : decode cL_isStep 19 = .ok (.bipush 11, 2) := by decide +kernel
theorem dL_isStep_21 : decode cL_isStep 21 = .ok (.invokevirtual 9, 3) := by decide +kernel
theorem dL_isStep_24 : decode cL_isStep 24 = .ok (.istore 6, 2) := by decide +kernel
theorem dL_isStep_26 : decode cL_isStep 26 = .ok (.iload_n 2, 1) := by decide +kernel
theorem dL_isStep_27 : decode cL_isStep 27 = .ok (.bipush 14, 2) := by decide +kernel
theorem dL_isStep_29 : decode cL_isStep 29 = .ok (.invokestatic 15, 3) := by decide +kernel
theorem dL_isStep_32 : decode cL_isStep 32 = .ok (.tableswitch 556 0 11 #[64, 64, 64, 64, 64, 64, 231, 231, 231, 406, 452, 478], 64) := by decide +kernel
theorem dL_isStep_96 : decode cL_isStep 96 = .ok (.iload_n 3, 1) := by decide +kernel
theorem dL_isStep_97 : decode cL_isStep 97 = .ok (.iconst 4, 1) := by decide +kernel
theorem dL_isStep_98 : decode cL_isStep 98 = .ok (.invokestatic 15, 3) := by decide +kernel
theorem dL_isStep_101 : decode cL_isStep 101 = .ok (.istore 7, 2) := by decide +kernel
theorem dL_isStep_103 : decode cL_isStep 103 = .ok (.iload_n 3, 1) := by decide +kernel
theorem dL_isStep_104 : decode cL_isStep 104 = .ok (.iconst 2, 1) := by decide +kernel
theorem dL_isStep_105 : decode cL_isStep 105 = .ok (.ishr, 1) := by decide +kernel
theorem dL_isStep_106 : decode cL_isStep 106 = .ok (.bipush 7, 2) := by decide +kernel
theorem dL_isStep_108 : decode cL_isStep 108 = .ok (.invokestatic 15, 3) := by decide +kernel
theorem dL_isStep_111 : decode cL_isStep 111 = .ok (.ifCond .ne 7, 3) := by decide +kernel
theorem dL_isStep_114 : decode cL_isStep 114 = .ok (.iconst 1, 1) := by decide +kernel
theorem dL_isStep_115 : decode cL_isStep 115 = .ok (.goto 4, 3) := by decide +kernel
theorem dL_isStep_118 : decode cL_isStep 118 = .ok (.iconst 0, 1) := by decide +kernel
theorem dL_isStep_119 : decode cL_isStep 119 = .ok (.istore 8, 2) := by decide +kernel
theorem dL_isStep_121 : decode cL_isStep 121 = .ok (.iconst 1, 1) := by decide +kernel
theorem dL_isStep_122 : decode cL_isStep 122 = .ok (.iload_n 3, 1) := by decide +kernel
theorem dL_isStep_123 : decode cL_isStep 123 = .ok (.iconst 5, 1) := by decide +kernel
theorem dL_isStep_124 : decode cL_isStep 124 = .ok (.ishr, 1) := by decide +kernel
theorem dL_isStep_125 : decode cL_isStep 125 = .ok (.iload_n 3, 1) := by decide +kernel
theorem dL_isStep_126 : decode cL_isStep 126 = .ok (.bipush 9, 2) := by decide +kernel
theorem dL_isStep_128 : decode cL_isStep 128 = .ok (.ishr, 1) := by decide +kernel
theorem dL_isStep_129 : decode cL_isStep 129 = .ok (.iconst 3, 1) := by decide +kernel
theorem dL_isStep_130 : decode cL_isStep 130 = .ok (.invokestatic 15, 3) := by decide +kernel
theorem dL_isStep_133 : decode cL_isStep 133 = .ok (.ifCond .ne 8, 3) := by decide +kernel
theorem dL_isStep_136 : decode cL_isStep 136 = .ok (.bipush 12, 2) := by decide +kernel
theorem dL_isStep_138 : decode cL_isStep 138 = .ok (.goto 4, 3) := by decide +kernel
theorem dL_isStep_141 : decode cL_isStep 141 = .ok (.iconst 2, 1) := by decide +kernel
theorem dL_isStep_142 : decode cL_isStep 142 = .ok (.invokestatic 15, 3) := by decide +kernel
theorem dL_isStep_145 : decode cL_isStep 145 = .ok (.iadd, 1) := by decide +kernel
theorem dL_isStep_146 : decode cL_isStep 146 = .ok (.istore 9, 2) := by decide +kernel
theorem dL_isStep_148 : decode cL_isStep 148 = .ok (.aload_n 0, 1) := by decide +kernel
theorem dL_isStep_149 : decode cL_isStep 149 = .ok (.iconst 5, 1) := by decide +kernel
theorem dL_isStep_150 : decode cL_isStep 150 = .ok (.invokevirtual 9, 3) := by decide +kernel
theorem dL_isStep_153 : decode cL_isStep 153 = .ok (.istore 10, 2) := by decide +kernel
theorem dL_isStep_155 : decode cL_isStep 155 = .ok (.aload_n 0, 1) := by decide +kernel
theorem dL_isStep_156 : decode cL_isStep 156 = .ok (.bipush 6, 2) := by decide +kernel
theorem dL_isStep_158 : decode cL_isStep 158 = .ok (.invokevirtual 9, 3) := by decide +kernel
theorem dL_isStep_161 : decode cL_isStep 161 = .ok (.istore 11, 2) := by decide +kernel
theorem dL_isStep_163 : decode cL_isStep 163 = .ok (.aload_n 0, 1) := by decide +kernel
theorem dL_isStep_164 : decode cL_isStep 164 = .ok (.iload 7, 2) := by decide +kernel
theorem dL_isStep_166 : decode cL_isStep 166 = .ok (.iload 8, 2) := by decide +kernel
theorem dL_isStep_168 : decode cL_isStep 168 = .ok (.iload 9, 2) := by decide +kernel
theorem dL_isStep_170 : decode cL_isStep 170 = .ok (.invokevirtual 21, 3) := by decide +kernel
theorem dL_isStep_173 : decode cL_isStep 173 = .ok (.istore 12, 2) := by decide +kernel
theorem dL_isStep_175 : decode cL_isStep 175 = .ok (.iload 12, 2) := by decide +kernel
theorem dL_isStep_177 : decode cL_isStep 177 = .ok (.aload_n 1, 1) := by decide +kernel
theorem dL_isStep_178 : decode cL_isStep 178 = .ok (.iload 7, 2) := by decide +kernel
theorem dL_isStep_180 : decode cL_isStep 180 = .ok (.invokestatic 25, 3) := by decide +kernel
theorem dL_isStep_183 : decode cL_isStep 183 = .ok (.iload 8, 2) := by decide +kernel
theorem dL_isStep_185 : decode cL_isStep 185 = .ok (.iload 9, 2) := by decide +kernel
theorem dL_isStep_187 : decode cL_isStep 187 = .ok (.invokevirtual 21, 3) := by decide +kernel
theorem dL_isStep_190 : decode cL_isStep 190 = .ok (.if_icmp .ne 71, 3) := by decide +kernel
theorem dL_isStep_193 : decode cL_isStep 193 = .ok (.iload 12, 2) := by decide +kernel
theorem dL_isStep_195 : decode cL_isStep 195 = .ok (.aload_n 0, 1) := by decide +kernel
theorem dL_isStep_196 : decode cL_isStep 196 = .ok (.iconst 5, 1) := by decide +kernel
theorem dL_isStep_197 : decode cL_isStep 197 = .ok (.invokevirtual 9, 3) := by decide +kernel
theorem dL_isStep_200 : decode cL_isStep 200 = .ok (.aload_n 0, 1) := by decide +kernel
theorem dL_isStep_201 : decode cL_isStep 201 = .ok (.bipush 6, 2) := by decide +kernel
theorem dL_isStep_203 : decode cL_isStep 203 = .ok (.invokevirtual 9, 3) := by decide +kernel
theorem dL_isStep_206 : decode cL_isStep 206 = .ok (.iadd, 1) := by decide +kernel
theorem dL_isStep_207 : decode cL_isStep 207 = .ok (.iload 10, 2) := by decide +kernel
theorem dL_isStep_209 : decode cL_isStep 209 = .ok (.isub, 1) := by decide +kernel
theorem dL_isStep_210 : decode cL_isStep 210 = .ok (.iload 11, 2) := by decide +kernel
theorem dL_isStep_212 : decode cL_isStep 212 = .ok (.isub, 1) := by decide +kernel
theorem dL_isStep_213 : decode cL_isStep 213 = .ok (.if_icmp .ne 48, 3) := by decide +kernel
theorem dL_isStep_216 : decode cL_isStep 216 = .ok (.iload 12, 2) := by decide +kernel
theorem dL_isStep_218 : decode cL_isStep 218 = .ok (.iconst 1, 1) := by decide +kernel
theorem dL_isStep_219 : decode cL_isStep 219 = .ok (.if_icmp .gt 42, 3) := by decide +kernel
theorem dL_isStep_222 : decode cL_isStep 222 = .ok (.aload_n 0, 1) := by decide +kernel
theorem dL_isStep_223 : decode cL_isStep 223 = .ok (.iconst 0, 1) := by decide +kernel
theorem dL_isStep_224 : decode cL_isStep 224 = .ok (.invokevirtual 9, 3) := by decide +kernel
theorem dL_isStep_227 : decode cL_isStep 227 = .ok (.iload 4, 2) := by decide +kernel
theorem dL_isStep_229 : decode cL_isStep 229 = .ok (.iload 9, 2) := by decide +kernel
theorem dL_isStep_231 : decode cL_isStep 231 = .ok (.iadd, 1) := by decide +kernel
theorem dL_isStep_232 : decode cL_isStep 232 = .ok (.if_icmp .ne 29, 3) := by decide +kernel
theorem dL_isStep_235 : decode cL_isStep 235 = .ok (.aload_n 0, 1) := by decide +kernel
theorem dL_isStep_236 : decode cL_isStep 236 = .ok (.iconst 0, 1) := by decide +kernel
theorem dL_isStep_237 : decode cL_isStep 237 = .ok (.iconst 0, 1) := by decide +kernel
theorem dL_isStep_238 : decode cL_isStep 238 = .ok (.invokevirtual 28, 3) := by decide +kernel
theorem dL_isStep_241 : decode cL_isStep 241 = .ok (.iload 7, 2) := by decide +kernel
theorem dL_isStep_243 : decode cL_isStep 243 = .ok (.if_icmp .ne 18, 3) := by decide +kernel
theorem dL_isStep_246 : decode cL_isStep 246 = .ok (.aload_n 0, 1) := by decide +kernel
theorem dL_isStep_247 : decode cL_isStep 247 = .ok (.iconst 0, 1) := by decide +kernel
theorem dL_isStep_248 : decode cL_isStep 248 = .ok (.iconst 1, 1) := by decide +kernel
theorem dL_isStep_249 : decode cL_isStep 249 = .ok (.invokevirtual 28, 3) := by decide +kernel
theorem dL_isStep_252 : decode cL_isStep 252 = .ok (.iload 8, 2) := by decide +kernel
theorem dL_isStep_254 : decode cL_isStep 254 = .ok (.if_icmp .ne 7, 3) := by decide +kernel
theorem dL_isStep_257 : decode cL_isStep 257 = .ok (.iconst 1, 1) := by decide +kernel
theorem dL_isStep_258 : decode cL_isStep 258 = .ok (.goto 4, 3) := by decide +kernel
theorem dL_isStep_261 : decode cL_isStep 261 = .ok (.iconst 0, 1) := by decide +kernel
theorem dL_isStep_262 : decode cL_isStep 262 = .ok (.ireturn, 1) := by decide +kernel
theorem dL_isStep_263 : decode cL_isStep 263 = .ok (.iconst 1, 1) := by decide +kernel
theorem dL_isStep_264 : decode cL_isStep 264 = .ok (.iload_n 3, 1) := by decide +kernel
theorem dL_isStep_265 : decode cL_isStep 265 = .ok (.iload_n 3, 1) := by decide +kernel
theorem dL_isStep_266 : decode cL_isStep 266 = .ok (.iconst 4, 1) := by decide +kernel
theorem dL_isStep_267 : decode cL_isStep 267 = .ok (.ishr, 1) := by decide +kernel
theorem dL_isStep_268 : decode cL_isStep 268 = .ok (.iconst 3, 1) := by decide +kernel
theorem dL_isStep_269 : decode cL_isStep 269 = .ok (.invokestatic 15, 3) := by decide +kernel
theorem dL_isStep_272 : decode cL_isStep 272 = .ok (.ifCond .ne 8, 3) := by decide +kernel
theorem dL_isStep_275 : decode cL_isStep 275 = .ok (.bipush 40, 2) := by decide +kernel
theorem dL_isStep_277 : decode cL_isStep 277 = .ok (.goto 5, 3) := by decide +kernel
theorem dL_isStep_280 : decode cL_isStep 280 = .ok (.bipush 6, 2) := by decide +kernel
theorem dL_isStep_282 : decode cL_isStep 282 = .ok (.invokestatic 15, 3) := by decide +kernel
theorem dL_isStep_285 : decode cL_isStep 285 = .ok (.iadd, 1) := by decide +kernel
theorem dL_isStep_286 : decode cL_isStep 286 = .ok (.istore 7, 2) := by decide +kernel
theorem dL_isStep_288 : decode cL_isStep 288 = .ok (.iload_n 3, 1) := by decide +kernel
theorem dL_isStep_289 : decode cL_isStep 289 = .ok (.bipush 6, 2) := by decide +kernel
theorem dL_isStep_291 : decode cL_isStep 291 = .ok (.ishr, 1) := by decide +kernel
theorem dL_isStep_292 : decode cL_isStep 292 = .ok (.iconst 3, 1) := by decide +kernel
theorem dL_isStep_293 : decode cL_isStep 293 = .ok (.invokestatic 15, 3) := by decide +kernel
theorem dL_isStep_296 : decode cL_isStep 296 = .ok (.ifCond .ne 7, 3) := by decide +kernel
theorem dL_isStep_299 : decode cL_isStep 299 = .ok (.iconst 1, 1) := by decide +kernel
theorem dL_isStep_300 : decode cL_isStep 300 = .ok (.goto 4, 3) := by decide +kernel
theorem dL_isStep_303 : decode cL_isStep 303 = .ok (.iconst 0, 1) := by decide +kernel
theorem dL_isStep_304 : decode cL_isStep 304 = .ok (.istore 8, 2) := by decide +kernel
theorem dL_isStep_306 : decode cL_isStep 306 = .ok (.aload_n 0, 1) := by decide +kernel
theorem dL_isStep_307 : decode cL_isStep 307 = .ok (.bipush 12, 2) := by decide +kernel
theorem dL_isStep_309 : decode cL_isStep 309 = .ok (.invokevirtual 9, 3) := by decide +kernel
theorem dL_isStep_312 : decode cL_isStep 312 = .ok (.istore 9, 2) := by decide +kernel
theorem dL_isStep_314 : decode cL_isStep 314 = .ok (.aload_n 0, 1) := by decide +kernel
theorem dL_isStep_315 : decode cL_isStep 315 = .ok (.iload 8, 2) := by decide +kernel
theorem dL_isStep_317 : decode cL_isStep 317 = .ok (.ifCond .eq 9, 3) := by decide +kernel
theorem dL_isStep_320 : decode cL_isStep 320 = .ok (.iload 7, 2) := by decide +kernel
theorem dL_isStep_322 : decode cL_isStep 322 = .ok (.ineg, 1) := by decide +kernel
theorem dL_isStep_323 : decode cL_isStep 323 = .ok (.goto 5, 3) := by decide +kernel
theorem dL_isStep_326 : decode cL_isStep 326 = .ok (.iload 7, 2) := by decide +kernel
theorem dL_isStep_328 : decode cL_isStep 328 = .ok (.invokevirtual 31, 3) := by decide +kernel
theorem dL_isStep_331 : decode cL_isStep 331 = .ok (.istore 10, 2) := by decide +kernel
theorem dL_isStep_333 : decode cL_isStep 333 = .ok (.aload_n 1, 1) := by decide +kernel
theorem dL_isStep_334 : decode cL_isStep 334 = .ok (.iload 8, 2) := by decide +kernel
theorem dL_isStep_336 : decode cL_isStep 336 = .ok (.ifCond .eq 8, 3) := by decide +kernel
theorem dL_isStep_339 : decode cL_isStep 339 = .ok (.iload 7, 2) := by decide +kernel
theorem dL_isStep_341 : decode cL_isStep 341 = .ok (.goto 6, 3) := by decide +kernel
theorem dL_isStep_344 : decode cL_isStep 344 = .ok (.iload 7, 2) := by decide +kernel
theorem dL_isStep_346 : decode cL_isStep 346 = .ok (.ineg, 1) := by decide +kernel
theorem dL_isStep_347 : decode cL_isStep 347 = .ok (.invokevirtual 31, 3) := by decide +kernel
theorem dL_isStep_350 : decode cL_isStep 350 = .ok (.istore 11, 2) := by decide +kernel
theorem dL_isStep_352 : decode cL_isStep 352 = .ok (.iload 8, 2) := by decide +kernel
theorem dL_isStep_354 : decode cL_isStep 354 = .ok (.ifCond .eq 14, 3) := by decide +kernel
theorem dL_isStep_357 : decode cL_isStep 357 = .ok (.iload 6, 2) := by decide +kernel
theorem dL_isStep_359 : decode cL_isStep 359 = .ok (.iload 7, 2) := by decide +kernel
theorem dL_isStep_361 : decode cL_isStep 361 = .ok (.iload 6, 2) := by decide +kernel
theorem dL_isStep_363 : decode cL_isStep 363 = .ok (.irem, 1) := by decide +kernel
theorem dL_isStep_364 : decode cL_isStep 364 = .ok (.isub, 1) := by decide +kernel
theorem dL_isStep_365 : decode cL_isStep 365 = .ok (.goto 8, 3) := by decide +kernel
theorem dL_isStep_368 : decode cL_isStep 368 = .ok (.iload 7, 2) := by decide +kernel
theorem dL_isStep_370 : decode cL_isStep 370 = .ok (.iload 6, 2) := by decide +kernel
theorem dL_isStep_372 : decode cL_isStep 372 = .ok (.irem, 1) := by decide +kernel
theorem dL_isStep_373 : decode cL_isStep 373 = .ok (.istore 12, 2) := by decide +kernel
theorem dL_isStep_375 : decode cL_isStep 375 = .ok (.iload 10, 2) := by decide +kernel
theorem dL_isStep_377 : decode cL_isStep 377 = .ok (.iload 5, 2) := by decide +kernel
theorem dL_isStep_379 : decode cL_isStep 379 = .ok (.iload 12, 2) := by decide +kernel
theorem dL_isStep_381 : decode cL_isStep 381 = .ok (.iadd, 1) := by decide +kernel
theorem dL_isStep_382 : decode cL_isStep 382 = .ok (.iload 6, 2) := by decide +kernel
theorem dL_isStep_384 : decode cL_isStep 384 = .ok (.irem, 1) := by decide +kernel
theorem dL_isStep_385 : decode cL_isStep 385 = .ok (.if_icmp .ne 51, 3) := by decide +kernel
theorem dL_isStep_388 : decode cL_isStep 388 = .ok (.iload 11, 2) := by decide +kernel
theorem dL_isStep_390 : decode cL_isStep 390 = .ok (.aload_n 1, 1) := by decide +kernel
theorem dL_isStep_391 : decode cL_isStep 391 = .ok (.iconst 1, 1) := by decide +kernel
theorem dL_isStep_392 : decode cL_isStep 392 = .ok (.invokevirtual 9, 3) := by decide +kernel
theorem dL_isStep_395 : decode cL_isStep 395 = .ok (.if_icmp .ne 41, 3) := by decide +kernel
theorem dL_isStep_398 : decode cL_isStep 398 = .ok (.aload_n 0, 1) := by decide +kernel
theorem dL_isStep_399 : decode cL_isStep 399 = .ok (.iconst 0, 1) := by decide +kernel
theorem dL_isStep_400 : decode cL_isStep 400 = .ok (.invokevirtual 9, 3) := by decide +kernel
theorem dL_isStep_403 : decode cL_isStep 403 = .ok (.iload 4, 2) := by decide +kernel
theorem dL_isStep_405 : decode cL_isStep 405 = .ok (.iload 7, 2) := by decide +kernel
theorem dL_isStep_407 : decode cL_isStep 407 = .ok (.iload 9, 2) := by decide +kernel
theorem dL_isStep_409 : decode cL_isStep 409 = .ok (.imul, 1) := by decide +kernel
theorem dL_isStep_410 : decode cL_isStep 410 = .ok (.iadd, 1) := by decide +kernel
theorem dL_isStep_411 : decode cL_isStep 411 = .ok (.if_icmp .ne 25, 3) := by decide +kernel
theorem dL_isStep_414 : decode cL_isStep 414 = .ok (.aload_n 0, 1) := by decide +kernel
theorem dL_isStep_415 : decode cL_isStep 415 = .ok (.iconst 4, 1) := by decide +kernel
theorem dL_isStep_416 : decode cL_isStep 416 = .ok (.invokevirtual 9, 3) := by decide +kernel
theorem dL_isStep_419 : decode cL_isStep 419 = .ok (.iload 8, 2) := by decide +kernel
theorem dL_isStep_421 : decode cL_isStep 421 = .ok (.ifCond .eq 7, 3) := by decide +kernel
theorem dL_isStep_424 : decode cL_isStep 424 = .ok (.iconst 2, 1) := by decide +kernel
theorem dL_isStep_425 : decode cL_isStep 425 = .ok (.goto 4, 3) := by decide +kernel
theorem dL_isStep_428 : decode cL_isStep 428 = .ok (.iconst 1, 1) := by decide +kernel
theorem dL_isStep_429 : decode cL_isStep 429 = .ok (.if_icmp .ne 7, 3) := by decide +kernel
theorem dL_isStep_432 : decode cL_isStep 432 = .ok (.iconst 1, 1) := by decide +kernel
theorem dL_isStep_433 : decode cL_isStep 433 = .ok (.goto 4, 3) := by decide +kernel
theorem dL_isStep_436 : decode cL_isStep 436 = .ok (.iconst 0, 1) := by decide +kernel
theorem dL_isStep_437 : decode cL_isStep 437 = .ok (.ireturn, 1) := by decide +kernel
theorem dL_isStep_438 : decode cL_isStep 438 = .ok (.iload_n 3, 1) := by decide +kernel
theorem dL_isStep_439 : decode cL_isStep 439 = .ok (.iconst 4, 1) := by decide +kernel
theorem dL_isStep_440 : decode cL_isStep 440 = .ok (.invokestatic 15, 3) := by decide +kernel
theorem dL_isStep_443 : decode cL_isStep 443 = .ok (.ifCond .gt 35, 3) := by decide +kernel
theorem dL_isStep_446 : decode cL_isStep 446 = .ok (.aload_n 0, 1) := by decide +kernel
theorem dL_isStep_447 : decode cL_isStep 447 = .ok (.invokevirtual 34, 3) := by decide +kernel
theorem dL_isStep_450 : decode cL_isStep 450 = .ok (.iload 5, 2) := by decide +kernel
theorem dL_isStep_452 : decode cL_isStep 452 = .ok (.if_icmp .ne 30, 3) := by decide +kernel
theorem dL_isStep_455 : decode cL_isStep 455 = .ok (.aload_n 1, 1) := by decide +kernel
theorem dL_isStep_456 : decode cL_isStep 456 = .ok (.invokevirtual 34, 3) := by decide +kernel
theorem dL_isStep_459 : decode cL_isStep 459 = .ok (.ifCond .lt 23, 3) := by decide +kernel
theorem dL_isStep_462 : decode cL_isStep 462 = .ok (.aload_n 0, 1) := by decide +kernel
theorem dL_isStep_463 : decode cL_isStep 463 = .ok (.iconst 1, 1) := by decide +kernel
theorem dL_isStep_464 : decode cL_isStep 464 = .ok (.invokevirtual 9, 3) := by decide +kernel
theorem dL_isStep_467 : decode cL_isStep 467 = .ok (.ifCond .ne 15, 3) := by decide +kernel
theorem dL_isStep_470 : decode cL_isStep 470 = .ok (.aload_n 0, 1) := by decide +kernel
theorem dL_isStep_471 : decode cL_isStep 471 = .ok (.iconst 2, 1) := by decide +kernel
theorem dL_isStep_472 : decode cL_isStep 472 = .ok (.invokevirtual 9, 3) := by decide +kernel
theorem dL_isStep_475 : decode cL_isStep 475 = .ok (.ifCond .ne 7, 3) := by decide +kernel
theorem dL_isStep_478 : decode cL_isStep 478 = .ok (.iconst 1, 1) := by decide +kernel
theorem dL_isStep_479 : decode cL_isStep 479 = .ok (.goto 4, 3) := by decide +kernel
theorem dL_isStep_482 : decode cL_isStep 482 = .ok (.iconst 0, 1) := by decide +kernel
theorem dL_isStep_483 : decode cL_isStep 483 = .ok (.ireturn, 1) := by decide +kernel
theorem dL_isStep_484 : decode cL_isStep 484 = .ok (.aload_n 0, 1) := by decide +kernel
theorem dL_isStep_485 : decode cL_isStep 485 = .ok (.bipush 16, 2) := by decide +kernel
theorem dL_isStep_487 : decode cL_isStep 487 = .ok (.invokevirtual 9, 3) := by decide +kernel
theorem dL_isStep_490 : decode cL_isStep 490 = .ok (.ifCond .eq 14, 3) := by decide +kernel
theorem dL_isStep_493 : decode cL_isStep 493 = .ok (.aload_n 0, 1) := by decide +kernel
theorem dL_isStep_494 : decode cL_isStep 494 = .ok (.invokevirtual 38, 3) := by decide +kernel
theorem dL_isStep_497 : decode cL_isStep 497 = .ok (.aload_n 1, 1) := by decide +kernel
theorem dL_isStep_498 : decode cL_isStep 498 = .ok (.invokevirtual 38, 3) := by decide +kernel
theorem dL_isStep_501 : decode cL_isStep 501 = .ok (.if_icmp .ne 7, 3) := by decide +kernel
theorem dL_isStep_504 : decode cL_isStep 504 = .ok (.iconst 1, 1) := by decide +kernel
theorem dL_isStep_505 : decode cL_isStep 505 = .ok (.goto 4, 3) := by decide +kernel
theorem dL_isStep_508 : decode cL_isStep 508 = .ok (.iconst 0, 1) := by decide +kernel
theorem dL_isStep_509 : decode cL_isStep 509 = .ok (.ireturn, 1) := by decide +kernel
theorem dL_isStep_510 : decode cL_isStep 510 = .ok (.iconst 2, 1) := by decide +kernel
theorem dL_isStep_511 : decode cL_isStep 511 = .ok (.iload_n 3, 1) := by decide +kernel
theorem dL_isStep_512 : decode cL_isStep 512 = .ok (.iconst 2, 1) := by decide +kernel
theorem dL_isStep_513 : decode cL_isStep 513 = .ok (.invokestatic 15, 3) := by decide +kernel
theorem dL_isStep_516 : decode cL_isStep 516 = .ok (.iadd, 1) := by decide +kernel
theorem dL_isStep_517 : decode cL_isStep 517 = .ok (.istore 7, 2) := by decide +kernel
theorem dL_isStep_519 : decode cL_isStep 519 = .ok (.iload 7, 2) := by decide +kernel
theorem dL_isStep_521 : decode cL_isStep 521 = .ok (.iconst 2, 1) := by decide +kernel
theorem dL_isStep_522 : decode cL_isStep 522 = .ok (.if_icmp .ne 15, 3) := by decide +kernel
theorem dL_isStep_525 : decode cL_isStep 525 = .ok (.iconst 1, 1) := by decide +kernel
theorem dL_isStep_526 : decode cL_isStep 526 = .ok (.iload_n 3, 1) := by decide +kernel
theorem dL_isStep_527 : decode cL_isStep 527 = .ok (.iconst 2, 1) := by decide +kernel
theorem dL_isStep_528 : decode cL_isStep 528 = .ok (.ishr, 1) := by decide +kernel
theorem dL_isStep_529 : decode cL_isStep 529 = .ok (.iconst 5, 1) := by decide +kernel
theorem dL_isStep_530 : decode cL_isStep 530 = .ok (.invokestatic 15, 3) := by decide +kernel
theorem dL_isStep_533 : decode cL_isStep 533 = .ok (.iadd, 1) := by decide +kernel
theorem dL_isStep_534 : decode cL_isStep 534 = .ok (.goto 13, 3) := by decide +kernel
theorem dL_isStep_537 : decode cL_isStep 537 = .ok (.iconst 1, 1) := by decide +kernel
theorem dL_isStep_538 : decode cL_isStep 538 = .ok (.iload_n 3, 1) := by decide +kernel
theorem dL_isStep_539 : decode cL_isStep 539 = .ok (.iconst 2, 1) := by decide +kernel
theorem dL_isStep_540 : decode cL_isStep 540 = .ok (.ishr, 1) := by decide +kernel
theorem dL_isStep_541 : decode cL_isStep 541 = .ok (.bipush 99, 2) := by decide +kernel
theorem dL_isStep_543 : decode cL_isStep 543 = .ok (.invokestatic 15, 3) := by decide +kernel
theorem dL_isStep_546 : decode cL_isStep 546 = .ok (.iadd, 1) := by decide +kernel
theorem dL_isStep_547 : decode cL_isStep 547 = .ok (.istore 8, 2) := by decide +kernel
theorem dL_isStep_549 : decode cL_isStep 549 = .ok (.aload_n 0, 1) := by decide +kernel
theorem dL_isStep_550 : decode cL_isStep 550 = .ok (.iload 7, 2) := by decide +kernel
theorem dL_isStep_552 : decode cL_isStep 552 = .ok (.iload 8, 2) := by decide +kernel
theorem dL_isStep_554 : decode cL_isStep 554 = .ok (.invokevirtual 41, 3) := by decide +kernel
theorem dL_isStep_557 : decode cL_isStep 557 = .ok (.aload_n 1, 1) := by decide +kernel
theorem dL_isStep_558 : decode cL_isStep 558 = .ok (.iload 7, 2) := by decide +kernel
theorem dL_isStep_560 : decode cL_isStep 560 = .ok (.iload 8, 2) := by decide +kernel
theorem dL_isStep_562 : decode cL_isStep 562 = .ok (.invokevirtual 41, 3) := by decide +kernel
theorem dL_isStep_565 : decode cL_isStep 565 = .ok (.if_icmp .ne 21, 3) := by decide +kernel
theorem dL_isStep_568 : decode cL_isStep 568 = .ok (.aload_n 0, 1) := by decide +kernel
theorem dL_isStep_569 : decode cL_isStep 569 = .ok (.bipush 10, 2) := by decide +kernel
theorem dL_isStep_571 : decode cL_isStep 571 = .ok (.iload 7, 2) := by decide +kernel
theorem dL_isStep_573 : decode cL_isStep 573 = .ok (.iadd, 1) := by decide +kernel
theorem dL_isStep_574 : decode cL_isStep 574 = .ok (.invokevirtual 9, 3) := by decide +kernel
theorem dL_isStep_577 : decode cL_isStep 577 = .ok (.iload 8, 2) := by decide +kernel
theorem dL_isStep_579 : decode cL_isStep 579 = .ok (.if_icmp .ne 7, 3) := by decide +kernel
theorem dL_isStep_582 : decode cL_isStep 582 = .ok (.iconst 1, 1) := by decide +kernel
theorem dL_isStep_583 : decode cL_isStep 583 = .ok (.goto 4, 3) := by decide +kernel
theorem dL_isStep_586 : decode cL_isStep 586 = .ok (.iconst 0, 1) := by decide +kernel
theorem dL_isStep_587 : decode cL_isStep 587 = .ok (.ireturn, 1) := by decide +kernel
theorem dL_isStep_588 : decode cL_isStep 588 = .ok (.iload_n 3, 1) := by decide +kernel
theorem dL_isStep_589 : decode cL_isStep 589 = .ok (.iconst 3, 1) := by decide +kernel
theorem dL_isStep_590 : decode cL_isStep 590 = .ok (.invokestatic 15, 3) := by decide +kernel
theorem dL_isStep_593 : decode cL_isStep 593 = .ok (.istore 7, 2) := by decide +kernel
theorem dL_isStep_595 : decode cL_isStep 595 = .ok (.aload_n 0, 1) := by decide +kernel
theorem dL_isStep_596 : decode cL_isStep 596 = .ok (.iconst 4, 1) := by decide +kernel
theorem dL_isStep_597 : decode cL_isStep 597 = .ok (.iload 7, 2) := by decide +kernel
theorem dL_isStep_599 : decode cL_isStep 599 = .ok (.invokevirtual 41, 3) := by decide +kernel
theorem dL_isStep_602 : decode cL_isStep 602 = .ok (.aload_n 1, 1) := by decide +kernel
theorem dL_isStep_603 : decode cL_isStep 603 = .ok (.iconst 4, 1) := by decide +kernel
theorem dL_isStep_604 : decode cL_isStep 604 = .ok (.iload 7, 2) := by decide +kernel
theorem dL_isStep_606 : decode cL_isStep 606 = .ok (.invokevirtual 41, 3) := by decide +kernel
theorem dL_isStep_609 : decode cL_isStep 609 = .ok (.if_icmp .ne 19, 3) := by decide +kernel
theorem dL_isStep_612 : decode cL_isStep 612 = .ok (.aload_n 0, 1) := by decide +kernel
theorem dL_isStep_613 : decode cL_isStep 613 = .ok (.iconst 0, 1) := by decide +kernel
theorem dL_isStep_614 : decode cL_isStep 614 = .ok (.bipush 7, 2) := by decide +kernel
theorem dL_isStep_616 : decode cL_isStep 616 = .ok (.invokevirtual 41, 3) := by decide +kernel
theorem dL_isStep_619 : decode cL_isStep 619 = .ok (.bipush (-2), 2) := by decide +kernel
theorem dL_isStep_621 : decode cL_isStep 621 = .ok (.if_icmp .ne 7, 3) := by decide +kernel
theorem dL_isStep_624 : decode cL_isStep 624 = .ok (.iconst 1, 1) := by decide +kernel
theorem dL_isStep_625 : decode cL_isStep 625 = .ok (.goto 4, 3) := by decide +kernel
theorem dL_isStep_628 : decode cL_isStep 628 = .ok (.iconst 0, 1) := by decide +kernel
theorem dL_isStep_629 : decode cL_isStep 629 = .ok (.ireturn, 1) := by decide +kernel
theorem dL_against_0 : decode cL_against 0 = .ok (.iload_n 0, 1) := by decide +kernel
theorem dL_against_1 : decode cL_against 1 = .ok (.ifCond .ne 7, 3) := by decide +kernel
theorem dL_against_4 : decode cL_against 4 = .ok (.iconst 0, 1) := by decide +kernel
theorem dL_against_5 : decode cL_against 5 = .ok (.goto 6, 3) := by decide +kernel
theorem dL_against_8 : decode cL_against 8 = .ok (.iload_n 1, 1) := by decide +kernel
theorem dL_against_9 : decode cL_against 9 = .ok (.iload_n 0, 1) := by decide +kernel
theorem dL_against_10 : decode cL_against 10 = .ok (.isub, 1) := by decide +kernel
theorem dL_against_11 : decode cL_against 11 = .ok (.ireturn, 1) := by decide +kernel
set_option maxRecDepth 20000 in
theorem ggL_areAlike_X5_count : GoodIn wsL_areAlike wsX5_count := goodIn_r _ [6, 7, 8, 9, 10, 11, 12, 13, 14, 15, 16, 17, 18, 19, 20, 21, 22, 23, 24, 25, 26, 27, 28, 29, 30, 31, 32, 33, 34, 35, 181, 182, 183, 184, 185, 186, 187, 188, 189, 190, 191, 192, 193, 194, 195, 196, 197, 198, 199, 200, 201, 202, 203, 204, 205, 206, 207, 208, 209, 210] (by decide +kernel) (by decide +kernel)
set_option maxRecDepth 20000 in
theorem gL_areAlike_X5_count : GoodIn wsL_areAlike (wsV RL 9 RX5 yX5_count wsX5_count) := goodIn_app (goodIn_of _ (by decide +kernel)) ggL_areAlike_X5_count
set_option maxRecDepth 20000 in
theorem ggL_areAlike_L_up : GoodIn wsL_areAlike wsL_up := goodIn_r _ [39, 40] (by decide +kernel) (by decide +kernel)
set_option maxRecDepth 20000 in
theorem gL_areAlike_L_up : GoodIn wsL_areAlike (va_wsS RL 15 yL_up wsL_up) := goodIn_app (goodIn_of _ (by decide +kernel)) ggL_areAlike_L_up
set_option maxRecDepth 20000 in
theorem ggL_areAlike_L_against : GoodIn wsL_areAlike wsL_against := goodIn_r _ [43] (by decide +kernel) (by decide +kernel)
set_option maxRecDepth 20000 in
theorem gL_areAlike_L_against : GoodIn wsL_areAlike (va_wsS RL 44 yL_against wsL_against) := goodIn_app (goodIn_of _ (by decide +kernel)) ggL_areAlike_L_against
set_option maxRecDepth 20000 in
theorem ggL_areAlike_L_there : GoodIn wsL_areAlike wsL_there := goodIn_r _ [46] (by decide +kernel) (by decide +kernel)
set_option maxRecDepth 20000 in
theorem gL_areAlike_L_there : GoodIn wsL_areAlike (va_wsS RL 25 yL_there wsL_there) := goodIn_app (goodIn_of _ (by decide +kernel)) ggL_areAlike_L_there
set_option maxRecDepth 20000 in
theorem ggL_areAlike_L_way : GoodIn wsL_areAlike wsL_way := goodIn_r _ [49] (by decide +kernel) (by decide +kernel)
set_option maxRecDepth 20000 in
theorem gL_areAlike_L_way : GoodIn wsL_areAlike (va_wsS RL 47 yL_way wsL_way) := goodIn_app (goodIn_of _ (by decide +kernel)) ggL_areAlike_L_way
set_option maxRecDepth 20000 in
theorem ggL_areAlike_X5_speed : GoodIn wsL_areAlike wsX5_speed := goodIn_r _ [53, 7, 54, 55, 56, 57, 24, 58, 27, 28, 29, 30, 59, 32, 33, 34, 35, 60, 22, 23, 25, 26, 61, 62, 63, 64, 65, 66, 67, 68, 69, 70, 71, 72, 73, 181, 182, 183, 184, 185, 186, 187, 188, 189, 190, 191, 192, 193, 194, 195, 196, 197, 198, 199, 200, 201] (by decide +kernel) (by decide +kernel)
set_option maxRecDepth 20000 in
theorem gL_areAlike_X5_speed : GoodIn wsL_areAlike (wsV RL 50 RX5 yX5_speed wsX5_speed) := goodIn_app (goodIn_of _ (by decide +kernel)) ggL_areAlike_X5_speed
set_option maxRecDepth 20000 in
theorem ggL_areAlike_X5_noise : GoodIn wsL_areAlike wsX5_noise := goodIn_r _ [77, 7, 13, 14, 15, 78, 79, 80, 81, 82, 181, 182, 183, 184, 185, 186, 187, 188, 189, 190, 191, 192, 193, 194, 195, 196, 197, 198, 199, 200, 201] (by decide +kernel) (by decide +kernel)
set_option maxRecDepth 20000 in
theorem gL_areAlike_X5_noise : GoodIn wsL_areAlike (wsV RL 53 RX5 yX5_noise wsX5_noise) := goodIn_app (goodIn_of _ (by decide +kernel)) ggL_areAlike_X5_noise
set_option maxRecDepth 20000 in
theorem ggL_areAlike_X5_rate : GoodIn wsL_areAlike wsX5_rate := goodIn_r _ [86, 7, 54, 12, 87, 31, 32, 33, 24, 34, 35, 88, 89, 80, 90, 91, 92, 93, 181, 182, 183, 184, 185, 186, 187, 188, 189, 190, 191, 192, 193, 194, 195, 196, 197, 198, 199, 200, 201] (by decide +kernel) (by decide +kernel)
set_option maxRecDepth 20000 in
theorem gL_areAlike_X5_rate : GoodIn wsL_areAlike (wsV RL 56 RX5 yX5_rate wsX5_rate) := goodIn_app (goodIn_of _ (by decide +kernel)) ggL_areAlike_X5_rate
set_option maxRecDepth 20000 in
theorem ggL_areAlike_X5_log : GoodIn wsL_areAlike wsX5_log := goodIn_r _ [97, 7, 98, 71, 72, 24, 73, 60, 22, 23, 25, 26, 27, 28, 29, 30, 99, 100, 101, 102, 65, 66, 67, 68, 69, 70, 103, 104, 105, 106, 107, 62, 63, 64, 181, 182, 183, 184, 185, 186, 187, 188, 189, 190, 191, 192, 193, 194, 195, 196, 197, 198, 199, 200, 201] (by decide +kernel) (by decide +kernel)
set_option maxRecDepth 20000 in
theorem gL_areAlike_X5_log : GoodIn wsL_areAlike (wsV RL 28 RX5 yX5_log wsX5_log) := goodIn_app (goodIn_of _ (by decide +kernel)) ggL_areAlike_X5_log
set_option maxRecDepth 20000 in
theorem ggL_areAlike_X5_would : GoodIn wsL_areAlike wsX5_would := goodIn_r _ [111, 7, 112, 113, 114, 24, 115, 116, 117, 118, 119, 120, 121, 122, 59, 32, 33, 34, 35, 123, 124, 125, 181, 182, 183, 184, 185, 186, 187, 188, 189, 190, 191, 192, 193, 194, 195, 196, 197, 198, 199, 200, 201] (by decide +kernel) (by decide +kernel)
set_option maxRecDepth 20000 in
theorem gL_areAlike_X5_would : GoodIn wsL_areAlike (wsV RL 62 RX5 yX5_would wsX5_would) := goodIn_app (goodIn_of _ (by decide +kernel)) ggL_areAlike_X5_would
set_option maxRecDepth 20000 in
theorem ggL_areAlike_X5_deeds : GoodIn wsL_areAlike wsX5_deeds := goodIn_r _ [129, 7, 21, 22, 23, 24, 25, 26, 27, 28, 29, 30, 107, 62, 63, 64, 65, 66, 67, 68, 69, 70, 71, 72, 73, 60, 181, 182, 183, 184, 185, 186, 187, 188, 189, 190, 191, 192, 193, 194, 195, 196, 197, 198, 199, 200, 201] (by decide +kernel) (by decide +kernel)
set_option maxRecDepth 20000 in
theorem gL_areAlike_X5_deeds : GoodIn wsL_areAlike (wsV RL 65 RX5 yX5_deeds wsX5_deeds) := goodIn_app (goodIn_of _ (by decide +kernel)) ggL_areAlike_X5_deeds
set_option maxRecDepth 20000 in
theorem ggL_areAlike_X5_replay : GoodIn wsL_areAlike wsX5_replay := goodIn_r _ [133, 134, 135, 136, 7, 13, 14, 15, 9, 137, 138, 139, 24, 140, 35, 141, 142, 143, 144, 145, 146, 147, 148, 26, 149, 150, 116, 121, 151, 122, 152, 153, 154, 155, 156, 157, 158, 60, 22, 23, 25, 27, 28, 29, 30, 159, 100, 101, 102, 65, 66, 67, 68, 69, 70, 71, 72, 73, 160, 104, 105, 106, 161, 162, 163, 164, 165, 113, 114, 115, 117, 118, 119, 120, 59, 32, 33, 34, 123, 124, 125, 166, 167, 168, 169, 170, 171, 172, 173, 174, 175, 176, 181, 182, 183, 184, 185, 186, 187, 188, 189, 190, 191, 192, 193, 194, 195, 196, 197, 198, 199, 200, 201] (by decide +kernel) (by decide +kernel)
set_option maxRecDepth 20000 in
theorem gL_areAlike_X5_replay : GoodIn wsL_areAlike (wsV RL 68 RX5 yX5_replay wsX5_replay) := goodIn_app (goodIn_of _ (by decide +kernel)) ggL_areAlike_X5_replay
set_option maxRecDepth 20000 in
theorem ggL_areAlike_X5_bestFilter : GoodIn wsL_areAlike wsX5_bestFilter := goodIn_r _ [180, 134, 135, 136, 7, 15, 137, 138, 139, 24, 140, 35, 141, 142, 143, 144, 145, 146, 147, 148, 26, 149, 150, 116, 121, 151, 122, 152, 153, 154, 155, 156, 157, 158, 60, 22, 23, 25, 27, 28, 29, 30, 159, 100, 101, 102, 65, 66, 67, 68, 69, 70, 71, 72, 73, 160, 104, 105, 106, 161, 162, 163, 164, 165, 113, 114, 115, 117, 118, 119, 120, 59, 32, 33, 34, 123, 124, 125, 166, 167, 168, 169, 170, 171, 172, 173, 174, 175, 176, 181, 182, 183, 184, 185, 186, 187, 188, 189, 190, 191, 192, 193, 194, 195, 196, 197, 198, 199, 200, 201] (by decide +kernel) (by decide +kernel)
set_option maxRecDepth 20000 in
theorem gL_areAlike_X5_bestFilter : GoodIn wsL_areAlike (wsV RL 71 RX5 yX5_bestFilter wsX5_bestFilter) := goodIn_app (goodIn_of _ (by decide +kernel)) ggL_areAlike_X5_bestFilter
