theorem dL_two_0 : decode cL_two 0 = .ok (.new 8, 3) := by decide +kernel
theorem dL_two_3 : decode cL_two 3 = .ok (.dup, 1) := by decide +kernel
theorem dL_two_4 : decode cL_two 4 = .ok (.invokespecial 108, 3) := by decide +kernel
theorem dL_two_7 : decode cL_two 7 = .ok (.astore_n 0, 1) := by decide +kernel
theorem dL_two_8 : decode cL_two 8 = .ok (.ldc 21, 2) := by decide +kernel
theorem dL_two_10 : decode cL_two 10 = .ok (.istore_n 1, 1) := by decide +kernel
theorem dL_two_11 : decode cL_two 11 = .ok (.aload_n 0, 1) := by decide +kernel
theorem dL_two_12 : decode cL_two 12 = .ok (.iconst 0, 1) := by decide +kernel
theorem dL_two_13 : decode cL_two 13 = .ok (.iconst 0, 1) := by decide +kernel
theorem dL_two_14 : decode cL_two 14 = .ok (.iconst 0, 1) := by decide +kernel
theorem dL_two_15 : decode cL_two 15 = .ok (.invokestatic 109, 3) := by decide +kernel
theorem dL_two_18 : decode cL_two 18 = .ok (.ifCond .eq 270, 3) := by decide +kernel
theorem dL_two_21 : decode cL_two 21 = .ok (.aload_n 0, 1) := by decide +kernel
theorem dL_two_22 : decode cL_two 22 = .ok (.invokevirtual 113, 3) := by decide +kernel
theorem dL_two_25 : decode cL_two 25 = .ok (.ifCond .ne 263, 3) := by decide +kernel
theorem dL_two_28 : decode cL_two 28 = .ok (.aload_n 0, 1) := by decide +kernel
theorem dL_two_29 : decode cL_two 29 = .ok (.iconst 3, 1) := by decide +kernel
theorem dL_two_30 : decode cL_two 30 = .ok (.invokevirtual 68, 3) := by decide +kernel
theorem dL_two_33 : decode cL_two 33 = .ok (.ifCond .ne 255, 3) := by decide +kernel
theorem dL_two_36 : decode cL_two 36 = .ok (.aload_n 0, 1) := by decide +kernel
theorem dL_two_37 : decode cL_two 37 = .ok (.invokestatic 116, 3) := by decide +kernel
theorem dL_two_40 : decode cL_two 40 = .ok (.ifCond .eq 248, 3) := by decide +kernel
theorem dL_two_43 : decode cL_two 43 = .ok (.aload_n 0, 1) := by decide +kernel
theorem dL_two_44 : decode cL_two 44 = .ok (.iconst 3, 1) := by decide +kernel
theorem dL_two_45 : decode cL_two 45 = .ok (.iconst 0, 1) := by decide +kernel
theorem dL_two_46 : decode cL_two 46 = .ok (.sipush 1000, 3) := by decide +kernel
theorem dL_two_49 : decode cL_two 49 = .ok (.iconst 0, 1) := by decide +kernel
theorem dL_two_50 : decode cL_two 50 = .ok (.iconst 0, 1) := by decide +kernel
theorem dL_two_51 : decode cL_two 51 = .ok (.bipush 100, 2) := by decide +kernel
theorem dL_two_53 : decode cL_two 53 = .ok (.invokevirtual 7, 3) := by decide +kernel
theorem dL_two_56 : decode cL_two 56 = .ok (.ifCond .ne 232, 3) := by decide +kernel
theorem dL_two_59 : decode cL_two 59 = .ok (.aload_n 0, 1) := by decide +kernel
theorem dL_two_60 : decode cL_two 60 = .ok (.iconst 2, 1) := by decide +kernel
theorem dL_two_61 : decode cL_two 61 = .ok (.iconst 1, 1) := by decide +kernel
theorem dL_two_62 : decode cL_two 62 = .ok (.sipush 1000, 3) := by decide +kernel
theorem dL_two_65 : decode cL_two 65 = .ok (.sipush 500, 3) := by decide +kernel
theorem dL_two_68 : decode cL_two 68 = .ok (.iconst 1, 1) := by decide +kernel
theorem dL_two_69 : decode cL_two 69 = .ok (.sipush 200, 3) := by decide +kernel
theorem dL_two_72 : decode cL_two 72 = .ok (.invokevirtual 7, 3) := by decide +kernel
theorem dL_two_75 : decode cL_two 75 = .ok (.iconst 1, 1) := by decide +kernel
theorem dL_two_76 : decode cL_two 76 = .ok (.if_icmp .ne 212, 3) := by decide +kernel
theorem dL_two_79 : decode cL_two 79 = .ok (.aload_n 0, 1) := by decide +kernel
theorem dL_two_80 : decode cL_two 80 = .ok (.iconst 0, 1) := by decide +kernel
theorem dL_two_81 : decode cL_two 81 = .ok (.invokevirtual 47, 3) := by decide +kernel
theorem dL_two_84 : decode cL_two 84 = .ok (.sipush 1000, 3) := by decide +kernel
theorem dL_two_87 : decode cL_two 87 = .ok (.if_icmp .ne 201, 3) := by decide +kernel
theorem dL_two_90 : decode cL_two 90 = .ok (.aload_n 0, 1) := by decide +kernel
theorem dL_two_91 : decode cL_two 91 = .ok (.iconst 1, 1) := by decide +kernel
theorem dL_two_92 : decode cL_two 92 = .ok (.invokevirtual 47, 3) := by decide +kernel
theorem dL_two_95 : decode cL_two 95 = .ok (.sipush 1200, 3) := by decide +kernel
theorem dL_two_98 : decode cL_two 98 = .ok (.if_icmp .ne 190, 3) := by decide +kernel
theorem dL_two_101 : decode cL_two 101 = .ok (.aload_n 0, 1) := by decide +kernel
theorem dL_two_102 : decode cL_two 102 = .ok (.sipush 1600, 3) := by decide +kernel
theorem dL_two_105 : decode cL_two 105 = .ok (.sipush 2200, 3) := by decide +kernel
theorem dL_two_108 : decode cL_two 108 = .ok (.sipush 1600, 3) := by decide +kernel
theorem dL_two_111 : decode cL_two 111 = .ok (.invokestatic 109, 3) := by decide +kernel
theorem dL_two_114 : decode cL_two 114 = .ok (.ifCond .eq 174, 3) := by decide +kernel
theorem dL_two_117 : decode cL_two 117 = .ok (.aload_n 0, 1) := by decide +kernel
theorem dL_two_118 : decode cL_two 118 = .ok (.iconst 1, 1) := by decide +kernel
theorem dL_two_119 : decode cL_two 119 = .ok (.sipush 1200, 3) := by decide +kernel
theorem dL_two_122 : decode cL_two 122 = .ok (.sipush 600, 3) := by decide +kernel
theorem dL_two_125 : decode cL_two 125 = .ok (.invokestatic 120, 3) := by decide +kernel
theorem dL_two_128 : decode cL_two 128 = .ok (.ifCond .eq 160, 3) := by decide +kernel
theorem dL_two_131 : decode cL_two 131 = .ok (.aload_n 0, 1) := by decide +kernel
theorem dL_two_132 : decode cL_two 132 = .ok (.invokevirtual 113, 3) := by decide +kernel
theorem dL_two_135 : decode cL_two 135 = .ok (.iconst 3, 1) := by decide +kernel
theorem dL_two_136 : decode cL_two 136 = .ok (.if_icmp .ne 152, 3) := by decide +kernel
theorem dL_two_139 : decode cL_two 139 = .ok (.aload_n 0, 1) := by decide +kernel
theorem dL_two_140 : decode cL_two 140 = .ok (.sipush 500, 3) := by decide +kernel
theorem dL_two_143 : decode cL_two 143 = .ok (.bipush 20, 2) := by decide +kernel
theorem dL_two_145 : decode cL_two 145 = .ok (.iconst 0, 1) := by decide +kernel
theorem dL_two_146 : decode cL_two 146 = .ok (.bipush 100, 2) := by decide +kernel
theorem dL_two_148 : decode cL_two 148 = .ok (.iconst 3, 1) := by decide +kernel
theorem dL_two_149 : decode cL_two 149 = .ok (.invokevirtual 22, 3) := by decide +kernel
theorem dL_two_152 : decode cL_two 152 = .ok (.ifCond .ne 136, 3) := by decide +kernel
theorem dL_two_155 : decode cL_two 155 = .ok (.aload_n 0, 1) := by decide +kernel
theorem dL_two_156 : decode cL_two 156 = .ok (.iconst 0, 1) := by decide +kernel
theorem dL_two_157 : decode cL_two 157 = .ok (.iconst 0, 1) := by decide +kernel
theorem dL_two_158 : decode cL_two 158 = .ok (.invokevirtual 53, 3) := by decide +kernel
theorem dL_two_161 : decode cL_two 161 = .ok (.sipush 400, 3) := by decide +kernel
theorem dL_two_164 : decode cL_two 164 = .ok (.if_icmp .ne 124, 3) := by decide +kernel
theorem dL_two_167 : decode cL_two 167 = .ok (.aload_n 0, 1) := by decide +kernel
theorem dL_two_168 : decode cL_two 168 = .ok (.iconst 0, 1) := by decide +kernel
theorem dL_two_169 : decode cL_two 169 = .ok (.iconst 1, 1) := by decide +kernel
theorem dL_two_170 : decode cL_two 170 = .ok (.invokevirtual 53, 3) := by decide +kernel
theorem dL_two_173 : decode cL_two 173 = .ok (.sipush 184, 3) := by decide +kernel
theorem dL_two_176 : decode cL_two 176 = .ok (.if_icmp .ne 112, 3) := by decide +kernel
theorem dL_two_179 : decode cL_two 179 = .ok (.aload_n 0, 1) := by decide +kernel
theorem dL_two_180 : decode cL_two 180 = .ok (.iconst 0, 1) := by decide +kernel
theorem dL_two_181 : decode cL_two 181 = .ok (.invokevirtual 56, 3) := by decide +kernel
theorem dL_two_184 : decode cL_two 184 = .ok (.ifCond .ne 104, 3) := by decide +kernel
theorem dL_two_187 : decode cL_two 187 = .ok (.aload_n 0, 1) := by decide +kernel
theorem dL_two_188 : decode cL_two 188 = .ok (.sipush 1200, 3) := by decide +kernel
theorem dL_two_191 : decode cL_two 191 = .ok (.sipush 2200, 3) := by decide +kernel
theorem dL_two_194 : decode cL_two 194 = .ok (.sipush 1540, 3) := by decide +kernel
theorem dL_two_197 : decode cL_two 197 = .ok (.invokestatic 109, 3) := by decide +kernel
theorem dL_two_200 : decode cL_two 200 = .ok (.ifCond .eq 88, 3) := by decide +kernel
theorem dL_two_203 : decode cL_two 203 = .ok (.aload_n 0, 1) := by decide +kernel
theorem dL_two_204 : decode cL_two 204 = .ok (.iconst 0, 1) := by decide +kernel
theorem dL_two_205 : decode cL_two 205 = .ok (.sipush 600, 3) := by decide +kernel
theorem dL_two_208 : decode cL_two 208 = .ok (.sipush 600, 3) := by decide +kernel
theorem dL_two_211 : decode cL_two 211 = .ok (.invokestatic 120, 3) := by decide +kernel
theorem dL_two_214 : decode cL_two 214 = .ok (.ifCond .eq 74, 3) := by decide +kernel
theorem dL_two_217 : decode cL_two 217 = .ok (.aload_n 0, 1) := by decide +kernel
theorem dL_two_218 : decode cL_two 218 = .ok (.iconst 0, 1) := by decide +kernel
theorem dL_two_219 : decode cL_two 219 = .ok (.invokevirtual 65, 3) := by decide +kernel
theorem dL_two_222 : decode cL_two 222 = .ok (.sipush 400, 3) := by decide +kernel
theorem dL_two_225 : decode cL_two 225 = .ok (.if_icmp .ne 63, 3) := by decide +kernel
theorem dL_two_228 : decode cL_two 228 = .ok (.aload_n 0, 1) := by decide +kernel
theorem dL_two_229 : decode cL_two 229 = .ok (.iconst 0, 1) := by decide +kernel
theorem dL_two_230 : decode cL_two 230 = .ok (.iconst 1, 1) := by decide +kernel
theorem dL_two_231 : decode cL_two 231 = .ok (.sipush 300, 3) := by decide +kernel
theorem dL_two_234 : decode cL_two 234 = .ok (.invokevirtual 44, 3) := by decide +kernel
theorem dL_two_237 : decode cL_two 237 = .ok (.ifCond .ne 51, 3) := by decide +kernel
theorem dL_two_240 : decode cL_two 240 = .ok (.aload_n 0, 1) := by decide +kernel
theorem dL_two_241 : decode cL_two 241 = .ok (.sipush 960, 3) := by decide +kernel
theorem dL_two_244 : decode cL_two 244 = .ok (.sipush 2200, 3) := by decide +kernel
theorem dL_two_247 : decode cL_two 247 = .ok (.sipush 1540, 3) := by decide +kernel
theorem dL_two_250 : decode cL_two 250 = .ok (.invokestatic 109, 3) := by decide +kernel
theorem dL_two_253 : decode cL_two 253 = .ok (.ifCond .eq 35, 3) := by decide +kernel
theorem dL_two_256 : decode cL_two 256 = .ok (.aload_n 0, 1) := by decide +kernel
theorem dL_two_257 : decode cL_two 257 = .ok (.iconst 0, 1) := by decide +kernel
theorem dL_two_258 : decode cL_two 258 = .ok (.sipush 600, 3) := by decide +kernel
theorem dL_two_261 : decode cL_two 261 = .ok (.sipush 360, 3) := by decide +kernel
theorem dL_two_264 : decode cL_two 264 = .ok (.invokestatic 120, 3) := by decide +kernel
theorem dL_two_267 : decode cL_two 267 = .ok (.ifCond .eq 21, 3) := by decide +kernel
theorem dL_two_270 : decode cL_two 270 = .ok (.aload_n 0, 1) := by decide +kernel
theorem dL_two_271 : decode cL_two 271 = .ok (.iconst 0, 1) := by decide +kernel
theorem dL_two_272 : decode cL_two 272 = .ok (.invokevirtual 65, 3) := by decide +kernel
theorem dL_two_275 : decode cL_two 275 = .ok (.sipush 400, 3) := by decide +kernel
theorem dL_two_278 : decode cL_two 278 = .ok (.if_icmp .ne 10, 3) := by decide +kernel
theorem dL_two_281 : decode cL_two 281 = .ok (.aload_n 0, 1) := by decide +kernel
theorem dL_two_282 : decode cL_two 282 = .ok (.invokestatic 116, 3) := by decide +kernel
theorem dL_two_285 : decode cL_two 285 = .ok (.ifCond .ne 5, 3) := by decide +kernel
theorem dL_two_288 : decode cL_two 288 = .ok (.iconst 0, 1) := by decide +kernel
theorem dL_two_289 : decode cL_two 289 = .ok (.ireturn, 1) := by decide +kernel
theorem dL_two_290 : decode cL_two 290 = .ok (.aload_n 0, 1) := by decide +kernel
theorem dL_two_291 : decode cL_two 291 = .ok (.sipush 700, 3) := by decide +kernel
theorem dL_two_294 : decode cL_two 294 = .ok (.iconst 0, 1) := by decide +kernel
theorem dL_two_295 : decode cL_two 295 = .ok (.iconst 1, 1) := by decide +kernel
theorem dL_two_296 : decode cL_two 296 = .ok (.sipush 365, 3) := by decide +kernel
theorem dL_two_299 : decode cL_two 299 = .ok (.iconst 3, 1) := by decide +kernel
theorem dL_two_300 : decode cL_two 300 = .ok (.invokevirtual 22, 3) := by decide +kernel
theorem dL_two_303 : decode cL_two 303 = .ok (.iconst 1, 1) := by decide +kernel
theorem dL_two_304 : decode cL_two 304 = .ok (.if_icmp .ne 312, 3) := by decide +kernel
theorem dL_two_307 : decode cL_two 307 = .ok (.aload_n 0, 1) := by decide +kernel
theorem dL_two_308 : decode cL_two 308 = .ok (.iconst 1, 1) := by decide +kernel
theorem dL_two_309 : decode cL_two 309 = .ok (.iconst 0, 1) := by decide +kernel
theorem dL_two_310 : decode cL_two 310 = .ok (.invokevirtual 53, 3) := by decide +kernel
theorem dL_two_313 : decode cL_two 313 = .ok (.sipush 644, 3) := by decide +kernel
theorem dL_two_316 : decode cL_two 316 = .ok (.if_icmp .ne 300, 3) := by decide +kernel
theorem dL_two_319 : decode cL_two 319 = .ok (.aload_n 0, 1) := by decide +kernel
theorem dL_two_320 : decode cL_two 320 = .ok (.iconst 1, 1) := by decide +kernel
theorem dL_two_321 : decode cL_two 321 = .ok (.iconst 1, 1) := by decide +kernel
theorem dL_two_322 : decode cL_two 322 = .ok (.invokevirtual 53, 3) := by decide +kernel
theorem dL_two_325 : decode cL_two 325 = .ok (.sipush 700, 3) := by decide +kernel
theorem dL_two_328 : decode cL_two 328 = .ok (.if_icmp .ne 288, 3) := by decide +kernel
theorem dL_two_331 : decode cL_two 331 = .ok (.aload_n 0, 1) := by decide +kernel
theorem dL_two_332 : decode cL_two 332 = .ok (.sipush 600, 3) := by decide +kernel
theorem dL_two_335 : decode cL_two 335 = .ok (.sipush 2200, 3) := by decide +kernel
theorem dL_two_338 : decode cL_two 338 = .ok (.sipush 1540, 3) := by decide +kernel
theorem dL_two_341 : decode cL_two 341 = .ok (.invokestatic 109, 3) := by decide +kernel
theorem dL_two_344 : decode cL_two 344 = .ok (.ifCond .eq 272, 3) := by decide +kernel
theorem dL_two_347 : decode cL_two 347 = .ok (.aload_n 0, 1) := by decide +kernel
theorem dL_two_348 : decode cL_two 348 = .ok (.iconst 0, 1) := by decide +kernel
theorem dL_two_349 : decode cL_two 349 = .ok (.invokevirtual 56, 3) := by decide +kernel
theorem dL_two_352 : decode cL_two 352 = .ok (.ifCond .ne 264, 3) := by decide +kernel
theorem dL_two_355 : decode cL_two 355 = .ok (.aload_n 0, 1) := by decide +kernel
theorem dL_two_356 : decode cL_two 356 = .ok (.iconst 1, 1) := by decide +kernel
theorem dL_two_357 : decode cL_two 357 = .ok (.invokevirtual 56, 3) := by decide +kernel
theorem dL_two_360 : decode cL_two 360 = .ok (.ifCond .ne 256, 3) := by decide +kernel
theorem dL_two_363 : decode cL_two 363 = .ok (.aload_n 0, 1) := by decide +kernel
theorem dL_two_364 : decode cL_two 364 = .ok (.iconst 0, 1) := by decide +kernel
theorem dL_two_365 : decode cL_two 365 = .ok (.iconst 0, 1) := by decide +kernel
theorem dL_two_366 : decode cL_two 366 = .ok (.iconst 0, 1) := by decide +kernel
theorem dL_two_367 : decode cL_two 367 = .ok (.invokestatic 120, 3) := by decide +kernel
theorem dL_two_370 : decode cL_two 370 = .ok (.ifCond .eq 246, 3) := by decide +kernel
theorem dL_two_373 : decode cL_two 373 = .ok (.aload_n 0, 1) := by decide +kernel
theorem dL_two_374 : decode cL_two 374 = .ok (.iconst 1, 1) := by decide +kernel
theorem dL_two_375 : decode cL_two 375 = .ok (.sipush 1200, 3) := by decide +kernel
theorem dL_two_378 : decode cL_two 378 = .ok (.sipush 600, 3) := by decide +kernel
theorem dL_two_381 : decode cL_two 381 = .ok (.invokestatic 120, 3) := by decide +kernel
theorem dL_two_384 : decode cL_two 384 = .ok (.ifCond .eq 232, 3) := by decide +kernel
theorem dL_two_387 : decode cL_two 387 = .ok (.aload_n 0, 1) := by decide +kernel
theorem dL_two_388 : decode cL_two 388 = .ok (.iconst 0, 1) := by decide +kernel
theorem dL_two_389 : decode cL_two 389 = .ok (.invokevirtual 65, 3) := by decide +kernel
theorem dL_two_392 : decode cL_two 392 = .ok (.bipush 116, 2) := by decide +kernel
theorem dL_two_394 : decode cL_two 394 = .ok (.if_icmp .ne 222, 3) := by decide +kernel
theorem dL_two_397 : decode cL_two 397 = .ok (.aload_n 0, 1) := by decide +kernel
theorem dL_two_398 : decode cL_two 398 = .ok (.iconst 1, 1) := by decide +kernel
theorem dL_two_399 : decode cL_two 399 = .ok (.invokevirtual 65, 3) := by decide +kernel
theorem dL_two_402 : decode cL_two 402 = .ok (.sipush 360, 3) := by decide +kernel
theorem dL_two_405 : decode cL_two 405 = .ok (.if_icmp .ne 211, 3) := by decide +kernel
theorem dL_two_408 : decode cL_two 408 = .ok (.aload_n 0, 1) := by decide +kernel
theorem dL_two_409 : decode cL_two 409 = .ok (.iconst 1, 1) := by decide +kernel
theorem dL_two_410 : decode cL_two 410 = .ok (.iconst 3, 1) := by decide +kernel
theorem dL_two_411 : decode cL_two 411 = .ok (.invokevirtual 41, 3) := by decide +kernel
theorem dL_two_414 : decode cL_two 414 = .ok (.iconst 2, 1) := by decide +kernel
theorem dL_two_415 : decode cL_two 415 = .ok (.if_icmp .ne 201, 3) := by decide +kernel
theorem dL_two_418 : decode cL_two 418 = .ok (.aload_n 0, 1) := by decide +kernel
theorem dL_two_419 : decode cL_two 419 = .ok (.sipush 860, 3) := by decide +kernel
theorem dL_two_422 : decode cL_two 422 = .ok (.sipush 2200, 3) := by decide +kernel
theorem dL_two_425 : decode cL_two 425 = .ok (.sipush 1540, 3) := by decide +kernel
theorem dL_two_428 : decode cL_two 428 = .ok (.invokestatic 109, 3) := by decide +kernel
theorem dL_two_431 : decode cL_two 431 = .ok (.ifCond .eq 185, 3) := by decide +kernel
theorem dL_two_434 : decode cL_two 434 = .ok (.aload_n 0, 1) := by decide +kernel
theorem dL_two_435 : decode cL_two 435 = .ok (.iconst 0, 1) := by decide +kernel
theorem dL_two_436 : decode cL_two 436 = .ok (.invokevirtual 56, 3) := by decide +kernel
theorem dL_two_439 : decode cL_two 439 = .ok (.ifCond .ne 177, 3) := by decide +kernel
theorem dL_two_442 : decode cL_two 442 = .ok (.aload_n 0, 1) := by decide +kernel
theorem dL_two_443 : decode cL_two 443 = .ok (.iconst 1, 1) := by decide +kernel
theorem dL_two_444 : decode cL_two 444 = .ok (.invokevirtual 56, 3) := by decide +kernel
theorem dL_two_447 : decode cL_two 447 = .ok (.iconst 1, 1) := by decide +kernel
theorem dL_two_448 : decode cL_two 448 = .ok (.if_icmp .ne 168, 3) := by decide +kernel
theorem dL_two_451 : decode cL_two 451 = .ok (.aload_n 0, 1) := by decide +kernel
theorem dL_two_452 : decode cL_two 452 = .ok (.iconst 0, 1) := by decide +kernel
theorem dL_two_453 : decode cL_two 453 = .ok (.sipush 600, 3) := by decide +kernel
theorem dL_two_456 : decode cL_two 456 = .ok (.sipush 360, 3) := by decide +kernel
theorem dL_two_459 : decode cL_two 459 = .ok (.invokestatic 120, 3) := by decide +kernel
theorem dL_two_462 : decode cL_two 462 = .ok (.ifCond .eq 154, 3) := by decide +kernel
theorem dL_two_465 : decode cL_two 465 = .ok (.aload_n 0, 1) := by decide +kernel
theorem dL_two_466 : decode cL_two 466 = .ok (.iconst 1, 1) := by decide +kernel
theorem dL_two_467 : decode cL_two 467 = .ok (.sipush 500, 3) := by decide +kernel
theorem dL_two_470 : decode cL_two 470 = .ok (.sipush 500, 3) := by decide +kernel
theorem dL_two_473 : decode cL_two 473 = .ok (.invokestatic 120, 3) := by decide +kernel
theorem dL_two_476 : decode cL_two 476 = .ok (.ifCond .eq 140, 3) := by decide +kernel
theorem dL_two_479 : decode cL_two 479 = .ok (.aload_n 0, 1) := by decide +kernel
theorem dL_two_480 : decode cL_two 480 = .ok (.bipush 30, 2) := by decide +kernel
theorem dL_two_482 : decode cL_two 482 = .ok (.invokevirtual 30, 3) := by decide +kernel
theorem dL_two_485 : decode cL_two 485 = .ok (.bipush 70, 2) := by decide +kernel
theorem dL_two_487 : decode cL_two 487 = .ok (.if_icmp .ne 129, 3) := by decide +kernel
theorem dL_two_490 : decode cL_two 490 = .ok (.aload_n 0, 1) := by decide +kernel
theorem dL_two_491 : decode cL_two 491 = .ok (.sipush 860, 3) := by decide +kernel
theorem dL_two_494 : decode cL_two 494 = .ok (.sipush 2200, 3) := by decide +kernel
theorem dL_two_497 : decode cL_two 497 = .ok (.sipush 860, 3) := by decide +kernel
theorem dL_two_500 : decode cL_two 500 = .ok (.invokestatic 109, 3) := by decide +kernel
theorem dL_two_503 : decode cL_two 503 = .ok (.ifCond .eq 113, 3) := by decide +kernel
theorem dL_two_506 : decode cL_two 506 = .ok (.aload_n 0, 1) := by decide +kernel
theorem dL_two_507 : decode cL_two 507 = .ok (.iconst 1, 1) := by decide +kernel
theorem dL_two_508 : decode cL_two 508 = .ok (.bipush 100, 2) := by decide +kernel
theorem dL_two_510 : decode cL_two 510 = .ok (.iconst 0, 1) := by decide +kernel
theorem dL_two_511 : decode cL_two 511 = .ok (.iconst 1, 1) := by decide +kernel
theorem dL_two_512 : decode cL_two 512 = .ok (.sipush 255, 3) := by decide +kernel
theorem dL_two_515 : decode cL_two 515 = .ok (.invokevirtual 22, 3) := by decide +kernel
theorem dL_two_518 : decode cL_two 518 = .ok (.iconst 2, 1) := by decide +kernel
theorem dL_two_519 : decode cL_two 519 = .ok (.if_icmp .ne 97, 3) := by decide +kernel
theorem dL_two_522 : decode cL_two 522 = .ok (.aload_n 0, 1) := by decide +kernel
theorem dL_two_523 : decode cL_two 523 = .ok (.iconst 2, 1) := by decide +kernel
theorem dL_two_524 : decode cL_two 524 = .ok (.iconst 1, 1) := by decide +kernel
theorem dL_two_525 : decode cL_two 525 = .ok (.invokevirtual 53, 3) := by decide +kernel
theorem dL_two_528 : decode cL_two 528 = .ok (.ifCond .ne 88, 3) := by decide +kernel
theorem dL_two_531 : decode cL_two 531 = .ok (.aload_n 0, 1) := by decide +kernel
theorem dL_two_532 : decode cL_two 532 = .ok (.iconst 2, 1) := by decide +kernel
theorem dL_two_533 : decode cL_two 533 = .ok (.invokevirtual 56, 3) := by decide +kernel
theorem dL_two_536 : decode cL_two 536 = .ok (.ifCond .ne 80, 3) := by decide +kernel
theorem dL_two_539 : decode cL_two 539 = .ok (.aload_n 0, 1) := by decide +kernel
theorem dL_two_540 : decode cL_two 540 = .ok (.iconst 2, 1) := by decide +kernel
theorem dL_two_541 : decode cL_two 541 = .ok (.invokevirtual 65, 3) := by decide +kernel
theorem dL_two_544 : decode cL_two 544 = .ok (.ifCond .ne 72, 3) := by decide +kernel
theorem dL_two_547 : decode cL_two 547 = .ok (.aload_n 0, 1) := by decide +kernel
theorem dL_two_548 : decode cL_two 548 = .ok (.iconst 2, 1) := by decide +kernel
theorem dL_two_549 : decode cL_two 549 = .ok (.iconst 1, 1) := by decide +kernel
theorem dL_two_550 : decode cL_two 550 = .ok (.iconst 2, 1) := by decide +kernel
theorem dL_two_551 : decode cL_two 551 = .ok (.invokevirtual 50, 3) := by decide +kernel
theorem dL_two_554 : decode cL_two 554 = .ok (.iconst 1, 1) := by decide +kernel
theorem dL_two_555 : decode cL_two 555 = .ok (.if_icmp .ne 61, 3) := by decide +kernel
theorem dL_two_558 : decode cL_two 558 = .ok (.aload_n 0, 1) := by decide +kernel
theorem dL_two_559 : decode cL_two 559 = .ok (.iconst 2, 1) := by decide +kernel
theorem dL_two_560 : decode cL_two 560 = .ok (.invokevirtual 56, 3) := by decide +kernel
theorem dL_two_563 : decode cL_two 563 = .ok (.iconst 1, 1) := by decide +kernel
theorem dL_two_564 : decode cL_two 564 = .ok (.if_icmp .ne 52, 3) := by decide +kernel
theorem dL_two_567 : decode cL_two 567 = .ok (.aload_n 0, 1) := by decide +kernel
theorem dL_two_568 : decode cL_two 568 = .ok (.iconst 2, 1) := by decide +kernel
theorem dL_two_569 : decode cL_two 569 = .ok (.iconst 5, 1) := by decide +kernel
theorem dL_two_570 : decode cL_two 570 = .ok (.sipush 252, 3) := by decide +kernel
theorem dL_two_573 : decode cL_two 573 = .ok (.invokevirtual 50, 3) := by decide +kernel
theorem dL_two_576 : decode cL_two 576 = .ok (.iconst 1, 1) := by decide +kernel
theorem dL_two_577 : decode cL_two 577 = .ok (.if_icmp .ne 39, 3) := by decide +kernel
theorem dL_two_580 : decode cL_two 580 = .ok (.aload_n 0, 1) := by decide +kernel
theorem dL_two_581 : decode cL_two 581 = .ok (.iconst 2, 1) := by decide +kernel
theorem dL_two_582 : decode cL_two 582 = .ok (.invokevirtual 56, 3) := by decide +kernel
theorem dL_two_585 : decode cL_two 585 = .ok (.iconst (-1), 1) := by decide +kernel
theorem dL_two_586 : decode cL_two 586 = .ok (.if_icmp .ne 30, 3) := by decide +kernel
theorem dL_two_589 : decode cL_two 589 = .ok (.aload_n 0, 1) := by decide +kernel
theorem dL_two_590 : decode cL_two 590 = .ok (.iconst 2, 1) := by decide +kernel
theorem dL_two_591 : decode cL_two 591 = .ok (.iconst 1, 1) := by decide +kernel
theorem dL_two_592 : decode cL_two 592 = .ok (.iconst 0, 1) := by decide +kernel
theorem dL_two_593 : decode cL_two 593 = .ok (.invokevirtual 50, 3) := by decide +kernel
theorem dL_two_596 : decode cL_two 596 = .ok (.iconst 5, 1) := by decide +kernel
theorem dL_two_597 : decode cL_two 597 = .ok (.if_icmp .ne 19, 3) := by decide +kernel
theorem dL_two_600 : decode cL_two 600 = .ok (.aload_n 0, 1) := by decide +kernel
theorem dL_two_601 : decode cL_two 601 = .ok (.iconst 2, 1) := by decide +kernel
theorem dL_two_602 : decode cL_two 602 = .ok (.invokevirtual 56, 3) := by decide +kernel
theorem dL_two_605 : decode cL_two 605 = .ok (.iconst (-1), 1) := by decide +kernel
theorem dL_two_606 : decode cL_two 606 = .ok (.if_icmp .ne 10, 3) := by decide +kernel
theorem dL_two_609 : decode cL_two 609 = .ok (.aload_n 0, 1) := by decide +kernel
theorem dL_two_610 : decode cL_two 610 = .ok (.invokestatic 116, 3) := by decide +kernel
theorem dL_two_613 : decode cL_two 613 = .ok (.ifCond .ne 5, 3) := by decide +kernel
theorem dL_two_616 : decode cL_two 616 = .ok (.iconst 0, 1) := by decide +kernel
theorem dL_two_617 : decode cL_two 617 = .ok (.ireturn, 1) := by decide +kernel
theorem dL_two_618 : decode cL_two 618 = .ok (.aload_n 0, 1) := by decide +kernel
theorem dL_two_619 : decode cL_two 619 = .ok (.iconst 0, 1) := by decide +kernel
theorem dL_two_620 : decode cL_two 620 = .ok (.invokevirtual 68, 3) := by decide +kernel
theorem dL_two_623 : decode cL_two 623 = .ok (.sipush 600, 3) := by decide +kernel
theorem dL_two_626 : decode cL_two 626 = .ok (.if_icmp .ne 334, 3) := by decide +kernel
theorem dL_two_629 : decode cL_two 629 = .ok (.aload_n 0, 1) := by decide +kernel
theorem dL_two_630 : decode cL_two 630 = .ok (.iconst 1, 1) := by decide +kernel
theorem dL_two_631 : decode cL_two 631 = .ok (.invokevirtual 68, 3) := by decide +kernel
theorem dL_two_634 : decode cL_two 634 = .ok (.sipush 500, 3) := by decide +kernel
theorem dL_two_637 : decode cL_two 637 = .ok (.if_icmp .ne 323, 3) := by decide +kernel
theorem dL_two_640 : decode cL_two 640 = .ok (.aload_n 0, 1) := by decide +kernel
theorem dL_two_641 : decode cL_two 641 = .ok (.sipush 2400, 3) := by decide +kernel
theorem dL_two_644 : decode cL_two 644 = .ok (.invokevirtual 34, 3) := by decide +kernel
theorem dL_two_647 : decode cL_two 647 = .ok (.ifCond .ne 313, 3) := by decide +kernel
theorem dL_two_650 : decode cL_two 650 = .ok (.aload_n 0, 1) := by decide +kernel
theorem dL_two_651 : decode cL_two 651 = .ok (.invokevirtual 113, 3) := by decide +kernel
theorem dL_two_654 : decode cL_two 654 = .ok (.ifCond .ne 306, 3) := by decide +kernel
theorem dL_two_657 : decode cL_two 657 = .ok (.aload_n 0, 1) := by decide +kernel
theorem dL_two_658 : decode cL_two 658 = .ok (.sipush 2399, 3) := by decide +kernel
theorem dL_two_661 : decode cL_two 661 = .ok (.invokevirtual 34, 3) := by decide +kernel
theorem dL_two_664 : decode cL_two 664 = .ok (.sipush 2400, 3) := by decide +kernel
theorem dL_two_667 : decode cL_two 667 = .ok (.if_icmp .ne 293, 3) := by decide +kernel
theorem dL_two_670 : decode cL_two 670 = .ok (.aload_n 0, 1) := by decide +kernel
theorem dL_two_671 : decode cL_two 671 = .ok (.invokevirtual 113, 3) := by decide +kernel
theorem dL_two_674 : decode cL_two 674 = .ok (.iconst 1, 1) := by decide +kernel
theorem dL_two_675 : decode cL_two 675 = .ok (.if_icmp .ne 285, 3) := by decide +kernel
theorem dL_two_678 : decode cL_two 678 = .ok (.aload_n 0, 1) := by decide +kernel
theorem dL_two_679 : decode cL_two 679 = .ok (.sipush 1999, 3) := by decide +kernel
theorem dL_two_682 : decode cL_two 682 = .ok (.invokevirtual 34, 3) := by decide +kernel
theorem dL_two_685 : decode cL_two 685 = .ok (.sipush 2399, 3) := by decide +kernel
theorem dL_two_688 : decode cL_two 688 = .ok (.if_icmp .ne 272, 3) := by decide +kernel
theorem dL_two_691 : decode cL_two 691 = .ok (.aload_n 0, 1) := by decide +kernel
theorem dL_two_692 : decode cL_two 692 = .ok (.invokevirtual 113, 3) := by decide +kernel
theorem dL_two_695 : decode cL_two 695 = .ok (.iconst 3, 1) := by decide +kernel
theorem dL_two_696 : decode cL_two 696 = .ok (.if_icmp .ne 264, 3) := by decide +kernel
theorem dL_two_699 : decode cL_two 699 = .ok (.aload_n 0, 1) := by decide +kernel
theorem dL_two_700 : decode cL_two 700 = .ok (.iconst 1, 1) := by decide +kernel
theorem dL_two_701 : decode cL_two 701 = .ok (.sipush 300, 3) := by decide +kernel
theorem dL_two_704 : decode cL_two 704 = .ok (.invokevirtual 37, 3) := by decide +kernel
theorem dL_two_707 : decode cL_two 707 = .ok (.sipush 1300, 3) := by decide +kernel
theorem dL_two_710 : decode cL_two 710 = .ok (.if_icmp .ne 250, 3) := by decide +kernel
theorem dL_two_713 : decode cL_two 713 = .ok (.aload_n 0, 1) := by decide +kernel
theorem dL_two_714 : decode cL_two 714 = .ok (.iconst 1, 1) := by decide +kernel
theorem dL_two_715 : decode cL_two 715 = .ok (.invokevirtual 47, 3) := by decide +kernel
theorem dL_two_718 : decode cL_two 718 = .ok (.sipush 1380, 3) := by decide +kernel
theorem dL_two_721 : decode cL_two 721 = .ok (.if_icmp .ne 239, 3) := by decide +kernel
theorem dL_two_724 : decode cL_two 724 = .ok (.aload_n 0, 1) := by decide +kernel
theorem dL_two_725 : decode cL_two 725 = .ok (.iconst 1, 1) := by decide +kernel
theorem dL_two_726 : decode cL_two 726 = .ok (.bipush 100, 2) := by decide +kernel
theorem dL_two_728 : decode cL_two 728 = .ok (.bipush 50, 2) := by decide +kernel
theorem dL_two_730 : decode cL_two 730 = .ok (.invokevirtual 26, 3) := by decide +kernel
theorem dL_two_733 : decode cL_two 733 = .ok (.bipush 20, 2) := by decide +kernel
theorem dL_two_735 : decode cL_two 735 = .ok (.if_icmp .ne 225, 3) := by decide +kernel
theorem dL_two_738 : decode cL_two 738 = .ok (.aload_n 0, 1) := by decide +kernel
theorem dL_two_739 : decode cL_two 739 = .ok (.iconst 0, 1) := by decide +kernel
theorem dL_two_740 : decode cL_two 740 = .ok (.sipush 600, 3) := by decide +kernel
theorem dL_two_743 : decode cL_two 743 = .ok (.sipush 600, 3) := by decide +kernel
theorem dL_two_746 : decode cL_two 746 = .ok (.invokestatic 120, 3) := by decide +kernel
theorem dL_two_749 : decode cL_two 749 = .ok (.ifCond .eq 211, 3) := by decide +kernel
theorem dL_two_752 : decode cL_two 752 = .ok (.aload_n 0, 1) := by decide +kernel
theorem dL_two_753 : decode cL_two 753 = .ok (.iconst 1, 1) := by decide +kernel
theorem dL_two_754 : decode cL_two 754 = .ok (.bipush 99, 2) := by decide +kernel
theorem dL_two_756 : decode cL_two 756 = .ok (.bipush 50, 2) := by decide +kernel
theorem dL_two_758 : decode cL_two 758 = .ok (.invokevirtual 26, 3) := by decide +kernel
theorem dL_two_761 : decode cL_two 761 = .ok (.bipush 100, 2) := by decide +kernel
theorem dL_two_763 : decode cL_two 763 = .ok (.if_icmp .ne 197, 3) := by decide +kernel
theorem dL_two_766 : decode cL_two 766 = .ok (.aload_n 0, 1) := by decide +kernel
theorem dL_two_767 : decode cL_two 767 = .ok (.iconst 0, 1) := by decide +kernel
theorem dL_two_768 : decode cL_two 768 = .ok (.sipush 600, 3) := by decide +kernel
theorem dL_two_771 : decode cL_two 771 = .ok (.sipush 597, 3) := by decide +kernel
theorem dL_two_774 : decode cL_two 774 = .ok (.invokestatic 120, 3) := by decide +kernel
theorem dL_two_777 : decode cL_two 777 = .ok (.ifCond .eq 183, 3) := by decide +kernel
theorem dL_two_780 : decode cL_two 780 = .ok (.aload_n 0, 1) := by decide +kernel
theorem dL_two_781 : decode cL_two 781 = .ok (.iconst 0, 1) := by decide +kernel
theorem dL_two_782 : decode cL_two 782 = .ok (.iconst 3, 1) := by decide +kernel
theorem dL_two_783 : decode cL_two 783 = .ok (.bipush 50, 2) := by decide +kernel
theorem dL_two_785 : decode cL_two 785 = .ok (.invokevirtual 44, 3) := by decide +kernel
theorem dL_two_788 : decode cL_two 788 = .ok (.sipush 300, 3) := by decide +kernel
theorem dL_two_791 : decode cL_two 791 = .ok (.if_icmp .ne 169, 3) := by decide +kernel
theorem dL_two_794 : decode cL_two 794 = .ok (.aload_n 0, 1) := by decide +kernel
theorem dL_two_795 : decode cL_two 795 = .ok (.iconst 0, 1) := by decide +kernel
theorem dL_two_796 : decode cL_two 796 = .ok (.sipush 600, 3) := by decide +kernel
theorem dL_two_799 : decode cL_two 799 = .ok (.sipush 600, 3) := by decide +kernel
theorem dL_two_802 : decode cL_two 802 = .ok (.invokestatic 120, 3) := by decide +kernel
theorem dL_two_805 : decode cL_two 805 = .ok (.ifCond .eq 155, 3) := by decide +kernel
theorem dL_two_808 : decode cL_two 808 = .ok (.aload_n 0, 1) := by decide +kernel
theorem dL_two_809 : decode cL_two 809 = .ok (.iconst 0, 1) := by decide +kernel
theorem dL_two_810 : decode cL_two 810 = .ok (.iconst 0, 1) := by decide +kernel
theorem dL_two_811 : decode cL_two 811 = .ok (.iconst 0, 1) := by decide +kernel
theorem dL_two_812 : decode cL_two 812 = .ok (.invokevirtual 44, 3) := by decide +kernel
theorem dL_two_815 : decode cL_two 815 = .ok (.bipush 50, 2) := by decide +kernel
theorem dL_two_817 : decode cL_two 817 = .ok (.if_icmp .ne 143, 3) := by decide +kernel
theorem dL_two_820 : decode cL_two 820 = .ok (.aload_n 0, 1) := by decide +kernel
theorem dL_two_821 : decode cL_two 821 = .ok (.iconst 0, 1) := by decide +kernel
theorem dL_two_822 : decode cL_two 822 = .ok (.sipush 600, 3) := by decide +kernel
theorem dL_two_825 : decode cL_two 825 = .ok (.sipush 600, 3) := by decide +kernel
theorem dL_two_828 : decode cL_two 828 = .ok (.invokestatic 120, 3) := by decide +kernel
theorem dL_two_831 : decode cL_two 831 = .ok (.ifCond .eq 129, 3) := by decide +kernel
theorem dL_two_834 : decode cL_two 834 = .ok (.aload_n 0, 1) := by decide +kernel
theorem dL_two_835 : decode cL_two 835 = .ok (.iconst 3, 1) := by decide +kernel
theorem dL_two_836 : decode cL_two 836 = .ok (.sipush 400, 3) := by decide +kernel
theorem dL_two_839 : decode cL_two 839 = .ok (.iconst 0, 1) := by decide +kernel
theorem dL_two_840 : decode cL_two 840 = .ok (.invokevirtual 26, 3) := by decide +kernel
theorem dL_two_843 : decode cL_two 843 = .ok (.bipush 100, 2) := by decide +kernel
theorem dL_two_845 : decode cL_two 845 = .ok (.if_icmp .ne 115, 3) := by decide +kernel
theorem dL_two_848 : decode cL_two 848 = .ok (.aload_n 0, 1) := by decide +kernel
theorem dL_two_849 : decode cL_two 849 = .ok (.invokevirtual 81, 3) := by decide +kernel
theorem dL_two_852 : decode cL_two 852 = .ok (.ifCond .ne 108, 3) := by decide +kernel
theorem dL_two_855 : decode cL_two 855 = .ok (.aload_n 0, 1) := by decide +kernel
theorem dL_two_856 : decode cL_two 856 = .ok (.invokevirtual 105, 3) := by decide +kernel
theorem dL_two_859 : decode cL_two 859 = .ok (.aload_n 0, 1) := by decide +kernel
theorem dL_two_860 : decode cL_two 860 = .ok (.invokevirtual 78, 3) := by decide +kernel
theorem dL_two_863 : decode cL_two 863 = .ok (.if_icmp .ne 97, 3) := by decide +kernel
theorem dL_two_866 : decode cL_two 866 = .ok (.aload_n 0, 1) := by decide +kernel
theorem dL_two_867 : decode cL_two 867 = .ok (.iconst 3, 1) := by decide +kernel
theorem dL_two_868 : decode cL_two 868 = .ok (.iconst 1, 1) := by decide +kernel
theorem dL_two_869 : decode cL_two 869 = .ok (.sipush 201, 3) := by decide +kernel
theorem dL_two_872 : decode cL_two 872 = .ok (.iconst 0, 1) := by decide +kernel
theorem dL_two_873 : decode cL_two 873 = .ok (.invokestatic 86, 3) := by decide +kernel
theorem dL_two_876 : decode cL_two 876 = .ok (.iload_n 1, 1) := by decide +kernel
theorem dL_two_877 : decode cL_two 877 = .ok (.if_icmp .ne 83, 3) := by decide +kernel
theorem dL_two_880 : decode cL_two 880 = .ok (.aload_n 0, 1) := by decide +kernel
theorem dL_two_881 : decode cL_two 881 = .ok (.iconst 3, 1) := by decide +kernel
theorem dL_two_882 : decode cL_two 882 = .ok (.iconst 1, 1) := by decide +kernel
theorem dL_two_883 : decode cL_two 883 = .ok (.sipush (-1301), 3) := by decide +kernel
theorem dL_two_886 : decode cL_two 886 = .ok (.iconst 0, 1) := by decide +kernel
theorem dL_two_887 : decode cL_two 887 = .ok (.invokestatic 86, 3) := by decide +kernel
theorem dL_two_890 : decode cL_two 890 = .ok (.iload_n 1, 1) := by decide +kernel
theorem dL_two_891 : decode cL_two 891 = .ok (.if_icmp .ne 69, 3) := by decide +kernel
theorem dL_two_894 : decode cL_two 894 = .ok (.aload_n 0, 1) := by decide +kernel
theorem dL_two_895 : decode cL_two 895 = .ok (.iconst 1, 1) := by decide +kernel
theorem dL_two_896 : decode cL_two 896 = .ok (.sipush (-1300), 3) := by decide +kernel
theorem dL_two_899 : decode cL_two 899 = .ok (.invokevirtual 37, 3) := by decide +kernel
theorem dL_two_902 : decode cL_two 902 = .ok (.ifCond .ne 58, 3) := by decide +kernel
theorem dL_two_905 : decode cL_two 905 = .ok (.aload_n 0, 1) := by decide +kernel
theorem dL_two_906 : decode cL_two 906 = .ok (.iconst 1, 1) := by decide +kernel
theorem dL_two_907 : decode cL_two 907 = .ok (.invokevirtual 47, 3) := by decide +kernel
theorem dL_two_910 : decode cL_two 910 = .ok (.sipush 600, 3) := by decide +kernel
theorem dL_two_913 : decode cL_two 913 = .ok (.if_icmp .ne 47, 3) := by decide +kernel
theorem dL_two_916 : decode cL_two 916 = .ok (.aload_n 0, 1) := by decide +kernel
theorem dL_two_917 : decode cL_two 917 = .ok (.iconst 1, 1) := by decide +kernel
theorem dL_two_918 : decode cL_two 918 = .ok (.iconst 0, 1) := by decide +kernel
theorem dL_two_919 : decode cL_two 919 = .ok (.invokevirtual 37, 3) := by decide +kernel
theorem dL_two_922 : decode cL_two 922 = .ok (.ifCond .ne 38, 3) := by decide +kernel
theorem dL_two_925 : decode cL_two 925 = .ok (.aload_n 0, 1) := by decide +kernel
theorem dL_two_926 : decode cL_two 926 = .ok (.iconst 0, 1) := by decide +kernel
theorem dL_two_927 : decode cL_two 927 = .ok (.invokevirtual 56, 3) := by decide +kernel
theorem dL_two_930 : decode cL_two 930 = .ok (.ifCond .ne 30, 3) := by decide +kernel
theorem dL_two_933 : decode cL_two 933 = .ok (.aload_n 0, 1) := by decide +kernel
theorem dL_two_934 : decode cL_two 934 = .ok (.iconst 1, 1) := by decide +kernel
theorem dL_two_935 : decode cL_two 935 = .ok (.invokevirtual 56, 3) := by decide +kernel
theorem dL_two_938 : decode cL_two 938 = .ok (.ifCond .ne 22, 3) := by decide +kernel
theorem dL_two_941 : decode cL_two 941 = .ok (.aload_n 0, 1) := by decide +kernel
theorem dL_two_942 : decode cL_two 942 = .ok (.iconst 0, 1) := by decide +kernel
theorem dL_two_943 : decode cL_two 943 = .ok (.invokevirtual 59, 3) := by decide +kernel
theorem dL_two_946 : decode cL_two 946 = .ok (.ifCond .ne 14, 3) := by decide +kernel
theorem dL_two_949 : decode cL_two 949 = .ok (.aload_n 0, 1) := by decide +kernel
theorem dL_two_950 : decode cL_two 950 = .ok (.invokestatic 116, 3) := by decide +kernel
theorem dL_two_953 : decode cL_two 953 = .ok (.ifCond .eq 7, 3) := by decide +kernel
theorem dL_two_956 : decode cL_two 956 = .ok (.iconst 1, 1) := by decide +kernel
theorem dL_two_957 : decode cL_two 957 = .ok (.goto 4, 3) := by decide +kernel
theorem dL_two_960 : decode cL_two 960 = .ok (.iconst 0, 1) := by decide +kernel
theorem dL_two_961 : decode cL_two 961 = .ok (.ireturn, 1) := by decide +kernel
