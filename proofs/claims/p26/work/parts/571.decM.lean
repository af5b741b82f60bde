theorem dL_many_0 : decode cL_many 0 = .ok (.new 8, 3) := by decide +kernel
theorem dL_many_3 : decode cL_many 3 = .ok (.dup, 1) := by decide +kernel
theorem dL_many_4 : decode cL_many 4 = .ok (.invokespecial 108, 3) := by decide +kernel
theorem dL_many_7 : decode cL_many 7 = .ok (.astore_n 0, 1) := by decide +kernel
theorem dL_many_8 : decode cL_many 8 = .ok (.iconst 0, 1) := by decide +kernel
theorem dL_many_9 : decode cL_many 9 = .ok (.istore_n 1, 1) := by decide +kernel
theorem dL_many_10 : decode cL_many 10 = .ok (.iload_n 1, 1) := by decide +kernel
theorem dL_many_11 : decode cL_many 11 = .ok (.bipush 9, 2) := by decide +kernel
theorem dL_many_13 : decode cL_many 13 = .ok (.if_icmp .ge 40, 3) := by decide +kernel
theorem dL_many_16 : decode cL_many 16 = .ok (.aload_n 0, 1) := by decide +kernel
theorem dL_many_17 : decode cL_many 17 = .ok (.iconst 3, 1) := by decide +kernel
theorem dL_many_18 : decode cL_many 18 = .ok (.iload_n 1, 1) := by decide +kernel
theorem dL_many_19 : decode cL_many 19 = .ok (.iconst 4, 1) := by decide +kernel
theorem dL_many_20 : decode cL_many 20 = .ok (.irem, 1) := by decide +kernel
theorem dL_many_21 : decode cL_many 21 = .ok (.bipush 100, 2) := by decide +kernel
theorem dL_many_23 : decode cL_many 23 = .ok (.iconst 0, 1) := by decide +kernel
theorem dL_many_24 : decode cL_many 24 = .ok (.iconst 0, 1) := by decide +kernel
theorem dL_many_25 : decode cL_many 25 = .ok (.bipush 10, 2) := by decide +kernel
theorem dL_many_27 : decode cL_many 27 = .ok (.invokestatic 93, 3) := by decide +kernel
theorem dL_many_30 : decode cL_many 30 = .ok (.iload_n 1, 1) := by decide +kernel
theorem dL_many_31 : decode cL_many 31 = .ok (.bipush 8, 2) := by decide +kernel
theorem dL_many_33 : decode cL_many 33 = .ok (.if_icmp .ge 7, 3) := by decide +kernel
theorem dL_many_36 : decode cL_many 36 = .ok (.iload_n 1, 1) := by decide +kernel
theorem dL_many_37 : decode cL_many 37 = .ok (.goto 5, 3) := by decide +kernel
theorem dL_many_40 : decode cL_many 40 = .ok (.ldc 21, 2) := by decide +kernel
theorem dL_many_42 : decode cL_many 42 = .ok (.if_icmp .eq 5, 3) := by decide +kernel
theorem dL_many_45 : decode cL_many 45 = .ok (.iconst 0, 1) := by decide +kernel
theorem dL_many_46 : decode cL_many 46 = .ok (.ireturn, 1) := by decide +kernel
theorem dL_many_47 : decode cL_many 47 = .ok (.iinc 1 1, 3) := by decide +kernel
theorem dL_many_50 : decode cL_many 50 = .ok (.goto (-40), 3) := by decide +kernel
theorem dL_many_53 : decode cL_many 53 = .ok (.iconst 0, 1) := by decide +kernel
theorem dL_many_54 : decode cL_many 54 = .ok (.istore_n 1, 1) := by decide +kernel
theorem dL_many_55 : decode cL_many 55 = .ok (.iload_n 1, 1) := by decide +kernel
theorem dL_many_56 : decode cL_many 56 = .ok (.bipush 6, 2) := by decide +kernel
theorem dL_many_58 : decode cL_many 58 = .ok (.if_icmp .ge 38, 3) := by decide +kernel
theorem dL_many_61 : decode cL_many 61 = .ok (.aload_n 0, 1) := by decide +kernel
theorem dL_many_62 : decode cL_many 62 = .ok (.bipush 60, 2) := by decide +kernel
theorem dL_many_64 : decode cL_many 64 = .ok (.iconst 0, 1) := by decide +kernel
theorem dL_many_65 : decode cL_many 65 = .ok (.iconst 0, 1) := by decide +kernel
theorem dL_many_66 : decode cL_many 66 = .ok (.bipush 10, 2) := by decide +kernel
theorem dL_many_68 : decode cL_many 68 = .ok (.sipush 255, 3) := by decide +kernel
theorem dL_many_71 : decode cL_many 71 = .ok (.invokestatic 97, 3) := by decide +kernel
theorem dL_many_74 : decode cL_many 74 = .ok (.iload_n 1, 1) := by decide +kernel
theorem dL_many_75 : decode cL_many 75 = .ok (.iconst 5, 1) := by decide +kernel
theorem dL_many_76 : decode cL_many 76 = .ok (.if_icmp .ge 7, 3) := by decide +kernel
theorem dL_many_79 : decode cL_many 79 = .ok (.iload_n 1, 1) := by decide +kernel
theorem dL_many_80 : decode cL_many 80 = .ok (.goto 5, 3) := by decide +kernel
theorem dL_many_83 : decode cL_many 83 = .ok (.ldc 21, 2) := by decide +kernel
theorem dL_many_85 : decode cL_many 85 = .ok (.if_icmp .eq 5, 3) := by decide +kernel
theorem dL_many_88 : decode cL_many 88 = .ok (.iconst 0, 1) := by decide +kernel
theorem dL_many_89 : decode cL_many 89 = .ok (.ireturn, 1) := by decide +kernel
theorem dL_many_90 : decode cL_many 90 = .ok (.iinc 1 1, 3) := by decide +kernel
theorem dL_many_93 : decode cL_many 93 = .ok (.goto (-38), 3) := by decide +kernel
theorem dL_many_96 : decode cL_many 96 = .ok (.aload_n 0, 1) := by decide +kernel
theorem dL_many_97 : decode cL_many 97 = .ok (.sipush 500, 3) := by decide +kernel
theorem dL_many_100 : decode cL_many 100 = .ok (.sipush 800, 3) := by decide +kernel
theorem dL_many_103 : decode cL_many 103 = .ok (.sipush 560, 3) := by decide +kernel
theorem dL_many_106 : decode cL_many 106 = .ok (.invokestatic 109, 3) := by decide +kernel
theorem dL_many_109 : decode cL_many 109 = .ok (.ifCond .eq 139, 3) := by decide +kernel
theorem dL_many_112 : decode cL_many 112 = .ok (.aload_n 0, 1) := by decide +kernel
theorem dL_many_113 : decode cL_many 113 = .ok (.iconst 0, 1) := by decide +kernel
theorem dL_many_114 : decode cL_many 114 = .ok (.invokevirtual 56, 3) := by decide +kernel
theorem dL_many_117 : decode cL_many 117 = .ok (.ifCond .ne 131, 3) := by decide +kernel
theorem dL_many_120 : decode cL_many 120 = .ok (.aload_n 0, 1) := by decide +kernel
theorem dL_many_121 : decode cL_many 121 = .ok (.iconst 1, 1) := by decide +kernel
theorem dL_many_122 : decode cL_many 122 = .ok (.invokevirtual 56, 3) := by decide +kernel
theorem dL_many_125 : decode cL_many 125 = .ok (.iconst 1, 1) := by decide +kernel
theorem dL_many_126 : decode cL_many 126 = .ok (.if_icmp .ne 122, 3) := by decide +kernel
theorem dL_many_129 : decode cL_many 129 = .ok (.aload_n 0, 1) := by decide +kernel
theorem dL_many_130 : decode cL_many 130 = .ok (.iconst 4, 1) := by decide +kernel
theorem dL_many_131 : decode cL_many 131 = .ok (.invokevirtual 56, 3) := by decide +kernel
theorem dL_many_134 : decode cL_many 134 = .ok (.iconst 4, 1) := by decide +kernel
theorem dL_many_135 : decode cL_many 135 = .ok (.if_icmp .ne 113, 3) := by decide +kernel
theorem dL_many_138 : decode cL_many 138 = .ok (.aload_n 0, 1) := by decide +kernel
theorem dL_many_139 : decode cL_many 139 = .ok (.iconst 4, 1) := by decide +kernel
theorem dL_many_140 : decode cL_many 140 = .ok (.invokevirtual 59, 3) := by decide +kernel
theorem dL_many_143 : decode cL_many 143 = .ok (.bipush 40, 2) := by decide +kernel
theorem dL_many_145 : decode cL_many 145 = .ok (.if_icmp .ne 103, 3) := by decide +kernel
theorem dL_many_148 : decode cL_many 148 = .ok (.aload_n 0, 1) := by decide +kernel
theorem dL_many_149 : decode cL_many 149 = .ok (.iconst 5, 1) := by decide +kernel
theorem dL_many_150 : decode cL_many 150 = .ok (.invokevirtual 59, 3) := by decide +kernel
theorem dL_many_153 : decode cL_many 153 = .ok (.bipush 100, 2) := by decide +kernel
theorem dL_many_155 : decode cL_many 155 = .ok (.if_icmp .ne 93, 3) := by decide +kernel
theorem dL_many_158 : decode cL_many 158 = .ok (.aload_n 0, 1) := by decide +kernel
theorem dL_many_159 : decode cL_many 159 = .ok (.iconst 0, 1) := by decide +kernel
theorem dL_many_160 : decode cL_many 160 = .ok (.invokevirtual 68, 3) := by decide +kernel
theorem dL_many_163 : decode cL_many 163 = .ok (.bipush 80, 2) := by decide +kernel
theorem dL_many_165 : decode cL_many 165 = .ok (.if_icmp .ne 83, 3) := by decide +kernel
theorem dL_many_168 : decode cL_many 168 = .ok (.aload_n 0, 1) := by decide +kernel
theorem dL_many_169 : decode cL_many 169 = .ok (.iconst 3, 1) := by decide +kernel
theorem dL_many_170 : decode cL_many 170 = .ok (.invokevirtual 68, 3) := by decide +kernel
theorem dL_many_173 : decode cL_many 173 = .ok (.sipush 140, 3) := by decide +kernel
theorem dL_many_176 : decode cL_many 176 = .ok (.if_icmp .ne 72, 3) := by decide +kernel
theorem dL_many_179 : decode cL_many 179 = .ok (.aload_n 0, 1) := by decide +kernel
theorem dL_many_180 : decode cL_many 180 = .ok (.iconst 2, 1) := by decide +kernel
theorem dL_many_181 : decode cL_many 181 = .ok (.invokevirtual 65, 3) := by decide +kernel
theorem dL_many_184 : decode cL_many 184 = .ok (.bipush 60, 2) := by decide +kernel
theorem dL_many_186 : decode cL_many 186 = .ok (.if_icmp .ne 62, 3) := by decide +kernel
theorem dL_many_189 : decode cL_many 189 = .ok (.aload_n 0, 1) := by decide +kernel
theorem dL_many_190 : decode cL_many 190 = .ok (.iconst 0, 1) := by decide +kernel
theorem dL_many_191 : decode cL_many 191 = .ok (.bipush 60, 2) := by decide +kernel
theorem dL_many_193 : decode cL_many 193 = .ok (.sipush 128, 3) := by decide +kernel
theorem dL_many_196 : decode cL_many 196 = .ok (.invokevirtual 50, 3) := by decide +kernel
theorem dL_many_199 : decode cL_many 199 = .ok (.bipush 60, 2) := by decide +kernel
theorem dL_many_201 : decode cL_many 201 = .ok (.if_icmp .ne 47, 3) := by decide +kernel
theorem dL_many_204 : decode cL_many 204 = .ok (.aload_n 0, 1) := by decide +kernel
theorem dL_many_205 : decode cL_many 205 = .ok (.iconst 0, 1) := by decide +kernel
theorem dL_many_206 : decode cL_many 206 = .ok (.invokevirtual 56, 3) := by decide +kernel
theorem dL_many_209 : decode cL_many 209 = .ok (.bipush 7, 2) := by decide +kernel
theorem dL_many_211 : decode cL_many 211 = .ok (.if_icmp .ne 37, 3) := by decide +kernel
theorem dL_many_214 : decode cL_many 214 = .ok (.aload_n 0, 1) := by decide +kernel
theorem dL_many_215 : decode cL_many 215 = .ok (.iconst 1, 1) := by decide +kernel
theorem dL_many_216 : decode cL_many 216 = .ok (.invokevirtual 56, 3) := by decide +kernel
theorem dL_many_219 : decode cL_many 219 = .ok (.ifCond .ne 29, 3) := by decide +kernel
theorem dL_many_222 : decode cL_many 222 = .ok (.aload_n 0, 1) := by decide +kernel
theorem dL_many_223 : decode cL_many 223 = .ok (.iconst 4, 1) := by decide +kernel
theorem dL_many_224 : decode cL_many 224 = .ok (.invokevirtual 56, 3) := by decide +kernel
theorem dL_many_227 : decode cL_many 227 = .ok (.iconst 3, 1) := by decide +kernel
theorem dL_many_228 : decode cL_many 228 = .ok (.if_icmp .ne 20, 3) := by decide +kernel
theorem dL_many_231 : decode cL_many 231 = .ok (.aload_n 0, 1) := by decide +kernel
theorem dL_many_232 : decode cL_many 232 = .ok (.invokevirtual 78, 3) := by decide +kernel
theorem dL_many_235 : decode cL_many 235 = .ok (.sipush 500, 3) := by decide +kernel
theorem dL_many_238 : decode cL_many 238 = .ok (.if_icmp .ne 10, 3) := by decide +kernel
theorem dL_many_241 : decode cL_many 241 = .ok (.aload_n 0, 1) := by decide +kernel
theorem dL_many_242 : decode cL_many 242 = .ok (.invokestatic 116, 3) := by decide +kernel
theorem dL_many_245 : decode cL_many 245 = .ok (.ifCond .ne 5, 3) := by decide +kernel
theorem dL_many_248 : decode cL_many 248 = .ok (.iconst 0, 1) := by decide +kernel
theorem dL_many_249 : decode cL_many 249 = .ok (.ireturn, 1) := by decide +kernel
theorem dL_many_250 : decode cL_many 250 = .ok (.iconst 0, 1) := by decide +kernel
theorem dL_many_251 : decode cL_many 251 = .ok (.istore_n 1, 1) := by decide +kernel
theorem dL_many_252 : decode cL_many 252 = .ok (.iload_n 1, 1) := by decide +kernel
theorem dL_many_253 : decode cL_many 253 = .ok (.iconst 5, 1) := by decide +kernel
theorem dL_many_254 : decode cL_many 254 = .ok (.if_icmp .ge 25, 3) := by decide +kernel
theorem dL_many_257 : decode cL_many 257 = .ok (.aload_n 0, 1) := by decide +kernel
theorem dL_many_258 : decode cL_many 258 = .ok (.iload_n 1, 1) := by decide +kernel
theorem dL_many_259 : decode cL_many 259 = .ok (.bipush 50, 2) := by decide +kernel
theorem dL_many_261 : decode cL_many 261 = .ok (.bipush 9, 2) := by decide +kernel
theorem dL_many_263 : decode cL_many 263 = .ok (.invokevirtual 50, 3) := by decide +kernel
theorem dL_many_266 : decode cL_many 266 = .ok (.bipush 60, 2) := by decide +kernel
theorem dL_many_268 : decode cL_many 268 = .ok (.if_icmp .eq 5, 3) := by decide +kernel
theorem dL_many_271 : decode cL_many 271 = .ok (.iconst 0, 1) := by decide +kernel
theorem dL_many_272 : decode cL_many 272 = .ok (.ireturn, 1) := by decide +kernel
theorem dL_many_273 : decode cL_many 273 = .ok (.iinc 1 1, 3) := by decide +kernel
theorem dL_many_276 : decode cL_many 276 = .ok (.goto (-24), 3) := by decide +kernel
theorem dL_many_279 : decode cL_many 279 = .ok (.aload_n 0, 1) := by decide +kernel
theorem dL_many_280 : decode cL_many 280 = .ok (.invokevirtual 78, 3) := by decide +kernel
theorem dL_many_283 : decode cL_many 283 = .ok (.sipush 600, 3) := by decide +kernel
theorem dL_many_286 : decode cL_many 286 = .ok (.if_icmp .ne 61, 3) := by decide +kernel
theorem dL_many_289 : decode cL_many 289 = .ok (.aload_n 0, 1) := by decide +kernel
theorem dL_many_290 : decode cL_many 290 = .ok (.iconst 0, 1) := by decide +kernel
theorem dL_many_291 : decode cL_many 291 = .ok (.invokevirtual 56, 3) := by decide +kernel
theorem dL_many_294 : decode cL_many 294 = .ok (.ifCond .ne 53, 3) := by decide +kernel
theorem dL_many_297 : decode cL_many 297 = .ok (.aload_n 0, 1) := by decide +kernel
theorem dL_many_298 : decode cL_many 298 = .ok (.iconst 1, 1) := by decide +kernel
theorem dL_many_299 : decode cL_many 299 = .ok (.invokevirtual 56, 3) := by decide +kernel
theorem dL_many_302 : decode cL_many 302 = .ok (.ifCond .ne 45, 3) := by decide +kernel
theorem dL_many_305 : decode cL_many 305 = .ok (.aload_n 0, 1) := by decide +kernel
theorem dL_many_306 : decode cL_many 306 = .ok (.iconst 2, 1) := by decide +kernel
theorem dL_many_307 : decode cL_many 307 = .ok (.invokevirtual 56, 3) := by decide +kernel
theorem dL_many_310 : decode cL_many 310 = .ok (.ifCond .ne 37, 3) := by decide +kernel
theorem dL_many_313 : decode cL_many 313 = .ok (.aload_n 0, 1) := by decide +kernel
theorem dL_many_314 : decode cL_many 314 = .ok (.iconst 3, 1) := by decide +kernel
theorem dL_many_315 : decode cL_many 315 = .ok (.invokevirtual 56, 3) := by decide +kernel
theorem dL_many_318 : decode cL_many 318 = .ok (.iconst 3, 1) := by decide +kernel
theorem dL_many_319 : decode cL_many 319 = .ok (.if_icmp .ne 28, 3) := by decide +kernel
theorem dL_many_322 : decode cL_many 322 = .ok (.aload_n 0, 1) := by decide +kernel
theorem dL_many_323 : decode cL_many 323 = .ok (.iconst 4, 1) := by decide +kernel
theorem dL_many_324 : decode cL_many 324 = .ok (.invokevirtual 56, 3) := by decide +kernel
theorem dL_many_327 : decode cL_many 327 = .ok (.iconst 3, 1) := by decide +kernel
theorem dL_many_328 : decode cL_many 328 = .ok (.if_icmp .ne 19, 3) := by decide +kernel
theorem dL_many_331 : decode cL_many 331 = .ok (.aload_n 0, 1) := by decide +kernel
theorem dL_many_332 : decode cL_many 332 = .ok (.iconst 4, 1) := by decide +kernel
theorem dL_many_333 : decode cL_many 333 = .ok (.invokevirtual 65, 3) := by decide +kernel
theorem dL_many_336 : decode cL_many 336 = .ok (.ifCond .ne 11, 3) := by decide +kernel
theorem dL_many_339 : decode cL_many 339 = .ok (.aload_n 0, 1) := by decide +kernel
theorem dL_many_340 : decode cL_many 340 = .ok (.iconst 0, 1) := by decide +kernel
theorem dL_many_341 : decode cL_many 341 = .ok (.invokevirtual 65, 3) := by decide +kernel
theorem dL_many_344 : decode cL_many 344 = .ok (.ifCond .eq 5, 3) := by decide +kernel
theorem dL_many_347 : decode cL_many 347 = .ok (.iconst 0, 1) := by decide +kernel
theorem dL_many_348 : decode cL_many 348 = .ok (.ireturn, 1) := by decide +kernel
theorem dL_many_349 : decode cL_many 349 = .ok (.new 8, 3) := by decide +kernel
theorem dL_many_352 : decode cL_many 352 = .ok (.dup, 1) := by decide +kernel
theorem dL_many_353 : decode cL_many 353 = .ok (.invokespecial 108, 3) := by decide +kernel
theorem dL_many_356 : decode cL_many 356 = .ok (.astore_n 1, 1) := by decide +kernel
theorem dL_many_357 : decode cL_many 357 = .ok (.aload_n 1, 1) := by decide +kernel
theorem dL_many_358 : decode cL_many 358 = .ok (.iconst 0, 1) := by decide +kernel
theorem dL_many_359 : decode cL_many 359 = .ok (.iconst 0, 1) := by decide +kernel
theorem dL_many_360 : decode cL_many 360 = .ok (.ldc 123, 2) := by decide +kernel
theorem dL_many_362 : decode cL_many 362 = .ok (.ldc 123, 2) := by decide +kernel
theorem dL_many_364 : decode cL_many 364 = .ok (.iconst 0, 1) := by decide +kernel
theorem dL_many_365 : decode cL_many 365 = .ok (.sipush 3650, 3) := by decide +kernel
theorem dL_many_368 : decode cL_many 368 = .ok (.invokevirtual 7, 3) := by decide +kernel
theorem dL_many_371 : decode cL_many 371 = .ok (.ifCond .ne 149, 3) := by decide +kernel
theorem dL_many_374 : decode cL_many 374 = .ok (.aload_n 1, 1) := by decide +kernel
theorem dL_many_375 : decode cL_many 375 = .ok (.iconst 0, 1) := by decide +kernel
theorem dL_many_376 : decode cL_many 376 = .ok (.invokevirtual 47, 3) := by decide +kernel
theorem dL_many_379 : decode cL_many 379 = .ok (.ldc 124, 2) := by decide +kernel
theorem dL_many_381 : decode cL_many 381 = .ok (.if_icmp .ne 139, 3) := by decide +kernel
theorem dL_many_384 : decode cL_many 384 = .ok (.aload_n 1, 1) := by decide +kernel
theorem dL_many_385 : decode cL_many 385 = .ok (.iconst 0, 1) := by decide +kernel
theorem dL_many_386 : decode cL_many 386 = .ok (.sipush 400, 3) := by decide +kernel
theorem dL_many_389 : decode cL_many 389 = .ok (.sipush 400, 3) := by decide +kernel
theorem dL_many_392 : decode cL_many 392 = .ok (.invokevirtual 26, 3) := by decide +kernel
theorem dL_many_395 : decode cL_many 395 = .ok (.ifCond .ne 125, 3) := by decide +kernel
theorem dL_many_398 : decode cL_many 398 = .ok (.aload_n 1, 1) := by decide +kernel
theorem dL_many_399 : decode cL_many 399 = .ok (.ldc 125, 2) := by decide +kernel
theorem dL_many_401 : decode cL_many 401 = .ok (.ldc 125, 2) := by decide +kernel
theorem dL_many_403 : decode cL_many 403 = .ok (.ldc 125, 2) := by decide +kernel
theorem dL_many_405 : decode cL_many 405 = .ok (.invokestatic 109, 3) := by decide +kernel
theorem dL_many_408 : decode cL_many 408 = .ok (.ifCond .eq 112, 3) := by decide +kernel
theorem dL_many_411 : decode cL_many 411 = .ok (.aload_n 1, 1) := by decide +kernel
theorem dL_many_412 : decode cL_many 412 = .ok (.ldc 123, 2) := by decide +kernel
theorem dL_many_414 : decode cL_many 414 = .ok (.iconst 0, 1) := by decide +kernel
theorem dL_many_415 : decode cL_many 415 = .ok (.iconst 1, 1) := by decide +kernel
theorem dL_many_416 : decode cL_many 416 = .ok (.sipush 3649, 3) := by decide +kernel
theorem dL_many_419 : decode cL_many 419 = .ok (.iconst 1, 1) := by decide +kernel
theorem dL_many_420 : decode cL_many 420 = .ok (.invokevirtual 22, 3) := by decide +kernel
theorem dL_many_423 : decode cL_many 423 = .ok (.ifCond .ne 97, 3) := by decide +kernel
theorem dL_many_426 : decode cL_many 426 = .ok (.aload_n 1, 1) := by decide +kernel
theorem dL_many_427 : decode cL_many 427 = .ok (.iconst 0, 1) := by decide +kernel
theorem dL_many_428 : decode cL_many 428 = .ok (.iconst 0, 1) := by decide +kernel
theorem dL_many_429 : decode cL_many 429 = .ok (.invokevirtual 53, 3) := by decide +kernel
theorem dL_many_432 : decode cL_many 432 = .ok (.ldc 126, 2) := by decide +kernel
theorem dL_many_434 : decode cL_many 434 = .ok (.if_icmp .ne 86, 3) := by decide +kernel
theorem dL_many_437 : decode cL_many 437 = .ok (.aload_n 1, 1) := by decide +kernel
theorem dL_many_438 : decode cL_many 438 = .ok (.iconst 0, 1) := by decide +kernel
theorem dL_many_439 : decode cL_many 439 = .ok (.invokevirtual 59, 3) := by decide +kernel
theorem dL_many_442 : decode cL_many 442 = .ok (.ldc 127, 2) := by decide +kernel
theorem dL_many_444 : decode cL_many 444 = .ok (.if_icmp .ne 76, 3) := by decide +kernel
theorem dL_many_447 : decode cL_many 447 = .ok (.aload_n 1, 1) := by decide +kernel
theorem dL_many_448 : decode cL_many 448 = .ok (.invokevirtual 78, 3) := by decide +kernel
theorem dL_many_451 : decode cL_many 451 = .ok (.ldc 128, 2) := by decide +kernel
theorem dL_many_453 : decode cL_many 453 = .ok (.if_icmp .ne 67, 3) := by decide +kernel
theorem dL_many_456 : decode cL_many 456 = .ok (.aload_n 1, 1) := by decide +kernel
theorem dL_many_457 : decode cL_many 457 = .ok (.invokevirtual 105, 3) := by decide +kernel
theorem dL_many_460 : decode cL_many 460 = .ok (.ldc 129, 2) := by decide +kernel
theorem dL_many_462 : decode cL_many 462 = .ok (.if_icmp .ne 58, 3) := by decide +kernel
theorem dL_many_465 : decode cL_many 465 = .ok (.aload_n 1, 1) := by decide +kernel
theorem dL_many_466 : decode cL_many 466 = .ok (.iconst 0, 1) := by decide +kernel
theorem dL_many_467 : decode cL_many 467 = .ok (.iconst 1, 1) := by decide +kernel
theorem dL_many_468 : decode cL_many 468 = .ok (.ldc 123, 2) := by decide +kernel
theorem dL_many_470 : decode cL_many 470 = .ok (.invokevirtual 44, 3) := by decide +kernel
theorem dL_many_473 : decode cL_many 473 = .ok (.ifCond .ne 47, 3) := by decide +kernel
theorem dL_many_476 : decode cL_many 476 = .ok (.aload_n 1, 1) := by decide +kernel
theorem dL_many_477 : decode cL_many 477 = .ok (.invokevirtual 78, 3) := by decide +kernel
theorem dL_many_480 : decode cL_many 480 = .ok (.ldc 130, 2) := by decide +kernel
theorem dL_many_482 : decode cL_many 482 = .ok (.if_icmp .ne 38, 3) := by decide +kernel
theorem dL_many_485 : decode cL_many 485 = .ok (.aload_n 1, 1) := by decide +kernel
theorem dL_many_486 : decode cL_many 486 = .ok (.ldc 131, 2) := by decide +kernel
theorem dL_many_488 : decode cL_many 488 = .ok (.invokevirtual 34, 3) := by decide +kernel
theorem dL_many_491 : decode cL_many 491 = .ok (.ifCond .ne 29, 3) := by decide +kernel
theorem dL_many_494 : decode cL_many 494 = .ok (.aload_n 1, 1) := by decide +kernel
theorem dL_many_495 : decode cL_many 495 = .ok (.invokevirtual 113, 3) := by decide +kernel
theorem dL_many_498 : decode cL_many 498 = .ok (.ifCond .ne 22, 3) := by decide +kernel
theorem dL_many_501 : decode cL_many 501 = .ok (.aload_n 1, 1) := by decide +kernel
theorem dL_many_502 : decode cL_many 502 = .ok (.iconst 0, 1) := by decide +kernel
theorem dL_many_503 : decode cL_many 503 = .ok (.invokevirtual 30, 3) := by decide +kernel
theorem dL_many_506 : decode cL_many 506 = .ok (.bipush 70, 2) := by decide +kernel
theorem dL_many_508 : decode cL_many 508 = .ok (.if_icmp .ne 12, 3) := by decide +kernel
theorem dL_many_511 : decode cL_many 511 = .ok (.aload_n 1, 1) := by decide +kernel
theorem dL_many_512 : decode cL_many 512 = .ok (.invokevirtual 105, 3) := by decide +kernel
theorem dL_many_515 : decode cL_many 515 = .ok (.ldc 130, 2) := by decide +kernel
theorem dL_many_517 : decode cL_many 517 = .ok (.if_icmp .eq 5, 3) := by decide +kernel
theorem dL_many_520 : decode cL_many 520 = .ok (.iconst 0, 1) := by decide +kernel
theorem dL_many_521 : decode cL_many 521 = .ok (.ireturn, 1) := by decide +kernel
theorem dL_many_522 : decode cL_many 522 = .ok (.aload_n 1, 1) := by decide +kernel
theorem dL_many_523 : decode cL_many 523 = .ok (.iconst 0, 1) := by decide +kernel
theorem dL_many_524 : decode cL_many 524 = .ok (.invokevirtual 65, 3) := by decide +kernel
theorem dL_many_527 : decode cL_many 527 = .ok (.ldc 132, 2) := by decide +kernel
theorem dL_many_529 : decode cL_many 529 = .ok (.if_icmp .ne 14, 3) := by decide +kernel
theorem dL_many_532 : decode cL_many 532 = .ok (.aload_n 1, 1) := by decide +kernel
theorem dL_many_533 : decode cL_many 533 = .ok (.invokestatic 116, 3) := by decide +kernel
theorem dL_many_536 : decode cL_many 536 = .ok (.ifCond .eq 7, 3) := by decide +kernel
theorem dL_many_539 : decode cL_many 539 = .ok (.iconst 1, 1) := by decide +kernel
theorem dL_many_540 : decode cL_many 540 = .ok (.goto 4, 3) := by decide +kernel
theorem dL_many_543 : decode cL_many 543 = .ok (.iconst 0, 1) := by decide +kernel
theorem dL_many_544 : decode cL_many 544 = .ok (.ireturn, 1) := by decide +kernel
