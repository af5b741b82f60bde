theorem dL_refuses_0 : decode cL_refuses 0 = .ok (.aload_n 0, 1) := by decide +kernel
theorem dL_refuses_1 : decode cL_refuses 1 = .ok (.invokevirtual 71, 3) := by decide +kernel
theorem dL_refuses_4 : decode cL_refuses 4 = .ok (.istore_n 1, 1) := by decide +kernel
theorem dL_refuses_5 : decode cL_refuses 5 = .ok (.aload_n 0, 1) := by decide +kernel
theorem dL_refuses_6 : decode cL_refuses 6 = .ok (.invokevirtual 75, 3) := by decide +kernel
theorem dL_refuses_9 : decode cL_refuses 9 = .ok (.istore_n 2, 1) := by decide +kernel
theorem dL_refuses_10 : decode cL_refuses 10 = .ok (.aload_n 0, 1) := by decide +kernel
theorem dL_refuses_11 : decode cL_refuses 11 = .ok (.invokevirtual 78, 3) := by decide +kernel
theorem dL_refuses_14 : decode cL_refuses 14 = .ok (.istore_n 3, 1) := by decide +kernel
theorem dL_refuses_15 : decode cL_refuses 15 = .ok (.aload_n 0, 1) := by decide +kernel
theorem dL_refuses_16 : decode cL_refuses 16 = .ok (.invokevirtual 81, 3) := by decide +kernel
theorem dL_refuses_19 : decode cL_refuses 19 = .ok (.istore 4, 2) := by decide +kernel
theorem dL_refuses_21 : decode cL_refuses 21 = .ok (.ldc 15, 2) := by decide +kernel
theorem dL_refuses_23 : decode cL_refuses 23 = .ok (.istore 5, 2) := by decide +kernel
theorem dL_refuses_25 : decode cL_refuses 25 = .ok (.ldc 18, 2) := by decide +kernel
theorem dL_refuses_27 : decode cL_refuses 27 = .ok (.istore 6, 2) := by decide +kernel
theorem dL_refuses_29 : decode cL_refuses 29 = .ok (.ldc 84, 2) := by decide +kernel
theorem dL_refuses_31 : decode cL_refuses 31 = .ok (.istore 7, 2) := by decide +kernel
theorem dL_refuses_33 : decode cL_refuses 33 = .ok (.iconst 0, 1) := by decide +kernel
theorem dL_refuses_34 : decode cL_refuses 34 = .ok (.istore 8, 2) := by decide +kernel
theorem dL_refuses_36 : decode cL_refuses 36 = .ok (.iload 8, 2) := by decide +kernel
theorem dL_refuses_38 : decode cL_refuses 38 = .ok (.iconst 4, 1) := by decide +kernel
theorem dL_refuses_39 : decode cL_refuses 39 = .ok (.if_icmp .ge 772, 3) := by decide +kernel
theorem dL_refuses_42 : decode cL_refuses 42 = .ok (.iload 8, 2) := by decide +kernel
theorem dL_refuses_44 : decode cL_refuses 44 = .ok (.ifCond .ne 7, 3) := by decide +kernel
theorem dL_refuses_47 : decode cL_refuses 47 = .ok (.iconst (-1), 1) := by decide +kernel
theorem dL_refuses_48 : decode cL_refuses 48 = .ok (.goto 19, 3) := by decide +kernel
theorem dL_refuses_51 : decode cL_refuses 51 = .ok (.iload 8, 2) := by decide +kernel
theorem dL_refuses_53 : decode cL_refuses 53 = .ok (.iconst 2, 1) := by decide +kernel
theorem dL_refuses_54 : decode cL_refuses 54 = .ok (.if_icmp .ne 8, 3) := by decide +kernel
theorem dL_refuses_57 : decode cL_refuses 57 = .ok (.iload 7, 2) := by decide +kernel
theorem dL_refuses_59 : decode cL_refuses 59 = .ok (.goto 8, 3) := by decide +kernel
theorem dL_refuses_62 : decode cL_refuses 62 = .ok (.iload 7, 2) := by decide +kernel
theorem dL_refuses_64 : decode cL_refuses 64 = .ok (.ineg, 1) := by decide +kernel
theorem dL_refuses_65 : decode cL_refuses 65 = .ok (.iconst 1, 1) := by decide +kernel
theorem dL_refuses_66 : decode cL_refuses 66 = .ok (.isub, 1) := by decide +kernel
theorem dL_refuses_67 : decode cL_refuses 67 = .ok (.istore 9, 2) := by decide +kernel
theorem dL_refuses_69 : decode cL_refuses 69 = .ok (.iload 8, 2) := by decide +kernel
theorem dL_refuses_71 : decode cL_refuses 71 = .ok (.iconst 1, 1) := by decide +kernel
theorem dL_refuses_72 : decode cL_refuses 72 = .ok (.if_icmp .ne 7, 3) := by decide +kernel
theorem dL_refuses_75 : decode cL_refuses 75 = .ok (.iconst 4, 1) := by decide +kernel
theorem dL_refuses_76 : decode cL_refuses 76 = .ok (.goto 5, 3) := by decide +kernel
theorem dL_refuses_79 : decode cL_refuses 79 = .ok (.iload 9, 2) := by decide +kernel
theorem dL_refuses_81 : decode cL_refuses 81 = .ok (.istore 10, 2) := by decide +kernel
theorem dL_refuses_83 : decode cL_refuses 83 = .ok (.iload 8, 2) := by decide +kernel
theorem dL_refuses_85 : decode cL_refuses 85 = .ok (.iconst 1, 1) := by decide +kernel
theorem dL_refuses_86 : decode cL_refuses 86 = .ok (.if_icmp .ne 8, 3) := by decide +kernel
theorem dL_refuses_89 : decode cL_refuses 89 = .ok (.bipush 101, 2) := by decide +kernel
theorem dL_refuses_91 : decode cL_refuses 91 = .ok (.goto 5, 3) := by decide +kernel
theorem dL_refuses_94 : decode cL_refuses 94 = .ok (.iload 9, 2) := by decide +kernel
theorem dL_refuses_96 : decode cL_refuses 96 = .ok (.istore 11, 2) := by decide +kernel
theorem dL_refuses_98 : decode cL_refuses 98 = .ok (.iload 8, 2) := by decide +kernel
theorem dL_refuses_100 : decode cL_refuses 100 = .ok (.iconst 1, 1) := by decide +kernel
theorem dL_refuses_101 : decode cL_refuses 101 = .ok (.if_icmp .ne 8, 3) := by decide +kernel
theorem dL_refuses_104 : decode cL_refuses 104 = .ok (.ldc 85, 2) := by decide +kernel
theorem dL_refuses_106 : decode cL_refuses 106 = .ok (.goto 5, 3) := by decide +kernel
theorem dL_refuses_109 : decode cL_refuses 109 = .ok (.iload 9, 2) := by decide +kernel
theorem dL_refuses_111 : decode cL_refuses 111 = .ok (.istore 12, 2) := by decide +kernel
theorem dL_refuses_113 : decode cL_refuses 113 = .ok (.iload 8, 2) := by decide +kernel
theorem dL_refuses_115 : decode cL_refuses 115 = .ok (.ifCond .ne 7, 3) := by decide +kernel
theorem dL_refuses_118 : decode cL_refuses 118 = .ok (.iconst 0, 1) := by decide +kernel
theorem dL_refuses_119 : decode cL_refuses 119 = .ok (.goto 17, 3) := by decide +kernel
theorem dL_refuses_122 : decode cL_refuses 122 = .ok (.iload 8, 2) := by decide +kernel
theorem dL_refuses_124 : decode cL_refuses 124 = .ok (.iconst 1, 1) := by decide +kernel
theorem dL_refuses_125 : decode cL_refuses 125 = .ok (.if_icmp .ne 9, 3) := by decide +kernel
theorem dL_refuses_128 : decode cL_refuses 128 = .ok (.sipush 3651, 3) := by decide +kernel
theorem dL_refuses_131 : decode cL_refuses 131 = .ok (.goto 5, 3) := by decide +kernel
theorem dL_refuses_134 : decode cL_refuses 134 = .ok (.iload 9, 2) := by decide +kernel
theorem dL_refuses_136 : decode cL_refuses 136 = .ok (.istore 13, 2) := by decide +kernel
theorem dL_refuses_138 : decode cL_refuses 138 = .ok (.iload 8, 2) := by decide +kernel
theorem dL_refuses_140 : decode cL_refuses 140 = .ok (.iconst 1, 1) := by decide +kernel
theorem dL_refuses_141 : decode cL_refuses 141 = .ok (.if_icmp .ne 7, 3) := by decide +kernel
theorem dL_refuses_144 : decode cL_refuses 144 = .ok (.iconst 3, 1) := by decide +kernel
theorem dL_refuses_145 : decode cL_refuses 145 = .ok (.goto 5, 3) := by decide +kernel
theorem dL_refuses_148 : decode cL_refuses 148 = .ok (.iload 9, 2) := by decide +kernel
theorem dL_refuses_150 : decode cL_refuses 150 = .ok (.istore 14, 2) := by decide +kernel
theorem dL_refuses_152 : decode cL_refuses 152 = .ok (.iload 8, 2) := by decide +kernel
theorem dL_refuses_154 : decode cL_refuses 154 = .ok (.ifCond .ne 7, 3) := by decide +kernel
theorem dL_refuses_157 : decode cL_refuses 157 = .ok (.iconst 0, 1) := by decide +kernel
theorem dL_refuses_158 : decode cL_refuses 158 = .ok (.goto 5, 3) := by decide +kernel
theorem dL_refuses_161 : decode cL_refuses 161 = .ok (.iload 12, 2) := by decide +kernel
theorem dL_refuses_163 : decode cL_refuses 163 = .ok (.istore 15, 2) := by decide +kernel
theorem dL_refuses_165 : decode cL_refuses 165 = .ok (.iload 8, 2) := by decide +kernel
theorem dL_refuses_167 : decode cL_refuses 167 = .ok (.iconst 1, 1) := by decide +kernel
theorem dL_refuses_168 : decode cL_refuses 168 = .ok (.if_icmp .ne 9, 3) := by decide +kernel
theorem dL_refuses_171 : decode cL_refuses 171 = .ok (.sipush 256, 3) := by decide +kernel
theorem dL_refuses_174 : decode cL_refuses 174 = .ok (.goto 5, 3) := by decide +kernel
theorem dL_refuses_177 : decode cL_refuses 177 = .ok (.iload 9, 2) := by decide +kernel
theorem dL_refuses_179 : decode cL_refuses 179 = .ok (.istore 16, 2) := by decide +kernel
theorem dL_refuses_181 : decode cL_refuses 181 = .ok (.iload 8, 2) := by decide +kernel
theorem dL_refuses_183 : decode cL_refuses 183 = .ok (.iconst 1, 1) := by decide +kernel
theorem dL_refuses_184 : decode cL_refuses 184 = .ok (.if_icmp .ne 7, 3) := by decide +kernel
theorem dL_refuses_187 : decode cL_refuses 187 = .ok (.iload_n 1, 1) := by decide +kernel
theorem dL_refuses_188 : decode cL_refuses 188 = .ok (.goto 5, 3) := by decide +kernel
theorem dL_refuses_191 : decode cL_refuses 191 = .ok (.iload 9, 2) := by decide +kernel
theorem dL_refuses_193 : decode cL_refuses 193 = .ok (.istore 17, 2) := by decide +kernel
theorem dL_refuses_195 : decode cL_refuses 195 = .ok (.iload 8, 2) := by decide +kernel
theorem dL_refuses_197 : decode cL_refuses 197 = .ok (.iconst 1, 1) := by decide +kernel
theorem dL_refuses_198 : decode cL_refuses 198 = .ok (.if_icmp .ne 7, 3) := by decide +kernel
theorem dL_refuses_201 : decode cL_refuses 201 = .ok (.iload_n 2, 1) := by decide +kernel
theorem dL_refuses_202 : decode cL_refuses 202 = .ok (.goto 5, 3) := by decide +kernel
theorem dL_refuses_205 : decode cL_refuses 205 = .ok (.iload 9, 2) := by decide +kernel
theorem dL_refuses_207 : decode cL_refuses 207 = .ok (.istore 18, 2) := by decide +kernel
theorem dL_refuses_209 : decode cL_refuses 209 = .ok (.aload_n 0, 1) := by decide +kernel
theorem dL_refuses_210 : decode cL_refuses 210 = .ok (.iconst 0, 1) := by decide +kernel
theorem dL_refuses_211 : decode cL_refuses 211 = .ok (.iload 10, 2) := by decide +kernel
theorem dL_refuses_213 : decode cL_refuses 213 = .ok (.iconst (-1), 1) := by decide +kernel
theorem dL_refuses_214 : decode cL_refuses 214 = .ok (.iconst (-1), 1) := by decide +kernel
theorem dL_refuses_215 : decode cL_refuses 215 = .ok (.invokestatic 86, 3) := by decide +kernel
theorem dL_refuses_218 : decode cL_refuses 218 = .ok (.iload 5, 2) := by decide +kernel
theorem dL_refuses_220 : decode cL_refuses 220 = .ok (.if_icmp .ne 194, 3) := by decide +kernel
theorem dL_refuses_223 : decode cL_refuses 223 = .ok (.aload_n 0, 1) := by decide +kernel
theorem dL_refuses_224 : decode cL_refuses 224 = .ok (.iconst 0, 1) := by decide +kernel
theorem dL_refuses_225 : decode cL_refuses 225 = .ok (.iconst 0, 1) := by decide +kernel
theorem dL_refuses_226 : decode cL_refuses 226 = .ok (.iload 8, 2) := by decide +kernel
theorem dL_refuses_228 : decode cL_refuses 228 = .ok (.iconst 1, 1) := by decide +kernel
theorem dL_refuses_229 : decode cL_refuses 229 = .ok (.if_icmp .ne 9, 3) := by decide +kernel
theorem dL_refuses_232 : decode cL_refuses 232 = .ok (.sipush 401, 3) := by decide +kernel
theorem dL_refuses_235 : decode cL_refuses 235 = .ok (.goto 5, 3) := by decide +kernel
theorem dL_refuses_238 : decode cL_refuses 238 = .ok (.iload 9, 2) := by decide +kernel
theorem dL_refuses_240 : decode cL_refuses 240 = .ok (.iconst 0, 1) := by decide +kernel
theorem dL_refuses_241 : decode cL_refuses 241 = .ok (.invokestatic 86, 3) := by decide +kernel
theorem dL_refuses_244 : decode cL_refuses 244 = .ok (.iload 6, 2) := by decide +kernel
theorem dL_refuses_246 : decode cL_refuses 246 = .ok (.if_icmp .ne 168, 3) := by decide +kernel
theorem dL_refuses_249 : decode cL_refuses 249 = .ok (.aload_n 0, 1) := by decide +kernel
theorem dL_refuses_250 : decode cL_refuses 250 = .ok (.iconst 0, 1) := by decide +kernel
theorem dL_refuses_251 : decode cL_refuses 251 = .ok (.iconst 0, 1) := by decide +kernel
theorem dL_refuses_252 : decode cL_refuses 252 = .ok (.iconst 0, 1) := by decide +kernel
theorem dL_refuses_253 : decode cL_refuses 253 = .ok (.iload 8, 2) := by decide +kernel
theorem dL_refuses_255 : decode cL_refuses 255 = .ok (.iconst 1, 1) := by decide +kernel
theorem dL_refuses_256 : decode cL_refuses 256 = .ok (.if_icmp .ne 9, 3) := by decide +kernel
theorem dL_refuses_259 : decode cL_refuses 259 = .ok (.sipush 401, 3) := by decide +kernel
theorem dL_refuses_262 : decode cL_refuses 262 = .ok (.goto 5, 3) := by decide +kernel
theorem dL_refuses_265 : decode cL_refuses 265 = .ok (.iload 9, 2) := by decide +kernel
theorem dL_refuses_267 : decode cL_refuses 267 = .ok (.invokestatic 86, 3) := by decide +kernel
theorem dL_refuses_270 : decode cL_refuses 270 = .ok (.iload 6, 2) := by decide +kernel
theorem dL_refuses_272 : decode cL_refuses 272 = .ok (.if_icmp .ne 142, 3) := by decide +kernel
theorem dL_refuses_275 : decode cL_refuses 275 = .ok (.aload_n 0, 1) := by decide +kernel
theorem dL_refuses_276 : decode cL_refuses 276 = .ok (.iconst 1, 1) := by decide +kernel
theorem dL_refuses_277 : decode cL_refuses 277 = .ok (.iload 11, 2) := by decide +kernel
theorem dL_refuses_279 : decode cL_refuses 279 = .ok (.iconst 0, 1) := by decide +kernel
theorem dL_refuses_280 : decode cL_refuses 280 = .ok (.iconst 0, 1) := by decide +kernel
theorem dL_refuses_281 : decode cL_refuses 281 = .ok (.invokestatic 86, 3) := by decide +kernel
theorem dL_refuses_284 : decode cL_refuses 284 = .ok (.iload 6, 2) := by decide +kernel
theorem dL_refuses_286 : decode cL_refuses 286 = .ok (.if_icmp .ne 128, 3) := by decide +kernel
theorem dL_refuses_289 : decode cL_refuses 289 = .ok (.aload_n 0, 1) := by decide +kernel
theorem dL_refuses_290 : decode cL_refuses 290 = .ok (.iconst 2, 1) := by decide +kernel
theorem dL_refuses_291 : decode cL_refuses 291 = .ok (.iload 8, 2) := by decide +kernel
theorem dL_refuses_293 : decode cL_refuses 293 = .ok (.iconst 1, 1) := by decide +kernel
theorem dL_refuses_294 : decode cL_refuses 294 = .ok (.if_icmp .ne 8, 3) := by decide +kernel
theorem dL_refuses_297 : decode cL_refuses 297 = .ok (.ldc 92, 2) := by decide +kernel
theorem dL_refuses_299 : decode cL_refuses 299 = .ok (.goto 5, 3) := by decide +kernel
theorem dL_refuses_302 : decode cL_refuses 302 = .ok (.iload 9, 2) := by decide +kernel
theorem dL_refuses_304 : decode cL_refuses 304 = .ok (.iconst 0, 1) := by decide +kernel
theorem dL_refuses_305 : decode cL_refuses 305 = .ok (.iconst 0, 1) := by decide +kernel
theorem dL_refuses_306 : decode cL_refuses 306 = .ok (.invokestatic 86, 3) := by decide +kernel
theorem dL_refuses_309 : decode cL_refuses 309 = .ok (.iload 6, 2) := by decide +kernel
theorem dL_refuses_311 : decode cL_refuses 311 = .ok (.if_icmp .ne 103, 3) := by decide +kernel
theorem dL_refuses_314 : decode cL_refuses 314 = .ok (.aload_n 0, 1) := by decide +kernel
theorem dL_refuses_315 : decode cL_refuses 315 = .ok (.iload 10, 2) := by decide +kernel
theorem dL_refuses_317 : decode cL_refuses 317 = .ok (.iconst 0, 1) := by decide +kernel
theorem dL_refuses_318 : decode cL_refuses 318 = .ok (.iconst (-1), 1) := by decide +kernel
theorem dL_refuses_319 : decode cL_refuses 319 = .ok (.iconst 0, 1) := by decide +kernel
theorem dL_refuses_320 : decode cL_refuses 320 = .ok (.iconst 0, 1) := by decide +kernel
theorem dL_refuses_321 : decode cL_refuses 321 = .ok (.iconst 0, 1) := by decide +kernel
theorem dL_refuses_322 : decode cL_refuses 322 = .ok (.invokestatic 93, 3) := by decide +kernel
theorem dL_refuses_325 : decode cL_refuses 325 = .ok (.iload 5, 2) := by decide +kernel
theorem dL_refuses_327 : decode cL_refuses 327 = .ok (.if_icmp .ne 87, 3) := by decide +kernel
theorem dL_refuses_330 : decode cL_refuses 330 = .ok (.aload_n 0, 1) := by decide +kernel
theorem dL_refuses_331 : decode cL_refuses 331 = .ok (.iconst 0, 1) := by decide +kernel
theorem dL_refuses_332 : decode cL_refuses 332 = .ok (.iload 10, 2) := by decide +kernel
theorem dL_refuses_334 : decode cL_refuses 334 = .ok (.iconst (-1), 1) := by decide +kernel
theorem dL_refuses_335 : decode cL_refuses 335 = .ok (.iconst 0, 1) := by decide +kernel
theorem dL_refuses_336 : decode cL_refuses 336 = .ok (.iconst 0, 1) := by decide +kernel
theorem dL_refuses_337 : decode cL_refuses 337 = .ok (.iconst 0, 1) := by decide +kernel
theorem dL_refuses_338 : decode cL_refuses 338 = .ok (.invokestatic 93, 3) := by decide +kernel
theorem dL_refuses_341 : decode cL_refuses 341 = .ok (.iload 5, 2) := by decide +kernel
theorem dL_refuses_343 : decode cL_refuses 343 = .ok (.if_icmp .ne 71, 3) := by decide +kernel
theorem dL_refuses_346 : decode cL_refuses 346 = .ok (.aload_n 0, 1) := by decide +kernel
theorem dL_refuses_347 : decode cL_refuses 347 = .ok (.iconst 0, 1) := by decide +kernel
theorem dL_refuses_348 : decode cL_refuses 348 = .ok (.iconst 0, 1) := by decide +kernel
theorem dL_refuses_349 : decode cL_refuses 349 = .ok (.iload 12, 2) := by decide +kernel
theorem dL_refuses_351 : decode cL_refuses 351 = .ok (.iconst 0, 1) := by decide +kernel
theorem dL_refuses_352 : decode cL_refuses 352 = .ok (.iconst 0, 1) := by decide +kernel
theorem dL_refuses_353 : decode cL_refuses 353 = .ok (.iconst 1, 1) := by decide +kernel
theorem dL_refuses_354 : decode cL_refuses 354 = .ok (.invokestatic 93, 3) := by decide +kernel
theorem dL_refuses_357 : decode cL_refuses 357 = .ok (.iload 6, 2) := by decide +kernel
theorem dL_refuses_359 : decode cL_refuses 359 = .ok (.if_icmp .ne 55, 3) := by decide +kernel
theorem dL_refuses_362 : decode cL_refuses 362 = .ok (.aload_n 0, 1) := by decide +kernel
theorem dL_refuses_363 : decode cL_refuses 363 = .ok (.iconst 0, 1) := by decide +kernel
theorem dL_refuses_364 : decode cL_refuses 364 = .ok (.iconst 0, 1) := by decide +kernel
theorem dL_refuses_365 : decode cL_refuses 365 = .ok (.iconst 0, 1) := by decide +kernel
theorem dL_refuses_366 : decode cL_refuses 366 = .ok (.iload 12, 2) := by decide +kernel
theorem dL_refuses_368 : decode cL_refuses 368 = .ok (.iconst 0, 1) := by decide +kernel
theorem dL_refuses_369 : decode cL_refuses 369 = .ok (.iconst 1, 1) := by decide +kernel
theorem dL_refuses_370 : decode cL_refuses 370 = .ok (.invokestatic 93, 3) := by decide +kernel
theorem dL_refuses_373 : decode cL_refuses 373 = .ok (.iload 6, 2) := by decide +kernel
theorem dL_refuses_375 : decode cL_refuses 375 = .ok (.if_icmp .ne 39, 3) := by decide +kernel
theorem dL_refuses_378 : decode cL_refuses 378 = .ok (.aload_n 0, 1) := by decide +kernel
theorem dL_refuses_379 : decode cL_refuses 379 = .ok (.iconst 0, 1) := by decide +kernel
theorem dL_refuses_380 : decode cL_refuses 380 = .ok (.iconst 0, 1) := by decide +kernel
theorem dL_refuses_381 : decode cL_refuses 381 = .ok (.iconst 0, 1) := by decide +kernel
theorem dL_refuses_382 : decode cL_refuses 382 = .ok (.iconst 0, 1) := by decide +kernel
theorem dL_refuses_383 : decode cL_refuses 383 = .ok (.iload 14, 2) := by decide +kernel
theorem dL_refuses_385 : decode cL_refuses 385 = .ok (.iconst 1, 1) := by decide +kernel
theorem dL_refuses_386 : decode cL_refuses 386 = .ok (.invokestatic 93, 3) := by decide +kernel
theorem dL_refuses_389 : decode cL_refuses 389 = .ok (.iload 6, 2) := by decide +kernel
theorem dL_refuses_391 : decode cL_refuses 391 = .ok (.if_icmp .ne 23, 3) := by decide +kernel
theorem dL_refuses_394 : decode cL_refuses 394 = .ok (.aload_n 0, 1) := by decide +kernel
theorem dL_refuses_395 : decode cL_refuses 395 = .ok (.iconst 0, 1) := by decide +kernel
theorem dL_refuses_396 : decode cL_refuses 396 = .ok (.iconst 0, 1) := by decide +kernel
theorem dL_refuses_397 : decode cL_refuses 397 = .ok (.iconst 0, 1) := by decide +kernel
theorem dL_refuses_398 : decode cL_refuses 398 = .ok (.iconst 0, 1) := by decide +kernel
theorem dL_refuses_399 : decode cL_refuses 399 = .ok (.iconst 0, 1) := by decide +kernel
theorem dL_refuses_400 : decode cL_refuses 400 = .ok (.iload 13, 2) := by decide +kernel
theorem dL_refuses_402 : decode cL_refuses 402 = .ok (.invokestatic 93, 3) := by decide +kernel
theorem dL_refuses_405 : decode cL_refuses 405 = .ok (.iload 6, 2) := by decide +kernel
theorem dL_refuses_407 : decode cL_refuses 407 = .ok (.if_icmp .ne 7, 3) := by decide +kernel
theorem dL_refuses_410 : decode cL_refuses 410 = .ok (.iconst 1, 1) := by decide +kernel
theorem dL_refuses_411 : decode cL_refuses 411 = .ok (.goto 4, 3) := by decide +kernel
theorem dL_refuses_414 : decode cL_refuses 414 = .ok (.iconst 0, 1) := by decide +kernel
theorem dL_refuses_415 : decode cL_refuses 415 = .ok (.istore 19, 2) := by decide +kernel
theorem dL_refuses_417 : decode cL_refuses 417 = .ok (.iload 19, 2) := by decide +kernel
theorem dL_refuses_419 : decode cL_refuses 419 = .ok (.ifCond .eq 288, 3) := by decide +kernel
theorem dL_refuses_422 : decode cL_refuses 422 = .ok (.aload_n 0, 1) := by decide +kernel
theorem dL_refuses_423 : decode cL_refuses 423 = .ok (.iload 15, 2) := by decide +kernel
theorem dL_refuses_425 : decode cL_refuses 425 = .ok (.iconst 5, 1) := by decide +kernel
theorem dL_refuses_426 : decode cL_refuses 426 = .ok (.iconst 0, 1) := by decide +kernel
theorem dL_refuses_427 : decode cL_refuses 427 = .ok (.iconst 5, 1) := by decide +kernel
theorem dL_refuses_428 : decode cL_refuses 428 = .ok (.iconst 5, 1) := by decide +kernel
theorem dL_refuses_429 : decode cL_refuses 429 = .ok (.invokestatic 97, 3) := by decide +kernel
theorem dL_refuses_432 : decode cL_refuses 432 = .ok (.iload 6, 2) := by decide +kernel
theorem dL_refuses_434 : decode cL_refuses 434 = .ok (.if_icmp .ne 273, 3) := by decide +kernel
theorem dL_refuses_437 : decode cL_refuses 437 = .ok (.aload_n 0, 1) := by decide +kernel
theorem dL_refuses_438 : decode cL_refuses 438 = .ok (.iconst 5, 1) := by decide +kernel
theorem dL_refuses_439 : decode cL_refuses 439 = .ok (.iload 11, 2) := by decide +kernel
theorem dL_refuses_441 : decode cL_refuses 441 = .ok (.iconst 0, 1) := by decide +kernel
theorem dL_refuses_442 : decode cL_refuses 442 = .ok (.iconst 5, 1) := by decide +kernel
theorem dL_refuses_443 : decode cL_refuses 443 = .ok (.iconst 5, 1) := by decide +kernel
theorem dL_refuses_444 : decode cL_refuses 444 = .ok (.invokestatic 97, 3) := by decide +kernel
theorem dL_refuses_447 : decode cL_refuses 447 = .ok (.iload 6, 2) := by decide +kernel
theorem dL_refuses_449 : decode cL_refuses 449 = .ok (.if_icmp .ne 258, 3) := by decide +kernel
theorem dL_refuses_452 : decode cL_refuses 452 = .ok (.aload_n 0, 1) := by decide +kernel
theorem dL_refuses_453 : decode cL_refuses 453 = .ok (.iconst 5, 1) := by decide +kernel
theorem dL_refuses_454 : decode cL_refuses 454 = .ok (.iconst 5, 1) := by decide +kernel
theorem dL_refuses_455 : decode cL_refuses 455 = .ok (.iload 14, 2) := by decide +kernel
theorem dL_refuses_457 : decode cL_refuses 457 = .ok (.iconst 5, 1) := by decide +kernel
theorem dL_refuses_458 : decode cL_refuses 458 = .ok (.iconst 5, 1) := by decide +kernel
theorem dL_refuses_459 : decode cL_refuses 459 = .ok (.invokestatic 97, 3) := by decide +kernel
theorem dL_refuses_462 : decode cL_refuses 462 = .ok (.iload 6, 2) := by decide +kernel
theorem dL_refuses_464 : decode cL_refuses 464 = .ok (.if_icmp .ne 243, 3) := by decide +kernel
theorem dL_refuses_467 : decode cL_refuses 467 = .ok (.aload_n 0, 1) := by decide +kernel
theorem dL_refuses_468 : decode cL_refuses 468 = .ok (.iconst 5, 1) := by decide +kernel
theorem dL_refuses_469 : decode cL_refuses 469 = .ok (.iconst 5, 1) := by decide +kernel
theorem dL_refuses_470 : decode cL_refuses 470 = .ok (.iconst 0, 1) := by decide +kernel
theorem dL_refuses_471 : decode cL_refuses 471 = .ok (.iload 13, 2) := by decide +kernel
theorem dL_refuses_473 : decode cL_refuses 473 = .ok (.iconst 5, 1) := by decide +kernel
theorem dL_refuses_474 : decode cL_refuses 474 = .ok (.invokestatic 97, 3) := by decide +kernel
theorem dL_refuses_477 : decode cL_refuses 477 = .ok (.iload 6, 2) := by decide +kernel
theorem dL_refuses_479 : decode cL_refuses 479 = .ok (.if_icmp .ne 228, 3) := by decide +kernel
theorem dL_refuses_482 : decode cL_refuses 482 = .ok (.aload_n 0, 1) := by decide +kernel
theorem dL_refuses_483 : decode cL_refuses 483 = .ok (.iconst 5, 1) := by decide +kernel
theorem dL_refuses_484 : decode cL_refuses 484 = .ok (.iconst 5, 1) := by decide +kernel
theorem dL_refuses_485 : decode cL_refuses 485 = .ok (.iconst 0, 1) := by decide +kernel
theorem dL_refuses_486 : decode cL_refuses 486 = .ok (.iconst 5, 1) := by decide +kernel
theorem dL_refuses_487 : decode cL_refuses 487 = .ok (.iload 16, 2) := by decide +kernel
theorem dL_refuses_489 : decode cL_refuses 489 = .ok (.invokestatic 97, 3) := by decide +kernel
theorem dL_refuses_492 : decode cL_refuses 492 = .ok (.iload 6, 2) := by decide +kernel
theorem dL_refuses_494 : decode cL_refuses 494 = .ok (.if_icmp .ne 213, 3) := by decide +kernel
theorem dL_refuses_497 : decode cL_refuses 497 = .ok (.aload_n 0, 1) := by decide +kernel
theorem dL_refuses_498 : decode cL_refuses 498 = .ok (.iconst 3, 1) := by decide +kernel
theorem dL_refuses_499 : decode cL_refuses 499 = .ok (.iload 17, 2) := by decide +kernel
theorem dL_refuses_501 : decode cL_refuses 501 = .ok (.iload 7, 2) := by decide +kernel
theorem dL_refuses_503 : decode cL_refuses 503 = .ok (.iconst 0, 1) := by decide +kernel
theorem dL_refuses_504 : decode cL_refuses 504 = .ok (.invokestatic 86, 3) := by decide +kernel
theorem dL_refuses_507 : decode cL_refuses 507 = .ok (.iload 5, 2) := by decide +kernel
theorem dL_refuses_509 : decode cL_refuses 509 = .ok (.if_icmp .ne 198, 3) := by decide +kernel
theorem dL_refuses_512 : decode cL_refuses 512 = .ok (.aload_n 0, 1) := by decide +kernel
theorem dL_refuses_513 : decode cL_refuses 513 = .ok (.iconst 4, 1) := by decide +kernel
theorem dL_refuses_514 : decode cL_refuses 514 = .ok (.iload 17, 2) := by decide +kernel
theorem dL_refuses_516 : decode cL_refuses 516 = .ok (.iconst 0, 1) := by decide +kernel
theorem dL_refuses_517 : decode cL_refuses 517 = .ok (.iconst 0, 1) := by decide +kernel
theorem dL_refuses_518 : decode cL_refuses 518 = .ok (.invokestatic 86, 3) := by decide +kernel
theorem dL_refuses_521 : decode cL_refuses 521 = .ok (.iload 5, 2) := by decide +kernel
theorem dL_refuses_523 : decode cL_refuses 523 = .ok (.if_icmp .ne 184, 3) := by decide +kernel
theorem dL_refuses_526 : decode cL_refuses 526 = .ok (.aload_n 0, 1) := by decide +kernel
theorem dL_refuses_527 : decode cL_refuses 527 = .ok (.iconst 4, 1) := by decide +kernel
theorem dL_refuses_528 : decode cL_refuses 528 = .ok (.iconst 0, 1) := by decide +kernel
theorem dL_refuses_529 : decode cL_refuses 529 = .ok (.iload 10, 2) := by decide +kernel
theorem dL_refuses_531 : decode cL_refuses 531 = .ok (.iconst 0, 1) := by decide +kernel
theorem dL_refuses_532 : decode cL_refuses 532 = .ok (.invokestatic 86, 3) := by decide +kernel
theorem dL_refuses_535 : decode cL_refuses 535 = .ok (.iload 5, 2) := by decide +kernel
theorem dL_refuses_537 : decode cL_refuses 537 = .ok (.if_icmp .ne 170, 3) := by decide +kernel
theorem dL_refuses_540 : decode cL_refuses 540 = .ok (.aload_n 0, 1) := by decide +kernel
theorem dL_refuses_541 : decode cL_refuses 541 = .ok (.iconst 5, 1) := by decide +kernel
theorem dL_refuses_542 : decode cL_refuses 542 = .ok (.iload 17, 2) := by decide +kernel
theorem dL_refuses_544 : decode cL_refuses 544 = .ok (.iconst 0, 1) := by decide +kernel
theorem dL_refuses_545 : decode cL_refuses 545 = .ok (.iconst (-1), 1) := by decide +kernel
theorem dL_refuses_546 : decode cL_refuses 546 = .ok (.invokestatic 86, 3) := by decide +kernel
theorem dL_refuses_549 : decode cL_refuses 549 = .ok (.iload 5, 2) := by decide +kernel
theorem dL_refuses_551 : decode cL_refuses 551 = .ok (.if_icmp .ne 156, 3) := by decide +kernel
theorem dL_refuses_554 : decode cL_refuses 554 = .ok (.aload_n 0, 1) := by decide +kernel
theorem dL_refuses_555 : decode cL_refuses 555 = .ok (.iconst 5, 1) := by decide +kernel
theorem dL_refuses_556 : decode cL_refuses 556 = .ok (.iconst 0, 1) := by decide +kernel
theorem dL_refuses_557 : decode cL_refuses 557 = .ok (.iload 10, 2) := by decide +kernel
theorem dL_refuses_559 : decode cL_refuses 559 = .ok (.iconst (-1), 1) := by decide +kernel
theorem dL_refuses_560 : decode cL_refuses 560 = .ok (.invokestatic 86, 3) := by decide +kernel
theorem dL_refuses_563 : decode cL_refuses 563 = .ok (.iload 5, 2) := by decide +kernel
theorem dL_refuses_565 : decode cL_refuses 565 = .ok (.if_icmp .ne 142, 3) := by decide +kernel
theorem dL_refuses_568 : decode cL_refuses 568 = .ok (.aload_n 0, 1) := by decide +kernel
theorem dL_refuses_569 : decode cL_refuses 569 = .ok (.bipush 6, 2) := by decide +kernel
theorem dL_refuses_571 : decode cL_refuses 571 = .ok (.iload 17, 2) := by decide +kernel
theorem dL_refuses_573 : decode cL_refuses 573 = .ok (.iconst 0, 1) := by decide +kernel
theorem dL_refuses_574 : decode cL_refuses 574 = .ok (.iconst 0, 1) := by decide +kernel
theorem dL_refuses_575 : decode cL_refuses 575 = .ok (.invokestatic 86, 3) := by decide +kernel
theorem dL_refuses_578 : decode cL_refuses 578 = .ok (.iload 5, 2) := by decide +kernel
theorem dL_refuses_580 : decode cL_refuses 580 = .ok (.if_icmp .ne 127, 3) := by decide +kernel
theorem dL_refuses_583 : decode cL_refuses 583 = .ok (.aload_n 0, 1) := by decide +kernel
theorem dL_refuses_584 : decode cL_refuses 584 = .ok (.bipush 7, 2) := by decide +kernel
theorem dL_refuses_586 : decode cL_refuses 586 = .ok (.iload 18, 2) := by decide +kernel
theorem dL_refuses_588 : decode cL_refuses 588 = .ok (.iconst 0, 1) := by decide +kernel
theorem dL_refuses_589 : decode cL_refuses 589 = .ok (.iconst 0, 1) := by decide +kernel
theorem dL_refuses_590 : decode cL_refuses 590 = .ok (.invokestatic 86, 3) := by decide +kernel
theorem dL_refuses_593 : decode cL_refuses 593 = .ok (.iload 5, 2) := by decide +kernel
theorem dL_refuses_595 : decode cL_refuses 595 = .ok (.if_icmp .ne 112, 3) := by decide +kernel
theorem dL_refuses_598 : decode cL_refuses 598 = .ok (.aload_n 0, 1) := by decide +kernel
theorem dL_refuses_599 : decode cL_refuses 599 = .ok (.bipush 8, 2) := by decide +kernel
theorem dL_refuses_601 : decode cL_refuses 601 = .ok (.iload 18, 2) := by decide +kernel
theorem dL_refuses_603 : decode cL_refuses 603 = .ok (.iconst 0, 1) := by decide +kernel
theorem dL_refuses_604 : decode cL_refuses 604 = .ok (.iconst 0, 1) := by decide +kernel
theorem dL_refuses_605 : decode cL_refuses 605 = .ok (.invokestatic 86, 3) := by decide +kernel
theorem dL_refuses_608 : decode cL_refuses 608 = .ok (.iload 5, 2) := by decide +kernel
theorem dL_refuses_610 : decode cL_refuses 610 = .ok (.if_icmp .ne 97, 3) := by decide +kernel
theorem dL_refuses_613 : decode cL_refuses 613 = .ok (.aload_n 0, 1) := by decide +kernel
theorem dL_refuses_614 : decode cL_refuses 614 = .ok (.bipush 8, 2) := by decide +kernel
theorem dL_refuses_616 : decode cL_refuses 616 = .ok (.iconst 0, 1) := by decide +kernel
theorem dL_refuses_617 : decode cL_refuses 617 = .ok (.iload 17, 2) := by decide +kernel
theorem dL_refuses_619 : decode cL_refuses 619 = .ok (.iconst 0, 1) := by decide +kernel
theorem dL_refuses_620 : decode cL_refuses 620 = .ok (.invokestatic 86, 3) := by decide +kernel
theorem dL_refuses_623 : decode cL_refuses 623 = .ok (.iload 5, 2) := by decide +kernel
theorem dL_refuses_625 : decode cL_refuses 625 = .ok (.if_icmp .ne 82, 3) := by decide +kernel
theorem dL_refuses_628 : decode cL_refuses 628 = .ok (.aload_n 0, 1) := by decide +kernel
theorem dL_refuses_629 : decode cL_refuses 629 = .ok (.bipush 9, 2) := by decide +kernel
theorem dL_refuses_631 : decode cL_refuses 631 = .ok (.iload 18, 2) := by decide +kernel
theorem dL_refuses_633 : decode cL_refuses 633 = .ok (.iconst 0, 1) := by decide +kernel
theorem dL_refuses_634 : decode cL_refuses 634 = .ok (.iconst 0, 1) := by decide +kernel
theorem dL_refuses_635 : decode cL_refuses 635 = .ok (.invokestatic 86, 3) := by decide +kernel
theorem dL_refuses_638 : decode cL_refuses 638 = .ok (.iload 5, 2) := by decide +kernel
theorem dL_refuses_640 : decode cL_refuses 640 = .ok (.if_icmp .ne 67, 3) := by decide +kernel
theorem dL_refuses_643 : decode cL_refuses 643 = .ok (.aload_n 0, 1) := by decide +kernel
theorem dL_refuses_644 : decode cL_refuses 644 = .ok (.bipush 10, 2) := by decide +kernel
theorem dL_refuses_646 : decode cL_refuses 646 = .ok (.iload 17, 2) := by decide +kernel
theorem dL_refuses_648 : decode cL_refuses 648 = .ok (.iconst 0, 1) := by decide +kernel
theorem dL_refuses_649 : decode cL_refuses 649 = .ok (.iconst 0, 1) := by decide +kernel
theorem dL_refuses_650 : decode cL_refuses 650 = .ok (.invokestatic 86, 3) := by decide +kernel
theorem dL_refuses_653 : decode cL_refuses 653 = .ok (.iload 5, 2) := by decide +kernel
theorem dL_refuses_655 : decode cL_refuses 655 = .ok (.if_icmp .ne 52, 3) := by decide +kernel
theorem dL_refuses_658 : decode cL_refuses 658 = .ok (.aload_n 0, 1) := by decide +kernel
theorem dL_refuses_659 : decode cL_refuses 659 = .ok (.bipush 11, 2) := by decide +kernel
theorem dL_refuses_661 : decode cL_refuses 661 = .ok (.iload 17, 2) := by decide +kernel
theorem dL_refuses_663 : decode cL_refuses 663 = .ok (.iconst 0, 1) := by decide +kernel
theorem dL_refuses_664 : decode cL_refuses 664 = .ok (.iconst 0, 1) := by decide +kernel
theorem dL_refuses_665 : decode cL_refuses 665 = .ok (.invokestatic 86, 3) := by decide +kernel
theorem dL_refuses_668 : decode cL_refuses 668 = .ok (.iload 5, 2) := by decide +kernel
theorem dL_refuses_670 : decode cL_refuses 670 = .ok (.if_icmp .ne 37, 3) := by decide +kernel
theorem dL_refuses_673 : decode cL_refuses 673 = .ok (.aload_n 0, 1) := by decide +kernel
theorem dL_refuses_674 : decode cL_refuses 674 = .ok (.bipush 12, 2) := by decide +kernel
theorem dL_refuses_676 : decode cL_refuses 676 = .ok (.iload 18, 2) := by decide +kernel
theorem dL_refuses_678 : decode cL_refuses 678 = .ok (.iconst 0, 1) := by decide +kernel
theorem dL_refuses_679 : decode cL_refuses 679 = .ok (.iconst 0, 1) := by decide +kernel
theorem dL_refuses_680 : decode cL_refuses 680 = .ok (.invokestatic 86, 3) := by decide +kernel
theorem dL_refuses_683 : decode cL_refuses 683 = .ok (.iload 5, 2) := by decide +kernel
theorem dL_refuses_685 : decode cL_refuses 685 = .ok (.if_icmp .ne 22, 3) := by decide +kernel
theorem dL_refuses_688 : decode cL_refuses 688 = .ok (.aload_n 0, 1) := by decide +kernel
theorem dL_refuses_689 : decode cL_refuses 689 = .ok (.bipush 13, 2) := by decide +kernel
theorem dL_refuses_691 : decode cL_refuses 691 = .ok (.iload 10, 2) := by decide +kernel
theorem dL_refuses_693 : decode cL_refuses 693 = .ok (.iconst 0, 1) := by decide +kernel
theorem dL_refuses_694 : decode cL_refuses 694 = .ok (.iconst 0, 1) := by decide +kernel
theorem dL_refuses_695 : decode cL_refuses 695 = .ok (.invokestatic 86, 3) := by decide +kernel
theorem dL_refuses_698 : decode cL_refuses 698 = .ok (.iload 5, 2) := by decide +kernel
theorem dL_refuses_700 : decode cL_refuses 700 = .ok (.if_icmp .ne 7, 3) := by decide +kernel
theorem dL_refuses_703 : decode cL_refuses 703 = .ok (.iconst 1, 1) := by decide +kernel
theorem dL_refuses_704 : decode cL_refuses 704 = .ok (.goto 4, 3) := by decide +kernel
theorem dL_refuses_707 : decode cL_refuses 707 = .ok (.iconst 0, 1) := by decide +kernel
theorem dL_refuses_708 : decode cL_refuses 708 = .ok (.istore 19, 2) := by decide +kernel
theorem dL_refuses_710 : decode cL_refuses 710 = .ok (.iload 19, 2) := by decide +kernel
theorem dL_refuses_712 : decode cL_refuses 712 = .ok (.ifCond .eq 83, 3) := by decide +kernel
theorem dL_refuses_715 : decode cL_refuses 715 = .ok (.iload_n 1, 1) := by decide +kernel
theorem dL_refuses_716 : decode cL_refuses 716 = .ok (.ifCond .eq 41, 3) := by decide +kernel
theorem dL_refuses_719 : decode cL_refuses 719 = .ok (.aload_n 0, 1) := by decide +kernel
theorem dL_refuses_720 : decode cL_refuses 720 = .ok (.iconst 3, 1) := by decide +kernel
theorem dL_refuses_721 : decode cL_refuses 721 = .ok (.iconst 0, 1) := by decide +kernel
theorem dL_refuses_722 : decode cL_refuses 722 = .ok (.iload 8, 2) := by decide +kernel
theorem dL_refuses_724 : decode cL_refuses 724 = .ok (.ifCond .ne 8, 3) := by decide +kernel
theorem dL_refuses_727 : decode cL_refuses 727 = .ok (.ldc 101, 2) := by decide +kernel
theorem dL_refuses_729 : decode cL_refuses 729 = .ok (.goto 5, 3) := by decide +kernel
theorem dL_refuses_732 : decode cL_refuses 732 = .ok (.iload 12, 2) := by decide +kernel
theorem dL_refuses_734 : decode cL_refuses 734 = .ok (.iconst 0, 1) := by decide +kernel
theorem dL_refuses_735 : decode cL_refuses 735 = .ok (.invokestatic 86, 3) := by decide +kernel
theorem dL_refuses_738 : decode cL_refuses 738 = .ok (.iload 6, 2) := by decide +kernel
theorem dL_refuses_740 : decode cL_refuses 740 = .ok (.if_icmp .ne 55, 3) := by decide +kernel
theorem dL_refuses_743 : decode cL_refuses 743 = .ok (.aload_n 0, 1) := by decide +kernel
theorem dL_refuses_744 : decode cL_refuses 744 = .ok (.iconst 5, 1) := by decide +kernel
theorem dL_refuses_745 : decode cL_refuses 745 = .ok (.iconst 0, 1) := by decide +kernel
theorem dL_refuses_746 : decode cL_refuses 746 = .ok (.iconst 0, 1) := by decide +kernel
theorem dL_refuses_747 : decode cL_refuses 747 = .ok (.iload 12, 2) := by decide +kernel
theorem dL_refuses_749 : decode cL_refuses 749 = .ok (.invokestatic 86, 3) := by decide +kernel
theorem dL_refuses_752 : decode cL_refuses 752 = .ok (.iload 6, 2) := by decide +kernel
theorem dL_refuses_754 : decode cL_refuses 754 = .ok (.if_icmp .ne 41, 3) := by decide +kernel
theorem dL_refuses_757 : decode cL_refuses 757 = .ok (.iload_n 2, 1) := by decide +kernel
theorem dL_refuses_758 : decode cL_refuses 758 = .ok (.ifCond .eq 33, 3) := by decide +kernel
theorem dL_refuses_761 : decode cL_refuses 761 = .ok (.aload_n 0, 1) := by decide +kernel
theorem dL_refuses_762 : decode cL_refuses 762 = .ok (.bipush 7, 2) := by decide +kernel
theorem dL_refuses_764 : decode cL_refuses 764 = .ok (.iconst 0, 1) := by decide +kernel
theorem dL_refuses_765 : decode cL_refuses 765 = .ok (.iload 15, 2) := by decide +kernel
theorem dL_refuses_767 : decode cL_refuses 767 = .ok (.iconst 0, 1) := by decide +kernel
theorem dL_refuses_768 : decode cL_refuses 768 = .ok (.invokestatic 86, 3) := by decide +kernel
theorem dL_refuses_771 : decode cL_refuses 771 = .ok (.iload 6, 2) := by decide +kernel
theorem dL_refuses_773 : decode cL_refuses 773 = .ok (.if_icmp .ne 22, 3) := by decide +kernel
theorem dL_refuses_776 : decode cL_refuses 776 = .ok (.aload_n 0, 1) := by decide +kernel
theorem dL_refuses_777 : decode cL_refuses 777 = .ok (.bipush 7, 2) := by decide +kernel
theorem dL_refuses_779 : decode cL_refuses 779 = .ok (.iconst 0, 1) := by decide +kernel
theorem dL_refuses_780 : decode cL_refuses 780 = .ok (.iconst 5, 1) := by decide +kernel
theorem dL_refuses_781 : decode cL_refuses 781 = .ok (.iload 16, 2) := by decide +kernel
theorem dL_refuses_783 : decode cL_refuses 783 = .ok (.invokestatic 86, 3) := by decide +kernel
theorem dL_refuses_786 : decode cL_refuses 786 = .ok (.iload 6, 2) := by decide +kernel
theorem dL_refuses_788 : decode cL_refuses 788 = .ok (.if_icmp .ne 7, 3) := by decide +kernel
theorem dL_refuses_791 : decode cL_refuses 791 = .ok (.iconst 1, 1) := by decide +kernel
theorem dL_refuses_792 : decode cL_refuses 792 = .ok (.goto 4, 3) := by decide +kernel
theorem dL_refuses_795 : decode cL_refuses 795 = .ok (.iconst 0, 1) := by decide +kernel
theorem dL_refuses_796 : decode cL_refuses 796 = .ok (.istore 19, 2) := by decide +kernel
theorem dL_refuses_798 : decode cL_refuses 798 = .ok (.iload 19, 2) := by decide +kernel
theorem dL_refuses_800 : decode cL_refuses 800 = .ok (.ifCond .ne 5, 3) := by decide +kernel
theorem dL_refuses_803 : decode cL_refuses 803 = .ok (.iconst 0, 1) := by decide +kernel
theorem dL_refuses_804 : decode cL_refuses 804 = .ok (.ireturn, 1) := by decide +kernel
theorem dL_refuses_805 : decode cL_refuses 805 = .ok (.iinc 8 1, 3) := by decide +kernel
theorem dL_refuses_808 : decode cL_refuses 808 = .ok (.goto (-772), 3) := by decide +kernel
theorem dL_refuses_811 : decode cL_refuses 811 = .ok (.aload_n 0, 1) := by decide +kernel
theorem dL_refuses_812 : decode cL_refuses 812 = .ok (.invokevirtual 71, 3) := by decide +kernel
theorem dL_refuses_815 : decode cL_refuses 815 = .ok (.iload_n 1, 1) := by decide +kernel
theorem dL_refuses_816 : decode cL_refuses 816 = .ok (.if_icmp .ne 32, 3) := by decide +kernel
theorem dL_refuses_819 : decode cL_refuses 819 = .ok (.aload_n 0, 1) := by decide +kernel
theorem dL_refuses_820 : decode cL_refuses 820 = .ok (.invokevirtual 75, 3) := by decide +kernel
theorem dL_refuses_823 : decode cL_refuses 823 = .ok (.iload_n 2, 1) := by decide +kernel
theorem dL_refuses_824 : decode cL_refuses 824 = .ok (.if_icmp .ne 24, 3) := by decide +kernel
theorem dL_refuses_827 : decode cL_refuses 827 = .ok (.aload_n 0, 1) := by decide +kernel
theorem dL_refuses_828 : decode cL_refuses 828 = .ok (.invokevirtual 78, 3) := by decide +kernel
theorem dL_refuses_831 : decode cL_refuses 831 = .ok (.iload_n 3, 1) := by decide +kernel
theorem dL_refuses_832 : decode cL_refuses 832 = .ok (.if_icmp .ne 16, 3) := by decide +kernel
theorem dL_refuses_835 : decode cL_refuses 835 = .ok (.aload_n 0, 1) := by decide +kernel
theorem dL_refuses_836 : decode cL_refuses 836 = .ok (.invokevirtual 81, 3) := by decide +kernel
theorem dL_refuses_839 : decode cL_refuses 839 = .ok (.iload 4, 2) := by decide +kernel
theorem dL_refuses_841 : decode cL_refuses 841 = .ok (.if_icmp .ne 7, 3) := by decide +kernel
theorem dL_refuses_844 : decode cL_refuses 844 = .ok (.iconst 1, 1) := by decide +kernel
theorem dL_refuses_845 : decode cL_refuses 845 = .ok (.goto 4, 3) := by decide +kernel
theorem dL_refuses_848 : decode cL_refuses 848 = .ok (.iconst 0, 1) := by decide +kernel
theorem dL_refuses_849 : decode cL_refuses 849 = .ok (.ireturn, 1) := by decide +kernel
