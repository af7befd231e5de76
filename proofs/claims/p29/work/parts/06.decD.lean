theorem dL_sound_204 : decode cL_sound 204 = .ok (.aload_n 0, 1) := by decide +kernel
theorem dL_sound_205 : decode cL_sound 205 = .ok (.iload 7, 2) := by decide +kernel
theorem dL_sound_207 : decode cL_sound 207 = .ok (.iconst 3, 1) := by decide +kernel
theorem dL_sound_208 : decode cL_sound 208 = .ok (.invokevirtual 67, 3) := by decide +kernel
theorem dL_sound_211 : decode cL_sound 211 = .ok (.ifCond .ne 7, 3) := by decide +kernel
theorem dL_sound_214 : decode cL_sound 214 = .ok (.iconst 1, 1) := by decide +kernel
theorem dL_sound_215 : decode cL_sound 215 = .ok (.goto 4, 3) := by decide +kernel
theorem dL_sound_218 : decode cL_sound 218 = .ok (.iconst 0, 1) := by decide +kernel
theorem dL_sound_219 : decode cL_sound 219 = .ok (.if_icmp .ne 53, 3) := by decide +kernel
theorem dL_sound_222 : decode cL_sound 222 = .ok (.iload 11, 2) := by decide +kernel
theorem dL_sound_224 : decode cL_sound 224 = .ok (.ldc 77, 2) := by decide +kernel
theorem dL_sound_226 : decode cL_sound 226 = .ok (.if_icmp .ne 7, 3) := by decide +kernel
theorem dL_sound_229 : decode cL_sound 229 = .ok (.iconst 1, 1) := by decide +kernel
theorem dL_sound_230 : decode cL_sound 230 = .ok (.goto 4, 3) := by decide +kernel
theorem dL_sound_233 : decode cL_sound 233 = .ok (.iconst 0, 1) := by decide +kernel
theorem dL_sound_234 : decode cL_sound 234 = .ok (.iload 10, 2) := by decide +kernel
theorem dL_sound_236 : decode cL_sound 236 = .ok (.iconst 1, 1) := by decide +kernel
theorem dL_sound_237 : decode cL_sound 237 = .ok (.if_icmp .eq 9, 3) := by decide +kernel
theorem dL_sound_240 : decode cL_sound 240 = .ok (.iload 10, 2) := by decide +kernel
theorem dL_sound_242 : decode cL_sound 242 = .ok (.iconst 2, 1) := by decide +kernel
theorem dL_sound_243 : decode cL_sound 243 = .ok (.if_icmp .ne 7, 3) := by decide +kernel
theorem dL_sound_246 : decode cL_sound 246 = .ok (.iconst 1, 1) := by decide +kernel
theorem dL_sound_247 : decode cL_sound 247 = .ok (.goto 4, 3) := by decide +kernel
theorem dL_sound_250 : decode cL_sound 250 = .ok (.iconst 0, 1) := by decide +kernel
theorem dL_sound_251 : decode cL_sound 251 = .ok (.if_icmp .ne 21, 3) := by decide +kernel
theorem dL_sound_254 : decode cL_sound 254 = .ok (.iload 11, 2) := by decide +kernel
theorem dL_sound_256 : decode cL_sound 256 = .ok (.aload_n 0, 1) := by decide +kernel
theorem dL_sound_257 : decode cL_sound 257 = .ok (.iload 7, 2) := by decide +kernel
theorem dL_sound_259 : decode cL_sound 259 = .ok (.iload 9, 2) := by decide +kernel
theorem dL_sound_261 : decode cL_sound 261 = .ok (.iconst 2, 1) := by decide +kernel
theorem dL_sound_262 : decode cL_sound 262 = .ok (.invokevirtual 73, 3) := by decide +kernel
theorem dL_sound_265 : decode cL_sound 265 = .ok (.if_icmp .gt 7, 3) := by decide +kernel
theorem dL_sound_268 : decode cL_sound 268 = .ok (.iconst 1, 1) := by decide +kernel
theorem dL_sound_269 : decode cL_sound 269 = .ok (.goto 4, 3) := by decide +kernel
theorem dL_sound_272 : decode cL_sound 272 = .ok (.iconst 0, 1) := by decide +kernel
theorem dL_sound_273 : decode cL_sound 273 = .ok (.istore 6, 2) := by decide +kernel
theorem dL_sound_275 : decode cL_sound 275 = .ok (.iload 6, 2) := by decide +kernel
theorem dL_sound_277 : decode cL_sound 277 = .ok (.ifCond .eq 75, 3) := by decide +kernel
theorem dL_sound_280 : decode cL_sound 280 = .ok (.iload 10, 2) := by decide +kernel
theorem dL_sound_282 : decode cL_sound 282 = .ok (.ifCond .ne 39, 3) := by decide +kernel
theorem dL_sound_285 : decode cL_sound 285 = .ok (.iload 11, 2) := by decide +kernel
theorem dL_sound_287 : decode cL_sound 287 = .ok (.ifCond .le 65, 3) := by decide +kernel
theorem dL_sound_290 : decode cL_sound 290 = .ok (.iload 11, 2) := by decide +kernel
theorem dL_sound_292 : decode cL_sound 292 = .ok (.aload_n 0, 1) := by decide +kernel
theorem dL_sound_293 : decode cL_sound 293 = .ok (.iload 7, 2) := by decide +kernel
theorem dL_sound_295 : decode cL_sound 295 = .ok (.iload 9, 2) := by decide +kernel
theorem dL_sound_297 : decode cL_sound 297 = .ok (.iconst 2, 1) := by decide +kernel
theorem dL_sound_298 : decode cL_sound 298 = .ok (.invokevirtual 73, 3) := by decide +kernel
theorem dL_sound_301 : decode cL_sound 301 = .ok (.if_icmp .ne 51, 3) := by decide +kernel
theorem dL_sound_304 : decode cL_sound 304 = .ok (.aload_n 0, 1) := by decide +kernel
theorem dL_sound_305 : decode cL_sound 305 = .ok (.iload 8, 2) := by decide +kernel
theorem dL_sound_307 : decode cL_sound 307 = .ok (.iconst 0, 1) := by decide +kernel
theorem dL_sound_308 : decode cL_sound 308 = .ok (.invokevirtual 78, 3) := by decide +kernel
theorem dL_sound_311 : decode cL_sound 311 = .ok (.aload_n 0, 1) := by decide +kernel
theorem dL_sound_312 : decode cL_sound 312 = .ok (.iload 7, 2) := by decide +kernel
theorem dL_sound_314 : decode cL_sound 314 = .ok (.iconst 2, 1) := by decide +kernel
theorem dL_sound_315 : decode cL_sound 315 = .ok (.invokevirtual 67, 3) := by decide +kernel
theorem dL_sound_318 : decode cL_sound 318 = .ok (.if_icmp .lt 34, 3) := by decide +kernel
theorem dL_sound_321 : decode cL_sound 321 = .ok (.iload 10, 2) := by decide +kernel
theorem dL_sound_323 : decode cL_sound 323 = .ok (.iconst 1, 1) := by decide +kernel
theorem dL_sound_324 : decode cL_sound 324 = .ok (.if_icmp .eq 24, 3) := by decide +kernel
theorem dL_sound_327 : decode cL_sound 327 = .ok (.aload_n 0, 1) := by decide +kernel
theorem dL_sound_328 : decode cL_sound 328 = .ok (.iload 8, 2) := by decide +kernel
theorem dL_sound_330 : decode cL_sound 330 = .ok (.iconst 2, 1) := by decide +kernel
theorem dL_sound_331 : decode cL_sound 331 = .ok (.invokevirtual 78, 3) := by decide +kernel
theorem dL_sound_334 : decode cL_sound 334 = .ok (.iload 9, 2) := by decide +kernel
theorem dL_sound_336 : decode cL_sound 336 = .ok (.ishr, 1) := by decide +kernel
theorem dL_sound_337 : decode cL_sound 337 = .ok (.iconst 1, 1) := by decide +kernel
theorem dL_sound_338 : decode cL_sound 338 = .ok (.iand, 1) := by decide +kernel
theorem dL_sound_339 : decode cL_sound 339 = .ok (.ifCond .eq 9, 3) := by decide +kernel
theorem dL_sound_342 : decode cL_sound 342 = .ok (.iload 10, 2) := by decide +kernel
theorem dL_sound_344 : decode cL_sound 344 = .ok (.iconst 2, 1) := by decide +kernel
theorem dL_sound_345 : decode cL_sound 345 = .ok (.if_icmp .eq 7, 3) := by decide +kernel
theorem dL_sound_348 : decode cL_sound 348 = .ok (.iconst 1, 1) := by decide +kernel
theorem dL_sound_349 : decode cL_sound 349 = .ok (.goto 4, 3) := by decide +kernel
theorem dL_sound_352 : decode cL_sound 352 = .ok (.iconst 0, 1) := by decide +kernel
theorem dL_sound_353 : decode cL_sound 353 = .ok (.istore 6, 2) := by decide +kernel
theorem dL_sound_355 : decode cL_sound 355 = .ok (.iinc 9 1, 3) := by decide +kernel
theorem dL_sound_358 : decode cL_sound 358 = .ok (.goto (-260), 3) := by decide +kernel
theorem dL_sound_361 : decode cL_sound 361 = .ok (.iinc 7 1, 3) := by decide +kernel
theorem dL_sound_364 : decode cL_sound 364 = .ok (.goto (-300), 3) := by decide +kernel
theorem dL_sound_367 : decode cL_sound 367 = .ok (.iload 6, 2) := by decide +kernel
theorem dL_sound_369 : decode cL_sound 369 = .ok (.ifCond .eq 115, 3) := by decide +kernel
theorem dL_sound_372 : decode cL_sound 372 = .ok (.iload_n 2, 1) := by decide +kernel
theorem dL_sound_373 : decode cL_sound 373 = .ok (.aload_n 0, 1) := by decide +kernel
theorem dL_sound_374 : decode cL_sound 374 = .ok (.iconst 4, 1) := by decide +kernel
theorem dL_sound_375 : decode cL_sound 375 = .ok (.invokevirtual 64, 3) := by decide +kernel
theorem dL_sound_378 : decode cL_sound 378 = .ok (.if_icmp .ne 106, 3) := by decide +kernel
theorem dL_sound_381 : decode cL_sound 381 = .ok (.iload_n 3, 1) := by decide +kernel
theorem dL_sound_382 : decode cL_sound 382 = .ok (.aload_n 0, 1) := by decide +kernel
theorem dL_sound_383 : decode cL_sound 383 = .ok (.bipush 6, 2) := by decide +kernel
theorem dL_sound_385 : decode cL_sound 385 = .ok (.invokevirtual 64, 3) := by decide +kernel
theorem dL_sound_388 : decode cL_sound 388 = .ok (.if_icmp .ne 96, 3) := by decide +kernel
theorem dL_sound_391 : decode cL_sound 391 = .ok (.iload 4, 2) := by decide +kernel
theorem dL_sound_393 : decode cL_sound 393 = .ok (.aload_n 0, 1) := by decide +kernel
theorem dL_sound_394 : decode cL_sound 394 = .ok (.bipush 7, 2) := by decide +kernel
theorem dL_sound_396 : decode cL_sound 396 = .ok (.invokevirtual 64, 3) := by decide +kernel
theorem dL_sound_399 : decode cL_sound 399 = .ok (.if_icmp .ne 85, 3) := by decide +kernel
theorem dL_sound_402 : decode cL_sound 402 = .ok (.iload 5, 2) := by decide +kernel
theorem dL_sound_404 : decode cL_sound 404 = .ok (.aload_n 0, 1) := by decide +kernel
theorem dL_sound_405 : decode cL_sound 405 = .ok (.iconst 0, 1) := by decide +kernel
theorem dL_sound_406 : decode cL_sound 406 = .ok (.invokevirtual 64, 3) := by decide +kernel
theorem dL_sound_409 : decode cL_sound 409 = .ok (.if_icmp .gt 75, 3) := by decide +kernel
theorem dL_sound_412 : decode cL_sound 412 = .ok (.aload_n 0, 1) := by decide +kernel
theorem dL_sound_413 : decode cL_sound 413 = .ok (.iconst 0, 1) := by decide +kernel
theorem dL_sound_414 : decode cL_sound 414 = .ok (.iconst 0, 1) := by decide +kernel
theorem dL_sound_415 : decode cL_sound 415 = .ok (.invokevirtual 78, 3) := by decide +kernel
theorem dL_sound_418 : decode cL_sound 418 = .ok (.aload_n 0, 1) := by decide +kernel
theorem dL_sound_419 : decode cL_sound 419 = .ok (.iconst 1, 1) := by decide +kernel
theorem dL_sound_420 : decode cL_sound 420 = .ok (.invokevirtual 64, 3) := by decide +kernel
theorem dL_sound_423 : decode cL_sound 423 = .ok (.if_icmp .gt 61, 3) := by decide +kernel
theorem dL_sound_426 : decode cL_sound 426 = .ok (.aload_n 0, 1) := by decide +kernel
theorem dL_sound_427 : decode cL_sound 427 = .ok (.iconst 1, 1) := by decide +kernel
theorem dL_sound_428 : decode cL_sound 428 = .ok (.iconst 0, 1) := by decide +kernel
theorem dL_sound_429 : decode cL_sound 429 = .ok (.invokevirtual 78, 3) := by decide +kernel
theorem dL_sound_432 : decode cL_sound 432 = .ok (.aload_n 0, 1) := by decide +kernel
theorem dL_sound_433 : decode cL_sound 433 = .ok (.iconst 1, 1) := by decide +kernel
theorem dL_sound_434 : decode cL_sound 434 = .ok (.invokevirtual 64, 3) := by decide +kernel
theorem dL_sound_437 : decode cL_sound 437 = .ok (.if_icmp .gt 47, 3) := by decide +kernel
theorem dL_sound_440 : decode cL_sound 440 = .ok (.aload_n 0, 1) := by decide +kernel
theorem dL_sound_441 : decode cL_sound 441 = .ok (.invokevirtual 81, 3) := by decide +kernel
theorem dL_sound_444 : decode cL_sound 444 = .ok (.ldc 77, 2) := by decide +kernel
theorem dL_sound_446 : decode cL_sound 446 = .ok (.if_icmp .ne 7, 3) := by decide +kernel
theorem dL_sound_449 : decode cL_sound 449 = .ok (.iconst 1, 1) := by decide +kernel
theorem dL_sound_450 : decode cL_sound 450 = .ok (.goto 4, 3) := by decide +kernel
theorem dL_sound_453 : decode cL_sound 453 = .ok (.iconst 0, 1) := by decide +kernel
theorem dL_sound_454 : decode cL_sound 454 = .ok (.iload 4, 2) := by decide +kernel
theorem dL_sound_456 : decode cL_sound 456 = .ok (.ifCond .ne 7, 3) := by decide +kernel
theorem dL_sound_459 : decode cL_sound 459 = .ok (.iconst 1, 1) := by decide +kernel
theorem dL_sound_460 : decode cL_sound 460 = .ok (.goto 4, 3) := by decide +kernel
theorem dL_sound_463 : decode cL_sound 463 = .ok (.iconst 0, 1) := by decide +kernel
theorem dL_sound_464 : decode cL_sound 464 = .ok (.if_icmp .ne 20, 3) := by decide +kernel
theorem dL_sound_467 : decode cL_sound 467 = .ok (.iload 4, 2) := by decide +kernel
theorem dL_sound_469 : decode cL_sound 469 = .ok (.iconst 1, 1) := by decide +kernel
theorem dL_sound_470 : decode cL_sound 470 = .ok (.if_icmp .ne 10, 3) := by decide +kernel
theorem dL_sound_473 : decode cL_sound 473 = .ok (.aload_n 0, 1) := by decide +kernel
theorem dL_sound_474 : decode cL_sound 474 = .ok (.invokevirtual 81, 3) := by decide +kernel
theorem dL_sound_477 : decode cL_sound 477 = .ok (.ifCond .ne 7, 3) := by decide +kernel
theorem dL_sound_480 : decode cL_sound 480 = .ok (.iconst 1, 1) := by decide +kernel
theorem dL_sound_481 : decode cL_sound 481 = .ok (.goto 4, 3) := by decide +kernel
theorem dL_sound_484 : decode cL_sound 484 = .ok (.iconst 0, 1) := by decide +kernel
theorem dL_sound_485 : decode cL_sound 485 = .ok (.ireturn, 1) := by decide +kernel
theorem dL_goes_0 : decode cL_goes 0 = .ok (.aload_n 0, 1) := by decide +kernel
theorem dL_goes_1 : decode cL_goes 1 = .ok (.invokevirtual 85, 3) := by decide +kernel
theorem dL_goes_4 : decode cL_goes 4 = .ok (.lstore_n 2, 1) := by decide +kernel
theorem dL_goes_5 : decode cL_goes 5 = .ok (.aload_n 0, 1) := by decide +kernel
theorem dL_goes_6 : decode cL_goes 6 = .ok (.iconst 2, 1) := by decide +kernel
theorem dL_goes_7 : decode cL_goes 7 = .ok (.invokevirtual 64, 3) := by decide +kernel
theorem dL_goes_10 : decode cL_goes 10 = .ok (.istore 4, 2) := by decide +kernel
theorem dL_goes_12 : decode cL_goes 12 = .ok (.aload_n 0, 1) := by decide +kernel
theorem dL_goes_13 : decode cL_goes 13 = .ok (.iload_n 1, 1) := by decide +kernel
theorem dL_goes_14 : decode cL_goes 14 = .ok (.invokevirtual 89, 3) := by decide +kernel
theorem dL_goes_17 : decode cL_goes 17 = .ok (.istore 5, 2) := by decide +kernel
theorem dL_goes_19 : decode cL_goes 19 = .ok (.aload_n 0, 1) := by decide +kernel
theorem dL_goes_20 : decode cL_goes 20 = .ok (.invokevirtual 85, 3) := by decide +kernel
theorem dL_goes_23 : decode cL_goes 23 = .ok (.lload_n 2, 1) := by decide +kernel
theorem dL_goes_24 : decode cL_goes 24 = .ok (.lcmp, 1) := by decide +kernel
theorem dL_goes_25 : decode cL_goes 25 = .ok (.ifCond .ne 17, 3) := by decide +kernel
theorem dL_goes_28 : decode cL_goes 28 = .ok (.aload_n 0, 1) := by decide +kernel
theorem dL_goes_29 : decode cL_goes 29 = .ok (.iconst 1, 1) := by decide +kernel
theorem dL_goes_30 : decode cL_goes 30 = .ok (.invokevirtual 92, 3) := by decide +kernel
theorem dL_goes_33 : decode cL_goes 33 = .ok (.iload 4, 2) := by decide +kernel
theorem dL_goes_35 : decode cL_goes 35 = .ok (.if_icmp .ne 7, 3) := by decide +kernel
theorem dL_goes_38 : decode cL_goes 38 = .ok (.iconst 1, 1) := by decide +kernel
theorem dL_goes_39 : decode cL_goes 39 = .ok (.goto 4, 3) := by decide +kernel
theorem dL_goes_42 : decode cL_goes 42 = .ok (.iconst 0, 1) := by decide +kernel
theorem dL_goes_43 : decode cL_goes 43 = .ok (.istore 6, 2) := by decide +kernel
theorem dL_goes_45 : decode cL_goes 45 = .ok (.aload_n 0, 1) := by decide +kernel
theorem dL_goes_46 : decode cL_goes 46 = .ok (.iload_n 1, 1) := by decide +kernel
theorem dL_goes_47 : decode cL_goes 47 = .ok (.invokevirtual 95, 3) := by decide +kernel
theorem dL_goes_50 : decode cL_goes 50 = .ok (.istore 7, 2) := by decide +kernel
theorem dL_goes_52 : decode cL_goes 52 = .ok (.aload_n 0, 1) := by decide +kernel
theorem dL_goes_53 : decode cL_goes 53 = .ok (.invokevirtual 85, 3) := by decide +kernel
theorem dL_goes_56 : decode cL_goes 56 = .ok (.lstore 8, 2) := by decide +kernel
theorem dL_goes_58 : decode cL_goes 58 = .ok (.iload 6, 2) := by decide +kernel
theorem dL_goes_60 : decode cL_goes 60 = .ok (.ifCond .eq 45, 3) := by decide +kernel
theorem dL_goes_63 : decode cL_goes 63 = .ok (.iload 7, 2) := by decide +kernel
theorem dL_goes_65 : decode cL_goes 65 = .ok (.aload_n 0, 1) := by decide +kernel
theorem dL_goes_66 : decode cL_goes 66 = .ok (.iconst 0, 1) := by decide +kernel
theorem dL_goes_67 : decode cL_goes 67 = .ok (.invokevirtual 64, 3) := by decide +kernel
theorem dL_goes_70 : decode cL_goes 70 = .ok (.if_icmp .ne 35, 3) := by decide +kernel
theorem dL_goes_73 : decode cL_goes 73 = .ok (.aload_n 0, 1) := by decide +kernel
theorem dL_goes_74 : decode cL_goes 74 = .ok (.iconst 2, 1) := by decide +kernel
theorem dL_goes_75 : decode cL_goes 75 = .ok (.invokevirtual 64, 3) := by decide +kernel
theorem dL_goes_78 : decode cL_goes 78 = .ok (.iload 4, 2) := by decide +kernel
theorem dL_goes_80 : decode cL_goes 80 = .ok (.iload_n 1, 1) := by decide +kernel
theorem dL_goes_81 : decode cL_goes 81 = .ok (.iadd, 1) := by decide +kernel
theorem dL_goes_82 : decode cL_goes 82 = .ok (.if_icmp .ne 23, 3) := by decide +kernel
theorem dL_goes_85 : decode cL_goes 85 = .ok (.aload_n 0, 1) := by decide +kernel
theorem dL_goes_86 : decode cL_goes 86 = .ok (.invokevirtual 98, 3) := by decide +kernel
theorem dL_goes_89 : decode cL_goes 89 = .ok (.ifCond .lt 16, 3) := by decide +kernel
theorem dL_goes_92 : decode cL_goes 92 = .ok (.aload_n 0, 1) := by decide +kernel
theorem dL_goes_93 : decode cL_goes 93 = .ok (.invokevirtual 85, 3) := by decide +kernel
theorem dL_goes_96 : decode cL_goes 96 = .ok (.lload_n 2, 1) := by decide +kernel
theorem dL_goes_97 : decode cL_goes 97 = .ok (.lcmp, 1) := by decide +kernel
theorem dL_goes_98 : decode cL_goes 98 = .ok (.ifCond .ne 7, 3) := by decide +kernel
theorem dL_goes_101 : decode cL_goes 101 = .ok (.iconst 1, 1) := by decide +kernel
theorem dL_goes_102 : decode cL_goes 102 = .ok (.goto 4, 3) := by decide +kernel
theorem dL_goes_105 : decode cL_goes 105 = .ok (.iconst 0, 1) := by decide +kernel
theorem dL_goes_106 : decode cL_goes 106 = .ok (.istore 6, 2) := by decide +kernel
theorem dL_goes_108 : decode cL_goes 108 = .ok (.ldc 101, 2) := by decide +kernel
theorem dL_goes_110 : decode cL_goes 110 = .ok (.istore 10, 2) := by decide +kernel
theorem dL_goes_112 : decode cL_goes 112 = .ok (.iconst 0, 1) := by decide +kernel
theorem dL_goes_113 : decode cL_goes 113 = .ok (.istore 11, 2) := by decide +kernel
theorem dL_goes_115 : decode cL_goes 115 = .ok (.iload 11, 2) := by decide +kernel
theorem dL_goes_117 : decode cL_goes 117 = .ok (.iload_n 1, 1) := by decide +kernel
theorem dL_goes_118 : decode cL_goes 118 = .ok (.if_icmp .ge 37, 3) := by decide +kernel
theorem dL_goes_121 : decode cL_goes 121 = .ok (.iload 6, 2) := by decide +kernel
theorem dL_goes_123 : decode cL_goes 123 = .ok (.ifCond .eq 32, 3) := by decide +kernel
theorem dL_goes_126 : decode cL_goes 126 = .ok (.aload_n 0, 1) := by decide +kernel
theorem dL_goes_127 : decode cL_goes 127 = .ok (.iconst 1, 1) := by decide +kernel
theorem dL_goes_128 : decode cL_goes 128 = .ok (.invokevirtual 95, 3) := by decide +kernel
theorem dL_goes_131 : decode cL_goes 131 = .ok (.istore 12, 2) := by decide +kernel
theorem dL_goes_133 : decode cL_goes 133 = .ok (.iload 12, 2) := by decide +kernel
theorem dL_goes_135 : decode cL_goes 135 = .ok (.iload 10, 2) := by decide +kernel
theorem dL_goes_137 : decode cL_goes 137 = .ok (.if_icmp .ge 8, 3) := by decide +kernel
theorem dL_goes_140 : decode cL_goes 140 = .ok (.iload 12, 2) := by decide +kernel
theorem dL_goes_142 : decode cL_goes 142 = .ok (.goto 5, 3) := by decide +kernel
theorem dL_goes_145 : decode cL_goes 145 = .ok (.iload 10, 2) := by decide +kernel
theorem dL_goes_147 : decode cL_goes 147 = .ok (.istore 10, 2) := by decide +kernel
theorem dL_goes_149 : decode cL_goes 149 = .ok (.iinc 11 1, 3) := by decide +kernel
theorem dL_goes_152 : decode cL_goes 152 = .ok (.goto (-37), 3) := by decide +kernel
theorem dL_goes_155 : decode cL_goes 155 = .ok (.iload 6, 2) := by decide +kernel
theorem dL_goes_157 : decode cL_goes 157 = .ok (.ifCond .eq 24, 3) := by decide +kernel
theorem dL_goes_160 : decode cL_goes 160 = .ok (.iload 10, 2) := by decide +kernel
theorem dL_goes_162 : decode cL_goes 162 = .ok (.iload 5, 2) := by decide +kernel
theorem dL_goes_164 : decode cL_goes 164 = .ok (.if_icmp .ne 17, 3) := by decide +kernel
theorem dL_goes_167 : decode cL_goes 167 = .ok (.aload_n 0, 1) := by decide +kernel
theorem dL_goes_168 : decode cL_goes 168 = .ok (.invokevirtual 85, 3) := by decide +kernel
theorem dL_goes_171 : decode cL_goes 171 = .ok (.lload 8, 2) := by decide +kernel
theorem dL_goes_173 : decode cL_goes 173 = .ok (.lcmp, 1) := by decide +kernel
theorem dL_goes_174 : decode cL_goes 174 = .ok (.ifCond .ne 7, 3) := by decide +kernel
theorem dL_goes_177 : decode cL_goes 177 = .ok (.iconst 1, 1) := by decide +kernel
theorem dL_goes_178 : decode cL_goes 178 = .ok (.goto 4, 3) := by decide +kernel
theorem dL_goes_181 : decode cL_goes 181 = .ok (.iconst 0, 1) := by decide +kernel
theorem dL_goes_182 : decode cL_goes 182 = .ok (.istore 6, 2) := by decide +kernel
theorem dL_goes_184 : decode cL_goes 184 = .ok (.iload 6, 2) := by decide +kernel
theorem dL_goes_186 : decode cL_goes 186 = .ok (.ifCond .eq 36, 3) := by decide +kernel
theorem dL_goes_189 : decode cL_goes 189 = .ok (.aload_n 0, 1) := by decide +kernel
theorem dL_goes_190 : decode cL_goes 190 = .ok (.iconst 0, 1) := by decide +kernel
theorem dL_goes_191 : decode cL_goes 191 = .ok (.invokevirtual 102, 3) := by decide +kernel
theorem dL_goes_194 : decode cL_goes 194 = .ok (.aload_n 0, 1) := by decide +kernel
theorem dL_goes_195 : decode cL_goes 195 = .ok (.iconst 1, 1) := by decide +kernel
theorem dL_goes_196 : decode cL_goes 196 = .ok (.invokevirtual 102, 3) := by decide +kernel
theorem dL_goes_199 : decode cL_goes 199 = .ok (.isub, 1) := by decide +kernel
theorem dL_goes_200 : decode cL_goes 200 = .ok (.ifCond .lt 22, 3) := by decide +kernel
theorem dL_goes_203 : decode cL_goes 203 = .ok (.aload_n 0, 1) := by decide +kernel
theorem dL_goes_204 : decode cL_goes 204 = .ok (.iconst 0, 1) := by decide +kernel
theorem dL_goes_205 : decode cL_goes 205 = .ok (.invokevirtual 102, 3) := by decide +kernel
theorem dL_goes_208 : decode cL_goes 208 = .ok (.aload_n 0, 1) := by decide +kernel
theorem dL_goes_209 : decode cL_goes 209 = .ok (.iconst 1, 1) := by decide +kernel
theorem dL_goes_210 : decode cL_goes 210 = .ok (.invokevirtual 102, 3) := by decide +kernel
theorem dL_goes_213 : decode cL_goes 213 = .ok (.isub, 1) := by decide +kernel
theorem dL_goes_214 : decode cL_goes 214 = .ok (.iconst 1, 1) := by decide +kernel
theorem dL_goes_215 : decode cL_goes 215 = .ok (.if_icmp .gt 7, 3) := by decide +kernel
theorem dL_goes_218 : decode cL_goes 218 = .ok (.iconst 1, 1) := by decide +kernel
theorem dL_goes_219 : decode cL_goes 219 = .ok (.goto 4, 3) := by decide +kernel
theorem dL_goes_222 : decode cL_goes 222 = .ok (.iconst 0, 1) := by decide +kernel
theorem dL_goes_223 : decode cL_goes 223 = .ok (.ireturn, 1) := by decide +kernel
theorem dL_searches_0 : decode cL_searches 0 = .ok (.aload_n 0, 1) := by decide +kernel
theorem dL_searches_1 : decode cL_searches 1 = .ok (.iconst 0, 1) := by decide +kernel
theorem dL_searches_2 : decode cL_searches 2 = .ok (.invokevirtual 105, 3) := by decide +kernel
theorem dL_searches_5 : decode cL_searches 5 = .ok (.istore_n 1, 1) := by decide +kernel
theorem dL_searches_6 : decode cL_searches 6 = .ok (.aload_n 0, 1) := by decide +kernel
theorem dL_searches_7 : decode cL_searches 7 = .ok (.iconst 1, 1) := by decide +kernel
theorem dL_searches_8 : decode cL_searches 8 = .ok (.invokevirtual 105, 3) := by decide +kernel
theorem dL_searches_11 : decode cL_searches 11 = .ok (.istore_n 2, 1) := by decide +kernel
theorem dL_searches_12 : decode cL_searches 12 = .ok (.iload_n 1, 1) := by decide +kernel
theorem dL_searches_13 : decode cL_searches 13 = .ok (.ldc 77, 2) := by decide +kernel
theorem dL_searches_15 : decode cL_searches 15 = .ok (.if_icmp .ne 26, 3) := by decide +kernel
theorem dL_searches_18 : decode cL_searches 18 = .ok (.iload_n 2, 1) := by decide +kernel
theorem dL_searches_19 : decode cL_searches 19 = .ok (.iconst 1, 1) := by decide +kernel
theorem dL_searches_20 : decode cL_searches 20 = .ok (.if_icmp .ne 17, 3) := by decide +kernel
theorem dL_searches_23 : decode cL_searches 23 = .ok (.aload_n 0, 1) := by decide +kernel
theorem dL_searches_24 : decode cL_searches 24 = .ok (.iconst 2, 1) := by decide +kernel
theorem dL_searches_25 : decode cL_searches 25 = .ok (.invokevirtual 105, 3) := by decide +kernel
theorem dL_searches_28 : decode cL_searches 28 = .ok (.ldc 77, 2) := by decide +kernel
theorem dL_searches_30 : decode cL_searches 30 = .ok (.if_icmp .ne 7, 3) := by decide +kernel
theorem dL_searches_33 : decode cL_searches 33 = .ok (.iconst 1, 1) := by decide +kernel
theorem dL_searches_34 : decode cL_searches 34 = .ok (.goto 36, 3) := by decide +kernel
theorem dL_searches_37 : decode cL_searches 37 = .ok (.iconst 0, 1) := by decide +kernel
theorem dL_searches_38 : decode cL_searches 38 = .ok (.goto 32, 3) := by decide +kernel
theorem dL_searches_41 : decode cL_searches 41 = .ok (.iload_n 1, 1) := by decide +kernel
theorem dL_searches_42 : decode cL_searches 42 = .ok (.ifCond .lt 27, 3) := by decide +kernel
theorem dL_searches_45 : decode cL_searches 45 = .ok (.iload_n 1, 1) := by decide +kernel
theorem dL_searches_46 : decode cL_searches 46 = .ok (.bipush 8, 2) := by decide +kernel
theorem dL_searches_48 : decode cL_searches 48 = .ok (.if_icmp .ge 21, 3) := by decide +kernel
theorem dL_searches_51 : decode cL_searches 51 = .ok (.iload_n 2, 1) := by decide +kernel
theorem dL_searches_52 : decode cL_searches 52 = .ok (.iconst 4, 1) := by decide +kernel
theorem dL_searches_53 : decode cL_searches 53 = .ok (.if_icmp .ne 16, 3) := by decide +kernel
theorem dL_searches_56 : decode cL_searches 56 = .ok (.aload_n 0, 1) := by decide +kernel
theorem dL_searches_57 : decode cL_searches 57 = .ok (.bipush 8, 2) := by decide +kernel
theorem dL_searches_59 : decode cL_searches 59 = .ok (.invokevirtual 64, 3) := by decide +kernel
theorem dL_searches_62 : decode cL_searches 62 = .ok (.ifCond .le 7, 3) := by decide +kernel
theorem dL_searches_65 : decode cL_searches 65 = .ok (.iconst 1, 1) := by decide +kernel
theorem dL_searches_66 : decode cL_searches 66 = .ok (.goto 4, 3) := by decide +kernel
theorem dL_searches_69 : decode cL_searches 69 = .ok (.iconst 0, 1) := by decide +kernel
theorem dL_searches_70 : decode cL_searches 70 = .ok (.ireturn, 1) := by decide +kernel
theorem dL_refuses_0 : decode cL_refuses 0 = .ok (.aload_n 0, 1) := by decide +kernel
theorem dL_refuses_1 : decode cL_refuses 1 = .ok (.invokevirtual 85, 3) := by decide +kernel
theorem dL_refuses_4 : decode cL_refuses 4 = .ok (.lstore_n 1, 1) := by decide +kernel
theorem dL_refuses_5 : decode cL_refuses 5 = .ok (.aload_n 0, 1) := by decide +kernel
theorem dL_refuses_6 : decode cL_refuses 6 = .ok (.iconst (-1), 1) := by decide +kernel
theorem dL_refuses_7 : decode cL_refuses 7 = .ok (.iconst 0, 1) := by decide +kernel
theorem dL_refuses_8 : decode cL_refuses 8 = .ok (.iconst 1, 1) := by decide +kernel
theorem dL_refuses_9 : decode cL_refuses 9 = .ok (.iconst 1, 1) := by decide +kernel
theorem dL_refuses_10 : decode cL_refuses 10 = .ok (.invokevirtual 33, 3) := by decide +kernel
theorem dL_refuses_13 : decode cL_refuses 13 = .ok (.ldc 32, 2) := by decide +kernel
theorem dL_refuses_15 : decode cL_refuses 15 = .ok (.if_icmp .ne 129, 3) := by decide +kernel
theorem dL_refuses_18 : decode cL_refuses 18 = .ok (.aload_n 0, 1) := by decide +kernel
theorem dL_refuses_19 : decode cL_refuses 19 = .ok (.iconst 0, 1) := by decide +kernel
theorem dL_refuses_20 : decode cL_refuses 20 = .ok (.iconst 0, 1) := by decide +kernel
theorem dL_refuses_21 : decode cL_refuses 21 = .ok (.bipush 41, 2) := by decide +kernel
theorem dL_refuses_23 : decode cL_refuses 23 = .ok (.iconst 1, 1) := by decide +kernel
theorem dL_refuses_24 : decode cL_refuses 24 = .ok (.invokevirtual 33, 3) := by decide +kernel
theorem dL_refuses_27 : decode cL_refuses 27 = .ok (.ldc 31, 2) := by decide +kernel
theorem dL_refuses_29 : decode cL_refuses 29 = .ok (.if_icmp .ne 115, 3) := by decide +kernel
theorem dL_refuses_32 : decode cL_refuses 32 = .ok (.aload_n 0, 1) := by decide +kernel
theorem dL_refuses_33 : decode cL_refuses 33 = .ok (.iconst 0, 1) := by decide +kernel
theorem dL_refuses_34 : decode cL_refuses 34 = .ok (.iconst 0, 1) := by decide +kernel
theorem dL_refuses_35 : decode cL_refuses 35 = .ok (.iconst 1, 1) := by decide +kernel
theorem dL_refuses_36 : decode cL_refuses 36 = .ok (.sipush 201, 3) := by decide +kernel
theorem dL_refuses_39 : decode cL_refuses 39 = .ok (.invokevirtual 33, 3) := by decide +kernel
theorem dL_refuses_42 : decode cL_refuses 42 = .ok (.ldc 31, 2) := by decide +kernel
theorem dL_refuses_44 : decode cL_refuses 44 = .ok (.if_icmp .ne 100, 3) := by decide +kernel
theorem dL_refuses_47 : decode cL_refuses 47 = .ok (.aload_n 0, 1) := by decide +kernel
theorem dL_refuses_48 : decode cL_refuses 48 = .ok (.bipush 8, 2) := by decide +kernel
theorem dL_refuses_50 : decode cL_refuses 50 = .ok (.iconst 0, 1) := by decide +kernel
theorem dL_refuses_51 : decode cL_refuses 51 = .ok (.invokevirtual 67, 3) := by decide +kernel
theorem dL_refuses_54 : decode cL_refuses 54 = .ok (.ldc 32, 2) := by decide +kernel
theorem dL_refuses_56 : decode cL_refuses 56 = .ok (.if_icmp .ne 88, 3) := by decide +kernel
theorem dL_refuses_59 : decode cL_refuses 59 = .ok (.aload_n 0, 1) := by decide +kernel
theorem dL_refuses_60 : decode cL_refuses 60 = .ok (.iconst 0, 1) := by decide +kernel
theorem dL_refuses_61 : decode cL_refuses 61 = .ok (.iconst (-1), 1) := by decide +kernel
theorem dL_refuses_62 : decode cL_refuses 62 = .ok (.invokevirtual 67, 3) := by decide +kernel
theorem dL_refuses_65 : decode cL_refuses 65 = .ok (.ldc 31, 2) := by decide +kernel
theorem dL_refuses_67 : decode cL_refuses 67 = .ok (.if_icmp .ne 77, 3) := by decide +kernel
theorem dL_refuses_70 : decode cL_refuses 70 = .ok (.aload_n 0, 1) := by decide +kernel
theorem dL_refuses_71 : decode cL_refuses 71 = .ok (.iconst (-1), 1) := by decide +kernel
theorem dL_refuses_72 : decode cL_refuses 72 = .ok (.iconst 0, 1) := by decide +kernel
theorem dL_refuses_73 : decode cL_refuses 73 = .ok (.invokevirtual 25, 3) := by decide +kernel
theorem dL_refuses_76 : decode cL_refuses 76 = .ok (.ldc 32, 2) := by decide +kernel
theorem dL_refuses_78 : decode cL_refuses 78 = .ok (.if_icmp .ne 66, 3) := by decide +kernel
theorem dL_refuses_81 : decode cL_refuses 81 = .ok (.aload_n 0, 1) := by decide +kernel
theorem dL_refuses_82 : decode cL_refuses 82 = .ok (.iconst 0, 1) := by decide +kernel
theorem dL_refuses_83 : decode cL_refuses 83 = .ok (.bipush 19, 2) := by decide +kernel
theorem dL_refuses_85 : decode cL_refuses 85 = .ok (.invokevirtual 25, 3) := by decide +kernel
theorem dL_refuses_88 : decode cL_refuses 88 = .ok (.ldc 31, 2) := by decide +kernel
theorem dL_refuses_90 : decode cL_refuses 90 = .ok (.if_icmp .ne 54, 3) := by decide +kernel
theorem dL_refuses_93 : decode cL_refuses 93 = .ok (.aload_n 0, 1) := by decide +kernel
theorem dL_refuses_94 : decode cL_refuses 94 = .ok (.bipush 8, 2) := by decide +kernel
theorem dL_refuses_96 : decode cL_refuses 96 = .ok (.iconst 0, 1) := by decide +kernel
theorem dL_refuses_97 : decode cL_refuses 97 = .ok (.iconst 1, 1) := by decide +kernel
theorem dL_refuses_98 : decode cL_refuses 98 = .ok (.invokevirtual 52, 3) := by decide +kernel
theorem dL_refuses_101 : decode cL_refuses 101 = .ok (.ldc 32, 2) := by decide +kernel
theorem dL_refuses_103 : decode cL_refuses 103 = .ok (.if_icmp .ne 41, 3) := by decide +kernel
theorem dL_refuses_106 : decode cL_refuses 106 = .ok (.aload_n 0, 1) := by decide +kernel
theorem dL_refuses_107 : decode cL_refuses 107 = .ok (.bipush 8, 2) := by decide +kernel
theorem dL_refuses_109 : decode cL_refuses 109 = .ok (.iconst 1, 1) := by decide +kernel
theorem dL_refuses_110 : decode cL_refuses 110 = .ok (.invokevirtual 37, 3) := by decide +kernel
theorem dL_refuses_113 : decode cL_refuses 113 = .ok (.ldc 32, 2) := by decide +kernel
theorem dL_refuses_115 : decode cL_refuses 115 = .ok (.if_icmp .ne 29, 3) := by decide +kernel
theorem dL_refuses_118 : decode cL_refuses 118 = .ok (.aload_n 0, 1) := by decide +kernel
theorem dL_refuses_119 : decode cL_refuses 119 = .ok (.iconst (-1), 1) := by decide +kernel
theorem dL_refuses_120 : decode cL_refuses 120 = .ok (.iconst 0, 1) := by decide +kernel
theorem dL_refuses_121 : decode cL_refuses 121 = .ok (.iconst 1, 1) := by decide +kernel
theorem dL_refuses_122 : decode cL_refuses 122 = .ok (.invokevirtual 57, 3) := by decide +kernel
theorem dL_refuses_125 : decode cL_refuses 125 = .ok (.ldc 32, 2) := by decide +kernel
theorem dL_refuses_127 : decode cL_refuses 127 = .ok (.if_icmp .ne 17, 3) := by decide +kernel
theorem dL_refuses_130 : decode cL_refuses 130 = .ok (.aload_n 0, 1) := by decide +kernel
theorem dL_refuses_131 : decode cL_refuses 131 = .ok (.iconst (-1), 1) := by decide +kernel
theorem dL_refuses_132 : decode cL_refuses 132 = .ok (.invokevirtual 95, 3) := by decide +kernel
theorem dL_refuses_135 : decode cL_refuses 135 = .ok (.ldc 31, 2) := by decide +kernel
theorem dL_refuses_137 : decode cL_refuses 137 = .ok (.if_icmp .ne 7, 3) := by decide +kernel
theorem dL_refuses_140 : decode cL_refuses 140 = .ok (.iconst 1, 1) := by decide +kernel
theorem dL_refuses_141 : decode cL_refuses 141 = .ok (.goto 4, 3) := by decide +kernel
theorem dL_refuses_144 : decode cL_refuses 144 = .ok (.iconst 0, 1) := by decide +kernel
theorem dL_refuses_145 : decode cL_refuses 145 = .ok (.istore_n 3, 1) := by decide +kernel
theorem dL_refuses_146 : decode cL_refuses 146 = .ok (.iload_n 3, 1) := by decide +kernel
theorem dL_refuses_147 : decode cL_refuses 147 = .ok (.ifCond .eq 168, 3) := by decide +kernel
theorem dL_refuses_150 : decode cL_refuses 150 = .ok (.aload_n 0, 1) := by decide +kernel
theorem dL_refuses_151 : decode cL_refuses 151 = .ok (.iconst (-1), 1) := by decide +kernel
theorem dL_refuses_152 : decode cL_refuses 152 = .ok (.invokevirtual 108, 3) := by decide +kernel
theorem dL_refuses_155 : decode cL_refuses 155 = .ok (.ldc 31, 2) := by decide +kernel
theorem dL_refuses_157 : decode cL_refuses 157 = .ok (.if_icmp .ne 158, 3) := by decide +kernel
theorem dL_refuses_160 : decode cL_refuses 160 = .ok (.aload_n 0, 1) := by decide +kernel
theorem dL_refuses_161 : decode cL_refuses 161 = .ok (.iconst (-1), 1) := by decide +kernel
theorem dL_refuses_162 : decode cL_refuses 162 = .ok (.invokevirtual 64, 3) := by decide +kernel
theorem dL_refuses_165 : decode cL_refuses 165 = .ok (.ldc 32, 2) := by decide +kernel
theorem dL_refuses_167 : decode cL_refuses 167 = .ok (.if_icmp .ne 148, 3) := by decide +kernel
theorem dL_refuses_170 : decode cL_refuses 170 = .ok (.aload_n 0, 1) := by decide +kernel
theorem dL_refuses_171 : decode cL_refuses 171 = .ok (.iconst (-1), 1) := by decide +kernel
theorem dL_refuses_172 : decode cL_refuses 172 = .ok (.iconst 0, 1) := by decide +kernel
theorem dL_refuses_173 : decode cL_refuses 173 = .ok (.invokevirtual 78, 3) := by decide +kernel
theorem dL_refuses_176 : decode cL_refuses 176 = .ok (.ldc 32, 2) := by decide +kernel
theorem dL_refuses_178 : decode cL_refuses 178 = .ok (.if_icmp .ne 137, 3) := by decide +kernel
theorem dL_refuses_181 : decode cL_refuses 181 = .ok (.aload_n 0, 1) := by decide +kernel
theorem dL_refuses_182 : decode cL_refuses 182 = .ok (.iconst 0, 1) := by decide +kernel
theorem dL_refuses_183 : decode cL_refuses 183 = .ok (.iconst (-1), 1) := by decide +kernel
theorem dL_refuses_184 : decode cL_refuses 184 = .ok (.invokevirtual 78, 3) := by decide +kernel
theorem dL_refuses_187 : decode cL_refuses 187 = .ok (.ldc 31, 2) := by decide +kernel
theorem dL_refuses_189 : decode cL_refuses 189 = .ok (.if_icmp .ne 126, 3) := by decide +kernel
theorem dL_refuses_192 : decode cL_refuses 192 = .ok (.aload_n 0, 1) := by decide +kernel
theorem dL_refuses_193 : decode cL_refuses 193 = .ok (.iconst 2, 1) := by decide +kernel
theorem dL_refuses_194 : decode cL_refuses 194 = .ok (.invokevirtual 102, 3) := by decide +kernel
theorem dL_refuses_197 : decode cL_refuses 197 = .ok (.ldc 32, 2) := by decide +kernel
theorem dL_refuses_199 : decode cL_refuses 199 = .ok (.if_icmp .ne 116, 3) := by decide +kernel
theorem dL_refuses_202 : decode cL_refuses 202 = .ok (.aload_n 0, 1) := by decide +kernel
theorem dL_refuses_203 : decode cL_refuses 203 = .ok (.iconst 0, 1) := by decide +kernel
theorem dL_refuses_204 : decode cL_refuses 204 = .ok (.iconst (-1), 1) := by decide +kernel
theorem dL_refuses_205 : decode cL_refuses 205 = .ok (.iconst 0, 1) := by decide +kernel
theorem dL_refuses_206 : decode cL_refuses 206 = .ok (.invokevirtual 73, 3) := by decide +kernel
theorem dL_refuses_209 : decode cL_refuses 209 = .ok (.ldc 32, 2) := by decide +kernel
theorem dL_refuses_211 : decode cL_refuses 211 = .ok (.if_icmp .ne 104, 3) := by decide +kernel
theorem dL_refuses_214 : decode cL_refuses 214 = .ok (.aload_n 0, 1) := by decide +kernel
theorem dL_refuses_215 : decode cL_refuses 215 = .ok (.iconst 0, 1) := by decide +kernel
theorem dL_refuses_216 : decode cL_refuses 216 = .ok (.iconst 0, 1) := by decide +kernel
theorem dL_refuses_217 : decode cL_refuses 217 = .ok (.iconst (-1), 1) := by decide +kernel
theorem dL_refuses_218 : decode cL_refuses 218 = .ok (.invokevirtual 73, 3) := by decide +kernel
theorem dL_refuses_221 : decode cL_refuses 221 = .ok (.ldc 31, 2) := by decide +kernel
theorem dL_refuses_223 : decode cL_refuses 223 = .ok (.if_icmp .ne 92, 3) := by decide +kernel
theorem dL_refuses_226 : decode cL_refuses 226 = .ok (.aload_n 0, 1) := by decide +kernel
theorem dL_refuses_227 : decode cL_refuses 227 = .ok (.iconst 0, 1) := by decide +kernel
theorem dL_refuses_228 : decode cL_refuses 228 = .ok (.bipush 24, 2) := by decide +kernel
theorem dL_refuses_230 : decode cL_refuses 230 = .ok (.invokevirtual 70, 3) := by decide +kernel
theorem dL_refuses_233 : decode cL_refuses 233 = .ok (.ldc 32, 2) := by decide +kernel
theorem dL_refuses_235 : decode cL_refuses 235 = .ok (.if_icmp .ne 80, 3) := by decide +kernel
theorem dL_refuses_238 : decode cL_refuses 238 = .ok (.aload_n 0, 1) := by decide +kernel
theorem dL_refuses_239 : decode cL_refuses 239 = .ok (.iconst 0, 1) := by decide +kernel
theorem dL_refuses_240 : decode cL_refuses 240 = .ok (.iconst (-1), 1) := by decide +kernel
theorem dL_refuses_241 : decode cL_refuses 241 = .ok (.invokevirtual 111, 3) := by decide +kernel
theorem dL_refuses_244 : decode cL_refuses 244 = .ok (.ldc 32, 2) := by decide +kernel
theorem dL_refuses_246 : decode cL_refuses 246 = .ok (.if_icmp .ne 69, 3) := by decide +kernel
theorem dL_refuses_249 : decode cL_refuses 249 = .ok (.aload_n 0, 1) := by decide +kernel
theorem dL_refuses_250 : decode cL_refuses 250 = .ok (.iconst (-1), 1) := by decide +kernel
theorem dL_refuses_251 : decode cL_refuses 251 = .ok (.invokevirtual 105, 3) := by decide +kernel
theorem dL_refuses_254 : decode cL_refuses 254 = .ok (.ldc 32, 2) := by decide +kernel
theorem dL_refuses_256 : decode cL_refuses 256 = .ok (.if_icmp .ne 59, 3) := by decide +kernel
theorem dL_refuses_259 : decode cL_refuses 259 = .ok (.aload_n 0, 1) := by decide +kernel
theorem dL_refuses_260 : decode cL_refuses 260 = .ok (.iconst (-1), 1) := by decide +kernel
theorem dL_refuses_261 : decode cL_refuses 261 = .ok (.invokevirtual 114, 3) := by decide +kernel
theorem dL_refuses_264 : decode cL_refuses 264 = .ok (.ldc 32, 2) := by decide +kernel
theorem dL_refuses_266 : decode cL_refuses 266 = .ok (.if_icmp .ne 49, 3) := by decide +kernel
theorem dL_refuses_269 : decode cL_refuses 269 = .ok (.aload_n 0, 1) := by decide +kernel
theorem dL_refuses_270 : decode cL_refuses 270 = .ok (.iconst 0, 1) := by decide +kernel
theorem dL_refuses_271 : decode cL_refuses 271 = .ok (.invokevirtual 89, 3) := by decide +kernel
theorem dL_refuses_274 : decode cL_refuses 274 = .ok (.ldc 31, 2) := by decide +kernel
theorem dL_refuses_276 : decode cL_refuses 276 = .ok (.if_icmp .ne 39, 3) := by decide +kernel
theorem dL_refuses_279 : decode cL_refuses 279 = .ok (.aload_n 0, 1) := by decide +kernel
theorem dL_refuses_280 : decode cL_refuses 280 = .ok (.sipush 1001, 3) := by decide +kernel
theorem dL_refuses_283 : decode cL_refuses 283 = .ok (.invokevirtual 89, 3) := by decide +kernel
theorem dL_refuses_286 : decode cL_refuses 286 = .ok (.ldc 31, 2) := by decide +kernel
theorem dL_refuses_288 : decode cL_refuses 288 = .ok (.if_icmp .ne 27, 3) := by decide +kernel
theorem dL_refuses_291 : decode cL_refuses 291 = .ok (.aload_n 0, 1) := by decide +kernel
theorem dL_refuses_292 : decode cL_refuses 292 = .ok (.iconst 2, 1) := by decide +kernel
theorem dL_refuses_293 : decode cL_refuses 293 = .ok (.invokevirtual 92, 3) := by decide +kernel
theorem dL_refuses_296 : decode cL_refuses 296 = .ok (.ldc 32, 2) := by decide +kernel
theorem dL_refuses_298 : decode cL_refuses 298 = .ok (.if_icmp .ne 17, 3) := by decide +kernel
theorem dL_refuses_301 : decode cL_refuses 301 = .ok (.aload_n 0, 1) := by decide +kernel
theorem dL_refuses_302 : decode cL_refuses 302 = .ok (.iconst (-1), 1) := by decide +kernel
theorem dL_refuses_303 : decode cL_refuses 303 = .ok (.invokevirtual 117, 3) := by decide +kernel
theorem dL_refuses_306 : decode cL_refuses 306 = .ok (.ldc 32, 2) := by decide +kernel
theorem dL_refuses_308 : decode cL_refuses 308 = .ok (.if_icmp .ne 7, 3) := by decide +kernel
theorem dL_refuses_311 : decode cL_refuses 311 = .ok (.iconst 1, 1) := by decide +kernel
theorem dL_refuses_312 : decode cL_refuses 312 = .ok (.goto 4, 3) := by decide +kernel
theorem dL_refuses_315 : decode cL_refuses 315 = .ok (.iconst 0, 1) := by decide +kernel
theorem dL_refuses_316 : decode cL_refuses 316 = .ok (.istore_n 3, 1) := by decide +kernel
theorem dL_refuses_317 : decode cL_refuses 317 = .ok (.iload_n 3, 1) := by decide +kernel
theorem dL_refuses_318 : decode cL_refuses 318 = .ok (.ifCond .eq 16, 3) := by decide +kernel
theorem dL_refuses_321 : decode cL_refuses 321 = .ok (.aload_n 0, 1) := by decide +kernel
theorem dL_refuses_322 : decode cL_refuses 322 = .ok (.invokevirtual 85, 3) := by decide +kernel
theorem dL_refuses_325 : decode cL_refuses 325 = .ok (.lload_n 1, 1) := by decide +kernel
theorem dL_refuses_326 : decode cL_refuses 326 = .ok (.lcmp, 1) := by decide +kernel
theorem dL_refuses_327 : decode cL_refuses 327 = .ok (.ifCond .ne 7, 3) := by decide +kernel
theorem dL_refuses_330 : decode cL_refuses 330 = .ok (.iconst 1, 1) := by decide +kernel
theorem dL_refuses_331 : decode cL_refuses 331 = .ok (.goto 4, 3) := by decide +kernel
theorem dL_refuses_334 : decode cL_refuses 334 = .ok (.iconst 0, 1) := by decide +kernel
theorem dL_refuses_335 : decode cL_refuses 335 = .ok (.ireturn, 1) := by decide +kernel
theorem dL_law_0 : decode cL_law 0 = .ok (.new 26, 3) := by decide +kernel
theorem dL_law_3 : decode cL_law 3 = .ok (.dup, 1) := by decide +kernel
theorem dL_law_4 : decode cL_law 4 = .ok (.invokespecial 120, 3) := by decide +kernel
theorem dL_law_7 : decode cL_law 7 = .ok (.astore_n 1, 1) := by decide +kernel
theorem dL_law_8 : decode cL_law 8 = .ok (.bipush 40, 2) := by decide +kernel
theorem dL_law_10 : decode cL_law 10 = .ok (.newarray .int, 2) := by decide +kernel
theorem dL_law_12 : decode cL_law 12 = .ok (.astore_n 2, 1) := by decide +kernel
theorem dL_law_13 : decode cL_law 13 = .ok (.bipush 9, 2) := by decide +kernel
theorem dL_law_15 : decode cL_law 15 = .ok (.newarray .int, 2) := by decide +kernel
theorem dL_law_17 : decode cL_law 17 = .ok (.astore_n 3, 1) := by decide +kernel
theorem dL_law_18 : decode cL_law 18 = .ok (.bipush 8, 2) := by decide +kernel
theorem dL_law_20 : decode cL_law 20 = .ok (.newarray .int, 2) := by decide +kernel
theorem dL_law_22 : decode cL_law 22 = .ok (.astore 4, 2) := by decide +kernel
theorem dL_law_24 : decode cL_law 24 = .ok (.bipush 15, 2) := by decide +kernel
theorem dL_law_26 : decode cL_law 26 = .ok (.newarray .int, 2) := by decide +kernel
theorem dL_law_28 : decode cL_law 28 = .ok (.astore 5, 2) := by decide +kernel
theorem dL_law_30 : decode cL_law 30 = .ok (.aload_n 2, 1) := by decide +kernel
theorem dL_law_31 : decode cL_law 31 = .ok (.aload_n 3, 1) := by decide +kernel
theorem dL_law_32 : decode cL_law 32 = .ok (.aload 5, 2) := by decide +kernel
theorem dL_law_34 : decode cL_law 34 = .ok (.invokestatic 121, 3) := by decide +kernel
theorem dL_law_37 : decode cL_law 37 = .ok (.aload_n 1, 1) := by decide +kernel
theorem dL_law_38 : decode cL_law 38 = .ok (.iconst 0, 1) := by decide +kernel
theorem dL_law_39 : decode cL_law 39 = .ok (.invokevirtual 117, 3) := by decide +kernel
theorem dL_law_42 : decode cL_law 42 = .ok (.ldc 125, 2) := by decide +kernel
theorem dL_law_44 : decode cL_law 44 = .ok (.if_icmp .ne 32, 3) := by decide +kernel
theorem dL_law_47 : decode cL_law 47 = .ok (.aload_n 1, 1) := by decide +kernel
theorem dL_law_48 : decode cL_law 48 = .ok (.invokevirtual 98, 3) := by decide +kernel
theorem dL_law_51 : decode cL_law 51 = .ok (.ldc 125, 2) := by decide +kernel
theorem dL_law_53 : decode cL_law 53 = .ok (.if_icmp .ne 23, 3) := by decide +kernel
theorem dL_law_56 : decode cL_law 56 = .ok (.aload_n 1, 1) := by decide +kernel
theorem dL_law_57 : decode cL_law 57 = .ok (.invokevirtual 126, 3) := by decide +kernel
theorem dL_law_60 : decode cL_law 60 = .ok (.ifCond .ne 16, 3) := by decide +kernel
theorem dL_law_63 : decode cL_law 63 = .ok (.aload_n 1, 1) := by decide +kernel
theorem dL_law_64 : decode cL_law 64 = .ok (.bipush 7, 2) := by decide +kernel
theorem dL_law_66 : decode cL_law 66 = .ok (.invokevirtual 64, 3) := by decide +kernel
theorem dL_law_69 : decode cL_law 69 = .ok (.ifCond .ne 7, 3) := by decide +kernel
theorem dL_law_72 : decode cL_law 72 = .ok (.iconst 1, 1) := by decide +kernel
theorem dL_law_73 : decode cL_law 73 = .ok (.goto 4, 3) := by decide +kernel
theorem dL_law_76 : decode cL_law 76 = .ok (.iconst 0, 1) := by decide +kernel
theorem dL_law_77 : decode cL_law 77 = .ok (.istore 6, 2) := by decide +kernel
theorem dL_law_79 : decode cL_law 79 = .ok (.iconst 0, 1) := by decide +kernel
theorem dL_law_80 : decode cL_law 80 = .ok (.istore 7, 2) := by decide +kernel
theorem dL_law_82 : decode cL_law 82 = .ok (.iload 7, 2) := by decide +kernel
theorem dL_law_84 : decode cL_law 84 = .ok (.bipush 7, 2) := by decide +kernel
theorem dL_law_86 : decode cL_law 86 = .ok (.if_icmp .ge 226, 3) := by decide +kernel
theorem dL_law_89 : decode cL_law 89 = .ok (.iload 6, 2) := by decide +kernel
theorem dL_law_91 : decode cL_law 91 = .ok (.ifCond .eq 221, 3) := by decide +kernel
theorem dL_law_94 : decode cL_law 94 = .ok (.aload_n 0, 1) := by decide +kernel
theorem dL_law_95 : decode cL_law 95 = .ok (.iconst 2, 1) := by decide +kernel
theorem dL_law_96 : decode cL_law 96 = .ok (.iload 7, 2) := by decide +kernel
theorem dL_law_98 : decode cL_law 98 = .ok (.imul, 1) := by decide +kernel
theorem dL_law_99 : decode cL_law 99 = .ok (.invokestatic 129, 3) := by decide +kernel
theorem dL_law_102 : decode cL_law 102 = .ok (.istore 8, 2) := by decide +kernel
theorem dL_law_104 : decode cL_law 104 = .ok (.aload_n 0, 1) := by decide +kernel
theorem dL_law_105 : decode cL_law 105 = .ok (.iconst 2, 1) := by decide +kernel
theorem dL_law_106 : decode cL_law 106 = .ok (.iload 7, 2) := by decide +kernel
theorem dL_law_108 : decode cL_law 108 = .ok (.imul, 1) := by decide +kernel
theorem dL_law_109 : decode cL_law 109 = .ok (.iconst 1, 1) := by decide +kernel
theorem dL_law_110 : decode cL_law 110 = .ok (.iadd, 1) := by decide +kernel
theorem dL_law_111 : decode cL_law 111 = .ok (.invokestatic 129, 3) := by decide +kernel
theorem dL_law_114 : decode cL_law 114 = .ok (.istore 9, 2) := by decide +kernel
theorem dL_law_116 : decode cL_law 116 = .ok (.aload_n 1, 1) := by decide +kernel
theorem dL_law_117 : decode cL_law 117 = .ok (.aload_n 2, 1) := by decide +kernel
theorem dL_law_118 : decode cL_law 118 = .ok (.aload_n 3, 1) := by decide +kernel
theorem dL_law_119 : decode cL_law 119 = .ok (.aload 4, 2) := by decide +kernel
theorem dL_law_121 : decode cL_law 121 = .ok (.aload 5, 2) := by decide +kernel
theorem dL_law_123 : decode cL_law 123 = .ok (.iload 8, 2) := by decide +kernel
theorem dL_law_125 : decode cL_law 125 = .ok (.invokestatic 133, 3) := by decide +kernel
theorem dL_law_128 : decode cL_law 128 = .ok (.ifCond .eq 105, 3) := by decide +kernel
theorem dL_law_131 : decode cL_law 131 = .ok (.aload_n 1, 1) := by decide +kernel
theorem dL_law_132 : decode cL_law 132 = .ok (.aload_n 2, 1) := by decide +kernel
theorem dL_law_133 : decode cL_law 133 = .ok (.aload_n 3, 1) := by decide +kernel
theorem dL_law_134 : decode cL_law 134 = .ok (.aload 4, 2) := by decide +kernel
theorem dL_law_136 : decode cL_law 136 = .ok (.aload 5, 2) := by decide +kernel
theorem dL_law_138 : decode cL_law 138 = .ok (.iload 9, 2) := by decide +kernel
theorem dL_law_140 : decode cL_law 140 = .ok (.invokestatic 133, 3) := by decide +kernel
theorem dL_law_143 : decode cL_law 143 = .ok (.ifCond .eq 90, 3) := by decide +kernel
theorem dL_law_146 : decode cL_law 146 = .ok (.aload_n 1, 1) := by decide +kernel
theorem dL_law_147 : decode cL_law 147 = .ok (.aload_n 2, 1) := by decide +kernel
theorem dL_law_148 : decode cL_law 148 = .ok (.aload_n 3, 1) := by decide +kernel
theorem dL_law_149 : decode cL_law 149 = .ok (.aload 4, 2) := by decide +kernel
theorem dL_law_151 : decode cL_law 151 = .ok (.aload 5, 2) := by decide +kernel
theorem dL_law_153 : decode cL_law 153 = .ok (.iload 8, 2) := by decide +kernel
theorem dL_law_155 : decode cL_law 155 = .ok (.bipush 11, 2) := by decide +kernel
theorem dL_law_157 : decode cL_law 157 = .ok (.ishr, 1) := by decide +kernel
theorem dL_law_158 : decode cL_law 158 = .ok (.invokestatic 133, 3) := by decide +kernel
theorem dL_law_161 : decode cL_law 161 = .ok (.ifCond .eq 72, 3) := by decide +kernel
theorem dL_law_164 : decode cL_law 164 = .ok (.aload_n 1, 1) := by decide +kernel
theorem dL_law_165 : decode cL_law 165 = .ok (.aload_n 2, 1) := by decide +kernel
theorem dL_law_166 : decode cL_law 166 = .ok (.aload_n 3, 1) := by decide +kernel
theorem dL_law_167 : decode cL_law 167 = .ok (.aload 4, 2) := by decide +kernel
theorem dL_law_169 : decode cL_law 169 = .ok (.aload 5, 2) := by decide +kernel
theorem dL_law_171 : decode cL_law 171 = .ok (.iload 9, 2) := by decide +kernel
theorem dL_law_173 : decode cL_law 173 = .ok (.bipush 11, 2) := by decide +kernel
theorem dL_law_175 : decode cL_law 175 = .ok (.ishr, 1) := by decide +kernel
theorem dL_law_176 : decode cL_law 176 = .ok (.invokestatic 133, 3) := by decide +kernel
theorem dL_law_179 : decode cL_law 179 = .ok (.ifCond .eq 54, 3) := by decide +kernel
theorem dL_law_182 : decode cL_law 182 = .ok (.aload_n 1, 1) := by decide +kernel
theorem dL_law_183 : decode cL_law 183 = .ok (.aload_n 2, 1) := by decide +kernel
theorem dL_law_184 : decode cL_law 184 = .ok (.aload_n 3, 1) := by decide +kernel
theorem dL_law_185 : decode cL_law 185 = .ok (.aload 4, 2) := by decide +kernel
theorem dL_law_187 : decode cL_law 187 = .ok (.aload 5, 2) := by decide +kernel
theorem dL_law_189 : decode cL_law 189 = .ok (.iconst 2, 1) := by decide +kernel
theorem dL_law_190 : decode cL_law 190 = .ok (.iload 9, 2) := by decide +kernel
theorem dL_law_192 : decode cL_law 192 = .ok (.bipush 7, 2) := by decide +kernel
theorem dL_law_194 : decode cL_law 194 = .ok (.ishr, 1) := by decide +kernel
theorem dL_law_195 : decode cL_law 195 = .ok (.bipush (-8), 2) := by decide +kernel
theorem dL_law_197 : decode cL_law 197 = .ok (.iand, 1) := by decide +kernel
theorem dL_law_198 : decode cL_law 198 = .ok (.iadd, 1) := by decide +kernel
theorem dL_law_199 : decode cL_law 199 = .ok (.invokestatic 133, 3) := by decide +kernel
theorem dL_law_202 : decode cL_law 202 = .ok (.ifCond .eq 31, 3) := by decide +kernel
theorem dL_law_205 : decode cL_law 205 = .ok (.aload_n 1, 1) := by decide +kernel
theorem dL_law_206 : decode cL_law 206 = .ok (.aload_n 2, 1) := by decide +kernel
theorem dL_law_207 : decode cL_law 207 = .ok (.aload_n 3, 1) := by decide +kernel
theorem dL_law_208 : decode cL_law 208 = .ok (.aload 4, 2) := by decide +kernel
theorem dL_law_210 : decode cL_law 210 = .ok (.aload 5, 2) := by decide +kernel
theorem dL_law_212 : decode cL_law 212 = .ok (.bipush 6, 2) := by decide +kernel
theorem dL_law_214 : decode cL_law 214 = .ok (.iload 8, 2) := by decide +kernel
theorem dL_law_216 : decode cL_law 216 = .ok (.bipush 8, 2) := by decide +kernel
theorem dL_law_218 : decode cL_law 218 = .ok (.ishr, 1) := by decide +kernel
theorem dL_law_219 : decode cL_law 219 = .ok (.bipush (-8), 2) := by decide +kernel
theorem dL_law_221 : decode cL_law 221 = .ok (.iand, 1) := by decide +kernel
theorem dL_law_222 : decode cL_law 222 = .ok (.iadd, 1) := by decide +kernel
theorem dL_law_223 : decode cL_law 223 = .ok (.invokestatic 133, 3) := by decide +kernel
theorem dL_law_226 : decode cL_law 226 = .ok (.ifCond .eq 7, 3) := by decide +kernel
theorem dL_law_229 : decode cL_law 229 = .ok (.iconst 1, 1) := by decide +kernel
theorem dL_law_230 : decode cL_law 230 = .ok (.goto 4, 3) := by decide +kernel
theorem dL_law_233 : decode cL_law 233 = .ok (.iconst 0, 1) := by decide +kernel
theorem dL_law_234 : decode cL_law 234 = .ok (.istore 6, 2) := by decide +kernel
theorem dL_law_236 : decode cL_law 236 = .ok (.iload 6, 2) := by decide +kernel
theorem dL_law_238 : decode cL_law 238 = .ok (.ifCond .eq 65, 3) := by decide +kernel
theorem dL_law_241 : decode cL_law 241 = .ok (.aload_n 1, 1) := by decide +kernel
theorem dL_law_242 : decode cL_law 242 = .ok (.sipush 3000, 3) := by decide +kernel
theorem dL_law_245 : decode cL_law 245 = .ok (.invokestatic 137, 3) := by decide +kernel
theorem dL_law_248 : decode cL_law 248 = .ok (.ifCond .eq 55, 3) := by decide +kernel
theorem dL_law_251 : decode cL_law 251 = .ok (.aload_n 1, 1) := by decide +kernel
theorem dL_law_252 : decode cL_law 252 = .ok (.iconst 1, 1) := by decide +kernel
theorem dL_law_253 : decode cL_law 253 = .ok (.iload 8, 2) := by decide +kernel
theorem dL_law_255 : decode cL_law 255 = .ok (.bipush 18, 2) := by decide +kernel
theorem dL_law_257 : decode cL_law 257 = .ok (.ishr, 1) := by decide +kernel
theorem dL_law_258 : decode cL_law 258 = .ok (.bipush 60, 2) := by decide +kernel
theorem dL_law_260 : decode cL_law 260 = .ok (.irem, 1) := by decide +kernel
theorem dL_law_261 : decode cL_law 261 = .ok (.iadd, 1) := by decide +kernel
theorem dL_law_262 : decode cL_law 262 = .ok (.invokestatic 141, 3) := by decide +kernel
theorem dL_law_265 : decode cL_law 265 = .ok (.ifCond .eq 38, 3) := by decide +kernel
theorem dL_law_268 : decode cL_law 268 = .ok (.aload_n 1, 1) := by decide +kernel
theorem dL_law_269 : decode cL_law 269 = .ok (.sipush 3000, 3) := by decide +kernel
theorem dL_law_272 : decode cL_law 272 = .ok (.invokestatic 137, 3) := by decide +kernel
theorem dL_law_275 : decode cL_law 275 = .ok (.ifCond .eq 28, 3) := by decide +kernel
theorem dL_law_278 : decode cL_law 278 = .ok (.aload_n 1, 1) := by decide +kernel
theorem dL_law_279 : decode cL_law 279 = .ok (.invokestatic 144, 3) := by decide +kernel
theorem dL_law_282 : decode cL_law 282 = .ok (.ifCond .eq 21, 3) := by decide +kernel
theorem dL_law_285 : decode cL_law 285 = .ok (.iload 7, 2) := by decide +kernel
theorem dL_law_287 : decode cL_law 287 = .ok (.iconst 3, 1) := by decide +kernel
theorem dL_law_288 : decode cL_law 288 = .ok (.irem, 1) := by decide +kernel
theorem dL_law_289 : decode cL_law 289 = .ok (.ifCond .gt 10, 3) := by decide +kernel
theorem dL_law_292 : decode cL_law 292 = .ok (.aload_n 1, 1) := by decide +kernel
theorem dL_law_293 : decode cL_law 293 = .ok (.invokestatic 148, 3) := by decide +kernel
theorem dL_law_296 : decode cL_law 296 = .ok (.ifCond .eq 7, 3) := by decide +kernel
theorem dL_law_299 : decode cL_law 299 = .ok (.iconst 1, 1) := by decide +kernel
theorem dL_law_300 : decode cL_law 300 = .ok (.goto 4, 3) := by decide +kernel
theorem dL_law_303 : decode cL_law 303 = .ok (.iconst 0, 1) := by decide +kernel
theorem dL_law_304 : decode cL_law 304 = .ok (.istore 6, 2) := by decide +kernel
theorem dL_law_306 : decode cL_law 306 = .ok (.iinc 7 1, 3) := by decide +kernel
theorem dL_law_309 : decode cL_law 309 = .ok (.goto (-227), 3) := by decide +kernel
theorem dL_law_312 : decode cL_law 312 = .ok (.aload_n 1, 1) := by decide +kernel
theorem dL_law_313 : decode cL_law 313 = .ok (.invokevirtual 85, 3) := by decide +kernel
theorem dL_law_316 : decode cL_law 316 = .ok (.lstore 7, 2) := by decide +kernel
theorem dL_law_318 : decode cL_law 318 = .ok (.aload_n 1, 1) := by decide +kernel
theorem dL_law_319 : decode cL_law 319 = .ok (.iconst 2, 1) := by decide +kernel
theorem dL_law_320 : decode cL_law 320 = .ok (.invokevirtual 64, 3) := by decide +kernel
theorem dL_law_323 : decode cL_law 323 = .ok (.istore 9, 2) := by decide +kernel
theorem dL_law_325 : decode cL_law 325 = .ok (.iload 6, 2) := by decide +kernel
theorem dL_law_327 : decode cL_law 327 = .ok (.ifCond .eq 63, 3) := by decide +kernel
theorem dL_law_330 : decode cL_law 330 = .ok (.aload_n 1, 1) := by decide +kernel
theorem dL_law_331 : decode cL_law 331 = .ok (.iconst 0, 1) := by decide +kernel
theorem dL_law_332 : decode cL_law 332 = .ok (.invokevirtual 92, 3) := by decide +kernel
theorem dL_law_335 : decode cL_law 335 = .ok (.iload 9, 2) := by decide +kernel
theorem dL_law_337 : decode cL_law 337 = .ok (.if_icmp .ne 53, 3) := by decide +kernel
theorem dL_law_340 : decode cL_law 340 = .ok (.aload_n 1, 1) := by decide +kernel
theorem dL_law_341 : decode cL_law 341 = .ok (.sipush 200, 3) := by decide +kernel
theorem dL_law_344 : decode cL_law 344 = .ok (.invokevirtual 95, 3) := by decide +kernel
theorem dL_law_347 : decode cL_law 347 = .ok (.ifCond .lt 43, 3) := by decide +kernel
theorem dL_law_350 : decode cL_law 350 = .ok (.aload_n 1, 1) := by decide +kernel
theorem dL_law_351 : decode cL_law 351 = .ok (.iconst 3, 1) := by decide +kernel
theorem dL_law_352 : decode cL_law 352 = .ok (.iconst 0, 1) := by decide +kernel
theorem dL_law_353 : decode cL_law 353 = .ok (.bipush 40, 2) := by decide +kernel
theorem dL_law_355 : decode cL_law 355 = .ok (.iconst 0, 1) := by decide +kernel
theorem dL_law_356 : decode cL_law 356 = .ok (.invokevirtual 33, 3) := by decide +kernel
theorem dL_law_359 : decode cL_law 359 = .ok (.aload_n 2, 1) := by decide +kernel
theorem dL_law_360 : decode cL_law 360 = .ok (.bipush 16, 2) := by decide +kernel
theorem dL_law_362 : decode cL_law 362 = .ok (.iaload, 1) := by decide +kernel
theorem dL_law_363 : decode cL_law 363 = .ok (.if_icmp .ne 27, 3) := by decide +kernel
theorem dL_law_366 : decode cL_law 366 = .ok (.aload_n 1, 1) := by decide +kernel
theorem dL_law_367 : decode cL_law 367 = .ok (.iconst 1, 1) := by decide +kernel
theorem dL_law_368 : decode cL_law 368 = .ok (.iconst 1, 1) := by decide +kernel
theorem dL_law_369 : decode cL_law 369 = .ok (.invokevirtual 48, 3) := by decide +kernel
theorem dL_law_372 : decode cL_law 372 = .ok (.aload 5, 2) := by decide +kernel
theorem dL_law_374 : decode cL_law 374 = .ok (.iconst 1, 1) := by decide +kernel
theorem dL_law_375 : decode cL_law 375 = .ok (.iaload, 1) := by decide +kernel
theorem dL_law_376 : decode cL_law 376 = .ok (.if_icmp .ne 14, 3) := by decide +kernel
theorem dL_law_379 : decode cL_law 379 = .ok (.aload_n 1, 1) := by decide +kernel
theorem dL_law_380 : decode cL_law 380 = .ok (.invokevirtual 98, 3) := by decide +kernel
theorem dL_law_383 : decode cL_law 383 = .ok (.ifCond .lt 7, 3) := by decide +kernel
theorem dL_law_386 : decode cL_law 386 = .ok (.iconst 1, 1) := by decide +kernel
theorem dL_law_387 : decode cL_law 387 = .ok (.goto 4, 3) := by decide +kernel
theorem dL_law_390 : decode cL_law 390 = .ok (.iconst 0, 1) := by decide +kernel
theorem dL_law_391 : decode cL_law 391 = .ok (.istore 6, 2) := by decide +kernel
theorem dL_law_393 : decode cL_law 393 = .ok (.iload 6, 2) := by decide +kernel
theorem dL_law_395 : decode cL_law 395 = .ok (.ifCond .eq 45, 3) := by decide +kernel
theorem dL_law_398 : decode cL_law 398 = .ok (.aload_n 1, 1) := by decide +kernel
theorem dL_law_399 : decode cL_law 399 = .ok (.iconst 0, 1) := by decide +kernel
theorem dL_law_400 : decode cL_law 400 = .ok (.invokevirtual 117, 3) := by decide +kernel
theorem dL_law_403 : decode cL_law 403 = .ok (.iload 9, 2) := by decide +kernel
theorem dL_law_405 : decode cL_law 405 = .ok (.if_icmp .ne 35, 3) := by decide +kernel
theorem dL_law_408 : decode cL_law 408 = .ok (.aload_n 1, 1) := by decide +kernel
theorem dL_law_409 : decode cL_law 409 = .ok (.invokevirtual 85, 3) := by decide +kernel
theorem dL_law_412 : decode cL_law 412 = .ok (.lload 7, 2) := by decide +kernel
theorem dL_law_414 : decode cL_law 414 = .ok (.lcmp, 1) := by decide +kernel
theorem dL_law_415 : decode cL_law 415 = .ok (.ifCond .ne 25, 3) := by decide +kernel
theorem dL_law_418 : decode cL_law 418 = .ok (.aload_n 1, 1) := by decide +kernel
theorem dL_law_419 : decode cL_law 419 = .ok (.invokevirtual 98, 3) := by decide +kernel
theorem dL_law_422 : decode cL_law 422 = .ok (.ifCond .lt 18, 3) := by decide +kernel
theorem dL_law_425 : decode cL_law 425 = .ok (.aload_n 1, 1) := by decide +kernel
theorem dL_law_426 : decode cL_law 426 = .ok (.iconst 3, 1) := by decide +kernel
theorem dL_law_427 : decode cL_law 427 = .ok (.iconst 1, 1) := by decide +kernel
theorem dL_law_428 : decode cL_law 428 = .ok (.invokevirtual 67, 3) := by decide +kernel
theorem dL_law_431 : decode cL_law 431 = .ok (.bipush 40, 2) := by decide +kernel
theorem dL_law_433 : decode cL_law 433 = .ok (.if_icmp .ne 7, 3) := by decide +kernel
theorem dL_law_436 : decode cL_law 436 = .ok (.iconst 1, 1) := by decide +kernel
theorem dL_law_437 : decode cL_law 437 = .ok (.goto 4, 3) := by decide +kernel
theorem dL_law_440 : decode cL_law 440 = .ok (.iconst 0, 1) := by decide +kernel
theorem dL_law_441 : decode cL_law 441 = .ok (.ireturn, 1) := by decide +kernel
