theorem dL_sets_365 : decode cL_sets 365 = .ok (.iload 6, 2) := by decide +kernel
theorem dL_sets_367 : decode cL_sets 367 = .ok (.invokevirtual 141, 3) := by decide +kernel
theorem dL_sets_370 : decode cL_sets 370 = .ok (.iload 7, 2) := by decide +kernel
theorem dL_sets_372 : decode cL_sets 372 = .ok (.if_icmp .ne 19, 3) := by decide +kernel
theorem dL_sets_375 : decode cL_sets 375 = .ok (.aload_n 0, 1) := by decide +kernel
theorem dL_sets_376 : decode cL_sets 376 = .ok (.iload 5, 2) := by decide +kernel
theorem dL_sets_378 : decode cL_sets 378 = .ok (.iconst 0, 1) := by decide +kernel
theorem dL_sets_379 : decode cL_sets 379 = .ok (.invokevirtual 141, 3) := by decide +kernel
theorem dL_sets_382 : decode cL_sets 382 = .ok (.bipush (-2), 2) := by decide +kernel
theorem dL_sets_384 : decode cL_sets 384 = .ok (.if_icmp .ne 7, 3) := by decide +kernel
theorem dL_sets_387 : decode cL_sets 387 = .ok (.iconst 1, 1) := by decide +kernel
theorem dL_sets_388 : decode cL_sets 388 = .ok (.goto 4, 3) := by decide +kernel
theorem dL_sets_391 : decode cL_sets 391 = .ok (.iconst 0, 1) := by decide +kernel
theorem dL_sets_392 : decode cL_sets 392 = .ok (.ireturn, 1) := by decide +kernel
theorem dL_sets_393 : decode cL_sets 393 = .ok (.iload 4, 2) := by decide +kernel
theorem dL_sets_395 : decode cL_sets 395 = .ok (.bipush 6, 2) := by decide +kernel
theorem dL_sets_397 : decode cL_sets 397 = .ok (.ishr, 1) := by decide +kernel
theorem dL_sets_398 : decode cL_sets 398 = .ok (.iconst 3, 1) := by decide +kernel
theorem dL_sets_399 : decode cL_sets 399 = .ok (.invokestatic 102, 3) := by decide +kernel
theorem dL_sets_402 : decode cL_sets 402 = .ok (.istore 5, 2) := by decide +kernel
theorem dL_sets_404 : decode cL_sets 404 = .ok (.iload 5, 2) := by decide +kernel
theorem dL_sets_406 : decode cL_sets 406 = .ok (.iconst 1, 1) := by decide +kernel
theorem dL_sets_407 : decode cL_sets 407 = .ok (.iadd, 1) := by decide +kernel
theorem dL_sets_408 : decode cL_sets 408 = .ok (.iload 4, 2) := by decide +kernel
theorem dL_sets_410 : decode cL_sets 410 = .ok (.bipush 9, 2) := by decide +kernel
theorem dL_sets_412 : decode cL_sets 412 = .ok (.ishr, 1) := by decide +kernel
theorem dL_sets_413 : decode cL_sets 413 = .ok (.iconst 2, 1) := by decide +kernel
theorem dL_sets_414 : decode cL_sets 414 = .ok (.invokestatic 102, 3) := by decide +kernel
theorem dL_sets_417 : decode cL_sets 417 = .ok (.iadd, 1) := by decide +kernel
theorem dL_sets_418 : decode cL_sets 418 = .ok (.iconst 3, 1) := by decide +kernel
theorem dL_sets_419 : decode cL_sets 419 = .ok (.irem, 1) := by decide +kernel
theorem dL_sets_420 : decode cL_sets 420 = .ok (.istore 6, 2) := by decide +kernel
theorem dL_sets_422 : decode cL_sets 422 = .ok (.aload_n 1, 1) := by decide +kernel
theorem dL_sets_423 : decode cL_sets 423 = .ok (.bipush 6, 2) := by decide +kernel
theorem dL_sets_425 : decode cL_sets 425 = .ok (.iaload, 1) := by decide +kernel
theorem dL_sets_426 : decode cL_sets 426 = .ok (.iload 5, 2) := by decide +kernel
theorem dL_sets_428 : decode cL_sets 428 = .ok (.if_icmp .ne 17, 3) := by decide +kernel
theorem dL_sets_431 : decode cL_sets 431 = .ok (.aload_n 1, 1) := by decide +kernel
theorem dL_sets_432 : decode cL_sets 432 = .ok (.bipush 7, 2) := by decide +kernel
theorem dL_sets_434 : decode cL_sets 434 = .ok (.iaload, 1) := by decide +kernel
theorem dL_sets_435 : decode cL_sets 435 = .ok (.iload 6, 2) := by decide +kernel
theorem dL_sets_437 : decode cL_sets 437 = .ok (.if_icmp .ne 8, 3) := by decide +kernel
theorem dL_sets_440 : decode cL_sets 440 = .ok (.bipush (-5), 2) := by decide +kernel
theorem dL_sets_442 : decode cL_sets 442 = .ok (.goto 10, 3) := by decide +kernel
theorem dL_sets_445 : decode cL_sets 445 = .ok (.iconst 3, 1) := by decide +kernel
theorem dL_sets_446 : decode cL_sets 446 = .ok (.iload 5, 2) := by decide +kernel
theorem dL_sets_448 : decode cL_sets 448 = .ok (.isub, 1) := by decide +kernel
theorem dL_sets_449 : decode cL_sets 449 = .ok (.iload 6, 2) := by decide +kernel
theorem dL_sets_451 : decode cL_sets 451 = .ok (.isub, 1) := by decide +kernel
theorem dL_sets_452 : decode cL_sets 452 = .ok (.istore 7, 2) := by decide +kernel
theorem dL_sets_454 : decode cL_sets 454 = .ok (.aload_n 1, 1) := by decide +kernel
theorem dL_sets_455 : decode cL_sets 455 = .ok (.bipush 6, 2) := by decide +kernel
theorem dL_sets_457 : decode cL_sets 457 = .ok (.iload 5, 2) := by decide +kernel
theorem dL_sets_459 : decode cL_sets 459 = .ok (.iastore, 1) := by decide +kernel
theorem dL_sets_460 : decode cL_sets 460 = .ok (.aload_n 1, 1) := by decide +kernel
theorem dL_sets_461 : decode cL_sets 461 = .ok (.bipush 7, 2) := by decide +kernel
theorem dL_sets_463 : decode cL_sets 463 = .ok (.iload 6, 2) := by decide +kernel
theorem dL_sets_465 : decode cL_sets 465 = .ok (.iastore, 1) := by decide +kernel
theorem dL_sets_466 : decode cL_sets 466 = .ok (.aload_n 1, 1) := by decide +kernel
theorem dL_sets_467 : decode cL_sets 467 = .ok (.bipush 8, 2) := by decide +kernel
theorem dL_sets_469 : decode cL_sets 469 = .ok (.iconst 3, 1) := by decide +kernel
theorem dL_sets_470 : decode cL_sets 470 = .ok (.iload 5, 2) := by decide +kernel
theorem dL_sets_472 : decode cL_sets 472 = .ok (.isub, 1) := by decide +kernel
theorem dL_sets_473 : decode cL_sets 473 = .ok (.iload 6, 2) := by decide +kernel
theorem dL_sets_475 : decode cL_sets 475 = .ok (.isub, 1) := by decide +kernel
theorem dL_sets_476 : decode cL_sets 476 = .ok (.iastore, 1) := by decide +kernel
theorem dL_sets_477 : decode cL_sets 477 = .ok (.aload_n 0, 1) := by decide +kernel
theorem dL_sets_478 : decode cL_sets 478 = .ok (.iload 5, 2) := by decide +kernel
theorem dL_sets_480 : decode cL_sets 480 = .ok (.iload 6, 2) := by decide +kernel
theorem dL_sets_482 : decode cL_sets 482 = .ok (.invokevirtual 144, 3) := by decide +kernel
theorem dL_sets_485 : decode cL_sets 485 = .ok (.iload 7, 2) := by decide +kernel
theorem dL_sets_487 : decode cL_sets 487 = .ok (.if_icmp .ne 20, 3) := by decide +kernel
theorem dL_sets_490 : decode cL_sets 490 = .ok (.aload_n 0, 1) := by decide +kernel
theorem dL_sets_491 : decode cL_sets 491 = .ok (.iload 5, 2) := by decide +kernel
theorem dL_sets_493 : decode cL_sets 493 = .ok (.iload 5, 2) := by decide +kernel
theorem dL_sets_495 : decode cL_sets 495 = .ok (.invokevirtual 144, 3) := by decide +kernel
theorem dL_sets_498 : decode cL_sets 498 = .ok (.bipush (-2), 2) := by decide +kernel
theorem dL_sets_500 : decode cL_sets 500 = .ok (.if_icmp .ne 7, 3) := by decide +kernel
theorem dL_sets_503 : decode cL_sets 503 = .ok (.iconst 1, 1) := by decide +kernel
theorem dL_sets_504 : decode cL_sets 504 = .ok (.goto 4, 3) := by decide +kernel
theorem dL_sets_507 : decode cL_sets 507 = .ok (.iconst 0, 1) := by decide +kernel
theorem dL_sets_508 : decode cL_sets 508 = .ok (.ireturn, 1) := by decide +kernel
theorem dL_passes_0 : decode cL_passes 0 = .ok (.iconst 0, 1) := by decide +kernel
theorem dL_passes_1 : decode cL_passes 1 = .ok (.istore 9, 2) := by decide +kernel
theorem dL_passes_3 : decode cL_passes 3 = .ok (.iconst 0, 1) := by decide +kernel
theorem dL_passes_4 : decode cL_passes 4 = .ok (.istore 10, 2) := by decide +kernel
theorem dL_passes_6 : decode cL_passes 6 = .ok (.iload 10, 2) := by decide +kernel
theorem dL_passes_8 : decode cL_passes 8 = .ok (.iload 8, 2) := by decide +kernel
theorem dL_passes_10 : decode cL_passes 10 = .ok (.if_icmp .ge 28, 3) := by decide +kernel
theorem dL_passes_13 : decode cL_passes 13 = .ok (.iload 9, 2) := by decide +kernel
theorem dL_passes_15 : decode cL_passes 15 = .ok (.aload_n 1, 1) := by decide +kernel
theorem dL_passes_16 : decode cL_passes 16 = .ok (.aload_n 2, 1) := by decide +kernel
theorem dL_passes_17 : decode cL_passes 17 = .ok (.aload_n 3, 1) := by decide +kernel
theorem dL_passes_18 : decode cL_passes 18 = .ok (.aload 4, 2) := by decide +kernel
theorem dL_passes_20 : decode cL_passes 20 = .ok (.aload 5, 2) := by decide +kernel
theorem dL_passes_22 : decode cL_passes 22 = .ok (.aload 6, 2) := by decide +kernel
theorem dL_passes_24 : decode cL_passes 24 = .ok (.aload 7, 2) := by decide +kernel
theorem dL_passes_26 : decode cL_passes 26 = .ok (.invokestatic 147, 3) := by decide +kernel
theorem dL_passes_29 : decode cL_passes 29 = .ok (.iadd, 1) := by decide +kernel
theorem dL_passes_30 : decode cL_passes 30 = .ok (.istore 9, 2) := by decide +kernel
theorem dL_passes_32 : decode cL_passes 32 = .ok (.iinc 10 1, 3) := by decide +kernel
theorem dL_passes_35 : decode cL_passes 35 = .ok (.goto (-29), 3) := by decide +kernel
theorem dL_passes_38 : decode cL_passes 38 = .ok (.aload_n 0, 1) := by decide +kernel
theorem dL_passes_39 : decode cL_passes 39 = .ok (.iload 8, 2) := by decide +kernel
theorem dL_passes_41 : decode cL_passes 41 = .ok (.invokevirtual 151, 3) := by decide +kernel
theorem dL_passes_44 : decode cL_passes 44 = .ok (.iload 9, 2) := by decide +kernel
theorem dL_passes_46 : decode cL_passes 46 = .ok (.if_icmp .ne 17, 3) := by decide +kernel
theorem dL_passes_49 : decode cL_passes 49 = .ok (.aload_n 0, 1) := by decide +kernel
theorem dL_passes_50 : decode cL_passes 50 = .ok (.iconst 0, 1) := by decide +kernel
theorem dL_passes_51 : decode cL_passes 51 = .ok (.invokevirtual 151, 3) := by decide +kernel
theorem dL_passes_54 : decode cL_passes 54 = .ok (.bipush (-2), 2) := by decide +kernel
theorem dL_passes_56 : decode cL_passes 56 = .ok (.if_icmp .ne 7, 3) := by decide +kernel
theorem dL_passes_59 : decode cL_passes 59 = .ok (.iconst 1, 1) := by decide +kernel
theorem dL_passes_60 : decode cL_passes 60 = .ok (.goto 4, 3) := by decide +kernel
theorem dL_passes_63 : decode cL_passes 63 = .ok (.iconst 0, 1) := by decide +kernel
theorem dL_passes_64 : decode cL_passes 64 = .ok (.ireturn, 1) := by decide +kernel
theorem dL_law_0 : decode cL_law 0 = .ok (.new 69, 3) := by decide +kernel
theorem dL_law_3 : decode cL_law 3 = .ok (.dup, 1) := by decide +kernel
theorem dL_law_4 : decode cL_law 4 = .ok (.invokespecial 154, 3) := by decide +kernel
theorem dL_law_7 : decode cL_law 7 = .ok (.astore_n 1, 1) := by decide +kernel
theorem dL_law_8 : decode cL_law 8 = .ok (.bipush 18, 2) := by decide +kernel
theorem dL_law_10 : decode cL_law 10 = .ok (.newarray .int, 2) := by decide +kernel
theorem dL_law_12 : decode cL_law 12 = .ok (.astore_n 2, 1) := by decide +kernel
theorem dL_law_13 : decode cL_law 13 = .ok (.bipush 48, 2) := by decide +kernel
theorem dL_law_15 : decode cL_law 15 = .ok (.newarray .int, 2) := by decide +kernel
theorem dL_law_17 : decode cL_law 17 = .ok (.astore_n 3, 1) := by decide +kernel
theorem dL_law_18 : decode cL_law 18 = .ok (.bipush 28, 2) := by decide +kernel
theorem dL_law_20 : decode cL_law 20 = .ok (.newarray .int, 2) := by decide +kernel
theorem dL_law_22 : decode cL_law 22 = .ok (.astore 4, 2) := by decide +kernel
theorem dL_law_24 : decode cL_law 24 = .ok (.bipush 10, 2) := by decide +kernel
theorem dL_law_26 : decode cL_law 26 = .ok (.newarray .double, 2) := by decide +kernel
theorem dL_law_28 : decode cL_law 28 = .ok (.astore 5, 2) := by decide +kernel
theorem dL_law_30 : decode cL_law 30 = .ok (.bipush 60, 2) := by decide +kernel
theorem dL_law_32 : decode cL_law 32 = .ok (.newarray .int, 2) := by decide +kernel
theorem dL_law_34 : decode cL_law 34 = .ok (.astore 6, 2) := by decide +kernel
theorem dL_law_36 : decode cL_law 36 = .ok (.bipush 60, 2) := by decide +kernel
theorem dL_law_38 : decode cL_law 38 = .ok (.newarray .int, 2) := by decide +kernel
theorem dL_law_40 : decode cL_law 40 = .ok (.astore 7, 2) := by decide +kernel
theorem dL_law_42 : decode cL_law 42 = .ok (.bipush 10, 2) := by decide +kernel
theorem dL_law_44 : decode cL_law 44 = .ok (.newarray .int, 2) := by decide +kernel
theorem dL_law_46 : decode cL_law 46 = .ok (.astore 8, 2) := by decide +kernel
theorem dL_law_48 : decode cL_law 48 = .ok (.aload_n 2, 1) := by decide +kernel
theorem dL_law_49 : decode cL_law 49 = .ok (.iconst 2, 1) := by decide +kernel
theorem dL_law_50 : decode cL_law 50 = .ok (.bipush (-5), 2) := by decide +kernel
theorem dL_law_52 : decode cL_law 52 = .ok (.iastore, 1) := by decide +kernel
theorem dL_law_53 : decode cL_law 53 = .ok (.aload_n 2, 1) := by decide +kernel
theorem dL_law_54 : decode cL_law 54 = .ok (.iconst 3, 1) := by decide +kernel
theorem dL_law_55 : decode cL_law 55 = .ok (.bipush (-5), 2) := by decide +kernel
theorem dL_law_57 : decode cL_law 57 = .ok (.iastore, 1) := by decide +kernel
theorem dL_law_58 : decode cL_law 58 = .ok (.aload 5, 2) := by decide +kernel
theorem dL_law_60 : decode cL_law 60 = .ok (.bipush 9, 2) := by decide +kernel
theorem dL_law_62 : decode cL_law 62 = .ok (.ldc2_w 155, 3) := by decide +kernel
theorem dL_law_65 : decode cL_law 65 = .ok (.dastore, 1) := by decide +kernel
theorem dL_law_66 : decode cL_law 66 = .ok (.aload_n 2, 1) := by decide +kernel
theorem dL_law_67 : decode cL_law 67 = .ok (.bipush 7, 2) := by decide +kernel
theorem dL_law_69 : decode cL_law 69 = .ok (.iconst 1, 1) := by decide +kernel
theorem dL_law_70 : decode cL_law 70 = .ok (.iastore, 1) := by decide +kernel
theorem dL_law_71 : decode cL_law 71 = .ok (.aload_n 2, 1) := by decide +kernel
theorem dL_law_72 : decode cL_law 72 = .ok (.bipush 8, 2) := by decide +kernel
theorem dL_law_74 : decode cL_law 74 = .ok (.iconst 2, 1) := by decide +kernel
theorem dL_law_75 : decode cL_law 75 = .ok (.iastore, 1) := by decide +kernel
theorem dL_law_76 : decode cL_law 76 = .ok (.iconst 0, 1) := by decide +kernel
theorem dL_law_77 : decode cL_law 77 = .ok (.istore 9, 2) := by decide +kernel
theorem dL_law_79 : decode cL_law 79 = .ok (.iload 9, 2) := by decide +kernel
theorem dL_law_81 : decode cL_law 81 = .ok (.bipush 48, 2) := by decide +kernel
theorem dL_law_83 : decode cL_law 83 = .ok (.if_icmp .ge 318, 3) := by decide +kernel
theorem dL_law_86 : decode cL_law 86 = .ok (.aload_n 0, 1) := by decide +kernel
theorem dL_law_87 : decode cL_law 87 = .ok (.iload 9, 2) := by decide +kernel
theorem dL_law_89 : decode cL_law 89 = .ok (.invokestatic 157, 3) := by decide +kernel
theorem dL_law_92 : decode cL_law 92 = .ok (.istore 10, 2) := by decide +kernel
theorem dL_law_94 : decode cL_law 94 = .ok (.iload 9, 2) := by decide +kernel
theorem dL_law_96 : decode cL_law 96 = .ok (.bipush 7, 2) := by decide +kernel
theorem dL_law_98 : decode cL_law 98 = .ok (.if_icmp .ge 20, 3) := by decide +kernel
theorem dL_law_101 : decode cL_law 101 = .ok (.iload 9, 2) := by decide +kernel
theorem dL_law_103 : decode cL_law 103 = .ok (.iconst 2, 1) := by decide +kernel
theorem dL_law_104 : decode cL_law 104 = .ok (.irem, 1) := by decide +kernel
theorem dL_law_105 : decode cL_law 105 = .ok (.ifCond .ne 8, 3) := by decide +kernel
theorem dL_law_108 : decode cL_law 108 = .ok (.bipush 10, 2) := by decide +kernel
theorem dL_law_110 : decode cL_law 110 = .ok (.goto 18, 3) := by decide +kernel
theorem dL_law_113 : decode cL_law 113 = .ok (.bipush 11, 2) := by decide +kernel
theorem dL_law_115 : decode cL_law 115 = .ok (.goto 13, 3) := by decide +kernel
theorem dL_law_118 : decode cL_law 118 = .ok (.iload 10, 2) := by decide +kernel
theorem dL_law_120 : decode cL_law 120 = .ok (.bipush 27, 2) := by decide +kernel
theorem dL_law_122 : decode cL_law 122 = .ok (.ishr, 1) := by decide +kernel
theorem dL_law_123 : decode cL_law 123 = .ok (.bipush 10, 2) := by decide +kernel
theorem dL_law_125 : decode cL_law 125 = .ok (.invokestatic 102, 3) := by decide +kernel
theorem dL_law_128 : decode cL_law 128 = .ok (.tableswitch 163 0 11 #[64, 80, 95, 95, 95, 163, 163, 163, 163, 163, 112, 147], 64) := by decide +kernel
theorem dL_law_192 : decode cL_law 192 = .ok (.aload_n 1, 1) := by decide +kernel
theorem dL_law_193 : decode cL_law 193 = .ok (.aload_n 2, 1) := by decide +kernel
theorem dL_law_194 : decode cL_law 194 = .ok (.aload 6, 2) := by decide +kernel
theorem dL_law_196 : decode cL_law 196 = .ok (.aload 7, 2) := by decide +kernel
theorem dL_law_198 : decode cL_law 198 = .ok (.iload 10, 2) := by decide +kernel
theorem dL_law_200 : decode cL_law 200 = .ok (.invokestatic 160, 3) := by decide +kernel
theorem dL_law_203 : decode cL_law 203 = .ok (.istore 11, 2) := by decide +kernel
theorem dL_law_205 : decode cL_law 205 = .ok (.goto 129, 3) := by decide +kernel
theorem dL_law_208 : decode cL_law 208 = .ok (.aload_n 1, 1) := by decide +kernel
theorem dL_law_209 : decode cL_law 209 = .ok (.aload_n 2, 1) := by decide +kernel
theorem dL_law_210 : decode cL_law 210 = .ok (.aload_n 3, 1) := by decide +kernel
theorem dL_law_211 : decode cL_law 211 = .ok (.aload 5, 2) := by decide +kernel
theorem dL_law_213 : decode cL_law 213 = .ok (.iload 10, 2) := by decide +kernel
theorem dL_law_215 : decode cL_law 215 = .ok (.invokestatic 164, 3) := by decide +kernel
theorem dL_law_218 : decode cL_law 218 = .ok (.istore 11, 2) := by decide +kernel
theorem dL_law_220 : decode cL_law 220 = .ok (.goto 114, 3) := by decide +kernel
theorem dL_law_223 : decode cL_law 223 = .ok (.aload_n 1, 1) := by decide +kernel
theorem dL_law_224 : decode cL_law 224 = .ok (.aload_n 2, 1) := by decide +kernel
theorem dL_law_225 : decode cL_law 225 = .ok (.aload_n 3, 1) := by decide +kernel
theorem dL_law_226 : decode cL_law 226 = .ok (.aload 6, 2) := by decide +kernel
theorem dL_law_228 : decode cL_law 228 = .ok (.aload 7, 2) := by decide +kernel
theorem dL_law_230 : decode cL_law 230 = .ok (.iload 10, 2) := by decide +kernel
theorem dL_law_232 : decode cL_law 232 = .ok (.invokestatic 168, 3) := by decide +kernel
theorem dL_law_235 : decode cL_law 235 = .ok (.istore 11, 2) := by decide +kernel
theorem dL_law_237 : decode cL_law 237 = .ok (.goto 97, 3) := by decide +kernel
theorem dL_law_240 : decode cL_law 240 = .ok (.aload_n 1, 1) := by decide +kernel
theorem dL_law_241 : decode cL_law 241 = .ok (.aload_n 2, 1) := by decide +kernel
theorem dL_law_242 : decode cL_law 242 = .ok (.aload_n 3, 1) := by decide +kernel
theorem dL_law_243 : decode cL_law 243 = .ok (.iload 10, 2) := by decide +kernel
theorem dL_law_245 : decode cL_law 245 = .ok (.invokestatic 172, 3) := by decide +kernel
theorem dL_law_248 : decode cL_law 248 = .ok (.ifCond .eq 21, 3) := by decide +kernel
theorem dL_law_251 : decode cL_law 251 = .ok (.aload_n 1, 1) := by decide +kernel
theorem dL_law_252 : decode cL_law 252 = .ok (.aload_n 2, 1) := by decide +kernel
theorem dL_law_253 : decode cL_law 253 = .ok (.aload_n 3, 1) := by decide +kernel
theorem dL_law_254 : decode cL_law 254 = .ok (.iload 10, 2) := by decide +kernel
theorem dL_law_256 : decode cL_law 256 = .ok (.bipush 11, 2) := by decide +kernel
theorem dL_law_258 : decode cL_law 258 = .ok (.ishr, 1) := by decide +kernel
theorem dL_law_259 : decode cL_law 259 = .ok (.invokestatic 172, 3) := by decide +kernel
theorem dL_law_262 : decode cL_law 262 = .ok (.ifCond .eq 7, 3) := by decide +kernel
theorem dL_law_265 : decode cL_law 265 = .ok (.iconst 1, 1) := by decide +kernel
theorem dL_law_266 : decode cL_law 266 = .ok (.goto 4, 3) := by decide +kernel
theorem dL_law_269 : decode cL_law 269 = .ok (.iconst 0, 1) := by decide +kernel
theorem dL_law_270 : decode cL_law 270 = .ok (.istore 11, 2) := by decide +kernel
theorem dL_law_272 : decode cL_law 272 = .ok (.goto 62, 3) := by decide +kernel
theorem dL_law_275 : decode cL_law 275 = .ok (.aload_n 1, 1) := by decide +kernel
theorem dL_law_276 : decode cL_law 276 = .ok (.aload_n 2, 1) := by decide +kernel
theorem dL_law_277 : decode cL_law 277 = .ok (.aload 4, 2) := by decide +kernel
theorem dL_law_279 : decode cL_law 279 = .ok (.aload 5, 2) := by decide +kernel
theorem dL_law_281 : decode cL_law 281 = .ok (.iload 10, 2) := by decide +kernel
theorem dL_law_283 : decode cL_law 283 = .ok (.invokestatic 176, 3) := by decide +kernel
theorem dL_law_286 : decode cL_law 286 = .ok (.istore 11, 2) := by decide +kernel
theorem dL_law_288 : decode cL_law 288 = .ok (.goto 46, 3) := by decide +kernel
theorem dL_law_291 : decode cL_law 291 = .ok (.aload_n 1, 1) := by decide +kernel
theorem dL_law_292 : decode cL_law 292 = .ok (.aload_n 2, 1) := by decide +kernel
theorem dL_law_293 : decode cL_law 293 = .ok (.aload_n 3, 1) := by decide +kernel
theorem dL_law_294 : decode cL_law 294 = .ok (.aload 4, 2) := by decide +kernel
theorem dL_law_296 : decode cL_law 296 = .ok (.aload 5, 2) := by decide +kernel
theorem dL_law_298 : decode cL_law 298 = .ok (.aload 6, 2) := by decide +kernel
theorem dL_law_300 : decode cL_law 300 = .ok (.aload 7, 2) := by decide +kernel
theorem dL_law_302 : decode cL_law 302 = .ok (.aload 8, 2) := by decide +kernel
theorem dL_law_304 : decode cL_law 304 = .ok (.iconst 1, 1) := by decide +kernel
theorem dL_law_305 : decode cL_law 305 = .ok (.iload 10, 2) := by decide +kernel
theorem dL_law_307 : decode cL_law 307 = .ok (.iload 10, 2) := by decide +kernel
theorem dL_law_309 : decode cL_law 309 = .ok (.bipush 8, 2) := by decide +kernel
theorem dL_law_311 : decode cL_law 311 = .ok (.ishr, 1) := by decide +kernel
theorem dL_law_312 : decode cL_law 312 = .ok (.iconst 4, 1) := by decide +kernel
theorem dL_law_313 : decode cL_law 313 = .ok (.invokestatic 102, 3) := by decide +kernel
theorem dL_law_316 : decode cL_law 316 = .ok (.ifCond .ne 8, 3) := by decide +kernel
theorem dL_law_319 : decode cL_law 319 = .ok (.bipush 30, 2) := by decide +kernel
theorem dL_law_321 : decode cL_law 321 = .ok (.goto 4, 3) := by decide +kernel
theorem dL_law_324 : decode cL_law 324 = .ok (.iconst 4, 1) := by decide +kernel
theorem dL_law_325 : decode cL_law 325 = .ok (.invokestatic 102, 3) := by decide +kernel
theorem dL_law_328 : decode cL_law 328 = .ok (.iadd, 1) := by decide +kernel
theorem dL_law_329 : decode cL_law 329 = .ok (.invokestatic 179, 3) := by decide +kernel
theorem dL_law_332 : decode cL_law 332 = .ok (.istore 11, 2) := by decide +kernel
theorem dL_law_334 : decode cL_law 334 = .ok (.iload 11, 2) := by decide +kernel
theorem dL_law_336 : decode cL_law 336 = .ok (.ifCond .eq 57, 3) := by decide +kernel
theorem dL_law_339 : decode cL_law 339 = .ok (.aload_n 1, 1) := by decide +kernel
theorem dL_law_340 : decode cL_law 340 = .ok (.aload_n 2, 1) := by decide +kernel
theorem dL_law_341 : decode cL_law 341 = .ok (.aload_n 3, 1) := by decide +kernel
theorem dL_law_342 : decode cL_law 342 = .ok (.aload 4, 2) := by decide +kernel
theorem dL_law_344 : decode cL_law 344 = .ok (.aload 6, 2) := by decide +kernel
theorem dL_law_346 : decode cL_law 346 = .ok (.aload 7, 2) := by decide +kernel
theorem dL_law_348 : decode cL_law 348 = .ok (.invokestatic 183, 3) := by decide +kernel
theorem dL_law_351 : decode cL_law 351 = .ok (.ifCond .eq 42, 3) := by decide +kernel
theorem dL_law_354 : decode cL_law 354 = .ok (.aload_n 1, 1) := by decide +kernel
theorem dL_law_355 : decode cL_law 355 = .ok (.aload_n 2, 1) := by decide +kernel
theorem dL_law_356 : decode cL_law 356 = .ok (.aload 4, 2) := by decide +kernel
theorem dL_law_358 : decode cL_law 358 = .ok (.aload 5, 2) := by decide +kernel
theorem dL_law_360 : decode cL_law 360 = .ok (.invokestatic 187, 3) := by decide +kernel
theorem dL_law_363 : decode cL_law 363 = .ok (.ifCond .eq 30, 3) := by decide +kernel
theorem dL_law_366 : decode cL_law 366 = .ok (.aload_n 1, 1) := by decide +kernel
theorem dL_law_367 : decode cL_law 367 = .ok (.aload_n 2, 1) := by decide +kernel
theorem dL_law_368 : decode cL_law 368 = .ok (.aload 6, 2) := by decide +kernel
theorem dL_law_370 : decode cL_law 370 = .ok (.aload 7, 2) := by decide +kernel
theorem dL_law_372 : decode cL_law 372 = .ok (.invokestatic 191, 3) := by decide +kernel
theorem dL_law_375 : decode cL_law 375 = .ok (.ifCond .eq 18, 3) := by decide +kernel
theorem dL_law_378 : decode cL_law 378 = .ok (.aload_n 1, 1) := by decide +kernel
theorem dL_law_379 : decode cL_law 379 = .ok (.aload_n 2, 1) := by decide +kernel
theorem dL_law_380 : decode cL_law 380 = .ok (.aload_n 3, 1) := by decide +kernel
theorem dL_law_381 : decode cL_law 381 = .ok (.aload 5, 2) := by decide +kernel
theorem dL_law_383 : decode cL_law 383 = .ok (.aload 6, 2) := by decide +kernel
theorem dL_law_385 : decode cL_law 385 = .ok (.aload 7, 2) := by decide +kernel
theorem dL_law_387 : decode cL_law 387 = .ok (.invokestatic 195, 3) := by decide +kernel
theorem dL_law_390 : decode cL_law 390 = .ok (.ifCond .ne 5, 3) := by decide +kernel
theorem dL_law_393 : decode cL_law 393 = .ok (.iconst 0, 1) := by decide +kernel
theorem dL_law_394 : decode cL_law 394 = .ok (.ireturn, 1) := by decide +kernel
theorem dL_law_395 : decode cL_law 395 = .ok (.iinc 9 1, 3) := by decide +kernel
theorem dL_law_398 : decode cL_law 398 = .ok (.goto (-319), 3) := by decide +kernel
theorem dL_law_401 : decode cL_law 401 = .ok (.iconst 1, 1) := by decide +kernel
theorem dL_law_402 : decode cL_law 402 = .ok (.ireturn, 1) := by decide +kernel
