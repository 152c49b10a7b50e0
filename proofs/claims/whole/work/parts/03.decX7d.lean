theorem dX7_reason_253 : decode cX7_reason 253 = .ok (.getfield 35, 3) := by decide +kernel
theorem dX7_reason_256 : decode cX7_reason 256 = .ok (.iload 4, 2) := by decide +kernel
theorem dX7_reason_258 : decode cX7_reason 258 = .ok (.iconst 1, 1) := by decide +kernel
theorem dX7_reason_259 : decode cX7_reason 259 = .ok (.iadd, 1) := by decide +kernel
theorem dX7_reason_260 : decode cX7_reason 260 = .ok (.iaload, 1) := by decide +kernel
theorem dX7_reason_261 : decode cX7_reason 261 = .ok (.iadd, 1) := by decide +kernel
theorem dX7_reason_262 : decode cX7_reason 262 = .ok (.iconst 4, 1) := by decide +kernel
theorem dX7_reason_263 : decode cX7_reason 263 = .ok (.if_icmp .le 7, 3) := by decide +kernel
theorem dX7_reason_266 : decode cX7_reason 266 = .ok (.iconst 2, 1) := by decide +kernel
theorem dX7_reason_267 : decode cX7_reason 267 = .ok (.goto 4, 3) := by decide +kernel
theorem dX7_reason_270 : decode cX7_reason 270 = .ok (.iconst 0, 1) := by decide +kernel
theorem dX7_reason_271 : decode cX7_reason 271 = .ok (.ireturn, 1) := by decide +kernel
theorem dX7_reason_272 : decode cX7_reason 272 = .ok (.iload 5, 2) := by decide +kernel
theorem dX7_reason_274 : decode cX7_reason 274 = .ok (.bipush 7, 2) := by decide +kernel
theorem dX7_reason_276 : decode cX7_reason 276 = .ok (.if_icmp .ne 14, 3) := by decide +kernel
theorem dX7_reason_279 : decode cX7_reason 279 = .ok (.iload 6, 2) := by decide +kernel
theorem dX7_reason_281 : decode cX7_reason 281 = .ok (.bipush 7, 2) := by decide +kernel
theorem dX7_reason_283 : decode cX7_reason 283 = .ok (.if_icmp .ne 7, 3) := by decide +kernel
theorem dX7_reason_286 : decode cX7_reason 286 = .ok (.iconst 0, 1) := by decide +kernel
theorem dX7_reason_287 : decode cX7_reason 287 = .ok (.goto 4, 3) := by decide +kernel
theorem dX7_reason_290 : decode cX7_reason 290 = .ok (.iconst 1, 1) := by decide +kernel
theorem dX7_reason_291 : decode cX7_reason 291 = .ok (.ireturn, 1) := by decide +kernel
theorem dX7_reason_292 : decode cX7_reason 292 = .ok (.iload 5, 2) := by decide +kernel
theorem dX7_reason_294 : decode cX7_reason 294 = .ok (.bipush 8, 2) := by decide +kernel
theorem dX7_reason_296 : decode cX7_reason 296 = .ok (.if_icmp .ne 14, 3) := by decide +kernel
theorem dX7_reason_299 : decode cX7_reason 299 = .ok (.iload 6, 2) := by decide +kernel
theorem dX7_reason_301 : decode cX7_reason 301 = .ok (.bipush 8, 2) := by decide +kernel
theorem dX7_reason_303 : decode cX7_reason 303 = .ok (.if_icmp .ne 7, 3) := by decide +kernel
theorem dX7_reason_306 : decode cX7_reason 306 = .ok (.iconst 0, 1) := by decide +kernel
theorem dX7_reason_307 : decode cX7_reason 307 = .ok (.goto 4, 3) := by decide +kernel
theorem dX7_reason_310 : decode cX7_reason 310 = .ok (.iconst 1, 1) := by decide +kernel
theorem dX7_reason_311 : decode cX7_reason 311 = .ok (.ireturn, 1) := by decide +kernel
theorem dX7_reason_312 : decode cX7_reason 312 = .ok (.iload 5, 2) := by decide +kernel
theorem dX7_reason_314 : decode cX7_reason 314 = .ok (.iconst 4, 1) := by decide +kernel
theorem dX7_reason_315 : decode cX7_reason 315 = .ok (.if_icmp .ge 21, 3) := by decide +kernel
theorem dX7_reason_318 : decode cX7_reason 318 = .ok (.iload 6, 2) := by decide +kernel
theorem dX7_reason_320 : decode cX7_reason 320 = .ok (.bipush 7, 2) := by decide +kernel
theorem dX7_reason_322 : decode cX7_reason 322 = .ok (.if_icmp .eq 10, 3) := by decide +kernel
theorem dX7_reason_325 : decode cX7_reason 325 = .ok (.iload 6, 2) := by decide +kernel
theorem dX7_reason_327 : decode cX7_reason 327 = .ok (.bipush 8, 2) := by decide +kernel
theorem dX7_reason_329 : decode cX7_reason 329 = .ok (.if_icmp .ne 7, 3) := by decide +kernel
theorem dX7_reason_332 : decode cX7_reason 332 = .ok (.iconst 0, 1) := by decide +kernel
theorem dX7_reason_333 : decode cX7_reason 333 = .ok (.goto 4, 3) := by decide +kernel
theorem dX7_reason_336 : decode cX7_reason 336 = .ok (.iconst 1, 1) := by decide +kernel
theorem dX7_reason_337 : decode cX7_reason 337 = .ok (.ireturn, 1) := by decide +kernel
theorem dX7_reason_338 : decode cX7_reason 338 = .ok (.iload 5, 2) := by decide +kernel
theorem dX7_reason_340 : decode cX7_reason 340 = .ok (.bipush 11, 2) := by decide +kernel
theorem dX7_reason_342 : decode cX7_reason 342 = .ok (.if_icmp .ne 10, 3) := by decide +kernel
theorem dX7_reason_345 : decode cX7_reason 345 = .ok (.iload 6, 2) := by decide +kernel
theorem dX7_reason_347 : decode cX7_reason 347 = .ok (.bipush 11, 2) := by decide +kernel
theorem dX7_reason_349 : decode cX7_reason 349 = .ok (.if_icmp .eq 7, 3) := by decide +kernel
theorem dX7_reason_352 : decode cX7_reason 352 = .ok (.iconst 1, 1) := by decide +kernel
theorem dX7_reason_353 : decode cX7_reason 353 = .ok (.goto 17, 3) := by decide +kernel
theorem dX7_reason_356 : decode cX7_reason 356 = .ok (.aload_n 0, 1) := by decide +kernel
theorem dX7_reason_357 : decode cX7_reason 357 = .ok (.iload_n 1, 1) := by decide +kernel
theorem dX7_reason_358 : decode cX7_reason 358 = .ok (.iload_n 2, 1) := by decide +kernel
theorem dX7_reason_359 : decode cX7_reason 359 = .ok (.invokevirtual 229, 3) := by decide +kernel
theorem dX7_reason_362 : decode cX7_reason 362 = .ok (.ifCond .eq 7, 3) := by decide +kernel
theorem dX7_reason_365 : decode cX7_reason 365 = .ok (.iconst 0, 1) := by decide +kernel
theorem dX7_reason_366 : decode cX7_reason 366 = .ok (.goto 4, 3) := by decide +kernel
theorem dX7_reason_369 : decode cX7_reason 369 = .ok (.iconst 3, 1) := by decide +kernel
theorem dX7_reason_370 : decode cX7_reason 370 = .ok (.ireturn, 1) := by decide +kernel
theorem dX7_reason_371 : decode cX7_reason 371 = .ok (.iload 5, 2) := by decide +kernel
theorem dX7_reason_373 : decode cX7_reason 373 = .ok (.bipush 7, 2) := by decide +kernel
theorem dX7_reason_375 : decode cX7_reason 375 = .ok (.if_icmp .ne 14, 3) := by decide +kernel
theorem dX7_reason_378 : decode cX7_reason 378 = .ok (.iload 6, 2) := by decide +kernel
theorem dX7_reason_380 : decode cX7_reason 380 = .ok (.bipush 8, 2) := by decide +kernel
theorem dX7_reason_382 : decode cX7_reason 382 = .ok (.if_icmp .ne 7, 3) := by decide +kernel
theorem dX7_reason_385 : decode cX7_reason 385 = .ok (.iconst 0, 1) := by decide +kernel
theorem dX7_reason_386 : decode cX7_reason 386 = .ok (.goto 4, 3) := by decide +kernel
theorem dX7_reason_389 : decode cX7_reason 389 = .ok (.iconst 1, 1) := by decide +kernel
theorem dX7_reason_390 : decode cX7_reason 390 = .ok (.ireturn, 1) := by decide +kernel
theorem dX7_why_0 : decode cX7_why 0 = .ok (.aload_n 0, 1) := by decide +kernel
theorem dX7_why_1 : decode cX7_why 1 = .ok (.iconst 0, 1) := by decide +kernel
theorem dX7_why_2 : decode cX7_why 2 = .ok (.putfield 87, 3) := by decide +kernel
theorem dX7_why_5 : decode cX7_why 5 = .ok (.aload_n 0, 1) := by decide +kernel
theorem dX7_why_6 : decode cX7_why 6 = .ok (.iload_n 1, 1) := by decide +kernel
theorem dX7_why_7 : decode cX7_why 7 = .ok (.iload_n 2, 1) := by decide +kernel
theorem dX7_why_8 : decode cX7_why 8 = .ok (.invokevirtual 120, 3) := by decide +kernel
theorem dX7_why_11 : decode cX7_why 11 = .ok (.ifCond .eq 27, 3) := by decide +kernel
theorem dX7_why_14 : decode cX7_why 14 = .ok (.iload_n 3, 1) := by decide +kernel
theorem dX7_why_15 : decode cX7_why 15 = .ok (.i2l, 1) := by decide +kernel
theorem dX7_why_16 : decode cX7_why 16 = .ok (.lconst 0, 1) := by decide +kernel
theorem dX7_why_17 : decode cX7_why 17 = .ok (.ldc2_w 227, 3) := by decide +kernel
theorem dX7_why_20 : decode cX7_why 20 = .ok (.invokestatic 93, 3) := by decide +kernel
theorem dX7_why_23 : decode cX7_why 23 = .ok (.ifCond .eq 17, 3) := by decide +kernel
theorem dX7_why_26 : decode cX7_why 26 = .ok (.iload_n 2, 1) := by decide +kernel
theorem dX7_why_27 : decode cX7_why 27 = .ok (.iconst 1, 1) := by decide +kernel
theorem dX7_why_28 : decode cX7_why 28 = .ok (.iadd, 1) := by decide +kernel
theorem dX7_why_29 : decode cX7_why 29 = .ok (.aload_n 0, 1) := by decide +kernel
theorem dX7_why_30 : decode cX7_why 30 = .ok (.getfield 32, 3) := by decide +kernel
theorem dX7_why_33 : decode cX7_why 33 = .ok (.iload_n 1, 1) := by decide +kernel
theorem dX7_why_34 : decode cX7_why 34 = .ok (.iaload, 1) := by decide +kernel
theorem dX7_why_35 : decode cX7_why 35 = .ok (.if_icmp .lt 5, 3) := by decide +kernel
theorem dX7_why_38 : decode cX7_why 38 = .ok (.iconst (-1), 1) := by decide +kernel
theorem dX7_why_39 : decode cX7_why 39 = .ok (.ireturn, 1) := by decide +kernel
theorem dX7_why_40 : decode cX7_why 40 = .ok (.iload_n 3, 1) := by decide +kernel
theorem dX7_why_41 : decode cX7_why 41 = .ok (.i2l, 1) := by decide +kernel
theorem dX7_why_42 : decode cX7_why 42 = .ok (.lconst 0, 1) := by decide +kernel
theorem dX7_why_43 : decode cX7_why 43 = .ok (.ldc2_w 225, 3) := by decide +kernel
theorem dX7_why_46 : decode cX7_why 46 = .ok (.invokestatic 93, 3) := by decide +kernel
theorem dX7_why_49 : decode cX7_why 49 = .ok (.ifCond .eq 13, 3) := by decide +kernel
theorem dX7_why_52 : decode cX7_why 52 = .ok (.aload_n 0, 1) := by decide +kernel
theorem dX7_why_53 : decode cX7_why 53 = .ok (.iload_n 1, 1) := by decide +kernel
theorem dX7_why_54 : decode cX7_why 54 = .ok (.iload_n 2, 1) := by decide +kernel
theorem dX7_why_55 : decode cX7_why 55 = .ok (.iload_n 3, 1) := by decide +kernel
theorem dX7_why_56 : decode cX7_why 56 = .ok (.invokevirtual 232, 3) := by decide +kernel
theorem dX7_why_59 : decode cX7_why 59 = .ok (.goto 5, 3) := by decide +kernel
theorem dX7_why_62 : decode cX7_why 62 = .ok (.bipush (-2), 2) := by decide +kernel
theorem dX7_why_64 : decode cX7_why 64 = .ok (.ireturn, 1) := by decide +kernel
theorem dX7_drop_0 : decode cX7_drop 0 = .ok (.iload_n 2, 1) := by decide +kernel
theorem dX7_drop_1 : decode cX7_drop 1 = .ok (.istore_n 3, 1) := by decide +kernel
theorem dX7_drop_2 : decode cX7_drop 2 = .ok (.iload_n 3, 1) := by decide +kernel
theorem dX7_drop_3 : decode cX7_drop 3 = .ok (.iconst 1, 1) := by decide +kernel
theorem dX7_drop_4 : decode cX7_drop 4 = .ok (.iadd, 1) := by decide +kernel
theorem dX7_drop_5 : decode cX7_drop 5 = .ok (.aload_n 0, 1) := by decide +kernel
theorem dX7_drop_6 : decode cX7_drop 6 = .ok (.getfield 32, 3) := by decide +kernel
theorem dX7_drop_9 : decode cX7_drop 9 = .ok (.iload_n 1, 1) := by decide +kernel
theorem dX7_drop_10 : decode cX7_drop 10 = .ok (.iaload, 1) := by decide +kernel
theorem dX7_drop_11 : decode cX7_drop 11 = .ok (.if_icmp .ge 27, 3) := by decide +kernel
theorem dX7_drop_14 : decode cX7_drop 14 = .ok (.aload_n 0, 1) := by decide +kernel
theorem dX7_drop_15 : decode cX7_drop 15 = .ok (.bipush 10, 2) := by decide +kernel
theorem dX7_drop_17 : decode cX7_drop 17 = .ok (.iload_n 1, 1) := by decide +kernel
theorem dX7_drop_18 : decode cX7_drop 18 = .ok (.imul, 1) := by decide +kernel
theorem dX7_drop_19 : decode cX7_drop 19 = .ok (.iload_n 3, 1) := by decide +kernel
theorem dX7_drop_20 : decode cX7_drop 20 = .ok (.iadd, 1) := by decide +kernel
theorem dX7_drop_21 : decode cX7_drop 21 = .ok (.iconst 1, 1) := by decide +kernel
theorem dX7_drop_22 : decode cX7_drop 22 = .ok (.iadd, 1) := by decide +kernel
theorem dX7_drop_23 : decode cX7_drop 23 = .ok (.bipush 10, 2) := by decide +kernel
theorem dX7_drop_25 : decode cX7_drop 25 = .ok (.iload_n 1, 1) := by decide +kernel
theorem dX7_drop_26 : decode cX7_drop 26 = .ok (.imul, 1) := by decide +kernel
theorem dX7_drop_27 : decode cX7_drop 27 = .ok (.iload_n 3, 1) := by decide +kernel
theorem dX7_drop_28 : decode cX7_drop 28 = .ok (.iadd, 1) := by decide +kernel
theorem dX7_drop_29 : decode cX7_drop 29 = .ok (.invokevirtual 116, 3) := by decide +kernel
theorem dX7_drop_32 : decode cX7_drop 32 = .ok (.iinc 3 1, 3) := by decide +kernel
theorem dX7_drop_35 : decode cX7_drop 35 = .ok (.goto (-33), 3) := by decide +kernel
theorem dX7_drop_38 : decode cX7_drop 38 = .ok (.aload_n 0, 1) := by decide +kernel
theorem dX7_drop_39 : decode cX7_drop 39 = .ok (.getfield 32, 3) := by decide +kernel
theorem dX7_drop_42 : decode cX7_drop 42 = .ok (.iload_n 1, 1) := by decide +kernel
theorem dX7_drop_43 : decode cX7_drop 43 = .ok (.dup2, 1) := by decide +kernel
theorem dX7_drop_44 : decode cX7_drop 44 = .ok (.iaload, 1) := by decide +kernel
theorem dX7_drop_45 : decode cX7_drop 45 = .ok (.iconst 1, 1) := by decide +kernel
theorem dX7_drop_46 : decode cX7_drop 46 = .ok (.isub, 1) := by decide +kernel
theorem dX7_drop_47 : decode cX7_drop 47 = .ok (.iastore, 1) := by decide +kernel
theorem dX7_drop_48 : decode cX7_drop 48 = .ok (.return_, 1) := by decide +kernel
theorem dX7_swap_0 : decode cX7_swap 0 = .ok (.aload_n 0, 1) := by decide +kernel
theorem dX7_swap_1 : decode cX7_swap 1 = .ok (.getfield 35, 3) := by decide +kernel
theorem dX7_swap_4 : decode cX7_swap 4 = .ok (.iload_n 1, 1) := by decide +kernel
theorem dX7_swap_5 : decode cX7_swap 5 = .ok (.iaload, 1) := by decide +kernel
theorem dX7_swap_6 : decode cX7_swap 6 = .ok (.istore_n 3, 1) := by decide +kernel
theorem dX7_swap_7 : decode cX7_swap 7 = .ok (.aload_n 0, 1) := by decide +kernel
theorem dX7_swap_8 : decode cX7_swap 8 = .ok (.getfield 35, 3) := by decide +kernel
theorem dX7_swap_11 : decode cX7_swap 11 = .ok (.iload_n 1, 1) := by decide +kernel
theorem dX7_swap_12 : decode cX7_swap 12 = .ok (.aload_n 0, 1) := by decide +kernel
theorem dX7_swap_13 : decode cX7_swap 13 = .ok (.getfield 35, 3) := by decide +kernel
theorem dX7_swap_16 : decode cX7_swap 16 = .ok (.iload_n 2, 1) := by decide +kernel
theorem dX7_swap_17 : decode cX7_swap 17 = .ok (.iaload, 1) := by decide +kernel
theorem dX7_swap_18 : decode cX7_swap 18 = .ok (.iastore, 1) := by decide +kernel
theorem dX7_swap_19 : decode cX7_swap 19 = .ok (.aload_n 0, 1) := by decide +kernel
theorem dX7_swap_20 : decode cX7_swap 20 = .ok (.getfield 35, 3) := by decide +kernel
theorem dX7_swap_23 : decode cX7_swap 23 = .ok (.iload_n 2, 1) := by decide +kernel
theorem dX7_swap_24 : decode cX7_swap 24 = .ok (.iload_n 3, 1) := by decide +kernel
theorem dX7_swap_25 : decode cX7_swap 25 = .ok (.iastore, 1) := by decide +kernel
theorem dX7_swap_26 : decode cX7_swap 26 = .ok (.iconst 0, 1) := by decide +kernel
theorem dX7_swap_27 : decode cX7_swap 27 = .ok (.istore 4, 2) := by decide +kernel
theorem dX7_swap_29 : decode cX7_swap 29 = .ok (.iload 4, 2) := by decide +kernel
theorem dX7_swap_31 : decode cX7_swap 31 = .ok (.iconst 4, 1) := by decide +kernel
theorem dX7_swap_32 : decode cX7_swap 32 = .ok (.if_icmp .ge 105, 3) := by decide +kernel
theorem dX7_swap_35 : decode cX7_swap 35 = .ok (.aload_n 0, 1) := by decide +kernel
theorem dX7_swap_36 : decode cX7_swap 36 = .ok (.getfield 38, 3) := by decide +kernel
theorem dX7_swap_39 : decode cX7_swap 39 = .ok (.iconst 4, 1) := by decide +kernel
theorem dX7_swap_40 : decode cX7_swap 40 = .ok (.iload_n 1, 1) := by decide +kernel
theorem dX7_swap_41 : decode cX7_swap 41 = .ok (.imul, 1) := by decide +kernel
theorem dX7_swap_42 : decode cX7_swap 42 = .ok (.iload 4, 2) := by decide +kernel
theorem dX7_swap_44 : decode cX7_swap 44 = .ok (.iadd, 1) := by decide +kernel
theorem dX7_swap_45 : decode cX7_swap 45 = .ok (.iaload, 1) := by decide +kernel
theorem dX7_swap_46 : decode cX7_swap 46 = .ok (.istore 5, 2) := by decide +kernel
theorem dX7_swap_48 : decode cX7_swap 48 = .ok (.aload_n 0, 1) := by decide +kernel
theorem dX7_swap_49 : decode cX7_swap 49 = .ok (.getfield 38, 3) := by decide +kernel
theorem dX7_swap_52 : decode cX7_swap 52 = .ok (.iconst 4, 1) := by decide +kernel
theorem dX7_swap_53 : decode cX7_swap 53 = .ok (.iload_n 1, 1) := by decide +kernel
theorem dX7_swap_54 : decode cX7_swap 54 = .ok (.imul, 1) := by decide +kernel
theorem dX7_swap_55 : decode cX7_swap 55 = .ok (.iload 4, 2) := by decide +kernel
theorem dX7_swap_57 : decode cX7_swap 57 = .ok (.iadd, 1) := by decide +kernel
theorem dX7_swap_58 : decode cX7_swap 58 = .ok (.aload_n 0, 1) := by decide +kernel
theorem dX7_swap_59 : decode cX7_swap 59 = .ok (.getfield 38, 3) := by decide +kernel
theorem dX7_swap_62 : decode cX7_swap 62 = .ok (.iconst 4, 1) := by decide +kernel
theorem dX7_swap_63 : decode cX7_swap 63 = .ok (.iload_n 2, 1) := by decide +kernel
theorem dX7_swap_64 : decode cX7_swap 64 = .ok (.imul, 1) := by decide +kernel
theorem dX7_swap_65 : decode cX7_swap 65 = .ok (.iload 4, 2) := by decide +kernel
theorem dX7_swap_67 : decode cX7_swap 67 = .ok (.iadd, 1) := by decide +kernel
theorem dX7_swap_68 : decode cX7_swap 68 = .ok (.iaload, 1) := by decide +kernel
theorem dX7_swap_69 : decode cX7_swap 69 = .ok (.iastore, 1) := by decide +kernel
theorem dX7_swap_70 : decode cX7_swap 70 = .ok (.aload_n 0, 1) := by decide +kernel
theorem dX7_swap_71 : decode cX7_swap 71 = .ok (.getfield 38, 3) := by decide +kernel
theorem dX7_swap_74 : decode cX7_swap 74 = .ok (.iconst 4, 1) := by decide +kernel
theorem dX7_swap_75 : decode cX7_swap 75 = .ok (.iload_n 2, 1) := by decide +kernel
theorem dX7_swap_76 : decode cX7_swap 76 = .ok (.imul, 1) := by decide +kernel
theorem dX7_swap_77 : decode cX7_swap 77 = .ok (.iload 4, 2) := by decide +kernel
theorem dX7_swap_79 : decode cX7_swap 79 = .ok (.iadd, 1) := by decide +kernel
theorem dX7_swap_80 : decode cX7_swap 80 = .ok (.iload 5, 2) := by decide +kernel
theorem dX7_swap_82 : decode cX7_swap 82 = .ok (.iastore, 1) := by decide +kernel
theorem dX7_swap_83 : decode cX7_swap 83 = .ok (.aload_n 0, 1) := by decide +kernel
theorem dX7_swap_84 : decode cX7_swap 84 = .ok (.getfield 41, 3) := by decide +kernel
theorem dX7_swap_87 : decode cX7_swap 87 = .ok (.iconst 4, 1) := by decide +kernel
theorem dX7_swap_88 : decode cX7_swap 88 = .ok (.iload_n 1, 1) := by decide +kernel
theorem dX7_swap_89 : decode cX7_swap 89 = .ok (.imul, 1) := by decide +kernel
theorem dX7_swap_90 : decode cX7_swap 90 = .ok (.iload 4, 2) := by decide +kernel
theorem dX7_swap_92 : decode cX7_swap 92 = .ok (.iadd, 1) := by decide +kernel
theorem dX7_swap_93 : decode cX7_swap 93 = .ok (.laload, 1) := by decide +kernel
theorem dX7_swap_94 : decode cX7_swap 94 = .ok (.lstore 6, 2) := by decide +kernel
theorem dX7_swap_96 : decode cX7_swap 96 = .ok (.aload_n 0, 1) := by decide +kernel
theorem dX7_swap_97 : decode cX7_swap 97 = .ok (.getfield 41, 3) := by decide +kernel
theorem dX7_swap_100 : decode cX7_swap 100 = .ok (.iconst 4, 1) := by decide +kernel
theorem dX7_swap_101 : decode cX7_swap 101 = .ok (.iload_n 1, 1) := by decide +kernel
theorem dX7_swap_102 : decode cX7_swap 102 = .ok (.imul, 1) := by decide +kernel
theorem dX7_swap_103 : decode cX7_swap 103 = .ok (.iload 4, 2) := by decide +kernel
theorem dX7_swap_105 : decode cX7_swap 105 = .ok (.iadd, 1) := by decide +kernel
theorem dX7_swap_106 : decode cX7_swap 106 = .ok (.aload_n 0, 1) := by decide +kernel
theorem dX7_swap_107 : decode cX7_swap 107 = .ok (.getfield 41, 3) := by decide +kernel
theorem dX7_swap_110 : decode cX7_swap 110 = .ok (.iconst 4, 1) := by decide +kernel
theorem dX7_swap_111 : decode cX7_swap 111 = .ok (.iload_n 2, 1) := by decide +kernel
theorem dX7_swap_112 : decode cX7_swap 112 = .ok (.imul, 1) := by decide +kernel
theorem dX7_swap_113 : decode cX7_swap 113 = .ok (.iload 4, 2) := by decide +kernel
theorem dX7_swap_115 : decode cX7_swap 115 = .ok (.iadd, 1) := by decide +kernel
theorem dX7_swap_116 : decode cX7_swap 116 = .ok (.laload, 1) := by decide +kernel
theorem dX7_swap_117 : decode cX7_swap 117 = .ok (.lastore, 1) := by decide +kernel
theorem dX7_swap_118 : decode cX7_swap 118 = .ok (.aload_n 0, 1) := by decide +kernel
theorem dX7_swap_119 : decode cX7_swap 119 = .ok (.getfield 41, 3) := by decide +kernel
theorem dX7_swap_122 : decode cX7_swap 122 = .ok (.iconst 4, 1) := by decide +kernel
theorem dX7_swap_123 : decode cX7_swap 123 = .ok (.iload_n 2, 1) := by decide +kernel
theorem dX7_swap_124 : decode cX7_swap 124 = .ok (.imul, 1) := by decide +kernel
theorem dX7_swap_125 : decode cX7_swap 125 = .ok (.iload 4, 2) := by decide +kernel
theorem dX7_swap_127 : decode cX7_swap 127 = .ok (.iadd, 1) := by decide +kernel
theorem dX7_swap_128 : decode cX7_swap 128 = .ok (.lload 6, 2) := by decide +kernel
theorem dX7_swap_130 : decode cX7_swap 130 = .ok (.lastore, 1) := by decide +kernel
theorem dX7_swap_131 : decode cX7_swap 131 = .ok (.iinc 4 1, 3) := by decide +kernel
theorem dX7_swap_134 : decode cX7_swap 134 = .ok (.goto (-105), 3) := by decide +kernel
theorem dX7_swap_137 : decode cX7_swap 137 = .ok (.return_, 1) := by decide +kernel
theorem dX7_use_0 : decode cX7_use 0 = .ok (.bipush 10, 2) := by decide +kernel
theorem dX7_use_2 : decode cX7_use 2 = .ok (.iload_n 1, 1) := by decide +kernel
theorem dX7_use_3 : decode cX7_use 3 = .ok (.imul, 1) := by decide +kernel
theorem dX7_use_4 : decode cX7_use 4 = .ok (.iload_n 2, 1) := by decide +kernel
theorem dX7_use_5 : decode cX7_use 5 = .ok (.iadd, 1) := by decide +kernel
theorem dX7_use_6 : decode cX7_use 6 = .ok (.istore 4, 2) := by decide +kernel
theorem dX7_use_8 : decode cX7_use 8 = .ok (.aload_n 0, 1) := by decide +kernel
theorem dX7_use_9 : decode cX7_use 9 = .ok (.getfield 41, 3) := by decide +kernel
theorem dX7_use_12 : decode cX7_use 12 = .ok (.iconst 4, 1) := by decide +kernel
theorem dX7_use_13 : decode cX7_use 13 = .ok (.iload 4, 2) := by decide +kernel
theorem dX7_use_15 : decode cX7_use 15 = .ok (.imul, 1) := by decide +kernel
theorem dX7_use_16 : decode cX7_use 16 = .ok (.laload, 1) := by decide +kernel
theorem dX7_use_17 : decode cX7_use 17 = .ok (.lstore 5, 2) := by decide +kernel
theorem dX7_use_19 : decode cX7_use 19 = .ok (.iload_n 3, 1) := by decide +kernel
theorem dX7_use_20 : decode cX7_use 20 = .ok (.bipush 7, 2) := by decide +kernel
theorem dX7_use_22 : decode cX7_use 22 = .ok (.if_icmp .ne 7, 3) := by decide +kernel
theorem dX7_use_25 : decode cX7_use 25 = .ok (.lconst 0, 1) := by decide +kernel
theorem dX7_use_26 : decode cX7_use 26 = .ok (.goto 14, 3) := by decide +kernel
theorem dX7_use_29 : decode cX7_use 29 = .ok (.aload_n 0, 1) := by decide +kernel
theorem dX7_use_30 : decode cX7_use 30 = .ok (.getfield 41, 3) := by decide +kernel
theorem dX7_use_33 : decode cX7_use 33 = .ok (.iconst 4, 1) := by decide +kernel
theorem dX7_use_34 : decode cX7_use 34 = .ok (.iload 4, 2) := by decide +kernel
theorem dX7_use_36 : decode cX7_use 36 = .ok (.imul, 1) := by decide +kernel
theorem dX7_use_37 : decode cX7_use 37 = .ok (.iconst 4, 1) := by decide +kernel
theorem dX7_use_38 : decode cX7_use 38 = .ok (.iadd, 1) := by decide +kernel
theorem dX7_use_39 : decode cX7_use 39 = .ok (.laload, 1) := by decide +kernel
theorem dX7_use_40 : decode cX7_use 40 = .ok (.lstore 7, 2) := by decide +kernel
theorem dX7_use_42 : decode cX7_use 42 = .ok (.iload_n 3, 1) := by decide +kernel
theorem dX7_use_43 : decode cX7_use 43 = .ok (.tableswitch 293 0 6 #[41, 41, 162, 197, 222, 235, 252], 41) := by decide +kernel
theorem dX7_use_84 : decode cX7_use 84 = .ok (.iconst 0, 1) := by decide +kernel
theorem dX7_use_85 : decode cX7_use 85 = .ok (.istore 9, 2) := by decide +kernel
theorem dX7_use_87 : decode cX7_use 87 = .ok (.iload 9, 2) := by decide +kernel
theorem dX7_use_89 : decode cX7_use 89 = .ok (.aload_n 0, 1) := by decide +kernel
theorem dX7_use_90 : decode cX7_use 90 = .ok (.getfield 35, 3) := by decide +kernel
theorem dX7_use_93 : decode cX7_use 93 = .ok (.iload 4, 2) := by decide +kernel
theorem dX7_use_95 : decode cX7_use 95 = .ok (.iconst 1, 1) := by decide +kernel
theorem dX7_use_96 : decode cX7_use 96 = .ok (.iadd, 1) := by decide +kernel
theorem dX7_use_97 : decode cX7_use 97 = .ok (.iaload, 1) := by decide +kernel
theorem dX7_use_98 : decode cX7_use 98 = .ok (.if_icmp .ge 77, 3) := by decide +kernel
theorem dX7_use_101 : decode cX7_use 101 = .ok (.aload_n 0, 1) := by decide +kernel
theorem dX7_use_102 : decode cX7_use 102 = .ok (.getfield 38, 3) := by decide +kernel
theorem dX7_use_105 : decode cX7_use 105 = .ok (.iconst 4, 1) := by decide +kernel
theorem dX7_use_106 : decode cX7_use 106 = .ok (.iload 4, 2) := by decide +kernel
theorem dX7_use_108 : decode cX7_use 108 = .ok (.imul, 1) := by decide +kernel
theorem dX7_use_109 : decode cX7_use 109 = .ok (.aload_n 0, 1) := by decide +kernel
theorem dX7_use_110 : decode cX7_use 110 = .ok (.getfield 35, 3) := by decide +kernel
theorem dX7_use_113 : decode cX7_use 113 = .ok (.iload 4, 2) := by decide +kernel
theorem dX7_use_115 : decode cX7_use 115 = .ok (.iaload, 1) := by decide +kernel
theorem dX7_use_116 : decode cX7_use 116 = .ok (.iadd, 1) := by decide +kernel
theorem dX7_use_117 : decode cX7_use 117 = .ok (.iload 9, 2) := by decide +kernel
theorem dX7_use_119 : decode cX7_use 119 = .ok (.iadd, 1) := by decide +kernel
theorem dX7_use_120 : decode cX7_use 120 = .ok (.aload_n 0, 1) := by decide +kernel
theorem dX7_use_121 : decode cX7_use 121 = .ok (.getfield 38, 3) := by decide +kernel
theorem dX7_use_124 : decode cX7_use 124 = .ok (.iconst 4, 1) := by decide +kernel
theorem dX7_use_125 : decode cX7_use 125 = .ok (.iload 4, 2) := by decide +kernel
theorem dX7_use_127 : decode cX7_use 127 = .ok (.imul, 1) := by decide +kernel
theorem dX7_use_128 : decode cX7_use 128 = .ok (.iconst 4, 1) := by decide +kernel
theorem dX7_use_129 : decode cX7_use 129 = .ok (.iadd, 1) := by decide +kernel
theorem dX7_use_130 : decode cX7_use 130 = .ok (.iload 9, 2) := by decide +kernel
theorem dX7_use_132 : decode cX7_use 132 = .ok (.iadd, 1) := by decide +kernel
theorem dX7_use_133 : decode cX7_use 133 = .ok (.iaload, 1) := by decide +kernel
theorem dX7_use_134 : decode cX7_use 134 = .ok (.iastore, 1) := by decide +kernel
theorem dX7_use_135 : decode cX7_use 135 = .ok (.aload_n 0, 1) := by decide +kernel
theorem dX7_use_136 : decode cX7_use 136 = .ok (.getfield 41, 3) := by decide +kernel
theorem dX7_use_139 : decode cX7_use 139 = .ok (.iconst 4, 1) := by decide +kernel
theorem dX7_use_140 : decode cX7_use 140 = .ok (.iload 4, 2) := by decide +kernel
theorem dX7_use_142 : decode cX7_use 142 = .ok (.imul, 1) := by decide +kernel
theorem dX7_use_143 : decode cX7_use 143 = .ok (.aload_n 0, 1) := by decide +kernel
theorem dX7_use_144 : decode cX7_use 144 = .ok (.getfield 35, 3) := by decide +kernel
theorem dX7_use_147 : decode cX7_use 147 = .ok (.iload 4, 2) := by decide +kernel
theorem dX7_use_149 : decode cX7_use 149 = .ok (.iaload, 1) := by decide +kernel
theorem dX7_use_150 : decode cX7_use 150 = .ok (.iadd, 1) := by decide +kernel
theorem dX7_use_151 : decode cX7_use 151 = .ok (.iload 9, 2) := by decide +kernel
theorem dX7_use_153 : decode cX7_use 153 = .ok (.iadd, 1) := by decide +kernel
theorem dX7_use_154 : decode cX7_use 154 = .ok (.aload_n 0, 1) := by decide +kernel
theorem dX7_use_155 : decode cX7_use 155 = .ok (.getfield 41, 3) := by decide +kernel
theorem dX7_use_158 : decode cX7_use 158 = .ok (.iconst 4, 1) := by decide +kernel
theorem dX7_use_159 : decode cX7_use 159 = .ok (.iload 4, 2) := by decide +kernel
theorem dX7_use_161 : decode cX7_use 161 = .ok (.imul, 1) := by decide +kernel
theorem dX7_use_162 : decode cX7_use 162 = .ok (.iconst 4, 1) := by decide +kernel
theorem dX7_use_163 : decode cX7_use 163 = .ok (.iadd, 1) := by decide +kernel
theorem dX7_use_164 : decode cX7_use 164 = .ok (.iload 9, 2) := by decide +kernel
theorem dX7_use_166 : decode cX7_use 166 = .ok (.iadd, 1) := by decide +kernel
theorem dX7_use_167 : decode cX7_use 167 = .ok (.laload, 1) := by decide +kernel
theorem dX7_use_168 : decode cX7_use 168 = .ok (.lastore, 1) := by decide +kernel
theorem dX7_use_169 : decode cX7_use 169 = .ok (.iinc 9 1, 3) := by decide +kernel
theorem dX7_use_172 : decode cX7_use 172 = .ok (.goto (-85), 3) := by decide +kernel
theorem dX7_use_175 : decode cX7_use 175 = .ok (.aload_n 0, 1) := by decide +kernel
theorem dX7_use_176 : decode cX7_use 176 = .ok (.getfield 35, 3) := by decide +kernel
theorem dX7_use_179 : decode cX7_use 179 = .ok (.iload 4, 2) := by decide +kernel
theorem dX7_use_181 : decode cX7_use 181 = .ok (.dup2, 1) := by decide +kernel
theorem dX7_use_182 : decode cX7_use 182 = .ok (.iaload, 1) := by decide +kernel
theorem dX7_use_183 : decode cX7_use 183 = .ok (.aload_n 0, 1) := by decide +kernel
theorem dX7_use_184 : decode cX7_use 184 = .ok (.getfield 35, 3) := by decide +kernel
theorem dX7_use_187 : decode cX7_use 187 = .ok (.iload 4, 2) := by decide +kernel
theorem dX7_use_189 : decode cX7_use 189 = .ok (.iconst 1, 1) := by decide +kernel
theorem dX7_use_190 : decode cX7_use 190 = .ok (.iadd, 1) := by decide +kernel
theorem dX7_use_191 : decode cX7_use 191 = .ok (.iaload, 1) := by decide +kernel
theorem dX7_use_192 : decode cX7_use 192 = .ok (.iadd, 1) := by decide +kernel
theorem dX7_use_193 : decode cX7_use 193 = .ok (.iastore, 1) := by decide +kernel
theorem dX7_use_194 : decode cX7_use 194 = .ok (.aload_n 0, 1) := by decide +kernel
theorem dX7_use_195 : decode cX7_use 195 = .ok (.iload_n 1, 1) := by decide +kernel
theorem dX7_use_196 : decode cX7_use 196 = .ok (.iload_n 2, 1) := by decide +kernel
theorem dX7_use_197 : decode cX7_use 197 = .ok (.iconst 1, 1) := by decide +kernel
theorem dX7_use_198 : decode cX7_use 198 = .ok (.iadd, 1) := by decide +kernel
theorem dX7_use_199 : decode cX7_use 199 = .ok (.invokevirtual 235, 3) := by decide +kernel
theorem dX7_use_202 : decode cX7_use 202 = .ok (.goto 140, 3) := by decide +kernel
theorem dX7_use_205 : decode cX7_use 205 = .ok (.aload_n 0, 1) := by decide +kernel
theorem dX7_use_206 : decode cX7_use 206 = .ok (.getfield 41, 3) := by decide +kernel
theorem dX7_use_209 : decode cX7_use 209 = .ok (.iconst 4, 1) := by decide +kernel
theorem dX7_use_210 : decode cX7_use 210 = .ok (.iload 4, 2) := by decide +kernel
theorem dX7_use_212 : decode cX7_use 212 = .ok (.imul, 1) := by decide +kernel
theorem dX7_use_213 : decode cX7_use 213 = .ok (.lload 5, 2) := by decide +kernel
theorem dX7_use_215 : decode cX7_use 215 = .ok (.lload 7, 2) := by decide +kernel
theorem dX7_use_217 : decode cX7_use 217 = .ok (.lcmp, 1) := by decide +kernel
theorem dX7_use_218 : decode cX7_use 218 = .ok (.ifCond .ge 8, 3) := by decide +kernel
theorem dX7_use_221 : decode cX7_use 221 = .ok (.lload 5, 2) := by decide +kernel
theorem dX7_use_223 : decode cX7_use 223 = .ok (.goto 5, 3) := by decide +kernel
theorem dX7_use_226 : decode cX7_use 226 = .ok (.lload 7, 2) := by decide +kernel
theorem dX7_use_228 : decode cX7_use 228 = .ok (.lastore, 1) := by decide +kernel
theorem dX7_use_229 : decode cX7_use 229 = .ok (.aload_n 0, 1) := by decide +kernel
theorem dX7_use_230 : decode cX7_use 230 = .ok (.iload_n 1, 1) := by decide +kernel
theorem dX7_use_231 : decode cX7_use 231 = .ok (.iload_n 2, 1) := by decide +kernel
theorem dX7_use_232 : decode cX7_use 232 = .ok (.iconst 1, 1) := by decide +kernel
theorem dX7_use_233 : decode cX7_use 233 = .ok (.iadd, 1) := by decide +kernel
theorem dX7_use_234 : decode cX7_use 234 = .ok (.invokevirtual 235, 3) := by decide +kernel
theorem dX7_use_237 : decode cX7_use 237 = .ok (.goto 105, 3) := by decide +kernel
theorem dX7_use_240 : decode cX7_use 240 = .ok (.aload_n 0, 1) := by decide +kernel
theorem dX7_use_241 : decode cX7_use 241 = .ok (.getfield 41, 3) := by decide +kernel
theorem dX7_use_244 : decode cX7_use 244 = .ok (.iconst 4, 1) := by decide +kernel
theorem dX7_use_245 : decode cX7_use 245 = .ok (.iload 4, 2) := by decide +kernel
theorem dX7_use_247 : decode cX7_use 247 = .ok (.imul, 1) := by decide +kernel
theorem dX7_use_248 : decode cX7_use 248 = .ok (.lload 5, 2) := by decide +kernel
theorem dX7_use_250 : decode cX7_use 250 = .ok (.lload 7, 2) := by decide +kernel
theorem dX7_use_252 : decode cX7_use 252 = .ok (.ladd, 1) := by decide +kernel
theorem dX7_use_253 : decode cX7_use 253 = .ok (.lastore, 1) := by decide +kernel
theorem dX7_use_254 : decode cX7_use 254 = .ok (.aload_n 0, 1) := by decide +kernel
theorem dX7_use_255 : decode cX7_use 255 = .ok (.iload_n 1, 1) := by decide +kernel
theorem dX7_use_256 : decode cX7_use 256 = .ok (.iload_n 2, 1) := by decide +kernel
theorem dX7_use_257 : decode cX7_use 257 = .ok (.iconst 1, 1) := by decide +kernel
theorem dX7_use_258 : decode cX7_use 258 = .ok (.iadd, 1) := by decide +kernel
theorem dX7_use_259 : decode cX7_use 259 = .ok (.invokevirtual 235, 3) := by decide +kernel
theorem dX7_use_262 : decode cX7_use 262 = .ok (.goto 80, 3) := by decide +kernel
theorem dX7_use_265 : decode cX7_use 265 = .ok (.aload_n 0, 1) := by decide +kernel
theorem dX7_use_266 : decode cX7_use 266 = .ok (.iload 4, 2) := by decide +kernel
theorem dX7_use_268 : decode cX7_use 268 = .ok (.iload 4, 2) := by decide +kernel
theorem dX7_use_270 : decode cX7_use 270 = .ok (.iconst 1, 1) := by decide +kernel
theorem dX7_use_271 : decode cX7_use 271 = .ok (.iadd, 1) := by decide +kernel
theorem dX7_use_272 : decode cX7_use 272 = .ok (.invokevirtual 238, 3) := by decide +kernel
theorem dX7_use_275 : decode cX7_use 275 = .ok (.goto 67, 3) := by decide +kernel
theorem dX7_use_278 : decode cX7_use 278 = .ok (.aload_n 0, 1) := by decide +kernel
theorem dX7_use_279 : decode cX7_use 279 = .ok (.iload_n 1, 1) := by decide +kernel
theorem dX7_use_280 : decode cX7_use 280 = .ok (.iload_n 2, 1) := by decide +kernel
theorem dX7_use_281 : decode cX7_use 281 = .ok (.iconst 1, 1) := by decide +kernel
theorem dX7_use_282 : decode cX7_use 282 = .ok (.iadd, 1) := by decide +kernel
theorem dX7_use_283 : decode cX7_use 283 = .ok (.invokevirtual 235, 3) := by decide +kernel
theorem dX7_use_286 : decode cX7_use 286 = .ok (.aload_n 0, 1) := by decide +kernel
theorem dX7_use_287 : decode cX7_use 287 = .ok (.iload_n 1, 1) := by decide +kernel
theorem dX7_use_288 : decode cX7_use 288 = .ok (.iload_n 2, 1) := by decide +kernel
theorem dX7_use_289 : decode cX7_use 289 = .ok (.invokevirtual 235, 3) := by decide +kernel
theorem dX7_use_292 : decode cX7_use 292 = .ok (.goto 50, 3) := by decide +kernel
theorem dX7_use_295 : decode cX7_use 295 = .ok (.aload_n 0, 1) := by decide +kernel
theorem dX7_use_296 : decode cX7_use 296 = .ok (.iload 4, 2) := by decide +kernel
theorem dX7_use_298 : decode cX7_use 298 = .ok (.iload 4, 2) := by decide +kernel
theorem dX7_use_300 : decode cX7_use 300 = .ok (.iconst 1, 1) := by decide +kernel
theorem dX7_use_301 : decode cX7_use 301 = .ok (.iadd, 1) := by decide +kernel
theorem dX7_use_302 : decode cX7_use 302 = .ok (.invokevirtual 238, 3) := by decide +kernel
theorem dX7_use_305 : decode cX7_use 305 = .ok (.aload_n 0, 1) := by decide +kernel
theorem dX7_use_306 : decode cX7_use 306 = .ok (.getfield 41, 3) := by decide +kernel
theorem dX7_use_309 : decode cX7_use 309 = .ok (.iconst 4, 1) := by decide +kernel
theorem dX7_use_310 : decode cX7_use 310 = .ok (.iload 4, 2) := by decide +kernel
theorem dX7_use_312 : decode cX7_use 312 = .ok (.imul, 1) := by decide +kernel
theorem dX7_use_313 : decode cX7_use 313 = .ok (.iconst 4, 1) := by decide +kernel
theorem dX7_use_314 : decode cX7_use 314 = .ok (.iadd, 1) := by decide +kernel
theorem dX7_use_315 : decode cX7_use 315 = .ok (.lload 5, 2) := by decide +kernel
theorem dX7_use_317 : decode cX7_use 317 = .ok (.lload 7, 2) := by decide +kernel
theorem dX7_use_319 : decode cX7_use 319 = .ok (.lcmp, 1) := by decide +kernel
theorem dX7_use_320 : decode cX7_use 320 = .ok (.ifCond .le 11, 3) := by decide +kernel
theorem dX7_use_323 : decode cX7_use 323 = .ok (.lload 5, 2) := by decide +kernel
theorem dX7_use_325 : decode cX7_use 325 = .ok (.lload 7, 2) := by decide +kernel
theorem dX7_use_327 : decode cX7_use 327 = .ok (.lsub, 1) := by decide +kernel
theorem dX7_use_328 : decode cX7_use 328 = .ok (.goto 4, 3) := by decide +kernel
theorem dX7_use_331 : decode cX7_use 331 = .ok (.lconst 0, 1) := by decide +kernel
theorem dX7_use_332 : decode cX7_use 332 = .ok (.lastore, 1) := by decide +kernel
theorem dX7_use_333 : decode cX7_use 333 = .ok (.goto 9, 3) := by decide +kernel
theorem dX7_use_336 : decode cX7_use 336 = .ok (.aload_n 0, 1) := by decide +kernel
theorem dX7_use_337 : decode cX7_use 337 = .ok (.iload_n 1, 1) := by decide +kernel
theorem dX7_use_338 : decode cX7_use 338 = .ok (.iload_n 2, 1) := by decide +kernel
theorem dX7_use_339 : decode cX7_use 339 = .ok (.invokevirtual 235, 3) := by decide +kernel
theorem dX7_use_342 : decode cX7_use 342 = .ok (.return_, 1) := by decide +kernel
theorem dX7_fuse_0 : decode cX7_fuse 0 = .ok (.aload_n 0, 1) := by decide +kernel
theorem dX7_fuse_1 : decode cX7_fuse 1 = .ok (.iconst 0, 1) := by decide +kernel
theorem dX7_fuse_2 : decode cX7_fuse 2 = .ok (.putfield 87, 3) := by decide +kernel
theorem dX7_fuse_5 : decode cX7_fuse 5 = .ok (.iload_n 1, 1) := by decide +kernel
theorem dX7_fuse_6 : decode cX7_fuse 6 = .ok (.invokestatic 105, 3) := by decide +kernel
theorem dX7_fuse_9 : decode cX7_fuse 9 = .ok (.ifCond .ne 5, 3) := by decide +kernel
theorem dX7_fuse_12 : decode cX7_fuse 12 = .ok (.iconst (-1), 1) := by decide +kernel
theorem dX7_fuse_13 : decode cX7_fuse 13 = .ok (.ireturn, 1) := by decide +kernel
theorem dX7_fuse_14 : decode cX7_fuse 14 = .ok (.iconst 0, 1) := by decide +kernel
theorem dX7_fuse_15 : decode cX7_fuse 15 = .ok (.istore_n 2, 1) := by decide +kernel
theorem dX7_fuse_16 : decode cX7_fuse 16 = .ok (.iconst 0, 1) := by decide +kernel
theorem dX7_fuse_17 : decode cX7_fuse 17 = .ok (.istore_n 3, 1) := by decide +kernel
theorem dX7_fuse_18 : decode cX7_fuse 18 = .ok (.iload_n 3, 1) := by decide +kernel
theorem dX7_fuse_19 : decode cX7_fuse 19 = .ok (.aload_n 0, 1) := by decide +kernel
theorem dX7_fuse_20 : decode cX7_fuse 20 = .ok (.getfield 222, 3) := by decide +kernel
theorem dX7_fuse_23 : decode cX7_fuse 23 = .ok (.if_icmp .ge 85, 3) := by decide +kernel
theorem dX7_fuse_26 : decode cX7_fuse 26 = .ok (.aload_n 0, 1) := by decide +kernel
theorem dX7_fuse_27 : decode cX7_fuse 27 = .ok (.getfield 84, 3) := by decide +kernel
theorem dX7_fuse_30 : decode cX7_fuse 30 = .ok (.iload_n 3, 1) := by decide +kernel
theorem dX7_fuse_31 : decode cX7_fuse 31 = .ok (.iaload, 1) := by decide +kernel
theorem dX7_fuse_32 : decode cX7_fuse 32 = .ok (.istore 4, 2) := by decide +kernel
theorem dX7_fuse_34 : decode cX7_fuse 34 = .ok (.iconst 0, 1) := by decide +kernel
theorem dX7_fuse_35 : decode cX7_fuse 35 = .ok (.istore 5, 2) := by decide +kernel
theorem dX7_fuse_37 : decode cX7_fuse 37 = .ok (.iload 5, 2) := by decide +kernel
theorem dX7_fuse_39 : decode cX7_fuse 39 = .ok (.iload 4, 2) := by decide +kernel
theorem dX7_fuse_41 : decode cX7_fuse 41 = .ok (.bipush 7, 2) := by decide +kernel
theorem dX7_fuse_43 : decode cX7_fuse 43 = .ok (.if_icmp .ne 12, 3) := by decide +kernel
theorem dX7_fuse_46 : decode cX7_fuse 46 = .ok (.aload_n 0, 1) := by decide +kernel
theorem dX7_fuse_47 : decode cX7_fuse 47 = .ok (.getfield 32, 3) := by decide +kernel
theorem dX7_fuse_50 : decode cX7_fuse 50 = .ok (.iload_n 1, 1) := by decide +kernel
theorem dX7_fuse_51 : decode cX7_fuse 51 = .ok (.iaload, 1) := by decide +kernel
theorem dX7_fuse_52 : decode cX7_fuse 52 = .ok (.goto 11, 3) := by decide +kernel
theorem dX7_fuse_55 : decode cX7_fuse 55 = .ok (.aload_n 0, 1) := by decide +kernel
theorem dX7_fuse_56 : decode cX7_fuse 56 = .ok (.getfield 32, 3) := by decide +kernel
theorem dX7_fuse_59 : decode cX7_fuse 59 = .ok (.iload_n 1, 1) := by decide +kernel
theorem dX7_fuse_60 : decode cX7_fuse 60 = .ok (.iaload, 1) := by decide +kernel
theorem dX7_fuse_61 : decode cX7_fuse 61 = .ok (.iconst 1, 1) := by decide +kernel
theorem dX7_fuse_62 : decode cX7_fuse 62 = .ok (.isub, 1) := by decide +kernel
theorem dX7_fuse_63 : decode cX7_fuse 63 = .ok (.if_icmp .ge 39, 3) := by decide +kernel
theorem dX7_fuse_66 : decode cX7_fuse 66 = .ok (.aload_n 0, 1) := by decide +kernel
theorem dX7_fuse_67 : decode cX7_fuse 67 = .ok (.iload_n 1, 1) := by decide +kernel
theorem dX7_fuse_68 : decode cX7_fuse 68 = .ok (.iload 5, 2) := by decide +kernel
theorem dX7_fuse_70 : decode cX7_fuse 70 = .ok (.iload 4, 2) := by decide +kernel
theorem dX7_fuse_72 : decode cX7_fuse 72 = .ok (.invokevirtual 232, 3) := by decide +kernel
theorem dX7_fuse_75 : decode cX7_fuse 75 = .ok (.ifCond .ne 21, 3) := by decide +kernel
theorem dX7_fuse_78 : decode cX7_fuse 78 = .ok (.aload_n 0, 1) := by decide +kernel
theorem dX7_fuse_79 : decode cX7_fuse 79 = .ok (.iload_n 1, 1) := by decide +kernel
theorem dX7_fuse_80 : decode cX7_fuse 80 = .ok (.iload 5, 2) := by decide +kernel
theorem dX7_fuse_82 : decode cX7_fuse 82 = .ok (.iload 4, 2) := by decide +kernel
theorem dX7_fuse_84 : decode cX7_fuse 84 = .ok (.invokevirtual 241, 3) := by decide +kernel
theorem dX7_fuse_87 : decode cX7_fuse 87 = .ok (.iinc 2 1, 3) := by decide +kernel
theorem dX7_fuse_90 : decode cX7_fuse 90 = .ok (.iconst 0, 1) := by decide +kernel
theorem dX7_fuse_91 : decode cX7_fuse 91 = .ok (.istore 5, 2) := by decide +kernel
theorem dX7_fuse_93 : decode cX7_fuse 93 = .ok (.goto (-56), 3) := by decide +kernel
theorem dX7_fuse_96 : decode cX7_fuse 96 = .ok (.iinc 5 1, 3) := by decide +kernel
theorem dX7_fuse_99 : decode cX7_fuse 99 = .ok (.goto (-62), 3) := by decide +kernel
theorem dX7_fuse_102 : decode cX7_fuse 102 = .ok (.iinc 3 1, 3) := by decide +kernel
theorem dX7_fuse_105 : decode cX7_fuse 105 = .ok (.goto (-87), 3) := by decide +kernel
theorem dX7_fuse_108 : decode cX7_fuse 108 = .ok (.iload_n 2, 1) := by decide +kernel
theorem dX7_fuse_109 : decode cX7_fuse 109 = .ok (.ireturn, 1) := by decide +kernel
theorem dX7_count_0 : decode cX7_count 0 = .ok (.aload_n 0, 1) := by decide +kernel
theorem dX7_count_1 : decode cX7_count 1 = .ok (.iconst 0, 1) := by decide +kernel
theorem dX7_count_2 : decode cX7_count 2 = .ok (.putfield 87, 3) := by decide +kernel
theorem dX7_count_5 : decode cX7_count 5 = .ok (.iload_n 1, 1) := by decide +kernel
theorem dX7_count_6 : decode cX7_count 6 = .ok (.tableswitch 50 0 3 #[30, 35, 40, 45], 30) := by decide +kernel
theorem dX7_count_36 : decode cX7_count 36 = .ok (.aload_n 0, 1) := by decide +kernel
theorem dX7_count_37 : decode cX7_count 37 = .ok (.getfield 203, 3) := by decide +kernel
theorem dX7_count_40 : decode cX7_count 40 = .ok (.ireturn, 1) := by decide +kernel
theorem dX7_count_41 : decode cX7_count 41 = .ok (.aload_n 0, 1) := by decide +kernel
theorem dX7_count_42 : decode cX7_count 42 = .ok (.getfield 210, 3) := by decide +kernel
theorem dX7_count_45 : decode cX7_count 45 = .ok (.ireturn, 1) := by decide +kernel
theorem dX7_count_46 : decode cX7_count 46 = .ok (.aload_n 0, 1) := by decide +kernel
theorem dX7_count_47 : decode cX7_count 47 = .ok (.getfield 213, 3) := by decide +kernel
theorem dX7_count_50 : decode cX7_count 50 = .ok (.ireturn, 1) := by decide +kernel
theorem dX7_count_51 : decode cX7_count 51 = .ok (.aload_n 0, 1) := by decide +kernel
theorem dX7_count_52 : decode cX7_count 52 = .ok (.getfield 222, 3) := by decide +kernel
theorem dX7_count_55 : decode cX7_count 55 = .ok (.ireturn, 1) := by decide +kernel
theorem dX7_count_56 : decode cX7_count 56 = .ok (.bipush (-2), 2) := by decide +kernel
theorem dX7_count_58 : decode cX7_count 58 = .ok (.ireturn, 1) := by decide +kernel
theorem dX7_mean_0 : decode cX7_mean 0 = .ok (.aload_n 0, 1) := by decide +kernel
theorem dX7_mean_1 : decode cX7_mean 1 = .ok (.iconst 0, 1) := by decide +kernel
theorem dX7_mean_2 : decode cX7_mean 2 = .ok (.putfield 87, 3) := by decide +kernel
theorem dX7_mean_5 : decode cX7_mean 5 = .ok (.aload_n 0, 1) := by decide +kernel
theorem dX7_mean_6 : decode cX7_mean 6 = .ok (.getfield 203, 3) := by decide +kernel
theorem dX7_mean_9 : decode cX7_mean 9 = .ok (.aload_n 0, 1) := by decide +kernel
theorem dX7_mean_10 : decode cX7_mean 10 = .ok (.getfield 210, 3) := by decide +kernel
theorem dX7_mean_13 : decode cX7_mean 13 = .ok (.aload_n 0, 1) := by decide +kernel
theorem dX7_mean_14 : decode cX7_mean 14 = .ok (.getfield 213, 3) := by decide +kernel
theorem dX7_mean_17 : decode cX7_mean 17 = .ok (.iadd, 1) := by decide +kernel
theorem dX7_mean_18 : decode cX7_mean 18 = .ok (.if_icmp .ne 10, 3) := by decide +kernel
theorem dX7_mean_21 : decode cX7_mean 21 = .ok (.aload_n 0, 1) := by decide +kernel
theorem dX7_mean_22 : decode cX7_mean 22 = .ok (.iconst 1, 1) := by decide +kernel
theorem dX7_mean_23 : decode cX7_mean 23 = .ok (.putfield 87, 3) := by decide +kernel
theorem dX7_mean_26 : decode cX7_mean 26 = .ok (.iconst 0, 1) := by decide +kernel
theorem dX7_mean_27 : decode cX7_mean 27 = .ok (.ireturn, 1) := by decide +kernel
theorem dX7_mean_28 : decode cX7_mean 28 = .ok (.aload_n 0, 1) := by decide +kernel
theorem dX7_mean_29 : decode cX7_mean 29 = .ok (.getfield 206, 3) := by decide +kernel
theorem dX7_mean_32 : decode cX7_mean 32 = .ok (.aload_n 0, 1) := by decide +kernel
theorem dX7_mean_33 : decode cX7_mean 33 = .ok (.getfield 203, 3) := by decide +kernel
theorem dX7_mean_36 : decode cX7_mean 36 = .ok (.aload_n 0, 1) := by decide +kernel
theorem dX7_mean_37 : decode cX7_mean 37 = .ok (.getfield 210, 3) := by decide +kernel
theorem dX7_mean_40 : decode cX7_mean 40 = .ok (.isub, 1) := by decide +kernel
theorem dX7_mean_41 : decode cX7_mean 41 = .ok (.aload_n 0, 1) := by decide +kernel
theorem dX7_mean_42 : decode cX7_mean 42 = .ok (.getfield 213, 3) := by decide +kernel
theorem dX7_mean_45 : decode cX7_mean 45 = .ok (.isub, 1) := by decide +kernel
theorem dX7_mean_46 : decode cX7_mean 46 = .ok (.i2l, 1) := by decide +kernel
theorem dX7_mean_47 : decode cX7_mean 47 = .ok (.ldiv, 1) := by decide +kernel
theorem dX7_mean_48 : decode cX7_mean 48 = .ok (.l2i, 1) := by decide +kernel
theorem dX7_mean_49 : decode cX7_mean 49 = .ok (.ireturn, 1) := by decide +kernel
