theorem dX7_hears_186 : decode cX7_hears 186 = .ok (.imul, 1) := by decide +kernel
theorem dX7_hears_187 : decode cX7_hears 187 = .ok (.laload, 1) := by decide +kernel
theorem dX7_hears_188 : decode cX7_hears 188 = .ok (.lcmp, 1) := by decide +kernel
theorem dX7_hears_189 : decode cX7_hears 189 = .ok (.ifCond .le 7, 3) := by decide +kernel
theorem dX7_hears_192 : decode cX7_hears 192 = .ok (.iconst 1, 1) := by decide +kernel
theorem dX7_hears_193 : decode cX7_hears 193 = .ok (.goto 4, 3) := by decide +kernel
theorem dX7_hears_196 : decode cX7_hears 196 = .ok (.iconst 0, 1) := by decide +kernel
theorem dX7_hears_197 : decode cX7_hears 197 = .ok (.ireturn, 1) := by decide +kernel
theorem dX7_hears_198 : decode cX7_hears 198 = .ok (.iload_n 3, 1) := by decide +kernel
theorem dX7_hears_199 : decode cX7_hears 199 = .ok (.bipush 9, 2) := by decide +kernel
theorem dX7_hears_201 : decode cX7_hears 201 = .ok (.if_icmp .ne 92, 3) := by decide +kernel
theorem dX7_hears_204 : decode cX7_hears 204 = .ok (.aload_n 0, 1) := by decide +kernel
theorem dX7_hears_205 : decode cX7_hears 205 = .ok (.iload 4, 2) := by decide +kernel
theorem dX7_hears_207 : decode cX7_hears 207 = .ok (.invokevirtual 169, 3) := by decide +kernel
theorem dX7_hears_210 : decode cX7_hears 210 = .ok (.ifCond .ne 5, 3) := by decide +kernel
theorem dX7_hears_213 : decode cX7_hears 213 = .ok (.iconst 1, 1) := by decide +kernel
theorem dX7_hears_214 : decode cX7_hears 214 = .ok (.ireturn, 1) := by decide +kernel
theorem dX7_hears_215 : decode cX7_hears 215 = .ok (.aload_n 0, 1) := by decide +kernel
theorem dX7_hears_216 : decode cX7_hears 216 = .ok (.getfield 47, 3) := by decide +kernel
theorem dX7_hears_219 : decode cX7_hears 219 = .ok (.iload 4, 2) := by decide +kernel
theorem dX7_hears_221 : decode cX7_hears 221 = .ok (.laload, 1) := by decide +kernel
theorem dX7_hears_222 : decode cX7_hears 222 = .ok (.aload_n 0, 1) := by decide +kernel
theorem dX7_hears_223 : decode cX7_hears 223 = .ok (.getfield 41, 3) := by decide +kernel
theorem dX7_hears_226 : decode cX7_hears 226 = .ok (.iconst 4, 1) := by decide +kernel
theorem dX7_hears_227 : decode cX7_hears 227 = .ok (.iload_n 2, 1) := by decide +kernel
theorem dX7_hears_228 : decode cX7_hears 228 = .ok (.imul, 1) := by decide +kernel
theorem dX7_hears_229 : decode cX7_hears 229 = .ok (.laload, 1) := by decide +kernel
theorem dX7_hears_230 : decode cX7_hears 230 = .ok (.lcmp, 1) := by decide +kernel
theorem dX7_hears_231 : decode cX7_hears 231 = .ok (.ifCond .ge 7, 3) := by decide +kernel
theorem dX7_hears_234 : decode cX7_hears 234 = .ok (.iconst 1, 1) := by decide +kernel
theorem dX7_hears_235 : decode cX7_hears 235 = .ok (.goto 4, 3) := by decide +kernel
theorem dX7_hears_238 : decode cX7_hears 238 = .ok (.iconst 0, 1) := by decide +kernel
theorem dX7_hears_239 : decode cX7_hears 239 = .ok (.istore 5, 2) := by decide +kernel
theorem dX7_hears_241 : decode cX7_hears 241 = .ok (.aload_n 0, 1) := by decide +kernel
theorem dX7_hears_242 : decode cX7_hears 242 = .ok (.getfield 66, 3) := by decide +kernel
theorem dX7_hears_245 : decode cX7_hears 245 = .ok (.iload_n 1, 1) := by decide +kernel
theorem dX7_hears_246 : decode cX7_hears 246 = .ok (.iload 5, 2) := by decide +kernel
theorem dX7_hears_248 : decode cX7_hears 248 = .ok (.ifCond .ne 7, 3) := by decide +kernel
theorem dX7_hears_251 : decode cX7_hears 251 = .ok (.iconst 1, 1) := by decide +kernel
theorem dX7_hears_252 : decode cX7_hears 252 = .ok (.goto 4, 3) := by decide +kernel
theorem dX7_hears_255 : decode cX7_hears 255 = .ok (.iconst 0, 1) := by decide +kernel
theorem dX7_hears_256 : decode cX7_hears 256 = .ok (.bastore, 1) := by decide +kernel
theorem dX7_hears_257 : decode cX7_hears 257 = .ok (.aload_n 0, 1) := by decide +kernel
theorem dX7_hears_258 : decode cX7_hears 258 = .ok (.iload 5, 2) := by decide +kernel
theorem dX7_hears_260 : decode cX7_hears 260 = .ok (.ifCond .eq 8, 3) := by decide +kernel
theorem dX7_hears_263 : decode cX7_hears 263 = .ok (.iload 4, 2) := by decide +kernel
theorem dX7_hears_265 : decode cX7_hears 265 = .ok (.goto 4, 3) := by decide +kernel
theorem dX7_hears_268 : decode cX7_hears 268 = .ok (.iconst (-1), 1) := by decide +kernel
theorem dX7_hears_269 : decode cX7_hears 269 = .ok (.putfield 152, 3) := by decide +kernel
theorem dX7_hears_272 : decode cX7_hears 272 = .ok (.aload_n 0, 1) := by decide +kernel
theorem dX7_hears_273 : decode cX7_hears 273 = .ok (.dup, 1) := by decide +kernel
theorem dX7_hears_274 : decode cX7_hears 274 = .ok (.getfield 166, 3) := by decide +kernel
theorem dX7_hears_277 : decode cX7_hears 277 = .ok (.iload 5, 2) := by decide +kernel
theorem dX7_hears_279 : decode cX7_hears 279 = .ok (.ifCond .eq 7, 3) := by decide +kernel
theorem dX7_hears_282 : decode cX7_hears 282 = .ok (.iconst 1, 1) := by decide +kernel
theorem dX7_hears_283 : decode cX7_hears 283 = .ok (.goto 4, 3) := by decide +kernel
theorem dX7_hears_286 : decode cX7_hears 286 = .ok (.iconst 0, 1) := by decide +kernel
theorem dX7_hears_287 : decode cX7_hears 287 = .ok (.iadd, 1) := by decide +kernel
theorem dX7_hears_288 : decode cX7_hears 288 = .ok (.putfield 166, 3) := by decide +kernel
theorem dX7_hears_291 : decode cX7_hears 291 = .ok (.iconst 1, 1) := by decide +kernel
theorem dX7_hears_292 : decode cX7_hears 292 = .ok (.ireturn, 1) := by decide +kernel
theorem dX7_hears_293 : decode cX7_hears 293 = .ok (.iload_n 3, 1) := by decide +kernel
theorem dX7_hears_294 : decode cX7_hears 294 = .ok (.bipush 10, 2) := by decide +kernel
theorem dX7_hears_296 : decode cX7_hears 296 = .ok (.if_icmp .ne 42, 3) := by decide +kernel
theorem dX7_hears_299 : decode cX7_hears 299 = .ok (.aload_n 0, 1) := by decide +kernel
theorem dX7_hears_300 : decode cX7_hears 300 = .ok (.aload_n 0, 1) := by decide +kernel
theorem dX7_hears_301 : decode cX7_hears 301 = .ok (.iload 4, 2) := by decide +kernel
theorem dX7_hears_303 : decode cX7_hears 303 = .ok (.aload_n 0, 1) := by decide +kernel
theorem dX7_hears_304 : decode cX7_hears 304 = .ok (.getfield 72, 3) := by decide +kernel
theorem dX7_hears_307 : decode cX7_hears 307 = .ok (.iload_n 1, 1) := by decide +kernel
theorem dX7_hears_308 : decode cX7_hears 308 = .ok (.iaload, 1) := by decide +kernel
theorem dX7_hears_309 : decode cX7_hears 309 = .ok (.iload_n 2, 1) := by decide +kernel
theorem dX7_hears_310 : decode cX7_hears 310 = .ok (.invokevirtual 127, 3) := by decide +kernel
theorem dX7_hears_313 : decode cX7_hears 313 = .ok (.putfield 152, 3) := by decide +kernel
theorem dX7_hears_316 : decode cX7_hears 316 = .ok (.aload_n 0, 1) := by decide +kernel
theorem dX7_hears_317 : decode cX7_hears 317 = .ok (.getfield 72, 3) := by decide +kernel
theorem dX7_hears_320 : decode cX7_hears 320 = .ok (.iload_n 1, 1) := by decide +kernel
theorem dX7_hears_321 : decode cX7_hears 321 = .ok (.aload_n 0, 1) := by decide +kernel
theorem dX7_hears_322 : decode cX7_hears 322 = .ok (.getfield 152, 3) := by decide +kernel
theorem dX7_hears_325 : decode cX7_hears 325 = .ok (.iastore, 1) := by decide +kernel
theorem dX7_hears_326 : decode cX7_hears 326 = .ok (.aload_n 0, 1) := by decide +kernel
theorem dX7_hears_327 : decode cX7_hears 327 = .ok (.dup, 1) := by decide +kernel
theorem dX7_hears_328 : decode cX7_hears 328 = .ok (.getfield 166, 3) := by decide +kernel
theorem dX7_hears_331 : decode cX7_hears 331 = .ok (.iconst 1, 1) := by decide +kernel
theorem dX7_hears_332 : decode cX7_hears 332 = .ok (.iadd, 1) := by decide +kernel
theorem dX7_hears_333 : decode cX7_hears 333 = .ok (.putfield 166, 3) := by decide +kernel
theorem dX7_hears_336 : decode cX7_hears 336 = .ok (.iconst 1, 1) := by decide +kernel
theorem dX7_hears_337 : decode cX7_hears 337 = .ok (.ireturn, 1) := by decide +kernel
theorem dX7_hears_338 : decode cX7_hears 338 = .ok (.aload_n 0, 1) := by decide +kernel
theorem dX7_hears_339 : decode cX7_hears 339 = .ok (.dup, 1) := by decide +kernel
theorem dX7_hears_340 : decode cX7_hears 340 = .ok (.getfield 166, 3) := by decide +kernel
theorem dX7_hears_343 : decode cX7_hears 343 = .ok (.iconst 1, 1) := by decide +kernel
theorem dX7_hears_344 : decode cX7_hears 344 = .ok (.iadd, 1) := by decide +kernel
theorem dX7_hears_345 : decode cX7_hears 345 = .ok (.putfield 166, 3) := by decide +kernel
theorem dX7_hears_348 : decode cX7_hears 348 = .ok (.aload_n 0, 1) := by decide +kernel
theorem dX7_hears_349 : decode cX7_hears 349 = .ok (.getfield 81, 3) := by decide +kernel
theorem dX7_hears_352 : decode cX7_hears 352 = .ok (.sipush 500, 3) := by decide +kernel
theorem dX7_hears_355 : decode cX7_hears 355 = .ok (.iload_n 1, 1) := by decide +kernel
theorem dX7_hears_356 : decode cX7_hears 356 = .ok (.imul, 1) := by decide +kernel
theorem dX7_hears_357 : decode cX7_hears 357 = .ok (.aload_n 0, 1) := by decide +kernel
theorem dX7_hears_358 : decode cX7_hears 358 = .ok (.getfield 78, 3) := by decide +kernel
theorem dX7_hears_361 : decode cX7_hears 361 = .ok (.iload_n 1, 1) := by decide +kernel
theorem dX7_hears_362 : decode cX7_hears 362 = .ok (.iaload, 1) := by decide +kernel
theorem dX7_hears_363 : decode cX7_hears 363 = .ok (.iadd, 1) := by decide +kernel
theorem dX7_hears_364 : decode cX7_hears 364 = .ok (.iload 4, 2) := by decide +kernel
theorem dX7_hears_366 : decode cX7_hears 366 = .ok (.iastore, 1) := by decide +kernel
theorem dX7_hears_367 : decode cX7_hears 367 = .ok (.aload_n 0, 1) := by decide +kernel
theorem dX7_hears_368 : decode cX7_hears 368 = .ok (.getfield 78, 3) := by decide +kernel
theorem dX7_hears_371 : decode cX7_hears 371 = .ok (.iload_n 1, 1) := by decide +kernel
theorem dX7_hears_372 : decode cX7_hears 372 = .ok (.dup2, 1) := by decide +kernel
theorem dX7_hears_373 : decode cX7_hears 373 = .ok (.iaload, 1) := by decide +kernel
theorem dX7_hears_374 : decode cX7_hears 374 = .ok (.iconst 1, 1) := by decide +kernel
theorem dX7_hears_375 : decode cX7_hears 375 = .ok (.iadd, 1) := by decide +kernel
theorem dX7_hears_376 : decode cX7_hears 376 = .ok (.iastore, 1) := by decide +kernel
theorem dX7_hears_377 : decode cX7_hears 377 = .ok (.iconst 0, 1) := by decide +kernel
theorem dX7_hears_378 : decode cX7_hears 378 = .ok (.ireturn, 1) := by decide +kernel
theorem dX7_ask_0 : decode cX7_ask 0 = .ok (.aload_n 0, 1) := by decide +kernel
theorem dX7_ask_1 : decode cX7_ask 1 = .ok (.getfield 32, 3) := by decide +kernel
theorem dX7_ask_4 : decode cX7_ask 4 = .ok (.iload_n 1, 1) := by decide +kernel
theorem dX7_ask_5 : decode cX7_ask 5 = .ok (.iaload, 1) := by decide +kernel
theorem dX7_ask_6 : decode cX7_ask 6 = .ok (.istore_n 2, 1) := by decide +kernel
theorem dX7_ask_7 : decode cX7_ask 7 = .ok (.iconst 1, 1) := by decide +kernel
theorem dX7_ask_8 : decode cX7_ask 8 = .ok (.istore_n 3, 1) := by decide +kernel
theorem dX7_ask_9 : decode cX7_ask 9 = .ok (.aload_n 0, 1) := by decide +kernel
theorem dX7_ask_10 : decode cX7_ask 10 = .ok (.invokevirtual 176, 3) := by decide +kernel
theorem dX7_ask_13 : decode cX7_ask 13 = .ok (.ifCond .ne 130, 3) := by decide +kernel
theorem dX7_ask_16 : decode cX7_ask 16 = .ok (.bipush 10, 2) := by decide +kernel
theorem dX7_ask_18 : decode cX7_ask 18 = .ok (.iload_n 1, 1) := by decide +kernel
theorem dX7_ask_19 : decode cX7_ask 19 = .ok (.imul, 1) := by decide +kernel
theorem dX7_ask_20 : decode cX7_ask 20 = .ok (.iload_n 2, 1) := by decide +kernel
theorem dX7_ask_21 : decode cX7_ask 21 = .ok (.iadd, 1) := by decide +kernel
theorem dX7_ask_22 : decode cX7_ask 22 = .ok (.iconst 1, 1) := by decide +kernel
theorem dX7_ask_23 : decode cX7_ask 23 = .ok (.isub, 1) := by decide +kernel
theorem dX7_ask_24 : decode cX7_ask 24 = .ok (.istore 4, 2) := by decide +kernel
theorem dX7_ask_26 : decode cX7_ask 26 = .ok (.iload_n 3, 1) := by decide +kernel
theorem dX7_ask_27 : decode cX7_ask 27 = .ok (.ifCond .eq 81, 3) := by decide +kernel
theorem dX7_ask_30 : decode cX7_ask 30 = .ok (.aload_n 0, 1) := by decide +kernel
theorem dX7_ask_31 : decode cX7_ask 31 = .ok (.getfield 180, 3) := by decide +kernel
theorem dX7_ask_34 : decode cX7_ask 34 = .ok (.sipush 400, 3) := by decide +kernel
theorem dX7_ask_37 : decode cX7_ask 37 = .ok (.if_icmp .ne 9, 3) := by decide +kernel
theorem dX7_ask_40 : decode cX7_ask 40 = .ok (.aload_n 0, 1) := by decide +kernel
theorem dX7_ask_41 : decode cX7_ask 41 = .ok (.iconst 1, 1) := by decide +kernel
theorem dX7_ask_42 : decode cX7_ask 42 = .ok (.putfield 145, 3) := by decide +kernel
theorem dX7_ask_45 : decode cX7_ask 45 = .ok (.return_, 1) := by decide +kernel
theorem dX7_ask_46 : decode cX7_ask 46 = .ok (.aload_n 0, 1) := by decide +kernel
theorem dX7_ask_47 : decode cX7_ask 47 = .ok (.dup, 1) := by decide +kernel
theorem dX7_ask_48 : decode cX7_ask 48 = .ok (.getfield 180, 3) := by decide +kernel
theorem dX7_ask_51 : decode cX7_ask 51 = .ok (.iconst 1, 1) := by decide +kernel
theorem dX7_ask_52 : decode cX7_ask 52 = .ok (.iadd, 1) := by decide +kernel
theorem dX7_ask_53 : decode cX7_ask 53 = .ok (.putfield 180, 3) := by decide +kernel
theorem dX7_ask_56 : decode cX7_ask 56 = .ok (.iload_n 2, 1) := by decide +kernel
theorem dX7_ask_57 : decode cX7_ask 57 = .ok (.ifCond .ne 13, 3) := by decide +kernel
theorem dX7_ask_60 : decode cX7_ask 60 = .ok (.aload_n 0, 1) := by decide +kernel
theorem dX7_ask_61 : decode cX7_ask 61 = .ok (.iload_n 1, 1) := by decide +kernel
theorem dX7_ask_62 : decode cX7_ask 62 = .ok (.invokevirtual 183, 3) := by decide +kernel
theorem dX7_ask_65 : decode cX7_ask 65 = .ok (.iconst 0, 1) := by decide +kernel
theorem dX7_ask_66 : decode cX7_ask 66 = .ok (.istore_n 3, 1) := by decide +kernel
theorem dX7_ask_67 : decode cX7_ask 67 = .ok (.goto 24, 3) := by decide +kernel
theorem dX7_ask_70 : decode cX7_ask 70 = .ok (.aload_n 0, 1) := by decide +kernel
theorem dX7_ask_71 : decode cX7_ask 71 = .ok (.iload_n 2, 1) := by decide +kernel
theorem dX7_ask_72 : decode cX7_ask 72 = .ok (.iload 4, 2) := by decide +kernel
theorem dX7_ask_74 : decode cX7_ask 74 = .ok (.invokevirtual 186, 3) := by decide +kernel
theorem dX7_ask_77 : decode cX7_ask 77 = .ok (.ifCond .eq 8, 3) := by decide +kernel
theorem dX7_ask_80 : decode cX7_ask 80 = .ok (.iconst 0, 1) := by decide +kernel
theorem dX7_ask_81 : decode cX7_ask 81 = .ok (.istore_n 3, 1) := by decide +kernel
theorem dX7_ask_82 : decode cX7_ask 82 = .ok (.goto 9, 3) := by decide +kernel
theorem dX7_ask_85 : decode cX7_ask 85 = .ok (.iinc 2 (-1), 3) := by decide +kernel
theorem dX7_ask_88 : decode cX7_ask 88 = .ok (.goto (-79), 3) := by decide +kernel
theorem dX7_ask_91 : decode cX7_ask 91 = .ok (.iload_n 2, 1) := by decide +kernel
theorem dX7_ask_92 : decode cX7_ask 92 = .ok (.aload_n 0, 1) := by decide +kernel
theorem dX7_ask_93 : decode cX7_ask 93 = .ok (.getfield 32, 3) := by decide +kernel
theorem dX7_ask_96 : decode cX7_ask 96 = .ok (.iload_n 1, 1) := by decide +kernel
theorem dX7_ask_97 : decode cX7_ask 97 = .ok (.iaload, 1) := by decide +kernel
theorem dX7_ask_98 : decode cX7_ask 98 = .ok (.if_icmp .ne 4, 3) := by decide +kernel
theorem dX7_ask_101 : decode cX7_ask 101 = .ok (.return_, 1) := by decide +kernel
theorem dX7_ask_102 : decode cX7_ask 102 = .ok (.iinc 2 1, 3) := by decide +kernel
theorem dX7_ask_105 : decode cX7_ask 105 = .ok (.goto (-96), 3) := by decide +kernel
theorem dX7_ask_108 : decode cX7_ask 108 = .ok (.aload_n 0, 1) := by decide +kernel
theorem dX7_ask_109 : decode cX7_ask 109 = .ok (.iload_n 2, 1) := by decide +kernel
theorem dX7_ask_110 : decode cX7_ask 110 = .ok (.iload 4, 2) := by decide +kernel
theorem dX7_ask_112 : decode cX7_ask 112 = .ok (.invokevirtual 189, 3) := by decide +kernel
theorem dX7_ask_115 : decode cX7_ask 115 = .ok (.ifCond .ne 11, 3) := by decide +kernel
theorem dX7_ask_118 : decode cX7_ask 118 = .ok (.iinc 2 (-1), 3) := by decide +kernel
theorem dX7_ask_121 : decode cX7_ask 121 = .ok (.iconst 1, 1) := by decide +kernel
theorem dX7_ask_122 : decode cX7_ask 122 = .ok (.istore_n 3, 1) := by decide +kernel
theorem dX7_ask_123 : decode cX7_ask 123 = .ok (.goto (-114), 3) := by decide +kernel
theorem dX7_ask_126 : decode cX7_ask 126 = .ok (.iload_n 2, 1) := by decide +kernel
theorem dX7_ask_127 : decode cX7_ask 127 = .ok (.aload_n 0, 1) := by decide +kernel
theorem dX7_ask_128 : decode cX7_ask 128 = .ok (.getfield 32, 3) := by decide +kernel
theorem dX7_ask_131 : decode cX7_ask 131 = .ok (.iload_n 1, 1) := by decide +kernel
theorem dX7_ask_132 : decode cX7_ask 132 = .ok (.iaload, 1) := by decide +kernel
theorem dX7_ask_133 : decode cX7_ask 133 = .ok (.if_icmp .ne 4, 3) := by decide +kernel
theorem dX7_ask_136 : decode cX7_ask 136 = .ok (.return_, 1) := by decide +kernel
theorem dX7_ask_137 : decode cX7_ask 137 = .ok (.iinc 2 1, 3) := by decide +kernel
theorem dX7_ask_140 : decode cX7_ask 140 = .ok (.goto (-131), 3) := by decide +kernel
theorem dX7_ask_143 : decode cX7_ask 143 = .ok (.return_, 1) := by decide +kernel
theorem dX7_run_0 : decode cX7_run 0 = .ok (.aload_n 0, 1) := by decide +kernel
theorem dX7_run_1 : decode cX7_run 1 = .ok (.iconst 0, 1) := by decide +kernel
theorem dX7_run_2 : decode cX7_run 2 = .ok (.putfield 87, 3) := by decide +kernel
theorem dX7_run_5 : decode cX7_run 5 = .ok (.iload_n 1, 1) := by decide +kernel
theorem dX7_run_6 : decode cX7_run 6 = .ok (.invokestatic 105, 3) := by decide +kernel
theorem dX7_run_9 : decode cX7_run 9 = .ok (.ifCond .ne 5, 3) := by decide +kernel
theorem dX7_run_12 : decode cX7_run 12 = .ok (.iconst (-1), 1) := by decide +kernel
theorem dX7_run_13 : decode cX7_run 13 = .ok (.ireturn, 1) := by decide +kernel
theorem dX7_run_14 : decode cX7_run 14 = .ok (.iload_n 2, 1) := by decide +kernel
theorem dX7_run_15 : decode cX7_run 15 = .ok (.i2l, 1) := by decide +kernel
theorem dX7_run_16 : decode cX7_run 16 = .ok (.lconst 0, 1) := by decide +kernel
theorem dX7_run_17 : decode cX7_run 17 = .ok (.ldc2_w 192, 3) := by decide +kernel
theorem dX7_run_20 : decode cX7_run 20 = .ok (.invokestatic 93, 3) := by decide +kernel
theorem dX7_run_23 : decode cX7_run 23 = .ok (.ifCond .ne 6, 3) := by decide +kernel
theorem dX7_run_26 : decode cX7_run 26 = .ok (.bipush (-2), 2) := by decide +kernel
theorem dX7_run_28 : decode cX7_run 28 = .ok (.ireturn, 1) := by decide +kernel
theorem dX7_run_29 : decode cX7_run 29 = .ok (.aload_n 0, 1) := by decide +kernel
theorem dX7_run_30 : decode cX7_run 30 = .ok (.iconst 0, 1) := by decide +kernel
theorem dX7_run_31 : decode cX7_run 31 = .ok (.putfield 124, 3) := by decide +kernel
theorem dX7_run_34 : decode cX7_run 34 = .ok (.aload_n 0, 1) := by decide +kernel
theorem dX7_run_35 : decode cX7_run 35 = .ok (.iconst 0, 1) := by decide +kernel
theorem dX7_run_36 : decode cX7_run 36 = .ok (.putfield 131, 3) := by decide +kernel
theorem dX7_run_39 : decode cX7_run 39 = .ok (.aload_n 0, 1) := by decide +kernel
theorem dX7_run_40 : decode cX7_run 40 = .ok (.iconst 0, 1) := by decide +kernel
theorem dX7_run_41 : decode cX7_run 41 = .ok (.putfield 166, 3) := by decide +kernel
theorem dX7_run_44 : decode cX7_run 44 = .ok (.aload_n 0, 1) := by decide +kernel
theorem dX7_run_45 : decode cX7_run 45 = .ok (.iconst 0, 1) := by decide +kernel
theorem dX7_run_46 : decode cX7_run 46 = .ok (.putfield 180, 3) := by decide +kernel
theorem dX7_run_49 : decode cX7_run 49 = .ok (.aload_n 0, 1) := by decide +kernel
theorem dX7_run_50 : decode cX7_run 50 = .ok (.iconst 0, 1) := by decide +kernel
theorem dX7_run_51 : decode cX7_run 51 = .ok (.putfield 194, 3) := by decide +kernel
theorem dX7_run_54 : decode cX7_run 54 = .ok (.aload_n 0, 1) := by decide +kernel
theorem dX7_run_55 : decode cX7_run 55 = .ok (.iconst 0, 1) := by decide +kernel
theorem dX7_run_56 : decode cX7_run 56 = .ok (.putfield 149, 3) := by decide +kernel
theorem dX7_run_59 : decode cX7_run 59 = .ok (.aload_n 0, 1) := by decide +kernel
theorem dX7_run_60 : decode cX7_run 60 = .ok (.iconst 0, 1) := by decide +kernel
theorem dX7_run_61 : decode cX7_run 61 = .ok (.putfield 145, 3) := by decide +kernel
theorem dX7_run_64 : decode cX7_run 64 = .ok (.iconst 0, 1) := by decide +kernel
theorem dX7_run_65 : decode cX7_run 65 = .ok (.istore_n 3, 1) := by decide +kernel
theorem dX7_run_66 : decode cX7_run 66 = .ok (.iload_n 3, 1) := by decide +kernel
theorem dX7_run_67 : decode cX7_run 67 = .ok (.bipush 11, 2) := by decide +kernel
theorem dX7_run_69 : decode cX7_run 69 = .ok (.if_icmp .ge 44, 3) := by decide +kernel
theorem dX7_run_72 : decode cX7_run 72 = .ok (.aload_n 0, 1) := by decide +kernel
theorem dX7_run_73 : decode cX7_run 73 = .ok (.getfield 66, 3) := by decide +kernel
theorem dX7_run_76 : decode cX7_run 76 = .ok (.iload_n 3, 1) := by decide +kernel
theorem dX7_run_77 : decode cX7_run 77 = .ok (.iconst 0, 1) := by decide +kernel
theorem dX7_run_78 : decode cX7_run 78 = .ok (.bastore, 1) := by decide +kernel
theorem dX7_run_79 : decode cX7_run 79 = .ok (.aload_n 0, 1) := by decide +kernel
theorem dX7_run_80 : decode cX7_run 80 = .ok (.getfield 69, 3) := by decide +kernel
theorem dX7_run_83 : decode cX7_run 83 = .ok (.iload_n 3, 1) := by decide +kernel
theorem dX7_run_84 : decode cX7_run 84 = .ok (.iconst 0, 1) := by decide +kernel
theorem dX7_run_85 : decode cX7_run 85 = .ok (.iastore, 1) := by decide +kernel
theorem dX7_run_86 : decode cX7_run 86 = .ok (.aload_n 0, 1) := by decide +kernel
theorem dX7_run_87 : decode cX7_run 87 = .ok (.getfield 72, 3) := by decide +kernel
theorem dX7_run_90 : decode cX7_run 90 = .ok (.iload_n 3, 1) := by decide +kernel
theorem dX7_run_91 : decode cX7_run 91 = .ok (.iconst (-1), 1) := by decide +kernel
theorem dX7_run_92 : decode cX7_run 92 = .ok (.iastore, 1) := by decide +kernel
theorem dX7_run_93 : decode cX7_run 93 = .ok (.aload_n 0, 1) := by decide +kernel
theorem dX7_run_94 : decode cX7_run 94 = .ok (.getfield 75, 3) := by decide +kernel
theorem dX7_run_97 : decode cX7_run 97 = .ok (.iload_n 3, 1) := by decide +kernel
theorem dX7_run_98 : decode cX7_run 98 = .ok (.iconst 0, 1) := by decide +kernel
theorem dX7_run_99 : decode cX7_run 99 = .ok (.bastore, 1) := by decide +kernel
theorem dX7_run_100 : decode cX7_run 100 = .ok (.aload_n 0, 1) := by decide +kernel
theorem dX7_run_101 : decode cX7_run 101 = .ok (.getfield 78, 3) := by decide +kernel
theorem dX7_run_104 : decode cX7_run 104 = .ok (.iload_n 3, 1) := by decide +kernel
theorem dX7_run_105 : decode cX7_run 105 = .ok (.iconst 0, 1) := by decide +kernel
theorem dX7_run_106 : decode cX7_run 106 = .ok (.iastore, 1) := by decide +kernel
theorem dX7_run_107 : decode cX7_run 107 = .ok (.iinc 3 1, 3) := by decide +kernel
theorem dX7_run_110 : decode cX7_run 110 = .ok (.goto (-44), 3) := by decide +kernel
theorem dX7_run_113 : decode cX7_run 113 = .ok (.aload_n 0, 1) := by decide +kernel
theorem dX7_run_114 : decode cX7_run 114 = .ok (.iload_n 1, 1) := by decide +kernel
theorem dX7_run_115 : decode cX7_run 115 = .ok (.iload_n 2, 1) := by decide +kernel
theorem dX7_run_116 : decode cX7_run 116 = .ok (.invokevirtual 197, 3) := by decide +kernel
theorem dX7_run_119 : decode cX7_run 119 = .ok (.istore_n 3, 1) := by decide +kernel
theorem dX7_run_120 : decode cX7_run 120 = .ok (.aload_n 0, 1) := by decide +kernel
theorem dX7_run_121 : decode cX7_run 121 = .ok (.iconst 1, 1) := by decide +kernel
theorem dX7_run_122 : decode cX7_run 122 = .ok (.putfield 200, 3) := by decide +kernel
theorem dX7_run_125 : decode cX7_run 125 = .ok (.aload_n 0, 1) := by decide +kernel
theorem dX7_run_126 : decode cX7_run 126 = .ok (.dup, 1) := by decide +kernel
theorem dX7_run_127 : decode cX7_run 127 = .ok (.getfield 203, 3) := by decide +kernel
theorem dX7_run_130 : decode cX7_run 130 = .ok (.iconst 1, 1) := by decide +kernel
theorem dX7_run_131 : decode cX7_run 131 = .ok (.iadd, 1) := by decide +kernel
theorem dX7_run_132 : decode cX7_run 132 = .ok (.putfield 203, 3) := by decide +kernel
theorem dX7_run_135 : decode cX7_run 135 = .ok (.aload_n 0, 1) := by decide +kernel
theorem dX7_run_136 : decode cX7_run 136 = .ok (.dup, 1) := by decide +kernel
theorem dX7_run_137 : decode cX7_run 137 = .ok (.getfield 206, 3) := by decide +kernel
theorem dX7_run_140 : decode cX7_run 140 = .ok (.aload_n 0, 1) := by decide +kernel
theorem dX7_run_141 : decode cX7_run 141 = .ok (.getfield 149, 3) := by decide +kernel
theorem dX7_run_144 : decode cX7_run 144 = .ok (.ifCond .gt 10, 3) := by decide +kernel
theorem dX7_run_147 : decode cX7_run 147 = .ok (.aload_n 0, 1) := by decide +kernel
theorem dX7_run_148 : decode cX7_run 148 = .ok (.getfield 145, 3) := by decide +kernel
theorem dX7_run_151 : decode cX7_run 151 = .ok (.ifCond .eq 7, 3) := by decide +kernel
theorem dX7_run_154 : decode cX7_run 154 = .ok (.lconst 0, 1) := by decide +kernel
theorem dX7_run_155 : decode cX7_run 155 = .ok (.goto 8, 3) := by decide +kernel
theorem dX7_run_158 : decode cX7_run 158 = .ok (.aload_n 0, 1) := by decide +kernel
theorem dX7_run_159 : decode cX7_run 159 = .ok (.getfield 166, 3) := by decide +kernel
theorem dX7_run_162 : decode cX7_run 162 = .ok (.i2l, 1) := by decide +kernel
theorem dX7_run_163 : decode cX7_run 163 = .ok (.ladd, 1) := by decide +kernel
theorem dX7_run_164 : decode cX7_run 164 = .ok (.putfield 206, 3) := by decide +kernel
theorem dX7_run_167 : decode cX7_run 167 = .ok (.aload_n 0, 1) := by decide +kernel
theorem dX7_run_168 : decode cX7_run 168 = .ok (.dup, 1) := by decide +kernel
theorem dX7_run_169 : decode cX7_run 169 = .ok (.getfield 210, 3) := by decide +kernel
theorem dX7_run_172 : decode cX7_run 172 = .ok (.aload_n 0, 1) := by decide +kernel
theorem dX7_run_173 : decode cX7_run 173 = .ok (.getfield 149, 3) := by decide +kernel
theorem dX7_run_176 : decode cX7_run 176 = .ok (.ifCond .le 7, 3) := by decide +kernel
theorem dX7_run_179 : decode cX7_run 179 = .ok (.iconst 1, 1) := by decide +kernel
theorem dX7_run_180 : decode cX7_run 180 = .ok (.goto 4, 3) := by decide +kernel
theorem dX7_run_183 : decode cX7_run 183 = .ok (.iconst 0, 1) := by decide +kernel
theorem dX7_run_184 : decode cX7_run 184 = .ok (.iadd, 1) := by decide +kernel
theorem dX7_run_185 : decode cX7_run 185 = .ok (.putfield 210, 3) := by decide +kernel
theorem dX7_run_188 : decode cX7_run 188 = .ok (.aload_n 0, 1) := by decide +kernel
theorem dX7_run_189 : decode cX7_run 189 = .ok (.dup, 1) := by decide +kernel
theorem dX7_run_190 : decode cX7_run 190 = .ok (.getfield 213, 3) := by decide +kernel
theorem dX7_run_193 : decode cX7_run 193 = .ok (.aload_n 0, 1) := by decide +kernel
theorem dX7_run_194 : decode cX7_run 194 = .ok (.getfield 145, 3) := by decide +kernel
theorem dX7_run_197 : decode cX7_run 197 = .ok (.ifCond .eq 7, 3) := by decide +kernel
theorem dX7_run_200 : decode cX7_run 200 = .ok (.iconst 1, 1) := by decide +kernel
theorem dX7_run_201 : decode cX7_run 201 = .ok (.goto 4, 3) := by decide +kernel
theorem dX7_run_204 : decode cX7_run 204 = .ok (.iconst 0, 1) := by decide +kernel
theorem dX7_run_205 : decode cX7_run 205 = .ok (.iadd, 1) := by decide +kernel
theorem dX7_run_206 : decode cX7_run 206 = .ok (.putfield 213, 3) := by decide +kernel
theorem dX7_run_209 : decode cX7_run 209 = .ok (.aload_n 0, 1) := by decide +kernel
theorem dX7_run_210 : decode cX7_run 210 = .ok (.getfield 145, 3) := by decide +kernel
theorem dX7_run_213 : decode cX7_run 213 = .ok (.ifCond .eq 8, 3) := by decide +kernel
theorem dX7_run_216 : decode cX7_run 216 = .ok (.bipush (-20), 2) := by decide +kernel
theorem dX7_run_218 : decode cX7_run 218 = .ok (.goto 21, 3) := by decide +kernel
theorem dX7_run_221 : decode cX7_run 221 = .ok (.aload_n 0, 1) := by decide +kernel
theorem dX7_run_222 : decode cX7_run 222 = .ok (.getfield 149, 3) := by decide +kernel
theorem dX7_run_225 : decode cX7_run 225 = .ok (.ifCond .le 13, 3) := by decide +kernel
theorem dX7_run_228 : decode cX7_run 228 = .ok (.bipush (-10), 2) := by decide +kernel
theorem dX7_run_230 : decode cX7_run 230 = .ok (.aload_n 0, 1) := by decide +kernel
theorem dX7_run_231 : decode cX7_run 231 = .ok (.getfield 149, 3) := by decide +kernel
theorem dX7_run_234 : decode cX7_run 234 = .ok (.isub, 1) := by decide +kernel
theorem dX7_run_235 : decode cX7_run 235 = .ok (.goto 4, 3) := by decide +kernel
theorem dX7_run_238 : decode cX7_run 238 = .ok (.iload_n 3, 1) := by decide +kernel
theorem dX7_run_239 : decode cX7_run 239 = .ok (.ireturn, 1) := by decide +kernel
theorem dX7_ended_0 : decode cX7_ended 0 = .ok (.lconst 0, 1) := by decide +kernel
theorem dX7_ended_1 : decode cX7_ended 1 = .ok (.lstore_n 3, 1) := by decide +kernel
theorem dX7_ended_2 : decode cX7_ended 2 = .ok (.iconst (-1), 1) := by decide +kernel
theorem dX7_ended_3 : decode cX7_ended 3 = .ok (.istore 5, 2) := by decide +kernel
theorem dX7_ended_5 : decode cX7_ended 5 = .ok (.iconst 1, 1) := by decide +kernel
theorem dX7_ended_6 : decode cX7_ended 6 = .ok (.istore 6, 2) := by decide +kernel
theorem dX7_ended_8 : decode cX7_ended 8 = .ok (.iload 6, 2) := by decide +kernel
theorem dX7_ended_10 : decode cX7_ended 10 = .ok (.ifCond .eq 152, 3) := by decide +kernel
theorem dX7_ended_13 : decode cX7_ended 13 = .ok (.aload_n 0, 1) := by decide +kernel
theorem dX7_ended_14 : decode cX7_ended 14 = .ok (.iload_n 1, 1) := by decide +kernel
theorem dX7_ended_15 : decode cX7_ended 15 = .ok (.invokevirtual 216, 3) := by decide +kernel
theorem dX7_ended_18 : decode cX7_ended 18 = .ok (.aload_n 0, 1) := by decide +kernel
theorem dX7_ended_19 : decode cX7_ended 19 = .ok (.invokevirtual 176, 3) := by decide +kernel
theorem dX7_ended_22 : decode cX7_ended 22 = .ok (.ifCond .eq 5, 3) := by decide +kernel
theorem dX7_ended_25 : decode cX7_ended 25 = .ok (.iconst 0, 1) := by decide +kernel
theorem dX7_ended_26 : decode cX7_ended 26 = .ok (.ireturn, 1) := by decide +kernel
theorem dX7_ended_27 : decode cX7_ended 27 = .ok (.aload_n 0, 1) := by decide +kernel
theorem dX7_ended_28 : decode cX7_ended 28 = .ok (.getfield 152, 3) := by decide +kernel
theorem dX7_ended_31 : decode cX7_ended 31 = .ok (.ifCond .lt 7, 3) := by decide +kernel
theorem dX7_ended_34 : decode cX7_ended 34 = .ok (.iconst 1, 1) := by decide +kernel
theorem dX7_ended_35 : decode cX7_ended 35 = .ok (.goto 4, 3) := by decide +kernel
theorem dX7_ended_38 : decode cX7_ended 38 = .ok (.iconst 0, 1) := by decide +kernel
theorem dX7_ended_39 : decode cX7_ended 39 = .ok (.istore 6, 2) := by decide +kernel
theorem dX7_ended_41 : decode cX7_ended 41 = .ok (.iload 6, 2) := by decide +kernel
theorem dX7_ended_43 : decode cX7_ended 43 = .ok (.ifCond .ne 6, 3) := by decide +kernel
theorem dX7_ended_46 : decode cX7_ended 46 = .ok (.goto (-38), 3) := by decide +kernel
theorem dX7_ended_49 : decode cX7_ended 49 = .ok (.aload_n 0, 1) := by decide +kernel
theorem dX7_ended_50 : decode cX7_ended 50 = .ok (.dup, 1) := by decide +kernel
theorem dX7_ended_51 : decode cX7_ended 51 = .ok (.getfield 194, 3) := by decide +kernel
theorem dX7_ended_54 : decode cX7_ended 54 = .ok (.iconst 1, 1) := by decide +kernel
theorem dX7_ended_55 : decode cX7_ended 55 = .ok (.iadd, 1) := by decide +kernel
theorem dX7_ended_56 : decode cX7_ended 56 = .ok (.putfield 194, 3) := by decide +kernel
theorem dX7_ended_59 : decode cX7_ended 59 = .ok (.aload_n 0, 1) := by decide +kernel
theorem dX7_ended_60 : decode cX7_ended 60 = .ok (.getfield 152, 3) := by decide +kernel
theorem dX7_ended_63 : decode cX7_ended 63 = .ok (.istore 5, 2) := by decide +kernel
theorem dX7_ended_65 : decode cX7_ended 65 = .ok (.iload_n 2, 1) := by decide +kernel
theorem dX7_ended_66 : decode cX7_ended 66 = .ok (.iconst 1, 1) := by decide +kernel
theorem dX7_ended_67 : decode cX7_ended 67 = .ok (.if_icmp .eq (-59), 3) := by decide +kernel
theorem dX7_ended_70 : decode cX7_ended 70 = .ok (.iload_n 2, 1) := by decide +kernel
theorem dX7_ended_71 : decode cX7_ended 71 = .ok (.iconst 3, 1) := by decide +kernel
theorem dX7_ended_72 : decode cX7_ended 72 = .ok (.if_icmp .ne 6, 3) := by decide +kernel
theorem dX7_ended_75 : decode cX7_ended 75 = .ok (.goto (-67), 3) := by decide +kernel
theorem dX7_ended_78 : decode cX7_ended 78 = .ok (.aload_n 0, 1) := by decide +kernel
theorem dX7_ended_79 : decode cX7_ended 79 = .ok (.iload 5, 2) := by decide +kernel
theorem dX7_ended_81 : decode cX7_ended 81 = .ok (.invokevirtual 169, 3) := by decide +kernel
theorem dX7_ended_84 : decode cX7_ended 84 = .ok (.ifCond .ne 5, 3) := by decide +kernel
theorem dX7_ended_87 : decode cX7_ended 87 = .ok (.iconst 0, 1) := by decide +kernel
theorem dX7_ended_88 : decode cX7_ended 88 = .ok (.ireturn, 1) := by decide +kernel
theorem dX7_ended_89 : decode cX7_ended 89 = .ok (.aload_n 0, 1) := by decide +kernel
theorem dX7_ended_90 : decode cX7_ended 90 = .ok (.getfield 47, 3) := by decide +kernel
theorem dX7_ended_93 : decode cX7_ended 93 = .ok (.iload 5, 2) := by decide +kernel
theorem dX7_ended_95 : decode cX7_ended 95 = .ok (.laload, 1) := by decide +kernel
theorem dX7_ended_96 : decode cX7_ended 96 = .ok (.lstore 7, 2) := by decide +kernel
theorem dX7_ended_98 : decode cX7_ended 98 = .ok (.iload_n 2, 1) := by decide +kernel
theorem dX7_ended_99 : decode cX7_ended 99 = .ok (.ifCond .ne 10, 3) := by decide +kernel
theorem dX7_ended_102 : decode cX7_ended 102 = .ok (.lload_n 3, 1) := by decide +kernel
theorem dX7_ended_103 : decode cX7_ended 103 = .ok (.lload 7, 2) := by decide +kernel
theorem dX7_ended_105 : decode cX7_ended 105 = .ok (.ladd, 1) := by decide +kernel
theorem dX7_ended_106 : decode cX7_ended 106 = .ok (.goto 27, 3) := by decide +kernel
theorem dX7_ended_109 : decode cX7_ended 109 = .ok (.iload_n 2, 1) := by decide +kernel
theorem dX7_ended_110 : decode cX7_ended 110 = .ok (.iconst 4, 1) := by decide +kernel
theorem dX7_ended_111 : decode cX7_ended 111 = .ok (.if_icmp .ne 20, 3) := by decide +kernel
theorem dX7_ended_114 : decode cX7_ended 114 = .ok (.lload 7, 2) := by decide +kernel
theorem dX7_ended_116 : decode cX7_ended 116 = .ok (.ldc2_w 114, 3) := by decide +kernel
theorem dX7_ended_119 : decode cX7_ended 119 = .ok (.lcmp, 1) := by decide +kernel
theorem dX7_ended_120 : decode cX7_ended 120 = .ok (.ifCond .le 7, 3) := by decide +kernel
theorem dX7_ended_123 : decode cX7_ended 123 = .ok (.lconst 1, 1) := by decide +kernel
theorem dX7_ended_124 : decode cX7_ended 124 = .ok (.goto 9, 3) := by decide +kernel
theorem dX7_ended_127 : decode cX7_ended 127 = .ok (.lconst 0, 1) := by decide +kernel
theorem dX7_ended_128 : decode cX7_ended 128 = .ok (.goto 5, 3) := by decide +kernel
theorem dX7_ended_131 : decode cX7_ended 131 = .ok (.lload 7, 2) := by decide +kernel
theorem dX7_ended_133 : decode cX7_ended 133 = .ok (.lstore_n 3, 1) := by decide +kernel
theorem dX7_ended_134 : decode cX7_ended 134 = .ok (.iload_n 2, 1) := by decide +kernel
theorem dX7_ended_135 : decode cX7_ended 135 = .ok (.ifCond .eq 17, 3) := by decide +kernel
theorem dX7_ended_138 : decode cX7_ended 138 = .ok (.iload_n 2, 1) := by decide +kernel
theorem dX7_ended_139 : decode cX7_ended 139 = .ok (.iconst 4, 1) := by decide +kernel
theorem dX7_ended_140 : decode cX7_ended 140 = .ok (.if_icmp .ne 16, 3) := by decide +kernel
theorem dX7_ended_143 : decode cX7_ended 143 = .ok (.lload 7, 2) := by decide +kernel
theorem dX7_ended_145 : decode cX7_ended 145 = .ok (.ldc2_w 114, 3) := by decide +kernel
theorem dX7_ended_148 : decode cX7_ended 148 = .ok (.lcmp, 1) := by decide +kernel
theorem dX7_ended_149 : decode cX7_ended 149 = .ok (.ifCond .gt 7, 3) := by decide +kernel
theorem dX7_ended_152 : decode cX7_ended 152 = .ok (.iconst 1, 1) := by decide +kernel
theorem dX7_ended_153 : decode cX7_ended 153 = .ok (.goto 4, 3) := by decide +kernel
theorem dX7_ended_156 : decode cX7_ended 156 = .ok (.iconst 0, 1) := by decide +kernel
theorem dX7_ended_157 : decode cX7_ended 157 = .ok (.istore 6, 2) := by decide +kernel
theorem dX7_ended_159 : decode cX7_ended 159 = .ok (.goto (-151), 3) := by decide +kernel
theorem dX7_ended_162 : decode cX7_ended 162 = .ok (.iload_n 2, 1) := by decide +kernel
theorem dX7_ended_163 : decode cX7_ended 163 = .ok (.iconst 2, 1) := by decide +kernel
theorem dX7_ended_164 : decode cX7_ended 164 = .ok (.if_icmp .eq 8, 3) := by decide +kernel
theorem dX7_ended_167 : decode cX7_ended 167 = .ok (.iload_n 2, 1) := by decide +kernel
theorem dX7_ended_168 : decode cX7_ended 168 = .ok (.iconst 3, 1) := by decide +kernel
theorem dX7_ended_169 : decode cX7_ended 169 = .ok (.if_icmp .ne 10, 3) := by decide +kernel
theorem dX7_ended_172 : decode cX7_ended 172 = .ok (.iload 5, 2) := by decide +kernel
theorem dX7_ended_174 : decode cX7_ended 174 = .ok (.ifCond .ge 5, 3) := by decide +kernel
theorem dX7_ended_177 : decode cX7_ended 177 = .ok (.iconst 1, 1) := by decide +kernel
theorem dX7_ended_178 : decode cX7_ended 178 = .ok (.ireturn, 1) := by decide +kernel
theorem dX7_ended_179 : decode cX7_ended 179 = .ok (.iload_n 2, 1) := by decide +kernel
theorem dX7_ended_180 : decode cX7_ended 180 = .ok (.iconst 3, 1) := by decide +kernel
theorem dX7_ended_181 : decode cX7_ended 181 = .ok (.if_icmp .ne 22, 3) := by decide +kernel
theorem dX7_ended_184 : decode cX7_ended 184 = .ok (.aload_n 0, 1) := by decide +kernel
theorem dX7_ended_185 : decode cX7_ended 185 = .ok (.iload 5, 2) := by decide +kernel
theorem dX7_ended_187 : decode cX7_ended 187 = .ok (.invokevirtual 169, 3) := by decide +kernel
theorem dX7_ended_190 : decode cX7_ended 190 = .ok (.ifCond .ne 5, 3) := by decide +kernel
theorem dX7_ended_193 : decode cX7_ended 193 = .ok (.iconst 0, 1) := by decide +kernel
theorem dX7_ended_194 : decode cX7_ended 194 = .ok (.ireturn, 1) := by decide +kernel
theorem dX7_ended_195 : decode cX7_ended 195 = .ok (.aload_n 0, 1) := by decide +kernel
theorem dX7_ended_196 : decode cX7_ended 196 = .ok (.getfield 47, 3) := by decide +kernel
theorem dX7_ended_199 : decode cX7_ended 199 = .ok (.iload 5, 2) := by decide +kernel
theorem dX7_ended_201 : decode cX7_ended 201 = .ok (.laload, 1) := by decide +kernel
theorem dX7_ended_202 : decode cX7_ended 202 = .ok (.lstore_n 3, 1) := by decide +kernel
theorem dX7_ended_203 : decode cX7_ended 203 = .ok (.aload_n 0, 1) := by decide +kernel
theorem dX7_ended_204 : decode cX7_ended 204 = .ok (.iload_n 2, 1) := by decide +kernel
theorem dX7_ended_205 : decode cX7_ended 205 = .ok (.iconst 1, 1) := by decide +kernel
theorem dX7_ended_206 : decode cX7_ended 206 = .ok (.if_icmp .ne 11, 3) := by decide +kernel
theorem dX7_ended_209 : decode cX7_ended 209 = .ok (.aload_n 0, 1) := by decide +kernel
theorem dX7_ended_210 : decode cX7_ended 210 = .ok (.getfield 194, 3) := by decide +kernel
theorem dX7_ended_213 : decode cX7_ended 213 = .ok (.i2l, 1) := by decide +kernel
theorem dX7_ended_214 : decode cX7_ended 214 = .ok (.goto 4, 3) := by decide +kernel
theorem dX7_ended_217 : decode cX7_ended 217 = .ok (.lload_n 3, 1) := by decide +kernel
theorem dX7_ended_218 : decode cX7_ended 218 = .ok (.putfield 219, 3) := by decide +kernel
theorem dX7_ended_221 : decode cX7_ended 221 = .ok (.iconst 0, 1) := by decide +kernel
theorem dX7_ended_222 : decode cX7_ended 222 = .ok (.ireturn, 1) := by decide +kernel
theorem dX7_value_0 : decode cX7_value 0 = .ok (.aload_n 0, 1) := by decide +kernel
theorem dX7_value_1 : decode cX7_value 1 = .ok (.iconst 0, 1) := by decide +kernel
theorem dX7_value_2 : decode cX7_value 2 = .ok (.putfield 87, 3) := by decide +kernel
theorem dX7_value_5 : decode cX7_value 5 = .ok (.aload_n 0, 1) := by decide +kernel
theorem dX7_value_6 : decode cX7_value 6 = .ok (.getfield 219, 3) := by decide +kernel
theorem dX7_value_9 : decode cX7_value 9 = .ok (.lreturn, 1) := by decide +kernel
theorem dX7_ran_0 : decode cX7_ran 0 = .ok (.aload_n 0, 1) := by decide +kernel
theorem dX7_ran_1 : decode cX7_ran 1 = .ok (.iconst 0, 1) := by decide +kernel
theorem dX7_ran_2 : decode cX7_ran 2 = .ok (.putfield 87, 3) := by decide +kernel
theorem dX7_ran_5 : decode cX7_ran 5 = .ok (.iload_n 1, 1) := by decide +kernel
theorem dX7_ran_6 : decode cX7_ran 6 = .ok (.i2l, 1) := by decide +kernel
theorem dX7_ran_7 : decode cX7_ran 7 = .ok (.lconst 0, 1) := by decide +kernel
theorem dX7_ran_8 : decode cX7_ran 8 = .ok (.ldc2_w 101, 3) := by decide +kernel
theorem dX7_ran_11 : decode cX7_ran 11 = .ok (.invokestatic 93, 3) := by decide +kernel
theorem dX7_ran_14 : decode cX7_ran 14 = .ok (.ifCond .ne 6, 3) := by decide +kernel
theorem dX7_ran_17 : decode cX7_ran 17 = .ok (.bipush (-2), 2) := by decide +kernel
theorem dX7_ran_19 : decode cX7_ran 19 = .ok (.ireturn, 1) := by decide +kernel
theorem dX7_ran_20 : decode cX7_ran 20 = .ok (.aload_n 0, 1) := by decide +kernel
theorem dX7_ran_21 : decode cX7_ran 21 = .ok (.getfield 200, 3) := by decide +kernel
theorem dX7_ran_24 : decode cX7_ran 24 = .ok (.ifCond .ne 8, 3) := by decide +kernel
theorem dX7_ran_27 : decode cX7_ran 27 = .ok (.bipush (-3), 2) := by decide +kernel
theorem dX7_ran_29 : decode cX7_ran 29 = .ok (.goto 42, 3) := by decide +kernel
theorem dX7_ran_32 : decode cX7_ran 32 = .ok (.iload_n 1, 1) := by decide +kernel
theorem dX7_ran_33 : decode cX7_ran 33 = .ok (.ifCond .ne 10, 3) := by decide +kernel
theorem dX7_ran_36 : decode cX7_ran 36 = .ok (.aload_n 0, 1) := by decide +kernel
theorem dX7_ran_37 : decode cX7_ran 37 = .ok (.getfield 166, 3) := by decide +kernel
theorem dX7_ran_40 : decode cX7_ran 40 = .ok (.goto 31, 3) := by decide +kernel
theorem dX7_ran_43 : decode cX7_ran 43 = .ok (.iload_n 1, 1) := by decide +kernel
theorem dX7_ran_44 : decode cX7_ran 44 = .ok (.iconst 1, 1) := by decide +kernel
theorem dX7_ran_45 : decode cX7_ran 45 = .ok (.if_icmp .ne 10, 3) := by decide +kernel
theorem dX7_ran_48 : decode cX7_ran 48 = .ok (.aload_n 0, 1) := by decide +kernel
theorem dX7_ran_49 : decode cX7_ran 49 = .ok (.getfield 180, 3) := by decide +kernel
theorem dX7_ran_52 : decode cX7_ran 52 = .ok (.goto 19, 3) := by decide +kernel
theorem dX7_ran_55 : decode cX7_ran 55 = .ok (.iload_n 1, 1) := by decide +kernel
theorem dX7_ran_56 : decode cX7_ran 56 = .ok (.iconst 2, 1) := by decide +kernel
theorem dX7_ran_57 : decode cX7_ran 57 = .ok (.if_icmp .ne 10, 3) := by decide +kernel
theorem dX7_ran_60 : decode cX7_ran 60 = .ok (.aload_n 0, 1) := by decide +kernel
theorem dX7_ran_61 : decode cX7_ran 61 = .ok (.getfield 131, 3) := by decide +kernel
theorem dX7_ran_64 : decode cX7_ran 64 = .ok (.goto 7, 3) := by decide +kernel
theorem dX7_ran_67 : decode cX7_ran 67 = .ok (.aload_n 0, 1) := by decide +kernel
theorem dX7_ran_68 : decode cX7_ran 68 = .ok (.getfield 194, 3) := by decide +kernel
theorem dX7_ran_71 : decode cX7_ran 71 = .ok (.ireturn, 1) := by decide +kernel
theorem dX7_phase_0 : decode cX7_phase 0 = .ok (.aload_n 0, 1) := by decide +kernel
theorem dX7_phase_1 : decode cX7_phase 1 = .ok (.iconst 0, 1) := by decide +kernel
theorem dX7_phase_2 : decode cX7_phase 2 = .ok (.putfield 87, 3) := by decide +kernel
theorem dX7_phase_5 : decode cX7_phase 5 = .ok (.iload_n 1, 1) := by decide +kernel
theorem dX7_phase_6 : decode cX7_phase 6 = .ok (.iconst (-1), 1) := by decide +kernel
theorem dX7_phase_7 : decode cX7_phase 7 = .ok (.if_icmp .ne 10, 3) := by decide +kernel
theorem dX7_phase_10 : decode cX7_phase 10 = .ok (.aload_n 0, 1) := by decide +kernel
theorem dX7_phase_11 : decode cX7_phase 11 = .ok (.iconst 0, 1) := by decide +kernel
theorem dX7_phase_12 : decode cX7_phase 12 = .ok (.putfield 222, 3) := by decide +kernel
theorem dX7_phase_15 : decode cX7_phase 15 = .ok (.iconst 0, 1) := by decide +kernel
theorem dX7_phase_16 : decode cX7_phase 16 = .ok (.ireturn, 1) := by decide +kernel
theorem dX7_phase_17 : decode cX7_phase 17 = .ok (.iload_n 1, 1) := by decide +kernel
theorem dX7_phase_18 : decode cX7_phase 18 = .ok (.i2l, 1) := by decide +kernel
theorem dX7_phase_19 : decode cX7_phase 19 = .ok (.lconst 0, 1) := by decide +kernel
theorem dX7_phase_20 : decode cX7_phase 20 = .ok (.ldc2_w 225, 3) := by decide +kernel
theorem dX7_phase_23 : decode cX7_phase 23 = .ok (.invokestatic 93, 3) := by decide +kernel
theorem dX7_phase_26 : decode cX7_phase 26 = .ok (.ifCond .ne 6, 3) := by decide +kernel
theorem dX7_phase_29 : decode cX7_phase 29 = .ok (.bipush (-2), 2) := by decide +kernel
theorem dX7_phase_31 : decode cX7_phase 31 = .ok (.ireturn, 1) := by decide +kernel
theorem dX7_phase_32 : decode cX7_phase 32 = .ok (.aload_n 0, 1) := by decide +kernel
theorem dX7_phase_33 : decode cX7_phase 33 = .ok (.getfield 222, 3) := by decide +kernel
theorem dX7_phase_36 : decode cX7_phase 36 = .ok (.bipush 8, 2) := by decide +kernel
theorem dX7_phase_38 : decode cX7_phase 38 = .ok (.if_icmp .ne 6, 3) := by decide +kernel
theorem dX7_phase_41 : decode cX7_phase 41 = .ok (.bipush (-4), 2) := by decide +kernel
theorem dX7_phase_43 : decode cX7_phase 43 = .ok (.ireturn, 1) := by decide +kernel
theorem dX7_phase_44 : decode cX7_phase 44 = .ok (.aload_n 0, 1) := by decide +kernel
theorem dX7_phase_45 : decode cX7_phase 45 = .ok (.getfield 84, 3) := by decide +kernel
theorem dX7_phase_48 : decode cX7_phase 48 = .ok (.aload_n 0, 1) := by decide +kernel
theorem dX7_phase_49 : decode cX7_phase 49 = .ok (.getfield 222, 3) := by decide +kernel
theorem dX7_phase_52 : decode cX7_phase 52 = .ok (.iload_n 1, 1) := by decide +kernel
theorem dX7_phase_53 : decode cX7_phase 53 = .ok (.iastore, 1) := by decide +kernel
theorem dX7_phase_54 : decode cX7_phase 54 = .ok (.aload_n 0, 1) := by decide +kernel
theorem dX7_phase_55 : decode cX7_phase 55 = .ok (.dup, 1) := by decide +kernel
theorem dX7_phase_56 : decode cX7_phase 56 = .ok (.getfield 222, 3) := by decide +kernel
theorem dX7_phase_59 : decode cX7_phase 59 = .ok (.iconst 1, 1) := by decide +kernel
theorem dX7_phase_60 : decode cX7_phase 60 = .ok (.iadd, 1) := by decide +kernel
theorem dX7_phase_61 : decode cX7_phase 61 = .ok (.putfield 222, 3) := by decide +kernel
theorem dX7_phase_64 : decode cX7_phase 64 = .ok (.aload_n 0, 1) := by decide +kernel
theorem dX7_phase_65 : decode cX7_phase 65 = .ok (.getfield 222, 3) := by decide +kernel
theorem dX7_phase_68 : decode cX7_phase 68 = .ok (.ireturn, 1) := by decide +kernel
theorem dX7_hasEnd_0 : decode cX7_hasEnd 0 = .ok (.aload_n 0, 1) := by decide +kernel
theorem dX7_hasEnd_1 : decode cX7_hasEnd 1 = .ok (.getfield 20, 3) := by decide +kernel
theorem dX7_hasEnd_4 : decode cX7_hasEnd 4 = .ok (.iload_n 1, 1) := by decide +kernel
theorem dX7_hasEnd_5 : decode cX7_hasEnd 5 = .ok (.iaload, 1) := by decide +kernel
theorem dX7_hasEnd_6 : decode cX7_hasEnd 6 = .ok (.iconst 1, 1) := by decide +kernel
theorem dX7_hasEnd_7 : decode cX7_hasEnd 7 = .ok (.if_icmp .eq 12, 3) := by decide +kernel
theorem dX7_hasEnd_10 : decode cX7_hasEnd 10 = .ok (.aload_n 0, 1) := by decide +kernel
theorem dX7_hasEnd_11 : decode cX7_hasEnd 11 = .ok (.getfield 29, 3) := by decide +kernel
theorem dX7_hasEnd_14 : decode cX7_hasEnd 14 = .ok (.iload_n 1, 1) := by decide +kernel
theorem dX7_hasEnd_15 : decode cX7_hasEnd 15 = .ok (.iaload, 1) := by decide +kernel
theorem dX7_hasEnd_16 : decode cX7_hasEnd 16 = .ok (.ifCond .lt 7, 3) := by decide +kernel
theorem dX7_hasEnd_19 : decode cX7_hasEnd 19 = .ok (.iconst 1, 1) := by decide +kernel
theorem dX7_hasEnd_20 : decode cX7_hasEnd 20 = .ok (.goto 4, 3) := by decide +kernel
theorem dX7_hasEnd_23 : decode cX7_hasEnd 23 = .ok (.iconst 0, 1) := by decide +kernel
theorem dX7_hasEnd_24 : decode cX7_hasEnd 24 = .ok (.istore_n 3, 1) := by decide +kernel
theorem dX7_hasEnd_25 : decode cX7_hasEnd 25 = .ok (.iconst 0, 1) := by decide +kernel
theorem dX7_hasEnd_26 : decode cX7_hasEnd 26 = .ok (.istore 4, 2) := by decide +kernel
theorem dX7_hasEnd_28 : decode cX7_hasEnd 28 = .ok (.iload 4, 2) := by decide +kernel
theorem dX7_hasEnd_30 : decode cX7_hasEnd 30 = .ok (.iload_n 2, 1) := by decide +kernel
theorem dX7_hasEnd_31 : decode cX7_hasEnd 31 = .ok (.if_icmp .ge 38, 3) := by decide +kernel
theorem dX7_hasEnd_34 : decode cX7_hasEnd 34 = .ok (.iload_n 3, 1) := by decide +kernel
theorem dX7_hasEnd_35 : decode cX7_hasEnd 35 = .ok (.ifCond .ne 22, 3) := by decide +kernel
theorem dX7_hasEnd_38 : decode cX7_hasEnd 38 = .ok (.aload_n 0, 1) := by decide +kernel
theorem dX7_hasEnd_39 : decode cX7_hasEnd 39 = .ok (.getfield 38, 3) := by decide +kernel
theorem dX7_hasEnd_42 : decode cX7_hasEnd 42 = .ok (.bipush 40, 2) := by decide +kernel
theorem dX7_hasEnd_44 : decode cX7_hasEnd 44 = .ok (.iload_n 1, 1) := by decide +kernel
theorem dX7_hasEnd_45 : decode cX7_hasEnd 45 = .ok (.imul, 1) := by decide +kernel
theorem dX7_hasEnd_46 : decode cX7_hasEnd 46 = .ok (.iconst 4, 1) := by decide +kernel
theorem dX7_hasEnd_47 : decode cX7_hasEnd 47 = .ok (.iload 4, 2) := by decide +kernel
theorem dX7_hasEnd_49 : decode cX7_hasEnd 49 = .ok (.imul, 1) := by decide +kernel
theorem dX7_hasEnd_50 : decode cX7_hasEnd 50 = .ok (.iadd, 1) := by decide +kernel
theorem dX7_hasEnd_51 : decode cX7_hasEnd 51 = .ok (.iaload, 1) := by decide +kernel
theorem dX7_hasEnd_52 : decode cX7_hasEnd 52 = .ok (.bipush 7, 2) := by decide +kernel
theorem dX7_hasEnd_54 : decode cX7_hasEnd 54 = .ok (.if_icmp .ne 7, 3) := by decide +kernel
theorem dX7_hasEnd_57 : decode cX7_hasEnd 57 = .ok (.iconst 1, 1) := by decide +kernel
theorem dX7_hasEnd_58 : decode cX7_hasEnd 58 = .ok (.goto 4, 3) := by decide +kernel
theorem dX7_hasEnd_61 : decode cX7_hasEnd 61 = .ok (.iconst 0, 1) := by decide +kernel
theorem dX7_hasEnd_62 : decode cX7_hasEnd 62 = .ok (.istore_n 3, 1) := by decide +kernel
theorem dX7_hasEnd_63 : decode cX7_hasEnd 63 = .ok (.iinc 4 1, 3) := by decide +kernel
theorem dX7_hasEnd_66 : decode cX7_hasEnd 66 = .ok (.goto (-38), 3) := by decide +kernel
theorem dX7_hasEnd_69 : decode cX7_hasEnd 69 = .ok (.iload_n 3, 1) := by decide +kernel
theorem dX7_hasEnd_70 : decode cX7_hasEnd 70 = .ok (.ireturn, 1) := by decide +kernel
theorem dX7_reason_0 : decode cX7_reason 0 = .ok (.bipush 10, 2) := by decide +kernel
theorem dX7_reason_2 : decode cX7_reason 2 = .ok (.iload_n 1, 1) := by decide +kernel
theorem dX7_reason_3 : decode cX7_reason 3 = .ok (.imul, 1) := by decide +kernel
theorem dX7_reason_4 : decode cX7_reason 4 = .ok (.iload_n 2, 1) := by decide +kernel
theorem dX7_reason_5 : decode cX7_reason 5 = .ok (.iadd, 1) := by decide +kernel
theorem dX7_reason_6 : decode cX7_reason 6 = .ok (.istore 4, 2) := by decide +kernel
theorem dX7_reason_8 : decode cX7_reason 8 = .ok (.aload_n 0, 1) := by decide +kernel
theorem dX7_reason_9 : decode cX7_reason 9 = .ok (.getfield 38, 3) := by decide +kernel
theorem dX7_reason_12 : decode cX7_reason 12 = .ok (.iconst 4, 1) := by decide +kernel
theorem dX7_reason_13 : decode cX7_reason 13 = .ok (.iload 4, 2) := by decide +kernel
theorem dX7_reason_15 : decode cX7_reason 15 = .ok (.imul, 1) := by decide +kernel
theorem dX7_reason_16 : decode cX7_reason 16 = .ok (.iaload, 1) := by decide +kernel
theorem dX7_reason_17 : decode cX7_reason 17 = .ok (.istore 5, 2) := by decide +kernel
theorem dX7_reason_19 : decode cX7_reason 19 = .ok (.iload_n 3, 1) := by decide +kernel
theorem dX7_reason_20 : decode cX7_reason 20 = .ok (.bipush 7, 2) := by decide +kernel
theorem dX7_reason_22 : decode cX7_reason 22 = .ok (.if_icmp .ne 92, 3) := by decide +kernel
theorem dX7_reason_25 : decode cX7_reason 25 = .ok (.iload 5, 2) := by decide +kernel
theorem dX7_reason_27 : decode cX7_reason 27 = .ok (.ifCond .ne 17, 3) := by decide +kernel
theorem dX7_reason_30 : decode cX7_reason 30 = .ok (.aload_n 0, 1) := by decide +kernel
theorem dX7_reason_31 : decode cX7_reason 31 = .ok (.getfield 41, 3) := by decide +kernel
theorem dX7_reason_34 : decode cX7_reason 34 = .ok (.iconst 4, 1) := by decide +kernel
theorem dX7_reason_35 : decode cX7_reason 35 = .ok (.iload 4, 2) := by decide +kernel
theorem dX7_reason_37 : decode cX7_reason 37 = .ok (.imul, 1) := by decide +kernel
theorem dX7_reason_38 : decode cX7_reason 38 = .ok (.laload, 1) := by decide +kernel
theorem dX7_reason_39 : decode cX7_reason 39 = .ok (.lconst 0, 1) := by decide +kernel
theorem dX7_reason_40 : decode cX7_reason 40 = .ok (.lcmp, 1) := by decide +kernel
theorem dX7_reason_41 : decode cX7_reason 41 = .ok (.ifCond .eq 23, 3) := by decide +kernel
theorem dX7_reason_44 : decode cX7_reason 44 = .ok (.iload 5, 2) := by decide +kernel
theorem dX7_reason_46 : decode cX7_reason 46 = .ok (.iconst 1, 1) := by decide +kernel
theorem dX7_reason_47 : decode cX7_reason 47 = .ok (.if_icmp .ne 21, 3) := by decide +kernel
theorem dX7_reason_50 : decode cX7_reason 50 = .ok (.aload_n 0, 1) := by decide +kernel
theorem dX7_reason_51 : decode cX7_reason 51 = .ok (.getfield 41, 3) := by decide +kernel
theorem dX7_reason_54 : decode cX7_reason 54 = .ok (.iconst 4, 1) := by decide +kernel
theorem dX7_reason_55 : decode cX7_reason 55 = .ok (.iload 4, 2) := by decide +kernel
theorem dX7_reason_57 : decode cX7_reason 57 = .ok (.imul, 1) := by decide +kernel
theorem dX7_reason_58 : decode cX7_reason 58 = .ok (.laload, 1) := by decide +kernel
theorem dX7_reason_59 : decode cX7_reason 59 = .ok (.lconst 1, 1) := by decide +kernel
theorem dX7_reason_60 : decode cX7_reason 60 = .ok (.lcmp, 1) := by decide +kernel
theorem dX7_reason_61 : decode cX7_reason 61 = .ok (.ifCond .ne 7, 3) := by decide +kernel
theorem dX7_reason_64 : decode cX7_reason 64 = .ok (.iconst 1, 1) := by decide +kernel
theorem dX7_reason_65 : decode cX7_reason 65 = .ok (.goto 4, 3) := by decide +kernel
theorem dX7_reason_68 : decode cX7_reason 68 = .ok (.iconst 0, 1) := by decide +kernel
theorem dX7_reason_69 : decode cX7_reason 69 = .ok (.istore 6, 2) := by decide +kernel
theorem dX7_reason_71 : decode cX7_reason 71 = .ok (.iload 6, 2) := by decide +kernel
theorem dX7_reason_73 : decode cX7_reason 73 = .ok (.ifCond .eq 14, 3) := by decide +kernel
theorem dX7_reason_76 : decode cX7_reason 76 = .ok (.aload_n 0, 1) := by decide +kernel
theorem dX7_reason_77 : decode cX7_reason 77 = .ok (.getfield 35, 3) := by decide +kernel
theorem dX7_reason_80 : decode cX7_reason 80 = .ok (.iload 4, 2) := by decide +kernel
theorem dX7_reason_82 : decode cX7_reason 82 = .ok (.iaload, 1) := by decide +kernel
theorem dX7_reason_83 : decode cX7_reason 83 = .ok (.iconst 1, 1) := by decide +kernel
theorem dX7_reason_84 : decode cX7_reason 84 = .ok (.if_icmp .eq 24, 3) := by decide +kernel
theorem dX7_reason_87 : decode cX7_reason 87 = .ok (.iload 5, 2) := by decide +kernel
theorem dX7_reason_89 : decode cX7_reason 89 = .ok (.bipush 8, 2) := by decide +kernel
theorem dX7_reason_91 : decode cX7_reason 91 = .ok (.if_icmp .ne 21, 3) := by decide +kernel
theorem dX7_reason_94 : decode cX7_reason 94 = .ok (.aload_n 0, 1) := by decide +kernel
theorem dX7_reason_95 : decode cX7_reason 95 = .ok (.getfield 41, 3) := by decide +kernel
theorem dX7_reason_98 : decode cX7_reason 98 = .ok (.iconst 4, 1) := by decide +kernel
theorem dX7_reason_99 : decode cX7_reason 99 = .ok (.iload 4, 2) := by decide +kernel
theorem dX7_reason_101 : decode cX7_reason 101 = .ok (.imul, 1) := by decide +kernel
theorem dX7_reason_102 : decode cX7_reason 102 = .ok (.laload, 1) := by decide +kernel
theorem dX7_reason_103 : decode cX7_reason 103 = .ok (.lconst 0, 1) := by decide +kernel
theorem dX7_reason_104 : decode cX7_reason 104 = .ok (.lcmp, 1) := by decide +kernel
theorem dX7_reason_105 : decode cX7_reason 105 = .ok (.ifCond .ne 7, 3) := by decide +kernel
theorem dX7_reason_108 : decode cX7_reason 108 = .ok (.iconst 0, 1) := by decide +kernel
theorem dX7_reason_109 : decode cX7_reason 109 = .ok (.goto 4, 3) := by decide +kernel
theorem dX7_reason_112 : decode cX7_reason 112 = .ok (.iconst 1, 1) := by decide +kernel
theorem dX7_reason_113 : decode cX7_reason 113 = .ok (.ireturn, 1) := by decide +kernel
theorem dX7_reason_114 : decode cX7_reason 114 = .ok (.aload_n 0, 1) := by decide +kernel
theorem dX7_reason_115 : decode cX7_reason 115 = .ok (.getfield 38, 3) := by decide +kernel
theorem dX7_reason_118 : decode cX7_reason 118 = .ok (.iconst 4, 1) := by decide +kernel
theorem dX7_reason_119 : decode cX7_reason 119 = .ok (.iload 4, 2) := by decide +kernel
theorem dX7_reason_121 : decode cX7_reason 121 = .ok (.imul, 1) := by decide +kernel
theorem dX7_reason_122 : decode cX7_reason 122 = .ok (.iconst 4, 1) := by decide +kernel
theorem dX7_reason_123 : decode cX7_reason 123 = .ok (.iadd, 1) := by decide +kernel
theorem dX7_reason_124 : decode cX7_reason 124 = .ok (.iaload, 1) := by decide +kernel
theorem dX7_reason_125 : decode cX7_reason 125 = .ok (.istore 6, 2) := by decide +kernel
theorem dX7_reason_127 : decode cX7_reason 127 = .ok (.iload_n 3, 1) := by decide +kernel
theorem dX7_reason_128 : decode cX7_reason 128 = .ok (.tableswitch 243 0 5 #[40, 83, 144, 164, 184, 210], 40) := by decide +kernel
theorem dX7_reason_168 : decode cX7_reason 168 = .ok (.iload 5, 2) := by decide +kernel
theorem dX7_reason_170 : decode cX7_reason 170 = .ok (.iconst 3, 1) := by decide +kernel
theorem dX7_reason_171 : decode cX7_reason 171 = .ok (.if_icmp .gt 9, 3) := by decide +kernel
theorem dX7_reason_174 : decode cX7_reason 174 = .ok (.iload 6, 2) := by decide +kernel
theorem dX7_reason_176 : decode cX7_reason 176 = .ok (.iconst 3, 1) := by decide +kernel
theorem dX7_reason_177 : decode cX7_reason 177 = .ok (.if_icmp .le 7, 3) := by decide +kernel
theorem dX7_reason_180 : decode cX7_reason 180 = .ok (.iconst 1, 1) := by decide +kernel
theorem dX7_reason_181 : decode cX7_reason 181 = .ok (.goto 29, 3) := by decide +kernel
theorem dX7_reason_184 : decode cX7_reason 184 = .ok (.aload_n 0, 1) := by decide +kernel
theorem dX7_reason_185 : decode cX7_reason 185 = .ok (.getfield 35, 3) := by decide +kernel
theorem dX7_reason_188 : decode cX7_reason 188 = .ok (.iload 4, 2) := by decide +kernel
theorem dX7_reason_190 : decode cX7_reason 190 = .ok (.iaload, 1) := by decide +kernel
theorem dX7_reason_191 : decode cX7_reason 191 = .ok (.aload_n 0, 1) := by decide +kernel
theorem dX7_reason_192 : decode cX7_reason 192 = .ok (.getfield 35, 3) := by decide +kernel
theorem dX7_reason_195 : decode cX7_reason 195 = .ok (.iload 4, 2) := by decide +kernel
theorem dX7_reason_197 : decode cX7_reason 197 = .ok (.iconst 1, 1) := by decide +kernel
theorem dX7_reason_198 : decode cX7_reason 198 = .ok (.iadd, 1) := by decide +kernel
theorem dX7_reason_199 : decode cX7_reason 199 = .ok (.iaload, 1) := by decide +kernel
theorem dX7_reason_200 : decode cX7_reason 200 = .ok (.iadd, 1) := by decide +kernel
theorem dX7_reason_201 : decode cX7_reason 201 = .ok (.iconst 4, 1) := by decide +kernel
theorem dX7_reason_202 : decode cX7_reason 202 = .ok (.if_icmp .le 7, 3) := by decide +kernel
theorem dX7_reason_205 : decode cX7_reason 205 = .ok (.iconst 2, 1) := by decide +kernel
theorem dX7_reason_206 : decode cX7_reason 206 = .ok (.goto 4, 3) := by decide +kernel
theorem dX7_reason_209 : decode cX7_reason 209 = .ok (.iconst 0, 1) := by decide +kernel
theorem dX7_reason_210 : decode cX7_reason 210 = .ok (.ireturn, 1) := by decide +kernel
theorem dX7_reason_211 : decode cX7_reason 211 = .ok (.iload 5, 2) := by decide +kernel
theorem dX7_reason_213 : decode cX7_reason 213 = .ok (.i2l, 1) := by decide +kernel
theorem dX7_reason_214 : decode cX7_reason 214 = .ok (.ldc2_w 192, 3) := by decide +kernel
theorem dX7_reason_217 : decode cX7_reason 217 = .ok (.ldc2_w 227, 3) := by decide +kernel
theorem dX7_reason_220 : decode cX7_reason 220 = .ok (.invokestatic 93, 3) := by decide +kernel
theorem dX7_reason_223 : decode cX7_reason 223 = .ok (.ifCond .eq 18, 3) := by decide +kernel
theorem dX7_reason_226 : decode cX7_reason 226 = .ok (.iload 6, 2) := by decide +kernel
theorem dX7_reason_228 : decode cX7_reason 228 = .ok (.i2l, 1) := by decide +kernel
theorem dX7_reason_229 : decode cX7_reason 229 = .ok (.ldc2_w 192, 3) := by decide +kernel
theorem dX7_reason_232 : decode cX7_reason 232 = .ok (.ldc2_w 227, 3) := by decide +kernel
theorem dX7_reason_235 : decode cX7_reason 235 = .ok (.invokestatic 93, 3) := by decide +kernel
theorem dX7_reason_238 : decode cX7_reason 238 = .ok (.ifCond .ne 7, 3) := by decide +kernel
theorem dX7_reason_241 : decode cX7_reason 241 = .ok (.iconst 1, 1) := by decide +kernel
theorem dX7_reason_242 : decode cX7_reason 242 = .ok (.goto 29, 3) := by decide +kernel
theorem dX7_reason_245 : decode cX7_reason 245 = .ok (.aload_n 0, 1) := by decide +kernel
theorem dX7_reason_246 : decode cX7_reason 246 = .ok (.getfield 35, 3) := by decide +kernel
theorem dX7_reason_249 : decode cX7_reason 249 = .ok (.iload 4, 2) := by decide +kernel
theorem dX7_reason_251 : decode cX7_reason 251 = .ok (.iaload, 1) := by decide +kernel
theorem dX7_reason_252 : decode cX7_reason 252 = .ok (.aload_n 0, 1) := by decide +kernel
