theorem dX7_ticks_257 : decode cX7_ticks 257 = .ok (.aload_n 0, 1) := by decide +kernel
theorem dX7_ticks_258 : decode cX7_ticks 258 = .ok (.invokevirtual 183, 3) := by decide +kernel
theorem dX7_ticks_261 : decode cX7_ticks 261 = .ok (.aload_n 0, 1) := by decide +kernel
theorem dX7_ticks_262 : decode cX7_ticks 262 = .ok (.invokevirtual 186, 3) := by decide +kernel
theorem dX7_ticks_265 : decode cX7_ticks 265 = .ok (.aload_n 0, 1) := by decide +kernel
theorem dX7_ticks_266 : decode cX7_ticks 266 = .ok (.getfield 7, 3) := by decide +kernel
theorem dX7_ticks_269 : decode cX7_ticks 269 = .ok (.sipush 644, 3) := by decide +kernel
theorem dX7_ticks_272 : decode cX7_ticks 272 = .ok (.aload_n 0, 1) := by decide +kernel
theorem dX7_ticks_273 : decode cX7_ticks 273 = .ok (.aload_n 0, 1) := by decide +kernel
theorem dX7_ticks_274 : decode cX7_ticks 274 = .ok (.getfield 7, 3) := by decide +kernel
theorem dX7_ticks_277 : decode cX7_ticks 277 = .ok (.sipush 644, 3) := by decide +kernel
theorem dX7_ticks_280 : decode cX7_ticks 280 = .ok (.laload, 1) := by decide +kernel
theorem dX7_ticks_281 : decode cX7_ticks 281 = .ok (.aload_n 0, 1) := by decide +kernel
theorem dX7_ticks_282 : decode cX7_ticks 282 = .ok (.getfield 19, 3) := by decide +kernel
theorem dX7_ticks_285 : decode cX7_ticks 285 = .ok (.iconst 2, 1) := by decide +kernel
theorem dX7_ticks_286 : decode cX7_ticks 286 = .ok (.iaload, 1) := by decide +kernel
theorem dX7_ticks_287 : decode cX7_ticks 287 = .ok (.i2l, 1) := by decide +kernel
theorem dX7_ticks_288 : decode cX7_ticks 288 = .ok (.lload_n 3, 1) := by decide +kernel
theorem dX7_ticks_289 : decode cX7_ticks 289 = .ok (.aload_n 0, 1) := by decide +kernel
theorem dX7_ticks_290 : decode cX7_ticks 290 = .ok (.getfield 7, 3) := by decide +kernel
theorem dX7_ticks_293 : decode cX7_ticks 293 = .ok (.sipush 642, 3) := by decide +kernel
theorem dX7_ticks_296 : decode cX7_ticks 296 = .ok (.laload, 1) := by decide +kernel
theorem dX7_ticks_297 : decode cX7_ticks 297 = .ok (.ladd, 1) := by decide +kernel
theorem dX7_ticks_298 : decode cX7_ticks 298 = .ok (.lmul, 1) := by decide +kernel
theorem dX7_ticks_299 : decode cX7_ticks 299 = .ok (.ldc2_w 142, 3) := by decide +kernel
theorem dX7_ticks_302 : decode cX7_ticks 302 = .ok (.invokestatic 138, 3) := by decide +kernel
theorem dX7_ticks_305 : decode cX7_ticks 305 = .ok (.sipush 1000, 3) := by decide +kernel
theorem dX7_ticks_308 : decode cX7_ticks 308 = .ok (.aload_n 0, 1) := by decide +kernel
theorem dX7_ticks_309 : decode cX7_ticks 309 = .ok (.getfield 19, 3) := by decide +kernel
theorem dX7_ticks_312 : decode cX7_ticks 312 = .ok (.iconst 3, 1) := by decide +kernel
theorem dX7_ticks_313 : decode cX7_ticks 313 = .ok (.iaload, 1) := by decide +kernel
theorem dX7_ticks_314 : decode cX7_ticks 314 = .ok (.isub, 1) := by decide +kernel
theorem dX7_ticks_315 : decode cX7_ticks 315 = .ok (.invokevirtual 172, 3) := by decide +kernel
theorem dX7_ticks_318 : decode cX7_ticks 318 = .ok (.lastore, 1) := by decide +kernel
theorem dX7_ticks_319 : decode cX7_ticks 319 = .ok (.aload_n 0, 1) := by decide +kernel
theorem dX7_ticks_320 : decode cX7_ticks 320 = .ok (.getfield 7, 3) := by decide +kernel
theorem dX7_ticks_323 : decode cX7_ticks 323 = .ok (.sipush 645, 3) := by decide +kernel
theorem dX7_ticks_326 : decode cX7_ticks 326 = .ok (.aload_n 0, 1) := by decide +kernel
theorem dX7_ticks_327 : decode cX7_ticks 327 = .ok (.aload_n 0, 1) := by decide +kernel
theorem dX7_ticks_328 : decode cX7_ticks 328 = .ok (.getfield 7, 3) := by decide +kernel
theorem dX7_ticks_331 : decode cX7_ticks 331 = .ok (.sipush 645, 3) := by decide +kernel
theorem dX7_ticks_334 : decode cX7_ticks 334 = .ok (.laload, 1) := by decide +kernel
theorem dX7_ticks_335 : decode cX7_ticks 335 = .ok (.aload_n 0, 1) := by decide +kernel
theorem dX7_ticks_336 : decode cX7_ticks 336 = .ok (.getfield 19, 3) := by decide +kernel
theorem dX7_ticks_339 : decode cX7_ticks 339 = .ok (.iconst 5, 1) := by decide +kernel
theorem dX7_ticks_340 : decode cX7_ticks 340 = .ok (.iaload, 1) := by decide +kernel
theorem dX7_ticks_341 : decode cX7_ticks 341 = .ok (.i2l, 1) := by decide +kernel
theorem dX7_ticks_342 : decode cX7_ticks 342 = .ok (.aload_n 0, 1) := by decide +kernel
theorem dX7_ticks_343 : decode cX7_ticks 343 = .ok (.getfield 7, 3) := by decide +kernel
theorem dX7_ticks_346 : decode cX7_ticks 346 = .ok (.sipush 651, 3) := by decide +kernel
theorem dX7_ticks_349 : decode cX7_ticks 349 = .ok (.laload, 1) := by decide +kernel
theorem dX7_ticks_350 : decode cX7_ticks 350 = .ok (.lmul, 1) := by decide +kernel
theorem dX7_ticks_351 : decode cX7_ticks 351 = .ok (.ldc2_w 142, 3) := by decide +kernel
theorem dX7_ticks_354 : decode cX7_ticks 354 = .ok (.invokestatic 138, 3) := by decide +kernel
theorem dX7_ticks_357 : decode cX7_ticks 357 = .ok (.sipush 1000, 3) := by decide +kernel
theorem dX7_ticks_360 : decode cX7_ticks 360 = .ok (.aload_n 0, 1) := by decide +kernel
theorem dX7_ticks_361 : decode cX7_ticks 361 = .ok (.getfield 19, 3) := by decide +kernel
theorem dX7_ticks_364 : decode cX7_ticks 364 = .ok (.bipush 6, 2) := by decide +kernel
theorem dX7_ticks_366 : decode cX7_ticks 366 = .ok (.iaload, 1) := by decide +kernel
theorem dX7_ticks_367 : decode cX7_ticks 367 = .ok (.isub, 1) := by decide +kernel
theorem dX7_ticks_368 : decode cX7_ticks 368 = .ok (.invokevirtual 172, 3) := by decide +kernel
theorem dX7_ticks_371 : decode cX7_ticks 371 = .ok (.lastore, 1) := by decide +kernel
theorem dX7_ticks_372 : decode cX7_ticks 372 = .ok (.aload_n 0, 1) := by decide +kernel
theorem dX7_ticks_373 : decode cX7_ticks 373 = .ok (.getfield 7, 3) := by decide +kernel
theorem dX7_ticks_376 : decode cX7_ticks 376 = .ok (.sipush 640, 3) := by decide +kernel
theorem dX7_ticks_379 : decode cX7_ticks 379 = .ok (.dup2, 1) := by decide +kernel
theorem dX7_ticks_380 : decode cX7_ticks 380 = .ok (.laload, 1) := by decide +kernel
theorem dX7_ticks_381 : decode cX7_ticks 381 = .ok (.lconst 1, 1) := by decide +kernel
theorem dX7_ticks_382 : decode cX7_ticks 382 = .ok (.ladd, 1) := by decide +kernel
theorem dX7_ticks_383 : decode cX7_ticks 383 = .ok (.lastore, 1) := by decide +kernel
theorem dX7_ticks_384 : decode cX7_ticks 384 = .ok (.return_, 1) := by decide +kernel
set_option maxRecDepth 20000 in
theorem ggX7_measures_X7_size : GoodIn wsX7_measures wsX7_size := goodIn_r _ [5] (by decide +kernel) (by decide +kernel)
set_option maxRecDepth 20000 in
theorem gX7_measures_X7_size : GoodIn wsX7_measures (va_wsS RX7 152 yX7_size wsX7_size) := goodIn_app (goodIn_of _ (by decide +kernel)) ggX7_measures_X7_size
theorem dX7_measures_0 : decode cX7_measures 0 = .ok (.aload_n 0, 1) := by decide +kernel
theorem dX7_measures_1 : decode cX7_measures 1 = .ok (.getfield 7, 3) := by decide +kernel
theorem dX7_measures_4 : decode cX7_measures 4 = .ok (.sipush 641, 3) := by decide +kernel
theorem dX7_measures_7 : decode cX7_measures 7 = .ok (.laload, 1) := by decide +kernel
theorem dX7_measures_8 : decode cX7_measures 8 = .ok (.aload_n 0, 1) := by decide +kernel
theorem dX7_measures_9 : decode cX7_measures 9 = .ok (.getfield 7, 3) := by decide +kernel
theorem dX7_measures_12 : decode cX7_measures 12 = .ok (.sipush 655, 3) := by decide +kernel
theorem dX7_measures_15 : decode cX7_measures 15 = .ok (.laload, 1) := by decide +kernel
theorem dX7_measures_16 : decode cX7_measures 16 = .ok (.lcmp, 1) := by decide +kernel
theorem dX7_measures_17 : decode cX7_measures 17 = .ok (.ifCond .lt 23, 3) := by decide +kernel
theorem dX7_measures_20 : decode cX7_measures 20 = .ok (.aload_n 0, 1) := by decide +kernel
theorem dX7_measures_21 : decode cX7_measures 21 = .ok (.getfield 7, 3) := by decide +kernel
theorem dX7_measures_24 : decode cX7_measures 24 = .ok (.sipush 652, 3) := by decide +kernel
theorem dX7_measures_27 : decode cX7_measures 27 = .ok (.laload, 1) := by decide +kernel
theorem dX7_measures_28 : decode cX7_measures 28 = .ok (.aload_n 0, 1) := by decide +kernel
theorem dX7_measures_29 : decode cX7_measures 29 = .ok (.getfield 7, 3) := by decide +kernel
theorem dX7_measures_32 : decode cX7_measures 32 = .ok (.sipush 641, 3) := by decide +kernel
theorem dX7_measures_35 : decode cX7_measures 35 = .ok (.laload, 1) := by decide +kernel
theorem dX7_measures_36 : decode cX7_measures 36 = .ok (.lsub, 1) := by decide +kernel
theorem dX7_measures_37 : decode cX7_measures 37 = .ok (.goto 20, 3) := by decide +kernel
theorem dX7_measures_40 : decode cX7_measures 40 = .ok (.aload_n 0, 1) := by decide +kernel
theorem dX7_measures_41 : decode cX7_measures 41 = .ok (.getfield 7, 3) := by decide +kernel
theorem dX7_measures_44 : decode cX7_measures 44 = .ok (.sipush 641, 3) := by decide +kernel
theorem dX7_measures_47 : decode cX7_measures 47 = .ok (.laload, 1) := by decide +kernel
theorem dX7_measures_48 : decode cX7_measures 48 = .ok (.aload_n 0, 1) := by decide +kernel
theorem dX7_measures_49 : decode cX7_measures 49 = .ok (.getfield 7, 3) := by decide +kernel
theorem dX7_measures_52 : decode cX7_measures 52 = .ok (.sipush 652, 3) := by decide +kernel
theorem dX7_measures_55 : decode cX7_measures 55 = .ok (.laload, 1) := by decide +kernel
theorem dX7_measures_56 : decode cX7_measures 56 = .ok (.lsub, 1) := by decide +kernel
theorem dX7_measures_57 : decode cX7_measures 57 = .ok (.lstore_n 1, 1) := by decide +kernel
theorem dX7_measures_58 : decode cX7_measures 58 = .ok (.aload_n 0, 1) := by decide +kernel
theorem dX7_measures_59 : decode cX7_measures 59 = .ok (.getfield 7, 3) := by decide +kernel
theorem dX7_measures_62 : decode cX7_measures 62 = .ok (.sipush 658, 3) := by decide +kernel
theorem dX7_measures_65 : decode cX7_measures 65 = .ok (.lload_n 1, 1) := by decide +kernel
theorem dX7_measures_66 : decode cX7_measures 66 = .ok (.aload_n 0, 1) := by decide +kernel
theorem dX7_measures_67 : decode cX7_measures 67 = .ok (.getfield 7, 3) := by decide +kernel
theorem dX7_measures_70 : decode cX7_measures 70 = .ok (.sipush 658, 3) := by decide +kernel
theorem dX7_measures_73 : decode cX7_measures 73 = .ok (.laload, 1) := by decide +kernel
theorem dX7_measures_74 : decode cX7_measures 74 = .ok (.lcmp, 1) := by decide +kernel
theorem dX7_measures_75 : decode cX7_measures 75 = .ok (.ifCond .le 7, 3) := by decide +kernel
theorem dX7_measures_78 : decode cX7_measures 78 = .ok (.lload_n 1, 1) := by decide +kernel
theorem dX7_measures_79 : decode cX7_measures 79 = .ok (.goto 11, 3) := by decide +kernel
theorem dX7_measures_82 : decode cX7_measures 82 = .ok (.aload_n 0, 1) := by decide +kernel
theorem dX7_measures_83 : decode cX7_measures 83 = .ok (.getfield 7, 3) := by decide +kernel
theorem dX7_measures_86 : decode cX7_measures 86 = .ok (.sipush 658, 3) := by decide +kernel
theorem dX7_measures_89 : decode cX7_measures 89 = .ok (.laload, 1) := by decide +kernel
theorem dX7_measures_90 : decode cX7_measures 90 = .ok (.lastore, 1) := by decide +kernel
theorem dX7_measures_91 : decode cX7_measures 91 = .ok (.aload_n 0, 1) := by decide +kernel
theorem dX7_measures_92 : decode cX7_measures 92 = .ok (.getfield 7, 3) := by decide +kernel
theorem dX7_measures_95 : decode cX7_measures 95 = .ok (.sipush 656, 3) := by decide +kernel
theorem dX7_measures_98 : decode cX7_measures 98 = .ok (.dup2, 1) := by decide +kernel
theorem dX7_measures_99 : decode cX7_measures 99 = .ok (.laload, 1) := by decide +kernel
theorem dX7_measures_100 : decode cX7_measures 100 = .ok (.aload_n 0, 1) := by decide +kernel
theorem dX7_measures_101 : decode cX7_measures 101 = .ok (.getfield 7, 3) := by decide +kernel
theorem dX7_measures_104 : decode cX7_measures 104 = .ok (.sipush 641, 3) := by decide +kernel
