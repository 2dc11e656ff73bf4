set_option maxRecDepth 20000 in
theorem ggX7_init_X7_is : GoodIn wsX7_init wsX7_is := goodIn_r _ [26, 12, 13, 9, 27, 28, 29, 25, 30, 14, 35, 36, 37, 38, 39, 40, 41, 42, 43, 44, 45, 46, 47, 48, 49, 50, 51, 52] (by decide +kernel) (by decide +kernel)
set_option maxRecDepth 20000 in
theorem gX7_init_X7_is : GoodIn wsX7_init (wsV RX7 44 RX7 yX7_is wsX7_is) := goodIn_app (goodIn_of _ (by decide +kernel)) ggX7_init_X7_is
set_option maxRecDepth 20000 in
theorem ggX7_init_X7_goesOn : GoodIn wsX7_init wsX7_goesOn := goodIn_r _ [34, 27, 28, 29, 25, 30, 14, 35, 36, 37, 38, 39, 40, 41, 42, 43, 44, 45, 46, 47, 48, 49, 50, 51, 52] (by decide +kernel) (by decide +kernel)
set_option maxRecDepth 20000 in
theorem gX7_init_X7_goesOn : GoodIn wsX7_init (wsV RX7 48 RX7 yX7_goesOn wsX7_goesOn) := goodIn_app (goodIn_of _ (by decide +kernel)) ggX7_init_X7_goesOn
theorem dX7_init_0 : decode cX7_init 0 = .ok (.aload_n 0, 1) := by decide +kernel
theorem dX7_init_1 : decode cX7_init 1 = .ok (.invokespecial 1, 3) := by decide +kernel
theorem dX7_init_4 : decode cX7_init 4 = .ok (.aload_n 0, 1) := by decide +kernel
theorem dX7_init_5 : decode cX7_init 5 = .ok (.sipush 681, 3) := by decide +kernel
theorem dX7_init_8 : decode cX7_init 8 = .ok (.newarray .long, 2) := by decide +kernel
theorem dX7_init_10 : decode cX7_init 10 = .ok (.putfield 7, 3) := by decide +kernel
theorem dX7_init_13 : decode cX7_init 13 = .ok (.aload_n 0, 1) := by decide +kernel
theorem dX7_init_14 : decode cX7_init 14 = .ok (.sipush 681, 3) := by decide +kernel
theorem dX7_init_17 : decode cX7_init 17 = .ok (.newarray .long, 2) := by decide +kernel
theorem dX7_init_19 : decode cX7_init 19 = .ok (.putfield 13, 3) := by decide +kernel
theorem dX7_init_22 : decode cX7_init 22 = .ok (.aload_n 0, 1) := by decide +kernel
theorem dX7_init_23 : decode cX7_init 23 = .ok (.sipush 1362, 3) := by decide +kernel
theorem dX7_init_26 : decode cX7_init 26 = .ok (.newarray .long, 2) := by decide +kernel
theorem dX7_init_28 : decode cX7_init 28 = .ok (.putfield 16, 3) := by decide +kernel
theorem dX7_init_31 : decode cX7_init 31 = .ok (.aload_n 0, 1) := by decide +kernel
theorem dX7_init_32 : decode cX7_init 32 = .ok (.bipush 15, 2) := by decide +kernel
theorem dX7_init_34 : decode cX7_init 34 = .ok (.newarray .int, 2) := by decide +kernel
theorem dX7_init_36 : decode cX7_init 36 = .ok (.putfield 19, 3) := by decide +kernel
theorem dX7_init_39 : decode cX7_init 39 = .ok (.aload_n 0, 1) := by decide +kernel
theorem dX7_init_40 : decode cX7_init 40 = .ok (.bipush 15, 2) := by decide +kernel
theorem dX7_init_42 : decode cX7_init 42 = .ok (.newarray .int, 2) := by decide +kernel
theorem dX7_init_44 : decode cX7_init 44 = .ok (.putfield 23, 3) := by decide +kernel
theorem dX7_init_47 : decode cX7_init 47 = .ok (.aload_n 0, 1) := by decide +kernel
theorem dX7_init_48 : decode cX7_init 48 = .ok (.bipush 90, 2) := by decide +kernel
theorem dX7_init_50 : decode cX7_init 50 = .ok (.newarray .int, 2) := by decide +kernel
theorem dX7_init_52 : decode cX7_init 52 = .ok (.putfield 26, 3) := by decide +kernel
theorem dX7_init_55 : decode cX7_init 55 = .ok (.aload_n 0, 1) := by decide +kernel
theorem dX7_init_56 : decode cX7_init 56 = .ok (.bipush 15, 2) := by decide +kernel
theorem dX7_init_58 : decode cX7_init 58 = .ok (.newarray .int, 2) := by decide +kernel
theorem dX7_init_60 : decode cX7_init 60 = .ok (.putfield 29, 3) := by decide +kernel
theorem dX7_init_63 : decode cX7_init 63 = .ok (.aload_n 0, 1) := by decide +kernel
theorem dX7_init_64 : decode cX7_init 64 = .ok (.bipush 15, 2) := by decide +kernel
theorem dX7_init_66 : decode cX7_init 66 = .ok (.newarray .int, 2) := by decide +kernel
theorem dX7_init_68 : decode cX7_init 68 = .ok (.putfield 32, 3) := by decide +kernel
theorem dX7_init_71 : decode cX7_init 71 = .ok (.aload_n 0, 1) := by decide +kernel
theorem dX7_init_72 : decode cX7_init 72 = .ok (.sipush 135, 3) := by decide +kernel
theorem dX7_init_75 : decode cX7_init 75 = .ok (.newarray .int, 2) := by decide +kernel
theorem dX7_init_77 : decode cX7_init 77 = .ok (.putfield 35, 3) := by decide +kernel
theorem dX7_init_80 : decode cX7_init 80 = .ok (.aload_n 0, 1) := by decide +kernel
theorem dX7_init_81 : decode cX7_init 81 = .ok (.bipush 80, 2) := by decide +kernel
theorem dX7_init_83 : decode cX7_init 83 = .ok (.newarray .int, 2) := by decide +kernel
theorem dX7_init_85 : decode cX7_init 85 = .ok (.putfield 38, 3) := by decide +kernel
theorem dX7_init_88 : decode cX7_init 88 = .ok (.aload_n 0, 1) := by decide +kernel
theorem dX7_init_89 : decode cX7_init 89 = .ok (.sipush 232, 3) := by decide +kernel
theorem dX7_init_92 : decode cX7_init 92 = .ok (.newarray .long, 2) := by decide +kernel
theorem dX7_init_94 : decode cX7_init 94 = .ok (.putfield 41, 3) := by decide +kernel
theorem dX7_init_97 : decode cX7_init 97 = .ok (.aload_n 0, 1) := by decide +kernel
theorem dX7_init_98 : decode cX7_init 98 = .ok (.iconst 0, 1) := by decide +kernel
theorem dX7_init_99 : decode cX7_init 99 = .ok (.iconst 0, 1) := by decide +kernel
theorem dX7_init_100 : decode cX7_init 100 = .ok (.sipush 20000, 3) := by decide +kernel
theorem dX7_init_103 : decode cX7_init 103 = .ok (.sipush 1000, 3) := by decide +kernel
theorem dX7_init_106 : decode cX7_init 106 = .ok (.bipush 107, 2) := by decide +kernel
theorem dX7_init_108 : decode cX7_init 108 = .ok (.bipush 112, 2) := by decide +kernel
theorem dX7_init_110 : decode cX7_init 110 = .ok (.iconst 0, 1) := by decide +kernel
theorem dX7_init_111 : decode cX7_init 111 = .ok (.iconst 0, 1) := by decide +kernel
theorem dX7_init_112 : decode cX7_init 112 = .ok (.invokevirtual 44, 3) := by decide +kernel
theorem dX7_init_115 : decode cX7_init 115 = .ok (.aload_n 0, 1) := by decide +kernel
theorem dX7_init_116 : decode cX7_init 116 = .ok (.iconst 1, 1) := by decide +kernel
theorem dX7_init_117 : decode cX7_init 117 = .ok (.iconst 0, 1) := by decide +kernel
theorem dX7_init_118 : decode cX7_init 118 = .ok (.sipush 20000, 3) := by decide +kernel
theorem dX7_init_121 : decode cX7_init 121 = .ok (.bipush 100, 2) := by decide +kernel
theorem dX7_init_123 : decode cX7_init 123 = .ok (.bipush 107, 2) := by decide +kernel
theorem dX7_init_125 : decode cX7_init 125 = .ok (.bipush 105, 2) := by decide +kernel
theorem dX7_init_127 : decode cX7_init 127 = .ok (.iconst 0, 1) := by decide +kernel
theorem dX7_init_128 : decode cX7_init 128 = .ok (.iconst 0, 1) := by decide +kernel
theorem dX7_init_129 : decode cX7_init 129 = .ok (.invokevirtual 44, 3) := by decide +kernel
theorem dX7_init_132 : decode cX7_init 132 = .ok (.aload_n 0, 1) := by decide +kernel
theorem dX7_init_133 : decode cX7_init 133 = .ok (.iconst 2, 1) := by decide +kernel
theorem dX7_init_134 : decode cX7_init 134 = .ok (.sipush (-5000), 3) := by decide +kernel
theorem dX7_init_137 : decode cX7_init 137 = .ok (.sipush 5000, 3) := by decide +kernel
theorem dX7_init_140 : decode cX7_init 140 = .ok (.sipush 1000, 3) := by decide +kernel
theorem dX7_init_143 : decode cX7_init 143 = .ok (.bipush 103, 2) := by decide +kernel
theorem dX7_init_145 : decode cX7_init 145 = .ok (.bipush 97, 2) := by decide +kernel
theorem dX7_init_147 : decode cX7_init 147 = .ok (.bipush 105, 2) := by decide +kernel
theorem dX7_init_149 : decode cX7_init 149 = .ok (.bipush 110, 2) := by decide +kernel
theorem dX7_init_151 : decode cX7_init 151 = .ok (.invokevirtual 44, 3) := by decide +kernel
theorem dX7_init_154 : decode cX7_init 154 = .ok (.aload_n 0, 1) := by decide +kernel
theorem dX7_init_155 : decode cX7_init 155 = .ok (.iconst 3, 1) := by decide +kernel
theorem dX7_init_156 : decode cX7_init 156 = .ok (.iconst 0, 1) := by decide +kernel
theorem dX7_init_157 : decode cX7_init 157 = .ok (.sipush 999, 3) := by decide +kernel
theorem dX7_init_160 : decode cX7_init 160 = .ok (.sipush 800, 3) := by decide +kernel
theorem dX7_init_163 : decode cX7_init 163 = .ok (.bipush 108, 2) := by decide +kernel
theorem dX7_init_165 : decode cX7_init 165 = .ok (.bipush 97, 2) := by decide +kernel
theorem dX7_init_167 : decode cX7_init 167 = .ok (.bipush 103, 2) := by decide +kernel
theorem dX7_init_169 : decode cX7_init 169 = .ok (.iconst 0, 1) := by decide +kernel
theorem dX7_init_170 : decode cX7_init 170 = .ok (.invokevirtual 44, 3) := by decide +kernel
theorem dX7_init_173 : decode cX7_init 173 = .ok (.aload_n 0, 1) := by decide +kernel
theorem dX7_init_174 : decode cX7_init 174 = .ok (.iconst 4, 1) := by decide +kernel
theorem dX7_init_175 : decode cX7_init 175 = .ok (.iconst 0, 1) := by decide +kernel
theorem dX7_init_176 : decode cX7_init 176 = .ok (.sipush 300, 3) := by decide +kernel
theorem dX7_init_179 : decode cX7_init 179 = .ok (.bipush 50, 2) := by decide +kernel
theorem dX7_init_181 : decode cX7_init 181 = .ok (.bipush 100, 2) := by decide +kernel
theorem dX7_init_183 : decode cX7_init 183 = .ok (.bipush 101, 2) := by decide +kernel
theorem dX7_init_185 : decode cX7_init 185 = .ok (.bipush 97, 2) := by decide +kernel
theorem dX7_init_187 : decode cX7_init 187 = .ok (.bipush 100, 2) := by decide +kernel
theorem dX7_init_189 : decode cX7_init 189 = .ok (.invokevirtual 44, 3) := by decide +kernel
theorem dX7_init_192 : decode cX7_init 192 = .ok (.aload_n 0, 1) := by decide +kernel
theorem dX7_init_193 : decode cX7_init 193 = .ok (.iconst 5, 1) := by decide +kernel
theorem dX7_init_194 : decode cX7_init 194 = .ok (.sipush (-5000), 3) := by decide +kernel
theorem dX7_init_197 : decode cX7_init 197 = .ok (.sipush 5000, 3) := by decide +kernel
theorem dX7_init_200 : decode cX7_init 200 = .ok (.sipush 1000, 3) := by decide +kernel
theorem dX7_init_203 : decode cX7_init 203 = .ok (.bipush 109, 2) := by decide +kernel
theorem dX7_init_205 : decode cX7_init 205 = .ok (.bipush 103, 2) := by decide +kernel
theorem dX7_init_207 : decode cX7_init 207 = .ok (.bipush 97, 2) := by decide +kernel
theorem dX7_init_209 : decode cX7_init 209 = .ok (.bipush 105, 2) := by decide +kernel
theorem dX7_init_211 : decode cX7_init 211 = .ok (.invokevirtual 44, 3) := by decide +kernel
theorem dX7_init_214 : decode cX7_init 214 = .ok (.aload_n 0, 1) := by decide +kernel
theorem dX7_init_215 : decode cX7_init 215 = .ok (.iconst 5, 1) := by decide +kernel
theorem dX7_init_216 : decode cX7_init 216 = .ok (.bipush 110, 2) := by decide +kernel
theorem dX7_init_218 : decode cX7_init 218 = .ok (.iconst 0, 1) := by decide +kernel
theorem dX7_init_219 : decode cX7_init 219 = .ok (.iconst 0, 1) := by decide +kernel
theorem dX7_init_220 : decode cX7_init 220 = .ok (.iconst 0, 1) := by decide +kernel
theorem dX7_init_221 : decode cX7_init 221 = .ok (.invokevirtual 48, 3) := by decide +kernel
theorem dX7_init_224 : decode cX7_init 224 = .ok (.aload_n 0, 1) := by decide +kernel
theorem dX7_init_225 : decode cX7_init 225 = .ok (.bipush 6, 2) := by decide +kernel
theorem dX7_init_227 : decode cX7_init 227 = .ok (.iconst 0, 1) := by decide +kernel
theorem dX7_init_228 : decode cX7_init 228 = .ok (.sipush 999, 3) := by decide +kernel
theorem dX7_init_231 : decode cX7_init 231 = .ok (.sipush 800, 3) := by decide +kernel
theorem dX7_init_234 : decode cX7_init 234 = .ok (.bipush 109, 2) := by decide +kernel
theorem dX7_init_236 : decode cX7_init 236 = .ok (.bipush 108, 2) := by decide +kernel
theorem dX7_init_238 : decode cX7_init 238 = .ok (.bipush 97, 2) := by decide +kernel
theorem dX7_init_240 : decode cX7_init 240 = .ok (.bipush 103, 2) := by decide +kernel
theorem dX7_init_242 : decode cX7_init 242 = .ok (.invokevirtual 44, 3) := by decide +kernel
theorem dX7_init_245 : decode cX7_init 245 = .ok (.aload_n 0, 1) := by decide +kernel
theorem dX7_init_246 : decode cX7_init 246 = .ok (.bipush 7, 2) := by decide +kernel
theorem dX7_init_248 : decode cX7_init 248 = .ok (.iconst 0, 1) := by decide +kernel
theorem dX7_init_249 : decode cX7_init 249 = .ok (.sipush 300, 3) := by decide +kernel
theorem dX7_init_252 : decode cX7_init 252 = .ok (.bipush 50, 2) := by decide +kernel
theorem dX7_init_254 : decode cX7_init 254 = .ok (.bipush 109, 2) := by decide +kernel
theorem dX7_init_256 : decode cX7_init 256 = .ok (.bipush 100, 2) := by decide +kernel
theorem dX7_init_258 : decode cX7_init 258 = .ok (.bipush 101, 2) := by decide +kernel
theorem dX7_init_260 : decode cX7_init 260 = .ok (.bipush 97, 2) := by decide +kernel
theorem dX7_init_262 : decode cX7_init 262 = .ok (.invokevirtual 44, 3) := by decide +kernel
theorem dX7_init_265 : decode cX7_init 265 = .ok (.aload_n 0, 1) := by decide +kernel
theorem dX7_init_266 : decode cX7_init 266 = .ok (.bipush 7, 2) := by decide +kernel
theorem dX7_init_268 : decode cX7_init 268 = .ok (.bipush 100, 2) := by decide +kernel
theorem dX7_init_270 : decode cX7_init 270 = .ok (.iconst 0, 1) := by decide +kernel
theorem dX7_init_271 : decode cX7_init 271 = .ok (.iconst 0, 1) := by decide +kernel
theorem dX7_init_272 : decode cX7_init 272 = .ok (.iconst 0, 1) := by decide +kernel
theorem dX7_init_273 : decode cX7_init 273 = .ok (.invokevirtual 48, 3) := by decide +kernel
theorem dX7_init_276 : decode cX7_init 276 = .ok (.aload_n 0, 1) := by decide +kernel
theorem dX7_init_277 : decode cX7_init 277 = .ok (.bipush 8, 2) := by decide +kernel
theorem dX7_init_279 : decode cX7_init 279 = .ok (.iconst 0, 1) := by decide +kernel
theorem dX7_init_280 : decode cX7_init 280 = .ok (.sipush 999, 3) := by decide +kernel
theorem dX7_init_283 : decode cX7_init 283 = .ok (.iconst 0, 1) := by decide +kernel
theorem dX7_init_284 : decode cX7_init 284 = .ok (.bipush 102, 2) := by decide +kernel
theorem dX7_init_286 : decode cX7_init 286 = .ok (.bipush 105, 2) := by decide +kernel
theorem dX7_init_288 : decode cX7_init 288 = .ok (.bipush 108, 2) := by decide +kernel
theorem dX7_init_290 : decode cX7_init 290 = .ok (.bipush 116, 2) := by decide +kernel
theorem dX7_init_292 : decode cX7_init 292 = .ok (.invokevirtual 44, 3) := by decide +kernel
theorem dX7_init_295 : decode cX7_init 295 = .ok (.aload_n 0, 1) := by decide +kernel
theorem dX7_init_296 : decode cX7_init 296 = .ok (.bipush 8, 2) := by decide +kernel
theorem dX7_init_298 : decode cX7_init 298 = .ok (.bipush 101, 2) := by decide +kernel
theorem dX7_init_300 : decode cX7_init 300 = .ok (.bipush 114, 2) := by decide +kernel
theorem dX7_init_302 : decode cX7_init 302 = .ok (.iconst 0, 1) := by decide +kernel
theorem dX7_init_303 : decode cX7_init 303 = .ok (.iconst 0, 1) := by decide +kernel
theorem dX7_init_304 : decode cX7_init 304 = .ok (.invokevirtual 48, 3) := by decide +kernel
theorem dX7_init_307 : decode cX7_init 307 = .ok (.aload_n 0, 1) := by decide +kernel
theorem dX7_init_308 : decode cX7_init 308 = .ok (.bipush 9, 2) := by decide +kernel
theorem dX7_init_310 : decode cX7_init 310 = .ok (.ldc 52, 2) := by decide +kernel
theorem dX7_init_312 : decode cX7_init 312 = .ok (.iconst 0, 1) := by decide +kernel
theorem dX7_init_313 : decode cX7_init 313 = .ok (.ldc 53, 2) := by decide +kernel
theorem dX7_init_315 : decode cX7_init 315 = .ok (.bipush 117, 2) := by decide +kernel
theorem dX7_init_317 : decode cX7_init 317 = .ok (.bipush 109, 2) := by decide +kernel
theorem dX7_init_319 : decode cX7_init 319 = .ok (.bipush 105, 2) := by decide +kernel
theorem dX7_init_321 : decode cX7_init 321 = .ok (.bipush 110, 2) := by decide +kernel
theorem dX7_init_323 : decode cX7_init 323 = .ok (.invokevirtual 44, 3) := by decide +kernel
theorem dX7_init_326 : decode cX7_init 326 = .ok (.aload_n 0, 1) := by decide +kernel
theorem dX7_init_327 : decode cX7_init 327 = .ok (.bipush 10, 2) := by decide +kernel
theorem dX7_init_329 : decode cX7_init 329 = .ok (.iconst 0, 1) := by decide +kernel
theorem dX7_init_330 : decode cX7_init 330 = .ok (.ldc 54, 2) := by decide +kernel
theorem dX7_init_332 : decode cX7_init 332 = .ok (.ldc 55, 2) := by decide +kernel
theorem dX7_init_334 : decode cX7_init 334 = .ok (.bipush 117, 2) := by decide +kernel
theorem dX7_init_336 : decode cX7_init 336 = .ok (.bipush 109, 2) := by decide +kernel
theorem dX7_init_338 : decode cX7_init 338 = .ok (.bipush 97, 2) := by decide +kernel
theorem dX7_init_340 : decode cX7_init 340 = .ok (.bipush 120, 2) := by decide +kernel
theorem dX7_init_342 : decode cX7_init 342 = .ok (.invokevirtual 44, 3) := by decide +kernel
theorem dX7_init_345 : decode cX7_init 345 = .ok (.aload_n 0, 1) := by decide +kernel
theorem dX7_init_346 : decode cX7_init 346 = .ok (.bipush 11, 2) := by decide +kernel
theorem dX7_init_348 : decode cX7_init 348 = .ok (.iconst 1, 1) := by decide +kernel
theorem dX7_init_349 : decode cX7_init 349 = .ok (.ldc 56, 2) := by decide +kernel
theorem dX7_init_351 : decode cX7_init 351 = .ok (.ldc 56, 2) := by decide +kernel
theorem dX7_init_353 : decode cX7_init 353 = .ok (.bipush 114, 2) := by decide +kernel
theorem dX7_init_355 : decode cX7_init 355 = .ok (.bipush 97, 2) := by decide +kernel
theorem dX7_init_357 : decode cX7_init 357 = .ok (.bipush 116, 2) := by decide +kernel
theorem dX7_init_359 : decode cX7_init 359 = .ok (.bipush 101, 2) := by decide +kernel
theorem dX7_init_361 : decode cX7_init 361 = .ok (.invokevirtual 44, 3) := by decide +kernel
theorem dX7_init_364 : decode cX7_init 364 = .ok (.aload_n 0, 1) := by decide +kernel
theorem dX7_init_365 : decode cX7_init 365 = .ok (.bipush 12, 2) := by decide +kernel
theorem dX7_init_367 : decode cX7_init 367 = .ok (.iconst 0, 1) := by decide +kernel
theorem dX7_init_368 : decode cX7_init 368 = .ok (.ldc 54, 2) := by decide +kernel
theorem dX7_init_370 : decode cX7_init 370 = .ok (.sipush 5000, 3) := by decide +kernel
theorem dX7_init_373 : decode cX7_init 373 = .ok (.bipush 108, 2) := by decide +kernel
theorem dX7_init_375 : decode cX7_init 375 = .ok (.bipush 105, 2) := by decide +kernel
theorem dX7_init_377 : decode cX7_init 377 = .ok (.bipush 109, 2) := by decide +kernel
theorem dX7_init_379 : decode cX7_init 379 = .ok (.bipush 105, 2) := by decide +kernel
theorem dX7_init_381 : decode cX7_init 381 = .ok (.invokevirtual 44, 3) := by decide +kernel
theorem dX7_init_384 : decode cX7_init 384 = .ok (.aload_n 0, 1) := by decide +kernel
theorem dX7_init_385 : decode cX7_init 385 = .ok (.bipush 12, 2) := by decide +kernel
theorem dX7_init_387 : decode cX7_init 387 = .ok (.bipush 116, 2) := by decide +kernel
theorem dX7_init_389 : decode cX7_init 389 = .ok (.iconst 0, 1) := by decide +kernel
theorem dX7_init_390 : decode cX7_init 390 = .ok (.iconst 0, 1) := by decide +kernel
theorem dX7_init_391 : decode cX7_init 391 = .ok (.iconst 0, 1) := by decide +kernel
theorem dX7_init_392 : decode cX7_init 392 = .ok (.invokevirtual 48, 3) := by decide +kernel
theorem dX7_init_395 : decode cX7_init 395 = .ok (.aload_n 0, 1) := by decide +kernel
theorem dX7_init_396 : decode cX7_init 396 = .ok (.bipush 13, 2) := by decide +kernel
theorem dX7_init_398 : decode cX7_init 398 = .ok (.iconst 1, 1) := by decide +kernel
theorem dX7_init_399 : decode cX7_init 399 = .ok (.bipush 50, 2) := by decide +kernel
theorem dX7_init_401 : decode cX7_init 401 = .ok (.iconst 5, 1) := by decide +kernel
theorem dX7_init_402 : decode cX7_init 402 = .ok (.bipush 112, 2) := by decide +kernel
theorem dX7_init_404 : decode cX7_init 404 = .ok (.bipush 97, 2) := by decide +kernel
theorem dX7_init_406 : decode cX7_init 406 = .ok (.bipush 116, 2) := by decide +kernel
theorem dX7_init_408 : decode cX7_init 408 = .ok (.bipush 105, 2) := by decide +kernel
theorem dX7_init_410 : decode cX7_init 410 = .ok (.invokevirtual 44, 3) := by decide +kernel
theorem dX7_init_413 : decode cX7_init 413 = .ok (.aload_n 0, 1) := by decide +kernel
theorem dX7_init_414 : decode cX7_init 414 = .ok (.bipush 13, 2) := by decide +kernel
theorem dX7_init_416 : decode cX7_init 416 = .ok (.bipush 101, 2) := by decide +kernel
theorem dX7_init_418 : decode cX7_init 418 = .ok (.bipush 110, 2) := by decide +kernel
theorem dX7_init_420 : decode cX7_init 420 = .ok (.bipush 99, 2) := by decide +kernel
theorem dX7_init_422 : decode cX7_init 422 = .ok (.bipush 101, 2) := by decide +kernel
theorem dX7_init_424 : decode cX7_init 424 = .ok (.invokevirtual 48, 3) := by decide +kernel
theorem dX7_init_427 : decode cX7_init 427 = .ok (.aload_n 0, 1) := by decide +kernel
theorem dX7_init_428 : decode cX7_init 428 = .ok (.bipush 14, 2) := by decide +kernel
theorem dX7_init_430 : decode cX7_init 430 = .ok (.iconst 0, 1) := by decide +kernel
theorem dX7_init_431 : decode cX7_init 431 = .ok (.sipush 1000, 3) := by decide +kernel
theorem dX7_init_434 : decode cX7_init 434 = .ok (.iconst 0, 1) := by decide +kernel
theorem dX7_init_435 : decode cX7_init 435 = .ok (.bipush 110, 2) := by decide +kernel
theorem dX7_init_437 : decode cX7_init 437 = .ok (.bipush 111, 2) := by decide +kernel
theorem dX7_init_439 : decode cX7_init 439 = .ok (.bipush 105, 2) := by decide +kernel
theorem dX7_init_441 : decode cX7_init 441 = .ok (.bipush 115, 2) := by decide +kernel
theorem dX7_init_443 : decode cX7_init 443 = .ok (.invokevirtual 44, 3) := by decide +kernel
theorem dX7_init_446 : decode cX7_init 446 = .ok (.aload_n 0, 1) := by decide +kernel
theorem dX7_init_447 : decode cX7_init 447 = .ok (.bipush 14, 2) := by decide +kernel
theorem dX7_init_449 : decode cX7_init 449 = .ok (.bipush 101, 2) := by decide +kernel
theorem dX7_init_451 : decode cX7_init 451 = .ok (.iconst 0, 1) := by decide +kernel
theorem dX7_init_452 : decode cX7_init 452 = .ok (.iconst 0, 1) := by decide +kernel
theorem dX7_init_453 : decode cX7_init 453 = .ok (.iconst 0, 1) := by decide +kernel
theorem dX7_init_454 : decode cX7_init 454 = .ok (.invokevirtual 48, 3) := by decide +kernel
theorem dX7_init_457 : decode cX7_init 457 = .ok (.return_, 1) := by decide +kernel
set_option maxRecDepth 20000 in
theorem ggX7_is_X7_lettersAre : GoodIn wsX7_is wsX7_lettersAre := goodIn_r _ [8, 9, 10, 11, 12, 13, 14, 15, 16, 17, 18, 19, 20, 21, 22, 23, 24, 25, 26, 27] (by decide +kernel) (by decide +kernel)
set_option maxRecDepth 20000 in
theorem gX7_is_X7_lettersAre : GoodIn wsX7_is (wsV RX7 57 RX7 yX7_lettersAre wsX7_lettersAre) := goodIn_app (goodIn_of _ (by decide +kernel)) ggX7_is_X7_lettersAre
theorem dX7_is_0 : decode cX7_is 0 = .ok (.aload_n 0, 1) := by decide +kernel
theorem dX7_is_1 : decode cX7_is 1 = .ok (.getfield 29, 3) := by decide +kernel
theorem dX7_is_4 : decode cX7_is 4 = .ok (.iload_n 1, 1) := by decide +kernel
theorem dX7_is_5 : decode cX7_is 5 = .ok (.iload_n 2, 1) := by decide +kernel
theorem dX7_is_6 : decode cX7_is 6 = .ok (.iastore, 1) := by decide +kernel
theorem dX7_is_7 : decode cX7_is 7 = .ok (.aload_n 0, 1) := by decide +kernel
theorem dX7_is_8 : decode cX7_is 8 = .ok (.getfield 32, 3) := by decide +kernel
theorem dX7_is_11 : decode cX7_is 11 = .ok (.iload_n 1, 1) := by decide +kernel
theorem dX7_is_12 : decode cX7_is 12 = .ok (.iload_n 3, 1) := by decide +kernel
theorem dX7_is_13 : decode cX7_is 13 = .ok (.iastore, 1) := by decide +kernel
theorem dX7_is_14 : decode cX7_is 14 = .ok (.aload_n 0, 1) := by decide +kernel
theorem dX7_is_15 : decode cX7_is 15 = .ok (.getfield 19, 3) := by decide +kernel
theorem dX7_is_18 : decode cX7_is 18 = .ok (.iload_n 1, 1) := by decide +kernel
theorem dX7_is_19 : decode cX7_is 19 = .ok (.iload 4, 2) := by decide +kernel
theorem dX7_is_21 : decode cX7_is 21 = .ok (.iastore, 1) := by decide +kernel
theorem dX7_is_22 : decode cX7_is 22 = .ok (.aload_n 0, 1) := by decide +kernel
theorem dX7_is_23 : decode cX7_is 23 = .ok (.bipush 9, 2) := by decide +kernel
theorem dX7_is_25 : decode cX7_is 25 = .ok (.iload_n 1, 1) := by decide +kernel
theorem dX7_is_26 : decode cX7_is 26 = .ok (.imul, 1) := by decide +kernel
theorem dX7_is_27 : decode cX7_is 27 = .ok (.iload 5, 2) := by decide +kernel
theorem dX7_is_29 : decode cX7_is 29 = .ok (.iload 6, 2) := by decide +kernel
theorem dX7_is_31 : decode cX7_is 31 = .ok (.iload 7, 2) := by decide +kernel
theorem dX7_is_33 : decode cX7_is 33 = .ok (.iload 8, 2) := by decide +kernel
theorem dX7_is_35 : decode cX7_is 35 = .ok (.invokevirtual 57, 3) := by decide +kernel
theorem dX7_is_38 : decode cX7_is 38 = .ok (.return_, 1) := by decide +kernel
set_option maxRecDepth 20000 in
theorem ggX7_goesOn_X7_lettersAre : GoodIn wsX7_goesOn wsX7_lettersAre := goodIn_r _ [5, 6, 7, 8, 9, 10, 11, 12, 13, 14, 15, 16, 17, 18, 19, 20, 21, 22, 23, 24] (by decide +kernel) (by decide +kernel)
set_option maxRecDepth 20000 in
theorem gX7_goesOn_X7_lettersAre : GoodIn wsX7_goesOn (wsV RX7 57 RX7 yX7_lettersAre wsX7_lettersAre) := goodIn_app (goodIn_of _ (by decide +kernel)) ggX7_goesOn_X7_lettersAre
theorem dX7_goesOn_0 : decode cX7_goesOn 0 = .ok (.aload_n 0, 1) := by decide +kernel
theorem dX7_goesOn_1 : decode cX7_goesOn 1 = .ok (.bipush 9, 2) := by decide +kernel
theorem dX7_goesOn_3 : decode cX7_goesOn 3 = .ok (.iload_n 1, 1) := by decide +kernel
theorem dX7_goesOn_4 : decode cX7_goesOn 4 = .ok (.imul, 1) := by decide +kernel
theorem dX7_goesOn_5 : decode cX7_goesOn 5 = .ok (.iconst 4, 1) := by decide +kernel
theorem dX7_goesOn_6 : decode cX7_goesOn 6 = .ok (.iadd, 1) := by decide +kernel
theorem dX7_goesOn_7 : decode cX7_goesOn 7 = .ok (.iload_n 2, 1) := by decide +kernel
theorem dX7_goesOn_8 : decode cX7_goesOn 8 = .ok (.iload_n 3, 1) := by decide +kernel
theorem dX7_goesOn_9 : decode cX7_goesOn 9 = .ok (.iload 4, 2) := by decide +kernel
theorem dX7_goesOn_11 : decode cX7_goesOn 11 = .ok (.iload 5, 2) := by decide +kernel
theorem dX7_goesOn_13 : decode cX7_goesOn 13 = .ok (.invokevirtual 57, 3) := by decide +kernel
theorem dX7_goesOn_16 : decode cX7_goesOn 16 = .ok (.return_, 1) := by decide +kernel
theorem dX7_lettersAre_0 : decode cX7_lettersAre 0 = .ok (.aload_n 0, 1) := by decide +kernel
theorem dX7_lettersAre_1 : decode cX7_lettersAre 1 = .ok (.getfield 35, 3) := by decide +kernel
theorem dX7_lettersAre_4 : decode cX7_lettersAre 4 = .ok (.iload_n 1, 1) := by decide +kernel
theorem dX7_lettersAre_5 : decode cX7_lettersAre 5 = .ok (.iload_n 2, 1) := by decide +kernel
theorem dX7_lettersAre_6 : decode cX7_lettersAre 6 = .ok (.iastore, 1) := by decide +kernel
theorem dX7_lettersAre_7 : decode cX7_lettersAre 7 = .ok (.aload_n 0, 1) := by decide +kernel
theorem dX7_lettersAre_8 : decode cX7_lettersAre 8 = .ok (.getfield 35, 3) := by decide +kernel
theorem dX7_lettersAre_11 : decode cX7_lettersAre 11 = .ok (.iload_n 1, 1) := by decide +kernel
theorem dX7_lettersAre_12 : decode cX7_lettersAre 12 = .ok (.iconst 1, 1) := by decide +kernel
theorem dX7_lettersAre_13 : decode cX7_lettersAre 13 = .ok (.iadd, 1) := by decide +kernel
theorem dX7_lettersAre_14 : decode cX7_lettersAre 14 = .ok (.iload_n 3, 1) := by decide +kernel
theorem dX7_lettersAre_15 : decode cX7_lettersAre 15 = .ok (.iastore, 1) := by decide +kernel
theorem dX7_lettersAre_16 : decode cX7_lettersAre 16 = .ok (.aload_n 0, 1) := by decide +kernel
theorem dX7_lettersAre_17 : decode cX7_lettersAre 17 = .ok (.getfield 35, 3) := by decide +kernel
theorem dX7_lettersAre_20 : decode cX7_lettersAre 20 = .ok (.iload_n 1, 1) := by decide +kernel
theorem dX7_lettersAre_21 : decode cX7_lettersAre 21 = .ok (.iconst 2, 1) := by decide +kernel
theorem dX7_lettersAre_22 : decode cX7_lettersAre 22 = .ok (.iadd, 1) := by decide +kernel
theorem dX7_lettersAre_23 : decode cX7_lettersAre 23 = .ok (.iload 4, 2) := by decide +kernel
theorem dX7_lettersAre_25 : decode cX7_lettersAre 25 = .ok (.iastore, 1) := by decide +kernel
theorem dX7_lettersAre_26 : decode cX7_lettersAre 26 = .ok (.aload_n 0, 1) := by decide +kernel
theorem dX7_lettersAre_27 : decode cX7_lettersAre 27 = .ok (.getfield 35, 3) := by decide +kernel
theorem dX7_lettersAre_30 : decode cX7_lettersAre 30 = .ok (.iload_n 1, 1) := by decide +kernel
theorem dX7_lettersAre_31 : decode cX7_lettersAre 31 = .ok (.iconst 3, 1) := by decide +kernel
theorem dX7_lettersAre_32 : decode cX7_lettersAre 32 = .ok (.iadd, 1) := by decide +kernel
theorem dX7_lettersAre_33 : decode cX7_lettersAre 33 = .ok (.iload 5, 2) := by decide +kernel
theorem dX7_lettersAre_35 : decode cX7_lettersAre 35 = .ok (.iastore, 1) := by decide +kernel
theorem dX7_lettersAre_36 : decode cX7_lettersAre 36 = .ok (.return_, 1) := by decide +kernel
theorem dX7_in_0 : decode cX7_in 0 = .ok (.lload_n 0, 1) := by decide +kernel
theorem dX7_in_1 : decode cX7_in 1 = .ok (.lload_n 2, 1) := by decide +kernel
theorem dX7_in_2 : decode cX7_in 2 = .ok (.lcmp, 1) := by decide +kernel
theorem dX7_in_3 : decode cX7_in 3 = .ok (.ifCond .lt 14, 3) := by decide +kernel
theorem dX7_in_6 : decode cX7_in 6 = .ok (.lload_n 0, 1) := by decide +kernel
theorem dX7_in_7 : decode cX7_in 7 = .ok (.lload 4, 2) := by decide +kernel
theorem dX7_in_9 : decode cX7_in 9 = .ok (.lcmp, 1) := by decide +kernel
theorem dX7_in_10 : decode cX7_in 10 = .ok (.ifCond .gt 7, 3) := by decide +kernel
theorem dX7_in_13 : decode cX7_in 13 = .ok (.iconst 1, 1) := by decide +kernel
theorem dX7_in_14 : decode cX7_in 14 = .ok (.goto 4, 3) := by decide +kernel
theorem dX7_in_17 : decode cX7_in 17 = .ok (.iconst 0, 1) := by decide +kernel
theorem dX7_in_18 : decode cX7_in 18 = .ok (.ireturn, 1) := by decide +kernel
theorem dX7_size_0 : decode cX7_size 0 = .ok (.lload_n 0, 1) := by decide +kernel
theorem dX7_size_1 : decode cX7_size 1 = .ok (.lconst 0, 1) := by decide +kernel
theorem dX7_size_2 : decode cX7_size 2 = .ok (.lcmp, 1) := by decide +kernel
theorem dX7_size_3 : decode cX7_size 3 = .ok (.ifCond .ge 8, 3) := by decide +kernel
theorem dX7_size_6 : decode cX7_size 6 = .ok (.lload_n 0, 1) := by decide +kernel
theorem dX7_size_7 : decode cX7_size 7 = .ok (.lneg, 1) := by decide +kernel
theorem dX7_size_8 : decode cX7_size 8 = .ok (.goto 4, 3) := by decide +kernel
theorem dX7_size_11 : decode cX7_size 11 = .ok (.lload_n 0, 1) := by decide +kernel
theorem dX7_size_12 : decode cX7_size 12 = .ok (.lreturn, 1) := by decide +kernel
theorem dX7_floor_0 : decode cX7_floor 0 = .ok (.lload_n 0, 1) := by decide +kernel
theorem dX7_floor_1 : decode cX7_floor 1 = .ok (.lload_n 2, 1) := by decide +kernel
theorem dX7_floor_2 : decode cX7_floor 2 = .ok (.ldiv, 1) := by decide +kernel
theorem dX7_floor_3 : decode cX7_floor 3 = .ok (.lstore 4, 2) := by decide +kernel
theorem dX7_floor_5 : decode cX7_floor 5 = .ok (.lload 4, 2) := by decide +kernel
theorem dX7_floor_7 : decode cX7_floor 7 = .ok (.lload_n 2, 1) := by decide +kernel
theorem dX7_floor_8 : decode cX7_floor 8 = .ok (.lmul, 1) := by decide +kernel
theorem dX7_floor_9 : decode cX7_floor 9 = .ok (.lload_n 0, 1) := by decide +kernel
theorem dX7_floor_10 : decode cX7_floor 10 = .ok (.lcmp, 1) := by decide +kernel
theorem dX7_floor_11 : decode cX7_floor 11 = .ok (.ifCond .le 10, 3) := by decide +kernel
theorem dX7_floor_14 : decode cX7_floor 14 = .ok (.lload 4, 2) := by decide +kernel
theorem dX7_floor_16 : decode cX7_floor 16 = .ok (.lconst 1, 1) := by decide +kernel
theorem dX7_floor_17 : decode cX7_floor 17 = .ok (.lsub, 1) := by decide +kernel
theorem dX7_floor_18 : decode cX7_floor 18 = .ok (.goto 5, 3) := by decide +kernel
theorem dX7_floor_21 : decode cX7_floor 21 = .ok (.lload 4, 2) := by decide +kernel
theorem dX7_floor_23 : decode cX7_floor 23 = .ok (.lreturn, 1) := by decide +kernel
theorem dX7_keeps_0 : decode cX7_keeps 0 = .ok (.aload_n 0, 1) := by decide +kernel
theorem dX7_keeps_1 : decode cX7_keeps 1 = .ok (.getfield 60, 3) := by decide +kernel
theorem dX7_keeps_4 : decode cX7_keeps 4 = .ok (.bipush 6, 2) := by decide +kernel
theorem dX7_keeps_6 : decode cX7_keeps 6 = .ok (.if_icmp .ne 42, 3) := by decide +kernel
theorem dX7_keeps_9 : decode cX7_keeps 9 = .ok (.iconst 0, 1) := by decide +kernel
theorem dX7_keeps_10 : decode cX7_keeps 10 = .ok (.istore_n 1, 1) := by decide +kernel
theorem dX7_keeps_11 : decode cX7_keeps 11 = .ok (.iload_n 1, 1) := by decide +kernel
theorem dX7_keeps_12 : decode cX7_keeps 12 = .ok (.bipush 75, 2) := by decide +kernel
theorem dX7_keeps_14 : decode cX7_keeps 14 = .ok (.if_icmp .ge 24, 3) := by decide +kernel
theorem dX7_keeps_17 : decode cX7_keeps 17 = .ok (.aload_n 0, 1) := by decide +kernel
theorem dX7_keeps_18 : decode cX7_keeps 18 = .ok (.getfield 26, 3) := by decide +kernel
theorem dX7_keeps_21 : decode cX7_keeps 21 = .ok (.iload_n 1, 1) := by decide +kernel
theorem dX7_keeps_22 : decode cX7_keeps 22 = .ok (.aload_n 0, 1) := by decide +kernel
theorem dX7_keeps_23 : decode cX7_keeps 23 = .ok (.getfield 26, 3) := by decide +kernel
theorem dX7_keeps_26 : decode cX7_keeps 26 = .ok (.bipush 15, 2) := by decide +kernel
theorem dX7_keeps_28 : decode cX7_keeps 28 = .ok (.iload_n 1, 1) := by decide +kernel
theorem dX7_keeps_29 : decode cX7_keeps 29 = .ok (.iadd, 1) := by decide +kernel
theorem dX7_keeps_30 : decode cX7_keeps 30 = .ok (.iaload, 1) := by decide +kernel
theorem dX7_keeps_31 : decode cX7_keeps 31 = .ok (.iastore, 1) := by decide +kernel
theorem dX7_keeps_32 : decode cX7_keeps 32 = .ok (.iinc 1 1, 3) := by decide +kernel
theorem dX7_keeps_35 : decode cX7_keeps 35 = .ok (.goto (-24), 3) := by decide +kernel
theorem dX7_keeps_38 : decode cX7_keeps 38 = .ok (.aload_n 0, 1) := by decide +kernel
theorem dX7_keeps_39 : decode cX7_keeps 39 = .ok (.dup, 1) := by decide +kernel
theorem dX7_keeps_40 : decode cX7_keeps 40 = .ok (.getfield 60, 3) := by decide +kernel
theorem dX7_keeps_43 : decode cX7_keeps 43 = .ok (.iconst 1, 1) := by decide +kernel
theorem dX7_keeps_44 : decode cX7_keeps 44 = .ok (.isub, 1) := by decide +kernel
theorem dX7_keeps_45 : decode cX7_keeps 45 = .ok (.putfield 60, 3) := by decide +kernel
theorem dX7_keeps_48 : decode cX7_keeps 48 = .ok (.iconst 0, 1) := by decide +kernel
theorem dX7_keeps_49 : decode cX7_keeps 49 = .ok (.istore_n 1, 1) := by decide +kernel
theorem dX7_keeps_50 : decode cX7_keeps 50 = .ok (.iload_n 1, 1) := by decide +kernel
theorem dX7_keeps_51 : decode cX7_keeps 51 = .ok (.bipush 15, 2) := by decide +kernel
theorem dX7_keeps_53 : decode cX7_keeps 53 = .ok (.if_icmp .ge 29, 3) := by decide +kernel
theorem dX7_keeps_56 : decode cX7_keeps 56 = .ok (.aload_n 0, 1) := by decide +kernel
theorem dX7_keeps_57 : decode cX7_keeps 57 = .ok (.getfield 26, 3) := by decide +kernel
theorem dX7_keeps_60 : decode cX7_keeps 60 = .ok (.bipush 15, 2) := by decide +kernel
theorem dX7_keeps_62 : decode cX7_keeps 62 = .ok (.aload_n 0, 1) := by decide +kernel
theorem dX7_keeps_63 : decode cX7_keeps 63 = .ok (.getfield 60, 3) := by decide +kernel
theorem dX7_keeps_66 : decode cX7_keeps 66 = .ok (.imul, 1) := by decide +kernel
theorem dX7_keeps_67 : decode cX7_keeps 67 = .ok (.iload_n 1, 1) := by decide +kernel
theorem dX7_keeps_68 : decode cX7_keeps 68 = .ok (.iadd, 1) := by decide +kernel
theorem dX7_keeps_69 : decode cX7_keeps 69 = .ok (.aload_n 0, 1) := by decide +kernel
theorem dX7_keeps_70 : decode cX7_keeps 70 = .ok (.getfield 19, 3) := by decide +kernel
theorem dX7_keeps_73 : decode cX7_keeps 73 = .ok (.iload_n 1, 1) := by decide +kernel
theorem dX7_keeps_74 : decode cX7_keeps 74 = .ok (.iaload, 1) := by decide +kernel
