theorem d_law_0 : decode b_law 0 = .ok (.new 8, 3) := by decide +kernel
theorem d_law_3 : decode b_law 3 = .ok (.dup, 1) := by decide +kernel
theorem d_law_4 : decode b_law 4 = .ok (.invokespecial 31, 3) := by decide +kernel
theorem d_law_7 : decode b_law 7 = .ok (.astore_n 1, 1) := by decide +kernel
theorem d_law_8 : decode b_law 8 = .ok (.new 32, 3) := by decide +kernel
theorem d_law_11 : decode b_law 11 = .ok (.dup, 1) := by decide +kernel
theorem d_law_12 : decode b_law 12 = .ok (.invokespecial 34, 3) := by decide +kernel
theorem d_law_15 : decode b_law 15 = .ok (.astore_n 2, 1) := by decide +kernel
theorem d_law_16 : decode b_law 16 = .ok (.iconst 1, 1) := by decide +kernel
theorem d_law_17 : decode b_law 17 = .ok (.newarray .long, 2) := by decide +kernel
theorem d_law_19 : decode b_law 19 = .ok (.astore_n 3, 1) := by decide +kernel
theorem d_law_20 : decode b_law 20 = .ok (.iconst 0, 1) := by decide +kernel
theorem d_law_21 : decode b_law 21 = .ok (.istore 4, 2) := by decide +kernel
theorem d_law_23 : decode b_law 23 = .ok (.iload 4, 2) := by decide +kernel
theorem d_law_25 : decode b_law 25 = .ok (.aload_n 0, 1) := by decide +kernel
theorem d_law_26 : decode b_law 26 = .ok (.arraylength, 1) := by decide +kernel
theorem d_law_27 : decode b_law 27 = .ok (.iconst 4, 1) := by decide +kernel
theorem d_law_28 : decode b_law 28 = .ok (.isub, 1) := by decide +kernel
theorem d_law_29 : decode b_law 29 = .ok (.if_icmp .gt 491, 3) := by decide +kernel
theorem d_law_520 : decode b_law 520 = .ok (.iconst 1, 1) := by decide +kernel
theorem d_law_521 : decode b_law 521 = .ok (.ireturn, 1) := by decide +kernel
theorem d_law_32 : decode b_law 32 = .ok (.aload_n 0, 1) := by decide +kernel
theorem d_law_33 : decode b_law 33 = .ok (.iload 4, 2) := by decide +kernel
theorem d_law_35 : decode b_law 35 = .ok (.iaload, 1) := by decide +kernel
theorem d_law_36 : decode b_law 36 = .ok (.bipush 15, 2) := by decide +kernel
theorem d_law_38 : decode b_law 38 = .ok (.iand, 1) := by decide +kernel
theorem d_law_39 : decode b_law 39 = .ok (.tableswitch 475 0 8 #[49, 118, 174, 237, 300, 313, 338, 394, 462], 49) := by decide +kernel
theorem d_law_88 : decode b_law 88 = .ok (.aload_n 1, 1) := by decide +kernel
theorem d_law_89 : decode b_law 89 = .ok (.aload_n 0, 1) := by decide +kernel
theorem d_law_90 : decode b_law 90 = .ok (.iload 4, 2) := by decide +kernel
theorem d_law_92 : decode b_law 92 = .ok (.iconst 1, 1) := by decide +kernel
theorem d_law_93 : decode b_law 93 = .ok (.iadd, 1) := by decide +kernel
theorem d_law_94 : decode b_law 94 = .ok (.iaload, 1) := by decide +kernel
theorem d_law_95 : decode b_law 95 = .ok (.i2l, 1) := by decide +kernel
theorem d_law_96 : decode b_law 96 = .ok (.bipush 32, 2) := by decide +kernel
theorem d_law_98 : decode b_law 98 = .ok (.lshl, 1) := by decide +kernel
theorem d_law_99 : decode b_law 99 = .ok (.aload_n 0, 1) := by decide +kernel
theorem d_law_100 : decode b_law 100 = .ok (.iload 4, 2) := by decide +kernel
theorem d_law_102 : decode b_law 102 = .ok (.iconst 2, 1) := by decide +kernel
theorem d_law_103 : decode b_law 103 = .ok (.iadd, 1) := by decide +kernel
theorem d_law_104 : decode b_law 104 = .ok (.iaload, 1) := by decide +kernel
theorem d_law_105 : decode b_law 105 = .ok (.i2l, 1) := by decide +kernel
theorem d_law_106 : decode b_law 106 = .ok (.ldc2_w 35, 3) := by decide +kernel
theorem d_law_109 : decode b_law 109 = .ok (.land, 1) := by decide +kernel
theorem d_law_110 : decode b_law 110 = .ok (.lor, 1) := by decide +kernel
theorem d_law_111 : decode b_law 111 = .ok (.aload_n 0, 1) := by decide +kernel
theorem d_law_112 : decode b_law 112 = .ok (.iload 4, 2) := by decide +kernel
theorem d_law_114 : decode b_law 114 = .ok (.iconst 3, 1) := by decide +kernel
theorem d_law_115 : decode b_law 115 = .ok (.iadd, 1) := by decide +kernel
theorem d_law_116 : decode b_law 116 = .ok (.iaload, 1) := by decide +kernel
theorem d_law_117 : decode b_law 117 = .ok (.invokevirtual 37, 3) := by decide +kernel
theorem d_law_120 : decode b_law 120 = .ok (.aload_n 2, 1) := by decide +kernel
theorem d_law_121 : decode b_law 121 = .ok (.aload_n 0, 1) := by decide +kernel
theorem d_law_122 : decode b_law 122 = .ok (.iload 4, 2) := by decide +kernel
theorem d_law_124 : decode b_law 124 = .ok (.iconst 1, 1) := by decide +kernel
theorem d_law_125 : decode b_law 125 = .ok (.iadd, 1) := by decide +kernel
theorem d_law_126 : decode b_law 126 = .ok (.iaload, 1) := by decide +kernel
theorem d_law_127 : decode b_law 127 = .ok (.i2l, 1) := by decide +kernel
theorem d_law_128 : decode b_law 128 = .ok (.bipush 32, 2) := by decide +kernel
theorem d_law_130 : decode b_law 130 = .ok (.lshl, 1) := by decide +kernel
theorem d_law_131 : decode b_law 131 = .ok (.aload_n 0, 1) := by decide +kernel
theorem d_law_132 : decode b_law 132 = .ok (.iload 4, 2) := by decide +kernel
theorem d_law_134 : decode b_law 134 = .ok (.iconst 2, 1) := by decide +kernel
theorem d_law_135 : decode b_law 135 = .ok (.iadd, 1) := by decide +kernel
theorem d_law_136 : decode b_law 136 = .ok (.iaload, 1) := by decide +kernel
theorem d_law_137 : decode b_law 137 = .ok (.i2l, 1) := by decide +kernel
theorem d_law_138 : decode b_law 138 = .ok (.ldc2_w 35, 3) := by decide +kernel
theorem d_law_141 : decode b_law 141 = .ok (.land, 1) := by decide +kernel
theorem d_law_142 : decode b_law 142 = .ok (.lor, 1) := by decide +kernel
theorem d_law_143 : decode b_law 143 = .ok (.aload_n 0, 1) := by decide +kernel
theorem d_law_144 : decode b_law 144 = .ok (.iload 4, 2) := by decide +kernel
theorem d_law_146 : decode b_law 146 = .ok (.iconst 3, 1) := by decide +kernel
theorem d_law_147 : decode b_law 147 = .ok (.iadd, 1) := by decide +kernel
theorem d_law_148 : decode b_law 148 = .ok (.iaload, 1) := by decide +kernel
theorem d_law_149 : decode b_law 149 = .ok (.invokevirtual 41, 3) := by decide +kernel
theorem d_law_152 : decode b_law 152 = .ok (.if_icmp .eq 362, 3) := by decide +kernel
theorem d_law_514 : decode b_law 514 = .ok (.iinc 4 4, 3) := by decide +kernel
theorem d_law_517 : decode b_law 517 = .ok (.goto (-494), 3) := by decide +kernel
theorem d_law_157 : decode b_law 157 = .ok (.aload_n 1, 1) := by decide +kernel
theorem d_law_158 : decode b_law 158 = .ok (.aload_n 0, 1) := by decide +kernel
theorem d_law_159 : decode b_law 159 = .ok (.iload 4, 2) := by decide +kernel
theorem d_law_161 : decode b_law 161 = .ok (.iconst 1, 1) := by decide +kernel
theorem d_law_162 : decode b_law 162 = .ok (.iadd, 1) := by decide +kernel
theorem d_law_163 : decode b_law 163 = .ok (.iaload, 1) := by decide +kernel
theorem d_law_164 : decode b_law 164 = .ok (.aload_n 3, 1) := by decide +kernel
theorem d_law_165 : decode b_law 165 = .ok (.invokestatic 42, 3) := by decide +kernel
theorem d_law_168 : decode b_law 168 = .ok (.istore 5, 2) := by decide +kernel
theorem d_law_170 : decode b_law 170 = .ok (.aload_n 2, 1) := by decide +kernel
theorem d_law_171 : decode b_law 171 = .ok (.aload_n 0, 1) := by decide +kernel
theorem d_law_172 : decode b_law 172 = .ok (.iload 4, 2) := by decide +kernel
theorem d_law_174 : decode b_law 174 = .ok (.iconst 1, 1) := by decide +kernel
theorem d_law_175 : decode b_law 175 = .ok (.iadd, 1) := by decide +kernel
theorem d_law_176 : decode b_law 176 = .ok (.iaload, 1) := by decide +kernel
theorem d_law_177 : decode b_law 177 = .ok (.invokevirtual 47, 3) := by decide +kernel
theorem d_law_180 : decode b_law 180 = .ok (.istore 6, 2) := by decide +kernel
theorem d_law_182 : decode b_law 182 = .ok (.aload_n 2, 1) := by decide +kernel
theorem d_law_183 : decode b_law 183 = .ok (.invokevirtual 48, 3) := by decide +kernel
theorem d_law_186 : decode b_law 186 = .ok (.iload 5, 2) := by decide +kernel
theorem d_law_188 : decode b_law 188 = .ok (.if_icmp .eq 5, 3) := by decide +kernel
theorem d_law_193 : decode b_law 193 = .ok (.iload 5, 2) := by decide +kernel
theorem d_law_195 : decode b_law 195 = .ok (.ifCond .ne 15, 3) := by decide +kernel
theorem d_law_198 : decode b_law 198 = .ok (.aload_n 3, 1) := by decide +kernel
theorem d_law_199 : decode b_law 199 = .ok (.iconst 0, 1) := by decide +kernel
theorem d_law_200 : decode b_law 200 = .ok (.laload, 1) := by decide +kernel
theorem d_law_201 : decode b_law 201 = .ok (.iload 6, 2) := by decide +kernel
theorem d_law_203 : decode b_law 203 = .ok (.i2l, 1) := by decide +kernel
theorem d_law_204 : decode b_law 204 = .ok (.lcmp, 1) := by decide +kernel
theorem d_law_205 : decode b_law 205 = .ok (.ifCond .eq 5, 3) := by decide +kernel
theorem d_law_210 : decode b_law 210 = .ok (.goto 304, 3) := by decide +kernel
theorem d_law_213 : decode b_law 213 = .ok (.aload_n 1, 1) := by decide +kernel
theorem d_law_214 : decode b_law 214 = .ok (.aload_n 0, 1) := by decide +kernel
theorem d_law_215 : decode b_law 215 = .ok (.iload 4, 2) := by decide +kernel
theorem d_law_217 : decode b_law 217 = .ok (.iconst 1, 1) := by decide +kernel
theorem d_law_218 : decode b_law 218 = .ok (.iadd, 1) := by decide +kernel
theorem d_law_219 : decode b_law 219 = .ok (.iaload, 1) := by decide +kernel
theorem d_law_220 : decode b_law 220 = .ok (.aload_n 3, 1) := by decide +kernel
theorem d_law_221 : decode b_law 221 = .ok (.invokestatic 52, 3) := by decide +kernel
theorem d_law_224 : decode b_law 224 = .ok (.istore 5, 2) := by decide +kernel
theorem d_law_226 : decode b_law 226 = .ok (.aload_n 2, 1) := by decide +kernel
theorem d_law_227 : decode b_law 227 = .ok (.aload_n 0, 1) := by decide +kernel
theorem d_law_228 : decode b_law 228 = .ok (.iload 4, 2) := by decide +kernel
theorem d_law_230 : decode b_law 230 = .ok (.iconst 1, 1) := by decide +kernel
theorem d_law_231 : decode b_law 231 = .ok (.iadd, 1) := by decide +kernel
theorem d_law_232 : decode b_law 232 = .ok (.iaload, 1) := by decide +kernel
theorem d_law_233 : decode b_law 233 = .ok (.invokevirtual 54, 3) := by decide +kernel
theorem d_law_236 : decode b_law 236 = .ok (.istore 6, 2) := by decide +kernel
theorem d_law_238 : decode b_law 238 = .ok (.aload_n 2, 1) := by decide +kernel
theorem d_law_239 : decode b_law 239 = .ok (.invokevirtual 48, 3) := by decide +kernel
theorem d_law_242 : decode b_law 242 = .ok (.iload 5, 2) := by decide +kernel
theorem d_law_244 : decode b_law 244 = .ok (.if_icmp .eq 5, 3) := by decide +kernel
theorem d_law_249 : decode b_law 249 = .ok (.iload 5, 2) := by decide +kernel
theorem d_law_251 : decode b_law 251 = .ok (.ifCond .ne 22, 3) := by decide +kernel
theorem d_law_254 : decode b_law 254 = .ok (.aload_n 3, 1) := by decide +kernel
theorem d_law_255 : decode b_law 255 = .ok (.iconst 0, 1) := by decide +kernel
theorem d_law_256 : decode b_law 256 = .ok (.laload, 1) := by decide +kernel
theorem d_law_257 : decode b_law 257 = .ok (.iload 6, 2) := by decide +kernel
theorem d_law_259 : decode b_law 259 = .ok (.ifCond .eq 7, 3) := by decide +kernel
theorem d_law_266 : decode b_law 266 = .ok (.lconst 0, 1) := by decide +kernel
theorem d_law_267 : decode b_law 267 = .ok (.lcmp, 1) := by decide +kernel
theorem d_law_268 : decode b_law 268 = .ok (.ifCond .eq 5, 3) := by decide +kernel
theorem d_law_273 : decode b_law 273 = .ok (.goto 241, 3) := by decide +kernel
theorem d_law_276 : decode b_law 276 = .ok (.aload_n 1, 1) := by decide +kernel
theorem d_law_277 : decode b_law 277 = .ok (.aload_n 0, 1) := by decide +kernel
theorem d_law_278 : decode b_law 278 = .ok (.iload 4, 2) := by decide +kernel
theorem d_law_280 : decode b_law 280 = .ok (.iconst 1, 1) := by decide +kernel
theorem d_law_281 : decode b_law 281 = .ok (.iadd, 1) := by decide +kernel
theorem d_law_282 : decode b_law 282 = .ok (.iaload, 1) := by decide +kernel
theorem d_law_283 : decode b_law 283 = .ok (.aload_n 3, 1) := by decide +kernel
theorem d_law_284 : decode b_law 284 = .ok (.invokestatic 55, 3) := by decide +kernel
theorem d_law_287 : decode b_law 287 = .ok (.istore 5, 2) := by decide +kernel
theorem d_law_289 : decode b_law 289 = .ok (.aload_n 2, 1) := by decide +kernel
theorem d_law_290 : decode b_law 290 = .ok (.aload_n 0, 1) := by decide +kernel
theorem d_law_291 : decode b_law 291 = .ok (.iload 4, 2) := by decide +kernel
theorem d_law_293 : decode b_law 293 = .ok (.iconst 1, 1) := by decide +kernel
theorem d_law_294 : decode b_law 294 = .ok (.iadd, 1) := by decide +kernel
theorem d_law_295 : decode b_law 295 = .ok (.iaload, 1) := by decide +kernel
theorem d_law_296 : decode b_law 296 = .ok (.invokevirtual 57, 3) := by decide +kernel
theorem d_law_299 : decode b_law 299 = .ok (.istore 6, 2) := by decide +kernel
theorem d_law_301 : decode b_law 301 = .ok (.aload_n 2, 1) := by decide +kernel
theorem d_law_302 : decode b_law 302 = .ok (.invokevirtual 48, 3) := by decide +kernel
theorem d_law_305 : decode b_law 305 = .ok (.iload 5, 2) := by decide +kernel
theorem d_law_307 : decode b_law 307 = .ok (.if_icmp .eq 5, 3) := by decide +kernel
theorem d_law_312 : decode b_law 312 = .ok (.iload 5, 2) := by decide +kernel
theorem d_law_314 : decode b_law 314 = .ok (.ifCond .ne 22, 3) := by decide +kernel
theorem d_law_317 : decode b_law 317 = .ok (.aload_n 3, 1) := by decide +kernel
theorem d_law_318 : decode b_law 318 = .ok (.iconst 0, 1) := by decide +kernel
theorem d_law_319 : decode b_law 319 = .ok (.laload, 1) := by decide +kernel
theorem d_law_320 : decode b_law 320 = .ok (.iload 6, 2) := by decide +kernel
theorem d_law_322 : decode b_law 322 = .ok (.ifCond .eq 7, 3) := by decide +kernel
theorem d_law_329 : decode b_law 329 = .ok (.lconst 0, 1) := by decide +kernel
theorem d_law_330 : decode b_law 330 = .ok (.lcmp, 1) := by decide +kernel
theorem d_law_331 : decode b_law 331 = .ok (.ifCond .eq 5, 3) := by decide +kernel
theorem d_law_336 : decode b_law 336 = .ok (.goto 178, 3) := by decide +kernel
theorem d_law_339 : decode b_law 339 = .ok (.aload_n 1, 1) := by decide +kernel
theorem d_law_340 : decode b_law 340 = .ok (.invokevirtual 58, 3) := by decide +kernel
theorem d_law_343 : decode b_law 343 = .ok (.aload_n 2, 1) := by decide +kernel
theorem d_law_344 : decode b_law 344 = .ok (.invokevirtual 61, 3) := by decide +kernel
theorem d_law_347 : decode b_law 347 = .ok (.if_icmp .eq 167, 3) := by decide +kernel
theorem d_law_352 : decode b_law 352 = .ok (.aload_n 1, 1) := by decide +kernel
theorem d_law_353 : decode b_law 353 = .ok (.aload_n 0, 1) := by decide +kernel
theorem d_law_354 : decode b_law 354 = .ok (.iload 4, 2) := by decide +kernel
theorem d_law_356 : decode b_law 356 = .ok (.iconst 1, 1) := by decide +kernel
theorem d_law_357 : decode b_law 357 = .ok (.iadd, 1) := by decide +kernel
theorem d_law_358 : decode b_law 358 = .ok (.iaload, 1) := by decide +kernel
theorem d_law_359 : decode b_law 359 = .ok (.invokevirtual 62, 3) := by decide +kernel
theorem d_law_362 : decode b_law 362 = .ok (.aload_n 2, 1) := by decide +kernel
theorem d_law_363 : decode b_law 363 = .ok (.aload_n 0, 1) := by decide +kernel
theorem d_law_364 : decode b_law 364 = .ok (.iload 4, 2) := by decide +kernel
theorem d_law_366 : decode b_law 366 = .ok (.iconst 1, 1) := by decide +kernel
theorem d_law_367 : decode b_law 367 = .ok (.iadd, 1) := by decide +kernel
theorem d_law_368 : decode b_law 368 = .ok (.iaload, 1) := by decide +kernel
theorem d_law_369 : decode b_law 369 = .ok (.invokevirtual 65, 3) := by decide +kernel
theorem d_law_372 : decode b_law 372 = .ok (.if_icmp .eq 142, 3) := by decide +kernel
theorem d_law_377 : decode b_law 377 = .ok (.aload_n 1, 1) := by decide +kernel
theorem d_law_378 : decode b_law 378 = .ok (.aload_n 0, 1) := by decide +kernel
theorem d_law_379 : decode b_law 379 = .ok (.iload 4, 2) := by decide +kernel
theorem d_law_381 : decode b_law 381 = .ok (.iconst 1, 1) := by decide +kernel
theorem d_law_382 : decode b_law 382 = .ok (.iadd, 1) := by decide +kernel
theorem d_law_383 : decode b_law 383 = .ok (.iaload, 1) := by decide +kernel
theorem d_law_384 : decode b_law 384 = .ok (.aload_n 3, 1) := by decide +kernel
theorem d_law_385 : decode b_law 385 = .ok (.invokestatic 66, 3) := by decide +kernel
theorem d_law_388 : decode b_law 388 = .ok (.istore 5, 2) := by decide +kernel
theorem d_law_390 : decode b_law 390 = .ok (.aload_n 2, 1) := by decide +kernel
theorem d_law_391 : decode b_law 391 = .ok (.aload_n 0, 1) := by decide +kernel
theorem d_law_392 : decode b_law 392 = .ok (.iload 4, 2) := by decide +kernel
theorem d_law_394 : decode b_law 394 = .ok (.iconst 1, 1) := by decide +kernel
theorem d_law_395 : decode b_law 395 = .ok (.iadd, 1) := by decide +kernel
theorem d_law_396 : decode b_law 396 = .ok (.iaload, 1) := by decide +kernel
theorem d_law_397 : decode b_law 397 = .ok (.invokevirtual 68, 3) := by decide +kernel
theorem d_law_400 : decode b_law 400 = .ok (.istore 6, 2) := by decide +kernel
theorem d_law_402 : decode b_law 402 = .ok (.aload_n 2, 1) := by decide +kernel
theorem d_law_403 : decode b_law 403 = .ok (.invokevirtual 48, 3) := by decide +kernel
theorem d_law_406 : decode b_law 406 = .ok (.iload 5, 2) := by decide +kernel
theorem d_law_408 : decode b_law 408 = .ok (.if_icmp .eq 5, 3) := by decide +kernel
theorem d_law_413 : decode b_law 413 = .ok (.iload 5, 2) := by decide +kernel
theorem d_law_415 : decode b_law 415 = .ok (.ifCond .ne 15, 3) := by decide +kernel
theorem d_law_418 : decode b_law 418 = .ok (.aload_n 3, 1) := by decide +kernel
theorem d_law_419 : decode b_law 419 = .ok (.iconst 0, 1) := by decide +kernel
theorem d_law_420 : decode b_law 420 = .ok (.laload, 1) := by decide +kernel
theorem d_law_421 : decode b_law 421 = .ok (.iload 6, 2) := by decide +kernel
theorem d_law_423 : decode b_law 423 = .ok (.i2l, 1) := by decide +kernel
theorem d_law_424 : decode b_law 424 = .ok (.lcmp, 1) := by decide +kernel
theorem d_law_425 : decode b_law 425 = .ok (.ifCond .eq 5, 3) := by decide +kernel
theorem d_law_430 : decode b_law 430 = .ok (.goto 84, 3) := by decide +kernel
theorem d_law_433 : decode b_law 433 = .ok (.aload_n 1, 1) := by decide +kernel
theorem d_law_434 : decode b_law 434 = .ok (.aload_n 0, 1) := by decide +kernel
theorem d_law_435 : decode b_law 435 = .ok (.iload 4, 2) := by decide +kernel
theorem d_law_437 : decode b_law 437 = .ok (.iconst 1, 1) := by decide +kernel
theorem d_law_438 : decode b_law 438 = .ok (.iadd, 1) := by decide +kernel
theorem d_law_439 : decode b_law 439 = .ok (.iaload, 1) := by decide +kernel
theorem d_law_440 : decode b_law 440 = .ok (.aload_n 0, 1) := by decide +kernel
theorem d_law_441 : decode b_law 441 = .ok (.iload 4, 2) := by decide +kernel
theorem d_law_443 : decode b_law 443 = .ok (.iconst 2, 1) := by decide +kernel
theorem d_law_444 : decode b_law 444 = .ok (.iadd, 1) := by decide +kernel
theorem d_law_445 : decode b_law 445 = .ok (.iaload, 1) := by decide +kernel
theorem d_law_446 : decode b_law 446 = .ok (.aload_n 3, 1) := by decide +kernel
theorem d_law_447 : decode b_law 447 = .ok (.invokestatic 69, 3) := by decide +kernel
theorem d_law_450 : decode b_law 450 = .ok (.istore 5, 2) := by decide +kernel
theorem d_law_452 : decode b_law 452 = .ok (.aload_n 2, 1) := by decide +kernel
theorem d_law_453 : decode b_law 453 = .ok (.aload_n 0, 1) := by decide +kernel
theorem d_law_454 : decode b_law 454 = .ok (.iload 4, 2) := by decide +kernel
theorem d_law_456 : decode b_law 456 = .ok (.iconst 1, 1) := by decide +kernel
theorem d_law_457 : decode b_law 457 = .ok (.iadd, 1) := by decide +kernel
theorem d_law_458 : decode b_law 458 = .ok (.iaload, 1) := by decide +kernel
theorem d_law_459 : decode b_law 459 = .ok (.aload_n 0, 1) := by decide +kernel
theorem d_law_460 : decode b_law 460 = .ok (.iload 4, 2) := by decide +kernel
theorem d_law_462 : decode b_law 462 = .ok (.iconst 2, 1) := by decide +kernel
theorem d_law_463 : decode b_law 463 = .ok (.iadd, 1) := by decide +kernel
theorem d_law_464 : decode b_law 464 = .ok (.iaload, 1) := by decide +kernel
theorem d_law_465 : decode b_law 465 = .ok (.invokevirtual 72, 3) := by decide +kernel
theorem d_law_468 : decode b_law 468 = .ok (.istore 6, 2) := by decide +kernel
theorem d_law_470 : decode b_law 470 = .ok (.aload_n 2, 1) := by decide +kernel
theorem d_law_471 : decode b_law 471 = .ok (.invokevirtual 48, 3) := by decide +kernel
theorem d_law_474 : decode b_law 474 = .ok (.iload 5, 2) := by decide +kernel
theorem d_law_476 : decode b_law 476 = .ok (.if_icmp .eq 5, 3) := by decide +kernel
theorem d_law_481 : decode b_law 481 = .ok (.iload 5, 2) := by decide +kernel
theorem d_law_483 : decode b_law 483 = .ok (.ifCond .ne 15, 3) := by decide +kernel
theorem d_law_498 : decode b_law 498 = .ok (.goto 16, 3) := by decide +kernel
theorem d_law_501 : decode b_law 501 = .ok (.aload_n 1, 1) := by decide +kernel
theorem d_law_502 : decode b_law 502 = .ok (.invokevirtual 73, 3) := by decide +kernel
theorem d_law_505 : decode b_law 505 = .ok (.aload_n 2, 1) := by decide +kernel
theorem d_law_506 : decode b_law 506 = .ok (.invokevirtual 76, 3) := by decide +kernel
theorem d_law_509 : decode b_law 509 = .ok (.if_icmp .eq 5, 3) := by decide +kernel
set_option maxRecDepth 20000 in
theorem w_51 : Cond.instantiable "VaryStore" 11 ∈ TB := tb_in 51 (by decide +kernel) (by decide +kernel)
set_option maxRecDepth 20000 in
theorem w_50 : Cond.classLink "VaryStoreLaw" 8 "VaryStore" ∈ TB := tb_in 50 (by decide +kernel) (by decide +kernel)
set_option maxRecDepth 20000 in
theorem w_54 : Cond.code ⟨"VaryStore", "<init>", "()V"⟩ prog_1_method_1_code 1 none ∈ TB := tb_in 54 (by decide +kernel) (by decide +kernel)
set_option maxRecDepth 20000 in
theorem w_52 : Cond.methodLink "VaryStoreLaw" 31 ⟨"VaryStore", "<init>", "()V"⟩ ∈ TB := tb_in 52 (by decide +kernel) (by decide +kernel)
set_option maxRecDepth 20000 in
theorem w_53 : Cond.instanceMethod ⟨"VaryStore", "<init>", "()V"⟩ ∈ TB := tb_in 53 (by decide +kernel) (by decide +kernel)
set_option maxRecDepth 20000 in
theorem w_702 : Cond.instantiable "VaryStoreModel" 9 ∈ TB := tb_in 702 (by decide +kernel) (by decide +kernel)
set_option maxRecDepth 20000 in
theorem w_701 : Cond.classLink "VaryStoreLaw" 32 "VaryStoreModel" ∈ TB := tb_in 701 (by decide +kernel) (by decide +kernel)
set_option maxRecDepth 20000 in
theorem w_705 : Cond.code ⟨"VaryStoreModel", "<init>", "()V"⟩ prog_8_method_1_code 1 none ∈ TB := tb_in 705 (by decide +kernel) (by decide +kernel)
set_option maxRecDepth 20000 in
theorem w_703 : Cond.methodLink "VaryStoreLaw" 34 ⟨"VaryStoreModel", "<init>", "()V"⟩ ∈ TB := tb_in 703 (by decide +kernel) (by decide +kernel)
set_option maxRecDepth 20000 in
theorem w_704 : Cond.instanceMethod ⟨"VaryStoreModel", "<init>", "()V"⟩ ∈ TB := tb_in 704 (by decide +kernel) (by decide +kernel)
set_option maxRecDepth 20000 in
theorem w_986 : Cond.arrayClass .long ∈ TB := tb_in 986 (by decide +kernel) (by decide +kernel)
set_option maxRecDepth 20000 in
theorem w_985 : Cond.constantLong "VaryStoreLaw" 35 4294967295 ∈ TB := tb_in 985 (by decide +kernel) (by decide +kernel)
set_option maxRecDepth 20000 in
theorem w_175 : Cond.code ⟨"VaryStore", "type", "(JI)Z"⟩ prog_1_method_2_code 5 (some .boolean) ∈ TB := tb_in 175 (by decide +kernel) (by decide +kernel)
set_option maxRecDepth 20000 in
theorem w_172 : Cond.methodLink "VaryStoreLaw" 37 ⟨"VaryStore", "type", "(JI)Z"⟩ ∈ TB := tb_in 172 (by decide +kernel) (by decide +kernel)
set_option maxRecDepth 20000 in
theorem w_173 : Cond.instanceMethod ⟨"VaryStore", "type", "(JI)Z"⟩ ∈ TB := tb_in 173 (by decide +kernel) (by decide +kernel)
set_option maxRecDepth 20000 in
theorem w_174 : Cond.selects "VaryStore" ⟨"VaryStore", "type", "(JI)Z"⟩ ⟨"VaryStore", "type", "(JI)Z"⟩ ∈ TB := tb_in 174 (by decide +kernel) (by decide +kernel)
set_option maxRecDepth 20000 in
theorem w_770 : Cond.code ⟨"VaryStoreModel", "type", "(JI)Z"⟩ prog_8_method_3_code 6 (some .boolean) ∈ TB := tb_in 770 (by decide +kernel) (by decide +kernel)
set_option maxRecDepth 20000 in
theorem w_767 : Cond.methodLink "VaryStoreLaw" 41 ⟨"VaryStoreModel", "type", "(JI)Z"⟩ ∈ TB := tb_in 767 (by decide +kernel) (by decide +kernel)
set_option maxRecDepth 20000 in
theorem w_768 : Cond.instanceMethod ⟨"VaryStoreModel", "type", "(JI)Z"⟩ ∈ TB := tb_in 768 (by decide +kernel) (by decide +kernel)
set_option maxRecDepth 20000 in
theorem w_769 : Cond.selects "VaryStoreModel" ⟨"VaryStoreModel", "type", "(JI)Z"⟩ ⟨"VaryStoreModel", "type", "(JI)Z"⟩ ∈ TB := tb_in 769 (by decide +kernel) (by decide +kernel)
set_option maxRecDepth 20000 in
theorem w_29 : Cond.initialized "VaryStoreLaw" ∈ TB := tb_in 29 (by decide +kernel) (by decide +kernel)
set_option maxRecDepth 20000 in
theorem w_210 : Cond.methodLink "VaryStoreLaw" 42 ⟨"VaryStoreLaw", "ask", "(LVaryStore;I[J)I"⟩ ∈ TB := tb_in 210 (by decide +kernel) (by decide +kernel)
set_option maxRecDepth 20000 in
theorem w_212 : Cond.codeWith ⟨"VaryStoreLaw", "ask", "(LVaryStore;I[J)I"⟩ method_3_code 4 (some .int) [(0, 9, 12, 13)] ∈ TB := tb_in 212 (by decide +kernel) (by decide +kernel)
set_option maxRecDepth 20000 in
theorem w_211 : Cond.static ⟨"VaryStoreLaw", "ask", "(LVaryStore;I[J)I"⟩ ∈ TB := tb_in 211 (by decide +kernel) (by decide +kernel)
set_option maxRecDepth 20000 in
theorem w_775 : Cond.code ⟨"VaryStoreModel", "ask", "(I)I"⟩ prog_8_method_35_code 6 (some .int) ∈ TB := tb_in 775 (by decide +kernel) (by decide +kernel)
set_option maxRecDepth 20000 in
theorem w_772 : Cond.methodLink "VaryStoreLaw" 47 ⟨"VaryStoreModel", "ask", "(I)I"⟩ ∈ TB := tb_in 772 (by decide +kernel) (by decide +kernel)
set_option maxRecDepth 20000 in
theorem w_773 : Cond.instanceMethod ⟨"VaryStoreModel", "ask", "(I)I"⟩ ∈ TB := tb_in 773 (by decide +kernel) (by decide +kernel)
set_option maxRecDepth 20000 in
theorem w_774 : Cond.selects "VaryStoreModel" ⟨"VaryStoreModel", "ask", "(I)I"⟩ ⟨"VaryStoreModel", "ask", "(I)I"⟩ ∈ TB := tb_in 774 (by decide +kernel) (by decide +kernel)
set_option maxRecDepth 20000 in
theorem w_766 : Cond.code ⟨"VaryStoreModel", "thrown", "()I"⟩ prog_8_method_2_code 1 (some .int) ∈ TB := tb_in 766 (by decide +kernel) (by decide +kernel)
set_option maxRecDepth 20000 in
theorem w_763 : Cond.methodLink "VaryStoreLaw" 48 ⟨"VaryStoreModel", "thrown", "()I"⟩ ∈ TB := tb_in 763 (by decide +kernel) (by decide +kernel)
set_option maxRecDepth 20000 in
theorem w_764 : Cond.instanceMethod ⟨"VaryStoreModel", "thrown", "()I"⟩ ∈ TB := tb_in 764 (by decide +kernel) (by decide +kernel)
set_option maxRecDepth 20000 in
theorem w_765 : Cond.selects "VaryStoreModel" ⟨"VaryStoreModel", "thrown", "()I"⟩ ⟨"VaryStoreModel", "thrown", "()I"⟩ ∈ TB := tb_in 765 (by decide +kernel) (by decide +kernel)
set_option maxRecDepth 20000 in
theorem w_505 : Cond.methodLink "VaryStoreLaw" 52 ⟨"VaryStoreLaw", "keep", "(LVaryStore;I[J)I"⟩ ∈ TB := tb_in 505 (by decide +kernel) (by decide +kernel)
set_option maxRecDepth 20000 in
theorem w_507 : Cond.codeWith ⟨"VaryStoreLaw", "keep", "(LVaryStore;I[J)I"⟩ method_4_code 4 (some .int) [(0, 16, 19, 13)] ∈ TB := tb_in 507 (by decide +kernel) (by decide +kernel)
set_option maxRecDepth 20000 in
theorem w_506 : Cond.static ⟨"VaryStoreLaw", "keep", "(LVaryStore;I[J)I"⟩ ∈ TB := tb_in 506 (by decide +kernel) (by decide +kernel)
set_option maxRecDepth 20000 in
theorem w_869 : Cond.code ⟨"VaryStoreModel", "keep", "(I)Z"⟩ prog_8_method_37_code 8 (some .boolean) ∈ TB := tb_in 869 (by decide +kernel) (by decide +kernel)
set_option maxRecDepth 20000 in
theorem w_866 : Cond.methodLink "VaryStoreLaw" 54 ⟨"VaryStoreModel", "keep", "(I)Z"⟩ ∈ TB := tb_in 866 (by decide +kernel) (by decide +kernel)
set_option maxRecDepth 20000 in
theorem w_867 : Cond.instanceMethod ⟨"VaryStoreModel", "keep", "(I)Z"⟩ ∈ TB := tb_in 867 (by decide +kernel) (by decide +kernel)
set_option maxRecDepth 20000 in
theorem w_868 : Cond.selects "VaryStoreModel" ⟨"VaryStoreModel", "keep", "(I)Z"⟩ ⟨"VaryStoreModel", "keep", "(I)Z"⟩ ∈ TB := tb_in 868 (by decide +kernel) (by decide +kernel)
set_option maxRecDepth 20000 in
theorem w_650 : Cond.methodLink "VaryStoreLaw" 55 ⟨"VaryStoreLaw", "again", "(LVaryStore;I[J)I"⟩ ∈ TB := tb_in 650 (by decide +kernel) (by decide +kernel)
set_option maxRecDepth 20000 in
theorem w_652 : Cond.codeWith ⟨"VaryStoreLaw", "again", "(LVaryStore;I[J)I"⟩ method_5_code 4 (some .int) [(0, 16, 19, 13)] ∈ TB := tb_in 652 (by decide +kernel) (by decide +kernel)
set_option maxRecDepth 20000 in
theorem w_651 : Cond.static ⟨"VaryStoreLaw", "again", "(LVaryStore;I[J)I"⟩ ∈ TB := tb_in 651 (by decide +kernel) (by decide +kernel)
set_option maxRecDepth 20000 in
theorem w_962 : Cond.code ⟨"VaryStoreModel", "again", "(I)Z"⟩ prog_8_method_39_code 7 (some .boolean) ∈ TB := tb_in 962 (by decide +kernel) (by decide +kernel)
set_option maxRecDepth 20000 in
theorem w_959 : Cond.methodLink "VaryStoreLaw" 57 ⟨"VaryStoreModel", "again", "(I)Z"⟩ ∈ TB := tb_in 959 (by decide +kernel) (by decide +kernel)
set_option maxRecDepth 20000 in
theorem w_960 : Cond.instanceMethod ⟨"VaryStoreModel", "again", "(I)Z"⟩ ∈ TB := tb_in 960 (by decide +kernel) (by decide +kernel)
set_option maxRecDepth 20000 in
theorem w_961 : Cond.selects "VaryStoreModel" ⟨"VaryStoreModel", "again", "(I)Z"⟩ ⟨"VaryStoreModel", "again", "(I)Z"⟩ ∈ TB := tb_in 961 (by decide +kernel) (by decide +kernel)
set_option maxRecDepth 20000 in
theorem w_189 : Cond.code ⟨"VaryStore", "fault", "()I"⟩ prog_1_method_6_code 1 (some .int) ∈ TB := tb_in 189 (by decide +kernel) (by decide +kernel)
set_option maxRecDepth 20000 in
theorem w_186 : Cond.methodLink "VaryStoreLaw" 58 ⟨"VaryStore", "fault", "()I"⟩ ∈ TB := tb_in 186 (by decide +kernel) (by decide +kernel)
set_option maxRecDepth 20000 in
theorem w_187 : Cond.instanceMethod ⟨"VaryStore", "fault", "()I"⟩ ∈ TB := tb_in 187 (by decide +kernel) (by decide +kernel)
set_option maxRecDepth 20000 in
theorem w_188 : Cond.selects "VaryStore" ⟨"VaryStore", "fault", "()I"⟩ ⟨"VaryStore", "fault", "()I"⟩ ∈ TB := tb_in 188 (by decide +kernel) (by decide +kernel)
set_option maxRecDepth 20000 in
theorem w_966 : Cond.code ⟨"VaryStoreModel", "fault", "()I"⟩ prog_8_method_40_code 1 (some .int) ∈ TB := tb_in 966 (by decide +kernel) (by decide +kernel)
set_option maxRecDepth 20000 in
theorem w_963 : Cond.methodLink "VaryStoreLaw" 61 ⟨"VaryStoreModel", "fault", "()I"⟩ ∈ TB := tb_in 963 (by decide +kernel) (by decide +kernel)
set_option maxRecDepth 20000 in
theorem w_964 : Cond.instanceMethod ⟨"VaryStoreModel", "fault", "()I"⟩ ∈ TB := tb_in 964 (by decide +kernel) (by decide +kernel)
set_option maxRecDepth 20000 in
theorem w_965 : Cond.selects "VaryStoreModel" ⟨"VaryStoreModel", "fault", "()I"⟩ ⟨"VaryStoreModel", "fault", "()I"⟩ ∈ TB := tb_in 965 (by decide +kernel) (by decide +kernel)
set_option maxRecDepth 20000 in
theorem w_193 : Cond.code ⟨"VaryStore", "purge", "(I)I"⟩ prog_1_method_7_code 5 (some .int) ∈ TB := tb_in 193 (by decide +kernel) (by decide +kernel)
set_option maxRecDepth 20000 in
theorem w_190 : Cond.methodLink "VaryStoreLaw" 62 ⟨"VaryStore", "purge", "(I)I"⟩ ∈ TB := tb_in 190 (by decide +kernel) (by decide +kernel)
set_option maxRecDepth 20000 in
theorem w_191 : Cond.instanceMethod ⟨"VaryStore", "purge", "(I)I"⟩ ∈ TB := tb_in 191 (by decide +kernel) (by decide +kernel)
set_option maxRecDepth 20000 in
theorem w_192 : Cond.selects "VaryStore" ⟨"VaryStore", "purge", "(I)I"⟩ ⟨"VaryStore", "purge", "(I)I"⟩ ∈ TB := tb_in 192 (by decide +kernel) (by decide +kernel)
set_option maxRecDepth 20000 in
theorem w_970 : Cond.code ⟨"VaryStoreModel", "purge", "(I)I"⟩ prog_8_method_41_code 4 (some .int) ∈ TB := tb_in 970 (by decide +kernel) (by decide +kernel)
set_option maxRecDepth 20000 in
theorem w_967 : Cond.methodLink "VaryStoreLaw" 65 ⟨"VaryStoreModel", "purge", "(I)I"⟩ ∈ TB := tb_in 967 (by decide +kernel) (by decide +kernel)
set_option maxRecDepth 20000 in
theorem w_968 : Cond.instanceMethod ⟨"VaryStoreModel", "purge", "(I)I"⟩ ∈ TB := tb_in 968 (by decide +kernel) (by decide +kernel)
set_option maxRecDepth 20000 in
theorem w_969 : Cond.selects "VaryStoreModel" ⟨"VaryStoreModel", "purge", "(I)I"⟩ ⟨"VaryStoreModel", "purge", "(I)I"⟩ ∈ TB := tb_in 969 (by decide +kernel) (by decide +kernel)
set_option maxRecDepth 20000 in
theorem w_662 : Cond.methodLink "VaryStoreLaw" 66 ⟨"VaryStoreLaw", "pass", "(LVaryStore;I[J)I"⟩ ∈ TB := tb_in 662 (by decide +kernel) (by decide +kernel)
set_option maxRecDepth 20000 in
theorem w_664 : Cond.codeWith ⟨"VaryStoreLaw", "pass", "(LVaryStore;I[J)I"⟩ method_6_code 4 (some .int) [(0, 9, 12, 13)] ∈ TB := tb_in 664 (by decide +kernel) (by decide +kernel)
set_option maxRecDepth 20000 in
theorem w_663 : Cond.static ⟨"VaryStoreLaw", "pass", "(LVaryStore;I[J)I"⟩ ∈ TB := tb_in 663 (by decide +kernel) (by decide +kernel)
set_option maxRecDepth 20000 in
theorem w_974 : Cond.code ⟨"VaryStoreModel", "pass", "(I)I"⟩ prog_8_method_42_code 2 (some .int) ∈ TB := tb_in 974 (by decide +kernel) (by decide +kernel)
set_option maxRecDepth 20000 in
theorem w_971 : Cond.methodLink "VaryStoreLaw" 68 ⟨"VaryStoreModel", "pass", "(I)I"⟩ ∈ TB := tb_in 971 (by decide +kernel) (by decide +kernel)
set_option maxRecDepth 20000 in
theorem w_972 : Cond.instanceMethod ⟨"VaryStoreModel", "pass", "(I)I"⟩ ∈ TB := tb_in 972 (by decide +kernel) (by decide +kernel)
set_option maxRecDepth 20000 in
theorem w_973 : Cond.selects "VaryStoreModel" ⟨"VaryStoreModel", "pass", "(I)I"⟩ ⟨"VaryStoreModel", "pass", "(I)I"⟩ ∈ TB := tb_in 973 (by decide +kernel) (by decide +kernel)
set_option maxRecDepth 20000 in
theorem w_672 : Cond.methodLink "VaryStoreLaw" 69 ⟨"VaryStoreLaw", "thing", "(LVaryStore;II[J)I"⟩ ∈ TB := tb_in 672 (by decide +kernel) (by decide +kernel)
set_option maxRecDepth 20000 in
theorem w_674 : Cond.codeWith ⟨"VaryStoreLaw", "thing", "(LVaryStore;II[J)I"⟩ method_7_code 5 (some .int) [(0, 10, 13, 29)] ∈ TB := tb_in 674 (by decide +kernel) (by decide +kernel)
set_option maxRecDepth 20000 in
theorem w_673 : Cond.static ⟨"VaryStoreLaw", "thing", "(LVaryStore;II[J)I"⟩ ∈ TB := tb_in 673 (by decide +kernel) (by decide +kernel)
set_option maxRecDepth 20000 in
theorem w_980 : Cond.code ⟨"VaryStoreModel", "thing", "(II)I"⟩ prog_8_method_43_code 6 (some .int) ∈ TB := tb_in 980 (by decide +kernel) (by decide +kernel)
set_option maxRecDepth 20000 in
theorem w_977 : Cond.methodLink "VaryStoreLaw" 72 ⟨"VaryStoreModel", "thing", "(II)I"⟩ ∈ TB := tb_in 977 (by decide +kernel) (by decide +kernel)
set_option maxRecDepth 20000 in
theorem w_978 : Cond.instanceMethod ⟨"VaryStoreModel", "thing", "(II)I"⟩ ∈ TB := tb_in 978 (by decide +kernel) (by decide +kernel)
set_option maxRecDepth 20000 in
theorem w_979 : Cond.selects "VaryStoreModel" ⟨"VaryStoreModel", "thing", "(II)I"⟩ ⟨"VaryStoreModel", "thing", "(II)I"⟩ ∈ TB := tb_in 979 (by decide +kernel) (by decide +kernel)
set_option maxRecDepth 20000 in
theorem w_209 : Cond.code ⟨"VaryStore", "things", "()I"⟩ prog_1_method_10_code 1 (some .int) ∈ TB := tb_in 209 (by decide +kernel) (by decide +kernel)
set_option maxRecDepth 20000 in
theorem w_206 : Cond.methodLink "VaryStoreLaw" 73 ⟨"VaryStore", "things", "()I"⟩ ∈ TB := tb_in 206 (by decide +kernel) (by decide +kernel)
set_option maxRecDepth 20000 in
theorem w_207 : Cond.instanceMethod ⟨"VaryStore", "things", "()I"⟩ ∈ TB := tb_in 207 (by decide +kernel) (by decide +kernel)
set_option maxRecDepth 20000 in
theorem w_208 : Cond.selects "VaryStore" ⟨"VaryStore", "things", "()I"⟩ ⟨"VaryStore", "things", "()I"⟩ ∈ TB := tb_in 208 (by decide +kernel) (by decide +kernel)
set_option maxRecDepth 20000 in
theorem w_984 : Cond.code ⟨"VaryStoreModel", "things", "()I"⟩ prog_8_method_44_code 1 (some .int) ∈ TB := tb_in 984 (by decide +kernel) (by decide +kernel)
set_option maxRecDepth 20000 in
theorem w_981 : Cond.methodLink "VaryStoreLaw" 76 ⟨"VaryStoreModel", "things", "()I"⟩ ∈ TB := tb_in 981 (by decide +kernel) (by decide +kernel)
set_option maxRecDepth 20000 in
theorem w_982 : Cond.instanceMethod ⟨"VaryStoreModel", "things", "()I"⟩ ∈ TB := tb_in 982 (by decide +kernel) (by decide +kernel)
set_option maxRecDepth 20000 in
theorem w_983 : Cond.selects "VaryStoreModel" ⟨"VaryStoreModel", "things", "()I"⟩ ⟨"VaryStoreModel", "things", "()I"⟩ ∈ TB := tb_in 983 (by decide +kernel) (by decide +kernel)
set_option maxRecDepth 100000 in
set_option maxHeartbeats 8000000 in
theorem c_law (Γ : GE) {b L n : Nat} {xs : Nat → Int32} (hL : L ≤ 4) : G Γ k_law (lwA n) (lwE b L n xs) 0 0 (fun _ => none) n 0 [some (.ref b), none, none, none, none, none, none] [] := by
  obtain ⟨y0, y0a, y0b, e0⟩ := i32_Z (xs 0)
  obtain ⟨y1, y1a, y1b, e1⟩ := i32_Z (xs 1)
  obtain ⟨y2, y2a, y2b, e2⟩ := i32_Z (xs 2)
  obtain ⟨y3, y3a, y3b, e3⟩ := i32_Z (xs 3)
  refine g_new (ci := 0) t_VS [.null, .null, .null, .null, .int (iI (0)), .int (iI (0)), .null, .null, .null, .null, .null] rfl uw_VS to_VS (fun j hj => by rcases (show j = 0 ∨ j = 1 ∨ j = 2 ∨ j = 3 ∨ j = 4 ∨ j = 5 ∨ j = 6 ∨ j = 7 ∨ j = 8 ∨ j = 9 ∨ j = 10 by omega) with rfl | rfl | rfl | rfl | rfl | rfl | rfl | rfl | rfl | rfl | rfl <;> rfl) d_law_0 w_50 w_51 w_30 (by decide) (by decide) ?_
  refine g_dup d_law_3 rfl ?_
  refine g_callI0 (ν := k_VS_init) ⟨w_52, w_30, w_54, by decide, by decide, by decide +kernel⟩ w_53 rfl rfl (c_VS_init Γ (n)  (hu_same _ _ _)) d_law_4 ⟨⟨by decide, by decide⟩, ⟨by decide, by decide⟩⟩ (Nat.le_of_ble_eq_true rfl) (fun v1 M1 n1 hQ1 hn1 hd1 => ?_)
  obtain ⟨rfl, hf1, rfl, hw1_0, hw1_1, hw1_2, hw1_3, hw1_4, hw1_5, hw1_6, hw1_7, hw1_8, hw1_9, hw1_10, hw1_11, hw1_12, hw1_13, hw1_14, hw1_15, hw1_16, hw1_17, hw1_18, hw1_19, hw1_20, hw1_21, hw1_22, hw1_23, hw1_24, hw1_25, hw1_26, hw1_27, hw1_28, hw1_29, hw1_30, hw1_31, hw1_32⟩ := hQ1
  refine g_astore_n d_law_7 (by decide) rfl ?_
  refine g_new (ci := 6) t_Mo [.null, .int (iI (0)), .int (iI (0)), .int (iI (0)), .int (iI (0)), .long (0), .null, .null, .int (iI (0))] rfl uw_Mo to_Mo (fun j hj => by rcases (show j = 0 ∨ j = 1 ∨ j = 2 ∨ j = 3 ∨ j = 4 ∨ j = 5 ∨ j = 6 ∨ j = 7 ∨ j = 8 by omega) with rfl | rfl | rfl | rfl | rfl | rfl | rfl | rfl | rfl <;> rfl) d_law_8 w_701 w_702 w_35 (by decide) (by decide) ?_
  refine g_dup d_law_11 rfl ?_
  refine g_callI0 (ν := k_Mo_init) ⟨w_703, w_35, w_705, by decide, by decide, by decide +kernel⟩ w_704 rfl rfl (c_Mo_init Γ (n + 33)  (hu_same _ _ _)) d_law_12 ⟨⟨by decide, by decide⟩, ⟨by decide, by decide⟩⟩ (Nat.le_of_ble_eq_true rfl) (fun v2 M2 n2 hQ2 hn2 hd2 => ?_)
  obtain ⟨rfl, hf2, rfl, hw2_0, hw2_1, hw2_2, hw2_3, hw2_4, hw2_5, hw2_6, hw2_7⟩ := hQ2
  refine g_astore_n d_law_15 (by decide) rfl ?_
  refine g_iconst d_law_16 ?_
  refine g_newal (k := 1) d_law_17 w_986 (by decide) (by decide) (by decide) ?_
  refine g_astore_n d_law_19 (by decide) rfl ?_
  refine g_iconst d_law_20 ?_
  refine g_istore d_law_21 (by decide) rfl ?_
  refine g_iload d_law_23 rfl ?_
  refine g_aload_n d_law_25 rfl ?_
  refine g_slen d_law_26 ?_
  refine g_iconst d_law_27 ?_
  refine g_isub d_law_28 ?_
  refine g_icmp_gt (tgt := 520) d_law_29 (by decide) (fun h3 => ?_) (fun h3 => ?_)
  · skip
    refine g_iconst d_law_520 ?_
    exact g_lend d_law_521 (by decide) (by decide)
  · skip
    refine g_aload_n d_law_32 rfl ?_
    refine g_iload d_law_33 rfl ?_
    refine g_sld (z := y0) d_law_35 (by omega) (by omega) (by omega) e0 ?_
    refine g_bipush d_law_36 (by decide) ?_
    obtain ⟨j4, hj4, ej4⟩ := and15 (iI (y0))
    refine g_iand d_law_38 ej4 ?_
    rcases (show j4 = 0 ∨ j4 = 1 ∨ j4 = 2 ∨ j4 = 3 ∨ j4 = 4 ∨ j4 = 5 ∨ j4 = 6 ∨ j4 = 7 ∨ j4 = 8 ∨ 9 ≤ j4 by omega) with rfl | rfl | rfl | rfl | rfl | rfl | rfl | rfl | rfl | hj9
    · skip
      refine g_tableIn (tgt := 88) d_law_39 (by decide) (by decide) (by decide) (by decide) rfl (by decide) ?_
      refine g_aload_n d_law_88 rfl ?_
      refine g_aload_n d_law_89 rfl ?_
      refine g_iload d_law_90 rfl ?_
      refine g_iconst d_law_92 ?_
      refine g_iadd d_law_93 ?_
      refine g_sld (z := y1) d_law_94 (by omega) (by omega) (by omega) e1 ?_
      refine g_i2l d_law_95 rfl ?_
      refine g_bipush d_law_96 (by decide) ?_
      refine g_lshl d_law_98 rfl ?_
      refine g_aload_n d_law_99 rfl ?_
      refine g_iload d_law_100 rfl ?_
      refine g_iconst d_law_102 ?_
      refine g_iadd d_law_103 ?_
      refine g_sld (z := y2) d_law_104 (by omega) (by omega) (by omega) e2 ?_
      refine g_i2l d_law_105 rfl ?_
      refine g_ldcL w_985 d_law_106 ?_
      refine g_land d_law_109 ?_
      refine g_lor d_law_110 ?_
      refine g_aload_n d_law_111 rfl ?_
      refine g_iload d_law_112 rfl ?_
      refine g_iconst d_law_114 ?_
      refine g_iadd d_law_115 ?_
      refine g_sld (z := y3) d_law_116 (by omega) (by omega) (by omega) e3 ?_
      refine g_callV2 (ν := k_VS_type) ⟨w_172, w_30, w_175, by decide, by decide, by decide +kernel⟩ w_173 w_174 (c_VS_type Γ (n) (n + 5) (n + 11) ((-1)) (0) ((((iI (y1)).toInt64 <<< ((iI (32)).toInt64 &&& 63)) ||| ((iI (y2)).toInt64 &&& 4294967295))) (y3) (fun _ => iI 0) (by omega) (by omega) ((hu_ne (by omega)).trans ((hf2 (n) (by omega) (by omega) (by omega) (by omega) (by omega) (by omega) (by omega) (by omega)).trans ((hu_ne (by omega)).trans hw1_2))) ((hu_ne (by omega)).trans ((hf2 (n + 1) (by omega) (by omega) (by omega) (by omega) (by omega) (by omega) (by omega) (by omega)).trans ((hu_ne (by omega)).trans hw1_0))) ((hu_ne (by omega)).trans ((hf2 (n + 1 + 1) (by omega) (by omega) (by omega) (by omega) (by omega) (by omega) (by omega) (by omega)).trans ((hu_ne (by omega)).trans hw1_1)))) d_law_117 ((hu_ne (by omega)).trans ((hf2 (n) (by omega) (by omega) (by omega) (by omega) (by omega) (by omega) (by omega) (by omega)).trans ((hu_ne (by omega)).trans hw1_2))) rfl rfl ⟨⟨by decide, by decide⟩, ⟨by decide, by decide⟩⟩ (Nat.le_of_ble_eq_true rfl) (fun v5 M5 n5 hQ5 hn5 hd5 => ?_)
      obtain ⟨rfl, hf5, hor5⟩ := hQ5
      rcases hor5 with ⟨rfl, hc5⟩ | ⟨rfl, hc5⟩
      · skip
        refine g_aload_n d_law_120 rfl ?_
        refine g_aload_n d_law_121 rfl ?_
        refine g_iload d_law_122 rfl ?_
        refine g_iconst d_law_124 ?_
        refine g_iadd d_law_125 ?_
        refine g_sld (z := y1) d_law_126 (by omega) (by omega) (by omega) e1 ?_
        refine g_i2l d_law_127 rfl ?_
        refine g_bipush d_law_128 (by decide) ?_
        refine g_lshl d_law_130 rfl ?_
        refine g_aload_n d_law_131 rfl ?_
        refine g_iload d_law_132 rfl ?_
        refine g_iconst d_law_134 ?_
        refine g_iadd d_law_135 ?_
        refine g_sld (z := y2) d_law_136 (by omega) (by omega) (by omega) e2 ?_
        refine g_i2l d_law_137 rfl ?_
        refine g_ldcL w_985 d_law_138 ?_
        refine g_land d_law_141 ?_
        refine g_lor d_law_142 ?_
        refine g_aload_n d_law_143 rfl ?_
        refine g_iload d_law_144 rfl ?_
        refine g_iconst d_law_146 ?_
        refine g_iadd d_law_147 ?_
        refine g_sld (z := y3) d_law_148 (by omega) (by omega) (by omega) e3 ?_
        refine g_callV2 (ν := k_Mo_type) ⟨w_767, w_35, w_770, by decide, by decide, by decide +kernel⟩ w_768 w_769 (c_Mo_type Γ (n + 33) ((-1)) (0) (0) (0) (n + 35) ((((iI (y1)).toInt64 <<< ((iI (32)).toInt64 &&& 63)) ||| ((iI (y2)).toInt64 &&& 4294967295))) (y3) (fun _ => iI 0) (by omega) (by omega) ((hf5 ((n + 33)) (by omega) (by omega)).trans ((hu_ne (by omega)).trans hw2_1)) ((hf5 ((n + 33) + 1) (by omega) (by omega)).trans ((hu_ne (by omega)).trans hw2_0))) d_law_149 ((hf5 (n + 33) (by omega) (by omega)).trans ((hu_ne (by omega)).trans hw2_1)) rfl rfl ⟨⟨by decide, by decide⟩, ⟨by decide, by decide⟩⟩ (Nat.le_of_ble_eq_true rfl) (fun v6 M6 n6 hQ6 hn6 hd6 => ?_)
        obtain ⟨rfl, hf6, hor6⟩ := hQ6
        rcases hor6 with ⟨rfl, hc6⟩ | ⟨rfl, hc6⟩
        · skip
          refine g_icmp_eq (tgt := 514) d_law_152 (by decide) (fun _ => ?_) (fun h7 => False.elim (by omega))
          refine g_iinc d_law_514 rfl (by decide) rfl ?_
          refine g_goto (tgt := 23) d_law_517 (by decide) ?_
          refine g_iload d_law_23 rfl ?_
          refine g_aload_n d_law_25 rfl ?_
          refine g_slen d_law_26 ?_
          refine g_iconst d_law_27 ?_
          refine g_isub d_law_28 ?_
          refine g_icmp_gt (tgt := 520) d_law_29 (by decide) (fun h8 => ?_) (fun h8 => False.elim (by omega))
          refine g_iconst d_law_520 ?_
          exact g_lend d_law_521 (by decide) (by decide)
        · skip
          exact absurd hc5 hc6
      · skip
        refine g_aload_n d_law_120 rfl ?_
        refine g_aload_n d_law_121 rfl ?_
        refine g_iload d_law_122 rfl ?_
        refine g_iconst d_law_124 ?_
        refine g_iadd d_law_125 ?_
        refine g_sld (z := y1) d_law_126 (by omega) (by omega) (by omega) e1 ?_
        refine g_i2l d_law_127 rfl ?_
        refine g_bipush d_law_128 (by decide) ?_
        refine g_lshl d_law_130 rfl ?_
        refine g_aload_n d_law_131 rfl ?_
        refine g_iload d_law_132 rfl ?_
        refine g_iconst d_law_134 ?_
        refine g_iadd d_law_135 ?_
        refine g_sld (z := y2) d_law_136 (by omega) (by omega) (by omega) e2 ?_
        refine g_i2l d_law_137 rfl ?_
        refine g_ldcL w_985 d_law_138 ?_
        refine g_land d_law_141 ?_
        refine g_lor d_law_142 ?_
        refine g_aload_n d_law_143 rfl ?_
        refine g_iload d_law_144 rfl ?_
        refine g_iconst d_law_146 ?_
        refine g_iadd d_law_147 ?_
        refine g_sld (z := y3) d_law_148 (by omega) (by omega) (by omega) e3 ?_
        refine g_callV2 (ν := k_Mo_type) ⟨w_767, w_35, w_770, by decide, by decide, by decide +kernel⟩ w_768 w_769 (c_Mo_type Γ (n + 33) ((-1)) (0) (0) (0) (n + 35) ((((iI (y1)).toInt64 <<< ((iI (32)).toInt64 &&& 63)) ||| ((iI (y2)).toInt64 &&& 4294967295))) (y3) (fun _ => iI 0) (by omega) (by omega) ((hf5 ((n + 33)) (by omega) (by omega)).trans ((hu_ne (by omega)).trans hw2_1)) ((hf5 ((n + 33) + 1) (by omega) (by omega)).trans ((hu_ne (by omega)).trans hw2_0))) d_law_149 ((hf5 (n + 33) (by omega) (by omega)).trans ((hu_ne (by omega)).trans hw2_1)) rfl rfl ⟨⟨by decide, by decide⟩, ⟨by decide, by decide⟩⟩ (Nat.le_of_ble_eq_true rfl) (fun v9 M9 n9 hQ9 hn9 hd9 => ?_)
        obtain ⟨rfl, hf9, hor9⟩ := hQ9
        rcases hor9 with ⟨rfl, hc9⟩ | ⟨rfl, hc9⟩
        · skip
          exact absurd hc9 hc5
        · skip
          refine g_icmp_eq (tgt := 514) d_law_152 (by decide) (fun _ => ?_) (fun h10 => False.elim (by omega))
          refine g_iinc d_law_514 rfl (by decide) rfl ?_
          refine g_goto (tgt := 23) d_law_517 (by decide) ?_
          refine g_iload d_law_23 rfl ?_
          refine g_aload_n d_law_25 rfl ?_
          refine g_slen d_law_26 ?_
          refine g_iconst d_law_27 ?_
          refine g_isub d_law_28 ?_
          refine g_icmp_gt (tgt := 520) d_law_29 (by decide) (fun h11 => ?_) (fun h11 => False.elim (by omega))
          refine g_iconst d_law_520 ?_
          exact g_lend d_law_521 (by decide) (by decide)
    · skip
      refine g_tableIn (tgt := 157) d_law_39 (by decide) (by decide) (by decide) (by decide) rfl (by decide) ?_
      refine g_aload_n d_law_157 rfl ?_
      refine g_aload_n d_law_158 rfl ?_
      refine g_iload d_law_159 rfl ?_
      refine g_iconst d_law_161 ?_
      refine g_iadd d_law_162 ?_
      refine g_sld (z := y1) d_law_163 (by omega) (by omega) (by omega) e1 ?_
      refine g_aload_n d_law_164 rfl ?_
      refine g_callSW3 (ν := k_La_ask) ⟨w_210, w_29, w_212, by decide, by decide, by decide +kernel⟩ w_211 (c_La_ask Γ (n) (y1) (n + 41) (fun _ => 0) (by omega) (by omega) (by omega) (by omega) (by omega) ((hu_ne (by omega)).trans ((hf2 (n + 1) (by omega) (by omega) (by omega) (by omega) (by omega) (by omega) (by omega) (by omega)).trans ((hu_ne (by omega)).trans hw1_0))) ((hu_ne (by omega)).trans ((hf2 (n + 2) (by omega) (by omega) (by omega) (by omega) (by omega) (by omega) (by omega) (by omega)).trans ((hu_ne (by omega)).trans hw1_1))) ((hu_ne (by omega)).trans ((hf2 (n) (by omega) (by omega) (by omega) (by omega) (by omega) (by omega) (by omega) (by omega)).trans ((hu_ne (by omega)).trans hw1_2))) ((hu_ne (by omega)).trans ((hf2 (n + 3) (by omega) (by omega) (by omega) (by omega) (by omega) (by omega) (by omega) (by omega)).trans ((hu_ne (by omega)).trans hw1_3))) ((hu_ne (by omega)).trans ((hf2 (n + 4) (by omega) (by omega) (by omega) (by omega) (by omega) (by omega) (by omega) (by omega)).trans ((hu_ne (by omega)).trans hw1_4))) ((hu_ne (by omega)).trans ((hf2 (n + 5) (by omega) (by omega) (by omega) (by omega) (by omega) (by omega) (by omega) (by omega)).trans ((hu_ne (by omega)).trans hw1_5))) ((hu_ne (by omega)).trans ((hf2 (n + 6) (by omega) (by omega) (by omega) (by omega) (by omega) (by omega) (by omega) (by omega)).trans ((hu_ne (by omega)).trans hw1_6))) ((hu_ne (by omega)).trans ((hf2 (n + 7) (by omega) (by omega) (by omega) (by omega) (by omega) (by omega) (by omega) (by omega)).trans ((hu_ne (by omega)).trans hw1_7))) ((hu_ne (by omega)).trans ((hf2 (n + 8) (by omega) (by omega) (by omega) (by omega) (by omega) (by omega) (by omega) (by omega)).trans ((hu_ne (by omega)).trans hw1_8))) ((hu_ne (by omega)).trans ((hf2 (n + 9) (by omega) (by omega) (by omega) (by omega) (by omega) (by omega) (by omega) (by omega)).trans ((hu_ne (by omega)).trans hw1_9))) ((hu_ne (by omega)).trans ((hf2 (n + 10) (by omega) (by omega) (by omega) (by omega) (by omega) (by omega) (by omega) (by omega)).trans ((hu_ne (by omega)).trans hw1_10))) ((hu_ne (by omega)).trans ((hf2 (n + 11) (by omega) (by omega) (by omega) (by omega) (by omega) (by omega) (by omega) (by omega)).trans ((hu_ne (by omega)).trans hw1_11))) ((hu_ne (by omega)).trans ((hf2 (n + 12) (by omega) (by omega) (by omega) (by omega) (by omega) (by omega) (by omega) (by omega)).trans ((hu_ne (by omega)).trans hw1_12))) ((hu_ne (by omega)).trans ((hf2 (n + 13) (by omega) (by omega) (by omega) (by omega) (by omega) (by omega) (by omega) (by omega)).trans ((hu_ne (by omega)).trans hw1_13))) ((hu_ne (by omega)).trans ((hf2 (n + 14) (by omega) (by omega) (by omega) (by omega) (by omega) (by omega) (by omega) (by omega)).trans ((hu_ne (by omega)).trans hw1_14))) ((hu_ne (by omega)).trans ((hf2 (n + 15) (by omega) (by omega) (by omega) (by omega) (by omega) (by omega) (by omega) (by omega)).trans ((hu_ne (by omega)).trans hw1_15))) ((hu_ne (by omega)).trans ((hf2 (n + 16) (by omega) (by omega) (by omega) (by omega) (by omega) (by omega) (by omega) (by omega)).trans ((hu_ne (by omega)).trans hw1_16))) ((hu_ne (by omega)).trans ((hf2 (n + 17) (by omega) (by omega) (by omega) (by omega) (by omega) (by omega) (by omega) (by omega)).trans ((hu_ne (by omega)).trans hw1_17))) ((hu_ne (by omega)).trans ((hf2 (n + 18) (by omega) (by omega) (by omega) (by omega) (by omega) (by omega) (by omega) (by omega)).trans ((hu_ne (by omega)).trans hw1_18))) ((hu_ne (by omega)).trans ((hf2 (n + 19) (by omega) (by omega) (by omega) (by omega) (by omega) (by omega) (by omega) (by omega)).trans ((hu_ne (by omega)).trans hw1_19))) ((hu_ne (by omega)).trans ((hf2 (n + 20) (by omega) (by omega) (by omega) (by omega) (by omega) (by omega) (by omega) (by omega)).trans ((hu_ne (by omega)).trans hw1_20))) ((hu_ne (by omega)).trans ((hf2 (n + 21) (by omega) (by omega) (by omega) (by omega) (by omega) (by omega) (by omega) (by omega)).trans ((hu_ne (by omega)).trans hw1_21))) ((hu_ne (by omega)).trans ((hf2 (n + 22) (by omega) (by omega) (by omega) (by omega) (by omega) (by omega) (by omega) (by omega)).trans ((hu_ne (by omega)).trans hw1_22))) ((hu_ne (by omega)).trans ((hf2 (n + 23) (by omega) (by omega) (by omega) (by omega) (by omega) (by omega) (by omega) (by omega)).trans ((hu_ne (by omega)).trans hw1_23))) ((hu_ne (by omega)).trans ((hf2 (n + 24) (by omega) (by omega) (by omega) (by omega) (by omega) (by omega) (by omega) (by omega)).trans ((hu_ne (by omega)).trans hw1_24))) ((hu_ne (by omega)).trans ((hf2 (n + 25) (by omega) (by omega) (by omega) (by omega) (by omega) (by omega) (by omega) (by omega)).trans ((hu_ne (by omega)).trans hw1_25))) ((hu_ne (by omega)).trans ((hf2 (n + 26) (by omega) (by omega) (by omega) (by omega) (by omega) (by omega) (by omega) (by omega)).trans ((hu_ne (by omega)).trans hw1_26))) ((hu_ne (by omega)).trans ((hf2 (n + 27) (by omega) (by omega) (by omega) (by omega) (by omega) (by omega) (by omega) (by omega)).trans ((hu_ne (by omega)).trans hw1_27))) ((hu_ne (by omega)).trans ((hf2 (n + 28) (by omega) (by omega) (by omega) (by omega) (by omega) (by omega) (by omega) (by omega)).trans ((hu_ne (by omega)).trans hw1_28))) ((hu_ne (by omega)).trans ((hf2 (n + 29) (by omega) (by omega) (by omega) (by omega) (by omega) (by omega) (by omega) (by omega)).trans ((hu_ne (by omega)).trans hw1_29))) ((hu_ne (by omega)).trans ((hf2 (n + 30) (by omega) (by omega) (by omega) (by omega) (by omega) (by omega) (by omega) (by omega)).trans ((hu_ne (by omega)).trans hw1_30))) ((hu_ne (by omega)).trans ((hf2 (n + 31) (by omega) (by omega) (by omega) (by omega) (by omega) (by omega) (by omega) (by omega)).trans ((hu_ne (by omega)).trans hw1_31))) ((hu_ne (by omega)).trans ((hf2 (n + 32) (by omega) (by omega) (by omega) (by omega) (by omega) (by omega) (by omega) (by omega)).trans ((hu_ne (by omega)).trans hw1_32))) (hu_same _ _ _)) d_law_165 ⟨⟨by decide, by decide⟩, ⟨by decide, by decide⟩⟩ (Nat.le_of_ble_eq_true rfl) (fun v12 M12 n12 hQ12 hn12 hd12 => ?_)
      obtain ⟨hle12, hf12, hor12⟩ := hQ12
      rcases hor12 with ⟨rfl, ho12, hc12⟩ | ⟨rfl, hc12⟩
      · skip
        refine g_istore d_law_168 (by decide) rfl ?_
        refine g_aload_n d_law_170 rfl ?_
        refine g_aload_n d_law_171 rfl ?_
        refine g_iload d_law_172 rfl ?_
        refine g_iconst d_law_174 ?_
        refine g_iadd d_law_175 ?_
        refine g_sld (z := y1) d_law_176 (by omega) (by omega) (by omega) e1 ?_
        refine g_callV1 (ν := k_Mo_ask1) ⟨w_772, w_35, w_775, by decide, by decide, by decide +kernel⟩ w_773 w_774 (c_Mo_ask1 Γ (n + 33) ((-1)) (0) (0) (0) (n + 35) (y1) (by omega) (by omega) (by omega) ((hf12 ((n + 33)) (by omega) (by omega) (by omega)).trans ((hu_ne (by omega)).trans hw2_1))) d_law_177 ((hf12 (n + 33) (by omega) (by omega) (by omega)).trans ((hu_ne (by omega)).trans hw2_1)) rfl rfl ⟨⟨by decide, by decide⟩, ⟨by decide, by decide⟩⟩ (Nat.le_of_ble_eq_true rfl) (fun v13 M13 n13 hQ13 hn13 hd13 => ?_)
        obtain ⟨rfl, hf13, rfl, hw13_0, hw13_1, hw13_2, hw13_3, hw13_4, hw13_5⟩ := hQ13
        refine g_istore d_law_180 (by decide) rfl ?_
        refine g_aload_n d_law_182 rfl ?_
        refine g_callV0 (ν := k_Mo_thrown) ⟨w_763, w_35, w_766, by decide, by decide, by decide +kernel⟩ w_764 w_765 (c_Mo_thrown Γ (n + 33) ((-1)) (0) (0) (0) (n12)  hw13_0) d_law_183 hw13_0 rfl rfl ⟨⟨by decide, by decide⟩, ⟨by decide, by decide⟩⟩ (Nat.le_of_ble_eq_true rfl) (fun v14 M14 n14 hQ14 hn14 hd14 => ?_)
        obtain ⟨rfl, hf14, rfl⟩ := hQ14
        refine g_iload d_law_186 rfl ?_
        refine g_icmp_eq (tgt := 193) d_law_188 (by decide) (fun _ => ?_) (fun h15 => False.elim (by omega))
        refine g_iload d_law_193 rfl ?_
        refine g_if_ne (tgt := 210) d_law_195 (by decide) (fun h16 => False.elim (by omega)) (fun _ => ?_)
        refine g_aload_n d_law_198 rfl ?_
        refine g_iconst d_law_199 ?_
        refine g_lald (z := (iI (0)).toInt64) d_law_200 ((hf14 (n + 41) ).trans ((hf13 (n + 41) (by omega) (by omega) (by omega) (by omega) (by omega) (by omega) (by omega) (by omega)).trans ho12)) (by omega) (by omega) (by omega) (by simp [vp_updL]) ?_
        refine g_iload d_law_201 rfl ?_
        refine g_i2l d_law_203 rfl ?_
        refine g_lcmpE d_law_204 ?_
        refine g_if_eq (tgt := 210) d_law_205 (by decide) (fun _ => ?_) (fun h17 => False.elim (by omega))
        refine g_goto (tgt := 514) d_law_210 (by decide) ?_
        refine g_iinc d_law_514 rfl (by decide) rfl ?_
        refine g_goto (tgt := 23) d_law_517 (by decide) ?_
        refine g_iload d_law_23 rfl ?_
        refine g_aload_n d_law_25 rfl ?_
        refine g_slen d_law_26 ?_
        refine g_iconst d_law_27 ?_
        refine g_isub d_law_28 ?_
        refine g_icmp_gt (tgt := 520) d_law_29 (by decide) (fun h18 => ?_) (fun h18 => False.elim (by omega))
        refine g_iconst d_law_520 ?_
        exact g_lend d_law_521 (by decide) (by decide)
      · skip
        refine g_istore d_law_168 (by decide) rfl ?_
        refine g_aload_n d_law_170 rfl ?_
        refine g_aload_n d_law_171 rfl ?_
        refine g_iload d_law_172 rfl ?_
        refine g_iconst d_law_174 ?_
        refine g_iadd d_law_175 ?_
        refine g_sld (z := y1) d_law_176 (by omega) (by omega) (by omega) e1 ?_
        refine g_callV1 (ν := k_Mo_ask0) ⟨w_772, w_35, w_775, by decide, by decide, by decide +kernel⟩ w_773 w_774 (c_Mo_ask0 Γ (n + 33) ((-1)) (0) (0) (0) (n + 35) (y1) (by omega) (by omega) (by omega) (by omega) ((hf12 ((n + 33)) (by omega) (by omega) (by omega)).trans ((hu_ne (by omega)).trans hw2_1))) d_law_177 ((hf12 (n + 33) (by omega) (by omega) (by omega)).trans ((hu_ne (by omega)).trans hw2_1)) rfl rfl ⟨⟨by decide, by decide⟩, ⟨by decide, by decide⟩⟩ (Nat.le_of_ble_eq_true rfl) (fun v19 M19 n19 hQ19 hn19 hd19 => ?_)
        obtain ⟨rfl, hf19, rfl, hw19_0, hw19_1, hw19_2, hw19_3, hw19_4, hw19_5⟩ := hQ19
        refine g_istore d_law_180 (by decide) rfl ?_
        refine g_aload_n d_law_182 rfl ?_
        refine g_callV0 (ν := k_Mo_thrown) ⟨w_763, w_35, w_766, by decide, by decide, by decide +kernel⟩ w_764 w_765 (c_Mo_thrown Γ (n + 33) ((-1)) (0) (1) (0) (n + 35)  hw19_0) d_law_183 hw19_0 rfl rfl ⟨⟨by decide, by decide⟩, ⟨by decide, by decide⟩⟩ (Nat.le_of_ble_eq_true rfl) (fun v20 M20 n20 hQ20 hn20 hd20 => ?_)
        obtain ⟨rfl, hf20, rfl⟩ := hQ20
        refine g_iload d_law_186 rfl ?_
        refine g_icmp_eq (tgt := 193) d_law_188 (by decide) (fun _ => ?_) (fun h21 => False.elim (by omega))
        refine g_iload d_law_193 rfl ?_
        refine g_if_ne (tgt := 210) d_law_195 (by decide) (fun _ => ?_) (fun h22 => False.elim (by omega))
        refine g_goto (tgt := 514) d_law_210 (by decide) ?_
        refine g_iinc d_law_514 rfl (by decide) rfl ?_
        refine g_goto (tgt := 23) d_law_517 (by decide) ?_
        refine g_iload d_law_23 rfl ?_
        refine g_aload_n d_law_25 rfl ?_
        refine g_slen d_law_26 ?_
        refine g_iconst d_law_27 ?_
        refine g_isub d_law_28 ?_
        refine g_icmp_gt (tgt := 520) d_law_29 (by decide) (fun h23 => ?_) (fun h23 => False.elim (by omega))
        refine g_iconst d_law_520 ?_
        exact g_lend d_law_521 (by decide) (by decide)
    · skip
      refine g_tableIn (tgt := 213) d_law_39 (by decide) (by decide) (by decide) (by decide) rfl (by decide) ?_
      refine g_aload_n d_law_213 rfl ?_
      refine g_aload_n d_law_214 rfl ?_
      refine g_iload d_law_215 rfl ?_
      refine g_iconst d_law_217 ?_
      refine g_iadd d_law_218 ?_
      refine g_sld (z := y1) d_law_219 (by omega) (by omega) (by omega) e1 ?_
      refine g_aload_n d_law_220 rfl ?_
      refine g_callSW3 (ν := k_La_keep) ⟨w_505, w_29, w_507, by decide, by decide, by decide +kernel⟩ w_506 (c_La_keep Γ (n) (y1) (n + 41) (fun _ => 0) (by omega) (by omega) (by omega) (by omega) (by omega) ((hu_ne (by omega)).trans ((hf2 (n + 1) (by omega) (by omega) (by omega) (by omega) (by omega) (by omega) (by omega) (by omega)).trans ((hu_ne (by omega)).trans hw1_0))) ((hu_ne (by omega)).trans ((hf2 (n + 2) (by omega) (by omega) (by omega) (by omega) (by omega) (by omega) (by omega) (by omega)).trans ((hu_ne (by omega)).trans hw1_1))) ((hu_ne (by omega)).trans ((hf2 (n) (by omega) (by omega) (by omega) (by omega) (by omega) (by omega) (by omega) (by omega)).trans ((hu_ne (by omega)).trans hw1_2))) ((hu_ne (by omega)).trans ((hf2 (n + 3) (by omega) (by omega) (by omega) (by omega) (by omega) (by omega) (by omega) (by omega)).trans ((hu_ne (by omega)).trans hw1_3))) ((hu_ne (by omega)).trans ((hf2 (n + 4) (by omega) (by omega) (by omega) (by omega) (by omega) (by omega) (by omega) (by omega)).trans ((hu_ne (by omega)).trans hw1_4))) ((hu_ne (by omega)).trans ((hf2 (n + 5) (by omega) (by omega) (by omega) (by omega) (by omega) (by omega) (by omega) (by omega)).trans ((hu_ne (by omega)).trans hw1_5))) ((hu_ne (by omega)).trans ((hf2 (n + 6) (by omega) (by omega) (by omega) (by omega) (by omega) (by omega) (by omega) (by omega)).trans ((hu_ne (by omega)).trans hw1_6))) ((hu_ne (by omega)).trans ((hf2 (n + 7) (by omega) (by omega) (by omega) (by omega) (by omega) (by omega) (by omega) (by omega)).trans ((hu_ne (by omega)).trans hw1_7))) ((hu_ne (by omega)).trans ((hf2 (n + 8) (by omega) (by omega) (by omega) (by omega) (by omega) (by omega) (by omega) (by omega)).trans ((hu_ne (by omega)).trans hw1_8))) ((hu_ne (by omega)).trans ((hf2 (n + 9) (by omega) (by omega) (by omega) (by omega) (by omega) (by omega) (by omega) (by omega)).trans ((hu_ne (by omega)).trans hw1_9))) ((hu_ne (by omega)).trans ((hf2 (n + 10) (by omega) (by omega) (by omega) (by omega) (by omega) (by omega) (by omega) (by omega)).trans ((hu_ne (by omega)).trans hw1_10))) ((hu_ne (by omega)).trans ((hf2 (n + 11) (by omega) (by omega) (by omega) (by omega) (by omega) (by omega) (by omega) (by omega)).trans ((hu_ne (by omega)).trans hw1_11))) ((hu_ne (by omega)).trans ((hf2 (n + 12) (by omega) (by omega) (by omega) (by omega) (by omega) (by omega) (by omega) (by omega)).trans ((hu_ne (by omega)).trans hw1_12))) ((hu_ne (by omega)).trans ((hf2 (n + 13) (by omega) (by omega) (by omega) (by omega) (by omega) (by omega) (by omega) (by omega)).trans ((hu_ne (by omega)).trans hw1_13))) ((hu_ne (by omega)).trans ((hf2 (n + 14) (by omega) (by omega) (by omega) (by omega) (by omega) (by omega) (by omega) (by omega)).trans ((hu_ne (by omega)).trans hw1_14))) ((hu_ne (by omega)).trans ((hf2 (n + 15) (by omega) (by omega) (by omega) (by omega) (by omega) (by omega) (by omega) (by omega)).trans ((hu_ne (by omega)).trans hw1_15))) ((hu_ne (by omega)).trans ((hf2 (n + 16) (by omega) (by omega) (by omega) (by omega) (by omega) (by omega) (by omega) (by omega)).trans ((hu_ne (by omega)).trans hw1_16))) ((hu_ne (by omega)).trans ((hf2 (n + 17) (by omega) (by omega) (by omega) (by omega) (by omega) (by omega) (by omega) (by omega)).trans ((hu_ne (by omega)).trans hw1_17))) ((hu_ne (by omega)).trans ((hf2 (n + 18) (by omega) (by omega) (by omega) (by omega) (by omega) (by omega) (by omega) (by omega)).trans ((hu_ne (by omega)).trans hw1_18))) ((hu_ne (by omega)).trans ((hf2 (n + 19) (by omega) (by omega) (by omega) (by omega) (by omega) (by omega) (by omega) (by omega)).trans ((hu_ne (by omega)).trans hw1_19))) ((hu_ne (by omega)).trans ((hf2 (n + 20) (by omega) (by omega) (by omega) (by omega) (by omega) (by omega) (by omega) (by omega)).trans ((hu_ne (by omega)).trans hw1_20))) ((hu_ne (by omega)).trans ((hf2 (n + 21) (by omega) (by omega) (by omega) (by omega) (by omega) (by omega) (by omega) (by omega)).trans ((hu_ne (by omega)).trans hw1_21))) ((hu_ne (by omega)).trans ((hf2 (n + 22) (by omega) (by omega) (by omega) (by omega) (by omega) (by omega) (by omega) (by omega)).trans ((hu_ne (by omega)).trans hw1_22))) ((hu_ne (by omega)).trans ((hf2 (n + 23) (by omega) (by omega) (by omega) (by omega) (by omega) (by omega) (by omega) (by omega)).trans ((hu_ne (by omega)).trans hw1_23))) ((hu_ne (by omega)).trans ((hf2 (n + 24) (by omega) (by omega) (by omega) (by omega) (by omega) (by omega) (by omega) (by omega)).trans ((hu_ne (by omega)).trans hw1_24))) ((hu_ne (by omega)).trans ((hf2 (n + 25) (by omega) (by omega) (by omega) (by omega) (by omega) (by omega) (by omega) (by omega)).trans ((hu_ne (by omega)).trans hw1_25))) ((hu_ne (by omega)).trans ((hf2 (n + 26) (by omega) (by omega) (by omega) (by omega) (by omega) (by omega) (by omega) (by omega)).trans ((hu_ne (by omega)).trans hw1_26))) ((hu_ne (by omega)).trans ((hf2 (n + 27) (by omega) (by omega) (by omega) (by omega) (by omega) (by omega) (by omega) (by omega)).trans ((hu_ne (by omega)).trans hw1_27))) ((hu_ne (by omega)).trans ((hf2 (n + 28) (by omega) (by omega) (by omega) (by omega) (by omega) (by omega) (by omega) (by omega)).trans ((hu_ne (by omega)).trans hw1_28))) ((hu_ne (by omega)).trans ((hf2 (n + 29) (by omega) (by omega) (by omega) (by omega) (by omega) (by omega) (by omega) (by omega)).trans ((hu_ne (by omega)).trans hw1_29))) ((hu_ne (by omega)).trans ((hf2 (n + 30) (by omega) (by omega) (by omega) (by omega) (by omega) (by omega) (by omega) (by omega)).trans ((hu_ne (by omega)).trans hw1_30))) ((hu_ne (by omega)).trans ((hf2 (n + 31) (by omega) (by omega) (by omega) (by omega) (by omega) (by omega) (by omega) (by omega)).trans ((hu_ne (by omega)).trans hw1_31))) ((hu_ne (by omega)).trans ((hf2 (n + 32) (by omega) (by omega) (by omega) (by omega) (by omega) (by omega) (by omega) (by omega)).trans ((hu_ne (by omega)).trans hw1_32))) (hu_same _ _ _)) d_law_221 ⟨⟨by decide, by decide⟩, ⟨by decide, by decide⟩⟩ (Nat.le_of_ble_eq_true rfl) (fun v24 M24 n24 hQ24 hn24 hd24 => ?_)
      obtain ⟨hle24, hf24, hor24⟩ := hQ24
      rcases hor24 with ⟨rfl, ho24, hc24⟩ | ⟨rfl, hc24⟩
      · skip
        refine g_istore d_law_224 (by decide) rfl ?_
        refine g_aload_n d_law_226 rfl ?_
        refine g_aload_n d_law_227 rfl ?_
        refine g_iload d_law_228 rfl ?_
        refine g_iconst d_law_230 ?_
        refine g_iadd d_law_231 ?_
        refine g_sld (z := y1) d_law_232 (by omega) (by omega) (by omega) e1 ?_
        refine g_callV1 (ν := k_Mo_keep1) ⟨w_866, w_35, w_869, by decide, by decide, by decide +kernel⟩ w_867 w_868 (c_Mo_keep1 Γ (n + 33) ((-1)) (0) (0) (0) (n + 35) (y1) (n + 39) (n + 36) (n + 37) (n + 38) (by omega) (by omega) (by omega) (by omega) (by omega) ((hf24 ((n + 33)) (by omega) (by omega) (by omega)).trans ((hu_ne (by omega)).trans hw2_1)) ((hf24 ((n + 35)) (by omega) (by omega) (by omega)).trans ((hu_ne (by omega)).trans hw2_2))) d_law_233 ((hf24 (n + 33) (by omega) (by omega) (by omega)).trans ((hu_ne (by omega)).trans hw2_1)) rfl rfl ⟨⟨by decide, by decide⟩, ⟨by decide, by decide⟩⟩ (Nat.le_of_ble_eq_true rfl) (fun v25 M25 n25 hQ25 hn25 hd25 => ?_)
        obtain ⟨rfl, hf25, rfl, hw25_0, hw25_1, hw25_2, hw25_3, hw25_4, hw25_5, hw25_6, hw25_7, hw25_8⟩ := hQ25
        refine g_istore d_law_236 (by decide) rfl ?_
        refine g_aload_n d_law_238 rfl ?_
        refine g_callV0 (ν := k_Mo_thrown) ⟨w_763, w_35, w_766, by decide, by decide, by decide +kernel⟩ w_764 w_765 (c_Mo_thrown Γ (n + 33) ((-1)) (0) (0) (0) (n + 35)  hw25_0) d_law_239 hw25_0 rfl rfl ⟨⟨by decide, by decide⟩, ⟨by decide, by decide⟩⟩ (Nat.le_of_ble_eq_true rfl) (fun v26 M26 n26 hQ26 hn26 hd26 => ?_)
        obtain ⟨rfl, hf26, rfl⟩ := hQ26
        refine g_iload d_law_242 rfl ?_
        refine g_icmp_eq (tgt := 249) d_law_244 (by decide) (fun _ => ?_) (fun h27 => False.elim (by omega))
        refine g_iload d_law_249 rfl ?_
        refine g_if_ne (tgt := 273) d_law_251 (by decide) (fun h28 => False.elim (by omega)) (fun _ => ?_)
        refine g_aload_n d_law_254 rfl ?_
        refine g_iconst d_law_255 ?_
        refine g_lald (z := Int64.ofNat 0) d_law_256 ((hf26 (n + 41) ).trans ((hf25 (n + 41) (by omega) (by omega) (by omega) (by omega) (by omega) (by omega) (by omega) (by omega) (by omega) (by omega) (by omega) (by omega) (by omega) (by omega) (by omega) (by omega) (by omega) (by omega) (by omega) (by omega) (by omega) (by omega) (by omega) (by omega)).trans ho24)) (by omega) (by omega) (by omega) (by simp [vp_updL]) ?_
        refine g_iload d_law_257 rfl ?_
        refine g_if_eq (tgt := 266) d_law_259 (by decide) (fun _ => ?_) (fun h29 => False.elim (by omega))
        refine g_lconst d_law_266 rfl ?_
        refine g_lcmpE d_law_267 ?_
        refine g_if_eq (tgt := 273) d_law_268 (by decide) (fun _ => ?_) (fun h30 => False.elim (by omega))
        refine g_goto (tgt := 514) d_law_273 (by decide) ?_
        refine g_iinc d_law_514 rfl (by decide) rfl ?_
        refine g_goto (tgt := 23) d_law_517 (by decide) ?_
        refine g_iload d_law_23 rfl ?_
        refine g_aload_n d_law_25 rfl ?_
        refine g_slen d_law_26 ?_
        refine g_iconst d_law_27 ?_
        refine g_isub d_law_28 ?_
        refine g_icmp_gt (tgt := 520) d_law_29 (by decide) (fun h31 => ?_) (fun h31 => False.elim (by omega))
        refine g_iconst d_law_520 ?_
        exact g_lend d_law_521 (by decide) (by decide)
      · skip
        refine g_istore d_law_224 (by decide) rfl ?_
        refine g_aload_n d_law_226 rfl ?_
        refine g_aload_n d_law_227 rfl ?_
        refine g_iload d_law_228 rfl ?_
        refine g_iconst d_law_230 ?_
        refine g_iadd d_law_231 ?_
        refine g_sld (z := y1) d_law_232 (by omega) (by omega) (by omega) e1 ?_
        refine g_callV1 (ν := k_Mo_keep0) ⟨w_866, w_35, w_869, by decide, by decide, by decide +kernel⟩ w_867 w_868 (c_Mo_keep0 Γ (n + 33) ((-1)) (0) (0) (0) (n + 35) (y1) (by omega) (by omega) (by omega) (by omega) ((hf24 ((n + 33)) (by omega) (by omega) (by omega)).trans ((hu_ne (by omega)).trans hw2_1))) d_law_233 ((hf24 (n + 33) (by omega) (by omega) (by omega)).trans ((hu_ne (by omega)).trans hw2_1)) rfl rfl ⟨⟨by decide, by decide⟩, ⟨by decide, by decide⟩⟩ (Nat.le_of_ble_eq_true rfl) (fun v32 M32 n32 hQ32 hn32 hd32 => ?_)
        obtain ⟨rfl, hf32, rfl, hw32_0, hw32_1, hw32_2, hw32_3, hw32_4, hw32_5⟩ := hQ32
        refine g_istore d_law_236 (by decide) rfl ?_
        refine g_aload_n d_law_238 rfl ?_
        refine g_callV0 (ν := k_Mo_thrown) ⟨w_763, w_35, w_766, by decide, by decide, by decide +kernel⟩ w_764 w_765 (c_Mo_thrown Γ (n + 33) ((-1)) (0) (1) (0) (n + 35)  hw32_0) d_law_239 hw32_0 rfl rfl ⟨⟨by decide, by decide⟩, ⟨by decide, by decide⟩⟩ (Nat.le_of_ble_eq_true rfl) (fun v33 M33 n33 hQ33 hn33 hd33 => ?_)
        obtain ⟨rfl, hf33, rfl⟩ := hQ33
        refine g_iload d_law_242 rfl ?_
        refine g_icmp_eq (tgt := 249) d_law_244 (by decide) (fun _ => ?_) (fun h34 => False.elim (by omega))
        refine g_iload d_law_249 rfl ?_
        refine g_if_ne (tgt := 273) d_law_251 (by decide) (fun _ => ?_) (fun h35 => False.elim (by omega))
        refine g_goto (tgt := 514) d_law_273 (by decide) ?_
        refine g_iinc d_law_514 rfl (by decide) rfl ?_
        refine g_goto (tgt := 23) d_law_517 (by decide) ?_
        refine g_iload d_law_23 rfl ?_
        refine g_aload_n d_law_25 rfl ?_
        refine g_slen d_law_26 ?_
        refine g_iconst d_law_27 ?_
        refine g_isub d_law_28 ?_
        refine g_icmp_gt (tgt := 520) d_law_29 (by decide) (fun h36 => ?_) (fun h36 => False.elim (by omega))
        refine g_iconst d_law_520 ?_
        exact g_lend d_law_521 (by decide) (by decide)
    · skip
      refine g_tableIn (tgt := 276) d_law_39 (by decide) (by decide) (by decide) (by decide) rfl (by decide) ?_
      refine g_aload_n d_law_276 rfl ?_
      refine g_aload_n d_law_277 rfl ?_
      refine g_iload d_law_278 rfl ?_
      refine g_iconst d_law_280 ?_
      refine g_iadd d_law_281 ?_
      refine g_sld (z := y1) d_law_282 (by omega) (by omega) (by omega) e1 ?_
      refine g_aload_n d_law_283 rfl ?_
      refine g_callSW3 (ν := k_La_again) ⟨w_650, w_29, w_652, by decide, by decide, by decide +kernel⟩ w_651 (c_La_again Γ (n) (y1) (n + 41) (fun _ => 0) (by omega) (by omega) (by omega) (by omega) (by omega) ((hu_ne (by omega)).trans ((hf2 (n + 1) (by omega) (by omega) (by omega) (by omega) (by omega) (by omega) (by omega) (by omega)).trans ((hu_ne (by omega)).trans hw1_0))) ((hu_ne (by omega)).trans ((hf2 (n + 2) (by omega) (by omega) (by omega) (by omega) (by omega) (by omega) (by omega) (by omega)).trans ((hu_ne (by omega)).trans hw1_1))) ((hu_ne (by omega)).trans ((hf2 (n) (by omega) (by omega) (by omega) (by omega) (by omega) (by omega) (by omega) (by omega)).trans ((hu_ne (by omega)).trans hw1_2))) ((hu_ne (by omega)).trans ((hf2 (n + 3) (by omega) (by omega) (by omega) (by omega) (by omega) (by omega) (by omega) (by omega)).trans ((hu_ne (by omega)).trans hw1_3))) ((hu_ne (by omega)).trans ((hf2 (n + 4) (by omega) (by omega) (by omega) (by omega) (by omega) (by omega) (by omega) (by omega)).trans ((hu_ne (by omega)).trans hw1_4))) ((hu_ne (by omega)).trans ((hf2 (n + 5) (by omega) (by omega) (by omega) (by omega) (by omega) (by omega) (by omega) (by omega)).trans ((hu_ne (by omega)).trans hw1_5))) ((hu_ne (by omega)).trans ((hf2 (n + 6) (by omega) (by omega) (by omega) (by omega) (by omega) (by omega) (by omega) (by omega)).trans ((hu_ne (by omega)).trans hw1_6))) ((hu_ne (by omega)).trans ((hf2 (n + 7) (by omega) (by omega) (by omega) (by omega) (by omega) (by omega) (by omega) (by omega)).trans ((hu_ne (by omega)).trans hw1_7))) ((hu_ne (by omega)).trans ((hf2 (n + 8) (by omega) (by omega) (by omega) (by omega) (by omega) (by omega) (by omega) (by omega)).trans ((hu_ne (by omega)).trans hw1_8))) ((hu_ne (by omega)).trans ((hf2 (n + 9) (by omega) (by omega) (by omega) (by omega) (by omega) (by omega) (by omega) (by omega)).trans ((hu_ne (by omega)).trans hw1_9))) ((hu_ne (by omega)).trans ((hf2 (n + 10) (by omega) (by omega) (by omega) (by omega) (by omega) (by omega) (by omega) (by omega)).trans ((hu_ne (by omega)).trans hw1_10))) ((hu_ne (by omega)).trans ((hf2 (n + 11) (by omega) (by omega) (by omega) (by omega) (by omega) (by omega) (by omega) (by omega)).trans ((hu_ne (by omega)).trans hw1_11))) ((hu_ne (by omega)).trans ((hf2 (n + 12) (by omega) (by omega) (by omega) (by omega) (by omega) (by omega) (by omega) (by omega)).trans ((hu_ne (by omega)).trans hw1_12))) ((hu_ne (by omega)).trans ((hf2 (n + 13) (by omega) (by omega) (by omega) (by omega) (by omega) (by omega) (by omega) (by omega)).trans ((hu_ne (by omega)).trans hw1_13))) ((hu_ne (by omega)).trans ((hf2 (n + 14) (by omega) (by omega) (by omega) (by omega) (by omega) (by omega) (by omega) (by omega)).trans ((hu_ne (by omega)).trans hw1_14))) ((hu_ne (by omega)).trans ((hf2 (n + 15) (by omega) (by omega) (by omega) (by omega) (by omega) (by omega) (by omega) (by omega)).trans ((hu_ne (by omega)).trans hw1_15))) ((hu_ne (by omega)).trans ((hf2 (n + 16) (by omega) (by omega) (by omega) (by omega) (by omega) (by omega) (by omega) (by omega)).trans ((hu_ne (by omega)).trans hw1_16))) ((hu_ne (by omega)).trans ((hf2 (n + 17) (by omega) (by omega) (by omega) (by omega) (by omega) (by omega) (by omega) (by omega)).trans ((hu_ne (by omega)).trans hw1_17))) ((hu_ne (by omega)).trans ((hf2 (n + 18) (by omega) (by omega) (by omega) (by omega) (by omega) (by omega) (by omega) (by omega)).trans ((hu_ne (by omega)).trans hw1_18))) ((hu_ne (by omega)).trans ((hf2 (n + 19) (by omega) (by omega) (by omega) (by omega) (by omega) (by omega) (by omega) (by omega)).trans ((hu_ne (by omega)).trans hw1_19))) ((hu_ne (by omega)).trans ((hf2 (n + 20) (by omega) (by omega) (by omega) (by omega) (by omega) (by omega) (by omega) (by omega)).trans ((hu_ne (by omega)).trans hw1_20))) ((hu_ne (by omega)).trans ((hf2 (n + 21) (by omega) (by omega) (by omega) (by omega) (by omega) (by omega) (by omega) (by omega)).trans ((hu_ne (by omega)).trans hw1_21))) ((hu_ne (by omega)).trans ((hf2 (n + 22) (by omega) (by omega) (by omega) (by omega) (by omega) (by omega) (by omega) (by omega)).trans ((hu_ne (by omega)).trans hw1_22))) ((hu_ne (by omega)).trans ((hf2 (n + 23) (by omega) (by omega) (by omega) (by omega) (by omega) (by omega) (by omega) (by omega)).trans ((hu_ne (by omega)).trans hw1_23))) ((hu_ne (by omega)).trans ((hf2 (n + 24) (by omega) (by omega) (by omega) (by omega) (by omega) (by omega) (by omega) (by omega)).trans ((hu_ne (by omega)).trans hw1_24))) ((hu_ne (by omega)).trans ((hf2 (n + 25) (by omega) (by omega) (by omega) (by omega) (by omega) (by omega) (by omega) (by omega)).trans ((hu_ne (by omega)).trans hw1_25))) ((hu_ne (by omega)).trans ((hf2 (n + 26) (by omega) (by omega) (by omega) (by omega) (by omega) (by omega) (by omega) (by omega)).trans ((hu_ne (by omega)).trans hw1_26))) ((hu_ne (by omega)).trans ((hf2 (n + 27) (by omega) (by omega) (by omega) (by omega) (by omega) (by omega) (by omega) (by omega)).trans ((hu_ne (by omega)).trans hw1_27))) ((hu_ne (by omega)).trans ((hf2 (n + 28) (by omega) (by omega) (by omega) (by omega) (by omega) (by omega) (by omega) (by omega)).trans ((hu_ne (by omega)).trans hw1_28))) ((hu_ne (by omega)).trans ((hf2 (n + 29) (by omega) (by omega) (by omega) (by omega) (by omega) (by omega) (by omega) (by omega)).trans ((hu_ne (by omega)).trans hw1_29))) ((hu_ne (by omega)).trans ((hf2 (n + 30) (by omega) (by omega) (by omega) (by omega) (by omega) (by omega) (by omega) (by omega)).trans ((hu_ne (by omega)).trans hw1_30))) ((hu_ne (by omega)).trans ((hf2 (n + 31) (by omega) (by omega) (by omega) (by omega) (by omega) (by omega) (by omega) (by omega)).trans ((hu_ne (by omega)).trans hw1_31))) ((hu_ne (by omega)).trans ((hf2 (n + 32) (by omega) (by omega) (by omega) (by omega) (by omega) (by omega) (by omega) (by omega)).trans ((hu_ne (by omega)).trans hw1_32))) (hu_same _ _ _)) d_law_284 ⟨⟨by decide, by decide⟩, ⟨by decide, by decide⟩⟩ (Nat.le_of_ble_eq_true rfl) (fun v37 M37 n37 hQ37 hn37 hd37 => ?_)
      obtain ⟨hle37, hf37, hor37⟩ := hQ37
      rcases hor37 with ⟨rfl, ho37, hc37⟩ | ⟨rfl, hc37⟩
      · skip
        refine g_istore d_law_287 (by decide) rfl ?_
        refine g_aload_n d_law_289 rfl ?_
        refine g_aload_n d_law_290 rfl ?_
        refine g_iload d_law_291 rfl ?_
        refine g_iconst d_law_293 ?_
        refine g_iadd d_law_294 ?_
        refine g_sld (z := y1) d_law_295 (by omega) (by omega) (by omega) e1 ?_
        refine g_callV1 (ν := k_Mo_again1) ⟨w_959, w_35, w_962, by decide, by decide, by decide +kernel⟩ w_960 w_961 (c_Mo_again1 Γ (n + 33) ((-1)) (0) (0) (0) (n + 35) (y1) (by omega) (by omega) (by omega) ((hf37 ((n + 33)) (by omega) (by omega) (by omega)).trans ((hu_ne (by omega)).trans hw2_1))) d_law_296 ((hf37 (n + 33) (by omega) (by omega) (by omega)).trans ((hu_ne (by omega)).trans hw2_1)) rfl rfl ⟨⟨by decide, by decide⟩, ⟨by decide, by decide⟩⟩ (Nat.le_of_ble_eq_true rfl) (fun v38 M38 n38 hQ38 hn38 hd38 => ?_)
        obtain ⟨rfl, hf38, rfl, hw38_0, hw38_1, hw38_2, hw38_3, hw38_4, hw38_5⟩ := hQ38
        refine g_istore d_law_299 (by decide) rfl ?_
        refine g_aload_n d_law_301 rfl ?_
        refine g_callV0 (ν := k_Mo_thrown) ⟨w_763, w_35, w_766, by decide, by decide, by decide +kernel⟩ w_764 w_765 (c_Mo_thrown Γ (n + 33) ((-1)) (0) (0) (0) (n + 35)  hw38_0) d_law_302 hw38_0 rfl rfl ⟨⟨by decide, by decide⟩, ⟨by decide, by decide⟩⟩ (Nat.le_of_ble_eq_true rfl) (fun v39 M39 n39 hQ39 hn39 hd39 => ?_)
        obtain ⟨rfl, hf39, rfl⟩ := hQ39
        refine g_iload d_law_305 rfl ?_
        refine g_icmp_eq (tgt := 312) d_law_307 (by decide) (fun _ => ?_) (fun h40 => False.elim (by omega))
        refine g_iload d_law_312 rfl ?_
        refine g_if_ne (tgt := 336) d_law_314 (by decide) (fun h41 => False.elim (by omega)) (fun _ => ?_)
        refine g_aload_n d_law_317 rfl ?_
        refine g_iconst d_law_318 ?_
        refine g_lald (z := Int64.ofNat 0) d_law_319 ((hf39 (n + 41) ).trans ((hf38 (n + 41) (by omega) (by omega) (by omega) (by omega) (by omega) (by omega)).trans ho37)) (by omega) (by omega) (by omega) (by simp [vp_updL]) ?_
        refine g_iload d_law_320 rfl ?_
        refine g_if_eq (tgt := 329) d_law_322 (by decide) (fun _ => ?_) (fun h42 => False.elim (by omega))
        refine g_lconst d_law_329 rfl ?_
        refine g_lcmpE d_law_330 ?_
        refine g_if_eq (tgt := 336) d_law_331 (by decide) (fun _ => ?_) (fun h43 => False.elim (by omega))
        refine g_goto (tgt := 514) d_law_336 (by decide) ?_
        refine g_iinc d_law_514 rfl (by decide) rfl ?_
        refine g_goto (tgt := 23) d_law_517 (by decide) ?_
        refine g_iload d_law_23 rfl ?_
        refine g_aload_n d_law_25 rfl ?_
        refine g_slen d_law_26 ?_
        refine g_iconst d_law_27 ?_
        refine g_isub d_law_28 ?_
        refine g_icmp_gt (tgt := 520) d_law_29 (by decide) (fun h44 => ?_) (fun h44 => False.elim (by omega))
        refine g_iconst d_law_520 ?_
        exact g_lend d_law_521 (by decide) (by decide)
      · skip
        refine g_istore d_law_287 (by decide) rfl ?_
        refine g_aload_n d_law_289 rfl ?_
        refine g_aload_n d_law_290 rfl ?_
        refine g_iload d_law_291 rfl ?_
        refine g_iconst d_law_293 ?_
        refine g_iadd d_law_294 ?_
        refine g_sld (z := y1) d_law_295 (by omega) (by omega) (by omega) e1 ?_
        refine g_callV1 (ν := k_Mo_again0) ⟨w_959, w_35, w_962, by decide, by decide, by decide +kernel⟩ w_960 w_961 (c_Mo_again0 Γ (n + 33) ((-1)) (0) (0) (0) (n + 35) (y1) (by omega) (by omega) (by omega) (by omega) ((hf37 ((n + 33)) (by omega) (by omega) (by omega)).trans ((hu_ne (by omega)).trans hw2_1))) d_law_296 ((hf37 (n + 33) (by omega) (by omega) (by omega)).trans ((hu_ne (by omega)).trans hw2_1)) rfl rfl ⟨⟨by decide, by decide⟩, ⟨by decide, by decide⟩⟩ (Nat.le_of_ble_eq_true rfl) (fun v45 M45 n45 hQ45 hn45 hd45 => ?_)
        obtain ⟨rfl, hf45, rfl, hw45_0, hw45_1, hw45_2, hw45_3, hw45_4, hw45_5⟩ := hQ45
        refine g_istore d_law_299 (by decide) rfl ?_
        refine g_aload_n d_law_301 rfl ?_
        refine g_callV0 (ν := k_Mo_thrown) ⟨w_763, w_35, w_766, by decide, by decide, by decide +kernel⟩ w_764 w_765 (c_Mo_thrown Γ (n + 33) ((-1)) (0) (1) (0) (n + 35)  hw45_0) d_law_302 hw45_0 rfl rfl ⟨⟨by decide, by decide⟩, ⟨by decide, by decide⟩⟩ (Nat.le_of_ble_eq_true rfl) (fun v46 M46 n46 hQ46 hn46 hd46 => ?_)
        obtain ⟨rfl, hf46, rfl⟩ := hQ46
        refine g_iload d_law_305 rfl ?_
        refine g_icmp_eq (tgt := 312) d_law_307 (by decide) (fun _ => ?_) (fun h47 => False.elim (by omega))
        refine g_iload d_law_312 rfl ?_
        refine g_if_ne (tgt := 336) d_law_314 (by decide) (fun _ => ?_) (fun h48 => False.elim (by omega))
        refine g_goto (tgt := 514) d_law_336 (by decide) ?_
        refine g_iinc d_law_514 rfl (by decide) rfl ?_
        refine g_goto (tgt := 23) d_law_517 (by decide) ?_
        refine g_iload d_law_23 rfl ?_
        refine g_aload_n d_law_25 rfl ?_
        refine g_slen d_law_26 ?_
        refine g_iconst d_law_27 ?_
        refine g_isub d_law_28 ?_
        refine g_icmp_gt (tgt := 520) d_law_29 (by decide) (fun h49 => ?_) (fun h49 => False.elim (by omega))
        refine g_iconst d_law_520 ?_
        exact g_lend d_law_521 (by decide) (by decide)
    · skip
      refine g_tableIn (tgt := 339) d_law_39 (by decide) (by decide) (by decide) (by decide) rfl (by decide) ?_
      refine g_aload_n d_law_339 rfl ?_
      refine g_callV0 (ν := k_VS_fault) ⟨w_186, w_30, w_189, by decide, by decide, by decide +kernel⟩ w_187 w_188 (c_VS_fault Γ (n) (n + 5) (n + 11) ((-1)) (0)  ((hu_ne (by omega)).trans ((hf2 (n) (by omega) (by omega) (by omega) (by omega) (by omega) (by omega) (by omega) (by omega)).trans ((hu_ne (by omega)).trans hw1_2)))) d_law_340 ((hu_ne (by omega)).trans ((hf2 (n) (by omega) (by omega) (by omega) (by omega) (by omega) (by omega) (by omega) (by omega)).trans ((hu_ne (by omega)).trans hw1_2))) rfl rfl ⟨⟨by decide, by decide⟩, ⟨by decide, by decide⟩⟩ (Nat.le_of_ble_eq_true rfl) (fun v50 M50 n50 hQ50 hn50 hd50 => ?_)
      obtain ⟨rfl, hf50, rfl⟩ := hQ50
      refine g_aload_n d_law_343 rfl ?_
      refine g_callV0 (ν := k_Mo_fault) ⟨w_963, w_35, w_966, by decide, by decide, by decide +kernel⟩ w_964 w_965 (c_Mo_fault Γ (n + 33) ((-1)) (0) (0) (0) (n + 35)  ((hf50 ((n + 33)) ).trans ((hu_ne (by omega)).trans hw2_1))) d_law_344 ((hf50 (n + 33) ).trans ((hu_ne (by omega)).trans hw2_1)) rfl rfl ⟨⟨by decide, by decide⟩, ⟨by decide, by decide⟩⟩ (Nat.le_of_ble_eq_true rfl) (fun v51 M51 n51 hQ51 hn51 hd51 => ?_)
      obtain ⟨rfl, hf51, rfl, hw51_0⟩ := hQ51
      refine g_icmp_eq (tgt := 514) d_law_347 (by decide) (fun _ => ?_) (fun h52 => False.elim (by omega))
      refine g_iinc d_law_514 rfl (by decide) rfl ?_
      refine g_goto (tgt := 23) d_law_517 (by decide) ?_
      refine g_iload d_law_23 rfl ?_
      refine g_aload_n d_law_25 rfl ?_
      refine g_slen d_law_26 ?_
      refine g_iconst d_law_27 ?_
      refine g_isub d_law_28 ?_
      refine g_icmp_gt (tgt := 520) d_law_29 (by decide) (fun h53 => ?_) (fun h53 => False.elim (by omega))
      refine g_iconst d_law_520 ?_
      exact g_lend d_law_521 (by decide) (by decide)
    · skip
      refine g_tableIn (tgt := 352) d_law_39 (by decide) (by decide) (by decide) (by decide) rfl (by decide) ?_
      refine g_aload_n d_law_352 rfl ?_
      refine g_aload_n d_law_353 rfl ?_
      refine g_iload d_law_354 rfl ?_
      refine g_iconst d_law_356 ?_
      refine g_iadd d_law_357 ?_
      refine g_sld (z := y1) d_law_358 (by omega) (by omega) (by omega) e1 ?_
      refine g_callV1 (ν := k_VS_purge0) ⟨w_190, w_30, w_193, by decide, by decide, by decide +kernel⟩ w_191 w_192 (c_VS_purge0 Γ (n) (n + 5) (n + 11) ((-1)) (0) (y1) (0)  ((hu_ne (by omega)).trans ((hf2 (n) (by omega) (by omega) (by omega) (by omega) (by omega) (by omega) (by omega) (by omega)).trans ((hu_ne (by omega)).trans hw1_2))) ((hu_ne (by omega)).trans ((hf2 (n + 3) (by omega) (by omega) (by omega) (by omega) (by omega) (by omega) (by omega) (by omega)).trans ((hu_ne (by omega)).trans hw1_3)))) d_law_359 ((hu_ne (by omega)).trans ((hf2 (n) (by omega) (by omega) (by omega) (by omega) (by omega) (by omega) (by omega) (by omega)).trans ((hu_ne (by omega)).trans hw1_2))) rfl rfl ⟨⟨by decide, by decide⟩, ⟨by decide, by decide⟩⟩ (Nat.le_of_ble_eq_true rfl) (fun v54 M54 n54 hQ54 hn54 hd54 => ?_)
      obtain ⟨rfl, hf54, rfl⟩ := hQ54
      refine g_aload_n d_law_362 rfl ?_
      refine g_aload_n d_law_363 rfl ?_
      refine g_iload d_law_364 rfl ?_
      refine g_iconst d_law_366 ?_
      refine g_iadd d_law_367 ?_
      refine g_sld (z := y1) d_law_368 (by omega) (by omega) (by omega) e1 ?_
      refine g_callV1 (ν := k_Mo_purge0) ⟨w_967, w_35, w_970, by decide, by decide, by decide +kernel⟩ w_968 w_969 (c_Mo_purge0 Γ (n + 33) ((-1)) (0) (0) (0) (n + 35) (y1)  ((hf54 ((n + 33)) ).trans ((hu_ne (by omega)).trans hw2_1))) d_law_369 ((hf54 (n + 33) ).trans ((hu_ne (by omega)).trans hw2_1)) rfl rfl ⟨⟨by decide, by decide⟩, ⟨by decide, by decide⟩⟩ (Nat.le_of_ble_eq_true rfl) (fun v55 M55 n55 hQ55 hn55 hd55 => ?_)
      obtain ⟨rfl, hf55, rfl, hw55_0⟩ := hQ55
      refine g_icmp_eq (tgt := 514) d_law_372 (by decide) (fun _ => ?_) (fun h56 => False.elim (by omega))
      refine g_iinc d_law_514 rfl (by decide) rfl ?_
      refine g_goto (tgt := 23) d_law_517 (by decide) ?_
      refine g_iload d_law_23 rfl ?_
      refine g_aload_n d_law_25 rfl ?_
      refine g_slen d_law_26 ?_
      refine g_iconst d_law_27 ?_
      refine g_isub d_law_28 ?_
      refine g_icmp_gt (tgt := 520) d_law_29 (by decide) (fun h57 => ?_) (fun h57 => False.elim (by omega))
      refine g_iconst d_law_520 ?_
      exact g_lend d_law_521 (by decide) (by decide)
    · skip
      refine g_tableIn (tgt := 377) d_law_39 (by decide) (by decide) (by decide) (by decide) rfl (by decide) ?_
      refine g_aload_n d_law_377 rfl ?_
      refine g_aload_n d_law_378 rfl ?_
      refine g_iload d_law_379 rfl ?_
      refine g_iconst d_law_381 ?_
      refine g_iadd d_law_382 ?_
      refine g_sld (z := y1) d_law_383 (by omega) (by omega) (by omega) e1 ?_
      refine g_aload_n d_law_384 rfl ?_
      refine g_callSW3 (ν := k_La_pass) ⟨w_662, w_29, w_664, by decide, by decide, by decide +kernel⟩ w_663 (c_La_pass Γ (n) (y1) (n + 41) (fun _ => 0) (by omega) (by omega) (by omega) (by omega) (by omega) ((hu_ne (by omega)).trans ((hf2 (n + 1) (by omega) (by omega) (by omega) (by omega) (by omega) (by omega) (by omega) (by omega)).trans ((hu_ne (by omega)).trans hw1_0))) ((hu_ne (by omega)).trans ((hf2 (n + 2) (by omega) (by omega) (by omega) (by omega) (by omega) (by omega) (by omega) (by omega)).trans ((hu_ne (by omega)).trans hw1_1))) ((hu_ne (by omega)).trans ((hf2 (n) (by omega) (by omega) (by omega) (by omega) (by omega) (by omega) (by omega) (by omega)).trans ((hu_ne (by omega)).trans hw1_2))) ((hu_ne (by omega)).trans ((hf2 (n + 3) (by omega) (by omega) (by omega) (by omega) (by omega) (by omega) (by omega) (by omega)).trans ((hu_ne (by omega)).trans hw1_3))) ((hu_ne (by omega)).trans ((hf2 (n + 4) (by omega) (by omega) (by omega) (by omega) (by omega) (by omega) (by omega) (by omega)).trans ((hu_ne (by omega)).trans hw1_4))) ((hu_ne (by omega)).trans ((hf2 (n + 5) (by omega) (by omega) (by omega) (by omega) (by omega) (by omega) (by omega) (by omega)).trans ((hu_ne (by omega)).trans hw1_5))) ((hu_ne (by omega)).trans ((hf2 (n + 6) (by omega) (by omega) (by omega) (by omega) (by omega) (by omega) (by omega) (by omega)).trans ((hu_ne (by omega)).trans hw1_6))) ((hu_ne (by omega)).trans ((hf2 (n + 7) (by omega) (by omega) (by omega) (by omega) (by omega) (by omega) (by omega) (by omega)).trans ((hu_ne (by omega)).trans hw1_7))) ((hu_ne (by omega)).trans ((hf2 (n + 8) (by omega) (by omega) (by omega) (by omega) (by omega) (by omega) (by omega) (by omega)).trans ((hu_ne (by omega)).trans hw1_8))) ((hu_ne (by omega)).trans ((hf2 (n + 9) (by omega) (by omega) (by omega) (by omega) (by omega) (by omega) (by omega) (by omega)).trans ((hu_ne (by omega)).trans hw1_9))) ((hu_ne (by omega)).trans ((hf2 (n + 10) (by omega) (by omega) (by omega) (by omega) (by omega) (by omega) (by omega) (by omega)).trans ((hu_ne (by omega)).trans hw1_10))) ((hu_ne (by omega)).trans ((hf2 (n + 11) (by omega) (by omega) (by omega) (by omega) (by omega) (by omega) (by omega) (by omega)).trans ((hu_ne (by omega)).trans hw1_11))) ((hu_ne (by omega)).trans ((hf2 (n + 12) (by omega) (by omega) (by omega) (by omega) (by omega) (by omega) (by omega) (by omega)).trans ((hu_ne (by omega)).trans hw1_12))) ((hu_ne (by omega)).trans ((hf2 (n + 13) (by omega) (by omega) (by omega) (by omega) (by omega) (by omega) (by omega) (by omega)).trans ((hu_ne (by omega)).trans hw1_13))) ((hu_ne (by omega)).trans ((hf2 (n + 14) (by omega) (by omega) (by omega) (by omega) (by omega) (by omega) (by omega) (by omega)).trans ((hu_ne (by omega)).trans hw1_14))) ((hu_ne (by omega)).trans ((hf2 (n + 15) (by omega) (by omega) (by omega) (by omega) (by omega) (by omega) (by omega) (by omega)).trans ((hu_ne (by omega)).trans hw1_15))) ((hu_ne (by omega)).trans ((hf2 (n + 16) (by omega) (by omega) (by omega) (by omega) (by omega) (by omega) (by omega) (by omega)).trans ((hu_ne (by omega)).trans hw1_16))) ((hu_ne (by omega)).trans ((hf2 (n + 17) (by omega) (by omega) (by omega) (by omega) (by omega) (by omega) (by omega) (by omega)).trans ((hu_ne (by omega)).trans hw1_17))) ((hu_ne (by omega)).trans ((hf2 (n + 18) (by omega) (by omega) (by omega) (by omega) (by omega) (by omega) (by omega) (by omega)).trans ((hu_ne (by omega)).trans hw1_18))) ((hu_ne (by omega)).trans ((hf2 (n + 19) (by omega) (by omega) (by omega) (by omega) (by omega) (by omega) (by omega) (by omega)).trans ((hu_ne (by omega)).trans hw1_19))) ((hu_ne (by omega)).trans ((hf2 (n + 20) (by omega) (by omega) (by omega) (by omega) (by omega) (by omega) (by omega) (by omega)).trans ((hu_ne (by omega)).trans hw1_20))) ((hu_ne (by omega)).trans ((hf2 (n + 21) (by omega) (by omega) (by omega) (by omega) (by omega) (by omega) (by omega) (by omega)).trans ((hu_ne (by omega)).trans hw1_21))) ((hu_ne (by omega)).trans ((hf2 (n + 22) (by omega) (by omega) (by omega) (by omega) (by omega) (by omega) (by omega) (by omega)).trans ((hu_ne (by omega)).trans hw1_22))) ((hu_ne (by omega)).trans ((hf2 (n + 23) (by omega) (by omega) (by omega) (by omega) (by omega) (by omega) (by omega) (by omega)).trans ((hu_ne (by omega)).trans hw1_23))) ((hu_ne (by omega)).trans ((hf2 (n + 24) (by omega) (by omega) (by omega) (by omega) (by omega) (by omega) (by omega) (by omega)).trans ((hu_ne (by omega)).trans hw1_24))) ((hu_ne (by omega)).trans ((hf2 (n + 25) (by omega) (by omega) (by omega) (by omega) (by omega) (by omega) (by omega) (by omega)).trans ((hu_ne (by omega)).trans hw1_25))) ((hu_ne (by omega)).trans ((hf2 (n + 26) (by omega) (by omega) (by omega) (by omega) (by omega) (by omega) (by omega) (by omega)).trans ((hu_ne (by omega)).trans hw1_26))) ((hu_ne (by omega)).trans ((hf2 (n + 27) (by omega) (by omega) (by omega) (by omega) (by omega) (by omega) (by omega) (by omega)).trans ((hu_ne (by omega)).trans hw1_27))) ((hu_ne (by omega)).trans ((hf2 (n + 28) (by omega) (by omega) (by omega) (by omega) (by omega) (by omega) (by omega) (by omega)).trans ((hu_ne (by omega)).trans hw1_28))) ((hu_ne (by omega)).trans ((hf2 (n + 29) (by omega) (by omega) (by omega) (by omega) (by omega) (by omega) (by omega) (by omega)).trans ((hu_ne (by omega)).trans hw1_29))) ((hu_ne (by omega)).trans ((hf2 (n + 30) (by omega) (by omega) (by omega) (by omega) (by omega) (by omega) (by omega) (by omega)).trans ((hu_ne (by omega)).trans hw1_30))) ((hu_ne (by omega)).trans ((hf2 (n + 31) (by omega) (by omega) (by omega) (by omega) (by omega) (by omega) (by omega) (by omega)).trans ((hu_ne (by omega)).trans hw1_31))) ((hu_ne (by omega)).trans ((hf2 (n + 32) (by omega) (by omega) (by omega) (by omega) (by omega) (by omega) (by omega) (by omega)).trans ((hu_ne (by omega)).trans hw1_32))) (hu_same _ _ _)) d_law_385 ⟨⟨by decide, by decide⟩, ⟨by decide, by decide⟩⟩ (Nat.le_of_ble_eq_true rfl) (fun v58 M58 n58 hQ58 hn58 hd58 => ?_)
      obtain ⟨hle58, hf58, hor58⟩ := hQ58
      rcases hor58 with ⟨rfl, ho58, hc58⟩ | ⟨rfl, hc58⟩
      · skip
        refine g_istore d_law_388 (by decide) rfl ?_
        refine g_aload_n d_law_390 rfl ?_
        refine g_aload_n d_law_391 rfl ?_
        refine g_iload d_law_392 rfl ?_
        refine g_iconst d_law_394 ?_
        refine g_iadd d_law_395 ?_
        refine g_sld (z := y1) d_law_396 (by omega) (by omega) (by omega) e1 ?_
        refine g_callV1 (ν := k_Mo_pass1) ⟨w_971, w_35, w_974, by decide, by decide, by decide +kernel⟩ w_972 w_973 (c_Mo_pass1 Γ (n + 33) ((-1)) (0) (0) (n + 35) (y1) (by omega) (by omega) ((hf58 ((n + 33)) (by omega) (by omega) (by omega)).trans ((hu_ne (by omega)).trans hw2_1))) d_law_397 ((hf58 (n + 33) (by omega) (by omega) (by omega)).trans ((hu_ne (by omega)).trans hw2_1)) rfl rfl ⟨⟨by decide, by decide⟩, ⟨by decide, by decide⟩⟩ (Nat.le_of_ble_eq_true rfl) (fun v59 M59 n59 hQ59 hn59 hd59 => ?_)
        obtain ⟨rfl, hf59, rfl, hw59_0⟩ := hQ59
        refine g_istore d_law_400 (by decide) rfl ?_
        refine g_aload_n d_law_402 rfl ?_
        refine g_callV0 (ν := k_Mo_thrown) ⟨w_763, w_35, w_766, by decide, by decide, by decide +kernel⟩ w_764 w_765 (c_Mo_thrown Γ (n + 33) ((-1)) ((0 + y1)) (0) (0) (n + 35)  hw59_0) d_law_403 hw59_0 rfl rfl ⟨⟨by decide, by decide⟩, ⟨by decide, by decide⟩⟩ (Nat.le_of_ble_eq_true rfl) (fun v60 M60 n60 hQ60 hn60 hd60 => ?_)
        obtain ⟨rfl, hf60, rfl⟩ := hQ60
        refine g_iload d_law_406 rfl ?_
        refine g_icmp_eq (tgt := 413) d_law_408 (by decide) (fun _ => ?_) (fun h61 => False.elim (by omega))
        refine g_iload d_law_413 rfl ?_
        refine g_if_ne (tgt := 430) d_law_415 (by decide) (fun h62 => False.elim (by omega)) (fun _ => ?_)
        refine g_aload_n d_law_418 rfl ?_
        refine g_iconst d_law_419 ?_
        refine g_lald (z := (iI ((0 + y1))).toInt64) d_law_420 ((hf60 (n + 41) ).trans ((hf59 (n + 41) (by omega)).trans ho58)) (by omega) (by omega) (by omega) (by simp [vp_updL]) ?_
        refine g_iload d_law_421 rfl ?_
        refine g_i2l d_law_423 rfl ?_
        refine g_lcmpE d_law_424 ?_
        refine g_if_eq (tgt := 430) d_law_425 (by decide) (fun _ => ?_) (fun h63 => False.elim (by omega))
        refine g_goto (tgt := 514) d_law_430 (by decide) ?_
        refine g_iinc d_law_514 rfl (by decide) rfl ?_
        refine g_goto (tgt := 23) d_law_517 (by decide) ?_
        refine g_iload d_law_23 rfl ?_
        refine g_aload_n d_law_25 rfl ?_
        refine g_slen d_law_26 ?_
        refine g_iconst d_law_27 ?_
        refine g_isub d_law_28 ?_
        refine g_icmp_gt (tgt := 520) d_law_29 (by decide) (fun h64 => ?_) (fun h64 => False.elim (by omega))
        refine g_iconst d_law_520 ?_
        exact g_lend d_law_521 (by decide) (by decide)
      · skip
        refine g_istore d_law_388 (by decide) rfl ?_
        refine g_aload_n d_law_390 rfl ?_
        refine g_aload_n d_law_391 rfl ?_
        refine g_iload d_law_392 rfl ?_
        refine g_iconst d_law_394 ?_
        refine g_iadd d_law_395 ?_
        refine g_sld (z := y1) d_law_396 (by omega) (by omega) (by omega) e1 ?_
        refine g_callV1 (ν := k_Mo_pass0) ⟨w_971, w_35, w_974, by decide, by decide, by decide +kernel⟩ w_972 w_973 (c_Mo_pass0 Γ (n + 33) ((-1)) (0) (0) (n + 35) (y1) (by omega) (by omega) (by omega) ((hf58 ((n + 33)) (by omega) (by omega) (by omega)).trans ((hu_ne (by omega)).trans hw2_1))) d_law_397 ((hf58 (n + 33) (by omega) (by omega) (by omega)).trans ((hu_ne (by omega)).trans hw2_1)) rfl rfl ⟨⟨by decide, by decide⟩, ⟨by decide, by decide⟩⟩ (Nat.le_of_ble_eq_true rfl) (fun v65 M65 n65 hQ65 hn65 hd65 => ?_)
        obtain ⟨rfl, hf65, rfl, hw65_0⟩ := hQ65
        refine g_istore d_law_400 (by decide) rfl ?_
        refine g_aload_n d_law_402 rfl ?_
        refine g_callV0 (ν := k_Mo_thrown) ⟨w_763, w_35, w_766, by decide, by decide, by decide +kernel⟩ w_764 w_765 (c_Mo_thrown Γ (n + 33) ((-1)) (0) (1) (0) (n + 35)  hw65_0) d_law_403 hw65_0 rfl rfl ⟨⟨by decide, by decide⟩, ⟨by decide, by decide⟩⟩ (Nat.le_of_ble_eq_true rfl) (fun v66 M66 n66 hQ66 hn66 hd66 => ?_)
        obtain ⟨rfl, hf66, rfl⟩ := hQ66
        refine g_iload d_law_406 rfl ?_
        refine g_icmp_eq (tgt := 413) d_law_408 (by decide) (fun _ => ?_) (fun h67 => False.elim (by omega))
        refine g_iload d_law_413 rfl ?_
        refine g_if_ne (tgt := 430) d_law_415 (by decide) (fun _ => ?_) (fun h68 => False.elim (by omega))
        refine g_goto (tgt := 514) d_law_430 (by decide) ?_
        refine g_iinc d_law_514 rfl (by decide) rfl ?_
        refine g_goto (tgt := 23) d_law_517 (by decide) ?_
        refine g_iload d_law_23 rfl ?_
        refine g_aload_n d_law_25 rfl ?_
        refine g_slen d_law_26 ?_
        refine g_iconst d_law_27 ?_
        refine g_isub d_law_28 ?_
        refine g_icmp_gt (tgt := 520) d_law_29 (by decide) (fun h69 => ?_) (fun h69 => False.elim (by omega))
        refine g_iconst d_law_520 ?_
        exact g_lend d_law_521 (by decide) (by decide)
    · skip
      refine g_tableIn (tgt := 433) d_law_39 (by decide) (by decide) (by decide) (by decide) rfl (by decide) ?_
      refine g_aload_n d_law_433 rfl ?_
      refine g_aload_n d_law_434 rfl ?_
      refine g_iload d_law_435 rfl ?_
      refine g_iconst d_law_437 ?_
      refine g_iadd d_law_438 ?_
      refine g_sld (z := y1) d_law_439 (by omega) (by omega) (by omega) e1 ?_
      refine g_aload_n d_law_440 rfl ?_
      refine g_iload d_law_441 rfl ?_
      refine g_iconst d_law_443 ?_
      refine g_iadd d_law_444 ?_
      refine g_sld (z := y2) d_law_445 (by omega) (by omega) (by omega) e2 ?_
      refine g_aload_n d_law_446 rfl ?_
      refine g_callSW4 (ν := k_La_thing) ⟨w_672, w_29, w_674, by decide, by decide, by decide +kernel⟩ w_673 (c_La_thing Γ (n) (y1) (y2) (n + 41) (fun _ => 0) (by omega) (by omega) (by omega) (by omega) (by omega) ((hu_ne (by omega)).trans ((hf2 (n + 1) (by omega) (by omega) (by omega) (by omega) (by omega) (by omega) (by omega) (by omega)).trans ((hu_ne (by omega)).trans hw1_0))) ((hu_ne (by omega)).trans ((hf2 (n + 2) (by omega) (by omega) (by omega) (by omega) (by omega) (by omega) (by omega) (by omega)).trans ((hu_ne (by omega)).trans hw1_1))) ((hu_ne (by omega)).trans ((hf2 (n) (by omega) (by omega) (by omega) (by omega) (by omega) (by omega) (by omega) (by omega)).trans ((hu_ne (by omega)).trans hw1_2))) ((hu_ne (by omega)).trans ((hf2 (n + 3) (by omega) (by omega) (by omega) (by omega) (by omega) (by omega) (by omega) (by omega)).trans ((hu_ne (by omega)).trans hw1_3))) ((hu_ne (by omega)).trans ((hf2 (n + 4) (by omega) (by omega) (by omega) (by omega) (by omega) (by omega) (by omega) (by omega)).trans ((hu_ne (by omega)).trans hw1_4))) ((hu_ne (by omega)).trans ((hf2 (n + 5) (by omega) (by omega) (by omega) (by omega) (by omega) (by omega) (by omega) (by omega)).trans ((hu_ne (by omega)).trans hw1_5))) ((hu_ne (by omega)).trans ((hf2 (n + 6) (by omega) (by omega) (by omega) (by omega) (by omega) (by omega) (by omega) (by omega)).trans ((hu_ne (by omega)).trans hw1_6))) ((hu_ne (by omega)).trans ((hf2 (n + 7) (by omega) (by omega) (by omega) (by omega) (by omega) (by omega) (by omega) (by omega)).trans ((hu_ne (by omega)).trans hw1_7))) ((hu_ne (by omega)).trans ((hf2 (n + 8) (by omega) (by omega) (by omega) (by omega) (by omega) (by omega) (by omega) (by omega)).trans ((hu_ne (by omega)).trans hw1_8))) ((hu_ne (by omega)).trans ((hf2 (n + 9) (by omega) (by omega) (by omega) (by omega) (by omega) (by omega) (by omega) (by omega)).trans ((hu_ne (by omega)).trans hw1_9))) ((hu_ne (by omega)).trans ((hf2 (n + 10) (by omega) (by omega) (by omega) (by omega) (by omega) (by omega) (by omega) (by omega)).trans ((hu_ne (by omega)).trans hw1_10))) ((hu_ne (by omega)).trans ((hf2 (n + 11) (by omega) (by omega) (by omega) (by omega) (by omega) (by omega) (by omega) (by omega)).trans ((hu_ne (by omega)).trans hw1_11))) ((hu_ne (by omega)).trans ((hf2 (n + 12) (by omega) (by omega) (by omega) (by omega) (by omega) (by omega) (by omega) (by omega)).trans ((hu_ne (by omega)).trans hw1_12))) ((hu_ne (by omega)).trans ((hf2 (n + 13) (by omega) (by omega) (by omega) (by omega) (by omega) (by omega) (by omega) (by omega)).trans ((hu_ne (by omega)).trans hw1_13))) ((hu_ne (by omega)).trans ((hf2 (n + 14) (by omega) (by omega) (by omega) (by omega) (by omega) (by omega) (by omega) (by omega)).trans ((hu_ne (by omega)).trans hw1_14))) ((hu_ne (by omega)).trans ((hf2 (n + 15) (by omega) (by omega) (by omega) (by omega) (by omega) (by omega) (by omega) (by omega)).trans ((hu_ne (by omega)).trans hw1_15))) ((hu_ne (by omega)).trans ((hf2 (n + 16) (by omega) (by omega) (by omega) (by omega) (by omega) (by omega) (by omega) (by omega)).trans ((hu_ne (by omega)).trans hw1_16))) ((hu_ne (by omega)).trans ((hf2 (n + 17) (by omega) (by omega) (by omega) (by omega) (by omega) (by omega) (by omega) (by omega)).trans ((hu_ne (by omega)).trans hw1_17))) ((hu_ne (by omega)).trans ((hf2 (n + 18) (by omega) (by omega) (by omega) (by omega) (by omega) (by omega) (by omega) (by omega)).trans ((hu_ne (by omega)).trans hw1_18))) ((hu_ne (by omega)).trans ((hf2 (n + 19) (by omega) (by omega) (by omega) (by omega) (by omega) (by omega) (by omega) (by omega)).trans ((hu_ne (by omega)).trans hw1_19))) ((hu_ne (by omega)).trans ((hf2 (n + 20) (by omega) (by omega) (by omega) (by omega) (by omega) (by omega) (by omega) (by omega)).trans ((hu_ne (by omega)).trans hw1_20))) ((hu_ne (by omega)).trans ((hf2 (n + 21) (by omega) (by omega) (by omega) (by omega) (by omega) (by omega) (by omega) (by omega)).trans ((hu_ne (by omega)).trans hw1_21))) ((hu_ne (by omega)).trans ((hf2 (n + 22) (by omega) (by omega) (by omega) (by omega) (by omega) (by omega) (by omega) (by omega)).trans ((hu_ne (by omega)).trans hw1_22))) ((hu_ne (by omega)).trans ((hf2 (n + 23) (by omega) (by omega) (by omega) (by omega) (by omega) (by omega) (by omega) (by omega)).trans ((hu_ne (by omega)).trans hw1_23))) ((hu_ne (by omega)).trans ((hf2 (n + 24) (by omega) (by omega) (by omega) (by omega) (by omega) (by omega) (by omega) (by omega)).trans ((hu_ne (by omega)).trans hw1_24))) ((hu_ne (by omega)).trans ((hf2 (n + 25) (by omega) (by omega) (by omega) (by omega) (by omega) (by omega) (by omega) (by omega)).trans ((hu_ne (by omega)).trans hw1_25))) ((hu_ne (by omega)).trans ((hf2 (n + 26) (by omega) (by omega) (by omega) (by omega) (by omega) (by omega) (by omega) (by omega)).trans ((hu_ne (by omega)).trans hw1_26))) ((hu_ne (by omega)).trans ((hf2 (n + 27) (by omega) (by omega) (by omega) (by omega) (by omega) (by omega) (by omega) (by omega)).trans ((hu_ne (by omega)).trans hw1_27))) ((hu_ne (by omega)).trans ((hf2 (n + 28) (by omega) (by omega) (by omega) (by omega) (by omega) (by omega) (by omega) (by omega)).trans ((hu_ne (by omega)).trans hw1_28))) ((hu_ne (by omega)).trans ((hf2 (n + 29) (by omega) (by omega) (by omega) (by omega) (by omega) (by omega) (by omega) (by omega)).trans ((hu_ne (by omega)).trans hw1_29))) ((hu_ne (by omega)).trans ((hf2 (n + 30) (by omega) (by omega) (by omega) (by omega) (by omega) (by omega) (by omega) (by omega)).trans ((hu_ne (by omega)).trans hw1_30))) ((hu_ne (by omega)).trans ((hf2 (n + 31) (by omega) (by omega) (by omega) (by omega) (by omega) (by omega) (by omega) (by omega)).trans ((hu_ne (by omega)).trans hw1_31))) ((hu_ne (by omega)).trans ((hf2 (n + 32) (by omega) (by omega) (by omega) (by omega) (by omega) (by omega) (by omega) (by omega)).trans ((hu_ne (by omega)).trans hw1_32))) (hu_same _ _ _)) d_law_447 ⟨⟨by decide, by decide⟩, ⟨by decide, by decide⟩⟩ (Nat.le_of_ble_eq_true rfl) (fun v70 M70 n70 hQ70 hn70 hd70 => ?_)
      obtain ⟨hle70, hf70, hor70⟩ := hQ70
      rcases hor70 with hor70 | ⟨rfl, hc70⟩
      · skip
        exact hor70.elim
      · skip
        refine g_istore d_law_450 (by decide) rfl ?_
        refine g_aload_n d_law_452 rfl ?_
        refine g_aload_n d_law_453 rfl ?_
        refine g_iload d_law_454 rfl ?_
        refine g_iconst d_law_456 ?_
        refine g_iadd d_law_457 ?_
        refine g_sld (z := y1) d_law_458 (by omega) (by omega) (by omega) e1 ?_
        refine g_aload_n d_law_459 rfl ?_
        refine g_iload d_law_460 rfl ?_
        refine g_iconst d_law_462 ?_
        refine g_iadd d_law_463 ?_
        refine g_sld (z := y2) d_law_464 (by omega) (by omega) (by omega) e2 ?_
        refine g_callV2 (ν := k_Mo_thing0) ⟨w_977, w_35, w_980, by decide, by decide, by decide +kernel⟩ w_978 w_979 (c_Mo_thing0 Γ (n + 33) ((-1)) (0) (0) (0) (n + 35) (y1) (y2) (by omega) (by omega) ((hf70 ((n + 33)) (by omega) (by omega) (by omega)).trans ((hu_ne (by omega)).trans hw2_1))) d_law_465 ((hf70 (n + 33) (by omega) (by omega) (by omega)).trans ((hu_ne (by omega)).trans hw2_1)) rfl rfl ⟨⟨by decide, by decide⟩, ⟨by decide, by decide⟩⟩ (Nat.le_of_ble_eq_true rfl) (fun v71 M71 n71 hQ71 hn71 hd71 => ?_)
        obtain ⟨rfl, hf71, rfl, hw71_0⟩ := hQ71
        refine g_istore d_law_468 (by decide) rfl ?_
        refine g_aload_n d_law_470 rfl ?_
        refine g_callV0 (ν := k_Mo_thrown) ⟨w_763, w_35, w_766, by decide, by decide, by decide +kernel⟩ w_764 w_765 (c_Mo_thrown Γ (n + 33) ((-1)) (0) (1) (0) (n + 35)  hw71_0) d_law_471 hw71_0 rfl rfl ⟨⟨by decide, by decide⟩, ⟨by decide, by decide⟩⟩ (Nat.le_of_ble_eq_true rfl) (fun v72 M72 n72 hQ72 hn72 hd72 => ?_)
        obtain ⟨rfl, hf72, rfl⟩ := hQ72
        refine g_iload d_law_474 rfl ?_
        refine g_icmp_eq (tgt := 481) d_law_476 (by decide) (fun _ => ?_) (fun h73 => False.elim (by omega))
        refine g_iload d_law_481 rfl ?_
        refine g_if_ne (tgt := 498) d_law_483 (by decide) (fun _ => ?_) (fun h74 => False.elim (by omega))
        refine g_goto (tgt := 514) d_law_498 (by decide) ?_
        refine g_iinc d_law_514 rfl (by decide) rfl ?_
        refine g_goto (tgt := 23) d_law_517 (by decide) ?_
        refine g_iload d_law_23 rfl ?_
        refine g_aload_n d_law_25 rfl ?_
        refine g_slen d_law_26 ?_
        refine g_iconst d_law_27 ?_
        refine g_isub d_law_28 ?_
        refine g_icmp_gt (tgt := 520) d_law_29 (by decide) (fun h75 => ?_) (fun h75 => False.elim (by omega))
        refine g_iconst d_law_520 ?_
        exact g_lend d_law_521 (by decide) (by decide)
    · skip
      refine g_tableIn (tgt := 501) d_law_39 (by decide) (by decide) (by decide) (by decide) rfl (by decide) ?_
      refine g_aload_n d_law_501 rfl ?_
      refine g_callV0 (ν := k_VS_things0) ⟨w_206, w_30, w_209, by decide, by decide, by decide +kernel⟩ w_207 w_208 (c_VS_things0 Γ (n) (n + 5) (n + 11) ((-1)) (0) (0)  ((hu_ne (by omega)).trans ((hf2 (n) (by omega) (by omega) (by omega) (by omega) (by omega) (by omega) (by omega) (by omega)).trans ((hu_ne (by omega)).trans hw1_2))) ((hu_ne (by omega)).trans ((hf2 (n + 3) (by omega) (by omega) (by omega) (by omega) (by omega) (by omega) (by omega) (by omega)).trans ((hu_ne (by omega)).trans hw1_3)))) d_law_502 ((hu_ne (by omega)).trans ((hf2 (n) (by omega) (by omega) (by omega) (by omega) (by omega) (by omega) (by omega) (by omega)).trans ((hu_ne (by omega)).trans hw1_2))) rfl rfl ⟨⟨by decide, by decide⟩, ⟨by decide, by decide⟩⟩ (Nat.le_of_ble_eq_true rfl) (fun v76 M76 n76 hQ76 hn76 hd76 => ?_)
      obtain ⟨rfl, hf76, rfl⟩ := hQ76
      refine g_aload_n d_law_505 rfl ?_
      refine g_callV0 (ν := k_Mo_things) ⟨w_981, w_35, w_984, by decide, by decide, by decide +kernel⟩ w_982 w_983 (c_Mo_things Γ (n + 33) ((-1)) (0) (0) (0) (n + 35)  ((hf76 ((n + 33)) ).trans ((hu_ne (by omega)).trans hw2_1))) d_law_506 ((hf76 (n + 33) ).trans ((hu_ne (by omega)).trans hw2_1)) rfl rfl ⟨⟨by decide, by decide⟩, ⟨by decide, by decide⟩⟩ (Nat.le_of_ble_eq_true rfl) (fun v77 M77 n77 hQ77 hn77 hd77 => ?_)
      obtain ⟨rfl, hf77, rfl, hw77_0⟩ := hQ77
      refine g_icmp_eq (tgt := 514) d_law_509 (by decide) (fun _ => ?_) (fun h78 => False.elim (by omega))
      refine g_iinc d_law_514 rfl (by decide) rfl ?_
      refine g_goto (tgt := 23) d_law_517 (by decide) ?_
      refine g_iload d_law_23 rfl ?_
      refine g_aload_n d_law_25 rfl ?_
      refine g_slen d_law_26 ?_
      refine g_iconst d_law_27 ?_
      refine g_isub d_law_28 ?_
      refine g_icmp_gt (tgt := 520) d_law_29 (by decide) (fun h79 => ?_) (fun h79 => False.elim (by omega))
      refine g_iconst d_law_520 ?_
      exact g_lend d_law_521 (by decide) (by decide)
    · skip
      refine g_tableOut (tgt := 514) d_law_39 (by omega) (by omega) (by omega) (by decide) ?_
      refine g_iinc d_law_514 rfl (by decide) rfl ?_
      refine g_goto (tgt := 23) d_law_517 (by decide) ?_
      refine g_iload d_law_23 rfl ?_
      refine g_aload_n d_law_25 rfl ?_
      refine g_slen d_law_26 ?_
      refine g_iconst d_law_27 ?_
      refine g_isub d_law_28 ?_
      refine g_icmp_gt (tgt := 520) d_law_29 (by decide) (fun h80 => ?_) (fun h80 => False.elim (by omega))
      refine g_iconst d_law_520 ?_
      exact g_lend d_law_521 (by decide) (by decide)
