theorem dL_law_79 : decode cL_law 79 = .ok (.iconst 0, 1) := by decide +kernel
theorem dL_law_80 : decode cL_law 80 = .ok (.istore 5, 2) := by decide +kernel
theorem dL_law_82 : decode cL_law 82 = .ok (.iload 5, 2) := by decide +kernel
theorem dL_law_84 : decode cL_law 84 = .ok (.bipush 45, 2) := by decide +kernel
theorem dL_law_86 : decode cL_law 86 = .ok (.if_icmp .ge 390, 3) := by decide +kernel
theorem dL_law_89 : decode cL_law 89 = .ok (.aload_n 0, 1) := by decide +kernel
theorem dL_law_90 : decode cL_law 90 = .ok (.bipush 14, 2) := by decide +kernel
theorem dL_law_92 : decode cL_law 92 = .ok (.iload 5, 2) := by decide +kernel
theorem dL_law_94 : decode cL_law 94 = .ok (.bipush 18, 2) := by decide +kernel
theorem dL_law_96 : decode cL_law 96 = .ok (.irem, 1) := by decide +kernel
theorem dL_law_97 : decode cL_law 97 = .ok (.iadd, 1) := by decide +kernel
theorem dL_law_98 : decode cL_law 98 = .ok (.invokestatic 12, 3) := by decide +kernel
theorem dL_law_101 : decode cL_law 101 = .ok (.iload 5, 2) := by decide +kernel
theorem dL_law_103 : decode cL_law 103 = .ok (.bipush 18, 2) := by decide +kernel
theorem dL_law_105 : decode cL_law 105 = .ok (.idiv, 1) := by decide +kernel
theorem dL_law_106 : decode cL_law 106 = .ok (.bipush 6, 2) := by decide +kernel
theorem dL_law_108 : decode cL_law 108 = .ok (.imul, 1) := by decide +kernel
theorem dL_law_109 : decode cL_law 109 = .ok (.ishr, 1) := by decide +kernel
theorem dL_law_110 : decode cL_law 110 = .ok (.istore 6, 2) := by decide +kernel
theorem dL_law_112 : decode cL_law 112 = .ok (.bipush 12, 2) := by decide +kernel
theorem dL_law_114 : decode cL_law 114 = .ok (.newarray .int, 2) := by decide +kernel
theorem dL_law_116 : decode cL_law 116 = .ok (.astore 7, 2) := by decide +kernel
theorem dL_law_118 : decode cL_law 118 = .ok (.iconst 0, 1) := by decide +kernel
theorem dL_law_119 : decode cL_law 119 = .ok (.istore 8, 2) := by decide +kernel
theorem dL_law_121 : decode cL_law 121 = .ok (.iload 8, 2) := by decide +kernel
theorem dL_law_123 : decode cL_law 123 = .ok (.iload_n 2, 1) := by decide +kernel
theorem dL_law_124 : decode cL_law 124 = .ok (.if_icmp .ge 20, 3) := by decide +kernel
theorem dL_law_127 : decode cL_law 127 = .ok (.aload 7, 2) := by decide +kernel
theorem dL_law_129 : decode cL_law 129 = .ok (.iload 8, 2) := by decide +kernel
theorem dL_law_131 : decode cL_law 131 = .ok (.aload_n 1, 1) := by decide +kernel
theorem dL_law_132 : decode cL_law 132 = .ok (.iload 8, 2) := by decide +kernel
theorem dL_law_134 : decode cL_law 134 = .ok (.invokevirtual 37, 3) := by decide +kernel
theorem dL_law_137 : decode cL_law 137 = .ok (.iastore, 1) := by decide +kernel
theorem dL_law_138 : decode cL_law 138 = .ok (.iinc 8 1, 3) := by decide +kernel
theorem dL_law_141 : decode cL_law 141 = .ok (.goto (-20), 3) := by decide +kernel
theorem dL_law_144 : decode cL_law 144 = .ok (.iload_n 3, 1) := by decide +kernel
theorem dL_law_145 : decode cL_law 145 = .ok (.iload 6, 2) := by decide +kernel
theorem dL_law_147 : decode cL_law 147 = .ok (.iconst 5, 1) := by decide +kernel
theorem dL_law_148 : decode cL_law 148 = .ok (.ishr, 1) := by decide +kernel
theorem dL_law_149 : decode cL_law 149 = .ok (.bipush 9, 2) := by decide +kernel
theorem dL_law_151 : decode cL_law 151 = .ok (.invokestatic 18, 3) := by decide +kernel
theorem dL_law_154 : decode cL_law 154 = .ok (.iadd, 1) := by decide +kernel
theorem dL_law_155 : decode cL_law 155 = .ok (.istore_n 3, 1) := by decide +kernel
theorem dL_law_156 : decode cL_law 156 = .ok (.iconst 0, 1) := by decide +kernel
theorem dL_law_157 : decode cL_law 157 = .ok (.istore 8, 2) := by decide +kernel
theorem dL_law_159 : decode cL_law 159 = .ok (.iload 6, 2) := by decide +kernel
theorem dL_law_161 : decode cL_law 161 = .ok (.bipush 14, 2) := by decide +kernel
theorem dL_law_163 : decode cL_law 163 = .ok (.invokestatic 18, 3) := by decide +kernel
theorem dL_law_166 : decode cL_law 166 = .ok (.istore 9, 2) := by decide +kernel
theorem dL_law_168 : decode cL_law 168 = .ok (.iload 9, 2) := by decide +kernel
theorem dL_law_170 : decode cL_law 170 = .ok (.bipush 6, 2) := by decide +kernel
theorem dL_law_172 : decode cL_law 172 = .ok (.if_icmp .ge 61, 3) := by decide +kernel
theorem dL_law_175 : decode cL_law 175 = .ok (.iload 4, 2) := by decide +kernel
theorem dL_law_177 : decode cL_law 177 = .ok (.aload_n 1, 1) := by decide +kernel
theorem dL_law_178 : decode cL_law 178 = .ok (.iload 6, 2) := by decide +kernel
theorem dL_law_180 : decode cL_law 180 = .ok (.iconst 3, 1) := by decide +kernel
theorem dL_law_181 : decode cL_law 181 = .ok (.ishr, 1) := by decide +kernel
theorem dL_law_182 : decode cL_law 182 = .ok (.iload_n 2, 1) := by decide +kernel
theorem dL_law_183 : decode cL_law 183 = .ok (.invokestatic 18, 3) := by decide +kernel
theorem dL_law_186 : decode cL_law 186 = .ok (.iload 6, 2) := by decide +kernel
theorem dL_law_188 : decode cL_law 188 = .ok (.bipush 6, 2) := by decide +kernel
theorem dL_law_190 : decode cL_law 190 = .ok (.ishr, 1) := by decide +kernel
theorem dL_law_191 : decode cL_law 191 = .ok (.iconst 4, 1) := by decide +kernel
theorem dL_law_192 : decode cL_law 192 = .ok (.invokestatic 18, 3) := by decide +kernel
theorem dL_law_195 : decode cL_law 195 = .ok (.iload 6, 2) := by decide +kernel
theorem dL_law_197 : decode cL_law 197 = .ok (.bipush 7, 2) := by decide +kernel
theorem dL_law_199 : decode cL_law 199 = .ok (.ishr, 1) := by decide +kernel
theorem dL_law_200 : decode cL_law 200 = .ok (.bipush 101, 2) := by decide +kernel
theorem dL_law_202 : decode cL_law 202 = .ok (.invokestatic 18, 3) := by decide +kernel
theorem dL_law_205 : decode cL_law 205 = .ok (.bipush 30, 2) := by decide +kernel
theorem dL_law_207 : decode cL_law 207 = .ok (.isub, 1) := by decide +kernel
theorem dL_law_208 : decode cL_law 208 = .ok (.iconst 0, 1) := by decide +kernel
theorem dL_law_209 : decode cL_law 209 = .ok (.iload_n 3, 1) := by decide +kernel
theorem dL_law_210 : decode cL_law 210 = .ok (.iload 6, 2) := by decide +kernel
theorem dL_law_212 : decode cL_law 212 = .ok (.bipush 9, 2) := by decide +kernel
theorem dL_law_214 : decode cL_law 214 = .ok (.ishr, 1) := by decide +kernel
theorem dL_law_215 : decode cL_law 215 = .ok (.bipush 30, 2) := by decide +kernel
theorem dL_law_217 : decode cL_law 217 = .ok (.invokestatic 18, 3) := by decide +kernel
theorem dL_law_220 : decode cL_law 220 = .ok (.isub, 1) := by decide +kernel
theorem dL_law_221 : decode cL_law 221 = .ok (.invokestatic 40, 3) := by decide +kernel
theorem dL_law_224 : decode cL_law 224 = .ok (.invokestatic 45, 3) := by decide +kernel
theorem dL_law_227 : decode cL_law 227 = .ok (.iadd, 1) := by decide +kernel
theorem dL_law_228 : decode cL_law 228 = .ok (.istore 4, 2) := by decide +kernel
theorem dL_law_230 : decode cL_law 230 = .ok (.goto 192, 3) := by decide +kernel
theorem dL_law_233 : decode cL_law 233 = .ok (.iload 9, 2) := by decide +kernel
theorem dL_law_235 : decode cL_law 235 = .ok (.bipush 10, 2) := by decide +kernel
theorem dL_law_237 : decode cL_law 237 = .ok (.if_icmp .ge 22, 3) := by decide +kernel
theorem dL_law_240 : decode cL_law 240 = .ok (.aload_n 1, 1) := by decide +kernel
theorem dL_law_241 : decode cL_law 241 = .ok (.iconst 1, 1) := by decide +kernel
theorem dL_law_242 : decode cL_law 242 = .ok (.iload 6, 2) := by decide +kernel
theorem dL_law_244 : decode cL_law 244 = .ok (.iconst 4, 1) := by decide +kernel
theorem dL_law_245 : decode cL_law 245 = .ok (.ishr, 1) := by decide +kernel
theorem dL_law_246 : decode cL_law 246 = .ok (.bipush 40, 2) := by decide +kernel
theorem dL_law_248 : decode cL_law 248 = .ok (.invokestatic 18, 3) := by decide +kernel
theorem dL_law_251 : decode cL_law 251 = .ok (.iadd, 1) := by decide +kernel
theorem dL_law_252 : decode cL_law 252 = .ok (.invokevirtual 49, 3) := by decide +kernel
theorem dL_law_255 : decode cL_law 255 = .ok (.pop, 1) := by decide +kernel
theorem dL_law_256 : decode cL_law 256 = .ok (.goto 166, 3) := by decide +kernel
theorem dL_law_259 : decode cL_law 259 = .ok (.iload 9, 2) := by decide +kernel
theorem dL_law_261 : decode cL_law 261 = .ok (.bipush 10, 2) := by decide +kernel
theorem dL_law_263 : decode cL_law 263 = .ok (.if_icmp .ne 19, 3) := by decide +kernel
theorem dL_law_266 : decode cL_law 266 = .ok (.aload_n 1, 1) := by decide +kernel
theorem dL_law_267 : decode cL_law 267 = .ok (.iload 6, 2) := by decide +kernel
theorem dL_law_269 : decode cL_law 269 = .ok (.iconst 4, 1) := by decide +kernel
theorem dL_law_270 : decode cL_law 270 = .ok (.ishr, 1) := by decide +kernel
theorem dL_law_271 : decode cL_law 271 = .ok (.iload_n 2, 1) := by decide +kernel
theorem dL_law_272 : decode cL_law 272 = .ok (.invokestatic 18, 3) := by decide +kernel
theorem dL_law_275 : decode cL_law 275 = .ok (.invokevirtual 52, 3) := by decide +kernel
theorem dL_law_278 : decode cL_law 278 = .ok (.pop, 1) := by decide +kernel
theorem dL_law_279 : decode cL_law 279 = .ok (.goto 143, 3) := by decide +kernel
theorem dL_law_282 : decode cL_law 282 = .ok (.iload 9, 2) := by decide +kernel
theorem dL_law_284 : decode cL_law 284 = .ok (.bipush 13, 2) := by decide +kernel
theorem dL_law_286 : decode cL_law 286 = .ok (.if_icmp .ge 18, 3) := by decide +kernel
theorem dL_law_289 : decode cL_law 289 = .ok (.aload_n 1, 1) := by decide +kernel
theorem dL_law_290 : decode cL_law 290 = .ok (.invokevirtual 56, 3) := by decide +kernel
theorem dL_law_293 : decode cL_law 293 = .ok (.ifCond .ne 11, 3) := by decide +kernel
theorem dL_law_296 : decode cL_law 296 = .ok (.aload_n 1, 1) := by decide +kernel
theorem dL_law_297 : decode cL_law 297 = .ok (.invokevirtual 59, 3) := by decide +kernel
theorem dL_law_300 : decode cL_law 300 = .ok (.pop, 1) := by decide +kernel
theorem dL_law_301 : decode cL_law 301 = .ok (.goto 121, 3) := by decide +kernel
theorem dL_law_304 : decode cL_law 304 = .ok (.iload 9, 2) := by decide +kernel
theorem dL_law_306 : decode cL_law 306 = .ok (.bipush 13, 2) := by decide +kernel
theorem dL_law_308 : decode cL_law 308 = .ok (.if_icmp .ne 114, 3) := by decide +kernel
theorem dL_law_311 : decode cL_law 311 = .ok (.iconst 1, 1) := by decide +kernel
theorem dL_law_312 : decode cL_law 312 = .ok (.istore 8, 2) := by decide +kernel
theorem dL_law_314 : decode cL_law 314 = .ok (.bipush 12, 2) := by decide +kernel
theorem dL_law_316 : decode cL_law 316 = .ok (.newarray .int, 2) := by decide +kernel
theorem dL_law_318 : decode cL_law 318 = .ok (.astore 10, 2) := by decide +kernel
theorem dL_law_320 : decode cL_law 320 = .ok (.iconst 0, 1) := by decide +kernel
theorem dL_law_321 : decode cL_law 321 = .ok (.istore 11, 2) := by decide +kernel
theorem dL_law_323 : decode cL_law 323 = .ok (.iload 11, 2) := by decide +kernel
theorem dL_law_325 : decode cL_law 325 = .ok (.iload_n 2, 1) := by decide +kernel
theorem dL_law_326 : decode cL_law 326 = .ok (.if_icmp .ge 35, 3) := by decide +kernel
theorem dL_law_329 : decode cL_law 329 = .ok (.aload 10, 2) := by decide +kernel
theorem dL_law_331 : decode cL_law 331 = .ok (.iload 11, 2) := by decide +kernel
theorem dL_law_333 : decode cL_law 333 = .ok (.aload_n 1, 1) := by decide +kernel
theorem dL_law_334 : decode cL_law 334 = .ok (.iload 11, 2) := by decide +kernel
theorem dL_law_336 : decode cL_law 336 = .ok (.invokevirtual 62, 3) := by decide +kernel
theorem dL_law_339 : decode cL_law 339 = .ok (.bipush 7, 2) := by decide +kernel
theorem dL_law_341 : decode cL_law 341 = .ok (.if_icmp .ne 12, 3) := by decide +kernel
theorem dL_law_344 : decode cL_law 344 = .ok (.aload_n 1, 1) := by decide +kernel
theorem dL_law_345 : decode cL_law 345 = .ok (.iload 11, 2) := by decide +kernel
theorem dL_law_347 : decode cL_law 347 = .ok (.invokevirtual 65, 3) := by decide +kernel
theorem dL_law_350 : decode cL_law 350 = .ok (.goto 4, 3) := by decide +kernel
theorem dL_law_353 : decode cL_law 353 = .ok (.iconst 0, 1) := by decide +kernel
theorem dL_law_354 : decode cL_law 354 = .ok (.iastore, 1) := by decide +kernel
theorem dL_law_355 : decode cL_law 355 = .ok (.iinc 11 1, 3) := by decide +kernel
theorem dL_law_358 : decode cL_law 358 = .ok (.goto (-35), 3) := by decide +kernel
theorem dL_law_361 : decode cL_law 361 = .ok (.aload_n 1, 1) := by decide +kernel
theorem dL_law_362 : decode cL_law 362 = .ok (.invokevirtual 68, 3) := by decide +kernel
theorem dL_law_365 : decode cL_law 365 = .ok (.pop, 1) := by decide +kernel
theorem dL_law_366 : decode cL_law 366 = .ok (.iconst 0, 1) := by decide +kernel
theorem dL_law_367 : decode cL_law 367 = .ok (.istore 11, 2) := by decide +kernel
theorem dL_law_369 : decode cL_law 369 = .ok (.iload 11, 2) := by decide +kernel
theorem dL_law_371 : decode cL_law 371 = .ok (.iload_n 2, 1) := by decide +kernel
theorem dL_law_372 : decode cL_law 372 = .ok (.if_icmp .ge 50, 3) := by decide +kernel
theorem dL_law_375 : decode cL_law 375 = .ok (.aload_n 1, 1) := by decide +kernel
theorem dL_law_376 : decode cL_law 376 = .ok (.iload 11, 2) := by decide +kernel
theorem dL_law_378 : decode cL_law 378 = .ok (.invokevirtual 62, 3) := by decide +kernel
theorem dL_law_381 : decode cL_law 381 = .ok (.bipush 7, 2) := by decide +kernel
theorem dL_law_383 : decode cL_law 383 = .ok (.if_icmp .ne 33, 3) := by decide +kernel
theorem dL_law_386 : decode cL_law 386 = .ok (.aload_n 1, 1) := by decide +kernel
theorem dL_law_387 : decode cL_law 387 = .ok (.iload 11, 2) := by decide +kernel
theorem dL_law_389 : decode cL_law 389 = .ok (.invokevirtual 71, 3) := by decide +kernel
theorem dL_law_392 : decode cL_law 392 = .ok (.aload 10, 2) := by decide +kernel
theorem dL_law_394 : decode cL_law 394 = .ok (.iload 11, 2) := by decide +kernel
theorem dL_law_396 : decode cL_law 396 = .ok (.iaload, 1) := by decide +kernel
theorem dL_law_397 : decode cL_law 397 = .ok (.if_icmp .ne 17, 3) := by decide +kernel
theorem dL_law_400 : decode cL_law 400 = .ok (.aload_n 1, 1) := by decide +kernel
theorem dL_law_401 : decode cL_law 401 = .ok (.iload 11, 2) := by decide +kernel
theorem dL_law_403 : decode cL_law 403 = .ok (.invokevirtual 65, 3) := by decide +kernel
theorem dL_law_406 : decode cL_law 406 = .ok (.aload 10, 2) := by decide +kernel
theorem dL_law_408 : decode cL_law 408 = .ok (.iload 11, 2) := by decide +kernel
theorem dL_law_410 : decode cL_law 410 = .ok (.iaload, 1) := by decide +kernel
theorem dL_law_411 : decode cL_law 411 = .ok (.if_icmp .eq 5, 3) := by decide +kernel
theorem dL_law_414 : decode cL_law 414 = .ok (.iconst 0, 1) := by decide +kernel
theorem dL_law_415 : decode cL_law 415 = .ok (.ireturn, 1) := by decide +kernel
theorem dL_law_416 : decode cL_law 416 = .ok (.iinc 11 1, 3) := by decide +kernel
theorem dL_law_419 : decode cL_law 419 = .ok (.goto (-50), 3) := by decide +kernel
theorem dL_law_422 : decode cL_law 422 = .ok (.aload_n 1, 1) := by decide +kernel
theorem dL_law_423 : decode cL_law 423 = .ok (.iload_n 2, 1) := by decide +kernel
theorem dL_law_424 : decode cL_law 424 = .ok (.iload 4, 2) := by decide +kernel
theorem dL_law_426 : decode cL_law 426 = .ok (.invokestatic 74, 3) := by decide +kernel
theorem dL_law_429 : decode cL_law 429 = .ok (.ifCond .ne 5, 3) := by decide +kernel
theorem dL_law_432 : decode cL_law 432 = .ok (.iconst 0, 1) := by decide +kernel
theorem dL_law_433 : decode cL_law 433 = .ok (.ireturn, 1) := by decide +kernel
theorem dL_law_434 : decode cL_law 434 = .ok (.iconst 0, 1) := by decide +kernel
theorem dL_law_435 : decode cL_law 435 = .ok (.istore 10, 2) := by decide +kernel
theorem dL_law_437 : decode cL_law 437 = .ok (.iload 10, 2) := by decide +kernel
theorem dL_law_439 : decode cL_law 439 = .ok (.iload_n 2, 1) := by decide +kernel
theorem dL_law_440 : decode cL_law 440 = .ok (.if_icmp .ge 30, 3) := by decide +kernel
theorem dL_law_443 : decode cL_law 443 = .ok (.iload 8, 2) := by decide +kernel
theorem dL_law_445 : decode cL_law 445 = .ok (.ifCond .ne 19, 3) := by decide +kernel
theorem dL_law_448 : decode cL_law 448 = .ok (.aload_n 1, 1) := by decide +kernel
theorem dL_law_449 : decode cL_law 449 = .ok (.iload 10, 2) := by decide +kernel
theorem dL_law_451 : decode cL_law 451 = .ok (.invokevirtual 37, 3) := by decide +kernel
theorem dL_law_454 : decode cL_law 454 = .ok (.aload 7, 2) := by decide +kernel
theorem dL_law_456 : decode cL_law 456 = .ok (.iload 10, 2) := by decide +kernel
theorem dL_law_458 : decode cL_law 458 = .ok (.iaload, 1) := by decide +kernel
theorem dL_law_459 : decode cL_law 459 = .ok (.if_icmp .ge 5, 3) := by decide +kernel
theorem dL_law_462 : decode cL_law 462 = .ok (.iconst 0, 1) := by decide +kernel
theorem dL_law_463 : decode cL_law 463 = .ok (.ireturn, 1) := by decide +kernel
theorem dL_law_464 : decode cL_law 464 = .ok (.iinc 10 1, 3) := by decide +kernel
theorem dL_law_467 : decode cL_law 467 = .ok (.goto (-30), 3) := by decide +kernel
theorem dL_law_470 : decode cL_law 470 = .ok (.iinc 5 1, 3) := by decide +kernel
theorem dL_law_473 : decode cL_law 473 = .ok (.goto (-391), 3) := by decide +kernel
theorem dL_law_476 : decode cL_law 476 = .ok (.aload_n 1, 1) := by decide +kernel
theorem dL_law_477 : decode cL_law 477 = .ok (.invokevirtual 78, 3) := by decide +kernel
theorem dL_law_480 : decode cL_law 480 = .ok (.lstore 5, 2) := by decide +kernel
theorem dL_law_482 : decode cL_law 482 = .ok (.aload_n 1, 1) := by decide +kernel
theorem dL_law_483 : decode cL_law 483 = .ok (.sipush 200, 3) := by decide +kernel
theorem dL_law_486 : decode cL_law 486 = .ok (.invokevirtual 82, 3) := by decide +kernel
theorem dL_law_489 : decode cL_law 489 = .ok (.iconst (-1), 1) := by decide +kernel
theorem dL_law_490 : decode cL_law 490 = .ok (.if_icmp .lt 21, 3) := by decide +kernel
theorem dL_law_493 : decode cL_law 493 = .ok (.aload_n 1, 1) := by decide +kernel
theorem dL_law_494 : decode cL_law 494 = .ok (.invokevirtual 85, 3) := by decide +kernel
theorem dL_law_497 : decode cL_law 497 = .ok (.iconst (-1), 1) := by decide +kernel
theorem dL_law_498 : decode cL_law 498 = .ok (.if_icmp .lt 13, 3) := by decide +kernel
theorem dL_law_501 : decode cL_law 501 = .ok (.aload_n 1, 1) := by decide +kernel
theorem dL_law_502 : decode cL_law 502 = .ok (.invokevirtual 78, 3) := by decide +kernel
theorem dL_law_505 : decode cL_law 505 = .ok (.lload 5, 2) := by decide +kernel
theorem dL_law_507 : decode cL_law 507 = .ok (.lcmp, 1) := by decide +kernel
theorem dL_law_508 : decode cL_law 508 = .ok (.ifCond .eq 5, 3) := by decide +kernel
theorem dL_law_511 : decode cL_law 511 = .ok (.iconst 0, 1) := by decide +kernel
theorem dL_law_512 : decode cL_law 512 = .ok (.ireturn, 1) := by decide +kernel
theorem dL_law_513 : decode cL_law 513 = .ok (.iconst 0, 1) := by decide +kernel
theorem dL_law_514 : decode cL_law 514 = .ok (.istore 7, 2) := by decide +kernel
theorem dL_law_516 : decode cL_law 516 = .ok (.iload 7, 2) := by decide +kernel
theorem dL_law_518 : decode cL_law 518 = .ok (.iload_n 2, 1) := by decide +kernel
theorem dL_law_519 : decode cL_law 519 = .ok (.if_icmp .ge 25, 3) := by decide +kernel
theorem dL_law_522 : decode cL_law 522 = .ok (.aload_n 1, 1) := by decide +kernel
theorem dL_law_523 : decode cL_law 523 = .ok (.iload 7, 2) := by decide +kernel
theorem dL_law_525 : decode cL_law 525 = .ok (.invokevirtual 62, 3) := by decide +kernel
theorem dL_law_528 : decode cL_law 528 = .ok (.ifCond .ne 10, 3) := by decide +kernel
theorem dL_law_531 : decode cL_law 531 = .ok (.aload_n 1, 1) := by decide +kernel
theorem dL_law_532 : decode cL_law 532 = .ok (.iload 7, 2) := by decide +kernel
theorem dL_law_534 : decode cL_law 534 = .ok (.invokevirtual 88, 3) := by decide +kernel
theorem dL_law_537 : decode cL_law 537 = .ok (.pop, 1) := by decide +kernel
theorem dL_law_538 : decode cL_law 538 = .ok (.iinc 7 1, 3) := by decide +kernel
theorem dL_law_541 : decode cL_law 541 = .ok (.goto (-25), 3) := by decide +kernel
theorem dL_law_544 : decode cL_law 544 = .ok (.aload_n 1, 1) := by decide +kernel
theorem dL_law_545 : decode cL_law 545 = .ok (.invokevirtual 56, 3) := by decide +kernel
theorem dL_law_548 : decode cL_law 548 = .ok (.ifCond .ne 8, 3) := by decide +kernel
theorem dL_law_551 : decode cL_law 551 = .ok (.aload_n 1, 1) := by decide +kernel
theorem dL_law_552 : decode cL_law 552 = .ok (.invokevirtual 59, 3) := by decide +kernel
theorem dL_law_555 : decode cL_law 555 = .ok (.pop, 1) := by decide +kernel
theorem dL_law_556 : decode cL_law 556 = .ok (.iconst 0, 1) := by decide +kernel
theorem dL_law_557 : decode cL_law 557 = .ok (.istore 7, 2) := by decide +kernel
theorem dL_law_559 : decode cL_law 559 = .ok (.iload 7, 2) := by decide +kernel
theorem dL_law_561 : decode cL_law 561 = .ok (.bipush 60, 2) := by decide +kernel
theorem dL_law_563 : decode cL_law 563 = .ok (.if_icmp .ge 19, 3) := by decide +kernel
theorem dL_law_566 : decode cL_law 566 = .ok (.aload_n 1, 1) := by decide +kernel
theorem dL_law_567 : decode cL_law 567 = .ok (.sipush 200, 3) := by decide +kernel
theorem dL_law_570 : decode cL_law 570 = .ok (.invokevirtual 49, 3) := by decide +kernel
theorem dL_law_573 : decode cL_law 573 = .ok (.ifCond .le 9, 3) := by decide +kernel
theorem dL_law_576 : decode cL_law 576 = .ok (.iinc 7 1, 3) := by decide +kernel
theorem dL_law_579 : decode cL_law 579 = .ok (.goto (-20), 3) := by decide +kernel
theorem dL_law_582 : decode cL_law 582 = .ok (.iconst 0, 1) := by decide +kernel
theorem dL_law_583 : decode cL_law 583 = .ok (.istore 7, 2) := by decide +kernel
theorem dL_law_585 : decode cL_law 585 = .ok (.iload 7, 2) := by decide +kernel
theorem dL_law_587 : decode cL_law 587 = .ok (.iload_n 2, 1) := by decide +kernel
theorem dL_law_588 : decode cL_law 588 = .ok (.if_icmp .ge 108, 3) := by decide +kernel
theorem dL_law_591 : decode cL_law 591 = .ok (.aload_n 1, 1) := by decide +kernel
theorem dL_law_592 : decode cL_law 592 = .ok (.invokevirtual 85, 3) := by decide +kernel
theorem dL_law_595 : decode cL_law 595 = .ok (.ifCond .ge 101, 3) := by decide +kernel
theorem dL_law_598 : decode cL_law 598 = .ok (.aload_n 1, 1) := by decide +kernel
theorem dL_law_599 : decode cL_law 599 = .ok (.iload 7, 2) := by decide +kernel
theorem dL_law_601 : decode cL_law 601 = .ok (.invokevirtual 62, 3) := by decide +kernel
theorem dL_law_604 : decode cL_law 604 = .ok (.istore 8, 2) := by decide +kernel
theorem dL_law_606 : decode cL_law 606 = .ok (.aload_n 1, 1) := by decide +kernel
theorem dL_law_607 : decode cL_law 607 = .ok (.iload 7, 2) := by decide +kernel
theorem dL_law_609 : decode cL_law 609 = .ok (.invokevirtual 37, 3) := by decide +kernel
theorem dL_law_612 : decode cL_law 612 = .ok (.ldc 91, 2) := by decide +kernel
theorem dL_law_614 : decode cL_law 614 = .ok (.if_icmp .ne 41, 3) := by decide +kernel
theorem dL_law_617 : decode cL_law 617 = .ok (.aload_n 1, 1) := by decide +kernel
theorem dL_law_618 : decode cL_law 618 = .ok (.iload 7, 2) := by decide +kernel
theorem dL_law_620 : decode cL_law 620 = .ok (.iconst 0, 1) := by decide +kernel
theorem dL_law_621 : decode cL_law 621 = .ok (.invokevirtual 92, 3) := by decide +kernel
theorem dL_law_624 : decode cL_law 624 = .ok (.ifCond .ne 31, 3) := by decide +kernel
theorem dL_law_627 : decode cL_law 627 = .ok (.aload_n 1, 1) := by decide +kernel
theorem dL_law_628 : decode cL_law 628 = .ok (.iload 7, 2) := by decide +kernel
theorem dL_law_630 : decode cL_law 630 = .ok (.iconst 1, 1) := by decide +kernel
theorem dL_law_631 : decode cL_law 631 = .ok (.invokevirtual 92, 3) := by decide +kernel
theorem dL_law_634 : decode cL_law 634 = .ok (.ifCond .ne 21, 3) := by decide +kernel
theorem dL_law_637 : decode cL_law 637 = .ok (.aload_n 1, 1) := by decide +kernel
theorem dL_law_638 : decode cL_law 638 = .ok (.iload 7, 2) := by decide +kernel
theorem dL_law_640 : decode cL_law 640 = .ok (.invokevirtual 96, 3) := by decide +kernel
theorem dL_law_643 : decode cL_law 643 = .ok (.ifCond .ne 12, 3) := by decide +kernel
theorem dL_law_646 : decode cL_law 646 = .ok (.aload_n 1, 1) := by decide +kernel
theorem dL_law_647 : decode cL_law 647 = .ok (.iload 7, 2) := by decide +kernel
theorem dL_law_649 : decode cL_law 649 = .ok (.invokevirtual 99, 3) := by decide +kernel
theorem dL_law_652 : decode cL_law 652 = .ok (.ifCond .eq 5, 3) := by decide +kernel
theorem dL_law_655 : decode cL_law 655 = .ok (.iconst 0, 1) := by decide +kernel
theorem dL_law_656 : decode cL_law 656 = .ok (.ireturn, 1) := by decide +kernel
theorem dL_law_657 : decode cL_law 657 = .ok (.iload 8, 2) := by decide +kernel
theorem dL_law_659 : decode cL_law 659 = .ok (.bipush 7, 2) := by decide +kernel
theorem dL_law_661 : decode cL_law 661 = .ok (.if_icmp .ne 29, 3) := by decide +kernel
theorem dL_law_664 : decode cL_law 664 = .ok (.aload_n 1, 1) := by decide +kernel
theorem dL_law_665 : decode cL_law 665 = .ok (.iload 7, 2) := by decide +kernel
theorem dL_law_667 : decode cL_law 667 = .ok (.invokevirtual 102, 3) := by decide +kernel
theorem dL_law_670 : decode cL_law 670 = .ok (.ifCond .lt 18, 3) := by decide +kernel
theorem dL_law_673 : decode cL_law 673 = .ok (.aload_n 1, 1) := by decide +kernel
theorem dL_law_674 : decode cL_law 674 = .ok (.iload 7, 2) := by decide +kernel
theorem dL_law_676 : decode cL_law 676 = .ok (.invokevirtual 71, 3) := by decide +kernel
theorem dL_law_679 : decode cL_law 679 = .ok (.aload_n 1, 1) := by decide +kernel
theorem dL_law_680 : decode cL_law 680 = .ok (.iload 7, 2) := by decide +kernel
theorem dL_law_682 : decode cL_law 682 = .ok (.invokevirtual 105, 3) := by decide +kernel
theorem dL_law_685 : decode cL_law 685 = .ok (.if_icmp .eq 5, 3) := by decide +kernel
theorem dL_law_688 : decode cL_law 688 = .ok (.iconst 0, 1) := by decide +kernel
theorem dL_law_689 : decode cL_law 689 = .ok (.ireturn, 1) := by decide +kernel
theorem dL_law_690 : decode cL_law 690 = .ok (.iinc 7 1, 3) := by decide +kernel
theorem dL_law_693 : decode cL_law 693 = .ok (.goto (-108), 3) := by decide +kernel
theorem dL_law_696 : decode cL_law 696 = .ok (.aload_n 1, 1) := by decide +kernel
theorem dL_law_697 : decode cL_law 697 = .ok (.invokevirtual 85, 3) := by decide +kernel
theorem dL_law_700 : decode cL_law 700 = .ok (.ifCond .lt 13, 3) := by decide +kernel
theorem dL_law_703 : decode cL_law 703 = .ok (.aload_n 1, 1) := by decide +kernel
theorem dL_law_704 : decode cL_law 704 = .ok (.iload_n 2, 1) := by decide +kernel
theorem dL_law_705 : decode cL_law 705 = .ok (.iload 4, 2) := by decide +kernel
theorem dL_law_707 : decode cL_law 707 = .ok (.invokestatic 74, 3) := by decide +kernel
theorem dL_law_710 : decode cL_law 710 = .ok (.goto 30, 3) := by decide +kernel
theorem dL_law_713 : decode cL_law 713 = .ok (.aload_n 1, 1) := by decide +kernel
theorem dL_law_714 : decode cL_law 714 = .ok (.invokevirtual 56, 3) := by decide +kernel
theorem dL_law_717 : decode cL_law 717 = .ok (.ifCond .ne 22, 3) := by decide +kernel
theorem dL_law_720 : decode cL_law 720 = .ok (.aload_n 1, 1) := by decide +kernel
theorem dL_law_721 : decode cL_law 721 = .ok (.invokevirtual 108, 3) := by decide +kernel
theorem dL_law_724 : decode cL_law 724 = .ok (.ifCond .ne 15, 3) := by decide +kernel
theorem dL_law_727 : decode cL_law 727 = .ok (.aload_n 1, 1) := by decide +kernel
theorem dL_law_728 : decode cL_law 728 = .ok (.iconst 1, 1) := by decide +kernel
theorem dL_law_729 : decode cL_law 729 = .ok (.invokevirtual 82, 3) := by decide +kernel
theorem dL_law_732 : decode cL_law 732 = .ok (.ifCond .ne 7, 3) := by decide +kernel
theorem dL_law_735 : decode cL_law 735 = .ok (.iconst 1, 1) := by decide +kernel
theorem dL_law_736 : decode cL_law 736 = .ok (.goto 4, 3) := by decide +kernel
theorem dL_law_739 : decode cL_law 739 = .ok (.iconst 0, 1) := by decide +kernel
theorem dL_law_740 : decode cL_law 740 = .ok (.ireturn, 1) := by decide +kernel
set_option maxRecDepth 20000 in
theorem ggL_offer_X10_sortOf : GoodIn wsL_offer wsX10_sortOf := goodIn_ca (goodIn_r _ [5, 6, 7, 8, 4, 9, 10, 11, 12, 13, 14, 15, 16, 17, 18, 19, 20, 21, 22, 23, 24, 25, 26, 27, 28, 29, 30, 31, 32, 33, 34, 35, 36, 37, 38, 39, 40, 41, 42, 103, 104, 105, 106, 107, 108, 109, 110, 111, 112, 113, 114, 115, 116, 117, 118, 119, 120, 121, 122, 123, 124, 125, 126, 127, 128, 129, 130, 131, 132, 133, 134, 135, 136, 137, 138, 139, 140, 141, 142, 143, 144, 145] (by decide +kernel) (by decide +kernel)) (goodIn_sub (fun _ h => List.mem_cons_of_mem _ (List.mem_append_left _ (List.mem_append_left _ (List.mem_append_right _ h)))) (by decide +kernel))
set_option maxRecDepth 20000 in
theorem gL_offer_X10_sortOf : GoodIn wsL_offer (wsV RL 62 RX10 yX10_sortOf wsX10_sortOf) := goodIn_app (goodIn_of _ (by decide +kernel)) ggL_offer_X10_sortOf
set_option maxRecDepth 20000 in
theorem ggL_offer_X10_offer : GoodIn wsL_offer wsX10_offer := goodIn_ca (goodIn_ca (goodIn_ca (goodIn_r _ [46, 47, 48, 49, 50, 51, 52, 4, 53, 6, 7, 8, 9, 10, 11, 12, 13, 14, 15, 16, 17, 18, 19, 20, 21, 22, 23, 24, 25, 26, 27, 28, 29, 30, 31, 32, 33, 34, 35, 36, 37, 38, 39, 40, 41, 42, 54, 55, 56, 57, 58, 59, 60, 61, 62, 63, 64, 65, 66, 67, 68, 69, 70, 71, 72, 73, 74, 75, 76, 77, 78, 79, 80, 81, 82, 83, 84, 85, 86, 87, 88, 89, 90, 91, 92, 93, 94, 95, 96, 97, 98, 99, 100, 101, 102, 103, 104, 105, 106, 107, 108, 109, 110, 111, 112, 113, 114, 115, 116, 117, 118, 119, 120, 121, 122, 123, 124, 125, 126, 127, 128, 129, 130, 131, 132, 133, 134, 135, 136, 137, 138, 139, 140, 141, 142, 143, 144, 145, 146, 147] (by decide +kernel) (by decide +kernel)) (goodIn_sub (fun _ h => List.mem_cons_of_mem _ (List.mem_append_left _ (List.mem_append_right _ h))) (by decide +kernel))) (goodIn_sub (fun _ h => List.mem_cons_of_mem _ (List.mem_append_left _ (List.mem_append_left _ (List.mem_append_right _ h)))) (by decide +kernel))) (goodIn_sub (fun _ h => List.mem_cons_of_mem _ (List.mem_append_right _ h)) (by decide +kernel))
set_option maxRecDepth 20000 in
theorem gL_offer_X10_offer : GoodIn wsL_offer (wsV RL 111 RX10 yX10_offer wsX10_offer) := goodIn_app (goodIn_of _ (by decide +kernel)) ggL_offer_X10_offer
theorem dL_offer_0 : decode cL_offer 0 = .ok (.aload_n 0, 1) := by decide +kernel
theorem dL_offer_1 : decode cL_offer 1 = .ok (.iload_n 1, 1) := by decide +kernel
theorem dL_offer_2 : decode cL_offer 2 = .ok (.invokevirtual 62, 3) := by decide +kernel
theorem dL_offer_5 : decode cL_offer 5 = .ok (.ifCond .eq 5, 3) := by decide +kernel
theorem dL_offer_8 : decode cL_offer 8 = .ok (.iconst 0, 1) := by decide +kernel
theorem dL_offer_9 : decode cL_offer 9 = .ok (.ireturn, 1) := by decide +kernel
theorem dL_offer_10 : decode cL_offer 10 = .ok (.aload_n 0, 1) := by decide +kernel
theorem dL_offer_11 : decode cL_offer 11 = .ok (.iload_n 1, 1) := by decide +kernel
theorem dL_offer_12 : decode cL_offer 12 = .ok (.iload_n 2, 1) := by decide +kernel
theorem dL_offer_13 : decode cL_offer 13 = .ok (.iload_n 3, 1) := by decide +kernel
theorem dL_offer_14 : decode cL_offer 14 = .ok (.iload 4, 2) := by decide +kernel
theorem dL_offer_16 : decode cL_offer 16 = .ok (.invokevirtual 111, 3) := by decide +kernel
theorem dL_offer_19 : decode cL_offer 19 = .ok (.pop, 1) := by decide +kernel
theorem dL_offer_20 : decode cL_offer 20 = .ok (.iconst 1, 1) := by decide +kernel
theorem dL_offer_21 : decode cL_offer 21 = .ok (.ireturn, 1) := by decide +kernel
set_option maxRecDepth 20000 in
theorem ggL_add_L_below : GoodIn wsL_add wsL_below := goodIn_r _ [5, 6] (by decide +kernel) (by decide +kernel)
set_option maxRecDepth 20000 in
theorem gL_add_L_below : GoodIn wsL_add (va_wsS RL 18 yL_below wsL_below) := goodIn_app (goodIn_of _ (by decide +kernel)) ggL_add_L_below
set_option maxRecDepth 20000 in
theorem ggL_add_X10_addSource : GoodIn wsL_add wsX10_addSource := goodIn_ca (goodIn_ca (goodIn_r _ [11, 12, 13, 14, 15, 16, 10, 17, 18, 19, 20, 21, 22, 23, 24, 25, 26, 27, 28, 29, 30, 31, 32, 33, 34, 35, 36, 37, 38, 39, 40, 41, 42, 43, 44, 45, 46, 47, 48, 49, 50, 51, 52, 53, 54, 55, 56, 57, 58, 59, 60, 61, 62, 63, 64, 65, 66, 67, 68, 69, 70, 71, 72, 73, 74, 75, 76, 77, 78, 79, 80, 81, 82, 83, 84, 85, 86, 87, 88, 89, 90, 91, 92, 93, 94, 95, 96, 97, 98, 99, 100, 101, 102, 103, 104, 105, 106, 107, 108, 109, 110, 111, 112, 113, 114, 115, 116, 117, 118, 119, 120, 121, 122, 123, 124, 125, 126, 127, 128, 129, 130, 131, 132, 133, 134, 135, 136, 137, 138, 139, 140, 141, 142, 143, 144, 145, 146, 147, 148, 149, 150, 151, 152, 153, 154, 155, 156, 157, 158, 159, 160, 161, 162, 163, 164, 165, 166, 167, 168, 169, 170, 171, 172, 173, 174, 175, 176, 177, 178, 179, 180, 181, 182, 183, 184, 185, 186, 187, 188, 189, 190, 191, 192, 193, 194, 195, 196, 197, 198, 199, 200, 201, 202, 203, 204, 205, 206, 207, 208, 209, 210, 211, 212, 213, 214, 215, 216, 217, 218, 219, 220, 221, 222, 223, 224, 225, 226, 227, 228, 229, 230, 231, 232, 233, 234, 235, 236, 237, 238, 277, 278, 279, 280, 281, 282, 283, 284, 285, 286, 287, 288, 289, 290, 291, 292, 293, 294, 295, 296, 297, 298, 299, 300, 301, 302, 303, 304, 305, 306, 307, 308, 309, 310, 311, 312, 313, 314, 315, 316, 317, 318, 319, 320, 321, 322, 323, 324, 325, 326, 327, 328, 329, 330, 331, 332, 333, 334, 335, 336, 337, 338, 339] (by decide +kernel) (by decide +kernel)) (goodIn_sub (fun _ h => List.mem_cons_of_mem _ (List.mem_append_left _ (List.mem_append_left _ (List.mem_append_right _ h)))) (by decide +kernel))) (goodIn_sub (fun _ h => List.mem_cons_of_mem _ (List.mem_append_left _ (List.mem_append_right _ h))) (by decide +kernel))
set_option maxRecDepth 20000 in
theorem gL_add_X10_addSource : GoodIn wsL_add (wsV RL 114 RX10 yX10_addSource wsX10_addSource) := goodIn_app (goodIn_of _ (by decide +kernel)) ggL_add_X10_addSource
set_option maxRecDepth 20000 in
theorem ggL_add_X10_sortOf : GoodIn wsL_add wsX10_sortOf := goodIn_ca (goodIn_r _ [242, 243, 244, 245, 10, 246, 247, 248, 30, 64, 65, 66, 34, 67, 36, 68, 37, 38, 39, 40, 41, 42, 69, 70, 71, 72, 73, 74, 75, 76, 77, 78, 79, 80, 81, 82, 83, 84, 85, 310, 311, 312, 313, 314, 315, 316, 317, 318, 319, 320, 321, 277, 278, 279, 280, 281, 282, 283, 284, 285, 286, 287, 288, 289, 290, 291, 292, 293, 294, 295, 296, 297, 298, 299, 300, 301, 302, 303, 304, 305, 306, 307] (by decide +kernel) (by decide +kernel)) (goodIn_sub (fun _ h => List.mem_cons_of_mem _ (List.mem_append_right _ h)) (by decide +kernel))
set_option maxRecDepth 20000 in
theorem gL_add_X10_sortOf : GoodIn wsL_add (wsV RL 62 RX10 yX10_sortOf wsX10_sortOf) := goodIn_app (goodIn_of _ (by decide +kernel)) ggL_add_X10_sortOf
set_option maxRecDepth 20000 in
theorem ggL_add_X10_addMap : GoodIn wsL_add wsX10_addMap := goodIn_ca (goodIn_ca (goodIn_ca (goodIn_r _ [252, 12, 13, 14, 243, 244, 245, 10, 246, 247, 248, 30, 64, 65, 66, 34, 67, 36, 68, 37, 38, 39, 40, 41, 42, 69, 70, 71, 72, 73, 74, 75, 76, 77, 78, 79, 80, 81, 82, 83, 84, 85, 15, 16, 17, 18, 19, 20, 21, 22, 23, 24, 25, 26, 27, 28, 29, 31, 32, 33, 35, 43, 44, 45, 46, 47, 48, 49, 50, 51, 52, 53, 54, 55, 56, 57, 58, 59, 60, 61, 62, 63, 86, 87, 88, 89, 90, 91, 92, 93, 94, 95, 96, 97, 98, 99, 100, 101, 102, 103, 104, 105, 106, 107, 108, 109, 110, 111, 112, 113, 114, 115, 116, 117, 118, 119, 120, 121, 122, 123, 124, 125, 126, 127, 128, 129, 130, 131, 132, 133, 134, 135, 136, 137, 138, 139, 140, 141, 142, 143, 144, 145, 146, 147, 148, 149, 150, 151, 152, 153, 154, 155, 156, 157, 158, 159, 160, 161, 162, 163, 164, 165, 166, 167, 168, 169, 170, 171, 172, 173, 174, 175, 176, 177, 178, 179, 180, 181, 182, 183, 184, 185, 186, 187, 188, 189, 190, 191, 192, 193, 194, 195, 196, 197, 198, 199, 200, 201, 202, 203, 204, 205, 206, 207, 208, 209, 210, 211, 212, 213, 214, 215, 216, 217, 218, 219, 220, 221, 222, 223, 224, 225, 226, 227, 228, 229, 230, 231, 232, 233, 234, 235, 236, 237, 238, 310, 311, 312, 313, 314, 315, 316, 317, 318, 319, 320, 321, 277, 278, 279, 280, 281, 282, 283, 284, 285, 286, 287, 288, 289, 290, 291, 292, 293, 294, 295, 296, 297, 298, 299, 300, 301, 302, 303, 304, 305, 306, 307, 308, 309, 322, 323, 324, 325, 326, 327, 328, 329, 330, 331, 332, 333, 334, 335, 336, 337, 338, 339] (by decide +kernel) (by decide +kernel)) (goodIn_sub (fun _ h => List.mem_cons_of_mem _ (List.mem_append_right _ h)) (by decide +kernel))) (goodIn_sub (fun _ h => List.mem_cons_of_mem _ (List.mem_append_left _ (List.mem_append_left _ (List.mem_append_right _ h)))) (by decide +kernel))) (goodIn_sub (fun _ h => List.mem_cons_of_mem _ (List.mem_append_left _ (List.mem_append_right _ h))) (by decide +kernel))
set_option maxRecDepth 20000 in
theorem gL_add_X10_addMap : GoodIn wsL_add (wsV RL 117 RX10 yX10_addMap wsX10_addMap) := goodIn_app (goodIn_of _ (by decide +kernel)) ggL_add_X10_addMap
set_option maxRecDepth 20000 in
theorem ggL_add_X10_addWindow : GoodIn wsL_add wsX10_addWindow := goodIn_ca (goodIn_ca (goodIn_ca (goodIn_r _ [256, 12, 13, 14, 243, 244, 245, 10, 246, 247, 248, 30, 64, 65, 66, 34, 67, 36, 68, 37, 38, 39, 40, 41, 42, 69, 70, 71, 72, 73, 74, 75, 76, 77, 78, 79, 80, 81, 82, 83, 84, 85, 15, 16, 17, 18, 19, 20, 21, 22, 23, 24, 25, 26, 27, 28, 29, 31, 32, 33, 35, 43, 44, 45, 46, 47, 48, 49, 50, 51, 52, 53, 54, 55, 56, 57, 58, 59, 60, 61, 62, 63, 86, 87, 88, 89, 90, 91, 92, 93, 94, 95, 96, 97, 98, 99, 100, 101, 102, 103, 104, 105, 106, 107, 108, 109, 110, 111, 112, 113, 114, 115, 116, 117, 118, 119, 120, 121, 122, 123, 124, 125, 126, 127, 128, 129, 130, 131, 132, 133, 134, 135, 136, 137, 138, 139, 140, 141, 142, 143, 144, 145, 146, 147, 148, 149, 150, 151, 152, 153, 154, 155, 156, 157, 158, 159, 160, 161, 162, 163, 164, 165, 166, 167, 168, 169, 170, 171, 172, 173, 174, 175, 176, 177, 178, 179, 180, 181, 182, 183, 184, 185, 186, 187, 188, 189, 190, 191, 192, 193, 194, 195, 196, 197, 198, 199, 200, 201, 202, 203, 204, 205, 206, 207, 208, 209, 210, 211, 212, 213, 214, 215, 216, 217, 218, 219, 220, 221, 222, 223, 224, 225, 226, 227, 228, 229, 230, 231, 232, 233, 234, 235, 236, 237, 238, 310, 311, 312, 313, 314, 315, 316, 317, 318, 319, 320, 321, 277, 278, 279, 280, 281, 282, 283, 284, 285, 286, 287, 288, 289, 290, 291, 292, 293, 294, 295, 296, 297, 298, 299, 300, 301, 302, 303, 304, 305, 306, 307, 308, 309, 322, 323, 324, 325, 326, 327, 328, 329, 330, 331, 332, 333, 334, 335, 336, 337, 338, 339] (by decide +kernel) (by decide +kernel)) (goodIn_sub (fun _ h => List.mem_cons_of_mem _ (List.mem_append_right _ h)) (by decide +kernel))) (goodIn_sub (fun _ h => List.mem_cons_of_mem _ (List.mem_append_left _ (List.mem_append_left _ (List.mem_append_right _ h)))) (by decide +kernel))) (goodIn_sub (fun _ h => List.mem_cons_of_mem _ (List.mem_append_left _ (List.mem_append_right _ h))) (by decide +kernel))
set_option maxRecDepth 20000 in
theorem gL_add_X10_addWindow : GoodIn wsL_add (wsV RL 121 RX10 yX10_addWindow wsX10_addWindow) := goodIn_app (goodIn_of _ (by decide +kernel)) ggL_add_X10_addWindow
set_option maxRecDepth 20000 in
theorem ggL_add_X10_addSession : GoodIn wsL_add wsX10_addSession := goodIn_ca (goodIn_ca (goodIn_ca (goodIn_r _ [260, 12, 13, 14, 243, 244, 245, 10, 246, 247, 248, 30, 64, 65, 66, 34, 67, 36, 68, 37, 38, 39, 40, 41, 42, 69, 70, 71, 72, 73, 74, 75, 76, 77, 78, 79, 80, 81, 82, 83, 84, 85, 15, 16, 17, 18, 19, 20, 21, 22, 23, 24, 25, 26, 27, 28, 29, 31, 32, 33, 35, 43, 44, 45, 46, 47, 48, 49, 50, 51, 52, 53, 54, 55, 56, 57, 58, 59, 60, 61, 62, 63, 86, 87, 88, 89, 90, 91, 92, 93, 94, 95, 96, 97, 98, 99, 100, 101, 102, 103, 104, 105, 106, 107, 108, 109, 110, 111, 112, 113, 114, 115, 116, 117, 118, 119, 120, 121, 122, 123, 124, 125, 126, 127, 128, 129, 130, 131, 132, 133, 134, 135, 136, 137, 138, 139, 140, 141, 142, 143, 144, 145, 146, 147, 148, 149, 150, 151, 152, 153, 154, 155, 156, 157, 158, 159, 160, 161, 162, 163, 164, 165, 166, 167, 168, 169, 170, 171, 172, 173, 174, 175, 176, 177, 178, 179, 180, 181, 182, 183, 184, 185, 186, 187, 188, 189, 190, 191, 192, 193, 194, 195, 196, 197, 198, 199, 200, 201, 202, 203, 204, 205, 206, 207, 208, 209, 210, 211, 212, 213, 214, 215, 216, 217, 218, 219, 220, 221, 222, 223, 224, 225, 226, 227, 228, 229, 230, 231, 232, 233, 234, 235, 236, 237, 238, 310, 311, 312, 313, 314, 315, 316, 317, 318, 319, 320, 321, 277, 278, 279, 280, 281, 282, 283, 284, 285, 286, 287, 288, 289, 290, 291, 292, 293, 294, 295, 296, 297, 298, 299, 300, 301, 302, 303, 304, 305, 306, 307, 308, 309, 322, 323, 324, 325, 326, 327, 328, 329, 330, 331, 332, 333, 334, 335, 336, 337, 338, 339] (by decide +kernel) (by decide +kernel)) (goodIn_sub (fun _ h => List.mem_cons_of_mem _ (List.mem_append_right _ h)) (by decide +kernel))) (goodIn_sub (fun _ h => List.mem_cons_of_mem _ (List.mem_append_left _ (List.mem_append_left _ (List.mem_append_right _ h)))) (by decide +kernel))) (goodIn_sub (fun _ h => List.mem_cons_of_mem _ (List.mem_append_left _ (List.mem_append_right _ h))) (by decide +kernel))
set_option maxRecDepth 20000 in
theorem gL_add_X10_addSession : GoodIn wsL_add (wsV RL 125 RX10 yX10_addSession wsX10_addSession) := goodIn_app (goodIn_of _ (by decide +kernel)) ggL_add_X10_addSession
set_option maxRecDepth 20000 in
theorem ggL_add_X10_addFilter : GoodIn wsL_add wsX10_addFilter := goodIn_ca (goodIn_ca (goodIn_ca (goodIn_r _ [264, 12, 13, 14, 243, 244, 245, 10, 246, 247, 248, 30, 64, 65, 66, 34, 67, 36, 68, 37, 38, 39, 40, 41, 42, 69, 70, 71, 72, 73, 74, 75, 76, 77, 78, 79, 80, 81, 82, 83, 84, 85, 15, 16, 17, 18, 19, 20, 21, 22, 23, 24, 25, 26, 27, 28, 29, 31, 32, 33, 35, 43, 44, 45, 46, 47, 48, 49, 50, 51, 52, 53, 54, 55, 56, 57, 58, 59, 60, 61, 62, 63, 86, 87, 88, 89, 90, 91, 92, 93, 94, 95, 96, 97, 98, 99, 100, 101, 102, 103, 104, 105, 106, 107, 108, 109, 110, 111, 112, 113, 114, 115, 116, 117, 118, 119, 120, 121, 122, 123, 124, 125, 126, 127, 128, 129, 130, 131, 132, 133, 134, 135, 136, 137, 138, 139, 140, 141, 142, 143, 144, 145, 146, 147, 148, 149, 150, 151, 152, 153, 154, 155, 156, 157, 158, 159, 160, 161, 162, 163, 164, 165, 166, 167, 168, 169, 170, 171, 172, 173, 174, 175, 176, 177, 178, 179, 180, 181, 182, 183, 184, 185, 186, 187, 188, 189, 190, 191, 192, 193, 194, 195, 196, 197, 198, 199, 200, 201, 202, 203, 204, 205, 206, 207, 208, 209, 210, 211, 212, 213, 214, 215, 216, 217, 218, 219, 220, 221, 222, 223, 224, 225, 226, 227, 228, 229, 230, 231, 232, 233, 234, 235, 236, 237, 238, 310, 311, 312, 313, 314, 315, 316, 317, 318, 319, 320, 321, 277, 278, 279, 280, 281, 282, 283, 284, 285, 286, 287, 288, 289, 290, 291, 292, 293, 294, 295, 296, 297, 298, 299, 300, 301, 302, 303, 304, 305, 306, 307, 308, 309, 322, 323, 324, 325, 326, 327, 328, 329, 330, 331, 332, 333, 334, 335, 336, 337, 338, 339] (by decide +kernel) (by decide +kernel)) (goodIn_sub (fun _ h => List.mem_cons_of_mem _ (List.mem_append_right _ h)) (by decide +kernel))) (goodIn_sub (fun _ h => List.mem_cons_of_mem _ (List.mem_append_left _ (List.mem_append_left _ (List.mem_append_right _ h)))) (by decide +kernel))) (goodIn_sub (fun _ h => List.mem_cons_of_mem _ (List.mem_append_left _ (List.mem_append_right _ h))) (by decide +kernel))
set_option maxRecDepth 20000 in
theorem gL_add_X10_addFilter : GoodIn wsL_add (wsV RL 131 RX10 yX10_addFilter wsX10_addFilter) := goodIn_app (goodIn_of _ (by decide +kernel)) ggL_add_X10_addFilter
set_option maxRecDepth 20000 in
theorem ggL_add_X10_addJoin : GoodIn wsL_add wsX10_addJoin := goodIn_ca (goodIn_ca (goodIn_ca (goodIn_r _ [268, 12, 13, 14, 243, 244, 245, 10, 246, 247, 248, 30, 64, 65, 66, 34, 67, 36, 68, 37, 38, 39, 40, 41, 42, 69, 70, 71, 72, 73, 74, 75, 76, 77, 78, 79, 80, 81, 82, 83, 84, 85, 15, 16, 17, 18, 19, 20, 21, 22, 23, 24, 25, 26, 27, 28, 29, 31, 32, 33, 35, 43, 44, 45, 46, 47, 48, 49, 50, 51, 52, 53, 54, 55, 56, 57, 58, 59, 60, 61, 62, 63, 86, 87, 88, 89, 90, 91, 92, 93, 94, 95, 96, 97, 98, 99, 100, 101, 102, 103, 104, 105, 106, 107, 108, 109, 110, 111, 112, 113, 114, 115, 116, 117, 118, 119, 120, 121, 122, 123, 124, 125, 126, 127, 128, 129, 130, 131, 132, 133, 134, 135, 136, 137, 138, 139, 140, 141, 142, 143, 144, 145, 146, 147, 148, 149, 150, 151, 152, 153, 154, 155, 156, 157, 158, 159, 160, 161, 162, 163, 164, 165, 166, 167, 168, 169, 170, 171, 172, 173, 174, 175, 176, 177, 178, 179, 180, 181, 182, 183, 184, 185, 186, 187, 188, 189, 190, 191, 192, 193, 194, 195, 196, 197, 198, 199, 200, 201, 202, 203, 204, 205, 206, 207, 208, 209, 210, 211, 212, 213, 214, 215, 216, 217, 218, 219, 220, 221, 222, 223, 224, 225, 226, 227, 228, 229, 230, 231, 232, 233, 234, 235, 236, 237, 238, 310, 311, 312, 313, 314, 315, 316, 317, 318, 319, 320, 321, 277, 278, 279, 280, 281, 282, 283, 284, 285, 286, 287, 288, 289, 290, 291, 292, 293, 294, 295, 296, 297, 298, 299, 300, 301, 302, 303, 304, 305, 306, 307, 308, 309, 322, 323, 324, 325, 326, 327, 328, 329, 330, 331, 332, 333, 334, 335, 336, 337, 338, 339] (by decide +kernel) (by decide +kernel)) (goodIn_sub (fun _ h => List.mem_cons_of_mem _ (List.mem_append_right _ h)) (by decide +kernel))) (goodIn_sub (fun _ h => List.mem_cons_of_mem _ (List.mem_append_left _ (List.mem_append_left _ (List.mem_append_right _ h)))) (by decide +kernel))) (goodIn_sub (fun _ h => List.mem_cons_of_mem _ (List.mem_append_left _ (List.mem_append_right _ h))) (by decide +kernel))
set_option maxRecDepth 20000 in
theorem gL_add_X10_addJoin : GoodIn wsL_add (wsV RL 134 RX10 yX10_addJoin wsX10_addJoin) := goodIn_app (goodIn_of _ (by decide +kernel)) ggL_add_X10_addJoin
set_option maxRecDepth 20000 in
theorem ggL_add_X10_addMerge : GoodIn wsL_add wsX10_addMerge := goodIn_ca (goodIn_ca (goodIn_ca (goodIn_r _ [272, 12, 13, 14, 243, 244, 245, 10, 246, 247, 248, 30, 64, 65, 66, 34, 67, 36, 68, 37, 38, 39, 40, 41, 42, 69, 70, 71, 72, 73, 74, 75, 76, 77, 78, 79, 80, 81, 82, 83, 84, 85, 18, 19, 20, 21, 22, 23, 24, 25, 26, 27, 28, 29, 31, 32, 33, 35, 43, 44, 45, 46, 47, 48, 49, 50, 51, 52, 53, 54, 55, 56, 57, 58, 59, 60, 61, 62, 63, 86, 87, 88, 89, 90, 91, 92, 93, 94, 95, 96, 97, 98, 99, 100, 101, 102, 103, 104, 105, 106, 107, 108, 109, 110, 111, 112, 113, 114, 115, 116, 117, 118, 119, 120, 121, 122, 123, 124, 125, 126, 127, 128, 129, 130, 131, 132, 133, 134, 135, 136, 137, 138, 139, 140, 141, 142, 143, 144, 145, 146, 147, 148, 149, 150, 151, 152, 153, 154, 155, 156, 157, 158, 159, 160, 161, 162, 163, 164, 165, 166, 167, 168, 169, 170, 171, 172, 173, 174, 175, 176, 177, 178, 179, 180, 181, 182, 183, 184, 185, 186, 187, 188, 189, 190, 191, 192, 193, 194, 195, 196, 197, 198, 199, 200, 201, 202, 203, 204, 205, 206, 207, 208, 209, 210, 211, 212, 213, 214, 215, 216, 217, 218, 219, 220, 221, 222, 223, 224, 225, 226, 227, 228, 229, 230, 231, 232, 233, 234, 235, 236, 237, 238, 310, 311, 312, 313, 314, 315, 316, 317, 318, 319, 320, 321, 277, 278, 279, 280, 281, 282, 283, 284, 285, 286, 287, 288, 289, 290, 291, 292, 293, 294, 295, 296, 297, 298, 299, 300, 301, 302, 303, 304, 305, 306, 307, 308, 309, 322, 323, 324, 325, 326, 327, 328, 329, 330, 331, 332, 333, 334, 335, 336, 337, 338, 339] (by decide +kernel) (by decide +kernel)) (goodIn_sub (fun _ h => List.mem_cons_of_mem _ (List.mem_append_right _ h)) (by decide +kernel))) (goodIn_sub (fun _ h => List.mem_cons_of_mem _ (List.mem_append_left _ (List.mem_append_left _ (List.mem_append_right _ h)))) (by decide +kernel))) (goodIn_sub (fun _ h => List.mem_cons_of_mem _ (List.mem_append_left _ (List.mem_append_right _ h))) (by decide +kernel))
set_option maxRecDepth 20000 in
theorem gL_add_X10_addMerge : GoodIn wsL_add (wsV RL 137 RX10 yX10_addMerge wsX10_addMerge) := goodIn_app (goodIn_of _ (by decide +kernel)) ggL_add_X10_addMerge
set_option maxRecDepth 20000 in
theorem ggL_add_X10_addSink : GoodIn wsL_add wsX10_addSink := goodIn_ca (goodIn_ca (goodIn_ca (goodIn_r _ [276, 12, 13, 14, 243, 244, 245, 10, 246, 247, 248, 30, 64, 65, 66, 34, 67, 36, 68, 37, 38, 39, 40, 41, 42, 69, 70, 71, 72, 73, 74, 75, 76, 77, 78, 79, 80, 81, 82, 83, 84, 85, 18, 19, 20, 21, 22, 23, 24, 25, 26, 27, 28, 29, 31, 32, 33, 35, 43, 44, 45, 46, 47, 48, 49, 50, 51, 52, 53, 54, 55, 56, 57, 58, 59, 60, 61, 62, 63, 86, 87, 88, 89, 90, 91, 92, 93, 94, 95, 96, 97, 98, 99, 100, 101, 102, 103, 104, 105, 106, 107, 108, 109, 110, 111, 112, 113, 114, 115, 116, 117, 118, 119, 120, 121, 122, 123, 124, 125, 126, 127, 128, 129, 130, 131, 132, 133, 134, 135, 136, 137, 138, 139, 140, 141, 142, 143, 144, 145, 146, 147, 148, 149, 150, 151, 152, 153, 154, 155, 156, 157, 158, 159, 160, 161, 162, 163, 164, 165, 166, 167, 168, 169, 170, 171, 172, 173, 174, 175, 176, 177, 178, 179, 180, 181, 182, 183, 184, 185, 186, 187, 188, 189, 190, 191, 192, 193, 194, 195, 196, 197, 198, 199, 200, 201, 202, 203, 204, 205, 206, 207, 208, 209, 210, 211, 212, 213, 214, 215, 216, 217, 218, 219, 220, 221, 222, 223, 224, 225, 226, 227, 228, 229, 230, 231, 232, 233, 234, 235, 236, 237, 238, 310, 311, 312, 313, 314, 315, 316, 317, 318, 319, 320, 321, 277, 278, 279, 280, 281, 282, 283, 284, 285, 286, 287, 288, 289, 290, 291, 292, 293, 294, 295, 296, 297, 298, 299, 300, 301, 302, 303, 304, 305, 306, 307, 308, 309, 322, 323, 324, 325, 326, 327, 328, 329, 330, 331, 332, 333, 334, 335, 336, 337, 338, 339] (by decide +kernel) (by decide +kernel)) (goodIn_sub (fun _ h => List.mem_cons_of_mem _ (List.mem_append_right _ h)) (by decide +kernel))) (goodIn_sub (fun _ h => List.mem_cons_of_mem _ (List.mem_append_left _ (List.mem_append_left _ (List.mem_append_right _ h)))) (by decide +kernel))) (goodIn_sub (fun _ h => List.mem_cons_of_mem _ (List.mem_append_left _ (List.mem_append_right _ h))) (by decide +kernel))
set_option maxRecDepth 20000 in
theorem gL_add_X10_addSink : GoodIn wsL_add (wsV RL 140 RX10 yX10_addSink wsX10_addSink) := goodIn_app (goodIn_of _ (by decide +kernel)) ggL_add_X10_addSink
theorem dL_add_0 : decode cL_add 0 = .ok (.iload_n 1, 1) := by decide +kernel
theorem dL_add_1 : decode cL_add 1 = .ok (.ifCond .ne 7, 3) := by decide +kernel
theorem dL_add_4 : decode cL_add 4 = .ok (.iconst 0, 1) := by decide +kernel
theorem dL_add_5 : decode cL_add 5 = .ok (.goto 10, 3) := by decide +kernel
theorem dL_add_8 : decode cL_add 8 = .ok (.iload_n 2, 1) := by decide +kernel
theorem dL_add_9 : decode cL_add 9 = .ok (.iconst 4, 1) := by decide +kernel
theorem dL_add_10 : decode cL_add 10 = .ok (.ishr, 1) := by decide +kernel
theorem dL_add_11 : decode cL_add 11 = .ok (.iload_n 1, 1) := by decide +kernel
theorem dL_add_12 : decode cL_add 12 = .ok (.invokestatic 18, 3) := by decide +kernel
theorem dL_add_15 : decode cL_add 15 = .ok (.istore_n 3, 1) := by decide +kernel
theorem dL_add_16 : decode cL_add 16 = .ok (.iload_n 1, 1) := by decide +kernel
theorem dL_add_17 : decode cL_add 17 = .ok (.ifCond .ne 7, 3) := by decide +kernel
theorem dL_add_20 : decode cL_add 20 = .ok (.iconst 0, 1) := by decide +kernel
theorem dL_add_21 : decode cL_add 21 = .ok (.goto 11, 3) := by decide +kernel
theorem dL_add_24 : decode cL_add 24 = .ok (.iload_n 2, 1) := by decide +kernel
theorem dL_add_25 : decode cL_add 25 = .ok (.bipush 8, 2) := by decide +kernel
theorem dL_add_27 : decode cL_add 27 = .ok (.ishr, 1) := by decide +kernel
theorem dL_add_28 : decode cL_add 28 = .ok (.iload_n 1, 1) := by decide +kernel
theorem dL_add_29 : decode cL_add 29 = .ok (.invokestatic 18, 3) := by decide +kernel
theorem dL_add_32 : decode cL_add 32 = .ok (.istore 4, 2) := by decide +kernel
theorem dL_add_34 : decode cL_add 34 = .ok (.iload_n 1, 1) := by decide +kernel
theorem dL_add_35 : decode cL_add 35 = .ok (.ifCond .eq 12, 3) := by decide +kernel
theorem dL_add_38 : decode cL_add 38 = .ok (.iload_n 2, 1) := by decide +kernel
theorem dL_add_39 : decode cL_add 39 = .ok (.bipush 7, 2) := by decide +kernel
theorem dL_add_41 : decode cL_add 41 = .ok (.invokestatic 18, 3) := by decide +kernel
theorem dL_add_44 : decode cL_add 44 = .ok (.ifCond .ne 17, 3) := by decide +kernel
theorem dL_add_47 : decode cL_add 47 = .ok (.aload_n 0, 1) := by decide +kernel
theorem dL_add_48 : decode cL_add 48 = .ok (.iload_n 2, 1) := by decide +kernel
theorem dL_add_49 : decode cL_add 49 = .ok (.iconst 3, 1) := by decide +kernel
theorem dL_add_50 : decode cL_add 50 = .ok (.ishr, 1) := by decide +kernel
theorem dL_add_51 : decode cL_add 51 = .ok (.bipush 40, 2) := by decide +kernel
theorem dL_add_53 : decode cL_add 53 = .ok (.invokestatic 18, 3) := by decide +kernel
theorem dL_add_56 : decode cL_add 56 = .ok (.invokevirtual 114, 3) := by decide +kernel
theorem dL_add_59 : decode cL_add 59 = .ok (.pop, 1) := by decide +kernel
theorem dL_add_60 : decode cL_add 60 = .ok (.return_, 1) := by decide +kernel
theorem dL_add_61 : decode cL_add 61 = .ok (.aload_n 0, 1) := by decide +kernel
theorem dL_add_62 : decode cL_add 62 = .ok (.iload_n 3, 1) := by decide +kernel
theorem dL_add_63 : decode cL_add 63 = .ok (.invokevirtual 62, 3) := by decide +kernel
theorem dL_add_66 : decode cL_add 66 = .ok (.bipush 7, 2) := by decide +kernel
theorem dL_add_68 : decode cL_add 68 = .ok (.if_icmp .ne 9, 3) := by decide +kernel
theorem dL_add_71 : decode cL_add 71 = .ok (.iinc 3 (-1), 3) := by decide +kernel
theorem dL_add_74 : decode cL_add 74 = .ok (.goto (-13), 3) := by decide +kernel
theorem dL_add_77 : decode cL_add 77 = .ok (.aload_n 0, 1) := by decide +kernel
theorem dL_add_78 : decode cL_add 78 = .ok (.iload 4, 2) := by decide +kernel
theorem dL_add_80 : decode cL_add 80 = .ok (.invokevirtual 62, 3) := by decide +kernel
theorem dL_add_83 : decode cL_add 83 = .ok (.bipush 7, 2) := by decide +kernel
theorem dL_add_85 : decode cL_add 85 = .ok (.if_icmp .ne 9, 3) := by decide +kernel
theorem dL_add_88 : decode cL_add 88 = .ok (.iinc 4 (-1), 3) := by decide +kernel
theorem dL_add_91 : decode cL_add 91 = .ok (.goto (-14), 3) := by decide +kernel
theorem dL_add_94 : decode cL_add 94 = .ok (.iload_n 2, 1) := by decide +kernel
theorem dL_add_95 : decode cL_add 95 = .ok (.bipush 7, 2) := by decide +kernel
theorem dL_add_97 : decode cL_add 97 = .ok (.invokestatic 18, 3) := by decide +kernel
theorem dL_add_100 : decode cL_add 100 = .ok (.tableswitch 213 1 5 #[36, 63, 104, 131, 184], 36) := by decide +kernel
theorem dL_add_136 : decode cL_add 136 = .ok (.aload_n 0, 1) := by decide +kernel
theorem dL_add_137 : decode cL_add 137 = .ok (.iload_n 3, 1) := by decide +kernel
theorem dL_add_138 : decode cL_add 138 = .ok (.iload_n 2, 1) := by decide +kernel
theorem dL_add_139 : decode cL_add 139 = .ok (.iconst 3, 1) := by decide +kernel
theorem dL_add_140 : decode cL_add 140 = .ok (.ishr, 1) := by decide +kernel
theorem dL_add_141 : decode cL_add 141 = .ok (.iconst 4, 1) := by decide +kernel
theorem dL_add_142 : decode cL_add 142 = .ok (.invokestatic 18, 3) := by decide +kernel
theorem dL_add_145 : decode cL_add 145 = .ok (.iconst 1, 1) := by decide +kernel
theorem dL_add_146 : decode cL_add 146 = .ok (.iload_n 2, 1) := by decide +kernel
theorem dL_add_147 : decode cL_add 147 = .ok (.bipush 6, 2) := by decide +kernel
theorem dL_add_149 : decode cL_add 149 = .ok (.ishr, 1) := by decide +kernel
theorem dL_add_150 : decode cL_add 150 = .ok (.bipush 9, 2) := by decide +kernel
theorem dL_add_152 : decode cL_add 152 = .ok (.invokestatic 18, 3) := by decide +kernel
theorem dL_add_155 : decode cL_add 155 = .ok (.iadd, 1) := by decide +kernel
theorem dL_add_156 : decode cL_add 156 = .ok (.invokevirtual 117, 3) := by decide +kernel
theorem dL_add_159 : decode cL_add 159 = .ok (.pop, 1) := by decide +kernel
theorem dL_add_160 : decode cL_add 160 = .ok (.goto 159, 3) := by decide +kernel
theorem dL_add_163 : decode cL_add 163 = .ok (.aload_n 0, 1) := by decide +kernel
theorem dL_add_164 : decode cL_add 164 = .ok (.iload_n 3, 1) := by decide +kernel
theorem dL_add_165 : decode cL_add 165 = .ok (.bipush 12, 2) := by decide +kernel
theorem dL_add_167 : decode cL_add 167 = .ok (.iconst 1, 1) := by decide +kernel
theorem dL_add_168 : decode cL_add 168 = .ok (.iload_n 2, 1) := by decide +kernel
theorem dL_add_169 : decode cL_add 169 = .ok (.iconst 3, 1) := by decide +kernel
theorem dL_add_170 : decode cL_add 170 = .ok (.ishr, 1) := by decide +kernel
theorem dL_add_171 : decode cL_add 171 = .ok (.iconst 2, 1) := by decide +kernel
theorem dL_add_172 : decode cL_add 172 = .ok (.invokestatic 18, 3) := by decide +kernel
theorem dL_add_175 : decode cL_add 175 = .ok (.iconst 3, 1) := by decide +kernel
theorem dL_add_176 : decode cL_add 176 = .ok (.imul, 1) := by decide +kernel
theorem dL_add_177 : decode cL_add 177 = .ok (.iadd, 1) := by decide +kernel
theorem dL_add_178 : decode cL_add 178 = .ok (.iconst 1, 1) := by decide +kernel
theorem dL_add_179 : decode cL_add 179 = .ok (.iadd, 1) := by decide +kernel
theorem dL_add_180 : decode cL_add 180 = .ok (.iload_n 2, 1) := by decide +kernel
theorem dL_add_181 : decode cL_add 181 = .ok (.iconst 5, 1) := by decide +kernel
theorem dL_add_182 : decode cL_add 182 = .ok (.ishr, 1) := by decide +kernel
theorem dL_add_183 : decode cL_add 183 = .ok (.bipush 6, 2) := by decide +kernel
theorem dL_add_185 : decode cL_add 185 = .ok (.invokestatic 18, 3) := by decide +kernel
theorem dL_add_188 : decode cL_add 188 = .ok (.iload_n 2, 1) := by decide +kernel
theorem dL_add_189 : decode cL_add 189 = .ok (.bipush 7, 2) := by decide +kernel
theorem dL_add_191 : decode cL_add 191 = .ok (.ishr, 1) := by decide +kernel
theorem dL_add_192 : decode cL_add 192 = .ok (.bipush 20, 2) := by decide +kernel
theorem dL_add_194 : decode cL_add 194 = .ok (.invokestatic 18, 3) := by decide +kernel
theorem dL_add_197 : decode cL_add 197 = .ok (.invokevirtual 121, 3) := by decide +kernel
theorem dL_add_200 : decode cL_add 200 = .ok (.pop, 1) := by decide +kernel
theorem dL_add_201 : decode cL_add 201 = .ok (.goto 118, 3) := by decide +kernel
theorem dL_add_204 : decode cL_add 204 = .ok (.aload_n 0, 1) := by decide +kernel
theorem dL_add_205 : decode cL_add 205 = .ok (.iload_n 3, 1) := by decide +kernel
theorem dL_add_206 : decode cL_add 206 = .ok (.iconst 1, 1) := by decide +kernel
theorem dL_add_207 : decode cL_add 207 = .ok (.iload_n 2, 1) := by decide +kernel
theorem dL_add_208 : decode cL_add 208 = .ok (.iconst 3, 1) := by decide +kernel
theorem dL_add_209 : decode cL_add 209 = .ok (.ishr, 1) := by decide +kernel
theorem dL_add_210 : decode cL_add 210 = .ok (.bipush 20, 2) := by decide +kernel
theorem dL_add_212 : decode cL_add 212 = .ok (.invokestatic 18, 3) := by decide +kernel
theorem dL_add_215 : decode cL_add 215 = .ok (.iadd, 1) := by decide +kernel
theorem dL_add_216 : decode cL_add 216 = .ok (.iload_n 2, 1) := by decide +kernel
theorem dL_add_217 : decode cL_add 217 = .ok (.iconst 5, 1) := by decide +kernel
theorem dL_add_218 : decode cL_add 218 = .ok (.ishr, 1) := by decide +kernel
theorem dL_add_219 : decode cL_add 219 = .ok (.bipush 6, 2) := by decide +kernel
theorem dL_add_221 : decode cL_add 221 = .ok (.invokestatic 18, 3) := by decide +kernel
theorem dL_add_224 : decode cL_add 224 = .ok (.invokevirtual 125, 3) := by decide +kernel
theorem dL_add_227 : decode cL_add 227 = .ok (.pop, 1) := by decide +kernel
theorem dL_add_228 : decode cL_add 228 = .ok (.goto 91, 3) := by decide +kernel
theorem dL_add_231 : decode cL_add 231 = .ok (.iload_n 3, 1) := by decide +kernel
theorem dL_add_232 : decode cL_add 232 = .ok (.iload 4, 2) := by decide +kernel
theorem dL_add_234 : decode cL_add 234 = .ok (.if_icmp .ne 15, 3) := by decide +kernel
theorem dL_add_237 : decode cL_add 237 = .ok (.aload_n 0, 1) := by decide +kernel
theorem dL_add_238 : decode cL_add 238 = .ok (.iload_n 3, 1) := by decide +kernel
theorem dL_add_239 : decode cL_add 239 = .ok (.iconst 0, 1) := by decide +kernel
theorem dL_add_240 : decode cL_add 240 = .ok (.ldc 130, 2) := by decide +kernel
theorem dL_add_242 : decode cL_add 242 = .ok (.invokevirtual 131, 3) := by decide +kernel
theorem dL_add_245 : decode cL_add 245 = .ok (.pop, 1) := by decide +kernel
theorem dL_add_246 : decode cL_add 246 = .ok (.goto 73, 3) := by decide +kernel
theorem dL_add_249 : decode cL_add 249 = .ok (.aload_n 0, 1) := by decide +kernel
theorem dL_add_250 : decode cL_add 250 = .ok (.iload_n 3, 1) := by decide +kernel
theorem dL_add_251 : decode cL_add 251 = .ok (.iload 4, 2) := by decide +kernel
theorem dL_add_253 : decode cL_add 253 = .ok (.iload_n 2, 1) := by decide +kernel
theorem dL_add_254 : decode cL_add 254 = .ok (.iconst 3, 1) := by decide +kernel
theorem dL_add_255 : decode cL_add 255 = .ok (.ishr, 1) := by decide +kernel
theorem dL_add_256 : decode cL_add 256 = .ok (.bipush 9, 2) := by decide +kernel
theorem dL_add_258 : decode cL_add 258 = .ok (.invokestatic 18, 3) := by decide +kernel
theorem dL_add_261 : decode cL_add 261 = .ok (.iload_n 2, 1) := by decide +kernel
theorem dL_add_262 : decode cL_add 262 = .ok (.iconst 5, 1) := by decide +kernel
theorem dL_add_263 : decode cL_add 263 = .ok (.ishr, 1) := by decide +kernel
theorem dL_add_264 : decode cL_add 264 = .ok (.bipush 9, 2) := by decide +kernel
theorem dL_add_266 : decode cL_add 266 = .ok (.invokestatic 18, 3) := by decide +kernel
theorem dL_add_269 : decode cL_add 269 = .ok (.iload_n 2, 1) := by decide +kernel
theorem dL_add_270 : decode cL_add 270 = .ok (.bipush 7, 2) := by decide +kernel
theorem dL_add_272 : decode cL_add 272 = .ok (.ishr, 1) := by decide +kernel
theorem dL_add_273 : decode cL_add 273 = .ok (.iconst 4, 1) := by decide +kernel
theorem dL_add_274 : decode cL_add 274 = .ok (.invokestatic 18, 3) := by decide +kernel
theorem dL_add_277 : decode cL_add 277 = .ok (.invokevirtual 134, 3) := by decide +kernel
theorem dL_add_280 : decode cL_add 280 = .ok (.pop, 1) := by decide +kernel
theorem dL_add_281 : decode cL_add 281 = .ok (.goto 38, 3) := by decide +kernel
theorem dL_add_284 : decode cL_add 284 = .ok (.iload_n 3, 1) := by decide +kernel
theorem dL_add_285 : decode cL_add 285 = .ok (.iload 4, 2) := by decide +kernel
theorem dL_add_287 : decode cL_add 287 = .ok (.if_icmp .ne 15, 3) := by decide +kernel
theorem dL_add_290 : decode cL_add 290 = .ok (.aload_n 0, 1) := by decide +kernel
theorem dL_add_291 : decode cL_add 291 = .ok (.iload_n 3, 1) := by decide +kernel
theorem dL_add_292 : decode cL_add 292 = .ok (.iconst 0, 1) := by decide +kernel
theorem dL_add_293 : decode cL_add 293 = .ok (.ldc 130, 2) := by decide +kernel
theorem dL_add_295 : decode cL_add 295 = .ok (.invokevirtual 131, 3) := by decide +kernel
theorem dL_add_298 : decode cL_add 298 = .ok (.pop, 1) := by decide +kernel
theorem dL_add_299 : decode cL_add 299 = .ok (.goto 20, 3) := by decide +kernel
theorem dL_add_302 : decode cL_add 302 = .ok (.aload_n 0, 1) := by decide +kernel
theorem dL_add_303 : decode cL_add 303 = .ok (.iload_n 3, 1) := by decide +kernel
theorem dL_add_304 : decode cL_add 304 = .ok (.iload 4, 2) := by decide +kernel
theorem dL_add_306 : decode cL_add 306 = .ok (.invokevirtual 137, 3) := by decide +kernel
theorem dL_add_309 : decode cL_add 309 = .ok (.pop, 1) := by decide +kernel
theorem dL_add_310 : decode cL_add 310 = .ok (.goto 9, 3) := by decide +kernel
theorem dL_add_313 : decode cL_add 313 = .ok (.aload_n 0, 1) := by decide +kernel
theorem dL_add_314 : decode cL_add 314 = .ok (.iload_n 3, 1) := by decide +kernel
theorem dL_add_315 : decode cL_add 315 = .ok (.invokevirtual 140, 3) := by decide +kernel
theorem dL_add_318 : decode cL_add 318 = .ok (.pop, 1) := by decide +kernel
theorem dL_add_319 : decode cL_add 319 = .ok (.return_, 1) := by decide +kernel
set_option maxRecDepth 20000 in
theorem ggL_isSound_X10_queued : GoodIn wsL_isSound wsX10_queued := goodIn_ca (goodIn_r _ [9, 10, 11, 12, 8, 13, 14, 15, 16, 17, 18, 19, 20, 21, 22, 23, 24, 25, 26, 27, 28, 29, 30, 31, 32, 33, 34, 35, 36, 37, 38, 39, 40, 41, 42, 43, 44, 45, 46, 47, 48, 49, 50, 51, 52, 53, 54, 55, 56, 57, 58, 59, 60, 61, 62, 63, 64, 65, 66, 249, 250, 251, 252, 253, 254, 255, 256, 257, 258, 259, 260, 261, 262, 263, 264, 265, 266, 267, 268, 269, 270, 271, 272, 273, 274, 275, 276, 277, 278, 279, 280, 281] (by decide +kernel) (by decide +kernel)) (goodIn_sub (fun _ h => List.mem_cons_of_mem _ (List.mem_append_left _ (List.mem_append_right _ h))) (by decide +kernel))
set_option maxRecDepth 20000 in
theorem gL_isSound_X10_queued : GoodIn wsL_isSound (wsV RL 143 RX10 yX10_queued wsX10_queued) := goodIn_app (goodIn_of _ (by decide +kernel)) ggL_isSound_X10_queued
set_option maxRecDepth 20000 in
theorem ggL_isSound_X10_isBlocked : GoodIn wsL_isSound wsX10_isBlocked := goodIn_ca (goodIn_r _ [70, 10, 11, 12, 8, 13, 14, 15, 16, 17, 18, 19, 20, 21, 22, 23, 24, 25, 26, 27, 28, 29, 30, 31, 32, 33, 34, 35, 36, 37, 38, 39, 40, 41, 42, 43, 44, 45, 46, 47, 48, 49, 50, 51, 52, 53, 277, 278, 279, 249, 250, 251, 252, 253, 254, 255, 256, 257, 258, 259, 260, 261, 262, 263, 264, 265, 266, 267, 268, 269, 270, 271, 272, 273, 274, 275, 276] (by decide +kernel) (by decide +kernel)) (goodIn_sub (fun _ h => List.mem_cons_of_mem _ (List.mem_append_left _ (List.mem_append_right _ h))) (by decide +kernel))
set_option maxRecDepth 20000 in
theorem gL_isSound_X10_isBlocked : GoodIn wsL_isSound (wsV RL 92 RX10 yX10_isBlocked wsX10_isBlocked) := goodIn_app (goodIn_of _ (by decide +kernel)) ggL_isSound_X10_isBlocked
set_option maxRecDepth 20000 in
theorem ggL_isSound_X10_isReady : GoodIn wsL_isSound wsX10_isReady := goodIn_ca (goodIn_r _ [74, 16, 10, 11, 12, 8, 13, 14, 15, 17, 18, 19, 20, 21, 22, 23, 24, 25, 26, 27, 28, 29, 30, 31, 32, 33, 34, 35, 36, 37, 38, 39, 40, 41, 42, 43, 44, 45, 46, 75, 76, 77, 50, 78, 79, 80, 81, 82, 83, 84, 53, 52, 85, 86, 87, 88, 89, 90, 91, 62, 63, 64, 65, 66, 92, 93, 94, 95, 96, 97, 98, 99, 3, 100, 101, 102, 103, 104, 105, 106, 107, 108, 109, 110, 111, 57, 112, 113, 114, 55, 56, 58, 59, 60, 61, 249, 250, 251, 252, 253, 254, 255, 256, 257, 258, 259, 260, 261, 262, 263, 264, 265, 266, 267, 268, 269, 270, 271, 272, 273, 274, 275, 276, 282, 283, 284, 285, 286, 287, 288, 289, 290, 291, 292, 293, 294, 295, 296, 297, 298, 299, 300, 301, 302, 303, 304, 305, 306, 307, 308, 309, 280, 281, 277, 278, 279] (by decide +kernel) (by decide +kernel)) (goodIn_sub (fun _ h => List.mem_cons_of_mem _ (List.mem_append_left _ (List.mem_append_right _ h))) (by decide +kernel))
set_option maxRecDepth 20000 in
theorem gL_isSound_X10_isReady : GoodIn wsL_isSound (wsV RL 99 RX10 yX10_isReady wsX10_isReady) := goodIn_app (goodIn_of _ (by decide +kernel)) ggL_isSound_X10_isReady
set_option maxRecDepth 20000 in
theorem ggL_isSound_X10_hasRoom : GoodIn wsL_isSound wsX10_hasRoom := goodIn_ca (goodIn_r _ [118, 16, 10, 11, 12, 8, 13, 14, 15, 17, 18, 19, 20, 21, 22, 23, 24, 25, 26, 27, 28, 29, 30, 31, 32, 33, 34, 35, 36, 37, 38, 39, 40, 41, 42, 43, 44, 45, 46, 119, 86, 87, 88, 89, 90, 91, 62, 63, 64, 65, 66, 92, 93, 94, 95, 96, 97, 98, 99, 3, 100, 101, 102, 265, 266, 267, 268, 269, 270, 271, 272, 273, 274, 275, 276, 249, 250, 251, 252, 253, 254, 255, 256, 257, 258, 259, 260, 261, 262, 263, 264, 308, 309, 280, 281, 277, 278, 279] (by decide +kernel) (by decide +kernel)) (goodIn_sub (fun _ h => List.mem_cons_of_mem _ (List.mem_append_left _ (List.mem_append_right _ h))) (by decide +kernel))
set_option maxRecDepth 20000 in
theorem gL_isSound_X10_hasRoom : GoodIn wsL_isSound (wsV RL 147 RX10 yX10_hasRoom wsX10_hasRoom) := goodIn_app (goodIn_of _ (by decide +kernel)) ggL_isSound_X10_hasRoom
set_option maxRecDepth 20000 in
theorem ggL_isSound_X10_late : GoodIn wsL_isSound wsX10_late := goodIn_ca (goodIn_r _ [123, 10, 11, 12, 8, 13, 14, 15, 16, 17, 18, 19, 20, 21, 22, 23, 24, 25, 26, 27, 28, 29, 30, 31, 32, 33, 34, 35, 36, 37, 38, 39, 40, 41, 42, 43, 44, 45, 46, 265, 266, 267, 268, 269, 270, 271, 272, 273, 274, 275, 276, 297, 298, 299, 300, 301, 302, 303, 304, 305, 306, 307, 249, 250, 251, 252, 253, 254, 255, 256, 257, 258, 259, 260, 261, 262, 263, 264] (by decide +kernel) (by decide +kernel)) (goodIn_sub (fun _ h => List.mem_cons_of_mem _ (List.mem_append_left _ (List.mem_append_right _ h))) (by decide +kernel))
set_option maxRecDepth 20000 in
theorem gL_isSound_X10_late : GoodIn wsL_isSound (wsV RL 150 RX10 yX10_late wsX10_late) := goodIn_app (goodIn_of _ (by decide +kernel)) ggL_isSound_X10_late
set_option maxRecDepth 20000 in
theorem ggL_isSound_X10_taken : GoodIn wsL_isSound wsX10_taken := goodIn_ca (goodIn_r _ [127, 10, 11, 12, 8, 13, 14, 15, 16, 17, 18, 19, 20, 21, 22, 23, 24, 25, 26, 27, 28, 29, 30, 31, 32, 33, 34, 35, 36, 37, 38, 39, 40, 41, 42, 43, 44, 45, 46, 265, 266, 267, 268, 269, 270, 271, 272, 273, 274, 275, 276, 297, 298, 299, 300, 301, 302, 303, 304, 305, 306, 307, 249, 250, 251, 252, 253, 254, 255, 256, 257, 258, 259, 260, 261, 262, 263, 264] (by decide +kernel) (by decide +kernel)) (goodIn_sub (fun _ h => List.mem_cons_of_mem _ (List.mem_append_left _ (List.mem_append_right _ h))) (by decide +kernel))
set_option maxRecDepth 20000 in
theorem gL_isSound_X10_taken : GoodIn wsL_isSound (wsV RL 105 RX10 yX10_taken wsX10_taken) := goodIn_app (goodIn_of _ (by decide +kernel)) ggL_isSound_X10_taken
set_option maxRecDepth 20000 in
theorem ggL_isSound_X10_begun : GoodIn wsL_isSound wsX10_begun := goodIn_r _ [131, 16, 249, 250, 251, 252, 253, 254, 255, 256, 257, 258, 259, 260, 261] (by decide +kernel) (by decide +kernel)
set_option maxRecDepth 20000 in
theorem gL_isSound_X10_begun : GoodIn wsL_isSound (wsV RL 56 RX10 yX10_begun wsX10_begun) := goodIn_app (goodIn_of _ (by decide +kernel)) ggL_isSound_X10_begun
set_option maxRecDepth 20000 in
theorem ggL_isSound_X10_sortOf : GoodIn wsL_isSound wsX10_sortOf := goodIn_ca (goodIn_r _ [135, 10, 11, 12, 8, 13, 14, 15, 16, 17, 18, 19, 20, 21, 22, 23, 24, 25, 26, 27, 28, 29, 30, 31, 32, 33, 34, 35, 36, 37, 38, 39, 40, 41, 42, 43, 44, 45, 46, 265, 266, 267, 268, 269, 270, 271, 272, 273, 274, 275, 276, 282, 283, 284, 285, 286, 287, 288, 289, 290, 291, 292, 293, 294, 295, 296, 249, 250, 251, 252, 253, 254, 255, 256, 257, 258, 259, 260, 261, 262, 263, 264] (by decide +kernel) (by decide +kernel)) (goodIn_sub (fun _ h => List.mem_cons_of_mem _ (List.mem_append_left _ (List.mem_append_right _ h))) (by decide +kernel))
set_option maxRecDepth 20000 in
theorem gL_isSound_X10_sortOf : GoodIn wsL_isSound (wsV RL 62 RX10 yX10_sortOf wsX10_sortOf) := goodIn_app (goodIn_of _ (by decide +kernel)) ggL_isSound_X10_sortOf
set_option maxRecDepth 20000 in
theorem ggL_isSound_X10_kept : GoodIn wsL_isSound wsX10_kept := goodIn_ca (goodIn_r _ [139, 10, 11, 12, 8, 13, 14, 15, 16, 17, 18, 19, 20, 21, 22, 23, 24, 25, 26, 27, 28, 29, 30, 31, 32, 33, 34, 35, 36, 37, 38, 39, 40, 41, 42, 43, 44, 45, 46, 140, 104, 105, 50, 106, 107, 83, 108, 62, 63, 64, 65, 66, 141, 142, 143, 144, 145, 146, 147, 148, 149, 150, 151, 152, 153, 154, 155, 156, 265, 266, 267, 268, 269, 270, 271, 272, 273, 274, 275, 276, 282, 283, 284, 285, 286, 287, 288, 289, 290, 291, 292, 293, 294, 295, 296, 249, 250, 251, 252, 253, 254, 255, 256, 257, 258, 259, 260, 261, 262, 263, 264, 297, 298, 299, 300, 301, 302, 303, 304, 305, 306, 307, 280, 281, 310, 311] (by decide +kernel) (by decide +kernel)) (goodIn_sub (fun _ h => List.mem_cons_of_mem _ (List.mem_append_left _ (List.mem_append_right _ h))) (by decide +kernel))
set_option maxRecDepth 20000 in
theorem gL_isSound_X10_kept : GoodIn wsL_isSound (wsV RL 96 RX10 yX10_kept wsX10_kept) := goodIn_app (goodIn_of _ (by decide +kernel)) ggL_isSound_X10_kept
set_option maxRecDepth 20000 in
theorem ggL_isSound_X10_emitted : GoodIn wsL_isSound wsX10_emitted := goodIn_ca (goodIn_r _ [160, 10, 11, 12, 8, 13, 14, 15, 16, 17, 18, 19, 20, 21, 22, 23, 24, 25, 26, 27, 28, 29, 30, 31, 32, 33, 34, 35, 36, 37, 38, 39, 40, 41, 42, 43, 44, 45, 46, 265, 266, 267, 268, 269, 270, 271, 272, 273, 274, 275, 276, 297, 298, 299, 300, 301, 302, 303, 304, 305, 306, 307, 249, 250, 251, 252, 253, 254, 255, 256, 257, 258, 259, 260, 261, 262, 263, 264] (by decide +kernel) (by decide +kernel)) (goodIn_sub (fun _ h => List.mem_cons_of_mem _ (List.mem_append_left _ (List.mem_append_right _ h))) (by decide +kernel))
set_option maxRecDepth 20000 in
theorem gL_isSound_X10_emitted : GoodIn wsL_isSound (wsV RL 153 RX10 yX10_emitted wsX10_emitted) := goodIn_app (goodIn_of _ (by decide +kernel)) ggL_isSound_X10_emitted
set_option maxRecDepth 20000 in
theorem ggL_isSound_X10_wouldReplay : GoodIn wsL_isSound wsX10_wouldReplay := goodIn_ca (goodIn_ca (goodIn_r _ [164, 165, 166, 167, 8, 168, 10, 11, 12, 13, 14, 15, 16, 17, 18, 19, 20, 21, 22, 23, 24, 25, 26, 27, 28, 29, 30, 31, 32, 33, 34, 35, 36, 37, 38, 39, 40, 41, 42, 43, 44, 45, 46, 169, 170, 171, 172, 173, 265, 266, 267, 268, 269, 270, 271, 272, 273, 274, 275, 276, 297, 298, 299, 300, 301, 302, 303, 304, 305, 306, 307, 282, 283, 284, 285, 286, 287, 288, 289, 290, 291, 292, 293, 294, 295, 296, 249, 250, 251, 252, 253, 254, 255, 256, 257, 258, 259, 260, 261, 262, 263, 264] (by decide +kernel) (by decide +kernel)) (goodIn_sub (fun _ h => List.mem_cons_of_mem _ (List.mem_append_left _ (List.mem_append_right _ h))) (by decide +kernel))) (goodIn_sub (fun _ h => List.mem_cons_of_mem _ (List.mem_append_right _ h)) (by decide +kernel))
set_option maxRecDepth 20000 in
theorem gL_isSound_X10_wouldReplay : GoodIn wsL_isSound (wsV RL 156 RX10 yX10_wouldReplay wsX10_wouldReplay) := goodIn_app (goodIn_of _ (by decide +kernel)) ggL_isSound_X10_wouldReplay
set_option maxRecDepth 20000 in
theorem ggL_isSound_X10_outputs : GoodIn wsL_isSound wsX10_outputs := goodIn_ca (goodIn_ca (goodIn_r _ [177, 178, 179, 180, 8, 181, 10, 11, 12, 13, 14, 15, 16, 17, 18, 19, 20, 21, 22, 23, 24, 25, 26, 27, 28, 29, 30, 31, 32, 33, 34, 35, 36, 37, 38, 39, 40, 41, 42, 43, 44, 45, 46, 169, 170, 171, 172, 173, 265, 266, 267, 268, 269, 270, 271, 272, 273, 274, 275, 276, 297, 298, 299, 300, 301, 302, 303, 304, 305, 306, 307, 282, 283, 284, 285, 286, 287, 288, 289, 290, 291, 292, 293, 294, 295, 296, 249, 250, 251, 252, 253, 254, 255, 256, 257, 258, 259, 260, 261, 262, 263, 264] (by decide +kernel) (by decide +kernel)) (goodIn_sub (fun _ h => List.mem_cons_of_mem _ (List.mem_append_left _ (List.mem_append_right _ h))) (by decide +kernel))) (goodIn_sub (fun _ h => List.mem_cons_of_mem _ (List.mem_append_right _ h)) (by decide +kernel))
set_option maxRecDepth 20000 in
theorem gL_isSound_X10_outputs : GoodIn wsL_isSound (wsV RL 71 RX10 yX10_outputs wsX10_outputs) := goodIn_app (goodIn_of _ (by decide +kernel)) ggL_isSound_X10_outputs
set_option maxRecDepth 20000 in
theorem ggL_isSound_X10_committed : GoodIn wsL_isSound wsX10_committed := goodIn_ca (goodIn_ca (goodIn_r _ [185, 178, 179, 180, 8, 181, 10, 11, 12, 13, 14, 15, 16, 17, 18, 19, 20, 21, 22, 23, 24, 25, 26, 27, 28, 29, 30, 31, 32, 33, 34, 35, 36, 37, 38, 39, 40, 41, 42, 43, 44, 45, 46, 169, 170, 171, 172, 173, 265, 266, 267, 268, 269, 270, 271, 272, 273, 274, 275, 276, 297, 298, 299, 300, 301, 302, 303, 304, 305, 306, 307, 282, 283, 284, 285, 286, 287, 288, 289, 290, 291, 292, 293, 294, 295, 296, 249, 250, 251, 252, 253, 254, 255, 256, 257, 258, 259, 260, 261, 262, 263, 264] (by decide +kernel) (by decide +kernel)) (goodIn_sub (fun _ h => List.mem_cons_of_mem _ (List.mem_append_left _ (List.mem_append_right _ h))) (by decide +kernel))) (goodIn_sub (fun _ h => List.mem_cons_of_mem _ (List.mem_append_right _ h)) (by decide +kernel))
set_option maxRecDepth 20000 in
theorem gL_isSound_X10_committed : GoodIn wsL_isSound (wsV RL 65 RX10 yX10_committed wsX10_committed) := goodIn_app (goodIn_of _ (by decide +kernel)) ggL_isSound_X10_committed
set_option maxRecDepth 20000 in
theorem ggL_isSound_X10_wouldLose : GoodIn wsL_isSound wsX10_wouldLose := goodIn_ca (goodIn_ca (goodIn_r _ [189, 178, 179, 180, 8, 181, 10, 11, 12, 13, 14, 15, 16, 17, 18, 19, 20, 21, 22, 23, 24, 25, 26, 27, 28, 29, 30, 31, 32, 33, 34, 35, 36, 37, 38, 39, 40, 41, 42, 43, 44, 45, 46, 169, 170, 171, 172, 173, 265, 266, 267, 268, 269, 270, 271, 272, 273, 274, 275, 276, 297, 298, 299, 300, 301, 302, 303, 304, 305, 306, 307, 282, 283, 284, 285, 286, 287, 288, 289, 290, 291, 292, 293, 294, 295, 296, 249, 250, 251, 252, 253, 254, 255, 256, 257, 258, 259, 260, 261, 262, 263, 264] (by decide +kernel) (by decide +kernel)) (goodIn_sub (fun _ h => List.mem_cons_of_mem _ (List.mem_append_left _ (List.mem_append_right _ h))) (by decide +kernel))) (goodIn_sub (fun _ h => List.mem_cons_of_mem _ (List.mem_append_right _ h)) (by decide +kernel))
set_option maxRecDepth 20000 in
theorem gL_isSound_X10_wouldLose : GoodIn wsL_isSound (wsV RL 102 RX10 yX10_wouldLose wsX10_wouldLose) := goodIn_app (goodIn_of _ (by decide +kernel)) ggL_isSound_X10_wouldLose
set_option maxRecDepth 20000 in
theorem ggL_isSound_X10_nextEnd : GoodIn wsL_isSound wsX10_nextEnd := goodIn_ca (goodIn_ca (goodIn_r _ [193, 194, 195, 196, 8, 197, 10, 11, 12, 13, 14, 15, 16, 17, 18, 19, 20, 21, 22, 23, 24, 25, 26, 27, 28, 29, 30, 31, 32, 33, 34, 35, 36, 37, 38, 39, 40, 41, 42, 43, 44, 45, 46, 169, 170, 171, 172, 173, 198, 199, 200, 152, 201, 202, 203, 204, 205, 154, 155, 62, 63, 64, 65, 66, 206, 207, 208, 209, 210, 211, 150, 151, 153, 212, 213, 214, 215, 265, 266, 267, 268, 269, 270, 271, 272, 273, 274, 275, 276, 297, 298, 299, 300, 301, 302, 303, 304, 305, 306, 307, 282, 283, 284, 285, 286, 287, 288, 289, 290, 291, 292, 293, 294, 295, 296, 249, 250, 251, 252, 253, 254, 255, 256, 257, 258, 259, 260, 261, 262, 263, 264, 310, 311, 280, 281] (by decide +kernel) (by decide +kernel)) (goodIn_sub (fun _ h => List.mem_cons_of_mem _ (List.mem_append_left _ (List.mem_append_right _ h))) (by decide +kernel))) (goodIn_sub (fun _ h => List.mem_cons_of_mem _ (List.mem_append_right _ h)) (by decide +kernel))
set_option maxRecDepth 20000 in
theorem gL_isSound_X10_nextEnd : GoodIn wsL_isSound (wsV RL 159 RX10 yX10_nextEnd wsX10_nextEnd) := goodIn_app (goodIn_of _ (by decide +kernel)) ggL_isSound_X10_nextEnd
set_option maxRecDepth 20000 in
theorem ggL_isSound_X10_markOf : GoodIn wsL_isSound wsX10_markOf := goodIn_ca (goodIn_r _ [219, 10, 11, 12, 8, 13, 14, 15, 16, 17, 18, 19, 20, 21, 22, 23, 24, 25, 26, 27, 28, 29, 30, 31, 32, 33, 34, 35, 36, 37, 38, 39, 40, 41, 42, 43, 44, 45, 46, 265, 266, 267, 268, 269, 270, 271, 272, 273, 274, 275, 276, 297, 298, 299, 300, 301, 302, 303, 304, 305, 306, 307, 249, 250, 251, 252, 253, 254, 255, 256, 257, 258, 259, 260, 261, 262, 263, 264] (by decide +kernel) (by decide +kernel)) (goodIn_sub (fun _ h => List.mem_cons_of_mem _ (List.mem_append_left _ (List.mem_append_right _ h))) (by decide +kernel))
set_option maxRecDepth 20000 in
theorem gL_isSound_X10_markOf : GoodIn wsL_isSound (wsV RL 37 RX10 yX10_markOf wsX10_markOf) := goodIn_app (goodIn_of _ (by decide +kernel)) ggL_isSound_X10_markOf
set_option maxRecDepth 20000 in
theorem ggL_isSound_X10_inFlight : GoodIn wsL_isSound wsX10_inFlight := goodIn_r _ [223, 16, 224, 225, 226, 20, 227, 22, 23, 24, 25, 26, 27, 28, 29, 30, 31, 32, 33, 34, 35, 36, 37, 38, 39, 40, 41, 42, 43, 44, 45, 46, 228, 55, 56, 57, 58, 59, 60, 61, 62, 63, 64, 65, 66, 249, 250, 251, 252, 253, 254, 255, 256, 257, 258, 259, 260, 261, 265, 266, 267, 268, 269, 270, 271, 272, 273, 274, 275, 276, 262, 263, 264, 277, 278, 279, 280, 281] (by decide +kernel) (by decide +kernel)
set_option maxRecDepth 20000 in
theorem gL_isSound_X10_inFlight : GoodIn wsL_isSound (wsV RL 108 RX10 yX10_inFlight wsX10_inFlight) := goodIn_app (goodIn_of _ (by decide +kernel)) ggL_isSound_X10_inFlight
set_option maxRecDepth 20000 in
theorem ggL_isSound_X10_next : GoodIn wsL_isSound wsX10_next := goodIn_r _ [232, 16, 233, 234, 235, 20, 236, 22, 237, 238, 24, 25, 26, 27, 28, 29, 239, 18, 19, 21, 23, 30, 31, 32, 33, 34, 35, 36, 37, 38, 39, 40, 41, 42, 43, 44, 45, 46, 240, 76, 77, 50, 78, 79, 80, 81, 82, 83, 84, 53, 52, 85, 86, 87, 88, 89, 90, 91, 62, 63, 64, 65, 66, 92, 93, 94, 95, 96, 97, 98, 99, 3, 100, 101, 102, 103, 104, 105, 106, 107, 108, 109, 110, 111, 57, 112, 113, 114, 55, 56, 58, 59, 60, 61, 249, 250, 251, 252, 253, 254, 255, 256, 257, 258, 259, 260, 261, 262, 263, 264, 265, 266, 267, 268, 269, 270, 271, 272, 273, 274, 275, 276, 282, 283, 284, 285, 286, 287, 288, 289, 290, 291, 292, 293, 294, 295, 296, 297, 298, 299, 300, 301, 302, 303, 304, 305, 306, 307, 308, 309, 280, 281, 277, 278, 279] (by decide +kernel) (by decide +kernel)
set_option maxRecDepth 20000 in
theorem gL_isSound_X10_next : GoodIn wsL_isSound (wsV RL 85 RX10 yX10_next wsX10_next) := goodIn_app (goodIn_of _ (by decide +kernel)) ggL_isSound_X10_next
set_option maxRecDepth 20000 in
theorem ggL_isSound_X10_meanQueue : GoodIn wsL_isSound wsX10_meanQueue := goodIn_r _ [244, 16, 245, 246, 247, 20, 248, 22, 23, 24, 25, 26, 27, 28, 29, 30, 31, 32, 33, 34, 35, 36, 37, 38, 39, 40, 41, 42, 43, 44, 45, 46, 224, 225, 226, 227, 228, 55, 56, 57, 58, 59, 60, 61, 62, 63, 64, 65, 66, 249, 250, 251, 252, 253, 254, 255, 256, 257, 258, 259, 260, 261, 265, 266, 267, 268, 269, 270, 271, 272, 273, 274, 275, 276, 308, 309, 262, 263, 264, 277, 278, 279, 280, 281] (by decide +kernel) (by decide +kernel)
set_option maxRecDepth 20000 in
theorem gL_isSound_X10_meanQueue : GoodIn wsL_isSound (wsV RL 162 RX10 yX10_meanQueue wsX10_meanQueue) := goodIn_app (goodIn_of _ (by decide +kernel)) ggL_isSound_X10_meanQueue
theorem dL_isSound_0 : decode cL_isSound 0 = .ok (.iconst 0, 1) := by decide +kernel
theorem dL_isSound_1 : decode cL_isSound 1 = .ok (.istore_n 3, 1) := by decide +kernel
theorem dL_isSound_2 : decode cL_isSound 2 = .ok (.iconst 0, 1) := by decide +kernel
theorem dL_isSound_3 : decode cL_isSound 3 = .ok (.istore 4, 2) := by decide +kernel
theorem dL_isSound_5 : decode cL_isSound 5 = .ok (.iconst 0, 1) := by decide +kernel
theorem dL_isSound_6 : decode cL_isSound 6 = .ok (.istore 5, 2) := by decide +kernel
theorem dL_isSound_8 : decode cL_isSound 8 = .ok (.iconst 0, 1) := by decide +kernel
theorem dL_isSound_9 : decode cL_isSound 9 = .ok (.istore 6, 2) := by decide +kernel
theorem dL_isSound_11 : decode cL_isSound 11 = .ok (.iconst 0, 1) := by decide +kernel
theorem dL_isSound_12 : decode cL_isSound 12 = .ok (.istore 7, 2) := by decide +kernel
theorem dL_isSound_14 : decode cL_isSound 14 = .ok (.iload 7, 2) := by decide +kernel
theorem dL_isSound_16 : decode cL_isSound 16 = .ok (.iload_n 1, 1) := by decide +kernel
theorem dL_isSound_17 : decode cL_isSound 17 = .ok (.if_icmp .ge 408, 3) := by decide +kernel
theorem dL_isSound_20 : decode cL_isSound 20 = .ok (.iconst 0, 1) := by decide +kernel
theorem dL_isSound_21 : decode cL_isSound 21 = .ok (.istore 8, 2) := by decide +kernel
theorem dL_isSound_23 : decode cL_isSound 23 = .ok (.iload 8, 2) := by decide +kernel
theorem dL_isSound_25 : decode cL_isSound 25 = .ok (.iconst 2, 1) := by decide +kernel
theorem dL_isSound_26 : decode cL_isSound 26 = .ok (.if_icmp .ge 79, 3) := by decide +kernel
theorem dL_isSound_29 : decode cL_isSound 29 = .ok (.aload_n 0, 1) := by decide +kernel
theorem dL_isSound_30 : decode cL_isSound 30 = .ok (.iload 7, 2) := by decide +kernel
theorem dL_isSound_32 : decode cL_isSound 32 = .ok (.iload 8, 2) := by decide +kernel
theorem dL_isSound_34 : decode cL_isSound 34 = .ok (.iconst 1, 1) := by decide +kernel
theorem dL_isSound_35 : decode cL_isSound 35 = .ok (.if_icmp .ne 7, 3) := by decide +kernel
theorem dL_isSound_38 : decode cL_isSound 38 = .ok (.iconst 1, 1) := by decide +kernel
theorem dL_isSound_39 : decode cL_isSound 39 = .ok (.goto 4, 3) := by decide +kernel
theorem dL_isSound_42 : decode cL_isSound 42 = .ok (.iconst 0, 1) := by decide +kernel
theorem dL_isSound_43 : decode cL_isSound 43 = .ok (.invokevirtual 143, 3) := by decide +kernel
theorem dL_isSound_46 : decode cL_isSound 46 = .ok (.istore 9, 2) := by decide +kernel
theorem dL_isSound_48 : decode cL_isSound 48 = .ok (.iload_n 3, 1) := by decide +kernel
theorem dL_isSound_49 : decode cL_isSound 49 = .ok (.iconst 0, 1) := by decide +kernel
theorem dL_isSound_50 : decode cL_isSound 50 = .ok (.iload 9, 2) := by decide +kernel
theorem dL_isSound_52 : decode cL_isSound 52 = .ok (.invokestatic 40, 3) := by decide +kernel
theorem dL_isSound_55 : decode cL_isSound 55 = .ok (.iadd, 1) := by decide +kernel
theorem dL_isSound_56 : decode cL_isSound 56 = .ok (.istore_n 3, 1) := by decide +kernel
theorem dL_isSound_57 : decode cL_isSound 57 = .ok (.iload 4, 2) := by decide +kernel
theorem dL_isSound_59 : decode cL_isSound 59 = .ok (.iload 9, 2) := by decide +kernel
theorem dL_isSound_61 : decode cL_isSound 61 = .ok (.ifCond .lt 7, 3) := by decide +kernel
theorem dL_isSound_64 : decode cL_isSound 64 = .ok (.iconst 1, 1) := by decide +kernel
theorem dL_isSound_65 : decode cL_isSound 65 = .ok (.goto 4, 3) := by decide +kernel
theorem dL_isSound_68 : decode cL_isSound 68 = .ok (.iconst 0, 1) := by decide +kernel
theorem dL_isSound_69 : decode cL_isSound 69 = .ok (.iadd, 1) := by decide +kernel
theorem dL_isSound_70 : decode cL_isSound 70 = .ok (.istore 4, 2) := by decide +kernel
theorem dL_isSound_72 : decode cL_isSound 72 = .ok (.iload 9, 2) := by decide +kernel
theorem dL_isSound_74 : decode cL_isSound 74 = .ok (.ifCond .ge 25, 3) := by decide +kernel
theorem dL_isSound_77 : decode cL_isSound 77 = .ok (.aload_n 0, 1) := by decide +kernel
theorem dL_isSound_78 : decode cL_isSound 78 = .ok (.iload 7, 2) := by decide +kernel
theorem dL_isSound_80 : decode cL_isSound 80 = .ok (.iload 8, 2) := by decide +kernel
theorem dL_isSound_82 : decode cL_isSound 82 = .ok (.iconst 1, 1) := by decide +kernel
theorem dL_isSound_83 : decode cL_isSound 83 = .ok (.if_icmp .ne 7, 3) := by decide +kernel
theorem dL_isSound_86 : decode cL_isSound 86 = .ok (.iconst 1, 1) := by decide +kernel
theorem dL_isSound_87 : decode cL_isSound 87 = .ok (.goto 4, 3) := by decide +kernel
theorem dL_isSound_90 : decode cL_isSound 90 = .ok (.iconst 0, 1) := by decide +kernel
theorem dL_isSound_91 : decode cL_isSound 91 = .ok (.invokevirtual 92, 3) := by decide +kernel
theorem dL_isSound_94 : decode cL_isSound 94 = .ok (.ifCond .eq 5, 3) := by decide +kernel
theorem dL_isSound_97 : decode cL_isSound 97 = .ok (.iconst 0, 1) := by decide +kernel
theorem dL_isSound_98 : decode cL_isSound 98 = .ok (.ireturn, 1) := by decide +kernel
theorem dL_isSound_99 : decode cL_isSound 99 = .ok (.iinc 8 1, 3) := by decide +kernel
theorem dL_isSound_102 : decode cL_isSound 102 = .ok (.goto (-79), 3) := by decide +kernel
theorem dL_isSound_105 : decode cL_isSound 105 = .ok (.iload 6, 2) := by decide +kernel
theorem dL_isSound_107 : decode cL_isSound 107 = .ok (.aload_n 0, 1) := by decide +kernel
theorem dL_isSound_108 : decode cL_isSound 108 = .ok (.iload 7, 2) := by decide +kernel
theorem dL_isSound_110 : decode cL_isSound 110 = .ok (.invokevirtual 99, 3) := by decide +kernel
theorem dL_isSound_113 : decode cL_isSound 113 = .ok (.ior, 1) := by decide +kernel
theorem dL_isSound_114 : decode cL_isSound 114 = .ok (.istore 6, 2) := by decide +kernel
theorem dL_isSound_116 : decode cL_isSound 116 = .ok (.aload_n 0, 1) := by decide +kernel
theorem dL_isSound_117 : decode cL_isSound 117 = .ok (.iload 7, 2) := by decide +kernel
theorem dL_isSound_119 : decode cL_isSound 119 = .ok (.invokevirtual 99, 3) := by decide +kernel
theorem dL_isSound_122 : decode cL_isSound 122 = .ok (.ifCond .eq 12, 3) := by decide +kernel
theorem dL_isSound_125 : decode cL_isSound 125 = .ok (.aload_n 0, 1) := by decide +kernel
theorem dL_isSound_126 : decode cL_isSound 126 = .ok (.iload 7, 2) := by decide +kernel
theorem dL_isSound_128 : decode cL_isSound 128 = .ok (.invokevirtual 147, 3) := by decide +kernel
theorem dL_isSound_131 : decode cL_isSound 131 = .ok (.ifCond .eq 64, 3) := by decide +kernel
theorem dL_isSound_134 : decode cL_isSound 134 = .ok (.aload_n 0, 1) := by decide +kernel
theorem dL_isSound_135 : decode cL_isSound 135 = .ok (.iload 7, 2) := by decide +kernel
theorem dL_isSound_137 : decode cL_isSound 137 = .ok (.iconst 0, 1) := by decide +kernel
theorem dL_isSound_138 : decode cL_isSound 138 = .ok (.invokevirtual 92, 3) := by decide +kernel
theorem dL_isSound_141 : decode cL_isSound 141 = .ok (.ifCond .eq 13, 3) := by decide +kernel
theorem dL_isSound_144 : decode cL_isSound 144 = .ok (.aload_n 0, 1) := by decide +kernel
theorem dL_isSound_145 : decode cL_isSound 145 = .ok (.iload 7, 2) := by decide +kernel
theorem dL_isSound_147 : decode cL_isSound 147 = .ok (.iconst 1, 1) := by decide +kernel
theorem dL_isSound_148 : decode cL_isSound 148 = .ok (.invokevirtual 92, 3) := by decide +kernel
theorem dL_isSound_151 : decode cL_isSound 151 = .ok (.ifCond .ne 44, 3) := by decide +kernel
theorem dL_isSound_154 : decode cL_isSound 154 = .ok (.aload_n 0, 1) := by decide +kernel
theorem dL_isSound_155 : decode cL_isSound 155 = .ok (.iload 7, 2) := by decide +kernel
theorem dL_isSound_157 : decode cL_isSound 157 = .ok (.invokevirtual 150, 3) := by decide +kernel
theorem dL_isSound_160 : decode cL_isSound 160 = .ok (.aload_n 0, 1) := by decide +kernel
theorem dL_isSound_161 : decode cL_isSound 161 = .ok (.iload 7, 2) := by decide +kernel
theorem dL_isSound_163 : decode cL_isSound 163 = .ok (.invokevirtual 105, 3) := by decide +kernel
theorem dL_isSound_166 : decode cL_isSound 166 = .ok (.if_icmp .gt 29, 3) := by decide +kernel
theorem dL_isSound_169 : decode cL_isSound 169 = .ok (.aload_n 0, 1) := by decide +kernel
theorem dL_isSound_170 : decode cL_isSound 170 = .ok (.iload 7, 2) := by decide +kernel
theorem dL_isSound_172 : decode cL_isSound 172 = .ok (.invokevirtual 150, 3) := by decide +kernel
theorem dL_isSound_175 : decode cL_isSound 175 = .ok (.ifCond .lt 20, 3) := by decide +kernel
theorem dL_isSound_178 : decode cL_isSound 178 = .ok (.aload_n 0, 1) := by decide +kernel
theorem dL_isSound_179 : decode cL_isSound 179 = .ok (.iload 7, 2) := by decide +kernel
theorem dL_isSound_181 : decode cL_isSound 181 = .ok (.iconst 0, 1) := by decide +kernel
theorem dL_isSound_182 : decode cL_isSound 182 = .ok (.invokevirtual 92, 3) := by decide +kernel
theorem dL_isSound_185 : decode cL_isSound 185 = .ok (.ifCond .eq 12, 3) := by decide +kernel
theorem dL_isSound_188 : decode cL_isSound 188 = .ok (.aload_n 0, 1) := by decide +kernel
theorem dL_isSound_189 : decode cL_isSound 189 = .ok (.invokevirtual 56, 3) := by decide +kernel
theorem dL_isSound_192 : decode cL_isSound 192 = .ok (.ifCond .ne 5, 3) := by decide +kernel
theorem dL_isSound_195 : decode cL_isSound 195 = .ok (.iconst 0, 1) := by decide +kernel
theorem dL_isSound_196 : decode cL_isSound 196 = .ok (.ireturn, 1) := by decide +kernel
theorem dL_isSound_197 : decode cL_isSound 197 = .ok (.aload_n 0, 1) := by decide +kernel
theorem dL_isSound_198 : decode cL_isSound 198 = .ok (.iload 7, 2) := by decide +kernel
theorem dL_isSound_200 : decode cL_isSound 200 = .ok (.invokevirtual 62, 3) := by decide +kernel
theorem dL_isSound_203 : decode cL_isSound 203 = .ok (.istore 8, 2) := by decide +kernel
theorem dL_isSound_205 : decode cL_isSound 205 = .ok (.iload 8, 2) := by decide +kernel
theorem dL_isSound_207 : decode cL_isSound 207 = .ok (.ifCond .ne 21, 3) := by decide +kernel
theorem dL_isSound_210 : decode cL_isSound 210 = .ok (.iload 5, 2) := by decide +kernel
theorem dL_isSound_212 : decode cL_isSound 212 = .ok (.aload_n 0, 1) := by decide +kernel
theorem dL_isSound_213 : decode cL_isSound 213 = .ok (.iload 7, 2) := by decide +kernel
theorem dL_isSound_215 : decode cL_isSound 215 = .ok (.invokevirtual 105, 3) := by decide +kernel
theorem dL_isSound_218 : decode cL_isSound 218 = .ok (.aload_n 0, 1) := by decide +kernel
theorem dL_isSound_219 : decode cL_isSound 219 = .ok (.iload 7, 2) := by decide +kernel
theorem dL_isSound_221 : decode cL_isSound 221 = .ok (.invokevirtual 96, 3) := by decide +kernel
theorem dL_isSound_224 : decode cL_isSound 224 = .ok (.iadd, 1) := by decide +kernel
theorem dL_isSound_225 : decode cL_isSound 225 = .ok (.iadd, 1) := by decide +kernel
theorem dL_isSound_226 : decode cL_isSound 226 = .ok (.istore 5, 2) := by decide +kernel
theorem dL_isSound_228 : decode cL_isSound 228 = .ok (.iload 8, 2) := by decide +kernel
theorem dL_isSound_230 : decode cL_isSound 230 = .ok (.ifCond .ne 29, 3) := by decide +kernel
theorem dL_isSound_233 : decode cL_isSound 233 = .ok (.aload_n 0, 1) := by decide +kernel
theorem dL_isSound_234 : decode cL_isSound 234 = .ok (.iload 7, 2) := by decide +kernel
theorem dL_isSound_236 : decode cL_isSound 236 = .ok (.invokevirtual 153, 3) := by decide +kernel
theorem dL_isSound_239 : decode cL_isSound 239 = .ok (.aload_n 0, 1) := by decide +kernel
theorem dL_isSound_240 : decode cL_isSound 240 = .ok (.iload 7, 2) := by decide +kernel
theorem dL_isSound_242 : decode cL_isSound 242 = .ok (.invokevirtual 105, 3) := by decide +kernel
theorem dL_isSound_245 : decode cL_isSound 245 = .ok (.if_icmp .ne 12, 3) := by decide +kernel
theorem dL_isSound_248 : decode cL_isSound 248 = .ok (.aload_n 0, 1) := by decide +kernel
theorem dL_isSound_249 : decode cL_isSound 249 = .ok (.iload 7, 2) := by decide +kernel
theorem dL_isSound_251 : decode cL_isSound 251 = .ok (.invokevirtual 156, 3) := by decide +kernel
theorem dL_isSound_254 : decode cL_isSound 254 = .ok (.ifCond .ge 5, 3) := by decide +kernel
theorem dL_isSound_257 : decode cL_isSound 257 = .ok (.iconst 0, 1) := by decide +kernel
theorem dL_isSound_258 : decode cL_isSound 258 = .ok (.ireturn, 1) := by decide +kernel
theorem dL_isSound_259 : decode cL_isSound 259 = .ok (.iload 8, 2) := by decide +kernel
theorem dL_isSound_261 : decode cL_isSound 261 = .ok (.iconst 2, 1) := by decide +kernel
theorem dL_isSound_262 : decode cL_isSound 262 = .ok (.if_icmp .eq 10, 3) := by decide +kernel
theorem dL_isSound_265 : decode cL_isSound 265 = .ok (.iload 8, 2) := by decide +kernel
theorem dL_isSound_267 : decode cL_isSound 267 = .ok (.bipush 6, 2) := by decide +kernel
theorem dL_isSound_269 : decode cL_isSound 269 = .ok (.if_icmp .ne 18, 3) := by decide +kernel
theorem dL_isSound_272 : decode cL_isSound 272 = .ok (.aload_n 0, 1) := by decide +kernel
theorem dL_isSound_273 : decode cL_isSound 273 = .ok (.iload 7, 2) := by decide +kernel
theorem dL_isSound_275 : decode cL_isSound 275 = .ok (.invokevirtual 153, 3) := by decide +kernel
theorem dL_isSound_278 : decode cL_isSound 278 = .ok (.aload_n 0, 1) := by decide +kernel
theorem dL_isSound_279 : decode cL_isSound 279 = .ok (.iload 7, 2) := by decide +kernel
theorem dL_isSound_281 : decode cL_isSound 281 = .ok (.invokevirtual 105, 3) := by decide +kernel
theorem dL_isSound_284 : decode cL_isSound 284 = .ok (.if_icmp .ne 24, 3) := by decide +kernel
theorem dL_isSound_287 : decode cL_isSound 287 = .ok (.iload 8, 2) := by decide +kernel
theorem dL_isSound_289 : decode cL_isSound 289 = .ok (.iconst 1, 1) := by decide +kernel
theorem dL_isSound_290 : decode cL_isSound 290 = .ok (.if_icmp .ne 20, 3) := by decide +kernel
theorem dL_isSound_293 : decode cL_isSound 293 = .ok (.aload_n 0, 1) := by decide +kernel
theorem dL_isSound_294 : decode cL_isSound 294 = .ok (.iload 7, 2) := by decide +kernel
theorem dL_isSound_296 : decode cL_isSound 296 = .ok (.invokevirtual 153, 3) := by decide +kernel
theorem dL_isSound_299 : decode cL_isSound 299 = .ok (.aload_n 0, 1) := by decide +kernel
theorem dL_isSound_300 : decode cL_isSound 300 = .ok (.iload 7, 2) := by decide +kernel
theorem dL_isSound_302 : decode cL_isSound 302 = .ok (.invokevirtual 105, 3) := by decide +kernel
theorem dL_isSound_305 : decode cL_isSound 305 = .ok (.if_icmp .le 5, 3) := by decide +kernel
theorem dL_isSound_308 : decode cL_isSound 308 = .ok (.iconst 0, 1) := by decide +kernel
theorem dL_isSound_309 : decode cL_isSound 309 = .ok (.ireturn, 1) := by decide +kernel
theorem dL_isSound_310 : decode cL_isSound 310 = .ok (.iload 8, 2) := by decide +kernel
theorem dL_isSound_312 : decode cL_isSound 312 = .ok (.bipush 7, 2) := by decide +kernel
theorem dL_isSound_314 : decode cL_isSound 314 = .ok (.if_icmp .ne 66, 3) := by decide +kernel
theorem dL_isSound_317 : decode cL_isSound 317 = .ok (.aload_n 0, 1) := by decide +kernel
theorem dL_isSound_318 : decode cL_isSound 318 = .ok (.iload 7, 2) := by decide +kernel
theorem dL_isSound_320 : decode cL_isSound 320 = .ok (.invokevirtual 71, 3) := by decide +kernel
theorem dL_isSound_323 : decode cL_isSound 323 = .ok (.aload_n 0, 1) := by decide +kernel
theorem dL_isSound_324 : decode cL_isSound 324 = .ok (.iload 7, 2) := by decide +kernel
theorem dL_isSound_326 : decode cL_isSound 326 = .ok (.invokevirtual 105, 3) := by decide +kernel
theorem dL_isSound_329 : decode cL_isSound 329 = .ok (.if_icmp .ne 49, 3) := by decide +kernel
theorem dL_isSound_332 : decode cL_isSound 332 = .ok (.aload_n 0, 1) := by decide +kernel
theorem dL_isSound_333 : decode cL_isSound 333 = .ok (.iload 7, 2) := by decide +kernel
theorem dL_isSound_335 : decode cL_isSound 335 = .ok (.invokevirtual 65, 3) := by decide +kernel
theorem dL_isSound_338 : decode cL_isSound 338 = .ok (.aload_n 0, 1) := by decide +kernel
theorem dL_isSound_339 : decode cL_isSound 339 = .ok (.iload 7, 2) := by decide +kernel
theorem dL_isSound_341 : decode cL_isSound 341 = .ok (.invokevirtual 71, 3) := by decide +kernel
theorem dL_isSound_344 : decode cL_isSound 344 = .ok (.if_icmp .gt 34, 3) := by decide +kernel
theorem dL_isSound_347 : decode cL_isSound 347 = .ok (.aload_n 0, 1) := by decide +kernel
theorem dL_isSound_348 : decode cL_isSound 348 = .ok (.iload 7, 2) := by decide +kernel
theorem dL_isSound_350 : decode cL_isSound 350 = .ok (.invokevirtual 153, 3) := by decide +kernel
theorem dL_isSound_353 : decode cL_isSound 353 = .ok (.ifCond .ne 25, 3) := by decide +kernel
theorem dL_isSound_356 : decode cL_isSound 356 = .ok (.aload_n 0, 1) := by decide +kernel
theorem dL_isSound_357 : decode cL_isSound 357 = .ok (.iload 7, 2) := by decide +kernel
theorem dL_isSound_359 : decode cL_isSound 359 = .ok (.invokevirtual 102, 3) := by decide +kernel
theorem dL_isSound_362 : decode cL_isSound 362 = .ok (.aload_n 0, 1) := by decide +kernel
theorem dL_isSound_363 : decode cL_isSound 363 = .ok (.iload 7, 2) := by decide +kernel
theorem dL_isSound_365 : decode cL_isSound 365 = .ok (.invokevirtual 71, 3) := by decide +kernel
theorem dL_isSound_368 : decode cL_isSound 368 = .ok (.aload_n 0, 1) := by decide +kernel
theorem dL_isSound_369 : decode cL_isSound 369 = .ok (.iload 7, 2) := by decide +kernel
theorem dL_isSound_371 : decode cL_isSound 371 = .ok (.invokevirtual 65, 3) := by decide +kernel
theorem dL_isSound_374 : decode cL_isSound 374 = .ok (.isub, 1) := by decide +kernel
theorem dL_isSound_375 : decode cL_isSound 375 = .ok (.if_icmp .eq 5, 3) := by decide +kernel
theorem dL_isSound_378 : decode cL_isSound 378 = .ok (.iconst 0, 1) := by decide +kernel
theorem dL_isSound_379 : decode cL_isSound 379 = .ok (.ireturn, 1) := by decide +kernel
theorem dL_isSound_380 : decode cL_isSound 380 = .ok (.iload 8, 2) := by decide +kernel
theorem dL_isSound_382 : decode cL_isSound 382 = .ok (.iconst 3, 1) := by decide +kernel
theorem dL_isSound_383 : decode cL_isSound 383 = .ok (.if_icmp .eq 9, 3) := by decide +kernel
theorem dL_isSound_386 : decode cL_isSound 386 = .ok (.iload 8, 2) := by decide +kernel
theorem dL_isSound_388 : decode cL_isSound 388 = .ok (.iconst 4, 1) := by decide +kernel
theorem dL_isSound_389 : decode cL_isSound 389 = .ok (.if_icmp .ne 30, 3) := by decide +kernel
theorem dL_isSound_392 : decode cL_isSound 392 = .ok (.aload_n 0, 1) := by decide +kernel
theorem dL_isSound_393 : decode cL_isSound 393 = .ok (.iload 7, 2) := by decide +kernel
theorem dL_isSound_395 : decode cL_isSound 395 = .ok (.invokevirtual 159, 3) := by decide +kernel
theorem dL_isSound_398 : decode cL_isSound 398 = .ok (.iconst (-1), 1) := by decide +kernel
theorem dL_isSound_399 : decode cL_isSound 399 = .ok (.if_icmp .eq 20, 3) := by decide +kernel
theorem dL_isSound_402 : decode cL_isSound 402 = .ok (.aload_n 0, 1) := by decide +kernel
theorem dL_isSound_403 : decode cL_isSound 403 = .ok (.iload 7, 2) := by decide +kernel
theorem dL_isSound_405 : decode cL_isSound 405 = .ok (.invokevirtual 159, 3) := by decide +kernel
theorem dL_isSound_408 : decode cL_isSound 408 = .ok (.aload_n 0, 1) := by decide +kernel
theorem dL_isSound_409 : decode cL_isSound 409 = .ok (.iload 7, 2) := by decide +kernel
theorem dL_isSound_411 : decode cL_isSound 411 = .ok (.invokevirtual 37, 3) := by decide +kernel
theorem dL_isSound_414 : decode cL_isSound 414 = .ok (.if_icmp .gt 5, 3) := by decide +kernel
theorem dL_isSound_417 : decode cL_isSound 417 = .ok (.iconst 0, 1) := by decide +kernel
theorem dL_isSound_418 : decode cL_isSound 418 = .ok (.ireturn, 1) := by decide +kernel
theorem dL_isSound_419 : decode cL_isSound 419 = .ok (.iinc 7 1, 3) := by decide +kernel
theorem dL_isSound_422 : decode cL_isSound 422 = .ok (.goto (-408), 3) := by decide +kernel
theorem dL_isSound_425 : decode cL_isSound 425 = .ok (.aload_n 0, 1) := by decide +kernel
theorem dL_isSound_426 : decode cL_isSound 426 = .ok (.invokevirtual 108, 3) := by decide +kernel
theorem dL_isSound_429 : decode cL_isSound 429 = .ok (.iload_n 3, 1) := by decide +kernel
theorem dL_isSound_430 : decode cL_isSound 430 = .ok (.if_icmp .ne 71, 3) := by decide +kernel
theorem dL_isSound_433 : decode cL_isSound 433 = .ok (.iload 5, 2) := by decide +kernel
theorem dL_isSound_435 : decode cL_isSound 435 = .ok (.iload_n 2, 1) := by decide +kernel
theorem dL_isSound_436 : decode cL_isSound 436 = .ok (.if_icmp .ne 65, 3) := by decide +kernel
theorem dL_isSound_439 : decode cL_isSound 439 = .ok (.aload_n 0, 1) := by decide +kernel
theorem dL_isSound_440 : decode cL_isSound 440 = .ok (.invokevirtual 85, 3) := by decide +kernel
theorem dL_isSound_443 : decode cL_isSound 443 = .ok (.ifCond .lt 7, 3) := by decide +kernel
theorem dL_isSound_446 : decode cL_isSound 446 = .ok (.iconst 1, 1) := by decide +kernel
theorem dL_isSound_447 : decode cL_isSound 447 = .ok (.goto 4, 3) := by decide +kernel
theorem dL_isSound_450 : decode cL_isSound 450 = .ok (.iconst 0, 1) := by decide +kernel
theorem dL_isSound_451 : decode cL_isSound 451 = .ok (.iload 6, 2) := by decide +kernel
theorem dL_isSound_453 : decode cL_isSound 453 = .ok (.if_icmp .ne 48, 3) := by decide +kernel
theorem dL_isSound_456 : decode cL_isSound 456 = .ok (.aload_n 0, 1) := by decide +kernel
theorem dL_isSound_457 : decode cL_isSound 457 = .ok (.invokevirtual 85, 3) := by decide +kernel
theorem dL_isSound_460 : decode cL_isSound 460 = .ok (.ifCond .lt 14, 3) := by decide +kernel
theorem dL_isSound_463 : decode cL_isSound 463 = .ok (.aload_n 0, 1) := by decide +kernel
theorem dL_isSound_464 : decode cL_isSound 464 = .ok (.aload_n 0, 1) := by decide +kernel
theorem dL_isSound_465 : decode cL_isSound 465 = .ok (.invokevirtual 85, 3) := by decide +kernel
theorem dL_isSound_468 : decode cL_isSound 468 = .ok (.invokevirtual 99, 3) := by decide +kernel
theorem dL_isSound_471 : decode cL_isSound 471 = .ok (.ifCond .eq 30, 3) := by decide +kernel
theorem dL_isSound_474 : decode cL_isSound 474 = .ok (.aload_n 0, 1) := by decide +kernel
theorem dL_isSound_475 : decode cL_isSound 475 = .ok (.invokevirtual 162, 3) := by decide +kernel
theorem dL_isSound_478 : decode cL_isSound 478 = .ok (.iload 4, 2) := by decide +kernel
theorem dL_isSound_480 : decode cL_isSound 480 = .ok (.ifCond .ne 7, 3) := by decide +kernel
theorem dL_isSound_483 : decode cL_isSound 483 = .ok (.dconst 0, 1) := by decide +kernel
theorem dL_isSound_484 : decode cL_isSound 484 = .ok (.goto 9, 3) := by decide +kernel
theorem dL_isSound_487 : decode cL_isSound 487 = .ok (.iload_n 3, 1) := by decide +kernel
theorem dL_isSound_488 : decode cL_isSound 488 = .ok (.i2d, 1) := by decide +kernel
theorem dL_isSound_489 : decode cL_isSound 489 = .ok (.iload 4, 2) := by decide +kernel
theorem dL_isSound_491 : decode cL_isSound 491 = .ok (.i2d, 1) := by decide +kernel
theorem dL_isSound_492 : decode cL_isSound 492 = .ok (.ddiv, 1) := by decide +kernel
theorem dL_isSound_493 : decode cL_isSound 493 = .ok (.dcmp .l, 1) := by decide +kernel
theorem dL_isSound_494 : decode cL_isSound 494 = .ok (.ifCond .ne 7, 3) := by decide +kernel
theorem dL_isSound_497 : decode cL_isSound 497 = .ok (.iconst 1, 1) := by decide +kernel
theorem dL_isSound_498 : decode cL_isSound 498 = .ok (.goto 4, 3) := by decide +kernel
theorem dL_isSound_501 : decode cL_isSound 501 = .ok (.iconst 0, 1) := by decide +kernel
theorem dL_isSound_502 : decode cL_isSound 502 = .ok (.ireturn, 1) := by decide +kernel
abbrev vwCl : List vw_C := [(RJx4a65c, TJx4a65c, 3), (RX1, TX1, 3), (RX2, TX2, 8), (RX4, TX4, 2), (RX5, TX5, 15), (RX6, TX6, 2), (RX7, TX7, 2), (RX8, TX8, 12), (RX9, TX9, 11), (RX10, TX10, 5)]

