theorem dL_kept_47 : decode cL_kept 47 = .ok (.iload 4, 2) := by decide +kernel
theorem dL_kept_49 : decode cL_kept 49 = .ok (.iload_n 1, 1) := by decide +kernel
theorem dL_kept_50 : decode cL_kept 50 = .ok (.if_icmp .ge 185, 3) := by decide +kernel
theorem dL_kept_53 : decode cL_kept 53 = .ok (.iload_n 3, 1) := by decide +kernel
theorem dL_kept_54 : decode cL_kept 54 = .ok (.ifCond .eq 181, 3) := by decide +kernel
theorem dL_kept_57 : decode cL_kept 57 = .ok (.aload_n 0, 1) := by decide +kernel
theorem dL_kept_58 : decode cL_kept 58 = .ok (.iload 4, 2) := by decide +kernel
theorem dL_kept_60 : decode cL_kept 60 = .ok (.invokestatic 118, 3) := by decide +kernel
theorem dL_kept_63 : decode cL_kept 63 = .ok (.l2i, 1) := by decide +kernel
theorem dL_kept_64 : decode cL_kept 64 = .ok (.istore 5, 2) := by decide +kernel
theorem dL_kept_66 : decode cL_kept 66 = .ok (.aload_n 0, 1) := by decide +kernel
theorem dL_kept_67 : decode cL_kept 67 = .ok (.iload 5, 2) := by decide +kernel
theorem dL_kept_69 : decode cL_kept 69 = .ok (.iconst 5, 1) := by decide +kernel
theorem dL_kept_70 : decode cL_kept 70 = .ok (.invokestatic 104, 3) := by decide +kernel
theorem dL_kept_73 : decode cL_kept 73 = .ok (.iload 4, 2) := by decide +kernel
theorem dL_kept_75 : decode cL_kept 75 = .ok (.i2l, 1) := by decide +kernel
theorem dL_kept_76 : decode cL_kept 76 = .ok (.lcmp, 1) := by decide +kernel
theorem dL_kept_77 : decode cL_kept 77 = .ok (.ifCond .ne 7, 3) := by decide +kernel
theorem dL_kept_80 : decode cL_kept 80 = .ok (.iconst 1, 1) := by decide +kernel
theorem dL_kept_81 : decode cL_kept 81 = .ok (.goto 4, 3) := by decide +kernel
theorem dL_kept_84 : decode cL_kept 84 = .ok (.iconst 0, 1) := by decide +kernel
theorem dL_kept_85 : decode cL_kept 85 = .ok (.istore_n 3, 1) := by decide +kernel
theorem dL_kept_86 : decode cL_kept 86 = .ok (.iload 4, 2) := by decide +kernel
theorem dL_kept_88 : decode cL_kept 88 = .ok (.ifCond .le 141, 3) := by decide +kernel
theorem dL_kept_91 : decode cL_kept 91 = .ok (.iload_n 3, 1) := by decide +kernel
theorem dL_kept_92 : decode cL_kept 92 = .ok (.ifCond .eq 137, 3) := by decide +kernel
theorem dL_kept_95 : decode cL_kept 95 = .ok (.aload_n 0, 1) := by decide +kernel
theorem dL_kept_96 : decode cL_kept 96 = .ok (.iload 4, 2) := by decide +kernel
theorem dL_kept_98 : decode cL_kept 98 = .ok (.iconst 1, 1) := by decide +kernel
theorem dL_kept_99 : decode cL_kept 99 = .ok (.isub, 1) := by decide +kernel
theorem dL_kept_100 : decode cL_kept 100 = .ok (.invokestatic 118, 3) := by decide +kernel
theorem dL_kept_103 : decode cL_kept 103 = .ok (.l2i, 1) := by decide +kernel
theorem dL_kept_104 : decode cL_kept 104 = .ok (.istore 6, 2) := by decide +kernel
theorem dL_kept_106 : decode cL_kept 106 = .ok (.aload_n 0, 1) := by decide +kernel
theorem dL_kept_107 : decode cL_kept 107 = .ok (.iload 6, 2) := by decide +kernel
theorem dL_kept_109 : decode cL_kept 109 = .ok (.iconst 0, 1) := by decide +kernel
theorem dL_kept_110 : decode cL_kept 110 = .ok (.invokestatic 104, 3) := by decide +kernel
theorem dL_kept_113 : decode cL_kept 113 = .ok (.aload_n 0, 1) := by decide +kernel
theorem dL_kept_114 : decode cL_kept 114 = .ok (.iload 5, 2) := by decide +kernel
theorem dL_kept_116 : decode cL_kept 116 = .ok (.iconst 0, 1) := by decide +kernel
theorem dL_kept_117 : decode cL_kept 117 = .ok (.invokestatic 104, 3) := by decide +kernel
theorem dL_kept_120 : decode cL_kept 120 = .ok (.lsub, 1) := by decide +kernel
theorem dL_kept_121 : decode cL_kept 121 = .ok (.l2i, 1) := by decide +kernel
theorem dL_kept_122 : decode cL_kept 122 = .ok (.istore 7, 2) := by decide +kernel
theorem dL_kept_124 : decode cL_kept 124 = .ok (.aload_n 0, 1) := by decide +kernel
theorem dL_kept_125 : decode cL_kept 125 = .ok (.iload 6, 2) := by decide +kernel
theorem dL_kept_127 : decode cL_kept 127 = .ok (.iload 5, 2) := by decide +kernel
theorem dL_kept_129 : decode cL_kept 129 = .ok (.invokestatic 170, 3) := by decide +kernel
theorem dL_kept_132 : decode cL_kept 132 = .ok (.istore 8, 2) := by decide +kernel
theorem dL_kept_134 : decode cL_kept 134 = .ok (.iload_n 2, 1) := by decide +kernel
theorem dL_kept_135 : decode cL_kept 135 = .ok (.ifCond .ne 8, 3) := by decide +kernel
theorem dL_kept_138 : decode cL_kept 138 = .ok (.iload 8, 2) := by decide +kernel
theorem dL_kept_140 : decode cL_kept 140 = .ok (.goto 5, 3) := by decide +kernel
theorem dL_kept_143 : decode cL_kept 143 = .ok (.iload 7, 2) := by decide +kernel
theorem dL_kept_145 : decode cL_kept 145 = .ok (.istore 9, 2) := by decide +kernel
theorem dL_kept_147 : decode cL_kept 147 = .ok (.iload_n 2, 1) := by decide +kernel
theorem dL_kept_148 : decode cL_kept 148 = .ok (.ifCond .ne 8, 3) := by decide +kernel
theorem dL_kept_151 : decode cL_kept 151 = .ok (.iload 7, 2) := by decide +kernel
theorem dL_kept_153 : decode cL_kept 153 = .ok (.goto 5, 3) := by decide +kernel
theorem dL_kept_156 : decode cL_kept 156 = .ok (.iload 8, 2) := by decide +kernel
theorem dL_kept_158 : decode cL_kept 158 = .ok (.istore 10, 2) := by decide +kernel
theorem dL_kept_160 : decode cL_kept 160 = .ok (.aload_n 0, 1) := by decide +kernel
theorem dL_kept_161 : decode cL_kept 161 = .ok (.iload 6, 2) := by decide +kernel
theorem dL_kept_163 : decode cL_kept 163 = .ok (.aload_n 0, 1) := by decide +kernel
theorem dL_kept_164 : decode cL_kept 164 = .ok (.iload 6, 2) := by decide +kernel
theorem dL_kept_166 : decode cL_kept 166 = .ok (.iconst 1, 1) := by decide +kernel
theorem dL_kept_167 : decode cL_kept 167 = .ok (.invokestatic 104, 3) := by decide +kernel
theorem dL_kept_170 : decode cL_kept 170 = .ok (.l2i, 1) := by decide +kernel
theorem dL_kept_171 : decode cL_kept 171 = .ok (.iload 5, 2) := by decide +kernel
theorem dL_kept_173 : decode cL_kept 173 = .ok (.aload_n 0, 1) := by decide +kernel
theorem dL_kept_174 : decode cL_kept 174 = .ok (.iload 5, 2) := by decide +kernel
theorem dL_kept_176 : decode cL_kept 176 = .ok (.iconst 1, 1) := by decide +kernel
theorem dL_kept_177 : decode cL_kept 177 = .ok (.invokestatic 104, 3) := by decide +kernel
theorem dL_kept_180 : decode cL_kept 180 = .ok (.l2i, 1) := by decide +kernel
theorem dL_kept_181 : decode cL_kept 181 = .ok (.invokestatic 158, 3) := by decide +kernel
theorem dL_kept_184 : decode cL_kept 184 = .ok (.istore 11, 2) := by decide +kernel
theorem dL_kept_186 : decode cL_kept 186 = .ok (.iload 9, 2) := by decide +kernel
theorem dL_kept_188 : decode cL_kept 188 = .ok (.ifCond .lt 35, 3) := by decide +kernel
theorem dL_kept_191 : decode cL_kept 191 = .ok (.iload 9, 2) := by decide +kernel
theorem dL_kept_193 : decode cL_kept 193 = .ok (.ifCond .ne 34, 3) := by decide +kernel
theorem dL_kept_196 : decode cL_kept 196 = .ok (.iload 10, 2) := by decide +kernel
theorem dL_kept_198 : decode cL_kept 198 = .ok (.ifCond .lt 25, 3) := by decide +kernel
theorem dL_kept_201 : decode cL_kept 201 = .ok (.iload 10, 2) := by decide +kernel
theorem dL_kept_203 : decode cL_kept 203 = .ok (.ifCond .ne 24, 3) := by decide +kernel
theorem dL_kept_206 : decode cL_kept 206 = .ok (.iload 11, 2) := by decide +kernel
theorem dL_kept_208 : decode cL_kept 208 = .ok (.ifCond .lt 15, 3) := by decide +kernel
theorem dL_kept_211 : decode cL_kept 211 = .ok (.iload 11, 2) := by decide +kernel
theorem dL_kept_213 : decode cL_kept 213 = .ok (.ifCond .ne 14, 3) := by decide +kernel
theorem dL_kept_216 : decode cL_kept 216 = .ok (.iload 6, 2) := by decide +kernel
theorem dL_kept_218 : decode cL_kept 218 = .ok (.iload 5, 2) := by decide +kernel
theorem dL_kept_220 : decode cL_kept 220 = .ok (.if_icmp .ge 7, 3) := by decide +kernel
theorem dL_kept_223 : decode cL_kept 223 = .ok (.iconst 1, 1) := by decide +kernel
theorem dL_kept_224 : decode cL_kept 224 = .ok (.goto 4, 3) := by decide +kernel
theorem dL_kept_227 : decode cL_kept 227 = .ok (.iconst 0, 1) := by decide +kernel
theorem dL_kept_228 : decode cL_kept 228 = .ok (.istore_n 3, 1) := by decide +kernel
theorem dL_kept_229 : decode cL_kept 229 = .ok (.iinc 4 1, 3) := by decide +kernel
theorem dL_kept_232 : decode cL_kept 232 = .ok (.goto (-185), 3) := by decide +kernel
theorem dL_kept_235 : decode cL_kept 235 = .ok (.iconst 0, 1) := by decide +kernel
theorem dL_kept_236 : decode cL_kept 236 = .ok (.istore 4, 2) := by decide +kernel
theorem dL_kept_238 : decode cL_kept 238 = .ok (.iconst 0, 1) := by decide +kernel
theorem dL_kept_239 : decode cL_kept 239 = .ok (.istore 5, 2) := by decide +kernel
theorem dL_kept_241 : decode cL_kept 241 = .ok (.lconst 0, 1) := by decide +kernel
theorem dL_kept_242 : decode cL_kept 242 = .ok (.lstore 6, 2) := by decide +kernel
theorem dL_kept_244 : decode cL_kept 244 = .ok (.iconst 0, 1) := by decide +kernel
theorem dL_kept_245 : decode cL_kept 245 = .ok (.istore 8, 2) := by decide +kernel
theorem dL_kept_247 : decode cL_kept 247 = .ok (.iload 8, 2) := by decide +kernel
theorem dL_kept_249 : decode cL_kept 249 = .ok (.iload_n 1, 1) := by decide +kernel
theorem dL_kept_250 : decode cL_kept 250 = .ok (.if_icmp .ge 374, 3) := by decide +kernel
theorem dL_kept_253 : decode cL_kept 253 = .ok (.iload_n 3, 1) := by decide +kernel
theorem dL_kept_254 : decode cL_kept 254 = .ok (.ifCond .eq 370, 3) := by decide +kernel
theorem dL_kept_257 : decode cL_kept 257 = .ok (.iconst 0, 1) := by decide +kernel
theorem dL_kept_258 : decode cL_kept 258 = .ok (.istore 9, 2) := by decide +kernel
theorem dL_kept_260 : decode cL_kept 260 = .ok (.iconst 1, 1) := by decide +kernel
theorem dL_kept_261 : decode cL_kept 261 = .ok (.istore 10, 2) := by decide +kernel
theorem dL_kept_263 : decode cL_kept 263 = .ok (.iconst 0, 1) := by decide +kernel
theorem dL_kept_264 : decode cL_kept 264 = .ok (.istore 11, 2) := by decide +kernel
theorem dL_kept_266 : decode cL_kept 266 = .ok (.iload 11, 2) := by decide +kernel
theorem dL_kept_268 : decode cL_kept 268 = .ok (.iload_n 1, 1) := by decide +kernel
theorem dL_kept_269 : decode cL_kept 269 = .ok (.if_icmp .ge 95, 3) := by decide +kernel
theorem dL_kept_272 : decode cL_kept 272 = .ok (.iload_n 3, 1) := by decide +kernel
theorem dL_kept_273 : decode cL_kept 273 = .ok (.ifCond .eq 91, 3) := by decide +kernel
theorem dL_kept_276 : decode cL_kept 276 = .ok (.aload_n 0, 1) := by decide +kernel
theorem dL_kept_277 : decode cL_kept 277 = .ok (.iload 8, 2) := by decide +kernel
theorem dL_kept_279 : decode cL_kept 279 = .ok (.iload 11, 2) := by decide +kernel
theorem dL_kept_281 : decode cL_kept 281 = .ok (.invokestatic 174, 3) := by decide +kernel
theorem dL_kept_284 : decode cL_kept 284 = .ok (.istore 12, 2) := by decide +kernel
theorem dL_kept_286 : decode cL_kept 286 = .ok (.iload 9, 2) := by decide +kernel
theorem dL_kept_288 : decode cL_kept 288 = .ok (.iload 12, 2) := by decide +kernel
theorem dL_kept_290 : decode cL_kept 290 = .ok (.ifCond .eq 7, 3) := by decide +kernel
theorem dL_kept_293 : decode cL_kept 293 = .ok (.iconst 1, 1) := by decide +kernel
theorem dL_kept_294 : decode cL_kept 294 = .ok (.goto 4, 3) := by decide +kernel
theorem dL_kept_297 : decode cL_kept 297 = .ok (.iconst 0, 1) := by decide +kernel
theorem dL_kept_298 : decode cL_kept 298 = .ok (.iadd, 1) := by decide +kernel
theorem dL_kept_299 : decode cL_kept 299 = .ok (.istore 9, 2) := by decide +kernel
theorem dL_kept_301 : decode cL_kept 301 = .ok (.iload 10, 2) := by decide +kernel
theorem dL_kept_303 : decode cL_kept 303 = .ok (.iload 12, 2) := by decide +kernel
theorem dL_kept_305 : decode cL_kept 305 = .ok (.ifCond .eq 25, 3) := by decide +kernel
theorem dL_kept_308 : decode cL_kept 308 = .ok (.aload_n 0, 1) := by decide +kernel
theorem dL_kept_309 : decode cL_kept 309 = .ok (.iload 11, 2) := by decide +kernel
theorem dL_kept_311 : decode cL_kept 311 = .ok (.iconst 5, 1) := by decide +kernel
theorem dL_kept_312 : decode cL_kept 312 = .ok (.invokestatic 104, 3) := by decide +kernel
theorem dL_kept_315 : decode cL_kept 315 = .ok (.aload_n 0, 1) := by decide +kernel
theorem dL_kept_316 : decode cL_kept 316 = .ok (.iload 8, 2) := by decide +kernel
theorem dL_kept_318 : decode cL_kept 318 = .ok (.iconst 5, 1) := by decide +kernel
theorem dL_kept_319 : decode cL_kept 319 = .ok (.invokestatic 104, 3) := by decide +kernel
theorem dL_kept_322 : decode cL_kept 322 = .ok (.lcmp, 1) := by decide +kernel
theorem dL_kept_323 : decode cL_kept 323 = .ok (.ifCond .ge 7, 3) := by decide +kernel
theorem dL_kept_326 : decode cL_kept 326 = .ok (.iconst 1, 1) := by decide +kernel
theorem dL_kept_327 : decode cL_kept 327 = .ok (.goto 4, 3) := by decide +kernel
theorem dL_kept_330 : decode cL_kept 330 = .ok (.iconst 0, 1) := by decide +kernel
theorem dL_kept_331 : decode cL_kept 331 = .ok (.iadd, 1) := by decide +kernel
theorem dL_kept_332 : decode cL_kept 332 = .ok (.istore 10, 2) := by decide +kernel
theorem dL_kept_334 : decode cL_kept 334 = .ok (.iload 8, 2) := by decide +kernel
theorem dL_kept_336 : decode cL_kept 336 = .ok (.iload 11, 2) := by decide +kernel
theorem dL_kept_338 : decode cL_kept 338 = .ok (.if_icmp .eq 14, 3) := by decide +kernel
theorem dL_kept_341 : decode cL_kept 341 = .ok (.aload_n 0, 1) := by decide +kernel
theorem dL_kept_342 : decode cL_kept 342 = .ok (.iload 8, 2) := by decide +kernel
theorem dL_kept_344 : decode cL_kept 344 = .ok (.iload 11, 2) := by decide +kernel
theorem dL_kept_346 : decode cL_kept 346 = .ok (.invokestatic 178, 3) := by decide +kernel
theorem dL_kept_349 : decode cL_kept 349 = .ok (.ifCond .ne 7, 3) := by decide +kernel
theorem dL_kept_352 : decode cL_kept 352 = .ok (.iconst 1, 1) := by decide +kernel
theorem dL_kept_353 : decode cL_kept 353 = .ok (.goto 4, 3) := by decide +kernel
theorem dL_kept_356 : decode cL_kept 356 = .ok (.iconst 0, 1) := by decide +kernel
theorem dL_kept_357 : decode cL_kept 357 = .ok (.istore_n 3, 1) := by decide +kernel
theorem dL_kept_358 : decode cL_kept 358 = .ok (.iinc 11 1, 3) := by decide +kernel
theorem dL_kept_361 : decode cL_kept 361 = .ok (.goto (-95), 3) := by decide +kernel
theorem dL_kept_364 : decode cL_kept 364 = .ok (.aload_n 0, 1) := by decide +kernel
theorem dL_kept_365 : decode cL_kept 365 = .ok (.iload 8, 2) := by decide +kernel
theorem dL_kept_367 : decode cL_kept 367 = .ok (.iconst 4, 1) := by decide +kernel
theorem dL_kept_368 : decode cL_kept 368 = .ok (.invokestatic 104, 3) := by decide +kernel
theorem dL_kept_371 : decode cL_kept 371 = .ok (.lstore 11, 2) := by decide +kernel
theorem dL_kept_373 : decode cL_kept 373 = .ok (.aload_n 0, 1) := by decide +kernel
theorem dL_kept_374 : decode cL_kept 374 = .ok (.iload 8, 2) := by decide +kernel
theorem dL_kept_376 : decode cL_kept 376 = .ok (.iconst 3, 1) := by decide +kernel
theorem dL_kept_377 : decode cL_kept 377 = .ok (.invokestatic 104, 3) := by decide +kernel
theorem dL_kept_380 : decode cL_kept 380 = .ok (.lstore 13, 2) := by decide +kernel
theorem dL_kept_382 : decode cL_kept 382 = .ok (.iload 4, 2) := by decide +kernel
theorem dL_kept_384 : decode cL_kept 384 = .ok (.lload 11, 2) := by decide +kernel
theorem dL_kept_386 : decode cL_kept 386 = .ok (.lconst 0, 1) := by decide +kernel
theorem dL_kept_387 : decode cL_kept 387 = .ok (.lcmp, 1) := by decide +kernel
theorem dL_kept_388 : decode cL_kept 388 = .ok (.ifCond .le 7, 3) := by decide +kernel
theorem dL_kept_391 : decode cL_kept 391 = .ok (.iconst 1, 1) := by decide +kernel
theorem dL_kept_392 : decode cL_kept 392 = .ok (.goto 4, 3) := by decide +kernel
theorem dL_kept_395 : decode cL_kept 395 = .ok (.iconst 0, 1) := by decide +kernel
theorem dL_kept_396 : decode cL_kept 396 = .ok (.iadd, 1) := by decide +kernel
theorem dL_kept_397 : decode cL_kept 397 = .ok (.istore 4, 2) := by decide +kernel
theorem dL_kept_399 : decode cL_kept 399 = .ok (.iload 5, 2) := by decide +kernel
theorem dL_kept_401 : decode cL_kept 401 = .ok (.lload 11, 2) := by decide +kernel
theorem dL_kept_403 : decode cL_kept 403 = .ok (.ldc2_w 181, 3) := by decide +kernel
theorem dL_kept_406 : decode cL_kept 406 = .ok (.lcmp, 1) := by decide +kernel
theorem dL_kept_407 : decode cL_kept 407 = .ok (.ifCond .ge 7, 3) := by decide +kernel
theorem dL_kept_410 : decode cL_kept 410 = .ok (.iconst 1, 1) := by decide +kernel
theorem dL_kept_411 : decode cL_kept 411 = .ok (.goto 4, 3) := by decide +kernel
theorem dL_kept_414 : decode cL_kept 414 = .ok (.iconst 0, 1) := by decide +kernel
theorem dL_kept_415 : decode cL_kept 415 = .ok (.iadd, 1) := by decide +kernel
theorem dL_kept_416 : decode cL_kept 416 = .ok (.istore 5, 2) := by decide +kernel
theorem dL_kept_418 : decode cL_kept 418 = .ok (.lload 13, 2) := by decide +kernel
theorem dL_kept_420 : decode cL_kept 420 = .ok (.lload 6, 2) := by decide +kernel
theorem dL_kept_422 : decode cL_kept 422 = .ok (.lcmp, 1) := by decide +kernel
theorem dL_kept_423 : decode cL_kept 423 = .ok (.ifCond .le 8, 3) := by decide +kernel
theorem dL_kept_426 : decode cL_kept 426 = .ok (.lload 13, 2) := by decide +kernel
theorem dL_kept_428 : decode cL_kept 428 = .ok (.goto 5, 3) := by decide +kernel
theorem dL_kept_431 : decode cL_kept 431 = .ok (.lload 6, 2) := by decide +kernel
theorem dL_kept_433 : decode cL_kept 433 = .ok (.lstore 6, 2) := by decide +kernel
theorem dL_kept_435 : decode cL_kept 435 = .ok (.iload_n 3, 1) := by decide +kernel
theorem dL_kept_436 : decode cL_kept 436 = .ok (.ifCond .eq 180, 3) := by decide +kernel
theorem dL_kept_439 : decode cL_kept 439 = .ok (.aload_n 0, 1) := by decide +kernel
theorem dL_kept_440 : decode cL_kept 440 = .ok (.iload 8, 2) := by decide +kernel
theorem dL_kept_442 : decode cL_kept 442 = .ok (.bipush 6, 2) := by decide +kernel
theorem dL_kept_444 : decode cL_kept 444 = .ok (.invokestatic 104, 3) := by decide +kernel
theorem dL_kept_447 : decode cL_kept 447 = .ok (.iload 9, 2) := by decide +kernel
theorem dL_kept_449 : decode cL_kept 449 = .ok (.i2l, 1) := by decide +kernel
theorem dL_kept_450 : decode cL_kept 450 = .ok (.lcmp, 1) := by decide +kernel
theorem dL_kept_451 : decode cL_kept 451 = .ok (.ifCond .ne 165, 3) := by decide +kernel
theorem dL_kept_454 : decode cL_kept 454 = .ok (.lload 11, 2) := by decide +kernel
theorem dL_kept_456 : decode cL_kept 456 = .ok (.iload 9, 2) := by decide +kernel
theorem dL_kept_458 : decode cL_kept 458 = .ok (.iconst 1, 1) := by decide +kernel
theorem dL_kept_459 : decode cL_kept 459 = .ok (.if_icmp .le 9, 3) := by decide +kernel
theorem dL_kept_462 : decode cL_kept 462 = .ok (.iload 10, 2) := by decide +kernel
theorem dL_kept_464 : decode cL_kept 464 = .ok (.i2l, 1) := by decide +kernel
theorem dL_kept_465 : decode cL_kept 465 = .ok (.goto 4, 3) := by decide +kernel
theorem dL_kept_468 : decode cL_kept 468 = .ok (.lconst 0, 1) := by decide +kernel
theorem dL_kept_469 : decode cL_kept 469 = .ok (.lcmp, 1) := by decide +kernel
theorem dL_kept_470 : decode cL_kept 470 = .ok (.ifCond .ne 146, 3) := by decide +kernel
theorem dL_kept_473 : decode cL_kept 473 = .ok (.lload 11, 2) := by decide +kernel
theorem dL_kept_475 : decode cL_kept 475 = .ok (.lconst 0, 1) := by decide +kernel
theorem dL_kept_476 : decode cL_kept 476 = .ok (.lcmp, 1) := by decide +kernel
theorem dL_kept_477 : decode cL_kept 477 = .ok (.ifCond .eq 26, 3) := by decide +kernel
theorem dL_kept_480 : decode cL_kept 480 = .ok (.aload_n 0, 1) := by decide +kernel
theorem dL_kept_481 : decode cL_kept 481 = .ok (.iload 8, 2) := by decide +kernel
theorem dL_kept_483 : decode cL_kept 483 = .ok (.lload 13, 2) := by decide +kernel
theorem dL_kept_485 : decode cL_kept 485 = .ok (.l2i, 1) := by decide +kernel
theorem dL_kept_486 : decode cL_kept 486 = .ok (.iconst 1, 1) := by decide +kernel
theorem dL_kept_487 : decode cL_kept 487 = .ok (.isub, 1) := by decide +kernel
theorem dL_kept_488 : decode cL_kept 488 = .ok (.invokestatic 107, 3) := by decide +kernel
theorem dL_kept_491 : decode cL_kept 491 = .ok (.ldc2_w 183, 3) := by decide +kernel
theorem dL_kept_494 : decode cL_kept 494 = .ok (.lload 11, 2) := by decide +kernel
theorem dL_kept_496 : decode cL_kept 496 = .ok (.ladd, 1) := by decide +kernel
theorem dL_kept_497 : decode cL_kept 497 = .ok (.lconst 1, 1) := by decide +kernel
theorem dL_kept_498 : decode cL_kept 498 = .ok (.lsub, 1) := by decide +kernel
theorem dL_kept_499 : decode cL_kept 499 = .ok (.lcmp, 1) := by decide +kernel
theorem dL_kept_500 : decode cL_kept 500 = .ok (.ifCond .ne 116, 3) := by decide +kernel
theorem dL_kept_503 : decode cL_kept 503 = .ok (.aload_n 0, 1) := by decide +kernel
theorem dL_kept_504 : decode cL_kept 504 = .ok (.iload 8, 2) := by decide +kernel
theorem dL_kept_506 : decode cL_kept 506 = .ok (.lload 13, 2) := by decide +kernel
theorem dL_kept_508 : decode cL_kept 508 = .ok (.l2i, 1) := by decide +kernel
theorem dL_kept_509 : decode cL_kept 509 = .ok (.invokestatic 107, 3) := by decide +kernel
theorem dL_kept_512 : decode cL_kept 512 = .ok (.ldc2_w 168, 3) := by decide +kernel
theorem dL_kept_515 : decode cL_kept 515 = .ok (.lcmp, 1) := by decide +kernel
theorem dL_kept_516 : decode cL_kept 516 = .ok (.ifCond .ne 100, 3) := by decide +kernel
theorem dL_kept_519 : decode cL_kept 519 = .ok (.aload_n 0, 1) := by decide +kernel
theorem dL_kept_520 : decode cL_kept 520 = .ok (.iload 8, 2) := by decide +kernel
theorem dL_kept_522 : decode cL_kept 522 = .ok (.iconst 0, 1) := by decide +kernel
theorem dL_kept_523 : decode cL_kept 523 = .ok (.invokestatic 107, 3) := by decide +kernel
theorem dL_kept_526 : decode cL_kept 526 = .ok (.aload_n 0, 1) := by decide +kernel
theorem dL_kept_527 : decode cL_kept 527 = .ok (.iload 8, 2) := by decide +kernel
theorem dL_kept_529 : decode cL_kept 529 = .ok (.iconst 0, 1) := by decide +kernel
theorem dL_kept_530 : decode cL_kept 530 = .ok (.iconst 0, 1) := by decide +kernel
theorem dL_kept_531 : decode cL_kept 531 = .ok (.invokestatic 109, 3) := by decide +kernel
theorem dL_kept_534 : decode cL_kept 534 = .ok (.lcmp, 1) := by decide +kernel
theorem dL_kept_535 : decode cL_kept 535 = .ok (.ifCond .ne 81, 3) := by decide +kernel
theorem dL_kept_538 : decode cL_kept 538 = .ok (.lload 13, 2) := by decide +kernel
theorem dL_kept_540 : decode cL_kept 540 = .ok (.ldc2_w 185, 3) := by decide +kernel
theorem dL_kept_543 : decode cL_kept 543 = .ok (.ldc2_w 187, 3) := by decide +kernel
theorem dL_kept_546 : decode cL_kept 546 = .ok (.invokestatic 164, 3) := by decide +kernel
theorem dL_kept_549 : decode cL_kept 549 = .ok (.ifCond .eq 67, 3) := by decide +kernel
theorem dL_kept_552 : decode cL_kept 552 = .ok (.aload_n 0, 1) := by decide +kernel
theorem dL_kept_553 : decode cL_kept 553 = .ok (.iload 8, 2) := by decide +kernel
theorem dL_kept_555 : decode cL_kept 555 = .ok (.iconst 0, 1) := by decide +kernel
theorem dL_kept_556 : decode cL_kept 556 = .ok (.invokestatic 104, 3) := by decide +kernel
theorem dL_kept_559 : decode cL_kept 559 = .ok (.ldc2_w 189, 3) := by decide +kernel
theorem dL_kept_562 : decode cL_kept 562 = .ok (.ldc2_w 191, 3) := by decide +kernel
theorem dL_kept_565 : decode cL_kept 565 = .ok (.invokestatic 164, 3) := by decide +kernel
theorem dL_kept_568 : decode cL_kept 568 = .ok (.ifCond .eq 48, 3) := by decide +kernel
theorem dL_kept_571 : decode cL_kept 571 = .ok (.aload_n 0, 1) := by decide +kernel
theorem dL_kept_572 : decode cL_kept 572 = .ok (.iload 8, 2) := by decide +kernel
theorem dL_kept_574 : decode cL_kept 574 = .ok (.lload 13, 2) := by decide +kernel
theorem dL_kept_576 : decode cL_kept 576 = .ok (.l2i, 1) := by decide +kernel
theorem dL_kept_577 : decode cL_kept 577 = .ok (.lload 11, 2) := by decide +kernel
theorem dL_kept_579 : decode cL_kept 579 = .ok (.lconst 0, 1) := by decide +kernel
theorem dL_kept_580 : decode cL_kept 580 = .ok (.lcmp, 1) := by decide +kernel
theorem dL_kept_581 : decode cL_kept 581 = .ok (.ifCond .le 7, 3) := by decide +kernel
theorem dL_kept_584 : decode cL_kept 584 = .ok (.iconst 2, 1) := by decide +kernel
theorem dL_kept_585 : decode cL_kept 585 = .ok (.goto 4, 3) := by decide +kernel
theorem dL_kept_588 : decode cL_kept 588 = .ok (.iconst 1, 1) := by decide +kernel
theorem dL_kept_589 : decode cL_kept 589 = .ok (.isub, 1) := by decide +kernel
theorem dL_kept_590 : decode cL_kept 590 = .ok (.invokestatic 107, 3) := by decide +kernel
theorem dL_kept_593 : decode cL_kept 593 = .ok (.ldc2_w 193, 3) := by decide +kernel
theorem dL_kept_596 : decode cL_kept 596 = .ok (.aload_n 0, 1) := by decide +kernel
theorem dL_kept_597 : decode cL_kept 597 = .ok (.iload 8, 2) := by decide +kernel
theorem dL_kept_599 : decode cL_kept 599 = .ok (.iconst 0, 1) := by decide +kernel
theorem dL_kept_600 : decode cL_kept 600 = .ok (.invokestatic 104, 3) := by decide +kernel
theorem dL_kept_603 : decode cL_kept 603 = .ok (.ldc2_w 195, 3) := by decide +kernel
theorem dL_kept_606 : decode cL_kept 606 = .ok (.lrem, 1) := by decide +kernel
theorem dL_kept_607 : decode cL_kept 607 = .ok (.ladd, 1) := by decide +kernel
theorem dL_kept_608 : decode cL_kept 608 = .ok (.lcmp, 1) := by decide +kernel
theorem dL_kept_609 : decode cL_kept 609 = .ok (.ifCond .ne 7, 3) := by decide +kernel
theorem dL_kept_612 : decode cL_kept 612 = .ok (.iconst 1, 1) := by decide +kernel
theorem dL_kept_613 : decode cL_kept 613 = .ok (.goto 4, 3) := by decide +kernel
theorem dL_kept_616 : decode cL_kept 616 = .ok (.iconst 0, 1) := by decide +kernel
theorem dL_kept_617 : decode cL_kept 617 = .ok (.istore_n 3, 1) := by decide +kernel
theorem dL_kept_618 : decode cL_kept 618 = .ok (.iinc 8 1, 3) := by decide +kernel
theorem dL_kept_621 : decode cL_kept 621 = .ok (.goto (-374), 3) := by decide +kernel
theorem dL_kept_624 : decode cL_kept 624 = .ok (.iload_n 3, 1) := by decide +kernel
theorem dL_kept_625 : decode cL_kept 625 = .ok (.ifCond .eq 165, 3) := by decide +kernel
theorem dL_kept_628 : decode cL_kept 628 = .ok (.aload_n 0, 1) := by decide +kernel
theorem dL_kept_629 : decode cL_kept 629 = .ok (.iconst 3, 1) := by decide +kernel
theorem dL_kept_630 : decode cL_kept 630 = .ok (.invokestatic 99, 3) := by decide +kernel
theorem dL_kept_633 : decode cL_kept 633 = .ok (.iload 4, 2) := by decide +kernel
theorem dL_kept_635 : decode cL_kept 635 = .ok (.i2l, 1) := by decide +kernel
theorem dL_kept_636 : decode cL_kept 636 = .ok (.lcmp, 1) := by decide +kernel
theorem dL_kept_637 : decode cL_kept 637 = .ok (.ifCond .ne 153, 3) := by decide +kernel
theorem dL_kept_640 : decode cL_kept 640 = .ok (.aload_n 0, 1) := by decide +kernel
theorem dL_kept_641 : decode cL_kept 641 = .ok (.iconst 4, 1) := by decide +kernel
theorem dL_kept_642 : decode cL_kept 642 = .ok (.invokestatic 99, 3) := by decide +kernel
theorem dL_kept_645 : decode cL_kept 645 = .ok (.iload 5, 2) := by decide +kernel
theorem dL_kept_647 : decode cL_kept 647 = .ok (.i2l, 1) := by decide +kernel
theorem dL_kept_648 : decode cL_kept 648 = .ok (.lcmp, 1) := by decide +kernel
theorem dL_kept_649 : decode cL_kept 649 = .ok (.ifCond .ne 141, 3) := by decide +kernel
theorem dL_kept_652 : decode cL_kept 652 = .ok (.aload_n 0, 1) := by decide +kernel
theorem dL_kept_653 : decode cL_kept 653 = .ok (.iconst 5, 1) := by decide +kernel
theorem dL_kept_654 : decode cL_kept 654 = .ok (.invokestatic 99, 3) := by decide +kernel
theorem dL_kept_657 : decode cL_kept 657 = .ok (.lload 6, 2) := by decide +kernel
theorem dL_kept_659 : decode cL_kept 659 = .ok (.lcmp, 1) := by decide +kernel
theorem dL_kept_660 : decode cL_kept 660 = .ok (.ifCond .ne 130, 3) := by decide +kernel
theorem dL_kept_663 : decode cL_kept 663 = .ok (.aload_n 0, 1) := by decide +kernel
theorem dL_kept_664 : decode cL_kept 664 = .ok (.iconst 0, 1) := by decide +kernel
theorem dL_kept_665 : decode cL_kept 665 = .ok (.invokestatic 112, 3) := by decide +kernel
theorem dL_kept_668 : decode cL_kept 668 = .ok (.aload_n 0, 1) := by decide +kernel
theorem dL_kept_669 : decode cL_kept 669 = .ok (.iconst 1, 1) := by decide +kernel
theorem dL_kept_670 : decode cL_kept 670 = .ok (.invokestatic 112, 3) := by decide +kernel
theorem dL_kept_673 : decode cL_kept 673 = .ok (.ladd, 1) := by decide +kernel
theorem dL_kept_674 : decode cL_kept 674 = .ok (.aload_n 0, 1) := by decide +kernel
theorem dL_kept_675 : decode cL_kept 675 = .ok (.iconst 2, 1) := by decide +kernel
theorem dL_kept_676 : decode cL_kept 676 = .ok (.invokestatic 112, 3) := by decide +kernel
theorem dL_kept_679 : decode cL_kept 679 = .ok (.ladd, 1) := by decide +kernel
theorem dL_kept_680 : decode cL_kept 680 = .ok (.aload_n 0, 1) := by decide +kernel
theorem dL_kept_681 : decode cL_kept 681 = .ok (.bipush 6, 2) := by decide +kernel
theorem dL_kept_683 : decode cL_kept 683 = .ok (.invokestatic 99, 3) := by decide +kernel
theorem dL_kept_686 : decode cL_kept 686 = .ok (.lcmp, 1) := by decide +kernel
theorem dL_kept_687 : decode cL_kept 687 = .ok (.ifCond .ne 103, 3) := by decide +kernel
theorem dL_kept_690 : decode cL_kept 690 = .ok (.aload_n 0, 1) := by decide +kernel
theorem dL_kept_691 : decode cL_kept 691 = .ok (.bipush 7, 2) := by decide +kernel
theorem dL_kept_693 : decode cL_kept 693 = .ok (.invokestatic 99, 3) := by decide +kernel
theorem dL_kept_696 : decode cL_kept 696 = .ok (.aload_n 0, 1) := by decide +kernel
theorem dL_kept_697 : decode cL_kept 697 = .ok (.bipush 6, 2) := by decide +kernel
theorem dL_kept_699 : decode cL_kept 699 = .ok (.invokestatic 99, 3) := by decide +kernel
theorem dL_kept_702 : decode cL_kept 702 = .ok (.lcmp, 1) := by decide +kernel
theorem dL_kept_703 : decode cL_kept 703 = .ok (.ifCond .gt 87, 3) := by decide +kernel
theorem dL_kept_706 : decode cL_kept 706 = .ok (.aload_n 0, 1) := by decide +kernel
theorem dL_kept_707 : decode cL_kept 707 = .ok (.iconst 2, 1) := by decide +kernel
theorem dL_kept_708 : decode cL_kept 708 = .ok (.invokestatic 112, 3) := by decide +kernel
theorem dL_kept_711 : decode cL_kept 711 = .ok (.aload_n 0, 1) := by decide +kernel
theorem dL_kept_712 : decode cL_kept 712 = .ok (.bipush 6, 2) := by decide +kernel
theorem dL_kept_714 : decode cL_kept 714 = .ok (.invokestatic 99, 3) := by decide +kernel
theorem dL_kept_717 : decode cL_kept 717 = .ok (.aload_n 0, 1) := by decide +kernel
theorem dL_kept_718 : decode cL_kept 718 = .ok (.bipush 7, 2) := by decide +kernel
theorem dL_kept_720 : decode cL_kept 720 = .ok (.invokestatic 99, 3) := by decide +kernel
theorem dL_kept_723 : decode cL_kept 723 = .ok (.lsub, 1) := by decide +kernel
theorem dL_kept_724 : decode cL_kept 724 = .ok (.lcmp, 1) := by decide +kernel
theorem dL_kept_725 : decode cL_kept 725 = .ok (.ifCond .gt 65, 3) := by decide +kernel
theorem dL_kept_728 : decode cL_kept 728 = .ok (.aload_n 0, 1) := by decide +kernel
theorem dL_kept_729 : decode cL_kept 729 = .ok (.aload_n 0, 1) := by decide +kernel
theorem dL_kept_730 : decode cL_kept 730 = .ok (.iconst 1, 1) := by decide +kernel
theorem dL_kept_731 : decode cL_kept 731 = .ok (.invokestatic 99, 3) := by decide +kernel
theorem dL_kept_734 : decode cL_kept 734 = .ok (.l2i, 1) := by decide +kernel
theorem dL_kept_735 : decode cL_kept 735 = .ok (.invokestatic 134, 3) := by decide +kernel
theorem dL_kept_738 : decode cL_kept 738 = .ok (.iload 4, 2) := by decide +kernel
theorem dL_kept_740 : decode cL_kept 740 = .ok (.i2l, 1) := by decide +kernel
theorem dL_kept_741 : decode cL_kept 741 = .ok (.lcmp, 1) := by decide +kernel
theorem dL_kept_742 : decode cL_kept 742 = .ok (.ifCond .ne 48, 3) := by decide +kernel
theorem dL_kept_745 : decode cL_kept 745 = .ok (.aload_n 0, 1) := by decide +kernel
theorem dL_kept_746 : decode cL_kept 746 = .ok (.aload_n 0, 1) := by decide +kernel
theorem dL_kept_747 : decode cL_kept 747 = .ok (.invokevirtual 197, 3) := by decide +kernel
theorem dL_kept_750 : decode cL_kept 750 = .ok (.invokestatic 134, 3) := by decide +kernel
theorem dL_kept_753 : decode cL_kept 753 = .ok (.iload 4, 2) := by decide +kernel
theorem dL_kept_755 : decode cL_kept 755 = .ok (.i2l, 1) := by decide +kernel
theorem dL_kept_756 : decode cL_kept 756 = .ok (.lcmp, 1) := by decide +kernel
theorem dL_kept_757 : decode cL_kept 757 = .ok (.ifCond .gt 33, 3) := by decide +kernel
theorem dL_kept_760 : decode cL_kept 760 = .ok (.iload_n 1, 1) := by decide +kernel
theorem dL_kept_761 : decode cL_kept 761 = .ok (.ifCond .ne 7, 3) := by decide +kernel
theorem dL_kept_764 : decode cL_kept 764 = .ok (.iconst 1, 1) := by decide +kernel
theorem dL_kept_765 : decode cL_kept 765 = .ok (.goto 4, 3) := by decide +kernel
theorem dL_kept_768 : decode cL_kept 768 = .ok (.iconst 0, 1) := by decide +kernel
theorem dL_kept_769 : decode cL_kept 769 = .ok (.aload_n 0, 1) := by decide +kernel
theorem dL_kept_770 : decode cL_kept 770 = .ok (.invokevirtual 200, 3) := by decide +kernel
theorem dL_kept_773 : decode cL_kept 773 = .ok (.bipush (-9), 2) := by decide +kernel
theorem dL_kept_775 : decode cL_kept 775 = .ok (.if_icmp .ne 7, 3) := by decide +kernel
theorem dL_kept_778 : decode cL_kept 778 = .ok (.iconst 1, 1) := by decide +kernel
theorem dL_kept_779 : decode cL_kept 779 = .ok (.goto 4, 3) := by decide +kernel
theorem dL_kept_782 : decode cL_kept 782 = .ok (.iconst 0, 1) := by decide +kernel
theorem dL_kept_783 : decode cL_kept 783 = .ok (.if_icmp .ne 7, 3) := by decide +kernel
theorem dL_kept_786 : decode cL_kept 786 = .ok (.iconst 1, 1) := by decide +kernel
theorem dL_kept_787 : decode cL_kept 787 = .ok (.goto 4, 3) := by decide +kernel
theorem dL_kept_790 : decode cL_kept 790 = .ok (.iconst 0, 1) := by decide +kernel
theorem dL_kept_791 : decode cL_kept 791 = .ok (.ireturn, 1) := by decide +kernel
theorem dL_follows_0 : decode cL_follows 0 = .ok (.aload_n 0, 1) := by decide +kernel
theorem dL_follows_1 : decode cL_follows 1 = .ok (.invokestatic 114, 3) := by decide +kernel
theorem dL_follows_4 : decode cL_follows 4 = .ok (.lstore_n 2, 1) := by decide +kernel
theorem dL_follows_5 : decode cL_follows 5 = .ok (.aload_n 0, 1) := by decide +kernel
theorem dL_follows_6 : decode cL_follows 6 = .ok (.iconst 0, 1) := by decide +kernel
theorem dL_follows_7 : decode cL_follows 7 = .ok (.invokestatic 99, 3) := by decide +kernel
theorem dL_follows_10 : decode cL_follows 10 = .ok (.l2i, 1) := by decide +kernel
theorem dL_follows_11 : decode cL_follows 11 = .ok (.istore 4, 2) := by decide +kernel
theorem dL_follows_13 : decode cL_follows 13 = .ok (.aload_n 0, 1) := by decide +kernel
theorem dL_follows_14 : decode cL_follows 14 = .ok (.iconst 1, 1) := by decide +kernel
theorem dL_follows_15 : decode cL_follows 15 = .ok (.invokestatic 152, 3) := by decide +kernel
theorem dL_follows_18 : decode cL_follows 18 = .ok (.iload 4, 2) := by decide +kernel
theorem dL_follows_20 : decode cL_follows 20 = .ok (.i2l, 1) := by decide +kernel
theorem dL_follows_21 : decode cL_follows 21 = .ok (.lcmp, 1) := by decide +kernel
theorem dL_follows_22 : decode cL_follows 22 = .ok (.ifCond .ne 36, 3) := by decide +kernel
theorem dL_follows_25 : decode cL_follows 25 = .ok (.aload_n 0, 1) := by decide +kernel
theorem dL_follows_26 : decode cL_follows 26 = .ok (.iload_n 1, 1) := by decide +kernel
theorem dL_follows_27 : decode cL_follows 27 = .ok (.i2l, 1) := by decide +kernel
theorem dL_follows_28 : decode cL_follows 28 = .ok (.bipush 9, 2) := by decide +kernel
theorem dL_follows_30 : decode cL_follows 30 = .ok (.invokestatic 149, 3) := by decide +kernel
theorem dL_follows_33 : decode cL_follows 33 = .ok (.aload_n 0, 1) := by decide +kernel
theorem dL_follows_34 : decode cL_follows 34 = .ok (.iload_n 1, 1) := by decide +kernel
theorem dL_follows_35 : decode cL_follows 35 = .ok (.i2l, 1) := by decide +kernel
theorem dL_follows_36 : decode cL_follows 36 = .ok (.bipush 9, 2) := by decide +kernel
theorem dL_follows_38 : decode cL_follows 38 = .ok (.invokestatic 149, 3) := by decide +kernel
theorem dL_follows_41 : decode cL_follows 41 = .ok (.lcmp, 1) := by decide +kernel
theorem dL_follows_42 : decode cL_follows 42 = .ok (.ifCond .ne 16, 3) := by decide +kernel
theorem dL_follows_45 : decode cL_follows 45 = .ok (.aload_n 0, 1) := by decide +kernel
theorem dL_follows_46 : decode cL_follows 46 = .ok (.invokestatic 114, 3) := by decide +kernel
theorem dL_follows_49 : decode cL_follows 49 = .ok (.lload_n 2, 1) := by decide +kernel
theorem dL_follows_50 : decode cL_follows 50 = .ok (.lcmp, 1) := by decide +kernel
theorem dL_follows_51 : decode cL_follows 51 = .ok (.ifCond .ne 7, 3) := by decide +kernel
theorem dL_follows_54 : decode cL_follows 54 = .ok (.iconst 1, 1) := by decide +kernel
theorem dL_follows_55 : decode cL_follows 55 = .ok (.goto 4, 3) := by decide +kernel
theorem dL_follows_58 : decode cL_follows 58 = .ok (.iconst 0, 1) := by decide +kernel
theorem dL_follows_59 : decode cL_follows 59 = .ok (.istore 5, 2) := by decide +kernel
theorem dL_follows_61 : decode cL_follows 61 = .ok (.aload_n 0, 1) := by decide +kernel
theorem dL_follows_62 : decode cL_follows 62 = .ok (.invokevirtual 197, 3) := by decide +kernel
theorem dL_follows_65 : decode cL_follows 65 = .ok (.istore 6, 2) := by decide +kernel
theorem dL_follows_67 : decode cL_follows 67 = .ok (.aload_n 0, 1) := by decide +kernel
theorem dL_follows_68 : decode cL_follows 68 = .ok (.iload 6, 2) := by decide +kernel
theorem dL_follows_70 : decode cL_follows 70 = .ok (.invokestatic 134, 3) := by decide +kernel
theorem dL_follows_73 : decode cL_follows 73 = .ok (.lstore 7, 2) := by decide +kernel
theorem dL_follows_75 : decode cL_follows 75 = .ok (.iconst 0, 1) := by decide +kernel
theorem dL_follows_76 : decode cL_follows 76 = .ok (.istore 9, 2) := by decide +kernel
theorem dL_follows_78 : decode cL_follows 78 = .ok (.iload 9, 2) := by decide +kernel
theorem dL_follows_80 : decode cL_follows 80 = .ok (.iconst 4, 1) := by decide +kernel
theorem dL_follows_81 : decode cL_follows 81 = .ok (.if_icmp .ge 68, 3) := by decide +kernel
theorem dL_follows_84 : decode cL_follows 84 = .ok (.iload 5, 2) := by decide +kernel
theorem dL_follows_86 : decode cL_follows 86 = .ok (.ifCond .eq 63, 3) := by decide +kernel
theorem dL_follows_89 : decode cL_follows 89 = .ok (.aload_n 0, 1) := by decide +kernel
theorem dL_follows_90 : decode cL_follows 90 = .ok (.iload 9, 2) := by decide +kernel
theorem dL_follows_92 : decode cL_follows 92 = .ok (.invokestatic 134, 3) := by decide +kernel
theorem dL_follows_95 : decode cL_follows 95 = .ok (.lload 7, 2) := by decide +kernel
theorem dL_follows_97 : decode cL_follows 97 = .ok (.lcmp, 1) := by decide +kernel
theorem dL_follows_98 : decode cL_follows 98 = .ok (.ifCond .lt 42, 3) := by decide +kernel
theorem dL_follows_101 : decode cL_follows 101 = .ok (.aload_n 0, 1) := by decide +kernel
theorem dL_follows_102 : decode cL_follows 102 = .ok (.iload 9, 2) := by decide +kernel
theorem dL_follows_104 : decode cL_follows 104 = .ok (.invokestatic 126, 3) := by decide +kernel
theorem dL_follows_107 : decode cL_follows 107 = .ok (.lconst 0, 1) := by decide +kernel
theorem dL_follows_108 : decode cL_follows 108 = .ok (.lcmp, 1) := by decide +kernel
theorem dL_follows_109 : decode cL_follows 109 = .ok (.ifCond .lt 31, 3) := by decide +kernel
theorem dL_follows_112 : decode cL_follows 112 = .ok (.aload_n 0, 1) := by decide +kernel
theorem dL_follows_113 : decode cL_follows 113 = .ok (.iconst 3, 1) := by decide +kernel
theorem dL_follows_114 : decode cL_follows 114 = .ok (.invokestatic 99, 3) := by decide +kernel
theorem dL_follows_117 : decode cL_follows 117 = .ok (.aload_n 0, 1) := by decide +kernel
theorem dL_follows_118 : decode cL_follows 118 = .ok (.iload 9, 2) := by decide +kernel
theorem dL_follows_120 : decode cL_follows 120 = .ok (.invokestatic 134, 3) := by decide +kernel
theorem dL_follows_123 : decode cL_follows 123 = .ok (.lcmp, 1) := by decide +kernel
theorem dL_follows_124 : decode cL_follows 124 = .ok (.ifCond .ne 16, 3) := by decide +kernel
theorem dL_follows_127 : decode cL_follows 127 = .ok (.aload_n 0, 1) := by decide +kernel
theorem dL_follows_128 : decode cL_follows 128 = .ok (.invokestatic 203, 3) := by decide +kernel
theorem dL_follows_131 : decode cL_follows 131 = .ok (.lconst 0, 1) := by decide +kernel
theorem dL_follows_132 : decode cL_follows 132 = .ok (.lcmp, 1) := by decide +kernel
theorem dL_follows_133 : decode cL_follows 133 = .ok (.ifCond .lt 7, 3) := by decide +kernel
theorem dL_follows_136 : decode cL_follows 136 = .ok (.iconst 1, 1) := by decide +kernel
theorem dL_follows_137 : decode cL_follows 137 = .ok (.goto 4, 3) := by decide +kernel
theorem dL_follows_140 : decode cL_follows 140 = .ok (.iconst 0, 1) := by decide +kernel
theorem dL_follows_141 : decode cL_follows 141 = .ok (.istore 5, 2) := by decide +kernel
theorem dL_follows_143 : decode cL_follows 143 = .ok (.iinc 9 1, 3) := by decide +kernel
theorem dL_follows_146 : decode cL_follows 146 = .ok (.goto (-68), 3) := by decide +kernel
theorem dL_follows_149 : decode cL_follows 149 = .ok (.iload 5, 2) := by decide +kernel
theorem dL_follows_151 : decode cL_follows 151 = .ok (.ifCond .eq 16, 3) := by decide +kernel
theorem dL_follows_154 : decode cL_follows 154 = .ok (.aload_n 0, 1) := by decide +kernel
theorem dL_follows_155 : decode cL_follows 155 = .ok (.invokestatic 114, 3) := by decide +kernel
theorem dL_follows_158 : decode cL_follows 158 = .ok (.lload_n 2, 1) := by decide +kernel
theorem dL_follows_159 : decode cL_follows 159 = .ok (.lcmp, 1) := by decide +kernel
theorem dL_follows_160 : decode cL_follows 160 = .ok (.ifCond .ne 7, 3) := by decide +kernel
theorem dL_follows_163 : decode cL_follows 163 = .ok (.iconst 1, 1) := by decide +kernel
theorem dL_follows_164 : decode cL_follows 164 = .ok (.goto 4, 3) := by decide +kernel
theorem dL_follows_167 : decode cL_follows 167 = .ok (.iconst 0, 1) := by decide +kernel
theorem dL_follows_168 : decode cL_follows 168 = .ok (.istore 5, 2) := by decide +kernel
theorem dL_follows_170 : decode cL_follows 170 = .ok (.iload 4, 2) := by decide +kernel
theorem dL_follows_172 : decode cL_follows 172 = .ok (.ifCond .le 627, 3) := by decide +kernel
theorem dL_follows_175 : decode cL_follows 175 = .ok (.iload 5, 2) := by decide +kernel
theorem dL_follows_177 : decode cL_follows 177 = .ok (.ifCond .eq 622, 3) := by decide +kernel
theorem dL_follows_180 : decode cL_follows 180 = .ok (.iload_n 1, 1) := by decide +kernel
theorem dL_follows_181 : decode cL_follows 181 = .ok (.iload 4, 2) := by decide +kernel
theorem dL_follows_183 : decode cL_follows 183 = .ok (.irem, 1) := by decide +kernel
theorem dL_follows_184 : decode cL_follows 184 = .ok (.istore 9, 2) := by decide +kernel
theorem dL_follows_186 : decode cL_follows 186 = .ok (.aload_n 0, 1) := by decide +kernel
theorem dL_follows_187 : decode cL_follows 187 = .ok (.iload 9, 2) := by decide +kernel
theorem dL_follows_189 : decode cL_follows 189 = .ok (.invokestatic 130, 3) := by decide +kernel
theorem dL_follows_192 : decode cL_follows 192 = .ok (.lstore 10, 2) := by decide +kernel
theorem dL_follows_194 : decode cL_follows 194 = .ok (.aload_n 0, 1) := by decide +kernel
theorem dL_follows_195 : decode cL_follows 195 = .ok (.aload_n 0, 1) := by decide +kernel
theorem dL_follows_196 : decode cL_follows 196 = .ok (.invokevirtual 200, 3) := by decide +kernel
theorem dL_follows_199 : decode cL_follows 199 = .ok (.invokestatic 130, 3) := by decide +kernel
theorem dL_follows_202 : decode cL_follows 202 = .ok (.lstore 12, 2) := by decide +kernel
theorem dL_follows_204 : decode cL_follows 204 = .ok (.aload_n 0, 1) := by decide +kernel
theorem dL_follows_205 : decode cL_follows 205 = .ok (.iload 9, 2) := by decide +kernel
theorem dL_follows_207 : decode cL_follows 207 = .ok (.bipush 6, 2) := by decide +kernel
theorem dL_follows_209 : decode cL_follows 209 = .ok (.invokestatic 104, 3) := by decide +kernel
theorem dL_follows_212 : decode cL_follows 212 = .ok (.lstore 14, 2) := by decide +kernel
theorem dL_follows_214 : decode cL_follows 214 = .ok (.lload 10, 2) := by decide +kernel
theorem dL_follows_216 : decode cL_follows 216 = .ok (.lload 12, 2) := by decide +kernel
theorem dL_follows_218 : decode cL_follows 218 = .ok (.lcmp, 1) := by decide +kernel
theorem dL_follows_219 : decode cL_follows 219 = .ok (.ifCond .gt 70, 3) := by decide +kernel
theorem dL_follows_222 : decode cL_follows 222 = .ok (.lload 10, 2) := by decide +kernel
theorem dL_follows_224 : decode cL_follows 224 = .ok (.lload 14, 2) := by decide +kernel
theorem dL_follows_226 : decode cL_follows 226 = .ok (.lconst 1, 1) := by decide +kernel
theorem dL_follows_227 : decode cL_follows 227 = .ok (.lcmp, 1) := by decide +kernel
theorem dL_follows_228 : decode cL_follows 228 = .ok (.ifCond .le 8, 3) := by decide +kernel
theorem dL_follows_231 : decode cL_follows 231 = .ok (.lload 14, 2) := by decide +kernel
theorem dL_follows_233 : decode cL_follows 233 = .ok (.goto 4, 3) := by decide +kernel
theorem dL_follows_236 : decode cL_follows 236 = .ok (.lconst 1, 1) := by decide +kernel
theorem dL_follows_237 : decode cL_follows 237 = .ok (.lcmp, 1) := by decide +kernel
theorem dL_follows_238 : decode cL_follows 238 = .ok (.ifCond .ge 51, 3) := by decide +kernel
theorem dL_follows_241 : decode cL_follows 241 = .ok (.aload_n 0, 1) := by decide +kernel
theorem dL_follows_242 : decode cL_follows 242 = .ok (.iload 9, 2) := by decide +kernel
theorem dL_follows_244 : decode cL_follows 244 = .ok (.invokestatic 124, 3) := by decide +kernel
theorem dL_follows_247 : decode cL_follows 247 = .ok (.lload 10, 2) := by decide +kernel
theorem dL_follows_249 : decode cL_follows 249 = .ok (.lcmp, 1) := by decide +kernel
theorem dL_follows_250 : decode cL_follows 250 = .ok (.ifCond .ne 39, 3) := by decide +kernel
theorem dL_follows_253 : decode cL_follows 253 = .ok (.aload_n 0, 1) := by decide +kernel
theorem dL_follows_254 : decode cL_follows 254 = .ok (.iconst 0, 1) := by decide +kernel
theorem dL_follows_255 : decode cL_follows 255 = .ok (.invokestatic 99, 3) := by decide +kernel
theorem dL_follows_258 : decode cL_follows 258 = .ok (.iload 4, 2) := by decide +kernel
theorem dL_follows_260 : decode cL_follows 260 = .ok (.i2l, 1) := by decide +kernel
theorem dL_follows_261 : decode cL_follows 261 = .ok (.lconst 1, 1) := by decide +kernel
theorem dL_follows_262 : decode cL_follows 262 = .ok (.lsub, 1) := by decide +kernel
theorem dL_follows_263 : decode cL_follows 263 = .ok (.lcmp, 1) := by decide +kernel
theorem dL_follows_264 : decode cL_follows 264 = .ok (.ifCond .ne 25, 3) := by decide +kernel
theorem dL_follows_267 : decode cL_follows 267 = .ok (.aload_n 0, 1) := by decide +kernel
theorem dL_follows_268 : decode cL_follows 268 = .ok (.invokestatic 203, 3) := by decide +kernel
theorem dL_follows_271 : decode cL_follows 271 = .ok (.lconst 0, 1) := by decide +kernel
theorem dL_follows_272 : decode cL_follows 272 = .ok (.lcmp, 1) := by decide +kernel
theorem dL_follows_273 : decode cL_follows 273 = .ok (.ifCond .lt 16, 3) := by decide +kernel
theorem dL_follows_276 : decode cL_follows 276 = .ok (.aload_n 0, 1) := by decide +kernel
theorem dL_follows_277 : decode cL_follows 277 = .ok (.invokestatic 114, 3) := by decide +kernel
theorem dL_follows_280 : decode cL_follows 280 = .ok (.lload_n 2, 1) := by decide +kernel
theorem dL_follows_281 : decode cL_follows 281 = .ok (.lcmp, 1) := by decide +kernel
theorem dL_follows_282 : decode cL_follows 282 = .ok (.ifCond .ne 7, 3) := by decide +kernel
theorem dL_follows_285 : decode cL_follows 285 = .ok (.iconst 1, 1) := by decide +kernel
theorem dL_follows_286 : decode cL_follows 286 = .ok (.goto 4, 3) := by decide +kernel
theorem dL_follows_289 : decode cL_follows 289 = .ok (.iconst 0, 1) := by decide +kernel
theorem dL_follows_290 : decode cL_follows 290 = .ok (.istore 5, 2) := by decide +kernel
theorem dL_follows_292 : decode cL_follows 292 = .ok (.aload_n 0, 1) := by decide +kernel
theorem dL_follows_293 : decode cL_follows 293 = .ok (.iload 9, 2) := by decide +kernel
theorem dL_follows_295 : decode cL_follows 295 = .ok (.invokestatic 132, 3) := by decide +kernel
theorem dL_follows_298 : decode cL_follows 298 = .ok (.l2i, 1) := by decide +kernel
theorem dL_follows_299 : decode cL_follows 299 = .ok (.istore 16, 2) := by decide +kernel
theorem dL_follows_301 : decode cL_follows 301 = .ok (.aload_n 0, 1) := by decide +kernel
theorem dL_follows_302 : decode cL_follows 302 = .ok (.iload 9, 2) := by decide +kernel
theorem dL_follows_304 : decode cL_follows 304 = .ok (.iconst 0, 1) := by decide +kernel
theorem dL_follows_305 : decode cL_follows 305 = .ok (.invokestatic 104, 3) := by decide +kernel
theorem dL_follows_308 : decode cL_follows 308 = .ok (.l2i, 1) := by decide +kernel
theorem dL_follows_309 : decode cL_follows 309 = .ok (.istore 17, 2) := by decide +kernel
theorem dL_follows_311 : decode cL_follows 311 = .ok (.iload 5, 2) := by decide +kernel
theorem dL_follows_313 : decode cL_follows 313 = .ok (.ifCond .eq 105, 3) := by decide +kernel
theorem dL_follows_316 : decode cL_follows 316 = .ok (.iload 16, 2) := by decide +kernel
theorem dL_follows_318 : decode cL_follows 318 = .ok (.i2l, 1) := by decide +kernel
theorem dL_follows_319 : decode cL_follows 319 = .ok (.ldc2_w 189, 3) := by decide +kernel
theorem dL_follows_322 : decode cL_follows 322 = .ok (.ldc2_w 191, 3) := by decide +kernel
theorem dL_follows_325 : decode cL_follows 325 = .ok (.invokestatic 164, 3) := by decide +kernel
theorem dL_follows_328 : decode cL_follows 328 = .ok (.ifCond .eq 90, 3) := by decide +kernel
theorem dL_follows_331 : decode cL_follows 331 = .ok (.lload 14, 2) := by decide +kernel
theorem dL_follows_333 : decode cL_follows 333 = .ok (.lconst 1, 1) := by decide +kernel
theorem dL_follows_334 : decode cL_follows 334 = .ok (.lcmp, 1) := by decide +kernel
theorem dL_follows_335 : decode cL_follows 335 = .ok (.ifCond .le 7, 3) := by decide +kernel
theorem dL_follows_338 : decode cL_follows 338 = .ok (.iconst 1, 1) := by decide +kernel
theorem dL_follows_339 : decode cL_follows 339 = .ok (.goto 4, 3) := by decide +kernel
theorem dL_follows_342 : decode cL_follows 342 = .ok (.iconst 0, 1) := by decide +kernel
theorem dL_follows_343 : decode cL_follows 343 = .ok (.iload 16, 2) := by decide +kernel
theorem dL_follows_345 : decode cL_follows 345 = .ok (.iload 17, 2) := by decide +kernel
theorem dL_follows_347 : decode cL_follows 347 = .ok (.if_icmp .eq 7, 3) := by decide +kernel
theorem dL_follows_350 : decode cL_follows 350 = .ok (.iconst 1, 1) := by decide +kernel
theorem dL_follows_351 : decode cL_follows 351 = .ok (.goto 4, 3) := by decide +kernel
theorem dL_follows_354 : decode cL_follows 354 = .ok (.iconst 0, 1) := by decide +kernel
theorem dL_follows_355 : decode cL_follows 355 = .ok (.if_icmp .ne 63, 3) := by decide +kernel
theorem dL_follows_358 : decode cL_follows 358 = .ok (.aload_n 0, 1) := by decide +kernel
theorem dL_follows_359 : decode cL_follows 359 = .ok (.iload 9, 2) := by decide +kernel
theorem dL_follows_361 : decode cL_follows 361 = .ok (.iload 16, 2) := by decide +kernel
theorem dL_follows_363 : decode cL_follows 363 = .ok (.invokestatic 122, 3) := by decide +kernel
theorem dL_follows_366 : decode cL_follows 366 = .ok (.lconst 0, 1) := by decide +kernel
theorem dL_follows_367 : decode cL_follows 367 = .ok (.lcmp, 1) := by decide +kernel
theorem dL_follows_368 : decode cL_follows 368 = .ok (.ifCond .lt 50, 3) := by decide +kernel
theorem dL_follows_371 : decode cL_follows 371 = .ok (.aload_n 0, 1) := by decide +kernel
theorem dL_follows_372 : decode cL_follows 372 = .ok (.iload 9, 2) := by decide +kernel
theorem dL_follows_374 : decode cL_follows 374 = .ok (.bipush 6, 2) := by decide +kernel
theorem dL_follows_376 : decode cL_follows 376 = .ok (.invokestatic 104, 3) := by decide +kernel
theorem dL_follows_379 : decode cL_follows 379 = .ok (.lconst 1, 1) := by decide +kernel
theorem dL_follows_380 : decode cL_follows 380 = .ok (.lcmp, 1) := by decide +kernel
theorem dL_follows_381 : decode cL_follows 381 = .ok (.ifCond .ne 37, 3) := by decide +kernel
theorem dL_follows_384 : decode cL_follows 384 = .ok (.aload_n 0, 1) := by decide +kernel
theorem dL_follows_385 : decode cL_follows 385 = .ok (.iload 9, 2) := by decide +kernel
theorem dL_follows_387 : decode cL_follows 387 = .ok (.iconst 4, 1) := by decide +kernel
theorem dL_follows_388 : decode cL_follows 388 = .ok (.invokestatic 104, 3) := by decide +kernel
theorem dL_follows_391 : decode cL_follows 391 = .ok (.lconst 0, 1) := by decide +kernel
theorem dL_follows_392 : decode cL_follows 392 = .ok (.lcmp, 1) := by decide +kernel
theorem dL_follows_393 : decode cL_follows 393 = .ok (.ifCond .ne 25, 3) := by decide +kernel
theorem dL_follows_396 : decode cL_follows 396 = .ok (.aload_n 0, 1) := by decide +kernel
theorem dL_follows_397 : decode cL_follows 397 = .ok (.invokestatic 203, 3) := by decide +kernel
theorem dL_follows_400 : decode cL_follows 400 = .ok (.lconst 0, 1) := by decide +kernel
theorem dL_follows_401 : decode cL_follows 401 = .ok (.lcmp, 1) := by decide +kernel
theorem dL_follows_402 : decode cL_follows 402 = .ok (.ifCond .lt 16, 3) := by decide +kernel
theorem dL_follows_405 : decode cL_follows 405 = .ok (.aload_n 0, 1) := by decide +kernel
theorem dL_follows_406 : decode cL_follows 406 = .ok (.invokestatic 114, 3) := by decide +kernel
theorem dL_follows_409 : decode cL_follows 409 = .ok (.lload_n 2, 1) := by decide +kernel
theorem dL_follows_410 : decode cL_follows 410 = .ok (.lcmp, 1) := by decide +kernel
theorem dL_follows_411 : decode cL_follows 411 = .ok (.ifCond .ne 7, 3) := by decide +kernel
theorem dL_follows_414 : decode cL_follows 414 = .ok (.iconst 1, 1) := by decide +kernel
theorem dL_follows_415 : decode cL_follows 415 = .ok (.goto 4, 3) := by decide +kernel
theorem dL_follows_418 : decode cL_follows 418 = .ok (.iconst 0, 1) := by decide +kernel
theorem dL_follows_419 : decode cL_follows 419 = .ok (.istore 5, 2) := by decide +kernel
theorem dL_follows_421 : decode cL_follows 421 = .ok (.iload 16, 2) := by decide +kernel
theorem dL_follows_423 : decode cL_follows 423 = .ok (.iload 17, 2) := by decide +kernel
theorem dL_follows_425 : decode cL_follows 425 = .ok (.if_icmp .ge 11, 3) := by decide +kernel
theorem dL_follows_428 : decode cL_follows 428 = .ok (.iload 17, 2) := by decide +kernel
theorem dL_follows_430 : decode cL_follows 430 = .ok (.iload 16, 2) := by decide +kernel
theorem dL_follows_432 : decode cL_follows 432 = .ok (.isub, 1) := by decide +kernel
theorem dL_follows_433 : decode cL_follows 433 = .ok (.goto 8, 3) := by decide +kernel
theorem dL_follows_436 : decode cL_follows 436 = .ok (.iload 16, 2) := by decide +kernel
theorem dL_follows_438 : decode cL_follows 438 = .ok (.iload 17, 2) := by decide +kernel
theorem dL_follows_440 : decode cL_follows 440 = .ok (.isub, 1) := by decide +kernel
theorem dL_follows_441 : decode cL_follows 441 = .ok (.istore 18, 2) := by decide +kernel
theorem dL_follows_443 : decode cL_follows 443 = .ok (.iload_n 1, 1) := by decide +kernel
theorem dL_follows_444 : decode cL_follows 444 = .ok (.bipush 16, 2) := by decide +kernel
theorem dL_follows_446 : decode cL_follows 446 = .ok (.idiv, 1) := by decide +kernel
theorem dL_follows_447 : decode cL_follows 447 = .ok (.iconst 2, 1) := by decide +kernel
theorem dL_follows_448 : decode cL_follows 448 = .ok (.irem, 1) := by decide +kernel
theorem dL_follows_449 : decode cL_follows 449 = .ok (.ifCond .ne 13, 3) := by decide +kernel
theorem dL_follows_452 : decode cL_follows 452 = .ok (.iload 17, 2) := by decide +kernel
theorem dL_follows_454 : decode cL_follows 454 = .ok (.iload 18, 2) := by decide +kernel
theorem dL_follows_456 : decode cL_follows 456 = .ok (.isub, 1) := by decide +kernel
theorem dL_follows_457 : decode cL_follows 457 = .ok (.iconst 1, 1) := by decide +kernel
theorem dL_follows_458 : decode cL_follows 458 = .ok (.iadd, 1) := by decide +kernel
theorem dL_follows_459 : decode cL_follows 459 = .ok (.goto 10, 3) := by decide +kernel
theorem dL_follows_462 : decode cL_follows 462 = .ok (.iload 17, 2) := by decide +kernel
theorem dL_follows_464 : decode cL_follows 464 = .ok (.iload 18, 2) := by decide +kernel
theorem dL_follows_466 : decode cL_follows 466 = .ok (.iadd, 1) := by decide +kernel
theorem dL_follows_467 : decode cL_follows 467 = .ok (.iconst 1, 1) := by decide +kernel
theorem dL_follows_468 : decode cL_follows 468 = .ok (.isub, 1) := by decide +kernel
theorem dL_follows_469 : decode cL_follows 469 = .ok (.istore 19, 2) := by decide +kernel
theorem dL_follows_471 : decode cL_follows 471 = .ok (.iload 19, 2) := by decide +kernel
theorem dL_follows_473 : decode cL_follows 473 = .ok (.i2l, 1) := by decide +kernel
theorem dL_follows_474 : decode cL_follows 474 = .ok (.ldc2_w 189, 3) := by decide +kernel
theorem dL_follows_477 : decode cL_follows 477 = .ok (.ldc2_w 191, 3) := by decide +kernel
theorem dL_follows_480 : decode cL_follows 480 = .ok (.invokestatic 164, 3) := by decide +kernel
theorem dL_follows_483 : decode cL_follows 483 = .ok (.ifCond .eq 8, 3) := by decide +kernel
theorem dL_follows_486 : decode cL_follows 486 = .ok (.iload 19, 2) := by decide +kernel
theorem dL_follows_488 : decode cL_follows 488 = .ok (.goto 5, 3) := by decide +kernel
theorem dL_follows_491 : decode cL_follows 491 = .ok (.iload 17, 2) := by decide +kernel
theorem dL_follows_493 : decode cL_follows 493 = .ok (.istore 19, 2) := by decide +kernel
theorem dL_follows_495 : decode cL_follows 495 = .ok (.iload 5, 2) := by decide +kernel
theorem dL_follows_497 : decode cL_follows 497 = .ok (.ifCond .eq 58, 3) := by decide +kernel
theorem dL_follows_500 : decode cL_follows 500 = .ok (.lload 14, 2) := by decide +kernel
theorem dL_follows_502 : decode cL_follows 502 = .ok (.lconst 1, 1) := by decide +kernel
theorem dL_follows_503 : decode cL_follows 503 = .ok (.lcmp, 1) := by decide +kernel
theorem dL_follows_504 : decode cL_follows 504 = .ok (.ifCond .eq 38, 3) := by decide +kernel
theorem dL_follows_507 : decode cL_follows 507 = .ok (.aload_n 0, 1) := by decide +kernel
theorem dL_follows_508 : decode cL_follows 508 = .ok (.iload 9, 2) := by decide +kernel
theorem dL_follows_510 : decode cL_follows 510 = .ok (.iload 19, 2) := by decide +kernel
theorem dL_follows_512 : decode cL_follows 512 = .ok (.invokestatic 122, 3) := by decide +kernel
theorem dL_follows_515 : decode cL_follows 515 = .ok (.lconst 0, 1) := by decide +kernel
theorem dL_follows_516 : decode cL_follows 516 = .ok (.lcmp, 1) := by decide +kernel
theorem dL_follows_517 : decode cL_follows 517 = .ok (.ifCond .lt 38, 3) := by decide +kernel
theorem dL_follows_520 : decode cL_follows 520 = .ok (.aload_n 0, 1) := by decide +kernel
theorem dL_follows_521 : decode cL_follows 521 = .ok (.iload 9, 2) := by decide +kernel
theorem dL_follows_523 : decode cL_follows 523 = .ok (.bipush 6, 2) := by decide +kernel
theorem dL_follows_525 : decode cL_follows 525 = .ok (.invokestatic 104, 3) := by decide +kernel
theorem dL_follows_528 : decode cL_follows 528 = .ok (.lconst 1, 1) := by decide +kernel
theorem dL_follows_529 : decode cL_follows 529 = .ok (.lcmp, 1) := by decide +kernel
theorem dL_follows_530 : decode cL_follows 530 = .ok (.ifCond .le 25, 3) := by decide +kernel
theorem dL_follows_533 : decode cL_follows 533 = .ok (.aload_n 0, 1) := by decide +kernel
theorem dL_follows_534 : decode cL_follows 534 = .ok (.invokestatic 203, 3) := by decide +kernel
theorem dL_follows_537 : decode cL_follows 537 = .ok (.lconst 0, 1) := by decide +kernel
theorem dL_follows_538 : decode cL_follows 538 = .ok (.lcmp, 1) := by decide +kernel
theorem dL_follows_539 : decode cL_follows 539 = .ok (.ifCond .lt 16, 3) := by decide +kernel
theorem dL_follows_542 : decode cL_follows 542 = .ok (.aload_n 0, 1) := by decide +kernel
theorem dL_follows_543 : decode cL_follows 543 = .ok (.invokestatic 114, 3) := by decide +kernel
theorem dL_follows_546 : decode cL_follows 546 = .ok (.lload_n 2, 1) := by decide +kernel
theorem dL_follows_547 : decode cL_follows 547 = .ok (.lcmp, 1) := by decide +kernel
theorem dL_follows_548 : decode cL_follows 548 = .ok (.ifCond .ne 7, 3) := by decide +kernel
theorem dL_follows_551 : decode cL_follows 551 = .ok (.iconst 1, 1) := by decide +kernel
theorem dL_follows_552 : decode cL_follows 552 = .ok (.goto 4, 3) := by decide +kernel
theorem dL_follows_555 : decode cL_follows 555 = .ok (.iconst 0, 1) := by decide +kernel
theorem dL_follows_556 : decode cL_follows 556 = .ok (.istore 5, 2) := by decide +kernel
theorem dL_follows_558 : decode cL_follows 558 = .ok (.iload 5, 2) := by decide +kernel
theorem dL_follows_560 : decode cL_follows 560 = .ok (.ifCond .eq 59, 3) := by decide +kernel
theorem dL_follows_563 : decode cL_follows 563 = .ok (.aload_n 0, 1) := by decide +kernel
theorem dL_follows_564 : decode cL_follows 564 = .ok (.invokevirtual 205, 3) := by decide +kernel
theorem dL_follows_567 : decode cL_follows 567 = .ok (.iload 4, 2) := by decide +kernel
theorem dL_follows_569 : decode cL_follows 569 = .ok (.if_icmp .ne 50, 3) := by decide +kernel
theorem dL_follows_572 : decode cL_follows 572 = .ok (.aload_n 0, 1) := by decide +kernel
theorem dL_follows_573 : decode cL_follows 573 = .ok (.bipush 6, 2) := by decide +kernel
theorem dL_follows_575 : decode cL_follows 575 = .ok (.invokestatic 99, 3) := by decide +kernel
theorem dL_follows_578 : decode cL_follows 578 = .ok (.iload 4, 2) := by decide +kernel
theorem dL_follows_580 : decode cL_follows 580 = .ok (.i2l, 1) := by decide +kernel
theorem dL_follows_581 : decode cL_follows 581 = .ok (.lcmp, 1) := by decide +kernel
theorem dL_follows_582 : decode cL_follows 582 = .ok (.ifCond .ne 37, 3) := by decide +kernel
theorem dL_follows_585 : decode cL_follows 585 = .ok (.aload_n 0, 1) := by decide +kernel
theorem dL_follows_586 : decode cL_follows 586 = .ok (.bipush 7, 2) := by decide +kernel
theorem dL_follows_588 : decode cL_follows 588 = .ok (.invokestatic 99, 3) := by decide +kernel
theorem dL_follows_591 : decode cL_follows 591 = .ok (.lconst 0, 1) := by decide +kernel
theorem dL_follows_592 : decode cL_follows 592 = .ok (.lcmp, 1) := by decide +kernel
theorem dL_follows_593 : decode cL_follows 593 = .ok (.ifCond .ne 26, 3) := by decide +kernel
theorem dL_follows_596 : decode cL_follows 596 = .ok (.aload_n 0, 1) := by decide +kernel
theorem dL_follows_597 : decode cL_follows 597 = .ok (.iconst 2, 1) := by decide +kernel
theorem dL_follows_598 : decode cL_follows 598 = .ok (.invokestatic 112, 3) := by decide +kernel
theorem dL_follows_601 : decode cL_follows 601 = .ok (.iload 4, 2) := by decide +kernel
theorem dL_follows_603 : decode cL_follows 603 = .ok (.i2l, 1) := by decide +kernel
theorem dL_follows_604 : decode cL_follows 604 = .ok (.lcmp, 1) := by decide +kernel
theorem dL_follows_605 : decode cL_follows 605 = .ok (.ifCond .ne 14, 3) := by decide +kernel
theorem dL_follows_608 : decode cL_follows 608 = .ok (.aload_n 0, 1) := by decide +kernel
theorem dL_follows_609 : decode cL_follows 609 = .ok (.invokevirtual 208, 3) := by decide +kernel
theorem dL_follows_612 : decode cL_follows 612 = .ok (.ifCond .lt 7, 3) := by decide +kernel
theorem dL_follows_615 : decode cL_follows 615 = .ok (.iconst 1, 1) := by decide +kernel
theorem dL_follows_616 : decode cL_follows 616 = .ok (.goto 4, 3) := by decide +kernel
theorem dL_follows_619 : decode cL_follows 619 = .ok (.iconst 0, 1) := by decide +kernel
theorem dL_follows_620 : decode cL_follows 620 = .ok (.istore 5, 2) := by decide +kernel
theorem dL_follows_622 : decode cL_follows 622 = .ok (.iconst 0, 1) := by decide +kernel
theorem dL_follows_623 : decode cL_follows 623 = .ok (.istore 20, 2) := by decide +kernel
theorem dL_follows_625 : decode cL_follows 625 = .ok (.iload 20, 2) := by decide +kernel
theorem dL_follows_627 : decode cL_follows 627 = .ok (.i2l, 1) := by decide +kernel
theorem dL_follows_628 : decode cL_follows 628 = .ok (.aload_n 0, 1) := by decide +kernel
theorem dL_follows_629 : decode cL_follows 629 = .ok (.iload 9, 2) := by decide +kernel
theorem dL_follows_631 : decode cL_follows 631 = .ok (.iconst 3, 1) := by decide +kernel
theorem dL_follows_632 : decode cL_follows 632 = .ok (.invokestatic 104, 3) := by decide +kernel
theorem dL_follows_635 : decode cL_follows 635 = .ok (.lcmp, 1) := by decide +kernel
theorem dL_follows_636 : decode cL_follows 636 = .ok (.ifCond .ge 39, 3) := by decide +kernel
theorem dL_follows_639 : decode cL_follows 639 = .ok (.iload 5, 2) := by decide +kernel
theorem dL_follows_641 : decode cL_follows 641 = .ok (.ifCond .eq 34, 3) := by decide +kernel
theorem dL_follows_644 : decode cL_follows 644 = .ok (.aload_n 0, 1) := by decide +kernel
theorem dL_follows_645 : decode cL_follows 645 = .ok (.aload_n 0, 1) := by decide +kernel
theorem dL_follows_646 : decode cL_follows 646 = .ok (.iload 9, 2) := by decide +kernel
theorem dL_follows_648 : decode cL_follows 648 = .ok (.iload 20, 2) := by decide +kernel
theorem dL_follows_650 : decode cL_follows 650 = .ok (.invokestatic 107, 3) := by decide +kernel
theorem dL_follows_653 : decode cL_follows 653 = .ok (.l2i, 1) := by decide +kernel
theorem dL_follows_654 : decode cL_follows 654 = .ok (.invokestatic 156, 3) := by decide +kernel
theorem dL_follows_657 : decode cL_follows 657 = .ok (.lconst 0, 1) := by decide +kernel
theorem dL_follows_658 : decode cL_follows 658 = .ok (.lcmp, 1) := by decide +kernel
theorem dL_follows_659 : decode cL_follows 659 = .ok (.ifCond .le 7, 3) := by decide +kernel
theorem dL_follows_662 : decode cL_follows 662 = .ok (.iconst 1, 1) := by decide +kernel
theorem dL_follows_663 : decode cL_follows 663 = .ok (.goto 4, 3) := by decide +kernel
theorem dL_follows_666 : decode cL_follows 666 = .ok (.iconst 0, 1) := by decide +kernel
theorem dL_follows_667 : decode cL_follows 667 = .ok (.istore 5, 2) := by decide +kernel
theorem dL_follows_669 : decode cL_follows 669 = .ok (.iinc 20 1, 3) := by decide +kernel
theorem dL_follows_672 : decode cL_follows 672 = .ok (.goto (-47), 3) := by decide +kernel
theorem dL_follows_675 : decode cL_follows 675 = .ok (.iload 5, 2) := by decide +kernel
theorem dL_follows_677 : decode cL_follows 677 = .ok (.ifCond .eq 119, 3) := by decide +kernel
theorem dL_follows_680 : decode cL_follows 680 = .ok (.aload_n 0, 1) := by decide +kernel
theorem dL_follows_681 : decode cL_follows 681 = .ok (.invokevirtual 211, 3) := by decide +kernel
theorem dL_follows_684 : decode cL_follows 684 = .ok (.iload 9, 2) := by decide +kernel
theorem dL_follows_686 : decode cL_follows 686 = .ok (.if_icmp .ne 110, 3) := by decide +kernel
theorem dL_follows_689 : decode cL_follows 689 = .ok (.aload_n 0, 1) := by decide +kernel
theorem dL_follows_690 : decode cL_follows 690 = .ok (.invokevirtual 214, 3) := by decide +kernel
theorem dL_follows_693 : decode cL_follows 693 = .ok (.iload 9, 2) := by decide +kernel
theorem dL_follows_695 : decode cL_follows 695 = .ok (.if_icmp .ne 101, 3) := by decide +kernel
theorem dL_follows_698 : decode cL_follows 698 = .ok (.aload_n 0, 1) := by decide +kernel
theorem dL_follows_699 : decode cL_follows 699 = .ok (.iload 9, 2) := by decide +kernel
theorem dL_follows_701 : decode cL_follows 701 = .ok (.invokestatic 124, 3) := by decide +kernel
theorem dL_follows_704 : decode cL_follows 704 = .ok (.lload 10, 2) := by decide +kernel
theorem dL_follows_706 : decode cL_follows 706 = .ok (.lcmp, 1) := by decide +kernel
theorem dL_follows_707 : decode cL_follows 707 = .ok (.ifCond .ne 89, 3) := by decide +kernel
theorem dL_follows_710 : decode cL_follows 710 = .ok (.aload_n 0, 1) := by decide +kernel
theorem dL_follows_711 : decode cL_follows 711 = .ok (.invokevirtual 214, 3) := by decide +kernel
theorem dL_follows_714 : decode cL_follows 714 = .ok (.bipush (-2), 2) := by decide +kernel
theorem dL_follows_716 : decode cL_follows 716 = .ok (.if_icmp .ne 80, 3) := by decide +kernel
theorem dL_follows_719 : decode cL_follows 719 = .ok (.aload_n 0, 1) := by decide +kernel
theorem dL_follows_720 : decode cL_follows 720 = .ok (.bipush 7, 2) := by decide +kernel
theorem dL_follows_722 : decode cL_follows 722 = .ok (.invokestatic 99, 3) := by decide +kernel
theorem dL_follows_725 : decode cL_follows 725 = .ok (.lconst 1, 1) := by decide +kernel
theorem dL_follows_726 : decode cL_follows 726 = .ok (.lcmp, 1) := by decide +kernel
theorem dL_follows_727 : decode cL_follows 727 = .ok (.ifCond .ne 69, 3) := by decide +kernel
theorem dL_follows_730 : decode cL_follows 730 = .ok (.aload_n 0, 1) := by decide +kernel
theorem dL_follows_731 : decode cL_follows 731 = .ok (.iconst 0, 1) := by decide +kernel
theorem dL_follows_732 : decode cL_follows 732 = .ok (.invokestatic 112, 3) := by decide +kernel
theorem dL_follows_735 : decode cL_follows 735 = .ok (.aload_n 0, 1) := by decide +kernel
theorem dL_follows_736 : decode cL_follows 736 = .ok (.iconst 1, 1) := by decide +kernel
theorem dL_follows_737 : decode cL_follows 737 = .ok (.invokestatic 112, 3) := by decide +kernel
theorem dL_follows_740 : decode cL_follows 740 = .ok (.ladd, 1) := by decide +kernel
theorem dL_follows_741 : decode cL_follows 741 = .ok (.lload 10, 2) := by decide +kernel
theorem dL_follows_743 : decode cL_follows 743 = .ok (.lconst 1, 1) := by decide +kernel
theorem dL_follows_744 : decode cL_follows 744 = .ok (.ladd, 1) := by decide +kernel
theorem dL_follows_745 : decode cL_follows 745 = .ok (.lcmp, 1) := by decide +kernel
theorem dL_follows_746 : decode cL_follows 746 = .ok (.ifCond .ne 50, 3) := by decide +kernel
theorem dL_follows_749 : decode cL_follows 749 = .ok (.aload_n 0, 1) := by decide +kernel
theorem dL_follows_750 : decode cL_follows 750 = .ok (.invokestatic 203, 3) := by decide +kernel
theorem dL_follows_753 : decode cL_follows 753 = .ok (.lconst 0, 1) := by decide +kernel
theorem dL_follows_754 : decode cL_follows 754 = .ok (.lcmp, 1) := by decide +kernel
theorem dL_follows_755 : decode cL_follows 755 = .ok (.ifCond .lt 41, 3) := by decide +kernel
theorem dL_follows_758 : decode cL_follows 758 = .ok (.aload_n 0, 1) := by decide +kernel
theorem dL_follows_759 : decode cL_follows 759 = .ok (.invokevirtual 214, 3) := by decide +kernel
