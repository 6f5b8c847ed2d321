theorem dX7_does_217 : decode cX7_does 217 = .ok (.iconst 0, 1) := by decide +kernel
theorem dX7_does_218 : decode cX7_does 218 = .ok (.invokestatic 67, 3) := by decide +kernel
theorem dX7_does_221 : decode cX7_does 221 = .ok (.dup2, 1) := by decide +kernel
theorem dX7_does_222 : decode cX7_does 222 = .ok (.iaload, 1) := by decide +kernel
theorem dX7_does_223 : decode cX7_does 223 = .ok (.iload 6, 2) := by decide +kernel
theorem dX7_does_225 : decode cX7_does 225 = .ok (.iconst 5, 1) := by decide +kernel
theorem dX7_does_226 : decode cX7_does 226 = .ok (.isub, 1) := by decide +kernel
theorem dX7_does_227 : decode cX7_does 227 = .ok (.iadd, 1) := by decide +kernel
theorem dX7_does_228 : decode cX7_does 228 = .ok (.iastore, 1) := by decide +kernel
theorem dX7_does_229 : decode cX7_does 229 = .ok (.iconst 1, 1) := by decide +kernel
theorem dX7_does_230 : decode cX7_does 230 = .ok (.ireturn, 1) := by decide +kernel
theorem dX7_does_231 : decode cX7_does 231 = .ok (.iload_n 3, 1) := by decide +kernel
theorem dX7_does_232 : decode cX7_does 232 = .ok (.ifCond .ne 29, 3) := by decide +kernel
theorem dX7_does_235 : decode cX7_does 235 = .ok (.aload_n 0, 1) := by decide +kernel
theorem dX7_does_236 : decode cX7_does 236 = .ok (.getfield 19, 3) := by decide +kernel
theorem dX7_does_239 : decode cX7_does 239 = .ok (.iload 4, 2) := by decide +kernel
theorem dX7_does_241 : decode cX7_does 241 = .ok (.invokestatic 238, 3) := by decide +kernel
theorem dX7_does_244 : decode cX7_does 244 = .ok (.ifCond .eq 17, 3) := by decide +kernel
theorem dX7_does_247 : decode cX7_does 247 = .ok (.aload_n 0, 1) := by decide +kernel
theorem dX7_does_248 : decode cX7_does 248 = .ok (.getfield 35, 3) := by decide +kernel
theorem dX7_does_251 : decode cX7_does 251 = .ok (.iload 4, 2) := by decide +kernel
theorem dX7_does_253 : decode cX7_does 253 = .ok (.iaload, 1) := by decide +kernel
theorem dX7_does_254 : decode cX7_does 254 = .ok (.ifCond .le 7, 3) := by decide +kernel
theorem dX7_does_257 : decode cX7_does 257 = .ok (.iconst 1, 1) := by decide +kernel
theorem dX7_does_258 : decode cX7_does 258 = .ok (.goto 4, 3) := by decide +kernel
theorem dX7_does_261 : decode cX7_does 261 = .ok (.iconst 0, 1) := by decide +kernel
theorem dX7_does_262 : decode cX7_does 262 = .ok (.ireturn, 1) := by decide +kernel
theorem dX7_does_263 : decode cX7_does 263 = .ok (.iload_n 3, 1) := by decide +kernel
theorem dX7_does_264 : decode cX7_does 264 = .ok (.ifCond .ne 25, 3) := by decide +kernel
theorem dX7_does_267 : decode cX7_does 267 = .ok (.aload_n 0, 1) := by decide +kernel
theorem dX7_does_268 : decode cX7_does 268 = .ok (.getfield 35, 3) := by decide +kernel
theorem dX7_does_271 : decode cX7_does 271 = .ok (.aload_n 0, 1) := by decide +kernel
theorem dX7_does_272 : decode cX7_does 272 = .ok (.getfield 19, 3) := by decide +kernel
theorem dX7_does_275 : decode cX7_does 275 = .ok (.iconst 0, 1) := by decide +kernel
theorem dX7_does_276 : decode cX7_does 276 = .ok (.iaload, 1) := by decide +kernel
theorem dX7_does_277 : decode cX7_does 277 = .ok (.invokestatic 170, 3) := by decide +kernel
theorem dX7_does_280 : decode cX7_does 280 = .ok (.iload 4, 2) := by decide +kernel
theorem dX7_does_282 : decode cX7_does 282 = .ok (.if_icmp .lt 7, 3) := by decide +kernel
theorem dX7_does_285 : decode cX7_does 285 = .ok (.iconst 1, 1) := by decide +kernel
theorem dX7_does_286 : decode cX7_does 286 = .ok (.goto 4, 3) := by decide +kernel
theorem dX7_does_289 : decode cX7_does 289 = .ok (.iconst 0, 1) := by decide +kernel
theorem dX7_does_290 : decode cX7_does 290 = .ok (.ireturn, 1) := by decide +kernel
theorem dX7_does_291 : decode cX7_does 291 = .ok (.iload_n 1, 1) := by decide +kernel
theorem dX7_does_292 : decode cX7_does 292 = .ok (.sipush 7000, 3) := by decide +kernel
theorem dX7_does_295 : decode cX7_does 295 = .ok (.if_icmp .eq 5, 3) := by decide +kernel
theorem dX7_does_298 : decode cX7_does 298 = .ok (.iconst 0, 1) := by decide +kernel
theorem dX7_does_299 : decode cX7_does 299 = .ok (.ireturn, 1) := by decide +kernel
theorem dX7_does_300 : decode cX7_does 300 = .ok (.aload_n 0, 1) := by decide +kernel
theorem dX7_does_301 : decode cX7_does 301 = .ok (.aload_n 0, 1) := by decide +kernel
theorem dX7_does_302 : decode cX7_does 302 = .ok (.getfield 19, 3) := by decide +kernel
theorem dX7_does_305 : decode cX7_does 305 = .ok (.invokevirtual 222, 3) := by decide +kernel
theorem dX7_does_308 : decode cX7_does 308 = .ok (.iconst 1, 1) := by decide +kernel
theorem dX7_does_309 : decode cX7_does 309 = .ok (.ireturn, 1) := by decide +kernel
theorem dX7_does_310 : decode cX7_does 310 = .ok (.iload_n 3, 1) := by decide +kernel
theorem dX7_does_311 : decode cX7_does 311 = .ok (.ifCond .ne 21, 3) := by decide +kernel
theorem dX7_does_314 : decode cX7_does 314 = .ok (.aload_n 0, 1) := by decide +kernel
theorem dX7_does_315 : decode cX7_does 315 = .ok (.aload_n 0, 1) := by decide +kernel
theorem dX7_does_316 : decode cX7_does 316 = .ok (.getfield 19, 3) := by decide +kernel
theorem dX7_does_319 : decode cX7_does 319 = .ok (.iconst 0, 1) := by decide +kernel
theorem dX7_does_320 : decode cX7_does 320 = .ok (.invokevirtual 192, 3) := by decide +kernel
theorem dX7_does_323 : decode cX7_does 323 = .ok (.iload 4, 2) := by decide +kernel
theorem dX7_does_325 : decode cX7_does 325 = .ok (.if_icmp .gt 7, 3) := by decide +kernel
theorem dX7_does_328 : decode cX7_does 328 = .ok (.iconst 1, 1) := by decide +kernel
theorem dX7_does_329 : decode cX7_does 329 = .ok (.goto 4, 3) := by decide +kernel
theorem dX7_does_332 : decode cX7_does 332 = .ok (.iconst 0, 1) := by decide +kernel
theorem dX7_does_333 : decode cX7_does 333 = .ok (.ireturn, 1) := by decide +kernel
theorem dX7_does_334 : decode cX7_does 334 = .ok (.aload_n 0, 1) := by decide +kernel
theorem dX7_does_335 : decode cX7_does 335 = .ok (.getfield 19, 3) := by decide +kernel
theorem dX7_does_338 : decode cX7_does 338 = .ok (.iload 5, 2) := by decide +kernel
theorem dX7_does_340 : decode cX7_does 340 = .ok (.invokestatic 238, 3) := by decide +kernel
theorem dX7_does_343 : decode cX7_does 343 = .ok (.ifCond .eq 19, 3) := by decide +kernel
theorem dX7_does_346 : decode cX7_does 346 = .ok (.aload_n 0, 1) := by decide +kernel
theorem dX7_does_347 : decode cX7_does 347 = .ok (.getfield 35, 3) := by decide +kernel
theorem dX7_does_350 : decode cX7_does 350 = .ok (.iload 5, 2) := by decide +kernel
theorem dX7_does_352 : decode cX7_does 352 = .ok (.iaload, 1) := by decide +kernel
theorem dX7_does_353 : decode cX7_does 353 = .ok (.iload 6, 2) := by decide +kernel
theorem dX7_does_355 : decode cX7_does 355 = .ok (.if_icmp .ne 7, 3) := by decide +kernel
theorem dX7_does_358 : decode cX7_does 358 = .ok (.iconst 1, 1) := by decide +kernel
theorem dX7_does_359 : decode cX7_does 359 = .ok (.goto 4, 3) := by decide +kernel
theorem dX7_does_362 : decode cX7_does 362 = .ok (.iconst 0, 1) := by decide +kernel
theorem dX7_does_363 : decode cX7_does 363 = .ok (.ireturn, 1) := by decide +kernel
theorem dX7_does_364 : decode cX7_does 364 = .ok (.iconst 0, 1) := by decide +kernel
theorem dX7_does_365 : decode cX7_does 365 = .ok (.ireturn, 1) := by decide +kernel
set_option maxRecDepth 20000 in
theorem ggX7_runScript_X7_in : GoodIn wsX7_runScript wsX7_in := goodIn_r _ [6] (by decide +kernel) (by decide +kernel)
set_option maxRecDepth 20000 in
theorem gX7_runScript_X7_in : GoodIn wsX7_runScript (va_wsS RX7 118 yX7_in wsX7_in) := goodIn_app (goodIn_of _ (by decide +kernel)) ggX7_runScript_X7_in
set_option maxRecDepth 20000 in
theorem ggX7_runScript_X7_tenTo : GoodIn wsX7_runScript wsX7_tenTo := goodIn_r _ [9, 10] (by decide +kernel) (by decide +kernel)
set_option maxRecDepth 20000 in
theorem gX7_runScript_X7_tenTo : GoodIn wsX7_runScript (va_wsS RX7 81 yX7_tenTo wsX7_tenTo) := goodIn_app (goodIn_of _ (by decide +kernel)) ggX7_runScript_X7_tenTo
set_option maxRecDepth 20000 in
theorem ggX7_runScript_X7_refused : GoodIn wsX7_runScript wsX7_refused := goodIn_r _ [14, 15, 98, 99, 100, 101, 102, 103, 104, 105, 106, 107, 108, 109, 110, 111, 112, 113, 114, 115] (by decide +kernel) (by decide +kernel)
set_option maxRecDepth 20000 in
theorem gX7_runScript_X7_refused : GoodIn wsX7_runScript (wsV RX7 125 RX7 yX7_refused wsX7_refused) := goodIn_app (goodIn_of _ (by decide +kernel)) ggX7_runScript_X7_refused
set_option maxRecDepth 20000 in
theorem ggX7_runScript_X7_begin : GoodIn wsX7_runScript wsX7_begin := goodIn_r _ [19, 20, 21, 22, 23, 5, 24, 98, 99, 100, 101, 102, 103, 104, 105, 106, 107, 108, 109, 110, 111, 112, 113, 114, 115] (by decide +kernel) (by decide +kernel)
set_option maxRecDepth 20000 in
theorem gX7_runScript_X7_begin : GoodIn wsX7_runScript (wsV RX7 225 RX7 yX7_begin wsX7_begin) := goodIn_app (goodIn_of _ (by decide +kernel)) ggX7_runScript_X7_begin
set_option maxRecDepth 20000 in
theorem ggX7_runScript_X7_does : GoodIn wsX7_runScript wsX7_does := goodIn_r _ [28, 21, 29, 30, 31, 32, 5, 33, 34, 35, 36, 37, 38, 39, 40, 41, 42, 43, 44, 45, 46, 47, 48, 49, 50, 51, 52, 53, 54, 55, 10, 7, 8, 9, 22, 23, 24, 56, 57, 58, 59, 60, 61, 62, 63, 64, 65, 66, 67, 68, 69, 70, 71, 72, 73, 74, 75, 76, 77, 3, 4, 6, 78, 79, 80, 81, 82, 83, 84, 85, 86, 87, 88, 89, 90, 91, 92, 93, 94, 95, 96, 97, 98, 99, 100, 101, 102, 103, 104, 105, 106, 107, 108, 109, 110, 111, 112, 113, 114, 115] (by decide +kernel) (by decide +kernel)
set_option maxRecDepth 20000 in
theorem gX7_runScript_X7_does : GoodIn wsX7_runScript (wsV RX7 245 RX7 yX7_does wsX7_does) := goodIn_app (goodIn_of _ (by decide +kernel)) ggX7_runScript_X7_does
theorem dX7_runScript_0 : decode cX7_runScript 0 = .ok (.iload_n 1, 1) := by decide +kernel
theorem dX7_runScript_1 : decode cX7_runScript 1 = .ok (.i2l, 1) := by decide +kernel
theorem dX7_runScript_2 : decode cX7_runScript 2 = .ok (.lconst 1, 1) := by decide +kernel
theorem dX7_runScript_3 : decode cX7_runScript 3 = .ok (.ldc2_w 241, 3) := by decide +kernel
theorem dX7_runScript_6 : decode cX7_runScript 6 = .ok (.invokestatic 118, 3) := by decide +kernel
theorem dX7_runScript_9 : decode cX7_runScript 9 = .ok (.istore 4, 2) := by decide +kernel
theorem dX7_runScript_11 : decode cX7_runScript 11 = .ok (.aload_n 0, 1) := by decide +kernel
theorem dX7_runScript_12 : decode cX7_runScript 12 = .ok (.iload 4, 2) := by decide +kernel
theorem dX7_runScript_14 : decode cX7_runScript 14 = .ok (.ifCond .eq 32, 3) := by decide +kernel
theorem dX7_runScript_17 : decode cX7_runScript 17 = .ok (.lload_n 2, 1) := by decide +kernel
theorem dX7_runScript_18 : decode cX7_runScript 18 = .ok (.lconst 0, 1) := by decide +kernel
theorem dX7_runScript_19 : decode cX7_runScript 19 = .ok (.iload 4, 2) := by decide +kernel
theorem dX7_runScript_21 : decode cX7_runScript 21 = .ok (.ifCond .eq 9, 3) := by decide +kernel
theorem dX7_runScript_24 : decode cX7_runScript 24 = .ok (.iconst 4, 1) := by decide +kernel
theorem dX7_runScript_25 : decode cX7_runScript 25 = .ok (.iload_n 1, 1) := by decide +kernel
theorem dX7_runScript_26 : decode cX7_runScript 26 = .ok (.imul, 1) := by decide +kernel
theorem dX7_runScript_27 : decode cX7_runScript 27 = .ok (.goto 4, 3) := by decide +kernel
theorem dX7_runScript_30 : decode cX7_runScript 30 = .ok (.iconst 0, 1) := by decide +kernel
theorem dX7_runScript_31 : decode cX7_runScript 31 = .ok (.invokestatic 81, 3) := by decide +kernel
theorem dX7_runScript_34 : decode cX7_runScript 34 = .ok (.lconst 1, 1) := by decide +kernel
theorem dX7_runScript_35 : decode cX7_runScript 35 = .ok (.lsub, 1) := by decide +kernel
theorem dX7_runScript_36 : decode cX7_runScript 36 = .ok (.invokestatic 118, 3) := by decide +kernel
theorem dX7_runScript_39 : decode cX7_runScript 39 = .ok (.ifCond .eq 7, 3) := by decide +kernel
theorem dX7_runScript_42 : decode cX7_runScript 42 = .ok (.iconst 0, 1) := by decide +kernel
theorem dX7_runScript_43 : decode cX7_runScript 43 = .ok (.goto 4, 3) := by decide +kernel
theorem dX7_runScript_46 : decode cX7_runScript 46 = .ok (.iconst 1, 1) := by decide +kernel
theorem dX7_runScript_47 : decode cX7_runScript 47 = .ok (.invokevirtual 125, 3) := by decide +kernel
theorem dX7_runScript_50 : decode cX7_runScript 50 = .ok (.ifCond .eq 5, 3) := by decide +kernel
theorem dX7_runScript_53 : decode cX7_runScript 53 = .ok (.iconst 0, 1) := by decide +kernel
theorem dX7_runScript_54 : decode cX7_runScript 54 = .ok (.ireturn, 1) := by decide +kernel
theorem dX7_runScript_55 : decode cX7_runScript 55 = .ok (.aload_n 0, 1) := by decide +kernel
theorem dX7_runScript_56 : decode cX7_runScript 56 = .ok (.invokevirtual 225, 3) := by decide +kernel
theorem dX7_runScript_59 : decode cX7_runScript 59 = .ok (.iconst 0, 1) := by decide +kernel
theorem dX7_runScript_60 : decode cX7_runScript 60 = .ok (.istore 5, 2) := by decide +kernel
theorem dX7_runScript_62 : decode cX7_runScript 62 = .ok (.iload 5, 2) := by decide +kernel
theorem dX7_runScript_64 : decode cX7_runScript 64 = .ok (.iload_n 1, 1) := by decide +kernel
theorem dX7_runScript_65 : decode cX7_runScript 65 = .ok (.if_icmp .ge 37, 3) := by decide +kernel
theorem dX7_runScript_68 : decode cX7_runScript 68 = .ok (.aload_n 0, 1) := by decide +kernel
theorem dX7_runScript_69 : decode cX7_runScript 69 = .ok (.lload_n 2, 1) := by decide +kernel
theorem dX7_runScript_70 : decode cX7_runScript 70 = .ok (.iconst 4, 1) := by decide +kernel
theorem dX7_runScript_71 : decode cX7_runScript 71 = .ok (.iload_n 1, 1) := by decide +kernel
theorem dX7_runScript_72 : decode cX7_runScript 72 = .ok (.iconst 1, 1) := by decide +kernel
theorem dX7_runScript_73 : decode cX7_runScript 73 = .ok (.isub, 1) := by decide +kernel
theorem dX7_runScript_74 : decode cX7_runScript 74 = .ok (.iload 5, 2) := by decide +kernel
theorem dX7_runScript_76 : decode cX7_runScript 76 = .ok (.isub, 1) := by decide +kernel
theorem dX7_runScript_77 : decode cX7_runScript 77 = .ok (.imul, 1) := by decide +kernel
theorem dX7_runScript_78 : decode cX7_runScript 78 = .ok (.invokestatic 81, 3) := by decide +kernel
theorem dX7_runScript_81 : decode cX7_runScript 81 = .ok (.ldiv, 1) := by decide +kernel
theorem dX7_runScript_82 : decode cX7_runScript 82 = .ok (.ldc2_w 243, 3) := by decide +kernel
theorem dX7_runScript_85 : decode cX7_runScript 85 = .ok (.lrem, 1) := by decide +kernel
theorem dX7_runScript_86 : decode cX7_runScript 86 = .ok (.l2i, 1) := by decide +kernel
theorem dX7_runScript_87 : decode cX7_runScript 87 = .ok (.invokevirtual 245, 3) := by decide +kernel
theorem dX7_runScript_90 : decode cX7_runScript 90 = .ok (.ifCond .ne 6, 3) := by decide +kernel
theorem dX7_runScript_93 : decode cX7_runScript 93 = .ok (.iload 5, 2) := by decide +kernel
theorem dX7_runScript_95 : decode cX7_runScript 95 = .ok (.ireturn, 1) := by decide +kernel
theorem dX7_runScript_96 : decode cX7_runScript 96 = .ok (.iinc 5 1, 3) := by decide +kernel
theorem dX7_runScript_99 : decode cX7_runScript 99 = .ok (.goto (-37), 3) := by decide +kernel
theorem dX7_runScript_102 : decode cX7_runScript 102 = .ok (.bipush (-9), 2) := by decide +kernel
theorem dX7_runScript_104 : decode cX7_runScript 104 = .ok (.ireturn, 1) := by decide +kernel
set_option maxRecDepth 20000 in
theorem ggX7_round_X7_drop : GoodIn wsX7_round wsX7_drop := goodIn_r _ [5, 6, 7, 4, 8] (by decide +kernel) (by decide +kernel)
set_option maxRecDepth 20000 in
theorem gX7_round_X7_drop : GoodIn wsX7_round (va_wsS RX7 214 yX7_drop wsX7_drop) := goodIn_app (goodIn_of _ (by decide +kernel)) ggX7_round_X7_drop
set_option maxRecDepth 20000 in
theorem ggX7_round_X7_cell : GoodIn wsX7_round wsX7_cell := goodIn_r _ [8] (by decide +kernel) (by decide +kernel)
set_option maxRecDepth 20000 in
theorem gX7_round_X7_cell : GoodIn wsX7_round (va_wsS RX7 67 yX7_cell wsX7_cell) := goodIn_app (goodIn_of _ (by decide +kernel)) ggX7_round_X7_cell
set_option maxRecDepth 20000 in
theorem ggX7_round_X7_author : GoodIn wsX7_round wsX7_author := goodIn_r _ [11, 6, 7, 4, 8] (by decide +kernel) (by decide +kernel)
set_option maxRecDepth 20000 in
theorem gX7_round_X7_author : GoodIn wsX7_round (va_wsS RX7 71 yX7_author wsX7_author) := goodIn_app (goodIn_of _ (by decide +kernel)) ggX7_round_X7_author
theorem dX7_round_0 : decode cX7_round 0 = .ok (.aload_n 0, 1) := by decide +kernel
theorem dX7_round_1 : decode cX7_round 1 = .ok (.getfield 19, 3) := by decide +kernel
theorem dX7_round_4 : decode cX7_round 4 = .ok (.iconst 0, 1) := by decide +kernel
theorem dX7_round_5 : decode cX7_round 5 = .ok (.iaload, 1) := by decide +kernel
theorem dX7_round_6 : decode cX7_round 6 = .ok (.istore_n 2, 1) := by decide +kernel
theorem dX7_round_7 : decode cX7_round 7 = .ok (.iload_n 1, 1) := by decide +kernel
theorem dX7_round_8 : decode cX7_round 8 = .ok (.iconst 4, 1) := by decide +kernel
theorem dX7_round_9 : decode cX7_round 9 = .ok (.irem, 1) := by decide +kernel
theorem dX7_round_10 : decode cX7_round 10 = .ok (.ifCond .ne 22, 3) := by decide +kernel
theorem dX7_round_13 : decode cX7_round 13 = .ok (.iload_n 2, 1) := by decide +kernel
theorem dX7_round_14 : decode cX7_round 14 = .ok (.ifCond .le 18, 3) := by decide +kernel
theorem dX7_round_17 : decode cX7_round 17 = .ok (.aload_n 0, 1) := by decide +kernel
theorem dX7_round_18 : decode cX7_round 18 = .ok (.getfield 19, 3) := by decide +kernel
theorem dX7_round_21 : decode cX7_round 21 = .ok (.iload_n 1, 1) := by decide +kernel
theorem dX7_round_22 : decode cX7_round 22 = .ok (.iconst 4, 1) := by decide +kernel
theorem dX7_round_23 : decode cX7_round 23 = .ok (.idiv, 1) := by decide +kernel
theorem dX7_round_24 : decode cX7_round 24 = .ok (.iload_n 2, 1) := by decide +kernel
theorem dX7_round_25 : decode cX7_round 25 = .ok (.irem, 1) := by decide +kernel
theorem dX7_round_26 : decode cX7_round 26 = .ok (.invokestatic 214, 3) := by decide +kernel
theorem dX7_round_29 : decode cX7_round 29 = .ok (.goto 160, 3) := by decide +kernel
theorem dX7_round_32 : decode cX7_round 32 = .ok (.iload_n 1, 1) := by decide +kernel
theorem dX7_round_33 : decode cX7_round 33 = .ok (.iconst 4, 1) := by decide +kernel
theorem dX7_round_34 : decode cX7_round 34 = .ok (.irem, 1) := by decide +kernel
theorem dX7_round_35 : decode cX7_round 35 = .ok (.iconst 1, 1) := by decide +kernel
theorem dX7_round_36 : decode cX7_round 36 = .ok (.if_icmp .ne 34, 3) := by decide +kernel
theorem dX7_round_39 : decode cX7_round 39 = .ok (.iload_n 2, 1) := by decide +kernel
theorem dX7_round_40 : decode cX7_round 40 = .ok (.ifCond .le 30, 3) := by decide +kernel
theorem dX7_round_43 : decode cX7_round 43 = .ok (.aload_n 0, 1) := by decide +kernel
theorem dX7_round_44 : decode cX7_round 44 = .ok (.getfield 19, 3) := by decide +kernel
theorem dX7_round_47 : decode cX7_round 47 = .ok (.iload_n 1, 1) := by decide +kernel
theorem dX7_round_48 : decode cX7_round 48 = .ok (.iconst 4, 1) := by decide +kernel
theorem dX7_round_49 : decode cX7_round 49 = .ok (.idiv, 1) := by decide +kernel
theorem dX7_round_50 : decode cX7_round 50 = .ok (.iload_n 2, 1) := by decide +kernel
theorem dX7_round_51 : decode cX7_round 51 = .ok (.irem, 1) := by decide +kernel
theorem dX7_round_52 : decode cX7_round 52 = .ok (.iconst 0, 1) := by decide +kernel
theorem dX7_round_53 : decode cX7_round 53 = .ok (.invokestatic 67, 3) := by decide +kernel
theorem dX7_round_56 : decode cX7_round 56 = .ok (.sipush 1990, 3) := by decide +kernel
theorem dX7_round_59 : decode cX7_round 59 = .ok (.iload_n 1, 1) := by decide +kernel
theorem dX7_round_60 : decode cX7_round 60 = .ok (.bipush 64, 2) := by decide +kernel
theorem dX7_round_62 : decode cX7_round 62 = .ok (.idiv, 1) := by decide +kernel
theorem dX7_round_63 : decode cX7_round 63 = .ok (.iconst 4, 1) := by decide +kernel
theorem dX7_round_64 : decode cX7_round 64 = .ok (.irem, 1) := by decide +kernel
theorem dX7_round_65 : decode cX7_round 65 = .ok (.iadd, 1) := by decide +kernel
theorem dX7_round_66 : decode cX7_round 66 = .ok (.iastore, 1) := by decide +kernel
theorem dX7_round_67 : decode cX7_round 67 = .ok (.goto 122, 3) := by decide +kernel
theorem dX7_round_70 : decode cX7_round 70 = .ok (.iload_n 1, 1) := by decide +kernel
theorem dX7_round_71 : decode cX7_round 71 = .ok (.iconst 4, 1) := by decide +kernel
theorem dX7_round_72 : decode cX7_round 72 = .ok (.irem, 1) := by decide +kernel
theorem dX7_round_73 : decode cX7_round 73 = .ok (.iconst 1, 1) := by decide +kernel
theorem dX7_round_74 : decode cX7_round 74 = .ok (.if_icmp .le 115, 3) := by decide +kernel
theorem dX7_round_77 : decode cX7_round 77 = .ok (.iload_n 2, 1) := by decide +kernel
theorem dX7_round_78 : decode cX7_round 78 = .ok (.bipush 16, 2) := by decide +kernel
theorem dX7_round_80 : decode cX7_round 80 = .ok (.if_icmp .ge 109, 3) := by decide +kernel
theorem dX7_round_83 : decode cX7_round 83 = .ok (.aload_n 0, 1) := by decide +kernel
theorem dX7_round_84 : decode cX7_round 84 = .ok (.getfield 19, 3) := by decide +kernel
theorem dX7_round_87 : decode cX7_round 87 = .ok (.iload_n 2, 1) := by decide +kernel
theorem dX7_round_88 : decode cX7_round 88 = .ok (.iconst 0, 1) := by decide +kernel
theorem dX7_round_89 : decode cX7_round 89 = .ok (.invokestatic 67, 3) := by decide +kernel
theorem dX7_round_92 : decode cX7_round 92 = .ok (.sipush 1990, 3) := by decide +kernel
theorem dX7_round_95 : decode cX7_round 95 = .ok (.iload_n 1, 1) := by decide +kernel
theorem dX7_round_96 : decode cX7_round 96 = .ok (.bipush 16, 2) := by decide +kernel
theorem dX7_round_98 : decode cX7_round 98 = .ok (.idiv, 1) := by decide +kernel
theorem dX7_round_99 : decode cX7_round 99 = .ok (.iconst 3, 1) := by decide +kernel
theorem dX7_round_100 : decode cX7_round 100 = .ok (.irem, 1) := by decide +kernel
theorem dX7_round_101 : decode cX7_round 101 = .ok (.iadd, 1) := by decide +kernel
theorem dX7_round_102 : decode cX7_round 102 = .ok (.iastore, 1) := by decide +kernel
theorem dX7_round_103 : decode cX7_round 103 = .ok (.aload_n 0, 1) := by decide +kernel
theorem dX7_round_104 : decode cX7_round 104 = .ok (.getfield 19, 3) := by decide +kernel
theorem dX7_round_107 : decode cX7_round 107 = .ok (.iload_n 2, 1) := by decide +kernel
theorem dX7_round_108 : decode cX7_round 108 = .ok (.iconst 1, 1) := by decide +kernel
theorem dX7_round_109 : decode cX7_round 109 = .ok (.invokestatic 67, 3) := by decide +kernel
theorem dX7_round_112 : decode cX7_round 112 = .ok (.iconst 1, 1) := by decide +kernel
theorem dX7_round_113 : decode cX7_round 113 = .ok (.iastore, 1) := by decide +kernel
theorem dX7_round_114 : decode cX7_round 114 = .ok (.aload_n 0, 1) := by decide +kernel
theorem dX7_round_115 : decode cX7_round 115 = .ok (.getfield 19, 3) := by decide +kernel
theorem dX7_round_118 : decode cX7_round 118 = .ok (.iload_n 2, 1) := by decide +kernel
theorem dX7_round_119 : decode cX7_round 119 = .ok (.iconst 0, 1) := by decide +kernel
theorem dX7_round_120 : decode cX7_round 120 = .ok (.invokestatic 71, 3) := by decide +kernel
theorem dX7_round_123 : decode cX7_round 123 = .ok (.iconst 1, 1) := by decide +kernel
theorem dX7_round_124 : decode cX7_round 124 = .ok (.iastore, 1) := by decide +kernel
theorem dX7_round_125 : decode cX7_round 125 = .ok (.aload_n 0, 1) := by decide +kernel
theorem dX7_round_126 : decode cX7_round 126 = .ok (.getfield 19, 3) := by decide +kernel
theorem dX7_round_129 : decode cX7_round 129 = .ok (.iload_n 2, 1) := by decide +kernel
theorem dX7_round_130 : decode cX7_round 130 = .ok (.iconst 0, 1) := by decide +kernel
theorem dX7_round_131 : decode cX7_round 131 = .ok (.invokestatic 71, 3) := by decide +kernel
theorem dX7_round_134 : decode cX7_round 134 = .ok (.iconst 1, 1) := by decide +kernel
theorem dX7_round_135 : decode cX7_round 135 = .ok (.iadd, 1) := by decide +kernel
theorem dX7_round_136 : decode cX7_round 136 = .ok (.bipush 97, 2) := by decide +kernel
theorem dX7_round_138 : decode cX7_round 138 = .ok (.iload_n 1, 1) := by decide +kernel
theorem dX7_round_139 : decode cX7_round 139 = .ok (.iconst 4, 1) := by decide +kernel
theorem dX7_round_140 : decode cX7_round 140 = .ok (.idiv, 1) := by decide +kernel
theorem dX7_round_141 : decode cX7_round 141 = .ok (.iconst 3, 1) := by decide +kernel
theorem dX7_round_142 : decode cX7_round 142 = .ok (.irem, 1) := by decide +kernel
theorem dX7_round_143 : decode cX7_round 143 = .ok (.iadd, 1) := by decide +kernel
theorem dX7_round_144 : decode cX7_round 144 = .ok (.iastore, 1) := by decide +kernel
theorem dX7_round_145 : decode cX7_round 145 = .ok (.aload_n 0, 1) := by decide +kernel
theorem dX7_round_146 : decode cX7_round 146 = .ok (.getfield 19, 3) := by decide +kernel
theorem dX7_round_149 : decode cX7_round 149 = .ok (.iload_n 2, 1) := by decide +kernel
theorem dX7_round_150 : decode cX7_round 150 = .ok (.bipush 38, 2) := by decide +kernel
theorem dX7_round_152 : decode cX7_round 152 = .ok (.invokestatic 67, 3) := by decide +kernel
theorem dX7_round_155 : decode cX7_round 155 = .ok (.iconst 1, 1) := by decide +kernel
theorem dX7_round_156 : decode cX7_round 156 = .ok (.iastore, 1) := by decide +kernel
theorem dX7_round_157 : decode cX7_round 157 = .ok (.aload_n 0, 1) := by decide +kernel
theorem dX7_round_158 : decode cX7_round 158 = .ok (.getfield 19, 3) := by decide +kernel
theorem dX7_round_161 : decode cX7_round 161 = .ok (.iload_n 2, 1) := by decide +kernel
theorem dX7_round_162 : decode cX7_round 162 = .ok (.bipush 38, 2) := by decide +kernel
theorem dX7_round_164 : decode cX7_round 164 = .ok (.invokestatic 67, 3) := by decide +kernel
theorem dX7_round_167 : decode cX7_round 167 = .ok (.iconst 1, 1) := by decide +kernel
theorem dX7_round_168 : decode cX7_round 168 = .ok (.iadd, 1) := by decide +kernel
theorem dX7_round_169 : decode cX7_round 169 = .ok (.bipush 97, 2) := by decide +kernel
theorem dX7_round_171 : decode cX7_round 171 = .ok (.iload_n 1, 1) := by decide +kernel
theorem dX7_round_172 : decode cX7_round 172 = .ok (.bipush 64, 2) := by decide +kernel
theorem dX7_round_174 : decode cX7_round 174 = .ok (.idiv, 1) := by decide +kernel
theorem dX7_round_175 : decode cX7_round 175 = .ok (.iconst 3, 1) := by decide +kernel
theorem dX7_round_176 : decode cX7_round 176 = .ok (.irem, 1) := by decide +kernel
theorem dX7_round_177 : decode cX7_round 177 = .ok (.iadd, 1) := by decide +kernel
theorem dX7_round_178 : decode cX7_round 178 = .ok (.iastore, 1) := by decide +kernel
theorem dX7_round_179 : decode cX7_round 179 = .ok (.aload_n 0, 1) := by decide +kernel
theorem dX7_round_180 : decode cX7_round 180 = .ok (.getfield 19, 3) := by decide +kernel
theorem dX7_round_183 : decode cX7_round 183 = .ok (.iconst 0, 1) := by decide +kernel
theorem dX7_round_184 : decode cX7_round 184 = .ok (.dup2, 1) := by decide +kernel
theorem dX7_round_185 : decode cX7_round 185 = .ok (.iaload, 1) := by decide +kernel
theorem dX7_round_186 : decode cX7_round 186 = .ok (.iconst 1, 1) := by decide +kernel
theorem dX7_round_187 : decode cX7_round 187 = .ok (.iadd, 1) := by decide +kernel
theorem dX7_round_188 : decode cX7_round 188 = .ok (.iastore, 1) := by decide +kernel
theorem dX7_round_189 : decode cX7_round 189 = .ok (.return_, 1) := by decide +kernel
set_option maxRecDepth 20000 in
theorem ggX7_simulate_X7_in : GoodIn wsX7_simulate wsX7_in := goodIn_r _ [9] (by decide +kernel) (by decide +kernel)
set_option maxRecDepth 20000 in
theorem gX7_simulate_X7_in : GoodIn wsX7_simulate (va_wsS RX7 118 yX7_in wsX7_in) := goodIn_app (goodIn_of _ (by decide +kernel)) ggX7_simulate_X7_in
set_option maxRecDepth 20000 in
theorem ggX7_simulate_X7_refused : GoodIn wsX7_simulate wsX7_refused := goodIn_r _ [13, 14, 75, 76, 77, 78, 79, 80, 81, 82, 83, 84, 85, 86, 87, 88, 89, 90, 91, 92] (by decide +kernel) (by decide +kernel)
set_option maxRecDepth 20000 in
theorem gX7_simulate_X7_refused : GoodIn wsX7_simulate (wsV RX7 125 RX7 yX7_refused wsX7_refused) := goodIn_app (goodIn_of _ (by decide +kernel)) ggX7_simulate_X7_refused
set_option maxRecDepth 20000 in
theorem ggX7_simulate_X7_begin : GoodIn wsX7_simulate wsX7_begin := goodIn_r _ [18, 19, 4, 20, 21, 8, 22, 75, 76, 77, 78, 79, 80, 81, 82, 83, 84, 85, 86, 87, 88, 89, 90, 91, 92] (by decide +kernel) (by decide +kernel)
set_option maxRecDepth 20000 in
theorem gX7_simulate_X7_begin : GoodIn wsX7_simulate (wsV RX7 225 RX7 yX7_begin wsX7_begin) := goodIn_app (goodIn_of _ (by decide +kernel)) ggX7_simulate_X7_begin
set_option maxRecDepth 20000 in
theorem ggX7_simulate_X7_round : GoodIn wsX7_simulate wsX7_round := goodIn_r _ [26, 4, 27, 28, 8, 29, 30, 31, 32, 33, 34, 35, 75, 76, 77, 78, 79, 80, 81, 82, 83, 84, 85, 86, 87, 88, 89, 90, 91, 92] (by decide +kernel) (by decide +kernel)
set_option maxRecDepth 20000 in
theorem gX7_simulate_X7_round : GoodIn wsX7_simulate (wsV RX7 254 RX7 yX7_round wsX7_round) := goodIn_app (goodIn_of _ (by decide +kernel)) ggX7_simulate_X7_round
set_option maxRecDepth 20000 in
theorem ggX7_simulate_X7_lay : GoodIn wsX7_simulate wsX7_lay := goodIn_r _ [39, 40, 41, 42, 5, 43, 44, 45, 46, 8, 47, 30, 31, 32, 33, 34, 35, 48, 49, 50, 51, 52, 53, 54, 55, 56, 57, 58, 59, 20, 21, 22, 60, 61, 62, 63, 64, 65, 66, 67, 68, 69, 70, 71, 75, 76, 77, 78, 79, 80, 81, 82, 83, 84, 85, 86, 87, 88, 89, 90, 91, 92] (by decide +kernel) (by decide +kernel)
set_option maxRecDepth 20000 in
theorem gX7_simulate_X7_lay : GoodIn wsX7_simulate (wsV RX7 108 RX7 yX7_lay wsX7_lay) := goodIn_app (goodIn_of _ (by decide +kernel)) ggX7_simulate_X7_lay
set_option maxRecDepth 20000 in
theorem ggX7_simulate_X7_lettered : GoodIn wsX7_simulate wsX7_lettered := goodIn_r _ [74] (by decide +kernel) (by decide +kernel)
set_option maxRecDepth 20000 in
theorem gX7_simulate_X7_lettered : GoodIn wsX7_simulate (va_wsS RX7 170 yX7_lettered wsX7_lettered) := goodIn_app (goodIn_of _ (by decide +kernel)) ggX7_simulate_X7_lettered
theorem dX7_simulate_0 : decode cX7_simulate 0 = .ok (.aload_n 0, 1) := by decide +kernel
theorem dX7_simulate_1 : decode cX7_simulate 1 = .ok (.iload_n 3, 1) := by decide +kernel
theorem dX7_simulate_2 : decode cX7_simulate 2 = .ok (.i2l, 1) := by decide +kernel
theorem dX7_simulate_3 : decode cX7_simulate 3 = .ok (.lconst 1, 1) := by decide +kernel
theorem dX7_simulate_4 : decode cX7_simulate 4 = .ok (.ldc2_w 248, 3) := by decide +kernel
theorem dX7_simulate_7 : decode cX7_simulate 7 = .ok (.invokestatic 118, 3) := by decide +kernel
theorem dX7_simulate_10 : decode cX7_simulate 10 = .ok (.ifCond .eq 7, 3) := by decide +kernel
theorem dX7_simulate_13 : decode cX7_simulate 13 = .ok (.iconst 0, 1) := by decide +kernel
theorem dX7_simulate_14 : decode cX7_simulate 14 = .ok (.goto 4, 3) := by decide +kernel
theorem dX7_simulate_17 : decode cX7_simulate 17 = .ok (.iconst 1, 1) := by decide +kernel
theorem dX7_simulate_18 : decode cX7_simulate 18 = .ok (.invokevirtual 125, 3) := by decide +kernel
theorem dX7_simulate_21 : decode cX7_simulate 21 = .ok (.ifCond .eq 5, 3) := by decide +kernel
theorem dX7_simulate_24 : decode cX7_simulate 24 = .ok (.iconst 0, 1) := by decide +kernel
theorem dX7_simulate_25 : decode cX7_simulate 25 = .ok (.ireturn, 1) := by decide +kernel
theorem dX7_simulate_26 : decode cX7_simulate 26 = .ok (.aload_n 0, 1) := by decide +kernel
theorem dX7_simulate_27 : decode cX7_simulate 27 = .ok (.invokevirtual 225, 3) := by decide +kernel
theorem dX7_simulate_30 : decode cX7_simulate 30 = .ok (.lload_n 1, 1) := by decide +kernel
theorem dX7_simulate_31 : decode cX7_simulate 31 = .ok (.lstore 4, 2) := by decide +kernel
theorem dX7_simulate_33 : decode cX7_simulate 33 = .ok (.iconst 0, 1) := by decide +kernel
theorem dX7_simulate_34 : decode cX7_simulate 34 = .ok (.istore 6, 2) := by decide +kernel
theorem dX7_simulate_36 : decode cX7_simulate 36 = .ok (.iload 6, 2) := by decide +kernel
theorem dX7_simulate_38 : decode cX7_simulate 38 = .ok (.iload_n 3, 1) := by decide +kernel
theorem dX7_simulate_39 : decode cX7_simulate 39 = .ok (.if_icmp .ge 31, 3) := by decide +kernel
theorem dX7_simulate_42 : decode cX7_simulate 42 = .ok (.lload 4, 2) := by decide +kernel
theorem dX7_simulate_44 : decode cX7_simulate 44 = .ok (.ldc2_w 250, 3) := by decide +kernel
theorem dX7_simulate_47 : decode cX7_simulate 47 = .ok (.lmul, 1) := by decide +kernel
theorem dX7_simulate_48 : decode cX7_simulate 48 = .ok (.ldc2_w 252, 3) := by decide +kernel
theorem dX7_simulate_51 : decode cX7_simulate 51 = .ok (.ladd, 1) := by decide +kernel
theorem dX7_simulate_52 : decode cX7_simulate 52 = .ok (.lstore 4, 2) := by decide +kernel
theorem dX7_simulate_54 : decode cX7_simulate 54 = .ok (.aload_n 0, 1) := by decide +kernel
theorem dX7_simulate_55 : decode cX7_simulate 55 = .ok (.lload 4, 2) := by decide +kernel
theorem dX7_simulate_57 : decode cX7_simulate 57 = .ok (.bipush 33, 2) := by decide +kernel
theorem dX7_simulate_59 : decode cX7_simulate 59 = .ok (.lushr, 1) := by decide +kernel
theorem dX7_simulate_60 : decode cX7_simulate 60 = .ok (.l2i, 1) := by decide +kernel
theorem dX7_simulate_61 : decode cX7_simulate 61 = .ok (.invokevirtual 254, 3) := by decide +kernel
theorem dX7_simulate_64 : decode cX7_simulate 64 = .ok (.iinc 6 1, 3) := by decide +kernel
theorem dX7_simulate_67 : decode cX7_simulate 67 = .ok (.goto (-31), 3) := by decide +kernel
theorem dX7_simulate_70 : decode cX7_simulate 70 = .ok (.aload_n 0, 1) := by decide +kernel
theorem dX7_simulate_71 : decode cX7_simulate 71 = .ok (.aload_n 0, 1) := by decide +kernel
theorem dX7_simulate_72 : decode cX7_simulate 72 = .ok (.getfield 19, 3) := by decide +kernel
theorem dX7_simulate_75 : decode cX7_simulate 75 = .ok (.aload_n 0, 1) := by decide +kernel
theorem dX7_simulate_76 : decode cX7_simulate 76 = .ok (.getfield 19, 3) := by decide +kernel
theorem dX7_simulate_79 : decode cX7_simulate 79 = .ok (.iconst 1, 1) := by decide +kernel
theorem dX7_simulate_80 : decode cX7_simulate 80 = .ok (.iaload, 1) := by decide +kernel
theorem dX7_simulate_81 : decode cX7_simulate 81 = .ok (.invokevirtual 108, 3) := by decide +kernel
theorem dX7_simulate_84 : decode cX7_simulate 84 = .ok (.bipush 100, 2) := by decide +kernel
theorem dX7_simulate_86 : decode cX7_simulate 86 = .ok (.aload_n 0, 1) := by decide +kernel
theorem dX7_simulate_87 : decode cX7_simulate 87 = .ok (.getfield 19, 3) := by decide +kernel
theorem dX7_simulate_90 : decode cX7_simulate 90 = .ok (.iconst 0, 1) := by decide +kernel
theorem dX7_simulate_91 : decode cX7_simulate 91 = .ok (.iaload, 1) := by decide +kernel
theorem dX7_simulate_92 : decode cX7_simulate 92 = .ok (.imul, 1) := by decide +kernel
theorem dX7_simulate_93 : decode cX7_simulate 93 = .ok (.aload_n 0, 1) := by decide +kernel
theorem dX7_simulate_94 : decode cX7_simulate 94 = .ok (.getfield 35, 3) := by decide +kernel
theorem dX7_simulate_97 : decode cX7_simulate 97 = .ok (.aload_n 0, 1) := by decide +kernel
theorem dX7_simulate_98 : decode cX7_simulate 98 = .ok (.getfield 19, 3) := by decide +kernel
theorem dX7_simulate_101 : decode cX7_simulate 101 = .ok (.iconst 0, 1) := by decide +kernel
theorem dX7_simulate_102 : decode cX7_simulate 102 = .ok (.iaload, 1) := by decide +kernel
theorem dX7_simulate_103 : decode cX7_simulate 103 = .ok (.invokestatic 170, 3) := by decide +kernel
theorem dX7_simulate_106 : decode cX7_simulate 106 = .ok (.iadd, 1) := by decide +kernel
theorem dX7_simulate_107 : decode cX7_simulate 107 = .ok (.ireturn, 1) := by decide +kernel
set_option maxRecDepth 20000 in
theorem ggX7_save_X7_in : GoodIn wsX7_save wsX7_in := goodIn_r _ [7] (by decide +kernel) (by decide +kernel)
set_option maxRecDepth 20000 in
theorem gX7_save_X7_in : GoodIn wsX7_save (va_wsS RX7 118 yX7_in wsX7_in) := goodIn_app (goodIn_of _ (by decide +kernel)) ggX7_save_X7_in
set_option maxRecDepth 20000 in
theorem ggX7_save_X7_refused : GoodIn wsX7_save wsX7_refused := goodIn_r _ [11, 12, 16, 17, 18, 19, 20, 21, 22, 23, 24, 25, 26, 27, 28, 29, 30, 31, 32, 33] (by decide +kernel) (by decide +kernel)
set_option maxRecDepth 20000 in
theorem gX7_save_X7_refused : GoodIn wsX7_save (wsV RX7 125 RX7 yX7_refused wsX7_refused) := goodIn_app (goodIn_of _ (by decide +kernel)) ggX7_save_X7_refused
set_option maxRecDepth 20000 in
theorem ggX7_save_X7_copy : GoodIn wsX7_save wsX7_copy := goodIn_r _ [15] (by decide +kernel) (by decide +kernel)
set_option maxRecDepth 20000 in
theorem gX7_save_X7_copy : GoodIn wsX7_save (va_wsS RX7 63 yX7_copy wsX7_copy) := goodIn_app (goodIn_of _ (by decide +kernel)) ggX7_save_X7_copy
theorem dX7_save_0 : decode cX7_save 0 = .ok (.aload_n 0, 1) := by decide +kernel
theorem dX7_save_1 : decode cX7_save 1 = .ok (.iload_n 1, 1) := by decide +kernel
theorem dX7_save_2 : decode cX7_save 2 = .ok (.i2l, 1) := by decide +kernel
theorem dX7_save_3 : decode cX7_save 3 = .ok (.lconst 0, 1) := by decide +kernel
theorem dX7_save_4 : decode cX7_save 4 = .ok (.lconst 1, 1) := by decide +kernel
theorem dX7_save_5 : decode cX7_save 5 = .ok (.invokestatic 118, 3) := by decide +kernel
theorem dX7_save_8 : decode cX7_save 8 = .ok (.ifCond .eq 7, 3) := by decide +kernel
theorem dX7_save_11 : decode cX7_save 11 = .ok (.iconst 0, 1) := by decide +kernel
theorem dX7_save_12 : decode cX7_save 12 = .ok (.goto 4, 3) := by decide +kernel
theorem dX7_save_15 : decode cX7_save 15 = .ok (.iconst 1, 1) := by decide +kernel
theorem dX7_save_16 : decode cX7_save 16 = .ok (.invokevirtual 125, 3) := by decide +kernel
theorem dX7_save_19 : decode cX7_save 19 = .ok (.ifCond .eq 5, 3) := by decide +kernel
theorem dX7_save_22 : decode cX7_save 22 = .ok (.iconst 0, 1) := by decide +kernel
theorem dX7_save_23 : decode cX7_save 23 = .ok (.ireturn, 1) := by decide +kernel
theorem dX7_save_24 : decode cX7_save 24 = .ok (.aload_n 0, 1) := by decide +kernel
theorem dX7_save_25 : decode cX7_save 25 = .ok (.getfield 16, 3) := by decide +kernel
theorem dX7_save_28 : decode cX7_save 28 = .ok (.iconst 0, 1) := by decide +kernel
theorem dX7_save_29 : decode cX7_save 29 = .ok (.aload_n 0, 1) := by decide +kernel
theorem dX7_save_30 : decode cX7_save 30 = .ok (.getfield 25, 3) := by decide +kernel
theorem dX7_save_33 : decode cX7_save 33 = .ok (.sipush 980, 3) := by decide +kernel
theorem dX7_save_36 : decode cX7_save 36 = .ok (.iload_n 1, 1) := by decide +kernel
theorem dX7_save_37 : decode cX7_save 37 = .ok (.imul, 1) := by decide +kernel
theorem dX7_save_38 : decode cX7_save 38 = .ok (.sipush 980, 3) := by decide +kernel
theorem dX7_save_41 : decode cX7_save 41 = .ok (.invokestatic 63, 3) := by decide +kernel
theorem dX7_save_44 : decode cX7_save 44 = .ok (.aload_n 0, 1) := by decide +kernel
theorem dX7_save_45 : decode cX7_save 45 = .ok (.getfield 28, 3) := by decide +kernel
theorem dX7_save_48 : decode cX7_save 48 = .ok (.iload_n 1, 1) := by decide +kernel
theorem dX7_save_49 : decode cX7_save 49 = .ok (.iconst 1, 1) := by decide +kernel
theorem dX7_save_50 : decode cX7_save 50 = .ok (.bastore, 1) := by decide +kernel
theorem dX7_save_51 : decode cX7_save 51 = .ok (.aload_n 0, 1) := by decide +kernel
theorem dX7_save_52 : decode cX7_save 52 = .ok (.getfield 16, 3) := by decide +kernel
theorem dX7_save_55 : decode cX7_save 55 = .ok (.iconst 0, 1) := by decide +kernel
theorem dX7_save_56 : decode cX7_save 56 = .ok (.iaload, 1) := by decide +kernel
theorem dX7_save_57 : decode cX7_save 57 = .ok (.ireturn, 1) := by decide +kernel
set_option maxRecDepth 20000 in
theorem ggX7_restore_X7_in : GoodIn wsX7_restore wsX7_in := goodIn_r _ [8] (by decide +kernel) (by decide +kernel)
set_option maxRecDepth 20000 in
theorem gX7_restore_X7_in : GoodIn wsX7_restore (va_wsS RX7 118 yX7_in wsX7_in) := goodIn_app (goodIn_of _ (by decide +kernel)) ggX7_restore_X7_in
set_option maxRecDepth 20000 in
theorem ggX7_restore_X7_refused : GoodIn wsX7_restore wsX7_refused := goodIn_r _ [12, 13, 17, 18, 19, 20, 21, 22, 23, 24, 25, 26, 27, 28, 29, 30, 31, 32, 33, 34] (by decide +kernel) (by decide +kernel)
set_option maxRecDepth 20000 in
theorem gX7_restore_X7_refused : GoodIn wsX7_restore (wsV RX7 125 RX7 yX7_refused wsX7_refused) := goodIn_app (goodIn_of _ (by decide +kernel)) ggX7_restore_X7_refused
set_option maxRecDepth 20000 in
theorem ggX7_restore_X7_copy : GoodIn wsX7_restore wsX7_copy := goodIn_r _ [16] (by decide +kernel) (by decide +kernel)
set_option maxRecDepth 20000 in
theorem gX7_restore_X7_copy : GoodIn wsX7_restore (va_wsS RX7 63 yX7_copy wsX7_copy) := goodIn_app (goodIn_of _ (by decide +kernel)) ggX7_restore_X7_copy
theorem dX7_restore_0 : decode cX7_restore 0 = .ok (.aload_n 0, 1) := by decide +kernel
theorem dX7_restore_1 : decode cX7_restore 1 = .ok (.iload_n 1, 1) := by decide +kernel
theorem dX7_restore_2 : decode cX7_restore 2 = .ok (.i2l, 1) := by decide +kernel
theorem dX7_restore_3 : decode cX7_restore 3 = .ok (.lconst 0, 1) := by decide +kernel
theorem dX7_restore_4 : decode cX7_restore 4 = .ok (.lconst 1, 1) := by decide +kernel
theorem dX7_restore_5 : decode cX7_restore 5 = .ok (.invokestatic 118, 3) := by decide +kernel
theorem dX7_restore_8 : decode cX7_restore 8 = .ok (.ifCond .ne 7, 3) := by decide +kernel
theorem dX7_restore_11 : decode cX7_restore 11 = .ok (.iconst 1, 1) := by decide +kernel
theorem dX7_restore_12 : decode cX7_restore 12 = .ok (.goto 17, 3) := by decide +kernel
theorem dX7_restore_15 : decode cX7_restore 15 = .ok (.aload_n 0, 1) := by decide +kernel
theorem dX7_restore_16 : decode cX7_restore 16 = .ok (.getfield 28, 3) := by decide +kernel
theorem dX7_restore_19 : decode cX7_restore 19 = .ok (.iload_n 1, 1) := by decide +kernel
theorem dX7_restore_20 : decode cX7_restore 20 = .ok (.baload, 1) := by decide +kernel
theorem dX7_restore_21 : decode cX7_restore 21 = .ok (.ifCond .eq 7, 3) := by decide +kernel
theorem dX7_restore_24 : decode cX7_restore 24 = .ok (.iconst 0, 1) := by decide +kernel
theorem dX7_restore_25 : decode cX7_restore 25 = .ok (.goto 4, 3) := by decide +kernel
theorem dX7_restore_28 : decode cX7_restore 28 = .ok (.iconst 2, 1) := by decide +kernel
theorem dX7_restore_29 : decode cX7_restore 29 = .ok (.invokevirtual 125, 3) := by decide +kernel
theorem dX7_restore_32 : decode cX7_restore 32 = .ok (.ifCond .eq 5, 3) := by decide +kernel
theorem dX7_restore_35 : decode cX7_restore 35 = .ok (.iconst 0, 1) := by decide +kernel
theorem dX7_restore_36 : decode cX7_restore 36 = .ok (.ireturn, 1) := by decide +kernel
theorem dX7_restore_37 : decode cX7_restore 37 = .ok (.aload_n 0, 1) := by decide +kernel
theorem dX7_restore_38 : decode cX7_restore 38 = .ok (.getfield 25, 3) := by decide +kernel
theorem dX7_restore_41 : decode cX7_restore 41 = .ok (.sipush 980, 3) := by decide +kernel
theorem dX7_restore_44 : decode cX7_restore 44 = .ok (.iload_n 1, 1) := by decide +kernel
theorem dX7_restore_45 : decode cX7_restore 45 = .ok (.imul, 1) := by decide +kernel
theorem dX7_restore_46 : decode cX7_restore 46 = .ok (.aload_n 0, 1) := by decide +kernel
theorem dX7_restore_47 : decode cX7_restore 47 = .ok (.getfield 16, 3) := by decide +kernel
theorem dX7_restore_50 : decode cX7_restore 50 = .ok (.iconst 0, 1) := by decide +kernel
theorem dX7_restore_51 : decode cX7_restore 51 = .ok (.sipush 980, 3) := by decide +kernel
theorem dX7_restore_54 : decode cX7_restore 54 = .ok (.invokestatic 63, 3) := by decide +kernel
theorem dX7_restore_57 : decode cX7_restore 57 = .ok (.aload_n 0, 1) := by decide +kernel
theorem dX7_restore_58 : decode cX7_restore 58 = .ok (.iconst 0, 1) := by decide +kernel
theorem dX7_restore_59 : decode cX7_restore 59 = .ok (.putfield 60, 3) := by decide +kernel
theorem dX7_restore_62 : decode cX7_restore 62 = .ok (.aload_n 0, 1) := by decide +kernel
theorem dX7_restore_63 : decode cX7_restore 63 = .ok (.getfield 16, 3) := by decide +kernel
theorem dX7_restore_66 : decode cX7_restore 66 = .ok (.iconst 0, 1) := by decide +kernel
theorem dX7_restore_67 : decode cX7_restore 67 = .ok (.iaload, 1) := by decide +kernel
theorem dX7_restore_68 : decode cX7_restore 68 = .ok (.ireturn, 1) := by decide +kernel
theorem dJ6_compare_7cf53_0 : decode cJ6_compare_7cf53 0 = .ok (.iload_n 0, 1) := by decide +kernel
theorem dJ6_compare_7cf53_1 : decode cJ6_compare_7cf53 1 = .ok (.iload_n 1, 1) := by decide +kernel
theorem dJ6_compare_7cf53_2 : decode cJ6_compare_7cf53 2 = .ok (.if_icmp .ge 7, 3) := by decide +kernel
theorem dJ6_compare_7cf53_5 : decode cJ6_compare_7cf53 5 = .ok (.iconst (-1), 1) := by decide +kernel
theorem dJ6_compare_7cf53_6 : decode cJ6_compare_7cf53 6 = .ok (.goto 13, 3) := by decide +kernel
theorem dJ6_compare_7cf53_9 : decode cJ6_compare_7cf53 9 = .ok (.iload_n 0, 1) := by decide +kernel
theorem dJ6_compare_7cf53_10 : decode cJ6_compare_7cf53 10 = .ok (.iload_n 1, 1) := by decide +kernel
theorem dJ6_compare_7cf53_11 : decode cJ6_compare_7cf53 11 = .ok (.if_icmp .ne 7, 3) := by decide +kernel
theorem dJ6_compare_7cf53_14 : decode cJ6_compare_7cf53 14 = .ok (.iconst 0, 1) := by decide +kernel
theorem dJ6_compare_7cf53_15 : decode cJ6_compare_7cf53 15 = .ok (.goto 4, 3) := by decide +kernel
theorem dJ6_compare_7cf53_18 : decode cJ6_compare_7cf53 18 = .ok (.iconst 1, 1) := by decide +kernel
theorem dJ6_compare_7cf53_19 : decode cJ6_compare_7cf53 19 = .ok (.ireturn, 1) := by decide +kernel
theorem dJ13_compare_74951_0 : decode cJ13_compare_74951 0 = .ok (.lload_n 0, 1) := by decide +kernel
theorem dJ13_compare_74951_1 : decode cJ13_compare_74951 1 = .ok (.lload_n 2, 1) := by decide +kernel
theorem dJ13_compare_74951_2 : decode cJ13_compare_74951 2 = .ok (.lcmp, 1) := by decide +kernel
theorem dJ13_compare_74951_3 : decode cJ13_compare_74951 3 = .ok (.ifCond .ge 7, 3) := by decide +kernel
theorem dJ13_compare_74951_6 : decode cJ13_compare_74951 6 = .ok (.iconst (-1), 1) := by decide +kernel
theorem dJ13_compare_74951_7 : decode cJ13_compare_74951 7 = .ok (.goto 14, 3) := by decide +kernel
theorem dJ13_compare_74951_10 : decode cJ13_compare_74951 10 = .ok (.lload_n 0, 1) := by decide +kernel
theorem dJ13_compare_74951_11 : decode cJ13_compare_74951 11 = .ok (.lload_n 2, 1) := by decide +kernel
theorem dJ13_compare_74951_12 : decode cJ13_compare_74951 12 = .ok (.lcmp, 1) := by decide +kernel
theorem dJ13_compare_74951_13 : decode cJ13_compare_74951 13 = .ok (.ifCond .ne 7, 3) := by decide +kernel
theorem dJ13_compare_74951_16 : decode cJ13_compare_74951 16 = .ok (.iconst 0, 1) := by decide +kernel
theorem dJ13_compare_74951_17 : decode cJ13_compare_74951 17 = .ok (.goto 4, 3) := by decide +kernel
theorem dJ13_compare_74951_20 : decode cJ13_compare_74951 20 = .ok (.iconst 1, 1) := by decide +kernel
theorem dJ13_compare_74951_21 : decode cJ13_compare_74951 21 = .ok (.ireturn, 1) := by decide +kernel
theorem dJ9_max_7cf53_0 : decode cJ9_max_7cf53 0 = .ok (.iload_n 0, 1) := by decide +kernel
theorem dJ9_max_7cf53_1 : decode cJ9_max_7cf53 1 = .ok (.iload_n 1, 1) := by decide +kernel
theorem dJ9_max_7cf53_2 : decode cJ9_max_7cf53 2 = .ok (.if_icmp .lt 7, 3) := by decide +kernel
theorem dJ9_max_7cf53_5 : decode cJ9_max_7cf53 5 = .ok (.iload_n 0, 1) := by decide +kernel
theorem dJ9_max_7cf53_6 : decode cJ9_max_7cf53 6 = .ok (.goto 4, 3) := by decide +kernel
theorem dJ9_max_7cf53_9 : decode cJ9_max_7cf53 9 = .ok (.iload_n 1, 1) := by decide +kernel
theorem dJ9_max_7cf53_10 : decode cJ9_max_7cf53 10 = .ok (.ireturn, 1) := by decide +kernel
set_option maxRecDepth 20000 in
theorem ggL_append_X6_append : GoodIn wsL_append wsX6_append := goodIn_ca (goodIn_ca (goodIn_r _ [7, 8, 9, 10, 11, 12, 13, 14, 15, 16, 17, 18, 19, 20, 21, 22, 23, 24, 25, 26, 27, 28, 29, 30, 31, 32, 33] (by decide +kernel) (by decide +kernel)) (goodIn_sub (fun _ h => List.mem_cons_of_mem _ (List.mem_append_left _ (List.mem_append_right _ h))) (by decide +kernel))) (goodIn_sub (fun _ h => List.mem_cons_of_mem _ (List.mem_append_right _ h)) (by decide +kernel))
set_option maxRecDepth 20000 in
theorem gL_append_X6_append : GoodIn wsL_append (wsV RL 7 RX6 yX6_append wsX6_append) := goodIn_app (goodIn_of _ (by decide +kernel)) ggL_append_X6_append
theorem dL_append_0 : decode cL_append 0 = .ok (.aload_n 2, 1) := by decide +kernel
theorem dL_append_1 : decode cL_append 1 = .ok (.iconst 0, 1) := by decide +kernel
theorem dL_append_2 : decode cL_append 2 = .ok (.aload_n 0, 1) := by decide +kernel
theorem dL_append_3 : decode cL_append 3 = .ok (.iload_n 1, 1) := by decide +kernel
theorem dL_append_4 : decode cL_append 4 = .ok (.invokevirtual 7, 3) := by decide +kernel
theorem dL_append_7 : decode cL_append 7 = .ok (.i2l, 1) := by decide +kernel
theorem dL_append_8 : decode cL_append 8 = .ok (.lastore, 1) := by decide +kernel
theorem dL_append_9 : decode cL_append 9 = .ok (.goto 9, 3) := by decide +kernel
theorem dL_append_12 : decode cL_append 12 = .ok (.astore_n 3, 1) := by decide +kernel
theorem dL_append_13 : decode cL_append 13 = .ok (.iconst 1, 1) := by decide +kernel
theorem dL_append_14 : decode cL_append 14 = .ok (.ireturn, 1) := by decide +kernel
theorem dL_append_15 : decode cL_append 15 = .ok (.astore_n 3, 1) := by decide +kernel
theorem dL_append_16 : decode cL_append 16 = .ok (.iconst 2, 1) := by decide +kernel
theorem dL_append_17 : decode cL_append 17 = .ok (.ireturn, 1) := by decide +kernel
theorem dL_append_18 : decode cL_append 18 = .ok (.iconst 0, 1) := by decide +kernel
theorem dL_append_19 : decode cL_append 19 = .ok (.ireturn, 1) := by decide +kernel
set_option maxRecDepth 20000 in
theorem ggL_load_X6_load : GoodIn wsL_load wsX6_load := goodIn_ca (goodIn_r _ [6, 7, 8, 9, 10, 11, 12, 13, 14, 15, 16, 17, 18, 19, 20, 21, 22, 23, 24, 25, 26, 27, 28, 29, 30, 31, 32, 33, 34, 35, 36, 37, 38, 39, 40, 41, 42, 43, 44, 45, 46, 47, 48, 49, 50, 51, 52, 53, 54, 55, 56, 57, 58, 59, 60, 61, 62, 63, 64, 65, 66, 67, 68, 69, 70, 71, 72, 73, 74, 75, 76, 77, 78, 79, 80, 81, 82, 83, 84, 85, 86, 87, 88, 89, 90, 91, 92, 93, 94, 95, 96, 97, 98, 99, 100, 101, 102, 103, 104, 105, 106, 107, 108, 109, 110, 111, 112, 113, 114, 115, 116, 117, 118, 119, 120, 121, 122, 123, 124, 125, 126, 127, 128, 129, 130, 131, 132, 133, 134, 135, 136, 137, 138, 139, 140, 141, 142, 143, 144, 145, 146, 147, 148, 149, 150, 151, 152, 153, 154, 155, 156, 157, 158, 159, 160, 161, 162, 163, 164, 165, 166, 167, 168, 169, 170, 171, 172, 173, 174, 175, 176, 177, 178, 179, 180, 181, 182, 183, 184, 185] (by decide +kernel) (by decide +kernel)) (goodIn_sub (fun _ h => List.mem_cons_of_mem _ (List.mem_append_right _ h)) (by decide +kernel))
set_option maxRecDepth 20000 in
theorem gL_load_X6_load : GoodIn wsL_load (wsV RL 17 RX6 yX6_load wsX6_load) := goodIn_app (goodIn_of _ (by decide +kernel)) ggL_load_X6_load
theorem dL_load_0 : decode cL_load 0 = .ok (.aload_n 1, 1) := by decide +kernel
theorem dL_load_1 : decode cL_load 1 = .ok (.iconst 0, 1) := by decide +kernel
theorem dL_load_2 : decode cL_load 2 = .ok (.aload_n 0, 1) := by decide +kernel
theorem dL_load_3 : decode cL_load 3 = .ok (.invokevirtual 17, 3) := by decide +kernel
theorem dL_load_6 : decode cL_load 6 = .ok (.i2l, 1) := by decide +kernel
theorem dL_load_7 : decode cL_load 7 = .ok (.lastore, 1) := by decide +kernel
theorem dL_load_8 : decode cL_load 8 = .ok (.goto 6, 3) := by decide +kernel
theorem dL_load_11 : decode cL_load 11 = .ok (.astore_n 2, 1) := by decide +kernel
theorem dL_load_12 : decode cL_load 12 = .ok (.iconst 1, 1) := by decide +kernel
theorem dL_load_13 : decode cL_load 13 = .ok (.ireturn, 1) := by decide +kernel
theorem dL_load_14 : decode cL_load 14 = .ok (.iconst 0, 1) := by decide +kernel
theorem dL_load_15 : decode cL_load 15 = .ok (.ireturn, 1) := by decide +kernel
set_option maxRecDepth 20000 in
theorem ggL_about_X6_about : GoodIn wsL_about wsX6_about := goodIn_ca (goodIn_r _ [6, 7, 8, 9, 10, 11, 12, 13, 14, 15, 16, 17, 18, 19, 20, 21, 22, 23, 24, 25, 26, 27, 28, 29, 30, 31, 32, 33, 34, 35, 36, 37, 38, 39, 40, 41, 42, 43, 44, 45, 46, 47, 48, 49, 50, 51, 52, 53, 54, 55, 56, 57, 58, 59, 60, 61, 62, 63, 64, 65, 66, 67, 68, 69, 70, 71, 72, 73, 74, 75] (by decide +kernel) (by decide +kernel)) (goodIn_sub (fun _ h => List.mem_cons_of_mem _ (List.mem_append_right _ h)) (by decide +kernel))
set_option maxRecDepth 20000 in
theorem gL_about_X6_about : GoodIn wsL_about (wsV RL 21 RX6 yX6_about wsX6_about) := goodIn_app (goodIn_of _ (by decide +kernel)) ggL_about_X6_about
theorem dL_about_0 : decode cL_about 0 = .ok (.aload_n 2, 1) := by decide +kernel
theorem dL_about_1 : decode cL_about 1 = .ok (.iconst 0, 1) := by decide +kernel
theorem dL_about_2 : decode cL_about 2 = .ok (.aload_n 0, 1) := by decide +kernel
theorem dL_about_3 : decode cL_about 3 = .ok (.iload_n 1, 1) := by decide +kernel
theorem dL_about_4 : decode cL_about 4 = .ok (.invokevirtual 21, 3) := by decide +kernel
theorem dL_about_7 : decode cL_about 7 = .ok (.i2l, 1) := by decide +kernel
theorem dL_about_8 : decode cL_about 8 = .ok (.lastore, 1) := by decide +kernel
theorem dL_about_9 : decode cL_about 9 = .ok (.goto 6, 3) := by decide +kernel
theorem dL_about_12 : decode cL_about 12 = .ok (.astore_n 3, 1) := by decide +kernel
theorem dL_about_13 : decode cL_about 13 = .ok (.iconst 1, 1) := by decide +kernel
theorem dL_about_14 : decode cL_about 14 = .ok (.ireturn, 1) := by decide +kernel
theorem dL_about_15 : decode cL_about 15 = .ok (.iconst 0, 1) := by decide +kernel
theorem dL_about_16 : decode cL_about 16 = .ok (.ireturn, 1) := by decide +kernel
set_option maxRecDepth 20000 in
theorem ggL_work_X6_work : GoodIn wsL_work wsX6_work := goodIn_ca (goodIn_ca (goodIn_r _ [7, 8, 9, 10, 11, 12, 13, 14, 15, 16, 17, 18, 6, 19, 20, 21, 22, 23, 24, 25, 26, 27, 28, 29, 30, 31, 32, 33, 34, 35, 36, 37, 38, 39, 40, 41, 42, 43, 44, 45, 46, 47, 48, 49, 50, 51, 52, 53, 54, 55, 56, 57, 58, 59, 60, 61, 62, 63, 64, 65, 66, 67, 68, 69, 70, 71, 72, 73, 74, 75, 76, 77, 78, 79, 80, 81, 82, 83, 84, 85, 86, 87, 88, 89, 90, 91, 92, 93, 94, 95, 96, 97, 98, 99, 100, 101] (by decide +kernel) (by decide +kernel)) (goodIn_sub (fun _ h => List.mem_cons_of_mem _ (List.mem_append_left _ (List.mem_append_right _ h))) (by decide +kernel))) (goodIn_sub (fun _ h => List.mem_cons_of_mem _ (List.mem_append_right _ h)) (by decide +kernel))
set_option maxRecDepth 20000 in
theorem gL_work_X6_work : GoodIn wsL_work (wsV RL 24 RX6 yX6_work wsX6_work) := goodIn_app (goodIn_of _ (by decide +kernel)) ggL_work_X6_work
theorem dL_work_0 : decode cL_work 0 = .ok (.aload_n 3, 1) := by decide +kernel
theorem dL_work_1 : decode cL_work 1 = .ok (.iconst 0, 1) := by decide +kernel
theorem dL_work_2 : decode cL_work 2 = .ok (.aload_n 0, 1) := by decide +kernel
theorem dL_work_3 : decode cL_work 3 = .ok (.iload_n 1, 1) := by decide +kernel
theorem dL_work_4 : decode cL_work 4 = .ok (.iload_n 2, 1) := by decide +kernel
theorem dL_work_5 : decode cL_work 5 = .ok (.invokevirtual 24, 3) := by decide +kernel
theorem dL_work_8 : decode cL_work 8 = .ok (.i2l, 1) := by decide +kernel
theorem dL_work_9 : decode cL_work 9 = .ok (.lastore, 1) := by decide +kernel
theorem dL_work_10 : decode cL_work 10 = .ok (.goto 11, 3) := by decide +kernel
theorem dL_work_13 : decode cL_work 13 = .ok (.astore 4, 2) := by decide +kernel
theorem dL_work_15 : decode cL_work 15 = .ok (.iconst 1, 1) := by decide +kernel
theorem dL_work_16 : decode cL_work 16 = .ok (.ireturn, 1) := by decide +kernel
theorem dL_work_17 : decode cL_work 17 = .ok (.astore 4, 2) := by decide +kernel
theorem dL_work_19 : decode cL_work 19 = .ok (.iconst 2, 1) := by decide +kernel
theorem dL_work_20 : decode cL_work 20 = .ok (.ireturn, 1) := by decide +kernel
theorem dL_work_21 : decode cL_work 21 = .ok (.iconst 0, 1) := by decide +kernel
theorem dL_work_22 : decode cL_work 22 = .ok (.ireturn, 1) := by decide +kernel
set_option maxRecDepth 20000 in
theorem ggL_letter_X6_letter : GoodIn wsL_letter wsX6_letter := goodIn_ca (goodIn_ca (goodIn_r _ [7, 8, 9, 10, 11, 12, 13, 14, 15, 6, 16, 17, 18, 19, 20, 21, 22, 23, 24, 25, 26, 27, 28, 29, 30, 31, 32, 33, 34, 35, 36, 37, 38, 39, 40, 41, 42, 43, 44, 45, 46, 47, 48, 49, 50, 51, 52, 53, 54, 55, 56, 57, 58, 59] (by decide +kernel) (by decide +kernel)) (goodIn_sub (fun _ h => List.mem_cons_of_mem _ (List.mem_append_left _ (List.mem_append_right _ h))) (by decide +kernel))) (goodIn_sub (fun _ h => List.mem_cons_of_mem _ (List.mem_append_right _ h)) (by decide +kernel))
set_option maxRecDepth 20000 in
theorem gL_letter_X6_letter : GoodIn wsL_letter (wsV RL 30 RX6 yX6_letter wsX6_letter) := goodIn_app (goodIn_of _ (by decide +kernel)) ggL_letter_X6_letter
theorem dL_letter_0 : decode cL_letter 0 = .ok (.aload 4, 2) := by decide +kernel
theorem dL_letter_2 : decode cL_letter 2 = .ok (.iconst 0, 1) := by decide +kernel
theorem dL_letter_3 : decode cL_letter 3 = .ok (.aload_n 0, 1) := by decide +kernel
theorem dL_letter_4 : decode cL_letter 4 = .ok (.iload_n 1, 1) := by decide +kernel
theorem dL_letter_5 : decode cL_letter 5 = .ok (.iload_n 2, 1) := by decide +kernel
theorem dL_letter_6 : decode cL_letter 6 = .ok (.iload_n 3, 1) := by decide +kernel
theorem dL_letter_7 : decode cL_letter 7 = .ok (.invokevirtual 30, 3) := by decide +kernel
theorem dL_letter_10 : decode cL_letter 10 = .ok (.i2l, 1) := by decide +kernel
theorem dL_letter_11 : decode cL_letter 11 = .ok (.lastore, 1) := by decide +kernel
theorem dL_letter_12 : decode cL_letter 12 = .ok (.goto 11, 3) := by decide +kernel
theorem dL_letter_15 : decode cL_letter 15 = .ok (.astore 5, 2) := by decide +kernel
theorem dL_letter_17 : decode cL_letter 17 = .ok (.iconst 1, 1) := by decide +kernel
theorem dL_letter_18 : decode cL_letter 18 = .ok (.ireturn, 1) := by decide +kernel
theorem dL_letter_19 : decode cL_letter 19 = .ok (.astore 5, 2) := by decide +kernel
theorem dL_letter_21 : decode cL_letter 21 = .ok (.iconst 2, 1) := by decide +kernel
theorem dL_letter_22 : decode cL_letter 22 = .ok (.ireturn, 1) := by decide +kernel
theorem dL_letter_23 : decode cL_letter 23 = .ok (.iconst 0, 1) := by decide +kernel
theorem dL_letter_24 : decode cL_letter 24 = .ok (.ireturn, 1) := by decide +kernel
set_option maxRecDepth 20000 in
theorem ggL_key_X6_key : GoodIn wsL_key wsX6_key := goodIn_ca (goodIn_ca (goodIn_r _ [7, 8, 9, 10, 11, 12, 13, 14, 6, 15, 16, 17, 18, 19, 20, 21, 22, 23, 24, 25, 26, 27, 28, 29, 30, 31, 32, 33, 34, 35, 36, 37, 38, 39, 40, 41, 42, 43, 44, 45, 46, 47, 48, 49, 50, 51, 52, 53, 54, 55, 56, 57, 58, 59, 60, 61, 62, 63, 64, 65] (by decide +kernel) (by decide +kernel)) (goodIn_sub (fun _ h => List.mem_cons_of_mem _ (List.mem_append_left _ (List.mem_append_right _ h))) (by decide +kernel))) (goodIn_sub (fun _ h => List.mem_cons_of_mem _ (List.mem_append_right _ h)) (by decide +kernel))
set_option maxRecDepth 20000 in
theorem gL_key_X6_key : GoodIn wsL_key (wsV RL 34 RX6 yX6_key wsX6_key) := goodIn_app (goodIn_of _ (by decide +kernel)) ggL_key_X6_key
theorem dL_key_0 : decode cL_key 0 = .ok (.aload_n 3, 1) := by decide +kernel
theorem dL_key_1 : decode cL_key 1 = .ok (.iconst 0, 1) := by decide +kernel
theorem dL_key_2 : decode cL_key 2 = .ok (.aload_n 0, 1) := by decide +kernel
theorem dL_key_3 : decode cL_key 3 = .ok (.iload_n 1, 1) := by decide +kernel
theorem dL_key_4 : decode cL_key 4 = .ok (.iload_n 2, 1) := by decide +kernel
theorem dL_key_5 : decode cL_key 5 = .ok (.invokevirtual 34, 3) := by decide +kernel
theorem dL_key_8 : decode cL_key 8 = .ok (.i2l, 1) := by decide +kernel
theorem dL_key_9 : decode cL_key 9 = .ok (.lastore, 1) := by decide +kernel
theorem dL_key_10 : decode cL_key 10 = .ok (.goto 11, 3) := by decide +kernel
theorem dL_key_13 : decode cL_key 13 = .ok (.astore 4, 2) := by decide +kernel
theorem dL_key_15 : decode cL_key 15 = .ok (.iconst 1, 1) := by decide +kernel
theorem dL_key_16 : decode cL_key 16 = .ok (.ireturn, 1) := by decide +kernel
theorem dL_key_17 : decode cL_key 17 = .ok (.astore 4, 2) := by decide +kernel
theorem dL_key_19 : decode cL_key 19 = .ok (.iconst 2, 1) := by decide +kernel
theorem dL_key_20 : decode cL_key 20 = .ok (.ireturn, 1) := by decide +kernel
theorem dL_key_21 : decode cL_key 21 = .ok (.iconst 0, 1) := by decide +kernel
theorem dL_key_22 : decode cL_key 22 = .ok (.ireturn, 1) := by decide +kernel
set_option maxRecDepth 20000 in
theorem ggL_at_X6_at : GoodIn wsL_at wsX6_at := goodIn_ca (goodIn_r _ [6, 7, 8, 9, 10, 11, 12, 13, 14, 15, 16, 17, 18, 19, 20, 21, 22, 23, 24, 25, 26, 27, 28, 29, 30, 31, 32, 33, 34, 35, 36, 37, 38, 39, 40, 41, 42, 43, 44, 45, 46, 47, 48, 49, 50, 51, 52, 53, 54, 55, 56, 57, 58, 59] (by decide +kernel) (by decide +kernel)) (goodIn_sub (fun _ h => List.mem_cons_of_mem _ (List.mem_append_right _ h)) (by decide +kernel))
set_option maxRecDepth 20000 in
theorem gL_at_X6_at : GoodIn wsL_at (wsV RL 37 RX6 yX6_at wsX6_at) := goodIn_app (goodIn_of _ (by decide +kernel)) ggL_at_X6_at
theorem dL_at_0 : decode cL_at 0 = .ok (.aload_n 2, 1) := by decide +kernel
theorem dL_at_1 : decode cL_at 1 = .ok (.iconst 0, 1) := by decide +kernel
theorem dL_at_2 : decode cL_at 2 = .ok (.aload_n 0, 1) := by decide +kernel
theorem dL_at_3 : decode cL_at 3 = .ok (.iload_n 1, 1) := by decide +kernel
theorem dL_at_4 : decode cL_at 4 = .ok (.invokevirtual 37, 3) := by decide +kernel
theorem dL_at_7 : decode cL_at 7 = .ok (.i2l, 1) := by decide +kernel
theorem dL_at_8 : decode cL_at 8 = .ok (.lastore, 1) := by decide +kernel
theorem dL_at_9 : decode cL_at 9 = .ok (.goto 6, 3) := by decide +kernel
theorem dL_at_12 : decode cL_at 12 = .ok (.astore_n 3, 1) := by decide +kernel
theorem dL_at_13 : decode cL_at 13 = .ok (.iconst 1, 1) := by decide +kernel
theorem dL_at_14 : decode cL_at 14 = .ok (.ireturn, 1) := by decide +kernel
theorem dL_at_15 : decode cL_at 15 = .ok (.iconst 0, 1) := by decide +kernel
theorem dL_at_16 : decode cL_at 16 = .ok (.ireturn, 1) := by decide +kernel
set_option maxRecDepth 20000 in
theorem ggL_printed_X6_printed : GoodIn wsL_printed wsX6_printed := goodIn_ca (goodIn_r _ [6, 7, 8, 9, 10, 11, 12, 13, 14, 15, 16, 17, 18, 19, 20, 21, 22, 23, 24, 25, 26, 27, 28, 29, 30, 31, 32, 33, 34, 35, 36, 37, 38, 39, 40, 41, 42, 43, 44, 45, 46, 47, 48, 49] (by decide +kernel) (by decide +kernel)) (goodIn_sub (fun _ h => List.mem_cons_of_mem _ (List.mem_append_right _ h)) (by decide +kernel))
set_option maxRecDepth 20000 in
theorem gL_printed_X6_printed : GoodIn wsL_printed (wsV RL 40 RX6 yX6_printed wsX6_printed) := goodIn_app (goodIn_of _ (by decide +kernel)) ggL_printed_X6_printed
theorem dL_printed_0 : decode cL_printed 0 = .ok (.aload_n 2, 1) := by decide +kernel
theorem dL_printed_1 : decode cL_printed 1 = .ok (.iconst 0, 1) := by decide +kernel
theorem dL_printed_2 : decode cL_printed 2 = .ok (.aload_n 0, 1) := by decide +kernel
theorem dL_printed_3 : decode cL_printed 3 = .ok (.iload_n 1, 1) := by decide +kernel
theorem dL_printed_4 : decode cL_printed 4 = .ok (.invokevirtual 40, 3) := by decide +kernel
theorem dL_printed_7 : decode cL_printed 7 = .ok (.i2l, 1) := by decide +kernel
theorem dL_printed_8 : decode cL_printed 8 = .ok (.lastore, 1) := by decide +kernel
theorem dL_printed_9 : decode cL_printed 9 = .ok (.goto 6, 3) := by decide +kernel
theorem dL_printed_12 : decode cL_printed 12 = .ok (.astore_n 3, 1) := by decide +kernel
theorem dL_printed_13 : decode cL_printed 13 = .ok (.iconst 1, 1) := by decide +kernel
theorem dL_printed_14 : decode cL_printed 14 = .ok (.ireturn, 1) := by decide +kernel
theorem dL_printed_15 : decode cL_printed 15 = .ok (.iconst 0, 1) := by decide +kernel
theorem dL_printed_16 : decode cL_printed 16 = .ok (.ireturn, 1) := by decide +kernel
set_option maxRecDepth 20000 in
theorem ggL_add_X6_add : GoodIn wsL_add wsX6_add := goodIn_ca (goodIn_r _ [6, 7, 8, 9, 10, 11, 12, 13, 14, 15, 16, 5, 17, 18, 19, 20, 21, 22, 23, 24, 25, 26, 27, 28, 29, 30, 31, 32, 33, 34, 35, 36, 37, 38, 39, 40, 41, 42, 43, 44, 45, 46, 47, 48, 49, 50, 51, 52, 53, 54, 55, 56, 57, 58, 59, 60, 61, 62, 63, 64, 65, 66, 67, 68, 69, 70, 71, 72, 73, 74, 75, 76, 77, 78, 79, 80, 81, 82, 83, 84, 85, 86, 87, 88, 89, 90, 91, 92, 93, 94, 95, 96, 97, 98, 99, 100, 101, 102, 103, 104, 105, 106, 107, 108, 109, 110, 111, 112, 113, 114, 115, 116, 117, 118, 119, 120, 121, 122, 123, 124, 125, 126, 127, 128, 129, 130, 131, 132, 133, 134, 135, 136, 137, 138, 139, 140, 141, 142, 143, 144, 145, 146, 147, 148, 149, 150, 151, 152, 153, 154, 155, 156, 157, 158, 159, 160, 161, 162, 163, 164, 165, 166, 167, 168, 169, 170, 171, 172, 173, 174, 175, 176, 177, 178, 179, 180, 181, 182, 183, 184, 185, 186, 187, 188, 189, 190, 191, 192] (by decide +kernel) (by decide +kernel)) (goodIn_sub (fun _ h => List.mem_cons_of_mem _ (List.mem_append_right _ h)) (by decide +kernel))
set_option maxRecDepth 20000 in
theorem gL_add_X6_add : GoodIn wsL_add (wsV RL 43 RX6 yX6_add wsX6_add) := goodIn_app (goodIn_of _ (by decide +kernel)) ggL_add_X6_add
theorem dL_add_0 : decode cL_add 0 = .ok (.aload_n 1, 1) := by decide +kernel
theorem dL_add_1 : decode cL_add 1 = .ok (.iconst 0, 1) := by decide +kernel
theorem dL_add_2 : decode cL_add 2 = .ok (.aload_n 0, 1) := by decide +kernel
theorem dL_add_3 : decode cL_add 3 = .ok (.invokevirtual 43, 3) := by decide +kernel
theorem dL_add_6 : decode cL_add 6 = .ok (.i2l, 1) := by decide +kernel
theorem dL_add_7 : decode cL_add 7 = .ok (.lastore, 1) := by decide +kernel
theorem dL_add_8 : decode cL_add 8 = .ok (.goto 6, 3) := by decide +kernel
theorem dL_add_11 : decode cL_add 11 = .ok (.astore_n 2, 1) := by decide +kernel
theorem dL_add_12 : decode cL_add 12 = .ok (.iconst 1, 1) := by decide +kernel
theorem dL_add_13 : decode cL_add 13 = .ok (.ireturn, 1) := by decide +kernel
theorem dL_add_14 : decode cL_add 14 = .ok (.iconst 0, 1) := by decide +kernel
theorem dL_add_15 : decode cL_add 15 = .ok (.ireturn, 1) := by decide +kernel
set_option maxRecDepth 20000 in
theorem ggL_change_X6_change : GoodIn wsL_change wsX6_change := goodIn_ca (goodIn_ca (goodIn_r _ [7, 8, 9, 10, 11, 12, 13, 14, 15, 16, 17, 6, 18, 19, 20, 21, 22, 23, 24, 25, 26, 27, 28, 29, 30, 31, 32, 33, 34, 35, 36, 37, 38, 39, 40, 41, 42, 43, 44, 45, 46, 47, 48, 49, 50, 51, 52, 53, 54, 55, 56, 57, 58, 59, 60, 61, 62, 63, 64, 65, 66, 67, 68, 69, 70, 71, 72, 73, 74, 75, 76, 77, 78, 79, 80, 81, 82, 83, 84, 85, 86, 87, 88, 89, 90, 91, 92, 93, 94, 95, 96, 97, 98, 99, 100, 101, 102, 103, 104, 105, 106, 107, 108, 109, 110, 111, 112, 113, 114, 115, 116, 117, 118, 119, 120, 121, 122, 123, 124, 125, 126, 127, 128, 129, 130, 131, 132, 133, 134, 135, 136, 137, 138, 139, 140, 141, 142, 143, 144, 145, 146, 147, 148, 149, 150, 151, 152, 153, 154, 155, 156, 157, 158, 159, 160, 161, 162, 163, 164, 165, 166, 167, 168, 169, 170, 171, 172, 173, 174, 175, 176, 177, 178, 179, 180, 181, 182, 183, 184, 185, 186, 187, 188, 189, 190, 191, 192, 193, 194, 195, 196, 197, 198, 199, 200] (by decide +kernel) (by decide +kernel)) (goodIn_sub (fun _ h => List.mem_cons_of_mem _ (List.mem_append_left _ (List.mem_append_right _ h))) (by decide +kernel))) (goodIn_sub (fun _ h => List.mem_cons_of_mem _ (List.mem_append_right _ h)) (by decide +kernel))
set_option maxRecDepth 20000 in
theorem gL_change_X6_change : GoodIn wsL_change (wsV RL 46 RX6 yX6_change wsX6_change) := goodIn_app (goodIn_of _ (by decide +kernel)) ggL_change_X6_change
theorem dL_change_0 : decode cL_change 0 = .ok (.aload_n 2, 1) := by decide +kernel
theorem dL_change_1 : decode cL_change 1 = .ok (.iconst 0, 1) := by decide +kernel
theorem dL_change_2 : decode cL_change 2 = .ok (.aload_n 0, 1) := by decide +kernel
theorem dL_change_3 : decode cL_change 3 = .ok (.iload_n 1, 1) := by decide +kernel
theorem dL_change_4 : decode cL_change 4 = .ok (.invokevirtual 46, 3) := by decide +kernel
theorem dL_change_7 : decode cL_change 7 = .ok (.i2l, 1) := by decide +kernel
theorem dL_change_8 : decode cL_change 8 = .ok (.lastore, 1) := by decide +kernel
theorem dL_change_9 : decode cL_change 9 = .ok (.goto 9, 3) := by decide +kernel
theorem dL_change_12 : decode cL_change 12 = .ok (.astore_n 3, 1) := by decide +kernel
theorem dL_change_13 : decode cL_change 13 = .ok (.iconst 1, 1) := by decide +kernel
theorem dL_change_14 : decode cL_change 14 = .ok (.ireturn, 1) := by decide +kernel
theorem dL_change_15 : decode cL_change 15 = .ok (.astore_n 3, 1) := by decide +kernel
theorem dL_change_16 : decode cL_change 16 = .ok (.iconst 2, 1) := by decide +kernel
theorem dL_change_17 : decode cL_change 17 = .ok (.ireturn, 1) := by decide +kernel
theorem dL_change_18 : decode cL_change 18 = .ok (.iconst 0, 1) := by decide +kernel
theorem dL_change_19 : decode cL_change 19 = .ok (.ireturn, 1) := by decide +kernel
set_option maxRecDepth 20000 in
theorem ggL_setYear_X6_setYear : GoodIn wsL_setYear wsX6_setYear := goodIn_ca (goodIn_ca (goodIn_r _ [7, 8, 9, 10, 11, 12, 13, 14, 15, 16, 6, 17, 18, 19, 20, 21, 22, 23, 24, 25, 26, 27, 28, 29, 30, 31, 32, 33, 34, 35, 36, 37, 38, 39, 40, 41, 42, 43, 44, 45, 46, 47, 48, 49, 50, 51, 52, 53, 54, 55, 56, 57, 58, 59, 60, 61, 62, 63, 64, 65, 66, 67, 68, 69, 70, 71, 72, 73, 74, 75, 76, 77, 78, 79, 80, 81, 82, 83, 84, 85, 86, 87, 88, 89, 90, 91, 92, 93, 94, 95, 96, 97, 98, 99, 100, 101, 102, 103, 104, 105, 106, 107, 108, 109, 110, 111, 112, 113, 114, 115, 116, 117, 118, 119, 120, 121, 122, 123, 124, 125, 126, 127, 128, 129, 130, 131, 132, 133, 134, 135, 136, 137, 138, 139] (by decide +kernel) (by decide +kernel)) (goodIn_sub (fun _ h => List.mem_cons_of_mem _ (List.mem_append_left _ (List.mem_append_right _ h))) (by decide +kernel))) (goodIn_sub (fun _ h => List.mem_cons_of_mem _ (List.mem_append_right _ h)) (by decide +kernel))
set_option maxRecDepth 20000 in
theorem gL_setYear_X6_setYear : GoodIn wsL_setYear (wsV RL 49 RX6 yX6_setYear wsX6_setYear) := goodIn_app (goodIn_of _ (by decide +kernel)) ggL_setYear_X6_setYear
theorem dL_setYear_0 : decode cL_setYear 0 = .ok (.aload_n 3, 1) := by decide +kernel
theorem dL_setYear_1 : decode cL_setYear 1 = .ok (.iconst 0, 1) := by decide +kernel
theorem dL_setYear_2 : decode cL_setYear 2 = .ok (.aload_n 0, 1) := by decide +kernel
theorem dL_setYear_3 : decode cL_setYear 3 = .ok (.iload_n 1, 1) := by decide +kernel
theorem dL_setYear_4 : decode cL_setYear 4 = .ok (.iload_n 2, 1) := by decide +kernel
theorem dL_setYear_5 : decode cL_setYear 5 = .ok (.invokevirtual 49, 3) := by decide +kernel
theorem dL_setYear_8 : decode cL_setYear 8 = .ok (.i2l, 1) := by decide +kernel
theorem dL_setYear_9 : decode cL_setYear 9 = .ok (.lastore, 1) := by decide +kernel
theorem dL_setYear_10 : decode cL_setYear 10 = .ok (.goto 11, 3) := by decide +kernel
theorem dL_setYear_13 : decode cL_setYear 13 = .ok (.astore 4, 2) := by decide +kernel
theorem dL_setYear_15 : decode cL_setYear 15 = .ok (.iconst 1, 1) := by decide +kernel
theorem dL_setYear_16 : decode cL_setYear 16 = .ok (.ireturn, 1) := by decide +kernel
theorem dL_setYear_17 : decode cL_setYear 17 = .ok (.astore 4, 2) := by decide +kernel
theorem dL_setYear_19 : decode cL_setYear 19 = .ok (.iconst 2, 1) := by decide +kernel
theorem dL_setYear_20 : decode cL_setYear 20 = .ok (.ireturn, 1) := by decide +kernel
theorem dL_setYear_21 : decode cL_setYear 21 = .ok (.iconst 0, 1) := by decide +kernel
theorem dL_setYear_22 : decode cL_setYear 22 = .ok (.ireturn, 1) := by decide +kernel
set_option maxRecDepth 20000 in
theorem ggL_remove_X6_remove : GoodIn wsL_remove wsX6_remove := goodIn_ca (goodIn_r _ [6, 7, 8, 9, 10, 11, 5, 12, 13, 14, 15, 16, 17, 18, 19, 20, 21, 22, 23, 24, 25, 26, 27, 28, 29, 30, 31, 32, 33, 34, 35, 36, 37, 38, 39, 40, 41, 42, 43, 44, 45, 46, 47, 48, 49, 50, 51, 52, 53, 54, 55, 56, 57, 58, 59, 60, 61, 62, 63, 64, 65, 66, 67, 68, 69, 70, 71, 72, 73, 74, 75, 76, 77, 78, 79, 80, 81, 82, 83, 84, 85, 86, 87, 88, 89, 90, 91, 92, 93, 94, 95, 96, 97, 98, 99, 100, 101, 102, 103, 104, 105, 106, 107, 108, 109, 110, 111, 112, 113, 114, 115, 116, 117, 118, 119, 120, 121, 122, 123, 124, 125, 126, 127, 128, 129, 130, 131, 132, 133, 134, 135, 136, 137, 138, 139, 140] (by decide +kernel) (by decide +kernel)) (goodIn_sub (fun _ h => List.mem_cons_of_mem _ (List.mem_append_right _ h)) (by decide +kernel))
set_option maxRecDepth 20000 in
theorem gL_remove_X6_remove : GoodIn wsL_remove (wsV RL 52 RX6 yX6_remove wsX6_remove) := goodIn_app (goodIn_of _ (by decide +kernel)) ggL_remove_X6_remove
theorem dL_remove_0 : decode cL_remove 0 = .ok (.aload_n 2, 1) := by decide +kernel
theorem dL_remove_1 : decode cL_remove 1 = .ok (.iconst 0, 1) := by decide +kernel
theorem dL_remove_2 : decode cL_remove 2 = .ok (.aload_n 0, 1) := by decide +kernel
theorem dL_remove_3 : decode cL_remove 3 = .ok (.iload_n 1, 1) := by decide +kernel
theorem dL_remove_4 : decode cL_remove 4 = .ok (.invokevirtual 52, 3) := by decide +kernel
theorem dL_remove_7 : decode cL_remove 7 = .ok (.i2l, 1) := by decide +kernel
theorem dL_remove_8 : decode cL_remove 8 = .ok (.lastore, 1) := by decide +kernel
theorem dL_remove_9 : decode cL_remove 9 = .ok (.goto 6, 3) := by decide +kernel
theorem dL_remove_12 : decode cL_remove 12 = .ok (.astore_n 3, 1) := by decide +kernel
theorem dL_remove_13 : decode cL_remove 13 = .ok (.iconst 1, 1) := by decide +kernel
theorem dL_remove_14 : decode cL_remove 14 = .ok (.ireturn, 1) := by decide +kernel
theorem dL_remove_15 : decode cL_remove 15 = .ok (.iconst 0, 1) := by decide +kernel
theorem dL_remove_16 : decode cL_remove 16 = .ok (.ireturn, 1) := by decide +kernel
set_option maxRecDepth 20000 in
theorem ggL_setStyle_X6_setStyle : GoodIn wsL_setStyle wsX6_setStyle := goodIn_ca (goodIn_r _ [6, 7, 8, 9, 10, 11, 5, 12, 13, 14, 15, 16, 17, 18, 19, 20, 21, 22, 23, 24, 25, 26, 27, 28, 29, 30, 31, 32, 33, 34, 35, 36, 37, 38, 39, 40, 41, 42, 43, 44, 45, 46, 47, 48, 49, 50, 51, 52, 53, 54, 55, 56, 57, 58, 59, 60, 61, 62, 63, 64, 65, 66, 67, 68, 69, 70, 71, 72, 73, 74, 75, 76, 77, 78, 79, 80, 81, 82, 83, 84, 85, 86, 87, 88, 89, 90, 91, 92, 93, 94, 95, 96, 97, 98, 99, 100, 101, 102, 103, 104, 105, 106, 107, 108, 109, 110, 111, 112, 113, 114, 115, 116, 117, 118, 119, 120, 121, 122, 123, 124, 125, 126, 127, 128, 129, 130] (by decide +kernel) (by decide +kernel)) (goodIn_sub (fun _ h => List.mem_cons_of_mem _ (List.mem_append_right _ h)) (by decide +kernel))
set_option maxRecDepth 20000 in
theorem gL_setStyle_X6_setStyle : GoodIn wsL_setStyle (wsV RL 55 RX6 yX6_setStyle wsX6_setStyle) := goodIn_app (goodIn_of _ (by decide +kernel)) ggL_setStyle_X6_setStyle
theorem dL_setStyle_0 : decode cL_setStyle 0 = .ok (.aload_n 2, 1) := by decide +kernel
theorem dL_setStyle_1 : decode cL_setStyle 1 = .ok (.iconst 0, 1) := by decide +kernel
theorem dL_setStyle_2 : decode cL_setStyle 2 = .ok (.aload_n 0, 1) := by decide +kernel
theorem dL_setStyle_3 : decode cL_setStyle 3 = .ok (.iload_n 1, 1) := by decide +kernel
theorem dL_setStyle_4 : decode cL_setStyle 4 = .ok (.invokevirtual 55, 3) := by decide +kernel
theorem dL_setStyle_7 : decode cL_setStyle 7 = .ok (.i2l, 1) := by decide +kernel
theorem dL_setStyle_8 : decode cL_setStyle 8 = .ok (.lastore, 1) := by decide +kernel
theorem dL_setStyle_9 : decode cL_setStyle 9 = .ok (.goto 6, 3) := by decide +kernel
theorem dL_setStyle_12 : decode cL_setStyle 12 = .ok (.astore_n 3, 1) := by decide +kernel
theorem dL_setStyle_13 : decode cL_setStyle 13 = .ok (.iconst 1, 1) := by decide +kernel
theorem dL_setStyle_14 : decode cL_setStyle 14 = .ok (.ireturn, 1) := by decide +kernel
theorem dL_setStyle_15 : decode cL_setStyle 15 = .ok (.iconst 0, 1) := by decide +kernel
theorem dL_setStyle_16 : decode cL_setStyle 16 = .ok (.ireturn, 1) := by decide +kernel
set_option maxRecDepth 20000 in
theorem ggL_setOrder_X6_setOrder : GoodIn wsL_setOrder wsX6_setOrder := goodIn_ca (goodIn_r _ [6, 7, 8, 9, 10, 11, 12, 13, 14, 15, 16, 17, 18, 19, 20, 21, 22, 23, 24, 25, 26, 27, 28, 29, 30, 31, 32, 33, 34, 35, 36, 37, 38, 39, 40, 41, 42, 43, 44, 45, 46, 47, 48, 49, 50, 51, 52, 53, 54, 55, 56, 57, 58, 59, 60, 61, 62, 63, 64, 65, 66, 67, 68, 69, 70, 71, 72, 73, 74, 75, 76, 77, 78, 79, 80, 81, 82, 83, 84, 85, 86, 87, 88, 89, 90, 91, 92, 93, 94, 95, 96, 97, 98, 99, 100, 101, 102, 103, 104, 105, 106, 107, 108, 109, 110, 111, 112, 113, 114, 115, 116, 117, 118, 119, 120, 121, 122, 123, 124] (by decide +kernel) (by decide +kernel)) (goodIn_sub (fun _ h => List.mem_cons_of_mem _ (List.mem_append_right _ h)) (by decide +kernel))
set_option maxRecDepth 20000 in
theorem gL_setOrder_X6_setOrder : GoodIn wsL_setOrder (wsV RL 58 RX6 yX6_setOrder wsX6_setOrder) := goodIn_app (goodIn_of _ (by decide +kernel)) ggL_setOrder_X6_setOrder
theorem dL_setOrder_0 : decode cL_setOrder 0 = .ok (.aload_n 2, 1) := by decide +kernel
theorem dL_setOrder_1 : decode cL_setOrder 1 = .ok (.iconst 0, 1) := by decide +kernel
theorem dL_setOrder_2 : decode cL_setOrder 2 = .ok (.aload_n 0, 1) := by decide +kernel
theorem dL_setOrder_3 : decode cL_setOrder 3 = .ok (.iload_n 1, 1) := by decide +kernel
theorem dL_setOrder_4 : decode cL_setOrder 4 = .ok (.invokevirtual 58, 3) := by decide +kernel
theorem dL_setOrder_7 : decode cL_setOrder 7 = .ok (.i2l, 1) := by decide +kernel
theorem dL_setOrder_8 : decode cL_setOrder 8 = .ok (.lastore, 1) := by decide +kernel
theorem dL_setOrder_9 : decode cL_setOrder 9 = .ok (.goto 6, 3) := by decide +kernel
theorem dL_setOrder_12 : decode cL_setOrder 12 = .ok (.astore_n 3, 1) := by decide +kernel
theorem dL_setOrder_13 : decode cL_setOrder 13 = .ok (.iconst 1, 1) := by decide +kernel
theorem dL_setOrder_14 : decode cL_setOrder 14 = .ok (.ireturn, 1) := by decide +kernel
theorem dL_setOrder_15 : decode cL_setOrder 15 = .ok (.iconst 0, 1) := by decide +kernel
theorem dL_setOrder_16 : decode cL_setOrder 16 = .ok (.ireturn, 1) := by decide +kernel
set_option maxRecDepth 20000 in
theorem ggL_undo_X6_undo : GoodIn wsL_undo wsX6_undo := goodIn_ca (goodIn_r _ [6, 7, 8, 9, 10, 11, 12, 13, 14, 15, 16, 17, 18, 19, 20, 21, 22, 23, 24, 25, 26, 27, 28, 29, 30, 31, 32, 33, 34, 35, 36, 37, 38, 39, 40, 41, 42, 43, 44, 45, 46, 47, 48, 49, 50, 51, 52, 53, 54, 55, 56, 57, 58, 59, 60, 61, 62, 63, 64, 65] (by decide +kernel) (by decide +kernel)) (goodIn_sub (fun _ h => List.mem_cons_of_mem _ (List.mem_append_right _ h)) (by decide +kernel))
set_option maxRecDepth 20000 in
theorem gL_undo_X6_undo : GoodIn wsL_undo (wsV RL 61 RX6 yX6_undo wsX6_undo) := goodIn_app (goodIn_of _ (by decide +kernel)) ggL_undo_X6_undo
theorem dL_undo_0 : decode cL_undo 0 = .ok (.aload_n 1, 1) := by decide +kernel
theorem dL_undo_1 : decode cL_undo 1 = .ok (.iconst 0, 1) := by decide +kernel
theorem dL_undo_2 : decode cL_undo 2 = .ok (.aload_n 0, 1) := by decide +kernel
theorem dL_undo_3 : decode cL_undo 3 = .ok (.invokevirtual 61, 3) := by decide +kernel
theorem dL_undo_6 : decode cL_undo 6 = .ok (.i2l, 1) := by decide +kernel
theorem dL_undo_7 : decode cL_undo 7 = .ok (.lastore, 1) := by decide +kernel
theorem dL_undo_8 : decode cL_undo 8 = .ok (.goto 6, 3) := by decide +kernel
theorem dL_undo_11 : decode cL_undo 11 = .ok (.astore_n 2, 1) := by decide +kernel
theorem dL_undo_12 : decode cL_undo 12 = .ok (.iconst 1, 1) := by decide +kernel
theorem dL_undo_13 : decode cL_undo 13 = .ok (.ireturn, 1) := by decide +kernel
theorem dL_undo_14 : decode cL_undo 14 = .ok (.iconst 0, 1) := by decide +kernel
theorem dL_undo_15 : decode cL_undo 15 = .ok (.ireturn, 1) := by decide +kernel
set_option maxRecDepth 20000 in
theorem ggL_ifRemoved_X6_ifRemoved : GoodIn wsL_ifRemoved wsX6_ifRemoved := goodIn_ca (goodIn_r _ [6, 7, 8, 9, 5, 10, 11, 12, 13, 14, 15, 16, 17, 18, 19, 20, 21, 22, 23, 24, 25, 26, 27, 28, 29, 30, 31, 32, 33, 34, 35, 36, 37, 38, 39, 40, 41, 42, 43, 44, 45, 46, 47, 48, 49, 50, 51, 52, 53, 54, 55, 56, 57, 58, 59, 60, 61, 62, 63, 64, 65, 66, 67, 68, 69, 70, 71, 72, 73, 74, 75, 76, 77, 78, 79, 80, 81, 82, 83, 84, 85, 86, 87, 88, 89, 90, 91, 92, 93, 94, 95, 96, 97, 98, 99, 100, 101, 102, 103, 104, 105, 106, 107, 108, 109, 110, 111, 112, 113, 114, 115, 116, 117, 118, 119, 120, 121, 122, 123, 124, 125, 126, 127, 128, 129, 130, 131, 132, 133] (by decide +kernel) (by decide +kernel)) (goodIn_sub (fun _ h => List.mem_cons_of_mem _ (List.mem_append_right _ h)) (by decide +kernel))
set_option maxRecDepth 20000 in
theorem gL_ifRemoved_X6_ifRemoved : GoodIn wsL_ifRemoved (wsV RL 64 RX6 yX6_ifRemoved wsX6_ifRemoved) := goodIn_app (goodIn_of _ (by decide +kernel)) ggL_ifRemoved_X6_ifRemoved
theorem dL_ifRemoved_0 : decode cL_ifRemoved 0 = .ok (.aload_n 2, 1) := by decide +kernel
theorem dL_ifRemoved_1 : decode cL_ifRemoved 1 = .ok (.iconst 0, 1) := by decide +kernel
theorem dL_ifRemoved_2 : decode cL_ifRemoved 2 = .ok (.aload_n 0, 1) := by decide +kernel
theorem dL_ifRemoved_3 : decode cL_ifRemoved 3 = .ok (.iload_n 1, 1) := by decide +kernel
theorem dL_ifRemoved_4 : decode cL_ifRemoved 4 = .ok (.invokevirtual 64, 3) := by decide +kernel
theorem dL_ifRemoved_7 : decode cL_ifRemoved 7 = .ok (.i2l, 1) := by decide +kernel
theorem dL_ifRemoved_8 : decode cL_ifRemoved 8 = .ok (.lastore, 1) := by decide +kernel
theorem dL_ifRemoved_9 : decode cL_ifRemoved 9 = .ok (.goto 6, 3) := by decide +kernel
theorem dL_ifRemoved_12 : decode cL_ifRemoved 12 = .ok (.astore_n 3, 1) := by decide +kernel
theorem dL_ifRemoved_13 : decode cL_ifRemoved 13 = .ok (.iconst 1, 1) := by decide +kernel
theorem dL_ifRemoved_14 : decode cL_ifRemoved 14 = .ok (.ireturn, 1) := by decide +kernel
theorem dL_ifRemoved_15 : decode cL_ifRemoved 15 = .ok (.iconst 0, 1) := by decide +kernel
theorem dL_ifRemoved_16 : decode cL_ifRemoved 16 = .ok (.ireturn, 1) := by decide +kernel
set_option maxRecDepth 20000 in
theorem ggL_freeYear_X6_freeYear : GoodIn wsL_freeYear wsX6_freeYear := goodIn_ca (goodIn_r _ [6, 7, 8, 9, 10, 11, 12, 5, 13, 14, 15, 16, 17, 18, 19, 20, 21, 22, 23, 24, 25, 26, 27, 28, 29, 30, 31, 32, 33, 34, 35, 36, 37, 38, 39, 40, 41, 42, 43, 44, 45, 46, 47, 48, 49, 50, 51, 52, 53, 54, 55, 56, 57, 58, 59, 60, 61, 62, 63, 64, 65, 66, 67, 68, 69, 70, 71, 72, 73, 74, 75, 76, 77, 78, 79, 80, 81, 82, 83, 84, 85, 86, 87] (by decide +kernel) (by decide +kernel)) (goodIn_sub (fun _ h => List.mem_cons_of_mem _ (List.mem_append_right _ h)) (by decide +kernel))
set_option maxRecDepth 20000 in
theorem gL_freeYear_X6_freeYear : GoodIn wsL_freeYear (wsV RL 67 RX6 yX6_freeYear wsX6_freeYear) := goodIn_app (goodIn_of _ (by decide +kernel)) ggL_freeYear_X6_freeYear
theorem dL_freeYear_0 : decode cL_freeYear 0 = .ok (.aload_n 2, 1) := by decide +kernel
theorem dL_freeYear_1 : decode cL_freeYear 1 = .ok (.iconst 0, 1) := by decide +kernel
theorem dL_freeYear_2 : decode cL_freeYear 2 = .ok (.aload_n 0, 1) := by decide +kernel
theorem dL_freeYear_3 : decode cL_freeYear 3 = .ok (.iload_n 1, 1) := by decide +kernel
theorem dL_freeYear_4 : decode cL_freeYear 4 = .ok (.invokevirtual 67, 3) := by decide +kernel
theorem dL_freeYear_7 : decode cL_freeYear 7 = .ok (.i2l, 1) := by decide +kernel
theorem dL_freeYear_8 : decode cL_freeYear 8 = .ok (.lastore, 1) := by decide +kernel
theorem dL_freeYear_9 : decode cL_freeYear 9 = .ok (.goto 6, 3) := by decide +kernel
theorem dL_freeYear_12 : decode cL_freeYear 12 = .ok (.astore_n 3, 1) := by decide +kernel
theorem dL_freeYear_13 : decode cL_freeYear 13 = .ok (.iconst 1, 1) := by decide +kernel
theorem dL_freeYear_14 : decode cL_freeYear 14 = .ok (.ireturn, 1) := by decide +kernel
theorem dL_freeYear_15 : decode cL_freeYear 15 = .ok (.iconst 0, 1) := by decide +kernel
theorem dL_freeYear_16 : decode cL_freeYear 16 = .ok (.ireturn, 1) := by decide +kernel
set_option maxRecDepth 20000 in
theorem ggL_lettersWith_X6_lettersWith : GoodIn wsL_lettersWith wsX6_lettersWith := goodIn_ca (goodIn_r _ [6, 7, 8, 9, 5, 10, 11, 12, 13, 14, 15, 16, 17, 18, 19, 20, 21, 22, 23, 24, 25, 26, 27, 28, 29, 30, 31, 32, 33, 34, 35, 36, 37, 38, 39, 40, 41, 42, 43, 44, 45, 46, 47, 48, 49, 50, 51, 52, 53, 54, 55, 56, 57, 58, 59, 60, 61, 62, 63, 64, 65, 66, 67, 68, 69, 70, 71, 72, 73, 74, 75, 76, 77, 78, 79, 80, 81, 82, 83, 84, 85, 86, 87, 88, 89, 90, 91, 92, 93, 94, 95, 96, 97, 98, 99, 100, 101, 102, 103, 104, 105, 106, 107, 108, 109, 110, 111, 112, 113, 114, 115, 116, 117, 118, 119, 120, 121, 122, 123, 124, 125, 126, 127, 128, 129, 130] (by decide +kernel) (by decide +kernel)) (goodIn_sub (fun _ h => List.mem_cons_of_mem _ (List.mem_append_right _ h)) (by decide +kernel))
set_option maxRecDepth 20000 in
theorem gL_lettersWith_X6_lettersWith : GoodIn wsL_lettersWith (wsV RL 70 RX6 yX6_lettersWith wsX6_lettersWith) := goodIn_app (goodIn_of _ (by decide +kernel)) ggL_lettersWith_X6_lettersWith
theorem dL_lettersWith_0 : decode cL_lettersWith 0 = .ok (.aload_n 2, 1) := by decide +kernel
theorem dL_lettersWith_1 : decode cL_lettersWith 1 = .ok (.iconst 0, 1) := by decide +kernel
theorem dL_lettersWith_2 : decode cL_lettersWith 2 = .ok (.aload_n 0, 1) := by decide +kernel
theorem dL_lettersWith_3 : decode cL_lettersWith 3 = .ok (.iload_n 1, 1) := by decide +kernel
theorem dL_lettersWith_4 : decode cL_lettersWith 4 = .ok (.invokevirtual 70, 3) := by decide +kernel
theorem dL_lettersWith_7 : decode cL_lettersWith 7 = .ok (.i2l, 1) := by decide +kernel
theorem dL_lettersWith_8 : decode cL_lettersWith 8 = .ok (.lastore, 1) := by decide +kernel
theorem dL_lettersWith_9 : decode cL_lettersWith 9 = .ok (.goto 6, 3) := by decide +kernel
theorem dL_lettersWith_12 : decode cL_lettersWith 12 = .ok (.astore_n 3, 1) := by decide +kernel
theorem dL_lettersWith_13 : decode cL_lettersWith 13 = .ok (.iconst 1, 1) := by decide +kernel
theorem dL_lettersWith_14 : decode cL_lettersWith 14 = .ok (.ireturn, 1) := by decide +kernel
theorem dL_lettersWith_15 : decode cL_lettersWith 15 = .ok (.iconst 0, 1) := by decide +kernel
theorem dL_lettersWith_16 : decode cL_lettersWith 16 = .ok (.ireturn, 1) := by decide +kernel
set_option maxRecDepth 20000 in
theorem ggL_runScript_X6_runScript : GoodIn wsL_runScript wsX6_runScript := goodIn_ca (goodIn_r _ [6, 7, 8, 9, 10, 11, 12, 13, 14, 15, 16, 17, 18, 19, 20, 21, 22, 23, 24, 25, 26, 27, 28, 29, 30, 31, 32, 33, 34, 35, 36, 5, 37, 38, 39, 40, 41, 42, 43, 44, 45, 46, 47, 48, 49, 50, 51, 52, 53, 54, 55, 56, 57, 58, 59, 60, 61, 62, 63, 64, 65, 66, 67, 68, 69, 70, 71, 72, 73, 74, 75, 76, 77, 78, 79, 80, 81, 82, 83, 84, 85, 86, 87, 88, 89, 90, 91, 92, 93, 94, 95, 96, 97, 98, 99, 100, 101, 102, 103, 104, 105, 106, 107, 108, 109, 110, 111, 112, 113, 114, 115, 116, 117, 118, 119, 120, 121, 122, 123, 124, 125, 126, 127, 128, 129, 130, 131, 132, 133, 134, 135, 136, 137, 138, 139, 140, 141, 142, 143, 144, 145, 146, 147, 148, 149, 150, 151, 152, 153, 154, 155, 156, 157, 158, 159, 160, 161, 162, 163, 164, 165, 166, 167, 168, 169, 170, 171, 172, 173, 174, 175, 176, 177, 178, 179, 180, 181, 182, 183, 184, 185, 186] (by decide +kernel) (by decide +kernel)) (goodIn_sub (fun _ h => List.mem_cons_of_mem _ (List.mem_append_right _ h)) (by decide +kernel))
set_option maxRecDepth 20000 in
theorem gL_runScript_X6_runScript : GoodIn wsL_runScript (wsV RL 73 RX6 yX6_runScript wsX6_runScript) := goodIn_app (goodIn_of _ (by decide +kernel)) ggL_runScript_X6_runScript
theorem dL_runScript_0 : decode cL_runScript 0 = .ok (.aload 4, 2) := by decide +kernel
theorem dL_runScript_2 : decode cL_runScript 2 = .ok (.iconst 0, 1) := by decide +kernel
theorem dL_runScript_3 : decode cL_runScript 3 = .ok (.aload_n 0, 1) := by decide +kernel
theorem dL_runScript_4 : decode cL_runScript 4 = .ok (.iload_n 1, 1) := by decide +kernel
theorem dL_runScript_5 : decode cL_runScript 5 = .ok (.lload_n 2, 1) := by decide +kernel
theorem dL_runScript_6 : decode cL_runScript 6 = .ok (.invokevirtual 73, 3) := by decide +kernel
theorem dL_runScript_9 : decode cL_runScript 9 = .ok (.i2l, 1) := by decide +kernel
theorem dL_runScript_10 : decode cL_runScript 10 = .ok (.lastore, 1) := by decide +kernel
theorem dL_runScript_11 : decode cL_runScript 11 = .ok (.goto 7, 3) := by decide +kernel
theorem dL_runScript_14 : decode cL_runScript 14 = .ok (.astore 5, 2) := by decide +kernel
theorem dL_runScript_16 : decode cL_runScript 16 = .ok (.iconst 1, 1) := by decide +kernel
theorem dL_runScript_17 : decode cL_runScript 17 = .ok (.ireturn, 1) := by decide +kernel
theorem dL_runScript_18 : decode cL_runScript 18 = .ok (.iconst 0, 1) := by decide +kernel
theorem dL_runScript_19 : decode cL_runScript 19 = .ok (.ireturn, 1) := by decide +kernel
set_option maxRecDepth 20000 in
theorem ggL_simulate_X6_simulate : GoodIn wsL_simulate wsX6_simulate := goodIn_ca (goodIn_r _ [6, 7, 8, 9, 10, 11, 12, 13, 14, 15, 16, 17, 18, 19, 20, 21, 22, 23, 24, 25, 26, 27, 28, 29, 30, 31, 32, 33, 34, 35, 36, 37, 38, 39, 5, 40, 41, 42, 43, 44, 45, 46, 47, 48, 49, 50, 51, 52, 53, 54, 55, 56, 57, 58, 59, 60, 61, 62, 63, 64, 65, 66, 67, 68, 69, 70, 71, 72, 73, 74, 75, 76, 77, 78, 79, 80, 81, 82, 83, 84, 85, 86, 87, 88, 89, 90, 91, 92, 93, 94, 95, 96, 97, 98, 99, 100, 101, 102, 103, 104, 105, 106, 107, 108, 109, 110, 111, 112, 113, 114, 115, 116, 117, 118, 119, 120, 121, 122, 123, 124, 125, 126, 127, 128, 129, 130, 131, 132, 133, 134, 135, 136, 137, 138, 139, 140, 141, 142, 143, 144, 145, 146, 147, 148, 149, 150, 151, 152, 153, 154] (by decide +kernel) (by decide +kernel)) (goodIn_sub (fun _ h => List.mem_cons_of_mem _ (List.mem_append_right _ h)) (by decide +kernel))
set_option maxRecDepth 20000 in
theorem gL_simulate_X6_simulate : GoodIn wsL_simulate (wsV RL 77 RX6 yX6_simulate wsX6_simulate) := goodIn_app (goodIn_of _ (by decide +kernel)) ggL_simulate_X6_simulate
theorem dL_simulate_0 : decode cL_simulate 0 = .ok (.aload 4, 2) := by decide +kernel
theorem dL_simulate_2 : decode cL_simulate 2 = .ok (.iconst 0, 1) := by decide +kernel
theorem dL_simulate_3 : decode cL_simulate 3 = .ok (.aload_n 0, 1) := by decide +kernel
theorem dL_simulate_4 : decode cL_simulate 4 = .ok (.lload_n 1, 1) := by decide +kernel
theorem dL_simulate_5 : decode cL_simulate 5 = .ok (.iload_n 3, 1) := by decide +kernel
theorem dL_simulate_6 : decode cL_simulate 6 = .ok (.invokevirtual 77, 3) := by decide +kernel
theorem dL_simulate_9 : decode cL_simulate 9 = .ok (.i2l, 1) := by decide +kernel
theorem dL_simulate_10 : decode cL_simulate 10 = .ok (.lastore, 1) := by decide +kernel
theorem dL_simulate_11 : decode cL_simulate 11 = .ok (.goto 7, 3) := by decide +kernel
theorem dL_simulate_14 : decode cL_simulate 14 = .ok (.astore 5, 2) := by decide +kernel
theorem dL_simulate_16 : decode cL_simulate 16 = .ok (.iconst 1, 1) := by decide +kernel
theorem dL_simulate_17 : decode cL_simulate 17 = .ok (.ireturn, 1) := by decide +kernel
theorem dL_simulate_18 : decode cL_simulate 18 = .ok (.iconst 0, 1) := by decide +kernel
theorem dL_simulate_19 : decode cL_simulate 19 = .ok (.ireturn, 1) := by decide +kernel
set_option maxRecDepth 20000 in
theorem ggL_save_X6_save : GoodIn wsL_save wsX6_save := goodIn_ca (goodIn_r _ [6, 7, 8, 9, 10, 11, 12, 5, 13, 14, 15, 16, 17, 18, 19, 20, 21, 22, 23, 24, 25, 26, 27, 28, 29, 30, 31, 32, 33, 34, 35, 36, 37, 38, 39, 40, 41, 42, 43, 44, 45, 46, 47, 48, 49, 50, 51, 52, 53, 54, 55, 56, 57, 58] (by decide +kernel) (by decide +kernel)) (goodIn_sub (fun _ h => List.mem_cons_of_mem _ (List.mem_append_right _ h)) (by decide +kernel))
set_option maxRecDepth 20000 in
theorem gL_save_X6_save : GoodIn wsL_save (wsV RL 81 RX6 yX6_save wsX6_save) := goodIn_app (goodIn_of _ (by decide +kernel)) ggL_save_X6_save
theorem dL_save_0 : decode cL_save 0 = .ok (.aload_n 2, 1) := by decide +kernel
theorem dL_save_1 : decode cL_save 1 = .ok (.iconst 0, 1) := by decide +kernel
theorem dL_save_2 : decode cL_save 2 = .ok (.aload_n 0, 1) := by decide +kernel
theorem dL_save_3 : decode cL_save 3 = .ok (.iload_n 1, 1) := by decide +kernel
theorem dL_save_4 : decode cL_save 4 = .ok (.invokevirtual 81, 3) := by decide +kernel
theorem dL_save_7 : decode cL_save 7 = .ok (.i2l, 1) := by decide +kernel
theorem dL_save_8 : decode cL_save 8 = .ok (.lastore, 1) := by decide +kernel
theorem dL_save_9 : decode cL_save 9 = .ok (.goto 6, 3) := by decide +kernel
theorem dL_save_12 : decode cL_save 12 = .ok (.astore_n 3, 1) := by decide +kernel
theorem dL_save_13 : decode cL_save 13 = .ok (.iconst 1, 1) := by decide +kernel
theorem dL_save_14 : decode cL_save 14 = .ok (.ireturn, 1) := by decide +kernel
theorem dL_save_15 : decode cL_save 15 = .ok (.iconst 0, 1) := by decide +kernel
theorem dL_save_16 : decode cL_save 16 = .ok (.ireturn, 1) := by decide +kernel
set_option maxRecDepth 20000 in
theorem ggL_restore_X6_restore : GoodIn wsL_restore wsX6_restore := goodIn_ca (goodIn_ca (goodIn_r _ [7, 8, 9, 10, 11, 12, 13, 14, 15, 16, 6, 17, 18, 19, 20, 21, 22, 23, 24, 25, 26, 27, 28, 29, 30, 31, 32, 33, 34, 35, 36, 37, 38, 39, 40, 41, 42, 43, 44, 45, 46, 47, 48, 49, 50, 51, 52, 53, 54, 55, 56, 57, 58, 59, 60, 61, 62, 63, 64, 65, 66, 67, 68, 69, 70, 71] (by decide +kernel) (by decide +kernel)) (goodIn_sub (fun _ h => List.mem_cons_of_mem _ (List.mem_append_left _ (List.mem_append_right _ h))) (by decide +kernel))) (goodIn_sub (fun _ h => List.mem_cons_of_mem _ (List.mem_append_right _ h)) (by decide +kernel))
set_option maxRecDepth 20000 in
theorem gL_restore_X6_restore : GoodIn wsL_restore (wsV RL 84 RX6 yX6_restore wsX6_restore) := goodIn_app (goodIn_of _ (by decide +kernel)) ggL_restore_X6_restore
theorem dL_restore_0 : decode cL_restore 0 = .ok (.aload_n 2, 1) := by decide +kernel
theorem dL_restore_1 : decode cL_restore 1 = .ok (.iconst 0, 1) := by decide +kernel
theorem dL_restore_2 : decode cL_restore 2 = .ok (.aload_n 0, 1) := by decide +kernel
theorem dL_restore_3 : decode cL_restore 3 = .ok (.iload_n 1, 1) := by decide +kernel
theorem dL_restore_4 : decode cL_restore 4 = .ok (.invokevirtual 84, 3) := by decide +kernel
theorem dL_restore_7 : decode cL_restore 7 = .ok (.i2l, 1) := by decide +kernel
theorem dL_restore_8 : decode cL_restore 8 = .ok (.lastore, 1) := by decide +kernel
theorem dL_restore_9 : decode cL_restore 9 = .ok (.goto 9, 3) := by decide +kernel
theorem dL_restore_12 : decode cL_restore 12 = .ok (.astore_n 3, 1) := by decide +kernel
theorem dL_restore_13 : decode cL_restore 13 = .ok (.iconst 1, 1) := by decide +kernel
theorem dL_restore_14 : decode cL_restore 14 = .ok (.ireturn, 1) := by decide +kernel
theorem dL_restore_15 : decode cL_restore 15 = .ok (.astore_n 3, 1) := by decide +kernel
theorem dL_restore_16 : decode cL_restore 16 = .ok (.iconst 2, 1) := by decide +kernel
theorem dL_restore_17 : decode cL_restore 17 = .ok (.ireturn, 1) := by decide +kernel
theorem dL_restore_18 : decode cL_restore 18 = .ok (.iconst 0, 1) := by decide +kernel
theorem dL_restore_19 : decode cL_restore 19 = .ok (.ireturn, 1) := by decide +kernel
set_option maxRecDepth 20000 in
theorem ggL_law_X6_init : GoodIn wsL_law wsX6_init := goodIn_r _ [10, 11, 12, 13, 14, 15, 16, 17, 18, 19, 20, 21, 22, 23, 24, 25, 26, 27, 28, 29, 30, 31, 32, 33, 34, 35, 36, 37, 38, 39, 40, 41, 42, 43, 44, 45, 6, 46, 47, 48, 49, 50, 51, 52, 53, 54, 55, 56, 57, 58, 59, 60, 61, 62, 63, 64, 65, 66, 942, 943, 944, 945, 946, 947, 917, 918, 919, 920, 921, 922, 923, 948, 949, 950, 951, 952, 953, 954, 955, 956, 957, 958, 959, 960, 961, 962, 963] (by decide +kernel) (by decide +kernel)
set_option maxRecDepth 20000 in
theorem gL_law_X6_init : GoodIn wsL_law (wsX6_init) := ggL_law_X6_init
set_option maxRecDepth 20000 in
theorem ggL_law_X7_init : GoodIn wsL_law wsX7_init := goodIn_r _ [69, 70, 12, 13, 56, 71, 72, 73, 74, 75, 76, 32, 77, 78, 79, 80, 81, 82, 83, 84, 85, 5, 86, 924, 925, 926, 927, 928, 929, 930, 931, 932, 933, 934, 935, 936, 937, 938, 939, 940, 941] (by decide +kernel) (by decide +kernel)
set_option maxRecDepth 20000 in
theorem gL_law_X7_init : GoodIn wsL_law (wsX7_init) := ggL_law_X7_init
set_option maxRecDepth 20000 in
theorem ggL_law_L_append : GoodIn wsL_law wsL_append := goodIn_ca (goodIn_ca (goodIn_r _ [90, 91, 92, 93, 94, 95, 2, 96, 97, 98, 99, 100, 17, 101, 102, 103, 104, 16, 105, 106, 39, 917, 918, 919, 920, 921, 922, 923, 942, 943, 944, 945, 946, 947] (by decide +kernel) (by decide +kernel)) (goodIn_sub (fun _ h => List.mem_append_left _ (List.mem_append_left _ (List.mem_append_right _ h))) (by decide +kernel))) (goodIn_sub (fun _ h => List.mem_append_left _ (List.mem_append_right _ h)) (by decide +kernel))
set_option maxRecDepth 20000 in
theorem gL_law_L_append : GoodIn wsL_law (va_wsS RL 91 yL_append wsL_append) := goodIn_app (goodIn_of _ (by decide +kernel)) ggL_law_L_append
set_option maxRecDepth 20000 in
theorem ggL_law_X7_append : GoodIn wsL_law wsX7_append := goodIn_r _ [110, 111, 112, 71, 113, 114, 5, 115, 116, 117, 118, 119, 120, 924, 925, 926, 927, 928, 929, 930, 931, 932, 933, 934, 935, 936, 937, 938, 939, 940, 941] (by decide +kernel) (by decide +kernel)
set_option maxRecDepth 20000 in
theorem gL_law_X7_append : GoodIn wsL_law (wsV RL 96 RX7 yX7_append wsX7_append) := goodIn_app (goodIn_of _ (by decide +kernel)) ggL_law_X7_append
set_option maxRecDepth 20000 in
theorem ggL_law_X7_thrown : GoodIn wsL_law wsX7_thrown := goodIn_r _ [124, 120, 924, 925, 926, 927, 928, 929, 930, 931, 932, 933, 934, 935, 936, 937, 938, 939, 940, 941] (by decide +kernel) (by decide +kernel)
set_option maxRecDepth 20000 in
theorem gL_law_X7_thrown : GoodIn wsL_law (wsV RL 97 RX7 yX7_thrown wsX7_thrown) := goodIn_app (goodIn_of _ (by decide +kernel)) ggL_law_X7_thrown
set_option maxRecDepth 20000 in
theorem ggL_law_X6_clearText : GoodIn wsL_law wsX6_clearText := goodIn_r _ [128, 17, 101, 917, 918, 919, 920, 921, 922, 923, 942, 943, 944, 945, 946, 947] (by decide +kernel) (by decide +kernel)
set_option maxRecDepth 20000 in
theorem gL_law_X6_clearText : GoodIn wsL_law (wsV RL 100 RX6 yX6_clearText wsX6_clearText) := goodIn_app (goodIn_of _ (by decide +kernel)) ggL_law_X6_clearText
set_option maxRecDepth 20000 in
theorem ggL_law_X7_clearText : GoodIn wsL_law wsX7_clearText := goodIn_r _ [132, 120, 112, 924, 925, 926, 927, 928, 929, 930, 931, 932, 933, 934, 935, 936, 937, 938, 939, 940, 941] (by decide +kernel) (by decide +kernel)
set_option maxRecDepth 20000 in
theorem gL_law_X7_clearText : GoodIn wsL_law (wsV RL 103 RX7 yX7_clearText wsX7_clearText) := goodIn_app (goodIn_of _ (by decide +kernel)) ggL_law_X7_clearText
set_option maxRecDepth 20000 in
theorem ggL_law_X6_errorPosition : GoodIn wsL_law wsX6_errorPosition := goodIn_r _ [136, 17, 137, 138, 139, 16, 140, 141, 106, 39, 142, 143, 144, 145, 146, 147, 41, 148, 149, 150, 151, 25, 152, 46, 153, 154, 155, 156, 157, 158, 159, 160, 161, 162, 163, 164, 165, 166, 167, 168, 169, 170, 171, 172, 173, 174, 175, 176, 177, 178, 179, 180, 181, 182, 183, 184, 185, 186, 187, 188, 189, 917, 918, 919, 920, 921, 922, 923, 942, 943, 944, 945, 946, 947, 957, 958, 959, 960] (by decide +kernel) (by decide +kernel)
set_option maxRecDepth 20000 in
theorem gL_law_X6_errorPosition : GoodIn wsL_law (wsV RL 104 RX6 yX6_errorPosition wsX6_errorPosition) := goodIn_app (goodIn_of _ (by decide +kernel)) ggL_law_X6_errorPosition
set_option maxRecDepth 20000 in
theorem ggL_law_X7_errorPosition : GoodIn wsL_law wsX7_errorPosition := goodIn_r _ [193, 120, 194, 195, 196, 5, 197, 198, 199, 72, 112, 84, 85, 86, 200, 201, 202, 203, 204, 205, 206, 207, 208, 209, 210, 211, 212, 213, 71, 214, 215, 216, 217, 218, 219, 113, 114, 115, 220, 221, 222, 223, 224, 225, 226, 227, 228, 229, 230, 231, 232, 233, 924, 925, 926, 927, 928, 929, 930, 931, 932, 933, 934, 935, 936, 937, 938, 939, 940, 941] (by decide +kernel) (by decide +kernel)
set_option maxRecDepth 20000 in
theorem gL_law_X7_errorPosition : GoodIn wsL_law (wsV RL 107 RX7 yX7_errorPosition wsX7_errorPosition) := goodIn_app (goodIn_of _ (by decide +kernel)) ggL_law_X7_errorPosition
set_option maxRecDepth 20000 in
theorem ggL_law_L_load : GoodIn wsL_law wsL_load := goodIn_ca (goodIn_r _ [236, 92, 237, 238, 239, 2, 240, 99, 100, 17, 21, 241, 242, 30, 33, 243, 137, 138, 139, 16, 140, 141, 106, 39, 142, 143, 144, 145, 146, 147, 41, 148, 149, 150, 151, 25, 152, 46, 153, 154, 155, 156, 157, 158, 159, 160, 161, 162, 163, 164, 165, 166, 167, 168, 169, 170, 171, 172, 173, 174, 175, 176, 177, 178, 179, 180, 181, 182, 183, 184, 185, 186, 187, 188, 189, 244, 245, 246, 20, 247, 248, 249, 250, 251, 252, 253, 254, 255, 52, 54, 256, 257, 258, 259, 260, 261, 262, 263, 53, 264, 265, 266, 267, 268, 269, 270, 271, 272, 273, 274, 275, 276, 277, 278, 279, 280, 281, 282, 283, 284, 285, 286, 287, 288, 289, 290, 291, 292, 293, 294, 295, 296, 297, 298, 299, 300, 301, 302, 303, 304, 305, 306, 307, 308, 309, 310, 311, 312, 313, 314, 315, 316, 317, 318, 29, 319, 320, 917, 918, 919, 920, 921, 922, 923, 942, 943, 944, 945, 946, 947, 948, 949, 950, 951, 952, 953, 954, 955, 956, 957, 958, 959, 960, 961, 962, 963] (by decide +kernel) (by decide +kernel)) (goodIn_sub (fun _ h => List.mem_append_left _ (List.mem_append_right _ h)) (by decide +kernel))
set_option maxRecDepth 20000 in
theorem gL_law_L_load : GoodIn wsL_law (va_wsS RL 108 yL_load wsL_load) := goodIn_app (goodIn_of _ (by decide +kernel)) ggL_law_L_load
set_option maxRecDepth 20000 in
theorem ggL_law_X7_load : GoodIn wsL_law wsX7_load := goodIn_r _ [324, 72, 73, 325, 77, 194, 195, 196, 5, 197, 198, 199, 112, 84, 85, 86, 200, 201, 202, 203, 204, 205, 206, 207, 208, 209, 210, 211, 212, 213, 71, 214, 215, 216, 217, 218, 219, 113, 114, 115, 220, 221, 222, 223, 224, 225, 226, 227, 228, 229, 230, 231, 232, 233, 116, 117, 118, 119, 120, 326, 327, 328, 924, 925, 926, 927, 928, 929, 930, 931, 932, 933, 934, 935, 936, 937, 938, 939, 940, 941] (by decide +kernel) (by decide +kernel)
set_option maxRecDepth 20000 in
theorem gL_law_X7_load : GoodIn wsL_law (wsV RL 111 RX7 yX7_load wsX7_load) := goodIn_app (goodIn_of _ (by decide +kernel)) ggL_law_X7_load
set_option maxRecDepth 20000 in
theorem ggL_law_L_about : GoodIn wsL_law wsL_about := goodIn_ca (goodIn_r _ [331, 91, 332, 333, 334, 2, 335, 97, 98, 21, 243, 336, 337, 338, 339, 340, 341, 20, 342, 248, 54, 343, 344, 279, 345, 346, 347, 348, 349, 350, 351, 352, 353, 354, 355, 356, 357, 358, 359, 360, 361, 362, 363, 174, 364, 365, 274, 275, 366, 367, 368, 369, 370, 371, 372, 373, 374, 375, 251, 57, 917, 918, 919, 920, 921, 922, 923, 948, 949, 950, 951, 952, 953, 954, 955, 956] (by decide +kernel) (by decide +kernel)) (goodIn_sub (fun _ h => List.mem_append_left _ (List.mem_append_left _ (List.mem_append_right _ h))) (by decide +kernel))
set_option maxRecDepth 20000 in
theorem gL_law_L_about : GoodIn wsL_law (va_wsS RL 112 yL_about wsL_about) := goodIn_app (goodIn_of _ (by decide +kernel)) ggL_law_L_about
set_option maxRecDepth 20000 in
theorem ggL_law_X7_about : GoodIn wsL_law wsX7_about := goodIn_r _ [379, 380, 79, 73, 113, 114, 5, 115, 116, 117, 118, 119, 120, 381, 382, 383, 384, 385, 386, 387, 388, 83, 78, 80, 81, 389, 390, 391, 392, 204, 205, 206, 207, 208, 209, 393, 394, 395, 396, 397, 398, 399, 400, 401, 402, 403, 404, 326, 327, 328, 405, 406, 407, 408, 409, 410, 411, 412, 413, 414, 415, 416, 417, 418, 419, 420, 421, 422, 423, 424, 425, 426, 427, 428, 429, 430, 431, 924, 925, 926, 927, 928, 929, 930, 931, 932, 933, 934, 935, 936, 937, 938, 939, 940, 941] (by decide +kernel) (by decide +kernel)
set_option maxRecDepth 20000 in
theorem gL_law_X7_about : GoodIn wsL_law (wsV RL 114 RX7 yX7_about wsX7_about) := goodIn_app (goodIn_of _ (by decide +kernel)) ggL_law_X7_about
set_option maxRecDepth 20000 in
theorem ggL_law_L_work : GoodIn wsL_law wsL_work := goodIn_ca (goodIn_ca (goodIn_r _ [434, 435, 91, 436, 437, 438, 2, 439, 97, 98, 21, 440, 441, 442, 443, 444, 445, 446, 447, 448, 449, 450, 451, 452, 453, 20, 454, 248, 455, 363, 174, 364, 365, 274, 275, 456, 359, 279, 360, 361, 344, 345, 362, 366, 367, 368, 369, 370, 371, 457, 458, 459, 460, 461, 298, 299, 300, 301, 52, 264, 250, 302, 303, 304, 305, 25, 306, 46, 307, 308, 309, 310, 311, 312, 313, 314, 315, 462, 463, 464, 465, 53, 917, 918, 919, 920, 921, 922, 923, 948, 949, 950, 951, 952, 953, 954, 955, 956, 957, 958, 959, 960] (by decide +kernel) (by decide +kernel)) (goodIn_sub (fun _ h => List.mem_append_left _ (List.mem_append_left _ (List.mem_append_right _ h))) (by decide +kernel))) (goodIn_sub (fun _ h => List.mem_append_right _ h) (by decide +kernel))
set_option maxRecDepth 20000 in
theorem gL_law_L_work : GoodIn wsL_law (va_wsS RL 115 yL_work wsL_work) := goodIn_app (goodIn_of _ (by decide +kernel)) ggL_law_L_work
set_option maxRecDepth 20000 in
theorem ggL_law_X7_work : GoodIn wsL_law wsX7_work := goodIn_r _ [469, 470, 73, 78, 79, 81, 80, 471, 472, 473, 5, 474, 113, 114, 115, 116, 117, 118, 119, 120, 381, 382, 383, 384, 385, 386, 387, 388, 83, 389, 390, 391, 392, 204, 205, 206, 207, 208, 209, 393, 394, 395, 396, 397, 398, 399, 400, 401, 402, 403, 404, 326, 327, 328, 405, 406, 407, 408, 409, 410, 411, 412, 413, 414, 415, 416, 924, 925, 926, 927, 928, 929, 930, 931, 932, 933, 934, 935, 936, 937, 938, 939, 940, 941] (by decide +kernel) (by decide +kernel)
set_option maxRecDepth 20000 in
theorem gL_law_X7_work : GoodIn wsL_law (wsV RL 118 RX7 yX7_work wsX7_work) := goodIn_app (goodIn_of _ (by decide +kernel)) ggL_law_X7_work
set_option maxRecDepth 20000 in
theorem ggL_law_L_letter : GoodIn wsL_law wsL_letter := goodIn_ca (goodIn_ca (goodIn_r _ [477, 435, 91, 478, 479, 480, 2, 481, 97, 98, 21, 440, 442, 445, 446, 447, 448, 449, 450, 451, 452, 453, 20, 454, 248, 482, 483, 484, 25, 485, 153, 46, 155, 486, 487, 174, 488, 365, 274, 275, 917, 918, 919, 920, 921, 922, 923, 948, 949, 950, 951, 952, 953, 954, 955, 956, 957, 958, 959, 960] (by decide +kernel) (by decide +kernel)) (goodIn_sub (fun _ h => List.mem_append_left _ (List.mem_append_left _ (List.mem_append_right _ h))) (by decide +kernel))) (goodIn_sub (fun _ h => List.mem_append_right _ h) (by decide +kernel))
set_option maxRecDepth 20000 in
theorem gL_law_L_letter : GoodIn wsL_law (va_wsS RL 119 yL_letter wsL_letter) := goodIn_app (goodIn_of _ (by decide +kernel)) ggL_law_L_letter
set_option maxRecDepth 20000 in
theorem ggL_law_X7_letter : GoodIn wsL_law wsX7_letter := goodIn_r _ [492, 73, 471, 472, 473, 5, 474, 113, 114, 115, 204, 205, 206, 116, 117, 118, 119, 120, 207, 208, 209, 924, 925, 926, 927, 928, 929, 930, 931, 932, 933, 934, 935, 936, 937, 938, 939, 940, 941] (by decide +kernel) (by decide +kernel)
set_option maxRecDepth 20000 in
theorem gL_law_X7_letter : GoodIn wsL_law (wsV RL 122 RX7 yX7_letter wsX7_letter) := goodIn_app (goodIn_of _ (by decide +kernel)) ggL_law_X7_letter
set_option maxRecDepth 20000 in
theorem ggL_law_L_key : GoodIn wsL_law wsL_key := goodIn_ca (goodIn_ca (goodIn_r _ [495, 435, 91, 496, 497, 498, 2, 499, 97, 98, 21, 444, 445, 446, 447, 448, 449, 450, 451, 452, 453, 20, 454, 248, 500, 501, 279, 502, 362, 363, 174, 364, 365, 274, 275, 366, 367, 368, 369, 370, 371, 503, 487, 488, 504, 505, 506, 361, 344, 345, 917, 918, 919, 920, 921, 922, 923, 948, 949, 950, 951, 952, 953, 954, 955, 956] (by decide +kernel) (by decide +kernel)) (goodIn_sub (fun _ h => List.mem_append_left _ (List.mem_append_left _ (List.mem_append_right _ h))) (by decide +kernel))) (goodIn_sub (fun _ h => List.mem_append_right _ h) (by decide +kernel))
set_option maxRecDepth 20000 in
theorem gL_law_L_key : GoodIn wsL_law (va_wsS RL 123 yL_key wsL_key) := goodIn_app (goodIn_of _ (by decide +kernel)) ggL_law_L_key
set_option maxRecDepth 20000 in
theorem ggL_law_X7_key : GoodIn wsL_law wsX7_key := goodIn_r _ [510, 78, 471, 472, 473, 5, 474, 73, 113, 114, 115, 116, 117, 118, 119, 120, 381, 382, 383, 384, 385, 386, 387, 388, 83, 80, 79, 81, 389, 390, 391, 392, 204, 205, 206, 207, 208, 209, 393, 394, 395, 396, 397, 398, 399, 400, 401, 402, 403, 404, 326, 327, 328, 405, 406, 407, 408, 409, 410, 411, 412, 413, 414, 415, 416, 924, 925, 926, 927, 928, 929, 930, 931, 932, 933, 934, 935, 936, 937, 938, 939, 940, 941] (by decide +kernel) (by decide +kernel)
set_option maxRecDepth 20000 in
theorem gL_law_X7_key : GoodIn wsL_law (wsV RL 125 RX7 yX7_key wsX7_key) := goodIn_app (goodIn_of _ (by decide +kernel)) ggL_law_X7_key
set_option maxRecDepth 20000 in
theorem ggL_law_L_at : GoodIn wsL_law wsL_at := goodIn_ca (goodIn_r _ [513, 91, 514, 515, 516, 2, 517, 97, 98, 21, 243, 458, 459, 460, 20, 461, 248, 298, 299, 300, 301, 52, 264, 250, 302, 303, 304, 305, 25, 306, 46, 307, 308, 309, 310, 311, 312, 313, 314, 315, 917, 918, 919, 920, 921, 922, 923, 948, 949, 950, 951, 952, 953, 954, 955, 956, 957, 958, 959, 960] (by decide +kernel) (by decide +kernel)) (goodIn_sub (fun _ h => List.mem_append_left _ (List.mem_append_left _ (List.mem_append_right _ h))) (by decide +kernel))
set_option maxRecDepth 20000 in
theorem gL_law_L_at : GoodIn wsL_law (va_wsS RL 126 yL_at wsL_at) := goodIn_app (goodIn_of _ (by decide +kernel)) ggL_law_L_at
set_option maxRecDepth 20000 in
theorem ggL_law_X7_at : GoodIn wsL_law wsX7_at := goodIn_r _ [521, 73, 81, 116, 117, 118, 5, 119, 120, 381, 382, 383, 384, 385, 386, 387, 388, 83, 78, 80, 79, 389, 390, 391, 392, 204, 205, 206, 207, 208, 209, 393, 394, 395, 396, 397, 398, 399, 400, 401, 402, 403, 404, 326, 327, 328, 405, 406, 407, 408, 409, 410, 411, 412, 413, 414, 415, 416, 924, 925, 926, 927, 928, 929, 930, 931, 932, 933, 934, 935, 936, 937, 938, 939, 940, 941] (by decide +kernel) (by decide +kernel)
set_option maxRecDepth 20000 in
theorem gL_law_X7_at : GoodIn wsL_law (wsV RL 128 RX7 yX7_at wsX7_at) := goodIn_app (goodIn_of _ (by decide +kernel)) ggL_law_X7_at
set_option maxRecDepth 20000 in
theorem ggL_law_X6_meaning : GoodIn wsL_law wsX6_meaning := goodIn_r _ [525, 21, 243, 17, 444, 526, 527, 528, 16, 529, 106, 39, 530, 359, 279, 360, 361, 344, 345, 362, 363, 174, 364, 365, 274, 275, 366, 367, 368, 369, 370, 371, 531, 501, 502, 503, 487, 488, 504, 505, 506, 917, 918, 919, 920, 921, 922, 923, 948, 949, 950, 951, 952, 953, 954, 955, 956, 942, 943, 944, 945, 946, 947] (by decide +kernel) (by decide +kernel)
set_option maxRecDepth 20000 in
theorem gL_law_X6_meaning : GoodIn wsL_law (wsV RL 129 RX6 yX6_meaning wsX6_meaning) := goodIn_app (goodIn_of _ (by decide +kernel)) ggL_law_X6_meaning
set_option maxRecDepth 20000 in
theorem ggL_law_X7_meaning : GoodIn wsL_law wsX7_meaning := goodIn_r _ [535, 120, 73, 78, 381, 382, 383, 5, 384, 385, 386, 387, 388, 83, 80, 79, 81, 389, 390, 391, 392, 204, 205, 206, 207, 208, 209, 393, 394, 395, 396, 397, 398, 399, 400, 401, 402, 403, 404, 326, 327, 328, 405, 406, 407, 408, 409, 410, 411, 412, 413, 414, 415, 416, 536, 537, 538, 539, 112, 71, 924, 925, 926, 927, 928, 929, 930, 931, 932, 933, 934, 935, 936, 937, 938, 939, 940, 941] (by decide +kernel) (by decide +kernel)
set_option maxRecDepth 20000 in
theorem gL_law_X7_meaning : GoodIn wsL_law (wsV RL 132 RX7 yX7_meaning wsX7_meaning) := goodIn_app (goodIn_of _ (by decide +kernel)) ggL_law_X7_meaning
set_option maxRecDepth 20000 in
theorem ggL_law_X6_printedMeaning : GoodIn wsL_law wsX6_printedMeaning := goodIn_r _ [543, 21, 338, 17, 544, 545, 526, 527, 528, 16, 529, 106, 39, 530, 359, 279, 360, 361, 344, 345, 362, 363, 174, 364, 365, 274, 275, 366, 367, 368, 369, 370, 371, 531, 501, 502, 503, 487, 488, 504, 505, 506, 917, 918, 919, 920, 921, 922, 923, 948, 949, 950, 951, 952, 953, 954, 955, 956, 942, 943, 944, 945, 946, 947] (by decide +kernel) (by decide +kernel)
set_option maxRecDepth 20000 in
theorem gL_law_X6_printedMeaning : GoodIn wsL_law (wsV RL 133 RX6 yX6_printedMeaning wsX6_printedMeaning) := goodIn_app (goodIn_of _ (by decide +kernel)) ggL_law_X6_printedMeaning
set_option maxRecDepth 20000 in
theorem ggL_law_X7_printedMeaning : GoodIn wsL_law wsX7_printedMeaning := goodIn_r _ [549, 120, 73, 536, 537, 538, 5, 539, 112, 71, 924, 925, 926, 927, 928, 929, 930, 931, 932, 933, 934, 935, 936, 937, 938, 939, 940, 941] (by decide +kernel) (by decide +kernel)
set_option maxRecDepth 20000 in
theorem gL_law_X7_printedMeaning : GoodIn wsL_law (wsV RL 136 RX7 yX7_printedMeaning wsX7_printedMeaning) := goodIn_app (goodIn_of _ (by decide +kernel)) ggL_law_X7_printedMeaning
set_option maxRecDepth 20000 in
theorem ggL_law_L_printed : GoodIn wsL_law wsL_printed := goodIn_ca (goodIn_r _ [552, 91, 553, 554, 555, 2, 556, 97, 98, 21, 557, 558, 559, 20, 560, 251, 561, 562, 563, 564, 55, 57, 565, 566, 567, 568, 248, 54, 569, 570, 571, 572, 573, 574, 917, 918, 919, 920, 921, 922, 923, 948, 949, 950, 951, 952, 953, 954, 955, 956] (by decide +kernel) (by decide +kernel)) (goodIn_sub (fun _ h => List.mem_append_left _ (List.mem_append_left _ (List.mem_append_right _ h))) (by decide +kernel))
set_option maxRecDepth 20000 in
theorem gL_law_L_printed : GoodIn wsL_law (va_wsS RL 137 yL_printed wsL_printed) := goodIn_app (goodIn_of _ (by decide +kernel)) ggL_law_L_printed
set_option maxRecDepth 20000 in
theorem ggL_law_X7_printed : GoodIn wsL_law wsX7_printed := goodIn_r _ [578, 232, 73, 113, 114, 5, 115, 116, 117, 118, 119, 120, 579, 580, 581, 582, 385, 386, 387, 388, 83, 78, 80, 79, 81, 389, 390, 391, 392, 204, 205, 206, 207, 208, 209, 393, 394, 395, 396, 397, 398, 399, 400, 401, 402, 403, 404, 326, 327, 328, 405, 406, 407, 408, 409, 410, 411, 412, 413, 414, 415, 416, 583, 584, 585, 586, 924, 925, 926, 927, 928, 929, 930, 931, 932, 933, 934, 935, 936, 937, 938, 939, 940, 941] (by decide +kernel) (by decide +kernel)
set_option maxRecDepth 20000 in
theorem gL_law_X7_printed : GoodIn wsL_law (wsV RL 139 RX7 yX7_printed wsX7_printed) := goodIn_app (goodIn_of _ (by decide +kernel)) ggL_law_X7_printed
set_option maxRecDepth 20000 in
theorem ggL_law_L_add : GoodIn wsL_law wsL_add := goodIn_ca (goodIn_r _ [589, 92, 590, 591, 592, 2, 593, 99, 100, 21, 243, 30, 17, 242, 594, 595, 596, 597, 241, 137, 138, 139, 16, 140, 141, 106, 39, 142, 143, 144, 145, 146, 147, 41, 148, 149, 150, 151, 25, 152, 46, 153, 154, 155, 156, 157, 158, 159, 160, 161, 162, 163, 164, 165, 166, 167, 168, 169, 170, 171, 172, 173, 174, 175, 176, 177, 178, 179, 180, 181, 182, 183, 184, 185, 186, 187, 188, 189, 598, 599, 600, 29, 601, 320, 602, 65, 603, 604, 605, 20, 606, 248, 249, 250, 251, 52, 53, 54, 55, 57, 256, 257, 258, 259, 252, 253, 254, 255, 260, 261, 262, 263, 264, 265, 266, 267, 268, 269, 270, 271, 272, 273, 274, 275, 276, 277, 278, 279, 280, 281, 282, 283, 284, 285, 286, 287, 288, 289, 290, 291, 292, 293, 294, 295, 296, 297, 298, 299, 300, 301, 302, 303, 304, 305, 306, 307, 308, 309, 310, 311, 312, 313, 314, 315, 917, 918, 919, 920, 921, 922, 923, 948, 949, 950, 951, 952, 953, 954, 955, 956, 942, 943, 944, 945, 946, 947, 957, 958, 959, 960, 961, 962, 963] (by decide +kernel) (by decide +kernel)) (goodIn_sub (fun _ h => List.mem_append_left _ (List.mem_append_right _ h)) (by decide +kernel))
set_option maxRecDepth 20000 in
theorem gL_law_L_add : GoodIn wsL_law (va_wsS RL 140 yL_add wsL_add) := goodIn_app (goodIn_of _ (by decide +kernel)) ggL_law_L_add
set_option maxRecDepth 20000 in
theorem ggL_law_X7_add : GoodIn wsL_law wsX7_add := goodIn_r _ [610, 73, 72, 611, 612, 613, 5, 614, 194, 195, 196, 197, 198, 199, 112, 84, 85, 86, 200, 201, 202, 203, 204, 205, 206, 207, 208, 209, 210, 211, 212, 213, 71, 214, 215, 216, 217, 218, 219, 113, 114, 115, 220, 221, 222, 223, 224, 225, 226, 227, 228, 229, 230, 231, 232, 233, 116, 117, 118, 119, 120, 615, 616, 617, 618, 325, 75, 326, 327, 328, 924, 925, 926, 927, 928, 929, 930, 931, 932, 933, 934, 935, 936, 937, 938, 939, 940, 941] (by decide +kernel) (by decide +kernel)
set_option maxRecDepth 20000 in
theorem gL_law_X7_add : GoodIn wsL_law (wsV RL 142 RX7 yX7_add wsX7_add) := goodIn_app (goodIn_of _ (by decide +kernel)) ggL_law_X7_add
set_option maxRecDepth 20000 in
theorem ggL_law_L_change : GoodIn wsL_law wsL_change := goodIn_ca (goodIn_ca (goodIn_r _ [621, 435, 92, 622, 623, 624, 2, 625, 99, 100, 30, 21, 440, 17, 242, 445, 446, 447, 448, 449, 450, 451, 452, 453, 20, 454, 248, 594, 595, 596, 597, 241, 137, 138, 139, 16, 140, 141, 106, 39, 142, 143, 144, 145, 146, 147, 41, 148, 149, 150, 151, 25, 152, 46, 153, 154, 155, 156, 157, 158, 159, 160, 161, 162, 163, 164, 165, 166, 167, 168, 169, 170, 171, 172, 173, 174, 175, 176, 177, 178, 179, 180, 181, 182, 183, 184, 185, 186, 187, 188, 189, 598, 599, 600, 29, 601, 320, 602, 65, 603, 604, 605, 606, 249, 250, 251, 52, 53, 54, 55, 57, 256, 257, 258, 259, 626, 260, 261, 262, 263, 264, 265, 266, 267, 268, 269, 270, 271, 272, 273, 274, 275, 276, 277, 278, 279, 280, 281, 282, 283, 284, 285, 286, 287, 288, 289, 290, 291, 292, 293, 294, 295, 296, 297, 298, 299, 300, 301, 302, 303, 304, 305, 306, 307, 308, 309, 310, 311, 312, 313, 314, 315, 917, 918, 919, 920, 921, 922, 923, 948, 949, 950, 951, 952, 953, 954, 955, 956, 942, 943, 944, 945, 946, 947, 957, 958, 959, 960, 961, 962, 963] (by decide +kernel) (by decide +kernel)) (goodIn_sub (fun _ h => List.mem_append_left _ (List.mem_append_right _ h)) (by decide +kernel))) (goodIn_sub (fun _ h => List.mem_append_right _ h) (by decide +kernel))
set_option maxRecDepth 20000 in
theorem gL_law_L_change : GoodIn wsL_law (va_wsS RL 143 yL_change wsL_change) := goodIn_app (goodIn_of _ (by decide +kernel)) ggL_law_L_change
set_option maxRecDepth 20000 in
theorem ggL_law_X7_change : GoodIn wsL_law wsX7_change := goodIn_r _ [630, 72, 73, 471, 472, 473, 5, 474, 113, 114, 115, 611, 612, 613, 614, 194, 195, 196, 197, 198, 199, 112, 84, 85, 86, 200, 201, 202, 203, 204, 205, 206, 207, 208, 209, 210, 211, 212, 213, 71, 214, 215, 216, 217, 218, 219, 220, 221, 222, 223, 224, 225, 226, 227, 228, 229, 230, 231, 232, 233, 116, 117, 118, 119, 120, 615, 616, 617, 618, 325, 75, 326, 327, 328, 631, 632, 633, 634, 78, 82, 381, 382, 383, 384, 385, 386, 387, 388, 83, 80, 79, 81, 389, 390, 391, 392, 393, 394, 395, 396, 397, 398, 399, 400, 401, 402, 403, 404, 405, 406, 407, 408, 409, 410, 411, 412, 413, 414, 415, 416, 635, 636, 637, 638, 924, 925, 926, 927, 928, 929, 930, 931, 932, 933, 934, 935, 936, 937, 938, 939, 940, 941] (by decide +kernel) (by decide +kernel)
set_option maxRecDepth 20000 in
theorem gL_law_X7_change : GoodIn wsL_law (wsV RL 145 RX7 yX7_change wsX7_change) := goodIn_app (goodIn_of _ (by decide +kernel)) ggL_law_X7_change
set_option maxRecDepth 20000 in
theorem ggL_law_L_setYear : GoodIn wsL_law wsL_setYear := goodIn_ca (goodIn_ca (goodIn_r _ [641, 435, 91, 642, 643, 644, 2, 645, 97, 98, 30, 21, 440, 441, 445, 446, 447, 448, 449, 450, 451, 452, 453, 20, 454, 248, 646, 647, 648, 598, 599, 600, 29, 601, 320, 602, 65, 603, 604, 605, 606, 249, 250, 251, 52, 53, 54, 55, 57, 256, 257, 258, 25, 259, 46, 153, 154, 155, 260, 261, 262, 263, 264, 265, 266, 267, 268, 269, 270, 271, 272, 273, 274, 174, 275, 276, 173, 175, 277, 278, 279, 280, 281, 282, 283, 284, 285, 286, 287, 288, 289, 290, 291, 292, 293, 294, 295, 296, 297, 298, 299, 300, 301, 302, 303, 304, 305, 306, 307, 308, 309, 310, 311, 312, 313, 314, 315, 917, 918, 919, 920, 921, 922, 923, 948, 949, 950, 951, 952, 953, 954, 955, 956, 957, 958, 959, 960, 961, 962, 963] (by decide +kernel) (by decide +kernel)) (goodIn_sub (fun _ h => List.mem_append_left _ (List.mem_append_left _ (List.mem_append_right _ h))) (by decide +kernel))) (goodIn_sub (fun _ h => List.mem_append_right _ h) (by decide +kernel))
set_option maxRecDepth 20000 in
theorem gL_law_L_setYear : GoodIn wsL_law (va_wsS RL 146 yL_setYear wsL_setYear) := goodIn_app (goodIn_of _ (by decide +kernel)) ggL_law_L_setYear
set_option maxRecDepth 20000 in
theorem ggL_law_X7_setYear : GoodIn wsL_law wsX7_setYear := goodIn_r _ [652, 73, 471, 472, 473, 5, 474, 113, 114, 115, 653, 654, 655, 656, 657, 116, 117, 118, 119, 120, 615, 616, 617, 618, 325, 75, 326, 327, 328, 631, 632, 633, 634, 78, 82, 381, 382, 383, 384, 385, 386, 387, 388, 83, 80, 79, 81, 389, 390, 391, 392, 204, 205, 206, 207, 208, 209, 393, 394, 395, 396, 397, 398, 399, 400, 401, 402, 403, 404, 405, 406, 407, 408, 409, 410, 411, 412, 413, 414, 415, 416, 635, 636, 637, 638, 924, 925, 926, 927, 928, 929, 930, 931, 932, 933, 934, 935, 936, 937, 938, 939, 940, 941] (by decide +kernel) (by decide +kernel)
set_option maxRecDepth 20000 in
theorem gL_law_X7_setYear : GoodIn wsL_law (wsV RL 148 RX7 yX7_setYear wsX7_setYear) := goodIn_app (goodIn_of _ (by decide +kernel)) ggL_law_X7_setYear
set_option maxRecDepth 20000 in
theorem ggL_law_L_remove : GoodIn wsL_law wsL_remove := goodIn_ca (goodIn_r _ [660, 435, 661, 662, 663, 2, 664, 30, 21, 445, 446, 447, 448, 449, 450, 451, 452, 453, 20, 454, 248, 598, 599, 600, 29, 601, 320, 602, 65, 603, 604, 605, 606, 249, 250, 251, 52, 53, 54, 55, 57, 256, 257, 258, 25, 259, 46, 153, 154, 155, 665, 666, 667, 668, 669, 670, 671, 672, 673, 260, 261, 262, 263, 264, 265, 266, 267, 268, 269, 270, 271, 272, 273, 274, 174, 275, 276, 173, 175, 277, 278, 279, 280, 281, 282, 283, 284, 285, 286, 287, 288, 289, 290, 291, 292, 293, 294, 295, 296, 297, 298, 299, 300, 301, 302, 303, 304, 305, 306, 307, 308, 309, 310, 311, 312, 313, 314, 315, 917, 918, 919, 920, 921, 922, 923, 948, 949, 950, 951, 952, 953, 954, 955, 956, 961, 962, 963, 957, 958, 959, 960] (by decide +kernel) (by decide +kernel)) (goodIn_sub (fun _ h => List.mem_append_right _ h) (by decide +kernel))
set_option maxRecDepth 20000 in
theorem gL_law_L_remove : GoodIn wsL_law (va_wsS RL 149 yL_remove wsL_remove) := goodIn_app (goodIn_of _ (by decide +kernel)) ggL_law_L_remove
set_option maxRecDepth 20000 in
theorem ggL_law_X7_remove : GoodIn wsL_law wsX7_remove := goodIn_r _ [677, 73, 471, 472, 473, 5, 474, 113, 114, 115, 116, 117, 118, 119, 120, 615, 616, 617, 618, 325, 75, 326, 327, 328, 631, 632, 633, 634, 78, 82, 381, 382, 383, 384, 385, 386, 387, 388, 83, 80, 79, 81, 389, 390, 391, 392, 204, 205, 206, 207, 208, 209, 393, 394, 395, 396, 397, 398, 399, 400, 401, 402, 403, 404, 405, 406, 407, 408, 409, 410, 411, 412, 413, 414, 415, 416, 678, 679, 680, 635, 636, 637, 638, 924, 925, 926, 927, 928, 929, 930, 931, 932, 933, 934, 935, 936, 937, 938, 939, 940, 941] (by decide +kernel) (by decide +kernel)
set_option maxRecDepth 20000 in
theorem gL_law_X7_remove : GoodIn wsL_law (wsV RL 151 RX7 yX7_remove wsX7_remove) := goodIn_app (goodIn_of _ (by decide +kernel)) ggL_law_X7_remove
set_option maxRecDepth 20000 in
theorem ggL_law_L_setStyle : GoodIn wsL_law wsL_setStyle := goodIn_ca (goodIn_r _ [683, 91, 684, 685, 686, 2, 687, 30, 21, 336, 688, 689, 690, 97, 98, 691, 692, 693, 598, 599, 600, 29, 601, 320, 602, 65, 603, 604, 605, 20, 606, 248, 249, 250, 251, 52, 53, 54, 55, 57, 256, 257, 258, 25, 259, 46, 153, 154, 155, 260, 261, 262, 263, 264, 265, 266, 267, 268, 269, 270, 271, 272, 273, 274, 174, 275, 276, 173, 175, 277, 278, 279, 280, 281, 282, 283, 284, 285, 286, 287, 288, 289, 290, 291, 292, 293, 294, 295, 296, 297, 298, 299, 300, 301, 302, 303, 304, 305, 306, 307, 308, 309, 310, 311, 312, 313, 314, 315, 917, 918, 919, 920, 921, 922, 923, 948, 949, 950, 951, 952, 953, 954, 955, 956, 961, 962, 963, 957, 958, 959, 960] (by decide +kernel) (by decide +kernel)) (goodIn_sub (fun _ h => List.mem_append_left _ (List.mem_append_left _ (List.mem_append_right _ h))) (by decide +kernel))
set_option maxRecDepth 20000 in
theorem gL_law_L_setStyle : GoodIn wsL_law (va_wsS RL 152 yL_setStyle wsL_setStyle) := goodIn_app (goodIn_of _ (by decide +kernel)) ggL_law_L_setStyle
set_option maxRecDepth 20000 in
theorem ggL_law_X7_setStyle : GoodIn wsL_law wsX7_setStyle := goodIn_r _ [697, 73, 698, 699, 5, 700, 701, 113, 114, 115, 116, 117, 118, 119, 120, 615, 616, 617, 618, 325, 75, 326, 327, 328, 924, 925, 926, 927, 928, 929, 930, 931, 932, 933, 934, 935, 936, 937, 938, 939, 940, 941] (by decide +kernel) (by decide +kernel)
set_option maxRecDepth 20000 in
theorem gL_law_X7_setStyle : GoodIn wsL_law (wsV RL 154 RX7 yX7_setStyle wsX7_setStyle) := goodIn_app (goodIn_of _ (by decide +kernel)) ggL_law_X7_setStyle
set_option maxRecDepth 20000 in
theorem ggL_law_L_setOrder : GoodIn wsL_law wsL_setOrder := goodIn_ca (goodIn_r _ [704, 91, 705, 706, 707, 2, 708, 97, 98, 30, 21, 337, 598, 599, 600, 29, 601, 320, 602, 65, 603, 604, 605, 20, 606, 248, 249, 250, 251, 52, 53, 54, 55, 57, 256, 257, 258, 25, 259, 46, 153, 154, 155, 260, 261, 262, 263, 264, 265, 266, 267, 268, 269, 270, 271, 272, 273, 274, 174, 275, 276, 173, 175, 277, 278, 279, 280, 281, 282, 283, 284, 285, 286, 287, 288, 289, 290, 291, 292, 293, 294, 295, 296, 297, 298, 299, 300, 301, 302, 303, 304, 305, 306, 307, 308, 309, 310, 311, 312, 313, 314, 315, 917, 918, 919, 920, 921, 922, 923, 948, 949, 950, 951, 952, 953, 954, 955, 956, 961, 962, 963, 957, 958, 959, 960] (by decide +kernel) (by decide +kernel)) (goodIn_sub (fun _ h => List.mem_append_left _ (List.mem_append_left _ (List.mem_append_right _ h))) (by decide +kernel))
set_option maxRecDepth 20000 in
theorem gL_law_L_setOrder : GoodIn wsL_law (va_wsS RL 155 yL_setOrder wsL_setOrder) := goodIn_app (goodIn_of _ (by decide +kernel)) ggL_law_L_setOrder
set_option maxRecDepth 20000 in
theorem ggL_law_X7_setOrder : GoodIn wsL_law wsX7_setOrder := goodIn_r _ [712, 73, 113, 114, 5, 115, 116, 117, 118, 119, 120, 615, 616, 617, 618, 325, 75, 326, 327, 328, 631, 632, 633, 634, 78, 82, 381, 382, 383, 384, 385, 386, 387, 388, 83, 80, 79, 81, 389, 390, 391, 392, 204, 205, 206, 207, 208, 209, 393, 394, 395, 396, 397, 398, 399, 400, 401, 402, 403, 404, 405, 406, 407, 408, 409, 410, 411, 412, 413, 414, 415, 416, 635, 636, 637, 638, 924, 925, 926, 927, 928, 929, 930, 931, 932, 933, 934, 935, 936, 937, 938, 939, 940, 941] (by decide +kernel) (by decide +kernel)
set_option maxRecDepth 20000 in
theorem gL_law_X7_setOrder : GoodIn wsL_law (wsV RL 157 RX7 yX7_setOrder wsX7_setOrder) := goodIn_app (goodIn_of _ (by decide +kernel)) ggL_law_X7_setOrder
set_option maxRecDepth 20000 in
theorem ggL_law_X6_print : GoodIn wsL_law wsX6_print := goodIn_r _ [716, 30, 21, 338, 598, 599, 600, 29, 601, 320, 602, 65, 603, 604, 605, 20, 606, 248, 249, 250, 251, 52, 53, 54, 55, 57, 256, 257, 258, 25, 259, 46, 153, 154, 155, 717, 718, 719, 720, 917, 918, 919, 920, 921, 922, 923, 948, 949, 950, 951, 952, 953, 954, 955, 956, 961, 962, 963, 957, 958, 959, 960] (by decide +kernel) (by decide +kernel)
set_option maxRecDepth 20000 in
theorem gL_law_X6_print : GoodIn wsL_law (wsV RL 158 RX6 yX6_print wsX6_print) := goodIn_app (goodIn_of _ (by decide +kernel)) ggL_law_X6_print
set_option maxRecDepth 20000 in
theorem ggL_law_X7_print : GoodIn wsL_law wsX7_print := goodIn_r _ [724, 120, 73, 615, 616, 617, 5, 618, 325, 75, 326, 327, 328, 725, 726, 727, 728, 78, 385, 386, 387, 388, 83, 80, 79, 81, 389, 390, 391, 392, 204, 205, 206, 207, 208, 209, 393, 394, 395, 396, 397, 398, 399, 400, 401, 402, 403, 404, 405, 406, 407, 408, 409, 410, 411, 412, 413, 414, 415, 416, 924, 925, 926, 927, 928, 929, 930, 931, 932, 933, 934, 935, 936, 937, 938, 939, 940, 941] (by decide +kernel) (by decide +kernel)
set_option maxRecDepth 20000 in
theorem gL_law_X7_print : GoodIn wsL_law (wsV RL 161 RX7 yX7_print wsX7_print) := goodIn_app (goodIn_of _ (by decide +kernel)) ggL_law_X7_print
set_option maxRecDepth 20000 in
theorem ggL_law_L_undo : GoodIn wsL_law wsL_undo := goodIn_ca (goodIn_r _ [731, 92, 732, 733, 734, 2, 735, 99, 100, 30, 736, 21, 737, 738, 739, 29, 740, 320, 65, 602, 603, 604, 605, 20, 606, 248, 249, 250, 251, 52, 53, 54, 55, 57, 256, 257, 258, 25, 259, 46, 153, 154, 155, 917, 918, 919, 920, 921, 922, 923, 961, 962, 963, 948, 949, 950, 951, 952, 953, 954, 955, 956, 957, 958, 959, 960] (by decide +kernel) (by decide +kernel)) (goodIn_sub (fun _ h => List.mem_append_left _ (List.mem_append_right _ h)) (by decide +kernel))
set_option maxRecDepth 20000 in
theorem gL_law_L_undo : GoodIn wsL_law (va_wsS RL 162 yL_undo wsL_undo) := goodIn_app (goodIn_of _ (by decide +kernel)) ggL_law_L_undo
set_option maxRecDepth 20000 in
theorem ggL_law_X7_undo : GoodIn wsL_law wsX7_undo := goodIn_r _ [744, 325, 75, 73, 116, 117, 118, 5, 119, 120, 326, 327, 328, 924, 925, 926, 927, 928, 929, 930, 931, 932, 933, 934, 935, 936, 937, 938, 939, 940, 941] (by decide +kernel) (by decide +kernel)
set_option maxRecDepth 20000 in
theorem gL_law_X7_undo : GoodIn wsL_law (wsV RL 164 RX7 yX7_undo wsX7_undo) := goodIn_app (goodIn_of _ (by decide +kernel)) ggL_law_X7_undo
set_option maxRecDepth 20000 in
theorem ggL_law_L_ifRemoved : GoodIn wsL_law wsL_ifRemoved := goodIn_ca (goodIn_r _ [747, 435, 748, 749, 750, 2, 751, 445, 446, 447, 448, 449, 450, 21, 451, 452, 453, 20, 454, 248, 752, 753, 754, 755, 22, 756, 604, 605, 606, 249, 250, 251, 52, 53, 54, 55, 57, 256, 257, 258, 25, 259, 46, 153, 154, 155, 665, 666, 667, 668, 669, 670, 671, 672, 673, 260, 261, 262, 263, 264, 265, 266, 267, 268, 269, 270, 271, 272, 273, 274, 174, 275, 276, 173, 175, 277, 278, 279, 280, 281, 282, 283, 284, 285, 286, 287, 288, 289, 290, 291, 292, 293, 294, 295, 296, 297, 298, 299, 300, 301, 302, 303, 304, 305, 306, 307, 308, 309, 310, 311, 312, 313, 314, 315, 917, 918, 919, 920, 921, 922, 923, 948, 949, 950, 951, 952, 953, 954, 955, 956, 957, 958, 959, 960] (by decide +kernel) (by decide +kernel)) (goodIn_sub (fun _ h => List.mem_append_right _ h) (by decide +kernel))
set_option maxRecDepth 20000 in
theorem gL_law_L_ifRemoved : GoodIn wsL_law (va_wsS RL 165 yL_ifRemoved wsL_ifRemoved) := goodIn_app (goodIn_of _ (by decide +kernel)) ggL_law_L_ifRemoved
set_option maxRecDepth 20000 in
theorem ggL_law_X7_ifRemoved : GoodIn wsL_law wsX7_ifRemoved := goodIn_r _ [760, 471, 472, 473, 5, 474, 73, 113, 114, 115, 116, 117, 118, 119, 120, 761, 762, 763, 764, 74, 631, 632, 633, 634, 78, 82, 381, 382, 383, 384, 385, 386, 387, 388, 83, 80, 79, 81, 389, 390, 391, 392, 204, 205, 206, 207, 208, 209, 393, 394, 395, 396, 397, 398, 399, 400, 401, 402, 403, 404, 326, 327, 328, 405, 406, 407, 408, 409, 410, 411, 412, 413, 414, 415, 416, 765, 766, 767, 768, 678, 679, 680, 635, 636, 637, 638, 924, 925, 926, 927, 928, 929, 930, 931, 932, 933, 934, 935, 936, 937, 938, 939, 940, 941] (by decide +kernel) (by decide +kernel)
set_option maxRecDepth 20000 in
theorem gL_law_X7_ifRemoved : GoodIn wsL_law (wsV RL 167 RX7 yX7_ifRemoved wsX7_ifRemoved) := goodIn_app (goodIn_of _ (by decide +kernel)) ggL_law_X7_ifRemoved
set_option maxRecDepth 20000 in
theorem ggL_law_L_freeYear : GoodIn wsL_law wsL_freeYear := goodIn_ca (goodIn_r _ [771, 435, 772, 773, 774, 2, 775, 21, 440, 441, 445, 446, 447, 448, 449, 450, 451, 452, 453, 20, 454, 248, 646, 647, 648, 776, 777, 778, 779, 52, 249, 53, 265, 266, 267, 25, 268, 46, 153, 269, 270, 271, 272, 273, 274, 174, 275, 276, 173, 175, 277, 278, 279, 280, 281, 282, 283, 284, 285, 286, 287, 288, 289, 290, 291, 292, 293, 155, 917, 918, 919, 920, 921, 922, 923, 948, 949, 950, 951, 952, 953, 954, 955, 956, 957, 958, 959, 960] (by decide +kernel) (by decide +kernel)) (goodIn_sub (fun _ h => List.mem_append_right _ h) (by decide +kernel))
set_option maxRecDepth 20000 in
theorem gL_law_L_freeYear : GoodIn wsL_law (va_wsS RL 168 yL_freeYear wsL_freeYear) := goodIn_app (goodIn_of _ (by decide +kernel)) ggL_law_L_freeYear
set_option maxRecDepth 20000 in
theorem ggL_law_X7_freeYear : GoodIn wsL_law wsX7_freeYear := goodIn_r _ [783, 73, 471, 472, 473, 5, 474, 113, 114, 115, 116, 117, 118, 119, 120, 765, 766, 767, 768, 74, 326, 327, 328, 204, 205, 206, 653, 654, 655, 656, 657, 784, 785, 786, 787, 83, 82, 389, 390, 391, 392, 207, 208, 209, 393, 394, 395, 396, 397, 398, 399, 400, 401, 402, 403, 404, 405, 406, 407, 924, 925, 926, 927, 928, 929, 930, 931, 932, 933, 934, 935, 936, 937, 938, 939, 940, 941] (by decide +kernel) (by decide +kernel)
set_option maxRecDepth 20000 in
theorem gL_law_X7_freeYear : GoodIn wsL_law (wsV RL 170 RX7 yX7_freeYear wsX7_freeYear) := goodIn_app (goodIn_of _ (by decide +kernel)) ggL_law_X7_freeYear
