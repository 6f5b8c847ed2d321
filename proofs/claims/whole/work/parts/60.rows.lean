theorem dX7_does_217 : decode cX7_does 217 = .ok (.iconst 0, 1) := by decide +kernel
theorem dX7_does_218 : decode cX7_does 218 = .ok (.invokestatic 67, 3) := by decide +kernel
theorem dX7_does_221 : decode cX7_does 221 = .ok (.dup2, 1) := by decide +kernel
theorem dX7_does_222 : decode cX7_does 222 = .ok (.iaload, 1) := by decide +kernel
theorem dX7_does_223 : decode cX7_does 223 = .ok (.iload 6, 2) := by decide +kernel
theorem dX7_does_225 : decode cX7_does 225 = .ok (.iconst 5, 1) := by decide +kernel
theorem dX7_does_226 : decode cX7_does 226 = .ok (.isub, 1) := by decide +kernel
theorem dX7_does_227 : decode cX7_does 227 = .ok (.iadd, 1) := by decide +kernel
theorem dX7_does_228 : decode cX7_does 228 = .ok (.iastore, 1) := by decide +kernel
theorem dX7_does_229 : decode cX7_does 229 = .ok (.iconst 1, 1) := by decide +kernel
theorem dX7_does_230 : decode cX7_does 230 = .ok (.ireturn, 1) := by decide +kernel
theorem dX7_does_231 : decode cX7_does 231 = .ok (.iload_n 3, 1) := by decide +kernel
theorem dX7_does_232 : decode cX7_does 232 = .ok (.ifCond .ne 29, 3) := by decide +kernel
theorem dX7_does_235 : decode cX7_does 235 = .ok (.aload_n 0, 1) := by decide +kernel
theorem dX7_does_236 : decode cX7_does 236 = .ok (.getfield 19, 3) := by decide +kernel
theorem dX7_does_239 : decode cX7_does 239 = .ok (.iload 4, 2) := by decide +kernel
theorem dX7_does_241 : decode cX7_does 241 = .ok (.invokestatic 238, 3) := by decide +kernel
theorem dX7_does_244 : decode cX7_does 244 = .ok (.ifCond .eq 17, 3) := by decide +kernel
theorem dX7_does_247 : decode cX7_does 247 = .ok (.aload_n 0, 1) := by decide +kernel
theorem dX7_does_248 : decode cX7_does 248 = .ok (.getfield 35, 3) := by decide +kernel
theorem dX7_does_251 : decode cX7_does 251 = .ok (.iload 4, 2) := by decide +kernel
theorem dX7_does_253 : decode cX7_does 253 = .ok (.iaload, 1) := by decide +kernel
theorem dX7_does_254 : decode cX7_does 254 = .ok (.ifCond .le 7, 3) := by decide +kernel
theorem dX7_does_257 : decode cX7_does 257 = .ok (.iconst 1, 1) := by decide +kernel
theorem dX7_does_258 : decode cX7_does 258 = .ok (.goto 4, 3) := by decide +kernel
theorem dX7_does_261 : decode cX7_does 261 = .ok (.iconst 0, 1) := by decide +kernel
theorem dX7_does_262 : decode cX7_does 262 = .ok (.ireturn, 1) := by decide +kernel
theorem dX7_does_263 : decode cX7_does 263 = .ok (.iload_n 3, 1) := by decide +kernel
theorem dX7_does_264 : decode cX7_does 264 = .ok (.ifCond .ne 25, 3) := by decide +kernel
theorem dX7_does_267 : decode cX7_does 267 = .ok (.aload_n 0, 1) := by decide +kernel
theorem dX7_does_268 : decode cX7_does 268 = .ok (.getfield 35, 3) := by decide +kernel
theorem dX7_does_271 : decode cX7_does 271 = .ok (.aload_n 0, 1) := by decide +kernel
theorem dX7_does_272 : decode cX7_does 272 = .ok (.getfield 19, 3) := by decide +kernel
theorem dX7_does_275 : decode cX7_does 275 = .ok (.iconst 0, 1) := by decide +kernel
theorem dX7_does_276 : decode cX7_does 276 = .ok (.iaload, 1) := by decide +kernel
theorem dX7_does_277 : decode cX7_does 277 = .ok (.invokestatic 170, 3) := by decide +kernel
theorem dX7_does_280 : decode cX7_does 280 = .ok (.iload 4, 2) := by decide +kernel
theorem dX7_does_282 : decode cX7_does 282 = .ok (.if_icmp .lt 7, 3) := by decide +kernel
theorem dX7_does_285 : decode cX7_does 285 = .ok (.iconst 1, 1) := by decide +kernel
theorem dX7_does_286 : decode cX7_does 286 = .ok (.goto 4, 3) := by decide +kernel
theorem dX7_does_289 : decode cX7_does 289 = .ok (.iconst 0, 1) := by decide +kernel
theorem dX7_does_290 : decode cX7_does 290 = .ok (.ireturn, 1) := by decide +kernel
theorem dX7_does_291 : decode cX7_does 291 = .ok (.iload_n 1, 1) := by decide +kernel
theorem dX7_does_292 : decode cX7_does 292 = .ok (.sipush 7000, 3) := by decide +kernel
theorem dX7_does_295 : decode cX7_does 295 = .ok (.if_icmp .eq 5, 3) := by decide +kernel
theorem dX7_does_298 : decode cX7_does 298 = .ok (.iconst 0, 1) := by decide +kernel
theorem dX7_does_299 : decode cX7_does 299 = .ok (.ireturn, 1) := by decide +kernel
theorem dX7_does_300 : decode cX7_does 300 = .ok (.aload_n 0, 1) := by decide +kernel
theorem dX7_does_301 : decode cX7_does 301 = .ok (.aload_n 0, 1) := by decide +kernel
theorem dX7_does_302 : decode cX7_does 302 = .ok (.getfield 19, 3) := by decide +kernel
theorem dX7_does_305 : decode cX7_does 305 = .ok (.invokevirtual 222, 3) := by decide +kernel
theorem dX7_does_308 : decode cX7_does 308 = .ok (.iconst 1, 1) := by decide +kernel
theorem dX7_does_309 : decode cX7_does 309 = .ok (.ireturn, 1) := by decide +kernel
theorem dX7_does_310 : decode cX7_does 310 = .ok (.iload_n 3, 1) := by decide +kernel
theorem dX7_does_311 : decode cX7_does 311 = .ok (.ifCond .ne 21, 3) := by decide +kernel
theorem dX7_does_314 : decode cX7_does 314 = .ok (.aload_n 0, 1) := by decide +kernel
theorem dX7_does_315 : decode cX7_does 315 = .ok (.aload_n 0, 1) := by decide +kernel
theorem dX7_does_316 : decode cX7_does 316 = .ok (.getfield 19, 3) := by decide +kernel
theorem dX7_does_319 : decode cX7_does 319 = .ok (.iconst 0, 1) := by decide +kernel
theorem dX7_does_320 : decode cX7_does 320 = .ok (.invokevirtual 192, 3) := by decide +kernel
theorem dX7_does_323 : decode cX7_does 323 = .ok (.iload 4, 2) := by decide +kernel
theorem dX7_does_325 : decode cX7_does 325 = .ok (.if_icmp .gt 7, 3) := by decide +kernel
theorem dX7_does_328 : decode cX7_does 328 = .ok (.iconst 1, 1) := by decide +kernel
theorem dX7_does_329 : decode cX7_does 329 = .ok (.goto 4, 3) := by decide +kernel
theorem dX7_does_332 : decode cX7_does 332 = .ok (.iconst 0, 1) := by decide +kernel
theorem dX7_does_333 : decode cX7_does 333 = .ok (.ireturn, 1) := by decide +kernel
theorem dX7_does_334 : decode cX7_does 334 = .ok (.aload_n 0, 1) := by decide +kernel
theorem dX7_does_335 : decode cX7_does 335 = .ok (.getfield 19, 3) := by decide +kernel
theorem dX7_does_338 : decode cX7_does 338 = .ok (.iload 5, 2) := by decide +kernel
theorem dX7_does_340 : decode cX7_does 340 = .ok (.invokestatic 238, 3) := by decide +kernel
theorem dX7_does_343 : decode cX7_does 343 = .ok (.ifCond .eq 19, 3) := by decide +kernel
theorem dX7_does_346 : decode cX7_does 346 = .ok (.aload_n 0, 1) := by decide +kernel
theorem dX7_does_347 : decode cX7_does 347 = .ok (.getfield 35, 3) := by decide +kernel
theorem dX7_does_350 : decode cX7_does 350 = .ok (.iload 5, 2) := by decide +kernel
theorem dX7_does_352 : decode cX7_does 352 = .ok (.iaload, 1) := by decide +kernel
theorem dX7_does_353 : decode cX7_does 353 = .ok (.iload 6, 2) := by decide +kernel
theorem dX7_does_355 : decode cX7_does 355 = .ok (.if_icmp .ne 7, 3) := by decide +kernel
theorem dX7_does_358 : decode cX7_does 358 = .ok (.iconst 1, 1) := by decide +kernel
theorem dX7_does_359 : decode cX7_does 359 = .ok (.goto 4, 3) := by decide +kernel
theorem dX7_does_362 : decode cX7_does 362 = .ok (.iconst 0, 1) := by decide +kernel
theorem dX7_does_363 : decode cX7_does 363 = .ok (.ireturn, 1) := by decide +kernel
theorem dX7_does_364 : decode cX7_does 364 = .ok (.iconst 0, 1) := by decide +kernel
theorem dX7_does_365 : decode cX7_does 365 = .ok (.ireturn, 1) := by decide +kernel
set_option maxRecDepth 20000 in
theorem ggX7_runScript_X7_in : GoodIn wsX7_runScript wsX7_in := goodIn_r _ [6] (by decide +kernel) (by decide +kernel)
set_option maxRecDepth 20000 in
theorem gX7_runScript_X7_in : GoodIn wsX7_runScript (va_wsS RX7 118 yX7_in wsX7_in) := goodIn_app (goodIn_of _ (by decide +kernel)) ggX7_runScript_X7_in
set_option maxRecDepth 20000 in
theorem ggX7_runScript_X7_tenTo : GoodIn wsX7_runScript wsX7_tenTo := goodIn_r _ [9, 10] (by decide +kernel) (by decide +kernel)
set_option maxRecDepth 20000 in
theorem gX7_runScript_X7_tenTo : GoodIn wsX7_runScript (va_wsS RX7 81 yX7_tenTo wsX7_tenTo) := goodIn_app (goodIn_of _ (by decide +kernel)) ggX7_runScript_X7_tenTo
set_option maxRecDepth 20000 in
theorem ggX7_runScript_X7_refused : GoodIn wsX7_runScript wsX7_refused := goodIn_r _ [14, 15, 98, 99, 100, 101, 102, 103, 104, 105, 106, 107, 108, 109, 110, 111, 112, 113, 114, 115] (by decide +kernel) (by decide +kernel)
set_option maxRecDepth 20000 in
theorem gX7_runScript_X7_refused : GoodIn wsX7_runScript (wsV RX7 125 RX7 yX7_refused wsX7_refused) := goodIn_app (goodIn_of _ (by decide +kernel)) ggX7_runScript_X7_refused
set_option maxRecDepth 20000 in
theorem ggX7_runScript_X7_begin : GoodIn wsX7_runScript wsX7_begin := goodIn_r _ [19, 20, 21, 22, 23, 5, 24, 98, 99, 100, 101, 102, 103, 104, 105, 106, 107, 108, 109, 110, 111, 112, 113, 114, 115] (by decide +kernel) (by decide +kernel)
set_option maxRecDepth 20000 in
theorem gX7_runScript_X7_begin : GoodIn wsX7_runScript (wsV RX7 225 RX7 yX7_begin wsX7_begin) := goodIn_app (goodIn_of _ (by decide +kernel)) ggX7_runScript_X7_begin
set_option maxRecDepth 20000 in
theorem ggX7_runScript_X7_does : GoodIn wsX7_runScript wsX7_does := goodIn_r _ [28, 21, 29, 30, 31, 32, 5, 33, 34, 35, 36, 37, 38, 39, 40, 41, 42, 43, 44, 45, 46, 47, 48, 49, 50, 51, 52, 53, 54, 55, 10, 7, 8, 9, 22, 23, 24, 56, 57, 58, 59, 60, 61, 62, 63, 64, 65, 66, 67, 68, 69, 70, 71, 72, 73, 74, 75, 76, 77, 3, 4, 6, 78, 79, 80, 81, 82, 83, 84, 85, 86, 87, 88, 89, 90, 91, 92, 93, 94, 95, 96, 97, 98, 99, 100, 101, 102, 103, 104, 105, 106, 107, 108, 109, 110, 111, 112, 113, 114, 115] (by decide +kernel) (by decide +kernel)
set_option maxRecDepth 20000 in
theorem gX7_runScript_X7_does : GoodIn wsX7_runScript (wsV RX7 245 RX7 yX7_does wsX7_does) := goodIn_app (goodIn_of _ (by decide +kernel)) ggX7_runScript_X7_does
theorem dX7_runScript_0 : decode cX7_runScript 0 = .ok (.iload_n 1, 1) := by decide +kernel
theorem dX7_runScript_1 : decode cX7_runScript 1 = .ok (.i2l, 1) := by decide +kernel
theorem dX7_runScript_2 : decode cX7_runScript 2 = .ok (.lconst 1, 1) := by decide +kernel
theorem dX7_runScript_3 : decode cX7_runScript 3 = .ok (.ldc2_w 241, 3) := by decide +kernel
theorem dX7_runScript_6 : decode cX7_runScript 6 = .ok (.invokestatic 118, 3) := by decide +kernel
theorem dX7_runScript_9 : decode cX7_runScript 9 = .ok (.istore 4, 2) := by decide +kernel
theorem dX7_runScript_11 : decode cX7_runScript 11 = .ok (.aload_n 0, 1) := by decide +kernel
theorem dX7_runScript_12 : decode cX7_runScript 12 = .ok (.iload 4, 2) := by decide +kernel
theorem dX7_runScript_14 : decode cX7_runScript 14 = .ok (.ifCond .eq 32, 3) := by decide +kernel
theorem dX7_runScript_17 : decode cX7_runScript 17 = .ok (.lload_n 2, 1) := by decide +kernel
theorem dX7_runScript_18 : decode cX7_runScript 18 = .ok (.lconst 0, 1) := by decide +kernel
theorem dX7_runScript_19 : decode cX7_runScript 19 = .ok (.iload 4, 2) := by decide +kernel
theorem dX7_runScript_21 : decode cX7_runScript 21 = .ok (.ifCond .eq 9, 3) := by decide +kernel
theorem dX7_runScript_24 : decode cX7_runScript 24 = .ok (.iconst 4, 1) := by decide +kernel
theorem dX7_runScript_25 : decode cX7_runScript 25 = .ok (.iload_n 1, 1) := by decide +kernel
theorem dX7_runScript_26 : decode cX7_runScript 26 = .ok (.imul, 1) := by decide +kernel
theorem dX7_runScript_27 : decode cX7_runScript 27 = .ok (.goto 4, 3) := by decide +kernel
theorem dX7_runScript_30 : decode cX7_runScript 30 = .ok (.iconst 0, 1) := by decide +kernel
theorem dX7_runScript_31 : decode cX7_runScript 31 = .ok (.invokestatic 81, 3) := by decide +kernel
theorem dX7_runScript_34 : decode cX7_runScript 34 = .ok (.lconst 1, 1) := by decide +kernel
theorem dX7_runScript_35 : decode cX7_runScript 35 = .ok (.lsub, 1) := by decide +kernel
theorem dX7_runScript_36 : decode cX7_runScript 36 = .ok (.invokestatic 118, 3) := by decide +kernel
theorem dX7_runScript_39 : decode cX7_runScript 39 = .ok (.ifCond .eq 7, 3) := by decide +kernel
theorem dX7_runScript_42 : decode cX7_runScript 42 = .ok (.iconst 0, 1) := by decide +kernel
theorem dX7_runScript_43 : decode cX7_runScript 43 = .ok (.goto 4, 3) := by decide +kernel
theorem dX7_runScript_46 : decode cX7_runScript 46 = .ok (.iconst 1, 1) := by decide +kernel
theorem dX7_runScript_47 : decode cX7_runScript 47 = .ok (.invokevirtual 125, 3) := by decide +kernel
theorem dX7_runScript_50 : decode cX7_runScript 50 = .ok (.ifCond .eq 5, 3) := by decide +kernel
theorem dX7_runScript_53 : decode cX7_runScript 53 = .ok (.iconst 0, 1) := by decide +kernel
theorem dX7_runScript_54 : decode cX7_runScript 54 = .ok (.ireturn, 1) := by decide +kernel
theorem dX7_runScript_55 : decode cX7_runScript 55 = .ok (.aload_n 0, 1) := by decide +kernel
theorem dX7_runScript_56 : decode cX7_runScript 56 = .ok (.invokevirtual 225, 3) := by decide +kernel
theorem dX7_runScript_59 : decode cX7_runScript 59 = .ok (.iconst 0, 1) := by decide +kernel
theorem dX7_runScript_60 : decode cX7_runScript 60 = .ok (.istore 5, 2) := by decide +kernel
theorem dX7_runScript_62 : decode cX7_runScript 62 = .ok (.iload 5, 2) := by decide +kernel
theorem dX7_runScript_64 : decode cX7_runScript 64 = .ok (.iload_n 1, 1) := by decide +kernel
theorem dX7_runScript_65 : decode cX7_runScript 65 = .ok (.if_icmp .ge 37, 3) := by decide +kernel
theorem dX7_runScript_68 : decode cX7_runScript 68 = .ok (.aload_n 0, 1) := by decide +kernel
theorem dX7_runScript_69 : decode cX7_runScript 69 = .ok (.lload_n 2, 1) := by decide +kernel
theorem dX7_runScript_70 : decode cX7_runScript 70 = .ok (.iconst 4, 1) := by decide +kernel
theorem dX7_runScript_71 : decode cX7_runScript 71 = .ok (.iload_n 1, 1) := by decide +kernel
theorem dX7_runScript_72 : decode cX7_runScript 72 = .ok (.iconst 1, 1) := by decide +kernel
theorem dX7_runScript_73 : decode cX7_runScript 73 = .ok (.isub, 1) := by decide +kernel
theorem dX7_runScript_74 : decode cX7_runScript 74 = .ok (.iload 5, 2) := by decide +kernel
theorem dX7_runScript_76 : decode cX7_runScript 76 = .ok (.isub, 1) := by decide +kernel
theorem dX7_runScript_77 : decode cX7_runScript 77 = .ok (.imul, 1) := by decide +kernel
theorem dX7_runScript_78 : decode cX7_runScript 78 = .ok (.invokestatic 81, 3) := by decide +kernel
theorem dX7_runScript_81 : decode cX7_runScript 81 = .ok (.ldiv, 1) := by decide +kernel
theorem dX7_runScript_82 : decode cX7_runScript 82 = .ok (.ldc2_w 243, 3) := by decide +kernel
theorem dX7_runScript_85 : decode cX7_runScript 85 = .ok (.lrem, 1) := by decide +kernel
theorem dX7_runScript_86 : decode cX7_runScript 86 = .ok (.l2i, 1) := by decide +kernel
theorem dX7_runScript_87 : decode cX7_runScript 87 = .ok (.invokevirtual 245, 3) := by decide +kernel
theorem dX7_runScript_90 : decode cX7_runScript 90 = .ok (.ifCond .ne 6, 3) := by decide +kernel
theorem dX7_runScript_93 : decode cX7_runScript 93 = .ok (.iload 5, 2) := by decide +kernel
theorem dX7_runScript_95 : decode cX7_runScript 95 = .ok (.ireturn, 1) := by decide +kernel
theorem dX7_runScript_96 : decode cX7_runScript 96 = .ok (.iinc 5 1, 3) := by decide +kernel
theorem dX7_runScript_99 : decode cX7_runScript 99 = .ok (.goto (-37), 3) := by decide +kernel
theorem dX7_runScript_102 : decode cX7_runScript 102 = .ok (.bipush (-9), 2) := by decide +kernel
theorem dX7_runScript_104 : decode cX7_runScript 104 = .ok (.ireturn, 1) := by decide +kernel
set_option maxRecDepth 20000 in
theorem ggX7_round_X7_drop : GoodIn wsX7_round wsX7_drop := goodIn_r _ [5, 6, 7, 4, 8] (by decide +kernel) (by decide +kernel)
set_option maxRecDepth 20000 in
theorem gX7_round_X7_drop : GoodIn wsX7_round (va_wsS RX7 214 yX7_drop wsX7_drop) := goodIn_app (goodIn_of _ (by decide +kernel)) ggX7_round_X7_drop
set_option maxRecDepth 20000 in
theorem ggX7_round_X7_cell : GoodIn wsX7_round wsX7_cell := goodIn_r _ [8] (by decide +kernel) (by decide +kernel)
set_option maxRecDepth 20000 in
theorem gX7_round_X7_cell : GoodIn wsX7_round (va_wsS RX7 67 yX7_cell wsX7_cell) := goodIn_app (goodIn_of _ (by decide +kernel)) ggX7_round_X7_cell
set_option maxRecDepth 20000 in
theorem ggX7_round_X7_author : GoodIn wsX7_round wsX7_author := goodIn_r _ [11, 6, 7, 4, 8] (by decide +kernel) (by decide +kernel)
set_option maxRecDepth 20000 in
theorem gX7_round_X7_author : GoodIn wsX7_round (va_wsS RX7 71 yX7_author wsX7_author) := goodIn_app (goodIn_of _ (by decide +kernel)) ggX7_round_X7_author
theorem dX7_round_0 : decode cX7_round 0 = .ok (.aload_n 0, 1) := by decide +kernel
theorem dX7_round_1 : decode cX7_round 1 = .ok (.getfield 19, 3) := by decide +kernel
theorem dX7_round_4 : decode cX7_round 4 = .ok (.iconst 0, 1) := by decide +kernel
theorem dX7_round_5 : decode cX7_round 5 = .ok (.iaload, 1) := by decide +kernel
theorem dX7_round_6 : decode cX7_round 6 = .ok (.istore_n 2, 1) := by decide +kernel
theorem dX7_round_7 : decode cX7_round 7 = .ok (.iload_n 1, 1) := by decide +kernel
theorem dX7_round_8 : decode cX7_round 8 = .ok (.iconst 4, 1) := by decide +kernel
theorem dX7_round_9 : decode cX7_round 9 = .ok (.irem, 1) := by decide +kernel
theorem dX7_round_10 : decode cX7_round 10 = .ok (.ifCond .ne 22, 3) := by decide +kernel
theorem dX7_round_13 : decode cX7_round 13 = .ok (.iload_n 2, 1) := by decide +kernel
theorem dX7_round_14 : decode cX7_round 14 = .ok (.ifCond .le 18, 3) := by decide +kernel
theorem dX7_round_17 : decode cX7_round 17 = .ok (.aload_n 0, 1) := by decide +kernel
theorem dX7_round_18 : decode cX7_round 18 = .ok (.getfield 19, 3) := by decide +kernel
theorem dX7_round_21 : decode cX7_round 21 = .ok (.iload_n 1, 1) := by decide +kernel
theorem dX7_round_22 : decode cX7_round 22 = .ok (.iconst 4, 1) := by decide +kernel
theorem dX7_round_23 : decode cX7_round 23 = .ok (.idiv, 1) := by decide +kernel
theorem dX7_round_24 : decode cX7_round 24 = .ok (.iload_n 2, 1) := by decide +kernel
theorem dX7_round_25 : decode cX7_round 25 = .ok (.irem, 1) := by decide +kernel
theorem dX7_round_26 : decode cX7_round 26 = .ok (.invokestatic 214, 3) := by decide +kernel
theorem dX7_round_29 : decode cX7_round 29 = .ok (.goto 160, 3) := by decide +kernel
theorem dX7_round_32 : decode cX7_round 32 = .ok (.iload_n 1, 1) := by decide +kernel
theorem dX7_round_33 : decode cX7_round 33 = .ok (.iconst 4, 1) := by decide +kernel
theorem dX7_round_34 : decode cX7_round 34 = .ok (.irem, 1) := by decide +kernel
theorem dX7_round_35 : decode cX7_round 35 = .ok (.iconst 1, 1) := by decide +kernel
theorem dX7_round_36 : decode cX7_round 36 = .ok (.if_icmp .ne 34, 3) := by decide +kernel
theorem dX7_round_39 : decode cX7_round 39 = .ok (.iload_n 2, 1) := by decide +kernel
theorem dX7_round_40 : decode cX7_round 40 = .ok (.ifCond .le 30, 3) := by decide +kernel
theorem dX7_round_43 : decode cX7_round 43 = .ok (.aload_n 0, 1) := by decide +kernel
theorem dX7_round_44 : decode cX7_round 44 = .ok (.getfield 19, 3) := by decide +kernel
theorem dX7_round_47 : decode cX7_round 47 = .ok (.iload_n 1, 1) := by decide +kernel
theorem dX7_round_48 : decode cX7_round 48 = .ok (.iconst 4, 1) := by decide +kernel
theorem dX7_round_49 : decode cX7_round 49 = .ok (.idiv, 1) := by decide +kernel
theorem dX7_round_50 : decode cX7_round 50 = .ok (.iload_n 2, 1) := by decide +kernel
theorem dX7_round_51 : decode cX7_round 51 = .ok (.irem, 1) := by decide +kernel
theorem dX7_round_52 : decode cX7_round 52 = .ok (.iconst 0, 1) := by decide +kernel
theorem dX7_round_53 : decode cX7_round 53 = .ok (.invokestatic 67, 3) := by decide +kernel
theorem dX7_round_56 : decode cX7_round 56 = .ok (.sipush 1990, 3) := by decide +kernel
theorem dX7_round_59 : decode cX7_round 59 = .ok (.iload_n 1, 1) := by decide +kernel
theorem dX7_round_60 : decode cX7_round 60 = .ok (.bipush 64, 2) := by decide +kernel
theorem dX7_round_62 : decode cX7_round 62 = .ok (.idiv, 1) := by decide +kernel
theorem dX7_round_63 : decode cX7_round 63 = .ok (.iconst 4, 1) := by decide +kernel
theorem dX7_round_64 : decode cX7_round 64 = .ok (.irem, 1) := by decide +kernel
theorem dX7_round_65 : decode cX7_round 65 = .ok (.iadd, 1) := by decide +kernel
theorem dX7_round_66 : decode cX7_round 66 = .ok (.iastore, 1) := by decide +kernel
theorem dX7_round_67 : decode cX7_round 67 = .ok (.goto 122, 3) := by decide +kernel
theorem dX7_round_70 : decode cX7_round 70 = .ok (.iload_n 1, 1) := by decide +kernel
theorem dX7_round_71 : decode cX7_round 71 = .ok (.iconst 4, 1) := by decide +kernel
theorem dX7_round_72 : decode cX7_round 72 = .ok (.irem, 1) := by decide +kernel
theorem dX7_round_73 : decode cX7_round 73 = .ok (.iconst 1, 1) := by decide +kernel
theorem dX7_round_74 : decode cX7_round 74 = .ok (.if_icmp .le 115, 3) := by decide +kernel
theorem dX7_round_77 : decode cX7_round 77 = .ok (.iload_n 2, 1) := by decide +kernel
theorem dX7_round_78 : decode cX7_round 78 = .ok (.bipush 16, 2) := by decide +kernel
theorem dX7_round_80 : decode cX7_round 80 = .ok (.if_icmp .ge 109, 3) := by decide +kernel
theorem dX7_round_83 : decode cX7_round 83 = .ok (.aload_n 0, 1) := by decide +kernel
theorem dX7_round_84 : decode cX7_round 84 = .ok (.getfield 19, 3) := by decide +kernel
theorem dX7_round_87 : decode cX7_round 87 = .ok (.iload_n 2, 1) := by decide +kernel
theorem dX7_round_88 : decode cX7_round 88 = .ok (.iconst 0, 1) := by decide +kernel
theorem dX7_round_89 : decode cX7_round 89 = .ok (.invokestatic 67, 3) := by decide +kernel
theorem dX7_round_92 : decode cX7_round 92 = .ok (.sipush 1990, 3) := by decide +kernel
theorem dX7_round_95 : decode cX7_round 95 = .ok (.iload_n 1, 1) := by decide +kernel
theorem dX7_round_96 : decode cX7_round 96 = .ok (.bipush 16, 2) := by decide +kernel
theorem dX7_round_98 : decode cX7_round 98 = .ok (.idiv, 1) := by decide +kernel
theorem dX7_round_99 : decode cX7_round 99 = .ok (.iconst 3, 1) := by decide +kernel
theorem dX7_round_100 : decode cX7_round 100 = .ok (.irem, 1) := by decide +kernel
theorem dX7_round_101 : decode cX7_round 101 = .ok (.iadd, 1) := by decide +kernel
theorem dX7_round_102 : decode cX7_round 102 = .ok (.iastore, 1) := by decide +kernel
theorem dX7_round_103 : decode cX7_round 103 = .ok (.aload_n 0, 1) := by decide +kernel
theorem dX7_round_104 : decode cX7_round 104 = .ok (.getfield 19, 3) := by decide +kernel
theorem dX7_round_107 : decode cX7_round 107 = .ok (.iload_n 2, 1) := by decide +kernel
theorem dX7_round_108 : decode cX7_round 108 = .ok (.iconst 1, 1) := by decide +kernel
theorem dX7_round_109 : decode cX7_round 109 = .ok (.invokestatic 67, 3) := by decide +kernel
theorem dX7_round_112 : decode cX7_round 112 = .ok (.iconst 1, 1) := by decide +kernel
theorem dX7_round_113 : decode cX7_round 113 = .ok (.iastore, 1) := by decide +kernel
theorem dX7_round_114 : decode cX7_round 114 = .ok (.aload_n 0, 1) := by decide +kernel
theorem dX7_round_115 : decode cX7_round 115 = .ok (.getfield 19, 3) := by decide +kernel
theorem dX7_round_118 : decode cX7_round 118 = .ok (.iload_n 2, 1) := by decide +kernel
theorem dX7_round_119 : decode cX7_round 119 = .ok (.iconst 0, 1) := by decide +kernel
theorem dX7_round_120 : decode cX7_round 120 = .ok (.invokestatic 71, 3) := by decide +kernel
theorem dX7_round_123 : decode cX7_round 123 = .ok (.iconst 1, 1) := by decide +kernel
theorem dX7_round_124 : decode cX7_round 124 = .ok (.iastore, 1) := by decide +kernel
theorem dX7_round_125 : decode cX7_round 125 = .ok (.aload_n 0, 1) := by decide +kernel
theorem dX7_round_126 : decode cX7_round 126 = .ok (.getfield 19, 3) := by decide +kernel
theorem dX7_round_129 : decode cX7_round 129 = .ok (.iload_n 2, 1) := by decide +kernel
theorem dX7_round_130 : decode cX7_round 130 = .ok (.iconst 0, 1) := by decide +kernel
theorem dX7_round_131 : decode cX7_round 131 = .ok (.invokestatic 71, 3) := by decide +kernel
theorem dX7_round_134 : decode cX7_round 134 = .ok (.iconst 1, 1) := by decide +kernel
theorem dX7_round_135 : decode cX7_round 135 = .ok (.iadd, 1) := by decide +kernel
theorem dX7_round_136 : decode cX7_round 136 = .ok (.bipush 97, 2) := by decide +kernel
theorem dX7_round_138 : decode cX7_round 138 = .ok (.iload_n 1, 1) := by decide +kernel
theorem dX7_round_139 : decode cX7_round 139 = .ok (.iconst 4, 1) := by decide +kernel
theorem dX7_round_140 : decode cX7_round 140 = .ok (.idiv, 1) := by decide +kernel
theorem dX7_round_141 : decode cX7_round 141 = .ok (.iconst 3, 1) := by decide +kernel
theorem dX7_round_142 : decode cX7_round 142 = .ok (.irem, 1) := by decide +kernel
theorem dX7_round_143 : decode cX7_round 143 = .ok (.iadd, 1) := by decide +kernel
theorem dX7_round_144 : decode cX7_round 144 = .ok (.iastore, 1) := by decide +kernel
theorem dX7_round_145 : decode cX7_round 145 = .ok (.aload_n 0, 1) := by decide +kernel
theorem dX7_round_146 : decode cX7_round 146 = .ok (.getfield 19, 3) := by decide +kernel
theorem dX7_round_149 : decode cX7_round 149 = .ok (.iload_n 2, 1) := by decide +kernel
theorem dX7_round_150 : decode cX7_round 150 = .ok (.bipush 38, 2) := by decide +kernel
theorem dX7_round_152 : decode cX7_round 152 = .ok (.invokestatic 67, 3) := by decide +kernel
theorem dX7_round_155 : decode cX7_round 155 = .ok (.iconst 1, 1) := by decide +kernel
theorem dX7_round_156 : decode cX7_round 156 = .ok (.iastore, 1) := by decide +kernel
theorem dX7_round_157 : decode cX7_round 157 = .ok (.aload_n 0, 1) := by decide +kernel
theorem dX7_round_158 : decode cX7_round 158 = .ok (.getfield 19, 3) := by decide +kernel
theorem dX7_round_161 : decode cX7_round 161 = .ok (.iload_n 2, 1) := by decide +kernel
theorem dX7_round_162 : decode cX7_round 162 = .ok (.bipush 38, 2) := by decide +kernel
theorem dX7_round_164 : decode cX7_round 164 = .ok (.invokestatic 67, 3) := by decide +kernel
theorem dX7_round_167 : decode cX7_round 167 = .ok (.iconst 1, 1) := by decide +kernel
theorem dX7_round_168 : decode cX7_round 168 = .ok (.iadd, 1) := by decide +kernel
theorem dX7_round_169 : decode cX7_round 169 = .ok (.bipush 97, 2) := by decide +kernel
theorem dX7_round_171 : decode cX7_round 171 = .ok (.iload_n 1, 1) := by decide +kernel
theorem dX7_round_172 : decode cX7_round 172 = .ok (.bipush 64, 2) := by decide +kernel
theorem dX7_round_174 : decode cX7_round 174 = .ok (.idiv, 1) := by decide +kernel
theorem dX7_round_175 : decode cX7_round 175 = .ok (.iconst 3, 1) := by decide +kernel
theorem dX7_round_176 : decode cX7_round 176 = .ok (.irem, 1) := by decide +kernel
theorem dX7_round_177 : decode cX7_round 177 = .ok (.iadd, 1) := by decide +kernel
theorem dX7_round_178 : decode cX7_round 178 = .ok (.iastore, 1) := by decide +kernel
theorem dX7_round_179 : decode cX7_round 179 = .ok (.aload_n 0, 1) := by decide +kernel
theorem dX7_round_180 : decode cX7_round 180 = .ok (.getfield 19, 3) := by decide +kernel
theorem dX7_round_183 : decode cX7_round 183 = .ok (.iconst 0, 1) := by decide +kernel
theorem dX7_round_184 : decode cX7_round 184 = .ok (.dup2, 1) := by decide +kernel
theorem dX7_round_185 : decode cX7_round 185 = .ok (.iaload, 1) := by decide +kernel
theorem dX7_round_186 : decode cX7_round 186 = .ok (.iconst 1, 1) := by decide +kernel
theorem dX7_round_187 : decode cX7_round 187 = .ok (.iadd, 1) := by decide +kernel
theorem dX7_round_188 : decode cX7_round 188 = .ok (.iastore, 1) := by decide +kernel
theorem dX7_round_189 : decode cX7_round 189 = .ok (.return_, 1) := by decide +kernel
set_option maxRecDepth 20000 in
theorem ggX7_simulate_X7_in : GoodIn wsX7_simulate wsX7_in := goodIn_r _ [9] (by decide +kernel) (by decide +kernel)
set_option maxRecDepth 20000 in
theorem gX7_simulate_X7_in : GoodIn wsX7_simulate (va_wsS RX7 118 yX7_in wsX7_in) := goodIn_app (goodIn_of _ (by decide +kernel)) ggX7_simulate_X7_in
set_option maxRecDepth 20000 in
theorem ggX7_simulate_X7_refused : GoodIn wsX7_simulate wsX7_refused := goodIn_r _ [13, 14, 75, 76, 77, 78, 79, 80, 81, 82, 83, 84, 85, 86, 87, 88, 89, 90, 91, 92] (by decide +kernel) (by decide +kernel)
set_option maxRecDepth 20000 in
theorem gX7_simulate_X7_refused : GoodIn wsX7_simulate (wsV RX7 125 RX7 yX7_refused wsX7_refused) := goodIn_app (goodIn_of _ (by decide +kernel)) ggX7_simulate_X7_refused
set_option maxRecDepth 20000 in
theorem ggX7_simulate_X7_begin : GoodIn wsX7_simulate wsX7_begin := goodIn_r _ [18, 19, 4, 20, 21, 8, 22, 75, 76, 77, 78, 79, 80, 81, 82, 83, 84, 85, 86, 87, 88, 89, 90, 91, 92] (by decide +kernel) (by decide +kernel)
set_option maxRecDepth 20000 in
theorem gX7_simulate_X7_begin : GoodIn wsX7_simulate (wsV RX7 225 RX7 yX7_begin wsX7_begin) := goodIn_app (goodIn_of _ (by decide +kernel)) ggX7_simulate_X7_begin
set_option maxRecDepth 20000 in
theorem ggX7_simulate_X7_round : GoodIn wsX7_simulate wsX7_round := goodIn_r _ [26, 4, 27, 28, 8, 29, 30, 31, 32, 33, 34, 35, 75, 76, 77, 78, 79, 80, 81, 82, 83, 84, 85, 86, 87, 88, 89, 90, 91, 92] (by decide +kernel) (by decide +kernel)
set_option maxRecDepth 20000 in
theorem gX7_simulate_X7_round : GoodIn wsX7_simulate (wsV RX7 254 RX7 yX7_round wsX7_round) := goodIn_app (goodIn_of _ (by decide +kernel)) ggX7_simulate_X7_round
set_option maxRecDepth 20000 in
theorem ggX7_simulate_X7_lay : GoodIn wsX7_simulate wsX7_lay := goodIn_r _ [39, 40, 41, 42, 5, 43, 44, 45, 46, 8, 47, 30, 31, 32, 33, 34, 35, 48, 49, 50, 51, 52, 53, 54, 55, 56, 57, 58, 59, 20, 21, 22, 60, 61, 62, 63, 64, 65, 66, 67, 68, 69, 70, 71, 75, 76, 77, 78, 79, 80, 81, 82, 83, 84, 85, 86, 87, 88, 89, 90, 91, 92] (by decide +kernel) (by decide +kernel)
set_option maxRecDepth 20000 in
theorem gX7_simulate_X7_lay : GoodIn wsX7_simulate (wsV RX7 108 RX7 yX7_lay wsX7_lay) := goodIn_app (goodIn_of _ (by decide +kernel)) ggX7_simulate_X7_lay
set_option maxRecDepth 20000 in
theorem ggX7_simulate_X7_lettered : GoodIn wsX7_simulate wsX7_lettered := goodIn_r _ [74] (by decide +kernel) (by decide +kernel)
set_option maxRecDepth 20000 in
theorem gX7_simulate_X7_lettered : GoodIn wsX7_simulate (va_wsS RX7 170 yX7_lettered wsX7_lettered) := goodIn_app (goodIn_of _ (by decide +kernel)) ggX7_simulate_X7_lettered
theorem dX7_simulate_0 : decode cX7_simulate 0 = .ok (.aload_n 0, 1) := by decide +kernel
theorem dX7_simulate_1 : decode cX7_simulate 1 = .ok (.iload_n 3, 1) := by decide +kernel
theorem dX7_simulate_2 : decode cX7_simulate 2 = .ok (.i2l, 1) := by decide +kernel
theorem dX7_simulate_3 : decode cX7_simulate 3 = .ok (.lconst 1, 1) := by decide +kernel
theorem dX7_simulate_4 : decode cX7_simulate 4 = .ok (.ldc2_w 248, 3) := by decide +kernel
theorem dX7_simulate_7 : decode cX7_simulate 7 = .ok (.invokestatic 118, 3) := by decide +kernel
theorem dX7_simulate_10 : decode cX7_simulate 10 = .ok (.ifCond .eq 7, 3) := by decide +kernel
theorem dX7_simulate_13 : decode cX7_simulate 13 = .ok (.iconst 0, 1) := by decide +kernel
theorem dX7_simulate_14 : decode cX7_simulate 14 = .ok (.goto 4, 3) := by decide +kernel
theorem dX7_simulate_17 : decode cX7_simulate 17 = .ok (.iconst 1, 1) := by decide +kernel
theorem dX7_simulate_18 : decode cX7_simulate 18 = .ok (.invokevirtual 125, 3) := by decide +kernel
theorem dX7_simulate_21 : decode cX7_simulate 21 = .ok (.ifCond .eq 5, 3) := by decide +kernel
theorem dX7_simulate_24 : decode cX7_simulate 24 = .ok (.iconst 0, 1) := by decide +kernel
theorem dX7_simulate_25 : decode cX7_simulate 25 = .ok (.ireturn, 1) := by decide +kernel
theorem dX7_simulate_26 : decode cX7_simulate 26 = .ok (.aload_n 0, 1) := by decide +kernel
theorem dX7_simulate_27 : decode cX7_simulate 27 = .ok (.invokevirtual 225, 3) := by decide +kernel
theorem dX7_simulate_30 : decode cX7_simulate 30 = .ok (.lload_n 1, 1) := by decide +kernel
theorem dX7_simulate_31 : decode cX7_simulate 31 = .ok (.lstore 4, 2) := by decide +kernel
theorem dX7_simulate_33 : decode cX7_simulate 33 = .ok (.iconst 0, 1) := by decide +kernel
theorem dX7_simulate_34 : decode cX7_simulate 34 = .ok (.istore 6, 2) := by decide +kernel
theorem dX7_simulate_36 : decode cX7_simulate 36 = .ok (.iload 6, 2) := by decide +kernel
theorem dX7_simulate_38 : decode cX7_simulate 38 = .ok (.iload_n 3, 1) := by decide +kernel
theorem dX7_simulate_39 : decode cX7_simulate 39 = .ok (.if_icmp .ge 31, 3) := by decide +kernel
theorem dX7_simulate_42 : decode cX7_simulate 42 = .ok (.lload 4, 2) := by decide +kernel
theorem dX7_simulate_44 : decode cX7_simulate 44 = .ok (.ldc2_w 250, 3) := by decide +kernel
theorem dX7_simulate_47 : decode cX7_simulate 47 = .ok (.lmul, 1) := by decide +kernel
theorem dX7_simulate_48 : decode cX7_simulate 48 = .ok (.ldc2_w 252, 3) := by decide +kernel
theorem dX7_simulate_51 : decode cX7_simulate 51 = .ok (.ladd, 1) := by decide +kernel
theorem dX7_simulate_52 : decode cX7_simulate 52 = .ok (.lstore 4, 2) := by decide +kernel
theorem dX7_simulate_54 : decode cX7_simulate 54 = .ok (.aload_n 0, 1) := by decide +kernel
theorem dX7_simulate_55 : decode cX7_simulate 55 = .ok (.lload 4, 2) := by decide +kernel
theorem dX7_simulate_57 : decode cX7_simulate 57 = .ok (.bipush 33, 2) := by decide +kernel
theorem dX7_simulate_59 : decode cX7_simulate 59 = .ok (.lushr, 1) := by decide +kernel
theorem dX7_simulate_60 : decode cX7_simulate 60 = .ok (.l2i, 1) := by decide +kernel
theorem dX7_simulate_61 : decode cX7_simulate 61 = .ok (.invokevirtual 254, 3) := by decide +kernel
theorem dX7_simulate_64 : decode cX7_simulate 64 = .ok (.iinc 6 1, 3) := by decide +kernel
theorem dX7_simulate_67 : decode cX7_simulate 67 = .ok (.goto (-31), 3) := by decide +kernel
theorem dX7_simulate_70 : decode cX7_simulate 70 = .ok (.aload_n 0, 1) := by decide +kernel
theorem dX7_simulate_71 : decode cX7_simulate 71 = .ok (.aload_n 0, 1) := by decide +kernel
theorem dX7_simulate_72 : decode cX7_simulate 72 = .ok (.getfield 19, 3) := by decide +kernel
theorem dX7_simulate_75 : decode cX7_simulate 75 = .ok (.aload_n 0, 1) := by decide +kernel
theorem dX7_simulate_76 : decode cX7_simulate 76 = .ok (.getfield 19, 3) := by decide +kernel
theorem dX7_simulate_79 : decode cX7_simulate 79 = .ok (.iconst 1, 1) := by decide +kernel
theorem dX7_simulate_80 : decode cX7_simulate 80 = .ok (.iaload, 1) := by decide +kernel
theorem dX7_simulate_81 : decode cX7_simulate 81 = .ok (.invokevirtual 108, 3) := by decide +kernel
theorem dX7_simulate_84 : decode cX7_simulate 84 = .ok (.bipush 100, 2) := by decide +kernel
theorem dX7_simulate_86 : decode cX7_simulate 86 = .ok (.aload_n 0, 1) := by decide +kernel
theorem dX7_simulate_87 : decode cX7_simulate 87 = .ok (.getfield 19, 3) := by decide +kernel
theorem dX7_simulate_90 : decode cX7_simulate 90 = .ok (.iconst 0, 1) := by decide +kernel
theorem dX7_simulate_91 : decode cX7_simulate 91 = .ok (.iaload, 1) := by decide +kernel
theorem dX7_simulate_92 : decode cX7_simulate 92 = .ok (.imul, 1) := by decide +kernel
theorem dX7_simulate_93 : decode cX7_simulate 93 = .ok (.aload_n 0, 1) := by decide +kernel
theorem dX7_simulate_94 : decode cX7_simulate 94 = .ok (.getfield 35, 3) := by decide +kernel
theorem dX7_simulate_97 : decode cX7_simulate 97 = .ok (.aload_n 0, 1) := by decide +kernel
theorem dX7_simulate_98 : decode cX7_simulate 98 = .ok (.getfield 19, 3) := by decide +kernel
theorem dX7_simulate_101 : decode cX7_simulate 101 = .ok (.iconst 0, 1) := by decide +kernel
theorem dX7_simulate_102 : decode cX7_simulate 102 = .ok (.iaload, 1) := by decide +kernel
theorem dX7_simulate_103 : decode cX7_simulate 103 = .ok (.invokestatic 170, 3) := by decide +kernel
theorem dX7_simulate_106 : decode cX7_simulate 106 = .ok (.iadd, 1) := by decide +kernel
theorem dX7_simulate_107 : decode cX7_simulate 107 = .ok (.ireturn, 1) := by decide +kernel
set_option maxRecDepth 20000 in
theorem ggX7_save_X7_in : GoodIn wsX7_save wsX7_in := goodIn_r _ [7] (by decide +kernel) (by decide +kernel)
set_option maxRecDepth 20000 in
theorem gX7_save_X7_in : GoodIn wsX7_save (va_wsS RX7 118 yX7_in wsX7_in) := goodIn_app (goodIn_of _ (by decide +kernel)) ggX7_save_X7_in
set_option maxRecDepth 20000 in
theorem ggX7_save_X7_refused : GoodIn wsX7_save wsX7_refused := goodIn_r _ [11, 12, 16, 17, 18, 19, 20, 21, 22, 23, 24, 25, 26, 27, 28, 29, 30, 31, 32, 33] (by decide +kernel) (by decide +kernel)
set_option maxRecDepth 20000 in
theorem gX7_save_X7_refused : GoodIn wsX7_save (wsV RX7 125 RX7 yX7_refused wsX7_refused) := goodIn_app (goodIn_of _ (by decide +kernel)) ggX7_save_X7_refused
set_option maxRecDepth 20000 in
theorem ggX7_save_X7_copy : GoodIn wsX7_save wsX7_copy := goodIn_r _ [15] (by decide +kernel) (by decide +kernel)
set_option maxRecDepth 20000 in
theorem gX7_save_X7_copy : GoodIn wsX7_save (va_wsS RX7 63 yX7_copy wsX7_copy) := goodIn_app (goodIn_of _ (by decide +kernel)) ggX7_save_X7_copy
theorem dX7_save_0 : decode cX7_save 0 = .ok (.aload_n 0, 1) := by decide +kernel
theorem dX7_save_1 : decode cX7_save 1 = .ok (.iload_n 1, 1) := by decide +kernel
theorem dX7_save_2 : decode cX7_save 2 = .ok (.i2l, 1) := by decide +kernel
theorem dX7_save_3 : decode cX7_save 3 = .ok (.lconst 0, 1) := by decide +kernel
theorem dX7_save_4 : decode cX7_save 4 = .ok (.lconst 1, 1) := by decide +kernel
theorem dX7_save_5 : decode cX7_save 5 = .ok (.invokestatic 118, 3) := by decide +kernel
theorem dX7_save_8 : decode cX7_save 8 = .ok (.ifCond .eq 7, 3) := by decide +kernel
theorem dX7_save_11 : decode cX7_save 11 = .ok (.iconst 0, 1) := by decide +kernel
theorem dX7_save_12 : decode cX7_save 12 = .ok (.goto 4, 3) := by decide +kernel
theorem dX7_save_15 : decode cX7_save 15 = .ok (.iconst 1, 1) := by decide +kernel
theorem dX7_save_16 : decode cX7_save 16 = .ok (.invokevirtual 125, 3) := by decide +kernel
theorem dX7_save_19 : decode cX7_save 19 = .ok (.ifCond .eq 5, 3) := by decide +kernel
theorem dX7_save_22 : decode cX7_save 22 = .ok (.iconst 0, 1) := by decide +kernel
theorem dX7_save_23 : decode cX7_save 23 = .ok (.ireturn, 1) := by decide +kernel
theorem dX7_save_24 : decode cX7_save 24 = .ok (.aload_n 0, 1) := by decide +kernel
theorem dX7_save_25 : decode cX7_save 25 = .ok (.getfield 16, 3) := by decide +kernel
theorem dX7_save_28 : decode cX7_save 28 = .ok (.iconst 0, 1) := by decide +kernel
theorem dX7_save_29 : decode cX7_save 29 = .ok (.aload_n 0, 1) := by decide +kernel
theorem dX7_save_30 : decode cX7_save 30 = .ok (.getfield 25, 3) := by decide +kernel
theorem dX7_save_33 : decode cX7_save 33 = .ok (.sipush 980, 3) := by decide +kernel
theorem dX7_save_36 : decode cX7_save 36 = .ok (.iload_n 1, 1) := by decide +kernel
theorem dX7_save_37 : decode cX7_save 37 = .ok (.imul, 1) := by decide +kernel
theorem dX7_save_38 : decode cX7_save 38 = .ok (.sipush 980, 3) := by decide +kernel
theorem dX7_save_41 : decode cX7_save 41 = .ok (.invokestatic 63, 3) := by decide +kernel
theorem dX7_save_44 : decode cX7_save 44 = .ok (.aload_n 0, 1) := by decide +kernel
theorem dX7_save_45 : decode cX7_save 45 = .ok (.getfield 28, 3) := by decide +kernel
theorem dX7_save_48 : decode cX7_save 48 = .ok (.iload_n 1, 1) := by decide +kernel
theorem dX7_save_49 : decode cX7_save 49 = .ok (.iconst 1, 1) := by decide +kernel
theorem dX7_save_50 : decode cX7_save 50 = .ok (.bastore, 1) := by decide +kernel
theorem dX7_save_51 : decode cX7_save 51 = .ok (.aload_n 0, 1) := by decide +kernel
theorem dX7_save_52 : decode cX7_save 52 = .ok (.getfield 16, 3) := by decide +kernel
theorem dX7_save_55 : decode cX7_save 55 = .ok (.iconst 0, 1) := by decide +kernel
theorem dX7_save_56 : decode cX7_save 56 = .ok (.iaload, 1) := by decide +kernel
theorem dX7_save_57 : decode cX7_save 57 = .ok (.ireturn, 1) := by decide +kernel
set_option maxRecDepth 20000 in
theorem ggX7_restore_X7_in : GoodIn wsX7_restore wsX7_in := goodIn_r _ [8] (by decide +kernel) (by decide +kernel)
set_option maxRecDepth 20000 in
theorem gX7_restore_X7_in : GoodIn wsX7_restore (va_wsS RX7 118 yX7_in wsX7_in) := goodIn_app (goodIn_of _ (by decide +kernel)) ggX7_restore_X7_in
set_option maxRecDepth 20000 in
theorem ggX7_restore_X7_refused : GoodIn wsX7_restore wsX7_refused := goodIn_r _ [12, 13, 17, 18, 19, 20, 21, 22, 23, 24, 25, 26, 27, 28, 29, 30, 31, 32, 33, 34] (by decide +kernel) (by decide +kernel)
set_option maxRecDepth 20000 in
theorem gX7_restore_X7_refused : GoodIn wsX7_restore (wsV RX7 125 RX7 yX7_refused wsX7_refused) := goodIn_app (goodIn_of _ (by decide +kernel)) ggX7_restore_X7_refused
set_option maxRecDepth 20000 in
theorem ggX7_restore_X7_copy : GoodIn wsX7_restore wsX7_copy := goodIn_r _ [16] (by decide +kernel) (by decide +kernel)
set_option maxRecDepth 20000 in
theorem gX7_restore_X7_copy : GoodIn wsX7_restore (va_wsS RX7 63 yX7_copy wsX7_copy) := goodIn_app (goodIn_of _ (by decide +kernel)) ggX7_restore_X7_copy
theorem dX7_restore_0 : decode cX7_restore 0 = .ok (.aload_n 0, 1) := by decide +kernel
theorem dX7_restore_1 : decode cX7_restore 1 = .ok (.iload_n 1, 1) := by decide +kernel
theorem dX7_restore_2 : decode cX7_restore 2 = .ok (.i2l, 1) := by decide +kernel
theorem dX7_restore_3 : decode cX7_restore 3 = .ok (.lconst 0, 1) := by decide +kernel
theorem dX7_restore_4 : decode cX7_restore 4 = .ok (.lconst 1, 1) := by decide +kernel
theorem dX7_restore_5 : decode cX7_restore 5 = .ok (.invokestatic 118, 3) := by decide +kernel
theorem dX7_restore_8 : decode cX7_restore 8 = .ok (.ifCond .ne 7, 3) := by decide +kernel
theorem dX7_restore_11 : decode cX7_restore 11 = .ok (.iconst 1, 1) := by decide +kernel
theorem dX7_restore_12 : decode cX7_restore 12 = .ok (.goto 17, 3) := by decide +kernel
theorem dX7_restore_15 : decode cX7_restore 15 = .ok (.aload_n 0, 1) := by decide +kernel
theorem dX7_restore_16 : decode cX7_restore 16 = .ok (.getfield 28, 3) := by decide +kernel
theorem dX7_restore_19 : decode cX7_restore 19 = .ok (.iload_n 1, 1) := by decide +kernel
theorem dX7_restore_20 : decode cX7_restore 20 = .ok (.baload, 1) := by decide +kernel
theorem dX7_restore_21 : decode cX7_restore 21 = .ok (.ifCond .eq 7, 3) := by decide +kernel
theorem dX7_restore_24 : decode cX7_restore 24 = .ok (.iconst 0, 1) := by decide +kernel
theorem dX7_restore_25 : decode cX7_restore 25 = .ok (.goto 4, 3) := by decide +kernel
theorem dX7_restore_28 : decode cX7_restore 28 = .ok (.iconst 2, 1) := by decide +kernel
theorem dX7_restore_29 : decode cX7_restore 29 = .ok (.invokevirtual 125, 3) := by decide +kernel
theorem dX7_restore_32 : decode cX7_restore 32 = .ok (.ifCond .eq 5, 3) := by decide +kernel
theorem dX7_restore_35 : decode cX7_restore 35 = .ok (.iconst 0, 1) := by decide +kernel
theorem dX7_restore_36 : decode cX7_restore 36 = .ok (.ireturn, 1) := by decide +kernel
theorem dX7_restore_37 : decode cX7_restore 37 = .ok (.aload_n 0, 1) := by decide +kernel
theorem dX7_restore_38 : decode cX7_restore 38 = .ok (.getfield 25, 3) := by decide +kernel
theorem dX7_restore_41 : decode cX7_restore 41 = .ok (.sipush 980, 3) := by decide +kernel
theorem dX7_restore_44 : decode cX7_restore 44 = .ok (.iload_n 1, 1) := by decide +kernel
theorem dX7_restore_45 : decode cX7_restore 45 = .ok (.imul, 1) := by decide +kernel
theorem dX7_restore_46 : decode cX7_restore 46 = .ok (.aload_n 0, 1) := by decide +kernel
theorem dX7_restore_47 : decode cX7_restore 47 = .ok (.getfield 16, 3) := by decide +kernel
theorem dX7_restore_50 : decode cX7_restore 50 = .ok (.iconst 0, 1) := by decide +kernel
theorem dX7_restore_51 : decode cX7_restore 51 = .ok (.sipush 980, 3) := by decide +kernel
theorem dX7_restore_54 : decode cX7_restore 54 = .ok (.invokestatic 63, 3) := by decide +kernel
theorem dX7_restore_57 : decode cX7_restore 57 = .ok (.aload_n 0, 1) := by decide +kernel
theorem dX7_restore_58 : decode cX7_restore 58 = .ok (.iconst 0, 1) := by decide +kernel
theorem dX7_restore_59 : decode cX7_restore 59 = .ok (.putfield 60, 3) := by decide +kernel
theorem dX7_restore_62 : decode cX7_restore 62 = .ok (.aload_n 0, 1) := by decide +kernel
theorem dX7_restore_63 : decode cX7_restore 63 = .ok (.getfield 16, 3) := by decide +kernel
theorem dX7_restore_66 : decode cX7_restore 66 = .ok (.iconst 0, 1) := by decide +kernel
theorem dX7_restore_67 : decode cX7_restore 67 = .ok (.iaload, 1) := by decide +kernel
theorem dX7_restore_68 : decode cX7_restore 68 = .ok (.ireturn, 1) := by decide +kernel
