set_option maxRecDepth 20000 in
theorem gr_alike_wsX60 : GoodIn wsL_law wsX60 := goodIn_r _ [648, 649, 650, 651, 652, 653, 654] (by decide +kernel) (by decide +kernel)
set_option maxRecDepth 20000 in
theorem gr_alike_wsX30 : GoodIn wsL_law wsX30 := goodIn_r _ [661, 662, 663, 664, 665, 666, 667, 668, 669] (by decide +kernel) (by decide +kernel)
set_option maxRecDepth 20000 in
theorem gr_alike_wsX50 : GoodIn wsL_law wsX50 := goodIn_r _ [670, 671, 672, 673] (by decide +kernel) (by decide +kernel)
set_option maxRecDepth 20000 in
theorem gv_alike_0 : GoodIn wsL_law ((vx_atS RX6 52 "java/lang/IllegalArgumentException" ["java/lang/RuntimeException", "java/lang/Exception"]).filter goodWord) := goodIn_sub (fun _ h => List.mem_append_left _ (List.mem_append_left _ (List.mem_append_right _ h))) (by decide +kernel)
set_option maxRecDepth 20000 in
theorem gv_alike_1 : GoodIn wsL_law ((vx_atS RX6 285 "java/lang/IndexOutOfBoundsException" ["java/lang/RuntimeException", "java/lang/Exception"]).filter goodWord) := goodIn_sub (fun _ h => List.mem_append_left _ (List.mem_append_right _ h)) (by decide +kernel)
theorem ggL_law_L_alike : GoodIn wsL_law wsL_alike := goodIn_app gc_alike (goodIn_app (goodIn_app (goodIn_app (goodIn_app (goodIn_app (goodIn_app gr_alike_r1 (goodIn_app gr_alike_r2 (goodIn_app gr_alike_r3 (goodIn_app gr_alike_r4 (goodIn_app gr_alike_r5 (goodIn_app gr_alike_r6 (goodIn_app gr_alike_r7 (goodIn_app gr_alike_r8 (goodIn_app gr_alike_r9 (goodIn_app gr_alike_r10 (goodIn_app gr_alike_r11 (goodIn_app gr_alike_r12 (goodIn_app gr_alike_r13 (goodIn_app gr_alike_r14 gr_alike_r15)))))))))))))) gr_alike_wsX60) gr_alike_wsX30) gr_alike_wsX50) gv_alike_0) gv_alike_1)
