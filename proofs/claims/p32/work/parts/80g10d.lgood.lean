set_option maxRecDepth 20000 in
theorem gr_errors_wsX30 : GoodIn wsL_law wsX30 := goodIn_r _ [661, 662, 663, 664, 665, 666, 667, 668, 669] (by decide +kernel) (by decide +kernel)
set_option maxRecDepth 20000 in
theorem gr_errors_wsX50 : GoodIn wsL_law wsX50 := goodIn_r _ [670, 671, 672, 673] (by decide +kernel) (by decide +kernel)
set_option maxRecDepth 20000 in
theorem gr_errors_wsX40 : GoodIn wsL_law wsX40 := goodIn_r _ [655, 656, 657, 658, 659, 660] (by decide +kernel) (by decide +kernel)
set_option maxRecDepth 20000 in
theorem gr_errors_wsX00 : GoodIn wsL_law wsX00 := goodIn_r _ [674, 675, 676] (by decide +kernel) (by decide +kernel)
set_option maxRecDepth 20000 in
theorem gv_errors_0 : GoodIn wsL_law ((vx_atS RX6 52 "java/lang/IllegalArgumentException" ["java/lang/RuntimeException", "java/lang/Exception"]).filter goodWord) := goodIn_sub (fun _ h => List.mem_append_left _ (List.mem_append_left _ (List.mem_append_right _ h))) (by decide +kernel)
set_option maxRecDepth 20000 in
theorem gv_errors_1 : GoodIn wsL_law ((vx_atS RX6 285 "java/lang/IndexOutOfBoundsException" ["java/lang/RuntimeException", "java/lang/Exception"]).filter goodWord) := goodIn_sub (fun _ h => List.mem_append_left _ (List.mem_append_right _ h)) (by decide +kernel)
set_option maxRecDepth 20000 in
theorem gv_errors_2 : GoodIn wsL_law ((vx_atS RX6 63 "java/lang/IllegalStateException" ["java/lang/RuntimeException", "java/lang/Exception"]).filter goodWord) := goodIn_sub (fun _ h => List.mem_append_right _ h) (by decide +kernel)
theorem ggL_law_L_errors : GoodIn wsL_law wsL_errors := goodIn_app gc_errors (goodIn_app (goodIn_app (goodIn_app (goodIn_app (goodIn_app (goodIn_app (goodIn_app (goodIn_app (goodIn_app gr_errors_r1 (goodIn_app gr_errors_r2 (goodIn_app gr_errors_r3 (goodIn_app gr_errors_r4 (goodIn_app gr_errors_r5 (goodIn_app gr_errors_r6 (goodIn_app gr_errors_r7 (goodIn_app gr_errors_r8 (goodIn_app gr_errors_r9 (goodIn_app gr_errors_r10 (goodIn_app gr_errors_r11 (goodIn_app gr_errors_r12 (goodIn_app gr_errors_r13 (goodIn_app gr_errors_r14 (goodIn_app gr_errors_r15 (goodIn_app gr_errors_r16 (goodIn_app gr_errors_r17 (goodIn_app gr_errors_r18 (goodIn_app gr_errors_r19 (goodIn_app gr_errors_r20 (goodIn_app gr_errors_r21 gr_errors_r22))))))))))))))))))))) gr_errors_wsX60) gr_errors_wsX30) gr_errors_wsX50) gr_errors_wsX40) gr_errors_wsX00) gv_errors_0) gv_errors_1) gv_errors_2)
