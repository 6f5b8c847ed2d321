set_option maxRecDepth 20000 in
theorem gr_act_wsX00 : GoodIn wsL_law wsX00 := goodIn_r _ [674, 675, 676] (by decide +kernel) (by decide +kernel)
set_option maxRecDepth 20000 in
theorem gr_act_wsX50 : GoodIn wsL_law wsX50 := goodIn_r _ [670, 671, 672, 673] (by decide +kernel) (by decide +kernel)
set_option maxRecDepth 20000 in
theorem gr_act_wsX40 : GoodIn wsL_law wsX40 := goodIn_r _ [655, 656, 657, 658, 659, 660] (by decide +kernel) (by decide +kernel)
set_option maxRecDepth 20000 in
theorem gv_act_0 : GoodIn wsL_law ((vx_atS RX6 52 "java/lang/IllegalArgumentException" ["java/lang/RuntimeException", "java/lang/Exception"]).filter goodWord) := goodIn_sub (fun _ h => List.mem_append_left _ (List.mem_append_left _ (List.mem_append_right _ h))) (by decide +kernel)
set_option maxRecDepth 20000 in
theorem gv_act_1 : GoodIn wsL_law ((vx_atS RX6 285 "java/lang/IndexOutOfBoundsException" ["java/lang/RuntimeException", "java/lang/Exception"]).filter goodWord) := goodIn_sub (fun _ h => List.mem_append_left _ (List.mem_append_right _ h)) (by decide +kernel)
set_option maxRecDepth 20000 in
theorem gv_act_2 : GoodIn wsL_law ((vx_atS RX6 63 "java/lang/IllegalStateException" ["java/lang/RuntimeException", "java/lang/Exception"]).filter goodWord) := goodIn_sub (fun _ h => List.mem_append_right _ h) (by decide +kernel)
theorem ggL_law_L_act : GoodIn wsL_law wsL_act := goodIn_app gc_act (goodIn_app (goodIn_app (goodIn_app (goodIn_app (goodIn_app (goodIn_app (goodIn_app (goodIn_app (goodIn_app gr_act_r1 (goodIn_app gr_act_r2 (goodIn_app gr_act_r3 (goodIn_app gr_act_r4 (goodIn_app gr_act_r5 (goodIn_app gr_act_r6 (goodIn_app gr_act_r7 (goodIn_app gr_act_r8 (goodIn_app gr_act_r9 (goodIn_app gr_act_r10 (goodIn_app gr_act_r11 (goodIn_app gr_act_r12 gr_act_r13)))))))))))) gr_act_wsX60) gr_act_wsX30) gr_act_wsX00) gr_act_wsX50) gr_act_wsX40) gv_act_0) gv_act_1) gv_act_2)
