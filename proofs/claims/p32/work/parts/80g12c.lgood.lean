set_option maxRecDepth 20000 in
theorem gr_kept_wsX50 : GoodIn wsL_law wsX50 := goodIn_r _ [670, 671, 672, 673] (by decide +kernel) (by decide +kernel)
set_option maxRecDepth 20000 in
theorem gv_kept_0 : GoodIn wsL_law ((vx_atS RX6 52 "java/lang/IllegalArgumentException" ["java/lang/RuntimeException", "java/lang/Exception"]).filter goodWord) := goodIn_sub (fun _ h => List.mem_append_left _ (List.mem_append_left _ (List.mem_append_right _ h))) (by decide +kernel)
set_option maxRecDepth 20000 in
theorem gv_kept_1 : GoodIn wsL_law ((vx_atS RX6 285 "java/lang/IndexOutOfBoundsException" ["java/lang/RuntimeException", "java/lang/Exception"]).filter goodWord) := goodIn_sub (fun _ h => List.mem_append_left _ (List.mem_append_right _ h)) (by decide +kernel)
theorem ggL_law_L_kept : GoodIn wsL_law wsL_kept := goodIn_app gc_kept (goodIn_app (goodIn_app (goodIn_app (goodIn_app (goodIn_app (goodIn_app gr_kept_r1 (goodIn_app gr_kept_r2 (goodIn_app gr_kept_r3 (goodIn_app gr_kept_r4 (goodIn_app gr_kept_r5 (goodIn_app gr_kept_r6 (goodIn_app gr_kept_r7 (goodIn_app gr_kept_r8 (goodIn_app gr_kept_r9 (goodIn_app gr_kept_r10 (goodIn_app gr_kept_r11 (goodIn_app gr_kept_r12 gr_kept_r13)))))))))))) gr_kept_wsX60) gr_kept_wsX30) gr_kept_wsX50) gv_kept_0) gv_kept_1)
