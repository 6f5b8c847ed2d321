set_option maxRecDepth 20000 in
theorem gL_law_L_follows : GoodIn wsL_law (va_wsS RL 245 yL_follows wsL_follows) := goodIn_app (goodIn_of _ (by decide +kernel)) ggL_law_L_follows
set_option maxRecDepth 20000 in
theorem ggL_law_L_save : GoodIn wsL_law wsL_save := goodIn_ca (goodIn_r _ [546, 141, 142, 547, 548, 549, 2, 550, 28, 18, 30, 91, 551, 552, 553, 156, 157, 256, 257, 258, 17, 259, 99, 260, 174, 137, 50, 51, 52, 53, 55, 261, 262, 263, 22, 264, 44, 220, 265, 221, 648, 649, 650, 651, 652, 653, 654, 661, 662, 663, 664, 665, 666, 667, 668, 669, 670, 671, 672, 673] (by decide +kernel) (by decide +kernel)) (goodIn_sub (fun _ h => List.mem_append_left _ (List.mem_append_right _ h)) (by decide +kernel))
set_option maxRecDepth 20000 in
theorem gL_law_L_save : GoodIn wsL_law (va_wsS RL 152 yL_save wsL_save) := goodIn_app (goodIn_of _ (by decide +kernel)) ggL_law_L_save
set_option maxRecDepth 20000 in
theorem ggL_law_L_restore : GoodIn wsL_law wsL_restore := goodIn_ca (goodIn_ca (goodIn_r _ [556, 141, 414, 142, 402, 557, 558, 559, 2, 560, 419, 420, 30, 18, 28, 27, 91, 551, 552, 553, 156, 157, 256, 257, 258, 17, 259, 99, 260, 174, 137, 50, 51, 52, 53, 55, 261, 262, 263, 22, 264, 44, 220, 265, 221, 533, 534, 535, 26, 536, 476, 648, 649, 650, 651, 652, 653, 654, 661, 662, 663, 664, 665, 666, 667, 668, 669, 670, 671, 672, 673, 674, 675, 676] (by decide +kernel) (by decide +kernel)) (goodIn_sub (fun _ h => List.mem_append_right _ h) (by decide +kernel))) (goodIn_sub (fun _ h => List.mem_append_left _ (List.mem_append_right _ h)) (by decide +kernel))
set_option maxRecDepth 20000 in
theorem gL_law_L_restore : GoodIn wsL_law (va_wsS RL 154 yL_restore wsL_restore) := goodIn_app (goodIn_of _ (by decide +kernel)) ggL_law_L_restore
