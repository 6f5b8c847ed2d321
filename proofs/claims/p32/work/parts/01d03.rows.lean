theorem dX6_setsOrder_5 : decode cX6_setsOrder 5 = .ok (.iconst 2, 1) := by decide +kernel
theorem dX6_setsOrder_6 : decode cX6_setsOrder 6 = .ok (.if_icmp .lt 5, 3) := by decide +kernel
theorem dX6_setsOrder_9 : decode cX6_setsOrder 9 = .ok (.iconst 0, 1) := by decide +kernel
theorem dX6_setsOrder_10 : decode cX6_setsOrder 10 = .ok (.ireturn, 1) := by decide +kernel
theorem dX6_setsOrder_11 : decode cX6_setsOrder 11 = .ok (.aload_n 0, 1) := by decide +kernel
theorem dX6_setsOrder_12 : decode cX6_setsOrder 12 = .ok (.iload_n 1, 1) := by decide +kernel
theorem dX6_setsOrder_13 : decode cX6_setsOrder 13 = .ok (.putfield 100, 3) := by decide +kernel
theorem dX6_setsOrder_16 : decode cX6_setsOrder 16 = .ok (.iconst 1, 1) := by decide +kernel
theorem dX6_setsOrder_17 : decode cX6_setsOrder 17 = .ok (.ireturn, 1) := by decide +kernel
set_option maxRecDepth 20000 in
theorem ggX6_movesYear_X3_has : GoodIn wsX6_movesYear wsX3_has := goodIn_r _ [7, 8, 13, 14, 15, 16, 17, 18, 19, 20, 21] (by decide +kernel) (by decide +kernel)
set_option maxRecDepth 20000 in
theorem gX6_movesYear_X3_has : GoodIn wsX6_movesYear (wsV RX6 278 RX3 yX3_has wsX3_has) := goodIn_app (goodIn_of _ (by decide +kernel)) ggX6_movesYear_X3_has
set_option maxRecDepth 20000 in
theorem ggX6_movesYear_X6_isYear : GoodIn wsX6_movesYear wsX6_isYear := goodIn_r _ [12] (by decide +kernel) (by decide +kernel)
set_option maxRecDepth 20000 in
theorem gX6_movesYear_X6_isYear : GoodIn wsX6_movesYear (va_wsS RX6 213 yX6_isYear wsX6_isYear) := goodIn_app (goodIn_of _ (by decide +kernel)) ggX6_movesYear_X6_isYear
theorem dX6_movesYear_0 : decode cX6_movesYear 0 = .ok (.aload_n 0, 1) := by decide +kernel
theorem dX6_movesYear_1 : decode cX6_movesYear 1 = .ok (.iload_n 1, 1) := by decide +kernel
theorem dX6_movesYear_2 : decode cX6_movesYear 2 = .ok (.invokevirtual 278, 3) := by decide +kernel
theorem dX6_movesYear_5 : decode cX6_movesYear 5 = .ok (.ifCond .eq 20, 3) := by decide +kernel
theorem dX6_movesYear_8 : decode cX6_movesYear 8 = .ok (.aload_n 0, 1) := by decide +kernel
theorem dX6_movesYear_9 : decode cX6_movesYear 9 = .ok (.getfield 124, 3) := by decide +kernel
theorem dX6_movesYear_12 : decode cX6_movesYear 12 = .ok (.iload_n 1, 1) := by decide +kernel
theorem dX6_movesYear_13 : decode cX6_movesYear 13 = .ok (.aaload, 1) := by decide +kernel
theorem dX6_movesYear_14 : decode cX6_movesYear 14 = .ok (.getfield 125, 3) := by decide +kernel
theorem dX6_movesYear_17 : decode cX6_movesYear 17 = .ok (.iload_n 2, 1) := by decide +kernel
theorem dX6_movesYear_18 : decode cX6_movesYear 18 = .ok (.iadd, 1) := by decide +kernel
theorem dX6_movesYear_19 : decode cX6_movesYear 19 = .ok (.invokestatic 213, 3) := by decide +kernel
theorem dX6_movesYear_22 : decode cX6_movesYear 22 = .ok (.ifCond .ne 5, 3) := by decide +kernel
theorem dX6_movesYear_25 : decode cX6_movesYear 25 = .ok (.iconst 0, 1) := by decide +kernel
theorem dX6_movesYear_26 : decode cX6_movesYear 26 = .ok (.ireturn, 1) := by decide +kernel
theorem dX6_movesYear_27 : decode cX6_movesYear 27 = .ok (.aload_n 0, 1) := by decide +kernel
theorem dX6_movesYear_28 : decode cX6_movesYear 28 = .ok (.getfield 124, 3) := by decide +kernel
theorem dX6_movesYear_31 : decode cX6_movesYear 31 = .ok (.iload_n 1, 1) := by decide +kernel
theorem dX6_movesYear_32 : decode cX6_movesYear 32 = .ok (.aaload, 1) := by decide +kernel
theorem dX6_movesYear_33 : decode cX6_movesYear 33 = .ok (.dup, 1) := by decide +kernel
theorem dX6_movesYear_34 : decode cX6_movesYear 34 = .ok (.getfield 125, 3) := by decide +kernel
theorem dX6_movesYear_37 : decode cX6_movesYear 37 = .ok (.iload_n 2, 1) := by decide +kernel
theorem dX6_movesYear_38 : decode cX6_movesYear 38 = .ok (.iadd, 1) := by decide +kernel
theorem dX6_movesYear_39 : decode cX6_movesYear 39 = .ok (.putfield 125, 3) := by decide +kernel
theorem dX6_movesYear_42 : decode cX6_movesYear 42 = .ok (.iconst 1, 1) := by decide +kernel
theorem dX6_movesYear_43 : decode cX6_movesYear 43 = .ok (.ireturn, 1) := by decide +kernel
set_option maxRecDepth 20000 in
theorem ggX6_prints_X3_printKeys : GoodIn wsX6_prints wsX3_printKeys := goodIn_r _ [5, 6, 7, 8, 9, 10, 11, 12, 13, 14, 15, 16, 17, 18, 19] (by decide +kernel) (by decide +kernel)
set_option maxRecDepth 20000 in
theorem gX6_prints_X3_printKeys : GoodIn wsX6_prints (wsV RX6 227 RX3 yX3_printKeys wsX3_printKeys) := goodIn_app (goodIn_of _ (by decide +kernel)) ggX6_prints_X3_printKeys
theorem dX6_prints_0 : decode cX6_prints 0 = .ok (.iload_n 1, 1) := by decide +kernel
theorem dX6_prints_1 : decode cX6_prints 1 = .ok (.ifCond .eq 5, 3) := by decide +kernel
theorem dX6_prints_4 : decode cX6_prints 4 = .ok (.iconst 0, 1) := by decide +kernel
theorem dX6_prints_5 : decode cX6_prints 5 = .ok (.ireturn, 1) := by decide +kernel
theorem dX6_prints_6 : decode cX6_prints 6 = .ok (.aload_n 0, 1) := by decide +kernel
theorem dX6_prints_7 : decode cX6_prints 7 = .ok (.invokevirtual 227, 3) := by decide +kernel
theorem dX6_prints_10 : decode cX6_prints 10 = .ok (.iconst 1, 1) := by decide +kernel
theorem dX6_prints_11 : decode cX6_prints 11 = .ok (.ireturn, 1) := by decide +kernel
set_option maxRecDepth 20000 in
theorem ggX6_playRound_X5_empty : GoodIn wsX6_playRound wsX5_empty := goodIn_r _ [12, 13, 14, 15, 16, 55, 56, 57, 58] (by decide +kernel) (by decide +kernel)
set_option maxRecDepth 20000 in
theorem gX6_playRound_X5_empty : GoodIn wsX6_playRound (wsV RX6 309 RX5 yX5_empty wsX5_empty) := goodIn_app (goodIn_of _ (by decide +kernel)) ggX6_playRound_X5_empty
set_option maxRecDepth 20000 in
theorem ggX6_playRound_X2_with : GoodIn wsX6_playRound wsX2_with := goodIn_r _ [20] (by decide +kernel) (by decide +kernel)
set_option maxRecDepth 20000 in
theorem gX6_playRound_X2_with : GoodIn wsX6_playRound (va_wsS RX6 313 yX2_with wsX2_with) := goodIn_app (goodIn_of _ (by decide +kernel)) ggX6_playRound_X2_with
set_option maxRecDepth 20000 in
theorem ggX6_playRound_X3_place : GoodIn wsX6_playRound wsX3_place := goodIn_r _ [25, 26, 27, 28, 29, 30, 31, 11, 32, 13, 14, 15, 16, 59, 60, 61, 62, 63, 64, 65, 66, 67, 55, 56, 57, 58] (by decide +kernel) (by decide +kernel)
set_option maxRecDepth 20000 in
theorem gX6_playRound_X3_place : GoodIn wsX6_playRound (wsV RX6 84 RX3 yX3_place wsX3_place) := goodIn_app (goodIn_of _ (by decide +kernel)) ggX6_playRound_X3_place
set_option maxRecDepth 20000 in
theorem ggX6_playRound_X3_takeOut : GoodIn wsX6_playRound wsX3_takeOut := goodIn_r _ [36, 27, 26, 28, 37, 38, 39, 24, 40, 41, 42, 43, 44, 45, 46, 59, 60, 61, 62, 63, 64, 65, 66, 67] (by decide +kernel) (by decide +kernel)
set_option maxRecDepth 20000 in
theorem gX6_playRound_X3_takeOut : GoodIn wsX6_playRound (wsV RX6 219 RX3 yX3_takeOut wsX3_takeOut) := goodIn_app (goodIn_of _ (by decide +kernel)) ggX6_playRound_X3_takeOut
set_option maxRecDepth 20000 in
theorem ggX6_playRound_X3_has : GoodIn wsX6_playRound wsX3_has := goodIn_r _ [40, 26, 59, 60, 61, 62, 63, 64, 65, 66, 67] (by decide +kernel) (by decide +kernel)
set_option maxRecDepth 20000 in
theorem gX6_playRound_X3_has : GoodIn wsX6_playRound (wsV RX6 278 RX3 yX3_has wsX3_has) := goodIn_app (goodIn_of _ (by decide +kernel)) ggX6_playRound_X3_has
theorem dX6_playRound_0 : decode cX6_playRound 0 = .ok (.iload_n 2, 1) := by decide +kernel
theorem dX6_playRound_1 : decode cX6_playRound 1 = .ok (.iconst 4, 1) := by decide +kernel
theorem dX6_playRound_2 : decode cX6_playRound 2 = .ok (.irem, 1) := by decide +kernel
theorem dX6_playRound_3 : decode cX6_playRound 3 = .ok (.iconst 1, 1) := by decide +kernel
theorem dX6_playRound_4 : decode cX6_playRound 4 = .ok (.if_icmp .le 87, 3) := by decide +kernel
theorem dX6_playRound_7 : decode cX6_playRound 7 = .ok (.aload_n 0, 1) := by decide +kernel
theorem dX6_playRound_8 : decode cX6_playRound 8 = .ok (.getfield 29, 3) := by decide +kernel
theorem dX6_playRound_11 : decode cX6_playRound 11 = .ok (.invokevirtual 309, 3) := by decide +kernel
theorem dX6_playRound_14 : decode cX6_playRound 14 = .ok (.aload_n 0, 1) := by decide +kernel
theorem dX6_playRound_15 : decode cX6_playRound 15 = .ok (.getfield 29, 3) := by decide +kernel
theorem dX6_playRound_18 : decode cX6_playRound 18 = .ok (.iconst 1, 1) := by decide +kernel
theorem dX6_playRound_19 : decode cX6_playRound 19 = .ok (.putfield 128, 3) := by decide +kernel
theorem dX6_playRound_22 : decode cX6_playRound 22 = .ok (.aload_n 0, 1) := by decide +kernel
theorem dX6_playRound_23 : decode cX6_playRound 23 = .ok (.getfield 29, 3) := by decide +kernel
theorem dX6_playRound_26 : decode cX6_playRound 26 = .ok (.getfield 310, 3) := by decide +kernel
theorem dX6_playRound_29 : decode cX6_playRound 29 = .ok (.iconst 0, 1) := by decide +kernel
theorem dX6_playRound_30 : decode cX6_playRound 30 = .ok (.lconst 0, 1) := by decide +kernel
theorem dX6_playRound_31 : decode cX6_playRound 31 = .ok (.iconst 0, 1) := by decide +kernel
theorem dX6_playRound_32 : decode cX6_playRound 32 = .ok (.iconst 1, 1) := by decide +kernel
theorem dX6_playRound_33 : decode cX6_playRound 33 = .ok (.iload_n 2, 1) := by decide +kernel
theorem dX6_playRound_34 : decode cX6_playRound 34 = .ok (.iconst 4, 1) := by decide +kernel
theorem dX6_playRound_35 : decode cX6_playRound 35 = .ok (.idiv, 1) := by decide +kernel
theorem dX6_playRound_36 : decode cX6_playRound 36 = .ok (.iconst 3, 1) := by decide +kernel
theorem dX6_playRound_37 : decode cX6_playRound 37 = .ok (.irem, 1) := by decide +kernel
theorem dX6_playRound_38 : decode cX6_playRound 38 = .ok (.iadd, 1) := by decide +kernel
theorem dX6_playRound_39 : decode cX6_playRound 39 = .ok (.invokestatic 313, 3) := by decide +kernel
theorem dX6_playRound_42 : decode cX6_playRound 42 = .ok (.lastore, 1) := by decide +kernel
theorem dX6_playRound_43 : decode cX6_playRound 43 = .ok (.aload_n 0, 1) := by decide +kernel
theorem dX6_playRound_44 : decode cX6_playRound 44 = .ok (.getfield 29, 3) := by decide +kernel
theorem dX6_playRound_47 : decode cX6_playRound 47 = .ok (.sipush 1990, 3) := by decide +kernel
theorem dX6_playRound_50 : decode cX6_playRound 50 = .ok (.iload_n 2, 1) := by decide +kernel
theorem dX6_playRound_51 : decode cX6_playRound 51 = .ok (.bipush 16, 2) := by decide +kernel
theorem dX6_playRound_53 : decode cX6_playRound 53 = .ok (.idiv, 1) := by decide +kernel
theorem dX6_playRound_54 : decode cX6_playRound 54 = .ok (.iconst 3, 1) := by decide +kernel
theorem dX6_playRound_55 : decode cX6_playRound 55 = .ok (.irem, 1) := by decide +kernel
theorem dX6_playRound_56 : decode cX6_playRound 56 = .ok (.iadd, 1) := by decide +kernel
theorem dX6_playRound_57 : decode cX6_playRound 57 = .ok (.putfield 125, 3) := by decide +kernel
theorem dX6_playRound_60 : decode cX6_playRound 60 = .ok (.aload_n 0, 1) := by decide +kernel
theorem dX6_playRound_61 : decode cX6_playRound 61 = .ok (.getfield 29, 3) := by decide +kernel
theorem dX6_playRound_64 : decode cX6_playRound 64 = .ok (.lconst 0, 1) := by decide +kernel
theorem dX6_playRound_65 : decode cX6_playRound 65 = .ok (.iconst 0, 1) := by decide +kernel
theorem dX6_playRound_66 : decode cX6_playRound 66 = .ok (.iconst 1, 1) := by decide +kernel
theorem dX6_playRound_67 : decode cX6_playRound 67 = .ok (.iload_n 2, 1) := by decide +kernel
theorem dX6_playRound_68 : decode cX6_playRound 68 = .ok (.bipush 64, 2) := by decide +kernel
theorem dX6_playRound_70 : decode cX6_playRound 70 = .ok (.idiv, 1) := by decide +kernel
theorem dX6_playRound_71 : decode cX6_playRound 71 = .ok (.iconst 3, 1) := by decide +kernel
theorem dX6_playRound_72 : decode cX6_playRound 72 = .ok (.irem, 1) := by decide +kernel
theorem dX6_playRound_73 : decode cX6_playRound 73 = .ok (.iadd, 1) := by decide +kernel
theorem dX6_playRound_74 : decode cX6_playRound 74 = .ok (.invokestatic 313, 3) := by decide +kernel
theorem dX6_playRound_77 : decode cX6_playRound 77 = .ok (.putfield 131, 3) := by decide +kernel
theorem dX6_playRound_80 : decode cX6_playRound 80 = .ok (.aload_n 1, 1) := by decide +kernel
theorem dX6_playRound_81 : decode cX6_playRound 81 = .ok (.aload_n 0, 1) := by decide +kernel
theorem dX6_playRound_82 : decode cX6_playRound 82 = .ok (.getfield 29, 3) := by decide +kernel
theorem dX6_playRound_85 : decode cX6_playRound 85 = .ok (.invokevirtual 84, 3) := by decide +kernel
theorem dX6_playRound_88 : decode cX6_playRound 88 = .ok (.goto 60, 3) := by decide +kernel
theorem dX6_playRound_91 : decode cX6_playRound 91 = .ok (.aload_n 1, 1) := by decide +kernel
theorem dX6_playRound_92 : decode cX6_playRound 92 = .ok (.getfield 94, 3) := by decide +kernel
theorem dX6_playRound_95 : decode cX6_playRound 95 = .ok (.ifCond .le 53, 3) := by decide +kernel
theorem dX6_playRound_98 : decode cX6_playRound 98 = .ok (.iload_n 2, 1) := by decide +kernel
theorem dX6_playRound_99 : decode cX6_playRound 99 = .ok (.iconst 4, 1) := by decide +kernel
theorem dX6_playRound_100 : decode cX6_playRound 100 = .ok (.idiv, 1) := by decide +kernel
theorem dX6_playRound_101 : decode cX6_playRound 101 = .ok (.aload_n 1, 1) := by decide +kernel
theorem dX6_playRound_102 : decode cX6_playRound 102 = .ok (.getfield 94, 3) := by decide +kernel
theorem dX6_playRound_105 : decode cX6_playRound 105 = .ok (.irem, 1) := by decide +kernel
theorem dX6_playRound_106 : decode cX6_playRound 106 = .ok (.istore_n 3, 1) := by decide +kernel
theorem dX6_playRound_107 : decode cX6_playRound 107 = .ok (.iload_n 2, 1) := by decide +kernel
theorem dX6_playRound_108 : decode cX6_playRound 108 = .ok (.iconst 4, 1) := by decide +kernel
theorem dX6_playRound_109 : decode cX6_playRound 109 = .ok (.irem, 1) := by decide +kernel
theorem dX6_playRound_110 : decode cX6_playRound 110 = .ok (.ifCond .ne 11, 3) := by decide +kernel
theorem dX6_playRound_113 : decode cX6_playRound 113 = .ok (.aload_n 1, 1) := by decide +kernel
theorem dX6_playRound_114 : decode cX6_playRound 114 = .ok (.iload_n 3, 1) := by decide +kernel
theorem dX6_playRound_115 : decode cX6_playRound 115 = .ok (.invokevirtual 219, 3) := by decide +kernel
theorem dX6_playRound_118 : decode cX6_playRound 118 = .ok (.goto 30, 3) := by decide +kernel
theorem dX6_playRound_121 : decode cX6_playRound 121 = .ok (.aload_n 1, 1) := by decide +kernel
theorem dX6_playRound_122 : decode cX6_playRound 122 = .ok (.iload_n 3, 1) := by decide +kernel
theorem dX6_playRound_123 : decode cX6_playRound 123 = .ok (.invokevirtual 278, 3) := by decide +kernel
theorem dX6_playRound_126 : decode cX6_playRound 126 = .ok (.ifCond .eq 22, 3) := by decide +kernel
theorem dX6_playRound_129 : decode cX6_playRound 129 = .ok (.aload_n 1, 1) := by decide +kernel
theorem dX6_playRound_130 : decode cX6_playRound 130 = .ok (.getfield 124, 3) := by decide +kernel
theorem dX6_playRound_133 : decode cX6_playRound 133 = .ok (.iload_n 3, 1) := by decide +kernel
theorem dX6_playRound_134 : decode cX6_playRound 134 = .ok (.aaload, 1) := by decide +kernel
theorem dX6_playRound_135 : decode cX6_playRound 135 = .ok (.sipush 1990, 3) := by decide +kernel
theorem dX6_playRound_138 : decode cX6_playRound 138 = .ok (.iload_n 2, 1) := by decide +kernel
theorem dX6_playRound_139 : decode cX6_playRound 139 = .ok (.bipush 64, 2) := by decide +kernel
theorem dX6_playRound_141 : decode cX6_playRound 141 = .ok (.idiv, 1) := by decide +kernel
theorem dX6_playRound_142 : decode cX6_playRound 142 = .ok (.iconst 4, 1) := by decide +kernel
theorem dX6_playRound_143 : decode cX6_playRound 143 = .ok (.irem, 1) := by decide +kernel
theorem dX6_playRound_144 : decode cX6_playRound 144 = .ok (.iadd, 1) := by decide +kernel
theorem dX6_playRound_145 : decode cX6_playRound 145 = .ok (.putfield 125, 3) := by decide +kernel
theorem dX6_playRound_148 : decode cX6_playRound 148 = .ok (.return_, 1) := by decide +kernel
theorem dJ6_compare_7cf53_0 : decode cJ6_compare_7cf53 0 = .ok (.iload_n 0, 1) := by decide +kernel
theorem dJ6_compare_7cf53_1 : decode cJ6_compare_7cf53 1 = .ok (.iload_n 1, 1) := by decide +kernel
theorem dJ6_compare_7cf53_2 : decode cJ6_compare_7cf53 2 = .ok (.if_icmp .ge 7, 3) := by decide +kernel
theorem dJ6_compare_7cf53_5 : decode cJ6_compare_7cf53 5 = .ok (.iconst (-1), 1) := by decide +kernel
theorem dJ6_compare_7cf53_6 : decode cJ6_compare_7cf53 6 = .ok (.goto 13, 3) := by decide +kernel
theorem dJ6_compare_7cf53_9 : decode cJ6_compare_7cf53 9 = .ok (.iload_n 0, 1) := by decide +kernel
theorem dJ6_compare_7cf53_10 : decode cJ6_compare_7cf53 10 = .ok (.iload_n 1, 1) := by decide +kernel
theorem dJ6_compare_7cf53_11 : decode cJ6_compare_7cf53 11 = .ok (.if_icmp .ne 7, 3) := by decide +kernel
theorem dJ6_compare_7cf53_14 : decode cJ6_compare_7cf53 14 = .ok (.iconst 0, 1) := by decide +kernel
theorem dJ6_compare_7cf53_15 : decode cJ6_compare_7cf53 15 = .ok (.goto 4, 3) := by decide +kernel
theorem dJ6_compare_7cf53_18 : decode cJ6_compare_7cf53 18 = .ok (.iconst 1, 1) := by decide +kernel
theorem dJ6_compare_7cf53_19 : decode cJ6_compare_7cf53 19 = .ok (.ireturn, 1) := by decide +kernel
theorem dJ13_compare_74951_0 : decode cJ13_compare_74951 0 = .ok (.lload_n 0, 1) := by decide +kernel
theorem dJ13_compare_74951_1 : decode cJ13_compare_74951 1 = .ok (.lload_n 2, 1) := by decide +kernel
theorem dJ13_compare_74951_2 : decode cJ13_compare_74951 2 = .ok (.lcmp, 1) := by decide +kernel
theorem dJ13_compare_74951_3 : decode cJ13_compare_74951 3 = .ok (.ifCond .ge 7, 3) := by decide +kernel
theorem dJ13_compare_74951_6 : decode cJ13_compare_74951 6 = .ok (.iconst (-1), 1) := by decide +kernel
theorem dJ13_compare_74951_7 : decode cJ13_compare_74951 7 = .ok (.goto 14, 3) := by decide +kernel
theorem dJ13_compare_74951_10 : decode cJ13_compare_74951 10 = .ok (.lload_n 0, 1) := by decide +kernel
theorem dJ13_compare_74951_11 : decode cJ13_compare_74951 11 = .ok (.lload_n 2, 1) := by decide +kernel
theorem dJ13_compare_74951_12 : decode cJ13_compare_74951 12 = .ok (.lcmp, 1) := by decide +kernel
theorem dJ13_compare_74951_13 : decode cJ13_compare_74951 13 = .ok (.ifCond .ne 7, 3) := by decide +kernel
theorem dJ13_compare_74951_16 : decode cJ13_compare_74951 16 = .ok (.iconst 0, 1) := by decide +kernel
theorem dJ13_compare_74951_17 : decode cJ13_compare_74951 17 = .ok (.goto 4, 3) := by decide +kernel
theorem dJ13_compare_74951_20 : decode cJ13_compare_74951 20 = .ok (.iconst 1, 1) := by decide +kernel
theorem dJ13_compare_74951_21 : decode cJ13_compare_74951 21 = .ok (.ireturn, 1) := by decide +kernel
theorem dJ9_max_7cf53_0 : decode cJ9_max_7cf53 0 = .ok (.iload_n 0, 1) := by decide +kernel
theorem dJ9_max_7cf53_1 : decode cJ9_max_7cf53 1 = .ok (.iload_n 1, 1) := by decide +kernel
theorem dJ9_max_7cf53_2 : decode cJ9_max_7cf53 2 = .ok (.if_icmp .lt 7, 3) := by decide +kernel
theorem dJ9_max_7cf53_5 : decode cJ9_max_7cf53 5 = .ok (.iload_n 0, 1) := by decide +kernel
theorem dJ9_max_7cf53_6 : decode cJ9_max_7cf53 6 = .ok (.goto 4, 3) := by decide +kernel
theorem dJ9_max_7cf53_9 : decode cJ9_max_7cf53 9 = .ok (.iload_n 1, 1) := by decide +kernel
theorem dJ9_max_7cf53_10 : decode cJ9_max_7cf53 10 = .ok (.ireturn, 1) := by decide +kernel
