theorem dX6_setsOrder_5 : decode cX6_setsOrder 5 = .ok (.iconst 2, 1) := by decide +kernel
theorem dX6_setsOrder_6 : decode cX6_setsOrder 6 = .ok (.if_icmp .lt 5, 3) := by decide +kernel
theorem dX6_setsOrder_9 : decode cX6_setsOrder 9 = .ok (.iconst 0, 1) := by decide +kernel
theorem dX6_setsOrder_10 : decode cX6_setsOrder 10 = .ok (.ireturn, 1) := by decide +kernel
theorem dX6_setsOrder_11 : decode cX6_setsOrder 11 = .ok (.aload_n 0, 1) := by decide +kernel
theorem dX6_setsOrder_12 : decode cX6_setsOrder 12 = .ok (.iload_n 1, 1) := by decide +kernel
theorem dX6_setsOrder_13 : decode cX6_setsOrder 13 = .ok (.putfield 100, 3) := by decide +kernel
theorem dX6_setsOrder_16 : decode cX6_setsOrder 16 = .ok (.iconst 1, 1) := by decide +kernel
theorem dX6_setsOrder_17 : decode cX6_setsOrder 17 = .ok (.ireturn, 1) := by decide +kernel
set_option maxRecDepth 20000 in
theorem ggX6_movesYear_X3_has : GoodIn wsX6_movesYear wsX3_has := goodIn_r _ [7, 8, 13, 14, 15, 16, 17, 18, 19, 20, 21] (by decide +kernel) (by decide +kernel)
set_option maxRecDepth 20000 in
theorem gX6_movesYear_X3_has : GoodIn wsX6_movesYear (wsV RX6 278 RX3 yX3_has wsX3_has) := goodIn_app (goodIn_of _ (by decide +kernel)) ggX6_movesYear_X3_has
set_option maxRecDepth 20000 in
theorem ggX6_movesYear_X6_isYear : GoodIn wsX6_movesYear wsX6_isYear := goodIn_r _ [12] (by decide +kernel) (by decide +kernel)
set_option maxRecDepth 20000 in
theorem gX6_movesYear_X6_isYear : GoodIn wsX6_movesYear (va_wsS RX6 213 yX6_isYear wsX6_isYear) := goodIn_app (goodIn_of _ (by decide +kernel)) ggX6_movesYear_X6_isYear
theorem dX6_movesYear_0 : decode cX6_movesYear 0 = .ok (.aload_n 0, 1) := by decide +kernel
theorem dX6_movesYear_1 : decode cX6_movesYear 1 = .ok (.iload_n 1, 1) := by decide +kernel
theorem dX6_movesYear_2 : decode cX6_movesYear 2 = .ok (.invokevirtual 278, 3) := by decide +kernel
theorem dX6_movesYear_5 : decode cX6_movesYear 5 = .ok (.ifCond .eq 20, 3) := by decide +kernel
theorem dX6_movesYear_8 : decode cX6_movesYear 8 = .ok (.aload_n 0, 1) := by decide +kernel
theorem dX6_movesYear_9 : decode cX6_movesYear 9 = .ok (.getfield 124, 3) := by decide +kernel
theorem dX6_movesYear_12 : decode cX6_movesYear 12 = .ok (.iload_n 1, 1) := by decide +kernel
theorem dX6_movesYear_13 : decode cX6_movesYear 13 = .ok (.aaload, 1) := by decide +kernel
theorem dX6_movesYear_14 : decode cX6_movesYear 14 = .ok (.getfield 125, 3) := by decide +kernel
theorem dX6_movesYear_17 : decode cX6_movesYear 17 = .ok (.iload_n 2, 1) := by decide +kernel
theorem dX6_movesYear_18 : decode cX6_movesYear 18 = .ok (.iadd, 1) := by decide +kernel
theorem dX6_movesYear_19 : decode cX6_movesYear 19 = .ok (.invokestatic 213, 3) := by decide +kernel
theorem dX6_movesYear_22 : decode cX6_movesYear 22 = .ok (.ifCond .ne 5, 3) := by decide +kernel
theorem dX6_movesYear_25 : decode cX6_movesYear 25 = .ok (.iconst 0, 1) := by decide +kernel
theorem dX6_movesYear_26 : decode cX6_movesYear 26 = .ok (.ireturn, 1) := by decide +kernel
theorem dX6_movesYear_27 : decode cX6_movesYear 27 = .ok (.aload_n 0, 1) := by decide +kernel
theorem dX6_movesYear_28 : decode cX6_movesYear 28 = .ok (.getfield 124, 3) := by decide +kernel
theorem dX6_movesYear_31 : decode cX6_movesYear 31 = .ok (.iload_n 1, 1) := by decide +kernel
theorem dX6_movesYear_32 : decode cX6_movesYear 32 = .ok (.aaload, 1) := by decide +kernel
theorem dX6_movesYear_33 : decode cX6_movesYear 33 = .ok (.dup, 1) := by decide +kernel
theorem dX6_movesYear_34 : decode cX6_movesYear 34 = .ok (.getfield 125, 3) := by decide +kernel
theorem dX6_movesYear_37 : decode cX6_movesYear 37 = .ok (.iload_n 2, 1) := by decide +kernel
theorem dX6_movesYear_38 : decode cX6_movesYear 38 = .ok (.iadd, 1) := by decide +kernel
theorem dX6_movesYear_39 : decode cX6_movesYear 39 = .ok (.putfield 125, 3) := by decide +kernel
theorem dX6_movesYear_42 : decode cX6_movesYear 42 = .ok (.iconst 1, 1) := by decide +kernel
theorem dX6_movesYear_43 : decode cX6_movesYear 43 = .ok (.ireturn, 1) := by decide +kernel
set_option maxRecDepth 20000 in
theorem ggX6_prints_X3_printKeys : GoodIn wsX6_prints wsX3_printKeys := goodIn_r _ [5, 6, 7, 8, 9, 10, 11, 12, 13, 14, 15, 16, 17, 18, 19] (by decide +kernel) (by decide +kernel)
set_option maxRecDepth 20000 in
theorem gX6_prints_X3_printKeys : GoodIn wsX6_prints (wsV RX6 227 RX3 yX3_printKeys wsX3_printKeys) := goodIn_app (goodIn_of _ (by decide +kernel)) ggX6_prints_X3_printKeys
theorem dX6_prints_0 : decode cX6_prints 0 = .ok (.iload_n 1, 1) := by decide +kernel
theorem dX6_prints_1 : decode cX6_prints 1 = .ok (.ifCond .eq 5, 3) := by decide +kernel
theorem dX6_prints_4 : decode cX6_prints 4 = .ok (.iconst 0, 1) := by decide +kernel
theorem dX6_prints_5 : decode cX6_prints 5 = .ok (.ireturn, 1) := by decide +kernel
theorem dX6_prints_6 : decode cX6_prints 6 = .ok (.aload_n 0, 1) := by decide +kernel
theorem dX6_prints_7 : decode cX6_prints 7 = .ok (.invokevirtual 227, 3) := by decide +kernel
theorem dX6_prints_10 : decode cX6_prints 10 = .ok (.iconst 1, 1) := by decide +kernel
theorem dX6_prints_11 : decode cX6_prints 11 = .ok (.ireturn, 1) := by decide +kernel
set_option maxRecDepth 20000 in
theorem ggX6_playRound_X5_empty : GoodIn wsX6_playRound wsX5_empty := goodIn_r _ [12, 13, 14, 15, 16, 55, 56, 57, 58] (by decide +kernel) (by decide +kernel)
set_option maxRecDepth 20000 in
theorem gX6_playRound_X5_empty : GoodIn wsX6_playRound (wsV RX6 309 RX5 yX5_empty wsX5_empty) := goodIn_app (goodIn_of _ (by decide +kernel)) ggX6_playRound_X5_empty
set_option maxRecDepth 20000 in
theorem ggX6_playRound_X2_with : GoodIn wsX6_playRound wsX2_with := goodIn_r _ [20] (by decide +kernel) (by decide +kernel)
set_option maxRecDepth 20000 in
theorem gX6_playRound_X2_with : GoodIn wsX6_playRound (va_wsS RX6 313 yX2_with wsX2_with) := goodIn_app (goodIn_of _ (by decide +kernel)) ggX6_playRound_X2_with
set_option maxRecDepth 20000 in
theorem ggX6_playRound_X3_place : GoodIn wsX6_playRound wsX3_place := goodIn_r _ [25, 26, 27, 28, 29, 30, 31, 11, 32, 13, 14, 15, 16, 59, 60, 61, 62, 63, 64, 65, 66, 67, 55, 56, 57, 58] (by decide +kernel) (by decide +kernel)
set_option maxRecDepth 20000 in
theorem gX6_playRound_X3_place : GoodIn wsX6_playRound (wsV RX6 84 RX3 yX3_place wsX3_place) := goodIn_app (goodIn_of _ (by decide +kernel)) ggX6_playRound_X3_place
set_option maxRecDepth 20000 in
theorem ggX6_playRound_X3_takeOut : GoodIn wsX6_playRound wsX3_takeOut := goodIn_r _ [36, 27, 26, 28, 37, 38, 39, 24, 40, 41, 42, 43, 44, 45, 46, 59, 60, 61, 62, 63, 64, 65, 66, 67] (by decide +kernel) (by decide +kernel)
set_option maxRecDepth 20000 in
theorem gX6_playRound_X3_takeOut : GoodIn wsX6_playRound (wsV RX6 219 RX3 yX3_takeOut wsX3_takeOut) := goodIn_app (goodIn_of _ (by decide +kernel)) ggX6_playRound_X3_takeOut
set_option maxRecDepth 20000 in
theorem ggX6_playRound_X3_has : GoodIn wsX6_playRound wsX3_has := goodIn_r _ [40, 26, 59, 60, 61, 62, 63, 64, 65, 66, 67] (by decide +kernel) (by decide +kernel)
set_option maxRecDepth 20000 in
theorem gX6_playRound_X3_has : GoodIn wsX6_playRound (wsV RX6 278 RX3 yX3_has wsX3_has) := goodIn_app (goodIn_of _ (by decide +kernel)) ggX6_playRound_X3_has
theorem dX6_playRound_0 : decode cX6_playRound 0 = .ok (.iload_n 2, 1) := by decide +kernel
theorem dX6_playRound_1 : decode cX6_playRound 1 = .ok (.iconst 4, 1) := by decide +kernel
theorem dX6_playRound_2 : decode cX6_playRound 2 = .ok (.irem, 1) := by decide +kernel
theorem dX6_playRound_3 : decode cX6_playRound 3 = .ok (.iconst 1, 1) := by decide +kernel
theorem dX6_playRound_4 : decode cX6_playRound 4 = .ok (.if_icmp .le 87, 3) := by decide +kernel
theorem dX6_playRound_7 : decode cX6_playRound 7 = .ok (.aload_n 0, 1) := by decide +kernel
theorem dX6_playRound_8 : decode cX6_playRound 8 = .ok (.getfield 29, 3) := by decide +kernel
theorem dX6_playRound_11 : decode cX6_playRound 11 = .ok (.invokevirtual 309, 3) := by decide +kernel
theorem dX6_playRound_14 : decode cX6_playRound 14 = .ok (.aload_n 0, 1) := by decide +kernel
theorem dX6_playRound_15 : decode cX6_playRound 15 = .ok (.getfield 29, 3) := by decide +kernel
theorem dX6_playRound_18 : decode cX6_playRound 18 = .ok (.iconst 1, 1) := by decide +kernel
theorem dX6_playRound_19 : decode cX6_playRound 19 = .ok (.putfield 128, 3) := by decide +kernel
theorem dX6_playRound_22 : decode cX6_playRound 22 = .ok (.aload_n 0, 1) := by decide +kernel
theorem dX6_playRound_23 : decode cX6_playRound 23 = .ok (.getfield 29, 3) := by decide +kernel
theorem dX6_playRound_26 : decode cX6_playRound 26 = .ok (.getfield 310, 3) := by decide +kernel
theorem dX6_playRound_29 : decode cX6_playRound 29 = .ok (.iconst 0, 1) := by decide +kernel
theorem dX6_playRound_30 : decode cX6_playRound 30 = .ok (.lconst 0, 1) := by decide +kernel
theorem dX6_playRound_31 : decode cX6_playRound 31 = .ok (.iconst 0, 1) := by decide +kernel
theorem dX6_playRound_32 : decode cX6_playRound 32 = .ok (.iconst 1, 1) := by decide +kernel
theorem dX6_playRound_33 : decode cX6_playRound 33 = .ok (.iload_n 2, 1) := by decide +kernel
theorem dX6_playRound_34 : decode cX6_playRound 34 = .ok (.iconst 4, 1) := by decide +kernel
theorem dX6_playRound_35 : decode cX6_playRound 35 = .ok (.idiv, 1) := by decide +kernel
theorem dX6_playRound_36 : decode cX6_playRound 36 = .ok (.iconst 3, 1) := by decide +kernel
theorem dX6_playRound_37 : decode cX6_playRound 37 = .ok (.irem, 1) := by decide +kernel
theorem dX6_playRound_38 : decode cX6_playRound 38 = .ok (.iadd, 1) := by decide +kernel
theorem dX6_playRound_39 : decode cX6_playRound 39 = .ok (.invokestatic 313, 3) := by decide +kernel
theorem dX6_playRound_42 : decode cX6_playRound 42 = .ok (.lastore, 1) := by decide +kernel
theorem dX6_playRound_43 : decode cX6_playRound 43 = .ok (.aload_n 0, 1) := by decide +kernel
theorem dX6_playRound_44 : decode cX6_playRound 44 = .ok (.getfield 29, 3) := by decide +kernel
theorem dX6_playRound_47 : decode cX6_playRound 47 = .ok (.sipush 1990, 3) := by decide +kernel
theorem dX6_playRound_50 : decode cX6_playRound 50 = .ok (.iload_n 2, 1) := by decide +kernel
theorem dX6_playRound_51 : decode cX6_playRound 51 = .ok (.bipush 16, 2) := by decide +kernel
theorem dX6_playRound_53 : decode cX6_playRound 53 = .ok (.idiv, 1) := by decide +kernel
theorem dX6_playRound_54 : decode cX6_playRound 54 = .ok (.iconst 3, 1) := by decide +kernel
theorem dX6_playRound_55 : decode cX6_playRound 55 = .ok (.irem, 1) := by decide +kernel
theorem dX6_playRound_56 : decode cX6_playRound 56 = .ok (.iadd, 1) := by decide +kernel
theorem dX6_playRound_57 : decode cX6_playRound 57 = .ok (.putfield 125, 3) := by decide +kernel
theorem dX6_playRound_60 : decode cX6_playRound 60 = .ok (.aload_n 0, 1) := by decide +kernel
theorem dX6_playRound_61 : decode cX6_playRound 61 = .ok (.getfield 29, 3) := by decide +kernel
theorem dX6_playRound_64 : decode cX6_playRound 64 = .ok (.lconst 0, 1) := by decide +kernel
theorem dX6_playRound_65 : decode cX6_playRound 65 = .ok (.iconst 0, 1) := by decide +kernel
theorem dX6_playRound_66 : decode cX6_playRound 66 = .ok (.iconst 1, 1) := by decide +kernel
theorem dX6_playRound_67 : decode cX6_playRound 67 = .ok (.iload_n 2, 1) := by decide +kernel
theorem dX6_playRound_68 : decode cX6_playRound 68 = .ok (.bipush 64, 2) := by decide +kernel
theorem dX6_playRound_70 : decode cX6_playRound 70 = .ok (.idiv, 1) := by decide +kernel
theorem dX6_playRound_71 : decode cX6_playRound 71 = .ok (.iconst 3, 1) := by decide +kernel
theorem dX6_playRound_72 : decode cX6_playRound 72 = .ok (.irem, 1) := by decide +kernel
theorem dX6_playRound_73 : decode cX6_playRound 73 = .ok (.iadd, 1) := by decide +kernel
theorem dX6_playRound_74 : decode cX6_playRound 74 = .ok (.invokestatic 313, 3) := by decide +kernel
theorem dX6_playRound_77 : decode cX6_playRound 77 = .ok (.putfield 131, 3) := by decide +kernel
theorem dX6_playRound_80 : decode cX6_playRound 80 = .ok (.aload_n 1, 1) := by decide +kernel
theorem dX6_playRound_81 : decode cX6_playRound 81 = .ok (.aload_n 0, 1) := by decide +kernel
theorem dX6_playRound_82 : decode cX6_playRound 82 = .ok (.getfield 29, 3) := by decide +kernel
theorem dX6_playRound_85 : decode cX6_playRound 85 = .ok (.invokevirtual 84, 3) := by decide +kernel
theorem dX6_playRound_88 : decode cX6_playRound 88 = .ok (.goto 60, 3) := by decide +kernel
theorem dX6_playRound_91 : decode cX6_playRound 91 = .ok (.aload_n 1, 1) := by decide +kernel
theorem dX6_playRound_92 : decode cX6_playRound 92 = .ok (.getfield 94, 3) := by decide +kernel
theorem dX6_playRound_95 : decode cX6_playRound 95 = .ok (.ifCond .le 53, 3) := by decide +kernel
theorem dX6_playRound_98 : decode cX6_playRound 98 = .ok (.iload_n 2, 1) := by decide +kernel
theorem dX6_playRound_99 : decode cX6_playRound 99 = .ok (.iconst 4, 1) := by decide +kernel
theorem dX6_playRound_100 : decode cX6_playRound 100 = .ok (.idiv, 1) := by decide +kernel
theorem dX6_playRound_101 : decode cX6_playRound 101 = .ok (.aload_n 1, 1) := by decide +kernel
theorem dX6_playRound_102 : decode cX6_playRound 102 = .ok (.getfield 94, 3) := by decide +kernel
theorem dX6_playRound_105 : decode cX6_playRound 105 = .ok (.irem, 1) := by decide +kernel
theorem dX6_playRound_106 : decode cX6_playRound 106 = .ok (.istore_n 3, 1) := by decide +kernel
theorem dX6_playRound_107 : decode cX6_playRound 107 = .ok (.iload_n 2, 1) := by decide +kernel
theorem dX6_playRound_108 : decode cX6_playRound 108 = .ok (.iconst 4, 1) := by decide +kernel
theorem dX6_playRound_109 : decode cX6_playRound 109 = .ok (.irem, 1) := by decide +kernel
theorem dX6_playRound_110 : decode cX6_playRound 110 = .ok (.ifCond .ne 11, 3) := by decide +kernel
theorem dX6_playRound_113 : decode cX6_playRound 113 = .ok (.aload_n 1, 1) := by decide +kernel
theorem dX6_playRound_114 : decode cX6_playRound 114 = .ok (.iload_n 3, 1) := by decide +kernel
theorem dX6_playRound_115 : decode cX6_playRound 115 = .ok (.invokevirtual 219, 3) := by decide +kernel
theorem dX6_playRound_118 : decode cX6_playRound 118 = .ok (.goto 30, 3) := by decide +kernel
theorem dX6_playRound_121 : decode cX6_playRound 121 = .ok (.aload_n 1, 1) := by decide +kernel
theorem dX6_playRound_122 : decode cX6_playRound 122 = .ok (.iload_n 3, 1) := by decide +kernel
theorem dX6_playRound_123 : decode cX6_playRound 123 = .ok (.invokevirtual 278, 3) := by decide +kernel
theorem dX6_playRound_126 : decode cX6_playRound 126 = .ok (.ifCond .eq 22, 3) := by decide +kernel
theorem dX6_playRound_129 : decode cX6_playRound 129 = .ok (.aload_n 1, 1) := by decide +kernel
theorem dX6_playRound_130 : decode cX6_playRound 130 = .ok (.getfield 124, 3) := by decide +kernel
theorem dX6_playRound_133 : decode cX6_playRound 133 = .ok (.iload_n 3, 1) := by decide +kernel
theorem dX6_playRound_134 : decode cX6_playRound 134 = .ok (.aaload, 1) := by decide +kernel
theorem dX6_playRound_135 : decode cX6_playRound 135 = .ok (.sipush 1990, 3) := by decide +kernel
theorem dX6_playRound_138 : decode cX6_playRound 138 = .ok (.iload_n 2, 1) := by decide +kernel
theorem dX6_playRound_139 : decode cX6_playRound 139 = .ok (.bipush 64, 2) := by decide +kernel
theorem dX6_playRound_141 : decode cX6_playRound 141 = .ok (.idiv, 1) := by decide +kernel
theorem dX6_playRound_142 : decode cX6_playRound 142 = .ok (.iconst 4, 1) := by decide +kernel
theorem dX6_playRound_143 : decode cX6_playRound 143 = .ok (.irem, 1) := by decide +kernel
theorem dX6_playRound_144 : decode cX6_playRound 144 = .ok (.iadd, 1) := by decide +kernel
theorem dX6_playRound_145 : decode cX6_playRound 145 = .ok (.putfield 125, 3) := by decide +kernel
theorem dX6_playRound_148 : decode cX6_playRound 148 = .ok (.return_, 1) := by decide +kernel
set_option maxRecDepth 20000 in
theorem ggX7_init_X7_clean : GoodIn wsX7_init wsX7_clean := goodIn_r _ [22] (by decide +kernel) (by decide +kernel)
set_option maxRecDepth 20000 in
theorem gX7_init_X7_clean : GoodIn wsX7_init (va_wsS RX7 50 yX7_clean wsX7_clean) := goodIn_app (goodIn_of _ (by decide +kernel)) ggX7_init_X7_clean
theorem dX7_init_0 : decode cX7_init 0 = .ok (.aload_n 0, 1) := by decide +kernel
theorem dX7_init_1 : decode cX7_init 1 = .ok (.invokespecial 1, 3) := by decide +kernel
theorem dX7_init_4 : decode cX7_init 4 = .ok (.aload_n 0, 1) := by decide +kernel
theorem dX7_init_5 : decode cX7_init 5 = .ok (.bipush 100, 2) := by decide +kernel
theorem dX7_init_7 : decode cX7_init 7 = .ok (.newarray .int, 2) := by decide +kernel
theorem dX7_init_9 : decode cX7_init 9 = .ok (.putfield 7, 3) := by decide +kernel
theorem dX7_init_12 : decode cX7_init 12 = .ok (.aload_n 0, 1) := by decide +kernel
theorem dX7_init_13 : decode cX7_init 13 = .ok (.sipush 980, 3) := by decide +kernel
theorem dX7_init_16 : decode cX7_init 16 = .ok (.newarray .int, 2) := by decide +kernel
theorem dX7_init_18 : decode cX7_init 18 = .ok (.putfield 13, 3) := by decide +kernel
theorem dX7_init_21 : decode cX7_init 21 = .ok (.aload_n 0, 1) := by decide +kernel
theorem dX7_init_22 : decode cX7_init 22 = .ok (.sipush 980, 3) := by decide +kernel
theorem dX7_init_25 : decode cX7_init 25 = .ok (.newarray .int, 2) := by decide +kernel
theorem dX7_init_27 : decode cX7_init 27 = .ok (.putfield 16, 3) := by decide +kernel
theorem dX7_init_30 : decode cX7_init 30 = .ok (.aload_n 0, 1) := by decide +kernel
theorem dX7_init_31 : decode cX7_init 31 = .ok (.sipush 980, 3) := by decide +kernel
theorem dX7_init_34 : decode cX7_init 34 = .ok (.newarray .int, 2) := by decide +kernel
theorem dX7_init_36 : decode cX7_init 36 = .ok (.putfield 19, 3) := by decide +kernel
theorem dX7_init_39 : decode cX7_init 39 = .ok (.aload_n 0, 1) := by decide +kernel
theorem dX7_init_40 : decode cX7_init 40 = .ok (.sipush 13720, 3) := by decide +kernel
theorem dX7_init_43 : decode cX7_init 43 = .ok (.newarray .int, 2) := by decide +kernel
theorem dX7_init_45 : decode cX7_init 45 = .ok (.putfield 22, 3) := by decide +kernel
theorem dX7_init_48 : decode cX7_init 48 = .ok (.aload_n 0, 1) := by decide +kernel
theorem dX7_init_49 : decode cX7_init 49 = .ok (.sipush 1960, 3) := by decide +kernel
theorem dX7_init_52 : decode cX7_init 52 = .ok (.newarray .int, 2) := by decide +kernel
theorem dX7_init_54 : decode cX7_init 54 = .ok (.putfield 25, 3) := by decide +kernel
theorem dX7_init_57 : decode cX7_init 57 = .ok (.aload_n 0, 1) := by decide +kernel
theorem dX7_init_58 : decode cX7_init 58 = .ok (.iconst 2, 1) := by decide +kernel
theorem dX7_init_59 : decode cX7_init 59 = .ok (.newarray .boolean, 2) := by decide +kernel
theorem dX7_init_61 : decode cX7_init 61 = .ok (.putfield 28, 3) := by decide +kernel
theorem dX7_init_64 : decode cX7_init 64 = .ok (.aload_n 0, 1) := by decide +kernel
theorem dX7_init_65 : decode cX7_init 65 = .ok (.sipush 224, 3) := by decide +kernel
theorem dX7_init_68 : decode cX7_init 68 = .ok (.newarray .int, 2) := by decide +kernel
theorem dX7_init_70 : decode cX7_init 70 = .ok (.putfield 32, 3) := by decide +kernel
theorem dX7_init_73 : decode cX7_init 73 = .ok (.aload_n 0, 1) := by decide +kernel
theorem dX7_init_74 : decode cX7_init 74 = .ok (.bipush 16, 2) := by decide +kernel
theorem dX7_init_76 : decode cX7_init 76 = .ok (.newarray .int, 2) := by decide +kernel
theorem dX7_init_78 : decode cX7_init 78 = .ok (.putfield 35, 3) := by decide +kernel
theorem dX7_init_81 : decode cX7_init 81 = .ok (.aload_n 0, 1) := by decide +kernel
theorem dX7_init_82 : decode cX7_init 82 = .ok (.bipush 16, 2) := by decide +kernel
theorem dX7_init_84 : decode cX7_init 84 = .ok (.newarray .int, 2) := by decide +kernel
theorem dX7_init_86 : decode cX7_init 86 = .ok (.putfield 38, 3) := by decide +kernel
theorem dX7_init_89 : decode cX7_init 89 = .ok (.aload_n 0, 1) := by decide +kernel
theorem dX7_init_90 : decode cX7_init 90 = .ok (.bipush 16, 2) := by decide +kernel
theorem dX7_init_92 : decode cX7_init 92 = .ok (.newarray .int, 2) := by decide +kernel
theorem dX7_init_94 : decode cX7_init 94 = .ok (.putfield 41, 3) := by decide +kernel
theorem dX7_init_97 : decode cX7_init 97 = .ok (.aload_n 0, 1) := by decide +kernel
theorem dX7_init_98 : decode cX7_init 98 = .ok (.sipush 224, 3) := by decide +kernel
theorem dX7_init_101 : decode cX7_init 101 = .ok (.newarray .int, 2) := by decide +kernel
theorem dX7_init_103 : decode cX7_init 103 = .ok (.putfield 44, 3) := by decide +kernel
theorem dX7_init_106 : decode cX7_init 106 = .ok (.aload_n 0, 1) := by decide +kernel
theorem dX7_init_107 : decode cX7_init 107 = .ok (.bipush 14, 2) := by decide +kernel
theorem dX7_init_109 : decode cX7_init 109 = .ok (.newarray .int, 2) := by decide +kernel
theorem dX7_init_111 : decode cX7_init 111 = .ok (.putfield 47, 3) := by decide +kernel
theorem dX7_init_114 : decode cX7_init 114 = .ok (.aload_n 0, 1) := by decide +kernel
theorem dX7_init_115 : decode cX7_init 115 = .ok (.getfield 16, 3) := by decide +kernel
theorem dX7_init_118 : decode cX7_init 118 = .ok (.invokestatic 50, 3) := by decide +kernel
theorem dX7_init_121 : decode cX7_init 121 = .ok (.return_, 1) := by decide +kernel
theorem dX7_thrown_0 : decode cX7_thrown 0 = .ok (.aload_n 0, 1) := by decide +kernel
theorem dX7_thrown_1 : decode cX7_thrown 1 = .ok (.getfield 54, 3) := by decide +kernel
theorem dX7_thrown_4 : decode cX7_thrown 4 = .ok (.ireturn, 1) := by decide +kernel
theorem dX7_refused_0 : decode cX7_refused 0 = .ok (.aload_n 0, 1) := by decide +kernel
theorem dX7_refused_1 : decode cX7_refused 1 = .ok (.iload_n 1, 1) := by decide +kernel
theorem dX7_refused_2 : decode cX7_refused 2 = .ok (.putfield 54, 3) := by decide +kernel
theorem dX7_refused_5 : decode cX7_refused 5 = .ok (.iload_n 1, 1) := by decide +kernel
theorem dX7_refused_6 : decode cX7_refused 6 = .ok (.ifCond .le 7, 3) := by decide +kernel
theorem dX7_refused_9 : decode cX7_refused 9 = .ok (.iconst 1, 1) := by decide +kernel
theorem dX7_refused_10 : decode cX7_refused 10 = .ok (.goto 4, 3) := by decide +kernel
theorem dX7_refused_13 : decode cX7_refused 13 = .ok (.iconst 0, 1) := by decide +kernel
theorem dX7_refused_14 : decode cX7_refused 14 = .ok (.ireturn, 1) := by decide +kernel
theorem dX7_in_0 : decode cX7_in 0 = .ok (.lload_n 0, 1) := by decide +kernel
theorem dX7_in_1 : decode cX7_in 1 = .ok (.lload_n 2, 1) := by decide +kernel
theorem dX7_in_2 : decode cX7_in 2 = .ok (.lcmp, 1) := by decide +kernel
theorem dX7_in_3 : decode cX7_in 3 = .ok (.ifCond .lt 14, 3) := by decide +kernel
theorem dX7_in_6 : decode cX7_in 6 = .ok (.lload_n 0, 1) := by decide +kernel
theorem dX7_in_7 : decode cX7_in 7 = .ok (.lload 4, 2) := by decide +kernel
theorem dX7_in_9 : decode cX7_in 9 = .ok (.lcmp, 1) := by decide +kernel
theorem dX7_in_10 : decode cX7_in 10 = .ok (.ifCond .gt 7, 3) := by decide +kernel
theorem dX7_in_13 : decode cX7_in 13 = .ok (.iconst 1, 1) := by decide +kernel
theorem dX7_in_14 : decode cX7_in 14 = .ok (.goto 4, 3) := by decide +kernel
theorem dX7_in_17 : decode cX7_in 17 = .ok (.iconst 0, 1) := by decide +kernel
theorem dX7_in_18 : decode cX7_in 18 = .ok (.ireturn, 1) := by decide +kernel
theorem dX7_copy_0 : decode cX7_copy 0 = .ok (.iconst 0, 1) := by decide +kernel
theorem dX7_copy_1 : decode cX7_copy 1 = .ok (.istore 5, 2) := by decide +kernel
theorem dX7_copy_3 : decode cX7_copy 3 = .ok (.iload 5, 2) := by decide +kernel
theorem dX7_copy_5 : decode cX7_copy 5 = .ok (.iload 4, 2) := by decide +kernel
theorem dX7_copy_7 : decode cX7_copy 7 = .ok (.if_icmp .ge 21, 3) := by decide +kernel
theorem dX7_copy_10 : decode cX7_copy 10 = .ok (.aload_n 2, 1) := by decide +kernel
theorem dX7_copy_11 : decode cX7_copy 11 = .ok (.iload_n 3, 1) := by decide +kernel
theorem dX7_copy_12 : decode cX7_copy 12 = .ok (.iload 5, 2) := by decide +kernel
theorem dX7_copy_14 : decode cX7_copy 14 = .ok (.iadd, 1) := by decide +kernel
theorem dX7_copy_15 : decode cX7_copy 15 = .ok (.aload_n 0, 1) := by decide +kernel
theorem dX7_copy_16 : decode cX7_copy 16 = .ok (.iload_n 1, 1) := by decide +kernel
theorem dX7_copy_17 : decode cX7_copy 17 = .ok (.iload 5, 2) := by decide +kernel
theorem dX7_copy_19 : decode cX7_copy 19 = .ok (.iadd, 1) := by decide +kernel
theorem dX7_copy_20 : decode cX7_copy 20 = .ok (.iaload, 1) := by decide +kernel
theorem dX7_copy_21 : decode cX7_copy 21 = .ok (.iastore, 1) := by decide +kernel
theorem dX7_copy_22 : decode cX7_copy 22 = .ok (.iinc 5 1, 3) := by decide +kernel
theorem dX7_copy_25 : decode cX7_copy 25 = .ok (.goto (-22), 3) := by decide +kernel
theorem dX7_copy_28 : decode cX7_copy 28 = .ok (.return_, 1) := by decide +kernel
theorem dX7_tenTo_0 : decode cX7_tenTo 0 = .ok (.lconst 1, 1) := by decide +kernel
theorem dX7_tenTo_1 : decode cX7_tenTo 1 = .ok (.lstore_n 1, 1) := by decide +kernel
theorem dX7_tenTo_2 : decode cX7_tenTo 2 = .ok (.iconst 0, 1) := by decide +kernel
theorem dX7_tenTo_3 : decode cX7_tenTo 3 = .ok (.istore_n 3, 1) := by decide +kernel
theorem dX7_tenTo_4 : decode cX7_tenTo 4 = .ok (.iload_n 3, 1) := by decide +kernel
theorem dX7_tenTo_5 : decode cX7_tenTo 5 = .ok (.iload_n 0, 1) := by decide +kernel
theorem dX7_tenTo_6 : decode cX7_tenTo 6 = .ok (.if_icmp .ge 15, 3) := by decide +kernel
theorem dX7_tenTo_9 : decode cX7_tenTo 9 = .ok (.lload_n 1, 1) := by decide +kernel
theorem dX7_tenTo_10 : decode cX7_tenTo 10 = .ok (.ldc2_w 58, 3) := by decide +kernel
theorem dX7_tenTo_13 : decode cX7_tenTo 13 = .ok (.lmul, 1) := by decide +kernel
theorem dX7_tenTo_14 : decode cX7_tenTo 14 = .ok (.lstore_n 1, 1) := by decide +kernel
theorem dX7_tenTo_15 : decode cX7_tenTo 15 = .ok (.iinc 3 1, 3) := by decide +kernel
theorem dX7_tenTo_18 : decode cX7_tenTo 18 = .ok (.goto (-14), 3) := by decide +kernel
theorem dX7_tenTo_21 : decode cX7_tenTo 21 = .ok (.lload_n 1, 1) := by decide +kernel
theorem dX7_tenTo_22 : decode cX7_tenTo 22 = .ok (.lreturn, 1) := by decide +kernel
theorem dX7_clean_0 : decode cX7_clean 0 = .ok (.iconst 0, 1) := by decide +kernel
theorem dX7_clean_1 : decode cX7_clean 1 = .ok (.istore_n 1, 1) := by decide +kernel
theorem dX7_clean_2 : decode cX7_clean 2 = .ok (.iload_n 1, 1) := by decide +kernel
theorem dX7_clean_3 : decode cX7_clean 3 = .ok (.sipush 980, 3) := by decide +kernel
theorem dX7_clean_6 : decode cX7_clean 6 = .ok (.if_icmp .ge 13, 3) := by decide +kernel
theorem dX7_clean_9 : decode cX7_clean 9 = .ok (.aload_n 0, 1) := by decide +kernel
theorem dX7_clean_10 : decode cX7_clean 10 = .ok (.iload_n 1, 1) := by decide +kernel
theorem dX7_clean_11 : decode cX7_clean 11 = .ok (.iconst 0, 1) := by decide +kernel
theorem dX7_clean_12 : decode cX7_clean 12 = .ok (.iastore, 1) := by decide +kernel
theorem dX7_clean_13 : decode cX7_clean 13 = .ok (.iinc 1 1, 3) := by decide +kernel
theorem dX7_clean_16 : decode cX7_clean 16 = .ok (.goto (-14), 3) := by decide +kernel
theorem dX7_clean_19 : decode cX7_clean 19 = .ok (.return_, 1) := by decide +kernel
set_option maxRecDepth 20000 in
theorem ggX7_note_X7_copy : GoodIn wsX7_note wsX7_copy := goodIn_r _ [7] (by decide +kernel) (by decide +kernel)
set_option maxRecDepth 20000 in
theorem gX7_note_X7_copy : GoodIn wsX7_note (va_wsS RX7 63 yX7_copy wsX7_copy) := goodIn_app (goodIn_of _ (by decide +kernel)) ggX7_note_X7_copy
theorem dX7_note_0 : decode cX7_note 0 = .ok (.aload_n 0, 1) := by decide +kernel
theorem dX7_note_1 : decode cX7_note 1 = .ok (.getfield 60, 3) := by decide +kernel
theorem dX7_note_4 : decode cX7_note 4 = .ok (.bipush 14, 2) := by decide +kernel
theorem dX7_note_6 : decode cX7_note 6 = .ok (.if_icmp .ne 31, 3) := by decide +kernel
theorem dX7_note_9 : decode cX7_note 9 = .ok (.aload_n 0, 1) := by decide +kernel
theorem dX7_note_10 : decode cX7_note 10 = .ok (.getfield 22, 3) := by decide +kernel
theorem dX7_note_13 : decode cX7_note 13 = .ok (.sipush 980, 3) := by decide +kernel
theorem dX7_note_16 : decode cX7_note 16 = .ok (.aload_n 0, 1) := by decide +kernel
theorem dX7_note_17 : decode cX7_note 17 = .ok (.getfield 22, 3) := by decide +kernel
theorem dX7_note_20 : decode cX7_note 20 = .ok (.iconst 0, 1) := by decide +kernel
theorem dX7_note_21 : decode cX7_note 21 = .ok (.sipush 12740, 3) := by decide +kernel
theorem dX7_note_24 : decode cX7_note 24 = .ok (.invokestatic 63, 3) := by decide +kernel
theorem dX7_note_27 : decode cX7_note 27 = .ok (.aload_n 0, 1) := by decide +kernel
theorem dX7_note_28 : decode cX7_note 28 = .ok (.dup, 1) := by decide +kernel
theorem dX7_note_29 : decode cX7_note 29 = .ok (.getfield 60, 3) := by decide +kernel
theorem dX7_note_32 : decode cX7_note 32 = .ok (.iconst 1, 1) := by decide +kernel
theorem dX7_note_33 : decode cX7_note 33 = .ok (.isub, 1) := by decide +kernel
theorem dX7_note_34 : decode cX7_note 34 = .ok (.putfield 60, 3) := by decide +kernel
theorem dX7_note_37 : decode cX7_note 37 = .ok (.aload_n 0, 1) := by decide +kernel
theorem dX7_note_38 : decode cX7_note 38 = .ok (.getfield 16, 3) := by decide +kernel
theorem dX7_note_41 : decode cX7_note 41 = .ok (.iconst 0, 1) := by decide +kernel
theorem dX7_note_42 : decode cX7_note 42 = .ok (.aload_n 0, 1) := by decide +kernel
theorem dX7_note_43 : decode cX7_note 43 = .ok (.getfield 22, 3) := by decide +kernel
theorem dX7_note_46 : decode cX7_note 46 = .ok (.sipush 980, 3) := by decide +kernel
theorem dX7_note_49 : decode cX7_note 49 = .ok (.aload_n 0, 1) := by decide +kernel
theorem dX7_note_50 : decode cX7_note 50 = .ok (.getfield 60, 3) := by decide +kernel
theorem dX7_note_53 : decode cX7_note 53 = .ok (.imul, 1) := by decide +kernel
theorem dX7_note_54 : decode cX7_note 54 = .ok (.sipush 980, 3) := by decide +kernel
theorem dX7_note_57 : decode cX7_note 57 = .ok (.invokestatic 63, 3) := by decide +kernel
theorem dX7_note_60 : decode cX7_note 60 = .ok (.aload_n 0, 1) := by decide +kernel
theorem dX7_note_61 : decode cX7_note 61 = .ok (.dup, 1) := by decide +kernel
theorem dX7_note_62 : decode cX7_note 62 = .ok (.getfield 60, 3) := by decide +kernel
theorem dX7_note_65 : decode cX7_note 65 = .ok (.iconst 1, 1) := by decide +kernel
theorem dX7_note_66 : decode cX7_note 66 = .ok (.iadd, 1) := by decide +kernel
theorem dX7_note_67 : decode cX7_note 67 = .ok (.putfield 60, 3) := by decide +kernel
theorem dX7_note_70 : decode cX7_note 70 = .ok (.return_, 1) := by decide +kernel
set_option maxRecDepth 20000 in
theorem ggX7_begin_X7_copy : GoodIn wsX7_begin wsX7_copy := goodIn_r _ [6] (by decide +kernel) (by decide +kernel)
set_option maxRecDepth 20000 in
theorem gX7_begin_X7_copy : GoodIn wsX7_begin (va_wsS RX7 63 yX7_copy wsX7_copy) := goodIn_app (goodIn_of _ (by decide +kernel)) ggX7_begin_X7_copy
theorem dX7_begin_0 : decode cX7_begin 0 = .ok (.aload_n 0, 1) := by decide +kernel
theorem dX7_begin_1 : decode cX7_begin 1 = .ok (.getfield 16, 3) := by decide +kernel
theorem dX7_begin_4 : decode cX7_begin 4 = .ok (.iconst 0, 1) := by decide +kernel
theorem dX7_begin_5 : decode cX7_begin 5 = .ok (.aload_n 0, 1) := by decide +kernel
theorem dX7_begin_6 : decode cX7_begin 6 = .ok (.getfield 19, 3) := by decide +kernel
theorem dX7_begin_9 : decode cX7_begin 9 = .ok (.iconst 0, 1) := by decide +kernel
theorem dX7_begin_10 : decode cX7_begin 10 = .ok (.sipush 980, 3) := by decide +kernel
theorem dX7_begin_13 : decode cX7_begin 13 = .ok (.invokestatic 63, 3) := by decide +kernel
theorem dX7_begin_16 : decode cX7_begin 16 = .ok (.return_, 1) := by decide +kernel
theorem dX7_cell_0 : decode cX7_cell 0 = .ok (.iconst 4, 1) := by decide +kernel
theorem dX7_cell_1 : decode cX7_cell 1 = .ok (.bipush 47, 2) := by decide +kernel
theorem dX7_cell_3 : decode cX7_cell 3 = .ok (.iload_n 0, 1) := by decide +kernel
theorem dX7_cell_4 : decode cX7_cell 4 = .ok (.imul, 1) := by decide +kernel
theorem dX7_cell_5 : decode cX7_cell 5 = .ok (.iadd, 1) := by decide +kernel
theorem dX7_cell_6 : decode cX7_cell 6 = .ok (.iload_n 1, 1) := by decide +kernel
theorem dX7_cell_7 : decode cX7_cell 7 = .ok (.iadd, 1) := by decide +kernel
theorem dX7_cell_8 : decode cX7_cell 8 = .ok (.ireturn, 1) := by decide +kernel
set_option maxRecDepth 20000 in
theorem ggX7_author_X7_cell : GoodIn wsX7_author wsX7_cell := goodIn_r _ [4] (by decide +kernel) (by decide +kernel)
set_option maxRecDepth 20000 in
theorem gX7_author_X7_cell : GoodIn wsX7_author (va_wsS RX7 67 yX7_cell wsX7_cell) := goodIn_app (goodIn_of _ (by decide +kernel)) ggX7_author_X7_cell
theorem dX7_author_0 : decode cX7_author 0 = .ok (.iload_n 0, 1) := by decide +kernel
theorem dX7_author_1 : decode cX7_author 1 = .ok (.iconst 2, 1) := by decide +kernel
theorem dX7_author_2 : decode cX7_author 2 = .ok (.bipush 9, 2) := by decide +kernel
theorem dX7_author_4 : decode cX7_author 4 = .ok (.iload_n 1, 1) := by decide +kernel
theorem dX7_author_5 : decode cX7_author 5 = .ok (.imul, 1) := by decide +kernel
theorem dX7_author_6 : decode cX7_author 6 = .ok (.iadd, 1) := by decide +kernel
theorem dX7_author_7 : decode cX7_author 7 = .ok (.invokestatic 67, 3) := by decide +kernel
theorem dX7_author_10 : decode cX7_author 10 = .ok (.ireturn, 1) := by decide +kernel
theorem dX7_compareNames_0 : decode cX7_compareNames 0 = .ok (.aload_n 0, 1) := by decide +kernel
theorem dX7_compareNames_1 : decode cX7_compareNames 1 = .ok (.iload_n 1, 1) := by decide +kernel
theorem dX7_compareNames_2 : decode cX7_compareNames 2 = .ok (.iaload, 1) := by decide +kernel
theorem dX7_compareNames_3 : decode cX7_compareNames 3 = .ok (.aload_n 0, 1) := by decide +kernel
theorem dX7_compareNames_4 : decode cX7_compareNames 4 = .ok (.iload_n 2, 1) := by decide +kernel
theorem dX7_compareNames_5 : decode cX7_compareNames 5 = .ok (.iaload, 1) := by decide +kernel
theorem dX7_compareNames_6 : decode cX7_compareNames 6 = .ok (.if_icmp .ge 9, 3) := by decide +kernel
theorem dX7_compareNames_9 : decode cX7_compareNames 9 = .ok (.aload_n 0, 1) := by decide +kernel
theorem dX7_compareNames_10 : decode cX7_compareNames 10 = .ok (.iload_n 1, 1) := by decide +kernel
theorem dX7_compareNames_11 : decode cX7_compareNames 11 = .ok (.iaload, 1) := by decide +kernel
theorem dX7_compareNames_12 : decode cX7_compareNames 12 = .ok (.goto 6, 3) := by decide +kernel
theorem dX7_compareNames_15 : decode cX7_compareNames 15 = .ok (.aload_n 0, 1) := by decide +kernel
theorem dX7_compareNames_16 : decode cX7_compareNames 16 = .ok (.iload_n 2, 1) := by decide +kernel
theorem dX7_compareNames_17 : decode cX7_compareNames 17 = .ok (.iaload, 1) := by decide +kernel
theorem dX7_compareNames_18 : decode cX7_compareNames 18 = .ok (.istore_n 3, 1) := by decide +kernel
theorem dX7_compareNames_19 : decode cX7_compareNames 19 = .ok (.iconst 1, 1) := by decide +kernel
theorem dX7_compareNames_20 : decode cX7_compareNames 20 = .ok (.istore 4, 2) := by decide +kernel
theorem dX7_compareNames_22 : decode cX7_compareNames 22 = .ok (.iload 4, 2) := by decide +kernel
theorem dX7_compareNames_24 : decode cX7_compareNames 24 = .ok (.iload_n 3, 1) := by decide +kernel
theorem dX7_compareNames_25 : decode cX7_compareNames 25 = .ok (.if_icmp .gt 38, 3) := by decide +kernel
theorem dX7_compareNames_28 : decode cX7_compareNames 28 = .ok (.aload_n 0, 1) := by decide +kernel
theorem dX7_compareNames_29 : decode cX7_compareNames 29 = .ok (.iload_n 1, 1) := by decide +kernel
theorem dX7_compareNames_30 : decode cX7_compareNames 30 = .ok (.iload 4, 2) := by decide +kernel
theorem dX7_compareNames_32 : decode cX7_compareNames 32 = .ok (.iadd, 1) := by decide +kernel
theorem dX7_compareNames_33 : decode cX7_compareNames 33 = .ok (.iaload, 1) := by decide +kernel
theorem dX7_compareNames_34 : decode cX7_compareNames 34 = .ok (.aload_n 0, 1) := by decide +kernel
theorem dX7_compareNames_35 : decode cX7_compareNames 35 = .ok (.iload_n 2, 1) := by decide +kernel
theorem dX7_compareNames_36 : decode cX7_compareNames 36 = .ok (.iload 4, 2) := by decide +kernel
theorem dX7_compareNames_38 : decode cX7_compareNames 38 = .ok (.iadd, 1) := by decide +kernel
theorem dX7_compareNames_39 : decode cX7_compareNames 39 = .ok (.iaload, 1) := by decide +kernel
theorem dX7_compareNames_40 : decode cX7_compareNames 40 = .ok (.if_icmp .eq 17, 3) := by decide +kernel
theorem dX7_compareNames_43 : decode cX7_compareNames 43 = .ok (.aload_n 0, 1) := by decide +kernel
theorem dX7_compareNames_44 : decode cX7_compareNames 44 = .ok (.iload_n 1, 1) := by decide +kernel
theorem dX7_compareNames_45 : decode cX7_compareNames 45 = .ok (.iload 4, 2) := by decide +kernel
theorem dX7_compareNames_47 : decode cX7_compareNames 47 = .ok (.iadd, 1) := by decide +kernel
theorem dX7_compareNames_48 : decode cX7_compareNames 48 = .ok (.iaload, 1) := by decide +kernel
theorem dX7_compareNames_49 : decode cX7_compareNames 49 = .ok (.aload_n 0, 1) := by decide +kernel
theorem dX7_compareNames_50 : decode cX7_compareNames 50 = .ok (.iload_n 2, 1) := by decide +kernel
theorem dX7_compareNames_51 : decode cX7_compareNames 51 = .ok (.iload 4, 2) := by decide +kernel
theorem dX7_compareNames_53 : decode cX7_compareNames 53 = .ok (.iadd, 1) := by decide +kernel
theorem dX7_compareNames_54 : decode cX7_compareNames 54 = .ok (.iaload, 1) := by decide +kernel
theorem dX7_compareNames_55 : decode cX7_compareNames 55 = .ok (.isub, 1) := by decide +kernel
theorem dX7_compareNames_56 : decode cX7_compareNames 56 = .ok (.ireturn, 1) := by decide +kernel
theorem dX7_compareNames_57 : decode cX7_compareNames 57 = .ok (.iinc 4 1, 3) := by decide +kernel
theorem dX7_compareNames_60 : decode cX7_compareNames 60 = .ok (.goto (-38), 3) := by decide +kernel
theorem dX7_compareNames_63 : decode cX7_compareNames 63 = .ok (.aload_n 0, 1) := by decide +kernel
theorem dX7_compareNames_64 : decode cX7_compareNames 64 = .ok (.iload_n 1, 1) := by decide +kernel
theorem dX7_compareNames_65 : decode cX7_compareNames 65 = .ok (.iaload, 1) := by decide +kernel
theorem dX7_compareNames_66 : decode cX7_compareNames 66 = .ok (.aload_n 0, 1) := by decide +kernel
theorem dX7_compareNames_67 : decode cX7_compareNames 67 = .ok (.iload_n 2, 1) := by decide +kernel
theorem dX7_compareNames_68 : decode cX7_compareNames 68 = .ok (.iaload, 1) := by decide +kernel
theorem dX7_compareNames_69 : decode cX7_compareNames 69 = .ok (.isub, 1) := by decide +kernel
theorem dX7_compareNames_70 : decode cX7_compareNames 70 = .ok (.ireturn, 1) := by decide +kernel
set_option maxRecDepth 20000 in
theorem ggX7_compareAuthors_X7_cell : GoodIn wsX7_compareAuthors wsX7_cell := goodIn_r _ [4] (by decide +kernel) (by decide +kernel)
set_option maxRecDepth 20000 in
theorem gX7_compareAuthors_X7_cell : GoodIn wsX7_compareAuthors (va_wsS RX7 67 yX7_cell wsX7_cell) := goodIn_app (goodIn_of _ (by decide +kernel)) ggX7_compareAuthors_X7_cell
set_option maxRecDepth 20000 in
theorem ggX7_compareAuthors_X7_author : GoodIn wsX7_compareAuthors wsX7_author := goodIn_r _ [7, 1, 2, 3, 4] (by decide +kernel) (by decide +kernel)
set_option maxRecDepth 20000 in
theorem gX7_compareAuthors_X7_author : GoodIn wsX7_compareAuthors (va_wsS RX7 71 yX7_author wsX7_author) := goodIn_app (goodIn_of _ (by decide +kernel)) ggX7_compareAuthors_X7_author
set_option maxRecDepth 20000 in
theorem ggX7_compareAuthors_X7_compareNames : GoodIn wsX7_compareAuthors wsX7_compareNames := goodIn_r _ [10] (by decide +kernel) (by decide +kernel)
set_option maxRecDepth 20000 in
theorem gX7_compareAuthors_X7_compareNames : GoodIn wsX7_compareAuthors (va_wsS RX7 74 yX7_compareNames wsX7_compareNames) := goodIn_app (goodIn_of _ (by decide +kernel)) ggX7_compareAuthors_X7_compareNames
theorem dX7_compareAuthors_0 : decode cX7_compareAuthors 0 = .ok (.aload_n 0, 1) := by decide +kernel
theorem dX7_compareAuthors_1 : decode cX7_compareAuthors 1 = .ok (.iload_n 1, 1) := by decide +kernel
theorem dX7_compareAuthors_2 : decode cX7_compareAuthors 2 = .ok (.iconst 1, 1) := by decide +kernel
theorem dX7_compareAuthors_3 : decode cX7_compareAuthors 3 = .ok (.invokestatic 67, 3) := by decide +kernel
theorem dX7_compareAuthors_6 : decode cX7_compareAuthors 6 = .ok (.iaload, 1) := by decide +kernel
theorem dX7_compareAuthors_7 : decode cX7_compareAuthors 7 = .ok (.istore_n 3, 1) := by decide +kernel
theorem dX7_compareAuthors_8 : decode cX7_compareAuthors 8 = .ok (.aload_n 0, 1) := by decide +kernel
theorem dX7_compareAuthors_9 : decode cX7_compareAuthors 9 = .ok (.iload_n 2, 1) := by decide +kernel
theorem dX7_compareAuthors_10 : decode cX7_compareAuthors 10 = .ok (.iconst 1, 1) := by decide +kernel
theorem dX7_compareAuthors_11 : decode cX7_compareAuthors 11 = .ok (.invokestatic 67, 3) := by decide +kernel
theorem dX7_compareAuthors_14 : decode cX7_compareAuthors 14 = .ok (.iaload, 1) := by decide +kernel
theorem dX7_compareAuthors_15 : decode cX7_compareAuthors 15 = .ok (.istore 4, 2) := by decide +kernel
theorem dX7_compareAuthors_17 : decode cX7_compareAuthors 17 = .ok (.iconst 0, 1) := by decide +kernel
theorem dX7_compareAuthors_18 : decode cX7_compareAuthors 18 = .ok (.istore 5, 2) := by decide +kernel
theorem dX7_compareAuthors_20 : decode cX7_compareAuthors 20 = .ok (.iload 5, 2) := by decide +kernel
theorem dX7_compareAuthors_22 : decode cX7_compareAuthors 22 = .ok (.iload_n 3, 1) := by decide +kernel
theorem dX7_compareAuthors_23 : decode cX7_compareAuthors 23 = .ok (.if_icmp .ge 42, 3) := by decide +kernel
theorem dX7_compareAuthors_26 : decode cX7_compareAuthors 26 = .ok (.iload 5, 2) := by decide +kernel
theorem dX7_compareAuthors_28 : decode cX7_compareAuthors 28 = .ok (.iload 4, 2) := by decide +kernel
theorem dX7_compareAuthors_30 : decode cX7_compareAuthors 30 = .ok (.if_icmp .ge 35, 3) := by decide +kernel
theorem dX7_compareAuthors_33 : decode cX7_compareAuthors 33 = .ok (.aload_n 0, 1) := by decide +kernel
theorem dX7_compareAuthors_34 : decode cX7_compareAuthors 34 = .ok (.iload_n 1, 1) := by decide +kernel
theorem dX7_compareAuthors_35 : decode cX7_compareAuthors 35 = .ok (.iload 5, 2) := by decide +kernel
theorem dX7_compareAuthors_37 : decode cX7_compareAuthors 37 = .ok (.invokestatic 71, 3) := by decide +kernel
theorem dX7_compareAuthors_40 : decode cX7_compareAuthors 40 = .ok (.iload_n 2, 1) := by decide +kernel
theorem dX7_compareAuthors_41 : decode cX7_compareAuthors 41 = .ok (.iload 5, 2) := by decide +kernel
theorem dX7_compareAuthors_43 : decode cX7_compareAuthors 43 = .ok (.invokestatic 71, 3) := by decide +kernel
theorem dX7_compareAuthors_46 : decode cX7_compareAuthors 46 = .ok (.invokestatic 74, 3) := by decide +kernel
theorem dX7_compareAuthors_49 : decode cX7_compareAuthors 49 = .ok (.istore 6, 2) := by decide +kernel
theorem dX7_compareAuthors_51 : decode cX7_compareAuthors 51 = .ok (.iload 6, 2) := by decide +kernel
theorem dX7_compareAuthors_53 : decode cX7_compareAuthors 53 = .ok (.ifCond .eq 6, 3) := by decide +kernel
theorem dX7_compareAuthors_56 : decode cX7_compareAuthors 56 = .ok (.iload 6, 2) := by decide +kernel
theorem dX7_compareAuthors_58 : decode cX7_compareAuthors 58 = .ok (.ireturn, 1) := by decide +kernel
theorem dX7_compareAuthors_59 : decode cX7_compareAuthors 59 = .ok (.iinc 5 1, 3) := by decide +kernel
theorem dX7_compareAuthors_62 : decode cX7_compareAuthors 62 = .ok (.goto (-42), 3) := by decide +kernel
theorem dX7_compareAuthors_65 : decode cX7_compareAuthors 65 = .ok (.iload_n 3, 1) := by decide +kernel
theorem dX7_compareAuthors_66 : decode cX7_compareAuthors 66 = .ok (.iload 4, 2) := by decide +kernel
theorem dX7_compareAuthors_68 : decode cX7_compareAuthors 68 = .ok (.isub, 1) := by decide +kernel
theorem dX7_compareAuthors_69 : decode cX7_compareAuthors 69 = .ok (.ireturn, 1) := by decide +kernel
set_option maxRecDepth 20000 in
theorem ggX7_isAhead_X7_cell : GoodIn wsX7_isAhead wsX7_cell := goodIn_r _ [4] (by decide +kernel) (by decide +kernel)
set_option maxRecDepth 20000 in
theorem gX7_isAhead_X7_cell : GoodIn wsX7_isAhead (va_wsS RX7 67 yX7_cell wsX7_cell) := goodIn_app (goodIn_of _ (by decide +kernel)) ggX7_isAhead_X7_cell
set_option maxRecDepth 20000 in
theorem ggX7_isAhead_X7_compareAuthors : GoodIn wsX7_isAhead wsX7_compareAuthors := goodIn_r _ [7, 1, 2, 3, 4, 8, 9, 10, 11, 12, 13] (by decide +kernel) (by decide +kernel)
set_option maxRecDepth 20000 in
theorem gX7_isAhead_X7_compareAuthors : GoodIn wsX7_isAhead (va_wsS RX7 78 yX7_compareAuthors wsX7_compareAuthors) := goodIn_app (goodIn_of _ (by decide +kernel)) ggX7_isAhead_X7_compareAuthors
set_option maxRecDepth 20000 in
theorem ggX7_isAhead_X7_compareNames : GoodIn wsX7_isAhead wsX7_compareNames := goodIn_r _ [13] (by decide +kernel) (by decide +kernel)
set_option maxRecDepth 20000 in
theorem gX7_isAhead_X7_compareNames : GoodIn wsX7_isAhead (va_wsS RX7 74 yX7_compareNames wsX7_compareNames) := goodIn_app (goodIn_of _ (by decide +kernel)) ggX7_isAhead_X7_compareNames
theorem dX7_isAhead_0 : decode cX7_isAhead 0 = .ok (.aload_n 0, 1) := by decide +kernel
theorem dX7_isAhead_1 : decode cX7_isAhead 1 = .ok (.iload_n 1, 1) := by decide +kernel
theorem dX7_isAhead_2 : decode cX7_isAhead 2 = .ok (.iconst 0, 1) := by decide +kernel
theorem dX7_isAhead_3 : decode cX7_isAhead 3 = .ok (.invokestatic 67, 3) := by decide +kernel
theorem dX7_isAhead_6 : decode cX7_isAhead 6 = .ok (.iaload, 1) := by decide +kernel
theorem dX7_isAhead_7 : decode cX7_isAhead 7 = .ok (.aload_n 0, 1) := by decide +kernel
theorem dX7_isAhead_8 : decode cX7_isAhead 8 = .ok (.iload_n 2, 1) := by decide +kernel
theorem dX7_isAhead_9 : decode cX7_isAhead 9 = .ok (.iconst 0, 1) := by decide +kernel
theorem dX7_isAhead_10 : decode cX7_isAhead 10 = .ok (.invokestatic 67, 3) := by decide +kernel
theorem dX7_isAhead_13 : decode cX7_isAhead 13 = .ok (.iaload, 1) := by decide +kernel
theorem dX7_isAhead_14 : decode cX7_isAhead 14 = .ok (.isub, 1) := by decide +kernel
theorem dX7_isAhead_15 : decode cX7_isAhead 15 = .ok (.istore_n 3, 1) := by decide +kernel
theorem dX7_isAhead_16 : decode cX7_isAhead 16 = .ok (.aload_n 0, 1) := by decide +kernel
theorem dX7_isAhead_17 : decode cX7_isAhead 17 = .ok (.iload_n 1, 1) := by decide +kernel
theorem dX7_isAhead_18 : decode cX7_isAhead 18 = .ok (.iload_n 2, 1) := by decide +kernel
theorem dX7_isAhead_19 : decode cX7_isAhead 19 = .ok (.invokestatic 78, 3) := by decide +kernel
theorem dX7_isAhead_22 : decode cX7_isAhead 22 = .ok (.istore 4, 2) := by decide +kernel
theorem dX7_isAhead_24 : decode cX7_isAhead 24 = .ok (.aload_n 0, 1) := by decide +kernel
theorem dX7_isAhead_25 : decode cX7_isAhead 25 = .ok (.iconst 2, 1) := by decide +kernel
theorem dX7_isAhead_26 : decode cX7_isAhead 26 = .ok (.iaload, 1) := by decide +kernel
theorem dX7_isAhead_27 : decode cX7_isAhead 27 = .ok (.ifCond .ne 8, 3) := by decide +kernel
theorem dX7_isAhead_30 : decode cX7_isAhead 30 = .ok (.iload 4, 2) := by decide +kernel
theorem dX7_isAhead_32 : decode cX7_isAhead 32 = .ok (.goto 4, 3) := by decide +kernel
theorem dX7_isAhead_35 : decode cX7_isAhead 35 = .ok (.iload_n 3, 1) := by decide +kernel
theorem dX7_isAhead_36 : decode cX7_isAhead 36 = .ok (.istore 5, 2) := by decide +kernel
theorem dX7_isAhead_38 : decode cX7_isAhead 38 = .ok (.aload_n 0, 1) := by decide +kernel
theorem dX7_isAhead_39 : decode cX7_isAhead 39 = .ok (.iconst 2, 1) := by decide +kernel
theorem dX7_isAhead_40 : decode cX7_isAhead 40 = .ok (.iaload, 1) := by decide +kernel
theorem dX7_isAhead_41 : decode cX7_isAhead 41 = .ok (.ifCond .ne 7, 3) := by decide +kernel
theorem dX7_isAhead_44 : decode cX7_isAhead 44 = .ok (.iload_n 3, 1) := by decide +kernel
theorem dX7_isAhead_45 : decode cX7_isAhead 45 = .ok (.goto 5, 3) := by decide +kernel
theorem dX7_isAhead_48 : decode cX7_isAhead 48 = .ok (.iload 4, 2) := by decide +kernel
theorem dX7_isAhead_50 : decode cX7_isAhead 50 = .ok (.istore 6, 2) := by decide +kernel
theorem dX7_isAhead_52 : decode cX7_isAhead 52 = .ok (.iload 5, 2) := by decide +kernel
theorem dX7_isAhead_54 : decode cX7_isAhead 54 = .ok (.ifCond .eq 8, 3) := by decide +kernel
theorem dX7_isAhead_57 : decode cX7_isAhead 57 = .ok (.iload 5, 2) := by decide +kernel
theorem dX7_isAhead_59 : decode cX7_isAhead 59 = .ok (.goto 29, 3) := by decide +kernel
theorem dX7_isAhead_62 : decode cX7_isAhead 62 = .ok (.iload 6, 2) := by decide +kernel
theorem dX7_isAhead_64 : decode cX7_isAhead 64 = .ok (.ifCond .eq 8, 3) := by decide +kernel
theorem dX7_isAhead_67 : decode cX7_isAhead 67 = .ok (.iload 6, 2) := by decide +kernel
theorem dX7_isAhead_69 : decode cX7_isAhead 69 = .ok (.goto 19, 3) := by decide +kernel
theorem dX7_isAhead_72 : decode cX7_isAhead 72 = .ok (.aload_n 0, 1) := by decide +kernel
theorem dX7_isAhead_73 : decode cX7_isAhead 73 = .ok (.iload_n 1, 1) := by decide +kernel
theorem dX7_isAhead_74 : decode cX7_isAhead 74 = .ok (.bipush 38, 2) := by decide +kernel
theorem dX7_isAhead_76 : decode cX7_isAhead 76 = .ok (.invokestatic 67, 3) := by decide +kernel
theorem dX7_isAhead_79 : decode cX7_isAhead 79 = .ok (.iload_n 2, 1) := by decide +kernel
theorem dX7_isAhead_80 : decode cX7_isAhead 80 = .ok (.bipush 38, 2) := by decide +kernel
theorem dX7_isAhead_82 : decode cX7_isAhead 82 = .ok (.invokestatic 67, 3) := by decide +kernel
theorem dX7_isAhead_85 : decode cX7_isAhead 85 = .ok (.invokestatic 74, 3) := by decide +kernel
theorem dX7_isAhead_88 : decode cX7_isAhead 88 = .ok (.istore 7, 2) := by decide +kernel
theorem dX7_isAhead_90 : decode cX7_isAhead 90 = .ok (.iload 7, 2) := by decide +kernel
theorem dX7_isAhead_92 : decode cX7_isAhead 92 = .ok (.ifCond .lt 13, 3) := by decide +kernel
theorem dX7_isAhead_95 : decode cX7_isAhead 95 = .ok (.iload 7, 2) := by decide +kernel
theorem dX7_isAhead_97 : decode cX7_isAhead 97 = .ok (.ifCond .ne 12, 3) := by decide +kernel
theorem dX7_isAhead_100 : decode cX7_isAhead 100 = .ok (.iload_n 1, 1) := by decide +kernel
theorem dX7_isAhead_101 : decode cX7_isAhead 101 = .ok (.iload_n 2, 1) := by decide +kernel
theorem dX7_isAhead_102 : decode cX7_isAhead 102 = .ok (.if_icmp .ge 7, 3) := by decide +kernel
theorem dX7_isAhead_105 : decode cX7_isAhead 105 = .ok (.iconst 1, 1) := by decide +kernel
theorem dX7_isAhead_106 : decode cX7_isAhead 106 = .ok (.goto 4, 3) := by decide +kernel
theorem dX7_isAhead_109 : decode cX7_isAhead 109 = .ok (.iconst 0, 1) := by decide +kernel
theorem dX7_isAhead_110 : decode cX7_isAhead 110 = .ok (.ireturn, 1) := by decide +kernel
theorem dX7_put_0 : decode cX7_put 0 = .ok (.aload_n 0, 1) := by decide +kernel
theorem dX7_put_1 : decode cX7_put 1 = .ok (.getfield 47, 3) := by decide +kernel
theorem dX7_put_4 : decode cX7_put 4 = .ok (.iconst 0, 1) := by decide +kernel
theorem dX7_put_5 : decode cX7_put 5 = .ok (.dup2, 1) := by decide +kernel
theorem dX7_put_6 : decode cX7_put 6 = .ok (.iaload, 1) := by decide +kernel
theorem dX7_put_7 : decode cX7_put 7 = .ok (.iconst 1, 1) := by decide +kernel
theorem dX7_put_8 : decode cX7_put 8 = .ok (.iadd, 1) := by decide +kernel
theorem dX7_put_9 : decode cX7_put 9 = .ok (.iastore, 1) := by decide +kernel
theorem dX7_put_10 : decode cX7_put 10 = .ok (.aload_n 0, 1) := by decide +kernel
theorem dX7_put_11 : decode cX7_put 11 = .ok (.getfield 47, 3) := by decide +kernel
theorem dX7_put_14 : decode cX7_put 14 = .ok (.aload_n 0, 1) := by decide +kernel
theorem dX7_put_15 : decode cX7_put 15 = .ok (.getfield 47, 3) := by decide +kernel
theorem dX7_put_18 : decode cX7_put 18 = .ok (.iconst 0, 1) := by decide +kernel
theorem dX7_put_19 : decode cX7_put 19 = .ok (.iaload, 1) := by decide +kernel
theorem dX7_put_20 : decode cX7_put 20 = .ok (.iload_n 1, 1) := by decide +kernel
theorem dX7_put_21 : decode cX7_put 21 = .ok (.iastore, 1) := by decide +kernel
theorem dX7_put_22 : decode cX7_put 22 = .ok (.return_, 1) := by decide +kernel
set_option maxRecDepth 20000 in
theorem ggX7_putYear_X7_tenTo : GoodIn wsX7_putYear wsX7_tenTo := goodIn_r _ [5, 1] (by decide +kernel) (by decide +kernel)
set_option maxRecDepth 20000 in
theorem gX7_putYear_X7_tenTo : GoodIn wsX7_putYear (va_wsS RX7 81 yX7_tenTo wsX7_tenTo) := goodIn_app (goodIn_of _ (by decide +kernel)) ggX7_putYear_X7_tenTo
set_option maxRecDepth 20000 in
theorem ggX7_putYear_X7_put : GoodIn wsX7_putYear wsX7_put := goodIn_r _ [9, 10, 11, 12, 13, 14, 15, 16, 17, 18, 19, 20, 21, 22, 23, 24, 25, 26, 27, 28] (by decide +kernel) (by decide +kernel)
set_option maxRecDepth 20000 in
theorem gX7_putYear_X7_put : GoodIn wsX7_putYear (wsV RX7 85 RX7 yX7_put wsX7_put) := goodIn_app (goodIn_of _ (by decide +kernel)) ggX7_putYear_X7_put
theorem dX7_putYear_0 : decode cX7_putYear 0 = .ok (.iload_n 2, 1) := by decide +kernel
theorem dX7_putYear_1 : decode cX7_putYear 1 = .ok (.iconst 1, 1) := by decide +kernel
theorem dX7_putYear_2 : decode cX7_putYear 2 = .ok (.isub, 1) := by decide +kernel
theorem dX7_putYear_3 : decode cX7_putYear 3 = .ok (.invokestatic 81, 3) := by decide +kernel
theorem dX7_putYear_6 : decode cX7_putYear 6 = .ok (.lstore_n 3, 1) := by decide +kernel
theorem dX7_putYear_7 : decode cX7_putYear 7 = .ok (.lload_n 3, 1) := by decide +kernel
theorem dX7_putYear_8 : decode cX7_putYear 8 = .ok (.lconst 0, 1) := by decide +kernel
theorem dX7_putYear_9 : decode cX7_putYear 9 = .ok (.lcmp, 1) := by decide +kernel
theorem dX7_putYear_10 : decode cX7_putYear 10 = .ok (.ifCond .le 28, 3) := by decide +kernel
theorem dX7_putYear_13 : decode cX7_putYear 13 = .ok (.aload_n 0, 1) := by decide +kernel
theorem dX7_putYear_14 : decode cX7_putYear 14 = .ok (.bipush 48, 2) := by decide +kernel
theorem dX7_putYear_16 : decode cX7_putYear 16 = .ok (.iload_n 1, 1) := by decide +kernel
theorem dX7_putYear_17 : decode cX7_putYear 17 = .ok (.i2l, 1) := by decide +kernel
theorem dX7_putYear_18 : decode cX7_putYear 18 = .ok (.lload_n 3, 1) := by decide +kernel
theorem dX7_putYear_19 : decode cX7_putYear 19 = .ok (.ldiv, 1) := by decide +kernel
theorem dX7_putYear_20 : decode cX7_putYear 20 = .ok (.ldc2_w 58, 3) := by decide +kernel
theorem dX7_putYear_23 : decode cX7_putYear 23 = .ok (.lrem, 1) := by decide +kernel
theorem dX7_putYear_24 : decode cX7_putYear 24 = .ok (.l2i, 1) := by decide +kernel
theorem dX7_putYear_25 : decode cX7_putYear 25 = .ok (.iadd, 1) := by decide +kernel
theorem dX7_putYear_26 : decode cX7_putYear 26 = .ok (.invokevirtual 85, 3) := by decide +kernel
theorem dX7_putYear_29 : decode cX7_putYear 29 = .ok (.lload_n 3, 1) := by decide +kernel
theorem dX7_putYear_30 : decode cX7_putYear 30 = .ok (.ldc2_w 58, 3) := by decide +kernel
theorem dX7_putYear_33 : decode cX7_putYear 33 = .ok (.ldiv, 1) := by decide +kernel
theorem dX7_putYear_34 : decode cX7_putYear 34 = .ok (.lstore_n 3, 1) := by decide +kernel
theorem dX7_putYear_35 : decode cX7_putYear 35 = .ok (.goto (-28), 3) := by decide +kernel
theorem dX7_putYear_38 : decode cX7_putYear 38 = .ok (.return_, 1) := by decide +kernel
set_option maxRecDepth 20000 in
theorem ggX7_layStem_X7_cell : GoodIn wsX7_layStem wsX7_cell := goodIn_r _ [5] (by decide +kernel) (by decide +kernel)
set_option maxRecDepth 20000 in
theorem gX7_layStem_X7_cell : GoodIn wsX7_layStem (va_wsS RX7 67 yX7_cell wsX7_cell) := goodIn_app (goodIn_of _ (by decide +kernel)) ggX7_layStem_X7_cell
set_option maxRecDepth 20000 in
theorem ggX7_layStem_X7_author : GoodIn wsX7_layStem wsX7_author := goodIn_r _ [8, 2, 3, 4, 5] (by decide +kernel) (by decide +kernel)
set_option maxRecDepth 20000 in
theorem gX7_layStem_X7_author : GoodIn wsX7_layStem (va_wsS RX7 71 yX7_author wsX7_author) := goodIn_app (goodIn_of _ (by decide +kernel)) ggX7_layStem_X7_author
set_option maxRecDepth 20000 in
theorem ggX7_layStem_X7_put : GoodIn wsX7_layStem wsX7_put := goodIn_r _ [12, 1, 21, 22, 23, 24, 25, 26, 27, 28, 29, 30, 31, 32, 33, 34, 35, 36, 37, 38] (by decide +kernel) (by decide +kernel)
set_option maxRecDepth 20000 in
theorem gX7_layStem_X7_put : GoodIn wsX7_layStem (wsV RX7 85 RX7 yX7_put wsX7_put) := goodIn_app (goodIn_of _ (by decide +kernel)) ggX7_layStem_X7_put
set_option maxRecDepth 20000 in
theorem ggX7_layStem_X7_putYear : GoodIn wsX7_layStem wsX7_putYear := goodIn_r _ [16, 17, 18, 19, 4, 20, 9, 10, 11, 12, 1, 21, 22, 23, 24, 25, 26, 27, 28, 29, 30, 31, 32, 33, 34, 35, 36, 37, 38] (by decide +kernel) (by decide +kernel)
set_option maxRecDepth 20000 in
theorem gX7_layStem_X7_putYear : GoodIn wsX7_layStem (wsV RX7 89 RX7 yX7_putYear wsX7_putYear) := goodIn_app (goodIn_of _ (by decide +kernel)) ggX7_layStem_X7_putYear
theorem dX7_layStem_0 : decode cX7_layStem 0 = .ok (.aload_n 1, 1) := by decide +kernel
theorem dX7_layStem_1 : decode cX7_layStem 1 = .ok (.iload_n 2, 1) := by decide +kernel
theorem dX7_layStem_2 : decode cX7_layStem 2 = .ok (.iconst 1, 1) := by decide +kernel
theorem dX7_layStem_3 : decode cX7_layStem 3 = .ok (.invokestatic 67, 3) := by decide +kernel
theorem dX7_layStem_6 : decode cX7_layStem 6 = .ok (.iaload, 1) := by decide +kernel
theorem dX7_layStem_7 : decode cX7_layStem 7 = .ok (.istore 4, 2) := by decide +kernel
theorem dX7_layStem_9 : decode cX7_layStem 9 = .ok (.iload_n 2, 1) := by decide +kernel
theorem dX7_layStem_10 : decode cX7_layStem 10 = .ok (.iconst 0, 1) := by decide +kernel
theorem dX7_layStem_11 : decode cX7_layStem 11 = .ok (.invokestatic 71, 3) := by decide +kernel
theorem dX7_layStem_14 : decode cX7_layStem 14 = .ok (.istore 5, 2) := by decide +kernel
theorem dX7_layStem_16 : decode cX7_layStem 16 = .ok (.aload_n 0, 1) := by decide +kernel
theorem dX7_layStem_17 : decode cX7_layStem 17 = .ok (.getfield 47, 3) := by decide +kernel
theorem dX7_layStem_20 : decode cX7_layStem 20 = .ok (.iconst 0, 1) := by decide +kernel
theorem dX7_layStem_21 : decode cX7_layStem 21 = .ok (.iconst 0, 1) := by decide +kernel
theorem dX7_layStem_22 : decode cX7_layStem 22 = .ok (.iastore, 1) := by decide +kernel
theorem dX7_layStem_23 : decode cX7_layStem 23 = .ok (.iload_n 3, 1) := by decide +kernel
theorem dX7_layStem_24 : decode cX7_layStem 24 = .ok (.ifCond .ne 7, 3) := by decide +kernel
theorem dX7_layStem_27 : decode cX7_layStem 27 = .ok (.iconst 3, 1) := by decide +kernel
theorem dX7_layStem_28 : decode cX7_layStem 28 = .ok (.goto 14, 3) := by decide +kernel
theorem dX7_layStem_31 : decode cX7_layStem 31 = .ok (.iload_n 3, 1) := by decide +kernel
theorem dX7_layStem_32 : decode cX7_layStem 32 = .ok (.iconst 2, 1) := by decide +kernel
theorem dX7_layStem_33 : decode cX7_layStem 33 = .ok (.if_icmp .ne 8, 3) := by decide +kernel
theorem dX7_layStem_36 : decode cX7_layStem 36 = .ok (.bipush 8, 2) := by decide +kernel
theorem dX7_layStem_38 : decode cX7_layStem 38 = .ok (.goto 4, 3) := by decide +kernel
theorem dX7_layStem_41 : decode cX7_layStem 41 = .ok (.iconst 1, 1) := by decide +kernel
theorem dX7_layStem_42 : decode cX7_layStem 42 = .ok (.istore 6, 2) := by decide +kernel
theorem dX7_layStem_44 : decode cX7_layStem 44 = .ok (.iconst 1, 1) := by decide +kernel
theorem dX7_layStem_45 : decode cX7_layStem 45 = .ok (.istore 7, 2) := by decide +kernel
theorem dX7_layStem_47 : decode cX7_layStem 47 = .ok (.iload 7, 2) := by decide +kernel
theorem dX7_layStem_49 : decode cX7_layStem 49 = .ok (.aload_n 1, 1) := by decide +kernel
theorem dX7_layStem_50 : decode cX7_layStem 50 = .ok (.iload 5, 2) := by decide +kernel
theorem dX7_layStem_52 : decode cX7_layStem 52 = .ok (.iaload, 1) := by decide +kernel
theorem dX7_layStem_53 : decode cX7_layStem 53 = .ok (.if_icmp .gt 27, 3) := by decide +kernel
theorem dX7_layStem_56 : decode cX7_layStem 56 = .ok (.iload 7, 2) := by decide +kernel
theorem dX7_layStem_58 : decode cX7_layStem 58 = .ok (.iload 6, 2) := by decide +kernel
theorem dX7_layStem_60 : decode cX7_layStem 60 = .ok (.if_icmp .gt 20, 3) := by decide +kernel
theorem dX7_layStem_63 : decode cX7_layStem 63 = .ok (.aload_n 0, 1) := by decide +kernel
theorem dX7_layStem_64 : decode cX7_layStem 64 = .ok (.aload_n 1, 1) := by decide +kernel
theorem dX7_layStem_65 : decode cX7_layStem 65 = .ok (.iload 5, 2) := by decide +kernel
theorem dX7_layStem_67 : decode cX7_layStem 67 = .ok (.iload 7, 2) := by decide +kernel
theorem dX7_layStem_69 : decode cX7_layStem 69 = .ok (.iadd, 1) := by decide +kernel
theorem dX7_layStem_70 : decode cX7_layStem 70 = .ok (.iaload, 1) := by decide +kernel
theorem dX7_layStem_71 : decode cX7_layStem 71 = .ok (.invokevirtual 85, 3) := by decide +kernel
theorem dX7_layStem_74 : decode cX7_layStem 74 = .ok (.iinc 7 1, 3) := by decide +kernel
theorem dX7_layStem_77 : decode cX7_layStem 77 = .ok (.goto (-30), 3) := by decide +kernel
theorem dX7_layStem_80 : decode cX7_layStem 80 = .ok (.iload_n 3, 1) := by decide +kernel
theorem dX7_layStem_81 : decode cX7_layStem 81 = .ok (.iconst 1, 1) := by decide +kernel
theorem dX7_layStem_82 : decode cX7_layStem 82 = .ok (.if_icmp .ne 33, 3) := by decide +kernel
theorem dX7_layStem_85 : decode cX7_layStem 85 = .ok (.iconst 1, 1) := by decide +kernel
theorem dX7_layStem_86 : decode cX7_layStem 86 = .ok (.istore 7, 2) := by decide +kernel
theorem dX7_layStem_88 : decode cX7_layStem 88 = .ok (.iload 7, 2) := by decide +kernel
theorem dX7_layStem_90 : decode cX7_layStem 90 = .ok (.iload 4, 2) := by decide +kernel
theorem dX7_layStem_92 : decode cX7_layStem 92 = .ok (.if_icmp .ge 23, 3) := by decide +kernel
theorem dX7_layStem_95 : decode cX7_layStem 95 = .ok (.aload_n 0, 1) := by decide +kernel
theorem dX7_layStem_96 : decode cX7_layStem 96 = .ok (.aload_n 1, 1) := by decide +kernel
theorem dX7_layStem_97 : decode cX7_layStem 97 = .ok (.iload_n 2, 1) := by decide +kernel
theorem dX7_layStem_98 : decode cX7_layStem 98 = .ok (.iload 7, 2) := by decide +kernel
theorem dX7_layStem_100 : decode cX7_layStem 100 = .ok (.invokestatic 71, 3) := by decide +kernel
theorem dX7_layStem_103 : decode cX7_layStem 103 = .ok (.iconst 1, 1) := by decide +kernel
theorem dX7_layStem_104 : decode cX7_layStem 104 = .ok (.iadd, 1) := by decide +kernel
theorem dX7_layStem_105 : decode cX7_layStem 105 = .ok (.iaload, 1) := by decide +kernel
theorem dX7_layStem_106 : decode cX7_layStem 106 = .ok (.invokevirtual 85, 3) := by decide +kernel
theorem dX7_layStem_109 : decode cX7_layStem 109 = .ok (.iinc 7 1, 3) := by decide +kernel
theorem dX7_layStem_112 : decode cX7_layStem 112 = .ok (.goto (-24), 3) := by decide +kernel
theorem dX7_layStem_115 : decode cX7_layStem 115 = .ok (.iload_n 3, 1) := by decide +kernel
theorem dX7_layStem_116 : decode cX7_layStem 116 = .ok (.iconst 2, 1) := by decide +kernel
theorem dX7_layStem_117 : decode cX7_layStem 117 = .ok (.if_icmp .ne 15, 3) := by decide +kernel
theorem dX7_layStem_120 : decode cX7_layStem 120 = .ok (.iload 4, 2) := by decide +kernel
theorem dX7_layStem_122 : decode cX7_layStem 122 = .ok (.iconst 1, 1) := by decide +kernel
theorem dX7_layStem_123 : decode cX7_layStem 123 = .ok (.if_icmp .le 9, 3) := by decide +kernel
theorem dX7_layStem_126 : decode cX7_layStem 126 = .ok (.aload_n 0, 1) := by decide +kernel
theorem dX7_layStem_127 : decode cX7_layStem 127 = .ok (.bipush 43, 2) := by decide +kernel
theorem dX7_layStem_129 : decode cX7_layStem 129 = .ok (.invokevirtual 85, 3) := by decide +kernel
theorem dX7_layStem_132 : decode cX7_layStem 132 = .ok (.iload_n 3, 1) := by decide +kernel
theorem dX7_layStem_133 : decode cX7_layStem 133 = .ok (.iconst 3, 1) := by decide +kernel
theorem dX7_layStem_134 : decode cX7_layStem 134 = .ok (.if_icmp .ne 17, 3) := by decide +kernel
theorem dX7_layStem_137 : decode cX7_layStem 137 = .ok (.aload_n 0, 1) := by decide +kernel
theorem dX7_layStem_138 : decode cX7_layStem 138 = .ok (.aload_n 1, 1) := by decide +kernel
theorem dX7_layStem_139 : decode cX7_layStem 139 = .ok (.iload_n 2, 1) := by decide +kernel
theorem dX7_layStem_140 : decode cX7_layStem 140 = .ok (.bipush 38, 2) := by decide +kernel
theorem dX7_layStem_142 : decode cX7_layStem 142 = .ok (.invokestatic 67, 3) := by decide +kernel
theorem dX7_layStem_145 : decode cX7_layStem 145 = .ok (.iconst 1, 1) := by decide +kernel
theorem dX7_layStem_146 : decode cX7_layStem 146 = .ok (.iadd, 1) := by decide +kernel
theorem dX7_layStem_147 : decode cX7_layStem 147 = .ok (.iaload, 1) := by decide +kernel
theorem dX7_layStem_148 : decode cX7_layStem 148 = .ok (.invokevirtual 85, 3) := by decide +kernel
theorem dX7_layStem_151 : decode cX7_layStem 151 = .ok (.aload_n 0, 1) := by decide +kernel
theorem dX7_layStem_152 : decode cX7_layStem 152 = .ok (.aload_n 1, 1) := by decide +kernel
theorem dX7_layStem_153 : decode cX7_layStem 153 = .ok (.iload_n 2, 1) := by decide +kernel
theorem dX7_layStem_154 : decode cX7_layStem 154 = .ok (.iconst 0, 1) := by decide +kernel
theorem dX7_layStem_155 : decode cX7_layStem 155 = .ok (.invokestatic 67, 3) := by decide +kernel
theorem dX7_layStem_158 : decode cX7_layStem 158 = .ok (.iaload, 1) := by decide +kernel
theorem dX7_layStem_159 : decode cX7_layStem 159 = .ok (.iload_n 3, 1) := by decide +kernel
theorem dX7_layStem_160 : decode cX7_layStem 160 = .ok (.iconst 2, 1) := by decide +kernel
theorem dX7_layStem_161 : decode cX7_layStem 161 = .ok (.irem, 1) := by decide +kernel
theorem dX7_layStem_162 : decode cX7_layStem 162 = .ok (.ifCond .ne 7, 3) := by decide +kernel
theorem dX7_layStem_165 : decode cX7_layStem 165 = .ok (.iconst 2, 1) := by decide +kernel
theorem dX7_layStem_166 : decode cX7_layStem 166 = .ok (.goto 4, 3) := by decide +kernel
theorem dX7_layStem_169 : decode cX7_layStem 169 = .ok (.iconst 4, 1) := by decide +kernel
theorem dX7_layStem_170 : decode cX7_layStem 170 = .ok (.invokevirtual 89, 3) := by decide +kernel
theorem dX7_layStem_173 : decode cX7_layStem 173 = .ok (.return_, 1) := by decide +kernel
theorem dX7_areLike_0 : decode cX7_areLike 0 = .ok (.iconst 1, 1) := by decide +kernel
theorem dX7_areLike_1 : decode cX7_areLike 1 = .ok (.istore 4, 2) := by decide +kernel
theorem dX7_areLike_3 : decode cX7_areLike 3 = .ok (.iconst 0, 1) := by decide +kernel
theorem dX7_areLike_4 : decode cX7_areLike 4 = .ok (.istore 5, 2) := by decide +kernel
theorem dX7_areLike_6 : decode cX7_areLike 6 = .ok (.iload 5, 2) := by decide +kernel
theorem dX7_areLike_8 : decode cX7_areLike 8 = .ok (.aload_n 0, 1) := by decide +kernel
theorem dX7_areLike_9 : decode cX7_areLike 9 = .ok (.iload_n 1, 1) := by decide +kernel
theorem dX7_areLike_10 : decode cX7_areLike 10 = .ok (.iaload, 1) := by decide +kernel
theorem dX7_areLike_11 : decode cX7_areLike 11 = .ok (.if_icmp .gt 36, 3) := by decide +kernel
theorem dX7_areLike_14 : decode cX7_areLike 14 = .ok (.iload 4, 2) := by decide +kernel
theorem dX7_areLike_16 : decode cX7_areLike 16 = .ok (.ifCond .eq 31, 3) := by decide +kernel
theorem dX7_areLike_19 : decode cX7_areLike 19 = .ok (.aload_n 0, 1) := by decide +kernel
theorem dX7_areLike_20 : decode cX7_areLike 20 = .ok (.iload_n 1, 1) := by decide +kernel
theorem dX7_areLike_21 : decode cX7_areLike 21 = .ok (.iload 5, 2) := by decide +kernel
theorem dX7_areLike_23 : decode cX7_areLike 23 = .ok (.iadd, 1) := by decide +kernel
theorem dX7_areLike_24 : decode cX7_areLike 24 = .ok (.iaload, 1) := by decide +kernel
theorem dX7_areLike_25 : decode cX7_areLike 25 = .ok (.aload_n 2, 1) := by decide +kernel
theorem dX7_areLike_26 : decode cX7_areLike 26 = .ok (.iload_n 3, 1) := by decide +kernel
theorem dX7_areLike_27 : decode cX7_areLike 27 = .ok (.iload 5, 2) := by decide +kernel
theorem dX7_areLike_29 : decode cX7_areLike 29 = .ok (.iadd, 1) := by decide +kernel
theorem dX7_areLike_30 : decode cX7_areLike 30 = .ok (.iaload, 1) := by decide +kernel
theorem dX7_areLike_31 : decode cX7_areLike 31 = .ok (.if_icmp .ne 7, 3) := by decide +kernel
theorem dX7_areLike_34 : decode cX7_areLike 34 = .ok (.iconst 1, 1) := by decide +kernel
theorem dX7_areLike_35 : decode cX7_areLike 35 = .ok (.goto 4, 3) := by decide +kernel
theorem dX7_areLike_38 : decode cX7_areLike 38 = .ok (.iconst 0, 1) := by decide +kernel
theorem dX7_areLike_39 : decode cX7_areLike 39 = .ok (.istore 4, 2) := by decide +kernel
theorem dX7_areLike_41 : decode cX7_areLike 41 = .ok (.iinc 5 1, 3) := by decide +kernel
theorem dX7_areLike_44 : decode cX7_areLike 44 = .ok (.goto (-38), 3) := by decide +kernel
theorem dX7_areLike_47 : decode cX7_areLike 47 = .ok (.iload 4, 2) := by decide +kernel
theorem dX7_areLike_49 : decode cX7_areLike 49 = .ok (.ireturn, 1) := by decide +kernel
set_option maxRecDepth 20000 in
theorem ggX7_lay_X7_layStem : GoodIn wsX7_lay wsX7_layStem := goodIn_r _ [10, 1, 11, 12, 9, 13, 14, 15, 16, 17, 18, 19, 20, 21, 22, 23, 24, 25, 26, 27, 28, 44, 45, 46, 47, 48, 49, 50, 51, 52, 53, 54, 55, 56, 57, 58, 59, 60, 61] (by decide +kernel) (by decide +kernel)
set_option maxRecDepth 20000 in
theorem gX7_lay_X7_layStem : GoodIn wsX7_lay (wsV RX7 93 RX7 yX7_layStem wsX7_layStem) := goodIn_app (goodIn_of _ (by decide +kernel)) ggX7_lay_X7_layStem
set_option maxRecDepth 20000 in
theorem ggX7_lay_X7_copy : GoodIn wsX7_lay wsX7_copy := goodIn_r _ [31] (by decide +kernel) (by decide +kernel)
set_option maxRecDepth 20000 in
theorem gX7_lay_X7_copy : GoodIn wsX7_lay (va_wsS RX7 63 yX7_copy wsX7_copy) := goodIn_app (goodIn_of _ (by decide +kernel)) ggX7_lay_X7_copy
set_option maxRecDepth 20000 in
theorem ggX7_lay_X7_areLike : GoodIn wsX7_lay wsX7_areLike := goodIn_r _ [34] (by decide +kernel) (by decide +kernel)
set_option maxRecDepth 20000 in
theorem gX7_lay_X7_areLike : GoodIn wsX7_lay (va_wsS RX7 97 yX7_areLike wsX7_areLike) := goodIn_app (goodIn_of _ (by decide +kernel)) ggX7_lay_X7_areLike
set_option maxRecDepth 20000 in
theorem ggX7_lay_X7_isAhead : GoodIn wsX7_lay wsX7_isAhead := goodIn_r _ [37, 11, 12, 9, 13, 38, 39, 40, 14, 15, 16, 41, 42, 43] (by decide +kernel) (by decide +kernel)
set_option maxRecDepth 20000 in
theorem gX7_lay_X7_isAhead : GoodIn wsX7_lay (va_wsS RX7 101 yX7_isAhead wsX7_isAhead) := goodIn_app (goodIn_of _ (by decide +kernel)) ggX7_lay_X7_isAhead
theorem dX7_lay_0 : decode cX7_lay 0 = .ok (.aload_n 1, 1) := by decide +kernel
theorem dX7_lay_1 : decode cX7_lay 1 = .ok (.iconst 0, 1) := by decide +kernel
theorem dX7_lay_2 : decode cX7_lay 2 = .ok (.iaload, 1) := by decide +kernel
theorem dX7_lay_3 : decode cX7_lay 3 = .ok (.istore_n 3, 1) := by decide +kernel
theorem dX7_lay_4 : decode cX7_lay 4 = .ok (.iconst 0, 1) := by decide +kernel
theorem dX7_lay_5 : decode cX7_lay 5 = .ok (.istore 4, 2) := by decide +kernel
theorem dX7_lay_7 : decode cX7_lay 7 = .ok (.iload 4, 2) := by decide +kernel
theorem dX7_lay_9 : decode cX7_lay 9 = .ok (.iload_n 3, 1) := by decide +kernel
theorem dX7_lay_10 : decode cX7_lay 10 = .ok (.if_icmp .ge 60, 3) := by decide +kernel
theorem dX7_lay_13 : decode cX7_lay 13 = .ok (.aload_n 0, 1) := by decide +kernel
theorem dX7_lay_14 : decode cX7_lay 14 = .ok (.aload_n 1, 1) := by decide +kernel
theorem dX7_lay_15 : decode cX7_lay 15 = .ok (.iload 4, 2) := by decide +kernel
theorem dX7_lay_17 : decode cX7_lay 17 = .ok (.iload_n 2, 1) := by decide +kernel
theorem dX7_lay_18 : decode cX7_lay 18 = .ok (.invokevirtual 93, 3) := by decide +kernel
theorem dX7_lay_21 : decode cX7_lay 21 = .ok (.aload_n 0, 1) := by decide +kernel
theorem dX7_lay_22 : decode cX7_lay 22 = .ok (.getfield 47, 3) := by decide +kernel
theorem dX7_lay_25 : decode cX7_lay 25 = .ok (.iconst 0, 1) := by decide +kernel
theorem dX7_lay_26 : decode cX7_lay 26 = .ok (.aload_n 0, 1) := by decide +kernel
theorem dX7_lay_27 : decode cX7_lay 27 = .ok (.getfield 32, 3) := by decide +kernel
theorem dX7_lay_30 : decode cX7_lay 30 = .ok (.bipush 14, 2) := by decide +kernel
theorem dX7_lay_32 : decode cX7_lay 32 = .ok (.iload 4, 2) := by decide +kernel
theorem dX7_lay_34 : decode cX7_lay 34 = .ok (.imul, 1) := by decide +kernel
theorem dX7_lay_35 : decode cX7_lay 35 = .ok (.bipush 14, 2) := by decide +kernel
theorem dX7_lay_37 : decode cX7_lay 37 = .ok (.invokestatic 63, 3) := by decide +kernel
theorem dX7_lay_40 : decode cX7_lay 40 = .ok (.aload_n 0, 1) := by decide +kernel
theorem dX7_lay_41 : decode cX7_lay 41 = .ok (.getfield 38, 3) := by decide +kernel
theorem dX7_lay_44 : decode cX7_lay 44 = .ok (.iload 4, 2) := by decide +kernel
theorem dX7_lay_46 : decode cX7_lay 46 = .ok (.iconst 0, 1) := by decide +kernel
theorem dX7_lay_47 : decode cX7_lay 47 = .ok (.iastore, 1) := by decide +kernel
theorem dX7_lay_48 : decode cX7_lay 48 = .ok (.aload_n 0, 1) := by decide +kernel
theorem dX7_lay_49 : decode cX7_lay 49 = .ok (.getfield 35, 3) := by decide +kernel
theorem dX7_lay_52 : decode cX7_lay 52 = .ok (.iload 4, 2) := by decide +kernel
theorem dX7_lay_54 : decode cX7_lay 54 = .ok (.iconst 0, 1) := by decide +kernel
theorem dX7_lay_55 : decode cX7_lay 55 = .ok (.iastore, 1) := by decide +kernel
theorem dX7_lay_56 : decode cX7_lay 56 = .ok (.aload_n 0, 1) := by decide +kernel
theorem dX7_lay_57 : decode cX7_lay 57 = .ok (.getfield 41, 3) := by decide +kernel
theorem dX7_lay_60 : decode cX7_lay 60 = .ok (.iload 4, 2) := by decide +kernel
theorem dX7_lay_62 : decode cX7_lay 62 = .ok (.iconst 0, 1) := by decide +kernel
theorem dX7_lay_63 : decode cX7_lay 63 = .ok (.iastore, 1) := by decide +kernel
theorem dX7_lay_64 : decode cX7_lay 64 = .ok (.iinc 4 1, 3) := by decide +kernel
theorem dX7_lay_67 : decode cX7_lay 67 = .ok (.goto (-60), 3) := by decide +kernel
theorem dX7_lay_70 : decode cX7_lay 70 = .ok (.iconst 0, 1) := by decide +kernel
theorem dX7_lay_71 : decode cX7_lay 71 = .ok (.istore 4, 2) := by decide +kernel
theorem dX7_lay_73 : decode cX7_lay 73 = .ok (.iload 4, 2) := by decide +kernel
theorem dX7_lay_75 : decode cX7_lay 75 = .ok (.iload_n 3, 1) := by decide +kernel
theorem dX7_lay_76 : decode cX7_lay 76 = .ok (.if_icmp .ge 137, 3) := by decide +kernel
theorem dX7_lay_79 : decode cX7_lay 79 = .ok (.iconst 0, 1) := by decide +kernel
theorem dX7_lay_80 : decode cX7_lay 80 = .ok (.istore 5, 2) := by decide +kernel
theorem dX7_lay_82 : decode cX7_lay 82 = .ok (.iload 5, 2) := by decide +kernel
theorem dX7_lay_84 : decode cX7_lay 84 = .ok (.iload_n 3, 1) := by decide +kernel
theorem dX7_lay_85 : decode cX7_lay 85 = .ok (.if_icmp .ge 122, 3) := by decide +kernel
theorem dX7_lay_88 : decode cX7_lay 88 = .ok (.aload_n 0, 1) := by decide +kernel
theorem dX7_lay_89 : decode cX7_lay 89 = .ok (.getfield 32, 3) := by decide +kernel
theorem dX7_lay_92 : decode cX7_lay 92 = .ok (.bipush 14, 2) := by decide +kernel
theorem dX7_lay_94 : decode cX7_lay 94 = .ok (.iload 4, 2) := by decide +kernel
theorem dX7_lay_96 : decode cX7_lay 96 = .ok (.imul, 1) := by decide +kernel
theorem dX7_lay_97 : decode cX7_lay 97 = .ok (.aload_n 0, 1) := by decide +kernel
theorem dX7_lay_98 : decode cX7_lay 98 = .ok (.getfield 32, 3) := by decide +kernel
theorem dX7_lay_101 : decode cX7_lay 101 = .ok (.bipush 14, 2) := by decide +kernel
theorem dX7_lay_103 : decode cX7_lay 103 = .ok (.iload 5, 2) := by decide +kernel
theorem dX7_lay_105 : decode cX7_lay 105 = .ok (.imul, 1) := by decide +kernel
theorem dX7_lay_106 : decode cX7_lay 106 = .ok (.invokestatic 97, 3) := by decide +kernel
theorem dX7_lay_109 : decode cX7_lay 109 = .ok (.istore 6, 2) := by decide +kernel
theorem dX7_lay_111 : decode cX7_lay 111 = .ok (.iload 5, 2) := by decide +kernel
theorem dX7_lay_113 : decode cX7_lay 113 = .ok (.iload 4, 2) := by decide +kernel
theorem dX7_lay_115 : decode cX7_lay 115 = .ok (.if_icmp .eq 18, 3) := by decide +kernel
theorem dX7_lay_118 : decode cX7_lay 118 = .ok (.aload_n 1, 1) := by decide +kernel
theorem dX7_lay_119 : decode cX7_lay 119 = .ok (.iload 5, 2) := by decide +kernel
theorem dX7_lay_121 : decode cX7_lay 121 = .ok (.iload 4, 2) := by decide +kernel
theorem dX7_lay_123 : decode cX7_lay 123 = .ok (.invokestatic 101, 3) := by decide +kernel
theorem dX7_lay_126 : decode cX7_lay 126 = .ok (.ifCond .eq 7, 3) := by decide +kernel
theorem dX7_lay_129 : decode cX7_lay 129 = .ok (.iconst 1, 1) := by decide +kernel
theorem dX7_lay_130 : decode cX7_lay 130 = .ok (.goto 4, 3) := by decide +kernel
theorem dX7_lay_133 : decode cX7_lay 133 = .ok (.iconst 0, 1) := by decide +kernel
theorem dX7_lay_134 : decode cX7_lay 134 = .ok (.istore 7, 2) := by decide +kernel
theorem dX7_lay_136 : decode cX7_lay 136 = .ok (.aload_n 0, 1) := by decide +kernel
theorem dX7_lay_137 : decode cX7_lay 137 = .ok (.getfield 38, 3) := by decide +kernel
theorem dX7_lay_140 : decode cX7_lay 140 = .ok (.iload 4, 2) := by decide +kernel
theorem dX7_lay_142 : decode cX7_lay 142 = .ok (.dup2, 1) := by decide +kernel
theorem dX7_lay_143 : decode cX7_lay 143 = .ok (.iaload, 1) := by decide +kernel
theorem dX7_lay_144 : decode cX7_lay 144 = .ok (.iload 6, 2) := by decide +kernel
theorem dX7_lay_146 : decode cX7_lay 146 = .ok (.ifCond .eq 7, 3) := by decide +kernel
theorem dX7_lay_149 : decode cX7_lay 149 = .ok (.iconst 1, 1) := by decide +kernel
theorem dX7_lay_150 : decode cX7_lay 150 = .ok (.goto 4, 3) := by decide +kernel
theorem dX7_lay_153 : decode cX7_lay 153 = .ok (.iconst 0, 1) := by decide +kernel
theorem dX7_lay_154 : decode cX7_lay 154 = .ok (.iadd, 1) := by decide +kernel
theorem dX7_lay_155 : decode cX7_lay 155 = .ok (.iastore, 1) := by decide +kernel
theorem dX7_lay_156 : decode cX7_lay 156 = .ok (.aload_n 0, 1) := by decide +kernel
theorem dX7_lay_157 : decode cX7_lay 157 = .ok (.getfield 35, 3) := by decide +kernel
theorem dX7_lay_160 : decode cX7_lay 160 = .ok (.iload 4, 2) := by decide +kernel
theorem dX7_lay_162 : decode cX7_lay 162 = .ok (.dup2, 1) := by decide +kernel
theorem dX7_lay_163 : decode cX7_lay 163 = .ok (.iaload, 1) := by decide +kernel
theorem dX7_lay_164 : decode cX7_lay 164 = .ok (.iload 6, 2) := by decide +kernel
theorem dX7_lay_166 : decode cX7_lay 166 = .ok (.ifCond .eq 12, 3) := by decide +kernel
theorem dX7_lay_169 : decode cX7_lay 169 = .ok (.iload 7, 2) := by decide +kernel
theorem dX7_lay_171 : decode cX7_lay 171 = .ok (.ifCond .eq 7, 3) := by decide +kernel
theorem dX7_lay_174 : decode cX7_lay 174 = .ok (.iconst 1, 1) := by decide +kernel
theorem dX7_lay_175 : decode cX7_lay 175 = .ok (.goto 4, 3) := by decide +kernel
theorem dX7_lay_178 : decode cX7_lay 178 = .ok (.iconst 0, 1) := by decide +kernel
theorem dX7_lay_179 : decode cX7_lay 179 = .ok (.iadd, 1) := by decide +kernel
theorem dX7_lay_180 : decode cX7_lay 180 = .ok (.iastore, 1) := by decide +kernel
theorem dX7_lay_181 : decode cX7_lay 181 = .ok (.aload_n 0, 1) := by decide +kernel
theorem dX7_lay_182 : decode cX7_lay 182 = .ok (.getfield 41, 3) := by decide +kernel
theorem dX7_lay_185 : decode cX7_lay 185 = .ok (.iload 4, 2) := by decide +kernel
theorem dX7_lay_187 : decode cX7_lay 187 = .ok (.dup2, 1) := by decide +kernel
theorem dX7_lay_188 : decode cX7_lay 188 = .ok (.iaload, 1) := by decide +kernel
theorem dX7_lay_189 : decode cX7_lay 189 = .ok (.iload 7, 2) := by decide +kernel
theorem dX7_lay_191 : decode cX7_lay 191 = .ok (.ifCond .eq 7, 3) := by decide +kernel
theorem dX7_lay_194 : decode cX7_lay 194 = .ok (.iconst 1, 1) := by decide +kernel
theorem dX7_lay_195 : decode cX7_lay 195 = .ok (.goto 4, 3) := by decide +kernel
theorem dX7_lay_198 : decode cX7_lay 198 = .ok (.iconst 0, 1) := by decide +kernel
theorem dX7_lay_199 : decode cX7_lay 199 = .ok (.iadd, 1) := by decide +kernel
theorem dX7_lay_200 : decode cX7_lay 200 = .ok (.iastore, 1) := by decide +kernel
theorem dX7_lay_201 : decode cX7_lay 201 = .ok (.iinc 5 1, 3) := by decide +kernel
theorem dX7_lay_204 : decode cX7_lay 204 = .ok (.goto (-122), 3) := by decide +kernel
theorem dX7_lay_207 : decode cX7_lay 207 = .ok (.iinc 4 1, 3) := by decide +kernel
theorem dX7_lay_210 : decode cX7_lay 210 = .ok (.goto (-137), 3) := by decide +kernel
theorem dX7_lay_213 : decode cX7_lay 213 = .ok (.iconst 0, 1) := by decide +kernel
theorem dX7_lay_214 : decode cX7_lay 214 = .ok (.istore 4, 2) := by decide +kernel
theorem dX7_lay_216 : decode cX7_lay 216 = .ok (.iload 4, 2) := by decide +kernel
theorem dX7_lay_218 : decode cX7_lay 218 = .ok (.iload_n 3, 1) := by decide +kernel
theorem dX7_lay_219 : decode cX7_lay 219 = .ok (.if_icmp .ge 40, 3) := by decide +kernel
theorem dX7_lay_222 : decode cX7_lay 222 = .ok (.aload_n 0, 1) := by decide +kernel
theorem dX7_lay_223 : decode cX7_lay 223 = .ok (.getfield 35, 3) := by decide +kernel
theorem dX7_lay_226 : decode cX7_lay 226 = .ok (.iload 4, 2) := by decide +kernel
theorem dX7_lay_228 : decode cX7_lay 228 = .ok (.aload_n 0, 1) := by decide +kernel
theorem dX7_lay_229 : decode cX7_lay 229 = .ok (.getfield 38, 3) := by decide +kernel
theorem dX7_lay_232 : decode cX7_lay 232 = .ok (.iload 4, 2) := by decide +kernel
theorem dX7_lay_234 : decode cX7_lay 234 = .ok (.iaload, 1) := by decide +kernel
theorem dX7_lay_235 : decode cX7_lay 235 = .ok (.iconst 1, 1) := by decide +kernel
theorem dX7_lay_236 : decode cX7_lay 236 = .ok (.if_icmp .le 15, 3) := by decide +kernel
theorem dX7_lay_239 : decode cX7_lay 239 = .ok (.aload_n 0, 1) := by decide +kernel
theorem dX7_lay_240 : decode cX7_lay 240 = .ok (.getfield 35, 3) := by decide +kernel
theorem dX7_lay_243 : decode cX7_lay 243 = .ok (.iload 4, 2) := by decide +kernel
theorem dX7_lay_245 : decode cX7_lay 245 = .ok (.iaload, 1) := by decide +kernel
theorem dX7_lay_246 : decode cX7_lay 246 = .ok (.iconst 1, 1) := by decide +kernel
theorem dX7_lay_247 : decode cX7_lay 247 = .ok (.iadd, 1) := by decide +kernel
theorem dX7_lay_248 : decode cX7_lay 248 = .ok (.goto 4, 3) := by decide +kernel
theorem dX7_lay_251 : decode cX7_lay 251 = .ok (.iconst 0, 1) := by decide +kernel
theorem dX7_lay_252 : decode cX7_lay 252 = .ok (.iastore, 1) := by decide +kernel
theorem dX7_lay_253 : decode cX7_lay 253 = .ok (.iinc 4 1, 3) := by decide +kernel
theorem dX7_lay_256 : decode cX7_lay 256 = .ok (.goto (-40), 3) := by decide +kernel
theorem dX7_lay_259 : decode cX7_lay 259 = .ok (.iconst 0, 1) := by decide +kernel
theorem dX7_lay_260 : decode cX7_lay 260 = .ok (.istore 4, 2) := by decide +kernel
theorem dX7_lay_262 : decode cX7_lay 262 = .ok (.iload 4, 2) := by decide +kernel
theorem dX7_lay_264 : decode cX7_lay 264 = .ok (.iload_n 3, 1) := by decide +kernel
theorem dX7_lay_265 : decode cX7_lay 265 = .ok (.if_icmp .ge 64, 3) := by decide +kernel
theorem dX7_lay_268 : decode cX7_lay 268 = .ok (.aload_n 0, 1) := by decide +kernel
theorem dX7_lay_269 : decode cX7_lay 269 = .ok (.getfield 35, 3) := by decide +kernel
theorem dX7_lay_272 : decode cX7_lay 272 = .ok (.iload 4, 2) := by decide +kernel
theorem dX7_lay_274 : decode cX7_lay 274 = .ok (.iaload, 1) := by decide +kernel
theorem dX7_lay_275 : decode cX7_lay 275 = .ok (.ifCond .le 48, 3) := by decide +kernel
theorem dX7_lay_278 : decode cX7_lay 278 = .ok (.bipush 14, 2) := by decide +kernel
theorem dX7_lay_280 : decode cX7_lay 280 = .ok (.iload 4, 2) := by decide +kernel
theorem dX7_lay_282 : decode cX7_lay 282 = .ok (.imul, 1) := by decide +kernel
theorem dX7_lay_283 : decode cX7_lay 283 = .ok (.istore 5, 2) := by decide +kernel
theorem dX7_lay_285 : decode cX7_lay 285 = .ok (.aload_n 0, 1) := by decide +kernel
theorem dX7_lay_286 : decode cX7_lay 286 = .ok (.getfield 32, 3) := by decide +kernel
theorem dX7_lay_289 : decode cX7_lay 289 = .ok (.iload 5, 2) := by decide +kernel
theorem dX7_lay_291 : decode cX7_lay 291 = .ok (.dup2, 1) := by decide +kernel
theorem dX7_lay_292 : decode cX7_lay 292 = .ok (.iaload, 1) := by decide +kernel
theorem dX7_lay_293 : decode cX7_lay 293 = .ok (.iconst 1, 1) := by decide +kernel
theorem dX7_lay_294 : decode cX7_lay 294 = .ok (.iadd, 1) := by decide +kernel
theorem dX7_lay_295 : decode cX7_lay 295 = .ok (.iastore, 1) := by decide +kernel
theorem dX7_lay_296 : decode cX7_lay 296 = .ok (.aload_n 0, 1) := by decide +kernel
theorem dX7_lay_297 : decode cX7_lay 297 = .ok (.getfield 32, 3) := by decide +kernel
theorem dX7_lay_300 : decode cX7_lay 300 = .ok (.iload 5, 2) := by decide +kernel
theorem dX7_lay_302 : decode cX7_lay 302 = .ok (.aload_n 0, 1) := by decide +kernel
theorem dX7_lay_303 : decode cX7_lay 303 = .ok (.getfield 32, 3) := by decide +kernel
theorem dX7_lay_306 : decode cX7_lay 306 = .ok (.iload 5, 2) := by decide +kernel
theorem dX7_lay_308 : decode cX7_lay 308 = .ok (.iaload, 1) := by decide +kernel
theorem dX7_lay_309 : decode cX7_lay 309 = .ok (.iadd, 1) := by decide +kernel
theorem dX7_lay_310 : decode cX7_lay 310 = .ok (.bipush 97, 2) := by decide +kernel
theorem dX7_lay_312 : decode cX7_lay 312 = .ok (.aload_n 0, 1) := by decide +kernel
theorem dX7_lay_313 : decode cX7_lay 313 = .ok (.getfield 35, 3) := by decide +kernel
theorem dX7_lay_316 : decode cX7_lay 316 = .ok (.iload 4, 2) := by decide +kernel
theorem dX7_lay_318 : decode cX7_lay 318 = .ok (.iaload, 1) := by decide +kernel
theorem dX7_lay_319 : decode cX7_lay 319 = .ok (.iadd, 1) := by decide +kernel
theorem dX7_lay_320 : decode cX7_lay 320 = .ok (.iconst 1, 1) := by decide +kernel
theorem dX7_lay_321 : decode cX7_lay 321 = .ok (.isub, 1) := by decide +kernel
theorem dX7_lay_322 : decode cX7_lay 322 = .ok (.iastore, 1) := by decide +kernel
theorem dX7_lay_323 : decode cX7_lay 323 = .ok (.iinc 4 1, 3) := by decide +kernel
theorem dX7_lay_326 : decode cX7_lay 326 = .ok (.goto (-64), 3) := by decide +kernel
theorem dX7_lay_329 : decode cX7_lay 329 = .ok (.return_, 1) := by decide +kernel
set_option maxRecDepth 20000 in
theorem ggX7_layWas_X7_layNow : GoodIn wsX7_layWas wsX7_layNow := goodIn_r _ [7, 8, 9, 10, 11, 6, 12, 13, 1, 14, 15, 16, 17, 18, 19, 20, 21, 22, 23, 24, 25, 26, 27, 28, 29, 30, 31, 32, 33, 34, 35, 36, 37, 38, 39, 40, 41, 42, 43, 44, 45, 46, 47, 48, 49, 50, 51, 52, 53, 54, 55, 56, 57, 58, 59, 60, 61, 62, 63, 64, 65, 66, 67, 68, 69, 70, 71] (by decide +kernel) (by decide +kernel)
set_option maxRecDepth 20000 in
theorem gX7_layWas_X7_layNow : GoodIn wsX7_layWas (wsV RX7 105 RX7 yX7_layNow wsX7_layNow) := goodIn_app (goodIn_of _ (by decide +kernel)) ggX7_layWas_X7_layNow
set_option maxRecDepth 20000 in
theorem ggX7_layWas_X7_copy : GoodIn wsX7_layWas wsX7_copy := goodIn_r _ [41] (by decide +kernel) (by decide +kernel)
set_option maxRecDepth 20000 in
theorem gX7_layWas_X7_copy : GoodIn wsX7_layWas (va_wsS RX7 63 yX7_copy wsX7_copy) := goodIn_app (goodIn_of _ (by decide +kernel)) ggX7_layWas_X7_copy
theorem dX7_layWas_0 : decode cX7_layWas 0 = .ok (.aload_n 0, 1) := by decide +kernel
theorem dX7_layWas_1 : decode cX7_layWas 1 = .ok (.invokevirtual 105, 3) := by decide +kernel
theorem dX7_layWas_4 : decode cX7_layWas 4 = .ok (.aload_n 0, 1) := by decide +kernel
theorem dX7_layWas_5 : decode cX7_layWas 5 = .ok (.getfield 32, 3) := by decide +kernel
theorem dX7_layWas_8 : decode cX7_layWas 8 = .ok (.iconst 0, 1) := by decide +kernel
theorem dX7_layWas_9 : decode cX7_layWas 9 = .ok (.aload_n 0, 1) := by decide +kernel
theorem dX7_layWas_10 : decode cX7_layWas 10 = .ok (.getfield 44, 3) := by decide +kernel
theorem dX7_layWas_13 : decode cX7_layWas 13 = .ok (.iconst 0, 1) := by decide +kernel
theorem dX7_layWas_14 : decode cX7_layWas 14 = .ok (.sipush 224, 3) := by decide +kernel
theorem dX7_layWas_17 : decode cX7_layWas 17 = .ok (.invokestatic 63, 3) := by decide +kernel
theorem dX7_layWas_20 : decode cX7_layWas 20 = .ok (.return_, 1) := by decide +kernel
set_option maxRecDepth 20000 in
theorem ggX7_layNow_X7_lay : GoodIn wsX7_layNow wsX7_lay := goodIn_r _ [6, 7, 8, 9, 10, 11, 12, 13, 14, 5, 15, 16, 17, 18, 19, 20, 21, 22, 23, 24, 25, 26, 27, 28, 29, 30, 31, 32, 33, 34, 35, 36, 37, 38, 39, 40, 41, 42, 43, 44, 45, 46, 47, 48, 49, 50, 51, 52, 53, 54, 55, 56, 57, 58, 59, 60, 61, 62, 63, 64, 65, 66] (by decide +kernel) (by decide +kernel)
set_option maxRecDepth 20000 in
theorem gX7_layNow_X7_lay : GoodIn wsX7_layNow (wsV RX7 108 RX7 yX7_lay wsX7_lay) := goodIn_app (goodIn_of _ (by decide +kernel)) ggX7_layNow_X7_lay
theorem dX7_layNow_0 : decode cX7_layNow 0 = .ok (.aload_n 0, 1) := by decide +kernel
theorem dX7_layNow_1 : decode cX7_layNow 1 = .ok (.aload_n 0, 1) := by decide +kernel
theorem dX7_layNow_2 : decode cX7_layNow 2 = .ok (.getfield 16, 3) := by decide +kernel
theorem dX7_layNow_5 : decode cX7_layNow 5 = .ok (.aload_n 0, 1) := by decide +kernel
theorem dX7_layNow_6 : decode cX7_layNow 6 = .ok (.getfield 16, 3) := by decide +kernel
theorem dX7_layNow_9 : decode cX7_layNow 9 = .ok (.iconst 1, 1) := by decide +kernel
theorem dX7_layNow_10 : decode cX7_layNow 10 = .ok (.iaload, 1) := by decide +kernel
theorem dX7_layNow_11 : decode cX7_layNow 11 = .ok (.invokevirtual 108, 3) := by decide +kernel
theorem dX7_layNow_14 : decode cX7_layNow 14 = .ok (.return_, 1) := by decide +kernel
set_option maxRecDepth 20000 in
theorem ggX7_others_X7_lay : GoodIn wsX7_others wsX7_lay := goodIn_r _ [7, 8, 1, 9, 10, 11, 12, 13, 14, 6, 15, 16, 17, 18, 19, 20, 21, 22, 23, 24, 25, 26, 27, 28, 29, 30, 31, 32, 33, 34, 35, 36, 37, 38, 39, 40, 41, 42, 43, 44, 45, 46, 47, 48, 49, 50, 51, 52, 53, 54, 55, 56, 57, 58, 59, 60, 61, 62, 63, 64, 65, 66] (by decide +kernel) (by decide +kernel)
set_option maxRecDepth 20000 in
theorem gX7_others_X7_lay : GoodIn wsX7_others (wsV RX7 108 RX7 yX7_lay wsX7_lay) := goodIn_app (goodIn_of _ (by decide +kernel)) ggX7_others_X7_lay
set_option maxRecDepth 20000 in
theorem ggX7_others_X7_areLike : GoodIn wsX7_others wsX7_areLike := goodIn_r _ [39] (by decide +kernel) (by decide +kernel)
set_option maxRecDepth 20000 in
theorem gX7_others_X7_areLike : GoodIn wsX7_others (va_wsS RX7 97 yX7_areLike wsX7_areLike) := goodIn_app (goodIn_of _ (by decide +kernel)) ggX7_others_X7_areLike
theorem dX7_others_0 : decode cX7_others 0 = .ok (.aload_n 0, 1) := by decide +kernel
theorem dX7_others_1 : decode cX7_others 1 = .ok (.aload_n 1, 1) := by decide +kernel
theorem dX7_others_2 : decode cX7_others 2 = .ok (.aload_n 1, 1) := by decide +kernel
theorem dX7_others_3 : decode cX7_others 3 = .ok (.iconst 1, 1) := by decide +kernel
theorem dX7_others_4 : decode cX7_others 4 = .ok (.iaload, 1) := by decide +kernel
theorem dX7_others_5 : decode cX7_others 5 = .ok (.invokevirtual 108, 3) := by decide +kernel
theorem dX7_others_8 : decode cX7_others 8 = .ok (.iconst 0, 1) := by decide +kernel
theorem dX7_others_9 : decode cX7_others 9 = .ok (.istore_n 3, 1) := by decide +kernel
theorem dX7_others_10 : decode cX7_others 10 = .ok (.iconst 0, 1) := by decide +kernel
theorem dX7_others_11 : decode cX7_others 11 = .ok (.istore 4, 2) := by decide +kernel
theorem dX7_others_13 : decode cX7_others 13 = .ok (.iload 4, 2) := by decide +kernel
theorem dX7_others_15 : decode cX7_others 15 = .ok (.aload_n 1, 1) := by decide +kernel
theorem dX7_others_16 : decode cX7_others 16 = .ok (.iconst 0, 1) := by decide +kernel
theorem dX7_others_17 : decode cX7_others 17 = .ok (.iaload, 1) := by decide +kernel
theorem dX7_others_18 : decode cX7_others 18 = .ok (.if_icmp .ge 87, 3) := by decide +kernel
theorem dX7_others_21 : decode cX7_others 21 = .ok (.iload_n 2, 1) := by decide +kernel
theorem dX7_others_22 : decode cX7_others 22 = .ok (.bipush (-9), 2) := by decide +kernel
theorem dX7_others_24 : decode cX7_others 24 = .ok (.if_icmp .eq 16, 3) := by decide +kernel
theorem dX7_others_27 : decode cX7_others 27 = .ok (.iload 4, 2) := by decide +kernel
theorem dX7_others_29 : decode cX7_others 29 = .ok (.iload_n 2, 1) := by decide +kernel
theorem dX7_others_30 : decode cX7_others 30 = .ok (.if_icmp .lt 10, 3) := by decide +kernel
theorem dX7_others_33 : decode cX7_others 33 = .ok (.iload 4, 2) := by decide +kernel
theorem dX7_others_35 : decode cX7_others 35 = .ok (.iconst 1, 1) := by decide +kernel
theorem dX7_others_36 : decode cX7_others 36 = .ok (.iadd, 1) := by decide +kernel
theorem dX7_others_37 : decode cX7_others 37 = .ok (.goto 5, 3) := by decide +kernel
theorem dX7_others_40 : decode cX7_others 40 = .ok (.iload 4, 2) := by decide +kernel
theorem dX7_others_42 : decode cX7_others 42 = .ok (.istore 5, 2) := by decide +kernel
theorem dX7_others_44 : decode cX7_others 44 = .ok (.iload_n 3, 1) := by decide +kernel
theorem dX7_others_45 : decode cX7_others 45 = .ok (.aload_n 0, 1) := by decide +kernel
theorem dX7_others_46 : decode cX7_others 46 = .ok (.getfield 32, 3) := by decide +kernel
theorem dX7_others_49 : decode cX7_others 49 = .ok (.bipush 14, 2) := by decide +kernel
theorem dX7_others_51 : decode cX7_others 51 = .ok (.iload 4, 2) := by decide +kernel
theorem dX7_others_53 : decode cX7_others 53 = .ok (.imul, 1) := by decide +kernel
theorem dX7_others_54 : decode cX7_others 54 = .ok (.iaload, 1) := by decide +kernel
theorem dX7_others_55 : decode cX7_others 55 = .ok (.aload_n 0, 1) := by decide +kernel
theorem dX7_others_56 : decode cX7_others 56 = .ok (.getfield 44, 3) := by decide +kernel
theorem dX7_others_59 : decode cX7_others 59 = .ok (.bipush 14, 2) := by decide +kernel
theorem dX7_others_61 : decode cX7_others 61 = .ok (.iload 5, 2) := by decide +kernel
theorem dX7_others_63 : decode cX7_others 63 = .ok (.imul, 1) := by decide +kernel
theorem dX7_others_64 : decode cX7_others 64 = .ok (.iaload, 1) := by decide +kernel
theorem dX7_others_65 : decode cX7_others 65 = .ok (.if_icmp .ne 31, 3) := by decide +kernel
theorem dX7_others_68 : decode cX7_others 68 = .ok (.aload_n 0, 1) := by decide +kernel
theorem dX7_others_69 : decode cX7_others 69 = .ok (.getfield 32, 3) := by decide +kernel
theorem dX7_others_72 : decode cX7_others 72 = .ok (.bipush 14, 2) := by decide +kernel
theorem dX7_others_74 : decode cX7_others 74 = .ok (.iload 4, 2) := by decide +kernel
theorem dX7_others_76 : decode cX7_others 76 = .ok (.imul, 1) := by decide +kernel
theorem dX7_others_77 : decode cX7_others 77 = .ok (.aload_n 0, 1) := by decide +kernel
theorem dX7_others_78 : decode cX7_others 78 = .ok (.getfield 44, 3) := by decide +kernel
theorem dX7_others_81 : decode cX7_others 81 = .ok (.bipush 14, 2) := by decide +kernel
theorem dX7_others_83 : decode cX7_others 83 = .ok (.iload 5, 2) := by decide +kernel
theorem dX7_others_85 : decode cX7_others 85 = .ok (.imul, 1) := by decide +kernel
theorem dX7_others_86 : decode cX7_others 86 = .ok (.invokestatic 97, 3) := by decide +kernel
theorem dX7_others_89 : decode cX7_others 89 = .ok (.ifCond .eq 7, 3) := by decide +kernel
theorem dX7_others_92 : decode cX7_others 92 = .ok (.iconst 0, 1) := by decide +kernel
theorem dX7_others_93 : decode cX7_others 93 = .ok (.goto 4, 3) := by decide +kernel
theorem dX7_others_96 : decode cX7_others 96 = .ok (.iconst 1, 1) := by decide +kernel
theorem dX7_others_97 : decode cX7_others 97 = .ok (.iadd, 1) := by decide +kernel
theorem dX7_others_98 : decode cX7_others 98 = .ok (.istore_n 3, 1) := by decide +kernel
theorem dX7_others_99 : decode cX7_others 99 = .ok (.iinc 4 1, 3) := by decide +kernel
theorem dX7_others_102 : decode cX7_others 102 = .ok (.goto (-89), 3) := by decide +kernel
theorem dX7_others_105 : decode cX7_others 105 = .ok (.iload_n 3, 1) := by decide +kernel
theorem dX7_others_106 : decode cX7_others 106 = .ok (.ireturn, 1) := by decide +kernel
theorem dX7_lettered_0 : decode cX7_lettered 0 = .ok (.iconst 0, 1) := by decide +kernel
theorem dX7_lettered_1 : decode cX7_lettered 1 = .ok (.istore_n 2, 1) := by decide +kernel
theorem dX7_lettered_2 : decode cX7_lettered 2 = .ok (.iconst 0, 1) := by decide +kernel
theorem dX7_lettered_3 : decode cX7_lettered 3 = .ok (.istore_n 3, 1) := by decide +kernel
theorem dX7_lettered_4 : decode cX7_lettered 4 = .ok (.iload_n 3, 1) := by decide +kernel
theorem dX7_lettered_5 : decode cX7_lettered 5 = .ok (.iload_n 1, 1) := by decide +kernel
theorem dX7_lettered_6 : decode cX7_lettered 6 = .ok (.if_icmp .ge 23, 3) := by decide +kernel
theorem dX7_lettered_9 : decode cX7_lettered 9 = .ok (.iload_n 2, 1) := by decide +kernel
theorem dX7_lettered_10 : decode cX7_lettered 10 = .ok (.aload_n 0, 1) := by decide +kernel
theorem dX7_lettered_11 : decode cX7_lettered 11 = .ok (.iload_n 3, 1) := by decide +kernel
theorem dX7_lettered_12 : decode cX7_lettered 12 = .ok (.iaload, 1) := by decide +kernel
theorem dX7_lettered_13 : decode cX7_lettered 13 = .ok (.ifCond .le 7, 3) := by decide +kernel
theorem dX7_lettered_16 : decode cX7_lettered 16 = .ok (.iconst 1, 1) := by decide +kernel
theorem dX7_lettered_17 : decode cX7_lettered 17 = .ok (.goto 4, 3) := by decide +kernel
theorem dX7_lettered_20 : decode cX7_lettered 20 = .ok (.iconst 0, 1) := by decide +kernel
theorem dX7_lettered_21 : decode cX7_lettered 21 = .ok (.iadd, 1) := by decide +kernel
theorem dX7_lettered_22 : decode cX7_lettered 22 = .ok (.istore_n 2, 1) := by decide +kernel
theorem dX7_lettered_23 : decode cX7_lettered 23 = .ok (.iinc 3 1, 3) := by decide +kernel
theorem dX7_lettered_26 : decode cX7_lettered 26 = .ok (.goto (-22), 3) := by decide +kernel
theorem dX7_lettered_29 : decode cX7_lettered 29 = .ok (.iload_n 2, 1) := by decide +kernel
theorem dX7_lettered_30 : decode cX7_lettered 30 = .ok (.ireturn, 1) := by decide +kernel
theorem dX7_longest_0 : decode cX7_longest 0 = .ok (.iconst 0, 1) := by decide +kernel
theorem dX7_longest_1 : decode cX7_longest 1 = .ok (.istore_n 2, 1) := by decide +kernel
theorem dX7_longest_2 : decode cX7_longest 2 = .ok (.iconst 0, 1) := by decide +kernel
theorem dX7_longest_3 : decode cX7_longest 3 = .ok (.istore_n 3, 1) := by decide +kernel
theorem dX7_longest_4 : decode cX7_longest 4 = .ok (.iload_n 3, 1) := by decide +kernel
theorem dX7_longest_5 : decode cX7_longest 5 = .ok (.iload_n 1, 1) := by decide +kernel
theorem dX7_longest_6 : decode cX7_longest 6 = .ok (.if_icmp .ge 36, 3) := by decide +kernel
theorem dX7_longest_9 : decode cX7_longest 9 = .ok (.aload_n 0, 1) := by decide +kernel
theorem dX7_longest_10 : decode cX7_longest 10 = .ok (.getfield 32, 3) := by decide +kernel
theorem dX7_longest_13 : decode cX7_longest 13 = .ok (.bipush 14, 2) := by decide +kernel
theorem dX7_longest_15 : decode cX7_longest 15 = .ok (.iload_n 3, 1) := by decide +kernel
theorem dX7_longest_16 : decode cX7_longest 16 = .ok (.imul, 1) := by decide +kernel
theorem dX7_longest_17 : decode cX7_longest 17 = .ok (.iaload, 1) := by decide +kernel
theorem dX7_longest_18 : decode cX7_longest 18 = .ok (.iload_n 2, 1) := by decide +kernel
theorem dX7_longest_19 : decode cX7_longest 19 = .ok (.if_icmp .le 15, 3) := by decide +kernel
theorem dX7_longest_22 : decode cX7_longest 22 = .ok (.aload_n 0, 1) := by decide +kernel
theorem dX7_longest_23 : decode cX7_longest 23 = .ok (.getfield 32, 3) := by decide +kernel
theorem dX7_longest_26 : decode cX7_longest 26 = .ok (.bipush 14, 2) := by decide +kernel
theorem dX7_longest_28 : decode cX7_longest 28 = .ok (.iload_n 3, 1) := by decide +kernel
theorem dX7_longest_29 : decode cX7_longest 29 = .ok (.imul, 1) := by decide +kernel
theorem dX7_longest_30 : decode cX7_longest 30 = .ok (.iaload, 1) := by decide +kernel
theorem dX7_longest_31 : decode cX7_longest 31 = .ok (.goto 4, 3) := by decide +kernel
theorem dX7_longest_34 : decode cX7_longest 34 = .ok (.iload_n 2, 1) := by decide +kernel
theorem dX7_longest_35 : decode cX7_longest 35 = .ok (.istore_n 2, 1) := by decide +kernel
theorem dX7_longest_36 : decode cX7_longest 36 = .ok (.iinc 3 1, 3) := by decide +kernel
theorem dX7_longest_39 : decode cX7_longest 39 = .ok (.goto (-35), 3) := by decide +kernel
theorem dX7_longest_42 : decode cX7_longest 42 = .ok (.iload_n 2, 1) := by decide +kernel
theorem dX7_longest_43 : decode cX7_longest 43 = .ok (.ireturn, 1) := by decide +kernel
set_option maxRecDepth 20000 in
theorem ggX7_drop_X7_cell : GoodIn wsX7_drop wsX7_cell := goodIn_r _ [4] (by decide +kernel) (by decide +kernel)
set_option maxRecDepth 20000 in
theorem gX7_drop_X7_cell : GoodIn wsX7_drop (va_wsS RX7 67 yX7_cell wsX7_cell) := goodIn_app (goodIn_of _ (by decide +kernel)) ggX7_drop_X7_cell
theorem dX7_drop_0 : decode cX7_drop 0 = .ok (.iload_n 1, 1) := by decide +kernel
theorem dX7_drop_1 : decode cX7_drop 1 = .ok (.iconst 0, 1) := by decide +kernel
