theorem dX7_drop_2 : decode cX7_drop 2 = .ok (.invokestatic 67, 3) := by decide +kernel
theorem dX7_drop_5 : decode cX7_drop 5 = .ok (.istore_n 2, 1) := by decide +kernel
theorem dX7_drop_6 : decode cX7_drop 6 = .ok (.iload_n 2, 1) := by decide +kernel
theorem dX7_drop_7 : decode cX7_drop 7 = .ok (.sipush 709, 3) := by decide +kernel
theorem dX7_drop_10 : decode cX7_drop 10 = .ok (.if_icmp .ge 18, 3) := by decide +kernel
theorem dX7_drop_13 : decode cX7_drop 13 = .ok (.aload_n 0, 1) := by decide +kernel
theorem dX7_drop_14 : decode cX7_drop 14 = .ok (.iload_n 2, 1) := by decide +kernel
theorem dX7_drop_15 : decode cX7_drop 15 = .ok (.aload_n 0, 1) := by decide +kernel
theorem dX7_drop_16 : decode cX7_drop 16 = .ok (.iload_n 2, 1) := by decide +kernel
theorem dX7_drop_17 : decode cX7_drop 17 = .ok (.bipush 47, 2) := by decide +kernel
theorem dX7_drop_19 : decode cX7_drop 19 = .ok (.iadd, 1) := by decide +kernel
theorem dX7_drop_20 : decode cX7_drop 20 = .ok (.iaload, 1) := by decide +kernel
theorem dX7_drop_21 : decode cX7_drop 21 = .ok (.iastore, 1) := by decide +kernel
theorem dX7_drop_22 : decode cX7_drop 22 = .ok (.iinc 2 1, 3) := by decide +kernel
theorem dX7_drop_25 : decode cX7_drop 25 = .ok (.goto (-19), 3) := by decide +kernel
theorem dX7_drop_28 : decode cX7_drop 28 = .ok (.aload_n 0, 1) := by decide +kernel
theorem dX7_drop_29 : decode cX7_drop 29 = .ok (.iconst 0, 1) := by decide +kernel
theorem dX7_drop_30 : decode cX7_drop 30 = .ok (.dup2, 1) := by decide +kernel
theorem dX7_drop_31 : decode cX7_drop 31 = .ok (.iaload, 1) := by decide +kernel
theorem dX7_drop_32 : decode cX7_drop 32 = .ok (.iconst 1, 1) := by decide +kernel
theorem dX7_drop_33 : decode cX7_drop 33 = .ok (.isub, 1) := by decide +kernel
theorem dX7_drop_34 : decode cX7_drop 34 = .ok (.iastore, 1) := by decide +kernel
theorem dX7_drop_35 : decode cX7_drop 35 = .ok (.iconst 0, 1) := by decide +kernel
theorem dX7_drop_36 : decode cX7_drop 36 = .ok (.istore_n 2, 1) := by decide +kernel
theorem dX7_drop_37 : decode cX7_drop 37 = .ok (.iload_n 2, 1) := by decide +kernel
theorem dX7_drop_38 : decode cX7_drop 38 = .ok (.aload_n 0, 1) := by decide +kernel
theorem dX7_drop_39 : decode cX7_drop 39 = .ok (.iconst 3, 1) := by decide +kernel
theorem dX7_drop_40 : decode cX7_drop 40 = .ok (.iaload, 1) := by decide +kernel
theorem dX7_drop_41 : decode cX7_drop 41 = .ok (.if_icmp .ge 54, 3) := by decide +kernel
theorem dX7_drop_44 : decode cX7_drop 44 = .ok (.sipush 756, 3) := by decide +kernel
theorem dX7_drop_47 : decode cX7_drop 47 = .ok (.bipush 14, 2) := by decide +kernel
theorem dX7_drop_49 : decode cX7_drop 49 = .ok (.iload_n 2, 1) := by decide +kernel
theorem dX7_drop_50 : decode cX7_drop 50 = .ok (.imul, 1) := by decide +kernel
theorem dX7_drop_51 : decode cX7_drop 51 = .ok (.iadd, 1) := by decide +kernel
theorem dX7_drop_52 : decode cX7_drop 52 = .ok (.bipush 13, 2) := by decide +kernel
theorem dX7_drop_54 : decode cX7_drop 54 = .ok (.iadd, 1) := by decide +kernel
theorem dX7_drop_55 : decode cX7_drop 55 = .ok (.istore_n 3, 1) := by decide +kernel
theorem dX7_drop_56 : decode cX7_drop 56 = .ok (.aload_n 0, 1) := by decide +kernel
theorem dX7_drop_57 : decode cX7_drop 57 = .ok (.iload_n 3, 1) := by decide +kernel
theorem dX7_drop_58 : decode cX7_drop 58 = .ok (.aload_n 0, 1) := by decide +kernel
theorem dX7_drop_59 : decode cX7_drop 59 = .ok (.iload_n 3, 1) := by decide +kernel
theorem dX7_drop_60 : decode cX7_drop 60 = .ok (.iaload, 1) := by decide +kernel
theorem dX7_drop_61 : decode cX7_drop 61 = .ok (.iload_n 1, 1) := by decide +kernel
theorem dX7_drop_62 : decode cX7_drop 62 = .ok (.if_icmp .ne 8, 3) := by decide +kernel
theorem dX7_drop_65 : decode cX7_drop 65 = .ok (.bipush (-2), 2) := by decide +kernel
theorem dX7_drop_67 : decode cX7_drop 67 = .ok (.goto 21, 3) := by decide +kernel
theorem dX7_drop_70 : decode cX7_drop 70 = .ok (.aload_n 0, 1) := by decide +kernel
theorem dX7_drop_71 : decode cX7_drop 71 = .ok (.iload_n 3, 1) := by decide +kernel
theorem dX7_drop_72 : decode cX7_drop 72 = .ok (.iaload, 1) := by decide +kernel
theorem dX7_drop_73 : decode cX7_drop 73 = .ok (.iload_n 1, 1) := by decide +kernel
theorem dX7_drop_74 : decode cX7_drop 74 = .ok (.if_icmp .le 11, 3) := by decide +kernel
theorem dX7_drop_77 : decode cX7_drop 77 = .ok (.aload_n 0, 1) := by decide +kernel
theorem dX7_drop_78 : decode cX7_drop 78 = .ok (.iload_n 3, 1) := by decide +kernel
theorem dX7_drop_79 : decode cX7_drop 79 = .ok (.iaload, 1) := by decide +kernel
theorem dX7_drop_80 : decode cX7_drop 80 = .ok (.iconst 1, 1) := by decide +kernel
theorem dX7_drop_81 : decode cX7_drop 81 = .ok (.isub, 1) := by decide +kernel
theorem dX7_drop_82 : decode cX7_drop 82 = .ok (.goto 6, 3) := by decide +kernel
theorem dX7_drop_85 : decode cX7_drop 85 = .ok (.aload_n 0, 1) := by decide +kernel
theorem dX7_drop_86 : decode cX7_drop 86 = .ok (.iload_n 3, 1) := by decide +kernel
theorem dX7_drop_87 : decode cX7_drop 87 = .ok (.iaload, 1) := by decide +kernel
theorem dX7_drop_88 : decode cX7_drop 88 = .ok (.iastore, 1) := by decide +kernel
theorem dX7_drop_89 : decode cX7_drop 89 = .ok (.iinc 2 1, 3) := by decide +kernel
theorem dX7_drop_92 : decode cX7_drop 92 = .ok (.goto (-55), 3) := by decide +kernel
theorem dX7_drop_95 : decode cX7_drop 95 = .ok (.return_, 1) := by decide +kernel
set_option maxRecDepth 20000 in
theorem ggX7_goPrint_X7_lay : GoodIn wsX7_goPrint wsX7_lay := goodIn_r _ [6, 7, 1, 8, 9, 10, 11, 12, 13, 5, 14, 15, 16, 17, 18, 19, 20, 21, 22, 23, 24, 25, 26, 27, 28, 29, 30, 31, 32, 33, 34, 35, 36, 37, 38, 39, 40, 41, 42, 43, 44, 45, 46, 47, 48, 49, 50, 51, 52, 53, 54, 55, 56, 57, 58, 59, 60, 61, 62, 63, 64, 65] (by decide +kernel) (by decide +kernel)
set_option maxRecDepth 20000 in
theorem gX7_goPrint_X7_lay : GoodIn wsX7_goPrint (wsV RX7 108 RX7 yX7_lay wsX7_lay) := goodIn_app (goodIn_of _ (by decide +kernel)) ggX7_goPrint_X7_lay
set_option maxRecDepth 20000 in
theorem ggX7_goPrint_X7_copy : GoodIn wsX7_goPrint wsX7_copy := goodIn_r _ [35] (by decide +kernel) (by decide +kernel)
set_option maxRecDepth 20000 in
theorem gX7_goPrint_X7_copy : GoodIn wsX7_goPrint (va_wsS RX7 63 yX7_copy wsX7_copy) := goodIn_app (goodIn_of _ (by decide +kernel)) ggX7_goPrint_X7_copy
theorem dX7_goPrint_0 : decode cX7_goPrint 0 = .ok (.aload_n 0, 1) := by decide +kernel
theorem dX7_goPrint_1 : decode cX7_goPrint 1 = .ok (.aload_n 1, 1) := by decide +kernel
theorem dX7_goPrint_2 : decode cX7_goPrint 2 = .ok (.aload_n 1, 1) := by decide +kernel
theorem dX7_goPrint_3 : decode cX7_goPrint 3 = .ok (.iconst 1, 1) := by decide +kernel
theorem dX7_goPrint_4 : decode cX7_goPrint 4 = .ok (.iaload, 1) := by decide +kernel
theorem dX7_goPrint_5 : decode cX7_goPrint 5 = .ok (.invokevirtual 108, 3) := by decide +kernel
theorem dX7_goPrint_8 : decode cX7_goPrint 8 = .ok (.aload_n 1, 1) := by decide +kernel
theorem dX7_goPrint_9 : decode cX7_goPrint 9 = .ok (.iconst 3, 1) := by decide +kernel
theorem dX7_goPrint_10 : decode cX7_goPrint 10 = .ok (.aload_n 1, 1) := by decide +kernel
theorem dX7_goPrint_11 : decode cX7_goPrint 11 = .ok (.iconst 0, 1) := by decide +kernel
theorem dX7_goPrint_12 : decode cX7_goPrint 12 = .ok (.iaload, 1) := by decide +kernel
theorem dX7_goPrint_13 : decode cX7_goPrint 13 = .ok (.iastore, 1) := by decide +kernel
theorem dX7_goPrint_14 : decode cX7_goPrint 14 = .ok (.iconst 0, 1) := by decide +kernel
theorem dX7_goPrint_15 : decode cX7_goPrint 15 = .ok (.istore_n 2, 1) := by decide +kernel
theorem dX7_goPrint_16 : decode cX7_goPrint 16 = .ok (.iload_n 2, 1) := by decide +kernel
theorem dX7_goPrint_17 : decode cX7_goPrint 17 = .ok (.aload_n 1, 1) := by decide +kernel
theorem dX7_goPrint_18 : decode cX7_goPrint 18 = .ok (.iconst 0, 1) := by decide +kernel
theorem dX7_goPrint_19 : decode cX7_goPrint 19 = .ok (.iaload, 1) := by decide +kernel
theorem dX7_goPrint_20 : decode cX7_goPrint 20 = .ok (.if_icmp .ge 45, 3) := by decide +kernel
theorem dX7_goPrint_23 : decode cX7_goPrint 23 = .ok (.aload_n 0, 1) := by decide +kernel
theorem dX7_goPrint_24 : decode cX7_goPrint 24 = .ok (.getfield 32, 3) := by decide +kernel
theorem dX7_goPrint_27 : decode cX7_goPrint 27 = .ok (.bipush 14, 2) := by decide +kernel
theorem dX7_goPrint_29 : decode cX7_goPrint 29 = .ok (.iload_n 2, 1) := by decide +kernel
theorem dX7_goPrint_30 : decode cX7_goPrint 30 = .ok (.imul, 1) := by decide +kernel
theorem dX7_goPrint_31 : decode cX7_goPrint 31 = .ok (.aload_n 1, 1) := by decide +kernel
theorem dX7_goPrint_32 : decode cX7_goPrint 32 = .ok (.sipush 756, 3) := by decide +kernel
theorem dX7_goPrint_35 : decode cX7_goPrint 35 = .ok (.bipush 14, 2) := by decide +kernel
theorem dX7_goPrint_37 : decode cX7_goPrint 37 = .ok (.iload_n 2, 1) := by decide +kernel
theorem dX7_goPrint_38 : decode cX7_goPrint 38 = .ok (.imul, 1) := by decide +kernel
theorem dX7_goPrint_39 : decode cX7_goPrint 39 = .ok (.iadd, 1) := by decide +kernel
theorem dX7_goPrint_40 : decode cX7_goPrint 40 = .ok (.bipush 13, 2) := by decide +kernel
theorem dX7_goPrint_42 : decode cX7_goPrint 42 = .ok (.invokestatic 63, 3) := by decide +kernel
theorem dX7_goPrint_45 : decode cX7_goPrint 45 = .ok (.aload_n 1, 1) := by decide +kernel
theorem dX7_goPrint_46 : decode cX7_goPrint 46 = .ok (.sipush 756, 3) := by decide +kernel
theorem dX7_goPrint_49 : decode cX7_goPrint 49 = .ok (.bipush 14, 2) := by decide +kernel
theorem dX7_goPrint_51 : decode cX7_goPrint 51 = .ok (.iload_n 2, 1) := by decide +kernel
theorem dX7_goPrint_52 : decode cX7_goPrint 52 = .ok (.imul, 1) := by decide +kernel
theorem dX7_goPrint_53 : decode cX7_goPrint 53 = .ok (.iadd, 1) := by decide +kernel
theorem dX7_goPrint_54 : decode cX7_goPrint 54 = .ok (.bipush 13, 2) := by decide +kernel
theorem dX7_goPrint_56 : decode cX7_goPrint 56 = .ok (.iadd, 1) := by decide +kernel
theorem dX7_goPrint_57 : decode cX7_goPrint 57 = .ok (.iload_n 2, 1) := by decide +kernel
theorem dX7_goPrint_58 : decode cX7_goPrint 58 = .ok (.iastore, 1) := by decide +kernel
theorem dX7_goPrint_59 : decode cX7_goPrint 59 = .ok (.iinc 2 1, 3) := by decide +kernel
theorem dX7_goPrint_62 : decode cX7_goPrint 62 = .ok (.goto (-46), 3) := by decide +kernel
theorem dX7_goPrint_65 : decode cX7_goPrint 65 = .ok (.return_, 1) := by decide +kernel
set_option maxRecDepth 20000 in
theorem ggX7_holder_X7_areLike : GoodIn wsX7_holder wsX7_areLike := goodIn_r _ [5] (by decide +kernel) (by decide +kernel)
set_option maxRecDepth 20000 in
theorem gX7_holder_X7_areLike : GoodIn wsX7_holder (va_wsS RX7 97 yX7_areLike wsX7_areLike) := goodIn_app (goodIn_of _ (by decide +kernel)) ggX7_holder_X7_areLike
theorem dX7_holder_0 : decode cX7_holder 0 = .ok (.iconst 0, 1) := by decide +kernel
theorem dX7_holder_1 : decode cX7_holder 1 = .ok (.istore_n 3, 1) := by decide +kernel
theorem dX7_holder_2 : decode cX7_holder 2 = .ok (.iload_n 3, 1) := by decide +kernel
theorem dX7_holder_3 : decode cX7_holder 3 = .ok (.aload_n 1, 1) := by decide +kernel
theorem dX7_holder_4 : decode cX7_holder 4 = .ok (.iconst 0, 1) := by decide +kernel
theorem dX7_holder_5 : decode cX7_holder 5 = .ok (.iaload, 1) := by decide +kernel
theorem dX7_holder_6 : decode cX7_holder 6 = .ok (.if_icmp .ge 56, 3) := by decide +kernel
theorem dX7_holder_9 : decode cX7_holder 9 = .ok (.aload_n 0, 1) := by decide +kernel
theorem dX7_holder_10 : decode cX7_holder 10 = .ok (.getfield 32, 3) := by decide +kernel
theorem dX7_holder_13 : decode cX7_holder 13 = .ok (.bipush 14, 2) := by decide +kernel
theorem dX7_holder_15 : decode cX7_holder 15 = .ok (.iload_n 3, 1) := by decide +kernel
theorem dX7_holder_16 : decode cX7_holder 16 = .ok (.imul, 1) := by decide +kernel
theorem dX7_holder_17 : decode cX7_holder 17 = .ok (.iaload, 1) := by decide +kernel
theorem dX7_holder_18 : decode cX7_holder 18 = .ok (.aload_n 1, 1) := by decide +kernel
theorem dX7_holder_19 : decode cX7_holder 19 = .ok (.sipush 756, 3) := by decide +kernel
theorem dX7_holder_22 : decode cX7_holder 22 = .ok (.bipush 14, 2) := by decide +kernel
theorem dX7_holder_24 : decode cX7_holder 24 = .ok (.iload_n 2, 1) := by decide +kernel
theorem dX7_holder_25 : decode cX7_holder 25 = .ok (.imul, 1) := by decide +kernel
theorem dX7_holder_26 : decode cX7_holder 26 = .ok (.iadd, 1) := by decide +kernel
theorem dX7_holder_27 : decode cX7_holder 27 = .ok (.iaload, 1) := by decide +kernel
theorem dX7_holder_28 : decode cX7_holder 28 = .ok (.if_icmp .ne 28, 3) := by decide +kernel
theorem dX7_holder_31 : decode cX7_holder 31 = .ok (.aload_n 0, 1) := by decide +kernel
theorem dX7_holder_32 : decode cX7_holder 32 = .ok (.getfield 32, 3) := by decide +kernel
theorem dX7_holder_35 : decode cX7_holder 35 = .ok (.bipush 14, 2) := by decide +kernel
theorem dX7_holder_37 : decode cX7_holder 37 = .ok (.iload_n 3, 1) := by decide +kernel
theorem dX7_holder_38 : decode cX7_holder 38 = .ok (.imul, 1) := by decide +kernel
theorem dX7_holder_39 : decode cX7_holder 39 = .ok (.aload_n 1, 1) := by decide +kernel
theorem dX7_holder_40 : decode cX7_holder 40 = .ok (.sipush 756, 3) := by decide +kernel
theorem dX7_holder_43 : decode cX7_holder 43 = .ok (.bipush 14, 2) := by decide +kernel
theorem dX7_holder_45 : decode cX7_holder 45 = .ok (.iload_n 2, 1) := by decide +kernel
theorem dX7_holder_46 : decode cX7_holder 46 = .ok (.imul, 1) := by decide +kernel
theorem dX7_holder_47 : decode cX7_holder 47 = .ok (.iadd, 1) := by decide +kernel
theorem dX7_holder_48 : decode cX7_holder 48 = .ok (.invokestatic 97, 3) := by decide +kernel
theorem dX7_holder_51 : decode cX7_holder 51 = .ok (.ifCond .eq 5, 3) := by decide +kernel
theorem dX7_holder_54 : decode cX7_holder 54 = .ok (.iload_n 3, 1) := by decide +kernel
theorem dX7_holder_55 : decode cX7_holder 55 = .ok (.ireturn, 1) := by decide +kernel
theorem dX7_holder_56 : decode cX7_holder 56 = .ok (.iinc 3 1, 3) := by decide +kernel
theorem dX7_holder_59 : decode cX7_holder 59 = .ok (.goto (-57), 3) := by decide +kernel
theorem dX7_holder_62 : decode cX7_holder 62 = .ok (.bipush (-9), 2) := by decide +kernel
theorem dX7_holder_64 : decode cX7_holder 64 = .ok (.ireturn, 1) := by decide +kernel
set_option maxRecDepth 20000 in
theorem ggX7_printedOf_X7_lay : GoodIn wsX7_printedOf wsX7_lay := goodIn_r _ [5, 6, 7, 8, 9, 10, 11, 12, 13, 4, 14, 15, 16, 17, 18, 19, 20, 21, 22, 23, 24, 25, 26, 27, 28, 29, 30, 31, 32, 33, 34, 35, 36, 37, 38, 39, 40, 41, 42, 43, 44, 45, 46, 47, 52, 53, 54, 55, 56, 57, 58, 59, 60, 61, 62, 63, 64, 65, 66, 67, 68, 69] (by decide +kernel) (by decide +kernel)
set_option maxRecDepth 20000 in
theorem gX7_printedOf_X7_lay : GoodIn wsX7_printedOf (wsV RX7 108 RX7 yX7_lay wsX7_lay) := goodIn_app (goodIn_of _ (by decide +kernel)) ggX7_printedOf_X7_lay
set_option maxRecDepth 20000 in
theorem ggX7_printedOf_X7_holder : GoodIn wsX7_printedOf wsX7_holder := goodIn_r _ [51, 7, 36, 37, 4, 38, 52, 53, 54, 55, 56, 57, 58, 59, 60, 61, 62, 63, 64, 65, 66, 67, 68, 69] (by decide +kernel) (by decide +kernel)
set_option maxRecDepth 20000 in
theorem gX7_printedOf_X7_holder : GoodIn wsX7_printedOf (wsV RX7 112 RX7 yX7_holder wsX7_holder) := goodIn_app (goodIn_of _ (by decide +kernel)) ggX7_printedOf_X7_holder
theorem dX7_printedOf_0 : decode cX7_printedOf 0 = .ok (.aload_n 0, 1) := by decide +kernel
theorem dX7_printedOf_1 : decode cX7_printedOf 1 = .ok (.aload_n 1, 1) := by decide +kernel
theorem dX7_printedOf_2 : decode cX7_printedOf 2 = .ok (.aload_n 1, 1) := by decide +kernel
theorem dX7_printedOf_3 : decode cX7_printedOf 3 = .ok (.iconst 1, 1) := by decide +kernel
theorem dX7_printedOf_4 : decode cX7_printedOf 4 = .ok (.iaload, 1) := by decide +kernel
theorem dX7_printedOf_5 : decode cX7_printedOf 5 = .ok (.invokevirtual 108, 3) := by decide +kernel
theorem dX7_printedOf_8 : decode cX7_printedOf 8 = .ok (.iconst 0, 1) := by decide +kernel
theorem dX7_printedOf_9 : decode cX7_printedOf 9 = .ok (.istore_n 3, 1) := by decide +kernel
theorem dX7_printedOf_10 : decode cX7_printedOf 10 = .ok (.iconst 0, 1) := by decide +kernel
theorem dX7_printedOf_11 : decode cX7_printedOf 11 = .ok (.istore 4, 2) := by decide +kernel
theorem dX7_printedOf_13 : decode cX7_printedOf 13 = .ok (.iload 4, 2) := by decide +kernel
theorem dX7_printedOf_15 : decode cX7_printedOf 15 = .ok (.aload_n 1, 1) := by decide +kernel
theorem dX7_printedOf_16 : decode cX7_printedOf 16 = .ok (.iconst 3, 1) := by decide +kernel
theorem dX7_printedOf_17 : decode cX7_printedOf 17 = .ok (.iaload, 1) := by decide +kernel
theorem dX7_printedOf_18 : decode cX7_printedOf 18 = .ok (.if_icmp .ge 69, 3) := by decide +kernel
theorem dX7_printedOf_21 : decode cX7_printedOf 21 = .ok (.aload_n 0, 1) := by decide +kernel
theorem dX7_printedOf_22 : decode cX7_printedOf 22 = .ok (.aload_n 1, 1) := by decide +kernel
theorem dX7_printedOf_23 : decode cX7_printedOf 23 = .ok (.iload 4, 2) := by decide +kernel
theorem dX7_printedOf_25 : decode cX7_printedOf 25 = .ok (.invokevirtual 112, 3) := by decide +kernel
theorem dX7_printedOf_28 : decode cX7_printedOf 28 = .ok (.istore 5, 2) := by decide +kernel
theorem dX7_printedOf_30 : decode cX7_printedOf 30 = .ok (.iload 5, 2) := by decide +kernel
theorem dX7_printedOf_32 : decode cX7_printedOf 32 = .ok (.bipush (-9), 2) := by decide +kernel
theorem dX7_printedOf_34 : decode cX7_printedOf 34 = .ok (.if_icmp .ne 7, 3) := by decide +kernel
theorem dX7_printedOf_37 : decode cX7_printedOf 37 = .ok (.iconst 1, 1) := by decide +kernel
theorem dX7_printedOf_38 : decode cX7_printedOf 38 = .ok (.goto 27, 3) := by decide +kernel
theorem dX7_printedOf_41 : decode cX7_printedOf 41 = .ok (.iload 5, 2) := by decide +kernel
theorem dX7_printedOf_43 : decode cX7_printedOf 43 = .ok (.aload_n 1, 1) := by decide +kernel
theorem dX7_printedOf_44 : decode cX7_printedOf 44 = .ok (.sipush 756, 3) := by decide +kernel
theorem dX7_printedOf_47 : decode cX7_printedOf 47 = .ok (.bipush 14, 2) := by decide +kernel
theorem dX7_printedOf_49 : decode cX7_printedOf 49 = .ok (.iload 4, 2) := by decide +kernel
theorem dX7_printedOf_51 : decode cX7_printedOf 51 = .ok (.imul, 1) := by decide +kernel
theorem dX7_printedOf_52 : decode cX7_printedOf 52 = .ok (.iadd, 1) := by decide +kernel
theorem dX7_printedOf_53 : decode cX7_printedOf 53 = .ok (.bipush 13, 2) := by decide +kernel
theorem dX7_printedOf_55 : decode cX7_printedOf 55 = .ok (.iadd, 1) := by decide +kernel
theorem dX7_printedOf_56 : decode cX7_printedOf 56 = .ok (.iaload, 1) := by decide +kernel
theorem dX7_printedOf_57 : decode cX7_printedOf 57 = .ok (.if_icmp .ne 7, 3) := by decide +kernel
theorem dX7_printedOf_60 : decode cX7_printedOf 60 = .ok (.iconst 2, 1) := by decide +kernel
theorem dX7_printedOf_61 : decode cX7_printedOf 61 = .ok (.goto 4, 3) := by decide +kernel
theorem dX7_printedOf_64 : decode cX7_printedOf 64 = .ok (.iconst 0, 1) := by decide +kernel
theorem dX7_printedOf_65 : decode cX7_printedOf 65 = .ok (.istore 6, 2) := by decide +kernel
theorem dX7_printedOf_67 : decode cX7_printedOf 67 = .ok (.iload_n 3, 1) := by decide +kernel
theorem dX7_printedOf_68 : decode cX7_printedOf 68 = .ok (.iload 6, 2) := by decide +kernel
theorem dX7_printedOf_70 : decode cX7_printedOf 70 = .ok (.iload_n 2, 1) := by decide +kernel
theorem dX7_printedOf_71 : decode cX7_printedOf 71 = .ok (.if_icmp .ne 7, 3) := by decide +kernel
theorem dX7_printedOf_74 : decode cX7_printedOf 74 = .ok (.iconst 1, 1) := by decide +kernel
theorem dX7_printedOf_75 : decode cX7_printedOf 75 = .ok (.goto 4, 3) := by decide +kernel
theorem dX7_printedOf_78 : decode cX7_printedOf 78 = .ok (.iconst 0, 1) := by decide +kernel
theorem dX7_printedOf_79 : decode cX7_printedOf 79 = .ok (.iadd, 1) := by decide +kernel
theorem dX7_printedOf_80 : decode cX7_printedOf 80 = .ok (.istore_n 3, 1) := by decide +kernel
theorem dX7_printedOf_81 : decode cX7_printedOf 81 = .ok (.iinc 4 1, 3) := by decide +kernel
theorem dX7_printedOf_84 : decode cX7_printedOf 84 = .ok (.goto (-71), 3) := by decide +kernel
theorem dX7_printedOf_87 : decode cX7_printedOf 87 = .ok (.iload_n 3, 1) := by decide +kernel
theorem dX7_printedOf_88 : decode cX7_printedOf 88 = .ok (.ireturn, 1) := by decide +kernel
set_option maxRecDepth 20000 in
theorem ggX7_append_X7_in : GoodIn wsX7_append wsX7_in := goodIn_r _ [7] (by decide +kernel) (by decide +kernel)
set_option maxRecDepth 20000 in
theorem gX7_append_X7_in : GoodIn wsX7_append (va_wsS RX7 118 yX7_in wsX7_in) := goodIn_app (goodIn_of _ (by decide +kernel)) ggX7_append_X7_in
set_option maxRecDepth 20000 in
theorem ggX7_append_X7_refused : GoodIn wsX7_append wsX7_refused := goodIn_r _ [11, 12, 13, 14, 15, 16, 17, 18, 19, 20, 21, 22, 23, 24, 25, 26, 27, 28, 29, 30] (by decide +kernel) (by decide +kernel)
set_option maxRecDepth 20000 in
theorem gX7_append_X7_refused : GoodIn wsX7_append (wsV RX7 125 RX7 yX7_refused wsX7_refused) := goodIn_app (goodIn_of _ (by decide +kernel)) ggX7_append_X7_refused
theorem dX7_append_0 : decode cX7_append 0 = .ok (.aload_n 0, 1) := by decide +kernel
theorem dX7_append_1 : decode cX7_append 1 = .ok (.iload_n 1, 1) := by decide +kernel
theorem dX7_append_2 : decode cX7_append 2 = .ok (.i2l, 1) := by decide +kernel
theorem dX7_append_3 : decode cX7_append 3 = .ok (.lconst 0, 1) := by decide +kernel
theorem dX7_append_4 : decode cX7_append 4 = .ok (.ldc2_w 116, 3) := by decide +kernel
theorem dX7_append_7 : decode cX7_append 7 = .ok (.invokestatic 118, 3) := by decide +kernel
theorem dX7_append_10 : decode cX7_append 10 = .ok (.ifCond .ne 7, 3) := by decide +kernel
theorem dX7_append_13 : decode cX7_append 13 = .ok (.iconst 1, 1) := by decide +kernel
theorem dX7_append_14 : decode cX7_append 14 = .ok (.goto 17, 3) := by decide +kernel
theorem dX7_append_17 : decode cX7_append 17 = .ok (.aload_n 0, 1) := by decide +kernel
theorem dX7_append_18 : decode cX7_append 18 = .ok (.getfield 122, 3) := by decide +kernel
theorem dX7_append_21 : decode cX7_append 21 = .ok (.bipush 100, 2) := by decide +kernel
theorem dX7_append_23 : decode cX7_append 23 = .ok (.if_icmp .ne 7, 3) := by decide +kernel
theorem dX7_append_26 : decode cX7_append 26 = .ok (.iconst 2, 1) := by decide +kernel
theorem dX7_append_27 : decode cX7_append 27 = .ok (.goto 4, 3) := by decide +kernel
theorem dX7_append_30 : decode cX7_append 30 = .ok (.iconst 0, 1) := by decide +kernel
theorem dX7_append_31 : decode cX7_append 31 = .ok (.invokevirtual 125, 3) := by decide +kernel
theorem dX7_append_34 : decode cX7_append 34 = .ok (.ifCond .eq 5, 3) := by decide +kernel
theorem dX7_append_37 : decode cX7_append 37 = .ok (.iconst 0, 1) := by decide +kernel
theorem dX7_append_38 : decode cX7_append 38 = .ok (.ireturn, 1) := by decide +kernel
theorem dX7_append_39 : decode cX7_append 39 = .ok (.aload_n 0, 1) := by decide +kernel
theorem dX7_append_40 : decode cX7_append 40 = .ok (.getfield 7, 3) := by decide +kernel
theorem dX7_append_43 : decode cX7_append 43 = .ok (.aload_n 0, 1) := by decide +kernel
theorem dX7_append_44 : decode cX7_append 44 = .ok (.getfield 122, 3) := by decide +kernel
theorem dX7_append_47 : decode cX7_append 47 = .ok (.iload_n 1, 1) := by decide +kernel
theorem dX7_append_48 : decode cX7_append 48 = .ok (.iastore, 1) := by decide +kernel
theorem dX7_append_49 : decode cX7_append 49 = .ok (.aload_n 0, 1) := by decide +kernel
theorem dX7_append_50 : decode cX7_append 50 = .ok (.dup, 1) := by decide +kernel
theorem dX7_append_51 : decode cX7_append 51 = .ok (.getfield 122, 3) := by decide +kernel
theorem dX7_append_54 : decode cX7_append 54 = .ok (.iconst 1, 1) := by decide +kernel
theorem dX7_append_55 : decode cX7_append 55 = .ok (.iadd, 1) := by decide +kernel
theorem dX7_append_56 : decode cX7_append 56 = .ok (.putfield 122, 3) := by decide +kernel
theorem dX7_append_59 : decode cX7_append 59 = .ok (.aload_n 0, 1) := by decide +kernel
theorem dX7_append_60 : decode cX7_append 60 = .ok (.getfield 122, 3) := by decide +kernel
theorem dX7_append_63 : decode cX7_append 63 = .ok (.ireturn, 1) := by decide +kernel
theorem dX7_clearText_0 : decode cX7_clearText 0 = .ok (.aload_n 0, 1) := by decide +kernel
theorem dX7_clearText_1 : decode cX7_clearText 1 = .ok (.iconst 0, 1) := by decide +kernel
theorem dX7_clearText_2 : decode cX7_clearText 2 = .ok (.putfield 54, 3) := by decide +kernel
theorem dX7_clearText_5 : decode cX7_clearText 5 = .ok (.aload_n 0, 1) := by decide +kernel
theorem dX7_clearText_6 : decode cX7_clearText 6 = .ok (.getfield 122, 3) := by decide +kernel
theorem dX7_clearText_9 : decode cX7_clearText 9 = .ok (.istore_n 1, 1) := by decide +kernel
theorem dX7_clearText_10 : decode cX7_clearText 10 = .ok (.aload_n 0, 1) := by decide +kernel
theorem dX7_clearText_11 : decode cX7_clearText 11 = .ok (.iconst 0, 1) := by decide +kernel
theorem dX7_clearText_12 : decode cX7_clearText 12 = .ok (.putfield 122, 3) := by decide +kernel
theorem dX7_clearText_15 : decode cX7_clearText 15 = .ok (.iload_n 1, 1) := by decide +kernel
theorem dX7_clearText_16 : decode cX7_clearText 16 = .ok (.ireturn, 1) := by decide +kernel
theorem dX7_isNext_0 : decode cX7_isNext 0 = .ok (.aload_n 0, 1) := by decide +kernel
theorem dX7_isNext_1 : decode cX7_isNext 1 = .ok (.getfield 129, 3) := by decide +kernel
theorem dX7_isNext_4 : decode cX7_isNext 4 = .ok (.aload_n 0, 1) := by decide +kernel
theorem dX7_isNext_5 : decode cX7_isNext 5 = .ok (.getfield 122, 3) := by decide +kernel
theorem dX7_isNext_8 : decode cX7_isNext 8 = .ok (.if_icmp .ge 20, 3) := by decide +kernel
theorem dX7_isNext_11 : decode cX7_isNext 11 = .ok (.aload_n 0, 1) := by decide +kernel
theorem dX7_isNext_12 : decode cX7_isNext 12 = .ok (.getfield 7, 3) := by decide +kernel
theorem dX7_isNext_15 : decode cX7_isNext 15 = .ok (.aload_n 0, 1) := by decide +kernel
theorem dX7_isNext_16 : decode cX7_isNext 16 = .ok (.getfield 129, 3) := by decide +kernel
theorem dX7_isNext_19 : decode cX7_isNext 19 = .ok (.iaload, 1) := by decide +kernel
theorem dX7_isNext_20 : decode cX7_isNext 20 = .ok (.iload_n 1, 1) := by decide +kernel
theorem dX7_isNext_21 : decode cX7_isNext 21 = .ok (.if_icmp .ne 7, 3) := by decide +kernel
theorem dX7_isNext_24 : decode cX7_isNext 24 = .ok (.iconst 1, 1) := by decide +kernel
theorem dX7_isNext_25 : decode cX7_isNext 25 = .ok (.goto 4, 3) := by decide +kernel
theorem dX7_isNext_28 : decode cX7_isNext 28 = .ok (.iconst 0, 1) := by decide +kernel
theorem dX7_isNext_29 : decode cX7_isNext 29 = .ok (.ireturn, 1) := by decide +kernel
set_option maxRecDepth 20000 in
theorem ggX7_isLetter_X7_in : GoodIn wsX7_isLetter wsX7_in := goodIn_r _ [9] (by decide +kernel) (by decide +kernel)
set_option maxRecDepth 20000 in
theorem gX7_isLetter_X7_in : GoodIn wsX7_isLetter (va_wsS RX7 118 yX7_in wsX7_in) := goodIn_app (goodIn_of _ (by decide +kernel)) ggX7_isLetter_X7_in
theorem dX7_isLetter_0 : decode cX7_isLetter 0 = .ok (.aload_n 0, 1) := by decide +kernel
theorem dX7_isLetter_1 : decode cX7_isLetter 1 = .ok (.getfield 129, 3) := by decide +kernel
theorem dX7_isLetter_4 : decode cX7_isLetter 4 = .ok (.aload_n 0, 1) := by decide +kernel
theorem dX7_isLetter_5 : decode cX7_isLetter 5 = .ok (.getfield 122, 3) := by decide +kernel
theorem dX7_isLetter_8 : decode cX7_isLetter 8 = .ok (.if_icmp .ge 29, 3) := by decide +kernel
theorem dX7_isLetter_11 : decode cX7_isLetter 11 = .ok (.aload_n 0, 1) := by decide +kernel
theorem dX7_isLetter_12 : decode cX7_isLetter 12 = .ok (.getfield 7, 3) := by decide +kernel
theorem dX7_isLetter_15 : decode cX7_isLetter 15 = .ok (.aload_n 0, 1) := by decide +kernel
theorem dX7_isLetter_16 : decode cX7_isLetter 16 = .ok (.getfield 129, 3) := by decide +kernel
theorem dX7_isLetter_19 : decode cX7_isLetter 19 = .ok (.iaload, 1) := by decide +kernel
theorem dX7_isLetter_20 : decode cX7_isLetter 20 = .ok (.i2l, 1) := by decide +kernel
theorem dX7_isLetter_21 : decode cX7_isLetter 21 = .ok (.ldc2_w 132, 3) := by decide +kernel
theorem dX7_isLetter_24 : decode cX7_isLetter 24 = .ok (.ldc2_w 134, 3) := by decide +kernel
theorem dX7_isLetter_27 : decode cX7_isLetter 27 = .ok (.invokestatic 118, 3) := by decide +kernel
theorem dX7_isLetter_30 : decode cX7_isLetter 30 = .ok (.ifCond .eq 7, 3) := by decide +kernel
theorem dX7_isLetter_33 : decode cX7_isLetter 33 = .ok (.iconst 1, 1) := by decide +kernel
theorem dX7_isLetter_34 : decode cX7_isLetter 34 = .ok (.goto 4, 3) := by decide +kernel
theorem dX7_isLetter_37 : decode cX7_isLetter 37 = .ok (.iconst 0, 1) := by decide +kernel
theorem dX7_isLetter_38 : decode cX7_isLetter 38 = .ok (.ireturn, 1) := by decide +kernel
theorem dX7_accept_0 : decode cX7_accept 0 = .ok (.aload_n 0, 1) := by decide +kernel
theorem dX7_accept_1 : decode cX7_accept 1 = .ok (.aload_n 0, 1) := by decide +kernel
theorem dX7_accept_2 : decode cX7_accept 2 = .ok (.getfield 136, 3) := by decide +kernel
theorem dX7_accept_5 : decode cX7_accept 5 = .ok (.ifCond .eq 11, 3) := by decide +kernel
theorem dX7_accept_8 : decode cX7_accept 8 = .ok (.iload_n 1, 1) := by decide +kernel
theorem dX7_accept_9 : decode cX7_accept 9 = .ok (.ifCond .eq 7, 3) := by decide +kernel
theorem dX7_accept_12 : decode cX7_accept 12 = .ok (.iconst 1, 1) := by decide +kernel
theorem dX7_accept_13 : decode cX7_accept 13 = .ok (.goto 4, 3) := by decide +kernel
theorem dX7_accept_16 : decode cX7_accept 16 = .ok (.iconst 0, 1) := by decide +kernel
theorem dX7_accept_17 : decode cX7_accept 17 = .ok (.putfield 136, 3) := by decide +kernel
theorem dX7_accept_20 : decode cX7_accept 20 = .ok (.aload_n 0, 1) := by decide +kernel
theorem dX7_accept_21 : decode cX7_accept 21 = .ok (.dup, 1) := by decide +kernel
theorem dX7_accept_22 : decode cX7_accept 22 = .ok (.getfield 129, 3) := by decide +kernel
theorem dX7_accept_25 : decode cX7_accept 25 = .ok (.aload_n 0, 1) := by decide +kernel
theorem dX7_accept_26 : decode cX7_accept 26 = .ok (.getfield 136, 3) := by decide +kernel
theorem dX7_accept_29 : decode cX7_accept 29 = .ok (.ifCond .eq 7, 3) := by decide +kernel
theorem dX7_accept_32 : decode cX7_accept 32 = .ok (.iconst 1, 1) := by decide +kernel
theorem dX7_accept_33 : decode cX7_accept 33 = .ok (.goto 4, 3) := by decide +kernel
theorem dX7_accept_36 : decode cX7_accept 36 = .ok (.iconst 0, 1) := by decide +kernel
theorem dX7_accept_37 : decode cX7_accept 37 = .ok (.iadd, 1) := by decide +kernel
theorem dX7_accept_38 : decode cX7_accept 38 = .ok (.putfield 129, 3) := by decide +kernel
theorem dX7_accept_41 : decode cX7_accept 41 = .ok (.return_, 1) := by decide +kernel
set_option maxRecDepth 20000 in
theorem ggX7_readName_X7_isLetter : GoodIn wsX7_readName wsX7_isLetter := goodIn_r _ [9, 4, 10, 3, 11, 12, 13, 14, 8, 15, 20, 21, 22, 23, 24, 25, 26, 27, 28, 29, 30, 31, 32, 33, 34, 35, 36, 37] (by decide +kernel) (by decide +kernel)
set_option maxRecDepth 20000 in
theorem gX7_readName_X7_isLetter : GoodIn wsX7_readName (wsV RX7 140 RX7 yX7_isLetter wsX7_isLetter) := goodIn_app (goodIn_of _ (by decide +kernel)) ggX7_readName_X7_isLetter
set_option maxRecDepth 20000 in
theorem ggX7_readName_X7_accept : GoodIn wsX7_readName wsX7_accept := goodIn_r _ [19, 2, 4, 20, 21, 22, 23, 24, 25, 26, 27, 28, 29, 30, 31, 32, 33, 34, 35, 36, 37] (by decide +kernel) (by decide +kernel)
set_option maxRecDepth 20000 in
theorem gX7_readName_X7_accept : GoodIn wsX7_readName (wsV RX7 144 RX7 yX7_accept wsX7_accept) := goodIn_app (goodIn_of _ (by decide +kernel)) ggX7_readName_X7_accept
theorem dX7_readName_0 : decode cX7_readName 0 = .ok (.aload_n 0, 1) := by decide +kernel
theorem dX7_readName_1 : decode cX7_readName 1 = .ok (.getfield 13, 3) := by decide +kernel
theorem dX7_readName_4 : decode cX7_readName 4 = .ok (.iload_n 1, 1) := by decide +kernel
theorem dX7_readName_5 : decode cX7_readName 5 = .ok (.iconst 0, 1) := by decide +kernel
theorem dX7_readName_6 : decode cX7_readName 6 = .ok (.iastore, 1) := by decide +kernel
theorem dX7_readName_7 : decode cX7_readName 7 = .ok (.aload_n 0, 1) := by decide +kernel
theorem dX7_readName_8 : decode cX7_readName 8 = .ok (.invokevirtual 140, 3) := by decide +kernel
theorem dX7_readName_11 : decode cX7_readName 11 = .ok (.ifCond .ne 8, 3) := by decide +kernel
theorem dX7_readName_14 : decode cX7_readName 14 = .ok (.aload_n 0, 1) := by decide +kernel
theorem dX7_readName_15 : decode cX7_readName 15 = .ok (.iconst 0, 1) := by decide +kernel
theorem dX7_readName_16 : decode cX7_readName 16 = .ok (.invokevirtual 144, 3) := by decide +kernel
theorem dX7_readName_19 : decode cX7_readName 19 = .ok (.aload_n 0, 1) := by decide +kernel
theorem dX7_readName_20 : decode cX7_readName 20 = .ok (.getfield 136, 3) := by decide +kernel
theorem dX7_readName_23 : decode cX7_readName 23 = .ok (.ifCond .eq 66, 3) := by decide +kernel
theorem dX7_readName_26 : decode cX7_readName 26 = .ok (.aload_n 0, 1) := by decide +kernel
theorem dX7_readName_27 : decode cX7_readName 27 = .ok (.getfield 13, 3) := by decide +kernel
theorem dX7_readName_30 : decode cX7_readName 30 = .ok (.iload_n 1, 1) := by decide +kernel
theorem dX7_readName_31 : decode cX7_readName 31 = .ok (.iaload, 1) := by decide +kernel
theorem dX7_readName_32 : decode cX7_readName 32 = .ok (.bipush 8, 2) := by decide +kernel
theorem dX7_readName_34 : decode cX7_readName 34 = .ok (.if_icmp .ge 55, 3) := by decide +kernel
theorem dX7_readName_37 : decode cX7_readName 37 = .ok (.aload_n 0, 1) := by decide +kernel
theorem dX7_readName_38 : decode cX7_readName 38 = .ok (.invokevirtual 140, 3) := by decide +kernel
theorem dX7_readName_41 : decode cX7_readName 41 = .ok (.ifCond .eq 48, 3) := by decide +kernel
theorem dX7_readName_44 : decode cX7_readName 44 = .ok (.aload_n 0, 1) := by decide +kernel
theorem dX7_readName_45 : decode cX7_readName 45 = .ok (.getfield 13, 3) := by decide +kernel
theorem dX7_readName_48 : decode cX7_readName 48 = .ok (.iload_n 1, 1) := by decide +kernel
theorem dX7_readName_49 : decode cX7_readName 49 = .ok (.dup2, 1) := by decide +kernel
theorem dX7_readName_50 : decode cX7_readName 50 = .ok (.iaload, 1) := by decide +kernel
theorem dX7_readName_51 : decode cX7_readName 51 = .ok (.iconst 1, 1) := by decide +kernel
theorem dX7_readName_52 : decode cX7_readName 52 = .ok (.iadd, 1) := by decide +kernel
theorem dX7_readName_53 : decode cX7_readName 53 = .ok (.iastore, 1) := by decide +kernel
theorem dX7_readName_54 : decode cX7_readName 54 = .ok (.aload_n 0, 1) := by decide +kernel
theorem dX7_readName_55 : decode cX7_readName 55 = .ok (.getfield 13, 3) := by decide +kernel
theorem dX7_readName_58 : decode cX7_readName 58 = .ok (.iload_n 1, 1) := by decide +kernel
theorem dX7_readName_59 : decode cX7_readName 59 = .ok (.aload_n 0, 1) := by decide +kernel
theorem dX7_readName_60 : decode cX7_readName 60 = .ok (.getfield 13, 3) := by decide +kernel
theorem dX7_readName_63 : decode cX7_readName 63 = .ok (.iload_n 1, 1) := by decide +kernel
theorem dX7_readName_64 : decode cX7_readName 64 = .ok (.iaload, 1) := by decide +kernel
theorem dX7_readName_65 : decode cX7_readName 65 = .ok (.iadd, 1) := by decide +kernel
theorem dX7_readName_66 : decode cX7_readName 66 = .ok (.aload_n 0, 1) := by decide +kernel
theorem dX7_readName_67 : decode cX7_readName 67 = .ok (.getfield 7, 3) := by decide +kernel
theorem dX7_readName_70 : decode cX7_readName 70 = .ok (.aload_n 0, 1) := by decide +kernel
theorem dX7_readName_71 : decode cX7_readName 71 = .ok (.getfield 129, 3) := by decide +kernel
theorem dX7_readName_74 : decode cX7_readName 74 = .ok (.iaload, 1) := by decide +kernel
theorem dX7_readName_75 : decode cX7_readName 75 = .ok (.iastore, 1) := by decide +kernel
theorem dX7_readName_76 : decode cX7_readName 76 = .ok (.aload_n 0, 1) := by decide +kernel
theorem dX7_readName_77 : decode cX7_readName 77 = .ok (.dup, 1) := by decide +kernel
theorem dX7_readName_78 : decode cX7_readName 78 = .ok (.getfield 129, 3) := by decide +kernel
theorem dX7_readName_81 : decode cX7_readName 81 = .ok (.iconst 1, 1) := by decide +kernel
theorem dX7_readName_82 : decode cX7_readName 82 = .ok (.iadd, 1) := by decide +kernel
theorem dX7_readName_83 : decode cX7_readName 83 = .ok (.putfield 129, 3) := by decide +kernel
theorem dX7_readName_86 : decode cX7_readName 86 = .ok (.goto (-67), 3) := by decide +kernel
theorem dX7_readName_89 : decode cX7_readName 89 = .ok (.return_, 1) := by decide +kernel
set_option maxRecDepth 20000 in
theorem ggX7_readYear_X7_in : GoodIn wsX7_readYear wsX7_in := goodIn_r _ [11] (by decide +kernel) (by decide +kernel)
set_option maxRecDepth 20000 in
theorem gX7_readYear_X7_in : GoodIn wsX7_readYear (va_wsS RX7 118 yX7_in wsX7_in) := goodIn_app (goodIn_of _ (by decide +kernel)) ggX7_readYear_X7_in
set_option maxRecDepth 20000 in
theorem ggX7_readYear_X7_accept : GoodIn wsX7_readYear wsX7_accept := goodIn_r _ [15, 2, 3, 16, 17, 18, 19, 20, 21, 22, 23, 24, 25, 26, 27, 28, 29, 30, 31, 32, 33] (by decide +kernel) (by decide +kernel)
set_option maxRecDepth 20000 in
theorem gX7_readYear_X7_accept : GoodIn wsX7_readYear (wsV RX7 144 RX7 yX7_accept wsX7_accept) := goodIn_app (goodIn_of _ (by decide +kernel)) ggX7_readYear_X7_accept
theorem dX7_readYear_0 : decode cX7_readYear 0 = .ok (.aload_n 0, 1) := by decide +kernel
theorem dX7_readYear_1 : decode cX7_readYear 1 = .ok (.getfield 13, 3) := by decide +kernel
theorem dX7_readYear_4 : decode cX7_readYear 4 = .ok (.iload_n 1, 1) := by decide +kernel
theorem dX7_readYear_5 : decode cX7_readYear 5 = .ok (.iconst 0, 1) := by decide +kernel
theorem dX7_readYear_6 : decode cX7_readYear 6 = .ok (.iastore, 1) := by decide +kernel
theorem dX7_readYear_7 : decode cX7_readYear 7 = .ok (.iconst 0, 1) := by decide +kernel
theorem dX7_readYear_8 : decode cX7_readYear 8 = .ok (.istore_n 2, 1) := by decide +kernel
theorem dX7_readYear_9 : decode cX7_readYear 9 = .ok (.iload_n 2, 1) := by decide +kernel
theorem dX7_readYear_10 : decode cX7_readYear 10 = .ok (.iconst 4, 1) := by decide +kernel
theorem dX7_readYear_11 : decode cX7_readYear 11 = .ok (.if_icmp .ge 104, 3) := by decide +kernel
theorem dX7_readYear_14 : decode cX7_readYear 14 = .ok (.aload_n 0, 1) := by decide +kernel
theorem dX7_readYear_15 : decode cX7_readYear 15 = .ok (.getfield 136, 3) := by decide +kernel
theorem dX7_readYear_18 : decode cX7_readYear 18 = .ok (.ifCond .eq 97, 3) := by decide +kernel
theorem dX7_readYear_21 : decode cX7_readYear 21 = .ok (.aload_n 0, 1) := by decide +kernel
theorem dX7_readYear_22 : decode cX7_readYear 22 = .ok (.getfield 129, 3) := by decide +kernel
theorem dX7_readYear_25 : decode cX7_readYear 25 = .ok (.aload_n 0, 1) := by decide +kernel
theorem dX7_readYear_26 : decode cX7_readYear 26 = .ok (.getfield 122, 3) := by decide +kernel
theorem dX7_readYear_29 : decode cX7_readYear 29 = .ok (.if_icmp .ge 18, 3) := by decide +kernel
theorem dX7_readYear_32 : decode cX7_readYear 32 = .ok (.aload_n 0, 1) := by decide +kernel
theorem dX7_readYear_33 : decode cX7_readYear 33 = .ok (.getfield 7, 3) := by decide +kernel
theorem dX7_readYear_36 : decode cX7_readYear 36 = .ok (.aload_n 0, 1) := by decide +kernel
theorem dX7_readYear_37 : decode cX7_readYear 37 = .ok (.getfield 129, 3) := by decide +kernel
theorem dX7_readYear_40 : decode cX7_readYear 40 = .ok (.iaload, 1) := by decide +kernel
theorem dX7_readYear_41 : decode cX7_readYear 41 = .ok (.bipush 48, 2) := by decide +kernel
theorem dX7_readYear_43 : decode cX7_readYear 43 = .ok (.isub, 1) := by decide +kernel
theorem dX7_readYear_44 : decode cX7_readYear 44 = .ok (.goto 5, 3) := by decide +kernel
theorem dX7_readYear_47 : decode cX7_readYear 47 = .ok (.bipush (-9), 2) := by decide +kernel
theorem dX7_readYear_49 : decode cX7_readYear 49 = .ok (.istore_n 3, 1) := by decide +kernel
theorem dX7_readYear_50 : decode cX7_readYear 50 = .ok (.aload_n 0, 1) := by decide +kernel
theorem dX7_readYear_51 : decode cX7_readYear 51 = .ok (.iload_n 3, 1) := by decide +kernel
theorem dX7_readYear_52 : decode cX7_readYear 52 = .ok (.i2l, 1) := by decide +kernel
theorem dX7_readYear_53 : decode cX7_readYear 53 = .ok (.iload_n 2, 1) := by decide +kernel
theorem dX7_readYear_54 : decode cX7_readYear 54 = .ok (.ifCond .ne 7, 3) := by decide +kernel
theorem dX7_readYear_57 : decode cX7_readYear 57 = .ok (.lconst 1, 1) := by decide +kernel
theorem dX7_readYear_58 : decode cX7_readYear 58 = .ok (.goto 4, 3) := by decide +kernel
theorem dX7_readYear_61 : decode cX7_readYear 61 = .ok (.lconst 0, 1) := by decide +kernel
theorem dX7_readYear_62 : decode cX7_readYear 62 = .ok (.iload_n 2, 1) := by decide +kernel
theorem dX7_readYear_63 : decode cX7_readYear 63 = .ok (.ifCond .ne 9, 3) := by decide +kernel
theorem dX7_readYear_66 : decode cX7_readYear 66 = .ok (.ldc2_w 148, 3) := by decide +kernel
theorem dX7_readYear_69 : decode cX7_readYear 69 = .ok (.goto 6, 3) := by decide +kernel
theorem dX7_readYear_72 : decode cX7_readYear 72 = .ok (.ldc2_w 150, 3) := by decide +kernel
theorem dX7_readYear_75 : decode cX7_readYear 75 = .ok (.invokestatic 118, 3) := by decide +kernel
theorem dX7_readYear_78 : decode cX7_readYear 78 = .ok (.invokevirtual 144, 3) := by decide +kernel
theorem dX7_readYear_81 : decode cX7_readYear 81 = .ok (.aload_n 0, 1) := by decide +kernel
theorem dX7_readYear_82 : decode cX7_readYear 82 = .ok (.getfield 13, 3) := by decide +kernel
theorem dX7_readYear_85 : decode cX7_readYear 85 = .ok (.iload_n 1, 1) := by decide +kernel
theorem dX7_readYear_86 : decode cX7_readYear 86 = .ok (.aload_n 0, 1) := by decide +kernel
theorem dX7_readYear_87 : decode cX7_readYear 87 = .ok (.getfield 136, 3) := by decide +kernel
theorem dX7_readYear_90 : decode cX7_readYear 90 = .ok (.ifCond .eq 17, 3) := by decide +kernel
theorem dX7_readYear_93 : decode cX7_readYear 93 = .ok (.bipush 10, 2) := by decide +kernel
theorem dX7_readYear_95 : decode cX7_readYear 95 = .ok (.aload_n 0, 1) := by decide +kernel
theorem dX7_readYear_96 : decode cX7_readYear 96 = .ok (.getfield 13, 3) := by decide +kernel
theorem dX7_readYear_99 : decode cX7_readYear 99 = .ok (.iload_n 1, 1) := by decide +kernel
theorem dX7_readYear_100 : decode cX7_readYear 100 = .ok (.iaload, 1) := by decide +kernel
theorem dX7_readYear_101 : decode cX7_readYear 101 = .ok (.imul, 1) := by decide +kernel
theorem dX7_readYear_102 : decode cX7_readYear 102 = .ok (.iload_n 3, 1) := by decide +kernel
theorem dX7_readYear_103 : decode cX7_readYear 103 = .ok (.iadd, 1) := by decide +kernel
theorem dX7_readYear_104 : decode cX7_readYear 104 = .ok (.goto 4, 3) := by decide +kernel
theorem dX7_readYear_107 : decode cX7_readYear 107 = .ok (.iconst 0, 1) := by decide +kernel
theorem dX7_readYear_108 : decode cX7_readYear 108 = .ok (.iastore, 1) := by decide +kernel
theorem dX7_readYear_109 : decode cX7_readYear 109 = .ok (.iinc 2 1, 3) := by decide +kernel
theorem dX7_readYear_112 : decode cX7_readYear 112 = .ok (.goto (-103), 3) := by decide +kernel
theorem dX7_readYear_115 : decode cX7_readYear 115 = .ok (.return_, 1) := by decide +kernel
set_option maxRecDepth 20000 in
theorem ggX7_readWork_X7_cell : GoodIn wsX7_readWork wsX7_cell := goodIn_r _ [7] (by decide +kernel) (by decide +kernel)
set_option maxRecDepth 20000 in
theorem gX7_readWork_X7_cell : GoodIn wsX7_readWork (va_wsS RX7 67 yX7_cell wsX7_cell) := goodIn_app (goodIn_of _ (by decide +kernel)) ggX7_readWork_X7_cell
set_option maxRecDepth 20000 in
theorem ggX7_readWork_X7_author : GoodIn wsX7_readWork wsX7_author := goodIn_r _ [10, 4, 5, 6, 7] (by decide +kernel) (by decide +kernel)
set_option maxRecDepth 20000 in
theorem gX7_readWork_X7_author : GoodIn wsX7_readWork (va_wsS RX7 71 yX7_author wsX7_author) := goodIn_app (goodIn_of _ (by decide +kernel)) ggX7_readWork_X7_author
set_option maxRecDepth 20000 in
theorem ggX7_readWork_X7_readName : GoodIn wsX7_readWork wsX7_readName := goodIn_r _ [14, 1, 2, 15, 3, 16, 17, 18, 6, 19, 20, 21, 22, 23, 24, 25, 26, 27, 28, 29, 40, 41, 42, 43, 44, 45, 46, 47, 48, 49, 50, 51, 52, 53, 54, 55, 56, 57] (by decide +kernel) (by decide +kernel)
set_option maxRecDepth 20000 in
theorem gX7_readWork_X7_readName : GoodIn wsX7_readWork (wsV RX7 152 RX7 yX7_readName wsX7_readName) := goodIn_app (goodIn_of _ (by decide +kernel)) ggX7_readWork_X7_readName
set_option maxRecDepth 20000 in
theorem ggX7_readWork_X7_isNext : GoodIn wsX7_readWork wsX7_isNext := goodIn_r _ [33, 3, 20, 15, 40, 41, 42, 43, 44, 45, 46, 47, 48, 49, 50, 51, 52, 53, 54, 55, 56, 57] (by decide +kernel) (by decide +kernel)
set_option maxRecDepth 20000 in
theorem gX7_readWork_X7_isNext : GoodIn wsX7_readWork (wsV RX7 155 RX7 yX7_isNext wsX7_isNext) := goodIn_app (goodIn_of _ (by decide +kernel)) ggX7_readWork_X7_isNext
set_option maxRecDepth 20000 in
theorem ggX7_readWork_X7_accept : GoodIn wsX7_readWork wsX7_accept := goodIn_r _ [29, 2, 3, 40, 41, 42, 43, 44, 45, 46, 47, 48, 49, 50, 51, 52, 53, 54, 55, 56, 57] (by decide +kernel) (by decide +kernel)
set_option maxRecDepth 20000 in
theorem gX7_readWork_X7_accept : GoodIn wsX7_readWork (wsV RX7 144 RX7 yX7_accept wsX7_accept) := goodIn_app (goodIn_of _ (by decide +kernel)) ggX7_readWork_X7_accept
set_option maxRecDepth 20000 in
theorem ggX7_readWork_X7_readYear : GoodIn wsX7_readWork wsX7_readYear := goodIn_r _ [37, 1, 2, 3, 20, 15, 38, 39, 23, 24, 6, 25, 26, 27, 28, 29, 40, 41, 42, 43, 44, 45, 46, 47, 48, 49, 50, 51, 52, 53, 54, 55, 56, 57] (by decide +kernel) (by decide +kernel)
set_option maxRecDepth 20000 in
theorem gX7_readWork_X7_readYear : GoodIn wsX7_readWork (wsV RX7 158 RX7 yX7_readYear wsX7_readYear) := goodIn_app (goodIn_of _ (by decide +kernel)) ggX7_readWork_X7_readYear
theorem dX7_readWork_0 : decode cX7_readWork 0 = .ok (.aload_n 0, 1) := by decide +kernel
theorem dX7_readWork_1 : decode cX7_readWork 1 = .ok (.getfield 13, 3) := by decide +kernel
theorem dX7_readWork_4 : decode cX7_readWork 4 = .ok (.iconst 0, 1) := by decide +kernel
theorem dX7_readWork_5 : decode cX7_readWork 5 = .ok (.iaload, 1) := by decide +kernel
theorem dX7_readWork_6 : decode cX7_readWork 6 = .ok (.istore_n 1, 1) := by decide +kernel
theorem dX7_readWork_7 : decode cX7_readWork 7 = .ok (.aload_n 0, 1) := by decide +kernel
theorem dX7_readWork_8 : decode cX7_readWork 8 = .ok (.getfield 13, 3) := by decide +kernel
theorem dX7_readWork_11 : decode cX7_readWork 11 = .ok (.iload_n 1, 1) := by decide +kernel
theorem dX7_readWork_12 : decode cX7_readWork 12 = .ok (.iconst 1, 1) := by decide +kernel
theorem dX7_readWork_13 : decode cX7_readWork 13 = .ok (.invokestatic 67, 3) := by decide +kernel
theorem dX7_readWork_16 : decode cX7_readWork 16 = .ok (.iconst 1, 1) := by decide +kernel
theorem dX7_readWork_17 : decode cX7_readWork 17 = .ok (.iastore, 1) := by decide +kernel
theorem dX7_readWork_18 : decode cX7_readWork 18 = .ok (.aload_n 0, 1) := by decide +kernel
theorem dX7_readWork_19 : decode cX7_readWork 19 = .ok (.iload_n 1, 1) := by decide +kernel
theorem dX7_readWork_20 : decode cX7_readWork 20 = .ok (.iconst 0, 1) := by decide +kernel
theorem dX7_readWork_21 : decode cX7_readWork 21 = .ok (.invokestatic 71, 3) := by decide +kernel
theorem dX7_readWork_24 : decode cX7_readWork 24 = .ok (.invokevirtual 152, 3) := by decide +kernel
theorem dX7_readWork_27 : decode cX7_readWork 27 = .ok (.aload_n 0, 1) := by decide +kernel
theorem dX7_readWork_28 : decode cX7_readWork 28 = .ok (.getfield 136, 3) := by decide +kernel
theorem dX7_readWork_31 : decode cX7_readWork 31 = .ok (.ifCond .eq 71, 3) := by decide +kernel
theorem dX7_readWork_34 : decode cX7_readWork 34 = .ok (.aload_n 0, 1) := by decide +kernel
theorem dX7_readWork_35 : decode cX7_readWork 35 = .ok (.bipush 44, 2) := by decide +kernel
theorem dX7_readWork_37 : decode cX7_readWork 37 = .ok (.invokevirtual 155, 3) := by decide +kernel
theorem dX7_readWork_40 : decode cX7_readWork 40 = .ok (.ifCond .eq 62, 3) := by decide +kernel
theorem dX7_readWork_43 : decode cX7_readWork 43 = .ok (.aload_n 0, 1) := by decide +kernel
theorem dX7_readWork_44 : decode cX7_readWork 44 = .ok (.getfield 13, 3) := by decide +kernel
theorem dX7_readWork_47 : decode cX7_readWork 47 = .ok (.iload_n 1, 1) := by decide +kernel
theorem dX7_readWork_48 : decode cX7_readWork 48 = .ok (.iconst 1, 1) := by decide +kernel
theorem dX7_readWork_49 : decode cX7_readWork 49 = .ok (.invokestatic 67, 3) := by decide +kernel
theorem dX7_readWork_52 : decode cX7_readWork 52 = .ok (.iaload, 1) := by decide +kernel
theorem dX7_readWork_53 : decode cX7_readWork 53 = .ok (.iconst 4, 1) := by decide +kernel
theorem dX7_readWork_54 : decode cX7_readWork 54 = .ok (.if_icmp .ge 48, 3) := by decide +kernel
theorem dX7_readWork_57 : decode cX7_readWork 57 = .ok (.aload_n 0, 1) := by decide +kernel
theorem dX7_readWork_58 : decode cX7_readWork 58 = .ok (.dup, 1) := by decide +kernel
theorem dX7_readWork_59 : decode cX7_readWork 59 = .ok (.getfield 129, 3) := by decide +kernel
theorem dX7_readWork_62 : decode cX7_readWork 62 = .ok (.iconst 1, 1) := by decide +kernel
theorem dX7_readWork_63 : decode cX7_readWork 63 = .ok (.iadd, 1) := by decide +kernel
theorem dX7_readWork_64 : decode cX7_readWork 64 = .ok (.putfield 129, 3) := by decide +kernel
theorem dX7_readWork_67 : decode cX7_readWork 67 = .ok (.aload_n 0, 1) := by decide +kernel
theorem dX7_readWork_68 : decode cX7_readWork 68 = .ok (.iload_n 1, 1) := by decide +kernel
theorem dX7_readWork_69 : decode cX7_readWork 69 = .ok (.aload_n 0, 1) := by decide +kernel
theorem dX7_readWork_70 : decode cX7_readWork 70 = .ok (.getfield 13, 3) := by decide +kernel
theorem dX7_readWork_73 : decode cX7_readWork 73 = .ok (.iload_n 1, 1) := by decide +kernel
theorem dX7_readWork_74 : decode cX7_readWork 74 = .ok (.iconst 1, 1) := by decide +kernel
theorem dX7_readWork_75 : decode cX7_readWork 75 = .ok (.invokestatic 67, 3) := by decide +kernel
theorem dX7_readWork_78 : decode cX7_readWork 78 = .ok (.iaload, 1) := by decide +kernel
theorem dX7_readWork_79 : decode cX7_readWork 79 = .ok (.invokestatic 71, 3) := by decide +kernel
theorem dX7_readWork_82 : decode cX7_readWork 82 = .ok (.invokevirtual 152, 3) := by decide +kernel
theorem dX7_readWork_85 : decode cX7_readWork 85 = .ok (.aload_n 0, 1) := by decide +kernel
theorem dX7_readWork_86 : decode cX7_readWork 86 = .ok (.getfield 13, 3) := by decide +kernel
theorem dX7_readWork_89 : decode cX7_readWork 89 = .ok (.iload_n 1, 1) := by decide +kernel
theorem dX7_readWork_90 : decode cX7_readWork 90 = .ok (.iconst 1, 1) := by decide +kernel
theorem dX7_readWork_91 : decode cX7_readWork 91 = .ok (.invokestatic 67, 3) := by decide +kernel
theorem dX7_readWork_94 : decode cX7_readWork 94 = .ok (.dup2, 1) := by decide +kernel
theorem dX7_readWork_95 : decode cX7_readWork 95 = .ok (.iaload, 1) := by decide +kernel
theorem dX7_readWork_96 : decode cX7_readWork 96 = .ok (.iconst 1, 1) := by decide +kernel
theorem dX7_readWork_97 : decode cX7_readWork 97 = .ok (.iadd, 1) := by decide +kernel
theorem dX7_readWork_98 : decode cX7_readWork 98 = .ok (.iastore, 1) := by decide +kernel
theorem dX7_readWork_99 : decode cX7_readWork 99 = .ok (.goto (-72), 3) := by decide +kernel
theorem dX7_readWork_102 : decode cX7_readWork 102 = .ok (.aload_n 0, 1) := by decide +kernel
theorem dX7_readWork_103 : decode cX7_readWork 103 = .ok (.aload_n 0, 1) := by decide +kernel
theorem dX7_readWork_104 : decode cX7_readWork 104 = .ok (.bipush 58, 2) := by decide +kernel
theorem dX7_readWork_106 : decode cX7_readWork 106 = .ok (.invokevirtual 155, 3) := by decide +kernel
theorem dX7_readWork_109 : decode cX7_readWork 109 = .ok (.invokevirtual 144, 3) := by decide +kernel
theorem dX7_readWork_112 : decode cX7_readWork 112 = .ok (.aload_n 0, 1) := by decide +kernel
theorem dX7_readWork_113 : decode cX7_readWork 113 = .ok (.iload_n 1, 1) := by decide +kernel
theorem dX7_readWork_114 : decode cX7_readWork 114 = .ok (.iconst 0, 1) := by decide +kernel
theorem dX7_readWork_115 : decode cX7_readWork 115 = .ok (.invokestatic 67, 3) := by decide +kernel
theorem dX7_readWork_118 : decode cX7_readWork 118 = .ok (.invokevirtual 158, 3) := by decide +kernel
theorem dX7_readWork_121 : decode cX7_readWork 121 = .ok (.aload_n 0, 1) := by decide +kernel
theorem dX7_readWork_122 : decode cX7_readWork 122 = .ok (.aload_n 0, 1) := by decide +kernel
theorem dX7_readWork_123 : decode cX7_readWork 123 = .ok (.bipush 58, 2) := by decide +kernel
theorem dX7_readWork_125 : decode cX7_readWork 125 = .ok (.invokevirtual 155, 3) := by decide +kernel
theorem dX7_readWork_128 : decode cX7_readWork 128 = .ok (.invokevirtual 144, 3) := by decide +kernel
theorem dX7_readWork_131 : decode cX7_readWork 131 = .ok (.aload_n 0, 1) := by decide +kernel
theorem dX7_readWork_132 : decode cX7_readWork 132 = .ok (.getfield 136, 3) := by decide +kernel
theorem dX7_readWork_135 : decode cX7_readWork 135 = .ok (.ifCond .eq 13, 3) := by decide +kernel
theorem dX7_readWork_138 : decode cX7_readWork 138 = .ok (.aload_n 0, 1) := by decide +kernel
theorem dX7_readWork_139 : decode cX7_readWork 139 = .ok (.iload_n 1, 1) := by decide +kernel
theorem dX7_readWork_140 : decode cX7_readWork 140 = .ok (.bipush 38, 2) := by decide +kernel
theorem dX7_readWork_142 : decode cX7_readWork 142 = .ok (.invokestatic 67, 3) := by decide +kernel
theorem dX7_readWork_145 : decode cX7_readWork 145 = .ok (.invokevirtual 152, 3) := by decide +kernel
theorem dX7_readWork_148 : decode cX7_readWork 148 = .ok (.aload_n 0, 1) := by decide +kernel
theorem dX7_readWork_149 : decode cX7_readWork 149 = .ok (.getfield 13, 3) := by decide +kernel
theorem dX7_readWork_152 : decode cX7_readWork 152 = .ok (.iconst 0, 1) := by decide +kernel
theorem dX7_readWork_153 : decode cX7_readWork 153 = .ok (.dup2, 1) := by decide +kernel
theorem dX7_readWork_154 : decode cX7_readWork 154 = .ok (.iaload, 1) := by decide +kernel
theorem dX7_readWork_155 : decode cX7_readWork 155 = .ok (.aload_n 0, 1) := by decide +kernel
theorem dX7_readWork_156 : decode cX7_readWork 156 = .ok (.getfield 136, 3) := by decide +kernel
theorem dX7_readWork_159 : decode cX7_readWork 159 = .ok (.ifCond .eq 7, 3) := by decide +kernel
theorem dX7_readWork_162 : decode cX7_readWork 162 = .ok (.iconst 1, 1) := by decide +kernel
theorem dX7_readWork_163 : decode cX7_readWork 163 = .ok (.goto 4, 3) := by decide +kernel
theorem dX7_readWork_166 : decode cX7_readWork 166 = .ok (.iconst 0, 1) := by decide +kernel
theorem dX7_readWork_167 : decode cX7_readWork 167 = .ok (.iadd, 1) := by decide +kernel
theorem dX7_readWork_168 : decode cX7_readWork 168 = .ok (.iastore, 1) := by decide +kernel
theorem dX7_readWork_169 : decode cX7_readWork 169 = .ok (.return_, 1) := by decide +kernel
set_option maxRecDepth 20000 in
theorem ggX7_readText_X7_clean : GoodIn wsX7_readText wsX7_clean := goodIn_r _ [8] (by decide +kernel) (by decide +kernel)
set_option maxRecDepth 20000 in
theorem gX7_readText_X7_clean : GoodIn wsX7_readText (va_wsS RX7 50 yX7_clean wsX7_clean) := goodIn_app (goodIn_of _ (by decide +kernel)) ggX7_readText_X7_clean
set_option maxRecDepth 20000 in
theorem ggX7_readText_X7_readWork : GoodIn wsX7_readText wsX7_readWork := goodIn_r _ [12, 3, 2, 1, 13, 14, 7, 15, 16, 17, 18, 19, 20, 21, 22, 23, 24, 25, 26, 27, 4, 28, 29, 30, 31, 32, 33, 34, 35, 36, 37, 38, 39, 40, 41, 42, 43, 44, 45, 46, 47, 48, 49, 50, 51, 52, 53, 54, 55, 56, 57, 58, 59, 60, 61, 62, 63, 64] (by decide +kernel) (by decide +kernel)
set_option maxRecDepth 20000 in
theorem gX7_readText_X7_readWork : GoodIn wsX7_readText (wsV RX7 161 RX7 yX7_readWork wsX7_readWork) := goodIn_app (goodIn_of _ (by decide +kernel)) ggX7_readText_X7_readWork
set_option maxRecDepth 20000 in
theorem ggX7_readText_X7_isNext : GoodIn wsX7_readText wsX7_isNext := goodIn_r _ [40, 1, 4, 23, 47, 48, 49, 50, 51, 52, 53, 54, 55, 56, 57, 58, 59, 60, 61, 62, 63, 64] (by decide +kernel) (by decide +kernel)
set_option maxRecDepth 20000 in
theorem gX7_readText_X7_isNext : GoodIn wsX7_readText (wsV RX7 155 RX7 yX7_isNext wsX7_isNext) := goodIn_app (goodIn_of _ (by decide +kernel)) ggX7_readText_X7_isNext
set_option maxRecDepth 20000 in
theorem ggX7_readText_X7_accept : GoodIn wsX7_readText wsX7_accept := goodIn_r _ [36, 2, 1, 47, 48, 49, 50, 51, 52, 53, 54, 55, 56, 57, 58, 59, 60, 61, 62, 63, 64] (by decide +kernel) (by decide +kernel)
set_option maxRecDepth 20000 in
theorem gX7_readText_X7_accept : GoodIn wsX7_readText (wsV RX7 144 RX7 yX7_accept wsX7_accept) := goodIn_app (goodIn_of _ (by decide +kernel)) ggX7_readText_X7_accept
theorem dX7_readText_0 : decode cX7_readText 0 = .ok (.aload_n 0, 1) := by decide +kernel
theorem dX7_readText_1 : decode cX7_readText 1 = .ok (.iconst 0, 1) := by decide +kernel
theorem dX7_readText_2 : decode cX7_readText 2 = .ok (.putfield 129, 3) := by decide +kernel
theorem dX7_readText_5 : decode cX7_readText 5 = .ok (.aload_n 0, 1) := by decide +kernel
theorem dX7_readText_6 : decode cX7_readText 6 = .ok (.iconst 1, 1) := by decide +kernel
theorem dX7_readText_7 : decode cX7_readText 7 = .ok (.putfield 136, 3) := by decide +kernel
theorem dX7_readText_10 : decode cX7_readText 10 = .ok (.aload_n 0, 1) := by decide +kernel
theorem dX7_readText_11 : decode cX7_readText 11 = .ok (.getfield 13, 3) := by decide +kernel
theorem dX7_readText_14 : decode cX7_readText 14 = .ok (.invokestatic 50, 3) := by decide +kernel
theorem dX7_readText_17 : decode cX7_readText 17 = .ok (.aload_n 0, 1) := by decide +kernel
theorem dX7_readText_18 : decode cX7_readText 18 = .ok (.invokevirtual 161, 3) := by decide +kernel
theorem dX7_readText_21 : decode cX7_readText 21 = .ok (.aload_n 0, 1) := by decide +kernel
theorem dX7_readText_22 : decode cX7_readText 22 = .ok (.getfield 136, 3) := by decide +kernel
theorem dX7_readText_25 : decode cX7_readText 25 = .ok (.ifCond .eq 38, 3) := by decide +kernel
theorem dX7_readText_28 : decode cX7_readText 28 = .ok (.aload_n 0, 1) := by decide +kernel
theorem dX7_readText_29 : decode cX7_readText 29 = .ok (.getfield 129, 3) := by decide +kernel
theorem dX7_readText_32 : decode cX7_readText 32 = .ok (.aload_n 0, 1) := by decide +kernel
theorem dX7_readText_33 : decode cX7_readText 33 = .ok (.getfield 122, 3) := by decide +kernel
theorem dX7_readText_36 : decode cX7_readText 36 = .ok (.if_icmp .ge 27, 3) := by decide +kernel
theorem dX7_readText_39 : decode cX7_readText 39 = .ok (.aload_n 0, 1) := by decide +kernel
theorem dX7_readText_40 : decode cX7_readText 40 = .ok (.aload_n 0, 1) := by decide +kernel
theorem dX7_readText_41 : decode cX7_readText 41 = .ok (.bipush 59, 2) := by decide +kernel
theorem dX7_readText_43 : decode cX7_readText 43 = .ok (.invokevirtual 155, 3) := by decide +kernel
theorem dX7_readText_46 : decode cX7_readText 46 = .ok (.invokevirtual 144, 3) := by decide +kernel
theorem dX7_readText_49 : decode cX7_readText 49 = .ok (.aload_n 0, 1) := by decide +kernel
theorem dX7_readText_50 : decode cX7_readText 50 = .ok (.getfield 136, 3) := by decide +kernel
theorem dX7_readText_53 : decode cX7_readText 53 = .ok (.ifCond .eq (-32), 3) := by decide +kernel
theorem dX7_readText_56 : decode cX7_readText 56 = .ok (.aload_n 0, 1) := by decide +kernel
theorem dX7_readText_57 : decode cX7_readText 57 = .ok (.invokevirtual 161, 3) := by decide +kernel
theorem dX7_readText_60 : decode cX7_readText 60 = .ok (.goto (-39), 3) := by decide +kernel
theorem dX7_readText_63 : decode cX7_readText 63 = .ok (.aload_n 0, 1) := by decide +kernel
theorem dX7_readText_64 : decode cX7_readText 64 = .ok (.getfield 136, 3) := by decide +kernel
theorem dX7_readText_67 : decode cX7_readText 67 = .ok (.ifCond .eq 8, 3) := by decide +kernel
theorem dX7_readText_70 : decode cX7_readText 70 = .ok (.bipush (-9), 2) := by decide +kernel
theorem dX7_readText_72 : decode cX7_readText 72 = .ok (.goto 7, 3) := by decide +kernel
theorem dX7_readText_75 : decode cX7_readText 75 = .ok (.aload_n 0, 1) := by decide +kernel
theorem dX7_readText_76 : decode cX7_readText 76 = .ok (.getfield 129, 3) := by decide +kernel
theorem dX7_readText_79 : decode cX7_readText 79 = .ok (.ireturn, 1) := by decide +kernel
set_option maxRecDepth 20000 in
theorem ggX7_errorPosition_X7_readText : GoodIn wsX7_errorPosition wsX7_readText := goodIn_r _ [6, 7, 8, 9, 10, 11, 12, 5, 13, 14, 15, 16, 17, 18, 19, 20, 21, 22, 23, 24, 25, 26, 27, 28, 29, 30, 31, 32, 33, 34, 35, 36, 37, 38, 39, 40, 41, 42, 43, 44, 45, 46, 47, 48, 49, 50, 51, 52, 53, 54, 55, 56, 57, 58, 59, 60, 61, 62, 63, 64, 65, 66, 67, 68, 69] (by decide +kernel) (by decide +kernel)
set_option maxRecDepth 20000 in
theorem gX7_errorPosition_X7_readText : GoodIn wsX7_errorPosition (wsV RX7 164 RX7 yX7_readText wsX7_readText) := goodIn_app (goodIn_of _ (by decide +kernel)) ggX7_errorPosition_X7_readText
theorem dX7_errorPosition_0 : decode cX7_errorPosition 0 = .ok (.aload_n 0, 1) := by decide +kernel
theorem dX7_errorPosition_1 : decode cX7_errorPosition 1 = .ok (.iconst 0, 1) := by decide +kernel
theorem dX7_errorPosition_2 : decode cX7_errorPosition 2 = .ok (.putfield 54, 3) := by decide +kernel
theorem dX7_errorPosition_5 : decode cX7_errorPosition 5 = .ok (.aload_n 0, 1) := by decide +kernel
theorem dX7_errorPosition_6 : decode cX7_errorPosition 6 = .ok (.invokevirtual 164, 3) := by decide +kernel
theorem dX7_errorPosition_9 : decode cX7_errorPosition 9 = .ok (.ireturn, 1) := by decide +kernel
set_option maxRecDepth 20000 in
theorem ggX7_load_X7_readText : GoodIn wsX7_load wsX7_readText := goodIn_r _ [9, 10, 11, 1, 12, 13, 14, 8, 15, 16, 17, 18, 19, 20, 21, 22, 23, 24, 25, 26, 27, 28, 29, 30, 31, 32, 33, 34, 35, 36, 37, 38, 39, 40, 41, 42, 43, 44, 45, 46, 47, 48, 49, 50, 51, 52, 53, 62, 63, 64, 65, 66, 67, 68, 69, 70, 71, 72, 73, 74, 75, 76, 77, 78, 79] (by decide +kernel) (by decide +kernel)
set_option maxRecDepth 20000 in
theorem gX7_load_X7_readText : GoodIn wsX7_load (wsV RX7 164 RX7 yX7_readText wsX7_readText) := goodIn_app (goodIn_of _ (by decide +kernel)) ggX7_load_X7_readText
set_option maxRecDepth 20000 in
theorem ggX7_load_X7_refused : GoodIn wsX7_load wsX7_refused := goodIn_r _ [57, 58, 62, 63, 64, 65, 66, 67, 68, 69, 70, 71, 72, 73, 74, 75, 76, 77, 78, 79] (by decide +kernel) (by decide +kernel)
set_option maxRecDepth 20000 in
theorem gX7_load_X7_refused : GoodIn wsX7_load (wsV RX7 125 RX7 yX7_refused wsX7_refused) := goodIn_app (goodIn_of _ (by decide +kernel)) ggX7_load_X7_refused
set_option maxRecDepth 20000 in
theorem ggX7_load_X7_copy : GoodIn wsX7_load wsX7_copy := goodIn_r _ [61] (by decide +kernel) (by decide +kernel)
set_option maxRecDepth 20000 in
theorem gX7_load_X7_copy : GoodIn wsX7_load (va_wsS RX7 63 yX7_copy wsX7_copy) := goodIn_app (goodIn_of _ (by decide +kernel)) ggX7_load_X7_copy
theorem dX7_load_0 : decode cX7_load 0 = .ok (.aload_n 0, 1) := by decide +kernel
theorem dX7_load_1 : decode cX7_load 1 = .ok (.aload_n 0, 1) := by decide +kernel
theorem dX7_load_2 : decode cX7_load 2 = .ok (.invokevirtual 164, 3) := by decide +kernel
theorem dX7_load_5 : decode cX7_load 5 = .ok (.bipush (-9), 2) := by decide +kernel
theorem dX7_load_7 : decode cX7_load 7 = .ok (.if_icmp .ne 7, 3) := by decide +kernel
theorem dX7_load_10 : decode cX7_load 10 = .ok (.iconst 0, 1) := by decide +kernel
theorem dX7_load_11 : decode cX7_load 11 = .ok (.goto 4, 3) := by decide +kernel
theorem dX7_load_14 : decode cX7_load 14 = .ok (.iconst 1, 1) := by decide +kernel
theorem dX7_load_15 : decode cX7_load 15 = .ok (.invokevirtual 125, 3) := by decide +kernel
theorem dX7_load_18 : decode cX7_load 18 = .ok (.ifCond .eq 5, 3) := by decide +kernel
theorem dX7_load_21 : decode cX7_load 21 = .ok (.iconst 0, 1) := by decide +kernel
theorem dX7_load_22 : decode cX7_load 22 = .ok (.ireturn, 1) := by decide +kernel
theorem dX7_load_23 : decode cX7_load 23 = .ok (.aload_n 0, 1) := by decide +kernel
theorem dX7_load_24 : decode cX7_load 24 = .ok (.getfield 13, 3) := by decide +kernel
theorem dX7_load_27 : decode cX7_load 27 = .ok (.iconst 0, 1) := by decide +kernel
theorem dX7_load_28 : decode cX7_load 28 = .ok (.aload_n 0, 1) := by decide +kernel
theorem dX7_load_29 : decode cX7_load 29 = .ok (.getfield 16, 3) := by decide +kernel
theorem dX7_load_32 : decode cX7_load 32 = .ok (.iconst 0, 1) := by decide +kernel
theorem dX7_load_33 : decode cX7_load 33 = .ok (.sipush 980, 3) := by decide +kernel
theorem dX7_load_36 : decode cX7_load 36 = .ok (.invokestatic 63, 3) := by decide +kernel
theorem dX7_load_39 : decode cX7_load 39 = .ok (.aload_n 0, 1) := by decide +kernel
theorem dX7_load_40 : decode cX7_load 40 = .ok (.iconst 0, 1) := by decide +kernel
theorem dX7_load_41 : decode cX7_load 41 = .ok (.putfield 60, 3) := by decide +kernel
theorem dX7_load_44 : decode cX7_load 44 = .ok (.aload_n 0, 1) := by decide +kernel
theorem dX7_load_45 : decode cX7_load 45 = .ok (.getfield 28, 3) := by decide +kernel
theorem dX7_load_48 : decode cX7_load 48 = .ok (.iconst 0, 1) := by decide +kernel
theorem dX7_load_49 : decode cX7_load 49 = .ok (.iconst 0, 1) := by decide +kernel
theorem dX7_load_50 : decode cX7_load 50 = .ok (.bastore, 1) := by decide +kernel
theorem dX7_load_51 : decode cX7_load 51 = .ok (.aload_n 0, 1) := by decide +kernel
theorem dX7_load_52 : decode cX7_load 52 = .ok (.getfield 28, 3) := by decide +kernel
theorem dX7_load_55 : decode cX7_load 55 = .ok (.iconst 1, 1) := by decide +kernel
theorem dX7_load_56 : decode cX7_load 56 = .ok (.iconst 0, 1) := by decide +kernel
theorem dX7_load_57 : decode cX7_load 57 = .ok (.bastore, 1) := by decide +kernel
theorem dX7_load_58 : decode cX7_load 58 = .ok (.aload_n 0, 1) := by decide +kernel
theorem dX7_load_59 : decode cX7_load 59 = .ok (.getfield 16, 3) := by decide +kernel
theorem dX7_load_62 : decode cX7_load 62 = .ok (.iconst 0, 1) := by decide +kernel
theorem dX7_load_63 : decode cX7_load 63 = .ok (.iaload, 1) := by decide +kernel
theorem dX7_load_64 : decode cX7_load 64 = .ok (.ireturn, 1) := by decide +kernel
set_option maxRecDepth 20000 in
theorem ggX7_isOneWork_X7_readText : GoodIn wsX7_isOneWork wsX7_readText := goodIn_r _ [6, 7, 8, 1, 9, 10, 11, 5, 12, 13, 14, 15, 16, 17, 18, 19, 20, 21, 22, 23, 24, 25, 26, 27, 28, 29, 30, 31, 32, 33, 34, 35, 36, 37, 38, 39, 40, 41, 42, 43, 44, 45, 46, 47, 48, 49, 50, 51, 52, 53, 54, 55, 56, 57, 58, 59, 60, 61, 62, 63, 64, 65, 66, 67, 68] (by decide +kernel) (by decide +kernel)
set_option maxRecDepth 20000 in
theorem gX7_isOneWork_X7_readText : GoodIn wsX7_isOneWork (wsV RX7 164 RX7 yX7_readText wsX7_readText) := goodIn_app (goodIn_of _ (by decide +kernel)) ggX7_isOneWork_X7_readText
theorem dX7_isOneWork_0 : decode cX7_isOneWork 0 = .ok (.aload_n 0, 1) := by decide +kernel
theorem dX7_isOneWork_1 : decode cX7_isOneWork 1 = .ok (.invokevirtual 164, 3) := by decide +kernel
theorem dX7_isOneWork_4 : decode cX7_isOneWork 4 = .ok (.bipush (-9), 2) := by decide +kernel
theorem dX7_isOneWork_6 : decode cX7_isOneWork 6 = .ok (.if_icmp .ne 17, 3) := by decide +kernel
theorem dX7_isOneWork_9 : decode cX7_isOneWork 9 = .ok (.aload_n 0, 1) := by decide +kernel
theorem dX7_isOneWork_10 : decode cX7_isOneWork 10 = .ok (.getfield 13, 3) := by decide +kernel
theorem dX7_isOneWork_13 : decode cX7_isOneWork 13 = .ok (.iconst 0, 1) := by decide +kernel
theorem dX7_isOneWork_14 : decode cX7_isOneWork 14 = .ok (.iaload, 1) := by decide +kernel
theorem dX7_isOneWork_15 : decode cX7_isOneWork 15 = .ok (.iconst 1, 1) := by decide +kernel
theorem dX7_isOneWork_16 : decode cX7_isOneWork 16 = .ok (.if_icmp .ne 7, 3) := by decide +kernel
theorem dX7_isOneWork_19 : decode cX7_isOneWork 19 = .ok (.iconst 1, 1) := by decide +kernel
theorem dX7_isOneWork_20 : decode cX7_isOneWork 20 = .ok (.goto 4, 3) := by decide +kernel
theorem dX7_isOneWork_23 : decode cX7_isOneWork 23 = .ok (.iconst 0, 1) := by decide +kernel
theorem dX7_isOneWork_24 : decode cX7_isOneWork 24 = .ok (.ireturn, 1) := by decide +kernel
theorem dX7_stems_0 : decode cX7_stems 0 = .ok (.iconst 0, 1) := by decide +kernel
theorem dX7_stems_1 : decode cX7_stems 1 = .ok (.istore_n 1, 1) := by decide +kernel
theorem dX7_stems_2 : decode cX7_stems 2 = .ok (.iconst 0, 1) := by decide +kernel
theorem dX7_stems_3 : decode cX7_stems 3 = .ok (.istore_n 2, 1) := by decide +kernel
theorem dX7_stems_4 : decode cX7_stems 4 = .ok (.iload_n 2, 1) := by decide +kernel
theorem dX7_stems_5 : decode cX7_stems 5 = .ok (.aload_n 0, 1) := by decide +kernel
theorem dX7_stems_6 : decode cX7_stems 6 = .ok (.getfield 16, 3) := by decide +kernel
theorem dX7_stems_9 : decode cX7_stems 9 = .ok (.iconst 0, 1) := by decide +kernel
theorem dX7_stems_10 : decode cX7_stems 10 = .ok (.iaload, 1) := by decide +kernel
theorem dX7_stems_11 : decode cX7_stems 11 = .ok (.if_icmp .ge 27, 3) := by decide +kernel
theorem dX7_stems_14 : decode cX7_stems 14 = .ok (.iload_n 1, 1) := by decide +kernel
theorem dX7_stems_15 : decode cX7_stems 15 = .ok (.aload_n 0, 1) := by decide +kernel
theorem dX7_stems_16 : decode cX7_stems 16 = .ok (.getfield 35, 3) := by decide +kernel
theorem dX7_stems_19 : decode cX7_stems 19 = .ok (.iload_n 2, 1) := by decide +kernel
theorem dX7_stems_20 : decode cX7_stems 20 = .ok (.iaload, 1) := by decide +kernel
theorem dX7_stems_21 : decode cX7_stems 21 = .ok (.iconst 2, 1) := by decide +kernel
theorem dX7_stems_22 : decode cX7_stems 22 = .ok (.if_icmp .ge 7, 3) := by decide +kernel
theorem dX7_stems_25 : decode cX7_stems 25 = .ok (.iconst 1, 1) := by decide +kernel
theorem dX7_stems_26 : decode cX7_stems 26 = .ok (.goto 4, 3) := by decide +kernel
theorem dX7_stems_29 : decode cX7_stems 29 = .ok (.iconst 0, 1) := by decide +kernel
theorem dX7_stems_30 : decode cX7_stems 30 = .ok (.iadd, 1) := by decide +kernel
theorem dX7_stems_31 : decode cX7_stems 31 = .ok (.istore_n 1, 1) := by decide +kernel
theorem dX7_stems_32 : decode cX7_stems 32 = .ok (.iinc 2 1, 3) := by decide +kernel
theorem dX7_stems_35 : decode cX7_stems 35 = .ok (.goto (-31), 3) := by decide +kernel
theorem dX7_stems_38 : decode cX7_stems 38 = .ok (.iload_n 1, 1) := by decide +kernel
theorem dX7_stems_39 : decode cX7_stems 39 = .ok (.ireturn, 1) := by decide +kernel
theorem dX7_gone_0 : decode cX7_gone 0 = .ok (.iconst 0, 1) := by decide +kernel
theorem dX7_gone_1 : decode cX7_gone 1 = .ok (.istore_n 1, 1) := by decide +kernel
theorem dX7_gone_2 : decode cX7_gone 2 = .ok (.iconst 0, 1) := by decide +kernel
theorem dX7_gone_3 : decode cX7_gone 3 = .ok (.istore_n 2, 1) := by decide +kernel
theorem dX7_gone_4 : decode cX7_gone 4 = .ok (.iload_n 2, 1) := by decide +kernel
theorem dX7_gone_5 : decode cX7_gone 5 = .ok (.aload_n 0, 1) := by decide +kernel
theorem dX7_gone_6 : decode cX7_gone 6 = .ok (.getfield 16, 3) := by decide +kernel
theorem dX7_gone_9 : decode cX7_gone 9 = .ok (.iconst 3, 1) := by decide +kernel
theorem dX7_gone_10 : decode cX7_gone 10 = .ok (.iaload, 1) := by decide +kernel
theorem dX7_gone_11 : decode cX7_gone 11 = .ok (.if_icmp .ge 38, 3) := by decide +kernel
theorem dX7_gone_14 : decode cX7_gone 14 = .ok (.iload_n 1, 1) := by decide +kernel
theorem dX7_gone_15 : decode cX7_gone 15 = .ok (.aload_n 0, 1) := by decide +kernel
theorem dX7_gone_16 : decode cX7_gone 16 = .ok (.getfield 16, 3) := by decide +kernel
theorem dX7_gone_19 : decode cX7_gone 19 = .ok (.sipush 756, 3) := by decide +kernel
theorem dX7_gone_22 : decode cX7_gone 22 = .ok (.bipush 14, 2) := by decide +kernel
theorem dX7_gone_24 : decode cX7_gone 24 = .ok (.iload_n 2, 1) := by decide +kernel
theorem dX7_gone_25 : decode cX7_gone 25 = .ok (.imul, 1) := by decide +kernel
theorem dX7_gone_26 : decode cX7_gone 26 = .ok (.iadd, 1) := by decide +kernel
theorem dX7_gone_27 : decode cX7_gone 27 = .ok (.bipush 13, 2) := by decide +kernel
theorem dX7_gone_29 : decode cX7_gone 29 = .ok (.iadd, 1) := by decide +kernel
theorem dX7_gone_30 : decode cX7_gone 30 = .ok (.iaload, 1) := by decide +kernel
theorem dX7_gone_31 : decode cX7_gone 31 = .ok (.bipush (-2), 2) := by decide +kernel
theorem dX7_gone_33 : decode cX7_gone 33 = .ok (.if_icmp .ne 7, 3) := by decide +kernel
theorem dX7_gone_36 : decode cX7_gone 36 = .ok (.iconst 1, 1) := by decide +kernel
theorem dX7_gone_37 : decode cX7_gone 37 = .ok (.goto 4, 3) := by decide +kernel
theorem dX7_gone_40 : decode cX7_gone 40 = .ok (.iconst 0, 1) := by decide +kernel
theorem dX7_gone_41 : decode cX7_gone 41 = .ok (.iadd, 1) := by decide +kernel
theorem dX7_gone_42 : decode cX7_gone 42 = .ok (.istore_n 1, 1) := by decide +kernel
theorem dX7_gone_43 : decode cX7_gone 43 = .ok (.iinc 2 1, 3) := by decide +kernel
theorem dX7_gone_46 : decode cX7_gone 46 = .ok (.goto (-42), 3) := by decide +kernel
theorem dX7_gone_49 : decode cX7_gone 49 = .ok (.iload_n 1, 1) := by decide +kernel
theorem dX7_gone_50 : decode cX7_gone 50 = .ok (.ireturn, 1) := by decide +kernel
set_option maxRecDepth 20000 in
theorem ggX7_about_X7_in : GoodIn wsX7_about wsX7_in := goodIn_r _ [7] (by decide +kernel) (by decide +kernel)
set_option maxRecDepth 20000 in
theorem gX7_about_X7_in : GoodIn wsX7_about (va_wsS RX7 118 yX7_in wsX7_in) := goodIn_app (goodIn_of _ (by decide +kernel)) ggX7_about_X7_in
set_option maxRecDepth 20000 in
theorem ggX7_about_X7_refused : GoodIn wsX7_about wsX7_refused := goodIn_r _ [11, 12, 77, 78, 79, 80, 81, 82, 83, 84, 85, 86, 87, 88, 89, 90, 91, 92, 93, 94] (by decide +kernel) (by decide +kernel)
set_option maxRecDepth 20000 in
theorem gX7_about_X7_refused : GoodIn wsX7_about (wsV RX7 125 RX7 yX7_refused wsX7_refused) := goodIn_app (goodIn_of _ (by decide +kernel)) ggX7_about_X7_refused
set_option maxRecDepth 20000 in
theorem ggX7_about_X7_layNow : GoodIn wsX7_about wsX7_layNow := goodIn_r _ [16, 3, 17, 18, 19, 6, 20, 21, 22, 23, 2, 24, 25, 26, 27, 28, 29, 30, 31, 32, 33, 34, 35, 36, 37, 38, 39, 40, 41, 42, 43, 44, 45, 46, 47, 48, 49, 50, 51, 52, 53, 54, 55, 56, 57, 58, 59, 60, 61, 77, 78, 79, 80, 81, 82, 83, 84, 85, 86, 87, 88, 89, 90, 91, 92, 93, 94] (by decide +kernel) (by decide +kernel)
set_option maxRecDepth 20000 in
theorem gX7_about_X7_layNow : GoodIn wsX7_about (wsV RX7 105 RX7 yX7_layNow wsX7_layNow) := goodIn_app (goodIn_of _ (by decide +kernel)) ggX7_about_X7_layNow
set_option maxRecDepth 20000 in
theorem ggX7_about_X7_lettered : GoodIn wsX7_about wsX7_lettered := goodIn_r _ [64] (by decide +kernel) (by decide +kernel)
set_option maxRecDepth 20000 in
theorem gX7_about_X7_lettered : GoodIn wsX7_about (va_wsS RX7 170 yX7_lettered wsX7_lettered) := goodIn_app (goodIn_of _ (by decide +kernel)) ggX7_about_X7_lettered
set_option maxRecDepth 20000 in
theorem ggX7_about_X7_stems : GoodIn wsX7_about wsX7_stems := goodIn_r _ [68, 3, 2, 77, 78, 79, 80, 81, 82, 83, 84, 85, 86, 87, 88, 89, 90, 91, 92, 93, 94] (by decide +kernel) (by decide +kernel)
set_option maxRecDepth 20000 in
theorem gX7_about_X7_stems : GoodIn wsX7_about (wsV RX7 173 RX7 yX7_stems wsX7_stems) := goodIn_app (goodIn_of _ (by decide +kernel)) ggX7_about_X7_stems
set_option maxRecDepth 20000 in
theorem ggX7_about_X7_longest : GoodIn wsX7_about wsX7_longest := goodIn_r _ [72, 22, 77, 78, 79, 80, 81, 82, 83, 84, 85, 86, 87, 88, 89, 90, 91, 92, 93, 94] (by decide +kernel) (by decide +kernel)
set_option maxRecDepth 20000 in
theorem gX7_about_X7_longest : GoodIn wsX7_about (wsV RX7 176 RX7 yX7_longest wsX7_longest) := goodIn_app (goodIn_of _ (by decide +kernel)) ggX7_about_X7_longest
set_option maxRecDepth 20000 in
theorem ggX7_about_X7_gone : GoodIn wsX7_about wsX7_gone := goodIn_r _ [76, 3, 77, 78, 79, 80, 81, 82, 83, 84, 85, 86, 87, 88, 89, 90, 91, 92, 93, 94] (by decide +kernel) (by decide +kernel)
set_option maxRecDepth 20000 in
theorem gX7_about_X7_gone : GoodIn wsX7_about (wsV RX7 180 RX7 yX7_gone wsX7_gone) := goodIn_app (goodIn_of _ (by decide +kernel)) ggX7_about_X7_gone
theorem dX7_about_0 : decode cX7_about 0 = .ok (.aload_n 0, 1) := by decide +kernel
theorem dX7_about_1 : decode cX7_about 1 = .ok (.iload_n 1, 1) := by decide +kernel
theorem dX7_about_2 : decode cX7_about 2 = .ok (.i2l, 1) := by decide +kernel
theorem dX7_about_3 : decode cX7_about 3 = .ok (.lconst 0, 1) := by decide +kernel
theorem dX7_about_4 : decode cX7_about 4 = .ok (.ldc2_w 168, 3) := by decide +kernel
theorem dX7_about_7 : decode cX7_about 7 = .ok (.invokestatic 118, 3) := by decide +kernel
theorem dX7_about_10 : decode cX7_about 10 = .ok (.ifCond .eq 7, 3) := by decide +kernel
theorem dX7_about_13 : decode cX7_about 13 = .ok (.iconst 0, 1) := by decide +kernel
theorem dX7_about_14 : decode cX7_about 14 = .ok (.goto 4, 3) := by decide +kernel
theorem dX7_about_17 : decode cX7_about 17 = .ok (.iconst 1, 1) := by decide +kernel
theorem dX7_about_18 : decode cX7_about 18 = .ok (.invokevirtual 125, 3) := by decide +kernel
theorem dX7_about_21 : decode cX7_about 21 = .ok (.ifCond .eq 5, 3) := by decide +kernel
theorem dX7_about_24 : decode cX7_about 24 = .ok (.iconst 0, 1) := by decide +kernel
theorem dX7_about_25 : decode cX7_about 25 = .ok (.ireturn, 1) := by decide +kernel
theorem dX7_about_26 : decode cX7_about 26 = .ok (.aload_n 0, 1) := by decide +kernel
theorem dX7_about_27 : decode cX7_about 27 = .ok (.invokevirtual 105, 3) := by decide +kernel
theorem dX7_about_30 : decode cX7_about 30 = .ok (.iload_n 1, 1) := by decide +kernel
theorem dX7_about_31 : decode cX7_about 31 = .ok (.tableswitch 75 3 7 #[33, 47, 52, 63, 70], 33) := by decide +kernel
theorem dX7_about_64 : decode cX7_about 64 = .ok (.aload_n 0, 1) := by decide +kernel
theorem dX7_about_65 : decode cX7_about 65 = .ok (.getfield 35, 3) := by decide +kernel
theorem dX7_about_68 : decode cX7_about 68 = .ok (.aload_n 0, 1) := by decide +kernel
theorem dX7_about_69 : decode cX7_about 69 = .ok (.getfield 16, 3) := by decide +kernel
theorem dX7_about_72 : decode cX7_about 72 = .ok (.iconst 0, 1) := by decide +kernel
theorem dX7_about_73 : decode cX7_about 73 = .ok (.iaload, 1) := by decide +kernel
theorem dX7_about_74 : decode cX7_about 74 = .ok (.invokestatic 170, 3) := by decide +kernel
theorem dX7_about_77 : decode cX7_about 77 = .ok (.ireturn, 1) := by decide +kernel
theorem dX7_about_78 : decode cX7_about 78 = .ok (.aload_n 0, 1) := by decide +kernel
theorem dX7_about_79 : decode cX7_about 79 = .ok (.invokevirtual 173, 3) := by decide +kernel
theorem dX7_about_82 : decode cX7_about 82 = .ok (.ireturn, 1) := by decide +kernel
theorem dX7_about_83 : decode cX7_about 83 = .ok (.aload_n 0, 1) := by decide +kernel
theorem dX7_about_84 : decode cX7_about 84 = .ok (.aload_n 0, 1) := by decide +kernel
theorem dX7_about_85 : decode cX7_about 85 = .ok (.getfield 16, 3) := by decide +kernel
theorem dX7_about_88 : decode cX7_about 88 = .ok (.iconst 0, 1) := by decide +kernel
theorem dX7_about_89 : decode cX7_about 89 = .ok (.iaload, 1) := by decide +kernel
theorem dX7_about_90 : decode cX7_about 90 = .ok (.invokevirtual 176, 3) := by decide +kernel
theorem dX7_about_93 : decode cX7_about 93 = .ok (.ireturn, 1) := by decide +kernel
theorem dX7_about_94 : decode cX7_about 94 = .ok (.aload_n 0, 1) := by decide +kernel
theorem dX7_about_95 : decode cX7_about 95 = .ok (.getfield 16, 3) := by decide +kernel
theorem dX7_about_98 : decode cX7_about 98 = .ok (.iconst 3, 1) := by decide +kernel
theorem dX7_about_99 : decode cX7_about 99 = .ok (.iaload, 1) := by decide +kernel
theorem dX7_about_100 : decode cX7_about 100 = .ok (.ireturn, 1) := by decide +kernel
theorem dX7_about_101 : decode cX7_about 101 = .ok (.aload_n 0, 1) := by decide +kernel
theorem dX7_about_102 : decode cX7_about 102 = .ok (.invokevirtual 180, 3) := by decide +kernel
theorem dX7_about_105 : decode cX7_about 105 = .ok (.ireturn, 1) := by decide +kernel
theorem dX7_about_106 : decode cX7_about 106 = .ok (.aload_n 0, 1) := by decide +kernel
theorem dX7_about_107 : decode cX7_about 107 = .ok (.getfield 16, 3) := by decide +kernel
theorem dX7_about_110 : decode cX7_about 110 = .ok (.iload_n 1, 1) := by decide +kernel
theorem dX7_about_111 : decode cX7_about 111 = .ok (.iaload, 1) := by decide +kernel
theorem dX7_about_112 : decode cX7_about 112 = .ok (.ireturn, 1) := by decide +kernel
set_option maxRecDepth 20000 in
theorem ggX7_isWork_X7_in : GoodIn wsX7_isWork wsX7_in := goodIn_r _ [5] (by decide +kernel) (by decide +kernel)
set_option maxRecDepth 20000 in
theorem gX7_isWork_X7_in : GoodIn wsX7_isWork (va_wsS RX7 118 yX7_in wsX7_in) := goodIn_app (goodIn_of _ (by decide +kernel)) ggX7_isWork_X7_in
theorem dX7_isWork_0 : decode cX7_isWork 0 = .ok (.iload_n 1, 1) := by decide +kernel
theorem dX7_isWork_1 : decode cX7_isWork 1 = .ok (.i2l, 1) := by decide +kernel
theorem dX7_isWork_2 : decode cX7_isWork 2 = .ok (.lconst 0, 1) := by decide +kernel
theorem dX7_isWork_3 : decode cX7_isWork 3 = .ok (.aload_n 0, 1) := by decide +kernel
theorem dX7_isWork_4 : decode cX7_isWork 4 = .ok (.getfield 16, 3) := by decide +kernel
theorem dX7_isWork_7 : decode cX7_isWork 7 = .ok (.iconst 0, 1) := by decide +kernel
theorem dX7_isWork_8 : decode cX7_isWork 8 = .ok (.iaload, 1) := by decide +kernel
theorem dX7_isWork_9 : decode cX7_isWork 9 = .ok (.iconst 1, 1) := by decide +kernel
theorem dX7_isWork_10 : decode cX7_isWork 10 = .ok (.isub, 1) := by decide +kernel
theorem dX7_isWork_11 : decode cX7_isWork 11 = .ok (.i2l, 1) := by decide +kernel
theorem dX7_isWork_12 : decode cX7_isWork 12 = .ok (.invokestatic 118, 3) := by decide +kernel
theorem dX7_isWork_15 : decode cX7_isWork 15 = .ok (.ireturn, 1) := by decide +kernel
set_option maxRecDepth 20000 in
theorem ggX7_work_X7_isWork : GoodIn wsX7_work wsX7_isWork := goodIn_r _ [11, 2, 12, 13, 10, 14, 66, 67, 68, 69, 70, 71, 72, 73, 74, 75, 76, 77, 78, 79, 80, 81, 82, 83] (by decide +kernel) (by decide +kernel)
set_option maxRecDepth 20000 in
theorem gX7_work_X7_isWork : GoodIn wsX7_work (wsV RX7 183 RX7 yX7_isWork wsX7_isWork) := goodIn_app (goodIn_of _ (by decide +kernel)) ggX7_work_X7_isWork
set_option maxRecDepth 20000 in
theorem ggX7_work_X7_in : GoodIn wsX7_work wsX7_in := goodIn_r _ [14] (by decide +kernel) (by decide +kernel)
set_option maxRecDepth 20000 in
theorem gX7_work_X7_in : GoodIn wsX7_work (va_wsS RX7 118 yX7_in wsX7_in) := goodIn_app (goodIn_of _ (by decide +kernel)) ggX7_work_X7_in
set_option maxRecDepth 20000 in
theorem ggX7_work_X7_refused : GoodIn wsX7_work wsX7_refused := goodIn_r _ [18, 19, 66, 67, 68, 69, 70, 71, 72, 73, 74, 75, 76, 77, 78, 79, 80, 81, 82, 83] (by decide +kernel) (by decide +kernel)
set_option maxRecDepth 20000 in
theorem gX7_work_X7_refused : GoodIn wsX7_work (wsV RX7 125 RX7 yX7_refused wsX7_refused) := goodIn_app (goodIn_of _ (by decide +kernel)) ggX7_work_X7_refused
set_option maxRecDepth 20000 in
theorem ggX7_work_X7_layNow : GoodIn wsX7_work wsX7_layNow := goodIn_r _ [23, 2, 24, 25, 26, 10, 27, 28, 3, 6, 4, 5, 29, 30, 31, 32, 33, 34, 35, 36, 37, 38, 39, 40, 41, 42, 43, 44, 45, 46, 47, 48, 49, 50, 51, 52, 53, 54, 55, 56, 57, 58, 59, 60, 61, 62, 63, 64, 65, 66, 67, 68, 69, 70, 71, 72, 73, 74, 75, 76, 77, 78, 79, 80, 81, 82, 83] (by decide +kernel) (by decide +kernel)
set_option maxRecDepth 20000 in
theorem gX7_work_X7_layNow : GoodIn wsX7_work (wsV RX7 105 RX7 yX7_layNow wsX7_layNow) := goodIn_app (goodIn_of _ (by decide +kernel)) ggX7_work_X7_layNow
set_option maxRecDepth 20000 in
theorem ggX7_work_X7_cell : GoodIn wsX7_work wsX7_cell := goodIn_r _ [35] (by decide +kernel) (by decide +kernel)
set_option maxRecDepth 20000 in
theorem gX7_work_X7_cell : GoodIn wsX7_work (va_wsS RX7 67 yX7_cell wsX7_cell) := goodIn_app (goodIn_of _ (by decide +kernel)) ggX7_work_X7_cell
theorem dX7_work_0 : decode cX7_work 0 = .ok (.aload_n 0, 1) := by decide +kernel
theorem dX7_work_1 : decode cX7_work 1 = .ok (.aload_n 0, 1) := by decide +kernel
theorem dX7_work_2 : decode cX7_work 2 = .ok (.iload_n 1, 1) := by decide +kernel
theorem dX7_work_3 : decode cX7_work 3 = .ok (.invokevirtual 183, 3) := by decide +kernel
theorem dX7_work_6 : decode cX7_work 6 = .ok (.ifCond .ne 7, 3) := by decide +kernel
theorem dX7_work_9 : decode cX7_work 9 = .ok (.iconst 1, 1) := by decide +kernel
theorem dX7_work_10 : decode cX7_work 10 = .ok (.goto 20, 3) := by decide +kernel
theorem dX7_work_13 : decode cX7_work 13 = .ok (.iload_n 2, 1) := by decide +kernel
theorem dX7_work_14 : decode cX7_work 14 = .ok (.i2l, 1) := by decide +kernel
theorem dX7_work_15 : decode cX7_work 15 = .ok (.lconst 0, 1) := by decide +kernel
theorem dX7_work_16 : decode cX7_work 16 = .ok (.ldc2_w 186, 3) := by decide +kernel
theorem dX7_work_19 : decode cX7_work 19 = .ok (.invokestatic 118, 3) := by decide +kernel
theorem dX7_work_22 : decode cX7_work 22 = .ok (.ifCond .eq 7, 3) := by decide +kernel
theorem dX7_work_25 : decode cX7_work 25 = .ok (.iconst 0, 1) := by decide +kernel
theorem dX7_work_26 : decode cX7_work 26 = .ok (.goto 4, 3) := by decide +kernel
theorem dX7_work_29 : decode cX7_work 29 = .ok (.iconst 2, 1) := by decide +kernel
theorem dX7_work_30 : decode cX7_work 30 = .ok (.invokevirtual 125, 3) := by decide +kernel
theorem dX7_work_33 : decode cX7_work 33 = .ok (.ifCond .eq 5, 3) := by decide +kernel
theorem dX7_work_36 : decode cX7_work 36 = .ok (.iconst 0, 1) := by decide +kernel
theorem dX7_work_37 : decode cX7_work 37 = .ok (.ireturn, 1) := by decide +kernel
theorem dX7_work_38 : decode cX7_work 38 = .ok (.aload_n 0, 1) := by decide +kernel
theorem dX7_work_39 : decode cX7_work 39 = .ok (.invokevirtual 105, 3) := by decide +kernel
theorem dX7_work_42 : decode cX7_work 42 = .ok (.iload_n 2, 1) := by decide +kernel
theorem dX7_work_43 : decode cX7_work 43 = .ok (.tableswitch 84 0 5 #[37, 37, 48, 60, 70, 77], 37) := by decide +kernel
theorem dX7_work_80 : decode cX7_work 80 = .ok (.aload_n 0, 1) := by decide +kernel
theorem dX7_work_81 : decode cX7_work 81 = .ok (.getfield 16, 3) := by decide +kernel
theorem dX7_work_84 : decode cX7_work 84 = .ok (.iload_n 1, 1) := by decide +kernel
theorem dX7_work_85 : decode cX7_work 85 = .ok (.iload_n 2, 1) := by decide +kernel
theorem dX7_work_86 : decode cX7_work 86 = .ok (.invokestatic 67, 3) := by decide +kernel
theorem dX7_work_89 : decode cX7_work 89 = .ok (.iaload, 1) := by decide +kernel
theorem dX7_work_90 : decode cX7_work 90 = .ok (.ireturn, 1) := by decide +kernel
theorem dX7_work_91 : decode cX7_work 91 = .ok (.aload_n 0, 1) := by decide +kernel
theorem dX7_work_92 : decode cX7_work 92 = .ok (.getfield 16, 3) := by decide +kernel
theorem dX7_work_95 : decode cX7_work 95 = .ok (.iload_n 1, 1) := by decide +kernel
theorem dX7_work_96 : decode cX7_work 96 = .ok (.bipush 38, 2) := by decide +kernel
theorem dX7_work_98 : decode cX7_work 98 = .ok (.invokestatic 67, 3) := by decide +kernel
theorem dX7_work_101 : decode cX7_work 101 = .ok (.iaload, 1) := by decide +kernel
theorem dX7_work_102 : decode cX7_work 102 = .ok (.ireturn, 1) := by decide +kernel
theorem dX7_work_103 : decode cX7_work 103 = .ok (.aload_n 0, 1) := by decide +kernel
theorem dX7_work_104 : decode cX7_work 104 = .ok (.getfield 32, 3) := by decide +kernel
theorem dX7_work_107 : decode cX7_work 107 = .ok (.bipush 14, 2) := by decide +kernel
theorem dX7_work_109 : decode cX7_work 109 = .ok (.iload_n 1, 1) := by decide +kernel
theorem dX7_work_110 : decode cX7_work 110 = .ok (.imul, 1) := by decide +kernel
theorem dX7_work_111 : decode cX7_work 111 = .ok (.iaload, 1) := by decide +kernel
theorem dX7_work_112 : decode cX7_work 112 = .ok (.ireturn, 1) := by decide +kernel
theorem dX7_work_113 : decode cX7_work 113 = .ok (.aload_n 0, 1) := by decide +kernel
theorem dX7_work_114 : decode cX7_work 114 = .ok (.getfield 35, 3) := by decide +kernel
theorem dX7_work_117 : decode cX7_work 117 = .ok (.iload_n 1, 1) := by decide +kernel
theorem dX7_work_118 : decode cX7_work 118 = .ok (.iaload, 1) := by decide +kernel
theorem dX7_work_119 : decode cX7_work 119 = .ok (.ireturn, 1) := by decide +kernel
theorem dX7_work_120 : decode cX7_work 120 = .ok (.aload_n 0, 1) := by decide +kernel
theorem dX7_work_121 : decode cX7_work 121 = .ok (.getfield 41, 3) := by decide +kernel
theorem dX7_work_124 : decode cX7_work 124 = .ok (.iload_n 1, 1) := by decide +kernel
theorem dX7_work_125 : decode cX7_work 125 = .ok (.iaload, 1) := by decide +kernel
theorem dX7_work_126 : decode cX7_work 126 = .ok (.ireturn, 1) := by decide +kernel
theorem dX7_work_127 : decode cX7_work 127 = .ok (.aload_n 0, 1) := by decide +kernel
theorem dX7_work_128 : decode cX7_work 128 = .ok (.getfield 38, 3) := by decide +kernel
theorem dX7_work_131 : decode cX7_work 131 = .ok (.iload_n 1, 1) := by decide +kernel
theorem dX7_work_132 : decode cX7_work 132 = .ok (.iaload, 1) := by decide +kernel
theorem dX7_work_133 : decode cX7_work 133 = .ok (.ireturn, 1) := by decide +kernel
set_option maxRecDepth 20000 in
theorem ggX7_letter_X7_isWork : GoodIn wsX7_letter wsX7_isWork := goodIn_r _ [6, 1, 7, 8, 5, 9, 21, 22, 23, 24, 25, 26, 27, 28, 29, 30, 31, 32, 33, 34, 35, 36, 37, 38] (by decide +kernel) (by decide +kernel)
set_option maxRecDepth 20000 in
theorem gX7_letter_X7_isWork : GoodIn wsX7_letter (wsV RX7 183 RX7 yX7_isWork wsX7_isWork) := goodIn_app (goodIn_of _ (by decide +kernel)) ggX7_letter_X7_isWork
set_option maxRecDepth 20000 in
theorem ggX7_letter_X7_cell : GoodIn wsX7_letter wsX7_cell := goodIn_r _ [12] (by decide +kernel) (by decide +kernel)
set_option maxRecDepth 20000 in
theorem gX7_letter_X7_cell : GoodIn wsX7_letter (va_wsS RX7 67 yX7_cell wsX7_cell) := goodIn_app (goodIn_of _ (by decide +kernel)) ggX7_letter_X7_cell
set_option maxRecDepth 20000 in
theorem ggX7_letter_X7_in : GoodIn wsX7_letter wsX7_in := goodIn_r _ [9] (by decide +kernel) (by decide +kernel)
set_option maxRecDepth 20000 in
theorem gX7_letter_X7_in : GoodIn wsX7_letter (va_wsS RX7 118 yX7_in wsX7_in) := goodIn_app (goodIn_of _ (by decide +kernel)) ggX7_letter_X7_in
set_option maxRecDepth 20000 in
theorem ggX7_letter_X7_refused : GoodIn wsX7_letter wsX7_refused := goodIn_r _ [16, 17, 21, 22, 23, 24, 25, 26, 27, 28, 29, 30, 31, 32, 33, 34, 35, 36, 37, 38] (by decide +kernel) (by decide +kernel)
set_option maxRecDepth 20000 in
theorem gX7_letter_X7_refused : GoodIn wsX7_letter (wsV RX7 125 RX7 yX7_refused wsX7_refused) := goodIn_app (goodIn_of _ (by decide +kernel)) ggX7_letter_X7_refused
set_option maxRecDepth 20000 in
theorem ggX7_letter_X7_author : GoodIn wsX7_letter wsX7_author := goodIn_r _ [20, 10, 11, 5, 12] (by decide +kernel) (by decide +kernel)
set_option maxRecDepth 20000 in
theorem gX7_letter_X7_author : GoodIn wsX7_letter (va_wsS RX7 71 yX7_author wsX7_author) := goodIn_app (goodIn_of _ (by decide +kernel)) ggX7_letter_X7_author
theorem dX7_letter_0 : decode cX7_letter 0 = .ok (.aload_n 0, 1) := by decide +kernel
theorem dX7_letter_1 : decode cX7_letter 1 = .ok (.aload_n 0, 1) := by decide +kernel
theorem dX7_letter_2 : decode cX7_letter 2 = .ok (.iload_n 1, 1) := by decide +kernel
theorem dX7_letter_3 : decode cX7_letter 3 = .ok (.invokevirtual 183, 3) := by decide +kernel
theorem dX7_letter_6 : decode cX7_letter 6 = .ok (.ifCond .ne 7, 3) := by decide +kernel
theorem dX7_letter_9 : decode cX7_letter 9 = .ok (.iconst 1, 1) := by decide +kernel
theorem dX7_letter_10 : decode cX7_letter 10 = .ok (.goto 32, 3) := by decide +kernel
theorem dX7_letter_13 : decode cX7_letter 13 = .ok (.iload_n 2, 1) := by decide +kernel
theorem dX7_letter_14 : decode cX7_letter 14 = .ok (.i2l, 1) := by decide +kernel
theorem dX7_letter_15 : decode cX7_letter 15 = .ok (.lconst 0, 1) := by decide +kernel
theorem dX7_letter_16 : decode cX7_letter 16 = .ok (.aload_n 0, 1) := by decide +kernel
theorem dX7_letter_17 : decode cX7_letter 17 = .ok (.getfield 16, 3) := by decide +kernel
theorem dX7_letter_20 : decode cX7_letter 20 = .ok (.iload_n 1, 1) := by decide +kernel
theorem dX7_letter_21 : decode cX7_letter 21 = .ok (.iconst 1, 1) := by decide +kernel
theorem dX7_letter_22 : decode cX7_letter 22 = .ok (.invokestatic 67, 3) := by decide +kernel
theorem dX7_letter_25 : decode cX7_letter 25 = .ok (.iaload, 1) := by decide +kernel
theorem dX7_letter_26 : decode cX7_letter 26 = .ok (.i2l, 1) := by decide +kernel
theorem dX7_letter_27 : decode cX7_letter 27 = .ok (.invokestatic 118, 3) := by decide +kernel
theorem dX7_letter_30 : decode cX7_letter 30 = .ok (.ifCond .eq 7, 3) := by decide +kernel
theorem dX7_letter_33 : decode cX7_letter 33 = .ok (.iload_n 3, 1) := by decide +kernel
theorem dX7_letter_34 : decode cX7_letter 34 = .ok (.ifCond .ge 7, 3) := by decide +kernel
theorem dX7_letter_37 : decode cX7_letter 37 = .ok (.iconst 2, 1) := by decide +kernel
theorem dX7_letter_38 : decode cX7_letter 38 = .ok (.goto 4, 3) := by decide +kernel
theorem dX7_letter_41 : decode cX7_letter 41 = .ok (.iconst 0, 1) := by decide +kernel
theorem dX7_letter_42 : decode cX7_letter 42 = .ok (.invokevirtual 125, 3) := by decide +kernel
theorem dX7_letter_45 : decode cX7_letter 45 = .ok (.ifCond .eq 5, 3) := by decide +kernel
theorem dX7_letter_48 : decode cX7_letter 48 = .ok (.iconst 0, 1) := by decide +kernel
theorem dX7_letter_49 : decode cX7_letter 49 = .ok (.ireturn, 1) := by decide +kernel
theorem dX7_letter_50 : decode cX7_letter 50 = .ok (.iload_n 2, 1) := by decide +kernel
theorem dX7_letter_51 : decode cX7_letter 51 = .ok (.aload_n 0, 1) := by decide +kernel
theorem dX7_letter_52 : decode cX7_letter 52 = .ok (.getfield 16, 3) := by decide +kernel
theorem dX7_letter_55 : decode cX7_letter 55 = .ok (.iload_n 1, 1) := by decide +kernel
theorem dX7_letter_56 : decode cX7_letter 56 = .ok (.iconst 1, 1) := by decide +kernel
theorem dX7_letter_57 : decode cX7_letter 57 = .ok (.invokestatic 67, 3) := by decide +kernel
theorem dX7_letter_60 : decode cX7_letter 60 = .ok (.iaload, 1) := by decide +kernel
theorem dX7_letter_61 : decode cX7_letter 61 = .ok (.if_icmp .ne 12, 3) := by decide +kernel
theorem dX7_letter_64 : decode cX7_letter 64 = .ok (.iload_n 1, 1) := by decide +kernel
theorem dX7_letter_65 : decode cX7_letter 65 = .ok (.bipush 38, 2) := by decide +kernel
theorem dX7_letter_67 : decode cX7_letter 67 = .ok (.invokestatic 67, 3) := by decide +kernel
theorem dX7_letter_70 : decode cX7_letter 70 = .ok (.goto 8, 3) := by decide +kernel
theorem dX7_letter_73 : decode cX7_letter 73 = .ok (.iload_n 1, 1) := by decide +kernel
theorem dX7_letter_74 : decode cX7_letter 74 = .ok (.iload_n 2, 1) := by decide +kernel
theorem dX7_letter_75 : decode cX7_letter 75 = .ok (.invokestatic 71, 3) := by decide +kernel
theorem dX7_letter_78 : decode cX7_letter 78 = .ok (.istore 4, 2) := by decide +kernel
theorem dX7_letter_80 : decode cX7_letter 80 = .ok (.iload_n 3, 1) := by decide +kernel
theorem dX7_letter_81 : decode cX7_letter 81 = .ok (.aload_n 0, 1) := by decide +kernel
theorem dX7_letter_82 : decode cX7_letter 82 = .ok (.getfield 16, 3) := by decide +kernel
theorem dX7_letter_85 : decode cX7_letter 85 = .ok (.iload 4, 2) := by decide +kernel
theorem dX7_letter_87 : decode cX7_letter 87 = .ok (.iaload, 1) := by decide +kernel
theorem dX7_letter_88 : decode cX7_letter 88 = .ok (.if_icmp .ge 17, 3) := by decide +kernel
theorem dX7_letter_91 : decode cX7_letter 91 = .ok (.aload_n 0, 1) := by decide +kernel
theorem dX7_letter_92 : decode cX7_letter 92 = .ok (.getfield 16, 3) := by decide +kernel
theorem dX7_letter_95 : decode cX7_letter 95 = .ok (.iload 4, 2) := by decide +kernel
theorem dX7_letter_97 : decode cX7_letter 97 = .ok (.iconst 1, 1) := by decide +kernel
theorem dX7_letter_98 : decode cX7_letter 98 = .ok (.iadd, 1) := by decide +kernel
theorem dX7_letter_99 : decode cX7_letter 99 = .ok (.iload_n 3, 1) := by decide +kernel
theorem dX7_letter_100 : decode cX7_letter 100 = .ok (.iadd, 1) := by decide +kernel
theorem dX7_letter_101 : decode cX7_letter 101 = .ok (.iaload, 1) := by decide +kernel
theorem dX7_letter_102 : decode cX7_letter 102 = .ok (.goto 5, 3) := by decide +kernel
theorem dX7_letter_105 : decode cX7_letter 105 = .ok (.bipush (-9), 2) := by decide +kernel
theorem dX7_letter_107 : decode cX7_letter 107 = .ok (.ireturn, 1) := by decide +kernel
set_option maxRecDepth 20000 in
theorem ggX7_key_X7_isWork : GoodIn wsX7_key wsX7_isWork := goodIn_r _ [6, 7, 8, 9, 5, 10, 65, 66, 67, 68, 69, 70, 71, 72, 73, 74, 75, 76, 77, 78, 79, 80, 81, 82] (by decide +kernel) (by decide +kernel)
set_option maxRecDepth 20000 in
theorem gX7_key_X7_isWork : GoodIn wsX7_key (wsV RX7 183 RX7 yX7_isWork wsX7_isWork) := goodIn_app (goodIn_of _ (by decide +kernel)) ggX7_key_X7_isWork
set_option maxRecDepth 20000 in
theorem ggX7_key_X7_refused : GoodIn wsX7_key wsX7_refused := goodIn_r _ [14, 15, 65, 66, 67, 68, 69, 70, 71, 72, 73, 74, 75, 76, 77, 78, 79, 80, 81, 82] (by decide +kernel) (by decide +kernel)
set_option maxRecDepth 20000 in
theorem gX7_key_X7_refused : GoodIn wsX7_key (wsV RX7 125 RX7 yX7_refused wsX7_refused) := goodIn_app (goodIn_of _ (by decide +kernel)) ggX7_key_X7_refused
set_option maxRecDepth 20000 in
theorem ggX7_key_X7_layNow : GoodIn wsX7_key wsX7_layNow := goodIn_r _ [19, 7, 20, 21, 22, 5, 23, 24, 1, 25, 26, 27, 28, 29, 30, 31, 32, 33, 34, 35, 36, 37, 38, 39, 40, 41, 42, 43, 44, 45, 46, 47, 48, 49, 50, 51, 52, 53, 54, 55, 56, 57, 58, 59, 60, 61, 62, 63, 64, 65, 66, 67, 68, 69, 70, 71, 72, 73, 74, 75, 76, 77, 78, 79, 80, 81, 82] (by decide +kernel) (by decide +kernel)
set_option maxRecDepth 20000 in
theorem gX7_key_X7_layNow : GoodIn wsX7_key (wsV RX7 105 RX7 yX7_layNow wsX7_layNow) := goodIn_app (goodIn_of _ (by decide +kernel)) ggX7_key_X7_layNow
theorem dX7_key_0 : decode cX7_key 0 = .ok (.aload_n 0, 1) := by decide +kernel
theorem dX7_key_1 : decode cX7_key 1 = .ok (.aload_n 0, 1) := by decide +kernel
theorem dX7_key_2 : decode cX7_key 2 = .ok (.iload_n 1, 1) := by decide +kernel
theorem dX7_key_3 : decode cX7_key 3 = .ok (.invokevirtual 183, 3) := by decide +kernel
theorem dX7_key_6 : decode cX7_key 6 = .ok (.ifCond .ne 7, 3) := by decide +kernel
theorem dX7_key_9 : decode cX7_key 9 = .ok (.iconst 1, 1) := by decide +kernel
theorem dX7_key_10 : decode cX7_key 10 = .ok (.goto 12, 3) := by decide +kernel
theorem dX7_key_13 : decode cX7_key 13 = .ok (.iload_n 2, 1) := by decide +kernel
theorem dX7_key_14 : decode cX7_key 14 = .ok (.ifCond .ge 7, 3) := by decide +kernel
theorem dX7_key_17 : decode cX7_key 17 = .ok (.iconst 2, 1) := by decide +kernel
theorem dX7_key_18 : decode cX7_key 18 = .ok (.goto 4, 3) := by decide +kernel
theorem dX7_key_21 : decode cX7_key 21 = .ok (.iconst 0, 1) := by decide +kernel
theorem dX7_key_22 : decode cX7_key 22 = .ok (.invokevirtual 125, 3) := by decide +kernel
theorem dX7_key_25 : decode cX7_key 25 = .ok (.ifCond .eq 5, 3) := by decide +kernel
theorem dX7_key_28 : decode cX7_key 28 = .ok (.iconst 0, 1) := by decide +kernel
theorem dX7_key_29 : decode cX7_key 29 = .ok (.ireturn, 1) := by decide +kernel
theorem dX7_key_30 : decode cX7_key 30 = .ok (.aload_n 0, 1) := by decide +kernel
theorem dX7_key_31 : decode cX7_key 31 = .ok (.invokevirtual 105, 3) := by decide +kernel
theorem dX7_key_34 : decode cX7_key 34 = .ok (.iload_n 2, 1) := by decide +kernel
theorem dX7_key_35 : decode cX7_key 35 = .ok (.aload_n 0, 1) := by decide +kernel
theorem dX7_key_36 : decode cX7_key 36 = .ok (.getfield 32, 3) := by decide +kernel
theorem dX7_key_39 : decode cX7_key 39 = .ok (.bipush 14, 2) := by decide +kernel
theorem dX7_key_41 : decode cX7_key 41 = .ok (.iload_n 1, 1) := by decide +kernel
theorem dX7_key_42 : decode cX7_key 42 = .ok (.imul, 1) := by decide +kernel
theorem dX7_key_43 : decode cX7_key 43 = .ok (.iaload, 1) := by decide +kernel
theorem dX7_key_44 : decode cX7_key 44 = .ok (.if_icmp .ge 19, 3) := by decide +kernel
theorem dX7_key_47 : decode cX7_key 47 = .ok (.aload_n 0, 1) := by decide +kernel
theorem dX7_key_48 : decode cX7_key 48 = .ok (.getfield 32, 3) := by decide +kernel
theorem dX7_key_51 : decode cX7_key 51 = .ok (.bipush 14, 2) := by decide +kernel
theorem dX7_key_53 : decode cX7_key 53 = .ok (.iload_n 1, 1) := by decide +kernel
theorem dX7_key_54 : decode cX7_key 54 = .ok (.imul, 1) := by decide +kernel
theorem dX7_key_55 : decode cX7_key 55 = .ok (.iconst 1, 1) := by decide +kernel
theorem dX7_key_56 : decode cX7_key 56 = .ok (.iadd, 1) := by decide +kernel
theorem dX7_key_57 : decode cX7_key 57 = .ok (.iload_n 2, 1) := by decide +kernel
theorem dX7_key_58 : decode cX7_key 58 = .ok (.iadd, 1) := by decide +kernel
theorem dX7_key_59 : decode cX7_key 59 = .ok (.iaload, 1) := by decide +kernel
theorem dX7_key_60 : decode cX7_key 60 = .ok (.goto 5, 3) := by decide +kernel
theorem dX7_key_63 : decode cX7_key 63 = .ok (.bipush (-9), 2) := by decide +kernel
theorem dX7_key_65 : decode cX7_key 65 = .ok (.ireturn, 1) := by decide +kernel
set_option maxRecDepth 20000 in
theorem ggX7_at_X7_refused : GoodIn wsX7_at wsX7_refused := goodIn_r _ [7, 8, 58, 59, 60, 61, 62, 63, 64, 65, 66, 67, 68, 69, 70, 71, 72, 73, 74, 75] (by decide +kernel) (by decide +kernel)
set_option maxRecDepth 20000 in
theorem gX7_at_X7_refused : GoodIn wsX7_at (wsV RX7 125 RX7 yX7_refused wsX7_refused) := goodIn_app (goodIn_of _ (by decide +kernel)) ggX7_at_X7_refused
set_option maxRecDepth 20000 in
theorem ggX7_at_X7_layNow : GoodIn wsX7_at wsX7_layNow := goodIn_r _ [12, 1, 13, 14, 15, 6, 16, 17, 18, 19, 20, 2, 21, 22, 23, 24, 25, 26, 27, 28, 29, 30, 31, 32, 33, 34, 35, 36, 37, 38, 39, 40, 41, 42, 43, 44, 45, 46, 47, 48, 49, 50, 51, 52, 53, 54, 55, 56, 57, 58, 59, 60, 61, 62, 63, 64, 65, 66, 67, 68, 69, 70, 71, 72, 73, 74, 75] (by decide +kernel) (by decide +kernel)
set_option maxRecDepth 20000 in
theorem gX7_at_X7_layNow : GoodIn wsX7_at (wsV RX7 105 RX7 yX7_layNow wsX7_layNow) := goodIn_app (goodIn_of _ (by decide +kernel)) ggX7_at_X7_layNow
theorem dX7_at_0 : decode cX7_at 0 = .ok (.aload_n 0, 1) := by decide +kernel
theorem dX7_at_1 : decode cX7_at 1 = .ok (.iload_n 1, 1) := by decide +kernel
theorem dX7_at_2 : decode cX7_at 2 = .ok (.ifCond .ge 7, 3) := by decide +kernel
theorem dX7_at_5 : decode cX7_at 5 = .ok (.iconst 1, 1) := by decide +kernel
theorem dX7_at_6 : decode cX7_at 6 = .ok (.goto 4, 3) := by decide +kernel
theorem dX7_at_9 : decode cX7_at 9 = .ok (.iconst 0, 1) := by decide +kernel
theorem dX7_at_10 : decode cX7_at 10 = .ok (.invokevirtual 125, 3) := by decide +kernel
theorem dX7_at_13 : decode cX7_at 13 = .ok (.ifCond .eq 5, 3) := by decide +kernel
