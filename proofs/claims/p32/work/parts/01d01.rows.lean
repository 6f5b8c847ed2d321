set_option maxRecDepth 20000 in
theorem ggX3_printedOfAnother_X3_printedStillRight : GoodIn wsX3_printedOfAnother wsX3_printedStillRight := goodIn_r _ [6, 1, 7, 8, 9, 10, 11, 5, 12, 13, 14, 19, 20, 21, 22, 23, 24, 25, 26, 27] (by decide +kernel) (by decide +kernel)
set_option maxRecDepth 20000 in
theorem gX3_printedOfAnother_X3_printedStillRight : GoodIn wsX3_printedOfAnother (wsV RX3 108 RX3 yX3_printedStillRight wsX3_printedStillRight) := goodIn_app (goodIn_of _ (by decide +kernel)) ggX3_printedOfAnother_X3_printedStillRight
set_option maxRecDepth 20000 in
theorem ggX3_printedOfAnother_X3_printedWithoutMeaning : GoodIn wsX3_printedOfAnother wsX3_printedWithoutMeaning := goodIn_r _ [18, 1, 7, 9, 10, 11, 5, 12, 13, 14, 19, 20, 21, 22, 23, 24, 25, 26, 27] (by decide +kernel) (by decide +kernel)
set_option maxRecDepth 20000 in
theorem gX3_printedOfAnother_X3_printedWithoutMeaning : GoodIn wsX3_printedOfAnother (wsV RX3 112 RX3 yX3_printedWithoutMeaning wsX3_printedWithoutMeaning) := goodIn_app (goodIn_of _ (by decide +kernel)) ggX3_printedOfAnother_X3_printedWithoutMeaning
theorem dX3_printedOfAnother_0 : decode cX3_printedOfAnother 0 = .ok (.aload_n 0, 1) := by decide +kernel
theorem dX3_printedOfAnother_1 : decode cX3_printedOfAnother 1 = .ok (.getfield 42, 3) := by decide +kernel
theorem dX3_printedOfAnother_4 : decode cX3_printedOfAnother 4 = .ok (.aload_n 0, 1) := by decide +kernel
theorem dX3_printedOfAnother_5 : decode cX3_printedOfAnother 5 = .ok (.invokevirtual 108, 3) := by decide +kernel
theorem dX3_printedOfAnother_8 : decode cX3_printedOfAnother 8 = .ok (.isub, 1) := by decide +kernel
theorem dX3_printedOfAnother_9 : decode cX3_printedOfAnother 9 = .ok (.aload_n 0, 1) := by decide +kernel
theorem dX3_printedOfAnother_10 : decode cX3_printedOfAnother 10 = .ok (.invokevirtual 112, 3) := by decide +kernel
theorem dX3_printedOfAnother_13 : decode cX3_printedOfAnother 13 = .ok (.isub, 1) := by decide +kernel
theorem dX3_printedOfAnother_14 : decode cX3_printedOfAnother 14 = .ok (.ireturn, 1) := by decide +kernel
set_option maxRecDepth 20000 in
theorem ggX4_init_X5_init : GoodIn wsX4_init wsX5_init := goodIn_r _ [12, 13, 2, 3, 14, 15, 22, 23, 24, 25] (by decide +kernel) (by decide +kernel)
set_option maxRecDepth 20000 in
theorem gX4_init_X5_init : GoodIn wsX4_init (wsX5_init) := ggX4_init_X5_init
theorem dX4_init_0 : decode cX4_init 0 = .ok (.aload_n 0, 1) := by decide +kernel
theorem dX4_init_1 : decode cX4_init 1 = .ok (.invokespecial 3, 3) := by decide +kernel
theorem dX4_init_4 : decode cX4_init 4 = .ok (.aload_n 0, 1) := by decide +kernel
theorem dX4_init_5 : decode cX4_init 5 = .ok (.bipush 100, 2) := by decide +kernel
theorem dX4_init_7 : decode cX4_init 7 = .ok (.newarray .char, 2) := by decide +kernel
theorem dX4_init_9 : decode cX4_init 9 = .ok (.putfield 9, 3) := by decide +kernel
theorem dX4_init_12 : decode cX4_init 12 = .ok (.aload_n 0, 1) := by decide +kernel
theorem dX4_init_13 : decode cX4_init 13 = .ok (.bipush 16, 2) := by decide +kernel
theorem dX4_init_15 : decode cX4_init 15 = .ok (.anewarray 15, 3) := by decide +kernel
theorem dX4_init_18 : decode cX4_init 18 = .ok (.putfield 17, 3) := by decide +kernel
theorem dX4_init_21 : decode cX4_init 21 = .ok (.iconst 0, 1) := by decide +kernel
theorem dX4_init_22 : decode cX4_init 22 = .ok (.istore_n 1, 1) := by decide +kernel
theorem dX4_init_23 : decode cX4_init 23 = .ok (.iload_n 1, 1) := by decide +kernel
theorem dX4_init_24 : decode cX4_init 24 = .ok (.bipush 16, 2) := by decide +kernel
theorem dX4_init_26 : decode cX4_init 26 = .ok (.if_icmp .ge 22, 3) := by decide +kernel
theorem dX4_init_29 : decode cX4_init 29 = .ok (.aload_n 0, 1) := by decide +kernel
theorem dX4_init_30 : decode cX4_init 30 = .ok (.getfield 17, 3) := by decide +kernel
theorem dX4_init_33 : decode cX4_init 33 = .ok (.iload_n 1, 1) := by decide +kernel
theorem dX4_init_34 : decode cX4_init 34 = .ok (.new 15, 3) := by decide +kernel
theorem dX4_init_37 : decode cX4_init 37 = .ok (.dup, 1) := by decide +kernel
theorem dX4_init_38 : decode cX4_init 38 = .ok (.invokespecial 21, 3) := by decide +kernel
theorem dX4_init_41 : decode cX4_init 41 = .ok (.aastore, 1) := by decide +kernel
theorem dX4_init_42 : decode cX4_init 42 = .ok (.iinc 1 1, 3) := by decide +kernel
theorem dX4_init_45 : decode cX4_init 45 = .ok (.goto (-22), 3) := by decide +kernel
theorem dX4_init_48 : decode cX4_init 48 = .ok (.return_, 1) := by decide +kernel
theorem dX4_put_0 : decode cX4_put 0 = .ok (.aload_n 0, 1) := by decide +kernel
theorem dX4_put_1 : decode cX4_put 1 = .ok (.getfield 22, 3) := by decide +kernel
theorem dX4_put_4 : decode cX4_put 4 = .ok (.bipush 100, 2) := by decide +kernel
theorem dX4_put_6 : decode cX4_put 6 = .ok (.if_icmp .ge 23, 3) := by decide +kernel
theorem dX4_put_9 : decode cX4_put 9 = .ok (.aload_n 0, 1) := by decide +kernel
theorem dX4_put_10 : decode cX4_put 10 = .ok (.getfield 9, 3) := by decide +kernel
theorem dX4_put_13 : decode cX4_put 13 = .ok (.aload_n 0, 1) := by decide +kernel
theorem dX4_put_14 : decode cX4_put 14 = .ok (.getfield 22, 3) := by decide +kernel
theorem dX4_put_17 : decode cX4_put 17 = .ok (.iload_n 1, 1) := by decide +kernel
theorem dX4_put_18 : decode cX4_put 18 = .ok (.castore, 1) := by decide +kernel
theorem dX4_put_19 : decode cX4_put 19 = .ok (.aload_n 0, 1) := by decide +kernel
theorem dX4_put_20 : decode cX4_put 20 = .ok (.dup, 1) := by decide +kernel
theorem dX4_put_21 : decode cX4_put 21 = .ok (.getfield 22, 3) := by decide +kernel
theorem dX4_put_24 : decode cX4_put 24 = .ok (.iconst 1, 1) := by decide +kernel
theorem dX4_put_25 : decode cX4_put 25 = .ok (.iadd, 1) := by decide +kernel
theorem dX4_put_26 : decode cX4_put 26 = .ok (.putfield 22, 3) := by decide +kernel
theorem dX4_put_29 : decode cX4_put 29 = .ok (.return_, 1) := by decide +kernel
set_option maxRecDepth 20000 in
theorem ggX4_spells_X1_length : GoodIn wsX4_spells wsX1_length := goodIn_r _ [6, 7, 8, 5, 9, 10, 11, 12, 13, 14, 15, 16, 17, 18, 19, 20, 21, 22] (by decide +kernel) (by decide +kernel)
set_option maxRecDepth 20000 in
theorem gX4_spells_X1_length : GoodIn wsX4_spells (va_wsS RX4 26 yX1_length wsX1_length) := goodIn_app (goodIn_of _ (by decide +kernel)) ggX4_spells_X1_length
set_option maxRecDepth 20000 in
theorem ggX4_spells_X1_codeAt : GoodIn wsX4_spells wsX1_codeAt := goodIn_r _ [25, 10, 11, 12, 13, 14, 15, 16, 17, 18, 5, 19, 20, 21, 22, 26, 27, 28, 29, 30, 31, 7, 8, 9] (by decide +kernel) (by decide +kernel)
set_option maxRecDepth 20000 in
theorem gX4_spells_X1_codeAt : GoodIn wsX4_spells (va_wsS RX4 31 yX1_codeAt wsX1_codeAt) := goodIn_app (goodIn_of _ (by decide +kernel)) ggX4_spells_X1_codeAt
theorem dX4_spells_0 : decode cX4_spells 0 = .ok (.aload_n 0, 1) := by decide +kernel
theorem dX4_spells_1 : decode cX4_spells 1 = .ok (.getfield 22, 3) := by decide +kernel
theorem dX4_spells_4 : decode cX4_spells 4 = .ok (.lload_n 1, 1) := by decide +kernel
theorem dX4_spells_5 : decode cX4_spells 5 = .ok (.invokestatic 26, 3) := by decide +kernel
theorem dX4_spells_8 : decode cX4_spells 8 = .ok (.if_icmp .eq 5, 3) := by decide +kernel
theorem dX4_spells_11 : decode cX4_spells 11 = .ok (.iconst 0, 1) := by decide +kernel
theorem dX4_spells_12 : decode cX4_spells 12 = .ok (.ireturn, 1) := by decide +kernel
theorem dX4_spells_13 : decode cX4_spells 13 = .ok (.iconst 0, 1) := by decide +kernel
theorem dX4_spells_14 : decode cX4_spells 14 = .ok (.istore_n 3, 1) := by decide +kernel
theorem dX4_spells_15 : decode cX4_spells 15 = .ok (.iload_n 3, 1) := by decide +kernel
theorem dX4_spells_16 : decode cX4_spells 16 = .ok (.aload_n 0, 1) := by decide +kernel
theorem dX4_spells_17 : decode cX4_spells 17 = .ok (.getfield 22, 3) := by decide +kernel
theorem dX4_spells_20 : decode cX4_spells 20 = .ok (.if_icmp .ge 25, 3) := by decide +kernel
theorem dX4_spells_23 : decode cX4_spells 23 = .ok (.aload_n 0, 1) := by decide +kernel
theorem dX4_spells_24 : decode cX4_spells 24 = .ok (.getfield 9, 3) := by decide +kernel
theorem dX4_spells_27 : decode cX4_spells 27 = .ok (.iload_n 3, 1) := by decide +kernel
theorem dX4_spells_28 : decode cX4_spells 28 = .ok (.caload, 1) := by decide +kernel
theorem dX4_spells_29 : decode cX4_spells 29 = .ok (.lload_n 1, 1) := by decide +kernel
theorem dX4_spells_30 : decode cX4_spells 30 = .ok (.iload_n 3, 1) := by decide +kernel
theorem dX4_spells_31 : decode cX4_spells 31 = .ok (.invokestatic 31, 3) := by decide +kernel
theorem dX4_spells_34 : decode cX4_spells 34 = .ok (.if_icmp .eq 5, 3) := by decide +kernel
theorem dX4_spells_37 : decode cX4_spells 37 = .ok (.iconst 0, 1) := by decide +kernel
theorem dX4_spells_38 : decode cX4_spells 38 = .ok (.ireturn, 1) := by decide +kernel
theorem dX4_spells_39 : decode cX4_spells 39 = .ok (.iinc 3 1, 3) := by decide +kernel
theorem dX4_spells_42 : decode cX4_spells 42 = .ok (.goto (-27), 3) := by decide +kernel
theorem dX4_spells_45 : decode cX4_spells 45 = .ok (.iconst 1, 1) := by decide +kernel
theorem dX4_spells_46 : decode cX4_spells 46 = .ok (.ireturn, 1) := by decide +kernel
set_option maxRecDepth 20000 in
theorem ggX4_read_X4_beginWork : GoodIn wsX4_read wsX4_beginWork := goodIn_r _ [10, 1, 11, 12, 13, 14, 15, 16, 17, 18, 19, 20, 21, 22, 23, 24, 9, 25, 4, 5, 56, 57, 58, 59, 60, 61, 62, 63, 64, 65] (by decide +kernel) (by decide +kernel)
set_option maxRecDepth 20000 in
theorem gX4_read_X4_beginWork : GoodIn wsX4_read (wsV RX4 38 RX4 yX4_beginWork wsX4_beginWork) := goodIn_app (goodIn_of _ (by decide +kernel)) ggX4_read_X4_beginWork
set_option maxRecDepth 20000 in
theorem ggX4_read_X4_takes : GoodIn wsX4_read wsX4_takes := goodIn_r _ [29, 1, 11, 4, 30, 31, 32, 9, 33, 12, 34, 5, 35, 36, 37, 38, 39, 40, 41, 42, 43, 44, 45, 22, 23, 24, 25, 46, 47, 48, 49, 50, 51, 52, 53, 54, 55, 6, 7, 8, 10, 13, 14, 15, 16, 17, 18, 19, 20, 21, 56, 57, 58, 59, 60, 61, 62, 63, 64, 65] (by decide +kernel) (by decide +kernel)
set_option maxRecDepth 20000 in
theorem gX4_read_X4_takes : GoodIn wsX4_read (wsV RX4 42 RX4 yX4_takes wsX4_takes) := goodIn_app (goodIn_of _ (by decide +kernel)) ggX4_read_X4_takes
theorem dX4_read_0 : decode cX4_read 0 = .ok (.aload_n 0, 1) := by decide +kernel
theorem dX4_read_1 : decode cX4_read 1 = .ok (.iconst 0, 1) := by decide +kernel
theorem dX4_read_2 : decode cX4_read 2 = .ok (.putfield 35, 3) := by decide +kernel
theorem dX4_read_5 : decode cX4_read 5 = .ok (.aload_n 0, 1) := by decide +kernel
theorem dX4_read_6 : decode cX4_read 6 = .ok (.invokevirtual 38, 3) := by decide +kernel
theorem dX4_read_9 : decode cX4_read 9 = .ok (.pop, 1) := by decide +kernel
theorem dX4_read_10 : decode cX4_read 10 = .ok (.iconst 0, 1) := by decide +kernel
theorem dX4_read_11 : decode cX4_read 11 = .ok (.istore_n 1, 1) := by decide +kernel
theorem dX4_read_12 : decode cX4_read 12 = .ok (.iload_n 1, 1) := by decide +kernel
theorem dX4_read_13 : decode cX4_read 13 = .ok (.aload_n 0, 1) := by decide +kernel
theorem dX4_read_14 : decode cX4_read 14 = .ok (.getfield 22, 3) := by decide +kernel
theorem dX4_read_17 : decode cX4_read 17 = .ok (.if_icmp .ge 24, 3) := by decide +kernel
theorem dX4_read_20 : decode cX4_read 20 = .ok (.aload_n 0, 1) := by decide +kernel
theorem dX4_read_21 : decode cX4_read 21 = .ok (.aload_n 0, 1) := by decide +kernel
theorem dX4_read_22 : decode cX4_read 22 = .ok (.getfield 9, 3) := by decide +kernel
theorem dX4_read_25 : decode cX4_read 25 = .ok (.iload_n 1, 1) := by decide +kernel
theorem dX4_read_26 : decode cX4_read 26 = .ok (.caload, 1) := by decide +kernel
theorem dX4_read_27 : decode cX4_read 27 = .ok (.invokevirtual 42, 3) := by decide +kernel
theorem dX4_read_30 : decode cX4_read 30 = .ok (.ifCond .ne 5, 3) := by decide +kernel
theorem dX4_read_33 : decode cX4_read 33 = .ok (.iload_n 1, 1) := by decide +kernel
theorem dX4_read_34 : decode cX4_read 34 = .ok (.ireturn, 1) := by decide +kernel
theorem dX4_read_35 : decode cX4_read 35 = .ok (.iinc 1 1, 3) := by decide +kernel
theorem dX4_read_38 : decode cX4_read 38 = .ok (.goto (-26), 3) := by decide +kernel
theorem dX4_read_41 : decode cX4_read 41 = .ok (.aload_n 0, 1) := by decide +kernel
theorem dX4_read_42 : decode cX4_read 42 = .ok (.getfield 46, 3) := by decide +kernel
theorem dX4_read_45 : decode cX4_read 45 = .ok (.iconst 2, 1) := by decide +kernel
theorem dX4_read_46 : decode cX4_read 46 = .ok (.if_icmp .ne 15, 3) := by decide +kernel
theorem dX4_read_49 : decode cX4_read 49 = .ok (.aload_n 0, 1) := by decide +kernel
theorem dX4_read_50 : decode cX4_read 50 = .ok (.getfield 49, 3) := by decide +kernel
theorem dX4_read_53 : decode cX4_read 53 = .ok (.ifCond .le 8, 3) := by decide +kernel
theorem dX4_read_56 : decode cX4_read 56 = .ok (.bipush (-9), 2) := by decide +kernel
theorem dX4_read_58 : decode cX4_read 58 = .ok (.goto 7, 3) := by decide +kernel
theorem dX4_read_61 : decode cX4_read 61 = .ok (.aload_n 0, 1) := by decide +kernel
theorem dX4_read_62 : decode cX4_read 62 = .ok (.getfield 22, 3) := by decide +kernel
theorem dX4_read_65 : decode cX4_read 65 = .ok (.ireturn, 1) := by decide +kernel
set_option maxRecDepth 20000 in
theorem ggX4_beginWork_X5_empty : GoodIn wsX4_beginWork wsX5_empty := goodIn_r _ [8, 9, 10, 11, 12, 26, 27, 28, 29] (by decide +kernel) (by decide +kernel)
set_option maxRecDepth 20000 in
theorem gX4_beginWork_X5_empty : GoodIn wsX4_beginWork (wsV RX4 52 RX5 yX5_empty wsX5_empty) := goodIn_app (goodIn_of _ (by decide +kernel)) ggX4_beginWork_X5_empty
set_option maxRecDepth 20000 in
theorem ggX4_beginWork_X4_begin : GoodIn wsX4_beginWork wsX4_begin := goodIn_r _ [17, 18, 19, 20, 21, 22, 23, 24, 25] (by decide +kernel) (by decide +kernel)
set_option maxRecDepth 20000 in
theorem gX4_beginWork_X4_begin : GoodIn wsX4_beginWork (wsV RX4 58 RX4 yX4_begin wsX4_begin) := goodIn_app (goodIn_of _ (by decide +kernel)) ggX4_beginWork_X4_begin
theorem dX4_beginWork_0 : decode cX4_beginWork 0 = .ok (.aload_n 0, 1) := by decide +kernel
theorem dX4_beginWork_1 : decode cX4_beginWork 1 = .ok (.getfield 35, 3) := by decide +kernel
theorem dX4_beginWork_4 : decode cX4_beginWork 4 = .ok (.bipush 16, 2) := by decide +kernel
theorem dX4_beginWork_6 : decode cX4_beginWork 6 = .ok (.if_icmp .lt 5, 3) := by decide +kernel
theorem dX4_beginWork_9 : decode cX4_beginWork 9 = .ok (.iconst 0, 1) := by decide +kernel
theorem dX4_beginWork_10 : decode cX4_beginWork 10 = .ok (.ireturn, 1) := by decide +kernel
theorem dX4_beginWork_11 : decode cX4_beginWork 11 = .ok (.aload_n 0, 1) := by decide +kernel
theorem dX4_beginWork_12 : decode cX4_beginWork 12 = .ok (.getfield 17, 3) := by decide +kernel
theorem dX4_beginWork_15 : decode cX4_beginWork 15 = .ok (.aload_n 0, 1) := by decide +kernel
theorem dX4_beginWork_16 : decode cX4_beginWork 16 = .ok (.getfield 35, 3) := by decide +kernel
theorem dX4_beginWork_19 : decode cX4_beginWork 19 = .ok (.aaload, 1) := by decide +kernel
theorem dX4_beginWork_20 : decode cX4_beginWork 20 = .ok (.invokevirtual 52, 3) := by decide +kernel
theorem dX4_beginWork_23 : decode cX4_beginWork 23 = .ok (.aload_n 0, 1) := by decide +kernel
theorem dX4_beginWork_24 : decode cX4_beginWork 24 = .ok (.getfield 17, 3) := by decide +kernel
theorem dX4_beginWork_27 : decode cX4_beginWork 27 = .ok (.aload_n 0, 1) := by decide +kernel
theorem dX4_beginWork_28 : decode cX4_beginWork 28 = .ok (.getfield 35, 3) := by decide +kernel
theorem dX4_beginWork_31 : decode cX4_beginWork 31 = .ok (.aaload, 1) := by decide +kernel
theorem dX4_beginWork_32 : decode cX4_beginWork 32 = .ok (.iconst 1, 1) := by decide +kernel
theorem dX4_beginWork_33 : decode cX4_beginWork 33 = .ok (.putfield 55, 3) := by decide +kernel
theorem dX4_beginWork_36 : decode cX4_beginWork 36 = .ok (.aload_n 0, 1) := by decide +kernel
theorem dX4_beginWork_37 : decode cX4_beginWork 37 = .ok (.dup, 1) := by decide +kernel
theorem dX4_beginWork_38 : decode cX4_beginWork 38 = .ok (.getfield 35, 3) := by decide +kernel
theorem dX4_beginWork_41 : decode cX4_beginWork 41 = .ok (.iconst 1, 1) := by decide +kernel
theorem dX4_beginWork_42 : decode cX4_beginWork 42 = .ok (.iadd, 1) := by decide +kernel
theorem dX4_beginWork_43 : decode cX4_beginWork 43 = .ok (.putfield 35, 3) := by decide +kernel
theorem dX4_beginWork_46 : decode cX4_beginWork 46 = .ok (.aload_n 0, 1) := by decide +kernel
theorem dX4_beginWork_47 : decode cX4_beginWork 47 = .ok (.iconst 0, 1) := by decide +kernel
theorem dX4_beginWork_48 : decode cX4_beginWork 48 = .ok (.invokevirtual 58, 3) := by decide +kernel
theorem dX4_beginWork_51 : decode cX4_beginWork 51 = .ok (.iconst 1, 1) := by decide +kernel
theorem dX4_beginWork_52 : decode cX4_beginWork 52 = .ok (.ireturn, 1) := by decide +kernel
theorem dX4_begin_0 : decode cX4_begin 0 = .ok (.aload_n 0, 1) := by decide +kernel
theorem dX4_begin_1 : decode cX4_begin 1 = .ok (.iload_n 1, 1) := by decide +kernel
theorem dX4_begin_2 : decode cX4_begin 2 = .ok (.putfield 46, 3) := by decide +kernel
theorem dX4_begin_5 : decode cX4_begin 5 = .ok (.aload_n 0, 1) := by decide +kernel
theorem dX4_begin_6 : decode cX4_begin 6 = .ok (.iconst 0, 1) := by decide +kernel
theorem dX4_begin_7 : decode cX4_begin 7 = .ok (.putfield 49, 3) := by decide +kernel
theorem dX4_begin_10 : decode cX4_begin 10 = .ok (.return_, 1) := by decide +kernel
set_option maxRecDepth 20000 in
theorem ggX4_takes_X4_takesAuthors : GoodIn wsX4_takes wsX4_takesAuthors := goodIn_r _ [8, 9, 10, 11, 12, 13, 7, 14, 15, 16, 17, 18, 19, 20, 21, 22, 23, 24, 25, 26, 3, 56, 57, 58, 59, 50, 51, 52, 53, 54, 55] (by decide +kernel) (by decide +kernel)
set_option maxRecDepth 20000 in
theorem gX4_takes_X4_takesAuthors : GoodIn wsX4_takes (wsV RX4 62 RX4 yX4_takesAuthors wsX4_takesAuthors) := goodIn_app (goodIn_of _ (by decide +kernel)) ggX4_takes_X4_takesAuthors
set_option maxRecDepth 20000 in
theorem ggX4_takes_X4_takesYear : GoodIn wsX4_takes wsX4_takesYear := goodIn_r _ [30, 11, 31, 23, 24, 25, 7, 26, 3, 50, 51, 52, 53, 54, 55, 56, 57, 58, 59] (by decide +kernel) (by decide +kernel)
set_option maxRecDepth 20000 in
theorem gX4_takes_X4_takesYear : GoodIn wsX4_takes (wsV RX4 66 RX4 yX4_takesYear wsX4_takesYear) := goodIn_app (goodIn_of _ (by decide +kernel)) ggX4_takes_X4_takesYear
set_option maxRecDepth 20000 in
theorem ggX4_takes_X4_takesTitle : GoodIn wsX4_takes wsX4_takesTitle := goodIn_r _ [35, 36, 11, 12, 13, 7, 14, 15, 16, 17, 18, 19, 20, 21, 22, 37, 38, 39, 40, 1, 2, 9, 41, 42, 43, 44, 45, 46, 47, 48, 49, 23, 24, 25, 26, 3, 56, 57, 58, 59, 50, 51, 52, 53, 54, 55] (by decide +kernel) (by decide +kernel)
set_option maxRecDepth 20000 in
theorem gX4_takes_X4_takesTitle : GoodIn wsX4_takes (wsV RX4 69 RX4 yX4_takesTitle wsX4_takesTitle) := goodIn_app (goodIn_of _ (by decide +kernel)) ggX4_takes_X4_takesTitle
theorem dX4_takes_0 : decode cX4_takes 0 = .ok (.aload_n 0, 1) := by decide +kernel
theorem dX4_takes_1 : decode cX4_takes 1 = .ok (.getfield 35, 3) := by decide +kernel
theorem dX4_takes_4 : decode cX4_takes 4 = .ok (.iconst 1, 1) := by decide +kernel
theorem dX4_takes_5 : decode cX4_takes 5 = .ok (.if_icmp .lt 12, 3) := by decide +kernel
theorem dX4_takes_8 : decode cX4_takes 8 = .ok (.aload_n 0, 1) := by decide +kernel
theorem dX4_takes_9 : decode cX4_takes 9 = .ok (.getfield 35, 3) := by decide +kernel
theorem dX4_takes_12 : decode cX4_takes 12 = .ok (.bipush 16, 2) := by decide +kernel
theorem dX4_takes_14 : decode cX4_takes 14 = .ok (.if_icmp .le 5, 3) := by decide +kernel
theorem dX4_takes_17 : decode cX4_takes 17 = .ok (.iconst 0, 1) := by decide +kernel
theorem dX4_takes_18 : decode cX4_takes 18 = .ok (.ireturn, 1) := by decide +kernel
theorem dX4_takes_19 : decode cX4_takes 19 = .ok (.aload_n 0, 1) := by decide +kernel
theorem dX4_takes_20 : decode cX4_takes 20 = .ok (.getfield 17, 3) := by decide +kernel
theorem dX4_takes_23 : decode cX4_takes 23 = .ok (.aload_n 0, 1) := by decide +kernel
theorem dX4_takes_24 : decode cX4_takes 24 = .ok (.getfield 35, 3) := by decide +kernel
theorem dX4_takes_27 : decode cX4_takes 27 = .ok (.iconst 1, 1) := by decide +kernel
theorem dX4_takes_28 : decode cX4_takes 28 = .ok (.isub, 1) := by decide +kernel
theorem dX4_takes_29 : decode cX4_takes 29 = .ok (.aaload, 1) := by decide +kernel
theorem dX4_takes_30 : decode cX4_takes 30 = .ok (.astore_n 2, 1) := by decide +kernel
theorem dX4_takes_31 : decode cX4_takes 31 = .ok (.aload_n 0, 1) := by decide +kernel
theorem dX4_takes_32 : decode cX4_takes 32 = .ok (.getfield 46, 3) := by decide +kernel
theorem dX4_takes_35 : decode cX4_takes 35 = .ok (.lookupswitch 39 #[(0, 25), (1, 32)], 25) := by decide +kernel
theorem dX4_takes_60 : decode cX4_takes 60 = .ok (.aload_n 0, 1) := by decide +kernel
theorem dX4_takes_61 : decode cX4_takes 61 = .ok (.aload_n 2, 1) := by decide +kernel
theorem dX4_takes_62 : decode cX4_takes 62 = .ok (.iload_n 1, 1) := by decide +kernel
theorem dX4_takes_63 : decode cX4_takes 63 = .ok (.invokevirtual 62, 3) := by decide +kernel
theorem dX4_takes_66 : decode cX4_takes 66 = .ok (.ireturn, 1) := by decide +kernel
theorem dX4_takes_67 : decode cX4_takes 67 = .ok (.aload_n 0, 1) := by decide +kernel
theorem dX4_takes_68 : decode cX4_takes 68 = .ok (.aload_n 2, 1) := by decide +kernel
theorem dX4_takes_69 : decode cX4_takes 69 = .ok (.iload_n 1, 1) := by decide +kernel
theorem dX4_takes_70 : decode cX4_takes 70 = .ok (.invokevirtual 66, 3) := by decide +kernel
theorem dX4_takes_73 : decode cX4_takes 73 = .ok (.ireturn, 1) := by decide +kernel
theorem dX4_takes_74 : decode cX4_takes 74 = .ok (.aload_n 0, 1) := by decide +kernel
theorem dX4_takes_75 : decode cX4_takes 75 = .ok (.aload_n 2, 1) := by decide +kernel
theorem dX4_takes_76 : decode cX4_takes 76 = .ok (.iload_n 1, 1) := by decide +kernel
theorem dX4_takes_77 : decode cX4_takes 77 = .ok (.invokevirtual 69, 3) := by decide +kernel
theorem dX4_takes_80 : decode cX4_takes 80 = .ok (.ireturn, 1) := by decide +kernel
set_option maxRecDepth 20000 in
theorem ggX4_takesAuthors_X4_isLetter : GoodIn wsX4_takesAuthors wsX4_isLetter := goodIn_r _ [7] (by decide +kernel) (by decide +kernel)
set_option maxRecDepth 20000 in
theorem gX4_takesAuthors_X4_isLetter : GoodIn wsX4_takesAuthors (va_wsS RX4 72 yX4_isLetter wsX4_isLetter) := goodIn_app (goodIn_of _ (by decide +kernel)) ggX4_takesAuthors_X4_isLetter
set_option maxRecDepth 20000 in
theorem ggX4_takesAuthors_X2_with : GoodIn wsX4_takesAuthors wsX2_with := goodIn_r _ [11] (by decide +kernel) (by decide +kernel)
set_option maxRecDepth 20000 in
theorem gX4_takesAuthors_X2_with : GoodIn wsX4_takesAuthors (va_wsS RX4 79 yX2_with wsX2_with) := goodIn_app (goodIn_of _ (by decide +kernel)) ggX4_takesAuthors_X2_with
set_option maxRecDepth 20000 in
theorem ggX4_takesAuthors_X4_countLetter : GoodIn wsX4_takesAuthors wsX4_countLetter := goodIn_r _ [15, 3, 25, 26, 27, 28, 29, 30] (by decide +kernel) (by decide +kernel)
set_option maxRecDepth 20000 in
theorem gX4_takesAuthors_X4_countLetter : GoodIn wsX4_takesAuthors (wsV RX4 85 RX4 yX4_countLetter wsX4_countLetter) := goodIn_app (goodIn_of _ (by decide +kernel)) ggX4_takesAuthors_X4_countLetter
set_option maxRecDepth 20000 in
theorem ggX4_takesAuthors_X4_begin : GoodIn wsX4_takesAuthors wsX4_begin := goodIn_r _ [19, 20, 3, 25, 26, 27, 28, 29, 30] (by decide +kernel) (by decide +kernel)
set_option maxRecDepth 20000 in
theorem gX4_takesAuthors_X4_begin : GoodIn wsX4_takesAuthors (wsV RX4 58 RX4 yX4_begin wsX4_begin) := goodIn_app (goodIn_of _ (by decide +kernel)) ggX4_takesAuthors_X4_begin
theorem dX4_takesAuthors_0 : decode cX4_takesAuthors 0 = .ok (.aload_n 1, 1) := by decide +kernel
theorem dX4_takesAuthors_1 : decode cX4_takesAuthors 1 = .ok (.getfield 55, 3) := by decide +kernel
theorem dX4_takesAuthors_4 : decode cX4_takesAuthors 4 = .ok (.iconst 1, 1) := by decide +kernel
theorem dX4_takesAuthors_5 : decode cX4_takesAuthors 5 = .ok (.isub, 1) := by decide +kernel
theorem dX4_takesAuthors_6 : decode cX4_takesAuthors 6 = .ok (.istore_n 3, 1) := by decide +kernel
theorem dX4_takesAuthors_7 : decode cX4_takesAuthors 7 = .ok (.iload_n 2, 1) := by decide +kernel
theorem dX4_takesAuthors_8 : decode cX4_takesAuthors 8 = .ok (.invokestatic 72, 3) := by decide +kernel
theorem dX4_takesAuthors_11 : decode cX4_takesAuthors 11 = .ok (.ifCond .eq 42, 3) := by decide +kernel
theorem dX4_takesAuthors_14 : decode cX4_takesAuthors 14 = .ok (.iload_n 3, 1) := by decide +kernel
theorem dX4_takesAuthors_15 : decode cX4_takesAuthors 15 = .ok (.ifCond .lt 38, 3) := by decide +kernel
theorem dX4_takesAuthors_18 : decode cX4_takesAuthors 18 = .ok (.iload_n 3, 1) := by decide +kernel
theorem dX4_takesAuthors_19 : decode cX4_takesAuthors 19 = .ok (.iconst 4, 1) := by decide +kernel
theorem dX4_takesAuthors_20 : decode cX4_takesAuthors 20 = .ok (.if_icmp .ge 33, 3) := by decide +kernel
theorem dX4_takesAuthors_23 : decode cX4_takesAuthors 23 = .ok (.aload_n 1, 1) := by decide +kernel
theorem dX4_takesAuthors_24 : decode cX4_takesAuthors 24 = .ok (.getfield 75, 3) := by decide +kernel
theorem dX4_takesAuthors_27 : decode cX4_takesAuthors 27 = .ok (.iload_n 3, 1) := by decide +kernel
theorem dX4_takesAuthors_28 : decode cX4_takesAuthors 28 = .ok (.aload_n 1, 1) := by decide +kernel
theorem dX4_takesAuthors_29 : decode cX4_takesAuthors 29 = .ok (.getfield 75, 3) := by decide +kernel
theorem dX4_takesAuthors_32 : decode cX4_takesAuthors 32 = .ok (.iload_n 3, 1) := by decide +kernel
theorem dX4_takesAuthors_33 : decode cX4_takesAuthors 33 = .ok (.laload, 1) := by decide +kernel
theorem dX4_takesAuthors_34 : decode cX4_takesAuthors 34 = .ok (.aload_n 0, 1) := by decide +kernel
theorem dX4_takesAuthors_35 : decode cX4_takesAuthors 35 = .ok (.getfield 49, 3) := by decide +kernel
theorem dX4_takesAuthors_38 : decode cX4_takesAuthors 38 = .ok (.iload_n 2, 1) := by decide +kernel
theorem dX4_takesAuthors_39 : decode cX4_takesAuthors 39 = .ok (.bipush 97, 2) := by decide +kernel
theorem dX4_takesAuthors_41 : decode cX4_takesAuthors 41 = .ok (.isub, 1) := by decide +kernel
theorem dX4_takesAuthors_42 : decode cX4_takesAuthors 42 = .ok (.iconst 1, 1) := by decide +kernel
theorem dX4_takesAuthors_43 : decode cX4_takesAuthors 43 = .ok (.iadd, 1) := by decide +kernel
theorem dX4_takesAuthors_44 : decode cX4_takesAuthors 44 = .ok (.invokestatic 79, 3) := by decide +kernel
theorem dX4_takesAuthors_47 : decode cX4_takesAuthors 47 = .ok (.lastore, 1) := by decide +kernel
theorem dX4_takesAuthors_48 : decode cX4_takesAuthors 48 = .ok (.aload_n 0, 1) := by decide +kernel
theorem dX4_takesAuthors_49 : decode cX4_takesAuthors 49 = .ok (.invokevirtual 85, 3) := by decide +kernel
theorem dX4_takesAuthors_52 : decode cX4_takesAuthors 52 = .ok (.ireturn, 1) := by decide +kernel
theorem dX4_takesAuthors_53 : decode cX4_takesAuthors 53 = .ok (.iload_n 2, 1) := by decide +kernel
theorem dX4_takesAuthors_54 : decode cX4_takesAuthors 54 = .ok (.bipush 44, 2) := by decide +kernel
theorem dX4_takesAuthors_56 : decode cX4_takesAuthors 56 = .ok (.if_icmp .ne 35, 3) := by decide +kernel
theorem dX4_takesAuthors_59 : decode cX4_takesAuthors 59 = .ok (.aload_n 0, 1) := by decide +kernel
theorem dX4_takesAuthors_60 : decode cX4_takesAuthors 60 = .ok (.getfield 49, 3) := by decide +kernel
theorem dX4_takesAuthors_63 : decode cX4_takesAuthors 63 = .ok (.ifCond .le 28, 3) := by decide +kernel
theorem dX4_takesAuthors_66 : decode cX4_takesAuthors 66 = .ok (.aload_n 1, 1) := by decide +kernel
theorem dX4_takesAuthors_67 : decode cX4_takesAuthors 67 = .ok (.getfield 55, 3) := by decide +kernel
theorem dX4_takesAuthors_70 : decode cX4_takesAuthors 70 = .ok (.iconst 4, 1) := by decide +kernel
theorem dX4_takesAuthors_71 : decode cX4_takesAuthors 71 = .ok (.if_icmp .ge 20, 3) := by decide +kernel
theorem dX4_takesAuthors_74 : decode cX4_takesAuthors 74 = .ok (.aload_n 1, 1) := by decide +kernel
theorem dX4_takesAuthors_75 : decode cX4_takesAuthors 75 = .ok (.dup, 1) := by decide +kernel
theorem dX4_takesAuthors_76 : decode cX4_takesAuthors 76 = .ok (.getfield 55, 3) := by decide +kernel
theorem dX4_takesAuthors_79 : decode cX4_takesAuthors 79 = .ok (.iconst 1, 1) := by decide +kernel
theorem dX4_takesAuthors_80 : decode cX4_takesAuthors 80 = .ok (.iadd, 1) := by decide +kernel
theorem dX4_takesAuthors_81 : decode cX4_takesAuthors 81 = .ok (.putfield 55, 3) := by decide +kernel
theorem dX4_takesAuthors_84 : decode cX4_takesAuthors 84 = .ok (.aload_n 0, 1) := by decide +kernel
theorem dX4_takesAuthors_85 : decode cX4_takesAuthors 85 = .ok (.iconst 0, 1) := by decide +kernel
theorem dX4_takesAuthors_86 : decode cX4_takesAuthors 86 = .ok (.invokevirtual 58, 3) := by decide +kernel
theorem dX4_takesAuthors_89 : decode cX4_takesAuthors 89 = .ok (.iconst 1, 1) := by decide +kernel
theorem dX4_takesAuthors_90 : decode cX4_takesAuthors 90 = .ok (.ireturn, 1) := by decide +kernel
theorem dX4_takesAuthors_91 : decode cX4_takesAuthors 91 = .ok (.iload_n 2, 1) := by decide +kernel
theorem dX4_takesAuthors_92 : decode cX4_takesAuthors 92 = .ok (.bipush 58, 2) := by decide +kernel
theorem dX4_takesAuthors_94 : decode cX4_takesAuthors 94 = .ok (.if_icmp .ne 17, 3) := by decide +kernel
theorem dX4_takesAuthors_97 : decode cX4_takesAuthors 97 = .ok (.aload_n 0, 1) := by decide +kernel
theorem dX4_takesAuthors_98 : decode cX4_takesAuthors 98 = .ok (.getfield 49, 3) := by decide +kernel
theorem dX4_takesAuthors_101 : decode cX4_takesAuthors 101 = .ok (.ifCond .le 10, 3) := by decide +kernel
theorem dX4_takesAuthors_104 : decode cX4_takesAuthors 104 = .ok (.aload_n 0, 1) := by decide +kernel
theorem dX4_takesAuthors_105 : decode cX4_takesAuthors 105 = .ok (.iconst 1, 1) := by decide +kernel
theorem dX4_takesAuthors_106 : decode cX4_takesAuthors 106 = .ok (.invokevirtual 58, 3) := by decide +kernel
theorem dX4_takesAuthors_109 : decode cX4_takesAuthors 109 = .ok (.iconst 1, 1) := by decide +kernel
theorem dX4_takesAuthors_110 : decode cX4_takesAuthors 110 = .ok (.ireturn, 1) := by decide +kernel
theorem dX4_takesAuthors_111 : decode cX4_takesAuthors 111 = .ok (.iconst 0, 1) := by decide +kernel
theorem dX4_takesAuthors_112 : decode cX4_takesAuthors 112 = .ok (.ireturn, 1) := by decide +kernel
set_option maxRecDepth 20000 in
theorem ggX4_takesYear_X4_begin : GoodIn wsX4_takesYear wsX4_begin := goodIn_r _ [7, 8, 1, 9, 10, 11, 12, 13, 14] (by decide +kernel) (by decide +kernel)
set_option maxRecDepth 20000 in
theorem gX4_takesYear_X4_begin : GoodIn wsX4_takesYear (wsV RX4 58 RX4 yX4_begin wsX4_begin) := goodIn_app (goodIn_of _ (by decide +kernel)) ggX4_takesYear_X4_begin
theorem dX4_takesYear_0 : decode cX4_takesYear 0 = .ok (.aload_n 0, 1) := by decide +kernel
theorem dX4_takesYear_1 : decode cX4_takesYear 1 = .ok (.getfield 49, 3) := by decide +kernel
theorem dX4_takesYear_4 : decode cX4_takesYear 4 = .ok (.iconst 4, 1) := by decide +kernel
theorem dX4_takesYear_5 : decode cX4_takesYear 5 = .ok (.if_icmp .ne 20, 3) := by decide +kernel
theorem dX4_takesYear_8 : decode cX4_takesYear 8 = .ok (.aload_n 0, 1) := by decide +kernel
theorem dX4_takesYear_9 : decode cX4_takesYear 9 = .ok (.iconst 2, 1) := by decide +kernel
theorem dX4_takesYear_10 : decode cX4_takesYear 10 = .ok (.invokevirtual 58, 3) := by decide +kernel
theorem dX4_takesYear_13 : decode cX4_takesYear 13 = .ok (.iload_n 2, 1) := by decide +kernel
theorem dX4_takesYear_14 : decode cX4_takesYear 14 = .ok (.bipush 58, 2) := by decide +kernel
theorem dX4_takesYear_16 : decode cX4_takesYear 16 = .ok (.if_icmp .ne 7, 3) := by decide +kernel
theorem dX4_takesYear_19 : decode cX4_takesYear 19 = .ok (.iconst 1, 1) := by decide +kernel
theorem dX4_takesYear_20 : decode cX4_takesYear 20 = .ok (.goto 4, 3) := by decide +kernel
theorem dX4_takesYear_23 : decode cX4_takesYear 23 = .ok (.iconst 0, 1) := by decide +kernel
theorem dX4_takesYear_24 : decode cX4_takesYear 24 = .ok (.ireturn, 1) := by decide +kernel
theorem dX4_takesYear_25 : decode cX4_takesYear 25 = .ok (.aload_n 0, 1) := by decide +kernel
theorem dX4_takesYear_26 : decode cX4_takesYear 26 = .ok (.getfield 49, 3) := by decide +kernel
theorem dX4_takesYear_29 : decode cX4_takesYear 29 = .ok (.ifCond .ne 23, 3) := by decide +kernel
theorem dX4_takesYear_32 : decode cX4_takesYear 32 = .ok (.iload_n 2, 1) := by decide +kernel
theorem dX4_takesYear_33 : decode cX4_takesYear 33 = .ok (.bipush 49, 2) := by decide +kernel
theorem dX4_takesYear_35 : decode cX4_takesYear 35 = .ok (.if_icmp .eq 9, 3) := by decide +kernel
theorem dX4_takesYear_38 : decode cX4_takesYear 38 = .ok (.iload_n 2, 1) := by decide +kernel
theorem dX4_takesYear_39 : decode cX4_takesYear 39 = .ok (.bipush 50, 2) := by decide +kernel
theorem dX4_takesYear_41 : decode cX4_takesYear 41 = .ok (.if_icmp .ne 7, 3) := by decide +kernel
theorem dX4_takesYear_44 : decode cX4_takesYear 44 = .ok (.iconst 1, 1) := by decide +kernel
theorem dX4_takesYear_45 : decode cX4_takesYear 45 = .ok (.goto 24, 3) := by decide +kernel
theorem dX4_takesYear_48 : decode cX4_takesYear 48 = .ok (.iconst 0, 1) := by decide +kernel
theorem dX4_takesYear_49 : decode cX4_takesYear 49 = .ok (.goto 20, 3) := by decide +kernel
theorem dX4_takesYear_52 : decode cX4_takesYear 52 = .ok (.iload_n 2, 1) := by decide +kernel
theorem dX4_takesYear_53 : decode cX4_takesYear 53 = .ok (.bipush 48, 2) := by decide +kernel
theorem dX4_takesYear_55 : decode cX4_takesYear 55 = .ok (.if_icmp .lt 13, 3) := by decide +kernel
theorem dX4_takesYear_58 : decode cX4_takesYear 58 = .ok (.iload_n 2, 1) := by decide +kernel
theorem dX4_takesYear_59 : decode cX4_takesYear 59 = .ok (.bipush 57, 2) := by decide +kernel
theorem dX4_takesYear_61 : decode cX4_takesYear 61 = .ok (.if_icmp .gt 7, 3) := by decide +kernel
theorem dX4_takesYear_64 : decode cX4_takesYear 64 = .ok (.iconst 1, 1) := by decide +kernel
theorem dX4_takesYear_65 : decode cX4_takesYear 65 = .ok (.goto 4, 3) := by decide +kernel
theorem dX4_takesYear_68 : decode cX4_takesYear 68 = .ok (.iconst 0, 1) := by decide +kernel
theorem dX4_takesYear_69 : decode cX4_takesYear 69 = .ok (.istore_n 3, 1) := by decide +kernel
theorem dX4_takesYear_70 : decode cX4_takesYear 70 = .ok (.iload_n 3, 1) := by decide +kernel
theorem dX4_takesYear_71 : decode cX4_takesYear 71 = .ok (.ifCond .eq 29, 3) := by decide +kernel
theorem dX4_takesYear_74 : decode cX4_takesYear 74 = .ok (.aload_n 1, 1) := by decide +kernel
theorem dX4_takesYear_75 : decode cX4_takesYear 75 = .ok (.aload_n 1, 1) := by decide +kernel
theorem dX4_takesYear_76 : decode cX4_takesYear 76 = .ok (.getfield 88, 3) := by decide +kernel
theorem dX4_takesYear_79 : decode cX4_takesYear 79 = .ok (.bipush 10, 2) := by decide +kernel
theorem dX4_takesYear_81 : decode cX4_takesYear 81 = .ok (.imul, 1) := by decide +kernel
theorem dX4_takesYear_82 : decode cX4_takesYear 82 = .ok (.iload_n 2, 1) := by decide +kernel
theorem dX4_takesYear_83 : decode cX4_takesYear 83 = .ok (.iadd, 1) := by decide +kernel
theorem dX4_takesYear_84 : decode cX4_takesYear 84 = .ok (.bipush 48, 2) := by decide +kernel
theorem dX4_takesYear_86 : decode cX4_takesYear 86 = .ok (.isub, 1) := by decide +kernel
theorem dX4_takesYear_87 : decode cX4_takesYear 87 = .ok (.putfield 88, 3) := by decide +kernel
theorem dX4_takesYear_90 : decode cX4_takesYear 90 = .ok (.aload_n 0, 1) := by decide +kernel
theorem dX4_takesYear_91 : decode cX4_takesYear 91 = .ok (.dup, 1) := by decide +kernel
theorem dX4_takesYear_92 : decode cX4_takesYear 92 = .ok (.getfield 49, 3) := by decide +kernel
theorem dX4_takesYear_95 : decode cX4_takesYear 95 = .ok (.iconst 1, 1) := by decide +kernel
theorem dX4_takesYear_96 : decode cX4_takesYear 96 = .ok (.iadd, 1) := by decide +kernel
theorem dX4_takesYear_97 : decode cX4_takesYear 97 = .ok (.putfield 49, 3) := by decide +kernel
theorem dX4_takesYear_100 : decode cX4_takesYear 100 = .ok (.iload_n 3, 1) := by decide +kernel
theorem dX4_takesYear_101 : decode cX4_takesYear 101 = .ok (.ireturn, 1) := by decide +kernel
set_option maxRecDepth 20000 in
theorem ggX4_takesTitle_X4_isLetter : GoodIn wsX4_takesTitle wsX4_isLetter := goodIn_r _ [6] (by decide +kernel) (by decide +kernel)
set_option maxRecDepth 20000 in
theorem gX4_takesTitle_X4_isLetter : GoodIn wsX4_takesTitle (va_wsS RX4 72 yX4_isLetter wsX4_isLetter) := goodIn_app (goodIn_of _ (by decide +kernel)) ggX4_takesTitle_X4_isLetter
set_option maxRecDepth 20000 in
theorem ggX4_takesTitle_X2_with : GoodIn wsX4_takesTitle wsX2_with := goodIn_r _ [10] (by decide +kernel) (by decide +kernel)
set_option maxRecDepth 20000 in
theorem gX4_takesTitle_X2_with : GoodIn wsX4_takesTitle (va_wsS RX4 79 yX2_with wsX2_with) := goodIn_app (goodIn_of _ (by decide +kernel)) ggX4_takesTitle_X2_with
set_option maxRecDepth 20000 in
theorem ggX4_takesTitle_X4_countLetter : GoodIn wsX4_takesTitle wsX4_countLetter := goodIn_r _ [14, 2, 40, 41, 42, 43, 44, 45] (by decide +kernel) (by decide +kernel)
set_option maxRecDepth 20000 in
theorem gX4_takesTitle_X4_countLetter : GoodIn wsX4_takesTitle (wsV RX4 85 RX4 yX4_countLetter wsX4_countLetter) := goodIn_app (goodIn_of _ (by decide +kernel)) ggX4_takesTitle_X4_countLetter
set_option maxRecDepth 20000 in
theorem ggX4_takesTitle_X4_beginWork : GoodIn wsX4_takesTitle wsX4_beginWork := goodIn_r _ [18, 19, 20, 21, 22, 23, 24, 25, 26, 27, 28, 29, 30, 31, 32, 33, 5, 34, 35, 2, 40, 41, 42, 43, 44, 45, 36, 37, 38, 39] (by decide +kernel) (by decide +kernel)
set_option maxRecDepth 20000 in
theorem gX4_takesTitle_X4_beginWork : GoodIn wsX4_takesTitle (wsV RX4 38 RX4 yX4_beginWork wsX4_beginWork) := goodIn_app (goodIn_of _ (by decide +kernel)) ggX4_takesTitle_X4_beginWork
theorem dX4_takesTitle_0 : decode cX4_takesTitle 0 = .ok (.iload_n 2, 1) := by decide +kernel
theorem dX4_takesTitle_1 : decode cX4_takesTitle 1 = .ok (.invokestatic 72, 3) := by decide +kernel
theorem dX4_takesTitle_4 : decode cX4_takesTitle 4 = .ok (.ifCond .eq 29, 3) := by decide +kernel
theorem dX4_takesTitle_7 : decode cX4_takesTitle 7 = .ok (.aload_n 1, 1) := by decide +kernel
theorem dX4_takesTitle_8 : decode cX4_takesTitle 8 = .ok (.aload_n 1, 1) := by decide +kernel
theorem dX4_takesTitle_9 : decode cX4_takesTitle 9 = .ok (.getfield 91, 3) := by decide +kernel
theorem dX4_takesTitle_12 : decode cX4_takesTitle 12 = .ok (.aload_n 0, 1) := by decide +kernel
theorem dX4_takesTitle_13 : decode cX4_takesTitle 13 = .ok (.getfield 49, 3) := by decide +kernel
theorem dX4_takesTitle_16 : decode cX4_takesTitle 16 = .ok (.iload_n 2, 1) := by decide +kernel
theorem dX4_takesTitle_17 : decode cX4_takesTitle 17 = .ok (.bipush 97, 2) := by decide +kernel
theorem dX4_takesTitle_19 : decode cX4_takesTitle 19 = .ok (.isub, 1) := by decide +kernel
theorem dX4_takesTitle_20 : decode cX4_takesTitle 20 = .ok (.iconst 1, 1) := by decide +kernel
theorem dX4_takesTitle_21 : decode cX4_takesTitle 21 = .ok (.iadd, 1) := by decide +kernel
theorem dX4_takesTitle_22 : decode cX4_takesTitle 22 = .ok (.invokestatic 79, 3) := by decide +kernel
theorem dX4_takesTitle_25 : decode cX4_takesTitle 25 = .ok (.putfield 91, 3) := by decide +kernel
theorem dX4_takesTitle_28 : decode cX4_takesTitle 28 = .ok (.aload_n 0, 1) := by decide +kernel
theorem dX4_takesTitle_29 : decode cX4_takesTitle 29 = .ok (.invokevirtual 85, 3) := by decide +kernel
theorem dX4_takesTitle_32 : decode cX4_takesTitle 32 = .ok (.ireturn, 1) := by decide +kernel
theorem dX4_takesTitle_33 : decode cX4_takesTitle 33 = .ok (.iload_n 2, 1) := by decide +kernel
theorem dX4_takesTitle_34 : decode cX4_takesTitle 34 = .ok (.bipush 59, 2) := by decide +kernel
theorem dX4_takesTitle_36 : decode cX4_takesTitle 36 = .ok (.if_icmp .ne 21, 3) := by decide +kernel
theorem dX4_takesTitle_39 : decode cX4_takesTitle 39 = .ok (.aload_n 0, 1) := by decide +kernel
theorem dX4_takesTitle_40 : decode cX4_takesTitle 40 = .ok (.getfield 49, 3) := by decide +kernel
theorem dX4_takesTitle_43 : decode cX4_takesTitle 43 = .ok (.ifCond .le 14, 3) := by decide +kernel
theorem dX4_takesTitle_46 : decode cX4_takesTitle 46 = .ok (.aload_n 0, 1) := by decide +kernel
theorem dX4_takesTitle_47 : decode cX4_takesTitle 47 = .ok (.invokevirtual 38, 3) := by decide +kernel
theorem dX4_takesTitle_50 : decode cX4_takesTitle 50 = .ok (.ifCond .eq 7, 3) := by decide +kernel
theorem dX4_takesTitle_53 : decode cX4_takesTitle 53 = .ok (.iconst 1, 1) := by decide +kernel
theorem dX4_takesTitle_54 : decode cX4_takesTitle 54 = .ok (.goto 4, 3) := by decide +kernel
theorem dX4_takesTitle_57 : decode cX4_takesTitle 57 = .ok (.iconst 0, 1) := by decide +kernel
theorem dX4_takesTitle_58 : decode cX4_takesTitle 58 = .ok (.ireturn, 1) := by decide +kernel
theorem dX4_countLetter_0 : decode cX4_countLetter 0 = .ok (.aload_n 0, 1) := by decide +kernel
theorem dX4_countLetter_1 : decode cX4_countLetter 1 = .ok (.dup, 1) := by decide +kernel
theorem dX4_countLetter_2 : decode cX4_countLetter 2 = .ok (.getfield 49, 3) := by decide +kernel
theorem dX4_countLetter_5 : decode cX4_countLetter 5 = .ok (.iconst 1, 1) := by decide +kernel
theorem dX4_countLetter_6 : decode cX4_countLetter 6 = .ok (.iadd, 1) := by decide +kernel
theorem dX4_countLetter_7 : decode cX4_countLetter 7 = .ok (.putfield 49, 3) := by decide +kernel
theorem dX4_countLetter_10 : decode cX4_countLetter 10 = .ok (.aload_n 0, 1) := by decide +kernel
theorem dX4_countLetter_11 : decode cX4_countLetter 11 = .ok (.getfield 49, 3) := by decide +kernel
theorem dX4_countLetter_14 : decode cX4_countLetter 14 = .ok (.bipush 8, 2) := by decide +kernel
theorem dX4_countLetter_16 : decode cX4_countLetter 16 = .ok (.if_icmp .gt 7, 3) := by decide +kernel
theorem dX4_countLetter_19 : decode cX4_countLetter 19 = .ok (.iconst 1, 1) := by decide +kernel
theorem dX4_countLetter_20 : decode cX4_countLetter 20 = .ok (.goto 4, 3) := by decide +kernel
theorem dX4_countLetter_23 : decode cX4_countLetter 23 = .ok (.iconst 0, 1) := by decide +kernel
theorem dX4_countLetter_24 : decode cX4_countLetter 24 = .ok (.ireturn, 1) := by decide +kernel
theorem dX4_isLetter_0 : decode cX4_isLetter 0 = .ok (.iload_n 0, 1) := by decide +kernel
theorem dX4_isLetter_1 : decode cX4_isLetter 1 = .ok (.bipush 97, 2) := by decide +kernel
theorem dX4_isLetter_3 : decode cX4_isLetter 3 = .ok (.if_icmp .lt 13, 3) := by decide +kernel
theorem dX4_isLetter_6 : decode cX4_isLetter 6 = .ok (.iload_n 0, 1) := by decide +kernel
theorem dX4_isLetter_7 : decode cX4_isLetter 7 = .ok (.bipush 122, 2) := by decide +kernel
theorem dX4_isLetter_9 : decode cX4_isLetter 9 = .ok (.if_icmp .gt 7, 3) := by decide +kernel
theorem dX4_isLetter_12 : decode cX4_isLetter 12 = .ok (.iconst 1, 1) := by decide +kernel
theorem dX4_isLetter_13 : decode cX4_isLetter 13 = .ok (.goto 4, 3) := by decide +kernel
theorem dX4_isLetter_16 : decode cX4_isLetter 16 = .ok (.iconst 0, 1) := by decide +kernel
theorem dX4_isLetter_17 : decode cX4_isLetter 17 = .ok (.ireturn, 1) := by decide +kernel
theorem dX5_init_0 : decode cX5_init 0 = .ok (.aload_n 0, 1) := by decide +kernel
theorem dX5_init_1 : decode cX5_init 1 = .ok (.invokespecial 3, 3) := by decide +kernel
theorem dX5_init_4 : decode cX5_init 4 = .ok (.aload_n 0, 1) := by decide +kernel
theorem dX5_init_5 : decode cX5_init 5 = .ok (.iconst 4, 1) := by decide +kernel
theorem dX5_init_6 : decode cX5_init 6 = .ok (.newarray .long, 2) := by decide +kernel
theorem dX5_init_8 : decode cX5_init 8 = .ok (.putfield 9, 3) := by decide +kernel
theorem dX5_init_11 : decode cX5_init 11 = .ok (.return_, 1) := by decide +kernel
theorem dX5_empty_0 : decode cX5_empty 0 = .ok (.iconst 0, 1) := by decide +kernel
theorem dX5_empty_1 : decode cX5_empty 1 = .ok (.istore_n 1, 1) := by decide +kernel
theorem dX5_empty_2 : decode cX5_empty 2 = .ok (.iload_n 1, 1) := by decide +kernel
theorem dX5_empty_3 : decode cX5_empty 3 = .ok (.iconst 4, 1) := by decide +kernel
theorem dX5_empty_4 : decode cX5_empty 4 = .ok (.if_icmp .ge 16, 3) := by decide +kernel
theorem dX5_empty_7 : decode cX5_empty 7 = .ok (.aload_n 0, 1) := by decide +kernel
theorem dX5_empty_8 : decode cX5_empty 8 = .ok (.getfield 9, 3) := by decide +kernel
theorem dX5_empty_11 : decode cX5_empty 11 = .ok (.iload_n 1, 1) := by decide +kernel
theorem dX5_empty_12 : decode cX5_empty 12 = .ok (.lconst 0, 1) := by decide +kernel
theorem dX5_empty_13 : decode cX5_empty 13 = .ok (.lastore, 1) := by decide +kernel
theorem dX5_empty_14 : decode cX5_empty 14 = .ok (.iinc 1 1, 3) := by decide +kernel
theorem dX5_empty_17 : decode cX5_empty 17 = .ok (.goto (-15), 3) := by decide +kernel
theorem dX5_empty_20 : decode cX5_empty 20 = .ok (.aload_n 0, 1) := by decide +kernel
theorem dX5_empty_21 : decode cX5_empty 21 = .ok (.iconst 0, 1) := by decide +kernel
theorem dX5_empty_22 : decode cX5_empty 22 = .ok (.putfield 15, 3) := by decide +kernel
theorem dX5_empty_25 : decode cX5_empty 25 = .ok (.aload_n 0, 1) := by decide +kernel
theorem dX5_empty_26 : decode cX5_empty 26 = .ok (.iconst 0, 1) := by decide +kernel
theorem dX5_empty_27 : decode cX5_empty 27 = .ok (.putfield 19, 3) := by decide +kernel
theorem dX5_empty_30 : decode cX5_empty 30 = .ok (.aload_n 0, 1) := by decide +kernel
theorem dX5_empty_31 : decode cX5_empty 31 = .ok (.lconst 0, 1) := by decide +kernel
theorem dX5_empty_32 : decode cX5_empty 32 = .ok (.putfield 22, 3) := by decide +kernel
theorem dX5_empty_35 : decode cX5_empty 35 = .ok (.return_, 1) := by decide +kernel
theorem dX5_copyFrom_0 : decode cX5_copyFrom 0 = .ok (.iconst 0, 1) := by decide +kernel
theorem dX5_copyFrom_1 : decode cX5_copyFrom 1 = .ok (.istore_n 2, 1) := by decide +kernel
theorem dX5_copyFrom_2 : decode cX5_copyFrom 2 = .ok (.iload_n 2, 1) := by decide +kernel
theorem dX5_copyFrom_3 : decode cX5_copyFrom 3 = .ok (.iconst 4, 1) := by decide +kernel
theorem dX5_copyFrom_4 : decode cX5_copyFrom 4 = .ok (.if_icmp .ge 21, 3) := by decide +kernel
theorem dX5_copyFrom_7 : decode cX5_copyFrom 7 = .ok (.aload_n 0, 1) := by decide +kernel
theorem dX5_copyFrom_8 : decode cX5_copyFrom 8 = .ok (.getfield 9, 3) := by decide +kernel
theorem dX5_copyFrom_11 : decode cX5_copyFrom 11 = .ok (.iload_n 2, 1) := by decide +kernel
theorem dX5_copyFrom_12 : decode cX5_copyFrom 12 = .ok (.aload_n 1, 1) := by decide +kernel
theorem dX5_copyFrom_13 : decode cX5_copyFrom 13 = .ok (.getfield 9, 3) := by decide +kernel
theorem dX5_copyFrom_16 : decode cX5_copyFrom 16 = .ok (.iload_n 2, 1) := by decide +kernel
theorem dX5_copyFrom_17 : decode cX5_copyFrom 17 = .ok (.laload, 1) := by decide +kernel
theorem dX5_copyFrom_18 : decode cX5_copyFrom 18 = .ok (.lastore, 1) := by decide +kernel
theorem dX5_copyFrom_19 : decode cX5_copyFrom 19 = .ok (.iinc 2 1, 3) := by decide +kernel
theorem dX5_copyFrom_22 : decode cX5_copyFrom 22 = .ok (.goto (-20), 3) := by decide +kernel
theorem dX5_copyFrom_25 : decode cX5_copyFrom 25 = .ok (.aload_n 0, 1) := by decide +kernel
theorem dX5_copyFrom_26 : decode cX5_copyFrom 26 = .ok (.aload_n 1, 1) := by decide +kernel
theorem dX5_copyFrom_27 : decode cX5_copyFrom 27 = .ok (.getfield 15, 3) := by decide +kernel
theorem dX5_copyFrom_30 : decode cX5_copyFrom 30 = .ok (.putfield 15, 3) := by decide +kernel
theorem dX5_copyFrom_33 : decode cX5_copyFrom 33 = .ok (.aload_n 0, 1) := by decide +kernel
theorem dX5_copyFrom_34 : decode cX5_copyFrom 34 = .ok (.aload_n 1, 1) := by decide +kernel
theorem dX5_copyFrom_35 : decode cX5_copyFrom 35 = .ok (.getfield 19, 3) := by decide +kernel
theorem dX5_copyFrom_38 : decode cX5_copyFrom 38 = .ok (.putfield 19, 3) := by decide +kernel
theorem dX5_copyFrom_41 : decode cX5_copyFrom 41 = .ok (.aload_n 0, 1) := by decide +kernel
theorem dX5_copyFrom_42 : decode cX5_copyFrom 42 = .ok (.aload_n 1, 1) := by decide +kernel
theorem dX5_copyFrom_43 : decode cX5_copyFrom 43 = .ok (.getfield 22, 3) := by decide +kernel
theorem dX5_copyFrom_46 : decode cX5_copyFrom 46 = .ok (.putfield 22, 3) := by decide +kernel
theorem dX5_copyFrom_49 : decode cX5_copyFrom 49 = .ok (.return_, 1) := by decide +kernel
theorem dX5_nameAt_0 : decode cX5_nameAt 0 = .ok (.iload_n 1, 1) := by decide +kernel
theorem dX5_nameAt_1 : decode cX5_nameAt 1 = .ok (.ifCond .lt 25, 3) := by decide +kernel
theorem dX5_nameAt_4 : decode cX5_nameAt 4 = .ok (.iload_n 1, 1) := by decide +kernel
theorem dX5_nameAt_5 : decode cX5_nameAt 5 = .ok (.aload_n 0, 1) := by decide +kernel
theorem dX5_nameAt_6 : decode cX5_nameAt 6 = .ok (.getfield 15, 3) := by decide +kernel
theorem dX5_nameAt_9 : decode cX5_nameAt 9 = .ok (.if_icmp .ge 17, 3) := by decide +kernel
theorem dX5_nameAt_12 : decode cX5_nameAt 12 = .ok (.iload_n 1, 1) := by decide +kernel
theorem dX5_nameAt_13 : decode cX5_nameAt 13 = .ok (.iconst 4, 1) := by decide +kernel
theorem dX5_nameAt_14 : decode cX5_nameAt 14 = .ok (.if_icmp .ge 12, 3) := by decide +kernel
theorem dX5_nameAt_17 : decode cX5_nameAt 17 = .ok (.aload_n 0, 1) := by decide +kernel
theorem dX5_nameAt_18 : decode cX5_nameAt 18 = .ok (.getfield 9, 3) := by decide +kernel
theorem dX5_nameAt_21 : decode cX5_nameAt 21 = .ok (.iload_n 1, 1) := by decide +kernel
theorem dX5_nameAt_22 : decode cX5_nameAt 22 = .ok (.laload, 1) := by decide +kernel
theorem dX5_nameAt_23 : decode cX5_nameAt 23 = .ok (.goto 7, 3) := by decide +kernel
theorem dX5_nameAt_26 : decode cX5_nameAt 26 = .ok (.aload_n 0, 1) := by decide +kernel
theorem dX5_nameAt_27 : decode cX5_nameAt 27 = .ok (.getfield 22, 3) := by decide +kernel
theorem dX5_nameAt_30 : decode cX5_nameAt 30 = .ok (.lreturn, 1) := by decide +kernel
set_option maxRecDepth 20000 in
theorem ggX5_compareAuthors_J13_compare_74951 : GoodIn wsX5_compareAuthors wsJ13_compare_74951 := goodIn_r _ [5] (by decide +kernel) (by decide +kernel)
set_option maxRecDepth 20000 in
theorem gX5_compareAuthors_J13_compare_74951 : GoodIn wsX5_compareAuthors (va_wsS RX5 26 yJ13_compare_74951 wsJ13_compare_74951) := goodIn_app (goodIn_of _ (by decide +kernel)) ggX5_compareAuthors_J13_compare_74951
theorem dX5_compareAuthors_0 : decode cX5_compareAuthors 0 = .ok (.iconst 0, 1) := by decide +kernel
theorem dX5_compareAuthors_1 : decode cX5_compareAuthors 1 = .ok (.istore_n 2, 1) := by decide +kernel
theorem dX5_compareAuthors_2 : decode cX5_compareAuthors 2 = .ok (.iload_n 2, 1) := by decide +kernel
theorem dX5_compareAuthors_3 : decode cX5_compareAuthors 3 = .ok (.iconst 4, 1) := by decide +kernel
theorem dX5_compareAuthors_4 : decode cX5_compareAuthors 4 = .ok (.if_icmp .ge 31, 3) := by decide +kernel
theorem dX5_compareAuthors_7 : decode cX5_compareAuthors 7 = .ok (.aload_n 0, 1) := by decide +kernel
theorem dX5_compareAuthors_8 : decode cX5_compareAuthors 8 = .ok (.getfield 9, 3) := by decide +kernel
theorem dX5_compareAuthors_11 : decode cX5_compareAuthors 11 = .ok (.iload_n 2, 1) := by decide +kernel
theorem dX5_compareAuthors_12 : decode cX5_compareAuthors 12 = .ok (.laload, 1) := by decide +kernel
theorem dX5_compareAuthors_13 : decode cX5_compareAuthors 13 = .ok (.aload_n 1, 1) := by decide +kernel
theorem dX5_compareAuthors_14 : decode cX5_compareAuthors 14 = .ok (.getfield 9, 3) := by decide +kernel
theorem dX5_compareAuthors_17 : decode cX5_compareAuthors 17 = .ok (.iload_n 2, 1) := by decide +kernel
theorem dX5_compareAuthors_18 : decode cX5_compareAuthors 18 = .ok (.laload, 1) := by decide +kernel
theorem dX5_compareAuthors_19 : decode cX5_compareAuthors 19 = .ok (.invokestatic 26, 3) := by decide +kernel
theorem dX5_compareAuthors_22 : decode cX5_compareAuthors 22 = .ok (.istore_n 3, 1) := by decide +kernel
theorem dX5_compareAuthors_23 : decode cX5_compareAuthors 23 = .ok (.iload_n 3, 1) := by decide +kernel
theorem dX5_compareAuthors_24 : decode cX5_compareAuthors 24 = .ok (.ifCond .eq 5, 3) := by decide +kernel
theorem dX5_compareAuthors_27 : decode cX5_compareAuthors 27 = .ok (.iload_n 3, 1) := by decide +kernel
theorem dX5_compareAuthors_28 : decode cX5_compareAuthors 28 = .ok (.ireturn, 1) := by decide +kernel
theorem dX5_compareAuthors_29 : decode cX5_compareAuthors 29 = .ok (.iinc 2 1, 3) := by decide +kernel
theorem dX5_compareAuthors_32 : decode cX5_compareAuthors 32 = .ok (.goto (-30), 3) := by decide +kernel
theorem dX5_compareAuthors_35 : decode cX5_compareAuthors 35 = .ok (.iconst 0, 1) := by decide +kernel
theorem dX5_compareAuthors_36 : decode cX5_compareAuthors 36 = .ok (.ireturn, 1) := by decide +kernel
set_option maxRecDepth 20000 in
theorem ggX5_stem_X5_firstThreeLetters : GoodIn wsX5_stem wsX5_firstThreeLetters := goodIn_r _ [7, 1, 8, 9, 10, 11, 12, 13, 14, 33, 34, 35, 36] (by decide +kernel) (by decide +kernel)
set_option maxRecDepth 20000 in
theorem gX5_stem_X5_firstThreeLetters : GoodIn wsX5_stem (wsV RX5 32 RX5 yX5_firstThreeLetters wsX5_firstThreeLetters) := goodIn_app (goodIn_of _ (by decide +kernel)) ggX5_stem_X5_firstThreeLetters
set_option maxRecDepth 20000 in
theorem ggX5_stem_X1_withTwoDigits : GoodIn wsX5_stem wsX1_withTwoDigits := goodIn_r _ [18, 19] (by decide +kernel) (by decide +kernel)
set_option maxRecDepth 20000 in
theorem gX5_stem_X1_withTwoDigits : GoodIn wsX5_stem (va_wsS RX5 36 yX1_withTwoDigits wsX1_withTwoDigits) := goodIn_app (goodIn_of _ (by decide +kernel)) ggX5_stem_X1_withTwoDigits
set_option maxRecDepth 20000 in
theorem ggX5_stem_X5_initials : GoodIn wsX5_stem wsX5_initials := goodIn_r _ [23, 1, 8, 9, 10, 11, 12, 13, 14, 33, 34, 35, 36] (by decide +kernel) (by decide +kernel)
set_option maxRecDepth 20000 in
theorem gX5_stem_X5_initials : GoodIn wsX5_stem (wsV RX5 42 RX5 yX5_initials wsX5_initials) := goodIn_app (goodIn_of _ (by decide +kernel)) ggX5_stem_X5_initials
set_option maxRecDepth 20000 in
theorem ggX5_stem_X1_withFourDigits : GoodIn wsX5_stem wsX1_withFourDigits := goodIn_r _ [26, 27] (by decide +kernel) (by decide +kernel)
set_option maxRecDepth 20000 in
theorem gX5_stem_X1_withFourDigits : GoodIn wsX5_stem (va_wsS RX5 45 yX1_withFourDigits wsX1_withFourDigits) := goodIn_app (goodIn_of _ (by decide +kernel)) ggX5_stem_X1_withFourDigits
set_option maxRecDepth 20000 in
theorem ggX5_stem_X5_authorAndTitle : GoodIn wsX5_stem wsX5_authorAndTitle := goodIn_r _ [31, 1, 32, 8, 9, 10, 11, 12, 13, 14, 33, 34, 35, 36] (by decide +kernel) (by decide +kernel)
set_option maxRecDepth 20000 in
theorem gX5_stem_X5_authorAndTitle : GoodIn wsX5_stem (wsV RX5 49 RX5 yX5_authorAndTitle wsX5_authorAndTitle) := goodIn_app (goodIn_of _ (by decide +kernel)) ggX5_stem_X5_authorAndTitle
theorem dX5_stem_0 : decode cX5_stem 0 = .ok (.iload_n 1, 1) := by decide +kernel
theorem dX5_stem_1 : decode cX5_stem 1 = .ok (.tableswitch 70 0 2 #[27, 37, 46], 27) := by decide +kernel
theorem dX5_stem_28 : decode cX5_stem 28 = .ok (.aload_n 0, 1) := by decide +kernel
theorem dX5_stem_29 : decode cX5_stem 29 = .ok (.invokevirtual 32, 3) := by decide +kernel
theorem dX5_stem_32 : decode cX5_stem 32 = .ok (.iconst 0, 1) := by decide +kernel
theorem dX5_stem_33 : decode cX5_stem 33 = .ok (.iload_n 2, 1) := by decide +kernel
theorem dX5_stem_34 : decode cX5_stem 34 = .ok (.invokestatic 36, 3) := by decide +kernel
theorem dX5_stem_37 : decode cX5_stem 37 = .ok (.lreturn, 1) := by decide +kernel
theorem dX5_stem_38 : decode cX5_stem 38 = .ok (.aload_n 0, 1) := by decide +kernel
theorem dX5_stem_39 : decode cX5_stem 39 = .ok (.invokevirtual 42, 3) := by decide +kernel
theorem dX5_stem_42 : decode cX5_stem 42 = .ok (.iload_n 2, 1) := by decide +kernel
theorem dX5_stem_43 : decode cX5_stem 43 = .ok (.invokestatic 45, 3) := by decide +kernel
theorem dX5_stem_46 : decode cX5_stem 46 = .ok (.lreturn, 1) := by decide +kernel
theorem dX5_stem_47 : decode cX5_stem 47 = .ok (.aload_n 0, 1) := by decide +kernel
theorem dX5_stem_48 : decode cX5_stem 48 = .ok (.getfield 9, 3) := by decide +kernel
theorem dX5_stem_51 : decode cX5_stem 51 = .ok (.iconst 0, 1) := by decide +kernel
theorem dX5_stem_52 : decode cX5_stem 52 = .ok (.laload, 1) := by decide +kernel
theorem dX5_stem_53 : decode cX5_stem 53 = .ok (.aload_n 0, 1) := by decide +kernel
theorem dX5_stem_54 : decode cX5_stem 54 = .ok (.getfield 15, 3) := by decide +kernel
theorem dX5_stem_57 : decode cX5_stem 57 = .ok (.iconst 1, 1) := by decide +kernel
theorem dX5_stem_58 : decode cX5_stem 58 = .ok (.if_icmp .le 7, 3) := by decide +kernel
theorem dX5_stem_61 : decode cX5_stem 61 = .ok (.iconst 1, 1) := by decide +kernel
theorem dX5_stem_62 : decode cX5_stem 62 = .ok (.goto 4, 3) := by decide +kernel
theorem dX5_stem_65 : decode cX5_stem 65 = .ok (.iconst 0, 1) := by decide +kernel
theorem dX5_stem_66 : decode cX5_stem 66 = .ok (.iload_n 2, 1) := by decide +kernel
theorem dX5_stem_67 : decode cX5_stem 67 = .ok (.invokestatic 36, 3) := by decide +kernel
theorem dX5_stem_70 : decode cX5_stem 70 = .ok (.lreturn, 1) := by decide +kernel
theorem dX5_stem_71 : decode cX5_stem 71 = .ok (.aload_n 0, 1) := by decide +kernel
theorem dX5_stem_72 : decode cX5_stem 72 = .ok (.invokevirtual 49, 3) := by decide +kernel
theorem dX5_stem_75 : decode cX5_stem 75 = .ok (.iload_n 2, 1) := by decide +kernel
theorem dX5_stem_76 : decode cX5_stem 76 = .ok (.invokestatic 45, 3) := by decide +kernel
theorem dX5_stem_79 : decode cX5_stem 79 = .ok (.lreturn, 1) := by decide +kernel
set_option maxRecDepth 20000 in
theorem ggX5_firstThreeLetters_X2_numberAt : GoodIn wsX5_firstThreeLetters wsX2_numberAt := goodIn_r _ [5] (by decide +kernel) (by decide +kernel)
set_option maxRecDepth 20000 in
theorem gX5_firstThreeLetters_X2_numberAt : GoodIn wsX5_firstThreeLetters (va_wsS RX5 52 yX2_numberAt wsX2_numberAt) := goodIn_app (goodIn_of _ (by decide +kernel)) ggX5_firstThreeLetters_X2_numberAt
set_option maxRecDepth 20000 in
theorem ggX5_firstThreeLetters_X2_with : GoodIn wsX5_firstThreeLetters wsX2_with := goodIn_r _ [8] (by decide +kernel) (by decide +kernel)
set_option maxRecDepth 20000 in
theorem gX5_firstThreeLetters_X2_with : GoodIn wsX5_firstThreeLetters (va_wsS RX5 58 yX2_with wsX2_with) := goodIn_app (goodIn_of _ (by decide +kernel)) ggX5_firstThreeLetters_X2_with
theorem dX5_firstThreeLetters_0 : decode cX5_firstThreeLetters 0 = .ok (.lconst 0, 1) := by decide +kernel
theorem dX5_firstThreeLetters_1 : decode cX5_firstThreeLetters 1 = .ok (.lstore_n 1, 1) := by decide +kernel
theorem dX5_firstThreeLetters_2 : decode cX5_firstThreeLetters 2 = .ok (.iconst 0, 1) := by decide +kernel
theorem dX5_firstThreeLetters_3 : decode cX5_firstThreeLetters 3 = .ok (.istore_n 3, 1) := by decide +kernel
theorem dX5_firstThreeLetters_4 : decode cX5_firstThreeLetters 4 = .ok (.iload_n 3, 1) := by decide +kernel
theorem dX5_firstThreeLetters_5 : decode cX5_firstThreeLetters 5 = .ok (.iconst 3, 1) := by decide +kernel
theorem dX5_firstThreeLetters_6 : decode cX5_firstThreeLetters 6 = .ok (.if_icmp .ge 25, 3) := by decide +kernel
theorem dX5_firstThreeLetters_9 : decode cX5_firstThreeLetters 9 = .ok (.lload_n 1, 1) := by decide +kernel
theorem dX5_firstThreeLetters_10 : decode cX5_firstThreeLetters 10 = .ok (.iload_n 3, 1) := by decide +kernel
theorem dX5_firstThreeLetters_11 : decode cX5_firstThreeLetters 11 = .ok (.aload_n 0, 1) := by decide +kernel
theorem dX5_firstThreeLetters_12 : decode cX5_firstThreeLetters 12 = .ok (.getfield 9, 3) := by decide +kernel
theorem dX5_firstThreeLetters_15 : decode cX5_firstThreeLetters 15 = .ok (.iconst 0, 1) := by decide +kernel
theorem dX5_firstThreeLetters_16 : decode cX5_firstThreeLetters 16 = .ok (.laload, 1) := by decide +kernel
theorem dX5_firstThreeLetters_17 : decode cX5_firstThreeLetters 17 = .ok (.iload_n 3, 1) := by decide +kernel
theorem dX5_firstThreeLetters_18 : decode cX5_firstThreeLetters 18 = .ok (.invokestatic 52, 3) := by decide +kernel
theorem dX5_firstThreeLetters_21 : decode cX5_firstThreeLetters 21 = .ok (.invokestatic 58, 3) := by decide +kernel
theorem dX5_firstThreeLetters_24 : decode cX5_firstThreeLetters 24 = .ok (.lstore_n 1, 1) := by decide +kernel
theorem dX5_firstThreeLetters_25 : decode cX5_firstThreeLetters 25 = .ok (.iinc 3 1, 3) := by decide +kernel
theorem dX5_firstThreeLetters_28 : decode cX5_firstThreeLetters 28 = .ok (.goto (-24), 3) := by decide +kernel
theorem dX5_firstThreeLetters_31 : decode cX5_firstThreeLetters 31 = .ok (.lload_n 1, 1) := by decide +kernel
theorem dX5_firstThreeLetters_32 : decode cX5_firstThreeLetters 32 = .ok (.lreturn, 1) := by decide +kernel
set_option maxRecDepth 20000 in
theorem ggX5_initials_X2_numberAt : GoodIn wsX5_initials wsX2_numberAt := goodIn_r _ [5] (by decide +kernel) (by decide +kernel)
set_option maxRecDepth 20000 in
theorem gX5_initials_X2_numberAt : GoodIn wsX5_initials (va_wsS RX5 52 yX2_numberAt wsX2_numberAt) := goodIn_app (goodIn_of _ (by decide +kernel)) ggX5_initials_X2_numberAt
set_option maxRecDepth 20000 in
theorem ggX5_initials_X2_with : GoodIn wsX5_initials wsX2_with := goodIn_r _ [8] (by decide +kernel) (by decide +kernel)
set_option maxRecDepth 20000 in
theorem gX5_initials_X2_with : GoodIn wsX5_initials (va_wsS RX5 58 yX2_with wsX2_with) := goodIn_app (goodIn_of _ (by decide +kernel)) ggX5_initials_X2_with
theorem dX5_initials_0 : decode cX5_initials 0 = .ok (.lconst 0, 1) := by decide +kernel
theorem dX5_initials_1 : decode cX5_initials 1 = .ok (.lstore_n 1, 1) := by decide +kernel
theorem dX5_initials_2 : decode cX5_initials 2 = .ok (.iconst 0, 1) := by decide +kernel
theorem dX5_initials_3 : decode cX5_initials 3 = .ok (.istore_n 3, 1) := by decide +kernel
theorem dX5_initials_4 : decode cX5_initials 4 = .ok (.iload_n 3, 1) := by decide +kernel
theorem dX5_initials_5 : decode cX5_initials 5 = .ok (.iconst 4, 1) := by decide +kernel
theorem dX5_initials_6 : decode cX5_initials 6 = .ok (.if_icmp .ge 25, 3) := by decide +kernel
theorem dX5_initials_9 : decode cX5_initials 9 = .ok (.lload_n 1, 1) := by decide +kernel
theorem dX5_initials_10 : decode cX5_initials 10 = .ok (.iload_n 3, 1) := by decide +kernel
theorem dX5_initials_11 : decode cX5_initials 11 = .ok (.aload_n 0, 1) := by decide +kernel
theorem dX5_initials_12 : decode cX5_initials 12 = .ok (.getfield 9, 3) := by decide +kernel
theorem dX5_initials_15 : decode cX5_initials 15 = .ok (.iload_n 3, 1) := by decide +kernel
theorem dX5_initials_16 : decode cX5_initials 16 = .ok (.laload, 1) := by decide +kernel
theorem dX5_initials_17 : decode cX5_initials 17 = .ok (.iconst 0, 1) := by decide +kernel
theorem dX5_initials_18 : decode cX5_initials 18 = .ok (.invokestatic 52, 3) := by decide +kernel
theorem dX5_initials_21 : decode cX5_initials 21 = .ok (.invokestatic 58, 3) := by decide +kernel
theorem dX5_initials_24 : decode cX5_initials 24 = .ok (.lstore_n 1, 1) := by decide +kernel
theorem dX5_initials_25 : decode cX5_initials 25 = .ok (.iinc 3 1, 3) := by decide +kernel
theorem dX5_initials_28 : decode cX5_initials 28 = .ok (.goto (-24), 3) := by decide +kernel
theorem dX5_initials_31 : decode cX5_initials 31 = .ok (.lload_n 1, 1) := by decide +kernel
theorem dX5_initials_32 : decode cX5_initials 32 = .ok (.lreturn, 1) := by decide +kernel
set_option maxRecDepth 20000 in
theorem ggX5_authorAndTitle_X2_numberAt : GoodIn wsX5_authorAndTitle wsX2_numberAt := goodIn_r _ [6] (by decide +kernel) (by decide +kernel)
set_option maxRecDepth 20000 in
theorem gX5_authorAndTitle_X2_numberAt : GoodIn wsX5_authorAndTitle (va_wsS RX5 52 yX2_numberAt wsX2_numberAt) := goodIn_app (goodIn_of _ (by decide +kernel)) ggX5_authorAndTitle_X2_numberAt
set_option maxRecDepth 20000 in
theorem ggX5_authorAndTitle_X2_with : GoodIn wsX5_authorAndTitle wsX2_with := goodIn_r _ [9] (by decide +kernel) (by decide +kernel)
set_option maxRecDepth 20000 in
theorem gX5_authorAndTitle_X2_with : GoodIn wsX5_authorAndTitle (va_wsS RX5 58 yX2_with wsX2_with) := goodIn_app (goodIn_of _ (by decide +kernel)) ggX5_authorAndTitle_X2_with
theorem dX5_authorAndTitle_0 : decode cX5_authorAndTitle 0 = .ok (.lconst 0, 1) := by decide +kernel
theorem dX5_authorAndTitle_1 : decode cX5_authorAndTitle 1 = .ok (.iconst 0, 1) := by decide +kernel
theorem dX5_authorAndTitle_2 : decode cX5_authorAndTitle 2 = .ok (.aload_n 0, 1) := by decide +kernel
theorem dX5_authorAndTitle_3 : decode cX5_authorAndTitle 3 = .ok (.getfield 9, 3) := by decide +kernel
theorem dX5_authorAndTitle_6 : decode cX5_authorAndTitle 6 = .ok (.iconst 0, 1) := by decide +kernel
theorem dX5_authorAndTitle_7 : decode cX5_authorAndTitle 7 = .ok (.laload, 1) := by decide +kernel
theorem dX5_authorAndTitle_8 : decode cX5_authorAndTitle 8 = .ok (.iconst 0, 1) := by decide +kernel
theorem dX5_authorAndTitle_9 : decode cX5_authorAndTitle 9 = .ok (.invokestatic 52, 3) := by decide +kernel
theorem dX5_authorAndTitle_12 : decode cX5_authorAndTitle 12 = .ok (.invokestatic 58, 3) := by decide +kernel
theorem dX5_authorAndTitle_15 : decode cX5_authorAndTitle 15 = .ok (.lstore_n 1, 1) := by decide +kernel
theorem dX5_authorAndTitle_16 : decode cX5_authorAndTitle 16 = .ok (.lload_n 1, 1) := by decide +kernel
theorem dX5_authorAndTitle_17 : decode cX5_authorAndTitle 17 = .ok (.iconst 1, 1) := by decide +kernel
theorem dX5_authorAndTitle_18 : decode cX5_authorAndTitle 18 = .ok (.aload_n 0, 1) := by decide +kernel
theorem dX5_authorAndTitle_19 : decode cX5_authorAndTitle 19 = .ok (.getfield 22, 3) := by decide +kernel
theorem dX5_authorAndTitle_22 : decode cX5_authorAndTitle 22 = .ok (.iconst 0, 1) := by decide +kernel
theorem dX5_authorAndTitle_23 : decode cX5_authorAndTitle 23 = .ok (.invokestatic 52, 3) := by decide +kernel
theorem dX5_authorAndTitle_26 : decode cX5_authorAndTitle 26 = .ok (.invokestatic 58, 3) := by decide +kernel
theorem dX5_authorAndTitle_29 : decode cX5_authorAndTitle 29 = .ok (.lreturn, 1) := by decide +kernel
set_option maxRecDepth 20000 in
theorem ggX6_init_X4_init : GoodIn wsX6_init wsX4_init := goodIn_r _ [26, 27, 2, 3, 28, 29, 30, 31, 14, 15, 32, 33, 34, 35, 36, 37, 58, 59, 60, 61, 62, 63, 80, 81, 82, 83] (by decide +kernel) (by decide +kernel)
set_option maxRecDepth 20000 in
theorem gX6_init_X4_init : GoodIn wsX6_init (wsX4_init) := ggX6_init_X4_init
set_option maxRecDepth 20000 in
theorem ggX6_init_X3_init : GoodIn wsX6_init wsX3_init := goodIn_r _ [40, 41, 2, 3, 42, 43, 14, 15, 36, 44, 45, 46, 47, 48, 49, 33, 34, 35, 37, 71, 72, 73, 74, 75, 76, 77, 78, 79, 80, 81, 82, 83] (by decide +kernel) (by decide +kernel)
set_option maxRecDepth 20000 in
theorem gX6_init_X3_init : GoodIn wsX6_init (wsX3_init) := ggX6_init_X3_init
set_option maxRecDepth 20000 in
theorem ggX6_init_X5_init : GoodIn wsX6_init wsX5_init := goodIn_r _ [34, 35, 2, 3, 36, 37, 80, 81, 82, 83] (by decide +kernel) (by decide +kernel)
set_option maxRecDepth 20000 in
theorem gX6_init_X5_init : GoodIn wsX6_init (wsX5_init) := ggX6_init_X5_init
set_option maxRecDepth 20000 in
theorem ggX6_init_X0_init : GoodIn wsX6_init wsX0_init := goodIn_r _ [53, 54, 2, 3, 55, 56, 9, 10, 57, 39, 40, 41, 42, 43, 14, 15, 36, 44, 45, 46, 47, 48, 49, 33, 34, 35, 37, 84, 85, 86, 71, 72, 73, 74, 75, 76, 77, 78, 79, 80, 81, 82, 83] (by decide +kernel) (by decide +kernel)
set_option maxRecDepth 20000 in
theorem gX6_init_X0_init : GoodIn wsX6_init (wsX0_init) := ggX6_init_X0_init
theorem dX6_init_0 : decode cX6_init 0 = .ok (.aload_n 0, 1) := by decide +kernel
theorem dX6_init_1 : decode cX6_init 1 = .ok (.invokespecial 1, 3) := by decide +kernel
theorem dX6_init_4 : decode cX6_init 4 = .ok (.aload_n 0, 1) := by decide +kernel
theorem dX6_init_5 : decode cX6_init 5 = .ok (.new 7, 3) := by decide +kernel
theorem dX6_init_8 : decode cX6_init 8 = .ok (.dup, 1) := by decide +kernel
theorem dX6_init_9 : decode cX6_init 9 = .ok (.invokespecial 9, 3) := by decide +kernel
theorem dX6_init_12 : decode cX6_init 12 = .ok (.putfield 10, 3) := by decide +kernel
theorem dX6_init_15 : decode cX6_init 15 = .ok (.aload_n 0, 1) := by decide +kernel
theorem dX6_init_16 : decode cX6_init 16 = .ok (.new 16, 3) := by decide +kernel
theorem dX6_init_19 : decode cX6_init 19 = .ok (.dup, 1) := by decide +kernel
theorem dX6_init_20 : decode cX6_init 20 = .ok (.invokespecial 18, 3) := by decide +kernel
theorem dX6_init_23 : decode cX6_init 23 = .ok (.putfield 19, 3) := by decide +kernel
theorem dX6_init_26 : decode cX6_init 26 = .ok (.aload_n 0, 1) := by decide +kernel
theorem dX6_init_27 : decode cX6_init 27 = .ok (.new 16, 3) := by decide +kernel
theorem dX6_init_30 : decode cX6_init 30 = .ok (.dup, 1) := by decide +kernel
theorem dX6_init_31 : decode cX6_init 31 = .ok (.invokespecial 18, 3) := by decide +kernel
theorem dX6_init_34 : decode cX6_init 34 = .ok (.putfield 23, 3) := by decide +kernel
theorem dX6_init_37 : decode cX6_init 37 = .ok (.aload_n 0, 1) := by decide +kernel
theorem dX6_init_38 : decode cX6_init 38 = .ok (.new 26, 3) := by decide +kernel
theorem dX6_init_41 : decode cX6_init 41 = .ok (.dup, 1) := by decide +kernel
theorem dX6_init_42 : decode cX6_init 42 = .ok (.invokespecial 28, 3) := by decide +kernel
theorem dX6_init_45 : decode cX6_init 45 = .ok (.putfield 29, 3) := by decide +kernel
theorem dX6_init_48 : decode cX6_init 48 = .ok (.aload_n 0, 1) := by decide +kernel
theorem dX6_init_49 : decode cX6_init 49 = .ok (.new 33, 3) := by decide +kernel
theorem dX6_init_52 : decode cX6_init 52 = .ok (.dup, 1) := by decide +kernel
theorem dX6_init_53 : decode cX6_init 53 = .ok (.invokespecial 35, 3) := by decide +kernel
theorem dX6_init_56 : decode cX6_init 56 = .ok (.putfield 36, 3) := by decide +kernel
theorem dX6_init_59 : decode cX6_init 59 = .ok (.aload_n 0, 1) := by decide +kernel
theorem dX6_init_60 : decode cX6_init 60 = .ok (.iconst 2, 1) := by decide +kernel
theorem dX6_init_61 : decode cX6_init 61 = .ok (.anewarray 16, 3) := by decide +kernel
theorem dX6_init_64 : decode cX6_init 64 = .ok (.putfield 40, 3) := by decide +kernel
theorem dX6_init_67 : decode cX6_init 67 = .ok (.iconst 0, 1) := by decide +kernel
theorem dX6_init_68 : decode cX6_init 68 = .ok (.istore_n 1, 1) := by decide +kernel
theorem dX6_init_69 : decode cX6_init 69 = .ok (.iload_n 1, 1) := by decide +kernel
theorem dX6_init_70 : decode cX6_init 70 = .ok (.iconst 2, 1) := by decide +kernel
theorem dX6_init_71 : decode cX6_init 71 = .ok (.if_icmp .ge 22, 3) := by decide +kernel
theorem dX6_init_74 : decode cX6_init 74 = .ok (.aload_n 0, 1) := by decide +kernel
theorem dX6_init_75 : decode cX6_init 75 = .ok (.getfield 40, 3) := by decide +kernel
theorem dX6_init_78 : decode cX6_init 78 = .ok (.iload_n 1, 1) := by decide +kernel
theorem dX6_init_79 : decode cX6_init 79 = .ok (.new 16, 3) := by decide +kernel
theorem dX6_init_82 : decode cX6_init 82 = .ok (.dup, 1) := by decide +kernel
theorem dX6_init_83 : decode cX6_init 83 = .ok (.invokespecial 18, 3) := by decide +kernel
theorem dX6_init_86 : decode cX6_init 86 = .ok (.aastore, 1) := by decide +kernel
theorem dX6_init_87 : decode cX6_init 87 = .ok (.iinc 1 1, 3) := by decide +kernel
theorem dX6_init_90 : decode cX6_init 90 = .ok (.goto (-21), 3) := by decide +kernel
theorem dX6_init_93 : decode cX6_init 93 = .ok (.aload_n 0, 1) := by decide +kernel
theorem dX6_init_94 : decode cX6_init 94 = .ok (.iconst 2, 1) := by decide +kernel
theorem dX6_init_95 : decode cX6_init 95 = .ok (.newarray .boolean, 2) := by decide +kernel
theorem dX6_init_97 : decode cX6_init 97 = .ok (.putfield 44, 3) := by decide +kernel
theorem dX6_init_100 : decode cX6_init 100 = .ok (.return_, 1) := by decide +kernel
set_option maxRecDepth 20000 in
theorem ggX6_append_X4_put : GoodIn wsX6_append wsX4_put := goodIn_r _ [11, 12, 13, 21, 22, 23, 24, 25, 26] (by decide +kernel) (by decide +kernel)
set_option maxRecDepth 20000 in
theorem gX6_append_X4_put : GoodIn wsX6_append (wsV RX6 64 RX4 yX4_put wsX4_put) := goodIn_app (goodIn_of _ (by decide +kernel)) ggX6_append_X4_put
theorem dX6_append_0 : decode cX6_append 0 = .ok (.iload_n 1, 1) := by decide +kernel
theorem dX6_append_1 : decode cX6_append 1 = .ok (.ifCond .lt 10, 3) := by decide +kernel
theorem dX6_append_4 : decode cX6_append 4 = .ok (.iload_n 1, 1) := by decide +kernel
theorem dX6_append_5 : decode cX6_append 5 = .ok (.sipush 255, 3) := by decide +kernel
theorem dX6_append_8 : decode cX6_append 8 = .ok (.if_icmp .le 13, 3) := by decide +kernel
theorem dX6_append_11 : decode cX6_append 11 = .ok (.new 48, 3) := by decide +kernel
theorem dX6_append_14 : decode cX6_append 14 = .ok (.dup, 1) := by decide +kernel
theorem dX6_append_15 : decode cX6_append 15 = .ok (.ldc 50, 2) := by decide +kernel
theorem dX6_append_17 : decode cX6_append 17 = .ok (.invokespecial 52, 3) := by decide +kernel
theorem dX6_append_20 : decode cX6_append 20 = .ok (.athrow, 1) := by decide +kernel
theorem dX6_append_21 : decode cX6_append 21 = .ok (.aload_n 0, 1) := by decide +kernel
theorem dX6_append_22 : decode cX6_append 22 = .ok (.getfield 10, 3) := by decide +kernel
theorem dX6_append_25 : decode cX6_append 25 = .ok (.getfield 55, 3) := by decide +kernel
theorem dX6_append_28 : decode cX6_append 28 = .ok (.bipush 100, 2) := by decide +kernel
theorem dX6_append_30 : decode cX6_append 30 = .ok (.if_icmp .lt 13, 3) := by decide +kernel
theorem dX6_append_33 : decode cX6_append 33 = .ok (.new 59, 3) := by decide +kernel
theorem dX6_append_36 : decode cX6_append 36 = .ok (.dup, 1) := by decide +kernel
theorem dX6_append_37 : decode cX6_append 37 = .ok (.ldc 61, 2) := by decide +kernel
theorem dX6_append_39 : decode cX6_append 39 = .ok (.invokespecial 63, 3) := by decide +kernel
theorem dX6_append_42 : decode cX6_append 42 = .ok (.athrow, 1) := by decide +kernel
theorem dX6_append_43 : decode cX6_append 43 = .ok (.aload_n 0, 1) := by decide +kernel
theorem dX6_append_44 : decode cX6_append 44 = .ok (.getfield 10, 3) := by decide +kernel
theorem dX6_append_47 : decode cX6_append 47 = .ok (.iload_n 1, 1) := by decide +kernel
theorem dX6_append_48 : decode cX6_append 48 = .ok (.i2c, 1) := by decide +kernel
theorem dX6_append_49 : decode cX6_append 49 = .ok (.invokevirtual 64, 3) := by decide +kernel
theorem dX6_append_52 : decode cX6_append 52 = .ok (.aload_n 0, 1) := by decide +kernel
theorem dX6_append_53 : decode cX6_append 53 = .ok (.getfield 10, 3) := by decide +kernel
theorem dX6_append_56 : decode cX6_append 56 = .ok (.getfield 55, 3) := by decide +kernel
theorem dX6_append_59 : decode cX6_append 59 = .ok (.ireturn, 1) := by decide +kernel
theorem dX6_clearText_0 : decode cX6_clearText 0 = .ok (.aload_n 0, 1) := by decide +kernel
theorem dX6_clearText_1 : decode cX6_clearText 1 = .ok (.getfield 10, 3) := by decide +kernel
theorem dX6_clearText_4 : decode cX6_clearText 4 = .ok (.getfield 55, 3) := by decide +kernel
theorem dX6_clearText_7 : decode cX6_clearText 7 = .ok (.istore_n 1, 1) := by decide +kernel
theorem dX6_clearText_8 : decode cX6_clearText 8 = .ok (.aload_n 0, 1) := by decide +kernel
theorem dX6_clearText_9 : decode cX6_clearText 9 = .ok (.getfield 10, 3) := by decide +kernel
theorem dX6_clearText_12 : decode cX6_clearText 12 = .ok (.iconst 0, 1) := by decide +kernel
theorem dX6_clearText_13 : decode cX6_clearText 13 = .ok (.putfield 55, 3) := by decide +kernel
theorem dX6_clearText_16 : decode cX6_clearText 16 = .ok (.iload_n 1, 1) := by decide +kernel
theorem dX6_clearText_17 : decode cX6_clearText 17 = .ok (.ireturn, 1) := by decide +kernel
set_option maxRecDepth 20000 in
theorem ggX6_errorPosition_X4_read : GoodIn wsX6_errorPosition wsX4_read := goodIn_r _ [6, 7, 8, 9, 10, 11, 12, 13, 14, 5, 15, 16, 17, 18, 19, 20, 21, 22, 23, 24, 25, 26, 27, 28, 29, 30, 31, 32, 33, 34, 35, 36, 37, 38, 39, 40, 41, 42, 43, 44, 45, 46, 47, 48, 49, 50, 51, 52, 53, 54, 55, 56, 57, 58, 59, 60, 68, 69, 70, 71, 72, 73, 74, 75, 76, 77] (by decide +kernel) (by decide +kernel)
set_option maxRecDepth 20000 in
theorem gX6_errorPosition_X4_read : GoodIn wsX6_errorPosition (wsV RX6 68 RX4 yX4_read wsX4_read) := goodIn_app (goodIn_of _ (by decide +kernel)) ggX6_errorPosition_X4_read
theorem dX6_errorPosition_0 : decode cX6_errorPosition 0 = .ok (.aload_n 0, 1) := by decide +kernel
theorem dX6_errorPosition_1 : decode cX6_errorPosition 1 = .ok (.getfield 10, 3) := by decide +kernel
theorem dX6_errorPosition_4 : decode cX6_errorPosition 4 = .ok (.invokevirtual 68, 3) := by decide +kernel
theorem dX6_errorPosition_7 : decode cX6_errorPosition 7 = .ok (.ireturn, 1) := by decide +kernel
set_option maxRecDepth 20000 in
theorem ggX6_load_X4_read : GoodIn wsX6_load wsX4_read := goodIn_r _ [14, 15, 16, 17, 18, 19, 20, 21, 22, 13, 23, 24, 25, 26, 27, 28, 29, 30, 31, 32, 33, 34, 35, 36, 37, 38, 39, 40, 41, 42, 43, 44, 45, 46, 47, 48, 49, 50, 51, 52, 53, 54, 55, 56, 57, 58, 59, 60, 61, 62, 63, 64, 65, 66, 67, 68, 158, 159, 160, 161, 162, 163, 173, 174, 175, 176] (by decide +kernel) (by decide +kernel)
set_option maxRecDepth 20000 in
theorem gX6_load_X4_read : GoodIn wsX6_load (wsV RX6 68 RX4 yX4_read wsX4_read) := goodIn_app (goodIn_of _ (by decide +kernel)) ggX6_load_X4_read
set_option maxRecDepth 20000 in
theorem ggX6_load_X3_empty : GoodIn wsX6_load wsX3_empty := goodIn_r _ [73, 74, 75, 76, 77, 164, 165, 166, 167, 168, 169, 170, 171, 172] (by decide +kernel) (by decide +kernel)
set_option maxRecDepth 20000 in
theorem gX6_load_X3_empty : GoodIn wsX6_load (wsV RX6 74 RX3 yX3_empty wsX3_empty) := goodIn_app (goodIn_of _ (by decide +kernel)) ggX6_load_X3_empty
set_option maxRecDepth 20000 in
theorem ggX6_load_X3_place : GoodIn wsX6_load wsX3_place := goodIn_r _ [81, 74, 82, 83, 84, 85, 86, 29, 87, 31, 32, 33, 34, 164, 165, 166, 167, 168, 169, 170, 171, 172, 173, 174, 175, 176] (by decide +kernel) (by decide +kernel)
set_option maxRecDepth 20000 in
theorem gX6_load_X3_place : GoodIn wsX6_load (wsV RX6 84 RX3 yX3_place wsX3_place) := goodIn_app (goodIn_of _ (by decide +kernel)) ggX6_load_X3_place
set_option maxRecDepth 20000 in
theorem ggX6_load_X3_rekey : GoodIn wsX6_load wsX3_rekey := goodIn_r _ [91, 74, 92, 82, 75, 93, 83, 94, 95, 96, 29, 97, 31, 32, 98, 99, 100, 101, 102, 103, 53, 104, 105, 52, 54, 106, 107, 108, 109, 110, 111, 112, 113, 114, 115, 116, 117, 118, 119, 120, 121, 122, 34, 123, 124, 125, 72, 126, 127, 128, 129, 130, 76, 131, 132, 133, 134, 135, 136, 137, 138, 139, 140, 141, 142, 143, 144, 164, 165, 166, 167, 168, 169, 170, 171, 172, 173, 174, 175, 176] (by decide +kernel) (by decide +kernel)
set_option maxRecDepth 20000 in
theorem gX6_load_X3_rekey : GoodIn wsX6_load (wsV RX6 88 RX3 yX3_rekey wsX3_rekey) := goodIn_app (goodIn_of _ (by decide +kernel)) ggX6_load_X3_rekey
set_option maxRecDepth 20000 in
theorem ggX6_load_X0_forget : GoodIn wsX6_load wsX0_forget := goodIn_r _ [149, 150, 177, 178, 179] (by decide +kernel) (by decide +kernel)
set_option maxRecDepth 20000 in
theorem gX6_load_X0_forget : GoodIn wsX6_load (wsV RX6 91 RX0 yX0_forget wsX0_forget) := goodIn_app (goodIn_of _ (by decide +kernel)) ggX6_load_X0_forget
theorem dX6_load_0 : decode cX6_load 0 = .ok (.aload_n 0, 1) := by decide +kernel
theorem dX6_load_1 : decode cX6_load 1 = .ok (.getfield 10, 3) := by decide +kernel
theorem dX6_load_4 : decode cX6_load 4 = .ok (.invokevirtual 68, 3) := by decide +kernel
theorem dX6_load_7 : decode cX6_load 7 = .ok (.bipush (-9), 2) := by decide +kernel
theorem dX6_load_9 : decode cX6_load 9 = .ok (.if_icmp .eq 13, 3) := by decide +kernel
theorem dX6_load_12 : decode cX6_load 12 = .ok (.new 59, 3) := by decide +kernel
theorem dX6_load_15 : decode cX6_load 15 = .ok (.dup, 1) := by decide +kernel
theorem dX6_load_16 : decode cX6_load 16 = .ok (.ldc 72, 2) := by decide +kernel
theorem dX6_load_18 : decode cX6_load 18 = .ok (.invokespecial 63, 3) := by decide +kernel
theorem dX6_load_21 : decode cX6_load 21 = .ok (.athrow, 1) := by decide +kernel
theorem dX6_load_22 : decode cX6_load 22 = .ok (.aload_n 0, 1) := by decide +kernel
theorem dX6_load_23 : decode cX6_load 23 = .ok (.getfield 19, 3) := by decide +kernel
theorem dX6_load_26 : decode cX6_load 26 = .ok (.invokevirtual 74, 3) := by decide +kernel
theorem dX6_load_29 : decode cX6_load 29 = .ok (.iconst 0, 1) := by decide +kernel
theorem dX6_load_30 : decode cX6_load 30 = .ok (.istore_n 1, 1) := by decide +kernel
theorem dX6_load_31 : decode cX6_load 31 = .ok (.iload_n 1, 1) := by decide +kernel
theorem dX6_load_32 : decode cX6_load 32 = .ok (.aload_n 0, 1) := by decide +kernel
theorem dX6_load_33 : decode cX6_load 33 = .ok (.getfield 10, 3) := by decide +kernel
theorem dX6_load_36 : decode cX6_load 36 = .ok (.getfield 77, 3) := by decide +kernel
theorem dX6_load_39 : decode cX6_load 39 = .ok (.if_icmp .ge 25, 3) := by decide +kernel
theorem dX6_load_42 : decode cX6_load 42 = .ok (.aload_n 0, 1) := by decide +kernel
theorem dX6_load_43 : decode cX6_load 43 = .ok (.getfield 19, 3) := by decide +kernel
theorem dX6_load_46 : decode cX6_load 46 = .ok (.aload_n 0, 1) := by decide +kernel
theorem dX6_load_47 : decode cX6_load 47 = .ok (.getfield 10, 3) := by decide +kernel
theorem dX6_load_50 : decode cX6_load 50 = .ok (.getfield 80, 3) := by decide +kernel
theorem dX6_load_53 : decode cX6_load 53 = .ok (.iload_n 1, 1) := by decide +kernel
theorem dX6_load_54 : decode cX6_load 54 = .ok (.aaload, 1) := by decide +kernel
theorem dX6_load_55 : decode cX6_load 55 = .ok (.invokevirtual 84, 3) := by decide +kernel
theorem dX6_load_58 : decode cX6_load 58 = .ok (.iinc 1 1, 3) := by decide +kernel
theorem dX6_load_61 : decode cX6_load 61 = .ok (.goto (-30), 3) := by decide +kernel
theorem dX6_load_64 : decode cX6_load 64 = .ok (.aload_n 0, 1) := by decide +kernel
theorem dX6_load_65 : decode cX6_load 65 = .ok (.getfield 19, 3) := by decide +kernel
theorem dX6_load_68 : decode cX6_load 68 = .ok (.invokevirtual 88, 3) := by decide +kernel
theorem dX6_load_71 : decode cX6_load 71 = .ok (.pop, 1) := by decide +kernel
theorem dX6_load_72 : decode cX6_load 72 = .ok (.aload_n 0, 1) := by decide +kernel
theorem dX6_load_73 : decode cX6_load 73 = .ok (.getfield 36, 3) := by decide +kernel
theorem dX6_load_76 : decode cX6_load 76 = .ok (.invokevirtual 91, 3) := by decide +kernel
theorem dX6_load_79 : decode cX6_load 79 = .ok (.iconst 0, 1) := by decide +kernel
theorem dX6_load_80 : decode cX6_load 80 = .ok (.istore_n 1, 1) := by decide +kernel
theorem dX6_load_81 : decode cX6_load 81 = .ok (.iload_n 1, 1) := by decide +kernel
theorem dX6_load_82 : decode cX6_load 82 = .ok (.iconst 2, 1) := by decide +kernel
theorem dX6_load_83 : decode cX6_load 83 = .ok (.if_icmp .ge 16, 3) := by decide +kernel
theorem dX6_load_86 : decode cX6_load 86 = .ok (.aload_n 0, 1) := by decide +kernel
theorem dX6_load_87 : decode cX6_load 87 = .ok (.getfield 44, 3) := by decide +kernel
theorem dX6_load_90 : decode cX6_load 90 = .ok (.iload_n 1, 1) := by decide +kernel
theorem dX6_load_91 : decode cX6_load 91 = .ok (.iconst 0, 1) := by decide +kernel
theorem dX6_load_92 : decode cX6_load 92 = .ok (.bastore, 1) := by decide +kernel
theorem dX6_load_93 : decode cX6_load 93 = .ok (.iinc 1 1, 3) := by decide +kernel
theorem dX6_load_96 : decode cX6_load 96 = .ok (.goto (-15), 3) := by decide +kernel
theorem dX6_load_99 : decode cX6_load 99 = .ok (.aload_n 0, 1) := by decide +kernel
theorem dX6_load_100 : decode cX6_load 100 = .ok (.getfield 19, 3) := by decide +kernel
theorem dX6_load_103 : decode cX6_load 103 = .ok (.getfield 94, 3) := by decide +kernel
theorem dX6_load_106 : decode cX6_load 106 = .ok (.ireturn, 1) := by decide +kernel
set_option maxRecDepth 20000 in
theorem ggX6_about_X3_lettered : GoodIn wsX6_about wsX3_lettered := goodIn_r _ [12, 13, 14, 15, 16, 17, 18, 61, 62, 63, 64, 65, 66, 67, 68, 69] (by decide +kernel) (by decide +kernel)
set_option maxRecDepth 20000 in
theorem gX6_about_X3_lettered : GoodIn wsX6_about (wsV RX6 103 RX3 yX3_lettered wsX3_lettered) := goodIn_app (goodIn_of _ (by decide +kernel)) ggX6_about_X3_lettered
set_option maxRecDepth 20000 in
theorem ggX6_about_X3_differentStems : GoodIn wsX6_about wsX3_differentStems := goodIn_r _ [22, 13, 14, 15, 16, 17, 18, 61, 62, 63, 64, 65, 66, 67, 68, 69] (by decide +kernel) (by decide +kernel)
set_option maxRecDepth 20000 in
theorem gX6_about_X3_differentStems : GoodIn wsX6_about (wsV RX6 106 RX3 yX3_differentStems wsX3_differentStems) := goodIn_app (goodIn_of _ (by decide +kernel)) ggX6_about_X3_differentStems
set_option maxRecDepth 20000 in
theorem ggX6_about_X3_longestKey : GoodIn wsX6_about wsX3_longestKey := goodIn_r _ [26, 13, 14, 27, 28, 29, 30, 31, 32, 17, 33, 34, 16, 18, 35, 36, 37, 38, 39, 40, 41, 42, 43, 44, 45, 46, 47, 61, 62, 63, 64, 65, 66, 67, 68, 69] (by decide +kernel) (by decide +kernel)
set_option maxRecDepth 20000 in
theorem gX6_about_X3_longestKey : GoodIn wsX6_about (wsV RX6 109 RX3 yX3_longestKey wsX3_longestKey) := goodIn_app (goodIn_of _ (by decide +kernel)) ggX6_about_X3_longestKey
set_option maxRecDepth 20000 in
theorem ggX6_about_X3_printedOfNone : GoodIn wsX6_about wsX3_printedOfNone := goodIn_r _ [51, 52, 53, 61, 62, 63, 64, 65, 66, 67, 68, 69] (by decide +kernel) (by decide +kernel)
set_option maxRecDepth 20000 in
theorem gX6_about_X3_printedOfNone : GoodIn wsX6_about (wsV RX6 115 RX3 yX3_printedOfNone wsX3_printedOfNone) := goodIn_app (goodIn_of _ (by decide +kernel)) ggX6_about_X3_printedOfNone
theorem dX6_about_0 : decode cX6_about 0 = .ok (.iload_n 1, 1) := by decide +kernel
theorem dX6_about_1 : decode cX6_about 1 = .ok (.tableswitch 111 0 7 #[47, 55, 63, 71, 79, 87, 95, 103], 47) := by decide +kernel
theorem dX6_about_48 : decode cX6_about 48 = .ok (.aload_n 0, 1) := by decide +kernel
theorem dX6_about_49 : decode cX6_about 49 = .ok (.getfield 19, 3) := by decide +kernel
theorem dX6_about_52 : decode cX6_about 52 = .ok (.getfield 94, 3) := by decide +kernel
theorem dX6_about_55 : decode cX6_about 55 = .ok (.ireturn, 1) := by decide +kernel
theorem dX6_about_56 : decode cX6_about 56 = .ok (.aload_n 0, 1) := by decide +kernel
theorem dX6_about_57 : decode cX6_about 57 = .ok (.getfield 19, 3) := by decide +kernel
theorem dX6_about_60 : decode cX6_about 60 = .ok (.getfield 97, 3) := by decide +kernel
theorem dX6_about_63 : decode cX6_about 63 = .ok (.ireturn, 1) := by decide +kernel
theorem dX6_about_64 : decode cX6_about 64 = .ok (.aload_n 0, 1) := by decide +kernel
theorem dX6_about_65 : decode cX6_about 65 = .ok (.getfield 19, 3) := by decide +kernel
theorem dX6_about_68 : decode cX6_about 68 = .ok (.getfield 100, 3) := by decide +kernel
theorem dX6_about_71 : decode cX6_about 71 = .ok (.ireturn, 1) := by decide +kernel
theorem dX6_about_72 : decode cX6_about 72 = .ok (.aload_n 0, 1) := by decide +kernel
theorem dX6_about_73 : decode cX6_about 73 = .ok (.getfield 19, 3) := by decide +kernel
theorem dX6_about_76 : decode cX6_about 76 = .ok (.invokevirtual 103, 3) := by decide +kernel
theorem dX6_about_79 : decode cX6_about 79 = .ok (.ireturn, 1) := by decide +kernel
theorem dX6_about_80 : decode cX6_about 80 = .ok (.aload_n 0, 1) := by decide +kernel
theorem dX6_about_81 : decode cX6_about 81 = .ok (.getfield 19, 3) := by decide +kernel
theorem dX6_about_84 : decode cX6_about 84 = .ok (.invokevirtual 106, 3) := by decide +kernel
theorem dX6_about_87 : decode cX6_about 87 = .ok (.ireturn, 1) := by decide +kernel
theorem dX6_about_88 : decode cX6_about 88 = .ok (.aload_n 0, 1) := by decide +kernel
theorem dX6_about_89 : decode cX6_about 89 = .ok (.getfield 19, 3) := by decide +kernel
theorem dX6_about_92 : decode cX6_about 92 = .ok (.invokevirtual 109, 3) := by decide +kernel
theorem dX6_about_95 : decode cX6_about 95 = .ok (.ireturn, 1) := by decide +kernel
theorem dX6_about_96 : decode cX6_about 96 = .ok (.aload_n 0, 1) := by decide +kernel
theorem dX6_about_97 : decode cX6_about 97 = .ok (.getfield 19, 3) := by decide +kernel
theorem dX6_about_100 : decode cX6_about 100 = .ok (.getfield 112, 3) := by decide +kernel
theorem dX6_about_103 : decode cX6_about 103 = .ok (.ireturn, 1) := by decide +kernel
theorem dX6_about_104 : decode cX6_about 104 = .ok (.aload_n 0, 1) := by decide +kernel
theorem dX6_about_105 : decode cX6_about 105 = .ok (.getfield 19, 3) := by decide +kernel
theorem dX6_about_108 : decode cX6_about 108 = .ok (.invokevirtual 115, 3) := by decide +kernel
theorem dX6_about_111 : decode cX6_about 111 = .ok (.ireturn, 1) := by decide +kernel
theorem dX6_about_112 : decode cX6_about 112 = .ok (.new 48, 3) := by decide +kernel
theorem dX6_about_115 : decode cX6_about 115 = .ok (.dup, 1) := by decide +kernel
theorem dX6_about_116 : decode cX6_about 116 = .ok (.ldc 118, 2) := by decide +kernel
theorem dX6_about_118 : decode cX6_about 118 = .ok (.invokespecial 52, 3) := by decide +kernel
theorem dX6_about_121 : decode cX6_about 121 = .ok (.athrow, 1) := by decide +kernel
set_option maxRecDepth 20000 in
theorem ggX6_work_X6_needWork : GoodIn wsX6_work wsX6_needWork := goodIn_ca (goodIn_r _ [13, 14, 15, 3, 16, 17, 18, 19, 20, 21, 76, 77, 78, 79, 80, 81, 82, 83, 84, 85, 86, 87, 88, 89, 90, 91] (by decide +kernel) (by decide +kernel)) (goodIn_sub (fun _ h => List.mem_cons_of_mem _ (List.mem_append_right _ h)) (by decide +kernel))
set_option maxRecDepth 20000 in
theorem gX6_work_X6_needWork : GoodIn wsX6_work (wsV RX6 120 RX6 yX6_needWork wsX6_needWork) := goodIn_app (goodIn_of _ (by decide +kernel)) ggX6_work_X6_needWork
set_option maxRecDepth 20000 in
theorem ggX6_work_X2_length : GoodIn wsX6_work wsX2_length := goodIn_r _ [25, 26, 27, 24, 28] (by decide +kernel) (by decide +kernel)
set_option maxRecDepth 20000 in
theorem gX6_work_X2_length : GoodIn wsX6_work (va_wsS RX6 135 yX2_length wsX2_length) := goodIn_app (goodIn_of _ (by decide +kernel)) ggX6_work_X2_length
set_option maxRecDepth 20000 in
theorem ggX6_work_X1_length : GoodIn wsX6_work wsX1_length := goodIn_r _ [32, 33, 34, 31, 35, 36, 23, 24, 25, 26, 27, 28, 37, 38, 39, 40, 41, 42] (by decide +kernel) (by decide +kernel)
set_option maxRecDepth 20000 in
theorem gX6_work_X1_length : GoodIn wsX6_work (va_wsS RX6 144 yX1_length wsX1_length) := goodIn_app (goodIn_of _ (by decide +kernel)) ggX6_work_X1_length
set_option maxRecDepth 20000 in
theorem ggX6_work_X1_letterOf : GoodIn wsX6_work wsX1_letterOf := goodIn_r _ [35] (by decide +kernel) (by decide +kernel)
set_option maxRecDepth 20000 in
theorem gX6_work_X1_letterOf : GoodIn wsX6_work (va_wsS RX6 147 yX1_letterOf wsX1_letterOf) := goodIn_app (goodIn_of _ (by decide +kernel)) ggX6_work_X1_letterOf
set_option maxRecDepth 20000 in
theorem ggX6_work_X3_placeOf : GoodIn wsX6_work wsX3_placeOf := goodIn_r _ [47, 21, 48, 49, 50, 19, 51, 52, 53, 54, 55, 56, 57, 58, 59, 60, 61, 62, 63, 64, 65, 66, 67, 68, 69, 70, 83, 84, 85, 86, 87, 88, 89, 90, 91, 92, 93, 94, 95] (by decide +kernel) (by decide +kernel)
set_option maxRecDepth 20000 in
theorem gX6_work_X3_placeOf : GoodIn wsX6_work (wsV RX6 150 RX3 yX3_placeOf wsX3_placeOf) := goodIn_app (goodIn_of _ (by decide +kernel)) ggX6_work_X3_placeOf
set_option maxRecDepth 20000 in
theorem ggX6_work_X3_sharing : GoodIn wsX6_work wsX3_sharing := goodIn_r _ [74, 21, 75, 83, 84, 85, 86, 87, 88, 89, 90, 91] (by decide +kernel) (by decide +kernel)
set_option maxRecDepth 20000 in
theorem gX6_work_X3_sharing : GoodIn wsX6_work (wsV RX6 154 RX3 yX3_sharing wsX3_sharing) := goodIn_app (goodIn_of _ (by decide +kernel)) ggX6_work_X3_sharing
theorem dX6_work_0 : decode cX6_work 0 = .ok (.aload_n 0, 1) := by decide +kernel
theorem dX6_work_1 : decode cX6_work 1 = .ok (.iload_n 1, 1) := by decide +kernel
theorem dX6_work_2 : decode cX6_work 2 = .ok (.invokevirtual 120, 3) := by decide +kernel
theorem dX6_work_5 : decode cX6_work 5 = .ok (.iload_n 2, 1) := by decide +kernel
theorem dX6_work_6 : decode cX6_work 6 = .ok (.tableswitch 128 0 6 #[42, 55, 68, 84, 97, 110, 119], 42) := by decide +kernel
theorem dX6_work_48 : decode cX6_work 48 = .ok (.aload_n 0, 1) := by decide +kernel
theorem dX6_work_49 : decode cX6_work 49 = .ok (.getfield 19, 3) := by decide +kernel
theorem dX6_work_52 : decode cX6_work 52 = .ok (.getfield 124, 3) := by decide +kernel
theorem dX6_work_55 : decode cX6_work 55 = .ok (.iload_n 1, 1) := by decide +kernel
theorem dX6_work_56 : decode cX6_work 56 = .ok (.aaload, 1) := by decide +kernel
theorem dX6_work_57 : decode cX6_work 57 = .ok (.getfield 125, 3) := by decide +kernel
theorem dX6_work_60 : decode cX6_work 60 = .ok (.ireturn, 1) := by decide +kernel
theorem dX6_work_61 : decode cX6_work 61 = .ok (.aload_n 0, 1) := by decide +kernel
theorem dX6_work_62 : decode cX6_work 62 = .ok (.getfield 19, 3) := by decide +kernel
theorem dX6_work_65 : decode cX6_work 65 = .ok (.getfield 124, 3) := by decide +kernel
theorem dX6_work_68 : decode cX6_work 68 = .ok (.iload_n 1, 1) := by decide +kernel
theorem dX6_work_69 : decode cX6_work 69 = .ok (.aaload, 1) := by decide +kernel
theorem dX6_work_70 : decode cX6_work 70 = .ok (.getfield 128, 3) := by decide +kernel
theorem dX6_work_73 : decode cX6_work 73 = .ok (.ireturn, 1) := by decide +kernel
theorem dX6_work_74 : decode cX6_work 74 = .ok (.aload_n 0, 1) := by decide +kernel
theorem dX6_work_75 : decode cX6_work 75 = .ok (.getfield 19, 3) := by decide +kernel
theorem dX6_work_78 : decode cX6_work 78 = .ok (.getfield 124, 3) := by decide +kernel
theorem dX6_work_81 : decode cX6_work 81 = .ok (.iload_n 1, 1) := by decide +kernel
theorem dX6_work_82 : decode cX6_work 82 = .ok (.aaload, 1) := by decide +kernel
theorem dX6_work_83 : decode cX6_work 83 = .ok (.getfield 131, 3) := by decide +kernel
theorem dX6_work_86 : decode cX6_work 86 = .ok (.invokestatic 135, 3) := by decide +kernel
theorem dX6_work_89 : decode cX6_work 89 = .ok (.ireturn, 1) := by decide +kernel
theorem dX6_work_90 : decode cX6_work 90 = .ok (.aload_n 0, 1) := by decide +kernel
theorem dX6_work_91 : decode cX6_work 91 = .ok (.getfield 19, 3) := by decide +kernel
theorem dX6_work_94 : decode cX6_work 94 = .ok (.getfield 140, 3) := by decide +kernel
theorem dX6_work_97 : decode cX6_work 97 = .ok (.iload_n 1, 1) := by decide +kernel
theorem dX6_work_98 : decode cX6_work 98 = .ok (.laload, 1) := by decide +kernel
theorem dX6_work_99 : decode cX6_work 99 = .ok (.invokestatic 144, 3) := by decide +kernel
theorem dX6_work_102 : decode cX6_work 102 = .ok (.ireturn, 1) := by decide +kernel
theorem dX6_work_103 : decode cX6_work 103 = .ok (.aload_n 0, 1) := by decide +kernel
theorem dX6_work_104 : decode cX6_work 104 = .ok (.getfield 19, 3) := by decide +kernel
theorem dX6_work_107 : decode cX6_work 107 = .ok (.getfield 140, 3) := by decide +kernel
theorem dX6_work_110 : decode cX6_work 110 = .ok (.iload_n 1, 1) := by decide +kernel
theorem dX6_work_111 : decode cX6_work 111 = .ok (.laload, 1) := by decide +kernel
theorem dX6_work_112 : decode cX6_work 112 = .ok (.invokestatic 147, 3) := by decide +kernel
theorem dX6_work_115 : decode cX6_work 115 = .ok (.ireturn, 1) := by decide +kernel
theorem dX6_work_116 : decode cX6_work 116 = .ok (.aload_n 0, 1) := by decide +kernel
theorem dX6_work_117 : decode cX6_work 117 = .ok (.getfield 19, 3) := by decide +kernel
theorem dX6_work_120 : decode cX6_work 120 = .ok (.iload_n 1, 1) := by decide +kernel
theorem dX6_work_121 : decode cX6_work 121 = .ok (.invokevirtual 150, 3) := by decide +kernel
theorem dX6_work_124 : decode cX6_work 124 = .ok (.ireturn, 1) := by decide +kernel
theorem dX6_work_125 : decode cX6_work 125 = .ok (.aload_n 0, 1) := by decide +kernel
theorem dX6_work_126 : decode cX6_work 126 = .ok (.getfield 19, 3) := by decide +kernel
theorem dX6_work_129 : decode cX6_work 129 = .ok (.iload_n 1, 1) := by decide +kernel
theorem dX6_work_130 : decode cX6_work 130 = .ok (.invokevirtual 154, 3) := by decide +kernel
theorem dX6_work_133 : decode cX6_work 133 = .ok (.ireturn, 1) := by decide +kernel
theorem dX6_work_134 : decode cX6_work 134 = .ok (.new 48, 3) := by decide +kernel
theorem dX6_work_137 : decode cX6_work 137 = .ok (.dup, 1) := by decide +kernel
theorem dX6_work_138 : decode cX6_work 138 = .ok (.ldc 157, 2) := by decide +kernel
theorem dX6_work_140 : decode cX6_work 140 = .ok (.invokespecial 52, 3) := by decide +kernel
theorem dX6_work_143 : decode cX6_work 143 = .ok (.athrow, 1) := by decide +kernel
set_option maxRecDepth 20000 in
theorem ggX6_letter_X6_needWork : GoodIn wsX6_letter wsX6_needWork := goodIn_ca (goodIn_r _ [10, 11, 12, 3, 13, 14, 15, 16, 17, 18, 34, 35, 36, 37, 38, 39, 40, 41, 42, 43, 44, 45, 46, 47, 48, 49] (by decide +kernel) (by decide +kernel)) (goodIn_sub (fun _ h => List.mem_cons_of_mem _ (List.mem_append_right _ h)) (by decide +kernel))
set_option maxRecDepth 20000 in
theorem gX6_letter_X6_needWork : GoodIn wsX6_letter (wsV RX6 120 RX6 yX6_needWork wsX6_needWork) := goodIn_app (goodIn_of _ (by decide +kernel)) ggX6_letter_X6_needWork
set_option maxRecDepth 20000 in
theorem ggX6_letter_X5_nameAt : GoodIn wsX6_letter wsX5_nameAt := goodIn_r _ [23, 24, 25, 26, 50, 51, 52, 53] (by decide +kernel) (by decide +kernel)
set_option maxRecDepth 20000 in
theorem gX6_letter_X5_nameAt : GoodIn wsX6_letter (wsV RX6 163 RX5 yX5_nameAt wsX5_nameAt) := goodIn_app (goodIn_of _ (by decide +kernel)) ggX6_letter_X5_nameAt
set_option maxRecDepth 20000 in
theorem ggX6_letter_X2_codeAt : GoodIn wsX6_letter wsX2_codeAt := goodIn_r _ [30, 31, 32, 29, 33] (by decide +kernel) (by decide +kernel)
set_option maxRecDepth 20000 in
theorem gX6_letter_X2_codeAt : GoodIn wsX6_letter (va_wsS RX6 167 yX2_codeAt wsX2_codeAt) := goodIn_app (goodIn_of _ (by decide +kernel)) ggX6_letter_X2_codeAt
theorem dX6_letter_0 : decode cX6_letter 0 = .ok (.aload_n 0, 1) := by decide +kernel
theorem dX6_letter_1 : decode cX6_letter 1 = .ok (.iload_n 1, 1) := by decide +kernel
theorem dX6_letter_2 : decode cX6_letter 2 = .ok (.invokevirtual 120, 3) := by decide +kernel
theorem dX6_letter_5 : decode cX6_letter 5 = .ok (.aload_n 0, 1) := by decide +kernel
theorem dX6_letter_6 : decode cX6_letter 6 = .ok (.getfield 19, 3) := by decide +kernel
theorem dX6_letter_9 : decode cX6_letter 9 = .ok (.getfield 124, 3) := by decide +kernel
theorem dX6_letter_12 : decode cX6_letter 12 = .ok (.iload_n 1, 1) := by decide +kernel
theorem dX6_letter_13 : decode cX6_letter 13 = .ok (.aaload, 1) := by decide +kernel
theorem dX6_letter_14 : decode cX6_letter 14 = .ok (.astore 4, 2) := by decide +kernel
theorem dX6_letter_16 : decode cX6_letter 16 = .ok (.iload_n 2, 1) := by decide +kernel
theorem dX6_letter_17 : decode cX6_letter 17 = .ok (.ifCond .lt 12, 3) := by decide +kernel
theorem dX6_letter_20 : decode cX6_letter 20 = .ok (.iload_n 2, 1) := by decide +kernel
theorem dX6_letter_21 : decode cX6_letter 21 = .ok (.aload 4, 2) := by decide +kernel
theorem dX6_letter_23 : decode cX6_letter 23 = .ok (.getfield 128, 3) := by decide +kernel
theorem dX6_letter_26 : decode cX6_letter 26 = .ok (.if_icmp .le 13, 3) := by decide +kernel
theorem dX6_letter_29 : decode cX6_letter 29 = .ok (.new 48, 3) := by decide +kernel
theorem dX6_letter_32 : decode cX6_letter 32 = .ok (.dup, 1) := by decide +kernel
theorem dX6_letter_33 : decode cX6_letter 33 = .ok (.ldc 159, 2) := by decide +kernel
theorem dX6_letter_35 : decode cX6_letter 35 = .ok (.invokespecial 52, 3) := by decide +kernel
theorem dX6_letter_38 : decode cX6_letter 38 = .ok (.athrow, 1) := by decide +kernel
theorem dX6_letter_39 : decode cX6_letter 39 = .ok (.iload_n 3, 1) := by decide +kernel
theorem dX6_letter_40 : decode cX6_letter 40 = .ok (.ifCond .ge 13, 3) := by decide +kernel
theorem dX6_letter_43 : decode cX6_letter 43 = .ok (.new 48, 3) := by decide +kernel
theorem dX6_letter_46 : decode cX6_letter 46 = .ok (.dup, 1) := by decide +kernel
theorem dX6_letter_47 : decode cX6_letter 47 = .ok (.ldc 161, 2) := by decide +kernel
theorem dX6_letter_49 : decode cX6_letter 49 = .ok (.invokespecial 52, 3) := by decide +kernel
theorem dX6_letter_52 : decode cX6_letter 52 = .ok (.athrow, 1) := by decide +kernel
theorem dX6_letter_53 : decode cX6_letter 53 = .ok (.aload 4, 2) := by decide +kernel
theorem dX6_letter_55 : decode cX6_letter 55 = .ok (.iload_n 2, 1) := by decide +kernel
theorem dX6_letter_56 : decode cX6_letter 56 = .ok (.invokevirtual 163, 3) := by decide +kernel
theorem dX6_letter_59 : decode cX6_letter 59 = .ok (.iload_n 3, 1) := by decide +kernel
theorem dX6_letter_60 : decode cX6_letter 60 = .ok (.invokestatic 167, 3) := by decide +kernel
theorem dX6_letter_63 : decode cX6_letter 63 = .ok (.ireturn, 1) := by decide +kernel
set_option maxRecDepth 20000 in
theorem ggX6_key_X6_needWork : GoodIn wsX6_key wsX6_needWork := goodIn_ca (goodIn_r _ [9, 10, 11, 3, 12, 13, 14, 15, 16, 17, 44, 45, 46, 47, 48, 49, 50, 51, 52, 53, 54, 55, 56, 57, 58, 59] (by decide +kernel) (by decide +kernel)) (goodIn_sub (fun _ h => List.mem_cons_of_mem _ (List.mem_append_right _ h)) (by decide +kernel))
set_option maxRecDepth 20000 in
theorem gX6_key_X6_needWork : GoodIn wsX6_key (wsV RX6 120 RX6 yX6_needWork wsX6_needWork) := goodIn_app (goodIn_of _ (by decide +kernel)) ggX6_key_X6_needWork
set_option maxRecDepth 20000 in
theorem ggX6_key_X1_codeAt : GoodIn wsX6_key wsX1_codeAt := goodIn_r _ [21, 22, 23, 24, 25, 26, 27, 28, 29, 30, 20, 31, 32, 33, 34, 35, 36, 37, 38, 39, 40, 41, 42, 43] (by decide +kernel) (by decide +kernel)
set_option maxRecDepth 20000 in
theorem gX6_key_X1_codeAt : GoodIn wsX6_key (va_wsS RX6 173 yX1_codeAt wsX1_codeAt) := goodIn_app (goodIn_of _ (by decide +kernel)) ggX6_key_X1_codeAt
theorem dX6_key_0 : decode cX6_key 0 = .ok (.aload_n 0, 1) := by decide +kernel
theorem dX6_key_1 : decode cX6_key 1 = .ok (.iload_n 1, 1) := by decide +kernel
theorem dX6_key_2 : decode cX6_key 2 = .ok (.invokevirtual 120, 3) := by decide +kernel
theorem dX6_key_5 : decode cX6_key 5 = .ok (.iload_n 2, 1) := by decide +kernel
theorem dX6_key_6 : decode cX6_key 6 = .ok (.ifCond .ge 13, 3) := by decide +kernel
theorem dX6_key_9 : decode cX6_key 9 = .ok (.new 48, 3) := by decide +kernel
theorem dX6_key_12 : decode cX6_key 12 = .ok (.dup, 1) := by decide +kernel
theorem dX6_key_13 : decode cX6_key 13 = .ok (.ldc 171, 2) := by decide +kernel
theorem dX6_key_15 : decode cX6_key 15 = .ok (.invokespecial 52, 3) := by decide +kernel
theorem dX6_key_18 : decode cX6_key 18 = .ok (.athrow, 1) := by decide +kernel
theorem dX6_key_19 : decode cX6_key 19 = .ok (.aload_n 0, 1) := by decide +kernel
theorem dX6_key_20 : decode cX6_key 20 = .ok (.getfield 19, 3) := by decide +kernel
theorem dX6_key_23 : decode cX6_key 23 = .ok (.getfield 140, 3) := by decide +kernel
theorem dX6_key_26 : decode cX6_key 26 = .ok (.iload_n 1, 1) := by decide +kernel
theorem dX6_key_27 : decode cX6_key 27 = .ok (.laload, 1) := by decide +kernel
theorem dX6_key_28 : decode cX6_key 28 = .ok (.iload_n 2, 1) := by decide +kernel
theorem dX6_key_29 : decode cX6_key 29 = .ok (.invokestatic 173, 3) := by decide +kernel
theorem dX6_key_32 : decode cX6_key 32 = .ok (.ireturn, 1) := by decide +kernel
set_option maxRecDepth 20000 in
theorem ggX6_at_X3_placeOf : GoodIn wsX6_at wsX3_placeOf := goodIn_r _ [9, 10, 11, 12, 13, 8, 14, 15, 16, 17, 18, 19, 20, 21, 22, 23, 24, 25, 26, 27, 28, 29, 30, 31, 32, 33, 41, 42, 43, 44, 45, 46, 47, 48, 49, 50, 51, 52, 53] (by decide +kernel) (by decide +kernel)
set_option maxRecDepth 20000 in
theorem gX6_at_X3_placeOf : GoodIn wsX6_at (wsV RX6 150 RX3 yX3_placeOf wsX3_placeOf) := goodIn_app (goodIn_of _ (by decide +kernel)) ggX6_at_X3_placeOf
theorem dX6_at_0 : decode cX6_at 0 = .ok (.iload_n 1, 1) := by decide +kernel
theorem dX6_at_1 : decode cX6_at 1 = .ok (.ifCond .ge 13, 3) := by decide +kernel
theorem dX6_at_4 : decode cX6_at 4 = .ok (.new 48, 3) := by decide +kernel
theorem dX6_at_7 : decode cX6_at 7 = .ok (.dup, 1) := by decide +kernel
theorem dX6_at_8 : decode cX6_at 8 = .ok (.ldc 174, 2) := by decide +kernel
theorem dX6_at_10 : decode cX6_at 10 = .ok (.invokespecial 52, 3) := by decide +kernel
theorem dX6_at_13 : decode cX6_at 13 = .ok (.athrow, 1) := by decide +kernel
theorem dX6_at_14 : decode cX6_at 14 = .ok (.iconst 0, 1) := by decide +kernel
theorem dX6_at_15 : decode cX6_at 15 = .ok (.istore_n 2, 1) := by decide +kernel
theorem dX6_at_16 : decode cX6_at 16 = .ok (.iload_n 2, 1) := by decide +kernel
theorem dX6_at_17 : decode cX6_at 17 = .ok (.aload_n 0, 1) := by decide +kernel
theorem dX6_at_18 : decode cX6_at 18 = .ok (.getfield 19, 3) := by decide +kernel
theorem dX6_at_21 : decode cX6_at 21 = .ok (.getfield 94, 3) := by decide +kernel
theorem dX6_at_24 : decode cX6_at 24 = .ok (.if_icmp .ge 23, 3) := by decide +kernel
theorem dX6_at_27 : decode cX6_at 27 = .ok (.aload_n 0, 1) := by decide +kernel
