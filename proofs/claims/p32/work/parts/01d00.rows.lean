set_option maxRecDepth 20000 in
theorem ggX0_init_X3_init : GoodIn wsX0_init wsX3_init := goodIn_r _ [10, 11, 2, 3, 12, 13, 14, 15, 16, 17, 18, 19, 20, 21, 22, 23, 24, 25, 26, 30, 31, 32, 33, 34, 35, 36, 37, 38, 39, 40, 41, 42] (by decide +kernel) (by decide +kernel)
set_option maxRecDepth 20000 in
theorem gX0_init_X3_init : GoodIn wsX0_init (wsX3_init) := ggX0_init_X3_init
theorem dX0_init_0 : decode cX0_init 0 = .ok (.aload_n 0, 1) := by decide +kernel
theorem dX0_init_1 : decode cX0_init 1 = .ok (.invokespecial 3, 3) := by decide +kernel
theorem dX0_init_4 : decode cX0_init 4 = .ok (.aload_n 0, 1) := by decide +kernel
theorem dX0_init_5 : decode cX0_init 5 = .ok (.bipush 14, 2) := by decide +kernel
theorem dX0_init_7 : decode cX0_init 7 = .ok (.anewarray 9, 3) := by decide +kernel
theorem dX0_init_10 : decode cX0_init 10 = .ok (.putfield 11, 3) := by decide +kernel
theorem dX0_init_13 : decode cX0_init 13 = .ok (.iconst 0, 1) := by decide +kernel
theorem dX0_init_14 : decode cX0_init 14 = .ok (.istore_n 1, 1) := by decide +kernel
theorem dX0_init_15 : decode cX0_init 15 = .ok (.iload_n 1, 1) := by decide +kernel
theorem dX0_init_16 : decode cX0_init 16 = .ok (.bipush 14, 2) := by decide +kernel
theorem dX0_init_18 : decode cX0_init 18 = .ok (.if_icmp .ge 22, 3) := by decide +kernel
theorem dX0_init_21 : decode cX0_init 21 = .ok (.aload_n 0, 1) := by decide +kernel
theorem dX0_init_22 : decode cX0_init 22 = .ok (.getfield 11, 3) := by decide +kernel
theorem dX0_init_25 : decode cX0_init 25 = .ok (.iload_n 1, 1) := by decide +kernel
theorem dX0_init_26 : decode cX0_init 26 = .ok (.new 9, 3) := by decide +kernel
theorem dX0_init_29 : decode cX0_init 29 = .ok (.dup, 1) := by decide +kernel
theorem dX0_init_30 : decode cX0_init 30 = .ok (.invokespecial 17, 3) := by decide +kernel
theorem dX0_init_33 : decode cX0_init 33 = .ok (.aastore, 1) := by decide +kernel
theorem dX0_init_34 : decode cX0_init 34 = .ok (.iinc 1 1, 3) := by decide +kernel
theorem dX0_init_37 : decode cX0_init 37 = .ok (.goto (-22), 3) := by decide +kernel
theorem dX0_init_40 : decode cX0_init 40 = .ok (.return_, 1) := by decide +kernel
theorem dX0_forget_0 : decode cX0_forget 0 = .ok (.aload_n 0, 1) := by decide +kernel
theorem dX0_forget_1 : decode cX0_forget 1 = .ok (.iconst 0, 1) := by decide +kernel
theorem dX0_forget_2 : decode cX0_forget 2 = .ok (.putfield 18, 3) := by decide +kernel
theorem dX0_forget_5 : decode cX0_forget 5 = .ok (.return_, 1) := by decide +kernel
set_option maxRecDepth 20000 in
theorem ggX0_remember_X3_copyFrom : GoodIn wsX0_remember wsX3_copyFrom := goodIn_r _ [8, 9, 10, 11, 12, 13, 14, 15, 16, 17, 18, 19, 20, 21, 22, 23, 24, 25, 26, 30, 31, 32, 33, 34, 35, 36, 37, 38, 39, 40, 41, 42] (by decide +kernel) (by decide +kernel)
set_option maxRecDepth 20000 in
theorem gX0_remember_X3_copyFrom : GoodIn wsX0_remember (wsV RX0 25 RX3 yX3_copyFrom wsX3_copyFrom) := goodIn_app (goodIn_of _ (by decide +kernel)) ggX0_remember_X3_copyFrom
theorem dX0_remember_0 : decode cX0_remember 0 = .ok (.aload_n 0, 1) := by decide +kernel
theorem dX0_remember_1 : decode cX0_remember 1 = .ok (.getfield 18, 3) := by decide +kernel
theorem dX0_remember_4 : decode cX0_remember 4 = .ok (.bipush 14, 2) := by decide +kernel
theorem dX0_remember_6 : decode cX0_remember 6 = .ok (.if_icmp .ne 26, 3) := by decide +kernel
theorem dX0_remember_9 : decode cX0_remember 9 = .ok (.aload_n 0, 1) := by decide +kernel
theorem dX0_remember_10 : decode cX0_remember 10 = .ok (.aload_n 0, 1) := by decide +kernel
theorem dX0_remember_11 : decode cX0_remember 11 = .ok (.getfield 22, 3) := by decide +kernel
theorem dX0_remember_14 : decode cX0_remember 14 = .ok (.iconst 1, 1) := by decide +kernel
theorem dX0_remember_15 : decode cX0_remember 15 = .ok (.iadd, 1) := by decide +kernel
theorem dX0_remember_16 : decode cX0_remember 16 = .ok (.bipush 14, 2) := by decide +kernel
theorem dX0_remember_18 : decode cX0_remember 18 = .ok (.irem, 1) := by decide +kernel
theorem dX0_remember_19 : decode cX0_remember 19 = .ok (.putfield 22, 3) := by decide +kernel
theorem dX0_remember_22 : decode cX0_remember 22 = .ok (.aload_n 0, 1) := by decide +kernel
theorem dX0_remember_23 : decode cX0_remember 23 = .ok (.dup, 1) := by decide +kernel
theorem dX0_remember_24 : decode cX0_remember 24 = .ok (.getfield 18, 3) := by decide +kernel
theorem dX0_remember_27 : decode cX0_remember 27 = .ok (.iconst 1, 1) := by decide +kernel
theorem dX0_remember_28 : decode cX0_remember 28 = .ok (.isub, 1) := by decide +kernel
theorem dX0_remember_29 : decode cX0_remember 29 = .ok (.putfield 18, 3) := by decide +kernel
theorem dX0_remember_32 : decode cX0_remember 32 = .ok (.aload_n 0, 1) := by decide +kernel
theorem dX0_remember_33 : decode cX0_remember 33 = .ok (.getfield 11, 3) := by decide +kernel
theorem dX0_remember_36 : decode cX0_remember 36 = .ok (.aload_n 0, 1) := by decide +kernel
theorem dX0_remember_37 : decode cX0_remember 37 = .ok (.getfield 22, 3) := by decide +kernel
theorem dX0_remember_40 : decode cX0_remember 40 = .ok (.aload_n 0, 1) := by decide +kernel
theorem dX0_remember_41 : decode cX0_remember 41 = .ok (.getfield 18, 3) := by decide +kernel
theorem dX0_remember_44 : decode cX0_remember 44 = .ok (.iadd, 1) := by decide +kernel
theorem dX0_remember_45 : decode cX0_remember 45 = .ok (.bipush 14, 2) := by decide +kernel
theorem dX0_remember_47 : decode cX0_remember 47 = .ok (.irem, 1) := by decide +kernel
theorem dX0_remember_48 : decode cX0_remember 48 = .ok (.aaload, 1) := by decide +kernel
theorem dX0_remember_49 : decode cX0_remember 49 = .ok (.aload_n 1, 1) := by decide +kernel
theorem dX0_remember_50 : decode cX0_remember 50 = .ok (.invokevirtual 25, 3) := by decide +kernel
theorem dX0_remember_53 : decode cX0_remember 53 = .ok (.aload_n 0, 1) := by decide +kernel
theorem dX0_remember_54 : decode cX0_remember 54 = .ok (.dup, 1) := by decide +kernel
theorem dX0_remember_55 : decode cX0_remember 55 = .ok (.getfield 18, 3) := by decide +kernel
theorem dX0_remember_58 : decode cX0_remember 58 = .ok (.iconst 1, 1) := by decide +kernel
theorem dX0_remember_59 : decode cX0_remember 59 = .ok (.iadd, 1) := by decide +kernel
theorem dX0_remember_60 : decode cX0_remember 60 = .ok (.putfield 18, 3) := by decide +kernel
theorem dX0_remember_63 : decode cX0_remember 63 = .ok (.return_, 1) := by decide +kernel
set_option maxRecDepth 20000 in
theorem ggX0_takeBack_X3_copyFrom : GoodIn wsX0_takeBack wsX3_copyFrom := goodIn_r _ [8, 9, 10, 11, 12, 13, 14, 15, 16, 17, 18, 19, 20, 21, 22, 23, 24, 25, 26, 30, 31, 32, 33, 34, 35, 36, 37, 38, 39, 40, 41, 42] (by decide +kernel) (by decide +kernel)
set_option maxRecDepth 20000 in
theorem gX0_takeBack_X3_copyFrom : GoodIn wsX0_takeBack (wsV RX0 25 RX3 yX3_copyFrom wsX3_copyFrom) := goodIn_app (goodIn_of _ (by decide +kernel)) ggX0_takeBack_X3_copyFrom
theorem dX0_takeBack_0 : decode cX0_takeBack 0 = .ok (.aload_n 0, 1) := by decide +kernel
theorem dX0_takeBack_1 : decode cX0_takeBack 1 = .ok (.getfield 18, 3) := by decide +kernel
theorem dX0_takeBack_4 : decode cX0_takeBack 4 = .ok (.ifCond .le 34, 3) := by decide +kernel
theorem dX0_takeBack_7 : decode cX0_takeBack 7 = .ok (.aload_n 0, 1) := by decide +kernel
theorem dX0_takeBack_8 : decode cX0_takeBack 8 = .ok (.dup, 1) := by decide +kernel
theorem dX0_takeBack_9 : decode cX0_takeBack 9 = .ok (.getfield 18, 3) := by decide +kernel
theorem dX0_takeBack_12 : decode cX0_takeBack 12 = .ok (.iconst 1, 1) := by decide +kernel
theorem dX0_takeBack_13 : decode cX0_takeBack 13 = .ok (.isub, 1) := by decide +kernel
theorem dX0_takeBack_14 : decode cX0_takeBack 14 = .ok (.putfield 18, 3) := by decide +kernel
theorem dX0_takeBack_17 : decode cX0_takeBack 17 = .ok (.aload_n 1, 1) := by decide +kernel
theorem dX0_takeBack_18 : decode cX0_takeBack 18 = .ok (.aload_n 0, 1) := by decide +kernel
theorem dX0_takeBack_19 : decode cX0_takeBack 19 = .ok (.getfield 11, 3) := by decide +kernel
theorem dX0_takeBack_22 : decode cX0_takeBack 22 = .ok (.aload_n 0, 1) := by decide +kernel
theorem dX0_takeBack_23 : decode cX0_takeBack 23 = .ok (.getfield 22, 3) := by decide +kernel
theorem dX0_takeBack_26 : decode cX0_takeBack 26 = .ok (.aload_n 0, 1) := by decide +kernel
theorem dX0_takeBack_27 : decode cX0_takeBack 27 = .ok (.getfield 18, 3) := by decide +kernel
theorem dX0_takeBack_30 : decode cX0_takeBack 30 = .ok (.iadd, 1) := by decide +kernel
theorem dX0_takeBack_31 : decode cX0_takeBack 31 = .ok (.bipush 14, 2) := by decide +kernel
theorem dX0_takeBack_33 : decode cX0_takeBack 33 = .ok (.irem, 1) := by decide +kernel
theorem dX0_takeBack_34 : decode cX0_takeBack 34 = .ok (.aaload, 1) := by decide +kernel
theorem dX0_takeBack_35 : decode cX0_takeBack 35 = .ok (.invokevirtual 25, 3) := by decide +kernel
theorem dX0_takeBack_38 : decode cX0_takeBack 38 = .ok (.return_, 1) := by decide +kernel
theorem dX1_withTwoDigits_0 : decode cX1_withTwoDigits 0 = .ok (.iload_n 2, 1) := by decide +kernel
theorem dX1_withTwoDigits_1 : decode cX1_withTwoDigits 1 = .ok (.ifCond .eq 9, 3) := by decide +kernel
theorem dX1_withTwoDigits_4 : decode cX1_withTwoDigits 4 = .ok (.ldc2_w 11, 3) := by decide +kernel
theorem dX1_withTwoDigits_7 : decode cX1_withTwoDigits 7 = .ok (.goto 4, 3) := by decide +kernel
theorem dX1_withTwoDigits_10 : decode cX1_withTwoDigits 10 = .ok (.lconst 0, 1) := by decide +kernel
theorem dX1_withTwoDigits_11 : decode cX1_withTwoDigits 11 = .ok (.lstore 4, 2) := by decide +kernel
theorem dX1_withTwoDigits_13 : decode cX1_withTwoDigits 13 = .ok (.lload_n 0, 1) := by decide +kernel
theorem dX1_withTwoDigits_14 : decode cX1_withTwoDigits 14 = .ok (.bipush 19, 2) := by decide +kernel
theorem dX1_withTwoDigits_16 : decode cX1_withTwoDigits 16 = .ok (.lshl, 1) := by decide +kernel
theorem dX1_withTwoDigits_17 : decode cX1_withTwoDigits 17 = .ok (.lload 4, 2) := by decide +kernel
theorem dX1_withTwoDigits_19 : decode cX1_withTwoDigits 19 = .ok (.lor, 1) := by decide +kernel
theorem dX1_withTwoDigits_20 : decode cX1_withTwoDigits 20 = .ok (.iload_n 3, 1) := by decide +kernel
theorem dX1_withTwoDigits_21 : decode cX1_withTwoDigits 21 = .ok (.bipush 100, 2) := by decide +kernel
theorem dX1_withTwoDigits_23 : decode cX1_withTwoDigits 23 = .ok (.irem, 1) := by decide +kernel
theorem dX1_withTwoDigits_24 : decode cX1_withTwoDigits 24 = .ok (.i2l, 1) := by decide +kernel
theorem dX1_withTwoDigits_25 : decode cX1_withTwoDigits 25 = .ok (.iconst 5, 1) := by decide +kernel
theorem dX1_withTwoDigits_26 : decode cX1_withTwoDigits 26 = .ok (.lshl, 1) := by decide +kernel
theorem dX1_withTwoDigits_27 : decode cX1_withTwoDigits 27 = .ok (.lor, 1) := by decide +kernel
theorem dX1_withTwoDigits_28 : decode cX1_withTwoDigits 28 = .ok (.lreturn, 1) := by decide +kernel
theorem dX1_withFourDigits_0 : decode cX1_withFourDigits 0 = .ok (.lload_n 0, 1) := by decide +kernel
theorem dX1_withFourDigits_1 : decode cX1_withFourDigits 1 = .ok (.bipush 19, 2) := by decide +kernel
theorem dX1_withFourDigits_3 : decode cX1_withFourDigits 3 = .ok (.lshl, 1) := by decide +kernel
theorem dX1_withFourDigits_4 : decode cX1_withFourDigits 4 = .ok (.ldc2_w 13, 3) := by decide +kernel
theorem dX1_withFourDigits_7 : decode cX1_withFourDigits 7 = .ok (.lor, 1) := by decide +kernel
theorem dX1_withFourDigits_8 : decode cX1_withFourDigits 8 = .ok (.iload_n 2, 1) := by decide +kernel
theorem dX1_withFourDigits_9 : decode cX1_withFourDigits 9 = .ok (.i2l, 1) := by decide +kernel
theorem dX1_withFourDigits_10 : decode cX1_withFourDigits 10 = .ok (.iconst 5, 1) := by decide +kernel
theorem dX1_withFourDigits_11 : decode cX1_withFourDigits 11 = .ok (.lshl, 1) := by decide +kernel
theorem dX1_withFourDigits_12 : decode cX1_withFourDigits 12 = .ok (.lor, 1) := by decide +kernel
theorem dX1_withFourDigits_13 : decode cX1_withFourDigits 13 = .ok (.lreturn, 1) := by decide +kernel
theorem dX1_letterOf_0 : decode cX1_letterOf 0 = .ok (.lload_n 0, 1) := by decide +kernel
theorem dX1_letterOf_1 : decode cX1_letterOf 1 = .ok (.l2i, 1) := by decide +kernel
theorem dX1_letterOf_2 : decode cX1_letterOf 2 = .ok (.bipush 31, 2) := by decide +kernel
theorem dX1_letterOf_4 : decode cX1_letterOf 4 = .ok (.iand, 1) := by decide +kernel
theorem dX1_letterOf_5 : decode cX1_letterOf 5 = .ok (.ireturn, 1) := by decide +kernel
theorem dX1_signs_0 : decode cX1_signs 0 = .ok (.lload_n 0, 1) := by decide +kernel
theorem dX1_signs_1 : decode cX1_signs 1 = .ok (.bipush 18, 2) := by decide +kernel
theorem dX1_signs_3 : decode cX1_signs 3 = .ok (.lshr, 1) := by decide +kernel
theorem dX1_signs_4 : decode cX1_signs 4 = .ok (.l2i, 1) := by decide +kernel
theorem dX1_signs_5 : decode cX1_signs 5 = .ok (.iconst 1, 1) := by decide +kernel
theorem dX1_signs_6 : decode cX1_signs 6 = .ok (.iand, 1) := by decide +kernel
theorem dX1_signs_7 : decode cX1_signs 7 = .ok (.ireturn, 1) := by decide +kernel
theorem dX1_digits_0 : decode cX1_digits 0 = .ok (.lload_n 0, 1) := by decide +kernel
theorem dX1_digits_1 : decode cX1_digits 1 = .ok (.bipush 17, 2) := by decide +kernel
theorem dX1_digits_3 : decode cX1_digits 3 = .ok (.lshr, 1) := by decide +kernel
theorem dX1_digits_4 : decode cX1_digits 4 = .ok (.l2i, 1) := by decide +kernel
theorem dX1_digits_5 : decode cX1_digits 5 = .ok (.iconst 1, 1) := by decide +kernel
theorem dX1_digits_6 : decode cX1_digits 6 = .ok (.iand, 1) := by decide +kernel
theorem dX1_digits_7 : decode cX1_digits 7 = .ok (.ifCond .ne 7, 3) := by decide +kernel
theorem dX1_digits_10 : decode cX1_digits 10 = .ok (.iconst 2, 1) := by decide +kernel
theorem dX1_digits_11 : decode cX1_digits 11 = .ok (.goto 4, 3) := by decide +kernel
theorem dX1_digits_14 : decode cX1_digits 14 = .ok (.iconst 4, 1) := by decide +kernel
theorem dX1_digits_15 : decode cX1_digits 15 = .ok (.ireturn, 1) := by decide +kernel
set_option maxRecDepth 20000 in
theorem ggX1_length_X1_letterOf : GoodIn wsX1_length wsX1_letterOf := goodIn_r _ [4] (by decide +kernel) (by decide +kernel)
set_option maxRecDepth 20000 in
theorem gX1_length_X1_letterOf : GoodIn wsX1_length (va_wsS RX1 15 yX1_letterOf wsX1_letterOf) := goodIn_app (goodIn_of _ (by decide +kernel)) ggX1_length_X1_letterOf
set_option maxRecDepth 20000 in
theorem ggX1_length_X2_length : GoodIn wsX1_length wsX2_length := goodIn_r _ [8, 9, 10, 7, 11] (by decide +kernel) (by decide +kernel)
set_option maxRecDepth 20000 in
theorem gX1_length_X2_length : GoodIn wsX1_length (va_wsS RX1 19 yX2_length wsX2_length) := goodIn_app (goodIn_of _ (by decide +kernel)) ggX1_length_X2_length
set_option maxRecDepth 20000 in
theorem ggX1_length_X1_signs : GoodIn wsX1_length wsX1_signs := goodIn_r _ [14] (by decide +kernel) (by decide +kernel)
set_option maxRecDepth 20000 in
theorem gX1_length_X1_signs : GoodIn wsX1_length (va_wsS RX1 24 yX1_signs wsX1_signs) := goodIn_app (goodIn_of _ (by decide +kernel)) ggX1_length_X1_signs
set_option maxRecDepth 20000 in
theorem ggX1_length_X1_digits : GoodIn wsX1_length wsX1_digits := goodIn_r _ [17] (by decide +kernel) (by decide +kernel)
set_option maxRecDepth 20000 in
theorem gX1_length_X1_digits : GoodIn wsX1_length (va_wsS RX1 27 yX1_digits wsX1_digits) := goodIn_app (goodIn_of _ (by decide +kernel)) ggX1_length_X1_digits
theorem dX1_length_0 : decode cX1_length 0 = .ok (.lload_n 0, 1) := by decide +kernel
theorem dX1_length_1 : decode cX1_length 1 = .ok (.invokestatic 15, 3) := by decide +kernel
theorem dX1_length_4 : decode cX1_length 4 = .ok (.ifCond .le 7, 3) := by decide +kernel
theorem dX1_length_7 : decode cX1_length 7 = .ok (.iconst 1, 1) := by decide +kernel
theorem dX1_length_8 : decode cX1_length 8 = .ok (.goto 4, 3) := by decide +kernel
theorem dX1_length_11 : decode cX1_length 11 = .ok (.iconst 0, 1) := by decide +kernel
theorem dX1_length_12 : decode cX1_length 12 = .ok (.istore_n 2, 1) := by decide +kernel
theorem dX1_length_13 : decode cX1_length 13 = .ok (.lload_n 0, 1) := by decide +kernel
theorem dX1_length_14 : decode cX1_length 14 = .ok (.bipush 19, 2) := by decide +kernel
theorem dX1_length_16 : decode cX1_length 16 = .ok (.lshr, 1) := by decide +kernel
theorem dX1_length_17 : decode cX1_length 17 = .ok (.invokestatic 19, 3) := by decide +kernel
theorem dX1_length_20 : decode cX1_length 20 = .ok (.lload_n 0, 1) := by decide +kernel
theorem dX1_length_21 : decode cX1_length 21 = .ok (.invokestatic 24, 3) := by decide +kernel
theorem dX1_length_24 : decode cX1_length 24 = .ok (.iadd, 1) := by decide +kernel
theorem dX1_length_25 : decode cX1_length 25 = .ok (.lload_n 0, 1) := by decide +kernel
theorem dX1_length_26 : decode cX1_length 26 = .ok (.invokestatic 27, 3) := by decide +kernel
theorem dX1_length_29 : decode cX1_length 29 = .ok (.iadd, 1) := by decide +kernel
theorem dX1_length_30 : decode cX1_length 30 = .ok (.iload_n 2, 1) := by decide +kernel
theorem dX1_length_31 : decode cX1_length 31 = .ok (.iadd, 1) := by decide +kernel
theorem dX1_length_32 : decode cX1_length 32 = .ok (.ireturn, 1) := by decide +kernel
set_option maxRecDepth 20000 in
theorem ggX1_codeAt_X2_length : GoodIn wsX1_codeAt wsX2_length := goodIn_r _ [4, 5, 6, 3, 7] (by decide +kernel) (by decide +kernel)
set_option maxRecDepth 20000 in
theorem gX1_codeAt_X2_length : GoodIn wsX1_codeAt (va_wsS RX1 19 yX2_length wsX2_length) := goodIn_app (goodIn_of _ (by decide +kernel)) ggX1_codeAt_X2_length
set_option maxRecDepth 20000 in
theorem ggX1_codeAt_X1_signs : GoodIn wsX1_codeAt wsX1_signs := goodIn_r _ [11] (by decide +kernel) (by decide +kernel)
set_option maxRecDepth 20000 in
theorem gX1_codeAt_X1_signs : GoodIn wsX1_codeAt (va_wsS RX1 24 yX1_signs wsX1_signs) := goodIn_app (goodIn_of _ (by decide +kernel)) ggX1_codeAt_X1_signs
set_option maxRecDepth 20000 in
theorem ggX1_codeAt_X1_digits : GoodIn wsX1_codeAt wsX1_digits := goodIn_r _ [14] (by decide +kernel) (by decide +kernel)
set_option maxRecDepth 20000 in
theorem gX1_codeAt_X1_digits : GoodIn wsX1_codeAt (va_wsS RX1 27 yX1_digits wsX1_digits) := goodIn_app (goodIn_of _ (by decide +kernel)) ggX1_codeAt_X1_digits
set_option maxRecDepth 20000 in
theorem ggX1_codeAt_X2_codeAt : GoodIn wsX1_codeAt wsX2_codeAt := goodIn_r _ [17, 5, 6, 3, 7] (by decide +kernel) (by decide +kernel)
set_option maxRecDepth 20000 in
theorem gX1_codeAt_X2_codeAt : GoodIn wsX1_codeAt (va_wsS RX1 30 yX2_codeAt wsX2_codeAt) := goodIn_app (goodIn_of _ (by decide +kernel)) ggX1_codeAt_X2_codeAt
set_option maxRecDepth 20000 in
theorem ggX1_codeAt_X1_digitFromEnd : GoodIn wsX1_codeAt wsX1_digitFromEnd := goodIn_r _ [20] (by decide +kernel) (by decide +kernel)
set_option maxRecDepth 20000 in
theorem gX1_codeAt_X1_digitFromEnd : GoodIn wsX1_codeAt (va_wsS RX1 34 yX1_digitFromEnd wsX1_digitFromEnd) := goodIn_app (goodIn_of _ (by decide +kernel)) ggX1_codeAt_X1_digitFromEnd
set_option maxRecDepth 20000 in
theorem ggX1_codeAt_X1_letterOf : GoodIn wsX1_codeAt wsX1_letterOf := goodIn_r _ [23] (by decide +kernel) (by decide +kernel)
set_option maxRecDepth 20000 in
theorem gX1_codeAt_X1_letterOf : GoodIn wsX1_codeAt (va_wsS RX1 15 yX1_letterOf wsX1_letterOf) := goodIn_app (goodIn_of _ (by decide +kernel)) ggX1_codeAt_X1_letterOf
theorem dX1_codeAt_0 : decode cX1_codeAt 0 = .ok (.lload_n 0, 1) := by decide +kernel
theorem dX1_codeAt_1 : decode cX1_codeAt 1 = .ok (.bipush 19, 2) := by decide +kernel
theorem dX1_codeAt_3 : decode cX1_codeAt 3 = .ok (.lshr, 1) := by decide +kernel
theorem dX1_codeAt_4 : decode cX1_codeAt 4 = .ok (.invokestatic 19, 3) := by decide +kernel
theorem dX1_codeAt_7 : decode cX1_codeAt 7 = .ok (.istore_n 3, 1) := by decide +kernel
theorem dX1_codeAt_8 : decode cX1_codeAt 8 = .ok (.iload_n 3, 1) := by decide +kernel
theorem dX1_codeAt_9 : decode cX1_codeAt 9 = .ok (.lload_n 0, 1) := by decide +kernel
theorem dX1_codeAt_10 : decode cX1_codeAt 10 = .ok (.invokestatic 24, 3) := by decide +kernel
theorem dX1_codeAt_13 : decode cX1_codeAt 13 = .ok (.iadd, 1) := by decide +kernel
theorem dX1_codeAt_14 : decode cX1_codeAt 14 = .ok (.istore 4, 2) := by decide +kernel
theorem dX1_codeAt_16 : decode cX1_codeAt 16 = .ok (.iload 4, 2) := by decide +kernel
theorem dX1_codeAt_18 : decode cX1_codeAt 18 = .ok (.lload_n 0, 1) := by decide +kernel
theorem dX1_codeAt_19 : decode cX1_codeAt 19 = .ok (.invokestatic 27, 3) := by decide +kernel
theorem dX1_codeAt_22 : decode cX1_codeAt 22 = .ok (.iadd, 1) := by decide +kernel
theorem dX1_codeAt_23 : decode cX1_codeAt 23 = .ok (.istore 5, 2) := by decide +kernel
theorem dX1_codeAt_25 : decode cX1_codeAt 25 = .ok (.iload_n 2, 1) := by decide +kernel
theorem dX1_codeAt_26 : decode cX1_codeAt 26 = .ok (.iload_n 3, 1) := by decide +kernel
theorem dX1_codeAt_27 : decode cX1_codeAt 27 = .ok (.if_icmp .ge 12, 3) := by decide +kernel
theorem dX1_codeAt_30 : decode cX1_codeAt 30 = .ok (.lload_n 0, 1) := by decide +kernel
theorem dX1_codeAt_31 : decode cX1_codeAt 31 = .ok (.bipush 19, 2) := by decide +kernel
theorem dX1_codeAt_33 : decode cX1_codeAt 33 = .ok (.lshr, 1) := by decide +kernel
theorem dX1_codeAt_34 : decode cX1_codeAt 34 = .ok (.iload_n 2, 1) := by decide +kernel
theorem dX1_codeAt_35 : decode cX1_codeAt 35 = .ok (.invokestatic 30, 3) := by decide +kernel
theorem dX1_codeAt_38 : decode cX1_codeAt 38 = .ok (.ireturn, 1) := by decide +kernel
theorem dX1_codeAt_39 : decode cX1_codeAt 39 = .ok (.iload_n 2, 1) := by decide +kernel
theorem dX1_codeAt_40 : decode cX1_codeAt 40 = .ok (.iload 4, 2) := by decide +kernel
theorem dX1_codeAt_42 : decode cX1_codeAt 42 = .ok (.if_icmp .ge 6, 3) := by decide +kernel
theorem dX1_codeAt_45 : decode cX1_codeAt 45 = .ok (.bipush 43, 2) := by decide +kernel
theorem dX1_codeAt_47 : decode cX1_codeAt 47 = .ok (.ireturn, 1) := by decide +kernel
theorem dX1_codeAt_48 : decode cX1_codeAt 48 = .ok (.iload_n 2, 1) := by decide +kernel
theorem dX1_codeAt_49 : decode cX1_codeAt 49 = .ok (.iload 5, 2) := by decide +kernel
theorem dX1_codeAt_51 : decode cX1_codeAt 51 = .ok (.if_icmp .ge 14, 3) := by decide +kernel
theorem dX1_codeAt_54 : decode cX1_codeAt 54 = .ok (.lload_n 0, 1) := by decide +kernel
theorem dX1_codeAt_55 : decode cX1_codeAt 55 = .ok (.iload 5, 2) := by decide +kernel
theorem dX1_codeAt_57 : decode cX1_codeAt 57 = .ok (.iconst 1, 1) := by decide +kernel
theorem dX1_codeAt_58 : decode cX1_codeAt 58 = .ok (.isub, 1) := by decide +kernel
theorem dX1_codeAt_59 : decode cX1_codeAt 59 = .ok (.iload_n 2, 1) := by decide +kernel
theorem dX1_codeAt_60 : decode cX1_codeAt 60 = .ok (.isub, 1) := by decide +kernel
theorem dX1_codeAt_61 : decode cX1_codeAt 61 = .ok (.invokestatic 34, 3) := by decide +kernel
theorem dX1_codeAt_64 : decode cX1_codeAt 64 = .ok (.ireturn, 1) := by decide +kernel
theorem dX1_codeAt_65 : decode cX1_codeAt 65 = .ok (.iload_n 2, 1) := by decide +kernel
theorem dX1_codeAt_66 : decode cX1_codeAt 66 = .ok (.iload 5, 2) := by decide +kernel
theorem dX1_codeAt_68 : decode cX1_codeAt 68 = .ok (.if_icmp .ne 22, 3) := by decide +kernel
theorem dX1_codeAt_71 : decode cX1_codeAt 71 = .ok (.lload_n 0, 1) := by decide +kernel
theorem dX1_codeAt_72 : decode cX1_codeAt 72 = .ok (.invokestatic 15, 3) := by decide +kernel
theorem dX1_codeAt_75 : decode cX1_codeAt 75 = .ok (.ifCond .le 15, 3) := by decide +kernel
theorem dX1_codeAt_78 : decode cX1_codeAt 78 = .ok (.bipush 97, 2) := by decide +kernel
theorem dX1_codeAt_80 : decode cX1_codeAt 80 = .ok (.lload_n 0, 1) := by decide +kernel
theorem dX1_codeAt_81 : decode cX1_codeAt 81 = .ok (.invokestatic 15, 3) := by decide +kernel
theorem dX1_codeAt_84 : decode cX1_codeAt 84 = .ok (.iadd, 1) := by decide +kernel
theorem dX1_codeAt_85 : decode cX1_codeAt 85 = .ok (.iconst 1, 1) := by decide +kernel
theorem dX1_codeAt_86 : decode cX1_codeAt 86 = .ok (.isub, 1) := by decide +kernel
theorem dX1_codeAt_87 : decode cX1_codeAt 87 = .ok (.goto 5, 3) := by decide +kernel
theorem dX1_codeAt_90 : decode cX1_codeAt 90 = .ok (.bipush (-9), 2) := by decide +kernel
theorem dX1_codeAt_92 : decode cX1_codeAt 92 = .ok (.ireturn, 1) := by decide +kernel
theorem dX1_digitFromEnd_0 : decode cX1_digitFromEnd 0 = .ok (.lload_n 0, 1) := by decide +kernel
theorem dX1_digitFromEnd_1 : decode cX1_digitFromEnd 1 = .ok (.iconst 5, 1) := by decide +kernel
theorem dX1_digitFromEnd_2 : decode cX1_digitFromEnd 2 = .ok (.lshr, 1) := by decide +kernel
theorem dX1_digitFromEnd_3 : decode cX1_digitFromEnd 3 = .ok (.l2i, 1) := by decide +kernel
theorem dX1_digitFromEnd_4 : decode cX1_digitFromEnd 4 = .ok (.sipush 4095, 3) := by decide +kernel
theorem dX1_digitFromEnd_7 : decode cX1_digitFromEnd 7 = .ok (.iand, 1) := by decide +kernel
theorem dX1_digitFromEnd_8 : decode cX1_digitFromEnd 8 = .ok (.istore_n 3, 1) := by decide +kernel
theorem dX1_digitFromEnd_9 : decode cX1_digitFromEnd 9 = .ok (.iconst 0, 1) := by decide +kernel
theorem dX1_digitFromEnd_10 : decode cX1_digitFromEnd 10 = .ok (.istore 4, 2) := by decide +kernel
theorem dX1_digitFromEnd_12 : decode cX1_digitFromEnd 12 = .ok (.iload 4, 2) := by decide +kernel
theorem dX1_digitFromEnd_14 : decode cX1_digitFromEnd 14 = .ok (.iload_n 2, 1) := by decide +kernel
theorem dX1_digitFromEnd_15 : decode cX1_digitFromEnd 15 = .ok (.if_icmp .ge 14, 3) := by decide +kernel
theorem dX1_digitFromEnd_18 : decode cX1_digitFromEnd 18 = .ok (.iload_n 3, 1) := by decide +kernel
theorem dX1_digitFromEnd_19 : decode cX1_digitFromEnd 19 = .ok (.bipush 10, 2) := by decide +kernel
theorem dX1_digitFromEnd_21 : decode cX1_digitFromEnd 21 = .ok (.idiv, 1) := by decide +kernel
theorem dX1_digitFromEnd_22 : decode cX1_digitFromEnd 22 = .ok (.istore_n 3, 1) := by decide +kernel
theorem dX1_digitFromEnd_23 : decode cX1_digitFromEnd 23 = .ok (.iinc 4 1, 3) := by decide +kernel
theorem dX1_digitFromEnd_26 : decode cX1_digitFromEnd 26 = .ok (.goto (-14), 3) := by decide +kernel
theorem dX1_digitFromEnd_29 : decode cX1_digitFromEnd 29 = .ok (.bipush 48, 2) := by decide +kernel
theorem dX1_digitFromEnd_31 : decode cX1_digitFromEnd 31 = .ok (.iload_n 3, 1) := by decide +kernel
theorem dX1_digitFromEnd_32 : decode cX1_digitFromEnd 32 = .ok (.bipush 10, 2) := by decide +kernel
theorem dX1_digitFromEnd_34 : decode cX1_digitFromEnd 34 = .ok (.irem, 1) := by decide +kernel
theorem dX1_digitFromEnd_35 : decode cX1_digitFromEnd 35 = .ok (.iadd, 1) := by decide +kernel
theorem dX1_digitFromEnd_36 : decode cX1_digitFromEnd 36 = .ok (.ireturn, 1) := by decide +kernel
theorem dX2_numberAt_0 : decode cX2_numberAt 0 = .ok (.iload_n 2, 1) := by decide +kernel
theorem dX2_numberAt_1 : decode cX2_numberAt 1 = .ok (.ifCond .lt 9, 3) := by decide +kernel
theorem dX2_numberAt_4 : decode cX2_numberAt 4 = .ok (.iload_n 2, 1) := by decide +kernel
theorem dX2_numberAt_5 : decode cX2_numberAt 5 = .ok (.bipush 8, 2) := by decide +kernel
theorem dX2_numberAt_7 : decode cX2_numberAt 7 = .ok (.if_icmp .lt 5, 3) := by decide +kernel
theorem dX2_numberAt_10 : decode cX2_numberAt 10 = .ok (.iconst 0, 1) := by decide +kernel
theorem dX2_numberAt_11 : decode cX2_numberAt 11 = .ok (.ireturn, 1) := by decide +kernel
theorem dX2_numberAt_12 : decode cX2_numberAt 12 = .ok (.lload_n 0, 1) := by decide +kernel
theorem dX2_numberAt_13 : decode cX2_numberAt 13 = .ok (.iconst 5, 1) := by decide +kernel
theorem dX2_numberAt_14 : decode cX2_numberAt 14 = .ok (.bipush 7, 2) := by decide +kernel
theorem dX2_numberAt_16 : decode cX2_numberAt 16 = .ok (.iload_n 2, 1) := by decide +kernel
theorem dX2_numberAt_17 : decode cX2_numberAt 17 = .ok (.isub, 1) := by decide +kernel
theorem dX2_numberAt_18 : decode cX2_numberAt 18 = .ok (.imul, 1) := by decide +kernel
theorem dX2_numberAt_19 : decode cX2_numberAt 19 = .ok (.lshr, 1) := by decide +kernel
theorem dX2_numberAt_20 : decode cX2_numberAt 20 = .ok (.l2i, 1) := by decide +kernel
theorem dX2_numberAt_21 : decode cX2_numberAt 21 = .ok (.bipush 31, 2) := by decide +kernel
theorem dX2_numberAt_23 : decode cX2_numberAt 23 = .ok (.iand, 1) := by decide +kernel
theorem dX2_numberAt_24 : decode cX2_numberAt 24 = .ok (.ireturn, 1) := by decide +kernel
set_option maxRecDepth 20000 in
theorem ggX2_codeAt_X2_numberAt : GoodIn wsX2_codeAt wsX2_numberAt := goodIn_r _ [4] (by decide +kernel) (by decide +kernel)
set_option maxRecDepth 20000 in
theorem gX2_codeAt_X2_numberAt : GoodIn wsX2_codeAt (va_wsS RX2 11 yX2_numberAt wsX2_numberAt) := goodIn_app (goodIn_of _ (by decide +kernel)) ggX2_codeAt_X2_numberAt
theorem dX2_codeAt_0 : decode cX2_codeAt 0 = .ok (.lload_n 0, 1) := by decide +kernel
theorem dX2_codeAt_1 : decode cX2_codeAt 1 = .ok (.iload_n 2, 1) := by decide +kernel
theorem dX2_codeAt_2 : decode cX2_codeAt 2 = .ok (.invokestatic 11, 3) := by decide +kernel
theorem dX2_codeAt_5 : decode cX2_codeAt 5 = .ok (.istore_n 3, 1) := by decide +kernel
theorem dX2_codeAt_6 : decode cX2_codeAt 6 = .ok (.iload_n 3, 1) := by decide +kernel
theorem dX2_codeAt_7 : decode cX2_codeAt 7 = .ok (.ifCond .ne 8, 3) := by decide +kernel
theorem dX2_codeAt_10 : decode cX2_codeAt 10 = .ok (.bipush (-9), 2) := by decide +kernel
theorem dX2_codeAt_12 : decode cX2_codeAt 12 = .ok (.goto 9, 3) := by decide +kernel
theorem dX2_codeAt_15 : decode cX2_codeAt 15 = .ok (.bipush 97, 2) := by decide +kernel
theorem dX2_codeAt_17 : decode cX2_codeAt 17 = .ok (.iload_n 3, 1) := by decide +kernel
theorem dX2_codeAt_18 : decode cX2_codeAt 18 = .ok (.iadd, 1) := by decide +kernel
theorem dX2_codeAt_19 : decode cX2_codeAt 19 = .ok (.iconst 1, 1) := by decide +kernel
theorem dX2_codeAt_20 : decode cX2_codeAt 20 = .ok (.isub, 1) := by decide +kernel
theorem dX2_codeAt_21 : decode cX2_codeAt 21 = .ok (.ireturn, 1) := by decide +kernel
set_option maxRecDepth 20000 in
theorem ggX2_length_X2_numberAt : GoodIn wsX2_length wsX2_numberAt := goodIn_r _ [4] (by decide +kernel) (by decide +kernel)
set_option maxRecDepth 20000 in
theorem gX2_length_X2_numberAt : GoodIn wsX2_length (va_wsS RX2 11 yX2_numberAt wsX2_numberAt) := goodIn_app (goodIn_of _ (by decide +kernel)) ggX2_length_X2_numberAt
theorem dX2_length_0 : decode cX2_length 0 = .ok (.iconst 0, 1) := by decide +kernel
theorem dX2_length_1 : decode cX2_length 1 = .ok (.istore_n 2, 1) := by decide +kernel
theorem dX2_length_2 : decode cX2_length 2 = .ok (.iconst 0, 1) := by decide +kernel
theorem dX2_length_3 : decode cX2_length 3 = .ok (.istore_n 3, 1) := by decide +kernel
theorem dX2_length_4 : decode cX2_length 4 = .ok (.iload_n 3, 1) := by decide +kernel
theorem dX2_length_5 : decode cX2_length 5 = .ok (.bipush 8, 2) := by decide +kernel
theorem dX2_length_7 : decode cX2_length 7 = .ok (.if_icmp .ge 20, 3) := by decide +kernel
theorem dX2_length_10 : decode cX2_length 10 = .ok (.lload_n 0, 1) := by decide +kernel
theorem dX2_length_11 : decode cX2_length 11 = .ok (.iload_n 3, 1) := by decide +kernel
theorem dX2_length_12 : decode cX2_length 12 = .ok (.invokestatic 11, 3) := by decide +kernel
theorem dX2_length_15 : decode cX2_length 15 = .ok (.ifCond .eq 6, 3) := by decide +kernel
theorem dX2_length_18 : decode cX2_length 18 = .ok (.iinc 2 1, 3) := by decide +kernel
theorem dX2_length_21 : decode cX2_length 21 = .ok (.iinc 3 1, 3) := by decide +kernel
theorem dX2_length_24 : decode cX2_length 24 = .ok (.goto (-20), 3) := by decide +kernel
theorem dX2_length_27 : decode cX2_length 27 = .ok (.iload_n 2, 1) := by decide +kernel
theorem dX2_length_28 : decode cX2_length 28 = .ok (.ireturn, 1) := by decide +kernel
theorem dX2_with_0 : decode cX2_with 0 = .ok (.iload_n 2, 1) := by decide +kernel
theorem dX2_with_1 : decode cX2_with 1 = .ok (.ifCond .lt 9, 3) := by decide +kernel
theorem dX2_with_4 : decode cX2_with 4 = .ok (.iload_n 2, 1) := by decide +kernel
theorem dX2_with_5 : decode cX2_with 5 = .ok (.bipush 8, 2) := by decide +kernel
theorem dX2_with_7 : decode cX2_with 7 = .ok (.if_icmp .lt 5, 3) := by decide +kernel
theorem dX2_with_10 : decode cX2_with 10 = .ok (.lload_n 0, 1) := by decide +kernel
theorem dX2_with_11 : decode cX2_with 11 = .ok (.lreturn, 1) := by decide +kernel
theorem dX2_with_12 : decode cX2_with 12 = .ok (.lload_n 0, 1) := by decide +kernel
theorem dX2_with_13 : decode cX2_with 13 = .ok (.iload_n 3, 1) := by decide +kernel
theorem dX2_with_14 : decode cX2_with 14 = .ok (.i2l, 1) := by decide +kernel
theorem dX2_with_15 : decode cX2_with 15 = .ok (.iconst 5, 1) := by decide +kernel
theorem dX2_with_16 : decode cX2_with 16 = .ok (.bipush 7, 2) := by decide +kernel
theorem dX2_with_18 : decode cX2_with 18 = .ok (.iload_n 2, 1) := by decide +kernel
theorem dX2_with_19 : decode cX2_with 19 = .ok (.isub, 1) := by decide +kernel
theorem dX2_with_20 : decode cX2_with 20 = .ok (.imul, 1) := by decide +kernel
theorem dX2_with_21 : decode cX2_with 21 = .ok (.lshl, 1) := by decide +kernel
theorem dX2_with_22 : decode cX2_with 22 = .ok (.lor, 1) := by decide +kernel
theorem dX2_with_23 : decode cX2_with 23 = .ok (.lreturn, 1) := by decide +kernel
set_option maxRecDepth 20000 in
theorem ggX3_init_X5_init : GoodIn wsX3_init wsX5_init := goodIn_r _ [16, 17, 2, 3, 8, 18, 28, 29, 30, 31] (by decide +kernel) (by decide +kernel)
set_option maxRecDepth 20000 in
theorem gX3_init_X5_init : GoodIn wsX3_init (wsX5_init) := ggX3_init_X5_init
theorem dX3_init_0 : decode cX3_init 0 = .ok (.aload_n 0, 1) := by decide +kernel
theorem dX3_init_1 : decode cX3_init 1 = .ok (.invokespecial 3, 3) := by decide +kernel
theorem dX3_init_4 : decode cX3_init 4 = .ok (.aload_n 0, 1) := by decide +kernel
theorem dX3_init_5 : decode cX3_init 5 = .ok (.bipush 16, 2) := by decide +kernel
theorem dX3_init_7 : decode cX3_init 7 = .ok (.anewarray 9, 3) := by decide +kernel
theorem dX3_init_10 : decode cX3_init 10 = .ok (.putfield 11, 3) := by decide +kernel
theorem dX3_init_13 : decode cX3_init 13 = .ok (.iconst 0, 1) := by decide +kernel
theorem dX3_init_14 : decode cX3_init 14 = .ok (.istore_n 1, 1) := by decide +kernel
theorem dX3_init_15 : decode cX3_init 15 = .ok (.iload_n 1, 1) := by decide +kernel
theorem dX3_init_16 : decode cX3_init 16 = .ok (.bipush 16, 2) := by decide +kernel
theorem dX3_init_18 : decode cX3_init 18 = .ok (.if_icmp .ge 22, 3) := by decide +kernel
theorem dX3_init_21 : decode cX3_init 21 = .ok (.aload_n 0, 1) := by decide +kernel
theorem dX3_init_22 : decode cX3_init 22 = .ok (.getfield 11, 3) := by decide +kernel
theorem dX3_init_25 : decode cX3_init 25 = .ok (.iload_n 1, 1) := by decide +kernel
theorem dX3_init_26 : decode cX3_init 26 = .ok (.new 9, 3) := by decide +kernel
theorem dX3_init_29 : decode cX3_init 29 = .ok (.dup, 1) := by decide +kernel
theorem dX3_init_30 : decode cX3_init 30 = .ok (.invokespecial 17, 3) := by decide +kernel
theorem dX3_init_33 : decode cX3_init 33 = .ok (.aastore, 1) := by decide +kernel
theorem dX3_init_34 : decode cX3_init 34 = .ok (.iinc 1 1, 3) := by decide +kernel
theorem dX3_init_37 : decode cX3_init 37 = .ok (.goto (-22), 3) := by decide +kernel
theorem dX3_init_40 : decode cX3_init 40 = .ok (.aload_n 0, 1) := by decide +kernel
theorem dX3_init_41 : decode cX3_init 41 = .ok (.bipush 16, 2) := by decide +kernel
theorem dX3_init_43 : decode cX3_init 43 = .ok (.newarray .long, 2) := by decide +kernel
theorem dX3_init_45 : decode cX3_init 45 = .ok (.putfield 18, 3) := by decide +kernel
theorem dX3_init_48 : decode cX3_init 48 = .ok (.aload_n 0, 1) := by decide +kernel
theorem dX3_init_49 : decode cX3_init 49 = .ok (.bipush 16, 2) := by decide +kernel
theorem dX3_init_51 : decode cX3_init 51 = .ok (.newarray .long, 2) := by decide +kernel
theorem dX3_init_53 : decode cX3_init 53 = .ok (.putfield 22, 3) := by decide +kernel
theorem dX3_init_56 : decode cX3_init 56 = .ok (.aload_n 0, 1) := by decide +kernel
theorem dX3_init_57 : decode cX3_init 57 = .ok (.bipush 16, 2) := by decide +kernel
theorem dX3_init_59 : decode cX3_init 59 = .ok (.newarray .long, 2) := by decide +kernel
theorem dX3_init_61 : decode cX3_init 61 = .ok (.putfield 25, 3) := by decide +kernel
theorem dX3_init_64 : decode cX3_init 64 = .ok (.aload_n 0, 1) := by decide +kernel
theorem dX3_init_65 : decode cX3_init 65 = .ok (.bipush 16, 2) := by decide +kernel
theorem dX3_init_67 : decode cX3_init 67 = .ok (.newarray .int, 2) := by decide +kernel
theorem dX3_init_69 : decode cX3_init 69 = .ok (.putfield 28, 3) := by decide +kernel
theorem dX3_init_72 : decode cX3_init 72 = .ok (.return_, 1) := by decide +kernel
theorem dX3_empty_0 : decode cX3_empty 0 = .ok (.aload_n 0, 1) := by decide +kernel
theorem dX3_empty_1 : decode cX3_empty 1 = .ok (.iconst 0, 1) := by decide +kernel
theorem dX3_empty_2 : decode cX3_empty 2 = .ok (.putfield 32, 3) := by decide +kernel
theorem dX3_empty_5 : decode cX3_empty 5 = .ok (.aload_n 0, 1) := by decide +kernel
theorem dX3_empty_6 : decode cX3_empty 6 = .ok (.iconst 0, 1) := by decide +kernel
theorem dX3_empty_7 : decode cX3_empty 7 = .ok (.putfield 36, 3) := by decide +kernel
theorem dX3_empty_10 : decode cX3_empty 10 = .ok (.aload_n 0, 1) := by decide +kernel
theorem dX3_empty_11 : decode cX3_empty 11 = .ok (.iconst 0, 1) := by decide +kernel
theorem dX3_empty_12 : decode cX3_empty 12 = .ok (.putfield 39, 3) := by decide +kernel
theorem dX3_empty_15 : decode cX3_empty 15 = .ok (.aload_n 0, 1) := by decide +kernel
theorem dX3_empty_16 : decode cX3_empty 16 = .ok (.iconst 0, 1) := by decide +kernel
theorem dX3_empty_17 : decode cX3_empty 17 = .ok (.putfield 42, 3) := by decide +kernel
theorem dX3_empty_20 : decode cX3_empty 20 = .ok (.return_, 1) := by decide +kernel
set_option maxRecDepth 20000 in
theorem ggX3_copyFrom_X5_copyFrom : GoodIn wsX3_copyFrom wsX5_copyFrom := goodIn_r _ [14, 15, 16, 17, 18, 28, 29, 30, 31] (by decide +kernel) (by decide +kernel)
set_option maxRecDepth 20000 in
theorem gX3_copyFrom_X5_copyFrom : GoodIn wsX3_copyFrom (wsV RX3 45 RX5 yX5_copyFrom wsX5_copyFrom) := goodIn_app (goodIn_of _ (by decide +kernel)) ggX3_copyFrom_X5_copyFrom
theorem dX3_copyFrom_0 : decode cX3_copyFrom 0 = .ok (.aload_n 0, 1) := by decide +kernel
theorem dX3_copyFrom_1 : decode cX3_copyFrom 1 = .ok (.aload_n 1, 1) := by decide +kernel
theorem dX3_copyFrom_2 : decode cX3_copyFrom 2 = .ok (.getfield 32, 3) := by decide +kernel
theorem dX3_copyFrom_5 : decode cX3_copyFrom 5 = .ok (.putfield 32, 3) := by decide +kernel
theorem dX3_copyFrom_8 : decode cX3_copyFrom 8 = .ok (.aload_n 0, 1) := by decide +kernel
theorem dX3_copyFrom_9 : decode cX3_copyFrom 9 = .ok (.aload_n 1, 1) := by decide +kernel
theorem dX3_copyFrom_10 : decode cX3_copyFrom 10 = .ok (.getfield 36, 3) := by decide +kernel
theorem dX3_copyFrom_13 : decode cX3_copyFrom 13 = .ok (.putfield 36, 3) := by decide +kernel
theorem dX3_copyFrom_16 : decode cX3_copyFrom 16 = .ok (.aload_n 0, 1) := by decide +kernel
theorem dX3_copyFrom_17 : decode cX3_copyFrom 17 = .ok (.aload_n 1, 1) := by decide +kernel
theorem dX3_copyFrom_18 : decode cX3_copyFrom 18 = .ok (.getfield 39, 3) := by decide +kernel
theorem dX3_copyFrom_21 : decode cX3_copyFrom 21 = .ok (.putfield 39, 3) := by decide +kernel
theorem dX3_copyFrom_24 : decode cX3_copyFrom 24 = .ok (.aload_n 0, 1) := by decide +kernel
theorem dX3_copyFrom_25 : decode cX3_copyFrom 25 = .ok (.aload_n 1, 1) := by decide +kernel
theorem dX3_copyFrom_26 : decode cX3_copyFrom 26 = .ok (.getfield 42, 3) := by decide +kernel
theorem dX3_copyFrom_29 : decode cX3_copyFrom 29 = .ok (.putfield 42, 3) := by decide +kernel
theorem dX3_copyFrom_32 : decode cX3_copyFrom 32 = .ok (.iconst 0, 1) := by decide +kernel
theorem dX3_copyFrom_33 : decode cX3_copyFrom 33 = .ok (.istore_n 2, 1) := by decide +kernel
theorem dX3_copyFrom_34 : decode cX3_copyFrom 34 = .ok (.iload_n 2, 1) := by decide +kernel
theorem dX3_copyFrom_35 : decode cX3_copyFrom 35 = .ok (.aload_n 0, 1) := by decide +kernel
theorem dX3_copyFrom_36 : decode cX3_copyFrom 36 = .ok (.getfield 32, 3) := by decide +kernel
theorem dX3_copyFrom_39 : decode cX3_copyFrom 39 = .ok (.if_icmp .ge 48, 3) := by decide +kernel
theorem dX3_copyFrom_42 : decode cX3_copyFrom 42 = .ok (.aload_n 0, 1) := by decide +kernel
theorem dX3_copyFrom_43 : decode cX3_copyFrom 43 = .ok (.getfield 11, 3) := by decide +kernel
theorem dX3_copyFrom_46 : decode cX3_copyFrom 46 = .ok (.iload_n 2, 1) := by decide +kernel
theorem dX3_copyFrom_47 : decode cX3_copyFrom 47 = .ok (.aaload, 1) := by decide +kernel
theorem dX3_copyFrom_48 : decode cX3_copyFrom 48 = .ok (.aload_n 1, 1) := by decide +kernel
theorem dX3_copyFrom_49 : decode cX3_copyFrom 49 = .ok (.getfield 11, 3) := by decide +kernel
theorem dX3_copyFrom_52 : decode cX3_copyFrom 52 = .ok (.iload_n 2, 1) := by decide +kernel
theorem dX3_copyFrom_53 : decode cX3_copyFrom 53 = .ok (.aaload, 1) := by decide +kernel
theorem dX3_copyFrom_54 : decode cX3_copyFrom 54 = .ok (.invokevirtual 45, 3) := by decide +kernel
theorem dX3_copyFrom_57 : decode cX3_copyFrom 57 = .ok (.aload_n 0, 1) := by decide +kernel
theorem dX3_copyFrom_58 : decode cX3_copyFrom 58 = .ok (.getfield 18, 3) := by decide +kernel
theorem dX3_copyFrom_61 : decode cX3_copyFrom 61 = .ok (.iload_n 2, 1) := by decide +kernel
theorem dX3_copyFrom_62 : decode cX3_copyFrom 62 = .ok (.aload_n 1, 1) := by decide +kernel
theorem dX3_copyFrom_63 : decode cX3_copyFrom 63 = .ok (.getfield 18, 3) := by decide +kernel
theorem dX3_copyFrom_66 : decode cX3_copyFrom 66 = .ok (.iload_n 2, 1) := by decide +kernel
theorem dX3_copyFrom_67 : decode cX3_copyFrom 67 = .ok (.laload, 1) := by decide +kernel
theorem dX3_copyFrom_68 : decode cX3_copyFrom 68 = .ok (.lastore, 1) := by decide +kernel
theorem dX3_copyFrom_69 : decode cX3_copyFrom 69 = .ok (.aload_n 0, 1) := by decide +kernel
theorem dX3_copyFrom_70 : decode cX3_copyFrom 70 = .ok (.getfield 22, 3) := by decide +kernel
theorem dX3_copyFrom_73 : decode cX3_copyFrom 73 = .ok (.iload_n 2, 1) := by decide +kernel
theorem dX3_copyFrom_74 : decode cX3_copyFrom 74 = .ok (.aload_n 1, 1) := by decide +kernel
theorem dX3_copyFrom_75 : decode cX3_copyFrom 75 = .ok (.getfield 22, 3) := by decide +kernel
theorem dX3_copyFrom_78 : decode cX3_copyFrom 78 = .ok (.iload_n 2, 1) := by decide +kernel
theorem dX3_copyFrom_79 : decode cX3_copyFrom 79 = .ok (.laload, 1) := by decide +kernel
theorem dX3_copyFrom_80 : decode cX3_copyFrom 80 = .ok (.lastore, 1) := by decide +kernel
theorem dX3_copyFrom_81 : decode cX3_copyFrom 81 = .ok (.iinc 2 1, 3) := by decide +kernel
theorem dX3_copyFrom_84 : decode cX3_copyFrom 84 = .ok (.goto (-50), 3) := by decide +kernel
theorem dX3_copyFrom_87 : decode cX3_copyFrom 87 = .ok (.iconst 0, 1) := by decide +kernel
theorem dX3_copyFrom_88 : decode cX3_copyFrom 88 = .ok (.istore_n 2, 1) := by decide +kernel
theorem dX3_copyFrom_89 : decode cX3_copyFrom 89 = .ok (.iload_n 2, 1) := by decide +kernel
theorem dX3_copyFrom_90 : decode cX3_copyFrom 90 = .ok (.aload_n 0, 1) := by decide +kernel
theorem dX3_copyFrom_91 : decode cX3_copyFrom 91 = .ok (.getfield 42, 3) := by decide +kernel
theorem dX3_copyFrom_94 : decode cX3_copyFrom 94 = .ok (.if_icmp .ge 33, 3) := by decide +kernel
theorem dX3_copyFrom_97 : decode cX3_copyFrom 97 = .ok (.aload_n 0, 1) := by decide +kernel
theorem dX3_copyFrom_98 : decode cX3_copyFrom 98 = .ok (.getfield 25, 3) := by decide +kernel
theorem dX3_copyFrom_101 : decode cX3_copyFrom 101 = .ok (.iload_n 2, 1) := by decide +kernel
theorem dX3_copyFrom_102 : decode cX3_copyFrom 102 = .ok (.aload_n 1, 1) := by decide +kernel
theorem dX3_copyFrom_103 : decode cX3_copyFrom 103 = .ok (.getfield 25, 3) := by decide +kernel
theorem dX3_copyFrom_106 : decode cX3_copyFrom 106 = .ok (.iload_n 2, 1) := by decide +kernel
theorem dX3_copyFrom_107 : decode cX3_copyFrom 107 = .ok (.laload, 1) := by decide +kernel
theorem dX3_copyFrom_108 : decode cX3_copyFrom 108 = .ok (.lastore, 1) := by decide +kernel
theorem dX3_copyFrom_109 : decode cX3_copyFrom 109 = .ok (.aload_n 0, 1) := by decide +kernel
theorem dX3_copyFrom_110 : decode cX3_copyFrom 110 = .ok (.getfield 28, 3) := by decide +kernel
theorem dX3_copyFrom_113 : decode cX3_copyFrom 113 = .ok (.iload_n 2, 1) := by decide +kernel
theorem dX3_copyFrom_114 : decode cX3_copyFrom 114 = .ok (.aload_n 1, 1) := by decide +kernel
theorem dX3_copyFrom_115 : decode cX3_copyFrom 115 = .ok (.getfield 28, 3) := by decide +kernel
theorem dX3_copyFrom_118 : decode cX3_copyFrom 118 = .ok (.iload_n 2, 1) := by decide +kernel
theorem dX3_copyFrom_119 : decode cX3_copyFrom 119 = .ok (.iaload, 1) := by decide +kernel
theorem dX3_copyFrom_120 : decode cX3_copyFrom 120 = .ok (.iastore, 1) := by decide +kernel
theorem dX3_copyFrom_121 : decode cX3_copyFrom 121 = .ok (.iinc 2 1, 3) := by decide +kernel
theorem dX3_copyFrom_124 : decode cX3_copyFrom 124 = .ok (.goto (-35), 3) := by decide +kernel
theorem dX3_copyFrom_127 : decode cX3_copyFrom 127 = .ok (.return_, 1) := by decide +kernel
theorem dX3_has_0 : decode cX3_has 0 = .ok (.iload_n 1, 1) := by decide +kernel
theorem dX3_has_1 : decode cX3_has 1 = .ok (.ifCond .lt 15, 3) := by decide +kernel
theorem dX3_has_4 : decode cX3_has 4 = .ok (.iload_n 1, 1) := by decide +kernel
theorem dX3_has_5 : decode cX3_has 5 = .ok (.aload_n 0, 1) := by decide +kernel
theorem dX3_has_6 : decode cX3_has 6 = .ok (.getfield 32, 3) := by decide +kernel
theorem dX3_has_9 : decode cX3_has 9 = .ok (.if_icmp .ge 7, 3) := by decide +kernel
theorem dX3_has_12 : decode cX3_has 12 = .ok (.iconst 1, 1) := by decide +kernel
theorem dX3_has_13 : decode cX3_has 13 = .ok (.goto 4, 3) := by decide +kernel
theorem dX3_has_16 : decode cX3_has 16 = .ok (.iconst 0, 1) := by decide +kernel
theorem dX3_has_17 : decode cX3_has 17 = .ok (.ireturn, 1) := by decide +kernel
set_option maxRecDepth 20000 in
theorem ggX3_place_X5_copyFrom : GoodIn wsX3_place wsX5_copyFrom := goodIn_r _ [8, 9, 10, 11, 12, 22, 23, 24, 25] (by decide +kernel) (by decide +kernel)
set_option maxRecDepth 20000 in
theorem gX3_place_X5_copyFrom : GoodIn wsX3_place (wsV RX3 45 RX5 yX5_copyFrom wsX5_copyFrom) := goodIn_app (goodIn_of _ (by decide +kernel)) ggX3_place_X5_copyFrom
theorem dX3_place_0 : decode cX3_place 0 = .ok (.aload_n 0, 1) := by decide +kernel
theorem dX3_place_1 : decode cX3_place 1 = .ok (.getfield 32, 3) := by decide +kernel
theorem dX3_place_4 : decode cX3_place 4 = .ok (.bipush 16, 2) := by decide +kernel
theorem dX3_place_6 : decode cX3_place 6 = .ok (.if_icmp .lt 4, 3) := by decide +kernel
theorem dX3_place_9 : decode cX3_place 9 = .ok (.return_, 1) := by decide +kernel
theorem dX3_place_10 : decode cX3_place 10 = .ok (.aload_n 0, 1) := by decide +kernel
theorem dX3_place_11 : decode cX3_place 11 = .ok (.getfield 11, 3) := by decide +kernel
theorem dX3_place_14 : decode cX3_place 14 = .ok (.aload_n 0, 1) := by decide +kernel
theorem dX3_place_15 : decode cX3_place 15 = .ok (.getfield 32, 3) := by decide +kernel
theorem dX3_place_18 : decode cX3_place 18 = .ok (.aaload, 1) := by decide +kernel
theorem dX3_place_19 : decode cX3_place 19 = .ok (.aload_n 1, 1) := by decide +kernel
theorem dX3_place_20 : decode cX3_place 20 = .ok (.invokevirtual 45, 3) := by decide +kernel
theorem dX3_place_23 : decode cX3_place 23 = .ok (.aload_n 0, 1) := by decide +kernel
theorem dX3_place_24 : decode cX3_place 24 = .ok (.getfield 22, 3) := by decide +kernel
theorem dX3_place_27 : decode cX3_place 27 = .ok (.aload_n 0, 1) := by decide +kernel
theorem dX3_place_28 : decode cX3_place 28 = .ok (.getfield 32, 3) := by decide +kernel
theorem dX3_place_31 : decode cX3_place 31 = .ok (.lconst 0, 1) := by decide +kernel
theorem dX3_place_32 : decode cX3_place 32 = .ok (.lastore, 1) := by decide +kernel
theorem dX3_place_33 : decode cX3_place 33 = .ok (.aload_n 0, 1) := by decide +kernel
theorem dX3_place_34 : decode cX3_place 34 = .ok (.dup, 1) := by decide +kernel
theorem dX3_place_35 : decode cX3_place 35 = .ok (.getfield 32, 3) := by decide +kernel
theorem dX3_place_38 : decode cX3_place 38 = .ok (.iconst 1, 1) := by decide +kernel
theorem dX3_place_39 : decode cX3_place 39 = .ok (.iadd, 1) := by decide +kernel
theorem dX3_place_40 : decode cX3_place 40 = .ok (.putfield 32, 3) := by decide +kernel
theorem dX3_place_43 : decode cX3_place 43 = .ok (.return_, 1) := by decide +kernel
set_option maxRecDepth 20000 in
theorem ggX3_takeOut_X3_has : GoodIn wsX3_takeOut wsX3_has := goodIn_r _ [8, 2, 15, 16, 17, 18, 19, 20, 21, 22, 23] (by decide +kernel) (by decide +kernel)
set_option maxRecDepth 20000 in
theorem gX3_takeOut_X3_has : GoodIn wsX3_takeOut (wsV RX3 49 RX3 yX3_has wsX3_has) := goodIn_app (goodIn_of _ (by decide +kernel)) ggX3_takeOut_X3_has
set_option maxRecDepth 20000 in
theorem ggX3_takeOut_X3_disown : GoodIn wsX3_takeOut wsX3_disown := goodIn_r _ [12, 13, 14, 15, 16, 17, 18, 19, 20, 21, 22, 23] (by decide +kernel) (by decide +kernel)
set_option maxRecDepth 20000 in
theorem gX3_takeOut_X3_disown : GoodIn wsX3_takeOut (wsV RX3 53 RX3 yX3_disown wsX3_disown) := goodIn_app (goodIn_of _ (by decide +kernel)) ggX3_takeOut_X3_disown
theorem dX3_takeOut_0 : decode cX3_takeOut 0 = .ok (.aload_n 0, 1) := by decide +kernel
theorem dX3_takeOut_1 : decode cX3_takeOut 1 = .ok (.iload_n 1, 1) := by decide +kernel
theorem dX3_takeOut_2 : decode cX3_takeOut 2 = .ok (.invokevirtual 49, 3) := by decide +kernel
theorem dX3_takeOut_5 : decode cX3_takeOut 5 = .ok (.ifCond .ne 4, 3) := by decide +kernel
theorem dX3_takeOut_8 : decode cX3_takeOut 8 = .ok (.return_, 1) := by decide +kernel
theorem dX3_takeOut_9 : decode cX3_takeOut 9 = .ok (.aload_n 0, 1) := by decide +kernel
theorem dX3_takeOut_10 : decode cX3_takeOut 10 = .ok (.getfield 11, 3) := by decide +kernel
theorem dX3_takeOut_13 : decode cX3_takeOut 13 = .ok (.iload_n 1, 1) := by decide +kernel
theorem dX3_takeOut_14 : decode cX3_takeOut 14 = .ok (.aaload, 1) := by decide +kernel
theorem dX3_takeOut_15 : decode cX3_takeOut 15 = .ok (.astore_n 2, 1) := by decide +kernel
theorem dX3_takeOut_16 : decode cX3_takeOut 16 = .ok (.iload_n 1, 1) := by decide +kernel
theorem dX3_takeOut_17 : decode cX3_takeOut 17 = .ok (.istore_n 3, 1) := by decide +kernel
theorem dX3_takeOut_18 : decode cX3_takeOut 18 = .ok (.iload_n 3, 1) := by decide +kernel
theorem dX3_takeOut_19 : decode cX3_takeOut 19 = .ok (.aload_n 0, 1) := by decide +kernel
theorem dX3_takeOut_20 : decode cX3_takeOut 20 = .ok (.getfield 32, 3) := by decide +kernel
theorem dX3_takeOut_23 : decode cX3_takeOut 23 = .ok (.iconst 1, 1) := by decide +kernel
theorem dX3_takeOut_24 : decode cX3_takeOut 24 = .ok (.isub, 1) := by decide +kernel
theorem dX3_takeOut_25 : decode cX3_takeOut 25 = .ok (.if_icmp .ge 37, 3) := by decide +kernel
theorem dX3_takeOut_28 : decode cX3_takeOut 28 = .ok (.aload_n 0, 1) := by decide +kernel
theorem dX3_takeOut_29 : decode cX3_takeOut 29 = .ok (.getfield 11, 3) := by decide +kernel
theorem dX3_takeOut_32 : decode cX3_takeOut 32 = .ok (.iload_n 3, 1) := by decide +kernel
theorem dX3_takeOut_33 : decode cX3_takeOut 33 = .ok (.aload_n 0, 1) := by decide +kernel
theorem dX3_takeOut_34 : decode cX3_takeOut 34 = .ok (.getfield 11, 3) := by decide +kernel
theorem dX3_takeOut_37 : decode cX3_takeOut 37 = .ok (.iload_n 3, 1) := by decide +kernel
theorem dX3_takeOut_38 : decode cX3_takeOut 38 = .ok (.iconst 1, 1) := by decide +kernel
theorem dX3_takeOut_39 : decode cX3_takeOut 39 = .ok (.iadd, 1) := by decide +kernel
theorem dX3_takeOut_40 : decode cX3_takeOut 40 = .ok (.aaload, 1) := by decide +kernel
theorem dX3_takeOut_41 : decode cX3_takeOut 41 = .ok (.aastore, 1) := by decide +kernel
theorem dX3_takeOut_42 : decode cX3_takeOut 42 = .ok (.aload_n 0, 1) := by decide +kernel
theorem dX3_takeOut_43 : decode cX3_takeOut 43 = .ok (.getfield 22, 3) := by decide +kernel
theorem dX3_takeOut_46 : decode cX3_takeOut 46 = .ok (.iload_n 3, 1) := by decide +kernel
theorem dX3_takeOut_47 : decode cX3_takeOut 47 = .ok (.aload_n 0, 1) := by decide +kernel
theorem dX3_takeOut_48 : decode cX3_takeOut 48 = .ok (.getfield 22, 3) := by decide +kernel
theorem dX3_takeOut_51 : decode cX3_takeOut 51 = .ok (.iload_n 3, 1) := by decide +kernel
theorem dX3_takeOut_52 : decode cX3_takeOut 52 = .ok (.iconst 1, 1) := by decide +kernel
theorem dX3_takeOut_53 : decode cX3_takeOut 53 = .ok (.iadd, 1) := by decide +kernel
theorem dX3_takeOut_54 : decode cX3_takeOut 54 = .ok (.laload, 1) := by decide +kernel
theorem dX3_takeOut_55 : decode cX3_takeOut 55 = .ok (.lastore, 1) := by decide +kernel
theorem dX3_takeOut_56 : decode cX3_takeOut 56 = .ok (.iinc 3 1, 3) := by decide +kernel
theorem dX3_takeOut_59 : decode cX3_takeOut 59 = .ok (.goto (-41), 3) := by decide +kernel
theorem dX3_takeOut_62 : decode cX3_takeOut 62 = .ok (.aload_n 0, 1) := by decide +kernel
theorem dX3_takeOut_63 : decode cX3_takeOut 63 = .ok (.dup, 1) := by decide +kernel
theorem dX3_takeOut_64 : decode cX3_takeOut 64 = .ok (.getfield 32, 3) := by decide +kernel
theorem dX3_takeOut_67 : decode cX3_takeOut 67 = .ok (.iconst 1, 1) := by decide +kernel
theorem dX3_takeOut_68 : decode cX3_takeOut 68 = .ok (.isub, 1) := by decide +kernel
theorem dX3_takeOut_69 : decode cX3_takeOut 69 = .ok (.putfield 32, 3) := by decide +kernel
theorem dX3_takeOut_72 : decode cX3_takeOut 72 = .ok (.aload_n 0, 1) := by decide +kernel
theorem dX3_takeOut_73 : decode cX3_takeOut 73 = .ok (.getfield 11, 3) := by decide +kernel
theorem dX3_takeOut_76 : decode cX3_takeOut 76 = .ok (.aload_n 0, 1) := by decide +kernel
theorem dX3_takeOut_77 : decode cX3_takeOut 77 = .ok (.getfield 32, 3) := by decide +kernel
theorem dX3_takeOut_80 : decode cX3_takeOut 80 = .ok (.aload_n 2, 1) := by decide +kernel
theorem dX3_takeOut_81 : decode cX3_takeOut 81 = .ok (.aastore, 1) := by decide +kernel
theorem dX3_takeOut_82 : decode cX3_takeOut 82 = .ok (.aload_n 0, 1) := by decide +kernel
theorem dX3_takeOut_83 : decode cX3_takeOut 83 = .ok (.iload_n 1, 1) := by decide +kernel
theorem dX3_takeOut_84 : decode cX3_takeOut 84 = .ok (.invokevirtual 53, 3) := by decide +kernel
theorem dX3_takeOut_87 : decode cX3_takeOut 87 = .ok (.return_, 1) := by decide +kernel
theorem dX3_disown_0 : decode cX3_disown 0 = .ok (.iconst 0, 1) := by decide +kernel
theorem dX3_disown_1 : decode cX3_disown 1 = .ok (.istore_n 2, 1) := by decide +kernel
theorem dX3_disown_2 : decode cX3_disown 2 = .ok (.iload_n 2, 1) := by decide +kernel
theorem dX3_disown_3 : decode cX3_disown 3 = .ok (.aload_n 0, 1) := by decide +kernel
theorem dX3_disown_4 : decode cX3_disown 4 = .ok (.getfield 42, 3) := by decide +kernel
theorem dX3_disown_7 : decode cX3_disown 7 = .ok (.if_icmp .ge 50, 3) := by decide +kernel
theorem dX3_disown_10 : decode cX3_disown 10 = .ok (.aload_n 0, 1) := by decide +kernel
theorem dX3_disown_11 : decode cX3_disown 11 = .ok (.getfield 28, 3) := by decide +kernel
theorem dX3_disown_14 : decode cX3_disown 14 = .ok (.iload_n 2, 1) := by decide +kernel
theorem dX3_disown_15 : decode cX3_disown 15 = .ok (.iaload, 1) := by decide +kernel
theorem dX3_disown_16 : decode cX3_disown 16 = .ok (.iload_n 1, 1) := by decide +kernel
theorem dX3_disown_17 : decode cX3_disown 17 = .ok (.if_icmp .ne 14, 3) := by decide +kernel
theorem dX3_disown_20 : decode cX3_disown 20 = .ok (.aload_n 0, 1) := by decide +kernel
theorem dX3_disown_21 : decode cX3_disown 21 = .ok (.getfield 28, 3) := by decide +kernel
theorem dX3_disown_24 : decode cX3_disown 24 = .ok (.iload_n 2, 1) := by decide +kernel
theorem dX3_disown_25 : decode cX3_disown 25 = .ok (.bipush (-2), 2) := by decide +kernel
theorem dX3_disown_27 : decode cX3_disown 27 = .ok (.iastore, 1) := by decide +kernel
theorem dX3_disown_28 : decode cX3_disown 28 = .ok (.goto 23, 3) := by decide +kernel
theorem dX3_disown_31 : decode cX3_disown 31 = .ok (.aload_n 0, 1) := by decide +kernel
theorem dX3_disown_32 : decode cX3_disown 32 = .ok (.getfield 28, 3) := by decide +kernel
theorem dX3_disown_35 : decode cX3_disown 35 = .ok (.iload_n 2, 1) := by decide +kernel
theorem dX3_disown_36 : decode cX3_disown 36 = .ok (.iaload, 1) := by decide +kernel
theorem dX3_disown_37 : decode cX3_disown 37 = .ok (.iload_n 1, 1) := by decide +kernel
theorem dX3_disown_38 : decode cX3_disown 38 = .ok (.if_icmp .le 13, 3) := by decide +kernel
theorem dX3_disown_41 : decode cX3_disown 41 = .ok (.aload_n 0, 1) := by decide +kernel
theorem dX3_disown_42 : decode cX3_disown 42 = .ok (.getfield 28, 3) := by decide +kernel
theorem dX3_disown_45 : decode cX3_disown 45 = .ok (.iload_n 2, 1) := by decide +kernel
theorem dX3_disown_46 : decode cX3_disown 46 = .ok (.dup2, 1) := by decide +kernel
theorem dX3_disown_47 : decode cX3_disown 47 = .ok (.iaload, 1) := by decide +kernel
theorem dX3_disown_48 : decode cX3_disown 48 = .ok (.iconst 1, 1) := by decide +kernel
theorem dX3_disown_49 : decode cX3_disown 49 = .ok (.isub, 1) := by decide +kernel
theorem dX3_disown_50 : decode cX3_disown 50 = .ok (.iastore, 1) := by decide +kernel
theorem dX3_disown_51 : decode cX3_disown 51 = .ok (.iinc 2 1, 3) := by decide +kernel
theorem dX3_disown_54 : decode cX3_disown 54 = .ok (.goto (-52), 3) := by decide +kernel
theorem dX3_disown_57 : decode cX3_disown 57 = .ok (.return_, 1) := by decide +kernel
set_option maxRecDepth 20000 in
theorem ggX3_rekey_X5_stem : GoodIn wsX3_rekey wsX5_stem := goodIn_r _ [11, 12, 13, 14, 15, 16, 10, 17, 18, 19, 20, 21, 22, 23, 24, 25, 26, 27, 28, 29, 30, 31, 32, 33, 34, 35, 36, 37, 38, 39, 40, 41, 42, 76, 77, 78, 79] (by decide +kernel) (by decide +kernel)
set_option maxRecDepth 20000 in
theorem gX3_rekey_X5_stem : GoodIn wsX3_rekey (wsV RX3 60 RX5 yX5_stem wsX5_stem) := goodIn_app (goodIn_of _ (by decide +kernel)) ggX3_rekey_X5_stem
set_option maxRecDepth 20000 in
theorem ggX3_rekey_X3_letterDue : GoodIn wsX3_rekey wsX3_letterDue := goodIn_r _ [47, 1, 2, 48, 49, 50, 46, 51, 3, 5, 52, 53, 54, 55, 56, 10, 57, 12, 58, 59, 60, 61, 62, 63, 64, 65, 66, 67, 68, 69, 70, 71, 72, 73, 74, 75, 76, 77, 78, 79] (by decide +kernel) (by decide +kernel)
set_option maxRecDepth 20000 in
theorem gX3_rekey_X3_letterDue : GoodIn wsX3_rekey (wsV RX3 64 RX3 yX3_letterDue wsX3_letterDue) := goodIn_app (goodIn_of _ (by decide +kernel)) ggX3_rekey_X3_letterDue
theorem dX3_rekey_0 : decode cX3_rekey 0 = .ok (.iconst 0, 1) := by decide +kernel
theorem dX3_rekey_1 : decode cX3_rekey 1 = .ok (.istore_n 1, 1) := by decide +kernel
theorem dX3_rekey_2 : decode cX3_rekey 2 = .ok (.iload_n 1, 1) := by decide +kernel
theorem dX3_rekey_3 : decode cX3_rekey 3 = .ok (.aload_n 0, 1) := by decide +kernel
theorem dX3_rekey_4 : decode cX3_rekey 4 = .ok (.getfield 32, 3) := by decide +kernel
theorem dX3_rekey_7 : decode cX3_rekey 7 = .ok (.if_icmp .ge 37, 3) := by decide +kernel
theorem dX3_rekey_10 : decode cX3_rekey 10 = .ok (.aload_n 0, 1) := by decide +kernel
theorem dX3_rekey_11 : decode cX3_rekey 11 = .ok (.getfield 18, 3) := by decide +kernel
theorem dX3_rekey_14 : decode cX3_rekey 14 = .ok (.iload_n 1, 1) := by decide +kernel
theorem dX3_rekey_15 : decode cX3_rekey 15 = .ok (.aload_n 0, 1) := by decide +kernel
theorem dX3_rekey_16 : decode cX3_rekey 16 = .ok (.getfield 11, 3) := by decide +kernel
theorem dX3_rekey_19 : decode cX3_rekey 19 = .ok (.iload_n 1, 1) := by decide +kernel
theorem dX3_rekey_20 : decode cX3_rekey 20 = .ok (.aaload, 1) := by decide +kernel
theorem dX3_rekey_21 : decode cX3_rekey 21 = .ok (.aload_n 0, 1) := by decide +kernel
theorem dX3_rekey_22 : decode cX3_rekey 22 = .ok (.getfield 36, 3) := by decide +kernel
theorem dX3_rekey_25 : decode cX3_rekey 25 = .ok (.aload_n 0, 1) := by decide +kernel
theorem dX3_rekey_26 : decode cX3_rekey 26 = .ok (.getfield 11, 3) := by decide +kernel
theorem dX3_rekey_29 : decode cX3_rekey 29 = .ok (.iload_n 1, 1) := by decide +kernel
theorem dX3_rekey_30 : decode cX3_rekey 30 = .ok (.aaload, 1) := by decide +kernel
theorem dX3_rekey_31 : decode cX3_rekey 31 = .ok (.getfield 57, 3) := by decide +kernel
theorem dX3_rekey_34 : decode cX3_rekey 34 = .ok (.invokevirtual 60, 3) := by decide +kernel
theorem dX3_rekey_37 : decode cX3_rekey 37 = .ok (.lastore, 1) := by decide +kernel
theorem dX3_rekey_38 : decode cX3_rekey 38 = .ok (.iinc 1 1, 3) := by decide +kernel
theorem dX3_rekey_41 : decode cX3_rekey 41 = .ok (.goto (-39), 3) := by decide +kernel
theorem dX3_rekey_44 : decode cX3_rekey 44 = .ok (.iconst 0, 1) := by decide +kernel
theorem dX3_rekey_45 : decode cX3_rekey 45 = .ok (.istore_n 1, 1) := by decide +kernel
theorem dX3_rekey_46 : decode cX3_rekey 46 = .ok (.iconst 0, 1) := by decide +kernel
theorem dX3_rekey_47 : decode cX3_rekey 47 = .ok (.istore_n 2, 1) := by decide +kernel
theorem dX3_rekey_48 : decode cX3_rekey 48 = .ok (.iload_n 2, 1) := by decide +kernel
theorem dX3_rekey_49 : decode cX3_rekey 49 = .ok (.aload_n 0, 1) := by decide +kernel
theorem dX3_rekey_50 : decode cX3_rekey 50 = .ok (.getfield 32, 3) := by decide +kernel
theorem dX3_rekey_53 : decode cX3_rekey 53 = .ok (.if_icmp .ge 44, 3) := by decide +kernel
theorem dX3_rekey_56 : decode cX3_rekey 56 = .ok (.aload_n 0, 1) := by decide +kernel
theorem dX3_rekey_57 : decode cX3_rekey 57 = .ok (.getfield 18, 3) := by decide +kernel
theorem dX3_rekey_60 : decode cX3_rekey 60 = .ok (.iload_n 2, 1) := by decide +kernel
theorem dX3_rekey_61 : decode cX3_rekey 61 = .ok (.laload, 1) := by decide +kernel
theorem dX3_rekey_62 : decode cX3_rekey 62 = .ok (.aload_n 0, 1) := by decide +kernel
theorem dX3_rekey_63 : decode cX3_rekey 63 = .ok (.iload_n 2, 1) := by decide +kernel
theorem dX3_rekey_64 : decode cX3_rekey 64 = .ok (.invokevirtual 64, 3) := by decide +kernel
theorem dX3_rekey_67 : decode cX3_rekey 67 = .ok (.i2l, 1) := by decide +kernel
theorem dX3_rekey_68 : decode cX3_rekey 68 = .ok (.ladd, 1) := by decide +kernel
theorem dX3_rekey_69 : decode cX3_rekey 69 = .ok (.lstore_n 3, 1) := by decide +kernel
theorem dX3_rekey_70 : decode cX3_rekey 70 = .ok (.lload_n 3, 1) := by decide +kernel
theorem dX3_rekey_71 : decode cX3_rekey 71 = .ok (.aload_n 0, 1) := by decide +kernel
theorem dX3_rekey_72 : decode cX3_rekey 72 = .ok (.getfield 22, 3) := by decide +kernel
theorem dX3_rekey_75 : decode cX3_rekey 75 = .ok (.iload_n 2, 1) := by decide +kernel
theorem dX3_rekey_76 : decode cX3_rekey 76 = .ok (.laload, 1) := by decide +kernel
theorem dX3_rekey_77 : decode cX3_rekey 77 = .ok (.lcmp, 1) := by decide +kernel
theorem dX3_rekey_78 : decode cX3_rekey 78 = .ok (.ifCond .eq 6, 3) := by decide +kernel
theorem dX3_rekey_81 : decode cX3_rekey 81 = .ok (.iinc 1 1, 3) := by decide +kernel
theorem dX3_rekey_84 : decode cX3_rekey 84 = .ok (.aload_n 0, 1) := by decide +kernel
theorem dX3_rekey_85 : decode cX3_rekey 85 = .ok (.getfield 22, 3) := by decide +kernel
theorem dX3_rekey_88 : decode cX3_rekey 88 = .ok (.iload_n 2, 1) := by decide +kernel
theorem dX3_rekey_89 : decode cX3_rekey 89 = .ok (.lload_n 3, 1) := by decide +kernel
theorem dX3_rekey_90 : decode cX3_rekey 90 = .ok (.lastore, 1) := by decide +kernel
theorem dX3_rekey_91 : decode cX3_rekey 91 = .ok (.iinc 2 1, 3) := by decide +kernel
theorem dX3_rekey_94 : decode cX3_rekey 94 = .ok (.goto (-46), 3) := by decide +kernel
theorem dX3_rekey_97 : decode cX3_rekey 97 = .ok (.iload_n 1, 1) := by decide +kernel
theorem dX3_rekey_98 : decode cX3_rekey 98 = .ok (.ireturn, 1) := by decide +kernel
set_option maxRecDepth 20000 in
theorem ggX3_letterDue_X3_isBefore : GoodIn wsX3_letterDue wsX3_isBefore := goodIn_r _ [7, 8, 9, 10, 11, 12, 13, 14, 15, 16, 17, 18, 19, 20, 21, 22, 23, 24, 25, 26, 27, 28, 29, 30, 31, 32, 33, 34, 35, 36, 37, 38, 39] (by decide +kernel) (by decide +kernel)
set_option maxRecDepth 20000 in
theorem gX3_letterDue_X3_isBefore : GoodIn wsX3_letterDue (wsV RX3 68 RX3 yX3_isBefore wsX3_isBefore) := goodIn_app (goodIn_of _ (by decide +kernel)) ggX3_letterDue_X3_isBefore
theorem dX3_letterDue_0 : decode cX3_letterDue 0 = .ok (.iconst 0, 1) := by decide +kernel
theorem dX3_letterDue_1 : decode cX3_letterDue 1 = .ok (.istore_n 2, 1) := by decide +kernel
theorem dX3_letterDue_2 : decode cX3_letterDue 2 = .ok (.iconst 0, 1) := by decide +kernel
theorem dX3_letterDue_3 : decode cX3_letterDue 3 = .ok (.istore_n 3, 1) := by decide +kernel
theorem dX3_letterDue_4 : decode cX3_letterDue 4 = .ok (.iconst 0, 1) := by decide +kernel
theorem dX3_letterDue_5 : decode cX3_letterDue 5 = .ok (.istore 4, 2) := by decide +kernel
theorem dX3_letterDue_7 : decode cX3_letterDue 7 = .ok (.iload 4, 2) := by decide +kernel
theorem dX3_letterDue_9 : decode cX3_letterDue 9 = .ok (.aload_n 0, 1) := by decide +kernel
theorem dX3_letterDue_10 : decode cX3_letterDue 10 = .ok (.getfield 32, 3) := by decide +kernel
theorem dX3_letterDue_13 : decode cX3_letterDue 13 = .ok (.if_icmp .ge 42, 3) := by decide +kernel
theorem dX3_letterDue_16 : decode cX3_letterDue 16 = .ok (.aload_n 0, 1) := by decide +kernel
theorem dX3_letterDue_17 : decode cX3_letterDue 17 = .ok (.getfield 18, 3) := by decide +kernel
theorem dX3_letterDue_20 : decode cX3_letterDue 20 = .ok (.iload 4, 2) := by decide +kernel
theorem dX3_letterDue_22 : decode cX3_letterDue 22 = .ok (.laload, 1) := by decide +kernel
theorem dX3_letterDue_23 : decode cX3_letterDue 23 = .ok (.aload_n 0, 1) := by decide +kernel
theorem dX3_letterDue_24 : decode cX3_letterDue 24 = .ok (.getfield 18, 3) := by decide +kernel
theorem dX3_letterDue_27 : decode cX3_letterDue 27 = .ok (.iload_n 1, 1) := by decide +kernel
theorem dX3_letterDue_28 : decode cX3_letterDue 28 = .ok (.laload, 1) := by decide +kernel
theorem dX3_letterDue_29 : decode cX3_letterDue 29 = .ok (.lcmp, 1) := by decide +kernel
theorem dX3_letterDue_30 : decode cX3_letterDue 30 = .ok (.ifCond .ne 19, 3) := by decide +kernel
theorem dX3_letterDue_33 : decode cX3_letterDue 33 = .ok (.iinc 2 1, 3) := by decide +kernel
theorem dX3_letterDue_36 : decode cX3_letterDue 36 = .ok (.aload_n 0, 1) := by decide +kernel
theorem dX3_letterDue_37 : decode cX3_letterDue 37 = .ok (.iload 4, 2) := by decide +kernel
theorem dX3_letterDue_39 : decode cX3_letterDue 39 = .ok (.iload_n 1, 1) := by decide +kernel
theorem dX3_letterDue_40 : decode cX3_letterDue 40 = .ok (.invokevirtual 68, 3) := by decide +kernel
theorem dX3_letterDue_43 : decode cX3_letterDue 43 = .ok (.ifCond .eq 6, 3) := by decide +kernel
theorem dX3_letterDue_46 : decode cX3_letterDue 46 = .ok (.iinc 3 1, 3) := by decide +kernel
theorem dX3_letterDue_49 : decode cX3_letterDue 49 = .ok (.iinc 4 1, 3) := by decide +kernel
theorem dX3_letterDue_52 : decode cX3_letterDue 52 = .ok (.goto (-45), 3) := by decide +kernel
theorem dX3_letterDue_55 : decode cX3_letterDue 55 = .ok (.iload_n 2, 1) := by decide +kernel
theorem dX3_letterDue_56 : decode cX3_letterDue 56 = .ok (.iconst 1, 1) := by decide +kernel
theorem dX3_letterDue_57 : decode cX3_letterDue 57 = .ok (.if_icmp .le 9, 3) := by decide +kernel
theorem dX3_letterDue_60 : decode cX3_letterDue 60 = .ok (.iload_n 3, 1) := by decide +kernel
theorem dX3_letterDue_61 : decode cX3_letterDue 61 = .ok (.iconst 1, 1) := by decide +kernel
theorem dX3_letterDue_62 : decode cX3_letterDue 62 = .ok (.iadd, 1) := by decide +kernel
theorem dX3_letterDue_63 : decode cX3_letterDue 63 = .ok (.goto 4, 3) := by decide +kernel
theorem dX3_letterDue_66 : decode cX3_letterDue 66 = .ok (.iconst 0, 1) := by decide +kernel
theorem dX3_letterDue_67 : decode cX3_letterDue 67 = .ok (.ireturn, 1) := by decide +kernel
set_option maxRecDepth 20000 in
theorem ggX3_isBefore_X5_compareAuthors : GoodIn wsX3_isBefore wsX5_compareAuthors := goodIn_r _ [9, 10, 11, 12, 13, 14, 29, 30, 31, 32] (by decide +kernel) (by decide +kernel)
set_option maxRecDepth 20000 in
theorem gX3_isBefore_X5_compareAuthors : GoodIn wsX3_isBefore (wsV RX3 72 RX5 yX5_compareAuthors wsX5_compareAuthors) := goodIn_app (goodIn_of _ (by decide +kernel)) ggX3_isBefore_X5_compareAuthors
set_option maxRecDepth 20000 in
theorem ggX3_isBefore_J6_compare_7cf53 : GoodIn wsX3_isBefore wsJ6_compare_7cf53 := goodIn_r _ [18] (by decide +kernel) (by decide +kernel)
set_option maxRecDepth 20000 in
theorem gX3_isBefore_J6_compare_7cf53 : GoodIn wsX3_isBefore (va_wsS RX3 76 yJ6_compare_7cf53 wsJ6_compare_7cf53) := goodIn_app (goodIn_of _ (by decide +kernel)) ggX3_isBefore_J6_compare_7cf53
set_option maxRecDepth 20000 in
theorem ggX3_isBefore_J13_compare_74951 : GoodIn wsX3_isBefore wsJ13_compare_74951 := goodIn_r _ [14] (by decide +kernel) (by decide +kernel)
set_option maxRecDepth 20000 in
theorem gX3_isBefore_J13_compare_74951 : GoodIn wsX3_isBefore (va_wsS RX3 86 yJ13_compare_74951 wsJ13_compare_74951) := goodIn_app (goodIn_of _ (by decide +kernel)) ggX3_isBefore_J13_compare_74951
theorem dX3_isBefore_0 : decode cX3_isBefore 0 = .ok (.aload_n 0, 1) := by decide +kernel
theorem dX3_isBefore_1 : decode cX3_isBefore 1 = .ok (.getfield 11, 3) := by decide +kernel
theorem dX3_isBefore_4 : decode cX3_isBefore 4 = .ok (.iload_n 1, 1) := by decide +kernel
theorem dX3_isBefore_5 : decode cX3_isBefore 5 = .ok (.aaload, 1) := by decide +kernel
theorem dX3_isBefore_6 : decode cX3_isBefore 6 = .ok (.aload_n 0, 1) := by decide +kernel
theorem dX3_isBefore_7 : decode cX3_isBefore 7 = .ok (.getfield 11, 3) := by decide +kernel
theorem dX3_isBefore_10 : decode cX3_isBefore 10 = .ok (.iload_n 2, 1) := by decide +kernel
theorem dX3_isBefore_11 : decode cX3_isBefore 11 = .ok (.aaload, 1) := by decide +kernel
theorem dX3_isBefore_12 : decode cX3_isBefore 12 = .ok (.invokevirtual 72, 3) := by decide +kernel
theorem dX3_isBefore_15 : decode cX3_isBefore 15 = .ok (.istore_n 3, 1) := by decide +kernel
theorem dX3_isBefore_16 : decode cX3_isBefore 16 = .ok (.aload_n 0, 1) := by decide +kernel
theorem dX3_isBefore_17 : decode cX3_isBefore 17 = .ok (.getfield 11, 3) := by decide +kernel
theorem dX3_isBefore_20 : decode cX3_isBefore 20 = .ok (.iload_n 1, 1) := by decide +kernel
theorem dX3_isBefore_21 : decode cX3_isBefore 21 = .ok (.aaload, 1) := by decide +kernel
theorem dX3_isBefore_22 : decode cX3_isBefore 22 = .ok (.getfield 57, 3) := by decide +kernel
theorem dX3_isBefore_25 : decode cX3_isBefore 25 = .ok (.aload_n 0, 1) := by decide +kernel
theorem dX3_isBefore_26 : decode cX3_isBefore 26 = .ok (.getfield 11, 3) := by decide +kernel
theorem dX3_isBefore_29 : decode cX3_isBefore 29 = .ok (.iload_n 2, 1) := by decide +kernel
theorem dX3_isBefore_30 : decode cX3_isBefore 30 = .ok (.aaload, 1) := by decide +kernel
theorem dX3_isBefore_31 : decode cX3_isBefore 31 = .ok (.getfield 57, 3) := by decide +kernel
theorem dX3_isBefore_34 : decode cX3_isBefore 34 = .ok (.invokestatic 76, 3) := by decide +kernel
theorem dX3_isBefore_37 : decode cX3_isBefore 37 = .ok (.istore 4, 2) := by decide +kernel
theorem dX3_isBefore_39 : decode cX3_isBefore 39 = .ok (.aload_n 0, 1) := by decide +kernel
theorem dX3_isBefore_40 : decode cX3_isBefore 40 = .ok (.getfield 39, 3) := by decide +kernel
theorem dX3_isBefore_43 : decode cX3_isBefore 43 = .ok (.ifCond .ne 7, 3) := by decide +kernel
theorem dX3_isBefore_46 : decode cX3_isBefore 46 = .ok (.iload_n 3, 1) := by decide +kernel
theorem dX3_isBefore_47 : decode cX3_isBefore 47 = .ok (.goto 5, 3) := by decide +kernel
theorem dX3_isBefore_50 : decode cX3_isBefore 50 = .ok (.iload 4, 2) := by decide +kernel
theorem dX3_isBefore_52 : decode cX3_isBefore 52 = .ok (.istore 5, 2) := by decide +kernel
theorem dX3_isBefore_54 : decode cX3_isBefore 54 = .ok (.aload_n 0, 1) := by decide +kernel
theorem dX3_isBefore_55 : decode cX3_isBefore 55 = .ok (.getfield 39, 3) := by decide +kernel
theorem dX3_isBefore_58 : decode cX3_isBefore 58 = .ok (.ifCond .ne 8, 3) := by decide +kernel
theorem dX3_isBefore_61 : decode cX3_isBefore 61 = .ok (.iload 4, 2) := by decide +kernel
theorem dX3_isBefore_63 : decode cX3_isBefore 63 = .ok (.goto 4, 3) := by decide +kernel
theorem dX3_isBefore_66 : decode cX3_isBefore 66 = .ok (.iload_n 3, 1) := by decide +kernel
theorem dX3_isBefore_67 : decode cX3_isBefore 67 = .ok (.istore 6, 2) := by decide +kernel
theorem dX3_isBefore_69 : decode cX3_isBefore 69 = .ok (.iload 5, 2) := by decide +kernel
theorem dX3_isBefore_71 : decode cX3_isBefore 71 = .ok (.ifCond .eq 14, 3) := by decide +kernel
theorem dX3_isBefore_74 : decode cX3_isBefore 74 = .ok (.iload 5, 2) := by decide +kernel
theorem dX3_isBefore_76 : decode cX3_isBefore 76 = .ok (.ifCond .ge 7, 3) := by decide +kernel
theorem dX3_isBefore_79 : decode cX3_isBefore 79 = .ok (.iconst 1, 1) := by decide +kernel
theorem dX3_isBefore_80 : decode cX3_isBefore 80 = .ok (.goto 4, 3) := by decide +kernel
theorem dX3_isBefore_83 : decode cX3_isBefore 83 = .ok (.iconst 0, 1) := by decide +kernel
theorem dX3_isBefore_84 : decode cX3_isBefore 84 = .ok (.ireturn, 1) := by decide +kernel
theorem dX3_isBefore_85 : decode cX3_isBefore 85 = .ok (.iload 6, 2) := by decide +kernel
theorem dX3_isBefore_87 : decode cX3_isBefore 87 = .ok (.ifCond .eq 14, 3) := by decide +kernel
theorem dX3_isBefore_90 : decode cX3_isBefore 90 = .ok (.iload 6, 2) := by decide +kernel
theorem dX3_isBefore_92 : decode cX3_isBefore 92 = .ok (.ifCond .ge 7, 3) := by decide +kernel
theorem dX3_isBefore_95 : decode cX3_isBefore 95 = .ok (.iconst 1, 1) := by decide +kernel
theorem dX3_isBefore_96 : decode cX3_isBefore 96 = .ok (.goto 4, 3) := by decide +kernel
theorem dX3_isBefore_99 : decode cX3_isBefore 99 = .ok (.iconst 0, 1) := by decide +kernel
theorem dX3_isBefore_100 : decode cX3_isBefore 100 = .ok (.ireturn, 1) := by decide +kernel
theorem dX3_isBefore_101 : decode cX3_isBefore 101 = .ok (.aload_n 0, 1) := by decide +kernel
theorem dX3_isBefore_102 : decode cX3_isBefore 102 = .ok (.getfield 11, 3) := by decide +kernel
theorem dX3_isBefore_105 : decode cX3_isBefore 105 = .ok (.iload_n 1, 1) := by decide +kernel
theorem dX3_isBefore_106 : decode cX3_isBefore 106 = .ok (.aaload, 1) := by decide +kernel
theorem dX3_isBefore_107 : decode cX3_isBefore 107 = .ok (.getfield 82, 3) := by decide +kernel
theorem dX3_isBefore_110 : decode cX3_isBefore 110 = .ok (.aload_n 0, 1) := by decide +kernel
theorem dX3_isBefore_111 : decode cX3_isBefore 111 = .ok (.getfield 11, 3) := by decide +kernel
theorem dX3_isBefore_114 : decode cX3_isBefore 114 = .ok (.iload_n 2, 1) := by decide +kernel
theorem dX3_isBefore_115 : decode cX3_isBefore 115 = .ok (.aaload, 1) := by decide +kernel
theorem dX3_isBefore_116 : decode cX3_isBefore 116 = .ok (.getfield 82, 3) := by decide +kernel
theorem dX3_isBefore_119 : decode cX3_isBefore 119 = .ok (.invokestatic 86, 3) := by decide +kernel
theorem dX3_isBefore_122 : decode cX3_isBefore 122 = .ok (.istore 7, 2) := by decide +kernel
theorem dX3_isBefore_124 : decode cX3_isBefore 124 = .ok (.iload 7, 2) := by decide +kernel
theorem dX3_isBefore_126 : decode cX3_isBefore 126 = .ok (.ifCond .eq 16, 3) := by decide +kernel
theorem dX3_isBefore_129 : decode cX3_isBefore 129 = .ok (.iload 7, 2) := by decide +kernel
theorem dX3_isBefore_131 : decode cX3_isBefore 131 = .ok (.ifCond .ge 7, 3) := by decide +kernel
theorem dX3_isBefore_134 : decode cX3_isBefore 134 = .ok (.iconst 1, 1) := by decide +kernel
theorem dX3_isBefore_135 : decode cX3_isBefore 135 = .ok (.goto 17, 3) := by decide +kernel
theorem dX3_isBefore_138 : decode cX3_isBefore 138 = .ok (.iconst 0, 1) := by decide +kernel
theorem dX3_isBefore_139 : decode cX3_isBefore 139 = .ok (.goto 13, 3) := by decide +kernel
theorem dX3_isBefore_142 : decode cX3_isBefore 142 = .ok (.iload_n 1, 1) := by decide +kernel
theorem dX3_isBefore_143 : decode cX3_isBefore 143 = .ok (.iload_n 2, 1) := by decide +kernel
theorem dX3_isBefore_144 : decode cX3_isBefore 144 = .ok (.if_icmp .ge 7, 3) := by decide +kernel
theorem dX3_isBefore_147 : decode cX3_isBefore 147 = .ok (.iconst 1, 1) := by decide +kernel
theorem dX3_isBefore_148 : decode cX3_isBefore 148 = .ok (.goto 4, 3) := by decide +kernel
theorem dX3_isBefore_151 : decode cX3_isBefore 151 = .ok (.iconst 0, 1) := by decide +kernel
theorem dX3_isBefore_152 : decode cX3_isBefore 152 = .ok (.ireturn, 1) := by decide +kernel
set_option maxRecDepth 20000 in
theorem ggX3_placeOf_X3_isBefore : GoodIn wsX3_placeOf wsX3_isBefore := goodIn_r _ [6, 7, 8, 9, 10, 11, 12, 13, 14, 15, 16, 17, 18, 19, 20, 21, 22, 23, 24, 25, 26, 27, 28, 29, 30, 31, 32, 33, 34, 35, 36, 37, 38] (by decide +kernel) (by decide +kernel)
set_option maxRecDepth 20000 in
theorem gX3_placeOf_X3_isBefore : GoodIn wsX3_placeOf (wsV RX3 68 RX3 yX3_isBefore wsX3_isBefore) := goodIn_app (goodIn_of _ (by decide +kernel)) ggX3_placeOf_X3_isBefore
theorem dX3_placeOf_0 : decode cX3_placeOf 0 = .ok (.iconst 0, 1) := by decide +kernel
theorem dX3_placeOf_1 : decode cX3_placeOf 1 = .ok (.istore_n 2, 1) := by decide +kernel
theorem dX3_placeOf_2 : decode cX3_placeOf 2 = .ok (.iconst 0, 1) := by decide +kernel
theorem dX3_placeOf_3 : decode cX3_placeOf 3 = .ok (.istore_n 3, 1) := by decide +kernel
theorem dX3_placeOf_4 : decode cX3_placeOf 4 = .ok (.iload_n 3, 1) := by decide +kernel
theorem dX3_placeOf_5 : decode cX3_placeOf 5 = .ok (.aload_n 0, 1) := by decide +kernel
theorem dX3_placeOf_6 : decode cX3_placeOf 6 = .ok (.getfield 32, 3) := by decide +kernel
theorem dX3_placeOf_9 : decode cX3_placeOf 9 = .ok (.if_icmp .ge 21, 3) := by decide +kernel
theorem dX3_placeOf_12 : decode cX3_placeOf 12 = .ok (.aload_n 0, 1) := by decide +kernel
theorem dX3_placeOf_13 : decode cX3_placeOf 13 = .ok (.iload_n 3, 1) := by decide +kernel
theorem dX3_placeOf_14 : decode cX3_placeOf 14 = .ok (.iload_n 1, 1) := by decide +kernel
theorem dX3_placeOf_15 : decode cX3_placeOf 15 = .ok (.invokevirtual 68, 3) := by decide +kernel
theorem dX3_placeOf_18 : decode cX3_placeOf 18 = .ok (.ifCond .eq 6, 3) := by decide +kernel
theorem dX3_placeOf_21 : decode cX3_placeOf 21 = .ok (.iinc 2 1, 3) := by decide +kernel
theorem dX3_placeOf_24 : decode cX3_placeOf 24 = .ok (.iinc 3 1, 3) := by decide +kernel
theorem dX3_placeOf_27 : decode cX3_placeOf 27 = .ok (.goto (-23), 3) := by decide +kernel
theorem dX3_placeOf_30 : decode cX3_placeOf 30 = .ok (.iload_n 2, 1) := by decide +kernel
theorem dX3_placeOf_31 : decode cX3_placeOf 31 = .ok (.ireturn, 1) := by decide +kernel
theorem dX3_sharing_0 : decode cX3_sharing 0 = .ok (.iconst 0, 1) := by decide +kernel
theorem dX3_sharing_1 : decode cX3_sharing 1 = .ok (.istore_n 2, 1) := by decide +kernel
theorem dX3_sharing_2 : decode cX3_sharing 2 = .ok (.iconst 0, 1) := by decide +kernel
theorem dX3_sharing_3 : decode cX3_sharing 3 = .ok (.istore_n 3, 1) := by decide +kernel
theorem dX3_sharing_4 : decode cX3_sharing 4 = .ok (.iload_n 3, 1) := by decide +kernel
theorem dX3_sharing_5 : decode cX3_sharing 5 = .ok (.aload_n 0, 1) := by decide +kernel
theorem dX3_sharing_6 : decode cX3_sharing 6 = .ok (.getfield 32, 3) := by decide +kernel
theorem dX3_sharing_9 : decode cX3_sharing 9 = .ok (.if_icmp .ge 28, 3) := by decide +kernel
theorem dX3_sharing_12 : decode cX3_sharing 12 = .ok (.aload_n 0, 1) := by decide +kernel
theorem dX3_sharing_13 : decode cX3_sharing 13 = .ok (.getfield 18, 3) := by decide +kernel
theorem dX3_sharing_16 : decode cX3_sharing 16 = .ok (.iload_n 3, 1) := by decide +kernel
theorem dX3_sharing_17 : decode cX3_sharing 17 = .ok (.laload, 1) := by decide +kernel
theorem dX3_sharing_18 : decode cX3_sharing 18 = .ok (.aload_n 0, 1) := by decide +kernel
theorem dX3_sharing_19 : decode cX3_sharing 19 = .ok (.getfield 18, 3) := by decide +kernel
theorem dX3_sharing_22 : decode cX3_sharing 22 = .ok (.iload_n 1, 1) := by decide +kernel
theorem dX3_sharing_23 : decode cX3_sharing 23 = .ok (.laload, 1) := by decide +kernel
theorem dX3_sharing_24 : decode cX3_sharing 24 = .ok (.lcmp, 1) := by decide +kernel
theorem dX3_sharing_25 : decode cX3_sharing 25 = .ok (.ifCond .ne 6, 3) := by decide +kernel
theorem dX3_sharing_28 : decode cX3_sharing 28 = .ok (.iinc 2 1, 3) := by decide +kernel
theorem dX3_sharing_31 : decode cX3_sharing 31 = .ok (.iinc 3 1, 3) := by decide +kernel
theorem dX3_sharing_34 : decode cX3_sharing 34 = .ok (.goto (-30), 3) := by decide +kernel
theorem dX3_sharing_37 : decode cX3_sharing 37 = .ok (.iload_n 2, 1) := by decide +kernel
theorem dX3_sharing_38 : decode cX3_sharing 38 = .ok (.ireturn, 1) := by decide +kernel
set_option maxRecDepth 20000 in
theorem ggX3_isFree_X5_stem : GoodIn wsX3_isFree wsX5_stem := goodIn_r _ [9, 10, 11, 12, 13, 14, 8, 15, 16, 17, 18, 19, 20, 21, 22, 23, 24, 25, 26, 27, 28, 29, 30, 31, 32, 33, 34, 35, 36, 37, 38, 39, 40, 50, 51, 52, 53] (by decide +kernel) (by decide +kernel)
set_option maxRecDepth 20000 in
theorem gX3_isFree_X5_stem : GoodIn wsX3_isFree (wsV RX3 60 RX5 yX5_stem wsX5_stem) := goodIn_app (goodIn_of _ (by decide +kernel)) ggX3_isFree_X5_stem
theorem dX3_isFree_0 : decode cX3_isFree 0 = .ok (.aload_n 0, 1) := by decide +kernel
theorem dX3_isFree_1 : decode cX3_isFree 1 = .ok (.getfield 11, 3) := by decide +kernel
theorem dX3_isFree_4 : decode cX3_isFree 4 = .ok (.iload_n 1, 1) := by decide +kernel
theorem dX3_isFree_5 : decode cX3_isFree 5 = .ok (.aaload, 1) := by decide +kernel
theorem dX3_isFree_6 : decode cX3_isFree 6 = .ok (.aload_n 0, 1) := by decide +kernel
theorem dX3_isFree_7 : decode cX3_isFree 7 = .ok (.getfield 36, 3) := by decide +kernel
theorem dX3_isFree_10 : decode cX3_isFree 10 = .ok (.iload_n 2, 1) := by decide +kernel
theorem dX3_isFree_11 : decode cX3_isFree 11 = .ok (.invokevirtual 60, 3) := by decide +kernel
theorem dX3_isFree_14 : decode cX3_isFree 14 = .ok (.lstore_n 3, 1) := by decide +kernel
theorem dX3_isFree_15 : decode cX3_isFree 15 = .ok (.iconst 0, 1) := by decide +kernel
theorem dX3_isFree_16 : decode cX3_isFree 16 = .ok (.istore 5, 2) := by decide +kernel
theorem dX3_isFree_18 : decode cX3_isFree 18 = .ok (.iload 5, 2) := by decide +kernel
theorem dX3_isFree_20 : decode cX3_isFree 20 = .ok (.aload_n 0, 1) := by decide +kernel
theorem dX3_isFree_21 : decode cX3_isFree 21 = .ok (.getfield 32, 3) := by decide +kernel
theorem dX3_isFree_24 : decode cX3_isFree 24 = .ok (.if_icmp .ge 29, 3) := by decide +kernel
theorem dX3_isFree_27 : decode cX3_isFree 27 = .ok (.iload 5, 2) := by decide +kernel
theorem dX3_isFree_29 : decode cX3_isFree 29 = .ok (.iload_n 1, 1) := by decide +kernel
theorem dX3_isFree_30 : decode cX3_isFree 30 = .ok (.if_icmp .eq 17, 3) := by decide +kernel
theorem dX3_isFree_33 : decode cX3_isFree 33 = .ok (.aload_n 0, 1) := by decide +kernel
theorem dX3_isFree_34 : decode cX3_isFree 34 = .ok (.getfield 18, 3) := by decide +kernel
theorem dX3_isFree_37 : decode cX3_isFree 37 = .ok (.iload 5, 2) := by decide +kernel
theorem dX3_isFree_39 : decode cX3_isFree 39 = .ok (.laload, 1) := by decide +kernel
theorem dX3_isFree_40 : decode cX3_isFree 40 = .ok (.lload_n 3, 1) := by decide +kernel
theorem dX3_isFree_41 : decode cX3_isFree 41 = .ok (.lcmp, 1) := by decide +kernel
theorem dX3_isFree_42 : decode cX3_isFree 42 = .ok (.ifCond .ne 5, 3) := by decide +kernel
theorem dX3_isFree_45 : decode cX3_isFree 45 = .ok (.iconst 0, 1) := by decide +kernel
theorem dX3_isFree_46 : decode cX3_isFree 46 = .ok (.ireturn, 1) := by decide +kernel
theorem dX3_isFree_47 : decode cX3_isFree 47 = .ok (.iinc 5 1, 3) := by decide +kernel
theorem dX3_isFree_50 : decode cX3_isFree 50 = .ok (.goto (-32), 3) := by decide +kernel
theorem dX3_isFree_53 : decode cX3_isFree 53 = .ok (.iconst 1, 1) := by decide +kernel
theorem dX3_isFree_54 : decode cX3_isFree 54 = .ok (.ireturn, 1) := by decide +kernel
set_option maxRecDepth 20000 in
theorem ggX3_lettered_X1_letterOf : GoodIn wsX3_lettered wsX1_letterOf := goodIn_r _ [6] (by decide +kernel) (by decide +kernel)
set_option maxRecDepth 20000 in
theorem gX3_lettered_X1_letterOf : GoodIn wsX3_lettered (va_wsS RX3 91 yX1_letterOf wsX1_letterOf) := goodIn_app (goodIn_of _ (by decide +kernel)) ggX3_lettered_X1_letterOf
theorem dX3_lettered_0 : decode cX3_lettered 0 = .ok (.iconst 0, 1) := by decide +kernel
theorem dX3_lettered_1 : decode cX3_lettered 1 = .ok (.istore_n 1, 1) := by decide +kernel
theorem dX3_lettered_2 : decode cX3_lettered 2 = .ok (.iconst 0, 1) := by decide +kernel
theorem dX3_lettered_3 : decode cX3_lettered 3 = .ok (.istore_n 2, 1) := by decide +kernel
theorem dX3_lettered_4 : decode cX3_lettered 4 = .ok (.iload_n 2, 1) := by decide +kernel
theorem dX3_lettered_5 : decode cX3_lettered 5 = .ok (.aload_n 0, 1) := by decide +kernel
theorem dX3_lettered_6 : decode cX3_lettered 6 = .ok (.getfield 32, 3) := by decide +kernel
theorem dX3_lettered_9 : decode cX3_lettered 9 = .ok (.if_icmp .ge 24, 3) := by decide +kernel
theorem dX3_lettered_12 : decode cX3_lettered 12 = .ok (.aload_n 0, 1) := by decide +kernel
theorem dX3_lettered_13 : decode cX3_lettered 13 = .ok (.getfield 22, 3) := by decide +kernel
theorem dX3_lettered_16 : decode cX3_lettered 16 = .ok (.iload_n 2, 1) := by decide +kernel
theorem dX3_lettered_17 : decode cX3_lettered 17 = .ok (.laload, 1) := by decide +kernel
theorem dX3_lettered_18 : decode cX3_lettered 18 = .ok (.invokestatic 91, 3) := by decide +kernel
theorem dX3_lettered_21 : decode cX3_lettered 21 = .ok (.ifCond .le 6, 3) := by decide +kernel
theorem dX3_lettered_24 : decode cX3_lettered 24 = .ok (.iinc 1 1, 3) := by decide +kernel
theorem dX3_lettered_27 : decode cX3_lettered 27 = .ok (.iinc 2 1, 3) := by decide +kernel
theorem dX3_lettered_30 : decode cX3_lettered 30 = .ok (.goto (-26), 3) := by decide +kernel
theorem dX3_lettered_33 : decode cX3_lettered 33 = .ok (.iload_n 1, 1) := by decide +kernel
theorem dX3_lettered_34 : decode cX3_lettered 34 = .ok (.ireturn, 1) := by decide +kernel
set_option maxRecDepth 20000 in
theorem ggX3_differentStems_X1_letterOf : GoodIn wsX3_differentStems wsX1_letterOf := goodIn_r _ [6] (by decide +kernel) (by decide +kernel)
set_option maxRecDepth 20000 in
theorem gX3_differentStems_X1_letterOf : GoodIn wsX3_differentStems (va_wsS RX3 91 yX1_letterOf wsX1_letterOf) := goodIn_app (goodIn_of _ (by decide +kernel)) ggX3_differentStems_X1_letterOf
theorem dX3_differentStems_0 : decode cX3_differentStems 0 = .ok (.iconst 0, 1) := by decide +kernel
theorem dX3_differentStems_1 : decode cX3_differentStems 1 = .ok (.istore_n 1, 1) := by decide +kernel
theorem dX3_differentStems_2 : decode cX3_differentStems 2 = .ok (.iconst 0, 1) := by decide +kernel
theorem dX3_differentStems_3 : decode cX3_differentStems 3 = .ok (.istore_n 2, 1) := by decide +kernel
theorem dX3_differentStems_4 : decode cX3_differentStems 4 = .ok (.iload_n 2, 1) := by decide +kernel
theorem dX3_differentStems_5 : decode cX3_differentStems 5 = .ok (.aload_n 0, 1) := by decide +kernel
theorem dX3_differentStems_6 : decode cX3_differentStems 6 = .ok (.getfield 32, 3) := by decide +kernel
theorem dX3_differentStems_9 : decode cX3_differentStems 9 = .ok (.if_icmp .ge 25, 3) := by decide +kernel
theorem dX3_differentStems_12 : decode cX3_differentStems 12 = .ok (.aload_n 0, 1) := by decide +kernel
theorem dX3_differentStems_13 : decode cX3_differentStems 13 = .ok (.getfield 22, 3) := by decide +kernel
theorem dX3_differentStems_16 : decode cX3_differentStems 16 = .ok (.iload_n 2, 1) := by decide +kernel
theorem dX3_differentStems_17 : decode cX3_differentStems 17 = .ok (.laload, 1) := by decide +kernel
theorem dX3_differentStems_18 : decode cX3_differentStems 18 = .ok (.invokestatic 91, 3) := by decide +kernel
theorem dX3_differentStems_21 : decode cX3_differentStems 21 = .ok (.iconst 1, 1) := by decide +kernel
theorem dX3_differentStems_22 : decode cX3_differentStems 22 = .ok (.if_icmp .gt 6, 3) := by decide +kernel
theorem dX3_differentStems_25 : decode cX3_differentStems 25 = .ok (.iinc 1 1, 3) := by decide +kernel
theorem dX3_differentStems_28 : decode cX3_differentStems 28 = .ok (.iinc 2 1, 3) := by decide +kernel
theorem dX3_differentStems_31 : decode cX3_differentStems 31 = .ok (.goto (-27), 3) := by decide +kernel
theorem dX3_differentStems_34 : decode cX3_differentStems 34 = .ok (.iload_n 1, 1) := by decide +kernel
theorem dX3_differentStems_35 : decode cX3_differentStems 35 = .ok (.ireturn, 1) := by decide +kernel
set_option maxRecDepth 20000 in
theorem ggX3_longestKey_X1_length : GoodIn wsX3_longestKey wsX1_length := goodIn_r _ [10, 11, 12, 9, 13, 14, 15, 16, 17, 18, 19, 20, 21, 22, 23, 24, 25, 26] (by decide +kernel) (by decide +kernel)
set_option maxRecDepth 20000 in
theorem gX3_longestKey_X1_length : GoodIn wsX3_longestKey (va_wsS RX3 97 yX1_length wsX1_length) := goodIn_app (goodIn_of _ (by decide +kernel)) ggX3_longestKey_X1_length
theorem dX3_longestKey_0 : decode cX3_longestKey 0 = .ok (.iconst 0, 1) := by decide +kernel
theorem dX3_longestKey_1 : decode cX3_longestKey 1 = .ok (.istore_n 1, 1) := by decide +kernel
theorem dX3_longestKey_2 : decode cX3_longestKey 2 = .ok (.iconst 0, 1) := by decide +kernel
theorem dX3_longestKey_3 : decode cX3_longestKey 3 = .ok (.istore_n 2, 1) := by decide +kernel
theorem dX3_longestKey_4 : decode cX3_longestKey 4 = .ok (.iload_n 2, 1) := by decide +kernel
theorem dX3_longestKey_5 : decode cX3_longestKey 5 = .ok (.aload_n 0, 1) := by decide +kernel
theorem dX3_longestKey_6 : decode cX3_longestKey 6 = .ok (.getfield 32, 3) := by decide +kernel
theorem dX3_longestKey_9 : decode cX3_longestKey 9 = .ok (.if_icmp .ge 23, 3) := by decide +kernel
theorem dX3_longestKey_12 : decode cX3_longestKey 12 = .ok (.iload_n 1, 1) := by decide +kernel
theorem dX3_longestKey_13 : decode cX3_longestKey 13 = .ok (.aload_n 0, 1) := by decide +kernel
theorem dX3_longestKey_14 : decode cX3_longestKey 14 = .ok (.getfield 22, 3) := by decide +kernel
theorem dX3_longestKey_17 : decode cX3_longestKey 17 = .ok (.iload_n 2, 1) := by decide +kernel
theorem dX3_longestKey_18 : decode cX3_longestKey 18 = .ok (.laload, 1) := by decide +kernel
theorem dX3_longestKey_19 : decode cX3_longestKey 19 = .ok (.invokestatic 97, 3) := by decide +kernel
theorem dX3_longestKey_22 : decode cX3_longestKey 22 = .ok (.invokestatic 100, 3) := by decide +kernel
theorem dX3_longestKey_25 : decode cX3_longestKey 25 = .ok (.istore_n 1, 1) := by decide +kernel
theorem dX3_longestKey_26 : decode cX3_longestKey 26 = .ok (.iinc 2 1, 3) := by decide +kernel
theorem dX3_longestKey_29 : decode cX3_longestKey 29 = .ok (.goto (-25), 3) := by decide +kernel
theorem dX3_longestKey_32 : decode cX3_longestKey 32 = .ok (.iload_n 1, 1) := by decide +kernel
theorem dX3_longestKey_33 : decode cX3_longestKey 33 = .ok (.ireturn, 1) := by decide +kernel
theorem dX3_printKeys_0 : decode cX3_printKeys 0 = .ok (.iconst 0, 1) := by decide +kernel
theorem dX3_printKeys_1 : decode cX3_printKeys 1 = .ok (.istore_n 1, 1) := by decide +kernel
theorem dX3_printKeys_2 : decode cX3_printKeys 2 = .ok (.iload_n 1, 1) := by decide +kernel
theorem dX3_printKeys_3 : decode cX3_printKeys 3 = .ok (.aload_n 0, 1) := by decide +kernel
theorem dX3_printKeys_4 : decode cX3_printKeys 4 = .ok (.getfield 32, 3) := by decide +kernel
theorem dX3_printKeys_7 : decode cX3_printKeys 7 = .ok (.if_icmp .ge 28, 3) := by decide +kernel
theorem dX3_printKeys_10 : decode cX3_printKeys 10 = .ok (.aload_n 0, 1) := by decide +kernel
theorem dX3_printKeys_11 : decode cX3_printKeys 11 = .ok (.getfield 25, 3) := by decide +kernel
theorem dX3_printKeys_14 : decode cX3_printKeys 14 = .ok (.iload_n 1, 1) := by decide +kernel
theorem dX3_printKeys_15 : decode cX3_printKeys 15 = .ok (.aload_n 0, 1) := by decide +kernel
theorem dX3_printKeys_16 : decode cX3_printKeys 16 = .ok (.getfield 22, 3) := by decide +kernel
theorem dX3_printKeys_19 : decode cX3_printKeys 19 = .ok (.iload_n 1, 1) := by decide +kernel
theorem dX3_printKeys_20 : decode cX3_printKeys 20 = .ok (.laload, 1) := by decide +kernel
theorem dX3_printKeys_21 : decode cX3_printKeys 21 = .ok (.lastore, 1) := by decide +kernel
theorem dX3_printKeys_22 : decode cX3_printKeys 22 = .ok (.aload_n 0, 1) := by decide +kernel
theorem dX3_printKeys_23 : decode cX3_printKeys 23 = .ok (.getfield 28, 3) := by decide +kernel
theorem dX3_printKeys_26 : decode cX3_printKeys 26 = .ok (.iload_n 1, 1) := by decide +kernel
theorem dX3_printKeys_27 : decode cX3_printKeys 27 = .ok (.iload_n 1, 1) := by decide +kernel
theorem dX3_printKeys_28 : decode cX3_printKeys 28 = .ok (.iastore, 1) := by decide +kernel
theorem dX3_printKeys_29 : decode cX3_printKeys 29 = .ok (.iinc 1 1, 3) := by decide +kernel
theorem dX3_printKeys_32 : decode cX3_printKeys 32 = .ok (.goto (-30), 3) := by decide +kernel
theorem dX3_printKeys_35 : decode cX3_printKeys 35 = .ok (.aload_n 0, 1) := by decide +kernel
theorem dX3_printKeys_36 : decode cX3_printKeys 36 = .ok (.aload_n 0, 1) := by decide +kernel
theorem dX3_printKeys_37 : decode cX3_printKeys 37 = .ok (.getfield 32, 3) := by decide +kernel
theorem dX3_printKeys_40 : decode cX3_printKeys 40 = .ok (.putfield 42, 3) := by decide +kernel
theorem dX3_printKeys_43 : decode cX3_printKeys 43 = .ok (.return_, 1) := by decide +kernel
theorem dX3_holderOf_0 : decode cX3_holderOf 0 = .ok (.iconst 0, 1) := by decide +kernel
theorem dX3_holderOf_1 : decode cX3_holderOf 1 = .ok (.istore_n 3, 1) := by decide +kernel
theorem dX3_holderOf_2 : decode cX3_holderOf 2 = .ok (.iload_n 3, 1) := by decide +kernel
theorem dX3_holderOf_3 : decode cX3_holderOf 3 = .ok (.aload_n 0, 1) := by decide +kernel
theorem dX3_holderOf_4 : decode cX3_holderOf 4 = .ok (.getfield 32, 3) := by decide +kernel
theorem dX3_holderOf_7 : decode cX3_holderOf 7 = .ok (.if_icmp .ge 22, 3) := by decide +kernel
theorem dX3_holderOf_10 : decode cX3_holderOf 10 = .ok (.aload_n 0, 1) := by decide +kernel
theorem dX3_holderOf_11 : decode cX3_holderOf 11 = .ok (.getfield 22, 3) := by decide +kernel
theorem dX3_holderOf_14 : decode cX3_holderOf 14 = .ok (.iload_n 3, 1) := by decide +kernel
theorem dX3_holderOf_15 : decode cX3_holderOf 15 = .ok (.laload, 1) := by decide +kernel
theorem dX3_holderOf_16 : decode cX3_holderOf 16 = .ok (.lload_n 1, 1) := by decide +kernel
theorem dX3_holderOf_17 : decode cX3_holderOf 17 = .ok (.lcmp, 1) := by decide +kernel
theorem dX3_holderOf_18 : decode cX3_holderOf 18 = .ok (.ifCond .ne 5, 3) := by decide +kernel
theorem dX3_holderOf_21 : decode cX3_holderOf 21 = .ok (.iload_n 3, 1) := by decide +kernel
theorem dX3_holderOf_22 : decode cX3_holderOf 22 = .ok (.ireturn, 1) := by decide +kernel
theorem dX3_holderOf_23 : decode cX3_holderOf 23 = .ok (.iinc 3 1, 3) := by decide +kernel
theorem dX3_holderOf_26 : decode cX3_holderOf 26 = .ok (.goto (-24), 3) := by decide +kernel
theorem dX3_holderOf_29 : decode cX3_holderOf 29 = .ok (.bipush (-9), 2) := by decide +kernel
theorem dX3_holderOf_31 : decode cX3_holderOf 31 = .ok (.ireturn, 1) := by decide +kernel
theorem dX3_printedOfNone_0 : decode cX3_printedOfNone 0 = .ok (.iconst 0, 1) := by decide +kernel
theorem dX3_printedOfNone_1 : decode cX3_printedOfNone 1 = .ok (.istore_n 1, 1) := by decide +kernel
theorem dX3_printedOfNone_2 : decode cX3_printedOfNone 2 = .ok (.iconst 0, 1) := by decide +kernel
theorem dX3_printedOfNone_3 : decode cX3_printedOfNone 3 = .ok (.istore_n 2, 1) := by decide +kernel
theorem dX3_printedOfNone_4 : decode cX3_printedOfNone 4 = .ok (.iload_n 2, 1) := by decide +kernel
theorem dX3_printedOfNone_5 : decode cX3_printedOfNone 5 = .ok (.aload_n 0, 1) := by decide +kernel
theorem dX3_printedOfNone_6 : decode cX3_printedOfNone 6 = .ok (.getfield 42, 3) := by decide +kernel
theorem dX3_printedOfNone_9 : decode cX3_printedOfNone 9 = .ok (.if_icmp .ge 23, 3) := by decide +kernel
theorem dX3_printedOfNone_12 : decode cX3_printedOfNone 12 = .ok (.aload_n 0, 1) := by decide +kernel
theorem dX3_printedOfNone_13 : decode cX3_printedOfNone 13 = .ok (.getfield 28, 3) := by decide +kernel
theorem dX3_printedOfNone_16 : decode cX3_printedOfNone 16 = .ok (.iload_n 2, 1) := by decide +kernel
theorem dX3_printedOfNone_17 : decode cX3_printedOfNone 17 = .ok (.iaload, 1) := by decide +kernel
theorem dX3_printedOfNone_18 : decode cX3_printedOfNone 18 = .ok (.bipush (-2), 2) := by decide +kernel
theorem dX3_printedOfNone_20 : decode cX3_printedOfNone 20 = .ok (.if_icmp .ne 6, 3) := by decide +kernel
theorem dX3_printedOfNone_23 : decode cX3_printedOfNone 23 = .ok (.iinc 1 1, 3) := by decide +kernel
theorem dX3_printedOfNone_26 : decode cX3_printedOfNone 26 = .ok (.iinc 2 1, 3) := by decide +kernel
theorem dX3_printedOfNone_29 : decode cX3_printedOfNone 29 = .ok (.goto (-25), 3) := by decide +kernel
theorem dX3_printedOfNone_32 : decode cX3_printedOfNone 32 = .ok (.iload_n 1, 1) := by decide +kernel
theorem dX3_printedOfNone_33 : decode cX3_printedOfNone 33 = .ok (.ireturn, 1) := by decide +kernel
set_option maxRecDepth 20000 in
theorem ggX3_printedStillRight_X3_holderOf : GoodIn wsX3_printedStillRight wsX3_holderOf := goodIn_r _ [8, 9, 10, 11, 12, 13, 14, 15, 16, 17, 18, 19] (by decide +kernel) (by decide +kernel)
set_option maxRecDepth 20000 in
theorem gX3_printedStillRight_X3_holderOf : GoodIn wsX3_printedStillRight (wsV RX3 105 RX3 yX3_holderOf wsX3_holderOf) := goodIn_app (goodIn_of _ (by decide +kernel)) ggX3_printedStillRight_X3_holderOf
theorem dX3_printedStillRight_0 : decode cX3_printedStillRight 0 = .ok (.iconst 0, 1) := by decide +kernel
theorem dX3_printedStillRight_1 : decode cX3_printedStillRight 1 = .ok (.istore_n 1, 1) := by decide +kernel
theorem dX3_printedStillRight_2 : decode cX3_printedStillRight 2 = .ok (.iconst 0, 1) := by decide +kernel
theorem dX3_printedStillRight_3 : decode cX3_printedStillRight 3 = .ok (.istore_n 2, 1) := by decide +kernel
theorem dX3_printedStillRight_4 : decode cX3_printedStillRight 4 = .ok (.iload_n 2, 1) := by decide +kernel
theorem dX3_printedStillRight_5 : decode cX3_printedStillRight 5 = .ok (.aload_n 0, 1) := by decide +kernel
theorem dX3_printedStillRight_6 : decode cX3_printedStillRight 6 = .ok (.getfield 42, 3) := by decide +kernel
theorem dX3_printedStillRight_9 : decode cX3_printedStillRight 9 = .ok (.if_icmp .ge 31, 3) := by decide +kernel
theorem dX3_printedStillRight_12 : decode cX3_printedStillRight 12 = .ok (.aload_n 0, 1) := by decide +kernel
theorem dX3_printedStillRight_13 : decode cX3_printedStillRight 13 = .ok (.aload_n 0, 1) := by decide +kernel
theorem dX3_printedStillRight_14 : decode cX3_printedStillRight 14 = .ok (.getfield 25, 3) := by decide +kernel
theorem dX3_printedStillRight_17 : decode cX3_printedStillRight 17 = .ok (.iload_n 2, 1) := by decide +kernel
theorem dX3_printedStillRight_18 : decode cX3_printedStillRight 18 = .ok (.laload, 1) := by decide +kernel
theorem dX3_printedStillRight_19 : decode cX3_printedStillRight 19 = .ok (.invokevirtual 105, 3) := by decide +kernel
theorem dX3_printedStillRight_22 : decode cX3_printedStillRight 22 = .ok (.aload_n 0, 1) := by decide +kernel
theorem dX3_printedStillRight_23 : decode cX3_printedStillRight 23 = .ok (.getfield 28, 3) := by decide +kernel
theorem dX3_printedStillRight_26 : decode cX3_printedStillRight 26 = .ok (.iload_n 2, 1) := by decide +kernel
theorem dX3_printedStillRight_27 : decode cX3_printedStillRight 27 = .ok (.iaload, 1) := by decide +kernel
theorem dX3_printedStillRight_28 : decode cX3_printedStillRight 28 = .ok (.if_icmp .ne 6, 3) := by decide +kernel
theorem dX3_printedStillRight_31 : decode cX3_printedStillRight 31 = .ok (.iinc 1 1, 3) := by decide +kernel
theorem dX3_printedStillRight_34 : decode cX3_printedStillRight 34 = .ok (.iinc 2 1, 3) := by decide +kernel
theorem dX3_printedStillRight_37 : decode cX3_printedStillRight 37 = .ok (.goto (-33), 3) := by decide +kernel
theorem dX3_printedStillRight_40 : decode cX3_printedStillRight 40 = .ok (.iload_n 1, 1) := by decide +kernel
theorem dX3_printedStillRight_41 : decode cX3_printedStillRight 41 = .ok (.ireturn, 1) := by decide +kernel
set_option maxRecDepth 20000 in
theorem ggX3_printedWithoutMeaning_X3_holderOf : GoodIn wsX3_printedWithoutMeaning wsX3_holderOf := goodIn_r _ [7, 8, 9, 10, 11, 12, 13, 14, 15, 16, 17, 18] (by decide +kernel) (by decide +kernel)
set_option maxRecDepth 20000 in
theorem gX3_printedWithoutMeaning_X3_holderOf : GoodIn wsX3_printedWithoutMeaning (wsV RX3 105 RX3 yX3_holderOf wsX3_holderOf) := goodIn_app (goodIn_of _ (by decide +kernel)) ggX3_printedWithoutMeaning_X3_holderOf
theorem dX3_printedWithoutMeaning_0 : decode cX3_printedWithoutMeaning 0 = .ok (.iconst 0, 1) := by decide +kernel
theorem dX3_printedWithoutMeaning_1 : decode cX3_printedWithoutMeaning 1 = .ok (.istore_n 1, 1) := by decide +kernel
theorem dX3_printedWithoutMeaning_2 : decode cX3_printedWithoutMeaning 2 = .ok (.iconst 0, 1) := by decide +kernel
theorem dX3_printedWithoutMeaning_3 : decode cX3_printedWithoutMeaning 3 = .ok (.istore_n 2, 1) := by decide +kernel
theorem dX3_printedWithoutMeaning_4 : decode cX3_printedWithoutMeaning 4 = .ok (.iload_n 2, 1) := by decide +kernel
theorem dX3_printedWithoutMeaning_5 : decode cX3_printedWithoutMeaning 5 = .ok (.aload_n 0, 1) := by decide +kernel
theorem dX3_printedWithoutMeaning_6 : decode cX3_printedWithoutMeaning 6 = .ok (.getfield 42, 3) := by decide +kernel
theorem dX3_printedWithoutMeaning_9 : decode cX3_printedWithoutMeaning 9 = .ok (.if_icmp .ge 27, 3) := by decide +kernel
theorem dX3_printedWithoutMeaning_12 : decode cX3_printedWithoutMeaning 12 = .ok (.aload_n 0, 1) := by decide +kernel
theorem dX3_printedWithoutMeaning_13 : decode cX3_printedWithoutMeaning 13 = .ok (.aload_n 0, 1) := by decide +kernel
theorem dX3_printedWithoutMeaning_14 : decode cX3_printedWithoutMeaning 14 = .ok (.getfield 25, 3) := by decide +kernel
theorem dX3_printedWithoutMeaning_17 : decode cX3_printedWithoutMeaning 17 = .ok (.iload_n 2, 1) := by decide +kernel
theorem dX3_printedWithoutMeaning_18 : decode cX3_printedWithoutMeaning 18 = .ok (.laload, 1) := by decide +kernel
theorem dX3_printedWithoutMeaning_19 : decode cX3_printedWithoutMeaning 19 = .ok (.invokevirtual 105, 3) := by decide +kernel
theorem dX3_printedWithoutMeaning_22 : decode cX3_printedWithoutMeaning 22 = .ok (.bipush (-9), 2) := by decide +kernel
theorem dX3_printedWithoutMeaning_24 : decode cX3_printedWithoutMeaning 24 = .ok (.if_icmp .ne 6, 3) := by decide +kernel
theorem dX3_printedWithoutMeaning_27 : decode cX3_printedWithoutMeaning 27 = .ok (.iinc 1 1, 3) := by decide +kernel
theorem dX3_printedWithoutMeaning_30 : decode cX3_printedWithoutMeaning 30 = .ok (.iinc 2 1, 3) := by decide +kernel
theorem dX3_printedWithoutMeaning_33 : decode cX3_printedWithoutMeaning 33 = .ok (.goto (-29), 3) := by decide +kernel
theorem dX3_printedWithoutMeaning_36 : decode cX3_printedWithoutMeaning 36 = .ok (.iload_n 1, 1) := by decide +kernel
theorem dX3_printedWithoutMeaning_37 : decode cX3_printedWithoutMeaning 37 = .ok (.ireturn, 1) := by decide +kernel
