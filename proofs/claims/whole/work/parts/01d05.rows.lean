theorem dX7_at_16 : decode cX7_at 16 = .ok (.iconst 0, 1) := by decide +kernel
theorem dX7_at_17 : decode cX7_at 17 = .ok (.ireturn, 1) := by decide +kernel
theorem dX7_at_18 : decode cX7_at 18 = .ok (.aload_n 0, 1) := by decide +kernel
theorem dX7_at_19 : decode cX7_at 19 = .ok (.invokevirtual 105, 3) := by decide +kernel
theorem dX7_at_22 : decode cX7_at 22 = .ok (.iconst 0, 1) := by decide +kernel
theorem dX7_at_23 : decode cX7_at 23 = .ok (.istore_n 2, 1) := by decide +kernel
theorem dX7_at_24 : decode cX7_at 24 = .ok (.iload_n 2, 1) := by decide +kernel
theorem dX7_at_25 : decode cX7_at 25 = .ok (.aload_n 0, 1) := by decide +kernel
theorem dX7_at_26 : decode cX7_at 26 = .ok (.getfield 16, 3) := by decide +kernel
theorem dX7_at_29 : decode cX7_at 29 = .ok (.iconst 0, 1) := by decide +kernel
theorem dX7_at_30 : decode cX7_at 30 = .ok (.iaload, 1) := by decide +kernel
theorem dX7_at_31 : decode cX7_at 31 = .ok (.if_icmp .ge 21, 3) := by decide +kernel
theorem dX7_at_34 : decode cX7_at 34 = .ok (.aload_n 0, 1) := by decide +kernel
theorem dX7_at_35 : decode cX7_at 35 = .ok (.getfield 41, 3) := by decide +kernel
theorem dX7_at_38 : decode cX7_at 38 = .ok (.iload_n 2, 1) := by decide +kernel
theorem dX7_at_39 : decode cX7_at 39 = .ok (.iaload, 1) := by decide +kernel
theorem dX7_at_40 : decode cX7_at 40 = .ok (.iload_n 1, 1) := by decide +kernel
theorem dX7_at_41 : decode cX7_at 41 = .ok (.if_icmp .ne 5, 3) := by decide +kernel
theorem dX7_at_44 : decode cX7_at 44 = .ok (.iload_n 2, 1) := by decide +kernel
theorem dX7_at_45 : decode cX7_at 45 = .ok (.ireturn, 1) := by decide +kernel
theorem dX7_at_46 : decode cX7_at 46 = .ok (.iinc 2 1, 3) := by decide +kernel
theorem dX7_at_49 : decode cX7_at 49 = .ok (.goto (-25), 3) := by decide +kernel
theorem dX7_at_52 : decode cX7_at 52 = .ok (.bipush (-9), 2) := by decide +kernel
theorem dX7_at_54 : decode cX7_at 54 = .ok (.ireturn, 1) := by decide +kernel
theorem dX7_isText_0 : decode cX7_isText 0 = .ok (.aload_n 1, 1) := by decide +kernel
theorem dX7_isText_1 : decode cX7_isText 1 = .ok (.iload_n 2, 1) := by decide +kernel
theorem dX7_isText_2 : decode cX7_isText 2 = .ok (.iaload, 1) := by decide +kernel
theorem dX7_isText_3 : decode cX7_isText 3 = .ok (.aload_n 0, 1) := by decide +kernel
theorem dX7_isText_4 : decode cX7_isText 4 = .ok (.getfield 122, 3) := by decide +kernel
theorem dX7_isText_7 : decode cX7_isText 7 = .ok (.if_icmp .ne 7, 3) := by decide +kernel
theorem dX7_isText_10 : decode cX7_isText 10 = .ok (.iconst 1, 1) := by decide +kernel
theorem dX7_isText_11 : decode cX7_isText 11 = .ok (.goto 4, 3) := by decide +kernel
theorem dX7_isText_14 : decode cX7_isText 14 = .ok (.iconst 0, 1) := by decide +kernel
theorem dX7_isText_15 : decode cX7_isText 15 = .ok (.istore_n 3, 1) := by decide +kernel
theorem dX7_isText_16 : decode cX7_isText 16 = .ok (.iconst 0, 1) := by decide +kernel
theorem dX7_isText_17 : decode cX7_isText 17 = .ok (.istore 4, 2) := by decide +kernel
theorem dX7_isText_19 : decode cX7_isText 19 = .ok (.iload 4, 2) := by decide +kernel
theorem dX7_isText_21 : decode cX7_isText 21 = .ok (.aload_n 0, 1) := by decide +kernel
theorem dX7_isText_22 : decode cX7_isText 22 = .ok (.getfield 122, 3) := by decide +kernel
theorem dX7_isText_25 : decode cX7_isText 25 = .ok (.if_icmp .ge 37, 3) := by decide +kernel
theorem dX7_isText_28 : decode cX7_isText 28 = .ok (.iload_n 3, 1) := by decide +kernel
theorem dX7_isText_29 : decode cX7_isText 29 = .ok (.ifCond .eq 33, 3) := by decide +kernel
theorem dX7_isText_32 : decode cX7_isText 32 = .ok (.aload_n 1, 1) := by decide +kernel
theorem dX7_isText_33 : decode cX7_isText 33 = .ok (.iload_n 2, 1) := by decide +kernel
theorem dX7_isText_34 : decode cX7_isText 34 = .ok (.iconst 1, 1) := by decide +kernel
theorem dX7_isText_35 : decode cX7_isText 35 = .ok (.iadd, 1) := by decide +kernel
theorem dX7_isText_36 : decode cX7_isText 36 = .ok (.iload 4, 2) := by decide +kernel
theorem dX7_isText_38 : decode cX7_isText 38 = .ok (.iadd, 1) := by decide +kernel
theorem dX7_isText_39 : decode cX7_isText 39 = .ok (.iaload, 1) := by decide +kernel
theorem dX7_isText_40 : decode cX7_isText 40 = .ok (.aload_n 0, 1) := by decide +kernel
theorem dX7_isText_41 : decode cX7_isText 41 = .ok (.getfield 7, 3) := by decide +kernel
theorem dX7_isText_44 : decode cX7_isText 44 = .ok (.iload 4, 2) := by decide +kernel
theorem dX7_isText_46 : decode cX7_isText 46 = .ok (.iaload, 1) := by decide +kernel
theorem dX7_isText_47 : decode cX7_isText 47 = .ok (.if_icmp .ne 7, 3) := by decide +kernel
theorem dX7_isText_50 : decode cX7_isText 50 = .ok (.iconst 1, 1) := by decide +kernel
theorem dX7_isText_51 : decode cX7_isText 51 = .ok (.goto 4, 3) := by decide +kernel
theorem dX7_isText_54 : decode cX7_isText 54 = .ok (.iconst 0, 1) := by decide +kernel
theorem dX7_isText_55 : decode cX7_isText 55 = .ok (.istore_n 3, 1) := by decide +kernel
theorem dX7_isText_56 : decode cX7_isText 56 = .ok (.iinc 4 1, 3) := by decide +kernel
theorem dX7_isText_59 : decode cX7_isText 59 = .ok (.goto (-40), 3) := by decide +kernel
theorem dX7_isText_62 : decode cX7_isText 62 = .ok (.iload_n 3, 1) := by decide +kernel
theorem dX7_isText_63 : decode cX7_isText 63 = .ok (.ireturn, 1) := by decide +kernel
set_option maxRecDepth 20000 in
theorem ggX7_meaning_X7_layNow : GoodIn wsX7_meaning wsX7_layNow := goodIn_r _ [8, 2, 9, 10, 11, 7, 12, 13, 3, 14, 15, 16, 17, 18, 19, 20, 21, 22, 23, 24, 25, 26, 27, 28, 29, 30, 31, 32, 33, 34, 35, 36, 37, 38, 39, 40, 41, 42, 43, 44, 45, 46, 47, 48, 49, 50, 51, 52, 53, 60, 61, 62, 63, 64, 65, 66, 67, 68, 69, 70, 71, 72, 73, 74, 75, 76, 77] (by decide +kernel) (by decide +kernel)
set_option maxRecDepth 20000 in
theorem gX7_meaning_X7_layNow : GoodIn wsX7_meaning (wsV RX7 105 RX7 yX7_layNow wsX7_layNow) := goodIn_app (goodIn_of _ (by decide +kernel)) ggX7_meaning_X7_layNow
set_option maxRecDepth 20000 in
theorem ggX7_meaning_X7_isText : GoodIn wsX7_meaning wsX7_isText := goodIn_r _ [57, 58, 59, 60, 61, 62, 63, 64, 65, 66, 67, 68, 69, 70, 71, 72, 73, 74, 75, 76, 77] (by decide +kernel) (by decide +kernel)
set_option maxRecDepth 20000 in
theorem gX7_meaning_X7_isText : GoodIn wsX7_meaning (wsV RX7 188 RX7 yX7_isText wsX7_isText) := goodIn_app (goodIn_of _ (by decide +kernel)) ggX7_meaning_X7_isText
theorem dX7_meaning_0 : decode cX7_meaning 0 = .ok (.aload_n 0, 1) := by decide +kernel
theorem dX7_meaning_1 : decode cX7_meaning 1 = .ok (.iconst 0, 1) := by decide +kernel
theorem dX7_meaning_2 : decode cX7_meaning 2 = .ok (.putfield 54, 3) := by decide +kernel
theorem dX7_meaning_5 : decode cX7_meaning 5 = .ok (.aload_n 0, 1) := by decide +kernel
theorem dX7_meaning_6 : decode cX7_meaning 6 = .ok (.invokevirtual 105, 3) := by decide +kernel
theorem dX7_meaning_9 : decode cX7_meaning 9 = .ok (.iconst 0, 1) := by decide +kernel
theorem dX7_meaning_10 : decode cX7_meaning 10 = .ok (.istore_n 1, 1) := by decide +kernel
theorem dX7_meaning_11 : decode cX7_meaning 11 = .ok (.iload_n 1, 1) := by decide +kernel
theorem dX7_meaning_12 : decode cX7_meaning 12 = .ok (.aload_n 0, 1) := by decide +kernel
theorem dX7_meaning_13 : decode cX7_meaning 13 = .ok (.getfield 16, 3) := by decide +kernel
theorem dX7_meaning_16 : decode cX7_meaning 16 = .ok (.iconst 0, 1) := by decide +kernel
theorem dX7_meaning_17 : decode cX7_meaning 17 = .ok (.iaload, 1) := by decide +kernel
theorem dX7_meaning_18 : decode cX7_meaning 18 = .ok (.if_icmp .ge 26, 3) := by decide +kernel
theorem dX7_meaning_21 : decode cX7_meaning 21 = .ok (.aload_n 0, 1) := by decide +kernel
theorem dX7_meaning_22 : decode cX7_meaning 22 = .ok (.aload_n 0, 1) := by decide +kernel
theorem dX7_meaning_23 : decode cX7_meaning 23 = .ok (.getfield 32, 3) := by decide +kernel
theorem dX7_meaning_26 : decode cX7_meaning 26 = .ok (.bipush 14, 2) := by decide +kernel
theorem dX7_meaning_28 : decode cX7_meaning 28 = .ok (.iload_n 1, 1) := by decide +kernel
theorem dX7_meaning_29 : decode cX7_meaning 29 = .ok (.imul, 1) := by decide +kernel
theorem dX7_meaning_30 : decode cX7_meaning 30 = .ok (.invokevirtual 188, 3) := by decide +kernel
theorem dX7_meaning_33 : decode cX7_meaning 33 = .ok (.ifCond .eq 5, 3) := by decide +kernel
theorem dX7_meaning_36 : decode cX7_meaning 36 = .ok (.iload_n 1, 1) := by decide +kernel
theorem dX7_meaning_37 : decode cX7_meaning 37 = .ok (.ireturn, 1) := by decide +kernel
theorem dX7_meaning_38 : decode cX7_meaning 38 = .ok (.iinc 1 1, 3) := by decide +kernel
theorem dX7_meaning_41 : decode cX7_meaning 41 = .ok (.goto (-30), 3) := by decide +kernel
theorem dX7_meaning_44 : decode cX7_meaning 44 = .ok (.bipush (-9), 2) := by decide +kernel
theorem dX7_meaning_46 : decode cX7_meaning 46 = .ok (.ireturn, 1) := by decide +kernel
set_option maxRecDepth 20000 in
theorem ggX7_printedMeaning_X7_isText : GoodIn wsX7_printedMeaning wsX7_isText := goodIn_r _ [7, 8, 9, 10, 11, 12, 13, 14, 15, 16, 17, 18, 19, 20, 21, 22, 23, 24, 25, 26, 27] (by decide +kernel) (by decide +kernel)
set_option maxRecDepth 20000 in
theorem gX7_printedMeaning_X7_isText : GoodIn wsX7_printedMeaning (wsV RX7 188 RX7 yX7_isText wsX7_isText) := goodIn_app (goodIn_of _ (by decide +kernel)) ggX7_printedMeaning_X7_isText
theorem dX7_printedMeaning_0 : decode cX7_printedMeaning 0 = .ok (.aload_n 0, 1) := by decide +kernel
theorem dX7_printedMeaning_1 : decode cX7_printedMeaning 1 = .ok (.iconst 0, 1) := by decide +kernel
theorem dX7_printedMeaning_2 : decode cX7_printedMeaning 2 = .ok (.putfield 54, 3) := by decide +kernel
theorem dX7_printedMeaning_5 : decode cX7_printedMeaning 5 = .ok (.iconst 0, 1) := by decide +kernel
theorem dX7_printedMeaning_6 : decode cX7_printedMeaning 6 = .ok (.istore_n 1, 1) := by decide +kernel
theorem dX7_printedMeaning_7 : decode cX7_printedMeaning 7 = .ok (.iload_n 1, 1) := by decide +kernel
theorem dX7_printedMeaning_8 : decode cX7_printedMeaning 8 = .ok (.aload_n 0, 1) := by decide +kernel
theorem dX7_printedMeaning_9 : decode cX7_printedMeaning 9 = .ok (.getfield 16, 3) := by decide +kernel
theorem dX7_printedMeaning_12 : decode cX7_printedMeaning 12 = .ok (.iconst 3, 1) := by decide +kernel
theorem dX7_printedMeaning_13 : decode cX7_printedMeaning 13 = .ok (.iaload, 1) := by decide +kernel
theorem dX7_printedMeaning_14 : decode cX7_printedMeaning 14 = .ok (.if_icmp .ge 45, 3) := by decide +kernel
theorem dX7_printedMeaning_17 : decode cX7_printedMeaning 17 = .ok (.aload_n 0, 1) := by decide +kernel
theorem dX7_printedMeaning_18 : decode cX7_printedMeaning 18 = .ok (.aload_n 0, 1) := by decide +kernel
theorem dX7_printedMeaning_19 : decode cX7_printedMeaning 19 = .ok (.getfield 16, 3) := by decide +kernel
theorem dX7_printedMeaning_22 : decode cX7_printedMeaning 22 = .ok (.sipush 756, 3) := by decide +kernel
theorem dX7_printedMeaning_25 : decode cX7_printedMeaning 25 = .ok (.bipush 14, 2) := by decide +kernel
theorem dX7_printedMeaning_27 : decode cX7_printedMeaning 27 = .ok (.iload_n 1, 1) := by decide +kernel
theorem dX7_printedMeaning_28 : decode cX7_printedMeaning 28 = .ok (.imul, 1) := by decide +kernel
theorem dX7_printedMeaning_29 : decode cX7_printedMeaning 29 = .ok (.iadd, 1) := by decide +kernel
theorem dX7_printedMeaning_30 : decode cX7_printedMeaning 30 = .ok (.invokevirtual 188, 3) := by decide +kernel
theorem dX7_printedMeaning_33 : decode cX7_printedMeaning 33 = .ok (.ifCond .eq 20, 3) := by decide +kernel
theorem dX7_printedMeaning_36 : decode cX7_printedMeaning 36 = .ok (.aload_n 0, 1) := by decide +kernel
theorem dX7_printedMeaning_37 : decode cX7_printedMeaning 37 = .ok (.getfield 16, 3) := by decide +kernel
theorem dX7_printedMeaning_40 : decode cX7_printedMeaning 40 = .ok (.sipush 756, 3) := by decide +kernel
theorem dX7_printedMeaning_43 : decode cX7_printedMeaning 43 = .ok (.bipush 14, 2) := by decide +kernel
theorem dX7_printedMeaning_45 : decode cX7_printedMeaning 45 = .ok (.iload_n 1, 1) := by decide +kernel
theorem dX7_printedMeaning_46 : decode cX7_printedMeaning 46 = .ok (.imul, 1) := by decide +kernel
theorem dX7_printedMeaning_47 : decode cX7_printedMeaning 47 = .ok (.iadd, 1) := by decide +kernel
theorem dX7_printedMeaning_48 : decode cX7_printedMeaning 48 = .ok (.bipush 13, 2) := by decide +kernel
theorem dX7_printedMeaning_50 : decode cX7_printedMeaning 50 = .ok (.iadd, 1) := by decide +kernel
theorem dX7_printedMeaning_51 : decode cX7_printedMeaning 51 = .ok (.iaload, 1) := by decide +kernel
theorem dX7_printedMeaning_52 : decode cX7_printedMeaning 52 = .ok (.ireturn, 1) := by decide +kernel
theorem dX7_printedMeaning_53 : decode cX7_printedMeaning 53 = .ok (.iinc 1 1, 3) := by decide +kernel
theorem dX7_printedMeaning_56 : decode cX7_printedMeaning 56 = .ok (.goto (-49), 3) := by decide +kernel
theorem dX7_printedMeaning_59 : decode cX7_printedMeaning 59 = .ok (.bipush (-9), 2) := by decide +kernel
theorem dX7_printedMeaning_61 : decode cX7_printedMeaning 61 = .ok (.ireturn, 1) := by decide +kernel
set_option maxRecDepth 20000 in
theorem ggX7_printed_X7_in : GoodIn wsX7_printed wsX7_in := goodIn_r _ [6] (by decide +kernel) (by decide +kernel)
set_option maxRecDepth 20000 in
theorem gX7_printed_X7_in : GoodIn wsX7_printed (va_wsS RX7 118 yX7_in wsX7_in) := goodIn_app (goodIn_of _ (by decide +kernel)) ggX7_printed_X7_in
set_option maxRecDepth 20000 in
theorem ggX7_printed_X7_refused : GoodIn wsX7_printed wsX7_refused := goodIn_r _ [10, 11, 66, 67, 68, 69, 70, 71, 72, 73, 74, 75, 76, 77, 78, 79, 80, 81, 82, 83] (by decide +kernel) (by decide +kernel)
set_option maxRecDepth 20000 in
theorem gX7_printed_X7_refused : GoodIn wsX7_printed (wsV RX7 125 RX7 yX7_refused wsX7_refused) := goodIn_app (goodIn_of _ (by decide +kernel)) ggX7_printed_X7_refused
set_option maxRecDepth 20000 in
theorem ggX7_printed_X7_printedOf : GoodIn wsX7_printed wsX7_printedOf := goodIn_r _ [15, 16, 17, 18, 5, 19, 20, 21, 22, 23, 24, 25, 26, 27, 28, 29, 30, 31, 32, 33, 34, 35, 36, 37, 38, 39, 40, 41, 42, 43, 44, 45, 46, 47, 48, 49, 50, 51, 52, 53, 54, 55, 56, 57, 58, 59, 60, 61, 62, 63, 64, 65, 66, 67, 68, 69, 70, 71, 72, 73, 74, 75, 76, 77, 78, 79, 80, 81, 82, 83] (by decide +kernel) (by decide +kernel)
set_option maxRecDepth 20000 in
theorem gX7_printed_X7_printedOf : GoodIn wsX7_printed (wsV RX7 192 RX7 yX7_printedOf wsX7_printedOf) := goodIn_app (goodIn_of _ (by decide +kernel)) ggX7_printed_X7_printedOf
theorem dX7_printed_0 : decode cX7_printed 0 = .ok (.aload_n 0, 1) := by decide +kernel
theorem dX7_printed_1 : decode cX7_printed 1 = .ok (.iload_n 1, 1) := by decide +kernel
theorem dX7_printed_2 : decode cX7_printed 2 = .ok (.i2l, 1) := by decide +kernel
theorem dX7_printed_3 : decode cX7_printed 3 = .ok (.lconst 0, 1) := by decide +kernel
theorem dX7_printed_4 : decode cX7_printed 4 = .ok (.ldc2_w 148, 3) := by decide +kernel
theorem dX7_printed_7 : decode cX7_printed 7 = .ok (.invokestatic 118, 3) := by decide +kernel
theorem dX7_printed_10 : decode cX7_printed 10 = .ok (.ifCond .eq 7, 3) := by decide +kernel
theorem dX7_printed_13 : decode cX7_printed 13 = .ok (.iconst 0, 1) := by decide +kernel
theorem dX7_printed_14 : decode cX7_printed 14 = .ok (.goto 4, 3) := by decide +kernel
theorem dX7_printed_17 : decode cX7_printed 17 = .ok (.iconst 1, 1) := by decide +kernel
theorem dX7_printed_18 : decode cX7_printed 18 = .ok (.invokevirtual 125, 3) := by decide +kernel
theorem dX7_printed_21 : decode cX7_printed 21 = .ok (.ifCond .eq 7, 3) := by decide +kernel
theorem dX7_printed_24 : decode cX7_printed 24 = .ok (.iconst 0, 1) := by decide +kernel
theorem dX7_printed_25 : decode cX7_printed 25 = .ok (.goto 12, 3) := by decide +kernel
theorem dX7_printed_28 : decode cX7_printed 28 = .ok (.aload_n 0, 1) := by decide +kernel
theorem dX7_printed_29 : decode cX7_printed 29 = .ok (.aload_n 0, 1) := by decide +kernel
theorem dX7_printed_30 : decode cX7_printed 30 = .ok (.getfield 16, 3) := by decide +kernel
theorem dX7_printed_33 : decode cX7_printed 33 = .ok (.iload_n 1, 1) := by decide +kernel
theorem dX7_printed_34 : decode cX7_printed 34 = .ok (.invokevirtual 192, 3) := by decide +kernel
theorem dX7_printed_37 : decode cX7_printed 37 = .ok (.ireturn, 1) := by decide +kernel
set_option maxRecDepth 20000 in
theorem ggX7_add_X7_isOneWork : GoodIn wsX7_add wsX7_isOneWork := goodIn_r _ [7, 2, 8, 9, 10, 6, 11, 12, 13, 14, 15, 16, 17, 18, 19, 20, 21, 22, 23, 24, 25, 26, 27, 28, 29, 30, 31, 32, 33, 34, 35, 36, 37, 38, 39, 40, 41, 42, 43, 44, 45, 46, 47, 48, 49, 50, 51, 52, 53, 54, 55, 70, 71, 72, 73, 74, 75, 76, 77, 78, 79, 80, 81, 82, 83, 84, 85, 86, 87] (by decide +kernel) (by decide +kernel)
set_option maxRecDepth 20000 in
theorem gX7_add_X7_isOneWork : GoodIn wsX7_add (wsV RX7 195 RX7 yX7_isOneWork wsX7_isOneWork) := goodIn_app (goodIn_of _ (by decide +kernel)) ggX7_add_X7_isOneWork
set_option maxRecDepth 20000 in
theorem ggX7_add_X7_refused : GoodIn wsX7_add wsX7_refused := goodIn_r _ [59, 60, 70, 71, 72, 73, 74, 75, 76, 77, 78, 79, 80, 81, 82, 83, 84, 85, 86, 87] (by decide +kernel) (by decide +kernel)
set_option maxRecDepth 20000 in
theorem gX7_add_X7_refused : GoodIn wsX7_add (wsV RX7 125 RX7 yX7_refused wsX7_refused) := goodIn_app (goodIn_of _ (by decide +kernel)) ggX7_add_X7_refused
set_option maxRecDepth 20000 in
theorem ggX7_add_X7_note : GoodIn wsX7_add wsX7_note := goodIn_r _ [64, 65, 66, 1, 67, 68, 6, 69, 70, 71, 72, 73, 74, 75, 76, 77, 78, 79, 80, 81, 82, 83, 84, 85, 86, 87] (by decide +kernel) (by decide +kernel)
set_option maxRecDepth 20000 in
theorem gX7_add_X7_note : GoodIn wsX7_add (wsV RX7 198 RX7 yX7_note wsX7_note) := goodIn_app (goodIn_of _ (by decide +kernel)) ggX7_add_X7_note
set_option maxRecDepth 20000 in
theorem ggX7_add_X7_cell : GoodIn wsX7_add wsX7_cell := goodIn_r _ [24] (by decide +kernel) (by decide +kernel)
set_option maxRecDepth 20000 in
theorem gX7_add_X7_cell : GoodIn wsX7_add (va_wsS RX7 67 yX7_cell wsX7_cell) := goodIn_app (goodIn_of _ (by decide +kernel)) ggX7_add_X7_cell
set_option maxRecDepth 20000 in
theorem ggX7_add_X7_copy : GoodIn wsX7_add wsX7_copy := goodIn_r _ [69] (by decide +kernel) (by decide +kernel)
set_option maxRecDepth 20000 in
theorem gX7_add_X7_copy : GoodIn wsX7_add (va_wsS RX7 63 yX7_copy wsX7_copy) := goodIn_app (goodIn_of _ (by decide +kernel)) ggX7_add_X7_copy
theorem dX7_add_0 : decode cX7_add 0 = .ok (.aload_n 0, 1) := by decide +kernel
theorem dX7_add_1 : decode cX7_add 1 = .ok (.aload_n 0, 1) := by decide +kernel
theorem dX7_add_2 : decode cX7_add 2 = .ok (.invokevirtual 195, 3) := by decide +kernel
theorem dX7_add_5 : decode cX7_add 5 = .ok (.ifCond .eq 18, 3) := by decide +kernel
theorem dX7_add_8 : decode cX7_add 8 = .ok (.aload_n 0, 1) := by decide +kernel
theorem dX7_add_9 : decode cX7_add 9 = .ok (.getfield 16, 3) := by decide +kernel
theorem dX7_add_12 : decode cX7_add 12 = .ok (.iconst 0, 1) := by decide +kernel
theorem dX7_add_13 : decode cX7_add 13 = .ok (.iaload, 1) := by decide +kernel
theorem dX7_add_14 : decode cX7_add 14 = .ok (.bipush 16, 2) := by decide +kernel
theorem dX7_add_16 : decode cX7_add 16 = .ok (.if_icmp .ge 7, 3) := by decide +kernel
theorem dX7_add_19 : decode cX7_add 19 = .ok (.iconst 0, 1) := by decide +kernel
theorem dX7_add_20 : decode cX7_add 20 = .ok (.goto 4, 3) := by decide +kernel
theorem dX7_add_23 : decode cX7_add 23 = .ok (.iconst 1, 1) := by decide +kernel
theorem dX7_add_24 : decode cX7_add 24 = .ok (.invokevirtual 125, 3) := by decide +kernel
theorem dX7_add_27 : decode cX7_add 27 = .ok (.ifCond .eq 5, 3) := by decide +kernel
theorem dX7_add_30 : decode cX7_add 30 = .ok (.iconst 0, 1) := by decide +kernel
theorem dX7_add_31 : decode cX7_add 31 = .ok (.ireturn, 1) := by decide +kernel
theorem dX7_add_32 : decode cX7_add 32 = .ok (.aload_n 0, 1) := by decide +kernel
theorem dX7_add_33 : decode cX7_add 33 = .ok (.invokevirtual 198, 3) := by decide +kernel
theorem dX7_add_36 : decode cX7_add 36 = .ok (.aload_n 0, 1) := by decide +kernel
theorem dX7_add_37 : decode cX7_add 37 = .ok (.getfield 13, 3) := by decide +kernel
theorem dX7_add_40 : decode cX7_add 40 = .ok (.iconst 4, 1) := by decide +kernel
theorem dX7_add_41 : decode cX7_add 41 = .ok (.aload_n 0, 1) := by decide +kernel
theorem dX7_add_42 : decode cX7_add 42 = .ok (.getfield 16, 3) := by decide +kernel
theorem dX7_add_45 : decode cX7_add 45 = .ok (.aload_n 0, 1) := by decide +kernel
theorem dX7_add_46 : decode cX7_add 46 = .ok (.getfield 16, 3) := by decide +kernel
theorem dX7_add_49 : decode cX7_add 49 = .ok (.iconst 0, 1) := by decide +kernel
theorem dX7_add_50 : decode cX7_add 50 = .ok (.iaload, 1) := by decide +kernel
theorem dX7_add_51 : decode cX7_add 51 = .ok (.iconst 0, 1) := by decide +kernel
theorem dX7_add_52 : decode cX7_add 52 = .ok (.invokestatic 67, 3) := by decide +kernel
theorem dX7_add_55 : decode cX7_add 55 = .ok (.bipush 47, 2) := by decide +kernel
theorem dX7_add_57 : decode cX7_add 57 = .ok (.invokestatic 63, 3) := by decide +kernel
theorem dX7_add_60 : decode cX7_add 60 = .ok (.aload_n 0, 1) := by decide +kernel
theorem dX7_add_61 : decode cX7_add 61 = .ok (.getfield 16, 3) := by decide +kernel
theorem dX7_add_64 : decode cX7_add 64 = .ok (.iconst 0, 1) := by decide +kernel
theorem dX7_add_65 : decode cX7_add 65 = .ok (.dup2, 1) := by decide +kernel
theorem dX7_add_66 : decode cX7_add 66 = .ok (.iaload, 1) := by decide +kernel
theorem dX7_add_67 : decode cX7_add 67 = .ok (.iconst 1, 1) := by decide +kernel
theorem dX7_add_68 : decode cX7_add 68 = .ok (.iadd, 1) := by decide +kernel
theorem dX7_add_69 : decode cX7_add 69 = .ok (.iastore, 1) := by decide +kernel
theorem dX7_add_70 : decode cX7_add 70 = .ok (.aload_n 0, 1) := by decide +kernel
theorem dX7_add_71 : decode cX7_add 71 = .ok (.getfield 16, 3) := by decide +kernel
theorem dX7_add_74 : decode cX7_add 74 = .ok (.iconst 0, 1) := by decide +kernel
theorem dX7_add_75 : decode cX7_add 75 = .ok (.iaload, 1) := by decide +kernel
theorem dX7_add_76 : decode cX7_add 76 = .ok (.iconst 1, 1) := by decide +kernel
theorem dX7_add_77 : decode cX7_add 77 = .ok (.isub, 1) := by decide +kernel
theorem dX7_add_78 : decode cX7_add 78 = .ok (.ireturn, 1) := by decide +kernel
set_option maxRecDepth 20000 in
theorem ggX7_change_X7_isWork : GoodIn wsX7_change wsX7_isWork := goodIn_r _ [7, 2, 8, 9, 6, 10, 124, 125, 126, 127, 128, 129, 130, 131, 132, 133, 134, 135, 136, 137, 138, 139, 140, 141] (by decide +kernel) (by decide +kernel)
set_option maxRecDepth 20000 in
theorem gX7_change_X7_isWork : GoodIn wsX7_change (wsV RX7 183 RX7 yX7_isWork wsX7_isWork) := goodIn_app (goodIn_of _ (by decide +kernel)) ggX7_change_X7_isWork
set_option maxRecDepth 20000 in
theorem ggX7_change_X7_isOneWork : GoodIn wsX7_change wsX7_isOneWork := goodIn_r _ [14, 1, 15, 16, 17, 6, 18, 19, 20, 21, 22, 23, 24, 25, 26, 27, 28, 29, 30, 31, 32, 33, 34, 35, 36, 37, 38, 39, 40, 41, 42, 43, 44, 45, 8, 9, 10, 46, 47, 48, 49, 50, 51, 52, 53, 54, 55, 56, 57, 58, 59, 124, 125, 126, 127, 128, 129, 130, 131, 132, 133, 134, 135, 136, 137, 138, 139, 140, 141] (by decide +kernel) (by decide +kernel)
set_option maxRecDepth 20000 in
theorem gX7_change_X7_isOneWork : GoodIn wsX7_change (wsV RX7 195 RX7 yX7_isOneWork wsX7_isOneWork) := goodIn_app (goodIn_of _ (by decide +kernel)) ggX7_change_X7_isOneWork
set_option maxRecDepth 20000 in
theorem ggX7_change_X7_refused : GoodIn wsX7_change wsX7_refused := goodIn_r _ [63, 64, 124, 125, 126, 127, 128, 129, 130, 131, 132, 133, 134, 135, 136, 137, 138, 139, 140, 141] (by decide +kernel) (by decide +kernel)
set_option maxRecDepth 20000 in
theorem gX7_change_X7_refused : GoodIn wsX7_change (wsV RX7 125 RX7 yX7_refused wsX7_refused) := goodIn_app (goodIn_of _ (by decide +kernel)) ggX7_change_X7_refused
set_option maxRecDepth 20000 in
theorem ggX7_change_X7_note : GoodIn wsX7_change wsX7_note := goodIn_r _ [68, 69, 70, 2, 71, 72, 6, 73, 124, 125, 126, 127, 128, 129, 130, 131, 132, 133, 134, 135, 136, 137, 138, 139, 140, 141] (by decide +kernel) (by decide +kernel)
set_option maxRecDepth 20000 in
theorem gX7_change_X7_note : GoodIn wsX7_change (wsV RX7 198 RX7 yX7_note wsX7_note) := goodIn_app (goodIn_of _ (by decide +kernel)) ggX7_change_X7_note
set_option maxRecDepth 20000 in
theorem ggX7_change_X7_layWas : GoodIn wsX7_change wsX7_layWas := goodIn_r _ [77, 78, 79, 80, 81, 82, 6, 83, 2, 84, 85, 86, 87, 88, 89, 90, 91, 92, 93, 94, 95, 29, 30, 31, 32, 33, 34, 96, 97, 98, 99, 100, 101, 102, 103, 104, 105, 106, 107, 71, 72, 73, 108, 109, 110, 111, 112, 113, 114, 115, 116, 117, 118, 119, 124, 125, 126, 127, 128, 129, 130, 131, 132, 133, 134, 135, 136, 137, 138, 139, 140, 141] (by decide +kernel) (by decide +kernel)
set_option maxRecDepth 20000 in
theorem gX7_change_X7_layWas : GoodIn wsX7_change (wsV RX7 201 RX7 yX7_layWas wsX7_layWas) := goodIn_app (goodIn_of _ (by decide +kernel)) ggX7_change_X7_layWas
set_option maxRecDepth 20000 in
theorem ggX7_change_X7_cell : GoodIn wsX7_change wsX7_cell := goodIn_r _ [31] (by decide +kernel) (by decide +kernel)
set_option maxRecDepth 20000 in
theorem gX7_change_X7_cell : GoodIn wsX7_change (va_wsS RX7 67 yX7_cell wsX7_cell) := goodIn_app (goodIn_of _ (by decide +kernel)) ggX7_change_X7_cell
set_option maxRecDepth 20000 in
theorem ggX7_change_X7_copy : GoodIn wsX7_change wsX7_copy := goodIn_r _ [73] (by decide +kernel) (by decide +kernel)
set_option maxRecDepth 20000 in
theorem gX7_change_X7_copy : GoodIn wsX7_change (va_wsS RX7 63 yX7_copy wsX7_copy) := goodIn_app (goodIn_of _ (by decide +kernel)) ggX7_change_X7_copy
set_option maxRecDepth 20000 in
theorem ggX7_change_X7_others : GoodIn wsX7_change wsX7_others := goodIn_r _ [123, 78, 79, 84, 85, 86, 6, 87, 88, 89, 90, 91, 92, 93, 94, 95, 29, 30, 31, 32, 33, 34, 96, 97, 98, 99, 100, 101, 102, 103, 104, 105, 106, 107, 71, 72, 73, 108, 109, 110, 111, 112, 113, 114, 115, 116, 117, 118, 119, 124, 125, 126, 127, 128, 129, 130, 131, 132, 133, 134, 135, 136, 137, 138, 139, 140, 141] (by decide +kernel) (by decide +kernel)
set_option maxRecDepth 20000 in
theorem gX7_change_X7_others : GoodIn wsX7_change (wsV RX7 204 RX7 yX7_others wsX7_others) := goodIn_app (goodIn_of _ (by decide +kernel)) ggX7_change_X7_others
theorem dX7_change_0 : decode cX7_change 0 = .ok (.aload_n 0, 1) := by decide +kernel
theorem dX7_change_1 : decode cX7_change 1 = .ok (.aload_n 0, 1) := by decide +kernel
theorem dX7_change_2 : decode cX7_change 2 = .ok (.iload_n 1, 1) := by decide +kernel
theorem dX7_change_3 : decode cX7_change 3 = .ok (.invokevirtual 183, 3) := by decide +kernel
theorem dX7_change_6 : decode cX7_change 6 = .ok (.ifCond .ne 7, 3) := by decide +kernel
theorem dX7_change_9 : decode cX7_change 9 = .ok (.iconst 1, 1) := by decide +kernel
theorem dX7_change_10 : decode cX7_change 10 = .ok (.goto 15, 3) := by decide +kernel
theorem dX7_change_13 : decode cX7_change 13 = .ok (.aload_n 0, 1) := by decide +kernel
theorem dX7_change_14 : decode cX7_change 14 = .ok (.invokevirtual 195, 3) := by decide +kernel
theorem dX7_change_17 : decode cX7_change 17 = .ok (.ifCond .eq 7, 3) := by decide +kernel
theorem dX7_change_20 : decode cX7_change 20 = .ok (.iconst 0, 1) := by decide +kernel
theorem dX7_change_21 : decode cX7_change 21 = .ok (.goto 4, 3) := by decide +kernel
theorem dX7_change_24 : decode cX7_change 24 = .ok (.iconst 2, 1) := by decide +kernel
theorem dX7_change_25 : decode cX7_change 25 = .ok (.invokevirtual 125, 3) := by decide +kernel
theorem dX7_change_28 : decode cX7_change 28 = .ok (.ifCond .eq 5, 3) := by decide +kernel
theorem dX7_change_31 : decode cX7_change 31 = .ok (.iconst 0, 1) := by decide +kernel
theorem dX7_change_32 : decode cX7_change 32 = .ok (.ireturn, 1) := by decide +kernel
theorem dX7_change_33 : decode cX7_change 33 = .ok (.aload_n 0, 1) := by decide +kernel
theorem dX7_change_34 : decode cX7_change 34 = .ok (.invokevirtual 198, 3) := by decide +kernel
theorem dX7_change_37 : decode cX7_change 37 = .ok (.aload_n 0, 1) := by decide +kernel
theorem dX7_change_38 : decode cX7_change 38 = .ok (.invokevirtual 201, 3) := by decide +kernel
theorem dX7_change_41 : decode cX7_change 41 = .ok (.aload_n 0, 1) := by decide +kernel
theorem dX7_change_42 : decode cX7_change 42 = .ok (.getfield 13, 3) := by decide +kernel
theorem dX7_change_45 : decode cX7_change 45 = .ok (.iconst 4, 1) := by decide +kernel
theorem dX7_change_46 : decode cX7_change 46 = .ok (.aload_n 0, 1) := by decide +kernel
theorem dX7_change_47 : decode cX7_change 47 = .ok (.getfield 16, 3) := by decide +kernel
theorem dX7_change_50 : decode cX7_change 50 = .ok (.iload_n 1, 1) := by decide +kernel
theorem dX7_change_51 : decode cX7_change 51 = .ok (.iconst 0, 1) := by decide +kernel
theorem dX7_change_52 : decode cX7_change 52 = .ok (.invokestatic 67, 3) := by decide +kernel
theorem dX7_change_55 : decode cX7_change 55 = .ok (.bipush 47, 2) := by decide +kernel
theorem dX7_change_57 : decode cX7_change 57 = .ok (.invokestatic 63, 3) := by decide +kernel
theorem dX7_change_60 : decode cX7_change 60 = .ok (.aload_n 0, 1) := by decide +kernel
theorem dX7_change_61 : decode cX7_change 61 = .ok (.aload_n 0, 1) := by decide +kernel
theorem dX7_change_62 : decode cX7_change 62 = .ok (.getfield 16, 3) := by decide +kernel
theorem dX7_change_65 : decode cX7_change 65 = .ok (.bipush (-9), 2) := by decide +kernel
theorem dX7_change_67 : decode cX7_change 67 = .ok (.invokevirtual 204, 3) := by decide +kernel
theorem dX7_change_70 : decode cX7_change 70 = .ok (.ireturn, 1) := by decide +kernel
set_option maxRecDepth 20000 in
theorem ggX7_isYear_X7_in : GoodIn wsX7_isYear wsX7_in := goodIn_r _ [6] (by decide +kernel) (by decide +kernel)
set_option maxRecDepth 20000 in
theorem gX7_isYear_X7_in : GoodIn wsX7_isYear (va_wsS RX7 118 yX7_in wsX7_in) := goodIn_app (goodIn_of _ (by decide +kernel)) ggX7_isYear_X7_in
theorem dX7_isYear_0 : decode cX7_isYear 0 = .ok (.iload_n 0, 1) := by decide +kernel
theorem dX7_isYear_1 : decode cX7_isYear 1 = .ok (.i2l, 1) := by decide +kernel
theorem dX7_isYear_2 : decode cX7_isYear 2 = .ok (.ldc2_w 207, 3) := by decide +kernel
theorem dX7_isYear_5 : decode cX7_isYear 5 = .ok (.ldc2_w 209, 3) := by decide +kernel
theorem dX7_isYear_8 : decode cX7_isYear 8 = .ok (.invokestatic 118, 3) := by decide +kernel
theorem dX7_isYear_11 : decode cX7_isYear 11 = .ok (.ireturn, 1) := by decide +kernel
set_option maxRecDepth 20000 in
theorem ggX7_setYear_X7_isWork : GoodIn wsX7_setYear wsX7_isWork := goodIn_r _ [6, 1, 7, 8, 5, 9, 85, 86, 87, 88, 89, 90, 91, 92, 93, 94, 95, 96, 97, 98, 99, 100, 101, 102] (by decide +kernel) (by decide +kernel)
set_option maxRecDepth 20000 in
theorem gX7_setYear_X7_isWork : GoodIn wsX7_setYear (wsV RX7 183 RX7 yX7_isWork wsX7_isWork) := goodIn_app (goodIn_of _ (by decide +kernel)) ggX7_setYear_X7_isWork
set_option maxRecDepth 20000 in
theorem ggX7_setYear_X7_isYear : GoodIn wsX7_setYear wsX7_isYear := goodIn_r _ [12, 13, 14, 7, 8, 5, 9] (by decide +kernel) (by decide +kernel)
set_option maxRecDepth 20000 in
theorem gX7_setYear_X7_isYear : GoodIn wsX7_setYear (va_wsS RX7 211 yX7_isYear wsX7_isYear) := goodIn_app (goodIn_of _ (by decide +kernel)) ggX7_setYear_X7_isYear
set_option maxRecDepth 20000 in
theorem ggX7_setYear_X7_refused : GoodIn wsX7_setYear wsX7_refused := goodIn_r _ [18, 19, 85, 86, 87, 88, 89, 90, 91, 92, 93, 94, 95, 96, 97, 98, 99, 100, 101, 102] (by decide +kernel) (by decide +kernel)
set_option maxRecDepth 20000 in
theorem gX7_setYear_X7_refused : GoodIn wsX7_setYear (wsV RX7 125 RX7 yX7_refused wsX7_refused) := goodIn_app (goodIn_of _ (by decide +kernel)) ggX7_setYear_X7_refused
set_option maxRecDepth 20000 in
theorem ggX7_setYear_X7_note : GoodIn wsX7_setYear wsX7_note := goodIn_r _ [23, 24, 25, 1, 26, 27, 5, 28, 85, 86, 87, 88, 89, 90, 91, 92, 93, 94, 95, 96, 97, 98, 99, 100, 101, 102] (by decide +kernel) (by decide +kernel)
set_option maxRecDepth 20000 in
theorem gX7_setYear_X7_note : GoodIn wsX7_setYear (wsV RX7 198 RX7 yX7_note wsX7_note) := goodIn_app (goodIn_of _ (by decide +kernel)) ggX7_setYear_X7_note
set_option maxRecDepth 20000 in
theorem ggX7_setYear_X7_layWas : GoodIn wsX7_setYear wsX7_layWas := goodIn_r _ [32, 33, 34, 35, 36, 37, 5, 38, 1, 39, 40, 41, 42, 43, 44, 45, 46, 47, 48, 49, 50, 51, 52, 53, 54, 55, 56, 57, 58, 59, 60, 61, 62, 63, 64, 65, 66, 67, 68, 26, 27, 28, 69, 70, 71, 72, 73, 74, 75, 76, 77, 78, 79, 80, 85, 86, 87, 88, 89, 90, 91, 92, 93, 94, 95, 96, 97, 98, 99, 100, 101, 102] (by decide +kernel) (by decide +kernel)
set_option maxRecDepth 20000 in
theorem gX7_setYear_X7_layWas : GoodIn wsX7_setYear (wsV RX7 201 RX7 yX7_layWas wsX7_layWas) := goodIn_app (goodIn_of _ (by decide +kernel)) ggX7_setYear_X7_layWas
set_option maxRecDepth 20000 in
theorem ggX7_setYear_X7_cell : GoodIn wsX7_setYear wsX7_cell := goodIn_r _ [53] (by decide +kernel) (by decide +kernel)
set_option maxRecDepth 20000 in
theorem gX7_setYear_X7_cell : GoodIn wsX7_setYear (va_wsS RX7 67 yX7_cell wsX7_cell) := goodIn_app (goodIn_of _ (by decide +kernel)) ggX7_setYear_X7_cell
set_option maxRecDepth 20000 in
theorem ggX7_setYear_X7_others : GoodIn wsX7_setYear wsX7_others := goodIn_r _ [84, 33, 34, 39, 40, 41, 5, 42, 43, 44, 45, 46, 47, 48, 49, 50, 51, 52, 53, 54, 55, 56, 57, 58, 59, 60, 61, 62, 63, 64, 65, 66, 67, 68, 26, 27, 28, 69, 70, 71, 72, 73, 74, 75, 76, 77, 78, 79, 80, 85, 86, 87, 88, 89, 90, 91, 92, 93, 94, 95, 96, 97, 98, 99, 100, 101, 102] (by decide +kernel) (by decide +kernel)
set_option maxRecDepth 20000 in
theorem gX7_setYear_X7_others : GoodIn wsX7_setYear (wsV RX7 204 RX7 yX7_others wsX7_others) := goodIn_app (goodIn_of _ (by decide +kernel)) ggX7_setYear_X7_others
theorem dX7_setYear_0 : decode cX7_setYear 0 = .ok (.aload_n 0, 1) := by decide +kernel
theorem dX7_setYear_1 : decode cX7_setYear 1 = .ok (.aload_n 0, 1) := by decide +kernel
theorem dX7_setYear_2 : decode cX7_setYear 2 = .ok (.iload_n 1, 1) := by decide +kernel
theorem dX7_setYear_3 : decode cX7_setYear 3 = .ok (.invokevirtual 183, 3) := by decide +kernel
theorem dX7_setYear_6 : decode cX7_setYear 6 = .ok (.ifCond .ne 7, 3) := by decide +kernel
theorem dX7_setYear_9 : decode cX7_setYear 9 = .ok (.iconst 1, 1) := by decide +kernel
theorem dX7_setYear_10 : decode cX7_setYear 10 = .ok (.goto 15, 3) := by decide +kernel
theorem dX7_setYear_13 : decode cX7_setYear 13 = .ok (.iload_n 2, 1) := by decide +kernel
theorem dX7_setYear_14 : decode cX7_setYear 14 = .ok (.invokestatic 211, 3) := by decide +kernel
theorem dX7_setYear_17 : decode cX7_setYear 17 = .ok (.ifCond .eq 7, 3) := by decide +kernel
theorem dX7_setYear_20 : decode cX7_setYear 20 = .ok (.iconst 0, 1) := by decide +kernel
theorem dX7_setYear_21 : decode cX7_setYear 21 = .ok (.goto 4, 3) := by decide +kernel
theorem dX7_setYear_24 : decode cX7_setYear 24 = .ok (.iconst 2, 1) := by decide +kernel
theorem dX7_setYear_25 : decode cX7_setYear 25 = .ok (.invokevirtual 125, 3) := by decide +kernel
theorem dX7_setYear_28 : decode cX7_setYear 28 = .ok (.ifCond .eq 5, 3) := by decide +kernel
theorem dX7_setYear_31 : decode cX7_setYear 31 = .ok (.iconst 0, 1) := by decide +kernel
theorem dX7_setYear_32 : decode cX7_setYear 32 = .ok (.ireturn, 1) := by decide +kernel
theorem dX7_setYear_33 : decode cX7_setYear 33 = .ok (.aload_n 0, 1) := by decide +kernel
theorem dX7_setYear_34 : decode cX7_setYear 34 = .ok (.invokevirtual 198, 3) := by decide +kernel
theorem dX7_setYear_37 : decode cX7_setYear 37 = .ok (.aload_n 0, 1) := by decide +kernel
theorem dX7_setYear_38 : decode cX7_setYear 38 = .ok (.invokevirtual 201, 3) := by decide +kernel
theorem dX7_setYear_41 : decode cX7_setYear 41 = .ok (.aload_n 0, 1) := by decide +kernel
theorem dX7_setYear_42 : decode cX7_setYear 42 = .ok (.getfield 16, 3) := by decide +kernel
theorem dX7_setYear_45 : decode cX7_setYear 45 = .ok (.iload_n 1, 1) := by decide +kernel
theorem dX7_setYear_46 : decode cX7_setYear 46 = .ok (.iconst 0, 1) := by decide +kernel
theorem dX7_setYear_47 : decode cX7_setYear 47 = .ok (.invokestatic 67, 3) := by decide +kernel
theorem dX7_setYear_50 : decode cX7_setYear 50 = .ok (.iload_n 2, 1) := by decide +kernel
theorem dX7_setYear_51 : decode cX7_setYear 51 = .ok (.iastore, 1) := by decide +kernel
theorem dX7_setYear_52 : decode cX7_setYear 52 = .ok (.aload_n 0, 1) := by decide +kernel
theorem dX7_setYear_53 : decode cX7_setYear 53 = .ok (.aload_n 0, 1) := by decide +kernel
theorem dX7_setYear_54 : decode cX7_setYear 54 = .ok (.getfield 16, 3) := by decide +kernel
theorem dX7_setYear_57 : decode cX7_setYear 57 = .ok (.bipush (-9), 2) := by decide +kernel
theorem dX7_setYear_59 : decode cX7_setYear 59 = .ok (.invokevirtual 204, 3) := by decide +kernel
theorem dX7_setYear_62 : decode cX7_setYear 62 = .ok (.ireturn, 1) := by decide +kernel
set_option maxRecDepth 20000 in
theorem ggX7_remove_X7_isWork : GoodIn wsX7_remove wsX7_isWork := goodIn_r _ [6, 1, 7, 8, 5, 9, 83, 84, 85, 86, 87, 88, 89, 90, 91, 92, 93, 94, 95, 96, 97, 98, 99, 100] (by decide +kernel) (by decide +kernel)
set_option maxRecDepth 20000 in
theorem gX7_remove_X7_isWork : GoodIn wsX7_remove (wsV RX7 183 RX7 yX7_isWork wsX7_isWork) := goodIn_app (goodIn_of _ (by decide +kernel)) ggX7_remove_X7_isWork
set_option maxRecDepth 20000 in
theorem ggX7_remove_X7_refused : GoodIn wsX7_remove wsX7_refused := goodIn_r _ [13, 14, 83, 84, 85, 86, 87, 88, 89, 90, 91, 92, 93, 94, 95, 96, 97, 98, 99, 100] (by decide +kernel) (by decide +kernel)
set_option maxRecDepth 20000 in
theorem gX7_remove_X7_refused : GoodIn wsX7_remove (wsV RX7 125 RX7 yX7_refused wsX7_refused) := goodIn_app (goodIn_of _ (by decide +kernel)) ggX7_remove_X7_refused
set_option maxRecDepth 20000 in
theorem ggX7_remove_X7_note : GoodIn wsX7_remove wsX7_note := goodIn_r _ [18, 19, 20, 1, 21, 22, 5, 23, 83, 84, 85, 86, 87, 88, 89, 90, 91, 92, 93, 94, 95, 96, 97, 98, 99, 100] (by decide +kernel) (by decide +kernel)
set_option maxRecDepth 20000 in
theorem gX7_remove_X7_note : GoodIn wsX7_remove (wsV RX7 198 RX7 yX7_note wsX7_note) := goodIn_app (goodIn_of _ (by decide +kernel)) ggX7_remove_X7_note
set_option maxRecDepth 20000 in
theorem ggX7_remove_X7_layWas : GoodIn wsX7_remove wsX7_layWas := goodIn_r _ [27, 28, 29, 30, 31, 32, 5, 33, 1, 34, 35, 36, 37, 38, 39, 40, 41, 42, 43, 44, 45, 46, 47, 48, 49, 50, 51, 52, 53, 54, 55, 56, 57, 58, 59, 60, 61, 62, 63, 21, 22, 23, 64, 65, 66, 67, 68, 69, 70, 71, 72, 73, 74, 75, 83, 84, 85, 86, 87, 88, 89, 90, 91, 92, 93, 94, 95, 96, 97, 98, 99, 100] (by decide +kernel) (by decide +kernel)
set_option maxRecDepth 20000 in
theorem gX7_remove_X7_layWas : GoodIn wsX7_remove (wsV RX7 201 RX7 yX7_layWas wsX7_layWas) := goodIn_app (goodIn_of _ (by decide +kernel)) ggX7_remove_X7_layWas
set_option maxRecDepth 20000 in
theorem ggX7_remove_X7_drop : GoodIn wsX7_remove wsX7_drop := goodIn_r _ [78, 46, 47, 5, 48] (by decide +kernel) (by decide +kernel)
set_option maxRecDepth 20000 in
theorem gX7_remove_X7_drop : GoodIn wsX7_remove (va_wsS RX7 214 yX7_drop wsX7_drop) := goodIn_app (goodIn_of _ (by decide +kernel)) ggX7_remove_X7_drop
set_option maxRecDepth 20000 in
theorem ggX7_remove_X7_others : GoodIn wsX7_remove wsX7_others := goodIn_r _ [82, 28, 29, 34, 35, 36, 5, 37, 38, 39, 40, 41, 42, 43, 44, 45, 46, 47, 48, 49, 50, 51, 52, 53, 54, 55, 56, 57, 58, 59, 60, 61, 62, 63, 21, 22, 23, 64, 65, 66, 67, 68, 69, 70, 71, 72, 73, 74, 75, 83, 84, 85, 86, 87, 88, 89, 90, 91, 92, 93, 94, 95, 96, 97, 98, 99, 100] (by decide +kernel) (by decide +kernel)
set_option maxRecDepth 20000 in
theorem gX7_remove_X7_others : GoodIn wsX7_remove (wsV RX7 204 RX7 yX7_others wsX7_others) := goodIn_app (goodIn_of _ (by decide +kernel)) ggX7_remove_X7_others
theorem dX7_remove_0 : decode cX7_remove 0 = .ok (.aload_n 0, 1) := by decide +kernel
theorem dX7_remove_1 : decode cX7_remove 1 = .ok (.aload_n 0, 1) := by decide +kernel
theorem dX7_remove_2 : decode cX7_remove 2 = .ok (.iload_n 1, 1) := by decide +kernel
theorem dX7_remove_3 : decode cX7_remove 3 = .ok (.invokevirtual 183, 3) := by decide +kernel
theorem dX7_remove_6 : decode cX7_remove 6 = .ok (.ifCond .eq 7, 3) := by decide +kernel
theorem dX7_remove_9 : decode cX7_remove 9 = .ok (.iconst 0, 1) := by decide +kernel
theorem dX7_remove_10 : decode cX7_remove 10 = .ok (.goto 4, 3) := by decide +kernel
theorem dX7_remove_13 : decode cX7_remove 13 = .ok (.iconst 1, 1) := by decide +kernel
theorem dX7_remove_14 : decode cX7_remove 14 = .ok (.invokevirtual 125, 3) := by decide +kernel
theorem dX7_remove_17 : decode cX7_remove 17 = .ok (.ifCond .eq 5, 3) := by decide +kernel
theorem dX7_remove_20 : decode cX7_remove 20 = .ok (.iconst 0, 1) := by decide +kernel
theorem dX7_remove_21 : decode cX7_remove 21 = .ok (.ireturn, 1) := by decide +kernel
theorem dX7_remove_22 : decode cX7_remove 22 = .ok (.aload_n 0, 1) := by decide +kernel
theorem dX7_remove_23 : decode cX7_remove 23 = .ok (.invokevirtual 198, 3) := by decide +kernel
theorem dX7_remove_26 : decode cX7_remove 26 = .ok (.aload_n 0, 1) := by decide +kernel
theorem dX7_remove_27 : decode cX7_remove 27 = .ok (.invokevirtual 201, 3) := by decide +kernel
theorem dX7_remove_30 : decode cX7_remove 30 = .ok (.aload_n 0, 1) := by decide +kernel
theorem dX7_remove_31 : decode cX7_remove 31 = .ok (.getfield 16, 3) := by decide +kernel
theorem dX7_remove_34 : decode cX7_remove 34 = .ok (.iload_n 1, 1) := by decide +kernel
theorem dX7_remove_35 : decode cX7_remove 35 = .ok (.invokestatic 214, 3) := by decide +kernel
theorem dX7_remove_38 : decode cX7_remove 38 = .ok (.aload_n 0, 1) := by decide +kernel
theorem dX7_remove_39 : decode cX7_remove 39 = .ok (.aload_n 0, 1) := by decide +kernel
theorem dX7_remove_40 : decode cX7_remove 40 = .ok (.getfield 16, 3) := by decide +kernel
theorem dX7_remove_43 : decode cX7_remove 43 = .ok (.iload_n 1, 1) := by decide +kernel
theorem dX7_remove_44 : decode cX7_remove 44 = .ok (.invokevirtual 204, 3) := by decide +kernel
theorem dX7_remove_47 : decode cX7_remove 47 = .ok (.ireturn, 1) := by decide +kernel
set_option maxRecDepth 20000 in
theorem ggX7_isStyle_X7_in : GoodIn wsX7_isStyle wsX7_in := goodIn_r _ [5] (by decide +kernel) (by decide +kernel)
set_option maxRecDepth 20000 in
theorem gX7_isStyle_X7_in : GoodIn wsX7_isStyle (va_wsS RX7 118 yX7_in wsX7_in) := goodIn_app (goodIn_of _ (by decide +kernel)) ggX7_isStyle_X7_in
theorem dX7_isStyle_0 : decode cX7_isStyle 0 = .ok (.iload_n 0, 1) := by decide +kernel
theorem dX7_isStyle_1 : decode cX7_isStyle 1 = .ok (.i2l, 1) := by decide +kernel
theorem dX7_isStyle_2 : decode cX7_isStyle 2 = .ok (.lconst 0, 1) := by decide +kernel
theorem dX7_isStyle_3 : decode cX7_isStyle 3 = .ok (.ldc2_w 217, 3) := by decide +kernel
theorem dX7_isStyle_6 : decode cX7_isStyle 6 = .ok (.invokestatic 118, 3) := by decide +kernel
theorem dX7_isStyle_9 : decode cX7_isStyle 9 = .ok (.ireturn, 1) := by decide +kernel
set_option maxRecDepth 20000 in
theorem ggX7_setStyle_X7_isStyle : GoodIn wsX7_setStyle wsX7_isStyle := goodIn_r _ [5, 6, 7, 8, 4, 9] (by decide +kernel) (by decide +kernel)
set_option maxRecDepth 20000 in
theorem gX7_setStyle_X7_isStyle : GoodIn wsX7_setStyle (va_wsS RX7 219 yX7_isStyle wsX7_isStyle) := goodIn_app (goodIn_of _ (by decide +kernel)) ggX7_setStyle_X7_isStyle
set_option maxRecDepth 20000 in
theorem ggX7_setStyle_X7_refused : GoodIn wsX7_setStyle wsX7_refused := goodIn_r _ [13, 14, 24, 25, 26, 27, 28, 29, 30, 31, 32, 33, 34, 35, 36, 37, 38, 39, 40, 41] (by decide +kernel) (by decide +kernel)
set_option maxRecDepth 20000 in
theorem gX7_setStyle_X7_refused : GoodIn wsX7_setStyle (wsV RX7 125 RX7 yX7_refused wsX7_refused) := goodIn_app (goodIn_of _ (by decide +kernel)) ggX7_setStyle_X7_refused
set_option maxRecDepth 20000 in
theorem ggX7_setStyle_X7_note : GoodIn wsX7_setStyle wsX7_note := goodIn_r _ [18, 19, 20, 1, 21, 22, 4, 23, 24, 25, 26, 27, 28, 29, 30, 31, 32, 33, 34, 35, 36, 37, 38, 39, 40, 41] (by decide +kernel) (by decide +kernel)
set_option maxRecDepth 20000 in
theorem gX7_setStyle_X7_note : GoodIn wsX7_setStyle (wsV RX7 198 RX7 yX7_note wsX7_note) := goodIn_app (goodIn_of _ (by decide +kernel)) ggX7_setStyle_X7_note
theorem dX7_setStyle_0 : decode cX7_setStyle 0 = .ok (.aload_n 0, 1) := by decide +kernel
theorem dX7_setStyle_1 : decode cX7_setStyle 1 = .ok (.iload_n 1, 1) := by decide +kernel
theorem dX7_setStyle_2 : decode cX7_setStyle 2 = .ok (.invokestatic 219, 3) := by decide +kernel
theorem dX7_setStyle_5 : decode cX7_setStyle 5 = .ok (.ifCond .eq 7, 3) := by decide +kernel
theorem dX7_setStyle_8 : decode cX7_setStyle 8 = .ok (.iconst 0, 1) := by decide +kernel
theorem dX7_setStyle_9 : decode cX7_setStyle 9 = .ok (.goto 4, 3) := by decide +kernel
theorem dX7_setStyle_12 : decode cX7_setStyle 12 = .ok (.iconst 1, 1) := by decide +kernel
theorem dX7_setStyle_13 : decode cX7_setStyle 13 = .ok (.invokevirtual 125, 3) := by decide +kernel
theorem dX7_setStyle_16 : decode cX7_setStyle 16 = .ok (.ifCond .eq 5, 3) := by decide +kernel
theorem dX7_setStyle_19 : decode cX7_setStyle 19 = .ok (.iconst 0, 1) := by decide +kernel
theorem dX7_setStyle_20 : decode cX7_setStyle 20 = .ok (.ireturn, 1) := by decide +kernel
theorem dX7_setStyle_21 : decode cX7_setStyle 21 = .ok (.aload_n 0, 1) := by decide +kernel
theorem dX7_setStyle_22 : decode cX7_setStyle 22 = .ok (.invokevirtual 198, 3) := by decide +kernel
theorem dX7_setStyle_25 : decode cX7_setStyle 25 = .ok (.aload_n 0, 1) := by decide +kernel
theorem dX7_setStyle_26 : decode cX7_setStyle 26 = .ok (.getfield 16, 3) := by decide +kernel
theorem dX7_setStyle_29 : decode cX7_setStyle 29 = .ok (.iconst 1, 1) := by decide +kernel
theorem dX7_setStyle_30 : decode cX7_setStyle 30 = .ok (.iaload, 1) := by decide +kernel
theorem dX7_setStyle_31 : decode cX7_setStyle 31 = .ok (.istore_n 2, 1) := by decide +kernel
theorem dX7_setStyle_32 : decode cX7_setStyle 32 = .ok (.aload_n 0, 1) := by decide +kernel
theorem dX7_setStyle_33 : decode cX7_setStyle 33 = .ok (.getfield 16, 3) := by decide +kernel
theorem dX7_setStyle_36 : decode cX7_setStyle 36 = .ok (.iconst 1, 1) := by decide +kernel
theorem dX7_setStyle_37 : decode cX7_setStyle 37 = .ok (.iload_n 1, 1) := by decide +kernel
theorem dX7_setStyle_38 : decode cX7_setStyle 38 = .ok (.iastore, 1) := by decide +kernel
theorem dX7_setStyle_39 : decode cX7_setStyle 39 = .ok (.iload_n 2, 1) := by decide +kernel
theorem dX7_setStyle_40 : decode cX7_setStyle 40 = .ok (.ireturn, 1) := by decide +kernel
set_option maxRecDepth 20000 in
theorem ggX7_setOrder_X7_in : GoodIn wsX7_setOrder wsX7_in := goodIn_r _ [5] (by decide +kernel) (by decide +kernel)
set_option maxRecDepth 20000 in
theorem gX7_setOrder_X7_in : GoodIn wsX7_setOrder (va_wsS RX7 118 yX7_in wsX7_in) := goodIn_app (goodIn_of _ (by decide +kernel)) ggX7_setOrder_X7_in
set_option maxRecDepth 20000 in
theorem ggX7_setOrder_X7_refused : GoodIn wsX7_setOrder wsX7_refused := goodIn_r _ [9, 10, 76, 77, 78, 79, 80, 81, 82, 83, 84, 85, 86, 87, 88, 89, 90, 91, 92, 93] (by decide +kernel) (by decide +kernel)
set_option maxRecDepth 20000 in
theorem gX7_setOrder_X7_refused : GoodIn wsX7_setOrder (wsV RX7 125 RX7 yX7_refused wsX7_refused) := goodIn_app (goodIn_of _ (by decide +kernel)) ggX7_setOrder_X7_refused
set_option maxRecDepth 20000 in
theorem ggX7_setOrder_X7_note : GoodIn wsX7_setOrder wsX7_note := goodIn_r _ [14, 15, 16, 1, 17, 18, 4, 19, 76, 77, 78, 79, 80, 81, 82, 83, 84, 85, 86, 87, 88, 89, 90, 91, 92, 93] (by decide +kernel) (by decide +kernel)
set_option maxRecDepth 20000 in
theorem gX7_setOrder_X7_note : GoodIn wsX7_setOrder (wsV RX7 198 RX7 yX7_note wsX7_note) := goodIn_app (goodIn_of _ (by decide +kernel)) ggX7_setOrder_X7_note
set_option maxRecDepth 20000 in
theorem ggX7_setOrder_X7_layWas : GoodIn wsX7_setOrder wsX7_layWas := goodIn_r _ [23, 24, 25, 26, 27, 28, 4, 29, 1, 30, 31, 32, 33, 34, 35, 36, 37, 38, 39, 40, 41, 42, 43, 44, 45, 46, 47, 48, 49, 50, 51, 52, 53, 54, 55, 56, 57, 58, 59, 17, 18, 19, 60, 61, 62, 63, 64, 65, 66, 67, 68, 69, 70, 71, 76, 77, 78, 79, 80, 81, 82, 83, 84, 85, 86, 87, 88, 89, 90, 91, 92, 93] (by decide +kernel) (by decide +kernel)
set_option maxRecDepth 20000 in
theorem gX7_setOrder_X7_layWas : GoodIn wsX7_setOrder (wsV RX7 201 RX7 yX7_layWas wsX7_layWas) := goodIn_app (goodIn_of _ (by decide +kernel)) ggX7_setOrder_X7_layWas
set_option maxRecDepth 20000 in
theorem ggX7_setOrder_X7_others : GoodIn wsX7_setOrder wsX7_others := goodIn_r _ [75, 24, 25, 30, 31, 32, 4, 33, 34, 35, 36, 37, 38, 39, 40, 41, 42, 43, 44, 45, 46, 47, 48, 49, 50, 51, 52, 53, 54, 55, 56, 57, 58, 59, 17, 18, 19, 60, 61, 62, 63, 64, 65, 66, 67, 68, 69, 70, 71, 76, 77, 78, 79, 80, 81, 82, 83, 84, 85, 86, 87, 88, 89, 90, 91, 92, 93] (by decide +kernel) (by decide +kernel)
set_option maxRecDepth 20000 in
theorem gX7_setOrder_X7_others : GoodIn wsX7_setOrder (wsV RX7 204 RX7 yX7_others wsX7_others) := goodIn_app (goodIn_of _ (by decide +kernel)) ggX7_setOrder_X7_others
theorem dX7_setOrder_0 : decode cX7_setOrder 0 = .ok (.aload_n 0, 1) := by decide +kernel
theorem dX7_setOrder_1 : decode cX7_setOrder 1 = .ok (.iload_n 1, 1) := by decide +kernel
theorem dX7_setOrder_2 : decode cX7_setOrder 2 = .ok (.i2l, 1) := by decide +kernel
theorem dX7_setOrder_3 : decode cX7_setOrder 3 = .ok (.lconst 0, 1) := by decide +kernel
theorem dX7_setOrder_4 : decode cX7_setOrder 4 = .ok (.lconst 1, 1) := by decide +kernel
theorem dX7_setOrder_5 : decode cX7_setOrder 5 = .ok (.invokestatic 118, 3) := by decide +kernel
theorem dX7_setOrder_8 : decode cX7_setOrder 8 = .ok (.ifCond .eq 7, 3) := by decide +kernel
theorem dX7_setOrder_11 : decode cX7_setOrder 11 = .ok (.iconst 0, 1) := by decide +kernel
theorem dX7_setOrder_12 : decode cX7_setOrder 12 = .ok (.goto 4, 3) := by decide +kernel
theorem dX7_setOrder_15 : decode cX7_setOrder 15 = .ok (.iconst 1, 1) := by decide +kernel
theorem dX7_setOrder_16 : decode cX7_setOrder 16 = .ok (.invokevirtual 125, 3) := by decide +kernel
theorem dX7_setOrder_19 : decode cX7_setOrder 19 = .ok (.ifCond .eq 5, 3) := by decide +kernel
theorem dX7_setOrder_22 : decode cX7_setOrder 22 = .ok (.iconst 0, 1) := by decide +kernel
theorem dX7_setOrder_23 : decode cX7_setOrder 23 = .ok (.ireturn, 1) := by decide +kernel
theorem dX7_setOrder_24 : decode cX7_setOrder 24 = .ok (.aload_n 0, 1) := by decide +kernel
theorem dX7_setOrder_25 : decode cX7_setOrder 25 = .ok (.invokevirtual 198, 3) := by decide +kernel
theorem dX7_setOrder_28 : decode cX7_setOrder 28 = .ok (.aload_n 0, 1) := by decide +kernel
theorem dX7_setOrder_29 : decode cX7_setOrder 29 = .ok (.invokevirtual 201, 3) := by decide +kernel
theorem dX7_setOrder_32 : decode cX7_setOrder 32 = .ok (.aload_n 0, 1) := by decide +kernel
theorem dX7_setOrder_33 : decode cX7_setOrder 33 = .ok (.getfield 16, 3) := by decide +kernel
theorem dX7_setOrder_36 : decode cX7_setOrder 36 = .ok (.iconst 2, 1) := by decide +kernel
theorem dX7_setOrder_37 : decode cX7_setOrder 37 = .ok (.iload_n 1, 1) := by decide +kernel
theorem dX7_setOrder_38 : decode cX7_setOrder 38 = .ok (.iastore, 1) := by decide +kernel
theorem dX7_setOrder_39 : decode cX7_setOrder 39 = .ok (.aload_n 0, 1) := by decide +kernel
theorem dX7_setOrder_40 : decode cX7_setOrder 40 = .ok (.aload_n 0, 1) := by decide +kernel
theorem dX7_setOrder_41 : decode cX7_setOrder 41 = .ok (.getfield 16, 3) := by decide +kernel
theorem dX7_setOrder_44 : decode cX7_setOrder 44 = .ok (.bipush (-9), 2) := by decide +kernel
theorem dX7_setOrder_46 : decode cX7_setOrder 46 = .ok (.invokevirtual 204, 3) := by decide +kernel
theorem dX7_setOrder_49 : decode cX7_setOrder 49 = .ok (.ireturn, 1) := by decide +kernel
set_option maxRecDepth 20000 in
theorem ggX7_print_X7_note : GoodIn wsX7_print wsX7_note := goodIn_r _ [7, 8, 9, 2, 10, 11, 6, 12, 60, 61, 62, 63, 64, 65, 66, 67, 68, 69, 70, 71, 72, 73, 74, 75, 76, 77] (by decide +kernel) (by decide +kernel)
set_option maxRecDepth 20000 in
theorem gX7_print_X7_note : GoodIn wsX7_print (wsV RX7 198 RX7 yX7_note wsX7_note) := goodIn_app (goodIn_of _ (by decide +kernel)) ggX7_print_X7_note
set_option maxRecDepth 20000 in
theorem ggX7_print_X7_goPrint : GoodIn wsX7_print wsX7_goPrint := goodIn_r _ [16, 17, 18, 19, 20, 6, 21, 22, 23, 24, 25, 26, 27, 28, 29, 30, 31, 32, 33, 34, 35, 36, 37, 38, 39, 40, 41, 42, 43, 44, 45, 46, 47, 10, 11, 12, 48, 49, 50, 51, 52, 53, 54, 55, 56, 57, 58, 59, 60, 61, 62, 63, 64, 65, 66, 67, 68, 69, 70, 71, 72, 73, 74, 75, 76, 77] (by decide +kernel) (by decide +kernel)
set_option maxRecDepth 20000 in
theorem gX7_print_X7_goPrint : GoodIn wsX7_print (wsV RX7 222 RX7 yX7_goPrint wsX7_goPrint) := goodIn_app (goodIn_of _ (by decide +kernel)) ggX7_print_X7_goPrint
theorem dX7_print_0 : decode cX7_print 0 = .ok (.aload_n 0, 1) := by decide +kernel
theorem dX7_print_1 : decode cX7_print 1 = .ok (.iconst 0, 1) := by decide +kernel
theorem dX7_print_2 : decode cX7_print 2 = .ok (.putfield 54, 3) := by decide +kernel
theorem dX7_print_5 : decode cX7_print 5 = .ok (.aload_n 0, 1) := by decide +kernel
theorem dX7_print_6 : decode cX7_print 6 = .ok (.invokevirtual 198, 3) := by decide +kernel
theorem dX7_print_9 : decode cX7_print 9 = .ok (.aload_n 0, 1) := by decide +kernel
theorem dX7_print_10 : decode cX7_print 10 = .ok (.aload_n 0, 1) := by decide +kernel
theorem dX7_print_11 : decode cX7_print 11 = .ok (.getfield 16, 3) := by decide +kernel
theorem dX7_print_14 : decode cX7_print 14 = .ok (.invokevirtual 222, 3) := by decide +kernel
theorem dX7_print_17 : decode cX7_print 17 = .ok (.aload_n 0, 1) := by decide +kernel
theorem dX7_print_18 : decode cX7_print 18 = .ok (.getfield 16, 3) := by decide +kernel
theorem dX7_print_21 : decode cX7_print 21 = .ok (.iconst 3, 1) := by decide +kernel
theorem dX7_print_22 : decode cX7_print 22 = .ok (.iaload, 1) := by decide +kernel
theorem dX7_print_23 : decode cX7_print 23 = .ok (.ireturn, 1) := by decide +kernel
set_option maxRecDepth 20000 in
theorem ggX7_undo_X7_refused : GoodIn wsX7_undo wsX7_refused := goodIn_r _ [8, 9, 13, 14, 15, 16, 17, 18, 19, 20, 21, 22, 23, 24, 25, 26, 27, 28, 29, 30] (by decide +kernel) (by decide +kernel)
set_option maxRecDepth 20000 in
theorem gX7_undo_X7_refused : GoodIn wsX7_undo (wsV RX7 125 RX7 yX7_refused wsX7_refused) := goodIn_app (goodIn_of _ (by decide +kernel)) ggX7_undo_X7_refused
set_option maxRecDepth 20000 in
theorem ggX7_undo_X7_copy : GoodIn wsX7_undo wsX7_copy := goodIn_r _ [12] (by decide +kernel) (by decide +kernel)
set_option maxRecDepth 20000 in
theorem gX7_undo_X7_copy : GoodIn wsX7_undo (va_wsS RX7 63 yX7_copy wsX7_copy) := goodIn_app (goodIn_of _ (by decide +kernel)) ggX7_undo_X7_copy
theorem dX7_undo_0 : decode cX7_undo 0 = .ok (.aload_n 0, 1) := by decide +kernel
theorem dX7_undo_1 : decode cX7_undo 1 = .ok (.aload_n 0, 1) := by decide +kernel
theorem dX7_undo_2 : decode cX7_undo 2 = .ok (.getfield 60, 3) := by decide +kernel
theorem dX7_undo_5 : decode cX7_undo 5 = .ok (.ifCond .ne 7, 3) := by decide +kernel
theorem dX7_undo_8 : decode cX7_undo 8 = .ok (.iconst 1, 1) := by decide +kernel
theorem dX7_undo_9 : decode cX7_undo 9 = .ok (.goto 4, 3) := by decide +kernel
theorem dX7_undo_12 : decode cX7_undo 12 = .ok (.iconst 0, 1) := by decide +kernel
theorem dX7_undo_13 : decode cX7_undo 13 = .ok (.invokevirtual 125, 3) := by decide +kernel
theorem dX7_undo_16 : decode cX7_undo 16 = .ok (.ifCond .eq 5, 3) := by decide +kernel
theorem dX7_undo_19 : decode cX7_undo 19 = .ok (.iconst 0, 1) := by decide +kernel
theorem dX7_undo_20 : decode cX7_undo 20 = .ok (.ireturn, 1) := by decide +kernel
theorem dX7_undo_21 : decode cX7_undo 21 = .ok (.aload_n 0, 1) := by decide +kernel
theorem dX7_undo_22 : decode cX7_undo 22 = .ok (.dup, 1) := by decide +kernel
theorem dX7_undo_23 : decode cX7_undo 23 = .ok (.getfield 60, 3) := by decide +kernel
theorem dX7_undo_26 : decode cX7_undo 26 = .ok (.iconst 1, 1) := by decide +kernel
theorem dX7_undo_27 : decode cX7_undo 27 = .ok (.isub, 1) := by decide +kernel
theorem dX7_undo_28 : decode cX7_undo 28 = .ok (.putfield 60, 3) := by decide +kernel
theorem dX7_undo_31 : decode cX7_undo 31 = .ok (.aload_n 0, 1) := by decide +kernel
theorem dX7_undo_32 : decode cX7_undo 32 = .ok (.getfield 22, 3) := by decide +kernel
theorem dX7_undo_35 : decode cX7_undo 35 = .ok (.sipush 980, 3) := by decide +kernel
theorem dX7_undo_38 : decode cX7_undo 38 = .ok (.aload_n 0, 1) := by decide +kernel
theorem dX7_undo_39 : decode cX7_undo 39 = .ok (.getfield 60, 3) := by decide +kernel
theorem dX7_undo_42 : decode cX7_undo 42 = .ok (.imul, 1) := by decide +kernel
theorem dX7_undo_43 : decode cX7_undo 43 = .ok (.aload_n 0, 1) := by decide +kernel
theorem dX7_undo_44 : decode cX7_undo 44 = .ok (.getfield 16, 3) := by decide +kernel
theorem dX7_undo_47 : decode cX7_undo 47 = .ok (.iconst 0, 1) := by decide +kernel
theorem dX7_undo_48 : decode cX7_undo 48 = .ok (.sipush 980, 3) := by decide +kernel
theorem dX7_undo_51 : decode cX7_undo 51 = .ok (.invokestatic 63, 3) := by decide +kernel
theorem dX7_undo_54 : decode cX7_undo 54 = .ok (.aload_n 0, 1) := by decide +kernel
theorem dX7_undo_55 : decode cX7_undo 55 = .ok (.getfield 60, 3) := by decide +kernel
theorem dX7_undo_58 : decode cX7_undo 58 = .ok (.ireturn, 1) := by decide +kernel
set_option maxRecDepth 20000 in
theorem ggX7_without_X7_layWas : GoodIn wsX7_without wsX7_layWas := goodIn_r _ [6, 7, 8, 9, 10, 11, 5, 12, 13, 14, 15, 16, 17, 18, 19, 20, 21, 22, 23, 24, 25, 26, 27, 28, 29, 30, 31, 32, 33, 34, 35, 36, 37, 38, 39, 40, 41, 42, 43, 44, 45, 46, 47, 48, 49, 50, 51, 52, 53, 54, 55, 56, 57, 58, 70, 71, 72, 73, 74, 75, 76, 77, 78, 79, 80, 81, 82, 83, 84, 85, 86, 87] (by decide +kernel) (by decide +kernel)
set_option maxRecDepth 20000 in
theorem gX7_without_X7_layWas : GoodIn wsX7_without (wsV RX7 201 RX7 yX7_layWas wsX7_layWas) := goodIn_app (goodIn_of _ (by decide +kernel)) ggX7_without_X7_layWas
set_option maxRecDepth 20000 in
theorem ggX7_without_X7_begin : GoodIn wsX7_without wsX7_begin := goodIn_r _ [62, 13, 1, 44, 45, 5, 46, 70, 71, 72, 73, 74, 75, 76, 77, 78, 79, 80, 81, 82, 83, 84, 85, 86, 87] (by decide +kernel) (by decide +kernel)
set_option maxRecDepth 20000 in
theorem gX7_without_X7_begin : GoodIn wsX7_without (wsV RX7 225 RX7 yX7_begin wsX7_begin) := goodIn_app (goodIn_of _ (by decide +kernel)) ggX7_without_X7_begin
set_option maxRecDepth 20000 in
theorem ggX7_without_X7_drop : GoodIn wsX7_without wsX7_drop := goodIn_r _ [65, 26, 27, 5, 28] (by decide +kernel) (by decide +kernel)
set_option maxRecDepth 20000 in
theorem gX7_without_X7_drop : GoodIn wsX7_without (va_wsS RX7 214 yX7_drop wsX7_drop) := goodIn_app (goodIn_of _ (by decide +kernel)) ggX7_without_X7_drop
set_option maxRecDepth 20000 in
theorem ggX7_without_X7_others : GoodIn wsX7_without wsX7_others := goodIn_r _ [69, 7, 8, 14, 15, 16, 5, 17, 18, 19, 20, 21, 22, 23, 24, 25, 26, 27, 28, 29, 30, 31, 32, 33, 34, 35, 36, 37, 38, 39, 40, 41, 42, 43, 44, 45, 46, 47, 48, 49, 50, 51, 52, 53, 54, 55, 56, 57, 58, 70, 71, 72, 73, 74, 75, 76, 77, 78, 79, 80, 81, 82, 83, 84, 85, 86, 87] (by decide +kernel) (by decide +kernel)
set_option maxRecDepth 20000 in
theorem gX7_without_X7_others : GoodIn wsX7_without (wsV RX7 204 RX7 yX7_others wsX7_others) := goodIn_app (goodIn_of _ (by decide +kernel)) ggX7_without_X7_others
theorem dX7_without_0 : decode cX7_without 0 = .ok (.aload_n 0, 1) := by decide +kernel
theorem dX7_without_1 : decode cX7_without 1 = .ok (.invokevirtual 201, 3) := by decide +kernel
theorem dX7_without_4 : decode cX7_without 4 = .ok (.aload_n 0, 1) := by decide +kernel
theorem dX7_without_5 : decode cX7_without 5 = .ok (.invokevirtual 225, 3) := by decide +kernel
theorem dX7_without_8 : decode cX7_without 8 = .ok (.aload_n 0, 1) := by decide +kernel
theorem dX7_without_9 : decode cX7_without 9 = .ok (.getfield 19, 3) := by decide +kernel
theorem dX7_without_12 : decode cX7_without 12 = .ok (.iload_n 1, 1) := by decide +kernel
theorem dX7_without_13 : decode cX7_without 13 = .ok (.invokestatic 214, 3) := by decide +kernel
theorem dX7_without_16 : decode cX7_without 16 = .ok (.aload_n 0, 1) := by decide +kernel
theorem dX7_without_17 : decode cX7_without 17 = .ok (.aload_n 0, 1) := by decide +kernel
theorem dX7_without_18 : decode cX7_without 18 = .ok (.getfield 19, 3) := by decide +kernel
theorem dX7_without_21 : decode cX7_without 21 = .ok (.iload_n 1, 1) := by decide +kernel
theorem dX7_without_22 : decode cX7_without 22 = .ok (.invokevirtual 204, 3) := by decide +kernel
theorem dX7_without_25 : decode cX7_without 25 = .ok (.ireturn, 1) := by decide +kernel
set_option maxRecDepth 20000 in
theorem ggX7_ifRemoved_X7_isWork : GoodIn wsX7_ifRemoved wsX7_isWork := goodIn_r _ [5, 6, 7, 8, 4, 9, 86, 87, 88, 89, 90, 91, 92, 93, 94, 95, 96, 97, 98, 99, 100, 101, 102, 103] (by decide +kernel) (by decide +kernel)
set_option maxRecDepth 20000 in
theorem gX7_ifRemoved_X7_isWork : GoodIn wsX7_ifRemoved (wsV RX7 183 RX7 yX7_isWork wsX7_isWork) := goodIn_app (goodIn_of _ (by decide +kernel)) ggX7_ifRemoved_X7_isWork
set_option maxRecDepth 20000 in
theorem ggX7_ifRemoved_X7_refused : GoodIn wsX7_ifRemoved wsX7_refused := goodIn_r _ [13, 14, 86, 87, 88, 89, 90, 91, 92, 93, 94, 95, 96, 97, 98, 99, 100, 101, 102, 103] (by decide +kernel) (by decide +kernel)
set_option maxRecDepth 20000 in
theorem gX7_ifRemoved_X7_refused : GoodIn wsX7_ifRemoved (wsV RX7 125 RX7 yX7_refused wsX7_refused) := goodIn_app (goodIn_of _ (by decide +kernel)) ggX7_ifRemoved_X7_refused
set_option maxRecDepth 20000 in
theorem ggX7_ifRemoved_X7_without : GoodIn wsX7_ifRemoved wsX7_without := goodIn_r _ [18, 19, 20, 21, 22, 4, 23, 24, 25, 26, 27, 28, 29, 6, 30, 31, 32, 33, 34, 35, 36, 37, 38, 39, 40, 41, 42, 43, 44, 45, 46, 47, 48, 49, 50, 51, 52, 53, 54, 55, 56, 57, 58, 59, 60, 61, 62, 63, 64, 65, 66, 67, 68, 69, 70, 71, 72, 73, 74, 75, 76, 77, 78, 79, 80, 81, 82, 83, 84, 85, 86, 87, 88, 89, 90, 91, 92, 93, 94, 95, 96, 97, 98, 99, 100, 101, 102, 103] (by decide +kernel) (by decide +kernel)
set_option maxRecDepth 20000 in
theorem gX7_ifRemoved_X7_without : GoodIn wsX7_ifRemoved (wsV RX7 228 RX7 yX7_without wsX7_without) := goodIn_app (goodIn_of _ (by decide +kernel)) ggX7_ifRemoved_X7_without
theorem dX7_ifRemoved_0 : decode cX7_ifRemoved 0 = .ok (.aload_n 0, 1) := by decide +kernel
theorem dX7_ifRemoved_1 : decode cX7_ifRemoved 1 = .ok (.aload_n 0, 1) := by decide +kernel
theorem dX7_ifRemoved_2 : decode cX7_ifRemoved 2 = .ok (.iload_n 1, 1) := by decide +kernel
theorem dX7_ifRemoved_3 : decode cX7_ifRemoved 3 = .ok (.invokevirtual 183, 3) := by decide +kernel
theorem dX7_ifRemoved_6 : decode cX7_ifRemoved 6 = .ok (.ifCond .eq 7, 3) := by decide +kernel
theorem dX7_ifRemoved_9 : decode cX7_ifRemoved 9 = .ok (.iconst 0, 1) := by decide +kernel
theorem dX7_ifRemoved_10 : decode cX7_ifRemoved 10 = .ok (.goto 4, 3) := by decide +kernel
theorem dX7_ifRemoved_13 : decode cX7_ifRemoved 13 = .ok (.iconst 1, 1) := by decide +kernel
theorem dX7_ifRemoved_14 : decode cX7_ifRemoved 14 = .ok (.invokevirtual 125, 3) := by decide +kernel
theorem dX7_ifRemoved_17 : decode cX7_ifRemoved 17 = .ok (.ifCond .eq 7, 3) := by decide +kernel
theorem dX7_ifRemoved_20 : decode cX7_ifRemoved 20 = .ok (.iconst 0, 1) := by decide +kernel
theorem dX7_ifRemoved_21 : decode cX7_ifRemoved 21 = .ok (.goto 8, 3) := by decide +kernel
theorem dX7_ifRemoved_24 : decode cX7_ifRemoved 24 = .ok (.aload_n 0, 1) := by decide +kernel
theorem dX7_ifRemoved_25 : decode cX7_ifRemoved 25 = .ok (.iload_n 1, 1) := by decide +kernel
theorem dX7_ifRemoved_26 : decode cX7_ifRemoved 26 = .ok (.invokevirtual 228, 3) := by decide +kernel
theorem dX7_ifRemoved_29 : decode cX7_ifRemoved 29 = .ok (.ireturn, 1) := by decide +kernel
set_option maxRecDepth 20000 in
theorem ggX7_isFree_X7_cell : GoodIn wsX7_isFree wsX7_cell := goodIn_r _ [7] (by decide +kernel) (by decide +kernel)
set_option maxRecDepth 20000 in
theorem gX7_isFree_X7_cell : GoodIn wsX7_isFree (va_wsS RX7 67 yX7_cell wsX7_cell) := goodIn_app (goodIn_of _ (by decide +kernel)) ggX7_isFree_X7_cell
set_option maxRecDepth 20000 in
theorem ggX7_isFree_X7_layStem : GoodIn wsX7_isFree wsX7_layStem := goodIn_r _ [11, 2, 4, 5, 6, 7, 12, 13, 14, 15, 16, 17, 18, 19, 20, 21, 22, 23, 24, 25, 26, 33, 34, 35, 36, 37, 38, 39, 40, 41, 42, 43, 44, 45, 46, 47, 48, 49, 50] (by decide +kernel) (by decide +kernel)
set_option maxRecDepth 20000 in
theorem gX7_isFree_X7_layStem : GoodIn wsX7_isFree (wsV RX7 93 RX7 yX7_layStem wsX7_layStem) := goodIn_app (goodIn_of _ (by decide +kernel)) ggX7_isFree_X7_layStem
set_option maxRecDepth 20000 in
theorem ggX7_isFree_X7_copy : GoodIn wsX7_isFree wsX7_copy := goodIn_r _ [29] (by decide +kernel) (by decide +kernel)
set_option maxRecDepth 20000 in
theorem gX7_isFree_X7_copy : GoodIn wsX7_isFree (va_wsS RX7 63 yX7_copy wsX7_copy) := goodIn_app (goodIn_of _ (by decide +kernel)) ggX7_isFree_X7_copy
set_option maxRecDepth 20000 in
theorem ggX7_isFree_X7_areLike : GoodIn wsX7_isFree wsX7_areLike := goodIn_r _ [32] (by decide +kernel) (by decide +kernel)
set_option maxRecDepth 20000 in
theorem gX7_isFree_X7_areLike : GoodIn wsX7_isFree (va_wsS RX7 97 yX7_areLike wsX7_areLike) := goodIn_app (goodIn_of _ (by decide +kernel)) ggX7_isFree_X7_areLike
theorem dX7_isFree_0 : decode cX7_isFree 0 = .ok (.aload_n 0, 1) := by decide +kernel
theorem dX7_isFree_1 : decode cX7_isFree 1 = .ok (.getfield 19, 3) := by decide +kernel
theorem dX7_isFree_4 : decode cX7_isFree 4 = .ok (.iload_n 1, 1) := by decide +kernel
theorem dX7_isFree_5 : decode cX7_isFree 5 = .ok (.iconst 0, 1) := by decide +kernel
theorem dX7_isFree_6 : decode cX7_isFree 6 = .ok (.invokestatic 67, 3) := by decide +kernel
theorem dX7_isFree_9 : decode cX7_isFree 9 = .ok (.iload_n 2, 1) := by decide +kernel
theorem dX7_isFree_10 : decode cX7_isFree 10 = .ok (.iastore, 1) := by decide +kernel
theorem dX7_isFree_11 : decode cX7_isFree 11 = .ok (.aload_n 0, 1) := by decide +kernel
theorem dX7_isFree_12 : decode cX7_isFree 12 = .ok (.aload_n 0, 1) := by decide +kernel
theorem dX7_isFree_13 : decode cX7_isFree 13 = .ok (.getfield 19, 3) := by decide +kernel
theorem dX7_isFree_16 : decode cX7_isFree 16 = .ok (.iload_n 1, 1) := by decide +kernel
theorem dX7_isFree_17 : decode cX7_isFree 17 = .ok (.aload_n 0, 1) := by decide +kernel
theorem dX7_isFree_18 : decode cX7_isFree 18 = .ok (.getfield 19, 3) := by decide +kernel
theorem dX7_isFree_21 : decode cX7_isFree 21 = .ok (.iconst 1, 1) := by decide +kernel
theorem dX7_isFree_22 : decode cX7_isFree 22 = .ok (.iaload, 1) := by decide +kernel
theorem dX7_isFree_23 : decode cX7_isFree 23 = .ok (.invokevirtual 93, 3) := by decide +kernel
theorem dX7_isFree_26 : decode cX7_isFree 26 = .ok (.aload_n 0, 1) := by decide +kernel
theorem dX7_isFree_27 : decode cX7_isFree 27 = .ok (.getfield 47, 3) := by decide +kernel
theorem dX7_isFree_30 : decode cX7_isFree 30 = .ok (.iconst 0, 1) := by decide +kernel
theorem dX7_isFree_31 : decode cX7_isFree 31 = .ok (.aload_n 0, 1) := by decide +kernel
theorem dX7_isFree_32 : decode cX7_isFree 32 = .ok (.getfield 44, 3) := by decide +kernel
theorem dX7_isFree_35 : decode cX7_isFree 35 = .ok (.iconst 0, 1) := by decide +kernel
theorem dX7_isFree_36 : decode cX7_isFree 36 = .ok (.bipush 14, 2) := by decide +kernel
theorem dX7_isFree_38 : decode cX7_isFree 38 = .ok (.invokestatic 63, 3) := by decide +kernel
theorem dX7_isFree_41 : decode cX7_isFree 41 = .ok (.iconst 1, 1) := by decide +kernel
theorem dX7_isFree_42 : decode cX7_isFree 42 = .ok (.istore_n 3, 1) := by decide +kernel
theorem dX7_isFree_43 : decode cX7_isFree 43 = .ok (.iconst 0, 1) := by decide +kernel
theorem dX7_isFree_44 : decode cX7_isFree 44 = .ok (.istore 4, 2) := by decide +kernel
theorem dX7_isFree_46 : decode cX7_isFree 46 = .ok (.iload 4, 2) := by decide +kernel
theorem dX7_isFree_48 : decode cX7_isFree 48 = .ok (.aload_n 0, 1) := by decide +kernel
theorem dX7_isFree_49 : decode cX7_isFree 49 = .ok (.getfield 19, 3) := by decide +kernel
theorem dX7_isFree_52 : decode cX7_isFree 52 = .ok (.iconst 0, 1) := by decide +kernel
theorem dX7_isFree_53 : decode cX7_isFree 53 = .ok (.iaload, 1) := by decide +kernel
theorem dX7_isFree_54 : decode cX7_isFree 54 = .ok (.if_icmp .ge 57, 3) := by decide +kernel
theorem dX7_isFree_57 : decode cX7_isFree 57 = .ok (.iload_n 3, 1) := by decide +kernel
theorem dX7_isFree_58 : decode cX7_isFree 58 = .ok (.ifCond .eq 53, 3) := by decide +kernel
theorem dX7_isFree_61 : decode cX7_isFree 61 = .ok (.iload 4, 2) := by decide +kernel
theorem dX7_isFree_63 : decode cX7_isFree 63 = .ok (.iload_n 1, 1) := by decide +kernel
theorem dX7_isFree_64 : decode cX7_isFree 64 = .ok (.if_icmp .eq 41, 3) := by decide +kernel
theorem dX7_isFree_67 : decode cX7_isFree 67 = .ok (.aload_n 0, 1) := by decide +kernel
theorem dX7_isFree_68 : decode cX7_isFree 68 = .ok (.aload_n 0, 1) := by decide +kernel
theorem dX7_isFree_69 : decode cX7_isFree 69 = .ok (.getfield 19, 3) := by decide +kernel
theorem dX7_isFree_72 : decode cX7_isFree 72 = .ok (.iload 4, 2) := by decide +kernel
theorem dX7_isFree_74 : decode cX7_isFree 74 = .ok (.aload_n 0, 1) := by decide +kernel
theorem dX7_isFree_75 : decode cX7_isFree 75 = .ok (.getfield 19, 3) := by decide +kernel
theorem dX7_isFree_78 : decode cX7_isFree 78 = .ok (.iconst 1, 1) := by decide +kernel
theorem dX7_isFree_79 : decode cX7_isFree 79 = .ok (.iaload, 1) := by decide +kernel
theorem dX7_isFree_80 : decode cX7_isFree 80 = .ok (.invokevirtual 93, 3) := by decide +kernel
theorem dX7_isFree_83 : decode cX7_isFree 83 = .ok (.aload_n 0, 1) := by decide +kernel
theorem dX7_isFree_84 : decode cX7_isFree 84 = .ok (.getfield 47, 3) := by decide +kernel
theorem dX7_isFree_87 : decode cX7_isFree 87 = .ok (.iconst 0, 1) := by decide +kernel
theorem dX7_isFree_88 : decode cX7_isFree 88 = .ok (.aload_n 0, 1) := by decide +kernel
theorem dX7_isFree_89 : decode cX7_isFree 89 = .ok (.getfield 44, 3) := by decide +kernel
theorem dX7_isFree_92 : decode cX7_isFree 92 = .ok (.iconst 0, 1) := by decide +kernel
theorem dX7_isFree_93 : decode cX7_isFree 93 = .ok (.invokestatic 97, 3) := by decide +kernel
theorem dX7_isFree_96 : decode cX7_isFree 96 = .ok (.ifCond .ne 7, 3) := by decide +kernel
theorem dX7_isFree_99 : decode cX7_isFree 99 = .ok (.iconst 1, 1) := by decide +kernel
theorem dX7_isFree_100 : decode cX7_isFree 100 = .ok (.goto 4, 3) := by decide +kernel
theorem dX7_isFree_103 : decode cX7_isFree 103 = .ok (.iconst 0, 1) := by decide +kernel
theorem dX7_isFree_104 : decode cX7_isFree 104 = .ok (.istore_n 3, 1) := by decide +kernel
theorem dX7_isFree_105 : decode cX7_isFree 105 = .ok (.iinc 4 1, 3) := by decide +kernel
theorem dX7_isFree_108 : decode cX7_isFree 108 = .ok (.goto (-62), 3) := by decide +kernel
theorem dX7_isFree_111 : decode cX7_isFree 111 = .ok (.iload_n 3, 1) := by decide +kernel
theorem dX7_isFree_112 : decode cX7_isFree 112 = .ok (.ireturn, 1) := by decide +kernel
set_option maxRecDepth 20000 in
theorem ggX7_freeYear_X7_isWork : GoodIn wsX7_freeYear wsX7_isWork := goodIn_r _ [6, 1, 7, 8, 5, 9, 59, 60, 61, 62, 63, 64, 65, 66, 67, 68, 69, 70, 71, 72, 73, 74, 75, 76] (by decide +kernel) (by decide +kernel)
set_option maxRecDepth 20000 in
theorem gX7_freeYear_X7_isWork : GoodIn wsX7_freeYear (wsV RX7 183 RX7 yX7_isWork wsX7_isWork) := goodIn_app (goodIn_of _ (by decide +kernel)) ggX7_freeYear_X7_isWork
set_option maxRecDepth 20000 in
theorem ggX7_freeYear_X7_refused : GoodIn wsX7_freeYear wsX7_refused := goodIn_r _ [13, 14, 59, 60, 61, 62, 63, 64, 65, 66, 67, 68, 69, 70, 71, 72, 73, 74, 75, 76] (by decide +kernel) (by decide +kernel)
set_option maxRecDepth 20000 in
theorem gX7_freeYear_X7_refused : GoodIn wsX7_freeYear (wsV RX7 125 RX7 yX7_refused wsX7_refused) := goodIn_app (goodIn_of _ (by decide +kernel)) ggX7_freeYear_X7_refused
set_option maxRecDepth 20000 in
theorem ggX7_freeYear_X7_begin : GoodIn wsX7_freeYear wsX7_begin := goodIn_r _ [18, 1, 19, 20, 21, 5, 22, 59, 60, 61, 62, 63, 64, 65, 66, 67, 68, 69, 70, 71, 72, 73, 74, 75, 76] (by decide +kernel) (by decide +kernel)
set_option maxRecDepth 20000 in
theorem gX7_freeYear_X7_begin : GoodIn wsX7_freeYear (wsV RX7 225 RX7 yX7_begin wsX7_begin) := goodIn_app (goodIn_of _ (by decide +kernel)) ggX7_freeYear_X7_begin
set_option maxRecDepth 20000 in
theorem ggX7_freeYear_X7_cell : GoodIn wsX7_freeYear wsX7_cell := goodIn_r _ [25] (by decide +kernel) (by decide +kernel)
set_option maxRecDepth 20000 in
theorem gX7_freeYear_X7_cell : GoodIn wsX7_freeYear (va_wsS RX7 67 yX7_cell wsX7_cell) := goodIn_app (goodIn_of _ (by decide +kernel)) ggX7_freeYear_X7_cell
set_option maxRecDepth 20000 in
theorem ggX7_freeYear_X7_isYear : GoodIn wsX7_freeYear wsX7_isYear := goodIn_r _ [28, 29, 30, 7, 8, 5, 9] (by decide +kernel) (by decide +kernel)
set_option maxRecDepth 20000 in
theorem gX7_freeYear_X7_isYear : GoodIn wsX7_freeYear (va_wsS RX7 211 yX7_isYear wsX7_isYear) := goodIn_app (goodIn_of _ (by decide +kernel)) ggX7_freeYear_X7_isYear
set_option maxRecDepth 20000 in
theorem ggX7_freeYear_X7_isFree : GoodIn wsX7_freeYear wsX7_isFree := goodIn_r _ [34, 19, 35, 36, 23, 24, 5, 25, 37, 38, 39, 40, 41, 42, 43, 44, 45, 46, 47, 48, 49, 50, 51, 52, 53, 54, 55, 20, 21, 22, 56, 57, 58, 59, 60, 61, 62, 63, 64, 65, 66, 67, 68, 69, 70, 71, 72, 73, 74, 75, 76] (by decide +kernel) (by decide +kernel)
set_option maxRecDepth 20000 in
theorem gX7_freeYear_X7_isFree : GoodIn wsX7_freeYear (wsV RX7 231 RX7 yX7_isFree wsX7_isFree) := goodIn_app (goodIn_of _ (by decide +kernel)) ggX7_freeYear_X7_isFree
theorem dX7_freeYear_0 : decode cX7_freeYear 0 = .ok (.aload_n 0, 1) := by decide +kernel
theorem dX7_freeYear_1 : decode cX7_freeYear 1 = .ok (.aload_n 0, 1) := by decide +kernel
theorem dX7_freeYear_2 : decode cX7_freeYear 2 = .ok (.iload_n 1, 1) := by decide +kernel
theorem dX7_freeYear_3 : decode cX7_freeYear 3 = .ok (.invokevirtual 183, 3) := by decide +kernel
theorem dX7_freeYear_6 : decode cX7_freeYear 6 = .ok (.ifCond .eq 7, 3) := by decide +kernel
theorem dX7_freeYear_9 : decode cX7_freeYear 9 = .ok (.iconst 0, 1) := by decide +kernel
theorem dX7_freeYear_10 : decode cX7_freeYear 10 = .ok (.goto 4, 3) := by decide +kernel
theorem dX7_freeYear_13 : decode cX7_freeYear 13 = .ok (.iconst 1, 1) := by decide +kernel
theorem dX7_freeYear_14 : decode cX7_freeYear 14 = .ok (.invokevirtual 125, 3) := by decide +kernel
theorem dX7_freeYear_17 : decode cX7_freeYear 17 = .ok (.ifCond .eq 5, 3) := by decide +kernel
theorem dX7_freeYear_20 : decode cX7_freeYear 20 = .ok (.iconst 0, 1) := by decide +kernel
theorem dX7_freeYear_21 : decode cX7_freeYear 21 = .ok (.ireturn, 1) := by decide +kernel
theorem dX7_freeYear_22 : decode cX7_freeYear 22 = .ok (.aload_n 0, 1) := by decide +kernel
theorem dX7_freeYear_23 : decode cX7_freeYear 23 = .ok (.invokevirtual 225, 3) := by decide +kernel
theorem dX7_freeYear_26 : decode cX7_freeYear 26 = .ok (.aload_n 0, 1) := by decide +kernel
theorem dX7_freeYear_27 : decode cX7_freeYear 27 = .ok (.getfield 16, 3) := by decide +kernel
theorem dX7_freeYear_30 : decode cX7_freeYear 30 = .ok (.iload_n 1, 1) := by decide +kernel
theorem dX7_freeYear_31 : decode cX7_freeYear 31 = .ok (.iconst 0, 1) := by decide +kernel
theorem dX7_freeYear_32 : decode cX7_freeYear 32 = .ok (.invokestatic 67, 3) := by decide +kernel
theorem dX7_freeYear_35 : decode cX7_freeYear 35 = .ok (.iaload, 1) := by decide +kernel
theorem dX7_freeYear_36 : decode cX7_freeYear 36 = .ok (.istore_n 2, 1) := by decide +kernel
theorem dX7_freeYear_37 : decode cX7_freeYear 37 = .ok (.iconst 0, 1) := by decide +kernel
theorem dX7_freeYear_38 : decode cX7_freeYear 38 = .ok (.istore_n 3, 1) := by decide +kernel
theorem dX7_freeYear_39 : decode cX7_freeYear 39 = .ok (.iload_n 3, 1) := by decide +kernel
theorem dX7_freeYear_40 : decode cX7_freeYear 40 = .ok (.sipush 1999, 3) := by decide +kernel
theorem dX7_freeYear_43 : decode cX7_freeYear 43 = .ok (.if_icmp .gt 57, 3) := by decide +kernel
theorem dX7_freeYear_46 : decode cX7_freeYear 46 = .ok (.iload_n 2, 1) := by decide +kernel
theorem dX7_freeYear_47 : decode cX7_freeYear 47 = .ok (.iload_n 3, 1) := by decide +kernel
theorem dX7_freeYear_48 : decode cX7_freeYear 48 = .ok (.isub, 1) := by decide +kernel
theorem dX7_freeYear_49 : decode cX7_freeYear 49 = .ok (.invokestatic 211, 3) := by decide +kernel
theorem dX7_freeYear_52 : decode cX7_freeYear 52 = .ok (.ifCond .eq 18, 3) := by decide +kernel
theorem dX7_freeYear_55 : decode cX7_freeYear 55 = .ok (.aload_n 0, 1) := by decide +kernel
theorem dX7_freeYear_56 : decode cX7_freeYear 56 = .ok (.iload_n 1, 1) := by decide +kernel
theorem dX7_freeYear_57 : decode cX7_freeYear 57 = .ok (.iload_n 2, 1) := by decide +kernel
theorem dX7_freeYear_58 : decode cX7_freeYear 58 = .ok (.iload_n 3, 1) := by decide +kernel
theorem dX7_freeYear_59 : decode cX7_freeYear 59 = .ok (.isub, 1) := by decide +kernel
theorem dX7_freeYear_60 : decode cX7_freeYear 60 = .ok (.invokevirtual 231, 3) := by decide +kernel
theorem dX7_freeYear_63 : decode cX7_freeYear 63 = .ok (.ifCond .eq 7, 3) := by decide +kernel
theorem dX7_freeYear_66 : decode cX7_freeYear 66 = .ok (.iload_n 2, 1) := by decide +kernel
theorem dX7_freeYear_67 : decode cX7_freeYear 67 = .ok (.iload_n 3, 1) := by decide +kernel
theorem dX7_freeYear_68 : decode cX7_freeYear 68 = .ok (.isub, 1) := by decide +kernel
theorem dX7_freeYear_69 : decode cX7_freeYear 69 = .ok (.ireturn, 1) := by decide +kernel
theorem dX7_freeYear_70 : decode cX7_freeYear 70 = .ok (.iload_n 2, 1) := by decide +kernel
theorem dX7_freeYear_71 : decode cX7_freeYear 71 = .ok (.iload_n 3, 1) := by decide +kernel
theorem dX7_freeYear_72 : decode cX7_freeYear 72 = .ok (.iadd, 1) := by decide +kernel
theorem dX7_freeYear_73 : decode cX7_freeYear 73 = .ok (.invokestatic 211, 3) := by decide +kernel
theorem dX7_freeYear_76 : decode cX7_freeYear 76 = .ok (.ifCond .eq 18, 3) := by decide +kernel
theorem dX7_freeYear_79 : decode cX7_freeYear 79 = .ok (.aload_n 0, 1) := by decide +kernel
theorem dX7_freeYear_80 : decode cX7_freeYear 80 = .ok (.iload_n 1, 1) := by decide +kernel
theorem dX7_freeYear_81 : decode cX7_freeYear 81 = .ok (.iload_n 2, 1) := by decide +kernel
theorem dX7_freeYear_82 : decode cX7_freeYear 82 = .ok (.iload_n 3, 1) := by decide +kernel
theorem dX7_freeYear_83 : decode cX7_freeYear 83 = .ok (.iadd, 1) := by decide +kernel
theorem dX7_freeYear_84 : decode cX7_freeYear 84 = .ok (.invokevirtual 231, 3) := by decide +kernel
theorem dX7_freeYear_87 : decode cX7_freeYear 87 = .ok (.ifCond .eq 7, 3) := by decide +kernel
theorem dX7_freeYear_90 : decode cX7_freeYear 90 = .ok (.iload_n 2, 1) := by decide +kernel
theorem dX7_freeYear_91 : decode cX7_freeYear 91 = .ok (.iload_n 3, 1) := by decide +kernel
theorem dX7_freeYear_92 : decode cX7_freeYear 92 = .ok (.iadd, 1) := by decide +kernel
theorem dX7_freeYear_93 : decode cX7_freeYear 93 = .ok (.ireturn, 1) := by decide +kernel
theorem dX7_freeYear_94 : decode cX7_freeYear 94 = .ok (.iinc 3 1, 3) := by decide +kernel
theorem dX7_freeYear_97 : decode cX7_freeYear 97 = .ok (.goto (-58), 3) := by decide +kernel
theorem dX7_freeYear_100 : decode cX7_freeYear 100 = .ok (.bipush (-9), 2) := by decide +kernel
theorem dX7_freeYear_102 : decode cX7_freeYear 102 = .ok (.ireturn, 1) := by decide +kernel
set_option maxRecDepth 20000 in
theorem ggX7_letteredBy_X7_lay : GoodIn wsX7_letteredBy wsX7_lay := goodIn_r _ [7, 8, 9, 10, 2, 11, 12, 13, 14, 6, 15, 16, 17, 18, 19, 20, 21, 22, 23, 24, 25, 26, 27, 28, 29, 30, 31, 32, 33, 34, 35, 36, 37, 38, 39, 40, 41, 42, 43, 44, 45, 46, 47, 48, 52, 53, 54, 55, 56, 57, 58, 59, 60, 61, 62, 63, 64, 65, 66, 67, 68, 69] (by decide +kernel) (by decide +kernel)
set_option maxRecDepth 20000 in
theorem gX7_letteredBy_X7_lay : GoodIn wsX7_letteredBy (wsV RX7 108 RX7 yX7_lay wsX7_lay) := goodIn_app (goodIn_of _ (by decide +kernel)) ggX7_letteredBy_X7_lay
set_option maxRecDepth 20000 in
theorem ggX7_letteredBy_X7_lettered : GoodIn wsX7_letteredBy wsX7_lettered := goodIn_r _ [51] (by decide +kernel) (by decide +kernel)
set_option maxRecDepth 20000 in
theorem gX7_letteredBy_X7_lettered : GoodIn wsX7_letteredBy (va_wsS RX7 170 yX7_lettered wsX7_lettered) := goodIn_app (goodIn_of _ (by decide +kernel)) ggX7_letteredBy_X7_lettered
theorem dX7_letteredBy_0 : decode cX7_letteredBy 0 = .ok (.aload_n 0, 1) := by decide +kernel
theorem dX7_letteredBy_1 : decode cX7_letteredBy 1 = .ok (.aload_n 0, 1) := by decide +kernel
theorem dX7_letteredBy_2 : decode cX7_letteredBy 2 = .ok (.getfield 16, 3) := by decide +kernel
theorem dX7_letteredBy_5 : decode cX7_letteredBy 5 = .ok (.iload_n 1, 1) := by decide +kernel
theorem dX7_letteredBy_6 : decode cX7_letteredBy 6 = .ok (.invokevirtual 108, 3) := by decide +kernel
theorem dX7_letteredBy_9 : decode cX7_letteredBy 9 = .ok (.aload_n 0, 1) := by decide +kernel
theorem dX7_letteredBy_10 : decode cX7_letteredBy 10 = .ok (.getfield 35, 3) := by decide +kernel
theorem dX7_letteredBy_13 : decode cX7_letteredBy 13 = .ok (.aload_n 0, 1) := by decide +kernel
theorem dX7_letteredBy_14 : decode cX7_letteredBy 14 = .ok (.getfield 16, 3) := by decide +kernel
theorem dX7_letteredBy_17 : decode cX7_letteredBy 17 = .ok (.iconst 0, 1) := by decide +kernel
theorem dX7_letteredBy_18 : decode cX7_letteredBy 18 = .ok (.iaload, 1) := by decide +kernel
theorem dX7_letteredBy_19 : decode cX7_letteredBy 19 = .ok (.invokestatic 170, 3) := by decide +kernel
theorem dX7_letteredBy_22 : decode cX7_letteredBy 22 = .ok (.ireturn, 1) := by decide +kernel
set_option maxRecDepth 20000 in
theorem ggX7_lettersWith_X7_isStyle : GoodIn wsX7_lettersWith wsX7_isStyle := goodIn_r _ [4, 5, 6, 7, 3, 8] (by decide +kernel) (by decide +kernel)
set_option maxRecDepth 20000 in
theorem gX7_lettersWith_X7_isStyle : GoodIn wsX7_lettersWith (va_wsS RX7 219 yX7_isStyle wsX7_isStyle) := goodIn_app (goodIn_of _ (by decide +kernel)) ggX7_lettersWith_X7_isStyle
set_option maxRecDepth 20000 in
theorem ggX7_lettersWith_X7_refused : GoodIn wsX7_lettersWith wsX7_refused := goodIn_r _ [12, 13, 68, 69, 70, 71, 72, 73, 74, 75, 76, 77, 78, 79, 80, 81, 82, 83, 84, 85] (by decide +kernel) (by decide +kernel)
set_option maxRecDepth 20000 in
theorem gX7_lettersWith_X7_refused : GoodIn wsX7_lettersWith (wsV RX7 125 RX7 yX7_refused wsX7_refused) := goodIn_app (goodIn_of _ (by decide +kernel)) ggX7_lettersWith_X7_refused
set_option maxRecDepth 20000 in
theorem ggX7_lettersWith_X7_letteredBy : GoodIn wsX7_lettersWith wsX7_letteredBy := goodIn_r _ [17, 18, 19, 20, 21, 22, 3, 23, 24, 25, 26, 27, 28, 29, 30, 31, 32, 33, 34, 35, 36, 37, 38, 39, 40, 41, 42, 43, 44, 45, 46, 47, 48, 49, 50, 51, 52, 53, 54, 55, 56, 57, 58, 59, 60, 61, 62, 63, 64, 65, 66, 67, 68, 69, 70, 71, 72, 73, 74, 75, 76, 77, 78, 79, 80, 81, 82, 83, 84, 85] (by decide +kernel) (by decide +kernel)
set_option maxRecDepth 20000 in
theorem gX7_lettersWith_X7_letteredBy : GoodIn wsX7_lettersWith (wsV RX7 235 RX7 yX7_letteredBy wsX7_letteredBy) := goodIn_app (goodIn_of _ (by decide +kernel)) ggX7_lettersWith_X7_letteredBy
theorem dX7_lettersWith_0 : decode cX7_lettersWith 0 = .ok (.aload_n 0, 1) := by decide +kernel
theorem dX7_lettersWith_1 : decode cX7_lettersWith 1 = .ok (.iload_n 1, 1) := by decide +kernel
theorem dX7_lettersWith_2 : decode cX7_lettersWith 2 = .ok (.invokestatic 219, 3) := by decide +kernel
theorem dX7_lettersWith_5 : decode cX7_lettersWith 5 = .ok (.ifCond .eq 7, 3) := by decide +kernel
theorem dX7_lettersWith_8 : decode cX7_lettersWith 8 = .ok (.iconst 0, 1) := by decide +kernel
theorem dX7_lettersWith_9 : decode cX7_lettersWith 9 = .ok (.goto 4, 3) := by decide +kernel
theorem dX7_lettersWith_12 : decode cX7_lettersWith 12 = .ok (.iconst 1, 1) := by decide +kernel
theorem dX7_lettersWith_13 : decode cX7_lettersWith 13 = .ok (.invokevirtual 125, 3) := by decide +kernel
theorem dX7_lettersWith_16 : decode cX7_lettersWith 16 = .ok (.ifCond .eq 7, 3) := by decide +kernel
theorem dX7_lettersWith_19 : decode cX7_lettersWith 19 = .ok (.iconst 0, 1) := by decide +kernel
theorem dX7_lettersWith_20 : decode cX7_lettersWith 20 = .ok (.goto 8, 3) := by decide +kernel
theorem dX7_lettersWith_23 : decode cX7_lettersWith 23 = .ok (.aload_n 0, 1) := by decide +kernel
theorem dX7_lettersWith_24 : decode cX7_lettersWith 24 = .ok (.iload_n 1, 1) := by decide +kernel
theorem dX7_lettersWith_25 : decode cX7_lettersWith 25 = .ok (.invokevirtual 235, 3) := by decide +kernel
theorem dX7_lettersWith_28 : decode cX7_lettersWith 28 = .ok (.ireturn, 1) := by decide +kernel
set_option maxRecDepth 20000 in
theorem ggX7_bestStyle_X7_letteredBy : GoodIn wsX7_bestStyle wsX7_letteredBy := goodIn_r _ [7, 2, 8, 9, 10, 11, 6, 12, 13, 14, 15, 16, 17, 18, 19, 20, 21, 22, 23, 24, 25, 26, 27, 28, 29, 30, 31, 32, 33, 34, 35, 36, 37, 38, 39, 40, 41, 42, 43, 44, 45, 46, 47, 48, 49, 50, 51, 52, 53, 54, 55, 56, 61, 62, 63, 64, 65, 66, 67, 68, 69, 70, 71, 72, 73, 74, 75, 76, 77, 78] (by decide +kernel) (by decide +kernel)
set_option maxRecDepth 20000 in
theorem gX7_bestStyle_X7_letteredBy : GoodIn wsX7_bestStyle (wsV RX7 235 RX7 yX7_letteredBy wsX7_letteredBy) := goodIn_app (goodIn_of _ (by decide +kernel)) ggX7_bestStyle_X7_letteredBy
set_option maxRecDepth 20000 in
theorem ggX7_bestStyle_X7_longest : GoodIn wsX7_bestStyle wsX7_longest := goodIn_r _ [60, 14, 61, 62, 63, 64, 65, 66, 67, 68, 69, 70, 71, 72, 73, 74, 75, 76, 77, 78] (by decide +kernel) (by decide +kernel)
set_option maxRecDepth 20000 in
theorem gX7_bestStyle_X7_longest : GoodIn wsX7_bestStyle (wsV RX7 176 RX7 yX7_longest wsX7_longest) := goodIn_app (goodIn_of _ (by decide +kernel)) ggX7_bestStyle_X7_longest
theorem dX7_bestStyle_0 : decode cX7_bestStyle 0 = .ok (.aload_n 0, 1) := by decide +kernel
theorem dX7_bestStyle_1 : decode cX7_bestStyle 1 = .ok (.iconst 0, 1) := by decide +kernel
theorem dX7_bestStyle_2 : decode cX7_bestStyle 2 = .ok (.putfield 54, 3) := by decide +kernel
theorem dX7_bestStyle_5 : decode cX7_bestStyle 5 = .ok (.iconst 0, 1) := by decide +kernel
theorem dX7_bestStyle_6 : decode cX7_bestStyle 6 = .ok (.istore_n 1, 1) := by decide +kernel
theorem dX7_bestStyle_7 : decode cX7_bestStyle 7 = .ok (.aload_n 0, 1) := by decide +kernel
theorem dX7_bestStyle_8 : decode cX7_bestStyle 8 = .ok (.iconst 0, 1) := by decide +kernel
theorem dX7_bestStyle_9 : decode cX7_bestStyle 9 = .ok (.invokevirtual 235, 3) := by decide +kernel
theorem dX7_bestStyle_12 : decode cX7_bestStyle 12 = .ok (.istore_n 2, 1) := by decide +kernel
theorem dX7_bestStyle_13 : decode cX7_bestStyle 13 = .ok (.aload_n 0, 1) := by decide +kernel
theorem dX7_bestStyle_14 : decode cX7_bestStyle 14 = .ok (.aload_n 0, 1) := by decide +kernel
theorem dX7_bestStyle_15 : decode cX7_bestStyle 15 = .ok (.getfield 16, 3) := by decide +kernel
theorem dX7_bestStyle_18 : decode cX7_bestStyle 18 = .ok (.iconst 0, 1) := by decide +kernel
theorem dX7_bestStyle_19 : decode cX7_bestStyle 19 = .ok (.iaload, 1) := by decide +kernel
theorem dX7_bestStyle_20 : decode cX7_bestStyle 20 = .ok (.invokevirtual 176, 3) := by decide +kernel
theorem dX7_bestStyle_23 : decode cX7_bestStyle 23 = .ok (.istore_n 3, 1) := by decide +kernel
theorem dX7_bestStyle_24 : decode cX7_bestStyle 24 = .ok (.iconst 1, 1) := by decide +kernel
theorem dX7_bestStyle_25 : decode cX7_bestStyle 25 = .ok (.istore 4, 2) := by decide +kernel
theorem dX7_bestStyle_27 : decode cX7_bestStyle 27 = .ok (.iload 4, 2) := by decide +kernel
theorem dX7_bestStyle_29 : decode cX7_bestStyle 29 = .ok (.iconst 4, 1) := by decide +kernel
theorem dX7_bestStyle_30 : decode cX7_bestStyle 30 = .ok (.if_icmp .ge 56, 3) := by decide +kernel
theorem dX7_bestStyle_33 : decode cX7_bestStyle 33 = .ok (.aload_n 0, 1) := by decide +kernel
theorem dX7_bestStyle_34 : decode cX7_bestStyle 34 = .ok (.iload 4, 2) := by decide +kernel
theorem dX7_bestStyle_36 : decode cX7_bestStyle 36 = .ok (.invokevirtual 235, 3) := by decide +kernel
theorem dX7_bestStyle_39 : decode cX7_bestStyle 39 = .ok (.istore 5, 2) := by decide +kernel
theorem dX7_bestStyle_41 : decode cX7_bestStyle 41 = .ok (.aload_n 0, 1) := by decide +kernel
theorem dX7_bestStyle_42 : decode cX7_bestStyle 42 = .ok (.aload_n 0, 1) := by decide +kernel
theorem dX7_bestStyle_43 : decode cX7_bestStyle 43 = .ok (.getfield 16, 3) := by decide +kernel
theorem dX7_bestStyle_46 : decode cX7_bestStyle 46 = .ok (.iconst 0, 1) := by decide +kernel
theorem dX7_bestStyle_47 : decode cX7_bestStyle 47 = .ok (.iaload, 1) := by decide +kernel
theorem dX7_bestStyle_48 : decode cX7_bestStyle 48 = .ok (.invokevirtual 176, 3) := by decide +kernel
theorem dX7_bestStyle_51 : decode cX7_bestStyle 51 = .ok (.istore 6, 2) := by decide +kernel
theorem dX7_bestStyle_53 : decode cX7_bestStyle 53 = .ok (.iload 5, 2) := by decide +kernel
theorem dX7_bestStyle_55 : decode cX7_bestStyle 55 = .ok (.iload_n 2, 1) := by decide +kernel
theorem dX7_bestStyle_56 : decode cX7_bestStyle 56 = .ok (.if_icmp .lt 15, 3) := by decide +kernel
theorem dX7_bestStyle_59 : decode cX7_bestStyle 59 = .ok (.iload 5, 2) := by decide +kernel
theorem dX7_bestStyle_61 : decode cX7_bestStyle 61 = .ok (.iload_n 2, 1) := by decide +kernel
theorem dX7_bestStyle_62 : decode cX7_bestStyle 62 = .ok (.if_icmp .ne 18, 3) := by decide +kernel
theorem dX7_bestStyle_65 : decode cX7_bestStyle 65 = .ok (.iload 6, 2) := by decide +kernel
theorem dX7_bestStyle_67 : decode cX7_bestStyle 67 = .ok (.iload_n 3, 1) := by decide +kernel
theorem dX7_bestStyle_68 : decode cX7_bestStyle 68 = .ok (.if_icmp .ge 12, 3) := by decide +kernel
theorem dX7_bestStyle_71 : decode cX7_bestStyle 71 = .ok (.iload 4, 2) := by decide +kernel
theorem dX7_bestStyle_73 : decode cX7_bestStyle 73 = .ok (.istore_n 1, 1) := by decide +kernel
theorem dX7_bestStyle_74 : decode cX7_bestStyle 74 = .ok (.iload 5, 2) := by decide +kernel
theorem dX7_bestStyle_76 : decode cX7_bestStyle 76 = .ok (.istore_n 2, 1) := by decide +kernel
theorem dX7_bestStyle_77 : decode cX7_bestStyle 77 = .ok (.iload 6, 2) := by decide +kernel
theorem dX7_bestStyle_79 : decode cX7_bestStyle 79 = .ok (.istore_n 3, 1) := by decide +kernel
theorem dX7_bestStyle_80 : decode cX7_bestStyle 80 = .ok (.iinc 4 1, 3) := by decide +kernel
theorem dX7_bestStyle_83 : decode cX7_bestStyle 83 = .ok (.goto (-56), 3) := by decide +kernel
theorem dX7_bestStyle_86 : decode cX7_bestStyle 86 = .ok (.iload_n 1, 1) := by decide +kernel
theorem dX7_bestStyle_87 : decode cX7_bestStyle 87 = .ok (.ireturn, 1) := by decide +kernel
set_option maxRecDepth 20000 in
theorem ggX7_weightiest_X7_without : GoodIn wsX7_weightiest wsX7_without := goodIn_r _ [7, 8, 9, 10, 11, 6, 12, 13, 14, 15, 16, 17, 18, 2, 19, 20, 21, 22, 23, 24, 25, 26, 27, 28, 29, 30, 31, 32, 33, 34, 35, 36, 37, 38, 39, 40, 41, 42, 43, 44, 45, 46, 47, 48, 49, 50, 51, 52, 53, 54, 55, 56, 57, 58, 59, 60, 61, 62, 63, 64, 65, 66, 67, 68, 69, 70, 71, 72, 73, 74, 75, 76, 77, 78, 79, 80, 81, 82, 83, 84, 85, 86, 87, 88, 89, 90, 91, 92] (by decide +kernel) (by decide +kernel)
set_option maxRecDepth 20000 in
theorem gX7_weightiest_X7_without : GoodIn wsX7_weightiest (wsV RX7 228 RX7 yX7_without wsX7_without) := goodIn_app (goodIn_of _ (by decide +kernel)) ggX7_weightiest_X7_without
theorem dX7_weightiest_0 : decode cX7_weightiest 0 = .ok (.aload_n 0, 1) := by decide +kernel
theorem dX7_weightiest_1 : decode cX7_weightiest 1 = .ok (.iconst 0, 1) := by decide +kernel
theorem dX7_weightiest_2 : decode cX7_weightiest 2 = .ok (.putfield 54, 3) := by decide +kernel
theorem dX7_weightiest_5 : decode cX7_weightiest 5 = .ok (.bipush (-9), 2) := by decide +kernel
theorem dX7_weightiest_7 : decode cX7_weightiest 7 = .ok (.istore_n 1, 1) := by decide +kernel
theorem dX7_weightiest_8 : decode cX7_weightiest 8 = .ok (.bipush (-9), 2) := by decide +kernel
theorem dX7_weightiest_10 : decode cX7_weightiest 10 = .ok (.istore_n 2, 1) := by decide +kernel
theorem dX7_weightiest_11 : decode cX7_weightiest 11 = .ok (.iconst 0, 1) := by decide +kernel
theorem dX7_weightiest_12 : decode cX7_weightiest 12 = .ok (.istore_n 3, 1) := by decide +kernel
theorem dX7_weightiest_13 : decode cX7_weightiest 13 = .ok (.iload_n 3, 1) := by decide +kernel
theorem dX7_weightiest_14 : decode cX7_weightiest 14 = .ok (.aload_n 0, 1) := by decide +kernel
theorem dX7_weightiest_15 : decode cX7_weightiest 15 = .ok (.getfield 16, 3) := by decide +kernel
theorem dX7_weightiest_18 : decode cX7_weightiest 18 = .ok (.iconst 0, 1) := by decide +kernel
theorem dX7_weightiest_19 : decode cX7_weightiest 19 = .ok (.iaload, 1) := by decide +kernel
theorem dX7_weightiest_20 : decode cX7_weightiest 20 = .ok (.if_icmp .ge 41, 3) := by decide +kernel
theorem dX7_weightiest_23 : decode cX7_weightiest 23 = .ok (.aload_n 0, 1) := by decide +kernel
theorem dX7_weightiest_24 : decode cX7_weightiest 24 = .ok (.iload_n 3, 1) := by decide +kernel
theorem dX7_weightiest_25 : decode cX7_weightiest 25 = .ok (.invokevirtual 228, 3) := by decide +kernel
theorem dX7_weightiest_28 : decode cX7_weightiest 28 = .ok (.istore 4, 2) := by decide +kernel
theorem dX7_weightiest_30 : decode cX7_weightiest 30 = .ok (.iload 4, 2) := by decide +kernel
theorem dX7_weightiest_32 : decode cX7_weightiest 32 = .ok (.iload_n 2, 1) := by decide +kernel
theorem dX7_weightiest_33 : decode cX7_weightiest 33 = .ok (.if_icmp .le 7, 3) := by decide +kernel
theorem dX7_weightiest_36 : decode cX7_weightiest 36 = .ok (.iload_n 3, 1) := by decide +kernel
theorem dX7_weightiest_37 : decode cX7_weightiest 37 = .ok (.goto 4, 3) := by decide +kernel
theorem dX7_weightiest_40 : decode cX7_weightiest 40 = .ok (.iload_n 1, 1) := by decide +kernel
theorem dX7_weightiest_41 : decode cX7_weightiest 41 = .ok (.istore_n 1, 1) := by decide +kernel
theorem dX7_weightiest_42 : decode cX7_weightiest 42 = .ok (.iload 4, 2) := by decide +kernel
theorem dX7_weightiest_44 : decode cX7_weightiest 44 = .ok (.iload_n 2, 1) := by decide +kernel
theorem dX7_weightiest_45 : decode cX7_weightiest 45 = .ok (.if_icmp .le 8, 3) := by decide +kernel
theorem dX7_weightiest_48 : decode cX7_weightiest 48 = .ok (.iload 4, 2) := by decide +kernel
theorem dX7_weightiest_50 : decode cX7_weightiest 50 = .ok (.goto 4, 3) := by decide +kernel
theorem dX7_weightiest_53 : decode cX7_weightiest 53 = .ok (.iload_n 2, 1) := by decide +kernel
theorem dX7_weightiest_54 : decode cX7_weightiest 54 = .ok (.istore_n 2, 1) := by decide +kernel
theorem dX7_weightiest_55 : decode cX7_weightiest 55 = .ok (.iinc 3 1, 3) := by decide +kernel
theorem dX7_weightiest_58 : decode cX7_weightiest 58 = .ok (.goto (-45), 3) := by decide +kernel
theorem dX7_weightiest_61 : decode cX7_weightiest 61 = .ok (.iload_n 1, 1) := by decide +kernel
theorem dX7_weightiest_62 : decode cX7_weightiest 62 = .ok (.ireturn, 1) := by decide +kernel
theorem dX7_has_0 : decode cX7_has 0 = .ok (.iload_n 1, 1) := by decide +kernel
theorem dX7_has_1 : decode cX7_has 1 = .ok (.aload_n 0, 1) := by decide +kernel
theorem dX7_has_2 : decode cX7_has 2 = .ok (.iconst 0, 1) := by decide +kernel
theorem dX7_has_3 : decode cX7_has 3 = .ok (.iaload, 1) := by decide +kernel
theorem dX7_has_4 : decode cX7_has 4 = .ok (.if_icmp .ge 7, 3) := by decide +kernel
theorem dX7_has_7 : decode cX7_has 7 = .ok (.iconst 1, 1) := by decide +kernel
theorem dX7_has_8 : decode cX7_has 8 = .ok (.goto 4, 3) := by decide +kernel
theorem dX7_has_11 : decode cX7_has 11 = .ok (.iconst 0, 1) := by decide +kernel
theorem dX7_has_12 : decode cX7_has 12 = .ok (.ireturn, 1) := by decide +kernel
set_option maxRecDepth 20000 in
theorem ggX7_does_X7_lay : GoodIn wsX7_does wsX7_lay := goodIn_r _ [7, 8, 9, 10, 2, 11, 12, 13, 14, 6, 15, 16, 17, 18, 19, 20, 21, 22, 23, 24, 25, 26, 27, 28, 29, 30, 31, 32, 33, 34, 35, 36, 37, 38, 39, 40, 41, 42, 43, 44, 45, 46, 47, 48, 82, 83, 84, 85, 86, 87, 88, 89, 90, 91, 92, 93, 94, 95, 96, 97, 98, 99] (by decide +kernel) (by decide +kernel)
set_option maxRecDepth 20000 in
theorem gX7_does_X7_lay : GoodIn wsX7_does (wsV RX7 108 RX7 yX7_lay wsX7_lay) := goodIn_app (goodIn_of _ (by decide +kernel)) ggX7_does_X7_lay
set_option maxRecDepth 20000 in
theorem ggX7_does_X7_has : GoodIn wsX7_does wsX7_has := goodIn_r _ [51] (by decide +kernel) (by decide +kernel)
set_option maxRecDepth 20000 in
theorem gX7_does_X7_has : GoodIn wsX7_does (va_wsS RX7 238 yX7_has wsX7_has) := goodIn_app (goodIn_of _ (by decide +kernel)) ggX7_does_X7_has
set_option maxRecDepth 20000 in
theorem ggX7_does_X7_drop : GoodIn wsX7_does wsX7_drop := goodIn_r _ [54, 16, 17, 6, 18] (by decide +kernel) (by decide +kernel)
set_option maxRecDepth 20000 in
theorem gX7_does_X7_drop : GoodIn wsX7_does (va_wsS RX7 214 yX7_drop wsX7_drop) := goodIn_app (goodIn_of _ (by decide +kernel)) ggX7_does_X7_drop
set_option maxRecDepth 20000 in
theorem ggX7_does_X7_isStyle : GoodIn wsX7_does wsX7_isStyle := goodIn_r _ [57, 58, 59, 60, 6, 61] (by decide +kernel) (by decide +kernel)
set_option maxRecDepth 20000 in
theorem gX7_does_X7_isStyle : GoodIn wsX7_does (va_wsS RX7 219 yX7_isStyle wsX7_isStyle) := goodIn_app (goodIn_of _ (by decide +kernel)) ggX7_does_X7_isStyle
set_option maxRecDepth 20000 in
theorem ggX7_does_X7_cell : GoodIn wsX7_does wsX7_cell := goodIn_r _ [18] (by decide +kernel) (by decide +kernel)
set_option maxRecDepth 20000 in
theorem gX7_does_X7_cell : GoodIn wsX7_does (va_wsS RX7 67 yX7_cell wsX7_cell) := goodIn_app (goodIn_of _ (by decide +kernel)) ggX7_does_X7_cell
set_option maxRecDepth 20000 in
theorem ggX7_does_X7_isYear : GoodIn wsX7_does wsX7_isYear := goodIn_r _ [64, 65, 66, 59, 60, 6, 61] (by decide +kernel) (by decide +kernel)
set_option maxRecDepth 20000 in
theorem gX7_does_X7_isYear : GoodIn wsX7_does (va_wsS RX7 211 yX7_isYear wsX7_isYear) := goodIn_app (goodIn_of _ (by decide +kernel)) ggX7_does_X7_isYear
set_option maxRecDepth 20000 in
theorem ggX7_does_X7_lettered : GoodIn wsX7_does wsX7_lettered := goodIn_r _ [69] (by decide +kernel) (by decide +kernel)
set_option maxRecDepth 20000 in
theorem gX7_does_X7_lettered : GoodIn wsX7_does (va_wsS RX7 170 yX7_lettered wsX7_lettered) := goodIn_app (goodIn_of _ (by decide +kernel)) ggX7_does_X7_lettered
set_option maxRecDepth 20000 in
theorem ggX7_does_X7_goPrint : GoodIn wsX7_does wsX7_goPrint := goodIn_r _ [73, 9, 3, 4, 5, 6, 7, 8, 10, 2, 11, 12, 13, 14, 15, 16, 17, 18, 19, 20, 21, 22, 23, 24, 25, 26, 27, 28, 29, 30, 31, 32, 33, 34, 35, 36, 37, 38, 39, 40, 41, 42, 43, 44, 45, 46, 47, 48, 82, 83, 84, 85, 86, 87, 88, 89, 90, 91, 92, 93, 94, 95, 96, 97, 98, 99] (by decide +kernel) (by decide +kernel)
set_option maxRecDepth 20000 in
theorem gX7_does_X7_goPrint : GoodIn wsX7_does (wsV RX7 222 RX7 yX7_goPrint wsX7_goPrint) := goodIn_app (goodIn_of _ (by decide +kernel)) ggX7_does_X7_goPrint
set_option maxRecDepth 20000 in
theorem ggX7_does_X7_printedOf : GoodIn wsX7_does wsX7_printedOf := goodIn_r _ [77, 3, 4, 5, 6, 7, 8, 9, 10, 2, 11, 12, 13, 14, 15, 16, 17, 18, 19, 20, 21, 22, 23, 24, 25, 26, 27, 28, 29, 30, 31, 32, 33, 34, 35, 36, 37, 38, 39, 40, 41, 42, 43, 44, 45, 46, 47, 48, 78, 79, 80, 81, 82, 83, 84, 85, 86, 87, 88, 89, 90, 91, 92, 93, 94, 95, 96, 97, 98, 99] (by decide +kernel) (by decide +kernel)
set_option maxRecDepth 20000 in
theorem gX7_does_X7_printedOf : GoodIn wsX7_does (wsV RX7 192 RX7 yX7_printedOf wsX7_printedOf) := goodIn_app (goodIn_of _ (by decide +kernel)) ggX7_does_X7_printedOf
theorem dX7_does_0 : decode cX7_does 0 = .ok (.iload_n 1, 1) := by decide +kernel
theorem dX7_does_1 : decode cX7_does 1 = .ok (.sipush 1000, 3) := by decide +kernel
theorem dX7_does_4 : decode cX7_does 4 = .ok (.idiv, 1) := by decide +kernel
theorem dX7_does_5 : decode cX7_does 5 = .ok (.istore_n 2, 1) := by decide +kernel
theorem dX7_does_6 : decode cX7_does 6 = .ok (.iload_n 1, 1) := by decide +kernel
theorem dX7_does_7 : decode cX7_does 7 = .ok (.bipush 100, 2) := by decide +kernel
theorem dX7_does_9 : decode cX7_does 9 = .ok (.idiv, 1) := by decide +kernel
theorem dX7_does_10 : decode cX7_does 10 = .ok (.bipush 10, 2) := by decide +kernel
theorem dX7_does_12 : decode cX7_does 12 = .ok (.irem, 1) := by decide +kernel
theorem dX7_does_13 : decode cX7_does 13 = .ok (.istore_n 3, 1) := by decide +kernel
theorem dX7_does_14 : decode cX7_does 14 = .ok (.iload_n 1, 1) := by decide +kernel
theorem dX7_does_15 : decode cX7_does 15 = .ok (.bipush 100, 2) := by decide +kernel
theorem dX7_does_17 : decode cX7_does 17 = .ok (.irem, 1) := by decide +kernel
theorem dX7_does_18 : decode cX7_does 18 = .ok (.istore 4, 2) := by decide +kernel
theorem dX7_does_20 : decode cX7_does 20 = .ok (.iload_n 1, 1) := by decide +kernel
theorem dX7_does_21 : decode cX7_does 21 = .ok (.bipush 10, 2) := by decide +kernel
theorem dX7_does_23 : decode cX7_does 23 = .ok (.idiv, 1) := by decide +kernel
theorem dX7_does_24 : decode cX7_does 24 = .ok (.bipush 100, 2) := by decide +kernel
theorem dX7_does_26 : decode cX7_does 26 = .ok (.irem, 1) := by decide +kernel
theorem dX7_does_27 : decode cX7_does 27 = .ok (.istore 5, 2) := by decide +kernel
theorem dX7_does_29 : decode cX7_does 29 = .ok (.iload_n 1, 1) := by decide +kernel
theorem dX7_does_30 : decode cX7_does 30 = .ok (.bipush 10, 2) := by decide +kernel
theorem dX7_does_32 : decode cX7_does 32 = .ok (.irem, 1) := by decide +kernel
theorem dX7_does_33 : decode cX7_does 33 = .ok (.istore 6, 2) := by decide +kernel
theorem dX7_does_35 : decode cX7_does 35 = .ok (.aload_n 0, 1) := by decide +kernel
theorem dX7_does_36 : decode cX7_does 36 = .ok (.aload_n 0, 1) := by decide +kernel
theorem dX7_does_37 : decode cX7_does 37 = .ok (.getfield 19, 3) := by decide +kernel
theorem dX7_does_40 : decode cX7_does 40 = .ok (.aload_n 0, 1) := by decide +kernel
theorem dX7_does_41 : decode cX7_does 41 = .ok (.getfield 19, 3) := by decide +kernel
theorem dX7_does_44 : decode cX7_does 44 = .ok (.iconst 1, 1) := by decide +kernel
theorem dX7_does_45 : decode cX7_does 45 = .ok (.iaload, 1) := by decide +kernel
theorem dX7_does_46 : decode cX7_does 46 = .ok (.invokevirtual 108, 3) := by decide +kernel
theorem dX7_does_49 : decode cX7_does 49 = .ok (.iload_n 2, 1) := by decide +kernel
theorem dX7_does_50 : decode cX7_does 50 = .ok (.tableswitch 314 1 9 #[50, 79, 103, 125, 181, 213, 241, 260, 284], 50) := by decide +kernel
theorem dX7_does_100 : decode cX7_does 100 = .ok (.iload_n 3, 1) := by decide +kernel
theorem dX7_does_101 : decode cX7_does 101 = .ok (.ifCond .ne 15, 3) := by decide +kernel
theorem dX7_does_104 : decode cX7_does 104 = .ok (.aload_n 0, 1) := by decide +kernel
theorem dX7_does_105 : decode cX7_does 105 = .ok (.getfield 19, 3) := by decide +kernel
theorem dX7_does_108 : decode cX7_does 108 = .ok (.iload 4, 2) := by decide +kernel
theorem dX7_does_110 : decode cX7_does 110 = .ok (.invokestatic 238, 3) := by decide +kernel
theorem dX7_does_113 : decode cX7_does 113 = .ok (.ifCond .ne 5, 3) := by decide +kernel
theorem dX7_does_116 : decode cX7_does 116 = .ok (.iconst 0, 1) := by decide +kernel
theorem dX7_does_117 : decode cX7_does 117 = .ok (.ireturn, 1) := by decide +kernel
theorem dX7_does_118 : decode cX7_does 118 = .ok (.aload_n 0, 1) := by decide +kernel
theorem dX7_does_119 : decode cX7_does 119 = .ok (.getfield 19, 3) := by decide +kernel
theorem dX7_does_122 : decode cX7_does 122 = .ok (.iload 4, 2) := by decide +kernel
theorem dX7_does_124 : decode cX7_does 124 = .ok (.invokestatic 214, 3) := by decide +kernel
theorem dX7_does_127 : decode cX7_does 127 = .ok (.iconst 1, 1) := by decide +kernel
theorem dX7_does_128 : decode cX7_does 128 = .ok (.ireturn, 1) := by decide +kernel
theorem dX7_does_129 : decode cX7_does 129 = .ok (.iload_n 3, 1) := by decide +kernel
theorem dX7_does_130 : decode cX7_does 130 = .ok (.ifCond .ne 11, 3) := by decide +kernel
theorem dX7_does_133 : decode cX7_does 133 = .ok (.iload 4, 2) := by decide +kernel
theorem dX7_does_135 : decode cX7_does 135 = .ok (.invokestatic 219, 3) := by decide +kernel
theorem dX7_does_138 : decode cX7_does 138 = .ok (.ifCond .ne 5, 3) := by decide +kernel
theorem dX7_does_141 : decode cX7_does 141 = .ok (.iconst 0, 1) := by decide +kernel
theorem dX7_does_142 : decode cX7_does 142 = .ok (.ireturn, 1) := by decide +kernel
theorem dX7_does_143 : decode cX7_does 143 = .ok (.aload_n 0, 1) := by decide +kernel
theorem dX7_does_144 : decode cX7_does 144 = .ok (.getfield 19, 3) := by decide +kernel
theorem dX7_does_147 : decode cX7_does 147 = .ok (.iconst 1, 1) := by decide +kernel
theorem dX7_does_148 : decode cX7_does 148 = .ok (.iload 4, 2) := by decide +kernel
theorem dX7_does_150 : decode cX7_does 150 = .ok (.iastore, 1) := by decide +kernel
theorem dX7_does_151 : decode cX7_does 151 = .ok (.iconst 1, 1) := by decide +kernel
theorem dX7_does_152 : decode cX7_does 152 = .ok (.ireturn, 1) := by decide +kernel
theorem dX7_does_153 : decode cX7_does 153 = .ok (.iload_n 3, 1) := by decide +kernel
theorem dX7_does_154 : decode cX7_does 154 = .ok (.ifCond .ne 9, 3) := by decide +kernel
theorem dX7_does_157 : decode cX7_does 157 = .ok (.iload 4, 2) := by decide +kernel
theorem dX7_does_159 : decode cX7_does 159 = .ok (.iconst 1, 1) := by decide +kernel
theorem dX7_does_160 : decode cX7_does 160 = .ok (.if_icmp .le 5, 3) := by decide +kernel
theorem dX7_does_163 : decode cX7_does 163 = .ok (.iconst 0, 1) := by decide +kernel
theorem dX7_does_164 : decode cX7_does 164 = .ok (.ireturn, 1) := by decide +kernel
theorem dX7_does_165 : decode cX7_does 165 = .ok (.aload_n 0, 1) := by decide +kernel
theorem dX7_does_166 : decode cX7_does 166 = .ok (.getfield 19, 3) := by decide +kernel
theorem dX7_does_169 : decode cX7_does 169 = .ok (.iconst 2, 1) := by decide +kernel
theorem dX7_does_170 : decode cX7_does 170 = .ok (.iload 4, 2) := by decide +kernel
theorem dX7_does_172 : decode cX7_does 172 = .ok (.iastore, 1) := by decide +kernel
theorem dX7_does_173 : decode cX7_does 173 = .ok (.iconst 1, 1) := by decide +kernel
theorem dX7_does_174 : decode cX7_does 174 = .ok (.ireturn, 1) := by decide +kernel
theorem dX7_does_175 : decode cX7_does 175 = .ok (.aload_n 0, 1) := by decide +kernel
theorem dX7_does_176 : decode cX7_does 176 = .ok (.getfield 19, 3) := by decide +kernel
theorem dX7_does_179 : decode cX7_does 179 = .ok (.iload 5, 2) := by decide +kernel
theorem dX7_does_181 : decode cX7_does 181 = .ok (.invokestatic 238, 3) := by decide +kernel
theorem dX7_does_184 : decode cX7_does 184 = .ok (.ifCond .eq 25, 3) := by decide +kernel
theorem dX7_does_187 : decode cX7_does 187 = .ok (.aload_n 0, 1) := by decide +kernel
theorem dX7_does_188 : decode cX7_does 188 = .ok (.getfield 19, 3) := by decide +kernel
theorem dX7_does_191 : decode cX7_does 191 = .ok (.iload 5, 2) := by decide +kernel
theorem dX7_does_193 : decode cX7_does 193 = .ok (.iconst 0, 1) := by decide +kernel
theorem dX7_does_194 : decode cX7_does 194 = .ok (.invokestatic 67, 3) := by decide +kernel
theorem dX7_does_197 : decode cX7_does 197 = .ok (.iaload, 1) := by decide +kernel
theorem dX7_does_198 : decode cX7_does 198 = .ok (.iload 6, 2) := by decide +kernel
theorem dX7_does_200 : decode cX7_does 200 = .ok (.iadd, 1) := by decide +kernel
theorem dX7_does_201 : decode cX7_does 201 = .ok (.iconst 5, 1) := by decide +kernel
theorem dX7_does_202 : decode cX7_does 202 = .ok (.isub, 1) := by decide +kernel
theorem dX7_does_203 : decode cX7_does 203 = .ok (.invokestatic 211, 3) := by decide +kernel
theorem dX7_does_206 : decode cX7_does 206 = .ok (.ifCond .ne 5, 3) := by decide +kernel
theorem dX7_does_209 : decode cX7_does 209 = .ok (.iconst 0, 1) := by decide +kernel
theorem dX7_does_210 : decode cX7_does 210 = .ok (.ireturn, 1) := by decide +kernel
theorem dX7_does_211 : decode cX7_does 211 = .ok (.aload_n 0, 1) := by decide +kernel
theorem dX7_does_212 : decode cX7_does 212 = .ok (.getfield 19, 3) := by decide +kernel
theorem dX7_does_215 : decode cX7_does 215 = .ok (.iload 5, 2) := by decide +kernel
