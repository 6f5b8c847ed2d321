theorem dX6_at_28 : decode cX6_at 28 = .ok (.getfield 19, 3) := by decide +kernel
theorem dX6_at_31 : decode cX6_at 31 = .ok (.iload_n 2, 1) := by decide +kernel
theorem dX6_at_32 : decode cX6_at 32 = .ok (.invokevirtual 150, 3) := by decide +kernel
theorem dX6_at_35 : decode cX6_at 35 = .ok (.iload_n 1, 1) := by decide +kernel
theorem dX6_at_36 : decode cX6_at 36 = .ok (.if_icmp .ne 5, 3) := by decide +kernel
theorem dX6_at_39 : decode cX6_at 39 = .ok (.iload_n 2, 1) := by decide +kernel
theorem dX6_at_40 : decode cX6_at 40 = .ok (.ireturn, 1) := by decide +kernel
theorem dX6_at_41 : decode cX6_at 41 = .ok (.iinc 2 1, 3) := by decide +kernel
theorem dX6_at_44 : decode cX6_at 44 = .ok (.goto (-28), 3) := by decide +kernel
theorem dX6_at_47 : decode cX6_at 47 = .ok (.bipush (-9), 2) := by decide +kernel
theorem dX6_at_49 : decode cX6_at 49 = .ok (.ireturn, 1) := by decide +kernel
set_option maxRecDepth 20000 in
theorem ggX6_meaning_X4_spells : GoodIn wsX6_meaning wsX4_spells := goodIn_r _ [9, 10, 11, 12, 13, 14, 15, 16, 17, 18, 19, 20, 21, 22, 23, 24, 25, 26, 27, 28, 29, 30, 31, 32, 33, 34, 35, 36, 37, 38, 39, 40, 57, 58, 59, 60, 61, 62] (by decide +kernel) (by decide +kernel)
set_option maxRecDepth 20000 in
theorem gX6_meaning_X4_spells : GoodIn wsX6_meaning (wsV RX6 176 RX4 yX4_spells wsX4_spells) := goodIn_app (goodIn_of _ (by decide +kernel)) ggX6_meaning_X4_spells
theorem dX6_meaning_0 : decode cX6_meaning 0 = .ok (.iconst 0, 1) := by decide +kernel
theorem dX6_meaning_1 : decode cX6_meaning 1 = .ok (.istore_n 1, 1) := by decide +kernel
theorem dX6_meaning_2 : decode cX6_meaning 2 = .ok (.iload_n 1, 1) := by decide +kernel
theorem dX6_meaning_3 : decode cX6_meaning 3 = .ok (.aload_n 0, 1) := by decide +kernel
theorem dX6_meaning_4 : decode cX6_meaning 4 = .ok (.getfield 19, 3) := by decide +kernel
theorem dX6_meaning_7 : decode cX6_meaning 7 = .ok (.getfield 94, 3) := by decide +kernel
theorem dX6_meaning_10 : decode cX6_meaning 10 = .ok (.if_icmp .ge 30, 3) := by decide +kernel
theorem dX6_meaning_13 : decode cX6_meaning 13 = .ok (.aload_n 0, 1) := by decide +kernel
theorem dX6_meaning_14 : decode cX6_meaning 14 = .ok (.getfield 10, 3) := by decide +kernel
theorem dX6_meaning_17 : decode cX6_meaning 17 = .ok (.aload_n 0, 1) := by decide +kernel
theorem dX6_meaning_18 : decode cX6_meaning 18 = .ok (.getfield 19, 3) := by decide +kernel
theorem dX6_meaning_21 : decode cX6_meaning 21 = .ok (.getfield 140, 3) := by decide +kernel
theorem dX6_meaning_24 : decode cX6_meaning 24 = .ok (.iload_n 1, 1) := by decide +kernel
theorem dX6_meaning_25 : decode cX6_meaning 25 = .ok (.laload, 1) := by decide +kernel
theorem dX6_meaning_26 : decode cX6_meaning 26 = .ok (.invokevirtual 176, 3) := by decide +kernel
theorem dX6_meaning_29 : decode cX6_meaning 29 = .ok (.ifCond .eq 5, 3) := by decide +kernel
theorem dX6_meaning_32 : decode cX6_meaning 32 = .ok (.iload_n 1, 1) := by decide +kernel
theorem dX6_meaning_33 : decode cX6_meaning 33 = .ok (.ireturn, 1) := by decide +kernel
theorem dX6_meaning_34 : decode cX6_meaning 34 = .ok (.iinc 1 1, 3) := by decide +kernel
theorem dX6_meaning_37 : decode cX6_meaning 37 = .ok (.goto (-35), 3) := by decide +kernel
theorem dX6_meaning_40 : decode cX6_meaning 40 = .ok (.bipush (-9), 2) := by decide +kernel
theorem dX6_meaning_42 : decode cX6_meaning 42 = .ok (.ireturn, 1) := by decide +kernel
set_option maxRecDepth 20000 in
theorem ggX6_printedMeaning_X4_spells : GoodIn wsX6_printedMeaning wsX4_spells := goodIn_r _ [10, 11, 12, 13, 14, 15, 16, 17, 18, 19, 20, 21, 22, 23, 24, 25, 26, 27, 28, 29, 30, 31, 32, 33, 34, 35, 36, 37, 38, 39, 40, 41, 58, 59, 60, 61, 62, 63] (by decide +kernel) (by decide +kernel)
set_option maxRecDepth 20000 in
theorem gX6_printedMeaning_X4_spells : GoodIn wsX6_printedMeaning (wsV RX6 176 RX4 yX4_spells wsX4_spells) := goodIn_app (goodIn_of _ (by decide +kernel)) ggX6_printedMeaning_X4_spells
theorem dX6_printedMeaning_0 : decode cX6_printedMeaning 0 = .ok (.iconst 0, 1) := by decide +kernel
theorem dX6_printedMeaning_1 : decode cX6_printedMeaning 1 = .ok (.istore_n 1, 1) := by decide +kernel
theorem dX6_printedMeaning_2 : decode cX6_printedMeaning 2 = .ok (.iload_n 1, 1) := by decide +kernel
theorem dX6_printedMeaning_3 : decode cX6_printedMeaning 3 = .ok (.aload_n 0, 1) := by decide +kernel
theorem dX6_printedMeaning_4 : decode cX6_printedMeaning 4 = .ok (.getfield 19, 3) := by decide +kernel
theorem dX6_printedMeaning_7 : decode cX6_printedMeaning 7 = .ok (.getfield 112, 3) := by decide +kernel
theorem dX6_printedMeaning_10 : decode cX6_printedMeaning 10 = .ok (.if_icmp .ge 38, 3) := by decide +kernel
theorem dX6_printedMeaning_13 : decode cX6_printedMeaning 13 = .ok (.aload_n 0, 1) := by decide +kernel
theorem dX6_printedMeaning_14 : decode cX6_printedMeaning 14 = .ok (.getfield 10, 3) := by decide +kernel
theorem dX6_printedMeaning_17 : decode cX6_printedMeaning 17 = .ok (.aload_n 0, 1) := by decide +kernel
theorem dX6_printedMeaning_18 : decode cX6_printedMeaning 18 = .ok (.getfield 19, 3) := by decide +kernel
theorem dX6_printedMeaning_21 : decode cX6_printedMeaning 21 = .ok (.getfield 180, 3) := by decide +kernel
theorem dX6_printedMeaning_24 : decode cX6_printedMeaning 24 = .ok (.iload_n 1, 1) := by decide +kernel
theorem dX6_printedMeaning_25 : decode cX6_printedMeaning 25 = .ok (.laload, 1) := by decide +kernel
theorem dX6_printedMeaning_26 : decode cX6_printedMeaning 26 = .ok (.invokevirtual 176, 3) := by decide +kernel
theorem dX6_printedMeaning_29 : decode cX6_printedMeaning 29 = .ok (.ifCond .eq 13, 3) := by decide +kernel
theorem dX6_printedMeaning_32 : decode cX6_printedMeaning 32 = .ok (.aload_n 0, 1) := by decide +kernel
theorem dX6_printedMeaning_33 : decode cX6_printedMeaning 33 = .ok (.getfield 19, 3) := by decide +kernel
theorem dX6_printedMeaning_36 : decode cX6_printedMeaning 36 = .ok (.getfield 183, 3) := by decide +kernel
theorem dX6_printedMeaning_39 : decode cX6_printedMeaning 39 = .ok (.iload_n 1, 1) := by decide +kernel
theorem dX6_printedMeaning_40 : decode cX6_printedMeaning 40 = .ok (.iaload, 1) := by decide +kernel
theorem dX6_printedMeaning_41 : decode cX6_printedMeaning 41 = .ok (.ireturn, 1) := by decide +kernel
theorem dX6_printedMeaning_42 : decode cX6_printedMeaning 42 = .ok (.iinc 1 1, 3) := by decide +kernel
theorem dX6_printedMeaning_45 : decode cX6_printedMeaning 45 = .ok (.goto (-43), 3) := by decide +kernel
theorem dX6_printedMeaning_48 : decode cX6_printedMeaning 48 = .ok (.bipush (-9), 2) := by decide +kernel
theorem dX6_printedMeaning_50 : decode cX6_printedMeaning 50 = .ok (.ireturn, 1) := by decide +kernel
set_option maxRecDepth 20000 in
theorem ggX6_printed_X3_printedOfAnother : GoodIn wsX6_printed wsX3_printedOfAnother := goodIn_r _ [8, 9, 10, 11, 12, 7, 13, 14, 15, 16, 17, 18, 19, 20, 21, 22, 23, 24, 25, 35, 36, 37, 38, 39, 40, 41, 42, 43] (by decide +kernel) (by decide +kernel)
set_option maxRecDepth 20000 in
theorem gX6_printed_X3_printedOfAnother : GoodIn wsX6_printed (wsV RX6 187 RX3 yX3_printedOfAnother wsX3_printedOfAnother) := goodIn_app (goodIn_of _ (by decide +kernel)) ggX6_printed_X3_printedOfAnother
set_option maxRecDepth 20000 in
theorem ggX6_printed_X3_printedWithoutMeaning : GoodIn wsX6_printed wsX3_printedWithoutMeaning := goodIn_r _ [25, 9, 14, 16, 17, 18, 7, 19, 20, 21, 35, 36, 37, 38, 39, 40, 41, 42, 43] (by decide +kernel) (by decide +kernel)
set_option maxRecDepth 20000 in
theorem gX6_printed_X3_printedWithoutMeaning : GoodIn wsX6_printed (wsV RX6 190 RX3 yX3_printedWithoutMeaning wsX3_printedWithoutMeaning) := goodIn_app (goodIn_of _ (by decide +kernel)) ggX6_printed_X3_printedWithoutMeaning
set_option maxRecDepth 20000 in
theorem ggX6_printed_X3_printedStillRight : GoodIn wsX6_printed wsX3_printedStillRight := goodIn_r _ [13, 9, 14, 15, 16, 17, 18, 7, 19, 20, 21, 35, 36, 37, 38, 39, 40, 41, 42, 43] (by decide +kernel) (by decide +kernel)
set_option maxRecDepth 20000 in
theorem gX6_printed_X3_printedStillRight : GoodIn wsX6_printed (wsV RX6 193 RX3 yX3_printedStillRight wsX3_printedStillRight) := goodIn_app (goodIn_of _ (by decide +kernel)) ggX6_printed_X3_printedStillRight
theorem dX6_printed_0 : decode cX6_printed 0 = .ok (.iload_n 1, 1) := by decide +kernel
theorem dX6_printed_1 : decode cX6_printed 1 = .ok (.tableswitch 51 0 2 #[27, 35, 43], 27) := by decide +kernel
theorem dX6_printed_28 : decode cX6_printed 28 = .ok (.aload_n 0, 1) := by decide +kernel
theorem dX6_printed_29 : decode cX6_printed 29 = .ok (.getfield 19, 3) := by decide +kernel
theorem dX6_printed_32 : decode cX6_printed 32 = .ok (.invokevirtual 187, 3) := by decide +kernel
theorem dX6_printed_35 : decode cX6_printed 35 = .ok (.ireturn, 1) := by decide +kernel
theorem dX6_printed_36 : decode cX6_printed 36 = .ok (.aload_n 0, 1) := by decide +kernel
theorem dX6_printed_37 : decode cX6_printed 37 = .ok (.getfield 19, 3) := by decide +kernel
theorem dX6_printed_40 : decode cX6_printed 40 = .ok (.invokevirtual 190, 3) := by decide +kernel
theorem dX6_printed_43 : decode cX6_printed 43 = .ok (.ireturn, 1) := by decide +kernel
theorem dX6_printed_44 : decode cX6_printed 44 = .ok (.aload_n 0, 1) := by decide +kernel
theorem dX6_printed_45 : decode cX6_printed 45 = .ok (.getfield 19, 3) := by decide +kernel
theorem dX6_printed_48 : decode cX6_printed 48 = .ok (.invokevirtual 193, 3) := by decide +kernel
theorem dX6_printed_51 : decode cX6_printed 51 = .ok (.ireturn, 1) := by decide +kernel
theorem dX6_printed_52 : decode cX6_printed 52 = .ok (.new 48, 3) := by decide +kernel
theorem dX6_printed_55 : decode cX6_printed 55 = .ok (.dup, 1) := by decide +kernel
theorem dX6_printed_56 : decode cX6_printed 56 = .ok (.ldc 196, 2) := by decide +kernel
theorem dX6_printed_58 : decode cX6_printed 58 = .ok (.invokespecial 52, 3) := by decide +kernel
theorem dX6_printed_61 : decode cX6_printed 61 = .ok (.athrow, 1) := by decide +kernel
set_option maxRecDepth 20000 in
theorem ggX6_add_X6_tellsOneWork : GoodIn wsX6_add wsX6_tellsOneWork := goodIn_r _ [12, 6, 13, 14, 15, 16, 17, 18, 19, 20, 21, 22, 23, 24, 25, 26, 27, 28, 29, 30, 31, 32, 33, 34, 35, 36, 37, 38, 39, 40, 41, 42, 43, 44, 45, 46, 47, 48, 49, 50, 51, 52, 53, 54, 55, 56, 57, 58, 59, 60, 61, 62, 63, 64, 65, 66, 67, 68, 69, 70, 71, 72, 159, 160, 161, 162, 163, 164, 165, 175, 176, 177, 178, 179, 180, 181, 182, 183, 184] (by decide +kernel) (by decide +kernel)
set_option maxRecDepth 20000 in
theorem gX6_add_X6_tellsOneWork : GoodIn wsX6_add (wsV RX6 198 RX6 yX6_tellsOneWork wsX6_tellsOneWork) := goodIn_app (goodIn_of _ (by decide +kernel)) ggX6_add_X6_tellsOneWork
set_option maxRecDepth 20000 in
theorem ggX6_add_X0_remember : GoodIn wsX6_add wsX0_remember := goodIn_r _ [77, 78, 79, 80, 81, 82, 83, 84, 85, 86, 87, 88, 89, 90, 91, 92, 93, 94, 95, 96, 97, 33, 98, 35, 36, 37, 38, 185, 186, 187, 166, 167, 168, 169, 170, 171, 172, 173, 174, 181, 182, 183, 184] (by decide +kernel) (by decide +kernel)
set_option maxRecDepth 20000 in
theorem gX6_add_X0_remember : GoodIn wsX6_add (wsV RX6 206 RX0 yX0_remember wsX0_remember) := goodIn_app (goodIn_of _ (by decide +kernel)) ggX6_add_X0_remember
set_option maxRecDepth 20000 in
theorem ggX6_add_X3_place : GoodIn wsX6_add wsX3_place := goodIn_r _ [102, 86, 90, 92, 95, 96, 97, 33, 98, 35, 36, 37, 38, 166, 167, 168, 169, 170, 171, 172, 173, 174, 181, 182, 183, 184] (by decide +kernel) (by decide +kernel)
set_option maxRecDepth 20000 in
theorem gX6_add_X3_place : GoodIn wsX6_add (wsV RX6 84 RX3 yX3_place wsX3_place) := goodIn_app (goodIn_of _ (by decide +kernel)) ggX6_add_X3_place
set_option maxRecDepth 20000 in
theorem ggX6_add_X3_rekey : GoodIn wsX6_add wsX3_rekey := goodIn_r _ [106, 86, 91, 90, 87, 107, 92, 108, 109, 110, 33, 111, 35, 36, 112, 113, 114, 115, 116, 117, 57, 118, 119, 56, 58, 120, 121, 122, 123, 124, 125, 126, 127, 128, 129, 130, 131, 132, 133, 134, 135, 136, 38, 137, 138, 139, 84, 140, 141, 142, 143, 144, 88, 145, 146, 147, 148, 149, 150, 151, 152, 153, 154, 155, 156, 157, 158, 166, 167, 168, 169, 170, 171, 172, 173, 174, 181, 182, 183, 184] (by decide +kernel) (by decide +kernel)
set_option maxRecDepth 20000 in
theorem gX6_add_X3_rekey : GoodIn wsX6_add (wsV RX6 88 RX3 yX3_rekey wsX3_rekey) := goodIn_app (goodIn_of _ (by decide +kernel)) ggX6_add_X3_rekey
theorem dX6_add_0 : decode cX6_add 0 = .ok (.aload_n 0, 1) := by decide +kernel
theorem dX6_add_1 : decode cX6_add 1 = .ok (.invokevirtual 198, 3) := by decide +kernel
theorem dX6_add_4 : decode cX6_add 4 = .ok (.ifCond .ne 13, 3) := by decide +kernel
theorem dX6_add_7 : decode cX6_add 7 = .ok (.new 59, 3) := by decide +kernel
theorem dX6_add_10 : decode cX6_add 10 = .ok (.dup, 1) := by decide +kernel
theorem dX6_add_11 : decode cX6_add 11 = .ok (.ldc 202, 2) := by decide +kernel
theorem dX6_add_13 : decode cX6_add 13 = .ok (.invokespecial 63, 3) := by decide +kernel
theorem dX6_add_16 : decode cX6_add 16 = .ok (.athrow, 1) := by decide +kernel
theorem dX6_add_17 : decode cX6_add 17 = .ok (.aload_n 0, 1) := by decide +kernel
theorem dX6_add_18 : decode cX6_add 18 = .ok (.getfield 19, 3) := by decide +kernel
theorem dX6_add_21 : decode cX6_add 21 = .ok (.getfield 94, 3) := by decide +kernel
theorem dX6_add_24 : decode cX6_add 24 = .ok (.bipush 16, 2) := by decide +kernel
theorem dX6_add_26 : decode cX6_add 26 = .ok (.if_icmp .lt 13, 3) := by decide +kernel
theorem dX6_add_29 : decode cX6_add 29 = .ok (.new 59, 3) := by decide +kernel
theorem dX6_add_32 : decode cX6_add 32 = .ok (.dup, 1) := by decide +kernel
theorem dX6_add_33 : decode cX6_add 33 = .ok (.ldc 204, 2) := by decide +kernel
theorem dX6_add_35 : decode cX6_add 35 = .ok (.invokespecial 63, 3) := by decide +kernel
theorem dX6_add_38 : decode cX6_add 38 = .ok (.athrow, 1) := by decide +kernel
theorem dX6_add_39 : decode cX6_add 39 = .ok (.aload_n 0, 1) := by decide +kernel
theorem dX6_add_40 : decode cX6_add 40 = .ok (.getfield 36, 3) := by decide +kernel
theorem dX6_add_43 : decode cX6_add 43 = .ok (.aload_n 0, 1) := by decide +kernel
theorem dX6_add_44 : decode cX6_add 44 = .ok (.getfield 19, 3) := by decide +kernel
theorem dX6_add_47 : decode cX6_add 47 = .ok (.invokevirtual 206, 3) := by decide +kernel
theorem dX6_add_50 : decode cX6_add 50 = .ok (.aload_n 0, 1) := by decide +kernel
theorem dX6_add_51 : decode cX6_add 51 = .ok (.getfield 19, 3) := by decide +kernel
theorem dX6_add_54 : decode cX6_add 54 = .ok (.aload_n 0, 1) := by decide +kernel
theorem dX6_add_55 : decode cX6_add 55 = .ok (.getfield 10, 3) := by decide +kernel
theorem dX6_add_58 : decode cX6_add 58 = .ok (.getfield 80, 3) := by decide +kernel
theorem dX6_add_61 : decode cX6_add 61 = .ok (.iconst 0, 1) := by decide +kernel
theorem dX6_add_62 : decode cX6_add 62 = .ok (.aaload, 1) := by decide +kernel
theorem dX6_add_63 : decode cX6_add 63 = .ok (.invokevirtual 84, 3) := by decide +kernel
theorem dX6_add_66 : decode cX6_add 66 = .ok (.aload_n 0, 1) := by decide +kernel
theorem dX6_add_67 : decode cX6_add 67 = .ok (.getfield 19, 3) := by decide +kernel
theorem dX6_add_70 : decode cX6_add 70 = .ok (.invokevirtual 88, 3) := by decide +kernel
theorem dX6_add_73 : decode cX6_add 73 = .ok (.pop, 1) := by decide +kernel
theorem dX6_add_74 : decode cX6_add 74 = .ok (.aload_n 0, 1) := by decide +kernel
theorem dX6_add_75 : decode cX6_add 75 = .ok (.getfield 19, 3) := by decide +kernel
theorem dX6_add_78 : decode cX6_add 78 = .ok (.getfield 94, 3) := by decide +kernel
theorem dX6_add_81 : decode cX6_add 81 = .ok (.iconst 1, 1) := by decide +kernel
theorem dX6_add_82 : decode cX6_add 82 = .ok (.isub, 1) := by decide +kernel
theorem dX6_add_83 : decode cX6_add 83 = .ok (.ireturn, 1) := by decide +kernel
set_option maxRecDepth 20000 in
theorem ggX6_change_X6_needWork : GoodIn wsX6_change wsX6_needWork := goodIn_ca (goodIn_r _ [12, 13, 14, 4, 15, 16, 17, 18, 19, 20, 166, 167, 168, 169, 170, 171, 172, 173, 174, 175, 176, 177, 178, 179, 180, 181] (by decide +kernel) (by decide +kernel)) (goodIn_sub (fun _ h => List.mem_cons_of_mem _ (List.mem_append_right _ h)) (by decide +kernel))
set_option maxRecDepth 20000 in
theorem gX6_change_X6_needWork : GoodIn wsX6_change (wsV RX6 120 RX6 yX6_needWork wsX6_needWork) := goodIn_app (goodIn_of _ (by decide +kernel)) ggX6_change_X6_needWork
set_option maxRecDepth 20000 in
theorem ggX6_change_X6_tellsOneWork : GoodIn wsX6_change wsX6_tellsOneWork := goodIn_r _ [24, 6, 25, 26, 27, 28, 29, 30, 31, 32, 33, 34, 35, 36, 37, 38, 39, 40, 41, 42, 43, 44, 45, 46, 47, 48, 49, 50, 51, 52, 53, 54, 55, 56, 57, 58, 59, 60, 61, 62, 63, 64, 65, 66, 67, 68, 69, 70, 71, 72, 73, 74, 75, 76, 77, 78, 79, 80, 81, 82, 83, 84, 166, 167, 168, 169, 170, 171, 172, 182, 183, 184, 185, 186, 187, 188, 189, 190, 191] (by decide +kernel) (by decide +kernel)
set_option maxRecDepth 20000 in
theorem gX6_change_X6_tellsOneWork : GoodIn wsX6_change (wsV RX6 198 RX6 yX6_tellsOneWork wsX6_tellsOneWork) := goodIn_app (goodIn_of _ (by decide +kernel)) ggX6_change_X6_tellsOneWork
set_option maxRecDepth 20000 in
theorem ggX6_change_X0_remember : GoodIn wsX6_change wsX0_remember := goodIn_r _ [89, 90, 91, 92, 93, 94, 95, 18, 96, 20, 97, 98, 99, 100, 101, 102, 103, 104, 105, 106, 107, 45, 108, 47, 48, 49, 50, 192, 193, 194, 173, 174, 175, 176, 177, 178, 179, 180, 181, 188, 189, 190, 191] (by decide +kernel) (by decide +kernel)
set_option maxRecDepth 20000 in
theorem gX6_change_X0_remember : GoodIn wsX6_change (wsV RX6 206 RX0 yX0_remember wsX0_remember) := goodIn_app (goodIn_of _ (by decide +kernel)) ggX6_change_X0_remember
set_option maxRecDepth 20000 in
theorem ggX6_change_X5_copyFrom : GoodIn wsX6_change wsX5_copyFrom := goodIn_r _ [108, 47, 48, 49, 50, 188, 189, 190, 191] (by decide +kernel) (by decide +kernel)
set_option maxRecDepth 20000 in
theorem gX6_change_X5_copyFrom : GoodIn wsX6_change (wsV RX6 210 RX5 yX5_copyFrom wsX5_copyFrom) := goodIn_app (goodIn_of _ (by decide +kernel)) ggX6_change_X5_copyFrom
set_option maxRecDepth 20000 in
theorem ggX6_change_X3_rekey : GoodIn wsX6_change wsX3_rekey := goodIn_r _ [113, 20, 101, 100, 97, 114, 102, 115, 116, 117, 45, 118, 47, 48, 119, 120, 121, 122, 123, 124, 69, 125, 126, 68, 70, 127, 128, 129, 130, 131, 132, 133, 134, 135, 136, 137, 138, 139, 140, 141, 142, 143, 50, 144, 145, 146, 18, 147, 148, 149, 150, 151, 98, 152, 153, 154, 155, 156, 157, 158, 159, 160, 161, 162, 163, 164, 165, 173, 174, 175, 176, 177, 178, 179, 180, 181, 188, 189, 190, 191] (by decide +kernel) (by decide +kernel)
set_option maxRecDepth 20000 in
theorem gX6_change_X3_rekey : GoodIn wsX6_change (wsV RX6 88 RX3 yX3_rekey wsX3_rekey) := goodIn_app (goodIn_of _ (by decide +kernel)) ggX6_change_X3_rekey
theorem dX6_change_0 : decode cX6_change 0 = .ok (.aload_n 0, 1) := by decide +kernel
theorem dX6_change_1 : decode cX6_change 1 = .ok (.iload_n 1, 1) := by decide +kernel
theorem dX6_change_2 : decode cX6_change 2 = .ok (.invokevirtual 120, 3) := by decide +kernel
theorem dX6_change_5 : decode cX6_change 5 = .ok (.aload_n 0, 1) := by decide +kernel
theorem dX6_change_6 : decode cX6_change 6 = .ok (.invokevirtual 198, 3) := by decide +kernel
theorem dX6_change_9 : decode cX6_change 9 = .ok (.ifCond .ne 13, 3) := by decide +kernel
theorem dX6_change_12 : decode cX6_change 12 = .ok (.new 59, 3) := by decide +kernel
theorem dX6_change_15 : decode cX6_change 15 = .ok (.dup, 1) := by decide +kernel
theorem dX6_change_16 : decode cX6_change 16 = .ok (.ldc 202, 2) := by decide +kernel
theorem dX6_change_18 : decode cX6_change 18 = .ok (.invokespecial 63, 3) := by decide +kernel
theorem dX6_change_21 : decode cX6_change 21 = .ok (.athrow, 1) := by decide +kernel
theorem dX6_change_22 : decode cX6_change 22 = .ok (.aload_n 0, 1) := by decide +kernel
theorem dX6_change_23 : decode cX6_change 23 = .ok (.getfield 36, 3) := by decide +kernel
theorem dX6_change_26 : decode cX6_change 26 = .ok (.aload_n 0, 1) := by decide +kernel
theorem dX6_change_27 : decode cX6_change 27 = .ok (.getfield 19, 3) := by decide +kernel
theorem dX6_change_30 : decode cX6_change 30 = .ok (.invokevirtual 206, 3) := by decide +kernel
theorem dX6_change_33 : decode cX6_change 33 = .ok (.aload_n 0, 1) := by decide +kernel
theorem dX6_change_34 : decode cX6_change 34 = .ok (.getfield 19, 3) := by decide +kernel
theorem dX6_change_37 : decode cX6_change 37 = .ok (.getfield 124, 3) := by decide +kernel
theorem dX6_change_40 : decode cX6_change 40 = .ok (.iload_n 1, 1) := by decide +kernel
theorem dX6_change_41 : decode cX6_change 41 = .ok (.aaload, 1) := by decide +kernel
theorem dX6_change_42 : decode cX6_change 42 = .ok (.aload_n 0, 1) := by decide +kernel
theorem dX6_change_43 : decode cX6_change 43 = .ok (.getfield 10, 3) := by decide +kernel
theorem dX6_change_46 : decode cX6_change 46 = .ok (.getfield 80, 3) := by decide +kernel
theorem dX6_change_49 : decode cX6_change 49 = .ok (.iconst 0, 1) := by decide +kernel
theorem dX6_change_50 : decode cX6_change 50 = .ok (.aaload, 1) := by decide +kernel
theorem dX6_change_51 : decode cX6_change 51 = .ok (.invokevirtual 210, 3) := by decide +kernel
theorem dX6_change_54 : decode cX6_change 54 = .ok (.aload_n 0, 1) := by decide +kernel
theorem dX6_change_55 : decode cX6_change 55 = .ok (.getfield 19, 3) := by decide +kernel
theorem dX6_change_58 : decode cX6_change 58 = .ok (.invokevirtual 88, 3) := by decide +kernel
theorem dX6_change_61 : decode cX6_change 61 = .ok (.ireturn, 1) := by decide +kernel
set_option maxRecDepth 20000 in
theorem ggX6_setYear_X6_needWork : GoodIn wsX6_setYear wsX6_needWork := goodIn_ca (goodIn_r _ [11, 12, 13, 4, 14, 15, 16, 17, 18, 19, 111, 112, 113, 114, 115, 116, 117, 118, 119, 120, 121, 122, 123, 124, 125, 126] (by decide +kernel) (by decide +kernel)) (goodIn_sub (fun _ h => List.mem_cons_of_mem _ (List.mem_append_right _ h)) (by decide +kernel))
set_option maxRecDepth 20000 in
theorem gX6_setYear_X6_needWork : GoodIn wsX6_setYear (wsV RX6 120 RX6 yX6_needWork wsX6_needWork) := goodIn_app (goodIn_of _ (by decide +kernel)) ggX6_setYear_X6_needWork
set_option maxRecDepth 20000 in
theorem ggX6_setYear_X6_isYear : GoodIn wsX6_setYear wsX6_isYear := goodIn_r _ [22] (by decide +kernel) (by decide +kernel)
set_option maxRecDepth 20000 in
theorem gX6_setYear_X6_isYear : GoodIn wsX6_setYear (va_wsS RX6 213 yX6_isYear wsX6_isYear) := goodIn_app (goodIn_of _ (by decide +kernel)) ggX6_setYear_X6_isYear
set_option maxRecDepth 20000 in
theorem ggX6_setYear_X0_remember : GoodIn wsX6_setYear wsX0_remember := goodIn_r _ [27, 28, 29, 30, 31, 32, 33, 17, 34, 19, 35, 36, 37, 38, 39, 40, 41, 42, 43, 44, 45, 46, 47, 48, 49, 50, 51, 131, 132, 133, 118, 119, 120, 121, 122, 123, 124, 125, 126, 127, 128, 129, 130] (by decide +kernel) (by decide +kernel)
set_option maxRecDepth 20000 in
theorem gX6_setYear_X0_remember : GoodIn wsX6_setYear (wsV RX6 206 RX0 yX0_remember wsX0_remember) := goodIn_app (goodIn_of _ (by decide +kernel)) ggX6_setYear_X0_remember
set_option maxRecDepth 20000 in
theorem ggX6_setYear_X3_rekey : GoodIn wsX6_setYear wsX3_rekey := goodIn_r _ [55, 19, 39, 38, 35, 56, 40, 57, 58, 59, 46, 60, 48, 49, 61, 62, 63, 64, 65, 66, 67, 68, 69, 70, 71, 72, 73, 74, 75, 76, 77, 78, 79, 80, 81, 82, 83, 84, 85, 86, 87, 88, 51, 89, 90, 91, 17, 92, 93, 94, 95, 96, 36, 97, 98, 99, 100, 101, 102, 103, 104, 105, 106, 107, 108, 109, 110, 118, 119, 120, 121, 122, 123, 124, 125, 126, 127, 128, 129, 130] (by decide +kernel) (by decide +kernel)
set_option maxRecDepth 20000 in
theorem gX6_setYear_X3_rekey : GoodIn wsX6_setYear (wsV RX6 88 RX3 yX3_rekey wsX3_rekey) := goodIn_app (goodIn_of _ (by decide +kernel)) ggX6_setYear_X3_rekey
theorem dX6_setYear_0 : decode cX6_setYear 0 = .ok (.aload_n 0, 1) := by decide +kernel
theorem dX6_setYear_1 : decode cX6_setYear 1 = .ok (.iload_n 1, 1) := by decide +kernel
theorem dX6_setYear_2 : decode cX6_setYear 2 = .ok (.invokevirtual 120, 3) := by decide +kernel
theorem dX6_setYear_5 : decode cX6_setYear 5 = .ok (.iload_n 2, 1) := by decide +kernel
theorem dX6_setYear_6 : decode cX6_setYear 6 = .ok (.invokestatic 213, 3) := by decide +kernel
theorem dX6_setYear_9 : decode cX6_setYear 9 = .ok (.ifCond .ne 13, 3) := by decide +kernel
theorem dX6_setYear_12 : decode cX6_setYear 12 = .ok (.new 48, 3) := by decide +kernel
theorem dX6_setYear_15 : decode cX6_setYear 15 = .ok (.dup, 1) := by decide +kernel
theorem dX6_setYear_16 : decode cX6_setYear 16 = .ok (.ldc 217, 2) := by decide +kernel
theorem dX6_setYear_18 : decode cX6_setYear 18 = .ok (.invokespecial 52, 3) := by decide +kernel
theorem dX6_setYear_21 : decode cX6_setYear 21 = .ok (.athrow, 1) := by decide +kernel
theorem dX6_setYear_22 : decode cX6_setYear 22 = .ok (.aload_n 0, 1) := by decide +kernel
theorem dX6_setYear_23 : decode cX6_setYear 23 = .ok (.getfield 36, 3) := by decide +kernel
theorem dX6_setYear_26 : decode cX6_setYear 26 = .ok (.aload_n 0, 1) := by decide +kernel
theorem dX6_setYear_27 : decode cX6_setYear 27 = .ok (.getfield 19, 3) := by decide +kernel
theorem dX6_setYear_30 : decode cX6_setYear 30 = .ok (.invokevirtual 206, 3) := by decide +kernel
theorem dX6_setYear_33 : decode cX6_setYear 33 = .ok (.aload_n 0, 1) := by decide +kernel
theorem dX6_setYear_34 : decode cX6_setYear 34 = .ok (.getfield 19, 3) := by decide +kernel
theorem dX6_setYear_37 : decode cX6_setYear 37 = .ok (.getfield 124, 3) := by decide +kernel
theorem dX6_setYear_40 : decode cX6_setYear 40 = .ok (.iload_n 1, 1) := by decide +kernel
theorem dX6_setYear_41 : decode cX6_setYear 41 = .ok (.aaload, 1) := by decide +kernel
theorem dX6_setYear_42 : decode cX6_setYear 42 = .ok (.iload_n 2, 1) := by decide +kernel
theorem dX6_setYear_43 : decode cX6_setYear 43 = .ok (.putfield 125, 3) := by decide +kernel
theorem dX6_setYear_46 : decode cX6_setYear 46 = .ok (.aload_n 0, 1) := by decide +kernel
theorem dX6_setYear_47 : decode cX6_setYear 47 = .ok (.getfield 19, 3) := by decide +kernel
theorem dX6_setYear_50 : decode cX6_setYear 50 = .ok (.invokevirtual 88, 3) := by decide +kernel
theorem dX6_setYear_53 : decode cX6_setYear 53 = .ok (.ireturn, 1) := by decide +kernel
set_option maxRecDepth 20000 in
theorem ggX6_remove_X6_needWork : GoodIn wsX6_remove wsX6_needWork := goodIn_ca (goodIn_r _ [7, 8, 9, 2, 10, 11, 12, 13, 14, 15, 113, 114, 115, 116, 117, 118, 119, 120, 121, 122, 123, 124, 125, 126, 127, 128] (by decide +kernel) (by decide +kernel)) (goodIn_sub (fun _ h => List.mem_cons_of_mem _ (List.mem_append_right _ h)) (by decide +kernel))
set_option maxRecDepth 20000 in
theorem gX6_remove_X6_needWork : GoodIn wsX6_remove (wsV RX6 120 RX6 yX6_needWork wsX6_needWork) := goodIn_app (goodIn_of _ (by decide +kernel)) ggX6_remove_X6_needWork
set_option maxRecDepth 20000 in
theorem ggX6_remove_X0_remember : GoodIn wsX6_remove wsX0_remember := goodIn_r _ [20, 21, 22, 23, 24, 25, 26, 13, 27, 15, 28, 29, 30, 31, 32, 33, 34, 35, 36, 37, 38, 39, 40, 41, 42, 43, 44, 129, 130, 131, 120, 121, 122, 123, 124, 125, 126, 127, 128, 132, 133, 134, 135] (by decide +kernel) (by decide +kernel)
set_option maxRecDepth 20000 in
theorem gX6_remove_X0_remember : GoodIn wsX6_remove (wsV RX6 206 RX0 yX0_remember wsX0_remember) := goodIn_app (goodIn_of _ (by decide +kernel)) ggX6_remove_X0_remember
set_option maxRecDepth 20000 in
theorem ggX6_remove_X3_takeOut : GoodIn wsX6_remove wsX3_takeOut := goodIn_r _ [48, 31, 15, 33, 49, 11, 12, 13, 14, 50, 51, 52, 53, 30, 35, 120, 121, 122, 123, 124, 125, 126, 127, 128] (by decide +kernel) (by decide +kernel)
set_option maxRecDepth 20000 in
theorem gX6_remove_X3_takeOut : GoodIn wsX6_remove (wsV RX6 219 RX3 yX3_takeOut wsX3_takeOut) := goodIn_app (goodIn_of _ (by decide +kernel)) ggX6_remove_X3_takeOut
set_option maxRecDepth 20000 in
theorem ggX6_remove_X3_rekey : GoodIn wsX6_remove wsX3_rekey := goodIn_r _ [57, 15, 32, 31, 28, 58, 33, 59, 60, 61, 39, 62, 41, 42, 63, 64, 65, 66, 67, 68, 69, 70, 71, 72, 73, 74, 75, 76, 77, 78, 79, 80, 81, 82, 83, 84, 85, 86, 87, 88, 89, 90, 44, 91, 92, 93, 13, 94, 95, 96, 97, 98, 29, 99, 100, 101, 102, 103, 104, 105, 106, 107, 108, 109, 110, 111, 112, 120, 121, 122, 123, 124, 125, 126, 127, 128, 132, 133, 134, 135] (by decide +kernel) (by decide +kernel)
set_option maxRecDepth 20000 in
theorem gX6_remove_X3_rekey : GoodIn wsX6_remove (wsV RX6 88 RX3 yX3_rekey wsX3_rekey) := goodIn_app (goodIn_of _ (by decide +kernel)) ggX6_remove_X3_rekey
theorem dX6_remove_0 : decode cX6_remove 0 = .ok (.aload_n 0, 1) := by decide +kernel
theorem dX6_remove_1 : decode cX6_remove 1 = .ok (.iload_n 1, 1) := by decide +kernel
theorem dX6_remove_2 : decode cX6_remove 2 = .ok (.invokevirtual 120, 3) := by decide +kernel
theorem dX6_remove_5 : decode cX6_remove 5 = .ok (.aload_n 0, 1) := by decide +kernel
theorem dX6_remove_6 : decode cX6_remove 6 = .ok (.getfield 36, 3) := by decide +kernel
theorem dX6_remove_9 : decode cX6_remove 9 = .ok (.aload_n 0, 1) := by decide +kernel
theorem dX6_remove_10 : decode cX6_remove 10 = .ok (.getfield 19, 3) := by decide +kernel
theorem dX6_remove_13 : decode cX6_remove 13 = .ok (.invokevirtual 206, 3) := by decide +kernel
theorem dX6_remove_16 : decode cX6_remove 16 = .ok (.aload_n 0, 1) := by decide +kernel
theorem dX6_remove_17 : decode cX6_remove 17 = .ok (.getfield 19, 3) := by decide +kernel
theorem dX6_remove_20 : decode cX6_remove 20 = .ok (.iload_n 1, 1) := by decide +kernel
theorem dX6_remove_21 : decode cX6_remove 21 = .ok (.invokevirtual 219, 3) := by decide +kernel
theorem dX6_remove_24 : decode cX6_remove 24 = .ok (.aload_n 0, 1) := by decide +kernel
theorem dX6_remove_25 : decode cX6_remove 25 = .ok (.getfield 19, 3) := by decide +kernel
theorem dX6_remove_28 : decode cX6_remove 28 = .ok (.invokevirtual 88, 3) := by decide +kernel
theorem dX6_remove_31 : decode cX6_remove 31 = .ok (.ireturn, 1) := by decide +kernel
set_option maxRecDepth 20000 in
theorem ggX6_setStyle_X6_needStyle : GoodIn wsX6_setStyle wsX6_needStyle := goodIn_ca (goodIn_r _ [7, 8, 9, 10, 11, 6, 12] (by decide +kernel) (by decide +kernel)) (goodIn_sub (fun _ h => List.mem_cons_of_mem _ (List.mem_append_right _ h)) (by decide +kernel))
set_option maxRecDepth 20000 in
theorem gX6_setStyle_X6_needStyle : GoodIn wsX6_setStyle (va_wsS RX6 222 yX6_needStyle wsX6_needStyle) := goodIn_app (goodIn_of _ (by decide +kernel)) ggX6_setStyle_X6_needStyle
set_option maxRecDepth 20000 in
theorem ggX6_setStyle_X0_remember : GoodIn wsX6_setStyle wsX0_remember := goodIn_r _ [17, 18, 19, 20, 21, 22, 23, 24, 25, 26, 27, 28, 29, 30, 31, 32, 33, 34, 35, 36, 37, 38, 39, 40, 41, 42, 43, 119, 120, 121, 110, 111, 112, 113, 114, 115, 116, 117, 118, 122, 123, 124, 125] (by decide +kernel) (by decide +kernel)
set_option maxRecDepth 20000 in
theorem gX6_setStyle_X0_remember : GoodIn wsX6_setStyle (wsV RX6 206 RX0 yX0_remember wsX0_remember) := goodIn_app (goodIn_of _ (by decide +kernel)) ggX6_setStyle_X0_remember
set_option maxRecDepth 20000 in
theorem ggX6_setStyle_X3_rekey : GoodIn wsX6_setStyle wsX3_rekey := goodIn_r _ [47, 26, 31, 30, 27, 48, 32, 49, 50, 51, 38, 52, 40, 41, 53, 54, 55, 56, 57, 58, 59, 60, 61, 62, 63, 64, 65, 66, 67, 68, 69, 70, 71, 72, 73, 74, 75, 76, 77, 78, 79, 80, 43, 81, 82, 83, 24, 84, 85, 86, 87, 88, 28, 89, 90, 91, 92, 93, 94, 95, 96, 97, 98, 99, 100, 101, 102, 110, 111, 112, 113, 114, 115, 116, 117, 118, 122, 123, 124, 125] (by decide +kernel) (by decide +kernel)
set_option maxRecDepth 20000 in
theorem gX6_setStyle_X3_rekey : GoodIn wsX6_setStyle (wsV RX6 88 RX3 yX3_rekey wsX3_rekey) := goodIn_app (goodIn_of _ (by decide +kernel)) ggX6_setStyle_X3_rekey
theorem dX6_setStyle_0 : decode cX6_setStyle 0 = .ok (.iload_n 1, 1) := by decide +kernel
theorem dX6_setStyle_1 : decode cX6_setStyle 1 = .ok (.invokestatic 222, 3) := by decide +kernel
theorem dX6_setStyle_4 : decode cX6_setStyle 4 = .ok (.aload_n 0, 1) := by decide +kernel
theorem dX6_setStyle_5 : decode cX6_setStyle 5 = .ok (.getfield 36, 3) := by decide +kernel
theorem dX6_setStyle_8 : decode cX6_setStyle 8 = .ok (.aload_n 0, 1) := by decide +kernel
theorem dX6_setStyle_9 : decode cX6_setStyle 9 = .ok (.getfield 19, 3) := by decide +kernel
theorem dX6_setStyle_12 : decode cX6_setStyle 12 = .ok (.invokevirtual 206, 3) := by decide +kernel
theorem dX6_setStyle_15 : decode cX6_setStyle 15 = .ok (.aload_n 0, 1) := by decide +kernel
theorem dX6_setStyle_16 : decode cX6_setStyle 16 = .ok (.getfield 19, 3) := by decide +kernel
theorem dX6_setStyle_19 : decode cX6_setStyle 19 = .ok (.getfield 97, 3) := by decide +kernel
theorem dX6_setStyle_22 : decode cX6_setStyle 22 = .ok (.istore_n 2, 1) := by decide +kernel
theorem dX6_setStyle_23 : decode cX6_setStyle 23 = .ok (.aload_n 0, 1) := by decide +kernel
theorem dX6_setStyle_24 : decode cX6_setStyle 24 = .ok (.getfield 19, 3) := by decide +kernel
theorem dX6_setStyle_27 : decode cX6_setStyle 27 = .ok (.iload_n 1, 1) := by decide +kernel
theorem dX6_setStyle_28 : decode cX6_setStyle 28 = .ok (.putfield 97, 3) := by decide +kernel
theorem dX6_setStyle_31 : decode cX6_setStyle 31 = .ok (.aload_n 0, 1) := by decide +kernel
theorem dX6_setStyle_32 : decode cX6_setStyle 32 = .ok (.getfield 19, 3) := by decide +kernel
theorem dX6_setStyle_35 : decode cX6_setStyle 35 = .ok (.invokevirtual 88, 3) := by decide +kernel
theorem dX6_setStyle_38 : decode cX6_setStyle 38 = .ok (.pop, 1) := by decide +kernel
theorem dX6_setStyle_39 : decode cX6_setStyle 39 = .ok (.iload_n 2, 1) := by decide +kernel
theorem dX6_setStyle_40 : decode cX6_setStyle 40 = .ok (.ireturn, 1) := by decide +kernel
set_option maxRecDepth 20000 in
theorem ggX6_setOrder_X0_remember : GoodIn wsX6_setOrder wsX0_remember := goodIn_r _ [10, 11, 12, 13, 14, 15, 16, 17, 18, 19, 20, 21, 22, 23, 24, 25, 26, 27, 28, 29, 30, 31, 32, 33, 34, 35, 36, 112, 113, 114, 103, 104, 105, 106, 107, 108, 109, 110, 111, 115, 116, 117, 118] (by decide +kernel) (by decide +kernel)
set_option maxRecDepth 20000 in
theorem gX6_setOrder_X0_remember : GoodIn wsX6_setOrder (wsV RX6 206 RX0 yX0_remember wsX0_remember) := goodIn_app (goodIn_of _ (by decide +kernel)) ggX6_setOrder_X0_remember
set_option maxRecDepth 20000 in
theorem ggX6_setOrder_X3_rekey : GoodIn wsX6_setOrder wsX3_rekey := goodIn_r _ [40, 19, 24, 23, 20, 41, 25, 42, 43, 44, 31, 45, 33, 34, 46, 47, 48, 49, 50, 51, 52, 53, 54, 55, 56, 57, 58, 59, 60, 61, 62, 63, 64, 65, 66, 67, 68, 69, 70, 71, 72, 73, 36, 74, 75, 76, 17, 77, 78, 79, 80, 81, 21, 82, 83, 84, 85, 86, 87, 88, 89, 90, 91, 92, 93, 94, 95, 103, 104, 105, 106, 107, 108, 109, 110, 111, 115, 116, 117, 118] (by decide +kernel) (by decide +kernel)
set_option maxRecDepth 20000 in
theorem gX6_setOrder_X3_rekey : GoodIn wsX6_setOrder (wsV RX6 88 RX3 yX3_rekey wsX3_rekey) := goodIn_app (goodIn_of _ (by decide +kernel)) ggX6_setOrder_X3_rekey
theorem dX6_setOrder_0 : decode cX6_setOrder 0 = .ok (.iload_n 1, 1) := by decide +kernel
theorem dX6_setOrder_1 : decode cX6_setOrder 1 = .ok (.ifCond .lt 8, 3) := by decide +kernel
theorem dX6_setOrder_4 : decode cX6_setOrder 4 = .ok (.iload_n 1, 1) := by decide +kernel
theorem dX6_setOrder_5 : decode cX6_setOrder 5 = .ok (.iconst 2, 1) := by decide +kernel
theorem dX6_setOrder_6 : decode cX6_setOrder 6 = .ok (.if_icmp .lt 13, 3) := by decide +kernel
theorem dX6_setOrder_9 : decode cX6_setOrder 9 = .ok (.new 48, 3) := by decide +kernel
theorem dX6_setOrder_12 : decode cX6_setOrder 12 = .ok (.dup, 1) := by decide +kernel
theorem dX6_setOrder_13 : decode cX6_setOrder 13 = .ok (.ldc 225, 2) := by decide +kernel
theorem dX6_setOrder_15 : decode cX6_setOrder 15 = .ok (.invokespecial 52, 3) := by decide +kernel
theorem dX6_setOrder_18 : decode cX6_setOrder 18 = .ok (.athrow, 1) := by decide +kernel
theorem dX6_setOrder_19 : decode cX6_setOrder 19 = .ok (.aload_n 0, 1) := by decide +kernel
theorem dX6_setOrder_20 : decode cX6_setOrder 20 = .ok (.getfield 36, 3) := by decide +kernel
theorem dX6_setOrder_23 : decode cX6_setOrder 23 = .ok (.aload_n 0, 1) := by decide +kernel
theorem dX6_setOrder_24 : decode cX6_setOrder 24 = .ok (.getfield 19, 3) := by decide +kernel
theorem dX6_setOrder_27 : decode cX6_setOrder 27 = .ok (.invokevirtual 206, 3) := by decide +kernel
theorem dX6_setOrder_30 : decode cX6_setOrder 30 = .ok (.aload_n 0, 1) := by decide +kernel
theorem dX6_setOrder_31 : decode cX6_setOrder 31 = .ok (.getfield 19, 3) := by decide +kernel
theorem dX6_setOrder_34 : decode cX6_setOrder 34 = .ok (.iload_n 1, 1) := by decide +kernel
theorem dX6_setOrder_35 : decode cX6_setOrder 35 = .ok (.putfield 100, 3) := by decide +kernel
theorem dX6_setOrder_38 : decode cX6_setOrder 38 = .ok (.aload_n 0, 1) := by decide +kernel
theorem dX6_setOrder_39 : decode cX6_setOrder 39 = .ok (.getfield 19, 3) := by decide +kernel
theorem dX6_setOrder_42 : decode cX6_setOrder 42 = .ok (.invokevirtual 88, 3) := by decide +kernel
theorem dX6_setOrder_45 : decode cX6_setOrder 45 = .ok (.ireturn, 1) := by decide +kernel
set_option maxRecDepth 20000 in
theorem ggX6_print_X0_remember : GoodIn wsX6_print wsX0_remember := goodIn_r _ [8, 9, 10, 11, 12, 13, 14, 15, 16, 17, 18, 19, 20, 21, 22, 23, 24, 25, 26, 27, 28, 29, 30, 31, 32, 33, 34, 55, 56, 57, 46, 47, 48, 49, 50, 51, 52, 53, 54, 58, 59, 60, 61] (by decide +kernel) (by decide +kernel)
set_option maxRecDepth 20000 in
theorem gX6_print_X0_remember : GoodIn wsX6_print (wsV RX6 206 RX0 yX0_remember wsX0_remember) := goodIn_app (goodIn_of _ (by decide +kernel)) ggX6_print_X0_remember
set_option maxRecDepth 20000 in
theorem ggX6_print_X3_printKeys : GoodIn wsX6_print wsX3_printKeys := goodIn_r _ [38, 17, 24, 23, 25, 20, 46, 47, 48, 49, 50, 51, 52, 53, 54] (by decide +kernel) (by decide +kernel)
set_option maxRecDepth 20000 in
theorem gX6_print_X3_printKeys : GoodIn wsX6_print (wsV RX6 227 RX3 yX3_printKeys wsX3_printKeys) := goodIn_app (goodIn_of _ (by decide +kernel)) ggX6_print_X3_printKeys
theorem dX6_print_0 : decode cX6_print 0 = .ok (.aload_n 0, 1) := by decide +kernel
theorem dX6_print_1 : decode cX6_print 1 = .ok (.getfield 36, 3) := by decide +kernel
theorem dX6_print_4 : decode cX6_print 4 = .ok (.aload_n 0, 1) := by decide +kernel
theorem dX6_print_5 : decode cX6_print 5 = .ok (.getfield 19, 3) := by decide +kernel
theorem dX6_print_8 : decode cX6_print 8 = .ok (.invokevirtual 206, 3) := by decide +kernel
theorem dX6_print_11 : decode cX6_print 11 = .ok (.aload_n 0, 1) := by decide +kernel
theorem dX6_print_12 : decode cX6_print 12 = .ok (.getfield 19, 3) := by decide +kernel
theorem dX6_print_15 : decode cX6_print 15 = .ok (.invokevirtual 227, 3) := by decide +kernel
theorem dX6_print_18 : decode cX6_print 18 = .ok (.aload_n 0, 1) := by decide +kernel
theorem dX6_print_19 : decode cX6_print 19 = .ok (.getfield 19, 3) := by decide +kernel
theorem dX6_print_22 : decode cX6_print 22 = .ok (.getfield 112, 3) := by decide +kernel
theorem dX6_print_25 : decode cX6_print 25 = .ok (.ireturn, 1) := by decide +kernel
set_option maxRecDepth 20000 in
theorem ggX6_undo_X0_takeBack : GoodIn wsX6_undo wsX0_takeBack := goodIn_r _ [10, 11, 12, 13, 14, 15, 16, 17, 18, 19, 20, 21, 22, 23, 24, 25, 26, 27, 28, 29, 30, 31, 32, 33, 34, 35, 36, 44, 45, 46, 47, 48, 49, 50, 51, 52, 53, 54, 55, 56, 57, 58, 59] (by decide +kernel) (by decide +kernel)
set_option maxRecDepth 20000 in
theorem gX6_undo_X0_takeBack : GoodIn wsX6_undo (wsV RX6 235 RX0 yX0_takeBack wsX0_takeBack) := goodIn_app (goodIn_of _ (by decide +kernel)) ggX6_undo_X0_takeBack
theorem dX6_undo_0 : decode cX6_undo 0 = .ok (.aload_n 0, 1) := by decide +kernel
theorem dX6_undo_1 : decode cX6_undo 1 = .ok (.getfield 36, 3) := by decide +kernel
theorem dX6_undo_4 : decode cX6_undo 4 = .ok (.getfield 230, 3) := by decide +kernel
theorem dX6_undo_7 : decode cX6_undo 7 = .ok (.ifCond .ne 13, 3) := by decide +kernel
theorem dX6_undo_10 : decode cX6_undo 10 = .ok (.new 59, 3) := by decide +kernel
theorem dX6_undo_13 : decode cX6_undo 13 = .ok (.dup, 1) := by decide +kernel
theorem dX6_undo_14 : decode cX6_undo 14 = .ok (.ldc 233, 2) := by decide +kernel
theorem dX6_undo_16 : decode cX6_undo 16 = .ok (.invokespecial 63, 3) := by decide +kernel
theorem dX6_undo_19 : decode cX6_undo 19 = .ok (.athrow, 1) := by decide +kernel
theorem dX6_undo_20 : decode cX6_undo 20 = .ok (.aload_n 0, 1) := by decide +kernel
theorem dX6_undo_21 : decode cX6_undo 21 = .ok (.getfield 36, 3) := by decide +kernel
theorem dX6_undo_24 : decode cX6_undo 24 = .ok (.aload_n 0, 1) := by decide +kernel
theorem dX6_undo_25 : decode cX6_undo 25 = .ok (.getfield 19, 3) := by decide +kernel
theorem dX6_undo_28 : decode cX6_undo 28 = .ok (.invokevirtual 235, 3) := by decide +kernel
theorem dX6_undo_31 : decode cX6_undo 31 = .ok (.aload_n 0, 1) := by decide +kernel
theorem dX6_undo_32 : decode cX6_undo 32 = .ok (.getfield 36, 3) := by decide +kernel
theorem dX6_undo_35 : decode cX6_undo 35 = .ok (.getfield 230, 3) := by decide +kernel
theorem dX6_undo_38 : decode cX6_undo 38 = .ok (.ireturn, 1) := by decide +kernel
set_option maxRecDepth 20000 in
theorem ggX6_ifRemoved_X6_needWork : GoodIn wsX6_ifRemoved wsX6_needWork := goodIn_ca (goodIn_r _ [5, 6, 7, 8, 9, 10, 11, 12, 13, 14, 109, 110, 111, 112, 113, 114, 115, 116, 117, 118, 119, 120, 121, 122, 123, 124] (by decide +kernel) (by decide +kernel)) (goodIn_sub (fun _ h => List.mem_cons_of_mem _ (List.mem_append_right _ h)) (by decide +kernel))
set_option maxRecDepth 20000 in
theorem gX6_ifRemoved_X6_needWork : GoodIn wsX6_ifRemoved (wsV RX6 120 RX6 yX6_needWork wsX6_needWork) := goodIn_app (goodIn_of _ (by decide +kernel)) ggX6_ifRemoved_X6_needWork
set_option maxRecDepth 20000 in
theorem ggX6_ifRemoved_X6_keysHangingOn : GoodIn wsX6_ifRemoved wsX6_keysHangingOn := goodIn_r _ [18, 19, 8, 20, 21, 22, 12, 23, 14, 24, 25, 26, 27, 28, 29, 30, 31, 32, 33, 34, 35, 36, 37, 38, 39, 40, 41, 42, 43, 44, 45, 10, 11, 13, 46, 47, 48, 49, 50, 51, 52, 53, 54, 55, 56, 57, 58, 59, 60, 61, 62, 63, 64, 65, 66, 67, 68, 69, 70, 71, 72, 73, 74, 75, 76, 77, 78, 79, 80, 81, 82, 83, 84, 85, 86, 87, 88, 89, 90, 91, 92, 93, 94, 95, 96, 97, 98, 99, 100, 101, 102, 103, 104, 105, 106, 107, 108, 109, 110, 111, 112, 113, 114, 115, 116, 117, 118, 119, 120, 121, 122, 123, 124, 125, 126, 127, 128] (by decide +kernel) (by decide +kernel)
set_option maxRecDepth 20000 in
theorem gX6_ifRemoved_X6_keysHangingOn : GoodIn wsX6_ifRemoved (wsV RX6 238 RX6 yX6_keysHangingOn wsX6_keysHangingOn) := goodIn_app (goodIn_of _ (by decide +kernel)) ggX6_ifRemoved_X6_keysHangingOn
theorem dX6_ifRemoved_0 : decode cX6_ifRemoved 0 = .ok (.aload_n 0, 1) := by decide +kernel
theorem dX6_ifRemoved_1 : decode cX6_ifRemoved 1 = .ok (.iload_n 1, 1) := by decide +kernel
theorem dX6_ifRemoved_2 : decode cX6_ifRemoved 2 = .ok (.invokevirtual 120, 3) := by decide +kernel
theorem dX6_ifRemoved_5 : decode cX6_ifRemoved 5 = .ok (.aload_n 0, 1) := by decide +kernel
theorem dX6_ifRemoved_6 : decode cX6_ifRemoved 6 = .ok (.iload_n 1, 1) := by decide +kernel
theorem dX6_ifRemoved_7 : decode cX6_ifRemoved 7 = .ok (.invokevirtual 238, 3) := by decide +kernel
theorem dX6_ifRemoved_10 : decode cX6_ifRemoved 10 = .ok (.ireturn, 1) := by decide +kernel
set_option maxRecDepth 20000 in
theorem ggX6_freeYear_X6_needWork : GoodIn wsX6_freeYear wsX6_needWork := goodIn_ca (goodIn_r _ [8, 9, 10, 1, 11, 12, 13, 14, 15, 16, 63, 64, 65, 66, 67, 68, 69, 70, 71, 72, 73, 74, 75, 76, 77, 78] (by decide +kernel) (by decide +kernel)) (goodIn_sub (fun _ h => List.mem_cons_of_mem _ (List.mem_append_right _ h)) (by decide +kernel))
set_option maxRecDepth 20000 in
theorem gX6_freeYear_X6_needWork : GoodIn wsX6_freeYear (wsV RX6 120 RX6 yX6_needWork wsX6_needWork) := goodIn_app (goodIn_of _ (by decide +kernel)) ggX6_freeYear_X6_needWork
set_option maxRecDepth 20000 in
theorem ggX6_freeYear_X6_isYear : GoodIn wsX6_freeYear wsX6_isYear := goodIn_r _ [19] (by decide +kernel) (by decide +kernel)
set_option maxRecDepth 20000 in
theorem gX6_freeYear_X6_isYear : GoodIn wsX6_freeYear (va_wsS RX6 213 yX6_isYear wsX6_isYear) := goodIn_app (goodIn_of _ (by decide +kernel)) ggX6_freeYear_X6_isYear
set_option maxRecDepth 20000 in
theorem ggX6_freeYear_X3_isFree : GoodIn wsX6_freeYear wsX3_isFree := goodIn_r _ [23, 24, 25, 16, 26, 27, 28, 29, 30, 31, 32, 33, 34, 35, 36, 37, 38, 39, 40, 41, 42, 43, 44, 45, 46, 47, 48, 49, 50, 51, 52, 53, 54, 55, 56, 57, 58, 59, 60, 61, 62, 70, 71, 72, 73, 74, 75, 76, 77, 78, 79, 80, 81, 82] (by decide +kernel) (by decide +kernel)
set_option maxRecDepth 20000 in
theorem gX6_freeYear_X3_isFree : GoodIn wsX6_freeYear (wsV RX6 241 RX3 yX3_isFree wsX3_isFree) := goodIn_app (goodIn_of _ (by decide +kernel)) ggX6_freeYear_X3_isFree
theorem dX6_freeYear_0 : decode cX6_freeYear 0 = .ok (.aload_n 0, 1) := by decide +kernel
theorem dX6_freeYear_1 : decode cX6_freeYear 1 = .ok (.iload_n 1, 1) := by decide +kernel
theorem dX6_freeYear_2 : decode cX6_freeYear 2 = .ok (.invokevirtual 120, 3) := by decide +kernel
theorem dX6_freeYear_5 : decode cX6_freeYear 5 = .ok (.aload_n 0, 1) := by decide +kernel
theorem dX6_freeYear_6 : decode cX6_freeYear 6 = .ok (.getfield 19, 3) := by decide +kernel
theorem dX6_freeYear_9 : decode cX6_freeYear 9 = .ok (.getfield 124, 3) := by decide +kernel
theorem dX6_freeYear_12 : decode cX6_freeYear 12 = .ok (.iload_n 1, 1) := by decide +kernel
theorem dX6_freeYear_13 : decode cX6_freeYear 13 = .ok (.aaload, 1) := by decide +kernel
theorem dX6_freeYear_14 : decode cX6_freeYear 14 = .ok (.getfield 125, 3) := by decide +kernel
theorem dX6_freeYear_17 : decode cX6_freeYear 17 = .ok (.istore_n 2, 1) := by decide +kernel
theorem dX6_freeYear_18 : decode cX6_freeYear 18 = .ok (.iconst 0, 1) := by decide +kernel
theorem dX6_freeYear_19 : decode cX6_freeYear 19 = .ok (.istore_n 3, 1) := by decide +kernel
theorem dX6_freeYear_20 : decode cX6_freeYear 20 = .ok (.iload_n 3, 1) := by decide +kernel
theorem dX6_freeYear_21 : decode cX6_freeYear 21 = .ok (.sipush 1999, 3) := by decide +kernel
theorem dX6_freeYear_24 : decode cX6_freeYear 24 = .ok (.if_icmp .gt 63, 3) := by decide +kernel
theorem dX6_freeYear_27 : decode cX6_freeYear 27 = .ok (.iload_n 2, 1) := by decide +kernel
theorem dX6_freeYear_28 : decode cX6_freeYear 28 = .ok (.iload_n 3, 1) := by decide +kernel
theorem dX6_freeYear_29 : decode cX6_freeYear 29 = .ok (.isub, 1) := by decide +kernel
theorem dX6_freeYear_30 : decode cX6_freeYear 30 = .ok (.invokestatic 213, 3) := by decide +kernel
theorem dX6_freeYear_33 : decode cX6_freeYear 33 = .ok (.ifCond .eq 21, 3) := by decide +kernel
theorem dX6_freeYear_36 : decode cX6_freeYear 36 = .ok (.aload_n 0, 1) := by decide +kernel
theorem dX6_freeYear_37 : decode cX6_freeYear 37 = .ok (.getfield 19, 3) := by decide +kernel
theorem dX6_freeYear_40 : decode cX6_freeYear 40 = .ok (.iload_n 1, 1) := by decide +kernel
theorem dX6_freeYear_41 : decode cX6_freeYear 41 = .ok (.iload_n 2, 1) := by decide +kernel
theorem dX6_freeYear_42 : decode cX6_freeYear 42 = .ok (.iload_n 3, 1) := by decide +kernel
theorem dX6_freeYear_43 : decode cX6_freeYear 43 = .ok (.isub, 1) := by decide +kernel
theorem dX6_freeYear_44 : decode cX6_freeYear 44 = .ok (.invokevirtual 241, 3) := by decide +kernel
theorem dX6_freeYear_47 : decode cX6_freeYear 47 = .ok (.ifCond .eq 7, 3) := by decide +kernel
theorem dX6_freeYear_50 : decode cX6_freeYear 50 = .ok (.iload_n 2, 1) := by decide +kernel
theorem dX6_freeYear_51 : decode cX6_freeYear 51 = .ok (.iload_n 3, 1) := by decide +kernel
theorem dX6_freeYear_52 : decode cX6_freeYear 52 = .ok (.isub, 1) := by decide +kernel
theorem dX6_freeYear_53 : decode cX6_freeYear 53 = .ok (.ireturn, 1) := by decide +kernel
theorem dX6_freeYear_54 : decode cX6_freeYear 54 = .ok (.iload_n 2, 1) := by decide +kernel
theorem dX6_freeYear_55 : decode cX6_freeYear 55 = .ok (.iload_n 3, 1) := by decide +kernel
theorem dX6_freeYear_56 : decode cX6_freeYear 56 = .ok (.iadd, 1) := by decide +kernel
theorem dX6_freeYear_57 : decode cX6_freeYear 57 = .ok (.invokestatic 213, 3) := by decide +kernel
theorem dX6_freeYear_60 : decode cX6_freeYear 60 = .ok (.ifCond .eq 21, 3) := by decide +kernel
theorem dX6_freeYear_63 : decode cX6_freeYear 63 = .ok (.aload_n 0, 1) := by decide +kernel
theorem dX6_freeYear_64 : decode cX6_freeYear 64 = .ok (.getfield 19, 3) := by decide +kernel
theorem dX6_freeYear_67 : decode cX6_freeYear 67 = .ok (.iload_n 1, 1) := by decide +kernel
theorem dX6_freeYear_68 : decode cX6_freeYear 68 = .ok (.iload_n 2, 1) := by decide +kernel
theorem dX6_freeYear_69 : decode cX6_freeYear 69 = .ok (.iload_n 3, 1) := by decide +kernel
theorem dX6_freeYear_70 : decode cX6_freeYear 70 = .ok (.iadd, 1) := by decide +kernel
theorem dX6_freeYear_71 : decode cX6_freeYear 71 = .ok (.invokevirtual 241, 3) := by decide +kernel
theorem dX6_freeYear_74 : decode cX6_freeYear 74 = .ok (.ifCond .eq 7, 3) := by decide +kernel
theorem dX6_freeYear_77 : decode cX6_freeYear 77 = .ok (.iload_n 2, 1) := by decide +kernel
theorem dX6_freeYear_78 : decode cX6_freeYear 78 = .ok (.iload_n 3, 1) := by decide +kernel
theorem dX6_freeYear_79 : decode cX6_freeYear 79 = .ok (.iadd, 1) := by decide +kernel
theorem dX6_freeYear_80 : decode cX6_freeYear 80 = .ok (.ireturn, 1) := by decide +kernel
theorem dX6_freeYear_81 : decode cX6_freeYear 81 = .ok (.iinc 3 1, 3) := by decide +kernel
theorem dX6_freeYear_84 : decode cX6_freeYear 84 = .ok (.goto (-64), 3) := by decide +kernel
theorem dX6_freeYear_87 : decode cX6_freeYear 87 = .ok (.bipush (-9), 2) := by decide +kernel
theorem dX6_freeYear_89 : decode cX6_freeYear 89 = .ok (.ireturn, 1) := by decide +kernel
set_option maxRecDepth 20000 in
theorem ggX6_lettersWith_X6_needStyle : GoodIn wsX6_lettersWith wsX6_needStyle := goodIn_ca (goodIn_r _ [5, 6, 7, 8, 9, 4, 10] (by decide +kernel) (by decide +kernel)) (goodIn_sub (fun _ h => List.mem_cons_of_mem _ (List.mem_append_right _ h)) (by decide +kernel))
set_option maxRecDepth 20000 in
theorem gX6_lettersWith_X6_needStyle : GoodIn wsX6_lettersWith (va_wsS RX6 222 yX6_needStyle wsX6_needStyle) := goodIn_app (goodIn_of _ (by decide +kernel)) ggX6_lettersWith_X6_needStyle
set_option maxRecDepth 20000 in
theorem ggX6_lettersWith_X6_tryStyle : GoodIn wsX6_lettersWith wsX6_tryStyle := goodIn_r _ [14, 1, 15, 16, 17, 18, 19, 20, 21, 22, 23, 24, 25, 26, 27, 28, 29, 30, 31, 32, 33, 34, 35, 36, 37, 38, 39, 40, 41, 42, 43, 44, 45, 46, 47, 48, 49, 50, 51, 52, 53, 54, 55, 56, 57, 58, 59, 60, 61, 62, 63, 64, 65, 66, 67, 68, 69, 70, 71, 72, 73, 74, 75, 76, 77, 78, 79, 80, 81, 82, 83, 84, 85, 86, 87, 88, 89, 90, 91, 92, 93, 94, 95, 96, 97, 98, 106, 107, 108, 109, 110, 111, 112, 113, 114, 115, 116, 117, 118, 119, 120, 121, 122, 123, 124, 125] (by decide +kernel) (by decide +kernel)
set_option maxRecDepth 20000 in
theorem gX6_lettersWith_X6_tryStyle : GoodIn wsX6_lettersWith (wsV RX6 245 RX6 yX6_tryStyle wsX6_tryStyle) := goodIn_app (goodIn_of _ (by decide +kernel)) ggX6_lettersWith_X6_tryStyle
set_option maxRecDepth 20000 in
theorem ggX6_lettersWith_X3_lettered : GoodIn wsX6_lettersWith wsX3_lettered := goodIn_r _ [102, 22, 28, 103, 104, 62, 105, 113, 114, 115, 116, 117, 118, 119, 120, 121] (by decide +kernel) (by decide +kernel)
set_option maxRecDepth 20000 in
theorem gX6_lettersWith_X3_lettered : GoodIn wsX6_lettersWith (wsV RX6 103 RX3 yX3_lettered wsX3_lettered) := goodIn_app (goodIn_of _ (by decide +kernel)) ggX6_lettersWith_X3_lettered
theorem dX6_lettersWith_0 : decode cX6_lettersWith 0 = .ok (.iload_n 1, 1) := by decide +kernel
theorem dX6_lettersWith_1 : decode cX6_lettersWith 1 = .ok (.invokestatic 222, 3) := by decide +kernel
theorem dX6_lettersWith_4 : decode cX6_lettersWith 4 = .ok (.aload_n 0, 1) := by decide +kernel
theorem dX6_lettersWith_5 : decode cX6_lettersWith 5 = .ok (.iload_n 1, 1) := by decide +kernel
theorem dX6_lettersWith_6 : decode cX6_lettersWith 6 = .ok (.invokevirtual 245, 3) := by decide +kernel
theorem dX6_lettersWith_9 : decode cX6_lettersWith 9 = .ok (.aload_n 0, 1) := by decide +kernel
theorem dX6_lettersWith_10 : decode cX6_lettersWith 10 = .ok (.getfield 23, 3) := by decide +kernel
theorem dX6_lettersWith_13 : decode cX6_lettersWith 13 = .ok (.invokevirtual 103, 3) := by decide +kernel
theorem dX6_lettersWith_16 : decode cX6_lettersWith 16 = .ok (.ireturn, 1) := by decide +kernel
set_option maxRecDepth 20000 in
theorem ggX6_bestStyle_X6_tryStyle : GoodIn wsX6_bestStyle wsX6_tryStyle := goodIn_r _ [6, 1, 7, 8, 9, 10, 11, 12, 13, 14, 15, 16, 17, 18, 19, 20, 21, 22, 23, 24, 25, 26, 27, 28, 29, 30, 31, 32, 33, 34, 35, 36, 37, 38, 39, 40, 41, 42, 43, 44, 45, 46, 47, 48, 49, 50, 51, 52, 53, 54, 55, 56, 57, 58, 59, 60, 61, 62, 63, 64, 65, 66, 67, 68, 69, 70, 71, 72, 73, 74, 75, 76, 77, 78, 79, 80, 81, 82, 83, 84, 85, 86, 87, 88, 89, 90, 120, 121, 122, 123, 124, 125, 126, 127, 128, 129, 130, 131, 132, 133, 134, 135, 136, 137, 138, 139] (by decide +kernel) (by decide +kernel)
set_option maxRecDepth 20000 in
theorem gX6_bestStyle_X6_tryStyle : GoodIn wsX6_bestStyle (wsV RX6 245 RX6 yX6_tryStyle wsX6_tryStyle) := goodIn_app (goodIn_of _ (by decide +kernel)) ggX6_bestStyle_X6_tryStyle
set_option maxRecDepth 20000 in
theorem ggX6_bestStyle_X3_lettered : GoodIn wsX6_bestStyle wsX3_lettered := goodIn_r _ [94, 14, 20, 95, 96, 54, 97, 127, 128, 129, 130, 131, 132, 133, 134, 135] (by decide +kernel) (by decide +kernel)
set_option maxRecDepth 20000 in
theorem gX6_bestStyle_X3_lettered : GoodIn wsX6_bestStyle (wsV RX6 103 RX3 yX3_lettered wsX3_lettered) := goodIn_app (goodIn_of _ (by decide +kernel)) ggX6_bestStyle_X3_lettered
set_option maxRecDepth 20000 in
theorem ggX6_bestStyle_X3_longestKey : GoodIn wsX6_bestStyle wsX3_longestKey := goodIn_r _ [101, 14, 20, 102, 103, 104, 105, 106, 107, 54, 108, 109, 96, 97, 110, 111, 47, 112, 113, 46, 48, 114, 115, 116, 117, 118, 119, 127, 128, 129, 130, 131, 132, 133, 134, 135] (by decide +kernel) (by decide +kernel)
set_option maxRecDepth 20000 in
theorem gX6_bestStyle_X3_longestKey : GoodIn wsX6_bestStyle (wsV RX6 109 RX3 yX3_longestKey wsX3_longestKey) := goodIn_app (goodIn_of _ (by decide +kernel)) ggX6_bestStyle_X3_longestKey
theorem dX6_bestStyle_0 : decode cX6_bestStyle 0 = .ok (.iconst 0, 1) := by decide +kernel
theorem dX6_bestStyle_1 : decode cX6_bestStyle 1 = .ok (.istore_n 1, 1) := by decide +kernel
theorem dX6_bestStyle_2 : decode cX6_bestStyle 2 = .ok (.iconst 0, 1) := by decide +kernel
theorem dX6_bestStyle_3 : decode cX6_bestStyle 3 = .ok (.istore_n 2, 1) := by decide +kernel
theorem dX6_bestStyle_4 : decode cX6_bestStyle 4 = .ok (.iconst 0, 1) := by decide +kernel
theorem dX6_bestStyle_5 : decode cX6_bestStyle 5 = .ok (.istore_n 3, 1) := by decide +kernel
theorem dX6_bestStyle_6 : decode cX6_bestStyle 6 = .ok (.iconst 0, 1) := by decide +kernel
theorem dX6_bestStyle_7 : decode cX6_bestStyle 7 = .ok (.istore 4, 2) := by decide +kernel
theorem dX6_bestStyle_9 : decode cX6_bestStyle 9 = .ok (.iload 4, 2) := by decide +kernel
theorem dX6_bestStyle_11 : decode cX6_bestStyle 11 = .ok (.iconst 4, 1) := by decide +kernel
theorem dX6_bestStyle_12 : decode cX6_bestStyle 12 = .ok (.if_icmp .ge 65, 3) := by decide +kernel
theorem dX6_bestStyle_15 : decode cX6_bestStyle 15 = .ok (.aload_n 0, 1) := by decide +kernel
theorem dX6_bestStyle_16 : decode cX6_bestStyle 16 = .ok (.iload 4, 2) := by decide +kernel
theorem dX6_bestStyle_18 : decode cX6_bestStyle 18 = .ok (.invokevirtual 245, 3) := by decide +kernel
theorem dX6_bestStyle_21 : decode cX6_bestStyle 21 = .ok (.aload_n 0, 1) := by decide +kernel
theorem dX6_bestStyle_22 : decode cX6_bestStyle 22 = .ok (.getfield 23, 3) := by decide +kernel
theorem dX6_bestStyle_25 : decode cX6_bestStyle 25 = .ok (.invokevirtual 103, 3) := by decide +kernel
theorem dX6_bestStyle_28 : decode cX6_bestStyle 28 = .ok (.istore 5, 2) := by decide +kernel
theorem dX6_bestStyle_30 : decode cX6_bestStyle 30 = .ok (.aload_n 0, 1) := by decide +kernel
theorem dX6_bestStyle_31 : decode cX6_bestStyle 31 = .ok (.getfield 23, 3) := by decide +kernel
theorem dX6_bestStyle_34 : decode cX6_bestStyle 34 = .ok (.invokevirtual 109, 3) := by decide +kernel
theorem dX6_bestStyle_37 : decode cX6_bestStyle 37 = .ok (.istore 6, 2) := by decide +kernel
theorem dX6_bestStyle_39 : decode cX6_bestStyle 39 = .ok (.iload 4, 2) := by decide +kernel
theorem dX6_bestStyle_41 : decode cX6_bestStyle 41 = .ok (.ifCond .eq 21, 3) := by decide +kernel
theorem dX6_bestStyle_44 : decode cX6_bestStyle 44 = .ok (.iload 5, 2) := by decide +kernel
theorem dX6_bestStyle_46 : decode cX6_bestStyle 46 = .ok (.iload_n 2, 1) := by decide +kernel
theorem dX6_bestStyle_47 : decode cX6_bestStyle 47 = .ok (.if_icmp .lt 15, 3) := by decide +kernel
theorem dX6_bestStyle_50 : decode cX6_bestStyle 50 = .ok (.iload 5, 2) := by decide +kernel
theorem dX6_bestStyle_52 : decode cX6_bestStyle 52 = .ok (.iload_n 2, 1) := by decide +kernel
theorem dX6_bestStyle_53 : decode cX6_bestStyle 53 = .ok (.if_icmp .ne 18, 3) := by decide +kernel
theorem dX6_bestStyle_56 : decode cX6_bestStyle 56 = .ok (.iload 6, 2) := by decide +kernel
theorem dX6_bestStyle_58 : decode cX6_bestStyle 58 = .ok (.iload_n 3, 1) := by decide +kernel
theorem dX6_bestStyle_59 : decode cX6_bestStyle 59 = .ok (.if_icmp .ge 12, 3) := by decide +kernel
theorem dX6_bestStyle_62 : decode cX6_bestStyle 62 = .ok (.iload 4, 2) := by decide +kernel
theorem dX6_bestStyle_64 : decode cX6_bestStyle 64 = .ok (.istore_n 1, 1) := by decide +kernel
theorem dX6_bestStyle_65 : decode cX6_bestStyle 65 = .ok (.iload 5, 2) := by decide +kernel
theorem dX6_bestStyle_67 : decode cX6_bestStyle 67 = .ok (.istore_n 2, 1) := by decide +kernel
theorem dX6_bestStyle_68 : decode cX6_bestStyle 68 = .ok (.iload 6, 2) := by decide +kernel
theorem dX6_bestStyle_70 : decode cX6_bestStyle 70 = .ok (.istore_n 3, 1) := by decide +kernel
theorem dX6_bestStyle_71 : decode cX6_bestStyle 71 = .ok (.iinc 4 1, 3) := by decide +kernel
theorem dX6_bestStyle_74 : decode cX6_bestStyle 74 = .ok (.goto (-65), 3) := by decide +kernel
theorem dX6_bestStyle_77 : decode cX6_bestStyle 77 = .ok (.iload_n 1, 1) := by decide +kernel
theorem dX6_bestStyle_78 : decode cX6_bestStyle 78 = .ok (.ireturn, 1) := by decide +kernel
set_option maxRecDepth 20000 in
theorem ggX6_weightiest_X6_keysHangingOn : GoodIn wsX6_weightiest wsX6_keysHangingOn := goodIn_r _ [7, 8, 1, 9, 10, 11, 12, 13, 14, 15, 16, 17, 18, 19, 20, 21, 22, 23, 24, 25, 26, 27, 28, 29, 30, 31, 32, 33, 34, 35, 36, 37, 38, 39, 40, 41, 42, 43, 44, 45, 46, 47, 48, 49, 50, 51, 52, 53, 54, 55, 56, 57, 58, 59, 60, 61, 62, 63, 64, 65, 66, 67, 68, 69, 70, 71, 72, 73, 74, 75, 76, 77, 78, 79, 80, 81, 82, 83, 84, 85, 86, 87, 88, 89, 90, 91, 92, 93, 94, 95, 96, 97, 98, 99, 100, 101, 102, 103, 104, 105, 106, 107, 108, 109, 110, 111, 112, 113, 114, 115, 116, 117, 118, 119, 120, 121, 122] (by decide +kernel) (by decide +kernel)
set_option maxRecDepth 20000 in
theorem gX6_weightiest_X6_keysHangingOn : GoodIn wsX6_weightiest (wsV RX6 238 RX6 yX6_keysHangingOn wsX6_keysHangingOn) := goodIn_app (goodIn_of _ (by decide +kernel)) ggX6_weightiest_X6_keysHangingOn
theorem dX6_weightiest_0 : decode cX6_weightiest 0 = .ok (.bipush (-9), 2) := by decide +kernel
theorem dX6_weightiest_2 : decode cX6_weightiest 2 = .ok (.istore_n 1, 1) := by decide +kernel
theorem dX6_weightiest_3 : decode cX6_weightiest 3 = .ok (.iconst 0, 1) := by decide +kernel
theorem dX6_weightiest_4 : decode cX6_weightiest 4 = .ok (.istore_n 2, 1) := by decide +kernel
theorem dX6_weightiest_5 : decode cX6_weightiest 5 = .ok (.iconst 0, 1) := by decide +kernel
theorem dX6_weightiest_6 : decode cX6_weightiest 6 = .ok (.istore_n 3, 1) := by decide +kernel
theorem dX6_weightiest_7 : decode cX6_weightiest 7 = .ok (.iload_n 3, 1) := by decide +kernel
theorem dX6_weightiest_8 : decode cX6_weightiest 8 = .ok (.aload_n 0, 1) := by decide +kernel
theorem dX6_weightiest_9 : decode cX6_weightiest 9 = .ok (.getfield 19, 3) := by decide +kernel
theorem dX6_weightiest_12 : decode cX6_weightiest 12 = .ok (.getfield 94, 3) := by decide +kernel
theorem dX6_weightiest_15 : decode cX6_weightiest 15 = .ok (.if_icmp .ge 33, 3) := by decide +kernel
theorem dX6_weightiest_18 : decode cX6_weightiest 18 = .ok (.aload_n 0, 1) := by decide +kernel
theorem dX6_weightiest_19 : decode cX6_weightiest 19 = .ok (.iload_n 3, 1) := by decide +kernel
theorem dX6_weightiest_20 : decode cX6_weightiest 20 = .ok (.invokevirtual 238, 3) := by decide +kernel
theorem dX6_weightiest_23 : decode cX6_weightiest 23 = .ok (.istore 4, 2) := by decide +kernel
theorem dX6_weightiest_25 : decode cX6_weightiest 25 = .ok (.iload_n 1, 1) := by decide +kernel
theorem dX6_weightiest_26 : decode cX6_weightiest 26 = .ok (.bipush (-9), 2) := by decide +kernel
theorem dX6_weightiest_28 : decode cX6_weightiest 28 = .ok (.if_icmp .eq 9, 3) := by decide +kernel
theorem dX6_weightiest_31 : decode cX6_weightiest 31 = .ok (.iload 4, 2) := by decide +kernel
theorem dX6_weightiest_33 : decode cX6_weightiest 33 = .ok (.iload_n 2, 1) := by decide +kernel
theorem dX6_weightiest_34 : decode cX6_weightiest 34 = .ok (.if_icmp .le 8, 3) := by decide +kernel
theorem dX6_weightiest_37 : decode cX6_weightiest 37 = .ok (.iload_n 3, 1) := by decide +kernel
theorem dX6_weightiest_38 : decode cX6_weightiest 38 = .ok (.istore_n 1, 1) := by decide +kernel
theorem dX6_weightiest_39 : decode cX6_weightiest 39 = .ok (.iload 4, 2) := by decide +kernel
theorem dX6_weightiest_41 : decode cX6_weightiest 41 = .ok (.istore_n 2, 1) := by decide +kernel
theorem dX6_weightiest_42 : decode cX6_weightiest 42 = .ok (.iinc 3 1, 3) := by decide +kernel
theorem dX6_weightiest_45 : decode cX6_weightiest 45 = .ok (.goto (-38), 3) := by decide +kernel
theorem dX6_weightiest_48 : decode cX6_weightiest 48 = .ok (.iload_n 1, 1) := by decide +kernel
theorem dX6_weightiest_49 : decode cX6_weightiest 49 = .ok (.ireturn, 1) := by decide +kernel
set_option maxRecDepth 20000 in
theorem ggX6_runScript_X3_copyFrom : GoodIn wsX6_runScript wsX3_copyFrom := goodIn_r _ [10, 11, 12, 13, 14, 15, 16, 17, 18, 19, 20, 21, 22, 23, 24, 25, 26, 27, 28, 169, 170, 171, 172, 173, 174, 175, 176, 177, 178, 179, 180, 181] (by decide +kernel) (by decide +kernel)
set_option maxRecDepth 20000 in
theorem gX6_runScript_X3_copyFrom : GoodIn wsX6_runScript (wsV RX6 254 RX3 yX3_copyFrom wsX3_copyFrom) := goodIn_app (goodIn_of _ (by decide +kernel)) ggX6_runScript_X3_copyFrom
set_option maxRecDepth 20000 in
theorem ggX6_runScript_X6_commandAt : GoodIn wsX6_runScript wsX6_commandAt := goodIn_r _ [32, 3] (by decide +kernel) (by decide +kernel)
set_option maxRecDepth 20000 in
theorem gX6_runScript_X6_commandAt : GoodIn wsX6_runScript (va_wsS RX6 256 yX6_commandAt wsX6_commandAt) := goodIn_app (goodIn_of _ (by decide +kernel)) ggX6_runScript_X6_commandAt
set_option maxRecDepth 20000 in
theorem ggX6_runScript_X6_succeeds : GoodIn wsX6_runScript wsX6_succeeds := goodIn_r _ [35, 36, 37, 38, 31, 39, 40, 41, 42, 9, 43, 11, 44, 45, 46, 47, 15, 17, 48, 49, 50, 51, 52, 14, 19, 53, 54, 55, 56, 57, 58, 59, 60, 61, 62, 63, 64, 65, 66, 67, 68, 69, 70, 71, 72, 73, 74, 75, 76, 77, 78, 79, 80, 81, 82, 83, 84, 85, 86, 87, 18, 88, 89, 90, 91, 92, 93, 94, 95, 96, 97, 98, 99, 100, 101, 102, 103, 169, 170, 171, 172, 173, 174, 175, 176, 177, 178, 179, 180, 181] (by decide +kernel) (by decide +kernel)
set_option maxRecDepth 20000 in
theorem gX6_runScript_X6_succeeds : GoodIn wsX6_runScript (va_wsS RX6 259 yX6_succeeds wsX6_succeeds) := goodIn_app (goodIn_of _ (by decide +kernel)) ggX6_runScript_X6_succeeds
set_option maxRecDepth 20000 in
theorem ggX6_runScript_X3_rekey : GoodIn wsX6_runScript wsX3_rekey := goodIn_r _ [107, 11, 16, 15, 12, 108, 17, 109, 110, 111, 23, 112, 25, 26, 113, 114, 115, 116, 117, 118, 119, 120, 121, 122, 123, 124, 125, 74, 126, 127, 128, 129, 130, 131, 132, 133, 134, 135, 136, 137, 138, 139, 28, 140, 141, 142, 9, 143, 144, 145, 146, 147, 13, 148, 149, 150, 151, 152, 153, 154, 155, 156, 157, 158, 159, 160, 161, 169, 170, 171, 172, 173, 174, 175, 176, 177, 178, 179, 180, 181] (by decide +kernel) (by decide +kernel)
set_option maxRecDepth 20000 in
theorem gX6_runScript_X3_rekey : GoodIn wsX6_runScript (wsV RX6 88 RX3 yX3_rekey wsX3_rekey) := goodIn_app (goodIn_of _ (by decide +kernel)) ggX6_runScript_X3_rekey
theorem dX6_runScript_0 : decode cX6_runScript 0 = .ok (.iload_n 1, 1) := by decide +kernel
theorem dX6_runScript_1 : decode cX6_runScript 1 = .ok (.iconst 1, 1) := by decide +kernel
theorem dX6_runScript_2 : decode cX6_runScript 2 = .ok (.if_icmp .lt 8, 3) := by decide +kernel
theorem dX6_runScript_5 : decode cX6_runScript 5 = .ok (.iload_n 1, 1) := by decide +kernel
theorem dX6_runScript_6 : decode cX6_runScript 6 = .ok (.iconst 4, 1) := by decide +kernel
theorem dX6_runScript_7 : decode cX6_runScript 7 = .ok (.if_icmp .le 13, 3) := by decide +kernel
theorem dX6_runScript_10 : decode cX6_runScript 10 = .ok (.new 48, 3) := by decide +kernel
theorem dX6_runScript_13 : decode cX6_runScript 13 = .ok (.dup, 1) := by decide +kernel
theorem dX6_runScript_14 : decode cX6_runScript 14 = .ok (.ldc 248, 2) := by decide +kernel
theorem dX6_runScript_16 : decode cX6_runScript 16 = .ok (.invokespecial 52, 3) := by decide +kernel
theorem dX6_runScript_19 : decode cX6_runScript 19 = .ok (.athrow, 1) := by decide +kernel
theorem dX6_runScript_20 : decode cX6_runScript 20 = .ok (.lconst 1, 1) := by decide +kernel
theorem dX6_runScript_21 : decode cX6_runScript 21 = .ok (.lstore 4, 2) := by decide +kernel
theorem dX6_runScript_23 : decode cX6_runScript 23 = .ok (.iconst 0, 1) := by decide +kernel
theorem dX6_runScript_24 : decode cX6_runScript 24 = .ok (.istore 6, 2) := by decide +kernel
theorem dX6_runScript_26 : decode cX6_runScript 26 = .ok (.iload 6, 2) := by decide +kernel
theorem dX6_runScript_28 : decode cX6_runScript 28 = .ok (.iload_n 1, 1) := by decide +kernel
theorem dX6_runScript_29 : decode cX6_runScript 29 = .ok (.if_icmp .ge 17, 3) := by decide +kernel
theorem dX6_runScript_32 : decode cX6_runScript 32 = .ok (.lload 4, 2) := by decide +kernel
theorem dX6_runScript_34 : decode cX6_runScript 34 = .ok (.ldc2_w 250, 3) := by decide +kernel
theorem dX6_runScript_37 : decode cX6_runScript 37 = .ok (.lmul, 1) := by decide +kernel
theorem dX6_runScript_38 : decode cX6_runScript 38 = .ok (.lstore 4, 2) := by decide +kernel
theorem dX6_runScript_40 : decode cX6_runScript 40 = .ok (.iinc 6 1, 3) := by decide +kernel
theorem dX6_runScript_43 : decode cX6_runScript 43 = .ok (.goto (-17), 3) := by decide +kernel
theorem dX6_runScript_46 : decode cX6_runScript 46 = .ok (.lload_n 2, 1) := by decide +kernel
theorem dX6_runScript_47 : decode cX6_runScript 47 = .ok (.lconst 0, 1) := by decide +kernel
theorem dX6_runScript_48 : decode cX6_runScript 48 = .ok (.lcmp, 1) := by decide +kernel
theorem dX6_runScript_49 : decode cX6_runScript 49 = .ok (.ifCond .lt 10, 3) := by decide +kernel
theorem dX6_runScript_52 : decode cX6_runScript 52 = .ok (.lload_n 2, 1) := by decide +kernel
theorem dX6_runScript_53 : decode cX6_runScript 53 = .ok (.lload 4, 2) := by decide +kernel
theorem dX6_runScript_55 : decode cX6_runScript 55 = .ok (.lcmp, 1) := by decide +kernel
theorem dX6_runScript_56 : decode cX6_runScript 56 = .ok (.ifCond .lt 13, 3) := by decide +kernel
theorem dX6_runScript_59 : decode cX6_runScript 59 = .ok (.new 48, 3) := by decide +kernel
theorem dX6_runScript_62 : decode cX6_runScript 62 = .ok (.dup, 1) := by decide +kernel
theorem dX6_runScript_63 : decode cX6_runScript 63 = .ok (.ldc 252, 2) := by decide +kernel
theorem dX6_runScript_65 : decode cX6_runScript 65 = .ok (.invokespecial 52, 3) := by decide +kernel
theorem dX6_runScript_68 : decode cX6_runScript 68 = .ok (.athrow, 1) := by decide +kernel
theorem dX6_runScript_69 : decode cX6_runScript 69 = .ok (.aload_n 0, 1) := by decide +kernel
theorem dX6_runScript_70 : decode cX6_runScript 70 = .ok (.getfield 23, 3) := by decide +kernel
theorem dX6_runScript_73 : decode cX6_runScript 73 = .ok (.aload_n 0, 1) := by decide +kernel
theorem dX6_runScript_74 : decode cX6_runScript 74 = .ok (.getfield 19, 3) := by decide +kernel
theorem dX6_runScript_77 : decode cX6_runScript 77 = .ok (.invokevirtual 254, 3) := by decide +kernel
theorem dX6_runScript_80 : decode cX6_runScript 80 = .ok (.iconst 0, 1) := by decide +kernel
theorem dX6_runScript_81 : decode cX6_runScript 81 = .ok (.istore 6, 2) := by decide +kernel
theorem dX6_runScript_83 : decode cX6_runScript 83 = .ok (.iload 6, 2) := by decide +kernel
theorem dX6_runScript_85 : decode cX6_runScript 85 = .ok (.iload_n 1, 1) := by decide +kernel
theorem dX6_runScript_86 : decode cX6_runScript 86 = .ok (.if_icmp .ge 40, 3) := by decide +kernel
theorem dX6_runScript_89 : decode cX6_runScript 89 = .ok (.aload_n 0, 1) := by decide +kernel
theorem dX6_runScript_90 : decode cX6_runScript 90 = .ok (.getfield 23, 3) := by decide +kernel
theorem dX6_runScript_93 : decode cX6_runScript 93 = .ok (.lload_n 2, 1) := by decide +kernel
theorem dX6_runScript_94 : decode cX6_runScript 94 = .ok (.iload_n 1, 1) := by decide +kernel
theorem dX6_runScript_95 : decode cX6_runScript 95 = .ok (.iconst 1, 1) := by decide +kernel
theorem dX6_runScript_96 : decode cX6_runScript 96 = .ok (.isub, 1) := by decide +kernel
theorem dX6_runScript_97 : decode cX6_runScript 97 = .ok (.iload 6, 2) := by decide +kernel
theorem dX6_runScript_99 : decode cX6_runScript 99 = .ok (.isub, 1) := by decide +kernel
theorem dX6_runScript_100 : decode cX6_runScript 100 = .ok (.invokestatic 256, 3) := by decide +kernel
theorem dX6_runScript_103 : decode cX6_runScript 103 = .ok (.invokestatic 259, 3) := by decide +kernel
theorem dX6_runScript_106 : decode cX6_runScript 106 = .ok (.ifCond .ne 6, 3) := by decide +kernel
theorem dX6_runScript_109 : decode cX6_runScript 109 = .ok (.iload 6, 2) := by decide +kernel
theorem dX6_runScript_111 : decode cX6_runScript 111 = .ok (.ireturn, 1) := by decide +kernel
theorem dX6_runScript_112 : decode cX6_runScript 112 = .ok (.aload_n 0, 1) := by decide +kernel
theorem dX6_runScript_113 : decode cX6_runScript 113 = .ok (.getfield 23, 3) := by decide +kernel
theorem dX6_runScript_116 : decode cX6_runScript 116 = .ok (.invokevirtual 88, 3) := by decide +kernel
theorem dX6_runScript_119 : decode cX6_runScript 119 = .ok (.pop, 1) := by decide +kernel
theorem dX6_runScript_120 : decode cX6_runScript 120 = .ok (.iinc 6 1, 3) := by decide +kernel
theorem dX6_runScript_123 : decode cX6_runScript 123 = .ok (.goto (-40), 3) := by decide +kernel
theorem dX6_runScript_126 : decode cX6_runScript 126 = .ok (.bipush (-9), 2) := by decide +kernel
theorem dX6_runScript_128 : decode cX6_runScript 128 = .ok (.ireturn, 1) := by decide +kernel
set_option maxRecDepth 20000 in
theorem ggX6_simulate_X3_copyFrom : GoodIn wsX6_simulate wsX3_copyFrom := goodIn_r _ [12, 13, 14, 15, 16, 17, 18, 19, 20, 21, 22, 23, 24, 25, 26, 27, 28, 29, 30, 137, 138, 139, 140, 141, 142, 143, 144, 145, 146, 147, 148, 149] (by decide +kernel) (by decide +kernel)
set_option maxRecDepth 20000 in
theorem gX6_simulate_X3_copyFrom : GoodIn wsX6_simulate (wsV RX6 254 RX3 yX3_copyFrom wsX3_copyFrom) := goodIn_app (goodIn_of _ (by decide +kernel)) ggX6_simulate_X3_copyFrom
set_option maxRecDepth 20000 in
theorem ggX6_simulate_X6_playRound : GoodIn wsX6_simulate wsX6_playRound := goodIn_r _ [35, 36, 37, 38, 39, 40, 7, 41, 42, 43, 44, 25, 45, 27, 28, 29, 30, 46, 47, 48, 49, 50, 51, 52, 11, 53, 13, 17, 19, 22, 23, 24, 26, 54, 55, 56, 57, 58, 59, 60, 61, 62, 63, 64, 65, 16, 21, 66, 130, 131, 132, 133, 134, 135, 136, 146, 147, 148, 149, 137, 138, 139, 140, 141, 142, 143, 144, 145] (by decide +kernel) (by decide +kernel)
set_option maxRecDepth 20000 in
theorem gX6_simulate_X6_playRound : GoodIn wsX6_simulate (wsV RX6 269 RX6 yX6_playRound wsX6_playRound) := goodIn_app (goodIn_of _ (by decide +kernel)) ggX6_simulate_X6_playRound
set_option maxRecDepth 20000 in
theorem ggX6_simulate_X3_rekey : GoodIn wsX6_simulate wsX3_rekey := goodIn_r _ [70, 13, 18, 17, 14, 71, 19, 72, 73, 74, 25, 75, 27, 28, 76, 77, 78, 79, 80, 81, 48, 82, 83, 47, 49, 84, 85, 86, 87, 88, 89, 90, 91, 92, 93, 94, 95, 96, 97, 98, 99, 100, 30, 101, 102, 103, 11, 104, 105, 106, 107, 108, 15, 109, 110, 111, 112, 113, 114, 115, 116, 117, 118, 119, 120, 121, 122, 137, 138, 139, 140, 141, 142, 143, 144, 145, 146, 147, 148, 149] (by decide +kernel) (by decide +kernel)
set_option maxRecDepth 20000 in
theorem gX6_simulate_X3_rekey : GoodIn wsX6_simulate (wsV RX6 88 RX3 yX3_rekey wsX3_rekey) := goodIn_app (goodIn_of _ (by decide +kernel)) ggX6_simulate_X3_rekey
set_option maxRecDepth 20000 in
theorem ggX6_simulate_X3_lettered : GoodIn wsX6_simulate wsX3_lettered := goodIn_r _ [126, 13, 19, 127, 128, 86, 129, 137, 138, 139, 140, 141, 142, 143, 144, 145] (by decide +kernel) (by decide +kernel)
set_option maxRecDepth 20000 in
theorem gX6_simulate_X3_lettered : GoodIn wsX6_simulate (wsV RX6 103 RX3 yX3_lettered wsX3_lettered) := goodIn_app (goodIn_of _ (by decide +kernel)) ggX6_simulate_X3_lettered
theorem dX6_simulate_0 : decode cX6_simulate 0 = .ok (.iload_n 3, 1) := by decide +kernel
theorem dX6_simulate_1 : decode cX6_simulate 1 = .ok (.iconst 1, 1) := by decide +kernel
theorem dX6_simulate_2 : decode cX6_simulate 2 = .ok (.if_icmp .lt 9, 3) := by decide +kernel
theorem dX6_simulate_5 : decode cX6_simulate 5 = .ok (.iload_n 3, 1) := by decide +kernel
theorem dX6_simulate_6 : decode cX6_simulate 6 = .ok (.bipush 99, 2) := by decide +kernel
theorem dX6_simulate_8 : decode cX6_simulate 8 = .ok (.if_icmp .le 14, 3) := by decide +kernel
theorem dX6_simulate_11 : decode cX6_simulate 11 = .ok (.new 48, 3) := by decide +kernel
theorem dX6_simulate_14 : decode cX6_simulate 14 = .ok (.dup, 1) := by decide +kernel
theorem dX6_simulate_15 : decode cX6_simulate 15 = .ok (.ldc_w 263, 3) := by decide +kernel
theorem dX6_simulate_18 : decode cX6_simulate 18 = .ok (.invokespecial 52, 3) := by decide +kernel
theorem dX6_simulate_21 : decode cX6_simulate 21 = .ok (.athrow, 1) := by decide +kernel
theorem dX6_simulate_22 : decode cX6_simulate 22 = .ok (.aload_n 0, 1) := by decide +kernel
theorem dX6_simulate_23 : decode cX6_simulate 23 = .ok (.getfield 23, 3) := by decide +kernel
theorem dX6_simulate_26 : decode cX6_simulate 26 = .ok (.aload_n 0, 1) := by decide +kernel
theorem dX6_simulate_27 : decode cX6_simulate 27 = .ok (.getfield 19, 3) := by decide +kernel
theorem dX6_simulate_30 : decode cX6_simulate 30 = .ok (.invokevirtual 254, 3) := by decide +kernel
theorem dX6_simulate_33 : decode cX6_simulate 33 = .ok (.lload_n 1, 1) := by decide +kernel
theorem dX6_simulate_34 : decode cX6_simulate 34 = .ok (.lstore 4, 2) := by decide +kernel
theorem dX6_simulate_36 : decode cX6_simulate 36 = .ok (.iconst 0, 1) := by decide +kernel
theorem dX6_simulate_37 : decode cX6_simulate 37 = .ok (.istore 6, 2) := by decide +kernel
theorem dX6_simulate_39 : decode cX6_simulate 39 = .ok (.iload 6, 2) := by decide +kernel
theorem dX6_simulate_41 : decode cX6_simulate 41 = .ok (.iload_n 3, 1) := by decide +kernel
theorem dX6_simulate_42 : decode cX6_simulate 42 = .ok (.if_icmp .ge 35, 3) := by decide +kernel
theorem dX6_simulate_45 : decode cX6_simulate 45 = .ok (.lload 4, 2) := by decide +kernel
theorem dX6_simulate_47 : decode cX6_simulate 47 = .ok (.ldc2_w 265, 3) := by decide +kernel
theorem dX6_simulate_50 : decode cX6_simulate 50 = .ok (.lmul, 1) := by decide +kernel
theorem dX6_simulate_51 : decode cX6_simulate 51 = .ok (.ldc2_w 267, 3) := by decide +kernel
theorem dX6_simulate_54 : decode cX6_simulate 54 = .ok (.ladd, 1) := by decide +kernel
theorem dX6_simulate_55 : decode cX6_simulate 55 = .ok (.lstore 4, 2) := by decide +kernel
theorem dX6_simulate_57 : decode cX6_simulate 57 = .ok (.aload_n 0, 1) := by decide +kernel
theorem dX6_simulate_58 : decode cX6_simulate 58 = .ok (.aload_n 0, 1) := by decide +kernel
theorem dX6_simulate_59 : decode cX6_simulate 59 = .ok (.getfield 23, 3) := by decide +kernel
theorem dX6_simulate_62 : decode cX6_simulate 62 = .ok (.lload 4, 2) := by decide +kernel
theorem dX6_simulate_64 : decode cX6_simulate 64 = .ok (.bipush 33, 2) := by decide +kernel
theorem dX6_simulate_66 : decode cX6_simulate 66 = .ok (.lushr, 1) := by decide +kernel
theorem dX6_simulate_67 : decode cX6_simulate 67 = .ok (.l2i, 1) := by decide +kernel
theorem dX6_simulate_68 : decode cX6_simulate 68 = .ok (.invokevirtual 269, 3) := by decide +kernel
theorem dX6_simulate_71 : decode cX6_simulate 71 = .ok (.iinc 6 1, 3) := by decide +kernel
theorem dX6_simulate_74 : decode cX6_simulate 74 = .ok (.goto (-35), 3) := by decide +kernel
theorem dX6_simulate_77 : decode cX6_simulate 77 = .ok (.aload_n 0, 1) := by decide +kernel
theorem dX6_simulate_78 : decode cX6_simulate 78 = .ok (.getfield 23, 3) := by decide +kernel
theorem dX6_simulate_81 : decode cX6_simulate 81 = .ok (.invokevirtual 88, 3) := by decide +kernel
theorem dX6_simulate_84 : decode cX6_simulate 84 = .ok (.pop, 1) := by decide +kernel
theorem dX6_simulate_85 : decode cX6_simulate 85 = .ok (.bipush 100, 2) := by decide +kernel
theorem dX6_simulate_87 : decode cX6_simulate 87 = .ok (.aload_n 0, 1) := by decide +kernel
theorem dX6_simulate_88 : decode cX6_simulate 88 = .ok (.getfield 23, 3) := by decide +kernel
theorem dX6_simulate_91 : decode cX6_simulate 91 = .ok (.getfield 94, 3) := by decide +kernel
theorem dX6_simulate_94 : decode cX6_simulate 94 = .ok (.imul, 1) := by decide +kernel
theorem dX6_simulate_95 : decode cX6_simulate 95 = .ok (.aload_n 0, 1) := by decide +kernel
theorem dX6_simulate_96 : decode cX6_simulate 96 = .ok (.getfield 23, 3) := by decide +kernel
theorem dX6_simulate_99 : decode cX6_simulate 99 = .ok (.invokevirtual 103, 3) := by decide +kernel
theorem dX6_simulate_102 : decode cX6_simulate 102 = .ok (.iadd, 1) := by decide +kernel
theorem dX6_simulate_103 : decode cX6_simulate 103 = .ok (.ireturn, 1) := by decide +kernel
set_option maxRecDepth 20000 in
theorem ggX6_save_X6_needSlot : GoodIn wsX6_save wsX6_needSlot := goodIn_ca (goodIn_r _ [8, 9, 10] (by decide +kernel) (by decide +kernel)) (goodIn_sub (fun _ h => List.mem_cons_of_mem _ (List.mem_append_right _ h)) (by decide +kernel))
set_option maxRecDepth 20000 in
theorem gX6_save_X6_needSlot : GoodIn wsX6_save (va_wsS RX6 273 yX6_needSlot wsX6_needSlot) := goodIn_app (goodIn_of _ (by decide +kernel)) ggX6_save_X6_needSlot
set_option maxRecDepth 20000 in
theorem ggX6_save_X3_copyFrom : GoodIn wsX6_save wsX3_copyFrom := goodIn_r _ [15, 16, 17, 18, 19, 20, 21, 22, 23, 24, 25, 26, 27, 28, 29, 30, 31, 32, 33, 41, 42, 43, 44, 45, 46, 47, 48, 49, 50, 51, 52, 53] (by decide +kernel) (by decide +kernel)
set_option maxRecDepth 20000 in
theorem gX6_save_X3_copyFrom : GoodIn wsX6_save (wsV RX6 254 RX3 yX3_copyFrom wsX3_copyFrom) := goodIn_app (goodIn_of _ (by decide +kernel)) ggX6_save_X3_copyFrom
theorem dX6_save_0 : decode cX6_save 0 = .ok (.iload_n 1, 1) := by decide +kernel
theorem dX6_save_1 : decode cX6_save 1 = .ok (.invokestatic 273, 3) := by decide +kernel
theorem dX6_save_4 : decode cX6_save 4 = .ok (.aload_n 0, 1) := by decide +kernel
theorem dX6_save_5 : decode cX6_save 5 = .ok (.getfield 40, 3) := by decide +kernel
theorem dX6_save_8 : decode cX6_save 8 = .ok (.iload_n 1, 1) := by decide +kernel
theorem dX6_save_9 : decode cX6_save 9 = .ok (.aaload, 1) := by decide +kernel
theorem dX6_save_10 : decode cX6_save 10 = .ok (.aload_n 0, 1) := by decide +kernel
theorem dX6_save_11 : decode cX6_save 11 = .ok (.getfield 19, 3) := by decide +kernel
theorem dX6_save_14 : decode cX6_save 14 = .ok (.invokevirtual 254, 3) := by decide +kernel
theorem dX6_save_17 : decode cX6_save 17 = .ok (.aload_n 0, 1) := by decide +kernel
theorem dX6_save_18 : decode cX6_save 18 = .ok (.getfield 44, 3) := by decide +kernel
theorem dX6_save_21 : decode cX6_save 21 = .ok (.iload_n 1, 1) := by decide +kernel
theorem dX6_save_22 : decode cX6_save 22 = .ok (.iconst 1, 1) := by decide +kernel
theorem dX6_save_23 : decode cX6_save 23 = .ok (.bastore, 1) := by decide +kernel
theorem dX6_save_24 : decode cX6_save 24 = .ok (.aload_n 0, 1) := by decide +kernel
theorem dX6_save_25 : decode cX6_save 25 = .ok (.getfield 19, 3) := by decide +kernel
theorem dX6_save_28 : decode cX6_save 28 = .ok (.getfield 94, 3) := by decide +kernel
theorem dX6_save_31 : decode cX6_save 31 = .ok (.ireturn, 1) := by decide +kernel
set_option maxRecDepth 20000 in
theorem ggX6_restore_X6_needSlot : GoodIn wsX6_restore wsX6_needSlot := goodIn_ca (goodIn_r _ [11, 12, 13] (by decide +kernel) (by decide +kernel)) (goodIn_sub (fun _ h => List.mem_cons_of_mem _ (List.mem_append_right _ h)) (by decide +kernel))
set_option maxRecDepth 20000 in
theorem gX6_restore_X6_needSlot : GoodIn wsX6_restore (va_wsS RX6 273 yX6_needSlot wsX6_needSlot) := goodIn_app (goodIn_of _ (by decide +kernel)) ggX6_restore_X6_needSlot
set_option maxRecDepth 20000 in
theorem ggX6_restore_X3_copyFrom : GoodIn wsX6_restore wsX3_copyFrom := goodIn_r _ [18, 19, 20, 21, 22, 23, 24, 25, 26, 27, 28, 29, 30, 31, 32, 33, 34, 35, 36, 50, 51, 52, 53, 54, 55, 56, 57, 58, 59, 60, 61, 62] (by decide +kernel) (by decide +kernel)
set_option maxRecDepth 20000 in
theorem gX6_restore_X3_copyFrom : GoodIn wsX6_restore (wsV RX6 254 RX3 yX3_copyFrom wsX3_copyFrom) := goodIn_app (goodIn_of _ (by decide +kernel)) ggX6_restore_X3_copyFrom
set_option maxRecDepth 20000 in
theorem ggX6_restore_X0_forget : GoodIn wsX6_restore wsX0_forget := goodIn_r _ [41, 42, 63, 64, 65] (by decide +kernel) (by decide +kernel)
set_option maxRecDepth 20000 in
theorem gX6_restore_X0_forget : GoodIn wsX6_restore (wsV RX6 91 RX0 yX0_forget wsX0_forget) := goodIn_app (goodIn_of _ (by decide +kernel)) ggX6_restore_X0_forget
theorem dX6_restore_0 : decode cX6_restore 0 = .ok (.iload_n 1, 1) := by decide +kernel
theorem dX6_restore_1 : decode cX6_restore 1 = .ok (.invokestatic 273, 3) := by decide +kernel
theorem dX6_restore_4 : decode cX6_restore 4 = .ok (.aload_n 0, 1) := by decide +kernel
theorem dX6_restore_5 : decode cX6_restore 5 = .ok (.getfield 44, 3) := by decide +kernel
theorem dX6_restore_8 : decode cX6_restore 8 = .ok (.iload_n 1, 1) := by decide +kernel
theorem dX6_restore_9 : decode cX6_restore 9 = .ok (.baload, 1) := by decide +kernel
theorem dX6_restore_10 : decode cX6_restore 10 = .ok (.ifCond .ne 14, 3) := by decide +kernel
theorem dX6_restore_13 : decode cX6_restore 13 = .ok (.new 59, 3) := by decide +kernel
theorem dX6_restore_16 : decode cX6_restore 16 = .ok (.dup, 1) := by decide +kernel
theorem dX6_restore_17 : decode cX6_restore 17 = .ok (.ldc_w 276, 3) := by decide +kernel
theorem dX6_restore_20 : decode cX6_restore 20 = .ok (.invokespecial 63, 3) := by decide +kernel
theorem dX6_restore_23 : decode cX6_restore 23 = .ok (.athrow, 1) := by decide +kernel
theorem dX6_restore_24 : decode cX6_restore 24 = .ok (.aload_n 0, 1) := by decide +kernel
theorem dX6_restore_25 : decode cX6_restore 25 = .ok (.getfield 19, 3) := by decide +kernel
theorem dX6_restore_28 : decode cX6_restore 28 = .ok (.aload_n 0, 1) := by decide +kernel
theorem dX6_restore_29 : decode cX6_restore 29 = .ok (.getfield 40, 3) := by decide +kernel
theorem dX6_restore_32 : decode cX6_restore 32 = .ok (.iload_n 1, 1) := by decide +kernel
theorem dX6_restore_33 : decode cX6_restore 33 = .ok (.aaload, 1) := by decide +kernel
theorem dX6_restore_34 : decode cX6_restore 34 = .ok (.invokevirtual 254, 3) := by decide +kernel
theorem dX6_restore_37 : decode cX6_restore 37 = .ok (.aload_n 0, 1) := by decide +kernel
theorem dX6_restore_38 : decode cX6_restore 38 = .ok (.getfield 36, 3) := by decide +kernel
theorem dX6_restore_41 : decode cX6_restore 41 = .ok (.invokevirtual 91, 3) := by decide +kernel
theorem dX6_restore_44 : decode cX6_restore 44 = .ok (.aload_n 0, 1) := by decide +kernel
theorem dX6_restore_45 : decode cX6_restore 45 = .ok (.getfield 19, 3) := by decide +kernel
theorem dX6_restore_48 : decode cX6_restore 48 = .ok (.getfield 94, 3) := by decide +kernel
theorem dX6_restore_51 : decode cX6_restore 51 = .ok (.ireturn, 1) := by decide +kernel
set_option maxRecDepth 20000 in
theorem ggX6_needWork_X3_has : GoodIn wsX6_needWork wsX3_has := goodIn_r _ [8, 9, 17, 18, 19, 20, 21, 22, 23, 24, 25] (by decide +kernel) (by decide +kernel)
set_option maxRecDepth 20000 in
theorem gX6_needWork_X3_has : GoodIn wsX6_needWork (wsV RX6 278 RX3 yX3_has wsX3_has) := goodIn_app (goodIn_of _ (by decide +kernel)) ggX6_needWork_X3_has
theorem dX6_needWork_0 : decode cX6_needWork 0 = .ok (.aload_n 0, 1) := by decide +kernel
theorem dX6_needWork_1 : decode cX6_needWork 1 = .ok (.getfield 19, 3) := by decide +kernel
theorem dX6_needWork_4 : decode cX6_needWork 4 = .ok (.iload_n 1, 1) := by decide +kernel
theorem dX6_needWork_5 : decode cX6_needWork 5 = .ok (.invokevirtual 278, 3) := by decide +kernel
theorem dX6_needWork_8 : decode cX6_needWork 8 = .ok (.ifCond .ne 14, 3) := by decide +kernel
theorem dX6_needWork_11 : decode cX6_needWork 11 = .ok (.new 281, 3) := by decide +kernel
theorem dX6_needWork_14 : decode cX6_needWork 14 = .ok (.dup, 1) := by decide +kernel
theorem dX6_needWork_15 : decode cX6_needWork 15 = .ok (.ldc_w 283, 3) := by decide +kernel
theorem dX6_needWork_18 : decode cX6_needWork 18 = .ok (.invokespecial 285, 3) := by decide +kernel
theorem dX6_needWork_21 : decode cX6_needWork 21 = .ok (.athrow, 1) := by decide +kernel
theorem dX6_needWork_22 : decode cX6_needWork 22 = .ok (.return_, 1) := by decide +kernel
set_option maxRecDepth 20000 in
theorem ggX6_needStyle_X6_isStyle : GoodIn wsX6_needStyle wsX6_isStyle := goodIn_r _ [6] (by decide +kernel) (by decide +kernel)
set_option maxRecDepth 20000 in
theorem gX6_needStyle_X6_isStyle : GoodIn wsX6_needStyle (va_wsS RX6 286 yX6_isStyle wsX6_isStyle) := goodIn_app (goodIn_of _ (by decide +kernel)) ggX6_needStyle_X6_isStyle
theorem dX6_needStyle_0 : decode cX6_needStyle 0 = .ok (.iload_n 0, 1) := by decide +kernel
theorem dX6_needStyle_1 : decode cX6_needStyle 1 = .ok (.invokestatic 286, 3) := by decide +kernel
theorem dX6_needStyle_4 : decode cX6_needStyle 4 = .ok (.ifCond .ne 14, 3) := by decide +kernel
theorem dX6_needStyle_7 : decode cX6_needStyle 7 = .ok (.new 48, 3) := by decide +kernel
theorem dX6_needStyle_10 : decode cX6_needStyle 10 = .ok (.dup, 1) := by decide +kernel
theorem dX6_needStyle_11 : decode cX6_needStyle 11 = .ok (.ldc_w 289, 3) := by decide +kernel
theorem dX6_needStyle_14 : decode cX6_needStyle 14 = .ok (.invokespecial 52, 3) := by decide +kernel
theorem dX6_needStyle_17 : decode cX6_needStyle 17 = .ok (.athrow, 1) := by decide +kernel
theorem dX6_needStyle_18 : decode cX6_needStyle 18 = .ok (.return_, 1) := by decide +kernel
theorem dX6_needSlot_0 : decode cX6_needSlot 0 = .ok (.iload_n 0, 1) := by decide +kernel
theorem dX6_needSlot_1 : decode cX6_needSlot 1 = .ok (.ifCond .lt 8, 3) := by decide +kernel
theorem dX6_needSlot_4 : decode cX6_needSlot 4 = .ok (.iload_n 0, 1) := by decide +kernel
theorem dX6_needSlot_5 : decode cX6_needSlot 5 = .ok (.iconst 2, 1) := by decide +kernel
theorem dX6_needSlot_6 : decode cX6_needSlot 6 = .ok (.if_icmp .lt 14, 3) := by decide +kernel
theorem dX6_needSlot_9 : decode cX6_needSlot 9 = .ok (.new 281, 3) := by decide +kernel
theorem dX6_needSlot_12 : decode cX6_needSlot 12 = .ok (.dup, 1) := by decide +kernel
theorem dX6_needSlot_13 : decode cX6_needSlot 13 = .ok (.ldc_w 291, 3) := by decide +kernel
theorem dX6_needSlot_16 : decode cX6_needSlot 16 = .ok (.invokespecial 285, 3) := by decide +kernel
theorem dX6_needSlot_19 : decode cX6_needSlot 19 = .ok (.athrow, 1) := by decide +kernel
theorem dX6_needSlot_20 : decode cX6_needSlot 20 = .ok (.return_, 1) := by decide +kernel
theorem dX6_isYear_0 : decode cX6_isYear 0 = .ok (.iload_n 0, 1) := by decide +kernel
theorem dX6_isYear_1 : decode cX6_isYear 1 = .ok (.sipush 1000, 3) := by decide +kernel
theorem dX6_isYear_4 : decode cX6_isYear 4 = .ok (.if_icmp .lt 14, 3) := by decide +kernel
theorem dX6_isYear_7 : decode cX6_isYear 7 = .ok (.iload_n 0, 1) := by decide +kernel
theorem dX6_isYear_8 : decode cX6_isYear 8 = .ok (.sipush 2999, 3) := by decide +kernel
theorem dX6_isYear_11 : decode cX6_isYear 11 = .ok (.if_icmp .gt 7, 3) := by decide +kernel
theorem dX6_isYear_14 : decode cX6_isYear 14 = .ok (.iconst 1, 1) := by decide +kernel
theorem dX6_isYear_15 : decode cX6_isYear 15 = .ok (.goto 4, 3) := by decide +kernel
theorem dX6_isYear_18 : decode cX6_isYear 18 = .ok (.iconst 0, 1) := by decide +kernel
theorem dX6_isYear_19 : decode cX6_isYear 19 = .ok (.ireturn, 1) := by decide +kernel
theorem dX6_isStyle_0 : decode cX6_isStyle 0 = .ok (.iload_n 0, 1) := by decide +kernel
theorem dX6_isStyle_1 : decode cX6_isStyle 1 = .ok (.ifCond .lt 12, 3) := by decide +kernel
theorem dX6_isStyle_4 : decode cX6_isStyle 4 = .ok (.iload_n 0, 1) := by decide +kernel
theorem dX6_isStyle_5 : decode cX6_isStyle 5 = .ok (.iconst 4, 1) := by decide +kernel
theorem dX6_isStyle_6 : decode cX6_isStyle 6 = .ok (.if_icmp .ge 7, 3) := by decide +kernel
theorem dX6_isStyle_9 : decode cX6_isStyle 9 = .ok (.iconst 1, 1) := by decide +kernel
theorem dX6_isStyle_10 : decode cX6_isStyle 10 = .ok (.goto 4, 3) := by decide +kernel
theorem dX6_isStyle_13 : decode cX6_isStyle 13 = .ok (.iconst 0, 1) := by decide +kernel
theorem dX6_isStyle_14 : decode cX6_isStyle 14 = .ok (.ireturn, 1) := by decide +kernel
set_option maxRecDepth 20000 in
theorem ggX6_tellsOneWork_X4_read : GoodIn wsX6_tellsOneWork wsX4_read := goodIn_r _ [7, 8, 9, 10, 11, 12, 13, 14, 15, 6, 16, 17, 18, 19, 20, 21, 22, 23, 24, 25, 26, 27, 28, 29, 30, 31, 32, 33, 34, 35, 36, 37, 38, 39, 40, 41, 42, 43, 44, 45, 46, 47, 48, 49, 50, 51, 52, 53, 54, 55, 56, 57, 58, 59, 60, 61, 69, 70, 71, 72, 73, 74, 75, 76, 77, 78] (by decide +kernel) (by decide +kernel)
set_option maxRecDepth 20000 in
theorem gX6_tellsOneWork_X4_read : GoodIn wsX6_tellsOneWork (wsV RX6 68 RX4 yX4_read wsX4_read) := goodIn_app (goodIn_of _ (by decide +kernel)) ggX6_tellsOneWork_X4_read
theorem dX6_tellsOneWork_0 : decode cX6_tellsOneWork 0 = .ok (.aload_n 0, 1) := by decide +kernel
theorem dX6_tellsOneWork_1 : decode cX6_tellsOneWork 1 = .ok (.getfield 10, 3) := by decide +kernel
theorem dX6_tellsOneWork_4 : decode cX6_tellsOneWork 4 = .ok (.invokevirtual 68, 3) := by decide +kernel
theorem dX6_tellsOneWork_7 : decode cX6_tellsOneWork 7 = .ok (.bipush (-9), 2) := by decide +kernel
theorem dX6_tellsOneWork_9 : decode cX6_tellsOneWork 9 = .ok (.if_icmp .ne 18, 3) := by decide +kernel
theorem dX6_tellsOneWork_12 : decode cX6_tellsOneWork 12 = .ok (.aload_n 0, 1) := by decide +kernel
theorem dX6_tellsOneWork_13 : decode cX6_tellsOneWork 13 = .ok (.getfield 10, 3) := by decide +kernel
theorem dX6_tellsOneWork_16 : decode cX6_tellsOneWork 16 = .ok (.getfield 77, 3) := by decide +kernel
theorem dX6_tellsOneWork_19 : decode cX6_tellsOneWork 19 = .ok (.iconst 1, 1) := by decide +kernel
theorem dX6_tellsOneWork_20 : decode cX6_tellsOneWork 20 = .ok (.if_icmp .ne 7, 3) := by decide +kernel
theorem dX6_tellsOneWork_23 : decode cX6_tellsOneWork 23 = .ok (.iconst 1, 1) := by decide +kernel
theorem dX6_tellsOneWork_24 : decode cX6_tellsOneWork 24 = .ok (.goto 4, 3) := by decide +kernel
theorem dX6_tellsOneWork_27 : decode cX6_tellsOneWork 27 = .ok (.iconst 0, 1) := by decide +kernel
theorem dX6_tellsOneWork_28 : decode cX6_tellsOneWork 28 = .ok (.ireturn, 1) := by decide +kernel
set_option maxRecDepth 20000 in
theorem ggX6_keysHangingOn_X3_copyFrom : GoodIn wsX6_keysHangingOn wsX3_copyFrom := goodIn_r _ [7, 8, 9, 10, 11, 12, 13, 14, 15, 16, 17, 18, 19, 20, 21, 22, 23, 24, 25, 104, 105, 106, 107, 108, 109, 110, 111, 112, 113, 114, 115, 116] (by decide +kernel) (by decide +kernel)
set_option maxRecDepth 20000 in
theorem gX6_keysHangingOn_X3_copyFrom : GoodIn wsX6_keysHangingOn (wsV RX6 254 RX3 yX3_copyFrom wsX3_copyFrom) := goodIn_app (goodIn_of _ (by decide +kernel)) ggX6_keysHangingOn_X3_copyFrom
set_option maxRecDepth 20000 in
theorem ggX6_keysHangingOn_X3_takeOut : GoodIn wsX6_keysHangingOn wsX3_takeOut := goodIn_r _ [29, 12, 8, 14, 30, 31, 32, 6, 33, 34, 35, 36, 37, 11, 16, 104, 105, 106, 107, 108, 109, 110, 111, 112] (by decide +kernel) (by decide +kernel)
set_option maxRecDepth 20000 in
theorem gX6_keysHangingOn_X3_takeOut : GoodIn wsX6_keysHangingOn (wsV RX6 219 RX3 yX3_takeOut wsX3_takeOut) := goodIn_app (goodIn_of _ (by decide +kernel)) ggX6_keysHangingOn_X3_takeOut
set_option maxRecDepth 20000 in
theorem ggX6_keysHangingOn_X3_rekey : GoodIn wsX6_keysHangingOn wsX3_rekey := goodIn_r _ [41, 8, 13, 12, 9, 42, 14, 43, 44, 45, 20, 46, 22, 23, 47, 48, 49, 50, 51, 52, 53, 54, 55, 56, 57, 58, 59, 60, 61, 62, 63, 64, 65, 66, 67, 68, 69, 70, 71, 72, 73, 74, 25, 75, 76, 77, 6, 78, 79, 80, 81, 82, 10, 83, 84, 85, 86, 87, 88, 89, 90, 91, 92, 93, 94, 95, 96, 104, 105, 106, 107, 108, 109, 110, 111, 112, 113, 114, 115, 116] (by decide +kernel) (by decide +kernel)
set_option maxRecDepth 20000 in
theorem gX6_keysHangingOn_X3_rekey : GoodIn wsX6_keysHangingOn (wsV RX6 88 RX3 yX3_rekey wsX3_rekey) := goodIn_app (goodIn_of _ (by decide +kernel)) ggX6_keysHangingOn_X3_rekey
theorem dX6_keysHangingOn_0 : decode cX6_keysHangingOn 0 = .ok (.aload_n 0, 1) := by decide +kernel
theorem dX6_keysHangingOn_1 : decode cX6_keysHangingOn 1 = .ok (.getfield 23, 3) := by decide +kernel
theorem dX6_keysHangingOn_4 : decode cX6_keysHangingOn 4 = .ok (.aload_n 0, 1) := by decide +kernel
theorem dX6_keysHangingOn_5 : decode cX6_keysHangingOn 5 = .ok (.getfield 19, 3) := by decide +kernel
theorem dX6_keysHangingOn_8 : decode cX6_keysHangingOn 8 = .ok (.invokevirtual 254, 3) := by decide +kernel
theorem dX6_keysHangingOn_11 : decode cX6_keysHangingOn 11 = .ok (.aload_n 0, 1) := by decide +kernel
theorem dX6_keysHangingOn_12 : decode cX6_keysHangingOn 12 = .ok (.getfield 23, 3) := by decide +kernel
theorem dX6_keysHangingOn_15 : decode cX6_keysHangingOn 15 = .ok (.iload_n 1, 1) := by decide +kernel
theorem dX6_keysHangingOn_16 : decode cX6_keysHangingOn 16 = .ok (.invokevirtual 219, 3) := by decide +kernel
theorem dX6_keysHangingOn_19 : decode cX6_keysHangingOn 19 = .ok (.aload_n 0, 1) := by decide +kernel
theorem dX6_keysHangingOn_20 : decode cX6_keysHangingOn 20 = .ok (.getfield 23, 3) := by decide +kernel
theorem dX6_keysHangingOn_23 : decode cX6_keysHangingOn 23 = .ok (.invokevirtual 88, 3) := by decide +kernel
theorem dX6_keysHangingOn_26 : decode cX6_keysHangingOn 26 = .ok (.ireturn, 1) := by decide +kernel
set_option maxRecDepth 20000 in
theorem ggX6_tryStyle_X3_copyFrom : GoodIn wsX6_tryStyle wsX3_copyFrom := goodIn_r _ [8, 9, 10, 11, 12, 13, 14, 15, 16, 17, 18, 19, 20, 21, 22, 23, 24, 25, 26, 93, 94, 95, 96, 97, 98, 99, 100, 101, 102, 103, 104, 105] (by decide +kernel) (by decide +kernel)
set_option maxRecDepth 20000 in
theorem gX6_tryStyle_X3_copyFrom : GoodIn wsX6_tryStyle (wsV RX6 254 RX3 yX3_copyFrom wsX3_copyFrom) := goodIn_app (goodIn_of _ (by decide +kernel)) ggX6_tryStyle_X3_copyFrom
set_option maxRecDepth 20000 in
theorem ggX6_tryStyle_X3_rekey : GoodIn wsX6_tryStyle wsX3_rekey := goodIn_r _ [30, 9, 14, 13, 10, 31, 15, 32, 33, 34, 21, 35, 23, 24, 36, 37, 38, 39, 40, 41, 42, 43, 44, 45, 46, 47, 48, 49, 50, 51, 52, 53, 54, 55, 56, 57, 58, 59, 60, 61, 62, 63, 26, 64, 65, 66, 7, 67, 68, 69, 70, 71, 11, 72, 73, 74, 75, 76, 77, 78, 79, 80, 81, 82, 83, 84, 85, 93, 94, 95, 96, 97, 98, 99, 100, 101, 102, 103, 104, 105] (by decide +kernel) (by decide +kernel)
set_option maxRecDepth 20000 in
theorem gX6_tryStyle_X3_rekey : GoodIn wsX6_tryStyle (wsV RX6 88 RX3 yX3_rekey wsX3_rekey) := goodIn_app (goodIn_of _ (by decide +kernel)) ggX6_tryStyle_X3_rekey
theorem dX6_tryStyle_0 : decode cX6_tryStyle 0 = .ok (.aload_n 0, 1) := by decide +kernel
theorem dX6_tryStyle_1 : decode cX6_tryStyle 1 = .ok (.getfield 23, 3) := by decide +kernel
theorem dX6_tryStyle_4 : decode cX6_tryStyle 4 = .ok (.aload_n 0, 1) := by decide +kernel
theorem dX6_tryStyle_5 : decode cX6_tryStyle 5 = .ok (.getfield 19, 3) := by decide +kernel
theorem dX6_tryStyle_8 : decode cX6_tryStyle 8 = .ok (.invokevirtual 254, 3) := by decide +kernel
theorem dX6_tryStyle_11 : decode cX6_tryStyle 11 = .ok (.aload_n 0, 1) := by decide +kernel
theorem dX6_tryStyle_12 : decode cX6_tryStyle 12 = .ok (.getfield 23, 3) := by decide +kernel
theorem dX6_tryStyle_15 : decode cX6_tryStyle 15 = .ok (.iload_n 1, 1) := by decide +kernel
theorem dX6_tryStyle_16 : decode cX6_tryStyle 16 = .ok (.putfield 97, 3) := by decide +kernel
theorem dX6_tryStyle_19 : decode cX6_tryStyle 19 = .ok (.aload_n 0, 1) := by decide +kernel
theorem dX6_tryStyle_20 : decode cX6_tryStyle 20 = .ok (.getfield 23, 3) := by decide +kernel
theorem dX6_tryStyle_23 : decode cX6_tryStyle 23 = .ok (.invokevirtual 88, 3) := by decide +kernel
theorem dX6_tryStyle_26 : decode cX6_tryStyle 26 = .ok (.pop, 1) := by decide +kernel
theorem dX6_tryStyle_27 : decode cX6_tryStyle 27 = .ok (.return_, 1) := by decide +kernel
theorem dX6_commandAt_0 : decode cX6_commandAt 0 = .ok (.lload_n 0, 1) := by decide +kernel
theorem dX6_commandAt_1 : decode cX6_commandAt 1 = .ok (.lstore_n 3, 1) := by decide +kernel
theorem dX6_commandAt_2 : decode cX6_commandAt 2 = .ok (.iconst 0, 1) := by decide +kernel
theorem dX6_commandAt_3 : decode cX6_commandAt 3 = .ok (.istore 5, 2) := by decide +kernel
theorem dX6_commandAt_5 : decode cX6_commandAt 5 = .ok (.iload 5, 2) := by decide +kernel
theorem dX6_commandAt_7 : decode cX6_commandAt 7 = .ok (.iload_n 2, 1) := by decide +kernel
theorem dX6_commandAt_8 : decode cX6_commandAt 8 = .ok (.if_icmp .ge 15, 3) := by decide +kernel
theorem dX6_commandAt_11 : decode cX6_commandAt 11 = .ok (.lload_n 3, 1) := by decide +kernel
theorem dX6_commandAt_12 : decode cX6_commandAt 12 = .ok (.ldc2_w 250, 3) := by decide +kernel
theorem dX6_commandAt_15 : decode cX6_commandAt 15 = .ok (.ldiv, 1) := by decide +kernel
theorem dX6_commandAt_16 : decode cX6_commandAt 16 = .ok (.lstore_n 3, 1) := by decide +kernel
theorem dX6_commandAt_17 : decode cX6_commandAt 17 = .ok (.iinc 5 1, 3) := by decide +kernel
theorem dX6_commandAt_20 : decode cX6_commandAt 20 = .ok (.goto (-15), 3) := by decide +kernel
theorem dX6_commandAt_23 : decode cX6_commandAt 23 = .ok (.lload_n 3, 1) := by decide +kernel
theorem dX6_commandAt_24 : decode cX6_commandAt 24 = .ok (.ldc2_w 250, 3) := by decide +kernel
theorem dX6_commandAt_27 : decode cX6_commandAt 27 = .ok (.lrem, 1) := by decide +kernel
theorem dX6_commandAt_28 : decode cX6_commandAt 28 = .ok (.l2i, 1) := by decide +kernel
theorem dX6_commandAt_29 : decode cX6_commandAt 29 = .ok (.ireturn, 1) := by decide +kernel
set_option maxRecDepth 20000 in
theorem ggX6_succeeds_X6_removes : GoodIn wsX6_succeeds wsX6_removes := goodIn_r _ [5, 6, 7, 8, 9, 10, 11, 12, 13, 14, 15, 16, 17, 18, 19, 20, 21, 22, 23, 24, 77, 78, 79, 80, 81, 82, 83, 84, 85] (by decide +kernel) (by decide +kernel)
set_option maxRecDepth 20000 in
theorem gX6_succeeds_X6_removes : GoodIn wsX6_succeeds (va_wsS RX6 293 yX6_removes wsX6_removes) := goodIn_app (goodIn_of _ (by decide +kernel)) ggX6_succeeds_X6_removes
set_option maxRecDepth 20000 in
theorem ggX6_succeeds_X6_setsStyle : GoodIn wsX6_succeeds wsX6_setsStyle := goodIn_r _ [27, 28, 29, 30, 4, 31, 77, 78, 79, 80, 81, 82, 83, 84, 85] (by decide +kernel) (by decide +kernel)
set_option maxRecDepth 20000 in
theorem gX6_succeeds_X6_setsStyle : GoodIn wsX6_succeeds (va_wsS RX6 296 yX6_setsStyle wsX6_setsStyle) := goodIn_app (goodIn_of _ (by decide +kernel)) ggX6_succeeds_X6_setsStyle
set_option maxRecDepth 20000 in
theorem ggX6_succeeds_X6_setsOrder : GoodIn wsX6_succeeds wsX6_setsOrder := goodIn_r _ [34, 35, 77, 78, 79, 80, 81, 82, 83, 84, 85] (by decide +kernel) (by decide +kernel)
set_option maxRecDepth 20000 in
theorem gX6_succeeds_X6_setsOrder : GoodIn wsX6_succeeds (va_wsS RX6 299 yX6_setsOrder wsX6_setsOrder) := goodIn_app (goodIn_of _ (by decide +kernel)) ggX6_succeeds_X6_setsOrder
set_option maxRecDepth 20000 in
theorem ggX6_succeeds_X6_movesYear : GoodIn wsX6_succeeds wsX6_movesYear := goodIn_r _ [38, 39, 40, 6, 7, 8, 9, 10, 11, 41, 42, 4, 43, 77, 78, 79, 80, 81, 82, 83, 84, 85, 86, 87, 88, 89] (by decide +kernel) (by decide +kernel)
set_option maxRecDepth 20000 in
theorem gX6_succeeds_X6_movesYear : GoodIn wsX6_succeeds (va_wsS RX6 302 yX6_movesYear wsX6_movesYear) := goodIn_app (goodIn_of _ (by decide +kernel)) ggX6_succeeds_X6_movesYear
set_option maxRecDepth 20000 in
theorem ggX6_succeeds_X3_has : GoodIn wsX6_succeeds wsX3_has := goodIn_r _ [10, 11, 77, 78, 79, 80, 81, 82, 83, 84, 85] (by decide +kernel) (by decide +kernel)
set_option maxRecDepth 20000 in
theorem gX6_succeeds_X3_has : GoodIn wsX6_succeeds (wsV RX6 278 RX3 yX3_has wsX3_has) := goodIn_app (goodIn_of _ (by decide +kernel)) ggX6_succeeds_X3_has
set_option maxRecDepth 20000 in
theorem ggX6_succeeds_X1_letterOf : GoodIn wsX6_succeeds wsX1_letterOf := goodIn_r _ [47] (by decide +kernel) (by decide +kernel)
set_option maxRecDepth 20000 in
theorem gX6_succeeds_X1_letterOf : GoodIn wsX6_succeeds (va_wsS RX6 147 yX1_letterOf wsX1_letterOf) := goodIn_app (goodIn_of _ (by decide +kernel)) ggX6_succeeds_X1_letterOf
set_option maxRecDepth 20000 in
theorem ggX6_succeeds_X3_lettered : GoodIn wsX6_succeeds wsX3_lettered := goodIn_r _ [51, 11, 17, 52, 45, 46, 47, 77, 78, 79, 80, 81, 82, 83, 84, 85] (by decide +kernel) (by decide +kernel)
set_option maxRecDepth 20000 in
theorem gX6_succeeds_X3_lettered : GoodIn wsX6_succeeds (wsV RX6 103 RX3 yX3_lettered wsX3_lettered) := goodIn_app (goodIn_of _ (by decide +kernel)) ggX6_succeeds_X3_lettered
set_option maxRecDepth 20000 in
theorem ggX6_succeeds_X6_prints : GoodIn wsX6_succeeds wsX6_prints := goodIn_r _ [55, 56, 57, 58, 9, 59, 11, 60, 17, 24, 23, 77, 78, 79, 80, 81, 82, 83, 84, 85] (by decide +kernel) (by decide +kernel)
set_option maxRecDepth 20000 in
theorem gX6_succeeds_X6_prints : GoodIn wsX6_succeeds (va_wsS RX6 306 yX6_prints wsX6_prints) := goodIn_app (goodIn_of _ (by decide +kernel)) ggX6_succeeds_X6_prints
set_option maxRecDepth 20000 in
theorem ggX6_succeeds_X3_printedOfAnother : GoodIn wsX6_succeeds wsX3_printedOfAnother := goodIn_r _ [64, 23, 65, 66, 67, 9, 68, 60, 24, 69, 70, 71, 72, 11, 17, 73, 74, 75, 76, 77, 78, 79, 80, 81, 82, 83, 84, 85] (by decide +kernel) (by decide +kernel)
set_option maxRecDepth 20000 in
theorem gX6_succeeds_X3_printedOfAnother : GoodIn wsX6_succeeds (wsV RX6 187 RX3 yX3_printedOfAnother wsX3_printedOfAnother) := goodIn_app (goodIn_of _ (by decide +kernel)) ggX6_succeeds_X3_printedOfAnother
theorem dX6_succeeds_0 : decode cX6_succeeds 0 = .ok (.iload_n 1, 1) := by decide +kernel
theorem dX6_succeeds_1 : decode cX6_succeeds 1 = .ok (.sipush 1000, 3) := by decide +kernel
theorem dX6_succeeds_4 : decode cX6_succeeds 4 = .ok (.irem, 1) := by decide +kernel
theorem dX6_succeeds_5 : decode cX6_succeeds 5 = .ok (.istore_n 2, 1) := by decide +kernel
theorem dX6_succeeds_6 : decode cX6_succeeds 6 = .ok (.iload_n 1, 1) := by decide +kernel
theorem dX6_succeeds_7 : decode cX6_succeeds 7 = .ok (.sipush 1000, 3) := by decide +kernel
theorem dX6_succeeds_10 : decode cX6_succeeds 10 = .ok (.idiv, 1) := by decide +kernel
theorem dX6_succeeds_11 : decode cX6_succeeds 11 = .ok (.tableswitch 190 1 9 #[49, 55, 61, 67, 82, 108, 128, 134, 154], 49) := by decide +kernel
theorem dX6_succeeds_60 : decode cX6_succeeds 60 = .ok (.aload_n 0, 1) := by decide +kernel
theorem dX6_succeeds_61 : decode cX6_succeeds 61 = .ok (.iload_n 2, 1) := by decide +kernel
theorem dX6_succeeds_62 : decode cX6_succeeds 62 = .ok (.invokestatic 293, 3) := by decide +kernel
theorem dX6_succeeds_65 : decode cX6_succeeds 65 = .ok (.ireturn, 1) := by decide +kernel
theorem dX6_succeeds_66 : decode cX6_succeeds 66 = .ok (.aload_n 0, 1) := by decide +kernel
theorem dX6_succeeds_67 : decode cX6_succeeds 67 = .ok (.iload_n 2, 1) := by decide +kernel
theorem dX6_succeeds_68 : decode cX6_succeeds 68 = .ok (.invokestatic 296, 3) := by decide +kernel
theorem dX6_succeeds_71 : decode cX6_succeeds 71 = .ok (.ireturn, 1) := by decide +kernel
theorem dX6_succeeds_72 : decode cX6_succeeds 72 = .ok (.aload_n 0, 1) := by decide +kernel
theorem dX6_succeeds_73 : decode cX6_succeeds 73 = .ok (.iload_n 2, 1) := by decide +kernel
theorem dX6_succeeds_74 : decode cX6_succeeds 74 = .ok (.invokestatic 299, 3) := by decide +kernel
theorem dX6_succeeds_77 : decode cX6_succeeds 77 = .ok (.ireturn, 1) := by decide +kernel
theorem dX6_succeeds_78 : decode cX6_succeeds 78 = .ok (.aload_n 0, 1) := by decide +kernel
theorem dX6_succeeds_79 : decode cX6_succeeds 79 = .ok (.iload_n 2, 1) := by decide +kernel
theorem dX6_succeeds_80 : decode cX6_succeeds 80 = .ok (.bipush 10, 2) := by decide +kernel
theorem dX6_succeeds_82 : decode cX6_succeeds 82 = .ok (.idiv, 1) := by decide +kernel
theorem dX6_succeeds_83 : decode cX6_succeeds 83 = .ok (.iload_n 2, 1) := by decide +kernel
theorem dX6_succeeds_84 : decode cX6_succeeds 84 = .ok (.bipush 10, 2) := by decide +kernel
theorem dX6_succeeds_86 : decode cX6_succeeds 86 = .ok (.irem, 1) := by decide +kernel
theorem dX6_succeeds_87 : decode cX6_succeeds 87 = .ok (.iconst 5, 1) := by decide +kernel
theorem dX6_succeeds_88 : decode cX6_succeeds 88 = .ok (.isub, 1) := by decide +kernel
theorem dX6_succeeds_89 : decode cX6_succeeds 89 = .ok (.invokestatic 302, 3) := by decide +kernel
theorem dX6_succeeds_92 : decode cX6_succeeds 92 = .ok (.ireturn, 1) := by decide +kernel
theorem dX6_succeeds_93 : decode cX6_succeeds 93 = .ok (.aload_n 0, 1) := by decide +kernel
theorem dX6_succeeds_94 : decode cX6_succeeds 94 = .ok (.iload_n 2, 1) := by decide +kernel
theorem dX6_succeeds_95 : decode cX6_succeeds 95 = .ok (.invokevirtual 278, 3) := by decide +kernel
theorem dX6_succeeds_98 : decode cX6_succeeds 98 = .ok (.ifCond .eq 19, 3) := by decide +kernel
theorem dX6_succeeds_101 : decode cX6_succeeds 101 = .ok (.aload_n 0, 1) := by decide +kernel
theorem dX6_succeeds_102 : decode cX6_succeeds 102 = .ok (.getfield 140, 3) := by decide +kernel
theorem dX6_succeeds_105 : decode cX6_succeeds 105 = .ok (.iload_n 2, 1) := by decide +kernel
theorem dX6_succeeds_106 : decode cX6_succeeds 106 = .ok (.laload, 1) := by decide +kernel
theorem dX6_succeeds_107 : decode cX6_succeeds 107 = .ok (.invokestatic 147, 3) := by decide +kernel
theorem dX6_succeeds_110 : decode cX6_succeeds 110 = .ok (.ifCond .le 7, 3) := by decide +kernel
theorem dX6_succeeds_113 : decode cX6_succeeds 113 = .ok (.iconst 1, 1) := by decide +kernel
theorem dX6_succeeds_114 : decode cX6_succeeds 114 = .ok (.goto 4, 3) := by decide +kernel
theorem dX6_succeeds_117 : decode cX6_succeeds 117 = .ok (.iconst 0, 1) := by decide +kernel
theorem dX6_succeeds_118 : decode cX6_succeeds 118 = .ok (.ireturn, 1) := by decide +kernel
theorem dX6_succeeds_119 : decode cX6_succeeds 119 = .ok (.iload_n 2, 1) := by decide +kernel
theorem dX6_succeeds_120 : decode cX6_succeeds 120 = .ok (.bipush 100, 2) := by decide +kernel
theorem dX6_succeeds_122 : decode cX6_succeeds 122 = .ok (.if_icmp .ge 15, 3) := by decide +kernel
theorem dX6_succeeds_125 : decode cX6_succeeds 125 = .ok (.aload_n 0, 1) := by decide +kernel
theorem dX6_succeeds_126 : decode cX6_succeeds 126 = .ok (.invokevirtual 103, 3) := by decide +kernel
theorem dX6_succeeds_129 : decode cX6_succeeds 129 = .ok (.iload_n 2, 1) := by decide +kernel
theorem dX6_succeeds_130 : decode cX6_succeeds 130 = .ok (.if_icmp .lt 7, 3) := by decide +kernel
theorem dX6_succeeds_133 : decode cX6_succeeds 133 = .ok (.iconst 1, 1) := by decide +kernel
theorem dX6_succeeds_134 : decode cX6_succeeds 134 = .ok (.goto 4, 3) := by decide +kernel
theorem dX6_succeeds_137 : decode cX6_succeeds 137 = .ok (.iconst 0, 1) := by decide +kernel
theorem dX6_succeeds_138 : decode cX6_succeeds 138 = .ok (.ireturn, 1) := by decide +kernel
theorem dX6_succeeds_139 : decode cX6_succeeds 139 = .ok (.aload_n 0, 1) := by decide +kernel
theorem dX6_succeeds_140 : decode cX6_succeeds 140 = .ok (.iload_n 2, 1) := by decide +kernel
theorem dX6_succeeds_141 : decode cX6_succeeds 141 = .ok (.invokestatic 306, 3) := by decide +kernel
theorem dX6_succeeds_144 : decode cX6_succeeds 144 = .ok (.ireturn, 1) := by decide +kernel
theorem dX6_succeeds_145 : decode cX6_succeeds 145 = .ok (.iload_n 2, 1) := by decide +kernel
theorem dX6_succeeds_146 : decode cX6_succeeds 146 = .ok (.bipush 100, 2) := by decide +kernel
theorem dX6_succeeds_148 : decode cX6_succeeds 148 = .ok (.if_icmp .ge 15, 3) := by decide +kernel
theorem dX6_succeeds_151 : decode cX6_succeeds 151 = .ok (.aload_n 0, 1) := by decide +kernel
theorem dX6_succeeds_152 : decode cX6_succeeds 152 = .ok (.invokevirtual 187, 3) := by decide +kernel
theorem dX6_succeeds_155 : decode cX6_succeeds 155 = .ok (.iload_n 2, 1) := by decide +kernel
theorem dX6_succeeds_156 : decode cX6_succeeds 156 = .ok (.if_icmp .gt 7, 3) := by decide +kernel
theorem dX6_succeeds_159 : decode cX6_succeeds 159 = .ok (.iconst 1, 1) := by decide +kernel
theorem dX6_succeeds_160 : decode cX6_succeeds 160 = .ok (.goto 4, 3) := by decide +kernel
theorem dX6_succeeds_163 : decode cX6_succeeds 163 = .ok (.iconst 0, 1) := by decide +kernel
theorem dX6_succeeds_164 : decode cX6_succeeds 164 = .ok (.ireturn, 1) := by decide +kernel
theorem dX6_succeeds_165 : decode cX6_succeeds 165 = .ok (.aload_n 0, 1) := by decide +kernel
theorem dX6_succeeds_166 : decode cX6_succeeds 166 = .ok (.iload_n 2, 1) := by decide +kernel
theorem dX6_succeeds_167 : decode cX6_succeeds 167 = .ok (.bipush 10, 2) := by decide +kernel
theorem dX6_succeeds_169 : decode cX6_succeeds 169 = .ok (.idiv, 1) := by decide +kernel
theorem dX6_succeeds_170 : decode cX6_succeeds 170 = .ok (.invokevirtual 278, 3) := by decide +kernel
theorem dX6_succeeds_173 : decode cX6_succeeds 173 = .ok (.ifCond .eq 26, 3) := by decide +kernel
theorem dX6_succeeds_176 : decode cX6_succeeds 176 = .ok (.aload_n 0, 1) := by decide +kernel
theorem dX6_succeeds_177 : decode cX6_succeeds 177 = .ok (.getfield 140, 3) := by decide +kernel
theorem dX6_succeeds_180 : decode cX6_succeeds 180 = .ok (.iload_n 2, 1) := by decide +kernel
theorem dX6_succeeds_181 : decode cX6_succeeds 181 = .ok (.bipush 10, 2) := by decide +kernel
theorem dX6_succeeds_183 : decode cX6_succeeds 183 = .ok (.idiv, 1) := by decide +kernel
theorem dX6_succeeds_184 : decode cX6_succeeds 184 = .ok (.laload, 1) := by decide +kernel
theorem dX6_succeeds_185 : decode cX6_succeeds 185 = .ok (.invokestatic 147, 3) := by decide +kernel
theorem dX6_succeeds_188 : decode cX6_succeeds 188 = .ok (.iload_n 2, 1) := by decide +kernel
theorem dX6_succeeds_189 : decode cX6_succeeds 189 = .ok (.bipush 10, 2) := by decide +kernel
theorem dX6_succeeds_191 : decode cX6_succeeds 191 = .ok (.irem, 1) := by decide +kernel
theorem dX6_succeeds_192 : decode cX6_succeeds 192 = .ok (.if_icmp .ne 7, 3) := by decide +kernel
theorem dX6_succeeds_195 : decode cX6_succeeds 195 = .ok (.iconst 1, 1) := by decide +kernel
theorem dX6_succeeds_196 : decode cX6_succeeds 196 = .ok (.goto 4, 3) := by decide +kernel
theorem dX6_succeeds_199 : decode cX6_succeeds 199 = .ok (.iconst 0, 1) := by decide +kernel
theorem dX6_succeeds_200 : decode cX6_succeeds 200 = .ok (.ireturn, 1) := by decide +kernel
theorem dX6_succeeds_201 : decode cX6_succeeds 201 = .ok (.iconst 0, 1) := by decide +kernel
theorem dX6_succeeds_202 : decode cX6_succeeds 202 = .ok (.ireturn, 1) := by decide +kernel
set_option maxRecDepth 20000 in
theorem ggX6_removes_X3_has : GoodIn wsX6_removes wsX3_has := goodIn_r _ [5, 6, 20, 21, 22, 23, 24, 25, 26, 27, 28] (by decide +kernel) (by decide +kernel)
set_option maxRecDepth 20000 in
theorem gX6_removes_X3_has : GoodIn wsX6_removes (wsV RX6 278 RX3 yX3_has wsX3_has) := goodIn_app (goodIn_of _ (by decide +kernel)) ggX6_removes_X3_has
set_option maxRecDepth 20000 in
theorem ggX6_removes_X3_takeOut : GoodIn wsX6_removes wsX3_takeOut := goodIn_r _ [10, 11, 6, 12, 13, 2, 3, 4, 5, 14, 15, 16, 17, 18, 19, 20, 21, 22, 23, 24, 25, 26, 27, 28] (by decide +kernel) (by decide +kernel)
set_option maxRecDepth 20000 in
theorem gX6_removes_X3_takeOut : GoodIn wsX6_removes (wsV RX6 219 RX3 yX3_takeOut wsX3_takeOut) := goodIn_app (goodIn_of _ (by decide +kernel)) ggX6_removes_X3_takeOut
theorem dX6_removes_0 : decode cX6_removes 0 = .ok (.aload_n 0, 1) := by decide +kernel
theorem dX6_removes_1 : decode cX6_removes 1 = .ok (.iload_n 1, 1) := by decide +kernel
theorem dX6_removes_2 : decode cX6_removes 2 = .ok (.invokevirtual 278, 3) := by decide +kernel
theorem dX6_removes_5 : decode cX6_removes 5 = .ok (.ifCond .ne 5, 3) := by decide +kernel
theorem dX6_removes_8 : decode cX6_removes 8 = .ok (.iconst 0, 1) := by decide +kernel
theorem dX6_removes_9 : decode cX6_removes 9 = .ok (.ireturn, 1) := by decide +kernel
theorem dX6_removes_10 : decode cX6_removes 10 = .ok (.aload_n 0, 1) := by decide +kernel
theorem dX6_removes_11 : decode cX6_removes 11 = .ok (.iload_n 1, 1) := by decide +kernel
theorem dX6_removes_12 : decode cX6_removes 12 = .ok (.invokevirtual 219, 3) := by decide +kernel
theorem dX6_removes_15 : decode cX6_removes 15 = .ok (.iconst 1, 1) := by decide +kernel
theorem dX6_removes_16 : decode cX6_removes 16 = .ok (.ireturn, 1) := by decide +kernel
set_option maxRecDepth 20000 in
theorem ggX6_setsStyle_X6_isStyle : GoodIn wsX6_setsStyle wsX6_isStyle := goodIn_r _ [5] (by decide +kernel) (by decide +kernel)
set_option maxRecDepth 20000 in
theorem gX6_setsStyle_X6_isStyle : GoodIn wsX6_setsStyle (va_wsS RX6 286 yX6_isStyle wsX6_isStyle) := goodIn_app (goodIn_of _ (by decide +kernel)) ggX6_setsStyle_X6_isStyle
theorem dX6_setsStyle_0 : decode cX6_setsStyle 0 = .ok (.iload_n 1, 1) := by decide +kernel
theorem dX6_setsStyle_1 : decode cX6_setsStyle 1 = .ok (.invokestatic 286, 3) := by decide +kernel
theorem dX6_setsStyle_4 : decode cX6_setsStyle 4 = .ok (.ifCond .ne 5, 3) := by decide +kernel
theorem dX6_setsStyle_7 : decode cX6_setsStyle 7 = .ok (.iconst 0, 1) := by decide +kernel
theorem dX6_setsStyle_8 : decode cX6_setsStyle 8 = .ok (.ireturn, 1) := by decide +kernel
theorem dX6_setsStyle_9 : decode cX6_setsStyle 9 = .ok (.aload_n 0, 1) := by decide +kernel
theorem dX6_setsStyle_10 : decode cX6_setsStyle 10 = .ok (.iload_n 1, 1) := by decide +kernel
theorem dX6_setsStyle_11 : decode cX6_setsStyle 11 = .ok (.putfield 97, 3) := by decide +kernel
theorem dX6_setsStyle_14 : decode cX6_setsStyle 14 = .ok (.iconst 1, 1) := by decide +kernel
theorem dX6_setsStyle_15 : decode cX6_setsStyle 15 = .ok (.ireturn, 1) := by decide +kernel
theorem dX6_setsOrder_0 : decode cX6_setsOrder 0 = .ok (.iload_n 1, 1) := by decide +kernel
theorem dX6_setsOrder_1 : decode cX6_setsOrder 1 = .ok (.ifCond .lt 8, 3) := by decide +kernel
theorem dX6_setsOrder_4 : decode cX6_setsOrder 4 = .ok (.iload_n 1, 1) := by decide +kernel
