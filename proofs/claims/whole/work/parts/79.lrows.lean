set_option maxRecDepth 20000 in
theorem ggL_append_X6_append : GoodIn wsL_append wsX6_append := goodIn_ca (goodIn_ca (goodIn_r _ [7, 8, 9, 10, 11, 12, 13, 14, 15, 16, 17, 18, 19, 20, 21, 22, 23, 24, 25, 26, 27, 28, 29, 30, 31, 32, 33] (by decide +kernel) (by decide +kernel)) (goodIn_sub (fun _ h => List.mem_cons_of_mem _ (List.mem_append_left _ (List.mem_append_right _ h))) (by decide +kernel))) (goodIn_sub (fun _ h => List.mem_cons_of_mem _ (List.mem_append_right _ h)) (by decide +kernel))
set_option maxRecDepth 20000 in
theorem gL_append_X6_append : GoodIn wsL_append (wsV RL 7 RX6 yX6_append wsX6_append) := goodIn_app (goodIn_of _ (by decide +kernel)) ggL_append_X6_append
theorem dL_append_0 : decode cL_append 0 = .ok (.aload_n 2, 1) := by decide +kernel
theorem dL_append_1 : decode cL_append 1 = .ok (.iconst 0, 1) := by decide +kernel
theorem dL_append_2 : decode cL_append 2 = .ok (.aload_n 0, 1) := by decide +kernel
theorem dL_append_3 : decode cL_append 3 = .ok (.iload_n 1, 1) := by decide +kernel
theorem dL_append_4 : decode cL_append 4 = .ok (.invokevirtual 7, 3) := by decide +kernel
theorem dL_append_7 : decode cL_append 7 = .ok (.i2l, 1) := by decide +kernel
theorem dL_append_8 : decode cL_append 8 = .ok (.lastore, 1) := by decide +kernel
theorem dL_append_9 : decode cL_append 9 = .ok (.goto 9, 3) := by decide +kernel
theorem dL_append_12 : decode cL_append 12 = .ok (.astore_n 3, 1) := by decide +kernel
theorem dL_append_13 : decode cL_append 13 = .ok (.iconst 1, 1) := by decide +kernel
theorem dL_append_14 : decode cL_append 14 = .ok (.ireturn, 1) := by decide +kernel
theorem dL_append_15 : decode cL_append 15 = .ok (.astore_n 3, 1) := by decide +kernel
theorem dL_append_16 : decode cL_append 16 = .ok (.iconst 2, 1) := by decide +kernel
theorem dL_append_17 : decode cL_append 17 = .ok (.ireturn, 1) := by decide +kernel
theorem dL_append_18 : decode cL_append 18 = .ok (.iconst 0, 1) := by decide +kernel
theorem dL_append_19 : decode cL_append 19 = .ok (.ireturn, 1) := by decide +kernel
set_option maxRecDepth 20000 in
theorem ggL_load_X6_load : GoodIn wsL_load wsX6_load := goodIn_ca (goodIn_r _ [6, 7, 8, 9, 10, 11, 12, 13, 14, 15, 16, 17, 18, 19, 20, 21, 22, 23, 24, 25, 26, 27, 28, 29, 30, 31, 32, 33, 34, 35, 36, 37, 38, 39, 40, 41, 42, 43, 44, 45, 46, 47, 48, 49, 50, 51, 52, 53, 54, 55, 56, 57, 58, 59, 60, 61, 62, 63, 64, 65, 66, 67, 68, 69, 70, 71, 72, 73, 74, 75, 76, 77, 78, 79, 80, 81, 82, 83, 84, 85, 86, 87, 88, 89, 90, 91, 92, 93, 94, 95, 96, 97, 98, 99, 100, 101, 102, 103, 104, 105, 106, 107, 108, 109, 110, 111, 112, 113, 114, 115, 116, 117, 118, 119, 120, 121, 122, 123, 124, 125, 126, 127, 128, 129, 130, 131, 132, 133, 134, 135, 136, 137, 138, 139, 140, 141, 142, 143, 144, 145, 146, 147, 148, 149, 150, 151, 152, 153, 154, 155, 156, 157, 158, 159, 160, 161, 162, 163, 164, 165, 166, 167, 168, 169, 170, 171, 172, 173, 174, 175, 176, 177, 178, 179, 180, 181, 182, 183, 184, 185] (by decide +kernel) (by decide +kernel)) (goodIn_sub (fun _ h => List.mem_cons_of_mem _ (List.mem_append_right _ h)) (by decide +kernel))
set_option maxRecDepth 20000 in
theorem gL_load_X6_load : GoodIn wsL_load (wsV RL 17 RX6 yX6_load wsX6_load) := goodIn_app (goodIn_of _ (by decide +kernel)) ggL_load_X6_load
theorem dL_load_0 : decode cL_load 0 = .ok (.aload_n 1, 1) := by decide +kernel
theorem dL_load_1 : decode cL_load 1 = .ok (.iconst 0, 1) := by decide +kernel
theorem dL_load_2 : decode cL_load 2 = .ok (.aload_n 0, 1) := by decide +kernel
theorem dL_load_3 : decode cL_load 3 = .ok (.invokevirtual 17, 3) := by decide +kernel
theorem dL_load_6 : decode cL_load 6 = .ok (.i2l, 1) := by decide +kernel
theorem dL_load_7 : decode cL_load 7 = .ok (.lastore, 1) := by decide +kernel
theorem dL_load_8 : decode cL_load 8 = .ok (.goto 6, 3) := by decide +kernel
theorem dL_load_11 : decode cL_load 11 = .ok (.astore_n 2, 1) := by decide +kernel
theorem dL_load_12 : decode cL_load 12 = .ok (.iconst 1, 1) := by decide +kernel
theorem dL_load_13 : decode cL_load 13 = .ok (.ireturn, 1) := by decide +kernel
theorem dL_load_14 : decode cL_load 14 = .ok (.iconst 0, 1) := by decide +kernel
theorem dL_load_15 : decode cL_load 15 = .ok (.ireturn, 1) := by decide +kernel
set_option maxRecDepth 20000 in
theorem ggL_about_X6_about : GoodIn wsL_about wsX6_about := goodIn_ca (goodIn_r _ [6, 7, 8, 9, 10, 11, 12, 13, 14, 15, 16, 17, 18, 19, 20, 21, 22, 23, 24, 25, 26, 27, 28, 29, 30, 31, 32, 33, 34, 35, 36, 37, 38, 39, 40, 41, 42, 43, 44, 45, 46, 47, 48, 49, 50, 51, 52, 53, 54, 55, 56, 57, 58, 59, 60, 61, 62, 63, 64, 65, 66, 67, 68, 69, 70, 71, 72, 73, 74, 75] (by decide +kernel) (by decide +kernel)) (goodIn_sub (fun _ h => List.mem_cons_of_mem _ (List.mem_append_right _ h)) (by decide +kernel))
set_option maxRecDepth 20000 in
theorem gL_about_X6_about : GoodIn wsL_about (wsV RL 21 RX6 yX6_about wsX6_about) := goodIn_app (goodIn_of _ (by decide +kernel)) ggL_about_X6_about
theorem dL_about_0 : decode cL_about 0 = .ok (.aload_n 2, 1) := by decide +kernel
theorem dL_about_1 : decode cL_about 1 = .ok (.iconst 0, 1) := by decide +kernel
theorem dL_about_2 : decode cL_about 2 = .ok (.aload_n 0, 1) := by decide +kernel
theorem dL_about_3 : decode cL_about 3 = .ok (.iload_n 1, 1) := by decide +kernel
theorem dL_about_4 : decode cL_about 4 = .ok (.invokevirtual 21, 3) := by decide +kernel
theorem dL_about_7 : decode cL_about 7 = .ok (.i2l, 1) := by decide +kernel
theorem dL_about_8 : decode cL_about 8 = .ok (.lastore, 1) := by decide +kernel
theorem dL_about_9 : decode cL_about 9 = .ok (.goto 6, 3) := by decide +kernel
theorem dL_about_12 : decode cL_about 12 = .ok (.astore_n 3, 1) := by decide +kernel
theorem dL_about_13 : decode cL_about 13 = .ok (.iconst 1, 1) := by decide +kernel
theorem dL_about_14 : decode cL_about 14 = .ok (.ireturn, 1) := by decide +kernel
theorem dL_about_15 : decode cL_about 15 = .ok (.iconst 0, 1) := by decide +kernel
theorem dL_about_16 : decode cL_about 16 = .ok (.ireturn, 1) := by decide +kernel
set_option maxRecDepth 20000 in
theorem ggL_work_X6_work : GoodIn wsL_work wsX6_work := goodIn_ca (goodIn_ca (goodIn_r _ [7, 8, 9, 10, 11, 12, 13, 14, 15, 16, 17, 18, 6, 19, 20, 21, 22, 23, 24, 25, 26, 27, 28, 29, 30, 31, 32, 33, 34, 35, 36, 37, 38, 39, 40, 41, 42, 43, 44, 45, 46, 47, 48, 49, 50, 51, 52, 53, 54, 55, 56, 57, 58, 59, 60, 61, 62, 63, 64, 65, 66, 67, 68, 69, 70, 71, 72, 73, 74, 75, 76, 77, 78, 79, 80, 81, 82, 83, 84, 85, 86, 87, 88, 89, 90, 91, 92, 93, 94, 95, 96, 97, 98, 99, 100, 101] (by decide +kernel) (by decide +kernel)) (goodIn_sub (fun _ h => List.mem_cons_of_mem _ (List.mem_append_left _ (List.mem_append_right _ h))) (by decide +kernel))) (goodIn_sub (fun _ h => List.mem_cons_of_mem _ (List.mem_append_right _ h)) (by decide +kernel))
set_option maxRecDepth 20000 in
theorem gL_work_X6_work : GoodIn wsL_work (wsV RL 24 RX6 yX6_work wsX6_work) := goodIn_app (goodIn_of _ (by decide +kernel)) ggL_work_X6_work
theorem dL_work_0 : decode cL_work 0 = .ok (.aload_n 3, 1) := by decide +kernel
theorem dL_work_1 : decode cL_work 1 = .ok (.iconst 0, 1) := by decide +kernel
theorem dL_work_2 : decode cL_work 2 = .ok (.aload_n 0, 1) := by decide +kernel
theorem dL_work_3 : decode cL_work 3 = .ok (.iload_n 1, 1) := by decide +kernel
theorem dL_work_4 : decode cL_work 4 = .ok (.iload_n 2, 1) := by decide +kernel
theorem dL_work_5 : decode cL_work 5 = .ok (.invokevirtual 24, 3) := by decide +kernel
theorem dL_work_8 : decode cL_work 8 = .ok (.i2l, 1) := by decide +kernel
theorem dL_work_9 : decode cL_work 9 = .ok (.lastore, 1) := by decide +kernel
theorem dL_work_10 : decode cL_work 10 = .ok (.goto 11, 3) := by decide +kernel
theorem dL_work_13 : decode cL_work 13 = .ok (.astore 4, 2) := by decide +kernel
theorem dL_work_15 : decode cL_work 15 = .ok (.iconst 1, 1) := by decide +kernel
theorem dL_work_16 : decode cL_work 16 = .ok (.ireturn, 1) := by decide +kernel
theorem dL_work_17 : decode cL_work 17 = .ok (.astore 4, 2) := by decide +kernel
theorem dL_work_19 : decode cL_work 19 = .ok (.iconst 2, 1) := by decide +kernel
theorem dL_work_20 : decode cL_work 20 = .ok (.ireturn, 1) := by decide +kernel
theorem dL_work_21 : decode cL_work 21 = .ok (.iconst 0, 1) := by decide +kernel
theorem dL_work_22 : decode cL_work 22 = .ok (.ireturn, 1) := by decide +kernel
set_option maxRecDepth 20000 in
theorem ggL_letter_X6_letter : GoodIn wsL_letter wsX6_letter := goodIn_ca (goodIn_ca (goodIn_r _ [7, 8, 9, 10, 11, 12, 13, 14, 15, 6, 16, 17, 18, 19, 20, 21, 22, 23, 24, 25, 26, 27, 28, 29, 30, 31, 32, 33, 34, 35, 36, 37, 38, 39, 40, 41, 42, 43, 44, 45, 46, 47, 48, 49, 50, 51, 52, 53, 54, 55, 56, 57, 58, 59] (by decide +kernel) (by decide +kernel)) (goodIn_sub (fun _ h => List.mem_cons_of_mem _ (List.mem_append_left _ (List.mem_append_right _ h))) (by decide +kernel))) (goodIn_sub (fun _ h => List.mem_cons_of_mem _ (List.mem_append_right _ h)) (by decide +kernel))
set_option maxRecDepth 20000 in
theorem gL_letter_X6_letter : GoodIn wsL_letter (wsV RL 30 RX6 yX6_letter wsX6_letter) := goodIn_app (goodIn_of _ (by decide +kernel)) ggL_letter_X6_letter
theorem dL_letter_0 : decode cL_letter 0 = .ok (.aload 4, 2) := by decide +kernel
theorem dL_letter_2 : decode cL_letter 2 = .ok (.iconst 0, 1) := by decide +kernel
theorem dL_letter_3 : decode cL_letter 3 = .ok (.aload_n 0, 1) := by decide +kernel
theorem dL_letter_4 : decode cL_letter 4 = .ok (.iload_n 1, 1) := by decide +kernel
theorem dL_letter_5 : decode cL_letter 5 = .ok (.iload_n 2, 1) := by decide +kernel
theorem dL_letter_6 : decode cL_letter 6 = .ok (.iload_n 3, 1) := by decide +kernel
theorem dL_letter_7 : decode cL_letter 7 = .ok (.invokevirtual 30, 3) := by decide +kernel
theorem dL_letter_10 : decode cL_letter 10 = .ok (.i2l, 1) := by decide +kernel
theorem dL_letter_11 : decode cL_letter 11 = .ok (.lastore, 1) := by decide +kernel
theorem dL_letter_12 : decode cL_letter 12 = .ok (.goto 11, 3) := by decide +kernel
theorem dL_letter_15 : decode cL_letter 15 = .ok (.astore 5, 2) := by decide +kernel
theorem dL_letter_17 : decode cL_letter 17 = .ok (.iconst 1, 1) := by decide +kernel
theorem dL_letter_18 : decode cL_letter 18 = .ok (.ireturn, 1) := by decide +kernel
theorem dL_letter_19 : decode cL_letter 19 = .ok (.astore 5, 2) := by decide +kernel
theorem dL_letter_21 : decode cL_letter 21 = .ok (.iconst 2, 1) := by decide +kernel
theorem dL_letter_22 : decode cL_letter 22 = .ok (.ireturn, 1) := by decide +kernel
theorem dL_letter_23 : decode cL_letter 23 = .ok (.iconst 0, 1) := by decide +kernel
theorem dL_letter_24 : decode cL_letter 24 = .ok (.ireturn, 1) := by decide +kernel
set_option maxRecDepth 20000 in
theorem ggL_key_X6_key : GoodIn wsL_key wsX6_key := goodIn_ca (goodIn_ca (goodIn_r _ [7, 8, 9, 10, 11, 12, 13, 14, 6, 15, 16, 17, 18, 19, 20, 21, 22, 23, 24, 25, 26, 27, 28, 29, 30, 31, 32, 33, 34, 35, 36, 37, 38, 39, 40, 41, 42, 43, 44, 45, 46, 47, 48, 49, 50, 51, 52, 53, 54, 55, 56, 57, 58, 59, 60, 61, 62, 63, 64, 65] (by decide +kernel) (by decide +kernel)) (goodIn_sub (fun _ h => List.mem_cons_of_mem _ (List.mem_append_left _ (List.mem_append_right _ h))) (by decide +kernel))) (goodIn_sub (fun _ h => List.mem_cons_of_mem _ (List.mem_append_right _ h)) (by decide +kernel))
set_option maxRecDepth 20000 in
theorem gL_key_X6_key : GoodIn wsL_key (wsV RL 34 RX6 yX6_key wsX6_key) := goodIn_app (goodIn_of _ (by decide +kernel)) ggL_key_X6_key
theorem dL_key_0 : decode cL_key 0 = .ok (.aload_n 3, 1) := by decide +kernel
theorem dL_key_1 : decode cL_key 1 = .ok (.iconst 0, 1) := by decide +kernel
theorem dL_key_2 : decode cL_key 2 = .ok (.aload_n 0, 1) := by decide +kernel
theorem dL_key_3 : decode cL_key 3 = .ok (.iload_n 1, 1) := by decide +kernel
theorem dL_key_4 : decode cL_key 4 = .ok (.iload_n 2, 1) := by decide +kernel
theorem dL_key_5 : decode cL_key 5 = .ok (.invokevirtual 34, 3) := by decide +kernel
theorem dL_key_8 : decode cL_key 8 = .ok (.i2l, 1) := by decide +kernel
theorem dL_key_9 : decode cL_key 9 = .ok (.lastore, 1) := by decide +kernel
theorem dL_key_10 : decode cL_key 10 = .ok (.goto 11, 3) := by decide +kernel
theorem dL_key_13 : decode cL_key 13 = .ok (.astore 4, 2) := by decide +kernel
theorem dL_key_15 : decode cL_key 15 = .ok (.iconst 1, 1) := by decide +kernel
theorem dL_key_16 : decode cL_key 16 = .ok (.ireturn, 1) := by decide +kernel
theorem dL_key_17 : decode cL_key 17 = .ok (.astore 4, 2) := by decide +kernel
theorem dL_key_19 : decode cL_key 19 = .ok (.iconst 2, 1) := by decide +kernel
theorem dL_key_20 : decode cL_key 20 = .ok (.ireturn, 1) := by decide +kernel
theorem dL_key_21 : decode cL_key 21 = .ok (.iconst 0, 1) := by decide +kernel
theorem dL_key_22 : decode cL_key 22 = .ok (.ireturn, 1) := by decide +kernel
set_option maxRecDepth 20000 in
theorem ggL_at_X6_at : GoodIn wsL_at wsX6_at := goodIn_ca (goodIn_r _ [6, 7, 8, 9, 10, 11, 12, 13, 14, 15, 16, 17, 18, 19, 20, 21, 22, 23, 24, 25, 26, 27, 28, 29, 30, 31, 32, 33, 34, 35, 36, 37, 38, 39, 40, 41, 42, 43, 44, 45, 46, 47, 48, 49, 50, 51, 52, 53, 54, 55, 56, 57, 58, 59] (by decide +kernel) (by decide +kernel)) (goodIn_sub (fun _ h => List.mem_cons_of_mem _ (List.mem_append_right _ h)) (by decide +kernel))
set_option maxRecDepth 20000 in
theorem gL_at_X6_at : GoodIn wsL_at (wsV RL 37 RX6 yX6_at wsX6_at) := goodIn_app (goodIn_of _ (by decide +kernel)) ggL_at_X6_at
theorem dL_at_0 : decode cL_at 0 = .ok (.aload_n 2, 1) := by decide +kernel
theorem dL_at_1 : decode cL_at 1 = .ok (.iconst 0, 1) := by decide +kernel
theorem dL_at_2 : decode cL_at 2 = .ok (.aload_n 0, 1) := by decide +kernel
theorem dL_at_3 : decode cL_at 3 = .ok (.iload_n 1, 1) := by decide +kernel
theorem dL_at_4 : decode cL_at 4 = .ok (.invokevirtual 37, 3) := by decide +kernel
theorem dL_at_7 : decode cL_at 7 = .ok (.i2l, 1) := by decide +kernel
theorem dL_at_8 : decode cL_at 8 = .ok (.lastore, 1) := by decide +kernel
theorem dL_at_9 : decode cL_at 9 = .ok (.goto 6, 3) := by decide +kernel
theorem dL_at_12 : decode cL_at 12 = .ok (.astore_n 3, 1) := by decide +kernel
theorem dL_at_13 : decode cL_at 13 = .ok (.iconst 1, 1) := by decide +kernel
theorem dL_at_14 : decode cL_at 14 = .ok (.ireturn, 1) := by decide +kernel
theorem dL_at_15 : decode cL_at 15 = .ok (.iconst 0, 1) := by decide +kernel
theorem dL_at_16 : decode cL_at 16 = .ok (.ireturn, 1) := by decide +kernel
set_option maxRecDepth 20000 in
theorem ggL_printed_X6_printed : GoodIn wsL_printed wsX6_printed := goodIn_ca (goodIn_r _ [6, 7, 8, 9, 10, 11, 12, 13, 14, 15, 16, 17, 18, 19, 20, 21, 22, 23, 24, 25, 26, 27, 28, 29, 30, 31, 32, 33, 34, 35, 36, 37, 38, 39, 40, 41, 42, 43, 44, 45, 46, 47, 48, 49] (by decide +kernel) (by decide +kernel)) (goodIn_sub (fun _ h => List.mem_cons_of_mem _ (List.mem_append_right _ h)) (by decide +kernel))
set_option maxRecDepth 20000 in
theorem gL_printed_X6_printed : GoodIn wsL_printed (wsV RL 40 RX6 yX6_printed wsX6_printed) := goodIn_app (goodIn_of _ (by decide +kernel)) ggL_printed_X6_printed
theorem dL_printed_0 : decode cL_printed 0 = .ok (.aload_n 2, 1) := by decide +kernel
theorem dL_printed_1 : decode cL_printed 1 = .ok (.iconst 0, 1) := by decide +kernel
theorem dL_printed_2 : decode cL_printed 2 = .ok (.aload_n 0, 1) := by decide +kernel
theorem dL_printed_3 : decode cL_printed 3 = .ok (.iload_n 1, 1) := by decide +kernel
theorem dL_printed_4 : decode cL_printed 4 = .ok (.invokevirtual 40, 3) := by decide +kernel
theorem dL_printed_7 : decode cL_printed 7 = .ok (.i2l, 1) := by decide +kernel
theorem dL_printed_8 : decode cL_printed 8 = .ok (.lastore, 1) := by decide +kernel
theorem dL_printed_9 : decode cL_printed 9 = .ok (.goto 6, 3) := by decide +kernel
theorem dL_printed_12 : decode cL_printed 12 = .ok (.astore_n 3, 1) := by decide +kernel
theorem dL_printed_13 : decode cL_printed 13 = .ok (.iconst 1, 1) := by decide +kernel
theorem dL_printed_14 : decode cL_printed 14 = .ok (.ireturn, 1) := by decide +kernel
theorem dL_printed_15 : decode cL_printed 15 = .ok (.iconst 0, 1) := by decide +kernel
theorem dL_printed_16 : decode cL_printed 16 = .ok (.ireturn, 1) := by decide +kernel
set_option maxRecDepth 20000 in
theorem ggL_add_X6_add : GoodIn wsL_add wsX6_add := goodIn_ca (goodIn_r _ [6, 7, 8, 9, 10, 11, 12, 13, 14, 15, 16, 5, 17, 18, 19, 20, 21, 22, 23, 24, 25, 26, 27, 28, 29, 30, 31, 32, 33, 34, 35, 36, 37, 38, 39, 40, 41, 42, 43, 44, 45, 46, 47, 48, 49, 50, 51, 52, 53, 54, 55, 56, 57, 58, 59, 60, 61, 62, 63, 64, 65, 66, 67, 68, 69, 70, 71, 72, 73, 74, 75, 76, 77, 78, 79, 80, 81, 82, 83, 84, 85, 86, 87, 88, 89, 90, 91, 92, 93, 94, 95, 96, 97, 98, 99, 100, 101, 102, 103, 104, 105, 106, 107, 108, 109, 110, 111, 112, 113, 114, 115, 116, 117, 118, 119, 120, 121, 122, 123, 124, 125, 126, 127, 128, 129, 130, 131, 132, 133, 134, 135, 136, 137, 138, 139, 140, 141, 142, 143, 144, 145, 146, 147, 148, 149, 150, 151, 152, 153, 154, 155, 156, 157, 158, 159, 160, 161, 162, 163, 164, 165, 166, 167, 168, 169, 170, 171, 172, 173, 174, 175, 176, 177, 178, 179, 180, 181, 182, 183, 184, 185, 186, 187, 188, 189, 190, 191, 192] (by decide +kernel) (by decide +kernel)) (goodIn_sub (fun _ h => List.mem_cons_of_mem _ (List.mem_append_right _ h)) (by decide +kernel))
set_option maxRecDepth 20000 in
theorem gL_add_X6_add : GoodIn wsL_add (wsV RL 43 RX6 yX6_add wsX6_add) := goodIn_app (goodIn_of _ (by decide +kernel)) ggL_add_X6_add
theorem dL_add_0 : decode cL_add 0 = .ok (.aload_n 1, 1) := by decide +kernel
theorem dL_add_1 : decode cL_add 1 = .ok (.iconst 0, 1) := by decide +kernel
theorem dL_add_2 : decode cL_add 2 = .ok (.aload_n 0, 1) := by decide +kernel
theorem dL_add_3 : decode cL_add 3 = .ok (.invokevirtual 43, 3) := by decide +kernel
theorem dL_add_6 : decode cL_add 6 = .ok (.i2l, 1) := by decide +kernel
theorem dL_add_7 : decode cL_add 7 = .ok (.lastore, 1) := by decide +kernel
theorem dL_add_8 : decode cL_add 8 = .ok (.goto 6, 3) := by decide +kernel
theorem dL_add_11 : decode cL_add 11 = .ok (.astore_n 2, 1) := by decide +kernel
theorem dL_add_12 : decode cL_add 12 = .ok (.iconst 1, 1) := by decide +kernel
theorem dL_add_13 : decode cL_add 13 = .ok (.ireturn, 1) := by decide +kernel
theorem dL_add_14 : decode cL_add 14 = .ok (.iconst 0, 1) := by decide +kernel
theorem dL_add_15 : decode cL_add 15 = .ok (.ireturn, 1) := by decide +kernel
set_option maxRecDepth 20000 in
theorem ggL_change_X6_change : GoodIn wsL_change wsX6_change := goodIn_ca (goodIn_ca (goodIn_r _ [7, 8, 9, 10, 11, 12, 13, 14, 15, 16, 17, 6, 18, 19, 20, 21, 22, 23, 24, 25, 26, 27, 28, 29, 30, 31, 32, 33, 34, 35, 36, 37, 38, 39, 40, 41, 42, 43, 44, 45, 46, 47, 48, 49, 50, 51, 52, 53, 54, 55, 56, 57, 58, 59, 60, 61, 62, 63, 64, 65, 66, 67, 68, 69, 70, 71, 72, 73, 74, 75, 76, 77, 78, 79, 80, 81, 82, 83, 84, 85, 86, 87, 88, 89, 90, 91, 92, 93, 94, 95, 96, 97, 98, 99, 100, 101, 102, 103, 104, 105, 106, 107, 108, 109, 110, 111, 112, 113, 114, 115, 116, 117, 118, 119, 120, 121, 122, 123, 124, 125, 126, 127, 128, 129, 130, 131, 132, 133, 134, 135, 136, 137, 138, 139, 140, 141, 142, 143, 144, 145, 146, 147, 148, 149, 150, 151, 152, 153, 154, 155, 156, 157, 158, 159, 160, 161, 162, 163, 164, 165, 166, 167, 168, 169, 170, 171, 172, 173, 174, 175, 176, 177, 178, 179, 180, 181, 182, 183, 184, 185, 186, 187, 188, 189, 190, 191, 192, 193, 194, 195, 196, 197, 198, 199, 200] (by decide +kernel) (by decide +kernel)) (goodIn_sub (fun _ h => List.mem_cons_of_mem _ (List.mem_append_left _ (List.mem_append_right _ h))) (by decide +kernel))) (goodIn_sub (fun _ h => List.mem_cons_of_mem _ (List.mem_append_right _ h)) (by decide +kernel))
set_option maxRecDepth 20000 in
theorem gL_change_X6_change : GoodIn wsL_change (wsV RL 46 RX6 yX6_change wsX6_change) := goodIn_app (goodIn_of _ (by decide +kernel)) ggL_change_X6_change
theorem dL_change_0 : decode cL_change 0 = .ok (.aload_n 2, 1) := by decide +kernel
theorem dL_change_1 : decode cL_change 1 = .ok (.iconst 0, 1) := by decide +kernel
theorem dL_change_2 : decode cL_change 2 = .ok (.aload_n 0, 1) := by decide +kernel
theorem dL_change_3 : decode cL_change 3 = .ok (.iload_n 1, 1) := by decide +kernel
theorem dL_change_4 : decode cL_change 4 = .ok (.invokevirtual 46, 3) := by decide +kernel
theorem dL_change_7 : decode cL_change 7 = .ok (.i2l, 1) := by decide +kernel
theorem dL_change_8 : decode cL_change 8 = .ok (.lastore, 1) := by decide +kernel
theorem dL_change_9 : decode cL_change 9 = .ok (.goto 9, 3) := by decide +kernel
theorem dL_change_12 : decode cL_change 12 = .ok (.astore_n 3, 1) := by decide +kernel
theorem dL_change_13 : decode cL_change 13 = .ok (.iconst 1, 1) := by decide +kernel
theorem dL_change_14 : decode cL_change 14 = .ok (.ireturn, 1) := by decide +kernel
theorem dL_change_15 : decode cL_change 15 = .ok (.astore_n 3, 1) := by decide +kernel
theorem dL_change_16 : decode cL_change 16 = .ok (.iconst 2, 1) := by decide +kernel
theorem dL_change_17 : decode cL_change 17 = .ok (.ireturn, 1) := by decide +kernel
theorem dL_change_18 : decode cL_change 18 = .ok (.iconst 0, 1) := by decide +kernel
theorem dL_change_19 : decode cL_change 19 = .ok (.ireturn, 1) := by decide +kernel
set_option maxRecDepth 20000 in
theorem ggL_setYear_X6_setYear : GoodIn wsL_setYear wsX6_setYear := goodIn_ca (goodIn_ca (goodIn_r _ [7, 8, 9, 10, 11, 12, 13, 14, 15, 16, 6, 17, 18, 19, 20, 21, 22, 23, 24, 25, 26, 27, 28, 29, 30, 31, 32, 33, 34, 35, 36, 37, 38, 39, 40, 41, 42, 43, 44, 45, 46, 47, 48, 49, 50, 51, 52, 53, 54, 55, 56, 57, 58, 59, 60, 61, 62, 63, 64, 65, 66, 67, 68, 69, 70, 71, 72, 73, 74, 75, 76, 77, 78, 79, 80, 81, 82, 83, 84, 85, 86, 87, 88, 89, 90, 91, 92, 93, 94, 95, 96, 97, 98, 99, 100, 101, 102, 103, 104, 105, 106, 107, 108, 109, 110, 111, 112, 113, 114, 115, 116, 117, 118, 119, 120, 121, 122, 123, 124, 125, 126, 127, 128, 129, 130, 131, 132, 133, 134, 135, 136, 137, 138, 139] (by decide +kernel) (by decide +kernel)) (goodIn_sub (fun _ h => List.mem_cons_of_mem _ (List.mem_append_left _ (List.mem_append_right _ h))) (by decide +kernel))) (goodIn_sub (fun _ h => List.mem_cons_of_mem _ (List.mem_append_right _ h)) (by decide +kernel))
set_option maxRecDepth 20000 in
theorem gL_setYear_X6_setYear : GoodIn wsL_setYear (wsV RL 49 RX6 yX6_setYear wsX6_setYear) := goodIn_app (goodIn_of _ (by decide +kernel)) ggL_setYear_X6_setYear
theorem dL_setYear_0 : decode cL_setYear 0 = .ok (.aload_n 3, 1) := by decide +kernel
theorem dL_setYear_1 : decode cL_setYear 1 = .ok (.iconst 0, 1) := by decide +kernel
theorem dL_setYear_2 : decode cL_setYear 2 = .ok (.aload_n 0, 1) := by decide +kernel
theorem dL_setYear_3 : decode cL_setYear 3 = .ok (.iload_n 1, 1) := by decide +kernel
theorem dL_setYear_4 : decode cL_setYear 4 = .ok (.iload_n 2, 1) := by decide +kernel
theorem dL_setYear_5 : decode cL_setYear 5 = .ok (.invokevirtual 49, 3) := by decide +kernel
theorem dL_setYear_8 : decode cL_setYear 8 = .ok (.i2l, 1) := by decide +kernel
theorem dL_setYear_9 : decode cL_setYear 9 = .ok (.lastore, 1) := by decide +kernel
theorem dL_setYear_10 : decode cL_setYear 10 = .ok (.goto 11, 3) := by decide +kernel
theorem dL_setYear_13 : decode cL_setYear 13 = .ok (.astore 4, 2) := by decide +kernel
theorem dL_setYear_15 : decode cL_setYear 15 = .ok (.iconst 1, 1) := by decide +kernel
theorem dL_setYear_16 : decode cL_setYear 16 = .ok (.ireturn, 1) := by decide +kernel
theorem dL_setYear_17 : decode cL_setYear 17 = .ok (.astore 4, 2) := by decide +kernel
theorem dL_setYear_19 : decode cL_setYear 19 = .ok (.iconst 2, 1) := by decide +kernel
theorem dL_setYear_20 : decode cL_setYear 20 = .ok (.ireturn, 1) := by decide +kernel
theorem dL_setYear_21 : decode cL_setYear 21 = .ok (.iconst 0, 1) := by decide +kernel
theorem dL_setYear_22 : decode cL_setYear 22 = .ok (.ireturn, 1) := by decide +kernel
set_option maxRecDepth 20000 in
theorem ggL_remove_X6_remove : GoodIn wsL_remove wsX6_remove := goodIn_ca (goodIn_r _ [6, 7, 8, 9, 10, 11, 5, 12, 13, 14, 15, 16, 17, 18, 19, 20, 21, 22, 23, 24, 25, 26, 27, 28, 29, 30, 31, 32, 33, 34, 35, 36, 37, 38, 39, 40, 41, 42, 43, 44, 45, 46, 47, 48, 49, 50, 51, 52, 53, 54, 55, 56, 57, 58, 59, 60, 61, 62, 63, 64, 65, 66, 67, 68, 69, 70, 71, 72, 73, 74, 75, 76, 77, 78, 79, 80, 81, 82, 83, 84, 85, 86, 87, 88, 89, 90, 91, 92, 93, 94, 95, 96, 97, 98, 99, 100, 101, 102, 103, 104, 105, 106, 107, 108, 109, 110, 111, 112, 113, 114, 115, 116, 117, 118, 119, 120, 121, 122, 123, 124, 125, 126, 127, 128, 129, 130, 131, 132, 133, 134, 135, 136, 137, 138, 139, 140] (by decide +kernel) (by decide +kernel)) (goodIn_sub (fun _ h => List.mem_cons_of_mem _ (List.mem_append_right _ h)) (by decide +kernel))
set_option maxRecDepth 20000 in
theorem gL_remove_X6_remove : GoodIn wsL_remove (wsV RL 52 RX6 yX6_remove wsX6_remove) := goodIn_app (goodIn_of _ (by decide +kernel)) ggL_remove_X6_remove
theorem dL_remove_0 : decode cL_remove 0 = .ok (.aload_n 2, 1) := by decide +kernel
theorem dL_remove_1 : decode cL_remove 1 = .ok (.iconst 0, 1) := by decide +kernel
theorem dL_remove_2 : decode cL_remove 2 = .ok (.aload_n 0, 1) := by decide +kernel
theorem dL_remove_3 : decode cL_remove 3 = .ok (.iload_n 1, 1) := by decide +kernel
theorem dL_remove_4 : decode cL_remove 4 = .ok (.invokevirtual 52, 3) := by decide +kernel
theorem dL_remove_7 : decode cL_remove 7 = .ok (.i2l, 1) := by decide +kernel
theorem dL_remove_8 : decode cL_remove 8 = .ok (.lastore, 1) := by decide +kernel
theorem dL_remove_9 : decode cL_remove 9 = .ok (.goto 6, 3) := by decide +kernel
theorem dL_remove_12 : decode cL_remove 12 = .ok (.astore_n 3, 1) := by decide +kernel
theorem dL_remove_13 : decode cL_remove 13 = .ok (.iconst 1, 1) := by decide +kernel
theorem dL_remove_14 : decode cL_remove 14 = .ok (.ireturn, 1) := by decide +kernel
theorem dL_remove_15 : decode cL_remove 15 = .ok (.iconst 0, 1) := by decide +kernel
theorem dL_remove_16 : decode cL_remove 16 = .ok (.ireturn, 1) := by decide +kernel
set_option maxRecDepth 20000 in
theorem ggL_setStyle_X6_setStyle : GoodIn wsL_setStyle wsX6_setStyle := goodIn_ca (goodIn_r _ [6, 7, 8, 9, 10, 11, 5, 12, 13, 14, 15, 16, 17, 18, 19, 20, 21, 22, 23, 24, 25, 26, 27, 28, 29, 30, 31, 32, 33, 34, 35, 36, 37, 38, 39, 40, 41, 42, 43, 44, 45, 46, 47, 48, 49, 50, 51, 52, 53, 54, 55, 56, 57, 58, 59, 60, 61, 62, 63, 64, 65, 66, 67, 68, 69, 70, 71, 72, 73, 74, 75, 76, 77, 78, 79, 80, 81, 82, 83, 84, 85, 86, 87, 88, 89, 90, 91, 92, 93, 94, 95, 96, 97, 98, 99, 100, 101, 102, 103, 104, 105, 106, 107, 108, 109, 110, 111, 112, 113, 114, 115, 116, 117, 118, 119, 120, 121, 122, 123, 124, 125, 126, 127, 128, 129, 130] (by decide +kernel) (by decide +kernel)) (goodIn_sub (fun _ h => List.mem_cons_of_mem _ (List.mem_append_right _ h)) (by decide +kernel))
set_option maxRecDepth 20000 in
theorem gL_setStyle_X6_setStyle : GoodIn wsL_setStyle (wsV RL 55 RX6 yX6_setStyle wsX6_setStyle) := goodIn_app (goodIn_of _ (by decide +kernel)) ggL_setStyle_X6_setStyle
theorem dL_setStyle_0 : decode cL_setStyle 0 = .ok (.aload_n 2, 1) := by decide +kernel
theorem dL_setStyle_1 : decode cL_setStyle 1 = .ok (.iconst 0, 1) := by decide +kernel
theorem dL_setStyle_2 : decode cL_setStyle 2 = .ok (.aload_n 0, 1) := by decide +kernel
theorem dL_setStyle_3 : decode cL_setStyle 3 = .ok (.iload_n 1, 1) := by decide +kernel
theorem dL_setStyle_4 : decode cL_setStyle 4 = .ok (.invokevirtual 55, 3) := by decide +kernel
theorem dL_setStyle_7 : decode cL_setStyle 7 = .ok (.i2l, 1) := by decide +kernel
theorem dL_setStyle_8 : decode cL_setStyle 8 = .ok (.lastore, 1) := by decide +kernel
theorem dL_setStyle_9 : decode cL_setStyle 9 = .ok (.goto 6, 3) := by decide +kernel
theorem dL_setStyle_12 : decode cL_setStyle 12 = .ok (.astore_n 3, 1) := by decide +kernel
theorem dL_setStyle_13 : decode cL_setStyle 13 = .ok (.iconst 1, 1) := by decide +kernel
theorem dL_setStyle_14 : decode cL_setStyle 14 = .ok (.ireturn, 1) := by decide +kernel
theorem dL_setStyle_15 : decode cL_setStyle 15 = .ok (.iconst 0, 1) := by decide +kernel
theorem dL_setStyle_16 : decode cL_setStyle 16 = .ok (.ireturn, 1) := by decide +kernel
set_option maxRecDepth 20000 in
theorem ggL_setOrder_X6_setOrder : GoodIn wsL_setOrder wsX6_setOrder := goodIn_ca (goodIn_r _ [6, 7, 8, 9, 10, 11, 12, 13, 14, 15, 16, 17, 18, 19, 20, 21, 22, 23, 24, 25, 26, 27, 28, 29, 30, 31, 32, 33, 34, 35, 36, 37, 38, 39, 40, 41, 42, 43, 44, 45, 46, 47, 48, 49, 50, 51, 52, 53, 54, 55, 56, 57, 58, 59, 60, 61, 62, 63, 64, 65, 66, 67, 68, 69, 70, 71, 72, 73, 74, 75, 76, 77, 78, 79, 80, 81, 82, 83, 84, 85, 86, 87, 88, 89, 90, 91, 92, 93, 94, 95, 96, 97, 98, 99, 100, 101, 102, 103, 104, 105, 106, 107, 108, 109, 110, 111, 112, 113, 114, 115, 116, 117, 118, 119, 120, 121, 122, 123, 124] (by decide +kernel) (by decide +kernel)) (goodIn_sub (fun _ h => List.mem_cons_of_mem _ (List.mem_append_right _ h)) (by decide +kernel))
set_option maxRecDepth 20000 in
theorem gL_setOrder_X6_setOrder : GoodIn wsL_setOrder (wsV RL 58 RX6 yX6_setOrder wsX6_setOrder) := goodIn_app (goodIn_of _ (by decide +kernel)) ggL_setOrder_X6_setOrder
theorem dL_setOrder_0 : decode cL_setOrder 0 = .ok (.aload_n 2, 1) := by decide +kernel
theorem dL_setOrder_1 : decode cL_setOrder 1 = .ok (.iconst 0, 1) := by decide +kernel
theorem dL_setOrder_2 : decode cL_setOrder 2 = .ok (.aload_n 0, 1) := by decide +kernel
theorem dL_setOrder_3 : decode cL_setOrder 3 = .ok (.iload_n 1, 1) := by decide +kernel
theorem dL_setOrder_4 : decode cL_setOrder 4 = .ok (.invokevirtual 58, 3) := by decide +kernel
theorem dL_setOrder_7 : decode cL_setOrder 7 = .ok (.i2l, 1) := by decide +kernel
theorem dL_setOrder_8 : decode cL_setOrder 8 = .ok (.lastore, 1) := by decide +kernel
theorem dL_setOrder_9 : decode cL_setOrder 9 = .ok (.goto 6, 3) := by decide +kernel
theorem dL_setOrder_12 : decode cL_setOrder 12 = .ok (.astore_n 3, 1) := by decide +kernel
theorem dL_setOrder_13 : decode cL_setOrder 13 = .ok (.iconst 1, 1) := by decide +kernel
theorem dL_setOrder_14 : decode cL_setOrder 14 = .ok (.ireturn, 1) := by decide +kernel
theorem dL_setOrder_15 : decode cL_setOrder 15 = .ok (.iconst 0, 1) := by decide +kernel
theorem dL_setOrder_16 : decode cL_setOrder 16 = .ok (.ireturn, 1) := by decide +kernel
set_option maxRecDepth 20000 in
theorem ggL_undo_X6_undo : GoodIn wsL_undo wsX6_undo := goodIn_ca (goodIn_r _ [6, 7, 8, 9, 10, 11, 12, 13, 14, 15, 16, 17, 18, 19, 20, 21, 22, 23, 24, 25, 26, 27, 28, 29, 30, 31, 32, 33, 34, 35, 36, 37, 38, 39, 40, 41, 42, 43, 44, 45, 46, 47, 48, 49, 50, 51, 52, 53, 54, 55, 56, 57, 58, 59, 60, 61, 62, 63, 64, 65] (by decide +kernel) (by decide +kernel)) (goodIn_sub (fun _ h => List.mem_cons_of_mem _ (List.mem_append_right _ h)) (by decide +kernel))
set_option maxRecDepth 20000 in
theorem gL_undo_X6_undo : GoodIn wsL_undo (wsV RL 61 RX6 yX6_undo wsX6_undo) := goodIn_app (goodIn_of _ (by decide +kernel)) ggL_undo_X6_undo
theorem dL_undo_0 : decode cL_undo 0 = .ok (.aload_n 1, 1) := by decide +kernel
theorem dL_undo_1 : decode cL_undo 1 = .ok (.iconst 0, 1) := by decide +kernel
theorem dL_undo_2 : decode cL_undo 2 = .ok (.aload_n 0, 1) := by decide +kernel
theorem dL_undo_3 : decode cL_undo 3 = .ok (.invokevirtual 61, 3) := by decide +kernel
theorem dL_undo_6 : decode cL_undo 6 = .ok (.i2l, 1) := by decide +kernel
theorem dL_undo_7 : decode cL_undo 7 = .ok (.lastore, 1) := by decide +kernel
theorem dL_undo_8 : decode cL_undo 8 = .ok (.goto 6, 3) := by decide +kernel
theorem dL_undo_11 : decode cL_undo 11 = .ok (.astore_n 2, 1) := by decide +kernel
theorem dL_undo_12 : decode cL_undo 12 = .ok (.iconst 1, 1) := by decide +kernel
theorem dL_undo_13 : decode cL_undo 13 = .ok (.ireturn, 1) := by decide +kernel
theorem dL_undo_14 : decode cL_undo 14 = .ok (.iconst 0, 1) := by decide +kernel
theorem dL_undo_15 : decode cL_undo 15 = .ok (.ireturn, 1) := by decide +kernel
set_option maxRecDepth 20000 in
theorem ggL_ifRemoved_X6_ifRemoved : GoodIn wsL_ifRemoved wsX6_ifRemoved := goodIn_ca (goodIn_r _ [6, 7, 8, 9, 5, 10, 11, 12, 13, 14, 15, 16, 17, 18, 19, 20, 21, 22, 23, 24, 25, 26, 27, 28, 29, 30, 31, 32, 33, 34, 35, 36, 37, 38, 39, 40, 41, 42, 43, 44, 45, 46, 47, 48, 49, 50, 51, 52, 53, 54, 55, 56, 57, 58, 59, 60, 61, 62, 63, 64, 65, 66, 67, 68, 69, 70, 71, 72, 73, 74, 75, 76, 77, 78, 79, 80, 81, 82, 83, 84, 85, 86, 87, 88, 89, 90, 91, 92, 93, 94, 95, 96, 97, 98, 99, 100, 101, 102, 103, 104, 105, 106, 107, 108, 109, 110, 111, 112, 113, 114, 115, 116, 117, 118, 119, 120, 121, 122, 123, 124, 125, 126, 127, 128, 129, 130, 131, 132, 133] (by decide +kernel) (by decide +kernel)) (goodIn_sub (fun _ h => List.mem_cons_of_mem _ (List.mem_append_right _ h)) (by decide +kernel))
set_option maxRecDepth 20000 in
theorem gL_ifRemoved_X6_ifRemoved : GoodIn wsL_ifRemoved (wsV RL 64 RX6 yX6_ifRemoved wsX6_ifRemoved) := goodIn_app (goodIn_of _ (by decide +kernel)) ggL_ifRemoved_X6_ifRemoved
theorem dL_ifRemoved_0 : decode cL_ifRemoved 0 = .ok (.aload_n 2, 1) := by decide +kernel
theorem dL_ifRemoved_1 : decode cL_ifRemoved 1 = .ok (.iconst 0, 1) := by decide +kernel
theorem dL_ifRemoved_2 : decode cL_ifRemoved 2 = .ok (.aload_n 0, 1) := by decide +kernel
theorem dL_ifRemoved_3 : decode cL_ifRemoved 3 = .ok (.iload_n 1, 1) := by decide +kernel
theorem dL_ifRemoved_4 : decode cL_ifRemoved 4 = .ok (.invokevirtual 64, 3) := by decide +kernel
theorem dL_ifRemoved_7 : decode cL_ifRemoved 7 = .ok (.i2l, 1) := by decide +kernel
theorem dL_ifRemoved_8 : decode cL_ifRemoved 8 = .ok (.lastore, 1) := by decide +kernel
theorem dL_ifRemoved_9 : decode cL_ifRemoved 9 = .ok (.goto 6, 3) := by decide +kernel
theorem dL_ifRemoved_12 : decode cL_ifRemoved 12 = .ok (.astore_n 3, 1) := by decide +kernel
theorem dL_ifRemoved_13 : decode cL_ifRemoved 13 = .ok (.iconst 1, 1) := by decide +kernel
theorem dL_ifRemoved_14 : decode cL_ifRemoved 14 = .ok (.ireturn, 1) := by decide +kernel
theorem dL_ifRemoved_15 : decode cL_ifRemoved 15 = .ok (.iconst 0, 1) := by decide +kernel
theorem dL_ifRemoved_16 : decode cL_ifRemoved 16 = .ok (.ireturn, 1) := by decide +kernel
set_option maxRecDepth 20000 in
theorem ggL_freeYear_X6_freeYear : GoodIn wsL_freeYear wsX6_freeYear := goodIn_ca (goodIn_r _ [6, 7, 8, 9, 10, 11, 12, 5, 13, 14, 15, 16, 17, 18, 19, 20, 21, 22, 23, 24, 25, 26, 27, 28, 29, 30, 31, 32, 33, 34, 35, 36, 37, 38, 39, 40, 41, 42, 43, 44, 45, 46, 47, 48, 49, 50, 51, 52, 53, 54, 55, 56, 57, 58, 59, 60, 61, 62, 63, 64, 65, 66, 67, 68, 69, 70, 71, 72, 73, 74, 75, 76, 77, 78, 79, 80, 81, 82, 83, 84, 85, 86, 87] (by decide +kernel) (by decide +kernel)) (goodIn_sub (fun _ h => List.mem_cons_of_mem _ (List.mem_append_right _ h)) (by decide +kernel))
set_option maxRecDepth 20000 in
theorem gL_freeYear_X6_freeYear : GoodIn wsL_freeYear (wsV RL 67 RX6 yX6_freeYear wsX6_freeYear) := goodIn_app (goodIn_of _ (by decide +kernel)) ggL_freeYear_X6_freeYear
theorem dL_freeYear_0 : decode cL_freeYear 0 = .ok (.aload_n 2, 1) := by decide +kernel
theorem dL_freeYear_1 : decode cL_freeYear 1 = .ok (.iconst 0, 1) := by decide +kernel
theorem dL_freeYear_2 : decode cL_freeYear 2 = .ok (.aload_n 0, 1) := by decide +kernel
theorem dL_freeYear_3 : decode cL_freeYear 3 = .ok (.iload_n 1, 1) := by decide +kernel
theorem dL_freeYear_4 : decode cL_freeYear 4 = .ok (.invokevirtual 67, 3) := by decide +kernel
theorem dL_freeYear_7 : decode cL_freeYear 7 = .ok (.i2l, 1) := by decide +kernel
theorem dL_freeYear_8 : decode cL_freeYear 8 = .ok (.lastore, 1) := by decide +kernel
theorem dL_freeYear_9 : decode cL_freeYear 9 = .ok (.goto 6, 3) := by decide +kernel
theorem dL_freeYear_12 : decode cL_freeYear 12 = .ok (.astore_n 3, 1) := by decide +kernel
theorem dL_freeYear_13 : decode cL_freeYear 13 = .ok (.iconst 1, 1) := by decide +kernel
theorem dL_freeYear_14 : decode cL_freeYear 14 = .ok (.ireturn, 1) := by decide +kernel
theorem dL_freeYear_15 : decode cL_freeYear 15 = .ok (.iconst 0, 1) := by decide +kernel
theorem dL_freeYear_16 : decode cL_freeYear 16 = .ok (.ireturn, 1) := by decide +kernel
set_option maxRecDepth 20000 in
theorem ggL_lettersWith_X6_lettersWith : GoodIn wsL_lettersWith wsX6_lettersWith := goodIn_ca (goodIn_r _ [6, 7, 8, 9, 5, 10, 11, 12, 13, 14, 15, 16, 17, 18, 19, 20, 21, 22, 23, 24, 25, 26, 27, 28, 29, 30, 31, 32, 33, 34, 35, 36, 37, 38, 39, 40, 41, 42, 43, 44, 45, 46, 47, 48, 49, 50, 51, 52, 53, 54, 55, 56, 57, 58, 59, 60, 61, 62, 63, 64, 65, 66, 67, 68, 69, 70, 71, 72, 73, 74, 75, 76, 77, 78, 79, 80, 81, 82, 83, 84, 85, 86, 87, 88, 89, 90, 91, 92, 93, 94, 95, 96, 97, 98, 99, 100, 101, 102, 103, 104, 105, 106, 107, 108, 109, 110, 111, 112, 113, 114, 115, 116, 117, 118, 119, 120, 121, 122, 123, 124, 125, 126, 127, 128, 129, 130] (by decide +kernel) (by decide +kernel)) (goodIn_sub (fun _ h => List.mem_cons_of_mem _ (List.mem_append_right _ h)) (by decide +kernel))
set_option maxRecDepth 20000 in
theorem gL_lettersWith_X6_lettersWith : GoodIn wsL_lettersWith (wsV RL 70 RX6 yX6_lettersWith wsX6_lettersWith) := goodIn_app (goodIn_of _ (by decide +kernel)) ggL_lettersWith_X6_lettersWith
theorem dL_lettersWith_0 : decode cL_lettersWith 0 = .ok (.aload_n 2, 1) := by decide +kernel
theorem dL_lettersWith_1 : decode cL_lettersWith 1 = .ok (.iconst 0, 1) := by decide +kernel
theorem dL_lettersWith_2 : decode cL_lettersWith 2 = .ok (.aload_n 0, 1) := by decide +kernel
theorem dL_lettersWith_3 : decode cL_lettersWith 3 = .ok (.iload_n 1, 1) := by decide +kernel
theorem dL_lettersWith_4 : decode cL_lettersWith 4 = .ok (.invokevirtual 70, 3) := by decide +kernel
theorem dL_lettersWith_7 : decode cL_lettersWith 7 = .ok (.i2l, 1) := by decide +kernel
theorem dL_lettersWith_8 : decode cL_lettersWith 8 = .ok (.lastore, 1) := by decide +kernel
theorem dL_lettersWith_9 : decode cL_lettersWith 9 = .ok (.goto 6, 3) := by decide +kernel
theorem dL_lettersWith_12 : decode cL_lettersWith 12 = .ok (.astore_n 3, 1) := by decide +kernel
theorem dL_lettersWith_13 : decode cL_lettersWith 13 = .ok (.iconst 1, 1) := by decide +kernel
theorem dL_lettersWith_14 : decode cL_lettersWith 14 = .ok (.ireturn, 1) := by decide +kernel
theorem dL_lettersWith_15 : decode cL_lettersWith 15 = .ok (.iconst 0, 1) := by decide +kernel
theorem dL_lettersWith_16 : decode cL_lettersWith 16 = .ok (.ireturn, 1) := by decide +kernel
set_option maxRecDepth 20000 in
theorem ggL_runScript_X6_runScript : GoodIn wsL_runScript wsX6_runScript := goodIn_ca (goodIn_r _ [6, 7, 8, 9, 10, 11, 12, 13, 14, 15, 16, 17, 18, 19, 20, 21, 22, 23, 24, 25, 26, 27, 28, 29, 30, 31, 32, 33, 34, 35, 36, 5, 37, 38, 39, 40, 41, 42, 43, 44, 45, 46, 47, 48, 49, 50, 51, 52, 53, 54, 55, 56, 57, 58, 59, 60, 61, 62, 63, 64, 65, 66, 67, 68, 69, 70, 71, 72, 73, 74, 75, 76, 77, 78, 79, 80, 81, 82, 83, 84, 85, 86, 87, 88, 89, 90, 91, 92, 93, 94, 95, 96, 97, 98, 99, 100, 101, 102, 103, 104, 105, 106, 107, 108, 109, 110, 111, 112, 113, 114, 115, 116, 117, 118, 119, 120, 121, 122, 123, 124, 125, 126, 127, 128, 129, 130, 131, 132, 133, 134, 135, 136, 137, 138, 139, 140, 141, 142, 143, 144, 145, 146, 147, 148, 149, 150, 151, 152, 153, 154, 155, 156, 157, 158, 159, 160, 161, 162, 163, 164, 165, 166, 167, 168, 169, 170, 171, 172, 173, 174, 175, 176, 177, 178, 179, 180, 181, 182, 183, 184, 185, 186] (by decide +kernel) (by decide +kernel)) (goodIn_sub (fun _ h => List.mem_cons_of_mem _ (List.mem_append_right _ h)) (by decide +kernel))
set_option maxRecDepth 20000 in
theorem gL_runScript_X6_runScript : GoodIn wsL_runScript (wsV RL 73 RX6 yX6_runScript wsX6_runScript) := goodIn_app (goodIn_of _ (by decide +kernel)) ggL_runScript_X6_runScript
theorem dL_runScript_0 : decode cL_runScript 0 = .ok (.aload 4, 2) := by decide +kernel
theorem dL_runScript_2 : decode cL_runScript 2 = .ok (.iconst 0, 1) := by decide +kernel
theorem dL_runScript_3 : decode cL_runScript 3 = .ok (.aload_n 0, 1) := by decide +kernel
theorem dL_runScript_4 : decode cL_runScript 4 = .ok (.iload_n 1, 1) := by decide +kernel
theorem dL_runScript_5 : decode cL_runScript 5 = .ok (.lload_n 2, 1) := by decide +kernel
theorem dL_runScript_6 : decode cL_runScript 6 = .ok (.invokevirtual 73, 3) := by decide +kernel
theorem dL_runScript_9 : decode cL_runScript 9 = .ok (.i2l, 1) := by decide +kernel
theorem dL_runScript_10 : decode cL_runScript 10 = .ok (.lastore, 1) := by decide +kernel
theorem dL_runScript_11 : decode cL_runScript 11 = .ok (.goto 7, 3) := by decide +kernel
theorem dL_runScript_14 : decode cL_runScript 14 = .ok (.astore 5, 2) := by decide +kernel
theorem dL_runScript_16 : decode cL_runScript 16 = .ok (.iconst 1, 1) := by decide +kernel
theorem dL_runScript_17 : decode cL_runScript 17 = .ok (.ireturn, 1) := by decide +kernel
theorem dL_runScript_18 : decode cL_runScript 18 = .ok (.iconst 0, 1) := by decide +kernel
theorem dL_runScript_19 : decode cL_runScript 19 = .ok (.ireturn, 1) := by decide +kernel
set_option maxRecDepth 20000 in
theorem ggL_simulate_X6_simulate : GoodIn wsL_simulate wsX6_simulate := goodIn_ca (goodIn_r _ [6, 7, 8, 9, 10, 11, 12, 13, 14, 15, 16, 17, 18, 19, 20, 21, 22, 23, 24, 25, 26, 27, 28, 29, 30, 31, 32, 33, 34, 35, 36, 37, 38, 39, 5, 40, 41, 42, 43, 44, 45, 46, 47, 48, 49, 50, 51, 52, 53, 54, 55, 56, 57, 58, 59, 60, 61, 62, 63, 64, 65, 66, 67, 68, 69, 70, 71, 72, 73, 74, 75, 76, 77, 78, 79, 80, 81, 82, 83, 84, 85, 86, 87, 88, 89, 90, 91, 92, 93, 94, 95, 96, 97, 98, 99, 100, 101, 102, 103, 104, 105, 106, 107, 108, 109, 110, 111, 112, 113, 114, 115, 116, 117, 118, 119, 120, 121, 122, 123, 124, 125, 126, 127, 128, 129, 130, 131, 132, 133, 134, 135, 136, 137, 138, 139, 140, 141, 142, 143, 144, 145, 146, 147, 148, 149, 150, 151, 152, 153, 154] (by decide +kernel) (by decide +kernel)) (goodIn_sub (fun _ h => List.mem_cons_of_mem _ (List.mem_append_right _ h)) (by decide +kernel))
set_option maxRecDepth 20000 in
theorem gL_simulate_X6_simulate : GoodIn wsL_simulate (wsV RL 77 RX6 yX6_simulate wsX6_simulate) := goodIn_app (goodIn_of _ (by decide +kernel)) ggL_simulate_X6_simulate
theorem dL_simulate_0 : decode cL_simulate 0 = .ok (.aload 4, 2) := by decide +kernel
theorem dL_simulate_2 : decode cL_simulate 2 = .ok (.iconst 0, 1) := by decide +kernel
theorem dL_simulate_3 : decode cL_simulate 3 = .ok (.aload_n 0, 1) := by decide +kernel
theorem dL_simulate_4 : decode cL_simulate 4 = .ok (.lload_n 1, 1) := by decide +kernel
theorem dL_simulate_5 : decode cL_simulate 5 = .ok (.iload_n 3, 1) := by decide +kernel
theorem dL_simulate_6 : decode cL_simulate 6 = .ok (.invokevirtual 77, 3) := by decide +kernel
theorem dL_simulate_9 : decode cL_simulate 9 = .ok (.i2l, 1) := by decide +kernel
theorem dL_simulate_10 : decode cL_simulate 10 = .ok (.lastore, 1) := by decide +kernel
theorem dL_simulate_11 : decode cL_simulate 11 = .ok (.goto 7, 3) := by decide +kernel
theorem dL_simulate_14 : decode cL_simulate 14 = .ok (.astore 5, 2) := by decide +kernel
theorem dL_simulate_16 : decode cL_simulate 16 = .ok (.iconst 1, 1) := by decide +kernel
theorem dL_simulate_17 : decode cL_simulate 17 = .ok (.ireturn, 1) := by decide +kernel
theorem dL_simulate_18 : decode cL_simulate 18 = .ok (.iconst 0, 1) := by decide +kernel
theorem dL_simulate_19 : decode cL_simulate 19 = .ok (.ireturn, 1) := by decide +kernel
set_option maxRecDepth 20000 in
theorem ggL_save_X6_save : GoodIn wsL_save wsX6_save := goodIn_ca (goodIn_r _ [6, 7, 8, 9, 10, 11, 12, 5, 13, 14, 15, 16, 17, 18, 19, 20, 21, 22, 23, 24, 25, 26, 27, 28, 29, 30, 31, 32, 33, 34, 35, 36, 37, 38, 39, 40, 41, 42, 43, 44, 45, 46, 47, 48, 49, 50, 51, 52, 53, 54, 55, 56, 57, 58] (by decide +kernel) (by decide +kernel)) (goodIn_sub (fun _ h => List.mem_cons_of_mem _ (List.mem_append_right _ h)) (by decide +kernel))
set_option maxRecDepth 20000 in
theorem gL_save_X6_save : GoodIn wsL_save (wsV RL 81 RX6 yX6_save wsX6_save) := goodIn_app (goodIn_of _ (by decide +kernel)) ggL_save_X6_save
theorem dL_save_0 : decode cL_save 0 = .ok (.aload_n 2, 1) := by decide +kernel
theorem dL_save_1 : decode cL_save 1 = .ok (.iconst 0, 1) := by decide +kernel
theorem dL_save_2 : decode cL_save 2 = .ok (.aload_n 0, 1) := by decide +kernel
theorem dL_save_3 : decode cL_save 3 = .ok (.iload_n 1, 1) := by decide +kernel
theorem dL_save_4 : decode cL_save 4 = .ok (.invokevirtual 81, 3) := by decide +kernel
theorem dL_save_7 : decode cL_save 7 = .ok (.i2l, 1) := by decide +kernel
theorem dL_save_8 : decode cL_save 8 = .ok (.lastore, 1) := by decide +kernel
theorem dL_save_9 : decode cL_save 9 = .ok (.goto 6, 3) := by decide +kernel
theorem dL_save_12 : decode cL_save 12 = .ok (.astore_n 3, 1) := by decide +kernel
theorem dL_save_13 : decode cL_save 13 = .ok (.iconst 1, 1) := by decide +kernel
theorem dL_save_14 : decode cL_save 14 = .ok (.ireturn, 1) := by decide +kernel
theorem dL_save_15 : decode cL_save 15 = .ok (.iconst 0, 1) := by decide +kernel
theorem dL_save_16 : decode cL_save 16 = .ok (.ireturn, 1) := by decide +kernel
set_option maxRecDepth 20000 in
theorem ggL_restore_X6_restore : GoodIn wsL_restore wsX6_restore := goodIn_ca (goodIn_ca (goodIn_r _ [7, 8, 9, 10, 11, 12, 13, 14, 15, 16, 6, 17, 18, 19, 20, 21, 22, 23, 24, 25, 26, 27, 28, 29, 30, 31, 32, 33, 34, 35, 36, 37, 38, 39, 40, 41, 42, 43, 44, 45, 46, 47, 48, 49, 50, 51, 52, 53, 54, 55, 56, 57, 58, 59, 60, 61, 62, 63, 64, 65, 66, 67, 68, 69, 70, 71] (by decide +kernel) (by decide +kernel)) (goodIn_sub (fun _ h => List.mem_cons_of_mem _ (List.mem_append_left _ (List.mem_append_right _ h))) (by decide +kernel))) (goodIn_sub (fun _ h => List.mem_cons_of_mem _ (List.mem_append_right _ h)) (by decide +kernel))
set_option maxRecDepth 20000 in
theorem gL_restore_X6_restore : GoodIn wsL_restore (wsV RL 84 RX6 yX6_restore wsX6_restore) := goodIn_app (goodIn_of _ (by decide +kernel)) ggL_restore_X6_restore
theorem dL_restore_0 : decode cL_restore 0 = .ok (.aload_n 2, 1) := by decide +kernel
theorem dL_restore_1 : decode cL_restore 1 = .ok (.iconst 0, 1) := by decide +kernel
theorem dL_restore_2 : decode cL_restore 2 = .ok (.aload_n 0, 1) := by decide +kernel
theorem dL_restore_3 : decode cL_restore 3 = .ok (.iload_n 1, 1) := by decide +kernel
theorem dL_restore_4 : decode cL_restore 4 = .ok (.invokevirtual 84, 3) := by decide +kernel
theorem dL_restore_7 : decode cL_restore 7 = .ok (.i2l, 1) := by decide +kernel
theorem dL_restore_8 : decode cL_restore 8 = .ok (.lastore, 1) := by decide +kernel
theorem dL_restore_9 : decode cL_restore 9 = .ok (.goto 9, 3) := by decide +kernel
theorem dL_restore_12 : decode cL_restore 12 = .ok (.astore_n 3, 1) := by decide +kernel
theorem dL_restore_13 : decode cL_restore 13 = .ok (.iconst 1, 1) := by decide +kernel
theorem dL_restore_14 : decode cL_restore 14 = .ok (.ireturn, 1) := by decide +kernel
theorem dL_restore_15 : decode cL_restore 15 = .ok (.astore_n 3, 1) := by decide +kernel
theorem dL_restore_16 : decode cL_restore 16 = .ok (.iconst 2, 1) := by decide +kernel
theorem dL_restore_17 : decode cL_restore 17 = .ok (.ireturn, 1) := by decide +kernel
theorem dL_restore_18 : decode cL_restore 18 = .ok (.iconst 0, 1) := by decide +kernel
theorem dL_restore_19 : decode cL_restore 19 = .ok (.ireturn, 1) := by decide +kernel
set_option maxRecDepth 20000 in
theorem ggL_law_X6_init : GoodIn wsL_law wsX6_init := goodIn_r _ [10, 11, 12, 13, 14, 15, 16, 17, 18, 19, 20, 21, 22, 23, 24, 25, 26, 27, 28, 29, 30, 31, 32, 33, 34, 35, 36, 37, 38, 39, 40, 41, 42, 43, 44, 45, 6, 46, 47, 48, 49, 50, 51, 52, 53, 54, 55, 56, 57, 58, 59, 60, 61, 62, 63, 64, 65, 66, 942, 943, 944, 945, 946, 947, 917, 918, 919, 920, 921, 922, 923, 948, 949, 950, 951, 952, 953, 954, 955, 956, 957, 958, 959, 960, 961, 962, 963] (by decide +kernel) (by decide +kernel)
set_option maxRecDepth 20000 in
theorem gL_law_X6_init : GoodIn wsL_law (wsX6_init) := ggL_law_X6_init
set_option maxRecDepth 20000 in
theorem ggL_law_X7_init : GoodIn wsL_law wsX7_init := goodIn_r _ [69, 70, 12, 13, 56, 71, 72, 73, 74, 75, 76, 32, 77, 78, 79, 80, 81, 82, 83, 84, 85, 5, 86, 924, 925, 926, 927, 928, 929, 930, 931, 932, 933, 934, 935, 936, 937, 938, 939, 940, 941] (by decide +kernel) (by decide +kernel)
set_option maxRecDepth 20000 in
theorem gL_law_X7_init : GoodIn wsL_law (wsX7_init) := ggL_law_X7_init
set_option maxRecDepth 20000 in
theorem ggL_law_L_append : GoodIn wsL_law wsL_append := goodIn_ca (goodIn_ca (goodIn_r _ [90, 91, 92, 93, 94, 95, 2, 96, 97, 98, 99, 100, 17, 101, 102, 103, 104, 16, 105, 106, 39, 917, 918, 919, 920, 921, 922, 923, 942, 943, 944, 945, 946, 947] (by decide +kernel) (by decide +kernel)) (goodIn_sub (fun _ h => List.mem_append_left _ (List.mem_append_left _ (List.mem_append_right _ h))) (by decide +kernel))) (goodIn_sub (fun _ h => List.mem_append_left _ (List.mem_append_right _ h)) (by decide +kernel))
set_option maxRecDepth 20000 in
theorem gL_law_L_append : GoodIn wsL_law (va_wsS RL 91 yL_append wsL_append) := goodIn_app (goodIn_of _ (by decide +kernel)) ggL_law_L_append
set_option maxRecDepth 20000 in
theorem ggL_law_X7_append : GoodIn wsL_law wsX7_append := goodIn_r _ [110, 111, 112, 71, 113, 114, 5, 115, 116, 117, 118, 119, 120, 924, 925, 926, 927, 928, 929, 930, 931, 932, 933, 934, 935, 936, 937, 938, 939, 940, 941] (by decide +kernel) (by decide +kernel)
set_option maxRecDepth 20000 in
theorem gL_law_X7_append : GoodIn wsL_law (wsV RL 96 RX7 yX7_append wsX7_append) := goodIn_app (goodIn_of _ (by decide +kernel)) ggL_law_X7_append
set_option maxRecDepth 20000 in
theorem ggL_law_X7_thrown : GoodIn wsL_law wsX7_thrown := goodIn_r _ [124, 120, 924, 925, 926, 927, 928, 929, 930, 931, 932, 933, 934, 935, 936, 937, 938, 939, 940, 941] (by decide +kernel) (by decide +kernel)
set_option maxRecDepth 20000 in
theorem gL_law_X7_thrown : GoodIn wsL_law (wsV RL 97 RX7 yX7_thrown wsX7_thrown) := goodIn_app (goodIn_of _ (by decide +kernel)) ggL_law_X7_thrown
set_option maxRecDepth 20000 in
theorem ggL_law_X6_clearText : GoodIn wsL_law wsX6_clearText := goodIn_r _ [128, 17, 101, 917, 918, 919, 920, 921, 922, 923, 942, 943, 944, 945, 946, 947] (by decide +kernel) (by decide +kernel)
set_option maxRecDepth 20000 in
theorem gL_law_X6_clearText : GoodIn wsL_law (wsV RL 100 RX6 yX6_clearText wsX6_clearText) := goodIn_app (goodIn_of _ (by decide +kernel)) ggL_law_X6_clearText
set_option maxRecDepth 20000 in
theorem ggL_law_X7_clearText : GoodIn wsL_law wsX7_clearText := goodIn_r _ [132, 120, 112, 924, 925, 926, 927, 928, 929, 930, 931, 932, 933, 934, 935, 936, 937, 938, 939, 940, 941] (by decide +kernel) (by decide +kernel)
set_option maxRecDepth 20000 in
theorem gL_law_X7_clearText : GoodIn wsL_law (wsV RL 103 RX7 yX7_clearText wsX7_clearText) := goodIn_app (goodIn_of _ (by decide +kernel)) ggL_law_X7_clearText
set_option maxRecDepth 20000 in
theorem ggL_law_X6_errorPosition : GoodIn wsL_law wsX6_errorPosition := goodIn_r _ [136, 17, 137, 138, 139, 16, 140, 141, 106, 39, 142, 143, 144, 145, 146, 147, 41, 148, 149, 150, 151, 25, 152, 46, 153, 154, 155, 156, 157, 158, 159, 160, 161, 162, 163, 164, 165, 166, 167, 168, 169, 170, 171, 172, 173, 174, 175, 176, 177, 178, 179, 180, 181, 182, 183, 184, 185, 186, 187, 188, 189, 917, 918, 919, 920, 921, 922, 923, 942, 943, 944, 945, 946, 947, 957, 958, 959, 960] (by decide +kernel) (by decide +kernel)
set_option maxRecDepth 20000 in
theorem gL_law_X6_errorPosition : GoodIn wsL_law (wsV RL 104 RX6 yX6_errorPosition wsX6_errorPosition) := goodIn_app (goodIn_of _ (by decide +kernel)) ggL_law_X6_errorPosition
set_option maxRecDepth 20000 in
theorem ggL_law_X7_errorPosition : GoodIn wsL_law wsX7_errorPosition := goodIn_r _ [193, 120, 194, 195, 196, 5, 197, 198, 199, 72, 112, 84, 85, 86, 200, 201, 202, 203, 204, 205, 206, 207, 208, 209, 210, 211, 212, 213, 71, 214, 215, 216, 217, 218, 219, 113, 114, 115, 220, 221, 222, 223, 224, 225, 226, 227, 228, 229, 230, 231, 232, 233, 924, 925, 926, 927, 928, 929, 930, 931, 932, 933, 934, 935, 936, 937, 938, 939, 940, 941] (by decide +kernel) (by decide +kernel)
set_option maxRecDepth 20000 in
theorem gL_law_X7_errorPosition : GoodIn wsL_law (wsV RL 107 RX7 yX7_errorPosition wsX7_errorPosition) := goodIn_app (goodIn_of _ (by decide +kernel)) ggL_law_X7_errorPosition
set_option maxRecDepth 20000 in
theorem ggL_law_L_load : GoodIn wsL_law wsL_load := goodIn_ca (goodIn_r _ [236, 92, 237, 238, 239, 2, 240, 99, 100, 17, 21, 241, 242, 30, 33, 243, 137, 138, 139, 16, 140, 141, 106, 39, 142, 143, 144, 145, 146, 147, 41, 148, 149, 150, 151, 25, 152, 46, 153, 154, 155, 156, 157, 158, 159, 160, 161, 162, 163, 164, 165, 166, 167, 168, 169, 170, 171, 172, 173, 174, 175, 176, 177, 178, 179, 180, 181, 182, 183, 184, 185, 186, 187, 188, 189, 244, 245, 246, 20, 247, 248, 249, 250, 251, 252, 253, 254, 255, 52, 54, 256, 257, 258, 259, 260, 261, 262, 263, 53, 264, 265, 266, 267, 268, 269, 270, 271, 272, 273, 274, 275, 276, 277, 278, 279, 280, 281, 282, 283, 284, 285, 286, 287, 288, 289, 290, 291, 292, 293, 294, 295, 296, 297, 298, 299, 300, 301, 302, 303, 304, 305, 306, 307, 308, 309, 310, 311, 312, 313, 314, 315, 316, 317, 318, 29, 319, 320, 917, 918, 919, 920, 921, 922, 923, 942, 943, 944, 945, 946, 947, 948, 949, 950, 951, 952, 953, 954, 955, 956, 957, 958, 959, 960, 961, 962, 963] (by decide +kernel) (by decide +kernel)) (goodIn_sub (fun _ h => List.mem_append_left _ (List.mem_append_right _ h)) (by decide +kernel))
set_option maxRecDepth 20000 in
theorem gL_law_L_load : GoodIn wsL_law (va_wsS RL 108 yL_load wsL_load) := goodIn_app (goodIn_of _ (by decide +kernel)) ggL_law_L_load
set_option maxRecDepth 20000 in
theorem ggL_law_X7_load : GoodIn wsL_law wsX7_load := goodIn_r _ [324, 72, 73, 325, 77, 194, 195, 196, 5, 197, 198, 199, 112, 84, 85, 86, 200, 201, 202, 203, 204, 205, 206, 207, 208, 209, 210, 211, 212, 213, 71, 214, 215, 216, 217, 218, 219, 113, 114, 115, 220, 221, 222, 223, 224, 225, 226, 227, 228, 229, 230, 231, 232, 233, 116, 117, 118, 119, 120, 326, 327, 328, 924, 925, 926, 927, 928, 929, 930, 931, 932, 933, 934, 935, 936, 937, 938, 939, 940, 941] (by decide +kernel) (by decide +kernel)
set_option maxRecDepth 20000 in
theorem gL_law_X7_load : GoodIn wsL_law (wsV RL 111 RX7 yX7_load wsX7_load) := goodIn_app (goodIn_of _ (by decide +kernel)) ggL_law_X7_load
set_option maxRecDepth 20000 in
theorem ggL_law_L_about : GoodIn wsL_law wsL_about := goodIn_ca (goodIn_r _ [331, 91, 332, 333, 334, 2, 335, 97, 98, 21, 243, 336, 337, 338, 339, 340, 341, 20, 342, 248, 54, 343, 344, 279, 345, 346, 347, 348, 349, 350, 351, 352, 353, 354, 355, 356, 357, 358, 359, 360, 361, 362, 363, 174, 364, 365, 274, 275, 366, 367, 368, 369, 370, 371, 372, 373, 374, 375, 251, 57, 917, 918, 919, 920, 921, 922, 923, 948, 949, 950, 951, 952, 953, 954, 955, 956] (by decide +kernel) (by decide +kernel)) (goodIn_sub (fun _ h => List.mem_append_left _ (List.mem_append_left _ (List.mem_append_right _ h))) (by decide +kernel))
set_option maxRecDepth 20000 in
theorem gL_law_L_about : GoodIn wsL_law (va_wsS RL 112 yL_about wsL_about) := goodIn_app (goodIn_of _ (by decide +kernel)) ggL_law_L_about
set_option maxRecDepth 20000 in
theorem ggL_law_X7_about : GoodIn wsL_law wsX7_about := goodIn_r _ [379, 380, 79, 73, 113, 114, 5, 115, 116, 117, 118, 119, 120, 381, 382, 383, 384, 385, 386, 387, 388, 83, 78, 80, 81, 389, 390, 391, 392, 204, 205, 206, 207, 208, 209, 393, 394, 395, 396, 397, 398, 399, 400, 401, 402, 403, 404, 326, 327, 328, 405, 406, 407, 408, 409, 410, 411, 412, 413, 414, 415, 416, 417, 418, 419, 420, 421, 422, 423, 424, 425, 426, 427, 428, 429, 430, 431, 924, 925, 926, 927, 928, 929, 930, 931, 932, 933, 934, 935, 936, 937, 938, 939, 940, 941] (by decide +kernel) (by decide +kernel)
set_option maxRecDepth 20000 in
theorem gL_law_X7_about : GoodIn wsL_law (wsV RL 114 RX7 yX7_about wsX7_about) := goodIn_app (goodIn_of _ (by decide +kernel)) ggL_law_X7_about
set_option maxRecDepth 20000 in
theorem ggL_law_L_work : GoodIn wsL_law wsL_work := goodIn_ca (goodIn_ca (goodIn_r _ [434, 435, 91, 436, 437, 438, 2, 439, 97, 98, 21, 440, 441, 442, 443, 444, 445, 446, 447, 448, 449, 450, 451, 452, 453, 20, 454, 248, 455, 363, 174, 364, 365, 274, 275, 456, 359, 279, 360, 361, 344, 345, 362, 366, 367, 368, 369, 370, 371, 457, 458, 459, 460, 461, 298, 299, 300, 301, 52, 264, 250, 302, 303, 304, 305, 25, 306, 46, 307, 308, 309, 310, 311, 312, 313, 314, 315, 462, 463, 464, 465, 53, 917, 918, 919, 920, 921, 922, 923, 948, 949, 950, 951, 952, 953, 954, 955, 956, 957, 958, 959, 960] (by decide +kernel) (by decide +kernel)) (goodIn_sub (fun _ h => List.mem_append_left _ (List.mem_append_left _ (List.mem_append_right _ h))) (by decide +kernel))) (goodIn_sub (fun _ h => List.mem_append_right _ h) (by decide +kernel))
set_option maxRecDepth 20000 in
theorem gL_law_L_work : GoodIn wsL_law (va_wsS RL 115 yL_work wsL_work) := goodIn_app (goodIn_of _ (by decide +kernel)) ggL_law_L_work
set_option maxRecDepth 20000 in
theorem ggL_law_X7_work : GoodIn wsL_law wsX7_work := goodIn_r _ [469, 470, 73, 78, 79, 81, 80, 471, 472, 473, 5, 474, 113, 114, 115, 116, 117, 118, 119, 120, 381, 382, 383, 384, 385, 386, 387, 388, 83, 389, 390, 391, 392, 204, 205, 206, 207, 208, 209, 393, 394, 395, 396, 397, 398, 399, 400, 401, 402, 403, 404, 326, 327, 328, 405, 406, 407, 408, 409, 410, 411, 412, 413, 414, 415, 416, 924, 925, 926, 927, 928, 929, 930, 931, 932, 933, 934, 935, 936, 937, 938, 939, 940, 941] (by decide +kernel) (by decide +kernel)
set_option maxRecDepth 20000 in
theorem gL_law_X7_work : GoodIn wsL_law (wsV RL 118 RX7 yX7_work wsX7_work) := goodIn_app (goodIn_of _ (by decide +kernel)) ggL_law_X7_work
set_option maxRecDepth 20000 in
theorem ggL_law_L_letter : GoodIn wsL_law wsL_letter := goodIn_ca (goodIn_ca (goodIn_r _ [477, 435, 91, 478, 479, 480, 2, 481, 97, 98, 21, 440, 442, 445, 446, 447, 448, 449, 450, 451, 452, 453, 20, 454, 248, 482, 483, 484, 25, 485, 153, 46, 155, 486, 487, 174, 488, 365, 274, 275, 917, 918, 919, 920, 921, 922, 923, 948, 949, 950, 951, 952, 953, 954, 955, 956, 957, 958, 959, 960] (by decide +kernel) (by decide +kernel)) (goodIn_sub (fun _ h => List.mem_append_left _ (List.mem_append_left _ (List.mem_append_right _ h))) (by decide +kernel))) (goodIn_sub (fun _ h => List.mem_append_right _ h) (by decide +kernel))
set_option maxRecDepth 20000 in
theorem gL_law_L_letter : GoodIn wsL_law (va_wsS RL 119 yL_letter wsL_letter) := goodIn_app (goodIn_of _ (by decide +kernel)) ggL_law_L_letter
set_option maxRecDepth 20000 in
theorem ggL_law_X7_letter : GoodIn wsL_law wsX7_letter := goodIn_r _ [492, 73, 471, 472, 473, 5, 474, 113, 114, 115, 204, 205, 206, 116, 117, 118, 119, 120, 207, 208, 209, 924, 925, 926, 927, 928, 929, 930, 931, 932, 933, 934, 935, 936, 937, 938, 939, 940, 941] (by decide +kernel) (by decide +kernel)
set_option maxRecDepth 20000 in
theorem gL_law_X7_letter : GoodIn wsL_law (wsV RL 122 RX7 yX7_letter wsX7_letter) := goodIn_app (goodIn_of _ (by decide +kernel)) ggL_law_X7_letter
set_option maxRecDepth 20000 in
theorem ggL_law_L_key : GoodIn wsL_law wsL_key := goodIn_ca (goodIn_ca (goodIn_r _ [495, 435, 91, 496, 497, 498, 2, 499, 97, 98, 21, 444, 445, 446, 447, 448, 449, 450, 451, 452, 453, 20, 454, 248, 500, 501, 279, 502, 362, 363, 174, 364, 365, 274, 275, 366, 367, 368, 369, 370, 371, 503, 487, 488, 504, 505, 506, 361, 344, 345, 917, 918, 919, 920, 921, 922, 923, 948, 949, 950, 951, 952, 953, 954, 955, 956] (by decide +kernel) (by decide +kernel)) (goodIn_sub (fun _ h => List.mem_append_left _ (List.mem_append_left _ (List.mem_append_right _ h))) (by decide +kernel))) (goodIn_sub (fun _ h => List.mem_append_right _ h) (by decide +kernel))
set_option maxRecDepth 20000 in
theorem gL_law_L_key : GoodIn wsL_law (va_wsS RL 123 yL_key wsL_key) := goodIn_app (goodIn_of _ (by decide +kernel)) ggL_law_L_key
set_option maxRecDepth 20000 in
theorem ggL_law_X7_key : GoodIn wsL_law wsX7_key := goodIn_r _ [510, 78, 471, 472, 473, 5, 474, 73, 113, 114, 115, 116, 117, 118, 119, 120, 381, 382, 383, 384, 385, 386, 387, 388, 83, 80, 79, 81, 389, 390, 391, 392, 204, 205, 206, 207, 208, 209, 393, 394, 395, 396, 397, 398, 399, 400, 401, 402, 403, 404, 326, 327, 328, 405, 406, 407, 408, 409, 410, 411, 412, 413, 414, 415, 416, 924, 925, 926, 927, 928, 929, 930, 931, 932, 933, 934, 935, 936, 937, 938, 939, 940, 941] (by decide +kernel) (by decide +kernel)
set_option maxRecDepth 20000 in
theorem gL_law_X7_key : GoodIn wsL_law (wsV RL 125 RX7 yX7_key wsX7_key) := goodIn_app (goodIn_of _ (by decide +kernel)) ggL_law_X7_key
set_option maxRecDepth 20000 in
theorem ggL_law_L_at : GoodIn wsL_law wsL_at := goodIn_ca (goodIn_r _ [513, 91, 514, 515, 516, 2, 517, 97, 98, 21, 243, 458, 459, 460, 20, 461, 248, 298, 299, 300, 301, 52, 264, 250, 302, 303, 304, 305, 25, 306, 46, 307, 308, 309, 310, 311, 312, 313, 314, 315, 917, 918, 919, 920, 921, 922, 923, 948, 949, 950, 951, 952, 953, 954, 955, 956, 957, 958, 959, 960] (by decide +kernel) (by decide +kernel)) (goodIn_sub (fun _ h => List.mem_append_left _ (List.mem_append_left _ (List.mem_append_right _ h))) (by decide +kernel))
set_option maxRecDepth 20000 in
theorem gL_law_L_at : GoodIn wsL_law (va_wsS RL 126 yL_at wsL_at) := goodIn_app (goodIn_of _ (by decide +kernel)) ggL_law_L_at
set_option maxRecDepth 20000 in
theorem ggL_law_X7_at : GoodIn wsL_law wsX7_at := goodIn_r _ [521, 73, 81, 116, 117, 118, 5, 119, 120, 381, 382, 383, 384, 385, 386, 387, 388, 83, 78, 80, 79, 389, 390, 391, 392, 204, 205, 206, 207, 208, 209, 393, 394, 395, 396, 397, 398, 399, 400, 401, 402, 403, 404, 326, 327, 328, 405, 406, 407, 408, 409, 410, 411, 412, 413, 414, 415, 416, 924, 925, 926, 927, 928, 929, 930, 931, 932, 933, 934, 935, 936, 937, 938, 939, 940, 941] (by decide +kernel) (by decide +kernel)
set_option maxRecDepth 20000 in
theorem gL_law_X7_at : GoodIn wsL_law (wsV RL 128 RX7 yX7_at wsX7_at) := goodIn_app (goodIn_of _ (by decide +kernel)) ggL_law_X7_at
set_option maxRecDepth 20000 in
theorem ggL_law_X6_meaning : GoodIn wsL_law wsX6_meaning := goodIn_r _ [525, 21, 243, 17, 444, 526, 527, 528, 16, 529, 106, 39, 530, 359, 279, 360, 361, 344, 345, 362, 363, 174, 364, 365, 274, 275, 366, 367, 368, 369, 370, 371, 531, 501, 502, 503, 487, 488, 504, 505, 506, 917, 918, 919, 920, 921, 922, 923, 948, 949, 950, 951, 952, 953, 954, 955, 956, 942, 943, 944, 945, 946, 947] (by decide +kernel) (by decide +kernel)
set_option maxRecDepth 20000 in
theorem gL_law_X6_meaning : GoodIn wsL_law (wsV RL 129 RX6 yX6_meaning wsX6_meaning) := goodIn_app (goodIn_of _ (by decide +kernel)) ggL_law_X6_meaning
set_option maxRecDepth 20000 in
theorem ggL_law_X7_meaning : GoodIn wsL_law wsX7_meaning := goodIn_r _ [535, 120, 73, 78, 381, 382, 383, 5, 384, 385, 386, 387, 388, 83, 80, 79, 81, 389, 390, 391, 392, 204, 205, 206, 207, 208, 209, 393, 394, 395, 396, 397, 398, 399, 400, 401, 402, 403, 404, 326, 327, 328, 405, 406, 407, 408, 409, 410, 411, 412, 413, 414, 415, 416, 536, 537, 538, 539, 112, 71, 924, 925, 926, 927, 928, 929, 930, 931, 932, 933, 934, 935, 936, 937, 938, 939, 940, 941] (by decide +kernel) (by decide +kernel)
set_option maxRecDepth 20000 in
theorem gL_law_X7_meaning : GoodIn wsL_law (wsV RL 132 RX7 yX7_meaning wsX7_meaning) := goodIn_app (goodIn_of _ (by decide +kernel)) ggL_law_X7_meaning
set_option maxRecDepth 20000 in
theorem ggL_law_X6_printedMeaning : GoodIn wsL_law wsX6_printedMeaning := goodIn_r _ [543, 21, 338, 17, 544, 545, 526, 527, 528, 16, 529, 106, 39, 530, 359, 279, 360, 361, 344, 345, 362, 363, 174, 364, 365, 274, 275, 366, 367, 368, 369, 370, 371, 531, 501, 502, 503, 487, 488, 504, 505, 506, 917, 918, 919, 920, 921, 922, 923, 948, 949, 950, 951, 952, 953, 954, 955, 956, 942, 943, 944, 945, 946, 947] (by decide +kernel) (by decide +kernel)
set_option maxRecDepth 20000 in
theorem gL_law_X6_printedMeaning : GoodIn wsL_law (wsV RL 133 RX6 yX6_printedMeaning wsX6_printedMeaning) := goodIn_app (goodIn_of _ (by decide +kernel)) ggL_law_X6_printedMeaning
set_option maxRecDepth 20000 in
theorem ggL_law_X7_printedMeaning : GoodIn wsL_law wsX7_printedMeaning := goodIn_r _ [549, 120, 73, 536, 537, 538, 5, 539, 112, 71, 924, 925, 926, 927, 928, 929, 930, 931, 932, 933, 934, 935, 936, 937, 938, 939, 940, 941] (by decide +kernel) (by decide +kernel)
set_option maxRecDepth 20000 in
theorem gL_law_X7_printedMeaning : GoodIn wsL_law (wsV RL 136 RX7 yX7_printedMeaning wsX7_printedMeaning) := goodIn_app (goodIn_of _ (by decide +kernel)) ggL_law_X7_printedMeaning
set_option maxRecDepth 20000 in
theorem ggL_law_L_printed : GoodIn wsL_law wsL_printed := goodIn_ca (goodIn_r _ [552, 91, 553, 554, 555, 2, 556, 97, 98, 21, 557, 558, 559, 20, 560, 251, 561, 562, 563, 564, 55, 57, 565, 566, 567, 568, 248, 54, 569, 570, 571, 572, 573, 574, 917, 918, 919, 920, 921, 922, 923, 948, 949, 950, 951, 952, 953, 954, 955, 956] (by decide +kernel) (by decide +kernel)) (goodIn_sub (fun _ h => List.mem_append_left _ (List.mem_append_left _ (List.mem_append_right _ h))) (by decide +kernel))
set_option maxRecDepth 20000 in
theorem gL_law_L_printed : GoodIn wsL_law (va_wsS RL 137 yL_printed wsL_printed) := goodIn_app (goodIn_of _ (by decide +kernel)) ggL_law_L_printed
set_option maxRecDepth 20000 in
theorem ggL_law_X7_printed : GoodIn wsL_law wsX7_printed := goodIn_r _ [578, 232, 73, 113, 114, 5, 115, 116, 117, 118, 119, 120, 579, 580, 581, 582, 385, 386, 387, 388, 83, 78, 80, 79, 81, 389, 390, 391, 392, 204, 205, 206, 207, 208, 209, 393, 394, 395, 396, 397, 398, 399, 400, 401, 402, 403, 404, 326, 327, 328, 405, 406, 407, 408, 409, 410, 411, 412, 413, 414, 415, 416, 583, 584, 585, 586, 924, 925, 926, 927, 928, 929, 930, 931, 932, 933, 934, 935, 936, 937, 938, 939, 940, 941] (by decide +kernel) (by decide +kernel)
set_option maxRecDepth 20000 in
theorem gL_law_X7_printed : GoodIn wsL_law (wsV RL 139 RX7 yX7_printed wsX7_printed) := goodIn_app (goodIn_of _ (by decide +kernel)) ggL_law_X7_printed
set_option maxRecDepth 20000 in
theorem ggL_law_L_add : GoodIn wsL_law wsL_add := goodIn_ca (goodIn_r _ [589, 92, 590, 591, 592, 2, 593, 99, 100, 21, 243, 30, 17, 242, 594, 595, 596, 597, 241, 137, 138, 139, 16, 140, 141, 106, 39, 142, 143, 144, 145, 146, 147, 41, 148, 149, 150, 151, 25, 152, 46, 153, 154, 155, 156, 157, 158, 159, 160, 161, 162, 163, 164, 165, 166, 167, 168, 169, 170, 171, 172, 173, 174, 175, 176, 177, 178, 179, 180, 181, 182, 183, 184, 185, 186, 187, 188, 189, 598, 599, 600, 29, 601, 320, 602, 65, 603, 604, 605, 20, 606, 248, 249, 250, 251, 52, 53, 54, 55, 57, 256, 257, 258, 259, 252, 253, 254, 255, 260, 261, 262, 263, 264, 265, 266, 267, 268, 269, 270, 271, 272, 273, 274, 275, 276, 277, 278, 279, 280, 281, 282, 283, 284, 285, 286, 287, 288, 289, 290, 291, 292, 293, 294, 295, 296, 297, 298, 299, 300, 301, 302, 303, 304, 305, 306, 307, 308, 309, 310, 311, 312, 313, 314, 315, 917, 918, 919, 920, 921, 922, 923, 948, 949, 950, 951, 952, 953, 954, 955, 956, 942, 943, 944, 945, 946, 947, 957, 958, 959, 960, 961, 962, 963] (by decide +kernel) (by decide +kernel)) (goodIn_sub (fun _ h => List.mem_append_left _ (List.mem_append_right _ h)) (by decide +kernel))
set_option maxRecDepth 20000 in
theorem gL_law_L_add : GoodIn wsL_law (va_wsS RL 140 yL_add wsL_add) := goodIn_app (goodIn_of _ (by decide +kernel)) ggL_law_L_add
set_option maxRecDepth 20000 in
theorem ggL_law_X7_add : GoodIn wsL_law wsX7_add := goodIn_r _ [610, 73, 72, 611, 612, 613, 5, 614, 194, 195, 196, 197, 198, 199, 112, 84, 85, 86, 200, 201, 202, 203, 204, 205, 206, 207, 208, 209, 210, 211, 212, 213, 71, 214, 215, 216, 217, 218, 219, 113, 114, 115, 220, 221, 222, 223, 224, 225, 226, 227, 228, 229, 230, 231, 232, 233, 116, 117, 118, 119, 120, 615, 616, 617, 618, 325, 75, 326, 327, 328, 924, 925, 926, 927, 928, 929, 930, 931, 932, 933, 934, 935, 936, 937, 938, 939, 940, 941] (by decide +kernel) (by decide +kernel)
set_option maxRecDepth 20000 in
theorem gL_law_X7_add : GoodIn wsL_law (wsV RL 142 RX7 yX7_add wsX7_add) := goodIn_app (goodIn_of _ (by decide +kernel)) ggL_law_X7_add
set_option maxRecDepth 20000 in
theorem ggL_law_L_change : GoodIn wsL_law wsL_change := goodIn_ca (goodIn_ca (goodIn_r _ [621, 435, 92, 622, 623, 624, 2, 625, 99, 100, 30, 21, 440, 17, 242, 445, 446, 447, 448, 449, 450, 451, 452, 453, 20, 454, 248, 594, 595, 596, 597, 241, 137, 138, 139, 16, 140, 141, 106, 39, 142, 143, 144, 145, 146, 147, 41, 148, 149, 150, 151, 25, 152, 46, 153, 154, 155, 156, 157, 158, 159, 160, 161, 162, 163, 164, 165, 166, 167, 168, 169, 170, 171, 172, 173, 174, 175, 176, 177, 178, 179, 180, 181, 182, 183, 184, 185, 186, 187, 188, 189, 598, 599, 600, 29, 601, 320, 602, 65, 603, 604, 605, 606, 249, 250, 251, 52, 53, 54, 55, 57, 256, 257, 258, 259, 626, 260, 261, 262, 263, 264, 265, 266, 267, 268, 269, 270, 271, 272, 273, 274, 275, 276, 277, 278, 279, 280, 281, 282, 283, 284, 285, 286, 287, 288, 289, 290, 291, 292, 293, 294, 295, 296, 297, 298, 299, 300, 301, 302, 303, 304, 305, 306, 307, 308, 309, 310, 311, 312, 313, 314, 315, 917, 918, 919, 920, 921, 922, 923, 948, 949, 950, 951, 952, 953, 954, 955, 956, 942, 943, 944, 945, 946, 947, 957, 958, 959, 960, 961, 962, 963] (by decide +kernel) (by decide +kernel)) (goodIn_sub (fun _ h => List.mem_append_left _ (List.mem_append_right _ h)) (by decide +kernel))) (goodIn_sub (fun _ h => List.mem_append_right _ h) (by decide +kernel))
set_option maxRecDepth 20000 in
theorem gL_law_L_change : GoodIn wsL_law (va_wsS RL 143 yL_change wsL_change) := goodIn_app (goodIn_of _ (by decide +kernel)) ggL_law_L_change
set_option maxRecDepth 20000 in
theorem ggL_law_X7_change : GoodIn wsL_law wsX7_change := goodIn_r _ [630, 72, 73, 471, 472, 473, 5, 474, 113, 114, 115, 611, 612, 613, 614, 194, 195, 196, 197, 198, 199, 112, 84, 85, 86, 200, 201, 202, 203, 204, 205, 206, 207, 208, 209, 210, 211, 212, 213, 71, 214, 215, 216, 217, 218, 219, 220, 221, 222, 223, 224, 225, 226, 227, 228, 229, 230, 231, 232, 233, 116, 117, 118, 119, 120, 615, 616, 617, 618, 325, 75, 326, 327, 328, 631, 632, 633, 634, 78, 82, 381, 382, 383, 384, 385, 386, 387, 388, 83, 80, 79, 81, 389, 390, 391, 392, 393, 394, 395, 396, 397, 398, 399, 400, 401, 402, 403, 404, 405, 406, 407, 408, 409, 410, 411, 412, 413, 414, 415, 416, 635, 636, 637, 638, 924, 925, 926, 927, 928, 929, 930, 931, 932, 933, 934, 935, 936, 937, 938, 939, 940, 941] (by decide +kernel) (by decide +kernel)
set_option maxRecDepth 20000 in
theorem gL_law_X7_change : GoodIn wsL_law (wsV RL 145 RX7 yX7_change wsX7_change) := goodIn_app (goodIn_of _ (by decide +kernel)) ggL_law_X7_change
set_option maxRecDepth 20000 in
theorem ggL_law_L_setYear : GoodIn wsL_law wsL_setYear := goodIn_ca (goodIn_ca (goodIn_r _ [641, 435, 91, 642, 643, 644, 2, 645, 97, 98, 30, 21, 440, 441, 445, 446, 447, 448, 449, 450, 451, 452, 453, 20, 454, 248, 646, 647, 648, 598, 599, 600, 29, 601, 320, 602, 65, 603, 604, 605, 606, 249, 250, 251, 52, 53, 54, 55, 57, 256, 257, 258, 25, 259, 46, 153, 154, 155, 260, 261, 262, 263, 264, 265, 266, 267, 268, 269, 270, 271, 272, 273, 274, 174, 275, 276, 173, 175, 277, 278, 279, 280, 281, 282, 283, 284, 285, 286, 287, 288, 289, 290, 291, 292, 293, 294, 295, 296, 297, 298, 299, 300, 301, 302, 303, 304, 305, 306, 307, 308, 309, 310, 311, 312, 313, 314, 315, 917, 918, 919, 920, 921, 922, 923, 948, 949, 950, 951, 952, 953, 954, 955, 956, 957, 958, 959, 960, 961, 962, 963] (by decide +kernel) (by decide +kernel)) (goodIn_sub (fun _ h => List.mem_append_left _ (List.mem_append_left _ (List.mem_append_right _ h))) (by decide +kernel))) (goodIn_sub (fun _ h => List.mem_append_right _ h) (by decide +kernel))
set_option maxRecDepth 20000 in
theorem gL_law_L_setYear : GoodIn wsL_law (va_wsS RL 146 yL_setYear wsL_setYear) := goodIn_app (goodIn_of _ (by decide +kernel)) ggL_law_L_setYear
set_option maxRecDepth 20000 in
theorem ggL_law_X7_setYear : GoodIn wsL_law wsX7_setYear := goodIn_r _ [652, 73, 471, 472, 473, 5, 474, 113, 114, 115, 653, 654, 655, 656, 657, 116, 117, 118, 119, 120, 615, 616, 617, 618, 325, 75, 326, 327, 328, 631, 632, 633, 634, 78, 82, 381, 382, 383, 384, 385, 386, 387, 388, 83, 80, 79, 81, 389, 390, 391, 392, 204, 205, 206, 207, 208, 209, 393, 394, 395, 396, 397, 398, 399, 400, 401, 402, 403, 404, 405, 406, 407, 408, 409, 410, 411, 412, 413, 414, 415, 416, 635, 636, 637, 638, 924, 925, 926, 927, 928, 929, 930, 931, 932, 933, 934, 935, 936, 937, 938, 939, 940, 941] (by decide +kernel) (by decide +kernel)
set_option maxRecDepth 20000 in
theorem gL_law_X7_setYear : GoodIn wsL_law (wsV RL 148 RX7 yX7_setYear wsX7_setYear) := goodIn_app (goodIn_of _ (by decide +kernel)) ggL_law_X7_setYear
set_option maxRecDepth 20000 in
theorem ggL_law_L_remove : GoodIn wsL_law wsL_remove := goodIn_ca (goodIn_r _ [660, 435, 661, 662, 663, 2, 664, 30, 21, 445, 446, 447, 448, 449, 450, 451, 452, 453, 20, 454, 248, 598, 599, 600, 29, 601, 320, 602, 65, 603, 604, 605, 606, 249, 250, 251, 52, 53, 54, 55, 57, 256, 257, 258, 25, 259, 46, 153, 154, 155, 665, 666, 667, 668, 669, 670, 671, 672, 673, 260, 261, 262, 263, 264, 265, 266, 267, 268, 269, 270, 271, 272, 273, 274, 174, 275, 276, 173, 175, 277, 278, 279, 280, 281, 282, 283, 284, 285, 286, 287, 288, 289, 290, 291, 292, 293, 294, 295, 296, 297, 298, 299, 300, 301, 302, 303, 304, 305, 306, 307, 308, 309, 310, 311, 312, 313, 314, 315, 917, 918, 919, 920, 921, 922, 923, 948, 949, 950, 951, 952, 953, 954, 955, 956, 961, 962, 963, 957, 958, 959, 960] (by decide +kernel) (by decide +kernel)) (goodIn_sub (fun _ h => List.mem_append_right _ h) (by decide +kernel))
set_option maxRecDepth 20000 in
theorem gL_law_L_remove : GoodIn wsL_law (va_wsS RL 149 yL_remove wsL_remove) := goodIn_app (goodIn_of _ (by decide +kernel)) ggL_law_L_remove
set_option maxRecDepth 20000 in
theorem ggL_law_X7_remove : GoodIn wsL_law wsX7_remove := goodIn_r _ [677, 73, 471, 472, 473, 5, 474, 113, 114, 115, 116, 117, 118, 119, 120, 615, 616, 617, 618, 325, 75, 326, 327, 328, 631, 632, 633, 634, 78, 82, 381, 382, 383, 384, 385, 386, 387, 388, 83, 80, 79, 81, 389, 390, 391, 392, 204, 205, 206, 207, 208, 209, 393, 394, 395, 396, 397, 398, 399, 400, 401, 402, 403, 404, 405, 406, 407, 408, 409, 410, 411, 412, 413, 414, 415, 416, 678, 679, 680, 635, 636, 637, 638, 924, 925, 926, 927, 928, 929, 930, 931, 932, 933, 934, 935, 936, 937, 938, 939, 940, 941] (by decide +kernel) (by decide +kernel)
set_option maxRecDepth 20000 in
theorem gL_law_X7_remove : GoodIn wsL_law (wsV RL 151 RX7 yX7_remove wsX7_remove) := goodIn_app (goodIn_of _ (by decide +kernel)) ggL_law_X7_remove
set_option maxRecDepth 20000 in
theorem ggL_law_L_setStyle : GoodIn wsL_law wsL_setStyle := goodIn_ca (goodIn_r _ [683, 91, 684, 685, 686, 2, 687, 30, 21, 336, 688, 689, 690, 97, 98, 691, 692, 693, 598, 599, 600, 29, 601, 320, 602, 65, 603, 604, 605, 20, 606, 248, 249, 250, 251, 52, 53, 54, 55, 57, 256, 257, 258, 25, 259, 46, 153, 154, 155, 260, 261, 262, 263, 264, 265, 266, 267, 268, 269, 270, 271, 272, 273, 274, 174, 275, 276, 173, 175, 277, 278, 279, 280, 281, 282, 283, 284, 285, 286, 287, 288, 289, 290, 291, 292, 293, 294, 295, 296, 297, 298, 299, 300, 301, 302, 303, 304, 305, 306, 307, 308, 309, 310, 311, 312, 313, 314, 315, 917, 918, 919, 920, 921, 922, 923, 948, 949, 950, 951, 952, 953, 954, 955, 956, 961, 962, 963, 957, 958, 959, 960] (by decide +kernel) (by decide +kernel)) (goodIn_sub (fun _ h => List.mem_append_left _ (List.mem_append_left _ (List.mem_append_right _ h))) (by decide +kernel))
set_option maxRecDepth 20000 in
theorem gL_law_L_setStyle : GoodIn wsL_law (va_wsS RL 152 yL_setStyle wsL_setStyle) := goodIn_app (goodIn_of _ (by decide +kernel)) ggL_law_L_setStyle
set_option maxRecDepth 20000 in
theorem ggL_law_X7_setStyle : GoodIn wsL_law wsX7_setStyle := goodIn_r _ [697, 73, 698, 699, 5, 700, 701, 113, 114, 115, 116, 117, 118, 119, 120, 615, 616, 617, 618, 325, 75, 326, 327, 328, 924, 925, 926, 927, 928, 929, 930, 931, 932, 933, 934, 935, 936, 937, 938, 939, 940, 941] (by decide +kernel) (by decide +kernel)
set_option maxRecDepth 20000 in
theorem gL_law_X7_setStyle : GoodIn wsL_law (wsV RL 154 RX7 yX7_setStyle wsX7_setStyle) := goodIn_app (goodIn_of _ (by decide +kernel)) ggL_law_X7_setStyle
set_option maxRecDepth 20000 in
theorem ggL_law_L_setOrder : GoodIn wsL_law wsL_setOrder := goodIn_ca (goodIn_r _ [704, 91, 705, 706, 707, 2, 708, 97, 98, 30, 21, 337, 598, 599, 600, 29, 601, 320, 602, 65, 603, 604, 605, 20, 606, 248, 249, 250, 251, 52, 53, 54, 55, 57, 256, 257, 258, 25, 259, 46, 153, 154, 155, 260, 261, 262, 263, 264, 265, 266, 267, 268, 269, 270, 271, 272, 273, 274, 174, 275, 276, 173, 175, 277, 278, 279, 280, 281, 282, 283, 284, 285, 286, 287, 288, 289, 290, 291, 292, 293, 294, 295, 296, 297, 298, 299, 300, 301, 302, 303, 304, 305, 306, 307, 308, 309, 310, 311, 312, 313, 314, 315, 917, 918, 919, 920, 921, 922, 923, 948, 949, 950, 951, 952, 953, 954, 955, 956, 961, 962, 963, 957, 958, 959, 960] (by decide +kernel) (by decide +kernel)) (goodIn_sub (fun _ h => List.mem_append_left _ (List.mem_append_left _ (List.mem_append_right _ h))) (by decide +kernel))
set_option maxRecDepth 20000 in
theorem gL_law_L_setOrder : GoodIn wsL_law (va_wsS RL 155 yL_setOrder wsL_setOrder) := goodIn_app (goodIn_of _ (by decide +kernel)) ggL_law_L_setOrder
set_option maxRecDepth 20000 in
theorem ggL_law_X7_setOrder : GoodIn wsL_law wsX7_setOrder := goodIn_r _ [712, 73, 113, 114, 5, 115, 116, 117, 118, 119, 120, 615, 616, 617, 618, 325, 75, 326, 327, 328, 631, 632, 633, 634, 78, 82, 381, 382, 383, 384, 385, 386, 387, 388, 83, 80, 79, 81, 389, 390, 391, 392, 204, 205, 206, 207, 208, 209, 393, 394, 395, 396, 397, 398, 399, 400, 401, 402, 403, 404, 405, 406, 407, 408, 409, 410, 411, 412, 413, 414, 415, 416, 635, 636, 637, 638, 924, 925, 926, 927, 928, 929, 930, 931, 932, 933, 934, 935, 936, 937, 938, 939, 940, 941] (by decide +kernel) (by decide +kernel)
set_option maxRecDepth 20000 in
theorem gL_law_X7_setOrder : GoodIn wsL_law (wsV RL 157 RX7 yX7_setOrder wsX7_setOrder) := goodIn_app (goodIn_of _ (by decide +kernel)) ggL_law_X7_setOrder
set_option maxRecDepth 20000 in
theorem ggL_law_X6_print : GoodIn wsL_law wsX6_print := goodIn_r _ [716, 30, 21, 338, 598, 599, 600, 29, 601, 320, 602, 65, 603, 604, 605, 20, 606, 248, 249, 250, 251, 52, 53, 54, 55, 57, 256, 257, 258, 25, 259, 46, 153, 154, 155, 717, 718, 719, 720, 917, 918, 919, 920, 921, 922, 923, 948, 949, 950, 951, 952, 953, 954, 955, 956, 961, 962, 963, 957, 958, 959, 960] (by decide +kernel) (by decide +kernel)
set_option maxRecDepth 20000 in
theorem gL_law_X6_print : GoodIn wsL_law (wsV RL 158 RX6 yX6_print wsX6_print) := goodIn_app (goodIn_of _ (by decide +kernel)) ggL_law_X6_print
set_option maxRecDepth 20000 in
theorem ggL_law_X7_print : GoodIn wsL_law wsX7_print := goodIn_r _ [724, 120, 73, 615, 616, 617, 5, 618, 325, 75, 326, 327, 328, 725, 726, 727, 728, 78, 385, 386, 387, 388, 83, 80, 79, 81, 389, 390, 391, 392, 204, 205, 206, 207, 208, 209, 393, 394, 395, 396, 397, 398, 399, 400, 401, 402, 403, 404, 405, 406, 407, 408, 409, 410, 411, 412, 413, 414, 415, 416, 924, 925, 926, 927, 928, 929, 930, 931, 932, 933, 934, 935, 936, 937, 938, 939, 940, 941] (by decide +kernel) (by decide +kernel)
set_option maxRecDepth 20000 in
theorem gL_law_X7_print : GoodIn wsL_law (wsV RL 161 RX7 yX7_print wsX7_print) := goodIn_app (goodIn_of _ (by decide +kernel)) ggL_law_X7_print
set_option maxRecDepth 20000 in
theorem ggL_law_L_undo : GoodIn wsL_law wsL_undo := goodIn_ca (goodIn_r _ [731, 92, 732, 733, 734, 2, 735, 99, 100, 30, 736, 21, 737, 738, 739, 29, 740, 320, 65, 602, 603, 604, 605, 20, 606, 248, 249, 250, 251, 52, 53, 54, 55, 57, 256, 257, 258, 25, 259, 46, 153, 154, 155, 917, 918, 919, 920, 921, 922, 923, 961, 962, 963, 948, 949, 950, 951, 952, 953, 954, 955, 956, 957, 958, 959, 960] (by decide +kernel) (by decide +kernel)) (goodIn_sub (fun _ h => List.mem_append_left _ (List.mem_append_right _ h)) (by decide +kernel))
set_option maxRecDepth 20000 in
theorem gL_law_L_undo : GoodIn wsL_law (va_wsS RL 162 yL_undo wsL_undo) := goodIn_app (goodIn_of _ (by decide +kernel)) ggL_law_L_undo
set_option maxRecDepth 20000 in
theorem ggL_law_X7_undo : GoodIn wsL_law wsX7_undo := goodIn_r _ [744, 325, 75, 73, 116, 117, 118, 5, 119, 120, 326, 327, 328, 924, 925, 926, 927, 928, 929, 930, 931, 932, 933, 934, 935, 936, 937, 938, 939, 940, 941] (by decide +kernel) (by decide +kernel)
set_option maxRecDepth 20000 in
theorem gL_law_X7_undo : GoodIn wsL_law (wsV RL 164 RX7 yX7_undo wsX7_undo) := goodIn_app (goodIn_of _ (by decide +kernel)) ggL_law_X7_undo
set_option maxRecDepth 20000 in
theorem ggL_law_L_ifRemoved : GoodIn wsL_law wsL_ifRemoved := goodIn_ca (goodIn_r _ [747, 435, 748, 749, 750, 2, 751, 445, 446, 447, 448, 449, 450, 21, 451, 452, 453, 20, 454, 248, 752, 753, 754, 755, 22, 756, 604, 605, 606, 249, 250, 251, 52, 53, 54, 55, 57, 256, 257, 258, 25, 259, 46, 153, 154, 155, 665, 666, 667, 668, 669, 670, 671, 672, 673, 260, 261, 262, 263, 264, 265, 266, 267, 268, 269, 270, 271, 272, 273, 274, 174, 275, 276, 173, 175, 277, 278, 279, 280, 281, 282, 283, 284, 285, 286, 287, 288, 289, 290, 291, 292, 293, 294, 295, 296, 297, 298, 299, 300, 301, 302, 303, 304, 305, 306, 307, 308, 309, 310, 311, 312, 313, 314, 315, 917, 918, 919, 920, 921, 922, 923, 948, 949, 950, 951, 952, 953, 954, 955, 956, 957, 958, 959, 960] (by decide +kernel) (by decide +kernel)) (goodIn_sub (fun _ h => List.mem_append_right _ h) (by decide +kernel))
set_option maxRecDepth 20000 in
theorem gL_law_L_ifRemoved : GoodIn wsL_law (va_wsS RL 165 yL_ifRemoved wsL_ifRemoved) := goodIn_app (goodIn_of _ (by decide +kernel)) ggL_law_L_ifRemoved
set_option maxRecDepth 20000 in
theorem ggL_law_X7_ifRemoved : GoodIn wsL_law wsX7_ifRemoved := goodIn_r _ [760, 471, 472, 473, 5, 474, 73, 113, 114, 115, 116, 117, 118, 119, 120, 761, 762, 763, 764, 74, 631, 632, 633, 634, 78, 82, 381, 382, 383, 384, 385, 386, 387, 388, 83, 80, 79, 81, 389, 390, 391, 392, 204, 205, 206, 207, 208, 209, 393, 394, 395, 396, 397, 398, 399, 400, 401, 402, 403, 404, 326, 327, 328, 405, 406, 407, 408, 409, 410, 411, 412, 413, 414, 415, 416, 765, 766, 767, 768, 678, 679, 680, 635, 636, 637, 638, 924, 925, 926, 927, 928, 929, 930, 931, 932, 933, 934, 935, 936, 937, 938, 939, 940, 941] (by decide +kernel) (by decide +kernel)
set_option maxRecDepth 20000 in
theorem gL_law_X7_ifRemoved : GoodIn wsL_law (wsV RL 167 RX7 yX7_ifRemoved wsX7_ifRemoved) := goodIn_app (goodIn_of _ (by decide +kernel)) ggL_law_X7_ifRemoved
set_option maxRecDepth 20000 in
theorem ggL_law_L_freeYear : GoodIn wsL_law wsL_freeYear := goodIn_ca (goodIn_r _ [771, 435, 772, 773, 774, 2, 775, 21, 440, 441, 445, 446, 447, 448, 449, 450, 451, 452, 453, 20, 454, 248, 646, 647, 648, 776, 777, 778, 779, 52, 249, 53, 265, 266, 267, 25, 268, 46, 153, 269, 270, 271, 272, 273, 274, 174, 275, 276, 173, 175, 277, 278, 279, 280, 281, 282, 283, 284, 285, 286, 287, 288, 289, 290, 291, 292, 293, 155, 917, 918, 919, 920, 921, 922, 923, 948, 949, 950, 951, 952, 953, 954, 955, 956, 957, 958, 959, 960] (by decide +kernel) (by decide +kernel)) (goodIn_sub (fun _ h => List.mem_append_right _ h) (by decide +kernel))
set_option maxRecDepth 20000 in
theorem gL_law_L_freeYear : GoodIn wsL_law (va_wsS RL 168 yL_freeYear wsL_freeYear) := goodIn_app (goodIn_of _ (by decide +kernel)) ggL_law_L_freeYear
set_option maxRecDepth 20000 in
theorem ggL_law_X7_freeYear : GoodIn wsL_law wsX7_freeYear := goodIn_r _ [783, 73, 471, 472, 473, 5, 474, 113, 114, 115, 116, 117, 118, 119, 120, 765, 766, 767, 768, 74, 326, 327, 328, 204, 205, 206, 653, 654, 655, 656, 657, 784, 785, 786, 787, 83, 82, 389, 390, 391, 392, 207, 208, 209, 393, 394, 395, 396, 397, 398, 399, 400, 401, 402, 403, 404, 405, 406, 407, 924, 925, 926, 927, 928, 929, 930, 931, 932, 933, 934, 935, 936, 937, 938, 939, 940, 941] (by decide +kernel) (by decide +kernel)
set_option maxRecDepth 20000 in
theorem gL_law_X7_freeYear : GoodIn wsL_law (wsV RL 170 RX7 yX7_freeYear wsX7_freeYear) := goodIn_app (goodIn_of _ (by decide +kernel)) ggL_law_X7_freeYear
