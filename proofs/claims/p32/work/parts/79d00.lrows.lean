theorem dL_draw_0 : decode cL_draw 0 = .ok (.iload_n 1, 1) := by decide +kernel
theorem dL_draw_1 : decode cL_draw 1 = .ok (.aload_n 0, 1) := by decide +kernel
theorem dL_draw_2 : decode cL_draw 2 = .ok (.arraylength, 1) := by decide +kernel
theorem dL_draw_3 : decode cL_draw 3 = .ok (.if_icmp .ge 9, 3) := by decide +kernel
theorem dL_draw_6 : decode cL_draw 6 = .ok (.aload_n 0, 1) := by decide +kernel
theorem dL_draw_7 : decode cL_draw 7 = .ok (.iload_n 1, 1) := by decide +kernel
theorem dL_draw_8 : decode cL_draw 8 = .ok (.iaload, 1) := by decide +kernel
theorem dL_draw_9 : decode cL_draw 9 = .ok (.goto 11, 3) := by decide +kernel
theorem dL_draw_12 : decode cL_draw 12 = .ok (.ldc 7, 2) := by decide +kernel
theorem dL_draw_14 : decode cL_draw 14 = .ok (.iload_n 1, 1) := by decide +kernel
theorem dL_draw_15 : decode cL_draw 15 = .ok (.imul, 1) := by decide +kernel
theorem dL_draw_16 : decode cL_draw 16 = .ok (.sipush 10391, 3) := by decide +kernel
theorem dL_draw_19 : decode cL_draw 19 = .ok (.iadd, 1) := by decide +kernel
theorem dL_draw_20 : decode cL_draw 20 = .ok (.ldc 8, 2) := by decide +kernel
theorem dL_draw_22 : decode cL_draw 22 = .ok (.iand, 1) := by decide +kernel
theorem dL_draw_23 : decode cL_draw 23 = .ok (.ireturn, 1) := by decide +kernel
theorem dL_in_0 : decode cL_in 0 = .ok (.lload_n 0, 1) := by decide +kernel
theorem dL_in_1 : decode cL_in 1 = .ok (.lload_n 2, 1) := by decide +kernel
theorem dL_in_2 : decode cL_in 2 = .ok (.lcmp, 1) := by decide +kernel
theorem dL_in_3 : decode cL_in 3 = .ok (.ifCond .lt 14, 3) := by decide +kernel
theorem dL_in_6 : decode cL_in 6 = .ok (.lload_n 0, 1) := by decide +kernel
theorem dL_in_7 : decode cL_in 7 = .ok (.lload 4, 2) := by decide +kernel
theorem dL_in_9 : decode cL_in 9 = .ok (.lcmp, 1) := by decide +kernel
theorem dL_in_10 : decode cL_in 10 = .ok (.ifCond .gt 7, 3) := by decide +kernel
theorem dL_in_13 : decode cL_in 13 = .ok (.iconst 1, 1) := by decide +kernel
theorem dL_in_14 : decode cL_in 14 = .ok (.goto 4, 3) := by decide +kernel
theorem dL_in_17 : decode cL_in 17 = .ok (.iconst 0, 1) := by decide +kernel
theorem dL_in_18 : decode cL_in 18 = .ok (.ireturn, 1) := by decide +kernel
theorem dL_append_0 : decode cL_append 0 = .ok (.aload_n 0, 1) := by decide +kernel
theorem dL_append_1 : decode cL_append 1 = .ok (.iload_n 1, 1) := by decide +kernel
theorem dL_append_2 : decode cL_append 2 = .ok (.invokevirtual 9, 3) := by decide +kernel
theorem dL_append_5 : decode cL_append 5 = .ok (.i2l, 1) := by decide +kernel
theorem dL_append_6 : decode cL_append 6 = .ok (.lreturn, 1) := by decide +kernel
theorem dL_append_7 : decode cL_append 7 = .ok (.astore_n 2, 1) := by decide +kernel
theorem dL_append_8 : decode cL_append 8 = .ok (.ldc2_w 17, 3) := by decide +kernel
theorem dL_append_11 : decode cL_append 11 = .ok (.lreturn, 1) := by decide +kernel
theorem dL_append_12 : decode cL_append 12 = .ok (.astore_n 2, 1) := by decide +kernel
theorem dL_append_13 : decode cL_append 13 = .ok (.ldc2_w 21, 3) := by decide +kernel
theorem dL_append_16 : decode cL_append 16 = .ok (.lreturn, 1) := by decide +kernel
theorem dL_load_0 : decode cL_load 0 = .ok (.aload_n 0, 1) := by decide +kernel
theorem dL_load_1 : decode cL_load 1 = .ok (.invokevirtual 23, 3) := by decide +kernel
theorem dL_load_4 : decode cL_load 4 = .ok (.i2l, 1) := by decide +kernel
theorem dL_load_5 : decode cL_load 5 = .ok (.lreturn, 1) := by decide +kernel
theorem dL_load_6 : decode cL_load 6 = .ok (.astore_n 1, 1) := by decide +kernel
theorem dL_load_7 : decode cL_load 7 = .ok (.ldc2_w 21, 3) := by decide +kernel
theorem dL_load_10 : decode cL_load 10 = .ok (.lreturn, 1) := by decide +kernel
theorem dL_about_0 : decode cL_about 0 = .ok (.aload_n 0, 1) := by decide +kernel
theorem dL_about_1 : decode cL_about 1 = .ok (.iload_n 1, 1) := by decide +kernel
theorem dL_about_2 : decode cL_about 2 = .ok (.invokevirtual 27, 3) := by decide +kernel
theorem dL_about_5 : decode cL_about 5 = .ok (.i2l, 1) := by decide +kernel
theorem dL_about_6 : decode cL_about 6 = .ok (.lreturn, 1) := by decide +kernel
theorem dL_about_7 : decode cL_about 7 = .ok (.astore_n 2, 1) := by decide +kernel
theorem dL_about_8 : decode cL_about 8 = .ok (.ldc2_w 17, 3) := by decide +kernel
theorem dL_about_11 : decode cL_about 11 = .ok (.lreturn, 1) := by decide +kernel
theorem dL_work_0 : decode cL_work 0 = .ok (.aload_n 0, 1) := by decide +kernel
theorem dL_work_1 : decode cL_work 1 = .ok (.iload_n 1, 1) := by decide +kernel
theorem dL_work_2 : decode cL_work 2 = .ok (.iload_n 2, 1) := by decide +kernel
theorem dL_work_3 : decode cL_work 3 = .ok (.invokevirtual 30, 3) := by decide +kernel
theorem dL_work_6 : decode cL_work 6 = .ok (.i2l, 1) := by decide +kernel
theorem dL_work_7 : decode cL_work 7 = .ok (.lreturn, 1) := by decide +kernel
theorem dL_work_8 : decode cL_work 8 = .ok (.astore_n 3, 1) := by decide +kernel
theorem dL_work_9 : decode cL_work 9 = .ok (.ldc2_w 36, 3) := by decide +kernel
theorem dL_work_12 : decode cL_work 12 = .ok (.lreturn, 1) := by decide +kernel
theorem dL_work_13 : decode cL_work 13 = .ok (.astore_n 3, 1) := by decide +kernel
theorem dL_work_14 : decode cL_work 14 = .ok (.ldc2_w 17, 3) := by decide +kernel
theorem dL_work_17 : decode cL_work 17 = .ok (.lreturn, 1) := by decide +kernel
theorem dL_letter_0 : decode cL_letter 0 = .ok (.aload_n 0, 1) := by decide +kernel
theorem dL_letter_1 : decode cL_letter 1 = .ok (.iload_n 1, 1) := by decide +kernel
theorem dL_letter_2 : decode cL_letter 2 = .ok (.iload_n 2, 1) := by decide +kernel
theorem dL_letter_3 : decode cL_letter 3 = .ok (.iload_n 3, 1) := by decide +kernel
theorem dL_letter_4 : decode cL_letter 4 = .ok (.invokevirtual 38, 3) := by decide +kernel
theorem dL_letter_7 : decode cL_letter 7 = .ok (.i2l, 1) := by decide +kernel
theorem dL_letter_8 : decode cL_letter 8 = .ok (.lreturn, 1) := by decide +kernel
theorem dL_letter_9 : decode cL_letter 9 = .ok (.astore 4, 2) := by decide +kernel
theorem dL_letter_11 : decode cL_letter 11 = .ok (.ldc2_w 36, 3) := by decide +kernel
theorem dL_letter_14 : decode cL_letter 14 = .ok (.lreturn, 1) := by decide +kernel
theorem dL_letter_15 : decode cL_letter 15 = .ok (.astore 4, 2) := by decide +kernel
theorem dL_letter_17 : decode cL_letter 17 = .ok (.ldc2_w 17, 3) := by decide +kernel
theorem dL_letter_20 : decode cL_letter 20 = .ok (.lreturn, 1) := by decide +kernel
theorem dL_key_0 : decode cL_key 0 = .ok (.aload_n 0, 1) := by decide +kernel
theorem dL_key_1 : decode cL_key 1 = .ok (.iload_n 1, 1) := by decide +kernel
theorem dL_key_2 : decode cL_key 2 = .ok (.iload_n 2, 1) := by decide +kernel
theorem dL_key_3 : decode cL_key 3 = .ok (.invokevirtual 42, 3) := by decide +kernel
theorem dL_key_6 : decode cL_key 6 = .ok (.i2l, 1) := by decide +kernel
theorem dL_key_7 : decode cL_key 7 = .ok (.lreturn, 1) := by decide +kernel
theorem dL_key_8 : decode cL_key 8 = .ok (.astore_n 3, 1) := by decide +kernel
theorem dL_key_9 : decode cL_key 9 = .ok (.ldc2_w 36, 3) := by decide +kernel
theorem dL_key_12 : decode cL_key 12 = .ok (.lreturn, 1) := by decide +kernel
theorem dL_key_13 : decode cL_key 13 = .ok (.astore_n 3, 1) := by decide +kernel
theorem dL_key_14 : decode cL_key 14 = .ok (.ldc2_w 17, 3) := by decide +kernel
theorem dL_key_17 : decode cL_key 17 = .ok (.lreturn, 1) := by decide +kernel
theorem dL_at_0 : decode cL_at 0 = .ok (.aload_n 0, 1) := by decide +kernel
theorem dL_at_1 : decode cL_at 1 = .ok (.iload_n 1, 1) := by decide +kernel
theorem dL_at_2 : decode cL_at 2 = .ok (.invokevirtual 45, 3) := by decide +kernel
theorem dL_at_5 : decode cL_at 5 = .ok (.i2l, 1) := by decide +kernel
theorem dL_at_6 : decode cL_at 6 = .ok (.lreturn, 1) := by decide +kernel
theorem dL_at_7 : decode cL_at 7 = .ok (.astore_n 2, 1) := by decide +kernel
theorem dL_at_8 : decode cL_at 8 = .ok (.ldc2_w 17, 3) := by decide +kernel
theorem dL_at_11 : decode cL_at 11 = .ok (.lreturn, 1) := by decide +kernel
theorem dL_printed_0 : decode cL_printed 0 = .ok (.aload_n 0, 1) := by decide +kernel
theorem dL_printed_1 : decode cL_printed 1 = .ok (.iload_n 1, 1) := by decide +kernel
theorem dL_printed_2 : decode cL_printed 2 = .ok (.invokevirtual 48, 3) := by decide +kernel
theorem dL_printed_5 : decode cL_printed 5 = .ok (.i2l, 1) := by decide +kernel
theorem dL_printed_6 : decode cL_printed 6 = .ok (.lreturn, 1) := by decide +kernel
theorem dL_printed_7 : decode cL_printed 7 = .ok (.astore_n 2, 1) := by decide +kernel
theorem dL_printed_8 : decode cL_printed 8 = .ok (.ldc2_w 17, 3) := by decide +kernel
theorem dL_printed_11 : decode cL_printed 11 = .ok (.lreturn, 1) := by decide +kernel
theorem dL_add_0 : decode cL_add 0 = .ok (.aload_n 0, 1) := by decide +kernel
theorem dL_add_1 : decode cL_add 1 = .ok (.invokevirtual 51, 3) := by decide +kernel
theorem dL_add_4 : decode cL_add 4 = .ok (.i2l, 1) := by decide +kernel
theorem dL_add_5 : decode cL_add 5 = .ok (.lreturn, 1) := by decide +kernel
theorem dL_add_6 : decode cL_add 6 = .ok (.astore_n 1, 1) := by decide +kernel
theorem dL_add_7 : decode cL_add 7 = .ok (.ldc2_w 21, 3) := by decide +kernel
theorem dL_add_10 : decode cL_add 10 = .ok (.lreturn, 1) := by decide +kernel
theorem dL_change_0 : decode cL_change 0 = .ok (.aload_n 0, 1) := by decide +kernel
theorem dL_change_1 : decode cL_change 1 = .ok (.iload_n 1, 1) := by decide +kernel
theorem dL_change_2 : decode cL_change 2 = .ok (.invokevirtual 54, 3) := by decide +kernel
theorem dL_change_5 : decode cL_change 5 = .ok (.i2l, 1) := by decide +kernel
theorem dL_change_6 : decode cL_change 6 = .ok (.lreturn, 1) := by decide +kernel
theorem dL_change_7 : decode cL_change 7 = .ok (.astore_n 2, 1) := by decide +kernel
theorem dL_change_8 : decode cL_change 8 = .ok (.ldc2_w 36, 3) := by decide +kernel
theorem dL_change_11 : decode cL_change 11 = .ok (.lreturn, 1) := by decide +kernel
theorem dL_change_12 : decode cL_change 12 = .ok (.astore_n 2, 1) := by decide +kernel
theorem dL_change_13 : decode cL_change 13 = .ok (.ldc2_w 21, 3) := by decide +kernel
theorem dL_change_16 : decode cL_change 16 = .ok (.lreturn, 1) := by decide +kernel
theorem dL_setYear_0 : decode cL_setYear 0 = .ok (.aload_n 0, 1) := by decide +kernel
theorem dL_setYear_1 : decode cL_setYear 1 = .ok (.iload_n 1, 1) := by decide +kernel
theorem dL_setYear_2 : decode cL_setYear 2 = .ok (.iload_n 2, 1) := by decide +kernel
theorem dL_setYear_3 : decode cL_setYear 3 = .ok (.invokevirtual 57, 3) := by decide +kernel
theorem dL_setYear_6 : decode cL_setYear 6 = .ok (.i2l, 1) := by decide +kernel
theorem dL_setYear_7 : decode cL_setYear 7 = .ok (.lreturn, 1) := by decide +kernel
theorem dL_setYear_8 : decode cL_setYear 8 = .ok (.astore_n 3, 1) := by decide +kernel
theorem dL_setYear_9 : decode cL_setYear 9 = .ok (.ldc2_w 36, 3) := by decide +kernel
theorem dL_setYear_12 : decode cL_setYear 12 = .ok (.lreturn, 1) := by decide +kernel
theorem dL_setYear_13 : decode cL_setYear 13 = .ok (.astore_n 3, 1) := by decide +kernel
theorem dL_setYear_14 : decode cL_setYear 14 = .ok (.ldc2_w 17, 3) := by decide +kernel
theorem dL_setYear_17 : decode cL_setYear 17 = .ok (.lreturn, 1) := by decide +kernel
theorem dL_remove_0 : decode cL_remove 0 = .ok (.aload_n 0, 1) := by decide +kernel
theorem dL_remove_1 : decode cL_remove 1 = .ok (.iload_n 1, 1) := by decide +kernel
theorem dL_remove_2 : decode cL_remove 2 = .ok (.invokevirtual 60, 3) := by decide +kernel
theorem dL_remove_5 : decode cL_remove 5 = .ok (.i2l, 1) := by decide +kernel
theorem dL_remove_6 : decode cL_remove 6 = .ok (.lreturn, 1) := by decide +kernel
theorem dL_remove_7 : decode cL_remove 7 = .ok (.astore_n 2, 1) := by decide +kernel
theorem dL_remove_8 : decode cL_remove 8 = .ok (.ldc2_w 36, 3) := by decide +kernel
theorem dL_remove_11 : decode cL_remove 11 = .ok (.lreturn, 1) := by decide +kernel
theorem dL_setStyle_0 : decode cL_setStyle 0 = .ok (.aload_n 0, 1) := by decide +kernel
theorem dL_setStyle_1 : decode cL_setStyle 1 = .ok (.iload_n 1, 1) := by decide +kernel
theorem dL_setStyle_2 : decode cL_setStyle 2 = .ok (.invokevirtual 63, 3) := by decide +kernel
theorem dL_setStyle_5 : decode cL_setStyle 5 = .ok (.i2l, 1) := by decide +kernel
theorem dL_setStyle_6 : decode cL_setStyle 6 = .ok (.lreturn, 1) := by decide +kernel
theorem dL_setStyle_7 : decode cL_setStyle 7 = .ok (.astore_n 2, 1) := by decide +kernel
theorem dL_setStyle_8 : decode cL_setStyle 8 = .ok (.ldc2_w 17, 3) := by decide +kernel
theorem dL_setStyle_11 : decode cL_setStyle 11 = .ok (.lreturn, 1) := by decide +kernel
theorem dL_setOrder_0 : decode cL_setOrder 0 = .ok (.aload_n 0, 1) := by decide +kernel
theorem dL_setOrder_1 : decode cL_setOrder 1 = .ok (.iload_n 1, 1) := by decide +kernel
theorem dL_setOrder_2 : decode cL_setOrder 2 = .ok (.invokevirtual 66, 3) := by decide +kernel
theorem dL_setOrder_5 : decode cL_setOrder 5 = .ok (.i2l, 1) := by decide +kernel
theorem dL_setOrder_6 : decode cL_setOrder 6 = .ok (.lreturn, 1) := by decide +kernel
theorem dL_setOrder_7 : decode cL_setOrder 7 = .ok (.astore_n 2, 1) := by decide +kernel
theorem dL_setOrder_8 : decode cL_setOrder 8 = .ok (.ldc2_w 17, 3) := by decide +kernel
theorem dL_setOrder_11 : decode cL_setOrder 11 = .ok (.lreturn, 1) := by decide +kernel
theorem dL_undo_0 : decode cL_undo 0 = .ok (.aload_n 0, 1) := by decide +kernel
theorem dL_undo_1 : decode cL_undo 1 = .ok (.invokevirtual 69, 3) := by decide +kernel
theorem dL_undo_4 : decode cL_undo 4 = .ok (.i2l, 1) := by decide +kernel
theorem dL_undo_5 : decode cL_undo 5 = .ok (.lreturn, 1) := by decide +kernel
theorem dL_undo_6 : decode cL_undo 6 = .ok (.astore_n 1, 1) := by decide +kernel
theorem dL_undo_7 : decode cL_undo 7 = .ok (.ldc2_w 21, 3) := by decide +kernel
theorem dL_undo_10 : decode cL_undo 10 = .ok (.lreturn, 1) := by decide +kernel
theorem dL_ifRemoved_0 : decode cL_ifRemoved 0 = .ok (.aload_n 0, 1) := by decide +kernel
theorem dL_ifRemoved_1 : decode cL_ifRemoved 1 = .ok (.iload_n 1, 1) := by decide +kernel
theorem dL_ifRemoved_2 : decode cL_ifRemoved 2 = .ok (.invokevirtual 72, 3) := by decide +kernel
theorem dL_ifRemoved_5 : decode cL_ifRemoved 5 = .ok (.i2l, 1) := by decide +kernel
theorem dL_ifRemoved_6 : decode cL_ifRemoved 6 = .ok (.lreturn, 1) := by decide +kernel
theorem dL_ifRemoved_7 : decode cL_ifRemoved 7 = .ok (.astore_n 2, 1) := by decide +kernel
theorem dL_ifRemoved_8 : decode cL_ifRemoved 8 = .ok (.ldc2_w 36, 3) := by decide +kernel
theorem dL_ifRemoved_11 : decode cL_ifRemoved 11 = .ok (.lreturn, 1) := by decide +kernel
theorem dL_freeYear_0 : decode cL_freeYear 0 = .ok (.aload_n 0, 1) := by decide +kernel
theorem dL_freeYear_1 : decode cL_freeYear 1 = .ok (.iload_n 1, 1) := by decide +kernel
theorem dL_freeYear_2 : decode cL_freeYear 2 = .ok (.invokevirtual 75, 3) := by decide +kernel
theorem dL_freeYear_5 : decode cL_freeYear 5 = .ok (.i2l, 1) := by decide +kernel
theorem dL_freeYear_6 : decode cL_freeYear 6 = .ok (.lreturn, 1) := by decide +kernel
theorem dL_freeYear_7 : decode cL_freeYear 7 = .ok (.astore_n 2, 1) := by decide +kernel
theorem dL_freeYear_8 : decode cL_freeYear 8 = .ok (.ldc2_w 36, 3) := by decide +kernel
theorem dL_freeYear_11 : decode cL_freeYear 11 = .ok (.lreturn, 1) := by decide +kernel
theorem dL_lettersWith_0 : decode cL_lettersWith 0 = .ok (.aload_n 0, 1) := by decide +kernel
theorem dL_lettersWith_1 : decode cL_lettersWith 1 = .ok (.iload_n 1, 1) := by decide +kernel
theorem dL_lettersWith_2 : decode cL_lettersWith 2 = .ok (.invokevirtual 78, 3) := by decide +kernel
theorem dL_lettersWith_5 : decode cL_lettersWith 5 = .ok (.i2l, 1) := by decide +kernel
theorem dL_lettersWith_6 : decode cL_lettersWith 6 = .ok (.lreturn, 1) := by decide +kernel
theorem dL_lettersWith_7 : decode cL_lettersWith 7 = .ok (.astore_n 2, 1) := by decide +kernel
theorem dL_lettersWith_8 : decode cL_lettersWith 8 = .ok (.ldc2_w 17, 3) := by decide +kernel
theorem dL_lettersWith_11 : decode cL_lettersWith 11 = .ok (.lreturn, 1) := by decide +kernel
theorem dL_script_0 : decode cL_script 0 = .ok (.aload_n 0, 1) := by decide +kernel
theorem dL_script_1 : decode cL_script 1 = .ok (.iload_n 1, 1) := by decide +kernel
theorem dL_script_2 : decode cL_script 2 = .ok (.lload_n 2, 1) := by decide +kernel
theorem dL_script_3 : decode cL_script 3 = .ok (.invokevirtual 81, 3) := by decide +kernel
theorem dL_script_6 : decode cL_script 6 = .ok (.i2l, 1) := by decide +kernel
theorem dL_script_7 : decode cL_script 7 = .ok (.lreturn, 1) := by decide +kernel
theorem dL_script_8 : decode cL_script 8 = .ok (.astore 4, 2) := by decide +kernel
theorem dL_script_10 : decode cL_script 10 = .ok (.ldc2_w 17, 3) := by decide +kernel
theorem dL_script_13 : decode cL_script 13 = .ok (.lreturn, 1) := by decide +kernel
theorem dL_simulate_0 : decode cL_simulate 0 = .ok (.aload_n 0, 1) := by decide +kernel
theorem dL_simulate_1 : decode cL_simulate 1 = .ok (.lload_n 1, 1) := by decide +kernel
theorem dL_simulate_2 : decode cL_simulate 2 = .ok (.iload_n 3, 1) := by decide +kernel
theorem dL_simulate_3 : decode cL_simulate 3 = .ok (.invokevirtual 85, 3) := by decide +kernel
theorem dL_simulate_6 : decode cL_simulate 6 = .ok (.i2l, 1) := by decide +kernel
theorem dL_simulate_7 : decode cL_simulate 7 = .ok (.lreturn, 1) := by decide +kernel
theorem dL_simulate_8 : decode cL_simulate 8 = .ok (.astore 4, 2) := by decide +kernel
theorem dL_simulate_10 : decode cL_simulate 10 = .ok (.ldc2_w 17, 3) := by decide +kernel
theorem dL_simulate_13 : decode cL_simulate 13 = .ok (.lreturn, 1) := by decide +kernel
theorem dL_save_0 : decode cL_save 0 = .ok (.aload_n 0, 1) := by decide +kernel
theorem dL_save_1 : decode cL_save 1 = .ok (.iload_n 1, 1) := by decide +kernel
theorem dL_save_2 : decode cL_save 2 = .ok (.invokevirtual 89, 3) := by decide +kernel
theorem dL_save_5 : decode cL_save 5 = .ok (.i2l, 1) := by decide +kernel
theorem dL_save_6 : decode cL_save 6 = .ok (.lreturn, 1) := by decide +kernel
theorem dL_save_7 : decode cL_save 7 = .ok (.astore_n 2, 1) := by decide +kernel
theorem dL_save_8 : decode cL_save 8 = .ok (.ldc2_w 36, 3) := by decide +kernel
theorem dL_save_11 : decode cL_save 11 = .ok (.lreturn, 1) := by decide +kernel
theorem dL_restore_0 : decode cL_restore 0 = .ok (.aload_n 0, 1) := by decide +kernel
theorem dL_restore_1 : decode cL_restore 1 = .ok (.iload_n 1, 1) := by decide +kernel
theorem dL_restore_2 : decode cL_restore 2 = .ok (.invokevirtual 92, 3) := by decide +kernel
theorem dL_restore_5 : decode cL_restore 5 = .ok (.i2l, 1) := by decide +kernel
theorem dL_restore_6 : decode cL_restore 6 = .ok (.lreturn, 1) := by decide +kernel
theorem dL_restore_7 : decode cL_restore 7 = .ok (.astore_n 2, 1) := by decide +kernel
theorem dL_restore_8 : decode cL_restore 8 = .ok (.ldc2_w 36, 3) := by decide +kernel
theorem dL_restore_11 : decode cL_restore 11 = .ok (.lreturn, 1) := by decide +kernel
theorem dL_restore_12 : decode cL_restore 12 = .ok (.astore_n 2, 1) := by decide +kernel
theorem dL_restore_13 : decode cL_restore 13 = .ok (.ldc2_w 21, 3) := by decide +kernel
theorem dL_restore_16 : decode cL_restore 16 = .ok (.lreturn, 1) := by decide +kernel
theorem dL_now_0 : decode cL_now 0 = .ok (.ldc2_w 95, 3) := by decide +kernel
theorem dL_now_3 : decode cL_now 3 = .ok (.lstore_n 1, 1) := by decide +kernel
theorem dL_now_4 : decode cL_now 4 = .ok (.iconst 0, 1) := by decide +kernel
theorem dL_now_5 : decode cL_now 5 = .ok (.istore_n 3, 1) := by decide +kernel
theorem dL_now_6 : decode cL_now 6 = .ok (.iload_n 3, 1) := by decide +kernel
theorem dL_now_7 : decode cL_now 7 = .ok (.bipush 8, 2) := by decide +kernel
theorem dL_now_9 : decode cL_now 9 = .ok (.if_icmp .ge 21, 3) := by decide +kernel
theorem dL_now_12 : decode cL_now 12 = .ok (.ldc2_w 97, 3) := by decide +kernel
theorem dL_now_15 : decode cL_now 15 = .ok (.lload_n 1, 1) := by decide +kernel
theorem dL_now_16 : decode cL_now 16 = .ok (.lmul, 1) := by decide +kernel
theorem dL_now_17 : decode cL_now 17 = .ok (.aload_n 0, 1) := by decide +kernel
theorem dL_now_18 : decode cL_now 18 = .ok (.iload_n 3, 1) := by decide +kernel
theorem dL_now_19 : decode cL_now 19 = .ok (.invokestatic 99, 3) := by decide +kernel
theorem dL_now_22 : decode cL_now 22 = .ok (.ladd, 1) := by decide +kernel
theorem dL_now_23 : decode cL_now 23 = .ok (.lstore_n 1, 1) := by decide +kernel
theorem dL_now_24 : decode cL_now 24 = .ok (.iinc 3 1, 3) := by decide +kernel
theorem dL_now_27 : decode cL_now 27 = .ok (.goto (-21), 3) := by decide +kernel
theorem dL_now_30 : decode cL_now 30 = .ok (.iconst 0, 1) := by decide +kernel
theorem dL_now_31 : decode cL_now 31 = .ok (.istore_n 3, 1) := by decide +kernel
theorem dL_now_32 : decode cL_now 32 = .ok (.iload_n 3, 1) := by decide +kernel
theorem dL_now_33 : decode cL_now 33 = .ok (.i2l, 1) := by decide +kernel
theorem dL_now_34 : decode cL_now 34 = .ok (.aload_n 0, 1) := by decide +kernel
theorem dL_now_35 : decode cL_now 35 = .ok (.iconst 0, 1) := by decide +kernel
theorem dL_now_36 : decode cL_now 36 = .ok (.invokestatic 99, 3) := by decide +kernel
theorem dL_now_39 : decode cL_now 39 = .ok (.lcmp, 1) := by decide +kernel
theorem dL_now_40 : decode cL_now 40 = .ok (.ifCond .ge 129, 3) := by decide +kernel
theorem dL_now_43 : decode cL_now 43 = .ok (.iconst 0, 1) := by decide +kernel
theorem dL_now_44 : decode cL_now 44 = .ok (.istore 4, 2) := by decide +kernel
theorem dL_now_46 : decode cL_now 46 = .ok (.iload 4, 2) := by decide +kernel
theorem dL_now_48 : decode cL_now 48 = .ok (.bipush 7, 2) := by decide +kernel
theorem dL_now_50 : decode cL_now 50 = .ok (.if_icmp .ge 23, 3) := by decide +kernel
theorem dL_now_53 : decode cL_now 53 = .ok (.ldc2_w 97, 3) := by decide +kernel
theorem dL_now_56 : decode cL_now 56 = .ok (.lload_n 1, 1) := by decide +kernel
theorem dL_now_57 : decode cL_now 57 = .ok (.lmul, 1) := by decide +kernel
theorem dL_now_58 : decode cL_now 58 = .ok (.aload_n 0, 1) := by decide +kernel
theorem dL_now_59 : decode cL_now 59 = .ok (.iload_n 3, 1) := by decide +kernel
theorem dL_now_60 : decode cL_now 60 = .ok (.iload 4, 2) := by decide +kernel
theorem dL_now_62 : decode cL_now 62 = .ok (.invokestatic 104, 3) := by decide +kernel
theorem dL_now_65 : decode cL_now 65 = .ok (.ladd, 1) := by decide +kernel
theorem dL_now_66 : decode cL_now 66 = .ok (.lstore_n 1, 1) := by decide +kernel
theorem dL_now_67 : decode cL_now 67 = .ok (.iinc 4 1, 3) := by decide +kernel
theorem dL_now_70 : decode cL_now 70 = .ok (.goto (-24), 3) := by decide +kernel
theorem dL_now_73 : decode cL_now 73 = .ok (.iconst 0, 1) := by decide +kernel
theorem dL_now_74 : decode cL_now 74 = .ok (.istore 4, 2) := by decide +kernel
theorem dL_now_76 : decode cL_now 76 = .ok (.iload 4, 2) := by decide +kernel
theorem dL_now_78 : decode cL_now 78 = .ok (.i2l, 1) := by decide +kernel
theorem dL_now_79 : decode cL_now 79 = .ok (.aload_n 0, 1) := by decide +kernel
theorem dL_now_80 : decode cL_now 80 = .ok (.iload_n 3, 1) := by decide +kernel
theorem dL_now_81 : decode cL_now 81 = .ok (.iconst 3, 1) := by decide +kernel
theorem dL_now_82 : decode cL_now 82 = .ok (.invokestatic 104, 3) := by decide +kernel
theorem dL_now_85 : decode cL_now 85 = .ok (.lcmp, 1) := by decide +kernel
theorem dL_now_86 : decode cL_now 86 = .ok (.ifCond .ge 23, 3) := by decide +kernel
theorem dL_now_89 : decode cL_now 89 = .ok (.ldc2_w 97, 3) := by decide +kernel
theorem dL_now_92 : decode cL_now 92 = .ok (.lload_n 1, 1) := by decide +kernel
theorem dL_now_93 : decode cL_now 93 = .ok (.lmul, 1) := by decide +kernel
theorem dL_now_94 : decode cL_now 94 = .ok (.aload_n 0, 1) := by decide +kernel
theorem dL_now_95 : decode cL_now 95 = .ok (.iload_n 3, 1) := by decide +kernel
theorem dL_now_96 : decode cL_now 96 = .ok (.iload 4, 2) := by decide +kernel
theorem dL_now_98 : decode cL_now 98 = .ok (.invokestatic 107, 3) := by decide +kernel
theorem dL_now_101 : decode cL_now 101 = .ok (.ladd, 1) := by decide +kernel
theorem dL_now_102 : decode cL_now 102 = .ok (.lstore_n 1, 1) := by decide +kernel
theorem dL_now_103 : decode cL_now 103 = .ok (.iinc 4 1, 3) := by decide +kernel
theorem dL_now_106 : decode cL_now 106 = .ok (.goto (-30), 3) := by decide +kernel
theorem dL_now_109 : decode cL_now 109 = .ok (.iconst 0, 1) := by decide +kernel
theorem dL_now_110 : decode cL_now 110 = .ok (.istore 4, 2) := by decide +kernel
theorem dL_now_112 : decode cL_now 112 = .ok (.iload 4, 2) := by decide +kernel
theorem dL_now_114 : decode cL_now 114 = .ok (.i2l, 1) := by decide +kernel
theorem dL_now_115 : decode cL_now 115 = .ok (.aload_n 0, 1) := by decide +kernel
theorem dL_now_116 : decode cL_now 116 = .ok (.iload_n 3, 1) := by decide +kernel
theorem dL_now_117 : decode cL_now 117 = .ok (.iconst 1, 1) := by decide +kernel
theorem dL_now_118 : decode cL_now 118 = .ok (.invokestatic 104, 3) := by decide +kernel
theorem dL_now_121 : decode cL_now 121 = .ok (.lcmp, 1) := by decide +kernel
theorem dL_now_122 : decode cL_now 122 = .ok (.ifCond .gt 41, 3) := by decide +kernel
theorem dL_now_125 : decode cL_now 125 = .ok (.iconst 0, 1) := by decide +kernel
theorem dL_now_126 : decode cL_now 126 = .ok (.istore 5, 2) := by decide +kernel
theorem dL_now_128 : decode cL_now 128 = .ok (.iload 5, 2) := by decide +kernel
theorem dL_now_130 : decode cL_now 130 = .ok (.bipush 8, 2) := by decide +kernel
theorem dL_now_132 : decode cL_now 132 = .ok (.if_icmp .ge 25, 3) := by decide +kernel
theorem dL_now_135 : decode cL_now 135 = .ok (.ldc2_w 97, 3) := by decide +kernel
theorem dL_now_138 : decode cL_now 138 = .ok (.lload_n 1, 1) := by decide +kernel
theorem dL_now_139 : decode cL_now 139 = .ok (.lmul, 1) := by decide +kernel
theorem dL_now_140 : decode cL_now 140 = .ok (.aload_n 0, 1) := by decide +kernel
theorem dL_now_141 : decode cL_now 141 = .ok (.iload_n 3, 1) := by decide +kernel
theorem dL_now_142 : decode cL_now 142 = .ok (.iload 4, 2) := by decide +kernel
theorem dL_now_144 : decode cL_now 144 = .ok (.iload 5, 2) := by decide +kernel
theorem dL_now_146 : decode cL_now 146 = .ok (.invokestatic 109, 3) := by decide +kernel
theorem dL_now_149 : decode cL_now 149 = .ok (.ladd, 1) := by decide +kernel
theorem dL_now_150 : decode cL_now 150 = .ok (.lstore_n 1, 1) := by decide +kernel
theorem dL_now_151 : decode cL_now 151 = .ok (.iinc 5 1, 3) := by decide +kernel
theorem dL_now_154 : decode cL_now 154 = .ok (.goto (-26), 3) := by decide +kernel
theorem dL_now_157 : decode cL_now 157 = .ok (.iinc 4 1, 3) := by decide +kernel
theorem dL_now_160 : decode cL_now 160 = .ok (.goto (-48), 3) := by decide +kernel
theorem dL_now_163 : decode cL_now 163 = .ok (.iinc 3 1, 3) := by decide +kernel
theorem dL_now_166 : decode cL_now 166 = .ok (.goto (-134), 3) := by decide +kernel
theorem dL_now_169 : decode cL_now 169 = .ok (.ldc2_w 97, 3) := by decide +kernel
theorem dL_now_172 : decode cL_now 172 = .ok (.ldc2_w 97, 3) := by decide +kernel
theorem dL_now_175 : decode cL_now 175 = .ok (.lload_n 1, 1) := by decide +kernel
theorem dL_now_176 : decode cL_now 176 = .ok (.lmul, 1) := by decide +kernel
theorem dL_now_177 : decode cL_now 177 = .ok (.aload_n 0, 1) := by decide +kernel
theorem dL_now_178 : decode cL_now 178 = .ok (.iconst 0, 1) := by decide +kernel
theorem dL_now_179 : decode cL_now 179 = .ok (.invokestatic 112, 3) := by decide +kernel
theorem dL_now_182 : decode cL_now 182 = .ok (.ladd, 1) := by decide +kernel
theorem dL_now_183 : decode cL_now 183 = .ok (.lmul, 1) := by decide +kernel
theorem dL_now_184 : decode cL_now 184 = .ok (.aload_n 0, 1) := by decide +kernel
theorem dL_now_185 : decode cL_now 185 = .ok (.iconst 1, 1) := by decide +kernel
theorem dL_now_186 : decode cL_now 186 = .ok (.invokestatic 112, 3) := by decide +kernel
theorem dL_now_189 : decode cL_now 189 = .ok (.ladd, 1) := by decide +kernel
theorem dL_now_190 : decode cL_now 190 = .ok (.lreturn, 1) := by decide +kernel
theorem dL_errors_0 : decode cL_errors 0 = .ok (.aload_n 0, 1) := by decide +kernel
theorem dL_errors_1 : decode cL_errors 1 = .ok (.invokestatic 114, 3) := by decide +kernel
theorem dL_errors_4 : decode cL_errors 4 = .ok (.lstore_n 1, 1) := by decide +kernel
theorem dL_errors_5 : decode cL_errors 5 = .ok (.aload_n 0, 1) := by decide +kernel
theorem dL_errors_6 : decode cL_errors 6 = .ok (.iconst 0, 1) := by decide +kernel
theorem dL_errors_7 : decode cL_errors 7 = .ok (.invokestatic 99, 3) := by decide +kernel
theorem dL_errors_10 : decode cL_errors 10 = .ok (.l2i, 1) := by decide +kernel
theorem dL_errors_11 : decode cL_errors 11 = .ok (.istore_n 3, 1) := by decide +kernel
theorem dL_errors_12 : decode cL_errors 12 = .ok (.aload_n 0, 1) := by decide +kernel
theorem dL_errors_13 : decode cL_errors 13 = .ok (.iconst (-1), 1) := by decide +kernel
theorem dL_errors_14 : decode cL_errors 14 = .ok (.invokestatic 99, 3) := by decide +kernel
theorem dL_errors_17 : decode cL_errors 17 = .ok (.ldc2_w 17, 3) := by decide +kernel
theorem dL_errors_20 : decode cL_errors 20 = .ok (.lcmp, 1) := by decide +kernel
theorem dL_errors_21 : decode cL_errors 21 = .ok (.ifCond .ne 167, 3) := by decide +kernel
theorem dL_errors_24 : decode cL_errors 24 = .ok (.aload_n 0, 1) := by decide +kernel
theorem dL_errors_25 : decode cL_errors 25 = .ok (.bipush 8, 2) := by decide +kernel
theorem dL_errors_27 : decode cL_errors 27 = .ok (.invokestatic 99, 3) := by decide +kernel
theorem dL_errors_30 : decode cL_errors 30 = .ok (.ldc2_w 17, 3) := by decide +kernel
theorem dL_errors_33 : decode cL_errors 33 = .ok (.lcmp, 1) := by decide +kernel
theorem dL_errors_34 : decode cL_errors 34 = .ok (.ifCond .ne 154, 3) := by decide +kernel
theorem dL_errors_37 : decode cL_errors 37 = .ok (.aload_n 0, 1) := by decide +kernel
theorem dL_errors_38 : decode cL_errors 38 = .ok (.iload_n 3, 1) := by decide +kernel
theorem dL_errors_39 : decode cL_errors 39 = .ok (.bipush 9, 2) := by decide +kernel
theorem dL_errors_41 : decode cL_errors 41 = .ok (.invokestatic 104, 3) := by decide +kernel
theorem dL_errors_44 : decode cL_errors 44 = .ok (.ldc2_w 36, 3) := by decide +kernel
theorem dL_errors_47 : decode cL_errors 47 = .ok (.lcmp, 1) := by decide +kernel
theorem dL_errors_48 : decode cL_errors 48 = .ok (.ifCond .ne 140, 3) := by decide +kernel
theorem dL_errors_51 : decode cL_errors 51 = .ok (.iload_n 3, 1) := by decide +kernel
theorem dL_errors_52 : decode cL_errors 52 = .ok (.ifCond .eq 80, 3) := by decide +kernel
theorem dL_errors_55 : decode cL_errors 55 = .ok (.aload_n 0, 1) := by decide +kernel
theorem dL_errors_56 : decode cL_errors 56 = .ok (.iconst 0, 1) := by decide +kernel
theorem dL_errors_57 : decode cL_errors 57 = .ok (.bipush 7, 2) := by decide +kernel
theorem dL_errors_59 : decode cL_errors 59 = .ok (.invokestatic 104, 3) := by decide +kernel
theorem dL_errors_62 : decode cL_errors 62 = .ok (.ldc2_w 17, 3) := by decide +kernel
theorem dL_errors_65 : decode cL_errors 65 = .ok (.lcmp, 1) := by decide +kernel
theorem dL_errors_66 : decode cL_errors 66 = .ok (.ifCond .ne 122, 3) := by decide +kernel
theorem dL_errors_69 : decode cL_errors 69 = .ok (.aload_n 0, 1) := by decide +kernel
theorem dL_errors_70 : decode cL_errors 70 = .ok (.iconst 0, 1) := by decide +kernel
theorem dL_errors_71 : decode cL_errors 71 = .ok (.iconst (-1), 1) := by decide +kernel
theorem dL_errors_72 : decode cL_errors 72 = .ok (.iconst 0, 1) := by decide +kernel
theorem dL_errors_73 : decode cL_errors 73 = .ok (.invokestatic 109, 3) := by decide +kernel
theorem dL_errors_76 : decode cL_errors 76 = .ok (.ldc2_w 17, 3) := by decide +kernel
theorem dL_errors_79 : decode cL_errors 79 = .ok (.lcmp, 1) := by decide +kernel
theorem dL_errors_80 : decode cL_errors 80 = .ok (.ifCond .ne 108, 3) := by decide +kernel
theorem dL_errors_83 : decode cL_errors 83 = .ok (.aload_n 0, 1) := by decide +kernel
theorem dL_errors_84 : decode cL_errors 84 = .ok (.iconst 0, 1) := by decide +kernel
theorem dL_errors_85 : decode cL_errors 85 = .ok (.aload_n 0, 1) := by decide +kernel
theorem dL_errors_86 : decode cL_errors 86 = .ok (.iconst 0, 1) := by decide +kernel
theorem dL_errors_87 : decode cL_errors 87 = .ok (.iconst 1, 1) := by decide +kernel
theorem dL_errors_88 : decode cL_errors 88 = .ok (.invokestatic 104, 3) := by decide +kernel
theorem dL_errors_91 : decode cL_errors 91 = .ok (.l2i, 1) := by decide +kernel
theorem dL_errors_92 : decode cL_errors 92 = .ok (.iconst 1, 1) := by decide +kernel
theorem dL_errors_93 : decode cL_errors 93 = .ok (.iadd, 1) := by decide +kernel
theorem dL_errors_94 : decode cL_errors 94 = .ok (.iconst 0, 1) := by decide +kernel
theorem dL_errors_95 : decode cL_errors 95 = .ok (.invokestatic 109, 3) := by decide +kernel
theorem dL_errors_98 : decode cL_errors 98 = .ok (.ldc2_w 17, 3) := by decide +kernel
theorem dL_errors_101 : decode cL_errors 101 = .ok (.lcmp, 1) := by decide +kernel
theorem dL_errors_102 : decode cL_errors 102 = .ok (.ifCond .ne 86, 3) := by decide +kernel
theorem dL_errors_105 : decode cL_errors 105 = .ok (.aload_n 0, 1) := by decide +kernel
theorem dL_errors_106 : decode cL_errors 106 = .ok (.iconst 0, 1) := by decide +kernel
theorem dL_errors_107 : decode cL_errors 107 = .ok (.iconst 0, 1) := by decide +kernel
theorem dL_errors_108 : decode cL_errors 108 = .ok (.iconst (-1), 1) := by decide +kernel
theorem dL_errors_109 : decode cL_errors 109 = .ok (.invokestatic 109, 3) := by decide +kernel
theorem dL_errors_112 : decode cL_errors 112 = .ok (.ldc2_w 17, 3) := by decide +kernel
theorem dL_errors_115 : decode cL_errors 115 = .ok (.lcmp, 1) := by decide +kernel
theorem dL_errors_116 : decode cL_errors 116 = .ok (.ifCond .ne 72, 3) := by decide +kernel
theorem dL_errors_119 : decode cL_errors 119 = .ok (.aload_n 0, 1) := by decide +kernel
theorem dL_errors_120 : decode cL_errors 120 = .ok (.iconst 0, 1) := by decide +kernel
theorem dL_errors_121 : decode cL_errors 121 = .ok (.iconst (-1), 1) := by decide +kernel
theorem dL_errors_122 : decode cL_errors 122 = .ok (.invokestatic 107, 3) := by decide +kernel
theorem dL_errors_125 : decode cL_errors 125 = .ok (.ldc2_w 17, 3) := by decide +kernel
theorem dL_errors_128 : decode cL_errors 128 = .ok (.lcmp, 1) := by decide +kernel
theorem dL_errors_129 : decode cL_errors 129 = .ok (.ifCond .ne 59, 3) := by decide +kernel
theorem dL_errors_132 : decode cL_errors 132 = .ok (.aload_n 0, 1) := by decide +kernel
theorem dL_errors_133 : decode cL_errors 133 = .ok (.iload_n 3, 1) := by decide +kernel
theorem dL_errors_134 : decode cL_errors 134 = .ok (.bipush 9, 2) := by decide +kernel
theorem dL_errors_136 : decode cL_errors 136 = .ok (.iconst 0, 1) := by decide +kernel
theorem dL_errors_137 : decode cL_errors 137 = .ok (.invokestatic 109, 3) := by decide +kernel
theorem dL_errors_140 : decode cL_errors 140 = .ok (.ldc2_w 36, 3) := by decide +kernel
theorem dL_errors_143 : decode cL_errors 143 = .ok (.lcmp, 1) := by decide +kernel
theorem dL_errors_144 : decode cL_errors 144 = .ok (.ifCond .ne 44, 3) := by decide +kernel
theorem dL_errors_147 : decode cL_errors 147 = .ok (.aload_n 0, 1) := by decide +kernel
theorem dL_errors_148 : decode cL_errors 148 = .ok (.iconst (-1), 1) := by decide +kernel
theorem dL_errors_149 : decode cL_errors 149 = .ok (.iconst (-1), 1) := by decide +kernel
theorem dL_errors_150 : decode cL_errors 150 = .ok (.invokestatic 107, 3) := by decide +kernel
theorem dL_errors_153 : decode cL_errors 153 = .ok (.ldc2_w 36, 3) := by decide +kernel
theorem dL_errors_156 : decode cL_errors 156 = .ok (.lcmp, 1) := by decide +kernel
theorem dL_errors_157 : decode cL_errors 157 = .ok (.ifCond .ne 31, 3) := by decide +kernel
theorem dL_errors_160 : decode cL_errors 160 = .ok (.aload_n 0, 1) := by decide +kernel
theorem dL_errors_161 : decode cL_errors 161 = .ok (.iconst (-1), 1) := by decide +kernel
theorem dL_errors_162 : decode cL_errors 162 = .ok (.invokestatic 118, 3) := by decide +kernel
theorem dL_errors_165 : decode cL_errors 165 = .ok (.ldc2_w 17, 3) := by decide +kernel
theorem dL_errors_168 : decode cL_errors 168 = .ok (.lcmp, 1) := by decide +kernel
theorem dL_errors_169 : decode cL_errors 169 = .ok (.ifCond .ne 19, 3) := by decide +kernel
theorem dL_errors_172 : decode cL_errors 172 = .ok (.aload_n 0, 1) := by decide +kernel
theorem dL_errors_173 : decode cL_errors 173 = .ok (.iconst 3, 1) := by decide +kernel
theorem dL_errors_174 : decode cL_errors 174 = .ok (.invokestatic 112, 3) := by decide +kernel
theorem dL_errors_177 : decode cL_errors 177 = .ok (.ldc2_w 17, 3) := by decide +kernel
theorem dL_errors_180 : decode cL_errors 180 = .ok (.lcmp, 1) := by decide +kernel
theorem dL_errors_181 : decode cL_errors 181 = .ok (.ifCond .ne 7, 3) := by decide +kernel
theorem dL_errors_184 : decode cL_errors 184 = .ok (.iconst 1, 1) := by decide +kernel
theorem dL_errors_185 : decode cL_errors 185 = .ok (.goto 4, 3) := by decide +kernel
theorem dL_errors_188 : decode cL_errors 188 = .ok (.iconst 0, 1) := by decide +kernel
theorem dL_errors_189 : decode cL_errors 189 = .ok (.istore 4, 2) := by decide +kernel
theorem dL_errors_191 : decode cL_errors 191 = .ok (.iload 4, 2) := by decide +kernel
theorem dL_errors_193 : decode cL_errors 193 = .ok (.ifCond .eq 140, 3) := by decide +kernel
theorem dL_errors_196 : decode cL_errors 196 = .ok (.aload_n 0, 1) := by decide +kernel
theorem dL_errors_197 : decode cL_errors 197 = .ok (.iload_n 3, 1) := by decide +kernel
theorem dL_errors_198 : decode cL_errors 198 = .ok (.invokestatic 120, 3) := by decide +kernel
theorem dL_errors_201 : decode cL_errors 201 = .ok (.ldc2_w 36, 3) := by decide +kernel
theorem dL_errors_204 : decode cL_errors 204 = .ok (.lcmp, 1) := by decide +kernel
theorem dL_errors_205 : decode cL_errors 205 = .ok (.ifCond .ne 128, 3) := by decide +kernel
theorem dL_errors_208 : decode cL_errors 208 = .ok (.aload_n 0, 1) := by decide +kernel
theorem dL_errors_209 : decode cL_errors 209 = .ok (.iload_n 3, 1) := by decide +kernel
theorem dL_errors_210 : decode cL_errors 210 = .ok (.iconst 0, 1) := by decide +kernel
theorem dL_errors_211 : decode cL_errors 211 = .ok (.invokestatic 122, 3) := by decide +kernel
theorem dL_errors_214 : decode cL_errors 214 = .ok (.ldc2_w 36, 3) := by decide +kernel
theorem dL_errors_217 : decode cL_errors 217 = .ok (.lcmp, 1) := by decide +kernel
theorem dL_errors_218 : decode cL_errors 218 = .ok (.ifCond .ne 115, 3) := by decide +kernel
theorem dL_errors_221 : decode cL_errors 221 = .ok (.iload_n 3, 1) := by decide +kernel
theorem dL_errors_222 : decode cL_errors 222 = .ok (.ifCond .eq 35, 3) := by decide +kernel
theorem dL_errors_225 : decode cL_errors 225 = .ok (.aload_n 0, 1) := by decide +kernel
theorem dL_errors_226 : decode cL_errors 226 = .ok (.iconst 0, 1) := by decide +kernel
theorem dL_errors_227 : decode cL_errors 227 = .ok (.sipush 999, 3) := by decide +kernel
theorem dL_errors_230 : decode cL_errors 230 = .ok (.invokestatic 122, 3) := by decide +kernel
theorem dL_errors_233 : decode cL_errors 233 = .ok (.ldc2_w 17, 3) := by decide +kernel
theorem dL_errors_236 : decode cL_errors 236 = .ok (.lcmp, 1) := by decide +kernel
theorem dL_errors_237 : decode cL_errors 237 = .ok (.ifCond .ne 96, 3) := by decide +kernel
theorem dL_errors_240 : decode cL_errors 240 = .ok (.aload_n 0, 1) := by decide +kernel
theorem dL_errors_241 : decode cL_errors 241 = .ok (.iload_n 3, 1) := by decide +kernel
theorem dL_errors_242 : decode cL_errors 242 = .ok (.iconst 1, 1) := by decide +kernel
theorem dL_errors_243 : decode cL_errors 243 = .ok (.isub, 1) := by decide +kernel
theorem dL_errors_244 : decode cL_errors 244 = .ok (.sipush 3000, 3) := by decide +kernel
theorem dL_errors_247 : decode cL_errors 247 = .ok (.invokestatic 122, 3) := by decide +kernel
theorem dL_errors_250 : decode cL_errors 250 = .ok (.ldc2_w 17, 3) := by decide +kernel
theorem dL_errors_253 : decode cL_errors 253 = .ok (.lcmp, 1) := by decide +kernel
theorem dL_errors_254 : decode cL_errors 254 = .ok (.ifCond .ne 79, 3) := by decide +kernel
theorem dL_errors_257 : decode cL_errors 257 = .ok (.aload_n 0, 1) := by decide +kernel
theorem dL_errors_258 : decode cL_errors 258 = .ok (.iconst (-1), 1) := by decide +kernel
theorem dL_errors_259 : decode cL_errors 259 = .ok (.invokestatic 124, 3) := by decide +kernel
theorem dL_errors_262 : decode cL_errors 262 = .ok (.ldc2_w 36, 3) := by decide +kernel
theorem dL_errors_265 : decode cL_errors 265 = .ok (.lcmp, 1) := by decide +kernel
theorem dL_errors_266 : decode cL_errors 266 = .ok (.ifCond .ne 67, 3) := by decide +kernel
theorem dL_errors_269 : decode cL_errors 269 = .ok (.aload_n 0, 1) := by decide +kernel
theorem dL_errors_270 : decode cL_errors 270 = .ok (.iconst 4, 1) := by decide +kernel
theorem dL_errors_271 : decode cL_errors 271 = .ok (.invokestatic 126, 3) := by decide +kernel
theorem dL_errors_274 : decode cL_errors 274 = .ok (.ldc2_w 17, 3) := by decide +kernel
theorem dL_errors_277 : decode cL_errors 277 = .ok (.lcmp, 1) := by decide +kernel
theorem dL_errors_278 : decode cL_errors 278 = .ok (.ifCond .ne 55, 3) := by decide +kernel
theorem dL_errors_281 : decode cL_errors 281 = .ok (.aload_n 0, 1) := by decide +kernel
theorem dL_errors_282 : decode cL_errors 282 = .ok (.iconst (-1), 1) := by decide +kernel
theorem dL_errors_283 : decode cL_errors 283 = .ok (.invokestatic 128, 3) := by decide +kernel
theorem dL_errors_286 : decode cL_errors 286 = .ok (.ldc2_w 17, 3) := by decide +kernel
theorem dL_errors_289 : decode cL_errors 289 = .ok (.lcmp, 1) := by decide +kernel
theorem dL_errors_290 : decode cL_errors 290 = .ok (.ifCond .ne 43, 3) := by decide +kernel
theorem dL_errors_293 : decode cL_errors 293 = .ok (.aload_n 0, 1) := by decide +kernel
theorem dL_errors_294 : decode cL_errors 294 = .ok (.iload_n 3, 1) := by decide +kernel
theorem dL_errors_295 : decode cL_errors 295 = .ok (.invokestatic 130, 3) := by decide +kernel
theorem dL_errors_298 : decode cL_errors 298 = .ok (.ldc2_w 36, 3) := by decide +kernel
theorem dL_errors_301 : decode cL_errors 301 = .ok (.lcmp, 1) := by decide +kernel
theorem dL_errors_302 : decode cL_errors 302 = .ok (.ifCond .ne 31, 3) := by decide +kernel
theorem dL_errors_305 : decode cL_errors 305 = .ok (.aload_n 0, 1) := by decide +kernel
theorem dL_errors_306 : decode cL_errors 306 = .ok (.iconst (-1), 1) := by decide +kernel
theorem dL_errors_307 : decode cL_errors 307 = .ok (.invokestatic 132, 3) := by decide +kernel
theorem dL_errors_310 : decode cL_errors 310 = .ok (.ldc2_w 36, 3) := by decide +kernel
theorem dL_errors_313 : decode cL_errors 313 = .ok (.lcmp, 1) := by decide +kernel
theorem dL_errors_314 : decode cL_errors 314 = .ok (.ifCond .ne 19, 3) := by decide +kernel
theorem dL_errors_317 : decode cL_errors 317 = .ok (.aload_n 0, 1) := by decide +kernel
theorem dL_errors_318 : decode cL_errors 318 = .ok (.iconst 4, 1) := by decide +kernel
theorem dL_errors_319 : decode cL_errors 319 = .ok (.invokestatic 134, 3) := by decide +kernel
theorem dL_errors_322 : decode cL_errors 322 = .ok (.ldc2_w 17, 3) := by decide +kernel
theorem dL_errors_325 : decode cL_errors 325 = .ok (.lcmp, 1) := by decide +kernel
theorem dL_errors_326 : decode cL_errors 326 = .ok (.ifCond .ne 7, 3) := by decide +kernel
theorem dL_errors_329 : decode cL_errors 329 = .ok (.iconst 1, 1) := by decide +kernel
theorem dL_errors_330 : decode cL_errors 330 = .ok (.goto 4, 3) := by decide +kernel
theorem dL_errors_333 : decode cL_errors 333 = .ok (.iconst 0, 1) := by decide +kernel
theorem dL_errors_334 : decode cL_errors 334 = .ok (.istore 4, 2) := by decide +kernel
theorem dL_errors_336 : decode cL_errors 336 = .ok (.iload 4, 2) := by decide +kernel
theorem dL_errors_338 : decode cL_errors 338 = .ok (.ifCond .eq 157, 3) := by decide +kernel
theorem dL_errors_341 : decode cL_errors 341 = .ok (.aload_n 0, 1) := by decide +kernel
theorem dL_errors_342 : decode cL_errors 342 = .ok (.invokevirtual 136, 3) := by decide +kernel
theorem dL_errors_345 : decode cL_errors 345 = .ok (.bipush (-9), 2) := by decide +kernel
theorem dL_errors_347 : decode cL_errors 347 = .ok (.if_icmp .eq 41, 3) := by decide +kernel
theorem dL_errors_350 : decode cL_errors 350 = .ok (.aload_n 0, 1) := by decide +kernel
theorem dL_errors_351 : decode cL_errors 351 = .ok (.invokestatic 139, 3) := by decide +kernel
theorem dL_errors_354 : decode cL_errors 354 = .ok (.ldc2_w 21, 3) := by decide +kernel
theorem dL_errors_357 : decode cL_errors 357 = .ok (.lcmp, 1) := by decide +kernel
theorem dL_errors_358 : decode cL_errors 358 = .ok (.ifCond .ne 137, 3) := by decide +kernel
theorem dL_errors_361 : decode cL_errors 361 = .ok (.aload_n 0, 1) := by decide +kernel
theorem dL_errors_362 : decode cL_errors 362 = .ok (.invokestatic 141, 3) := by decide +kernel
theorem dL_errors_365 : decode cL_errors 365 = .ok (.ldc2_w 21, 3) := by decide +kernel
theorem dL_errors_368 : decode cL_errors 368 = .ok (.lcmp, 1) := by decide +kernel
theorem dL_errors_369 : decode cL_errors 369 = .ok (.ifCond .ne 126, 3) := by decide +kernel
theorem dL_errors_372 : decode cL_errors 372 = .ok (.iload_n 3, 1) := by decide +kernel
theorem dL_errors_373 : decode cL_errors 373 = .ok (.ifCond .eq 15, 3) := by decide +kernel
theorem dL_errors_376 : decode cL_errors 376 = .ok (.aload_n 0, 1) := by decide +kernel
theorem dL_errors_377 : decode cL_errors 377 = .ok (.iconst 0, 1) := by decide +kernel
theorem dL_errors_378 : decode cL_errors 378 = .ok (.invokestatic 120, 3) := by decide +kernel
theorem dL_errors_381 : decode cL_errors 381 = .ok (.ldc2_w 21, 3) := by decide +kernel
theorem dL_errors_384 : decode cL_errors 384 = .ok (.lcmp, 1) := by decide +kernel
theorem dL_errors_385 : decode cL_errors 385 = .ok (.ifCond .ne 110, 3) := by decide +kernel
theorem dL_errors_388 : decode cL_errors 388 = .ok (.iload_n 3, 1) := by decide +kernel
theorem dL_errors_389 : decode cL_errors 389 = .ok (.bipush 16, 2) := by decide +kernel
theorem dL_errors_391 : decode cL_errors 391 = .ok (.if_icmp .lt 14, 3) := by decide +kernel
theorem dL_errors_394 : decode cL_errors 394 = .ok (.aload_n 0, 1) := by decide +kernel
theorem dL_errors_395 : decode cL_errors 395 = .ok (.invokestatic 141, 3) := by decide +kernel
theorem dL_errors_398 : decode cL_errors 398 = .ok (.ldc2_w 21, 3) := by decide +kernel
theorem dL_errors_401 : decode cL_errors 401 = .ok (.lcmp, 1) := by decide +kernel
theorem dL_errors_402 : decode cL_errors 402 = .ok (.ifCond .ne 93, 3) := by decide +kernel
theorem dL_errors_405 : decode cL_errors 405 = .ok (.aload_n 0, 1) := by decide +kernel
theorem dL_errors_406 : decode cL_errors 406 = .ok (.iconst 0, 1) := by decide +kernel
theorem dL_errors_407 : decode cL_errors 407 = .ok (.lconst 0, 1) := by decide +kernel
theorem dL_errors_408 : decode cL_errors 408 = .ok (.invokestatic 143, 3) := by decide +kernel
theorem dL_errors_411 : decode cL_errors 411 = .ok (.ldc2_w 17, 3) := by decide +kernel
theorem dL_errors_414 : decode cL_errors 414 = .ok (.lcmp, 1) := by decide +kernel
theorem dL_errors_415 : decode cL_errors 415 = .ok (.ifCond .ne 80, 3) := by decide +kernel
theorem dL_errors_418 : decode cL_errors 418 = .ok (.aload_n 0, 1) := by decide +kernel
theorem dL_errors_419 : decode cL_errors 419 = .ok (.iconst 4, 1) := by decide +kernel
theorem dL_errors_420 : decode cL_errors 420 = .ok (.ldc2_w 147, 3) := by decide +kernel
theorem dL_errors_423 : decode cL_errors 423 = .ok (.invokestatic 143, 3) := by decide +kernel
theorem dL_errors_426 : decode cL_errors 426 = .ok (.ldc2_w 17, 3) := by decide +kernel
theorem dL_errors_429 : decode cL_errors 429 = .ok (.lcmp, 1) := by decide +kernel
theorem dL_errors_430 : decode cL_errors 430 = .ok (.ifCond .ne 65, 3) := by decide +kernel
theorem dL_errors_433 : decode cL_errors 433 = .ok (.aload_n 0, 1) := by decide +kernel
theorem dL_errors_434 : decode cL_errors 434 = .ok (.lconst 1, 1) := by decide +kernel
theorem dL_errors_435 : decode cL_errors 435 = .ok (.iconst 0, 1) := by decide +kernel
theorem dL_errors_436 : decode cL_errors 436 = .ok (.invokestatic 149, 3) := by decide +kernel
theorem dL_errors_439 : decode cL_errors 439 = .ok (.ldc2_w 17, 3) := by decide +kernel
theorem dL_errors_442 : decode cL_errors 442 = .ok (.lcmp, 1) := by decide +kernel
theorem dL_errors_443 : decode cL_errors 443 = .ok (.ifCond .ne 52, 3) := by decide +kernel
theorem dL_errors_446 : decode cL_errors 446 = .ok (.aload_n 0, 1) := by decide +kernel
theorem dL_errors_447 : decode cL_errors 447 = .ok (.iconst 2, 1) := by decide +kernel
theorem dL_errors_448 : decode cL_errors 448 = .ok (.invokestatic 152, 3) := by decide +kernel
theorem dL_errors_451 : decode cL_errors 451 = .ok (.ldc2_w 36, 3) := by decide +kernel
theorem dL_errors_454 : decode cL_errors 454 = .ok (.lcmp, 1) := by decide +kernel
theorem dL_errors_455 : decode cL_errors 455 = .ok (.ifCond .ne 40, 3) := by decide +kernel
theorem dL_errors_458 : decode cL_errors 458 = .ok (.aload_n 0, 1) := by decide +kernel
theorem dL_errors_459 : decode cL_errors 459 = .ok (.iconst 2, 1) := by decide +kernel
theorem dL_errors_460 : decode cL_errors 460 = .ok (.invokestatic 154, 3) := by decide +kernel
theorem dL_errors_463 : decode cL_errors 463 = .ok (.ldc2_w 36, 3) := by decide +kernel
theorem dL_errors_466 : decode cL_errors 466 = .ok (.lcmp, 1) := by decide +kernel
theorem dL_errors_467 : decode cL_errors 467 = .ok (.ifCond .ne 28, 3) := by decide +kernel
theorem dL_errors_470 : decode cL_errors 470 = .ok (.aload_n 0, 1) := by decide +kernel
theorem dL_errors_471 : decode cL_errors 471 = .ok (.iconst (-1), 1) := by decide +kernel
theorem dL_errors_472 : decode cL_errors 472 = .ok (.invokestatic 156, 3) := by decide +kernel
theorem dL_errors_475 : decode cL_errors 475 = .ok (.ldc2_w 17, 3) := by decide +kernel
theorem dL_errors_478 : decode cL_errors 478 = .ok (.lcmp, 1) := by decide +kernel
theorem dL_errors_479 : decode cL_errors 479 = .ok (.ifCond .ne 16, 3) := by decide +kernel
theorem dL_errors_482 : decode cL_errors 482 = .ok (.aload_n 0, 1) := by decide +kernel
theorem dL_errors_483 : decode cL_errors 483 = .ok (.invokestatic 114, 3) := by decide +kernel
theorem dL_errors_486 : decode cL_errors 486 = .ok (.lload_n 1, 1) := by decide +kernel
theorem dL_errors_487 : decode cL_errors 487 = .ok (.lcmp, 1) := by decide +kernel
theorem dL_errors_488 : decode cL_errors 488 = .ok (.ifCond .ne 7, 3) := by decide +kernel
theorem dL_errors_491 : decode cL_errors 491 = .ok (.iconst 1, 1) := by decide +kernel
theorem dL_errors_492 : decode cL_errors 492 = .ok (.goto 4, 3) := by decide +kernel
theorem dL_errors_495 : decode cL_errors 495 = .ok (.iconst 0, 1) := by decide +kernel
theorem dL_errors_496 : decode cL_errors 496 = .ok (.ireturn, 1) := by decide +kernel
theorem dL_sameKey_0 : decode cL_sameKey 0 = .ok (.aload_n 0, 1) := by decide +kernel
theorem dL_sameKey_1 : decode cL_sameKey 1 = .ok (.iload_n 1, 1) := by decide +kernel
theorem dL_sameKey_2 : decode cL_sameKey 2 = .ok (.iconst 3, 1) := by decide +kernel
theorem dL_sameKey_3 : decode cL_sameKey 3 = .ok (.invokestatic 104, 3) := by decide +kernel
theorem dL_sameKey_6 : decode cL_sameKey 6 = .ok (.aload_n 0, 1) := by decide +kernel
theorem dL_sameKey_7 : decode cL_sameKey 7 = .ok (.iload_n 2, 1) := by decide +kernel
theorem dL_sameKey_8 : decode cL_sameKey 8 = .ok (.iconst 3, 1) := by decide +kernel
theorem dL_sameKey_9 : decode cL_sameKey 9 = .ok (.invokestatic 104, 3) := by decide +kernel
theorem dL_sameKey_12 : decode cL_sameKey 12 = .ok (.lcmp, 1) := by decide +kernel
theorem dL_sameKey_13 : decode cL_sameKey 13 = .ok (.ifCond .ne 7, 3) := by decide +kernel
theorem dL_sameKey_16 : decode cL_sameKey 16 = .ok (.iconst 1, 1) := by decide +kernel
theorem dL_sameKey_17 : decode cL_sameKey 17 = .ok (.goto 4, 3) := by decide +kernel
theorem dL_sameKey_20 : decode cL_sameKey 20 = .ok (.iconst 0, 1) := by decide +kernel
theorem dL_sameKey_21 : decode cL_sameKey 21 = .ok (.istore_n 3, 1) := by decide +kernel
theorem dL_sameKey_22 : decode cL_sameKey 22 = .ok (.iconst 0, 1) := by decide +kernel
theorem dL_sameKey_23 : decode cL_sameKey 23 = .ok (.istore 4, 2) := by decide +kernel
theorem dL_sameKey_25 : decode cL_sameKey 25 = .ok (.iload 4, 2) := by decide +kernel
theorem dL_sameKey_27 : decode cL_sameKey 27 = .ok (.i2l, 1) := by decide +kernel
theorem dL_sameKey_28 : decode cL_sameKey 28 = .ok (.aload_n 0, 1) := by decide +kernel
theorem dL_sameKey_29 : decode cL_sameKey 29 = .ok (.iload_n 1, 1) := by decide +kernel
theorem dL_sameKey_30 : decode cL_sameKey 30 = .ok (.iconst 3, 1) := by decide +kernel
theorem dL_sameKey_31 : decode cL_sameKey 31 = .ok (.invokestatic 104, 3) := by decide +kernel
theorem dL_sameKey_34 : decode cL_sameKey 34 = .ok (.lcmp, 1) := by decide +kernel
theorem dL_sameKey_35 : decode cL_sameKey 35 = .ok (.ifCond .ge 37, 3) := by decide +kernel
theorem dL_sameKey_38 : decode cL_sameKey 38 = .ok (.iload_n 3, 1) := by decide +kernel
theorem dL_sameKey_39 : decode cL_sameKey 39 = .ok (.ifCond .eq 33, 3) := by decide +kernel
theorem dL_sameKey_42 : decode cL_sameKey 42 = .ok (.aload_n 0, 1) := by decide +kernel
theorem dL_sameKey_43 : decode cL_sameKey 43 = .ok (.iload_n 1, 1) := by decide +kernel
theorem dL_sameKey_44 : decode cL_sameKey 44 = .ok (.iload 4, 2) := by decide +kernel
theorem dL_sameKey_46 : decode cL_sameKey 46 = .ok (.invokestatic 107, 3) := by decide +kernel
theorem dL_sameKey_49 : decode cL_sameKey 49 = .ok (.aload_n 0, 1) := by decide +kernel
theorem dL_sameKey_50 : decode cL_sameKey 50 = .ok (.iload_n 2, 1) := by decide +kernel
theorem dL_sameKey_51 : decode cL_sameKey 51 = .ok (.iload 4, 2) := by decide +kernel
theorem dL_sameKey_53 : decode cL_sameKey 53 = .ok (.invokestatic 107, 3) := by decide +kernel
theorem dL_sameKey_56 : decode cL_sameKey 56 = .ok (.lcmp, 1) := by decide +kernel
theorem dL_sameKey_57 : decode cL_sameKey 57 = .ok (.ifCond .ne 7, 3) := by decide +kernel
theorem dL_sameKey_60 : decode cL_sameKey 60 = .ok (.iconst 1, 1) := by decide +kernel
theorem dL_sameKey_61 : decode cL_sameKey 61 = .ok (.goto 4, 3) := by decide +kernel
theorem dL_sameKey_64 : decode cL_sameKey 64 = .ok (.iconst 0, 1) := by decide +kernel
theorem dL_sameKey_65 : decode cL_sameKey 65 = .ok (.istore_n 3, 1) := by decide +kernel
theorem dL_sameKey_66 : decode cL_sameKey 66 = .ok (.iinc 4 1, 3) := by decide +kernel
theorem dL_sameKey_69 : decode cL_sameKey 69 = .ok (.goto (-44), 3) := by decide +kernel
theorem dL_sameKey_72 : decode cL_sameKey 72 = .ok (.iload_n 3, 1) := by decide +kernel
theorem dL_sameKey_73 : decode cL_sameKey 73 = .ok (.ireturn, 1) := by decide +kernel
theorem dL_sameStem_0 : decode cL_sameStem 0 = .ok (.aload_n 0, 1) := by decide +kernel
theorem dL_sameStem_1 : decode cL_sameStem 1 = .ok (.iload_n 1, 1) := by decide +kernel
theorem dL_sameStem_2 : decode cL_sameStem 2 = .ok (.iconst 3, 1) := by decide +kernel
theorem dL_sameStem_3 : decode cL_sameStem 3 = .ok (.invokestatic 104, 3) := by decide +kernel
theorem dL_sameStem_6 : decode cL_sameStem 6 = .ok (.l2i, 1) := by decide +kernel
theorem dL_sameStem_7 : decode cL_sameStem 7 = .ok (.aload_n 0, 1) := by decide +kernel
theorem dL_sameStem_8 : decode cL_sameStem 8 = .ok (.iload_n 1, 1) := by decide +kernel
theorem dL_sameStem_9 : decode cL_sameStem 9 = .ok (.iconst 4, 1) := by decide +kernel
theorem dL_sameStem_10 : decode cL_sameStem 10 = .ok (.invokestatic 104, 3) := by decide +kernel
theorem dL_sameStem_13 : decode cL_sameStem 13 = .ok (.lconst 0, 1) := by decide +kernel
theorem dL_sameStem_14 : decode cL_sameStem 14 = .ok (.lcmp, 1) := by decide +kernel
theorem dL_sameStem_15 : decode cL_sameStem 15 = .ok (.ifCond .le 7, 3) := by decide +kernel
theorem dL_sameStem_18 : decode cL_sameStem 18 = .ok (.iconst 1, 1) := by decide +kernel
theorem dL_sameStem_19 : decode cL_sameStem 19 = .ok (.goto 4, 3) := by decide +kernel
theorem dL_sameStem_22 : decode cL_sameStem 22 = .ok (.iconst 0, 1) := by decide +kernel
theorem dL_sameStem_23 : decode cL_sameStem 23 = .ok (.isub, 1) := by decide +kernel
theorem dL_sameStem_24 : decode cL_sameStem 24 = .ok (.istore_n 3, 1) := by decide +kernel
theorem dL_sameStem_25 : decode cL_sameStem 25 = .ok (.iload_n 3, 1) := by decide +kernel
theorem dL_sameStem_26 : decode cL_sameStem 26 = .ok (.aload_n 0, 1) := by decide +kernel
theorem dL_sameStem_27 : decode cL_sameStem 27 = .ok (.iload_n 2, 1) := by decide +kernel
theorem dL_sameStem_28 : decode cL_sameStem 28 = .ok (.iconst 3, 1) := by decide +kernel
theorem dL_sameStem_29 : decode cL_sameStem 29 = .ok (.invokestatic 104, 3) := by decide +kernel
theorem dL_sameStem_32 : decode cL_sameStem 32 = .ok (.l2i, 1) := by decide +kernel
theorem dL_sameStem_33 : decode cL_sameStem 33 = .ok (.aload_n 0, 1) := by decide +kernel
theorem dL_sameStem_34 : decode cL_sameStem 34 = .ok (.iload_n 2, 1) := by decide +kernel
theorem dL_sameStem_35 : decode cL_sameStem 35 = .ok (.iconst 4, 1) := by decide +kernel
theorem dL_sameStem_36 : decode cL_sameStem 36 = .ok (.invokestatic 104, 3) := by decide +kernel
theorem dL_sameStem_39 : decode cL_sameStem 39 = .ok (.lconst 0, 1) := by decide +kernel
theorem dL_sameStem_40 : decode cL_sameStem 40 = .ok (.lcmp, 1) := by decide +kernel
theorem dL_sameStem_41 : decode cL_sameStem 41 = .ok (.ifCond .le 7, 3) := by decide +kernel
theorem dL_sameStem_44 : decode cL_sameStem 44 = .ok (.iconst 1, 1) := by decide +kernel
theorem dL_sameStem_45 : decode cL_sameStem 45 = .ok (.goto 4, 3) := by decide +kernel
theorem dL_sameStem_48 : decode cL_sameStem 48 = .ok (.iconst 0, 1) := by decide +kernel
theorem dL_sameStem_49 : decode cL_sameStem 49 = .ok (.isub, 1) := by decide +kernel
theorem dL_sameStem_50 : decode cL_sameStem 50 = .ok (.if_icmp .ne 7, 3) := by decide +kernel
theorem dL_sameStem_53 : decode cL_sameStem 53 = .ok (.iconst 1, 1) := by decide +kernel
theorem dL_sameStem_54 : decode cL_sameStem 54 = .ok (.goto 4, 3) := by decide +kernel
theorem dL_sameStem_57 : decode cL_sameStem 57 = .ok (.iconst 0, 1) := by decide +kernel
theorem dL_sameStem_58 : decode cL_sameStem 58 = .ok (.istore 4, 2) := by decide +kernel
theorem dL_sameStem_60 : decode cL_sameStem 60 = .ok (.iconst 0, 1) := by decide +kernel
theorem dL_sameStem_61 : decode cL_sameStem 61 = .ok (.istore 5, 2) := by decide +kernel
theorem dL_sameStem_63 : decode cL_sameStem 63 = .ok (.iload 5, 2) := by decide +kernel
theorem dL_sameStem_65 : decode cL_sameStem 65 = .ok (.iload_n 3, 1) := by decide +kernel
theorem dL_sameStem_66 : decode cL_sameStem 66 = .ok (.if_icmp .ge 39, 3) := by decide +kernel
theorem dL_sameStem_69 : decode cL_sameStem 69 = .ok (.iload 4, 2) := by decide +kernel
theorem dL_sameStem_71 : decode cL_sameStem 71 = .ok (.ifCond .eq 34, 3) := by decide +kernel
theorem dL_sameStem_74 : decode cL_sameStem 74 = .ok (.aload_n 0, 1) := by decide +kernel
theorem dL_sameStem_75 : decode cL_sameStem 75 = .ok (.iload_n 1, 1) := by decide +kernel
theorem dL_sameStem_76 : decode cL_sameStem 76 = .ok (.iload 5, 2) := by decide +kernel
theorem dL_sameStem_78 : decode cL_sameStem 78 = .ok (.invokestatic 107, 3) := by decide +kernel
theorem dL_sameStem_81 : decode cL_sameStem 81 = .ok (.aload_n 0, 1) := by decide +kernel
theorem dL_sameStem_82 : decode cL_sameStem 82 = .ok (.iload_n 2, 1) := by decide +kernel
theorem dL_sameStem_83 : decode cL_sameStem 83 = .ok (.iload 5, 2) := by decide +kernel
theorem dL_sameStem_85 : decode cL_sameStem 85 = .ok (.invokestatic 107, 3) := by decide +kernel
theorem dL_sameStem_88 : decode cL_sameStem 88 = .ok (.lcmp, 1) := by decide +kernel
theorem dL_sameStem_89 : decode cL_sameStem 89 = .ok (.ifCond .ne 7, 3) := by decide +kernel
theorem dL_sameStem_92 : decode cL_sameStem 92 = .ok (.iconst 1, 1) := by decide +kernel
theorem dL_sameStem_93 : decode cL_sameStem 93 = .ok (.goto 4, 3) := by decide +kernel
theorem dL_sameStem_96 : decode cL_sameStem 96 = .ok (.iconst 0, 1) := by decide +kernel
theorem dL_sameStem_97 : decode cL_sameStem 97 = .ok (.istore 4, 2) := by decide +kernel
theorem dL_sameStem_99 : decode cL_sameStem 99 = .ok (.iinc 5 1, 3) := by decide +kernel
theorem dL_sameStem_102 : decode cL_sameStem 102 = .ok (.goto (-39), 3) := by decide +kernel
theorem dL_sameStem_105 : decode cL_sameStem 105 = .ok (.iload 4, 2) := by decide +kernel
theorem dL_sameStem_107 : decode cL_sameStem 107 = .ok (.ireturn, 1) := by decide +kernel
theorem dL_names_0 : decode cL_names 0 = .ok (.iconst 0, 1) := by decide +kernel
theorem dL_names_1 : decode cL_names 1 = .ok (.istore 5, 2) := by decide +kernel
theorem dL_names_3 : decode cL_names 3 = .ok (.iload 5, 2) := by decide +kernel
theorem dL_names_5 : decode cL_names 5 = .ok (.bipush 8, 2) := by decide +kernel
theorem dL_names_7 : decode cL_names 7 = .ok (.if_icmp .ge 52, 3) := by decide +kernel
theorem dL_names_10 : decode cL_names 10 = .ok (.aload_n 0, 1) := by decide +kernel
theorem dL_names_11 : decode cL_names 11 = .ok (.iload_n 1, 1) := by decide +kernel
theorem dL_names_12 : decode cL_names 12 = .ok (.iload_n 2, 1) := by decide +kernel
theorem dL_names_13 : decode cL_names 13 = .ok (.iload 5, 2) := by decide +kernel
theorem dL_names_15 : decode cL_names 15 = .ok (.invokestatic 109, 3) := by decide +kernel
theorem dL_names_18 : decode cL_names 18 = .ok (.lstore 6, 2) := by decide +kernel
theorem dL_names_20 : decode cL_names 20 = .ok (.aload_n 0, 1) := by decide +kernel
theorem dL_names_21 : decode cL_names 21 = .ok (.iload_n 3, 1) := by decide +kernel
theorem dL_names_22 : decode cL_names 22 = .ok (.iload 4, 2) := by decide +kernel
theorem dL_names_24 : decode cL_names 24 = .ok (.iload 5, 2) := by decide +kernel
theorem dL_names_26 : decode cL_names 26 = .ok (.invokestatic 109, 3) := by decide +kernel
theorem dL_names_29 : decode cL_names 29 = .ok (.lstore 8, 2) := by decide +kernel
theorem dL_names_31 : decode cL_names 31 = .ok (.lload 6, 2) := by decide +kernel
theorem dL_names_33 : decode cL_names 33 = .ok (.lload 8, 2) := by decide +kernel
theorem dL_names_35 : decode cL_names 35 = .ok (.lcmp, 1) := by decide +kernel
theorem dL_names_36 : decode cL_names 36 = .ok (.ifCond .eq 17, 3) := by decide +kernel
theorem dL_names_39 : decode cL_names 39 = .ok (.lload 6, 2) := by decide +kernel
theorem dL_names_41 : decode cL_names 41 = .ok (.lload 8, 2) := by decide +kernel
theorem dL_names_43 : decode cL_names 43 = .ok (.lcmp, 1) := by decide +kernel
theorem dL_names_44 : decode cL_names 44 = .ok (.ifCond .ge 7, 3) := by decide +kernel
theorem dL_names_47 : decode cL_names 47 = .ok (.iconst (-1), 1) := by decide +kernel
theorem dL_names_48 : decode cL_names 48 = .ok (.goto 4, 3) := by decide +kernel
theorem dL_names_51 : decode cL_names 51 = .ok (.iconst 1, 1) := by decide +kernel
theorem dL_names_52 : decode cL_names 52 = .ok (.ireturn, 1) := by decide +kernel
theorem dL_names_53 : decode cL_names 53 = .ok (.iinc 5 1, 3) := by decide +kernel
theorem dL_names_56 : decode cL_names 56 = .ok (.goto (-53), 3) := by decide +kernel
theorem dL_names_59 : decode cL_names 59 = .ok (.iconst 0, 1) := by decide +kernel
theorem dL_names_60 : decode cL_names 60 = .ok (.ireturn, 1) := by decide +kernel
theorem dL_authors_0 : decode cL_authors 0 = .ok (.aload_n 0, 1) := by decide +kernel
theorem dL_authors_1 : decode cL_authors 1 = .ok (.iload_n 1, 1) := by decide +kernel
theorem dL_authors_2 : decode cL_authors 2 = .ok (.iconst 1, 1) := by decide +kernel
theorem dL_authors_3 : decode cL_authors 3 = .ok (.invokestatic 104, 3) := by decide +kernel
theorem dL_authors_6 : decode cL_authors 6 = .ok (.l2i, 1) := by decide +kernel
theorem dL_authors_7 : decode cL_authors 7 = .ok (.istore_n 3, 1) := by decide +kernel
theorem dL_authors_8 : decode cL_authors 8 = .ok (.aload_n 0, 1) := by decide +kernel
theorem dL_authors_9 : decode cL_authors 9 = .ok (.iload_n 2, 1) := by decide +kernel
theorem dL_authors_10 : decode cL_authors 10 = .ok (.iconst 1, 1) := by decide +kernel
theorem dL_authors_11 : decode cL_authors 11 = .ok (.invokestatic 104, 3) := by decide +kernel
theorem dL_authors_14 : decode cL_authors 14 = .ok (.l2i, 1) := by decide +kernel
theorem dL_authors_15 : decode cL_authors 15 = .ok (.istore 4, 2) := by decide +kernel
theorem dL_authors_17 : decode cL_authors 17 = .ok (.iconst 0, 1) := by decide +kernel
theorem dL_authors_18 : decode cL_authors 18 = .ok (.istore 5, 2) := by decide +kernel
theorem dL_authors_20 : decode cL_authors 20 = .ok (.iload 5, 2) := by decide +kernel
theorem dL_authors_22 : decode cL_authors 22 = .ok (.iload_n 3, 1) := by decide +kernel
theorem dL_authors_23 : decode cL_authors 23 = .ok (.if_icmp .ge 36, 3) := by decide +kernel
theorem dL_authors_26 : decode cL_authors 26 = .ok (.iload 5, 2) := by decide +kernel
theorem dL_authors_28 : decode cL_authors 28 = .ok (.iload 4, 2) := by decide +kernel
theorem dL_authors_30 : decode cL_authors 30 = .ok (.if_icmp .ge 29, 3) := by decide +kernel
theorem dL_authors_33 : decode cL_authors 33 = .ok (.aload_n 0, 1) := by decide +kernel
theorem dL_authors_34 : decode cL_authors 34 = .ok (.iload_n 1, 1) := by decide +kernel
theorem dL_authors_35 : decode cL_authors 35 = .ok (.iload 5, 2) := by decide +kernel
theorem dL_authors_37 : decode cL_authors 37 = .ok (.iload_n 2, 1) := by decide +kernel
theorem dL_authors_38 : decode cL_authors 38 = .ok (.iload 5, 2) := by decide +kernel
theorem dL_authors_40 : decode cL_authors 40 = .ok (.invokestatic 158, 3) := by decide +kernel
theorem dL_authors_43 : decode cL_authors 43 = .ok (.istore 6, 2) := by decide +kernel
theorem dL_authors_45 : decode cL_authors 45 = .ok (.iload 6, 2) := by decide +kernel
theorem dL_authors_47 : decode cL_authors 47 = .ok (.ifCond .eq 6, 3) := by decide +kernel
theorem dL_authors_50 : decode cL_authors 50 = .ok (.iload 6, 2) := by decide +kernel
theorem dL_authors_52 : decode cL_authors 52 = .ok (.ireturn, 1) := by decide +kernel
theorem dL_authors_53 : decode cL_authors 53 = .ok (.iinc 5 1, 3) := by decide +kernel
theorem dL_authors_56 : decode cL_authors 56 = .ok (.goto (-36), 3) := by decide +kernel
theorem dL_authors_59 : decode cL_authors 59 = .ok (.iload_n 3, 1) := by decide +kernel
theorem dL_authors_60 : decode cL_authors 60 = .ok (.iload 4, 2) := by decide +kernel
theorem dL_authors_62 : decode cL_authors 62 = .ok (.isub, 1) := by decide +kernel
theorem dL_authors_63 : decode cL_authors 63 = .ok (.ireturn, 1) := by decide +kernel
theorem dL_kept_0 : decode cL_kept 0 = .ok (.aload_n 0, 1) := by decide +kernel
theorem dL_kept_1 : decode cL_kept 1 = .ok (.iconst 0, 1) := by decide +kernel
theorem dL_kept_2 : decode cL_kept 2 = .ok (.invokestatic 99, 3) := by decide +kernel
theorem dL_kept_5 : decode cL_kept 5 = .ok (.l2i, 1) := by decide +kernel
theorem dL_kept_6 : decode cL_kept 6 = .ok (.istore_n 1, 1) := by decide +kernel
theorem dL_kept_7 : decode cL_kept 7 = .ok (.aload_n 0, 1) := by decide +kernel
theorem dL_kept_8 : decode cL_kept 8 = .ok (.iconst 2, 1) := by decide +kernel
theorem dL_kept_9 : decode cL_kept 9 = .ok (.invokestatic 99, 3) := by decide +kernel
theorem dL_kept_12 : decode cL_kept 12 = .ok (.l2i, 1) := by decide +kernel
theorem dL_kept_13 : decode cL_kept 13 = .ok (.istore_n 2, 1) := by decide +kernel
theorem dL_kept_14 : decode cL_kept 14 = .ok (.iload_n 1, 1) := by decide +kernel
theorem dL_kept_15 : decode cL_kept 15 = .ok (.i2l, 1) := by decide +kernel
theorem dL_kept_16 : decode cL_kept 16 = .ok (.lconst 0, 1) := by decide +kernel
theorem dL_kept_17 : decode cL_kept 17 = .ok (.ldc2_w 162, 3) := by decide +kernel
theorem dL_kept_20 : decode cL_kept 20 = .ok (.invokestatic 164, 3) := by decide +kernel
theorem dL_kept_23 : decode cL_kept 23 = .ok (.ifCond .eq 19, 3) := by decide +kernel
theorem dL_kept_26 : decode cL_kept 26 = .ok (.aload_n 0, 1) := by decide +kernel
theorem dL_kept_27 : decode cL_kept 27 = .ok (.iload_n 1, 1) := by decide +kernel
theorem dL_kept_28 : decode cL_kept 28 = .ok (.invokestatic 118, 3) := by decide +kernel
theorem dL_kept_31 : decode cL_kept 31 = .ok (.ldc2_w 168, 3) := by decide +kernel
theorem dL_kept_34 : decode cL_kept 34 = .ok (.lcmp, 1) := by decide +kernel
theorem dL_kept_35 : decode cL_kept 35 = .ok (.ifCond .ne 7, 3) := by decide +kernel
theorem dL_kept_38 : decode cL_kept 38 = .ok (.iconst 1, 1) := by decide +kernel
theorem dL_kept_39 : decode cL_kept 39 = .ok (.goto 4, 3) := by decide +kernel
theorem dL_kept_42 : decode cL_kept 42 = .ok (.iconst 0, 1) := by decide +kernel
theorem dL_kept_43 : decode cL_kept 43 = .ok (.istore_n 3, 1) := by decide +kernel
theorem dL_kept_44 : decode cL_kept 44 = .ok (.iconst 0, 1) := by decide +kernel
theorem dL_kept_45 : decode cL_kept 45 = .ok (.istore 4, 2) := by decide +kernel
