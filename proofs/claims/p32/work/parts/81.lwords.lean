theorem lL_draw_7 : Cond.constant (mY E_L_draw).cls 7 (i32 (15593323)) ∈ mW E_L_draw := by decide +kernel
theorem lL_draw_8 : Cond.constant (mY E_L_draw).cls 8 (i32 (2147483647)) ∈ mW E_L_draw := by decide +kernel
set_option maxRecDepth 20000 in
theorem lL_append_17 : Cond.constantLong (mY E_L_append).cls 17 (i64 (-9000000000000000002)) ∈ mW E_L_append := by decide +kernel
set_option maxRecDepth 20000 in
theorem lL_append_21 : Cond.constantLong (mY E_L_append).cls 21 (i64 (-9000000000000000003)) ∈ mW E_L_append := by decide +kernel
theorem hL_append_zIAE : CK E_L_append 2 zIAE 7 := ⟨[], { startPc := 0, endPc := 6, handlerPc := 7, catchType := 15 }, [{ startPc := 0, endPc := 6, handlerPc := 12, catchType := 19 }], by decide +kernel, (fun q hq => by cases hq), by decide +kernel, by decide, by decide +kernel, rfl, by decide +kernel⟩
theorem hL_append_zISE : CK E_L_append 2 zISE 12 := ⟨[{ startPc := 0, endPc := 6, handlerPc := 7, catchType := 15 }], { startPc := 0, endPc := 6, handlerPc := 12, catchType := 19 }, [], by decide +kernel, (fun q hq => by rw [List.mem_singleton] at hq; subst hq; exact ⟨by decide, zIAE, by decide +kernel, by decide +kernel⟩), by decide +kernel, by decide, by decide +kernel, rfl, by decide +kernel⟩
set_option maxRecDepth 20000 in
theorem lL_load_21 : Cond.constantLong (mY E_L_load).cls 21 (i64 (-9000000000000000003)) ∈ mW E_L_load := by decide +kernel
theorem hL_load_zISE : CK E_L_load 1 zISE 6 := ⟨[], { startPc := 0, endPc := 5, handlerPc := 6, catchType := 19 }, [], by decide +kernel, (fun q hq => by cases hq), by decide +kernel, by decide, by decide +kernel, rfl, by decide +kernel⟩
set_option maxRecDepth 20000 in
theorem lL_about_17 : Cond.constantLong (mY E_L_about).cls 17 (i64 (-9000000000000000002)) ∈ mW E_L_about := by decide +kernel
theorem hL_about_zIAE : CK E_L_about 2 zIAE 7 := ⟨[], { startPc := 0, endPc := 6, handlerPc := 7, catchType := 15 }, [], by decide +kernel, (fun q hq => by cases hq), by decide +kernel, by decide, by decide +kernel, rfl, by decide +kernel⟩
set_option maxRecDepth 20000 in
theorem lL_work_36 : Cond.constantLong (mY E_L_work).cls 36 (i64 (-9000000000000000001)) ∈ mW E_L_work := by decide +kernel
set_option maxRecDepth 20000 in
theorem lL_work_17 : Cond.constantLong (mY E_L_work).cls 17 (i64 (-9000000000000000002)) ∈ mW E_L_work := by decide +kernel
theorem hL_work_zIOB : CK E_L_work 3 zIOB 8 := ⟨[], { startPc := 0, endPc := 7, handlerPc := 8, catchType := 34 }, [{ startPc := 0, endPc := 7, handlerPc := 13, catchType := 15 }], by decide +kernel, (fun q hq => by cases hq), by decide +kernel, by decide, by decide +kernel, rfl, by decide +kernel⟩
theorem hL_work_zIAE : CK E_L_work 3 zIAE 13 := ⟨[{ startPc := 0, endPc := 7, handlerPc := 8, catchType := 34 }], { startPc := 0, endPc := 7, handlerPc := 13, catchType := 15 }, [], by decide +kernel, (fun q hq => by rw [List.mem_singleton] at hq; subst hq; exact ⟨by decide, zIOB, by decide +kernel, by decide +kernel⟩), by decide +kernel, by decide, by decide +kernel, rfl, by decide +kernel⟩
set_option maxRecDepth 20000 in
theorem lL_letter_36 : Cond.constantLong (mY E_L_letter).cls 36 (i64 (-9000000000000000001)) ∈ mW E_L_letter := by decide +kernel
set_option maxRecDepth 20000 in
theorem lL_letter_17 : Cond.constantLong (mY E_L_letter).cls 17 (i64 (-9000000000000000002)) ∈ mW E_L_letter := by decide +kernel
theorem hL_letter_zIOB : CK E_L_letter 4 zIOB 9 := ⟨[], { startPc := 0, endPc := 8, handlerPc := 9, catchType := 34 }, [{ startPc := 0, endPc := 8, handlerPc := 15, catchType := 15 }], by decide +kernel, (fun q hq => by cases hq), by decide +kernel, by decide, by decide +kernel, rfl, by decide +kernel⟩
theorem hL_letter_zIAE : CK E_L_letter 4 zIAE 15 := ⟨[{ startPc := 0, endPc := 8, handlerPc := 9, catchType := 34 }], { startPc := 0, endPc := 8, handlerPc := 15, catchType := 15 }, [], by decide +kernel, (fun q hq => by rw [List.mem_singleton] at hq; subst hq; exact ⟨by decide, zIOB, by decide +kernel, by decide +kernel⟩), by decide +kernel, by decide, by decide +kernel, rfl, by decide +kernel⟩
set_option maxRecDepth 20000 in
theorem lL_key_36 : Cond.constantLong (mY E_L_key).cls 36 (i64 (-9000000000000000001)) ∈ mW E_L_key := by decide +kernel
set_option maxRecDepth 20000 in
theorem lL_key_17 : Cond.constantLong (mY E_L_key).cls 17 (i64 (-9000000000000000002)) ∈ mW E_L_key := by decide +kernel
theorem hL_key_zIOB : CK E_L_key 3 zIOB 8 := ⟨[], { startPc := 0, endPc := 7, handlerPc := 8, catchType := 34 }, [{ startPc := 0, endPc := 7, handlerPc := 13, catchType := 15 }], by decide +kernel, (fun q hq => by cases hq), by decide +kernel, by decide, by decide +kernel, rfl, by decide +kernel⟩
theorem hL_key_zIAE : CK E_L_key 3 zIAE 13 := ⟨[{ startPc := 0, endPc := 7, handlerPc := 8, catchType := 34 }], { startPc := 0, endPc := 7, handlerPc := 13, catchType := 15 }, [], by decide +kernel, (fun q hq => by rw [List.mem_singleton] at hq; subst hq; exact ⟨by decide, zIOB, by decide +kernel, by decide +kernel⟩), by decide +kernel, by decide, by decide +kernel, rfl, by decide +kernel⟩
set_option maxRecDepth 20000 in
theorem lL_at_17 : Cond.constantLong (mY E_L_at).cls 17 (i64 (-9000000000000000002)) ∈ mW E_L_at := by decide +kernel
theorem hL_at_zIAE : CK E_L_at 2 zIAE 7 := ⟨[], { startPc := 0, endPc := 6, handlerPc := 7, catchType := 15 }, [], by decide +kernel, (fun q hq => by cases hq), by decide +kernel, by decide, by decide +kernel, rfl, by decide +kernel⟩
set_option maxRecDepth 20000 in
theorem lL_printed_17 : Cond.constantLong (mY E_L_printed).cls 17 (i64 (-9000000000000000002)) ∈ mW E_L_printed := by decide +kernel
theorem hL_printed_zIAE : CK E_L_printed 2 zIAE 7 := ⟨[], { startPc := 0, endPc := 6, handlerPc := 7, catchType := 15 }, [], by decide +kernel, (fun q hq => by cases hq), by decide +kernel, by decide, by decide +kernel, rfl, by decide +kernel⟩
set_option maxRecDepth 20000 in
theorem lL_add_21 : Cond.constantLong (mY E_L_add).cls 21 (i64 (-9000000000000000003)) ∈ mW E_L_add := by decide +kernel
theorem hL_add_zISE : CK E_L_add 1 zISE 6 := ⟨[], { startPc := 0, endPc := 5, handlerPc := 6, catchType := 19 }, [], by decide +kernel, (fun q hq => by cases hq), by decide +kernel, by decide, by decide +kernel, rfl, by decide +kernel⟩
set_option maxRecDepth 20000 in
theorem lL_change_36 : Cond.constantLong (mY E_L_change).cls 36 (i64 (-9000000000000000001)) ∈ mW E_L_change := by decide +kernel
set_option maxRecDepth 20000 in
theorem lL_change_21 : Cond.constantLong (mY E_L_change).cls 21 (i64 (-9000000000000000003)) ∈ mW E_L_change := by decide +kernel
theorem hL_change_zIOB : CK E_L_change 2 zIOB 7 := ⟨[], { startPc := 0, endPc := 6, handlerPc := 7, catchType := 34 }, [{ startPc := 0, endPc := 6, handlerPc := 12, catchType := 19 }], by decide +kernel, (fun q hq => by cases hq), by decide +kernel, by decide, by decide +kernel, rfl, by decide +kernel⟩
theorem hL_change_zISE : CK E_L_change 2 zISE 12 := ⟨[{ startPc := 0, endPc := 6, handlerPc := 7, catchType := 34 }], { startPc := 0, endPc := 6, handlerPc := 12, catchType := 19 }, [], by decide +kernel, (fun q hq => by rw [List.mem_singleton] at hq; subst hq; exact ⟨by decide, zIOB, by decide +kernel, by decide +kernel⟩), by decide +kernel, by decide, by decide +kernel, rfl, by decide +kernel⟩
set_option maxRecDepth 20000 in
theorem lL_setYear_36 : Cond.constantLong (mY E_L_setYear).cls 36 (i64 (-9000000000000000001)) ∈ mW E_L_setYear := by decide +kernel
set_option maxRecDepth 20000 in
theorem lL_setYear_17 : Cond.constantLong (mY E_L_setYear).cls 17 (i64 (-9000000000000000002)) ∈ mW E_L_setYear := by decide +kernel
theorem hL_setYear_zIOB : CK E_L_setYear 3 zIOB 8 := ⟨[], { startPc := 0, endPc := 7, handlerPc := 8, catchType := 34 }, [{ startPc := 0, endPc := 7, handlerPc := 13, catchType := 15 }], by decide +kernel, (fun q hq => by cases hq), by decide +kernel, by decide, by decide +kernel, rfl, by decide +kernel⟩
theorem hL_setYear_zIAE : CK E_L_setYear 3 zIAE 13 := ⟨[{ startPc := 0, endPc := 7, handlerPc := 8, catchType := 34 }], { startPc := 0, endPc := 7, handlerPc := 13, catchType := 15 }, [], by decide +kernel, (fun q hq => by rw [List.mem_singleton] at hq; subst hq; exact ⟨by decide, zIOB, by decide +kernel, by decide +kernel⟩), by decide +kernel, by decide, by decide +kernel, rfl, by decide +kernel⟩
set_option maxRecDepth 20000 in
theorem lL_remove_36 : Cond.constantLong (mY E_L_remove).cls 36 (i64 (-9000000000000000001)) ∈ mW E_L_remove := by decide +kernel
theorem hL_remove_zIOB : CK E_L_remove 2 zIOB 7 := ⟨[], { startPc := 0, endPc := 6, handlerPc := 7, catchType := 34 }, [], by decide +kernel, (fun q hq => by cases hq), by decide +kernel, by decide, by decide +kernel, rfl, by decide +kernel⟩
set_option maxRecDepth 20000 in
theorem lL_setStyle_17 : Cond.constantLong (mY E_L_setStyle).cls 17 (i64 (-9000000000000000002)) ∈ mW E_L_setStyle := by decide +kernel
theorem hL_setStyle_zIAE : CK E_L_setStyle 2 zIAE 7 := ⟨[], { startPc := 0, endPc := 6, handlerPc := 7, catchType := 15 }, [], by decide +kernel, (fun q hq => by cases hq), by decide +kernel, by decide, by decide +kernel, rfl, by decide +kernel⟩
set_option maxRecDepth 20000 in
theorem lL_setOrder_17 : Cond.constantLong (mY E_L_setOrder).cls 17 (i64 (-9000000000000000002)) ∈ mW E_L_setOrder := by decide +kernel
theorem hL_setOrder_zIAE : CK E_L_setOrder 2 zIAE 7 := ⟨[], { startPc := 0, endPc := 6, handlerPc := 7, catchType := 15 }, [], by decide +kernel, (fun q hq => by cases hq), by decide +kernel, by decide, by decide +kernel, rfl, by decide +kernel⟩
set_option maxRecDepth 20000 in
theorem lL_undo_21 : Cond.constantLong (mY E_L_undo).cls 21 (i64 (-9000000000000000003)) ∈ mW E_L_undo := by decide +kernel
theorem hL_undo_zISE : CK E_L_undo 1 zISE 6 := ⟨[], { startPc := 0, endPc := 5, handlerPc := 6, catchType := 19 }, [], by decide +kernel, (fun q hq => by cases hq), by decide +kernel, by decide, by decide +kernel, rfl, by decide +kernel⟩
set_option maxRecDepth 20000 in
theorem lL_ifRemoved_36 : Cond.constantLong (mY E_L_ifRemoved).cls 36 (i64 (-9000000000000000001)) ∈ mW E_L_ifRemoved := by decide +kernel
theorem hL_ifRemoved_zIOB : CK E_L_ifRemoved 2 zIOB 7 := ⟨[], { startPc := 0, endPc := 6, handlerPc := 7, catchType := 34 }, [], by decide +kernel, (fun q hq => by cases hq), by decide +kernel, by decide, by decide +kernel, rfl, by decide +kernel⟩
set_option maxRecDepth 20000 in
theorem lL_freeYear_36 : Cond.constantLong (mY E_L_freeYear).cls 36 (i64 (-9000000000000000001)) ∈ mW E_L_freeYear := by decide +kernel
theorem hL_freeYear_zIOB : CK E_L_freeYear 2 zIOB 7 := ⟨[], { startPc := 0, endPc := 6, handlerPc := 7, catchType := 34 }, [], by decide +kernel, (fun q hq => by cases hq), by decide +kernel, by decide, by decide +kernel, rfl, by decide +kernel⟩
set_option maxRecDepth 20000 in
theorem lL_lettersWith_17 : Cond.constantLong (mY E_L_lettersWith).cls 17 (i64 (-9000000000000000002)) ∈ mW E_L_lettersWith := by decide +kernel
theorem hL_lettersWith_zIAE : CK E_L_lettersWith 2 zIAE 7 := ⟨[], { startPc := 0, endPc := 6, handlerPc := 7, catchType := 15 }, [], by decide +kernel, (fun q hq => by cases hq), by decide +kernel, by decide, by decide +kernel, rfl, by decide +kernel⟩
set_option maxRecDepth 20000 in
theorem lL_script_17 : Cond.constantLong (mY E_L_script).cls 17 (i64 (-9000000000000000002)) ∈ mW E_L_script := by decide +kernel
theorem hL_script_zIAE : CK E_L_script 3 zIAE 8 := ⟨[], { startPc := 0, endPc := 7, handlerPc := 8, catchType := 15 }, [], by decide +kernel, (fun q hq => by cases hq), by decide +kernel, by decide, by decide +kernel, rfl, by decide +kernel⟩
set_option maxRecDepth 20000 in
theorem lL_simulate_17 : Cond.constantLong (mY E_L_simulate).cls 17 (i64 (-9000000000000000002)) ∈ mW E_L_simulate := by decide +kernel
theorem hL_simulate_zIAE : CK E_L_simulate 3 zIAE 8 := ⟨[], { startPc := 0, endPc := 7, handlerPc := 8, catchType := 15 }, [], by decide +kernel, (fun q hq => by cases hq), by decide +kernel, by decide, by decide +kernel, rfl, by decide +kernel⟩
set_option maxRecDepth 20000 in
theorem lL_save_36 : Cond.constantLong (mY E_L_save).cls 36 (i64 (-9000000000000000001)) ∈ mW E_L_save := by decide +kernel
theorem hL_save_zIOB : CK E_L_save 2 zIOB 7 := ⟨[], { startPc := 0, endPc := 6, handlerPc := 7, catchType := 34 }, [], by decide +kernel, (fun q hq => by cases hq), by decide +kernel, by decide, by decide +kernel, rfl, by decide +kernel⟩
set_option maxRecDepth 20000 in
theorem lL_restore_36 : Cond.constantLong (mY E_L_restore).cls 36 (i64 (-9000000000000000001)) ∈ mW E_L_restore := by decide +kernel
set_option maxRecDepth 20000 in
theorem lL_restore_21 : Cond.constantLong (mY E_L_restore).cls 21 (i64 (-9000000000000000003)) ∈ mW E_L_restore := by decide +kernel
theorem hL_restore_zIOB : CK E_L_restore 2 zIOB 7 := ⟨[], { startPc := 0, endPc := 6, handlerPc := 7, catchType := 34 }, [{ startPc := 0, endPc := 6, handlerPc := 12, catchType := 19 }], by decide +kernel, (fun q hq => by cases hq), by decide +kernel, by decide, by decide +kernel, rfl, by decide +kernel⟩
theorem hL_restore_zISE : CK E_L_restore 2 zISE 12 := ⟨[{ startPc := 0, endPc := 6, handlerPc := 7, catchType := 34 }], { startPc := 0, endPc := 6, handlerPc := 12, catchType := 19 }, [], by decide +kernel, (fun q hq => by rw [List.mem_singleton] at hq; subst hq; exact ⟨by decide, zIOB, by decide +kernel, by decide +kernel⟩), by decide +kernel, by decide, by decide +kernel, rfl, by decide +kernel⟩
set_option maxRecDepth 20000 in
theorem lL_now_95 : Cond.constantLong (mY E_L_now).cls 95 (i64 (37)) ∈ mW E_L_now := by decide +kernel
set_option maxRecDepth 20000 in
theorem lL_now_97 : Cond.constantLong (mY E_L_now).cls 97 (i64 (31)) ∈ mW E_L_now := by decide +kernel
set_option maxRecDepth 20000 in
theorem lL_errors_17 : Cond.constantLong (mY E_L_errors).cls 17 (i64 (-9000000000000000002)) ∈ mW E_L_errors := by decide +kernel
set_option maxRecDepth 20000 in
theorem lL_errors_36 : Cond.constantLong (mY E_L_errors).cls 36 (i64 (-9000000000000000001)) ∈ mW E_L_errors := by decide +kernel
set_option maxRecDepth 20000 in
theorem lL_errors_21 : Cond.constantLong (mY E_L_errors).cls 21 (i64 (-9000000000000000003)) ∈ mW E_L_errors := by decide +kernel
set_option maxRecDepth 20000 in
theorem lL_errors_147 : Cond.constantLong (mY E_L_errors).cls 147 (i64 (10000000000000000)) ∈ mW E_L_errors := by decide +kernel
set_option maxRecDepth 20000 in
theorem lL_kept_162 : Cond.constantLong (mY E_L_kept).cls 162 (i64 (16)) ∈ mW E_L_kept := by decide +kernel
set_option maxRecDepth 20000 in
theorem lL_kept_168 : Cond.constantLong (mY E_L_kept).cls 168 (i64 (-9)) ∈ mW E_L_kept := by decide +kernel
set_option maxRecDepth 20000 in
theorem lL_kept_181 : Cond.constantLong (mY E_L_kept).cls 181 (i64 (2)) ∈ mW E_L_kept := by decide +kernel
set_option maxRecDepth 20000 in
theorem lL_kept_183 : Cond.constantLong (mY E_L_kept).cls 183 (i64 (97)) ∈ mW E_L_kept := by decide +kernel
set_option maxRecDepth 20000 in
theorem lL_kept_185 : Cond.constantLong (mY E_L_kept).cls 185 (i64 (3)) ∈ mW E_L_kept := by decide +kernel
set_option maxRecDepth 20000 in
theorem lL_kept_187 : Cond.constantLong (mY E_L_kept).cls 187 (i64 (12)) ∈ mW E_L_kept := by decide +kernel
set_option maxRecDepth 20000 in
theorem lL_kept_189 : Cond.constantLong (mY E_L_kept).cls 189 (i64 (1000)) ∈ mW E_L_kept := by decide +kernel
set_option maxRecDepth 20000 in
theorem lL_kept_191 : Cond.constantLong (mY E_L_kept).cls 191 (i64 (2999)) ∈ mW E_L_kept := by decide +kernel
set_option maxRecDepth 20000 in
theorem lL_kept_193 : Cond.constantLong (mY E_L_kept).cls 193 (i64 (48)) ∈ mW E_L_kept := by decide +kernel
set_option maxRecDepth 20000 in
theorem lL_kept_195 : Cond.constantLong (mY E_L_kept).cls 195 (i64 (10)) ∈ mW E_L_kept := by decide +kernel
set_option maxRecDepth 20000 in
theorem lL_follows_189 : Cond.constantLong (mY E_L_follows).cls 189 (i64 (1000)) ∈ mW E_L_follows := by decide +kernel
set_option maxRecDepth 20000 in
theorem lL_follows_191 : Cond.constantLong (mY E_L_follows).cls 191 (i64 (2999)) ∈ mW E_L_follows := by decide +kernel
set_option maxRecDepth 20000 in
theorem lL_follows_21 : Cond.constantLong (mY E_L_follows).cls 21 (i64 (-9000000000000000003)) ∈ mW E_L_follows := by decide +kernel
set_option maxRecDepth 20000 in
theorem lL_alike_217 : Cond.constantLong (mY E_L_alike).cls 217 (i64 (7000300110008000)) ∈ mW E_L_alike := by decide +kernel
set_option maxRecDepth 20000 in
theorem lL_act_21 : Cond.constantLong (mY E_L_act).cls 21 (i64 (-9000000000000000003)) ∈ mW E_L_act := by decide +kernel
set_option maxRecDepth 20000 in
theorem nL_law_10 : NL E_L_law 10 4 := ⟨by decide, by decide +kernel, by decide +kernel, by decide +kernel, by decide +kernel⟩
set_option maxRecDepth 20000 in
theorem lL_law_181 : Cond.constantLong (mY E_L_law).cls 181 (i64 (2)) ∈ mW E_L_law := by decide +kernel
theorem lL_law_248 : Cond.constant (mY E_L_law).cls 248 (i32 (83003)) ∈ mW E_L_law := by decide +kernel
set_option maxRecDepth 20000 in
theorem kL_append_9 : zLV E_L_append 9 E_X6_append 1 := zLV.of gL_append_X6_append okX6_append ⟨by decide +kernel, by decide +kernel, by decide +kernel⟩ ⟨by decide, by decide⟩
set_option maxRecDepth 20000 in
theorem kL_load_23 : zLV E_L_load 23 E_X6_load 0 := zLV.of gL_load_X6_load okX6_load ⟨by decide +kernel, by decide +kernel, by decide +kernel⟩ ⟨by decide, by decide⟩
set_option maxRecDepth 20000 in
theorem kL_about_27 : zLV E_L_about 27 E_X6_about 1 := zLV.of gL_about_X6_about okX6_about ⟨by decide +kernel, by decide +kernel, by decide +kernel⟩ ⟨by decide, by decide⟩
set_option maxRecDepth 20000 in
theorem kL_work_30 : zLV E_L_work 30 E_X6_work 2 := zLV.of gL_work_X6_work okX6_work ⟨by decide +kernel, by decide +kernel, by decide +kernel⟩ ⟨by decide, by decide⟩
set_option maxRecDepth 20000 in
theorem kL_letter_38 : zLV E_L_letter 38 E_X6_letter 3 := zLV.of gL_letter_X6_letter okX6_letter ⟨by decide +kernel, by decide +kernel, by decide +kernel⟩ ⟨by decide, by decide⟩
set_option maxRecDepth 20000 in
theorem kL_key_42 : zLV E_L_key 42 E_X6_key 2 := zLV.of gL_key_X6_key okX6_key ⟨by decide +kernel, by decide +kernel, by decide +kernel⟩ ⟨by decide, by decide⟩
set_option maxRecDepth 20000 in
theorem kL_at_45 : zLV E_L_at 45 E_X6_at 1 := zLV.of gL_at_X6_at okX6_at ⟨by decide +kernel, by decide +kernel, by decide +kernel⟩ ⟨by decide, by decide⟩
set_option maxRecDepth 20000 in
theorem kL_printed_48 : zLV E_L_printed 48 E_X6_printed 1 := zLV.of gL_printed_X6_printed okX6_printed ⟨by decide +kernel, by decide +kernel, by decide +kernel⟩ ⟨by decide, by decide⟩
set_option maxRecDepth 20000 in
theorem kL_add_51 : zLV E_L_add 51 E_X6_add 0 := zLV.of gL_add_X6_add okX6_add ⟨by decide +kernel, by decide +kernel, by decide +kernel⟩ ⟨by decide, by decide⟩
set_option maxRecDepth 20000 in
theorem kL_change_54 : zLV E_L_change 54 E_X6_change 1 := zLV.of gL_change_X6_change okX6_change ⟨by decide +kernel, by decide +kernel, by decide +kernel⟩ ⟨by decide, by decide⟩
set_option maxRecDepth 20000 in
theorem kL_setYear_57 : zLV E_L_setYear 57 E_X6_setYear 2 := zLV.of gL_setYear_X6_setYear okX6_setYear ⟨by decide +kernel, by decide +kernel, by decide +kernel⟩ ⟨by decide, by decide⟩
set_option maxRecDepth 20000 in
theorem kL_remove_60 : zLV E_L_remove 60 E_X6_remove 1 := zLV.of gL_remove_X6_remove okX6_remove ⟨by decide +kernel, by decide +kernel, by decide +kernel⟩ ⟨by decide, by decide⟩
set_option maxRecDepth 20000 in
theorem kL_setStyle_63 : zLV E_L_setStyle 63 E_X6_setStyle 1 := zLV.of gL_setStyle_X6_setStyle okX6_setStyle ⟨by decide +kernel, by decide +kernel, by decide +kernel⟩ ⟨by decide, by decide⟩
set_option maxRecDepth 20000 in
theorem kL_setOrder_66 : zLV E_L_setOrder 66 E_X6_setOrder 1 := zLV.of gL_setOrder_X6_setOrder okX6_setOrder ⟨by decide +kernel, by decide +kernel, by decide +kernel⟩ ⟨by decide, by decide⟩
set_option maxRecDepth 20000 in
theorem kL_undo_69 : zLV E_L_undo 69 E_X6_undo 0 := zLV.of gL_undo_X6_undo okX6_undo ⟨by decide +kernel, by decide +kernel, by decide +kernel⟩ ⟨by decide, by decide⟩
set_option maxRecDepth 20000 in
theorem kL_ifRemoved_72 : zLV E_L_ifRemoved 72 E_X6_ifRemoved 1 := zLV.of gL_ifRemoved_X6_ifRemoved okX6_ifRemoved ⟨by decide +kernel, by decide +kernel, by decide +kernel⟩ ⟨by decide, by decide⟩
set_option maxRecDepth 20000 in
theorem kL_freeYear_75 : zLV E_L_freeYear 75 E_X6_freeYear 1 := zLV.of gL_freeYear_X6_freeYear okX6_freeYear ⟨by decide +kernel, by decide +kernel, by decide +kernel⟩ ⟨by decide, by decide⟩
set_option maxRecDepth 20000 in
theorem kL_lettersWith_78 : zLV E_L_lettersWith 78 E_X6_lettersWith 1 := zLV.of gL_lettersWith_X6_lettersWith okX6_lettersWith ⟨by decide +kernel, by decide +kernel, by decide +kernel⟩ ⟨by decide, by decide⟩
set_option maxRecDepth 20000 in
theorem kL_script_81 : zLV E_L_script 81 E_X6_runScript 2 := zLV.of gL_script_X6_runScript okX6_runScript ⟨by decide +kernel, by decide +kernel, by decide +kernel⟩ ⟨by decide, by decide⟩
set_option maxRecDepth 20000 in
theorem kL_simulate_85 : zLV E_L_simulate 85 E_X6_simulate 2 := zLV.of gL_simulate_X6_simulate okX6_simulate ⟨by decide +kernel, by decide +kernel, by decide +kernel⟩ ⟨by decide, by decide⟩
set_option maxRecDepth 20000 in
theorem kL_save_89 : zLV E_L_save 89 E_X6_save 1 := zLV.of gL_save_X6_save okX6_save ⟨by decide +kernel, by decide +kernel, by decide +kernel⟩ ⟨by decide, by decide⟩
set_option maxRecDepth 20000 in
theorem kL_restore_92 : zLV E_L_restore 92 E_X6_restore 1 := zLV.of gL_restore_X6_restore okX6_restore ⟨by decide +kernel, by decide +kernel, by decide +kernel⟩ ⟨by decide, by decide⟩
