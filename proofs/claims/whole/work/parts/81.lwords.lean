theorem hL_append_zIAE : CK E_L_append 4 zIAE 12 := ⟨[], { startPc := 0, endPc := 9, handlerPc := 12, catchType := 13 }, [{ startPc := 0, endPc := 9, handlerPc := 15, catchType := 15 }], by decide +kernel, (fun q hq => by cases hq), by decide +kernel, by decide, by decide +kernel, rfl, by decide +kernel⟩
theorem hL_append_zISE : CK E_L_append 4 zISE 15 := ⟨[{ startPc := 0, endPc := 9, handlerPc := 12, catchType := 13 }], { startPc := 0, endPc := 9, handlerPc := 15, catchType := 15 }, [], by decide +kernel, (fun q hq => by rw [List.mem_singleton] at hq; subst hq; exact ⟨by decide, zIAE, by decide +kernel, by decide +kernel⟩), by decide +kernel, by decide, by decide +kernel, rfl, by decide +kernel⟩
theorem hL_load_zISE : CK E_L_load 3 zISE 11 := ⟨[], { startPc := 0, endPc := 8, handlerPc := 11, catchType := 15 }, [], by decide +kernel, (fun q hq => by cases hq), by decide +kernel, by decide, by decide +kernel, rfl, by decide +kernel⟩
theorem hL_about_zIAE : CK E_L_about 4 zIAE 12 := ⟨[], { startPc := 0, endPc := 9, handlerPc := 12, catchType := 13 }, [], by decide +kernel, (fun q hq => by cases hq), by decide +kernel, by decide, by decide +kernel, rfl, by decide +kernel⟩
theorem hL_work_zIOB : CK E_L_work 5 zIOB 13 := ⟨[], { startPc := 0, endPc := 10, handlerPc := 13, catchType := 28 }, [{ startPc := 0, endPc := 10, handlerPc := 17, catchType := 13 }], by decide +kernel, (fun q hq => by cases hq), by decide +kernel, by decide, by decide +kernel, rfl, by decide +kernel⟩
theorem hL_work_zIAE : CK E_L_work 5 zIAE 17 := ⟨[{ startPc := 0, endPc := 10, handlerPc := 13, catchType := 28 }], { startPc := 0, endPc := 10, handlerPc := 17, catchType := 13 }, [], by decide +kernel, (fun q hq => by rw [List.mem_singleton] at hq; subst hq; exact ⟨by decide, zIOB, by decide +kernel, by decide +kernel⟩), by decide +kernel, by decide, by decide +kernel, rfl, by decide +kernel⟩
theorem hL_letter_zIOB : CK E_L_letter 7 zIOB 15 := ⟨[], { startPc := 0, endPc := 12, handlerPc := 15, catchType := 28 }, [{ startPc := 0, endPc := 12, handlerPc := 19, catchType := 13 }], by decide +kernel, (fun q hq => by cases hq), by decide +kernel, by decide, by decide +kernel, rfl, by decide +kernel⟩
theorem hL_letter_zIAE : CK E_L_letter 7 zIAE 19 := ⟨[{ startPc := 0, endPc := 12, handlerPc := 15, catchType := 28 }], { startPc := 0, endPc := 12, handlerPc := 19, catchType := 13 }, [], by decide +kernel, (fun q hq => by rw [List.mem_singleton] at hq; subst hq; exact ⟨by decide, zIOB, by decide +kernel, by decide +kernel⟩), by decide +kernel, by decide, by decide +kernel, rfl, by decide +kernel⟩
theorem hL_key_zIOB : CK E_L_key 5 zIOB 13 := ⟨[], { startPc := 0, endPc := 10, handlerPc := 13, catchType := 28 }, [{ startPc := 0, endPc := 10, handlerPc := 17, catchType := 13 }], by decide +kernel, (fun q hq => by cases hq), by decide +kernel, by decide, by decide +kernel, rfl, by decide +kernel⟩
theorem hL_key_zIAE : CK E_L_key 5 zIAE 17 := ⟨[{ startPc := 0, endPc := 10, handlerPc := 13, catchType := 28 }], { startPc := 0, endPc := 10, handlerPc := 17, catchType := 13 }, [], by decide +kernel, (fun q hq => by rw [List.mem_singleton] at hq; subst hq; exact ⟨by decide, zIOB, by decide +kernel, by decide +kernel⟩), by decide +kernel, by decide, by decide +kernel, rfl, by decide +kernel⟩
theorem hL_at_zIAE : CK E_L_at 4 zIAE 12 := ⟨[], { startPc := 0, endPc := 9, handlerPc := 12, catchType := 13 }, [], by decide +kernel, (fun q hq => by cases hq), by decide +kernel, by decide, by decide +kernel, rfl, by decide +kernel⟩
theorem hL_printed_zIAE : CK E_L_printed 4 zIAE 12 := ⟨[], { startPc := 0, endPc := 9, handlerPc := 12, catchType := 13 }, [], by decide +kernel, (fun q hq => by cases hq), by decide +kernel, by decide, by decide +kernel, rfl, by decide +kernel⟩
theorem hL_add_zISE : CK E_L_add 3 zISE 11 := ⟨[], { startPc := 0, endPc := 8, handlerPc := 11, catchType := 15 }, [], by decide +kernel, (fun q hq => by cases hq), by decide +kernel, by decide, by decide +kernel, rfl, by decide +kernel⟩
theorem hL_change_zIOB : CK E_L_change 4 zIOB 12 := ⟨[], { startPc := 0, endPc := 9, handlerPc := 12, catchType := 28 }, [{ startPc := 0, endPc := 9, handlerPc := 15, catchType := 15 }], by decide +kernel, (fun q hq => by cases hq), by decide +kernel, by decide, by decide +kernel, rfl, by decide +kernel⟩
theorem hL_change_zISE : CK E_L_change 4 zISE 15 := ⟨[{ startPc := 0, endPc := 9, handlerPc := 12, catchType := 28 }], { startPc := 0, endPc := 9, handlerPc := 15, catchType := 15 }, [], by decide +kernel, (fun q hq => by rw [List.mem_singleton] at hq; subst hq; exact ⟨by decide, zIOB, by decide +kernel, by decide +kernel⟩), by decide +kernel, by decide, by decide +kernel, rfl, by decide +kernel⟩
theorem hL_setYear_zIOB : CK E_L_setYear 5 zIOB 13 := ⟨[], { startPc := 0, endPc := 10, handlerPc := 13, catchType := 28 }, [{ startPc := 0, endPc := 10, handlerPc := 17, catchType := 13 }], by decide +kernel, (fun q hq => by cases hq), by decide +kernel, by decide, by decide +kernel, rfl, by decide +kernel⟩
theorem hL_setYear_zIAE : CK E_L_setYear 5 zIAE 17 := ⟨[{ startPc := 0, endPc := 10, handlerPc := 13, catchType := 28 }], { startPc := 0, endPc := 10, handlerPc := 17, catchType := 13 }, [], by decide +kernel, (fun q hq => by rw [List.mem_singleton] at hq; subst hq; exact ⟨by decide, zIOB, by decide +kernel, by decide +kernel⟩), by decide +kernel, by decide, by decide +kernel, rfl, by decide +kernel⟩
theorem hL_remove_zIOB : CK E_L_remove 4 zIOB 12 := ⟨[], { startPc := 0, endPc := 9, handlerPc := 12, catchType := 28 }, [], by decide +kernel, (fun q hq => by cases hq), by decide +kernel, by decide, by decide +kernel, rfl, by decide +kernel⟩
theorem hL_setStyle_zIAE : CK E_L_setStyle 4 zIAE 12 := ⟨[], { startPc := 0, endPc := 9, handlerPc := 12, catchType := 13 }, [], by decide +kernel, (fun q hq => by cases hq), by decide +kernel, by decide, by decide +kernel, rfl, by decide +kernel⟩
theorem hL_setOrder_zIAE : CK E_L_setOrder 4 zIAE 12 := ⟨[], { startPc := 0, endPc := 9, handlerPc := 12, catchType := 13 }, [], by decide +kernel, (fun q hq => by cases hq), by decide +kernel, by decide, by decide +kernel, rfl, by decide +kernel⟩
theorem hL_undo_zISE : CK E_L_undo 3 zISE 11 := ⟨[], { startPc := 0, endPc := 8, handlerPc := 11, catchType := 15 }, [], by decide +kernel, (fun q hq => by cases hq), by decide +kernel, by decide, by decide +kernel, rfl, by decide +kernel⟩
theorem hL_ifRemoved_zIOB : CK E_L_ifRemoved 4 zIOB 12 := ⟨[], { startPc := 0, endPc := 9, handlerPc := 12, catchType := 28 }, [], by decide +kernel, (fun q hq => by cases hq), by decide +kernel, by decide, by decide +kernel, rfl, by decide +kernel⟩
theorem hL_freeYear_zIOB : CK E_L_freeYear 4 zIOB 12 := ⟨[], { startPc := 0, endPc := 9, handlerPc := 12, catchType := 28 }, [], by decide +kernel, (fun q hq => by cases hq), by decide +kernel, by decide, by decide +kernel, rfl, by decide +kernel⟩
theorem hL_lettersWith_zIAE : CK E_L_lettersWith 4 zIAE 12 := ⟨[], { startPc := 0, endPc := 9, handlerPc := 12, catchType := 13 }, [], by decide +kernel, (fun q hq => by cases hq), by decide +kernel, by decide, by decide +kernel, rfl, by decide +kernel⟩
theorem hL_runScript_zIAE : CK E_L_runScript 6 zIAE 14 := ⟨[], { startPc := 0, endPc := 11, handlerPc := 14, catchType := 13 }, [], by decide +kernel, (fun q hq => by cases hq), by decide +kernel, by decide, by decide +kernel, rfl, by decide +kernel⟩
theorem hL_simulate_zIAE : CK E_L_simulate 6 zIAE 14 := ⟨[], { startPc := 0, endPc := 11, handlerPc := 14, catchType := 13 }, [], by decide +kernel, (fun q hq => by cases hq), by decide +kernel, by decide, by decide +kernel, rfl, by decide +kernel⟩
theorem hL_save_zIOB : CK E_L_save 4 zIOB 12 := ⟨[], { startPc := 0, endPc := 9, handlerPc := 12, catchType := 28 }, [], by decide +kernel, (fun q hq => by cases hq), by decide +kernel, by decide, by decide +kernel, rfl, by decide +kernel⟩
theorem hL_restore_zIOB : CK E_L_restore 4 zIOB 12 := ⟨[], { startPc := 0, endPc := 9, handlerPc := 12, catchType := 28 }, [{ startPc := 0, endPc := 9, handlerPc := 15, catchType := 15 }], by decide +kernel, (fun q hq => by cases hq), by decide +kernel, by decide, by decide +kernel, rfl, by decide +kernel⟩
theorem hL_restore_zISE : CK E_L_restore 4 zISE 15 := ⟨[{ startPc := 0, endPc := 9, handlerPc := 12, catchType := 28 }], { startPc := 0, endPc := 9, handlerPc := 15, catchType := 15 }, [], by decide +kernel, (fun q hq => by rw [List.mem_singleton] at hq; subst hq; exact ⟨by decide, zIOB, by decide +kernel, by decide +kernel⟩), by decide +kernel, by decide, by decide +kernel, rfl, by decide +kernel⟩
set_option maxRecDepth 20000 in
theorem nL_law_8 : NL E_L_law 8 4 := ⟨by decide, by decide +kernel, by decide +kernel, by decide +kernel, by decide +kernel⟩
set_option maxRecDepth 20000 in
theorem nL_law_88 : NL E_L_law 88 5 := ⟨by decide, by decide +kernel, by decide +kernel, by decide +kernel, by decide +kernel⟩
theorem aL_law_long : Cond.arrayClass .long ∈ mW E_L_law := by decide +kernel
set_option maxRecDepth 20000 in
theorem lL_law_182 : Cond.constantLong (mY E_L_law).cls 182 (i64 (4294967295)) ∈ mW E_L_law := by decide +kernel
set_option maxRecDepth 20000 in
theorem kL_append_7 : zLV E_L_append 7 E_X6_append 1 := zLV.of gL_append_X6_append okX6_append ⟨by decide +kernel, by decide +kernel, by decide +kernel⟩ ⟨by decide, by decide⟩
set_option maxRecDepth 20000 in
theorem kL_load_17 : zLV E_L_load 17 E_X6_load 0 := zLV.of gL_load_X6_load okX6_load ⟨by decide +kernel, by decide +kernel, by decide +kernel⟩ ⟨by decide, by decide⟩
set_option maxRecDepth 20000 in
theorem kL_about_21 : zLV E_L_about 21 E_X6_about 1 := zLV.of gL_about_X6_about okX6_about ⟨by decide +kernel, by decide +kernel, by decide +kernel⟩ ⟨by decide, by decide⟩
set_option maxRecDepth 20000 in
theorem kL_work_24 : zLV E_L_work 24 E_X6_work 2 := zLV.of gL_work_X6_work okX6_work ⟨by decide +kernel, by decide +kernel, by decide +kernel⟩ ⟨by decide, by decide⟩
set_option maxRecDepth 20000 in
theorem kL_letter_30 : zLV E_L_letter 30 E_X6_letter 3 := zLV.of gL_letter_X6_letter okX6_letter ⟨by decide +kernel, by decide +kernel, by decide +kernel⟩ ⟨by decide, by decide⟩
set_option maxRecDepth 20000 in
theorem kL_key_34 : zLV E_L_key 34 E_X6_key 2 := zLV.of gL_key_X6_key okX6_key ⟨by decide +kernel, by decide +kernel, by decide +kernel⟩ ⟨by decide, by decide⟩
set_option maxRecDepth 20000 in
theorem kL_at_37 : zLV E_L_at 37 E_X6_at 1 := zLV.of gL_at_X6_at okX6_at ⟨by decide +kernel, by decide +kernel, by decide +kernel⟩ ⟨by decide, by decide⟩
set_option maxRecDepth 20000 in
theorem kL_printed_40 : zLV E_L_printed 40 E_X6_printed 1 := zLV.of gL_printed_X6_printed okX6_printed ⟨by decide +kernel, by decide +kernel, by decide +kernel⟩ ⟨by decide, by decide⟩
set_option maxRecDepth 20000 in
theorem kL_add_43 : zLV E_L_add 43 E_X6_add 0 := zLV.of gL_add_X6_add okX6_add ⟨by decide +kernel, by decide +kernel, by decide +kernel⟩ ⟨by decide, by decide⟩
set_option maxRecDepth 20000 in
theorem kL_change_46 : zLV E_L_change 46 E_X6_change 1 := zLV.of gL_change_X6_change okX6_change ⟨by decide +kernel, by decide +kernel, by decide +kernel⟩ ⟨by decide, by decide⟩
set_option maxRecDepth 20000 in
theorem kL_setYear_49 : zLV E_L_setYear 49 E_X6_setYear 2 := zLV.of gL_setYear_X6_setYear okX6_setYear ⟨by decide +kernel, by decide +kernel, by decide +kernel⟩ ⟨by decide, by decide⟩
set_option maxRecDepth 20000 in
theorem kL_remove_52 : zLV E_L_remove 52 E_X6_remove 1 := zLV.of gL_remove_X6_remove okX6_remove ⟨by decide +kernel, by decide +kernel, by decide +kernel⟩ ⟨by decide, by decide⟩
set_option maxRecDepth 20000 in
theorem kL_setStyle_55 : zLV E_L_setStyle 55 E_X6_setStyle 1 := zLV.of gL_setStyle_X6_setStyle okX6_setStyle ⟨by decide +kernel, by decide +kernel, by decide +kernel⟩ ⟨by decide, by decide⟩
set_option maxRecDepth 20000 in
theorem kL_setOrder_58 : zLV E_L_setOrder 58 E_X6_setOrder 1 := zLV.of gL_setOrder_X6_setOrder okX6_setOrder ⟨by decide +kernel, by decide +kernel, by decide +kernel⟩ ⟨by decide, by decide⟩
set_option maxRecDepth 20000 in
theorem kL_undo_61 : zLV E_L_undo 61 E_X6_undo 0 := zLV.of gL_undo_X6_undo okX6_undo ⟨by decide +kernel, by decide +kernel, by decide +kernel⟩ ⟨by decide, by decide⟩
set_option maxRecDepth 20000 in
theorem kL_ifRemoved_64 : zLV E_L_ifRemoved 64 E_X6_ifRemoved 1 := zLV.of gL_ifRemoved_X6_ifRemoved okX6_ifRemoved ⟨by decide +kernel, by decide +kernel, by decide +kernel⟩ ⟨by decide, by decide⟩
set_option maxRecDepth 20000 in
theorem kL_freeYear_67 : zLV E_L_freeYear 67 E_X6_freeYear 1 := zLV.of gL_freeYear_X6_freeYear okX6_freeYear ⟨by decide +kernel, by decide +kernel, by decide +kernel⟩ ⟨by decide, by decide⟩
set_option maxRecDepth 20000 in
theorem kL_lettersWith_70 : zLV E_L_lettersWith 70 E_X6_lettersWith 1 := zLV.of gL_lettersWith_X6_lettersWith okX6_lettersWith ⟨by decide +kernel, by decide +kernel, by decide +kernel⟩ ⟨by decide, by decide⟩
set_option maxRecDepth 20000 in
theorem kL_runScript_73 : zLV E_L_runScript 73 E_X6_runScript 2 := zLV.of gL_runScript_X6_runScript okX6_runScript ⟨by decide +kernel, by decide +kernel, by decide +kernel⟩ ⟨by decide, by decide⟩
set_option maxRecDepth 20000 in
theorem kL_simulate_77 : zLV E_L_simulate 77 E_X6_simulate 2 := zLV.of gL_simulate_X6_simulate okX6_simulate ⟨by decide +kernel, by decide +kernel, by decide +kernel⟩ ⟨by decide, by decide⟩
set_option maxRecDepth 20000 in
theorem kL_save_81 : zLV E_L_save 81 E_X6_save 1 := zLV.of gL_save_X6_save okX6_save ⟨by decide +kernel, by decide +kernel, by decide +kernel⟩ ⟨by decide, by decide⟩
set_option maxRecDepth 20000 in
theorem kL_restore_84 : zLV E_L_restore 84 E_X6_restore 1 := zLV.of gL_restore_X6_restore okX6_restore ⟨by decide +kernel, by decide +kernel, by decide +kernel⟩ ⟨by decide, by decide⟩
