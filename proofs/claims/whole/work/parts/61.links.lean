set_option maxRecDepth 20000 in
theorem kX7_does_108 : zLV E_X7_does 108 E_X7_lay 2 := zLV.of gX7_does_X7_lay okX7_lay ⟨by decide +kernel, by decide +kernel, by decide +kernel⟩ ⟨by decide, by decide⟩
set_option maxRecDepth 20000 in
theorem kX7_does_238 : zLS E_X7_does 238 E_X7_has 2 := zLS.of gX7_does_X7_has okX7_has ⟨by decide +kernel, by decide +kernel, by decide +kernel⟩ ⟨by decide, by decide⟩
set_option maxRecDepth 20000 in
theorem kX7_does_214 : zLS E_X7_does 214 E_X7_drop 2 := zLS.of gX7_does_X7_drop okX7_drop ⟨by decide +kernel, by decide +kernel, by decide +kernel⟩ ⟨by decide, by decide⟩
set_option maxRecDepth 20000 in
theorem kX7_does_219 : zLS E_X7_does 219 E_X7_isStyle 1 := zLS.of gX7_does_X7_isStyle okX7_isStyle ⟨by decide +kernel, by decide +kernel, by decide +kernel⟩ ⟨by decide, by decide⟩
set_option maxRecDepth 20000 in
theorem kX7_does_67 : zLS E_X7_does 67 E_X7_cell 2 := zLS.of gX7_does_X7_cell okX7_cell ⟨by decide +kernel, by decide +kernel, by decide +kernel⟩ ⟨by decide, by decide⟩
set_option maxRecDepth 20000 in
theorem kX7_does_211 : zLS E_X7_does 211 E_X7_isYear 1 := zLS.of gX7_does_X7_isYear okX7_isYear ⟨by decide +kernel, by decide +kernel, by decide +kernel⟩ ⟨by decide, by decide⟩
set_option maxRecDepth 20000 in
theorem kX7_does_170 : zLS E_X7_does 170 E_X7_lettered 2 := zLS.of gX7_does_X7_lettered okX7_lettered ⟨by decide +kernel, by decide +kernel, by decide +kernel⟩ ⟨by decide, by decide⟩
set_option maxRecDepth 20000 in
theorem kX7_does_222 : zLV E_X7_does 222 E_X7_goPrint 1 := zLV.of gX7_does_X7_goPrint okX7_goPrint ⟨by decide +kernel, by decide +kernel, by decide +kernel⟩ ⟨by decide, by decide⟩
set_option maxRecDepth 20000 in
theorem kX7_does_192 : zLV E_X7_does 192 E_X7_printedOf 2 := zLV.of gX7_does_X7_printedOf okX7_printedOf ⟨by decide +kernel, by decide +kernel, by decide +kernel⟩ ⟨by decide, by decide⟩
set_option maxRecDepth 20000 in
theorem kX7_runScript_118 : zLS E_X7_runScript 118 E_X7_in 3 := zLS.of gX7_runScript_X7_in okX7_in ⟨by decide +kernel, by decide +kernel, by decide +kernel⟩ ⟨by decide, by decide⟩
set_option maxRecDepth 20000 in
theorem kX7_runScript_81 : zLS E_X7_runScript 81 E_X7_tenTo 1 := zLS.of gX7_runScript_X7_tenTo okX7_tenTo ⟨by decide +kernel, by decide +kernel, by decide +kernel⟩ ⟨by decide, by decide⟩
set_option maxRecDepth 20000 in
theorem kX7_runScript_125 : zLV E_X7_runScript 125 E_X7_refused 1 := zLV.of gX7_runScript_X7_refused okX7_refused ⟨by decide +kernel, by decide +kernel, by decide +kernel⟩ ⟨by decide, by decide⟩
set_option maxRecDepth 20000 in
theorem kX7_runScript_225 : zLV E_X7_runScript 225 E_X7_begin 0 := zLV.of gX7_runScript_X7_begin okX7_begin ⟨by decide +kernel, by decide +kernel, by decide +kernel⟩ ⟨by decide, by decide⟩
set_option maxRecDepth 20000 in
theorem kX7_runScript_245 : zLV E_X7_runScript 245 E_X7_does 1 := zLV.of gX7_runScript_X7_does okX7_does ⟨by decide +kernel, by decide +kernel, by decide +kernel⟩ ⟨by decide, by decide⟩
set_option maxRecDepth 20000 in
theorem kX7_round_214 : zLS E_X7_round 214 E_X7_drop 2 := zLS.of gX7_round_X7_drop okX7_drop ⟨by decide +kernel, by decide +kernel, by decide +kernel⟩ ⟨by decide, by decide⟩
set_option maxRecDepth 20000 in
theorem kX7_round_67 : zLS E_X7_round 67 E_X7_cell 2 := zLS.of gX7_round_X7_cell okX7_cell ⟨by decide +kernel, by decide +kernel, by decide +kernel⟩ ⟨by decide, by decide⟩
set_option maxRecDepth 20000 in
theorem kX7_round_71 : zLS E_X7_round 71 E_X7_author 2 := zLS.of gX7_round_X7_author okX7_author ⟨by decide +kernel, by decide +kernel, by decide +kernel⟩ ⟨by decide, by decide⟩
set_option maxRecDepth 20000 in
theorem kX7_simulate_118 : zLS E_X7_simulate 118 E_X7_in 3 := zLS.of gX7_simulate_X7_in okX7_in ⟨by decide +kernel, by decide +kernel, by decide +kernel⟩ ⟨by decide, by decide⟩
set_option maxRecDepth 20000 in
theorem kX7_simulate_125 : zLV E_X7_simulate 125 E_X7_refused 1 := zLV.of gX7_simulate_X7_refused okX7_refused ⟨by decide +kernel, by decide +kernel, by decide +kernel⟩ ⟨by decide, by decide⟩
set_option maxRecDepth 20000 in
theorem kX7_simulate_225 : zLV E_X7_simulate 225 E_X7_begin 0 := zLV.of gX7_simulate_X7_begin okX7_begin ⟨by decide +kernel, by decide +kernel, by decide +kernel⟩ ⟨by decide, by decide⟩
set_option maxRecDepth 20000 in
theorem kX7_simulate_254 : zLV E_X7_simulate 254 E_X7_round 1 := zLV.of gX7_simulate_X7_round okX7_round ⟨by decide +kernel, by decide +kernel, by decide +kernel⟩ ⟨by decide, by decide⟩
set_option maxRecDepth 20000 in
theorem kX7_simulate_108 : zLV E_X7_simulate 108 E_X7_lay 2 := zLV.of gX7_simulate_X7_lay okX7_lay ⟨by decide +kernel, by decide +kernel, by decide +kernel⟩ ⟨by decide, by decide⟩
set_option maxRecDepth 20000 in
theorem kX7_simulate_170 : zLS E_X7_simulate 170 E_X7_lettered 2 := zLS.of gX7_simulate_X7_lettered okX7_lettered ⟨by decide +kernel, by decide +kernel, by decide +kernel⟩ ⟨by decide, by decide⟩
set_option maxRecDepth 20000 in
theorem kX7_save_118 : zLS E_X7_save 118 E_X7_in 3 := zLS.of gX7_save_X7_in okX7_in ⟨by decide +kernel, by decide +kernel, by decide +kernel⟩ ⟨by decide, by decide⟩
set_option maxRecDepth 20000 in
theorem kX7_save_125 : zLV E_X7_save 125 E_X7_refused 1 := zLV.of gX7_save_X7_refused okX7_refused ⟨by decide +kernel, by decide +kernel, by decide +kernel⟩ ⟨by decide, by decide⟩
set_option maxRecDepth 20000 in
theorem kX7_save_63 : zLS E_X7_save 63 E_X7_copy 5 := zLS.of gX7_save_X7_copy okX7_copy ⟨by decide +kernel, by decide +kernel, by decide +kernel⟩ ⟨by decide, by decide⟩
set_option maxRecDepth 20000 in
theorem kX7_restore_118 : zLS E_X7_restore 118 E_X7_in 3 := zLS.of gX7_restore_X7_in okX7_in ⟨by decide +kernel, by decide +kernel, by decide +kernel⟩ ⟨by decide, by decide⟩
set_option maxRecDepth 20000 in
theorem kX7_restore_125 : zLV E_X7_restore 125 E_X7_refused 1 := zLV.of gX7_restore_X7_refused okX7_refused ⟨by decide +kernel, by decide +kernel, by decide +kernel⟩ ⟨by decide, by decide⟩
set_option maxRecDepth 20000 in
theorem kX7_restore_63 : zLS E_X7_restore 63 E_X7_copy 5 := zLS.of gX7_restore_X7_copy okX7_copy ⟨by decide +kernel, by decide +kernel, by decide +kernel⟩ ⟨by decide, by decide⟩
