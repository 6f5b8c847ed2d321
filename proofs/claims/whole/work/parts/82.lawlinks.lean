set_option maxRecDepth 20000 in
theorem kL_law_87 : zLI E_L_law 87 E_X6_init 0 := zLI.of gL_law_X6_init okX6_init rfl ⟨by decide +kernel, by decide +kernel, by decide +kernel⟩ rfl ⟨by decide +kernel, by decide +kernel, by decide +kernel⟩ ⟨by decide, by decide⟩
set_option maxRecDepth 20000 in
theorem kL_law_90 : zLI E_L_law 90 E_X7_init 0 := zLI.of gL_law_X7_init okX7_init rfl ⟨by decide +kernel, by decide +kernel, by decide +kernel⟩ rfl ⟨by decide +kernel, by decide +kernel, by decide +kernel⟩ ⟨by decide, by decide⟩
set_option maxRecDepth 20000 in
theorem kL_law_91 : zLX E_L_law 91 E_L_append 3 := zLX.of gL_law_L_append okL_append ⟨by decide +kernel, by decide +kernel, by decide +kernel⟩ ⟨by decide, by decide⟩
set_option maxRecDepth 20000 in
theorem kL_law_96 : zLV E_L_law 96 E_X7_append 1 := zLV.of gL_law_X7_append okX7_append ⟨by decide +kernel, by decide +kernel, by decide +kernel⟩ ⟨by decide, by decide⟩
set_option maxRecDepth 20000 in
theorem kL_law_97 : zLV E_L_law 97 E_X7_thrown 0 := zLV.of gL_law_X7_thrown okX7_thrown ⟨by decide +kernel, by decide +kernel, by decide +kernel⟩ ⟨by decide, by decide⟩
set_option maxRecDepth 20000 in
theorem kL_law_100 : zLV E_L_law 100 E_X6_clearText 0 := zLV.of gL_law_X6_clearText okX6_clearText ⟨by decide +kernel, by decide +kernel, by decide +kernel⟩ ⟨by decide, by decide⟩
set_option maxRecDepth 20000 in
theorem kL_law_103 : zLV E_L_law 103 E_X7_clearText 0 := zLV.of gL_law_X7_clearText okX7_clearText ⟨by decide +kernel, by decide +kernel, by decide +kernel⟩ ⟨by decide, by decide⟩
set_option maxRecDepth 20000 in
theorem kL_law_104 : zLV E_L_law 104 E_X6_errorPosition 0 := zLV.of gL_law_X6_errorPosition okX6_errorPosition ⟨by decide +kernel, by decide +kernel, by decide +kernel⟩ ⟨by decide, by decide⟩
set_option maxRecDepth 20000 in
theorem kL_law_107 : zLV E_L_law 107 E_X7_errorPosition 0 := zLV.of gL_law_X7_errorPosition okX7_errorPosition ⟨by decide +kernel, by decide +kernel, by decide +kernel⟩ ⟨by decide, by decide⟩
set_option maxRecDepth 20000 in
theorem kL_law_108 : zLX E_L_law 108 E_L_load 2 := zLX.of gL_law_L_load okL_load ⟨by decide +kernel, by decide +kernel, by decide +kernel⟩ ⟨by decide, by decide⟩
set_option maxRecDepth 20000 in
theorem kL_law_111 : zLV E_L_law 111 E_X7_load 0 := zLV.of gL_law_X7_load okX7_load ⟨by decide +kernel, by decide +kernel, by decide +kernel⟩ ⟨by decide, by decide⟩
set_option maxRecDepth 20000 in
theorem kL_law_112 : zLX E_L_law 112 E_L_about 3 := zLX.of gL_law_L_about okL_about ⟨by decide +kernel, by decide +kernel, by decide +kernel⟩ ⟨by decide, by decide⟩
set_option maxRecDepth 20000 in
theorem kL_law_114 : zLV E_L_law 114 E_X7_about 1 := zLV.of gL_law_X7_about okX7_about ⟨by decide +kernel, by decide +kernel, by decide +kernel⟩ ⟨by decide, by decide⟩
set_option maxRecDepth 20000 in
theorem kL_law_115 : zLX E_L_law 115 E_L_work 4 := zLX.of gL_law_L_work okL_work ⟨by decide +kernel, by decide +kernel, by decide +kernel⟩ ⟨by decide, by decide⟩
set_option maxRecDepth 20000 in
theorem kL_law_118 : zLV E_L_law 118 E_X7_work 2 := zLV.of gL_law_X7_work okX7_work ⟨by decide +kernel, by decide +kernel, by decide +kernel⟩ ⟨by decide, by decide⟩
set_option maxRecDepth 20000 in
theorem kL_law_119 : zLX E_L_law 119 E_L_letter 5 := zLX.of gL_law_L_letter okL_letter ⟨by decide +kernel, by decide +kernel, by decide +kernel⟩ ⟨by decide, by decide⟩
set_option maxRecDepth 20000 in
theorem kL_law_122 : zLV E_L_law 122 E_X7_letter 3 := zLV.of gL_law_X7_letter okX7_letter ⟨by decide +kernel, by decide +kernel, by decide +kernel⟩ ⟨by decide, by decide⟩
set_option maxRecDepth 20000 in
theorem kL_law_123 : zLX E_L_law 123 E_L_key 4 := zLX.of gL_law_L_key okL_key ⟨by decide +kernel, by decide +kernel, by decide +kernel⟩ ⟨by decide, by decide⟩
set_option maxRecDepth 20000 in
theorem kL_law_125 : zLV E_L_law 125 E_X7_key 2 := zLV.of gL_law_X7_key okX7_key ⟨by decide +kernel, by decide +kernel, by decide +kernel⟩ ⟨by decide, by decide⟩
set_option maxRecDepth 20000 in
theorem kL_law_126 : zLX E_L_law 126 E_L_at 3 := zLX.of gL_law_L_at okL_at ⟨by decide +kernel, by decide +kernel, by decide +kernel⟩ ⟨by decide, by decide⟩
set_option maxRecDepth 20000 in
theorem kL_law_128 : zLV E_L_law 128 E_X7_at 1 := zLV.of gL_law_X7_at okX7_at ⟨by decide +kernel, by decide +kernel, by decide +kernel⟩ ⟨by decide, by decide⟩
set_option maxRecDepth 20000 in
theorem kL_law_129 : zLV E_L_law 129 E_X6_meaning 0 := zLV.of gL_law_X6_meaning okX6_meaning ⟨by decide +kernel, by decide +kernel, by decide +kernel⟩ ⟨by decide, by decide⟩
set_option maxRecDepth 20000 in
theorem kL_law_132 : zLV E_L_law 132 E_X7_meaning 0 := zLV.of gL_law_X7_meaning okX7_meaning ⟨by decide +kernel, by decide +kernel, by decide +kernel⟩ ⟨by decide, by decide⟩
set_option maxRecDepth 20000 in
theorem kL_law_133 : zLV E_L_law 133 E_X6_printedMeaning 0 := zLV.of gL_law_X6_printedMeaning okX6_printedMeaning ⟨by decide +kernel, by decide +kernel, by decide +kernel⟩ ⟨by decide, by decide⟩
set_option maxRecDepth 20000 in
theorem kL_law_136 : zLV E_L_law 136 E_X7_printedMeaning 0 := zLV.of gL_law_X7_printedMeaning okX7_printedMeaning ⟨by decide +kernel, by decide +kernel, by decide +kernel⟩ ⟨by decide, by decide⟩
set_option maxRecDepth 20000 in
theorem kL_law_137 : zLX E_L_law 137 E_L_printed 3 := zLX.of gL_law_L_printed okL_printed ⟨by decide +kernel, by decide +kernel, by decide +kernel⟩ ⟨by decide, by decide⟩
set_option maxRecDepth 20000 in
theorem kL_law_139 : zLV E_L_law 139 E_X7_printed 1 := zLV.of gL_law_X7_printed okX7_printed ⟨by decide +kernel, by decide +kernel, by decide +kernel⟩ ⟨by decide, by decide⟩
set_option maxRecDepth 20000 in
theorem kL_law_140 : zLX E_L_law 140 E_L_add 2 := zLX.of gL_law_L_add okL_add ⟨by decide +kernel, by decide +kernel, by decide +kernel⟩ ⟨by decide, by decide⟩
set_option maxRecDepth 20000 in
theorem kL_law_142 : zLV E_L_law 142 E_X7_add 0 := zLV.of gL_law_X7_add okX7_add ⟨by decide +kernel, by decide +kernel, by decide +kernel⟩ ⟨by decide, by decide⟩
set_option maxRecDepth 20000 in
theorem kL_law_143 : zLX E_L_law 143 E_L_change 3 := zLX.of gL_law_L_change okL_change ⟨by decide +kernel, by decide +kernel, by decide +kernel⟩ ⟨by decide, by decide⟩
set_option maxRecDepth 20000 in
theorem kL_law_145 : zLV E_L_law 145 E_X7_change 1 := zLV.of gL_law_X7_change okX7_change ⟨by decide +kernel, by decide +kernel, by decide +kernel⟩ ⟨by decide, by decide⟩
set_option maxRecDepth 20000 in
theorem kL_law_146 : zLX E_L_law 146 E_L_setYear 4 := zLX.of gL_law_L_setYear okL_setYear ⟨by decide +kernel, by decide +kernel, by decide +kernel⟩ ⟨by decide, by decide⟩
set_option maxRecDepth 20000 in
theorem kL_law_148 : zLV E_L_law 148 E_X7_setYear 2 := zLV.of gL_law_X7_setYear okX7_setYear ⟨by decide +kernel, by decide +kernel, by decide +kernel⟩ ⟨by decide, by decide⟩
set_option maxRecDepth 20000 in
theorem kL_law_149 : zLX E_L_law 149 E_L_remove 3 := zLX.of gL_law_L_remove okL_remove ⟨by decide +kernel, by decide +kernel, by decide +kernel⟩ ⟨by decide, by decide⟩
set_option maxRecDepth 20000 in
theorem kL_law_151 : zLV E_L_law 151 E_X7_remove 1 := zLV.of gL_law_X7_remove okX7_remove ⟨by decide +kernel, by decide +kernel, by decide +kernel⟩ ⟨by decide, by decide⟩
set_option maxRecDepth 20000 in
theorem kL_law_152 : zLX E_L_law 152 E_L_setStyle 3 := zLX.of gL_law_L_setStyle okL_setStyle ⟨by decide +kernel, by decide +kernel, by decide +kernel⟩ ⟨by decide, by decide⟩
set_option maxRecDepth 20000 in
theorem kL_law_154 : zLV E_L_law 154 E_X7_setStyle 1 := zLV.of gL_law_X7_setStyle okX7_setStyle ⟨by decide +kernel, by decide +kernel, by decide +kernel⟩ ⟨by decide, by decide⟩
set_option maxRecDepth 20000 in
theorem kL_law_155 : zLX E_L_law 155 E_L_setOrder 3 := zLX.of gL_law_L_setOrder okL_setOrder ⟨by decide +kernel, by decide +kernel, by decide +kernel⟩ ⟨by decide, by decide⟩
set_option maxRecDepth 20000 in
theorem kL_law_157 : zLV E_L_law 157 E_X7_setOrder 1 := zLV.of gL_law_X7_setOrder okX7_setOrder ⟨by decide +kernel, by decide +kernel, by decide +kernel⟩ ⟨by decide, by decide⟩
set_option maxRecDepth 20000 in
theorem kL_law_158 : zLV E_L_law 158 E_X6_print 0 := zLV.of gL_law_X6_print okX6_print ⟨by decide +kernel, by decide +kernel, by decide +kernel⟩ ⟨by decide, by decide⟩
set_option maxRecDepth 20000 in
theorem kL_law_161 : zLV E_L_law 161 E_X7_print 0 := zLV.of gL_law_X7_print okX7_print ⟨by decide +kernel, by decide +kernel, by decide +kernel⟩ ⟨by decide, by decide⟩
set_option maxRecDepth 20000 in
theorem kL_law_162 : zLX E_L_law 162 E_L_undo 2 := zLX.of gL_law_L_undo okL_undo ⟨by decide +kernel, by decide +kernel, by decide +kernel⟩ ⟨by decide, by decide⟩
set_option maxRecDepth 20000 in
theorem kL_law_164 : zLV E_L_law 164 E_X7_undo 0 := zLV.of gL_law_X7_undo okX7_undo ⟨by decide +kernel, by decide +kernel, by decide +kernel⟩ ⟨by decide, by decide⟩
set_option maxRecDepth 20000 in
theorem kL_law_165 : zLX E_L_law 165 E_L_ifRemoved 3 := zLX.of gL_law_L_ifRemoved okL_ifRemoved ⟨by decide +kernel, by decide +kernel, by decide +kernel⟩ ⟨by decide, by decide⟩
set_option maxRecDepth 20000 in
theorem kL_law_167 : zLV E_L_law 167 E_X7_ifRemoved 1 := zLV.of gL_law_X7_ifRemoved okX7_ifRemoved ⟨by decide +kernel, by decide +kernel, by decide +kernel⟩ ⟨by decide, by decide⟩
set_option maxRecDepth 20000 in
theorem kL_law_168 : zLX E_L_law 168 E_L_freeYear 3 := zLX.of gL_law_L_freeYear okL_freeYear ⟨by decide +kernel, by decide +kernel, by decide +kernel⟩ ⟨by decide, by decide⟩
set_option maxRecDepth 20000 in
theorem kL_law_170 : zLV E_L_law 170 E_X7_freeYear 1 := zLV.of gL_law_X7_freeYear okX7_freeYear ⟨by decide +kernel, by decide +kernel, by decide +kernel⟩ ⟨by decide, by decide⟩
set_option maxRecDepth 20000 in
theorem kL_law_171 : zLX E_L_law 171 E_L_lettersWith 3 := zLX.of gL_law_L_lettersWith okL_lettersWith ⟨by decide +kernel, by decide +kernel, by decide +kernel⟩ ⟨by decide, by decide⟩
set_option maxRecDepth 20000 in
theorem kL_law_173 : zLV E_L_law 173 E_X7_lettersWith 1 := zLV.of gL_law_X7_lettersWith okX7_lettersWith ⟨by decide +kernel, by decide +kernel, by decide +kernel⟩ ⟨by decide, by decide⟩
set_option maxRecDepth 20000 in
theorem kL_law_174 : zLV E_L_law 174 E_X6_bestStyle 0 := zLV.of gL_law_X6_bestStyle okX6_bestStyle ⟨by decide +kernel, by decide +kernel, by decide +kernel⟩ ⟨by decide, by decide⟩
set_option maxRecDepth 20000 in
theorem kL_law_177 : zLV E_L_law 177 E_X7_bestStyle 0 := zLV.of gL_law_X7_bestStyle okX7_bestStyle ⟨by decide +kernel, by decide +kernel, by decide +kernel⟩ ⟨by decide, by decide⟩
set_option maxRecDepth 20000 in
theorem kL_law_178 : zLV E_L_law 178 E_X6_weightiest 0 := zLV.of gL_law_X6_weightiest okX6_weightiest ⟨by decide +kernel, by decide +kernel, by decide +kernel⟩ ⟨by decide, by decide⟩
set_option maxRecDepth 20000 in
theorem kL_law_181 : zLV E_L_law 181 E_X7_weightiest 0 := zLV.of gL_law_X7_weightiest okX7_weightiest ⟨by decide +kernel, by decide +kernel, by decide +kernel⟩ ⟨by decide, by decide⟩
set_option maxRecDepth 20000 in
theorem kL_law_184 : zLX E_L_law 184 E_L_runScript 4 := zLX.of gL_law_L_runScript okL_runScript ⟨by decide +kernel, by decide +kernel, by decide +kernel⟩ ⟨by decide, by decide⟩
set_option maxRecDepth 20000 in
theorem kL_law_187 : zLV E_L_law 187 E_X7_runScript 2 := zLV.of gL_law_X7_runScript okX7_runScript ⟨by decide +kernel, by decide +kernel, by decide +kernel⟩ ⟨by decide, by decide⟩
set_option maxRecDepth 20000 in
theorem kL_law_188 : zLX E_L_law 188 E_L_simulate 4 := zLX.of gL_law_L_simulate okL_simulate ⟨by decide +kernel, by decide +kernel, by decide +kernel⟩ ⟨by decide, by decide⟩
set_option maxRecDepth 20000 in
theorem kL_law_191 : zLV E_L_law 191 E_X7_simulate 2 := zLV.of gL_law_X7_simulate okX7_simulate ⟨by decide +kernel, by decide +kernel, by decide +kernel⟩ ⟨by decide, by decide⟩
set_option maxRecDepth 20000 in
theorem kL_law_192 : zLX E_L_law 192 E_L_save 3 := zLX.of gL_law_L_save okL_save ⟨by decide +kernel, by decide +kernel, by decide +kernel⟩ ⟨by decide, by decide⟩
set_option maxRecDepth 20000 in
theorem kL_law_194 : zLV E_L_law 194 E_X7_save 1 := zLV.of gL_law_X7_save okX7_save ⟨by decide +kernel, by decide +kernel, by decide +kernel⟩ ⟨by decide, by decide⟩
set_option maxRecDepth 20000 in
theorem kL_law_195 : zLX E_L_law 195 E_L_restore 3 := zLX.of gL_law_L_restore okL_restore ⟨by decide +kernel, by decide +kernel, by decide +kernel⟩ ⟨by decide, by decide⟩
set_option maxRecDepth 20000 in
theorem kL_law_197 : zLV E_L_law 197 E_X7_restore 1 := zLV.of gL_law_X7_restore okX7_restore ⟨by decide +kernel, by decide +kernel, by decide +kernel⟩ ⟨by decide, by decide⟩
