set_option maxRecDepth 20000 in
theorem kL_now_99 : zLX E_L_now 99 E_L_about 2 := zLX.of gL_now_L_about okL_about ⟨by decide +kernel, by decide +kernel, by decide +kernel⟩ ⟨by decide, by decide⟩
set_option maxRecDepth 20000 in
theorem kL_now_104 : zLX E_L_now 104 E_L_work 3 := zLX.of gL_now_L_work okL_work ⟨by decide +kernel, by decide +kernel, by decide +kernel⟩ ⟨by decide, by decide⟩
set_option maxRecDepth 20000 in
theorem kL_now_107 : zLX E_L_now 107 E_L_key 3 := zLX.of gL_now_L_key okL_key ⟨by decide +kernel, by decide +kernel, by decide +kernel⟩ ⟨by decide, by decide⟩
set_option maxRecDepth 20000 in
theorem kL_now_109 : zLX E_L_now 109 E_L_letter 4 := zLX.of gL_now_L_letter okL_letter ⟨by decide +kernel, by decide +kernel, by decide +kernel⟩ ⟨by decide, by decide⟩
set_option maxRecDepth 20000 in
theorem kL_now_112 : zLX E_L_now 112 E_L_printed 2 := zLX.of gL_now_L_printed okL_printed ⟨by decide +kernel, by decide +kernel, by decide +kernel⟩ ⟨by decide, by decide⟩
set_option maxRecDepth 20000 in
theorem kL_errors_114 : zLS E_L_errors 114 E_L_now 1 := zLS.of gL_errors_L_now okL_now ⟨by decide +kernel, by decide +kernel, by decide +kernel⟩ ⟨by decide, by decide⟩
set_option maxRecDepth 20000 in
theorem kL_errors_99 : zLX E_L_errors 99 E_L_about 2 := zLX.of gL_errors_L_about okL_about ⟨by decide +kernel, by decide +kernel, by decide +kernel⟩ ⟨by decide, by decide⟩
set_option maxRecDepth 20000 in
theorem kL_errors_104 : zLX E_L_errors 104 E_L_work 3 := zLX.of gL_errors_L_work okL_work ⟨by decide +kernel, by decide +kernel, by decide +kernel⟩ ⟨by decide, by decide⟩
set_option maxRecDepth 20000 in
theorem kL_errors_109 : zLX E_L_errors 109 E_L_letter 4 := zLX.of gL_errors_L_letter okL_letter ⟨by decide +kernel, by decide +kernel, by decide +kernel⟩ ⟨by decide, by decide⟩
set_option maxRecDepth 20000 in
theorem kL_errors_107 : zLX E_L_errors 107 E_L_key 3 := zLX.of gL_errors_L_key okL_key ⟨by decide +kernel, by decide +kernel, by decide +kernel⟩ ⟨by decide, by decide⟩
set_option maxRecDepth 20000 in
theorem kL_errors_118 : zLX E_L_errors 118 E_L_at 2 := zLX.of gL_errors_L_at okL_at ⟨by decide +kernel, by decide +kernel, by decide +kernel⟩ ⟨by decide, by decide⟩
set_option maxRecDepth 20000 in
theorem kL_errors_112 : zLX E_L_errors 112 E_L_printed 2 := zLX.of gL_errors_L_printed okL_printed ⟨by decide +kernel, by decide +kernel, by decide +kernel⟩ ⟨by decide, by decide⟩
set_option maxRecDepth 20000 in
theorem kL_errors_120 : zLX E_L_errors 120 E_L_change 2 := zLX.of gL_errors_L_change okL_change ⟨by decide +kernel, by decide +kernel, by decide +kernel⟩ ⟨by decide, by decide⟩
set_option maxRecDepth 20000 in
theorem kL_errors_122 : zLX E_L_errors 122 E_L_setYear 3 := zLX.of gL_errors_L_setYear okL_setYear ⟨by decide +kernel, by decide +kernel, by decide +kernel⟩ ⟨by decide, by decide⟩
set_option maxRecDepth 20000 in
theorem kL_errors_124 : zLX E_L_errors 124 E_L_remove 2 := zLX.of gL_errors_L_remove okL_remove ⟨by decide +kernel, by decide +kernel, by decide +kernel⟩ ⟨by decide, by decide⟩
set_option maxRecDepth 20000 in
theorem kL_errors_126 : zLX E_L_errors 126 E_L_setStyle 2 := zLX.of gL_errors_L_setStyle okL_setStyle ⟨by decide +kernel, by decide +kernel, by decide +kernel⟩ ⟨by decide, by decide⟩
set_option maxRecDepth 20000 in
theorem kL_errors_128 : zLX E_L_errors 128 E_L_setOrder 2 := zLX.of gL_errors_L_setOrder okL_setOrder ⟨by decide +kernel, by decide +kernel, by decide +kernel⟩ ⟨by decide, by decide⟩
set_option maxRecDepth 20000 in
theorem kL_errors_130 : zLX E_L_errors 130 E_L_ifRemoved 2 := zLX.of gL_errors_L_ifRemoved okL_ifRemoved ⟨by decide +kernel, by decide +kernel, by decide +kernel⟩ ⟨by decide, by decide⟩
set_option maxRecDepth 20000 in
theorem kL_errors_132 : zLX E_L_errors 132 E_L_freeYear 2 := zLX.of gL_errors_L_freeYear okL_freeYear ⟨by decide +kernel, by decide +kernel, by decide +kernel⟩ ⟨by decide, by decide⟩
set_option maxRecDepth 20000 in
theorem kL_errors_134 : zLX E_L_errors 134 E_L_lettersWith 2 := zLX.of gL_errors_L_lettersWith okL_lettersWith ⟨by decide +kernel, by decide +kernel, by decide +kernel⟩ ⟨by decide, by decide⟩
set_option maxRecDepth 20000 in
theorem kL_errors_136 : zLV E_L_errors 136 E_X6_errorPosition 0 := zLV.of gL_errors_X6_errorPosition okX6_errorPosition ⟨by decide +kernel, by decide +kernel, by decide +kernel⟩ ⟨by decide, by decide⟩
set_option maxRecDepth 20000 in
theorem kL_errors_139 : zLX E_L_errors 139 E_L_load 1 := zLX.of gL_errors_L_load okL_load ⟨by decide +kernel, by decide +kernel, by decide +kernel⟩ ⟨by decide, by decide⟩
set_option maxRecDepth 20000 in
theorem kL_errors_141 : zLX E_L_errors 141 E_L_add 1 := zLX.of gL_errors_L_add okL_add ⟨by decide +kernel, by decide +kernel, by decide +kernel⟩ ⟨by decide, by decide⟩
set_option maxRecDepth 20000 in
theorem kL_errors_143 : zLX E_L_errors 143 E_L_script 3 := zLX.of gL_errors_L_script okL_script ⟨by decide +kernel, by decide +kernel, by decide +kernel⟩ ⟨by decide, by decide⟩
set_option maxRecDepth 20000 in
theorem kL_errors_149 : zLX E_L_errors 149 E_L_simulate 3 := zLX.of gL_errors_L_simulate okL_simulate ⟨by decide +kernel, by decide +kernel, by decide +kernel⟩ ⟨by decide, by decide⟩
set_option maxRecDepth 20000 in
theorem kL_errors_152 : zLX E_L_errors 152 E_L_save 2 := zLX.of gL_errors_L_save okL_save ⟨by decide +kernel, by decide +kernel, by decide +kernel⟩ ⟨by decide, by decide⟩
set_option maxRecDepth 20000 in
theorem kL_errors_154 : zLX E_L_errors 154 E_L_restore 2 := zLX.of gL_errors_L_restore okL_restore ⟨by decide +kernel, by decide +kernel, by decide +kernel⟩ ⟨by decide, by decide⟩
set_option maxRecDepth 20000 in
theorem kL_errors_156 : zLX E_L_errors 156 E_L_append 2 := zLX.of gL_errors_L_append okL_append ⟨by decide +kernel, by decide +kernel, by decide +kernel⟩ ⟨by decide, by decide⟩
set_option maxRecDepth 20000 in
theorem kL_sameKey_104 : zLX E_L_sameKey 104 E_L_work 3 := zLX.of gL_sameKey_L_work okL_work ⟨by decide +kernel, by decide +kernel, by decide +kernel⟩ ⟨by decide, by decide⟩
set_option maxRecDepth 20000 in
theorem kL_sameKey_107 : zLX E_L_sameKey 107 E_L_key 3 := zLX.of gL_sameKey_L_key okL_key ⟨by decide +kernel, by decide +kernel, by decide +kernel⟩ ⟨by decide, by decide⟩
set_option maxRecDepth 20000 in
theorem kL_sameStem_104 : zLX E_L_sameStem 104 E_L_work 3 := zLX.of gL_sameStem_L_work okL_work ⟨by decide +kernel, by decide +kernel, by decide +kernel⟩ ⟨by decide, by decide⟩
set_option maxRecDepth 20000 in
theorem kL_sameStem_107 : zLX E_L_sameStem 107 E_L_key 3 := zLX.of gL_sameStem_L_key okL_key ⟨by decide +kernel, by decide +kernel, by decide +kernel⟩ ⟨by decide, by decide⟩
set_option maxRecDepth 20000 in
theorem kL_names_109 : zLX E_L_names 109 E_L_letter 4 := zLX.of gL_names_L_letter okL_letter ⟨by decide +kernel, by decide +kernel, by decide +kernel⟩ ⟨by decide, by decide⟩
set_option maxRecDepth 20000 in
theorem kL_authors_104 : zLX E_L_authors 104 E_L_work 3 := zLX.of gL_authors_L_work okL_work ⟨by decide +kernel, by decide +kernel, by decide +kernel⟩ ⟨by decide, by decide⟩
set_option maxRecDepth 20000 in
theorem kL_authors_158 : zLS E_L_authors 158 E_L_names 5 := zLS.of gL_authors_L_names okL_names ⟨by decide +kernel, by decide +kernel, by decide +kernel⟩ ⟨by decide, by decide⟩
set_option maxRecDepth 20000 in
theorem kL_kept_99 : zLX E_L_kept 99 E_L_about 2 := zLX.of gL_kept_L_about okL_about ⟨by decide +kernel, by decide +kernel, by decide +kernel⟩ ⟨by decide, by decide⟩
set_option maxRecDepth 20000 in
theorem kL_kept_164 : zLS E_L_kept 164 E_L_in 3 := zLS.of gL_kept_L_in okL_in ⟨by decide +kernel, by decide +kernel, by decide +kernel⟩ ⟨by decide, by decide⟩
set_option maxRecDepth 20000 in
theorem kL_kept_118 : zLX E_L_kept 118 E_L_at 2 := zLX.of gL_kept_L_at okL_at ⟨by decide +kernel, by decide +kernel, by decide +kernel⟩ ⟨by decide, by decide⟩
set_option maxRecDepth 20000 in
theorem kL_kept_104 : zLX E_L_kept 104 E_L_work 3 := zLX.of gL_kept_L_work okL_work ⟨by decide +kernel, by decide +kernel, by decide +kernel⟩ ⟨by decide, by decide⟩
set_option maxRecDepth 20000 in
theorem kL_kept_170 : zLS E_L_kept 170 E_L_authors 3 := zLS.of gL_kept_L_authors okL_authors ⟨by decide +kernel, by decide +kernel, by decide +kernel⟩ ⟨by decide, by decide⟩
set_option maxRecDepth 20000 in
theorem kL_kept_158 : zLS E_L_kept 158 E_L_names 5 := zLS.of gL_kept_L_names okL_names ⟨by decide +kernel, by decide +kernel, by decide +kernel⟩ ⟨by decide, by decide⟩
set_option maxRecDepth 20000 in
theorem kL_kept_174 : zLS E_L_kept 174 E_L_sameStem 3 := zLS.of gL_kept_L_sameStem okL_sameStem ⟨by decide +kernel, by decide +kernel, by decide +kernel⟩ ⟨by decide, by decide⟩
set_option maxRecDepth 20000 in
theorem kL_kept_178 : zLS E_L_kept 178 E_L_sameKey 3 := zLS.of gL_kept_L_sameKey okL_sameKey ⟨by decide +kernel, by decide +kernel, by decide +kernel⟩ ⟨by decide, by decide⟩
set_option maxRecDepth 20000 in
theorem kL_kept_107 : zLX E_L_kept 107 E_L_key 3 := zLX.of gL_kept_L_key okL_key ⟨by decide +kernel, by decide +kernel, by decide +kernel⟩ ⟨by decide, by decide⟩
set_option maxRecDepth 20000 in
theorem kL_kept_109 : zLX E_L_kept 109 E_L_letter 4 := zLX.of gL_kept_L_letter okL_letter ⟨by decide +kernel, by decide +kernel, by decide +kernel⟩ ⟨by decide, by decide⟩
set_option maxRecDepth 20000 in
theorem kL_kept_112 : zLX E_L_kept 112 E_L_printed 2 := zLX.of gL_kept_L_printed okL_printed ⟨by decide +kernel, by decide +kernel, by decide +kernel⟩ ⟨by decide, by decide⟩
set_option maxRecDepth 20000 in
theorem kL_kept_134 : zLX E_L_kept 134 E_L_lettersWith 2 := zLX.of gL_kept_L_lettersWith okL_lettersWith ⟨by decide +kernel, by decide +kernel, by decide +kernel⟩ ⟨by decide, by decide⟩
set_option maxRecDepth 20000 in
theorem kL_kept_197 : zLV E_L_kept 197 E_X6_bestStyle 0 := zLV.of gL_kept_X6_bestStyle okX6_bestStyle ⟨by decide +kernel, by decide +kernel, by decide +kernel⟩ ⟨by decide, by decide⟩
set_option maxRecDepth 20000 in
theorem kL_kept_200 : zLV E_L_kept 200 E_X6_weightiest 0 := zLV.of gL_kept_X6_weightiest okX6_weightiest ⟨by decide +kernel, by decide +kernel, by decide +kernel⟩ ⟨by decide, by decide⟩
set_option maxRecDepth 20000 in
theorem kL_follows_114 : zLS E_L_follows 114 E_L_now 1 := zLS.of gL_follows_L_now okL_now ⟨by decide +kernel, by decide +kernel, by decide +kernel⟩ ⟨by decide, by decide⟩
set_option maxRecDepth 20000 in
theorem kL_follows_99 : zLX E_L_follows 99 E_L_about 2 := zLX.of gL_follows_L_about okL_about ⟨by decide +kernel, by decide +kernel, by decide +kernel⟩ ⟨by decide, by decide⟩
set_option maxRecDepth 20000 in
theorem kL_follows_152 : zLX E_L_follows 152 E_L_save 2 := zLX.of gL_follows_L_save okL_save ⟨by decide +kernel, by decide +kernel, by decide +kernel⟩ ⟨by decide, by decide⟩
set_option maxRecDepth 20000 in
theorem kL_follows_149 : zLX E_L_follows 149 E_L_simulate 3 := zLX.of gL_follows_L_simulate okL_simulate ⟨by decide +kernel, by decide +kernel, by decide +kernel⟩ ⟨by decide, by decide⟩
set_option maxRecDepth 20000 in
theorem kL_follows_197 : zLV E_L_follows 197 E_X6_bestStyle 0 := zLV.of gL_follows_X6_bestStyle okX6_bestStyle ⟨by decide +kernel, by decide +kernel, by decide +kernel⟩ ⟨by decide, by decide⟩
set_option maxRecDepth 20000 in
theorem kL_follows_134 : zLX E_L_follows 134 E_L_lettersWith 2 := zLX.of gL_follows_L_lettersWith okL_lettersWith ⟨by decide +kernel, by decide +kernel, by decide +kernel⟩ ⟨by decide, by decide⟩
set_option maxRecDepth 20000 in
theorem kL_follows_126 : zLX E_L_follows 126 E_L_setStyle 2 := zLX.of gL_follows_L_setStyle okL_setStyle ⟨by decide +kernel, by decide +kernel, by decide +kernel⟩ ⟨by decide, by decide⟩
set_option maxRecDepth 20000 in
theorem kL_follows_203 : zLX E_L_follows 203 E_L_undo 1 := zLX.of gL_follows_L_undo okL_undo ⟨by decide +kernel, by decide +kernel, by decide +kernel⟩ ⟨by decide, by decide⟩
set_option maxRecDepth 20000 in
theorem kL_follows_130 : zLX E_L_follows 130 E_L_ifRemoved 2 := zLX.of gL_follows_L_ifRemoved okL_ifRemoved ⟨by decide +kernel, by decide +kernel, by decide +kernel⟩ ⟨by decide, by decide⟩
set_option maxRecDepth 20000 in
theorem kL_follows_200 : zLV E_L_follows 200 E_X6_weightiest 0 := zLV.of gL_follows_X6_weightiest okX6_weightiest ⟨by decide +kernel, by decide +kernel, by decide +kernel⟩ ⟨by decide, by decide⟩
set_option maxRecDepth 20000 in
theorem kL_follows_104 : zLX E_L_follows 104 E_L_work 3 := zLX.of gL_follows_L_work okL_work ⟨by decide +kernel, by decide +kernel, by decide +kernel⟩ ⟨by decide, by decide⟩
set_option maxRecDepth 20000 in
theorem kL_follows_124 : zLX E_L_follows 124 E_L_remove 2 := zLX.of gL_follows_L_remove okL_remove ⟨by decide +kernel, by decide +kernel, by decide +kernel⟩ ⟨by decide, by decide⟩
set_option maxRecDepth 20000 in
theorem kL_follows_132 : zLX E_L_follows 132 E_L_freeYear 2 := zLX.of gL_follows_L_freeYear okL_freeYear ⟨by decide +kernel, by decide +kernel, by decide +kernel⟩ ⟨by decide, by decide⟩
set_option maxRecDepth 20000 in
theorem kL_follows_164 : zLS E_L_follows 164 E_L_in 3 := zLS.of gL_follows_L_in okL_in ⟨by decide +kernel, by decide +kernel, by decide +kernel⟩ ⟨by decide, by decide⟩
set_option maxRecDepth 20000 in
theorem kL_follows_122 : zLX E_L_follows 122 E_L_setYear 3 := zLX.of gL_follows_L_setYear okL_setYear ⟨by decide +kernel, by decide +kernel, by decide +kernel⟩ ⟨by decide, by decide⟩
set_option maxRecDepth 20000 in
theorem kL_follows_205 : zLV E_L_follows 205 E_X6_print 0 := zLV.of gL_follows_X6_print okX6_print ⟨by decide +kernel, by decide +kernel, by decide +kernel⟩ ⟨by decide, by decide⟩
set_option maxRecDepth 20000 in
theorem kL_follows_112 : zLX E_L_follows 112 E_L_printed 2 := zLX.of gL_follows_L_printed okL_printed ⟨by decide +kernel, by decide +kernel, by decide +kernel⟩ ⟨by decide, by decide⟩
set_option maxRecDepth 20000 in
theorem kL_follows_208 : zLV E_L_follows 208 E_X6_clearText 0 := zLV.of gL_follows_X6_clearText okX6_clearText ⟨by decide +kernel, by decide +kernel, by decide +kernel⟩ ⟨by decide, by decide⟩
set_option maxRecDepth 20000 in
theorem kL_follows_107 : zLX E_L_follows 107 E_L_key 3 := zLX.of gL_follows_L_key okL_key ⟨by decide +kernel, by decide +kernel, by decide +kernel⟩ ⟨by decide, by decide⟩
set_option maxRecDepth 20000 in
theorem kL_follows_156 : zLX E_L_follows 156 E_L_append 2 := zLX.of gL_follows_L_append okL_append ⟨by decide +kernel, by decide +kernel, by decide +kernel⟩ ⟨by decide, by decide⟩
set_option maxRecDepth 20000 in
theorem kL_follows_211 : zLV E_L_follows 211 E_X6_meaning 0 := zLV.of gL_follows_X6_meaning okX6_meaning ⟨by decide +kernel, by decide +kernel, by decide +kernel⟩ ⟨by decide, by decide⟩
set_option maxRecDepth 20000 in
theorem kL_follows_214 : zLV E_L_follows 214 E_X6_printedMeaning 0 := zLV.of gL_follows_X6_printedMeaning okX6_printedMeaning ⟨by decide +kernel, by decide +kernel, by decide +kernel⟩ ⟨by decide, by decide⟩
set_option maxRecDepth 20000 in
theorem kL_follows_154 : zLX E_L_follows 154 E_L_restore 2 := zLX.of gL_follows_L_restore okL_restore ⟨by decide +kernel, by decide +kernel, by decide +kernel⟩ ⟨by decide, by decide⟩
set_option maxRecDepth 20000 in
theorem kL_alike_114 : zLS E_L_alike 114 E_L_now 1 := zLS.of gL_alike_L_now okL_now ⟨by decide +kernel, by decide +kernel, by decide +kernel⟩ ⟨by decide, by decide⟩
set_option maxRecDepth 20000 in
theorem kL_alike_197 : zLV E_L_alike 197 E_X6_bestStyle 0 := zLV.of gL_alike_X6_bestStyle okX6_bestStyle ⟨by decide +kernel, by decide +kernel, by decide +kernel⟩ ⟨by decide, by decide⟩
set_option maxRecDepth 20000 in
theorem kL_alike_200 : zLV E_L_alike 200 E_X6_weightiest 0 := zLV.of gL_alike_X6_weightiest okX6_weightiest ⟨by decide +kernel, by decide +kernel, by decide +kernel⟩ ⟨by decide, by decide⟩
set_option maxRecDepth 20000 in
theorem kL_alike_132 : zLX E_L_alike 132 E_L_freeYear 2 := zLX.of gL_alike_L_freeYear okL_freeYear ⟨by decide +kernel, by decide +kernel, by decide +kernel⟩ ⟨by decide, by decide⟩
set_option maxRecDepth 20000 in
theorem kL_alike_130 : zLX E_L_alike 130 E_L_ifRemoved 2 := zLX.of gL_alike_L_ifRemoved okL_ifRemoved ⟨by decide +kernel, by decide +kernel, by decide +kernel⟩ ⟨by decide, by decide⟩
set_option maxRecDepth 20000 in
theorem kL_alike_149 : zLX E_L_alike 149 E_L_simulate 3 := zLX.of gL_alike_L_simulate okL_simulate ⟨by decide +kernel, by decide +kernel, by decide +kernel⟩ ⟨by decide, by decide⟩
set_option maxRecDepth 20000 in
theorem kL_alike_143 : zLX E_L_alike 143 E_L_script 3 := zLX.of gL_alike_L_script okL_script ⟨by decide +kernel, by decide +kernel, by decide +kernel⟩ ⟨by decide, by decide⟩
set_option maxRecDepth 20000 in
theorem kL_name_156 : zLX E_L_name 156 E_L_append 2 := zLX.of gL_name_L_append okL_append ⟨by decide +kernel, by decide +kernel, by decide +kernel⟩ ⟨by decide, by decide⟩
set_option maxRecDepth 20000 in
theorem kL_tells_219 : zLS E_L_tells 219 E_L_name 2 := zLS.of gL_tells_L_name okL_name ⟨by decide +kernel, by decide +kernel, by decide +kernel⟩ ⟨by decide, by decide⟩
set_option maxRecDepth 20000 in
theorem kL_tells_156 : zLX E_L_tells 156 E_L_append 2 := zLX.of gL_tells_L_append okL_append ⟨by decide +kernel, by decide +kernel, by decide +kernel⟩ ⟨by decide, by decide⟩
set_option maxRecDepth 20000 in
theorem kL_act_126 : zLX E_L_act 126 E_L_setStyle 2 := zLX.of gL_act_L_setStyle okL_setStyle ⟨by decide +kernel, by decide +kernel, by decide +kernel⟩ ⟨by decide, by decide⟩
set_option maxRecDepth 20000 in
theorem kL_act_128 : zLX E_L_act 128 E_L_setOrder 2 := zLX.of gL_act_L_setOrder okL_setOrder ⟨by decide +kernel, by decide +kernel, by decide +kernel⟩ ⟨by decide, by decide⟩
set_option maxRecDepth 20000 in
theorem kL_act_205 : zLV E_L_act 205 E_X6_print 0 := zLV.of gL_act_X6_print okX6_print ⟨by decide +kernel, by decide +kernel, by decide +kernel⟩ ⟨by decide, by decide⟩
set_option maxRecDepth 20000 in
theorem kL_act_124 : zLX E_L_act 124 E_L_remove 2 := zLX.of gL_act_L_remove okL_remove ⟨by decide +kernel, by decide +kernel, by decide +kernel⟩ ⟨by decide, by decide⟩
set_option maxRecDepth 20000 in
theorem kL_act_122 : zLX E_L_act 122 E_L_setYear 3 := zLX.of gL_act_L_setYear okL_setYear ⟨by decide +kernel, by decide +kernel, by decide +kernel⟩ ⟨by decide, by decide⟩
set_option maxRecDepth 20000 in
theorem kL_act_203 : zLX E_L_act 203 E_L_undo 1 := zLX.of gL_act_L_undo okL_undo ⟨by decide +kernel, by decide +kernel, by decide +kernel⟩ ⟨by decide, by decide⟩
set_option maxRecDepth 20000 in
theorem kL_act_152 : zLX E_L_act 152 E_L_save 2 := zLX.of gL_act_L_save okL_save ⟨by decide +kernel, by decide +kernel, by decide +kernel⟩ ⟨by decide, by decide⟩
set_option maxRecDepth 20000 in
theorem kL_act_154 : zLX E_L_act 154 E_L_restore 2 := zLX.of gL_act_L_restore okL_restore ⟨by decide +kernel, by decide +kernel, by decide +kernel⟩ ⟨by decide, by decide⟩
set_option maxRecDepth 20000 in
theorem kL_act_208 : zLV E_L_act 208 E_X6_clearText 0 := zLV.of gL_act_X6_clearText okX6_clearText ⟨by decide +kernel, by decide +kernel, by decide +kernel⟩ ⟨by decide, by decide⟩
set_option maxRecDepth 20000 in
theorem kL_act_223 : zLS E_L_act 223 E_L_tells 3 := zLS.of gL_act_L_tells okL_tells ⟨by decide +kernel, by decide +kernel, by decide +kernel⟩ ⟨by decide, by decide⟩
set_option maxRecDepth 20000 in
theorem kL_act_120 : zLX E_L_act 120 E_L_change 2 := zLX.of gL_act_L_change okL_change ⟨by decide +kernel, by decide +kernel, by decide +kernel⟩ ⟨by decide, by decide⟩
set_option maxRecDepth 20000 in
theorem kL_act_141 : zLX E_L_act 141 E_L_add 1 := zLX.of gL_act_L_add okL_add ⟨by decide +kernel, by decide +kernel, by decide +kernel⟩ ⟨by decide, by decide⟩
set_option maxRecDepth 20000 in
theorem kL_law_226 : zLI E_L_law 226 E_X6_init 0 := zLI.of gL_law_X6_init okX6_init rfl ⟨by decide +kernel, by decide +kernel, by decide +kernel⟩ rfl ⟨by decide +kernel, by decide +kernel, by decide +kernel⟩ ⟨by decide, by decide⟩
set_option maxRecDepth 20000 in
theorem kL_law_227 : zLS E_L_law 227 E_L_draw 2 := zLS.of gL_law_L_draw okL_draw ⟨by decide +kernel, by decide +kernel, by decide +kernel⟩ ⟨by decide, by decide⟩
set_option maxRecDepth 20000 in
theorem kL_law_231 : zLS E_L_law 231 E_L_alike 3 := zLS.of gL_law_L_alike okL_alike ⟨by decide +kernel, by decide +kernel, by decide +kernel⟩ ⟨by decide, by decide⟩
set_option maxRecDepth 20000 in
theorem kL_law_235 : zLS E_L_law 235 E_L_errors 1 := zLS.of gL_law_L_errors okL_errors ⟨by decide +kernel, by decide +kernel, by decide +kernel⟩ ⟨by decide, by decide⟩
set_option maxRecDepth 20000 in
theorem kL_law_239 : zLS E_L_law 239 E_L_kept 1 := zLS.of gL_law_L_kept okL_kept ⟨by decide +kernel, by decide +kernel, by decide +kernel⟩ ⟨by decide, by decide⟩
set_option maxRecDepth 20000 in
theorem kL_law_208 : zLV E_L_law 208 E_X6_clearText 0 := zLV.of gL_law_X6_clearText okX6_clearText ⟨by decide +kernel, by decide +kernel, by decide +kernel⟩ ⟨by decide, by decide⟩
set_option maxRecDepth 20000 in
theorem kL_law_223 : zLS E_L_law 223 E_L_tells 3 := zLS.of gL_law_L_tells okL_tells ⟨by decide +kernel, by decide +kernel, by decide +kernel⟩ ⟨by decide, by decide⟩
set_option maxRecDepth 20000 in
theorem kL_law_156 : zLX E_L_law 156 E_L_append 2 := zLX.of gL_law_L_append okL_append ⟨by decide +kernel, by decide +kernel, by decide +kernel⟩ ⟨by decide, by decide⟩
set_option maxRecDepth 20000 in
theorem kL_law_139 : zLX E_L_law 139 E_L_load 1 := zLX.of gL_law_L_load okL_load ⟨by decide +kernel, by decide +kernel, by decide +kernel⟩ ⟨by decide, by decide⟩
set_option maxRecDepth 20000 in
theorem kL_law_242 : zLS E_L_law 242 E_L_act 3 := zLS.of gL_law_L_act okL_act ⟨by decide +kernel, by decide +kernel, by decide +kernel⟩ ⟨by decide, by decide⟩
set_option maxRecDepth 20000 in
theorem kL_law_245 : zLS E_L_law 245 E_L_follows 2 := zLS.of gL_law_L_follows okL_follows ⟨by decide +kernel, by decide +kernel, by decide +kernel⟩ ⟨by decide, by decide⟩
set_option maxRecDepth 20000 in
theorem kL_law_152 : zLX E_L_law 152 E_L_save 2 := zLX.of gL_law_L_save okL_save ⟨by decide +kernel, by decide +kernel, by decide +kernel⟩ ⟨by decide, by decide⟩
set_option maxRecDepth 20000 in
theorem kL_law_154 : zLX E_L_law 154 E_L_restore 2 := zLX.of gL_law_L_restore okL_restore ⟨by decide +kernel, by decide +kernel, by decide +kernel⟩ ⟨by decide, by decide⟩
