/-! calls: the links -/
set_option maxRecDepth 20000 in
theorem kX0_init_17 : zLI E_X0_init 17 E_X3_init 0 := zLI.of gX0_init_X3_init okX3_init rfl ⟨by decide +kernel, by decide +kernel, by decide +kernel⟩ rfl ⟨by decide +kernel, by decide +kernel, by decide +kernel⟩ ⟨by decide, by decide⟩
set_option maxRecDepth 20000 in
theorem kX0_remember_25 : zLV E_X0_remember 25 E_X3_copyFrom 1 := zLV.of gX0_remember_X3_copyFrom okX3_copyFrom ⟨by decide +kernel, by decide +kernel, by decide +kernel⟩ ⟨by decide, by decide⟩
set_option maxRecDepth 20000 in
theorem kX0_takeBack_25 : zLV E_X0_takeBack 25 E_X3_copyFrom 1 := zLV.of gX0_takeBack_X3_copyFrom okX3_copyFrom ⟨by decide +kernel, by decide +kernel, by decide +kernel⟩ ⟨by decide, by decide⟩
set_option maxRecDepth 20000 in
theorem kX1_length_15 : zLS E_X1_length 15 E_X1_letterOf 1 := zLS.of gX1_length_X1_letterOf okX1_letterOf ⟨by decide +kernel, by decide +kernel, by decide +kernel⟩ ⟨by decide, by decide⟩
set_option maxRecDepth 20000 in
theorem kX1_length_19 : zLS E_X1_length 19 E_X2_length 1 := zLS.of gX1_length_X2_length okX2_length ⟨by decide +kernel, by decide +kernel, by decide +kernel⟩ ⟨by decide, by decide⟩
set_option maxRecDepth 20000 in
theorem kX1_length_24 : zLS E_X1_length 24 E_X1_signs 1 := zLS.of gX1_length_X1_signs okX1_signs ⟨by decide +kernel, by decide +kernel, by decide +kernel⟩ ⟨by decide, by decide⟩
set_option maxRecDepth 20000 in
theorem kX1_length_27 : zLS E_X1_length 27 E_X1_digits 1 := zLS.of gX1_length_X1_digits okX1_digits ⟨by decide +kernel, by decide +kernel, by decide +kernel⟩ ⟨by decide, by decide⟩
set_option maxRecDepth 20000 in
theorem kX1_codeAt_19 : zLS E_X1_codeAt 19 E_X2_length 1 := zLS.of gX1_codeAt_X2_length okX2_length ⟨by decide +kernel, by decide +kernel, by decide +kernel⟩ ⟨by decide, by decide⟩
set_option maxRecDepth 20000 in
theorem kX1_codeAt_24 : zLS E_X1_codeAt 24 E_X1_signs 1 := zLS.of gX1_codeAt_X1_signs okX1_signs ⟨by decide +kernel, by decide +kernel, by decide +kernel⟩ ⟨by decide, by decide⟩
set_option maxRecDepth 20000 in
theorem kX1_codeAt_27 : zLS E_X1_codeAt 27 E_X1_digits 1 := zLS.of gX1_codeAt_X1_digits okX1_digits ⟨by decide +kernel, by decide +kernel, by decide +kernel⟩ ⟨by decide, by decide⟩
set_option maxRecDepth 20000 in
theorem kX1_codeAt_30 : zLS E_X1_codeAt 30 E_X2_codeAt 2 := zLS.of gX1_codeAt_X2_codeAt okX2_codeAt ⟨by decide +kernel, by decide +kernel, by decide +kernel⟩ ⟨by decide, by decide⟩
set_option maxRecDepth 20000 in
theorem kX1_codeAt_34 : zLS E_X1_codeAt 34 E_X1_digitFromEnd 2 := zLS.of gX1_codeAt_X1_digitFromEnd okX1_digitFromEnd ⟨by decide +kernel, by decide +kernel, by decide +kernel⟩ ⟨by decide, by decide⟩
set_option maxRecDepth 20000 in
theorem kX1_codeAt_15 : zLS E_X1_codeAt 15 E_X1_letterOf 1 := zLS.of gX1_codeAt_X1_letterOf okX1_letterOf ⟨by decide +kernel, by decide +kernel, by decide +kernel⟩ ⟨by decide, by decide⟩
set_option maxRecDepth 20000 in
theorem kX2_codeAt_11 : zLS E_X2_codeAt 11 E_X2_numberAt 2 := zLS.of gX2_codeAt_X2_numberAt okX2_numberAt ⟨by decide +kernel, by decide +kernel, by decide +kernel⟩ ⟨by decide, by decide⟩
set_option maxRecDepth 20000 in
theorem kX2_length_11 : zLS E_X2_length 11 E_X2_numberAt 2 := zLS.of gX2_length_X2_numberAt okX2_numberAt ⟨by decide +kernel, by decide +kernel, by decide +kernel⟩ ⟨by decide, by decide⟩
set_option maxRecDepth 20000 in
theorem kX3_init_17 : zLI E_X3_init 17 E_X5_init 0 := zLI.of gX3_init_X5_init okX5_init rfl ⟨by decide +kernel, by decide +kernel, by decide +kernel⟩ rfl ⟨by decide +kernel, by decide +kernel, by decide +kernel⟩ ⟨by decide, by decide⟩
set_option maxRecDepth 20000 in
theorem kX3_copyFrom_45 : zLV E_X3_copyFrom 45 E_X5_copyFrom 1 := zLV.of gX3_copyFrom_X5_copyFrom okX5_copyFrom ⟨by decide +kernel, by decide +kernel, by decide +kernel⟩ ⟨by decide, by decide⟩
set_option maxRecDepth 20000 in
theorem kX3_place_45 : zLV E_X3_place 45 E_X5_copyFrom 1 := zLV.of gX3_place_X5_copyFrom okX5_copyFrom ⟨by decide +kernel, by decide +kernel, by decide +kernel⟩ ⟨by decide, by decide⟩
set_option maxRecDepth 20000 in
theorem kX3_takeOut_49 : zLV E_X3_takeOut 49 E_X3_has 1 := zLV.of gX3_takeOut_X3_has okX3_has ⟨by decide +kernel, by decide +kernel, by decide +kernel⟩ ⟨by decide, by decide⟩
set_option maxRecDepth 20000 in
theorem kX3_takeOut_53 : zLV E_X3_takeOut 53 E_X3_disown 1 := zLV.of gX3_takeOut_X3_disown okX3_disown ⟨by decide +kernel, by decide +kernel, by decide +kernel⟩ ⟨by decide, by decide⟩
set_option maxRecDepth 20000 in
theorem kX3_rekey_60 : zLV E_X3_rekey 60 E_X5_stem 2 := zLV.of gX3_rekey_X5_stem okX5_stem ⟨by decide +kernel, by decide +kernel, by decide +kernel⟩ ⟨by decide, by decide⟩
set_option maxRecDepth 20000 in
theorem kX3_rekey_64 : zLV E_X3_rekey 64 E_X3_letterDue 1 := zLV.of gX3_rekey_X3_letterDue okX3_letterDue ⟨by decide +kernel, by decide +kernel, by decide +kernel⟩ ⟨by decide, by decide⟩
set_option maxRecDepth 20000 in
theorem kX3_letterDue_68 : zLV E_X3_letterDue 68 E_X3_isBefore 2 := zLV.of gX3_letterDue_X3_isBefore okX3_isBefore ⟨by decide +kernel, by decide +kernel, by decide +kernel⟩ ⟨by decide, by decide⟩
set_option maxRecDepth 20000 in
theorem kX3_isBefore_72 : zLV E_X3_isBefore 72 E_X5_compareAuthors 1 := zLV.of gX3_isBefore_X5_compareAuthors okX5_compareAuthors ⟨by decide +kernel, by decide +kernel, by decide +kernel⟩ ⟨by decide, by decide⟩
set_option maxRecDepth 20000 in
theorem kX3_isBefore_76 : zLS E_X3_isBefore 76 E_J6_compare_7cf53 2 := zLS.of gX3_isBefore_J6_compare_7cf53 okJ6_compare_7cf53 ⟨by decide +kernel, by decide +kernel, by decide +kernel⟩ ⟨by decide, by decide⟩
set_option maxRecDepth 20000 in
theorem kX3_isBefore_86 : zLS E_X3_isBefore 86 E_J13_compare_74951 2 := zLS.of gX3_isBefore_J13_compare_74951 okJ13_compare_74951 ⟨by decide +kernel, by decide +kernel, by decide +kernel⟩ ⟨by decide, by decide⟩
set_option maxRecDepth 20000 in
theorem kX3_placeOf_68 : zLV E_X3_placeOf 68 E_X3_isBefore 2 := zLV.of gX3_placeOf_X3_isBefore okX3_isBefore ⟨by decide +kernel, by decide +kernel, by decide +kernel⟩ ⟨by decide, by decide⟩
set_option maxRecDepth 20000 in
theorem kX3_isFree_60 : zLV E_X3_isFree 60 E_X5_stem 2 := zLV.of gX3_isFree_X5_stem okX5_stem ⟨by decide +kernel, by decide +kernel, by decide +kernel⟩ ⟨by decide, by decide⟩
set_option maxRecDepth 20000 in
theorem kX3_lettered_91 : zLS E_X3_lettered 91 E_X1_letterOf 1 := zLS.of gX3_lettered_X1_letterOf okX1_letterOf ⟨by decide +kernel, by decide +kernel, by decide +kernel⟩ ⟨by decide, by decide⟩
set_option maxRecDepth 20000 in
theorem kX3_differentStems_91 : zLS E_X3_differentStems 91 E_X1_letterOf 1 := zLS.of gX3_differentStems_X1_letterOf okX1_letterOf ⟨by decide +kernel, by decide +kernel, by decide +kernel⟩ ⟨by decide, by decide⟩
set_option maxRecDepth 20000 in
theorem kX3_longestKey_97 : zLS E_X3_longestKey 97 E_X1_length 1 := zLS.of gX3_longestKey_X1_length okX1_length ⟨by decide +kernel, by decide +kernel, by decide +kernel⟩ ⟨by decide, by decide⟩
set_option maxRecDepth 20000 in
theorem kX3_printedStillRight_105 : zLV E_X3_printedStillRight 105 E_X3_holderOf 1 := zLV.of gX3_printedStillRight_X3_holderOf okX3_holderOf ⟨by decide +kernel, by decide +kernel, by decide +kernel⟩ ⟨by decide, by decide⟩
set_option maxRecDepth 20000 in
theorem kX3_printedWithoutMeaning_105 : zLV E_X3_printedWithoutMeaning 105 E_X3_holderOf 1 := zLV.of gX3_printedWithoutMeaning_X3_holderOf okX3_holderOf ⟨by decide +kernel, by decide +kernel, by decide +kernel⟩ ⟨by decide, by decide⟩
set_option maxRecDepth 20000 in
theorem kX3_printedOfAnother_108 : zLV E_X3_printedOfAnother 108 E_X3_printedStillRight 0 := zLV.of gX3_printedOfAnother_X3_printedStillRight okX3_printedStillRight ⟨by decide +kernel, by decide +kernel, by decide +kernel⟩ ⟨by decide, by decide⟩
set_option maxRecDepth 20000 in
theorem kX3_printedOfAnother_112 : zLV E_X3_printedOfAnother 112 E_X3_printedWithoutMeaning 0 := zLV.of gX3_printedOfAnother_X3_printedWithoutMeaning okX3_printedWithoutMeaning ⟨by decide +kernel, by decide +kernel, by decide +kernel⟩ ⟨by decide, by decide⟩
set_option maxRecDepth 20000 in
theorem kX4_init_21 : zLI E_X4_init 21 E_X5_init 0 := zLI.of gX4_init_X5_init okX5_init rfl ⟨by decide +kernel, by decide +kernel, by decide +kernel⟩ rfl ⟨by decide +kernel, by decide +kernel, by decide +kernel⟩ ⟨by decide, by decide⟩
set_option maxRecDepth 20000 in
theorem kX4_spells_26 : zLS E_X4_spells 26 E_X1_length 1 := zLS.of gX4_spells_X1_length okX1_length ⟨by decide +kernel, by decide +kernel, by decide +kernel⟩ ⟨by decide, by decide⟩
set_option maxRecDepth 20000 in
theorem kX4_spells_31 : zLS E_X4_spells 31 E_X1_codeAt 2 := zLS.of gX4_spells_X1_codeAt okX1_codeAt ⟨by decide +kernel, by decide +kernel, by decide +kernel⟩ ⟨by decide, by decide⟩
set_option maxRecDepth 20000 in
theorem kX4_read_38 : zLV E_X4_read 38 E_X4_beginWork 0 := zLV.of gX4_read_X4_beginWork okX4_beginWork ⟨by decide +kernel, by decide +kernel, by decide +kernel⟩ ⟨by decide, by decide⟩
set_option maxRecDepth 20000 in
theorem kX4_read_42 : zLV E_X4_read 42 E_X4_takes 1 := zLV.of gX4_read_X4_takes okX4_takes ⟨by decide +kernel, by decide +kernel, by decide +kernel⟩ ⟨by decide, by decide⟩
set_option maxRecDepth 20000 in
theorem kX4_beginWork_52 : zLV E_X4_beginWork 52 E_X5_empty 0 := zLV.of gX4_beginWork_X5_empty okX5_empty ⟨by decide +kernel, by decide +kernel, by decide +kernel⟩ ⟨by decide, by decide⟩
set_option maxRecDepth 20000 in
theorem kX4_beginWork_58 : zLV E_X4_beginWork 58 E_X4_begin 1 := zLV.of gX4_beginWork_X4_begin okX4_begin ⟨by decide +kernel, by decide +kernel, by decide +kernel⟩ ⟨by decide, by decide⟩
set_option maxRecDepth 20000 in
theorem kX4_takes_62 : zLV E_X4_takes 62 E_X4_takesAuthors 2 := zLV.of gX4_takes_X4_takesAuthors okX4_takesAuthors ⟨by decide +kernel, by decide +kernel, by decide +kernel⟩ ⟨by decide, by decide⟩
set_option maxRecDepth 20000 in
theorem kX4_takes_66 : zLV E_X4_takes 66 E_X4_takesYear 2 := zLV.of gX4_takes_X4_takesYear okX4_takesYear ⟨by decide +kernel, by decide +kernel, by decide +kernel⟩ ⟨by decide, by decide⟩
set_option maxRecDepth 20000 in
theorem kX4_takes_69 : zLV E_X4_takes 69 E_X4_takesTitle 2 := zLV.of gX4_takes_X4_takesTitle okX4_takesTitle ⟨by decide +kernel, by decide +kernel, by decide +kernel⟩ ⟨by decide, by decide⟩
set_option maxRecDepth 20000 in
theorem kX4_takesAuthors_72 : zLS E_X4_takesAuthors 72 E_X4_isLetter 1 := zLS.of gX4_takesAuthors_X4_isLetter okX4_isLetter ⟨by decide +kernel, by decide +kernel, by decide +kernel⟩ ⟨by decide, by decide⟩
set_option maxRecDepth 20000 in
theorem kX4_takesAuthors_79 : zLS E_X4_takesAuthors 79 E_X2_with 3 := zLS.of gX4_takesAuthors_X2_with okX2_with ⟨by decide +kernel, by decide +kernel, by decide +kernel⟩ ⟨by decide, by decide⟩
set_option maxRecDepth 20000 in
theorem kX4_takesAuthors_85 : zLV E_X4_takesAuthors 85 E_X4_countLetter 0 := zLV.of gX4_takesAuthors_X4_countLetter okX4_countLetter ⟨by decide +kernel, by decide +kernel, by decide +kernel⟩ ⟨by decide, by decide⟩
set_option maxRecDepth 20000 in
theorem kX4_takesAuthors_58 : zLV E_X4_takesAuthors 58 E_X4_begin 1 := zLV.of gX4_takesAuthors_X4_begin okX4_begin ⟨by decide +kernel, by decide +kernel, by decide +kernel⟩ ⟨by decide, by decide⟩
set_option maxRecDepth 20000 in
theorem kX4_takesYear_58 : zLV E_X4_takesYear 58 E_X4_begin 1 := zLV.of gX4_takesYear_X4_begin okX4_begin ⟨by decide +kernel, by decide +kernel, by decide +kernel⟩ ⟨by decide, by decide⟩
set_option maxRecDepth 20000 in
theorem kX4_takesTitle_72 : zLS E_X4_takesTitle 72 E_X4_isLetter 1 := zLS.of gX4_takesTitle_X4_isLetter okX4_isLetter ⟨by decide +kernel, by decide +kernel, by decide +kernel⟩ ⟨by decide, by decide⟩
set_option maxRecDepth 20000 in
theorem kX4_takesTitle_79 : zLS E_X4_takesTitle 79 E_X2_with 3 := zLS.of gX4_takesTitle_X2_with okX2_with ⟨by decide +kernel, by decide +kernel, by decide +kernel⟩ ⟨by decide, by decide⟩
set_option maxRecDepth 20000 in
theorem kX4_takesTitle_85 : zLV E_X4_takesTitle 85 E_X4_countLetter 0 := zLV.of gX4_takesTitle_X4_countLetter okX4_countLetter ⟨by decide +kernel, by decide +kernel, by decide +kernel⟩ ⟨by decide, by decide⟩
set_option maxRecDepth 20000 in
theorem kX4_takesTitle_38 : zLV E_X4_takesTitle 38 E_X4_beginWork 0 := zLV.of gX4_takesTitle_X4_beginWork okX4_beginWork ⟨by decide +kernel, by decide +kernel, by decide +kernel⟩ ⟨by decide, by decide⟩
set_option maxRecDepth 20000 in
theorem kX5_compareAuthors_26 : zLS E_X5_compareAuthors 26 E_J13_compare_74951 2 := zLS.of gX5_compareAuthors_J13_compare_74951 okJ13_compare_74951 ⟨by decide +kernel, by decide +kernel, by decide +kernel⟩ ⟨by decide, by decide⟩
set_option maxRecDepth 20000 in
theorem kX5_stem_32 : zLV E_X5_stem 32 E_X5_firstThreeLetters 0 := zLV.of gX5_stem_X5_firstThreeLetters okX5_firstThreeLetters ⟨by decide +kernel, by decide +kernel, by decide +kernel⟩ ⟨by decide, by decide⟩
set_option maxRecDepth 20000 in
theorem kX5_stem_36 : zLS E_X5_stem 36 E_X1_withTwoDigits 3 := zLS.of gX5_stem_X1_withTwoDigits okX1_withTwoDigits ⟨by decide +kernel, by decide +kernel, by decide +kernel⟩ ⟨by decide, by decide⟩
set_option maxRecDepth 20000 in
theorem kX5_stem_42 : zLV E_X5_stem 42 E_X5_initials 0 := zLV.of gX5_stem_X5_initials okX5_initials ⟨by decide +kernel, by decide +kernel, by decide +kernel⟩ ⟨by decide, by decide⟩
set_option maxRecDepth 20000 in
theorem kX5_stem_45 : zLS E_X5_stem 45 E_X1_withFourDigits 2 := zLS.of gX5_stem_X1_withFourDigits okX1_withFourDigits ⟨by decide +kernel, by decide +kernel, by decide +kernel⟩ ⟨by decide, by decide⟩
set_option maxRecDepth 20000 in
theorem kX5_stem_49 : zLV E_X5_stem 49 E_X5_authorAndTitle 0 := zLV.of gX5_stem_X5_authorAndTitle okX5_authorAndTitle ⟨by decide +kernel, by decide +kernel, by decide +kernel⟩ ⟨by decide, by decide⟩
set_option maxRecDepth 20000 in
theorem kX5_firstThreeLetters_52 : zLS E_X5_firstThreeLetters 52 E_X2_numberAt 2 := zLS.of gX5_firstThreeLetters_X2_numberAt okX2_numberAt ⟨by decide +kernel, by decide +kernel, by decide +kernel⟩ ⟨by decide, by decide⟩
set_option maxRecDepth 20000 in
theorem kX5_firstThreeLetters_58 : zLS E_X5_firstThreeLetters 58 E_X2_with 3 := zLS.of gX5_firstThreeLetters_X2_with okX2_with ⟨by decide +kernel, by decide +kernel, by decide +kernel⟩ ⟨by decide, by decide⟩
set_option maxRecDepth 20000 in
theorem kX5_initials_52 : zLS E_X5_initials 52 E_X2_numberAt 2 := zLS.of gX5_initials_X2_numberAt okX2_numberAt ⟨by decide +kernel, by decide +kernel, by decide +kernel⟩ ⟨by decide, by decide⟩
set_option maxRecDepth 20000 in
theorem kX5_initials_58 : zLS E_X5_initials 58 E_X2_with 3 := zLS.of gX5_initials_X2_with okX2_with ⟨by decide +kernel, by decide +kernel, by decide +kernel⟩ ⟨by decide, by decide⟩
set_option maxRecDepth 20000 in
theorem kX5_authorAndTitle_52 : zLS E_X5_authorAndTitle 52 E_X2_numberAt 2 := zLS.of gX5_authorAndTitle_X2_numberAt okX2_numberAt ⟨by decide +kernel, by decide +kernel, by decide +kernel⟩ ⟨by decide, by decide⟩
set_option maxRecDepth 20000 in
theorem kX5_authorAndTitle_58 : zLS E_X5_authorAndTitle 58 E_X2_with 3 := zLS.of gX5_authorAndTitle_X2_with okX2_with ⟨by decide +kernel, by decide +kernel, by decide +kernel⟩ ⟨by decide, by decide⟩
set_option maxRecDepth 20000 in
theorem kX6_init_9 : zLI E_X6_init 9 E_X4_init 0 := zLI.of gX6_init_X4_init okX4_init rfl ⟨by decide +kernel, by decide +kernel, by decide +kernel⟩ rfl ⟨by decide +kernel, by decide +kernel, by decide +kernel⟩ ⟨by decide, by decide⟩
set_option maxRecDepth 20000 in
theorem kX6_init_18 : zLI E_X6_init 18 E_X3_init 0 := zLI.of gX6_init_X3_init okX3_init rfl ⟨by decide +kernel, by decide +kernel, by decide +kernel⟩ rfl ⟨by decide +kernel, by decide +kernel, by decide +kernel⟩ ⟨by decide, by decide⟩
set_option maxRecDepth 20000 in
theorem kX6_init_28 : zLI E_X6_init 28 E_X5_init 0 := zLI.of gX6_init_X5_init okX5_init rfl ⟨by decide +kernel, by decide +kernel, by decide +kernel⟩ rfl ⟨by decide +kernel, by decide +kernel, by decide +kernel⟩ ⟨by decide, by decide⟩
set_option maxRecDepth 20000 in
theorem kX6_init_35 : zLI E_X6_init 35 E_X0_init 0 := zLI.of gX6_init_X0_init okX0_init rfl ⟨by decide +kernel, by decide +kernel, by decide +kernel⟩ rfl ⟨by decide +kernel, by decide +kernel, by decide +kernel⟩ ⟨by decide, by decide⟩
set_option maxRecDepth 20000 in
theorem kX6_append_64 : zLV E_X6_append 64 E_X4_put 1 := zLV.of gX6_append_X4_put okX4_put ⟨by decide +kernel, by decide +kernel, by decide +kernel⟩ ⟨by decide, by decide⟩
set_option maxRecDepth 20000 in
theorem kX6_errorPosition_68 : zLV E_X6_errorPosition 68 E_X4_read 0 := zLV.of gX6_errorPosition_X4_read okX4_read ⟨by decide +kernel, by decide +kernel, by decide +kernel⟩ ⟨by decide, by decide⟩
set_option maxRecDepth 20000 in
theorem kX6_load_68 : zLV E_X6_load 68 E_X4_read 0 := zLV.of gX6_load_X4_read okX4_read ⟨by decide +kernel, by decide +kernel, by decide +kernel⟩ ⟨by decide, by decide⟩
set_option maxRecDepth 20000 in
theorem kX6_load_74 : zLV E_X6_load 74 E_X3_empty 0 := zLV.of gX6_load_X3_empty okX3_empty ⟨by decide +kernel, by decide +kernel, by decide +kernel⟩ ⟨by decide, by decide⟩
set_option maxRecDepth 20000 in
theorem kX6_load_84 : zLV E_X6_load 84 E_X3_place 1 := zLV.of gX6_load_X3_place okX3_place ⟨by decide +kernel, by decide +kernel, by decide +kernel⟩ ⟨by decide, by decide⟩
set_option maxRecDepth 20000 in
theorem kX6_load_88 : zLV E_X6_load 88 E_X3_rekey 0 := zLV.of gX6_load_X3_rekey okX3_rekey ⟨by decide +kernel, by decide +kernel, by decide +kernel⟩ ⟨by decide, by decide⟩
set_option maxRecDepth 20000 in
theorem kX6_load_91 : zLV E_X6_load 91 E_X0_forget 0 := zLV.of gX6_load_X0_forget okX0_forget ⟨by decide +kernel, by decide +kernel, by decide +kernel⟩ ⟨by decide, by decide⟩
set_option maxRecDepth 20000 in
theorem kX6_about_103 : zLV E_X6_about 103 E_X3_lettered 0 := zLV.of gX6_about_X3_lettered okX3_lettered ⟨by decide +kernel, by decide +kernel, by decide +kernel⟩ ⟨by decide, by decide⟩
set_option maxRecDepth 20000 in
theorem kX6_about_106 : zLV E_X6_about 106 E_X3_differentStems 0 := zLV.of gX6_about_X3_differentStems okX3_differentStems ⟨by decide +kernel, by decide +kernel, by decide +kernel⟩ ⟨by decide, by decide⟩
set_option maxRecDepth 20000 in
theorem kX6_about_109 : zLV E_X6_about 109 E_X3_longestKey 0 := zLV.of gX6_about_X3_longestKey okX3_longestKey ⟨by decide +kernel, by decide +kernel, by decide +kernel⟩ ⟨by decide, by decide⟩
set_option maxRecDepth 20000 in
theorem kX6_about_115 : zLV E_X6_about 115 E_X3_printedOfNone 0 := zLV.of gX6_about_X3_printedOfNone okX3_printedOfNone ⟨by decide +kernel, by decide +kernel, by decide +kernel⟩ ⟨by decide, by decide⟩
set_option maxRecDepth 20000 in
theorem kX6_work_120 : zLV E_X6_work 120 E_X6_needWork 1 := zLV.of gX6_work_X6_needWork okX6_needWork ⟨by decide +kernel, by decide +kernel, by decide +kernel⟩ ⟨by decide, by decide⟩
set_option maxRecDepth 20000 in
theorem kX6_work_135 : zLS E_X6_work 135 E_X2_length 1 := zLS.of gX6_work_X2_length okX2_length ⟨by decide +kernel, by decide +kernel, by decide +kernel⟩ ⟨by decide, by decide⟩
set_option maxRecDepth 20000 in
theorem kX6_work_144 : zLS E_X6_work 144 E_X1_length 1 := zLS.of gX6_work_X1_length okX1_length ⟨by decide +kernel, by decide +kernel, by decide +kernel⟩ ⟨by decide, by decide⟩
set_option maxRecDepth 20000 in
theorem kX6_work_147 : zLS E_X6_work 147 E_X1_letterOf 1 := zLS.of gX6_work_X1_letterOf okX1_letterOf ⟨by decide +kernel, by decide +kernel, by decide +kernel⟩ ⟨by decide, by decide⟩
set_option maxRecDepth 20000 in
theorem kX6_work_150 : zLV E_X6_work 150 E_X3_placeOf 1 := zLV.of gX6_work_X3_placeOf okX3_placeOf ⟨by decide +kernel, by decide +kernel, by decide +kernel⟩ ⟨by decide, by decide⟩
set_option maxRecDepth 20000 in
theorem kX6_work_154 : zLV E_X6_work 154 E_X3_sharing 1 := zLV.of gX6_work_X3_sharing okX3_sharing ⟨by decide +kernel, by decide +kernel, by decide +kernel⟩ ⟨by decide, by decide⟩
set_option maxRecDepth 20000 in
theorem kX6_letter_120 : zLV E_X6_letter 120 E_X6_needWork 1 := zLV.of gX6_letter_X6_needWork okX6_needWork ⟨by decide +kernel, by decide +kernel, by decide +kernel⟩ ⟨by decide, by decide⟩
set_option maxRecDepth 20000 in
theorem kX6_letter_163 : zLV E_X6_letter 163 E_X5_nameAt 1 := zLV.of gX6_letter_X5_nameAt okX5_nameAt ⟨by decide +kernel, by decide +kernel, by decide +kernel⟩ ⟨by decide, by decide⟩
set_option maxRecDepth 20000 in
theorem kX6_letter_167 : zLS E_X6_letter 167 E_X2_codeAt 2 := zLS.of gX6_letter_X2_codeAt okX2_codeAt ⟨by decide +kernel, by decide +kernel, by decide +kernel⟩ ⟨by decide, by decide⟩
set_option maxRecDepth 20000 in
theorem kX6_key_120 : zLV E_X6_key 120 E_X6_needWork 1 := zLV.of gX6_key_X6_needWork okX6_needWork ⟨by decide +kernel, by decide +kernel, by decide +kernel⟩ ⟨by decide, by decide⟩
set_option maxRecDepth 20000 in
theorem kX6_key_173 : zLS E_X6_key 173 E_X1_codeAt 2 := zLS.of gX6_key_X1_codeAt okX1_codeAt ⟨by decide +kernel, by decide +kernel, by decide +kernel⟩ ⟨by decide, by decide⟩
set_option maxRecDepth 20000 in
theorem kX6_at_150 : zLV E_X6_at 150 E_X3_placeOf 1 := zLV.of gX6_at_X3_placeOf okX3_placeOf ⟨by decide +kernel, by decide +kernel, by decide +kernel⟩ ⟨by decide, by decide⟩
set_option maxRecDepth 20000 in
theorem kX6_meaning_176 : zLV E_X6_meaning 176 E_X4_spells 1 := zLV.of gX6_meaning_X4_spells okX4_spells ⟨by decide +kernel, by decide +kernel, by decide +kernel⟩ ⟨by decide, by decide⟩
set_option maxRecDepth 20000 in
theorem kX6_printedMeaning_176 : zLV E_X6_printedMeaning 176 E_X4_spells 1 := zLV.of gX6_printedMeaning_X4_spells okX4_spells ⟨by decide +kernel, by decide +kernel, by decide +kernel⟩ ⟨by decide, by decide⟩
set_option maxRecDepth 20000 in
theorem kX6_printed_187 : zLV E_X6_printed 187 E_X3_printedOfAnother 0 := zLV.of gX6_printed_X3_printedOfAnother okX3_printedOfAnother ⟨by decide +kernel, by decide +kernel, by decide +kernel⟩ ⟨by decide, by decide⟩
set_option maxRecDepth 20000 in
theorem kX6_printed_190 : zLV E_X6_printed 190 E_X3_printedWithoutMeaning 0 := zLV.of gX6_printed_X3_printedWithoutMeaning okX3_printedWithoutMeaning ⟨by decide +kernel, by decide +kernel, by decide +kernel⟩ ⟨by decide, by decide⟩
set_option maxRecDepth 20000 in
theorem kX6_printed_193 : zLV E_X6_printed 193 E_X3_printedStillRight 0 := zLV.of gX6_printed_X3_printedStillRight okX3_printedStillRight ⟨by decide +kernel, by decide +kernel, by decide +kernel⟩ ⟨by decide, by decide⟩
set_option maxRecDepth 20000 in
theorem kX6_add_198 : zLV E_X6_add 198 E_X6_tellsOneWork 0 := zLV.of gX6_add_X6_tellsOneWork okX6_tellsOneWork ⟨by decide +kernel, by decide +kernel, by decide +kernel⟩ ⟨by decide, by decide⟩
set_option maxRecDepth 20000 in
theorem kX6_add_206 : zLV E_X6_add 206 E_X0_remember 1 := zLV.of gX6_add_X0_remember okX0_remember ⟨by decide +kernel, by decide +kernel, by decide +kernel⟩ ⟨by decide, by decide⟩
set_option maxRecDepth 20000 in
theorem kX6_add_84 : zLV E_X6_add 84 E_X3_place 1 := zLV.of gX6_add_X3_place okX3_place ⟨by decide +kernel, by decide +kernel, by decide +kernel⟩ ⟨by decide, by decide⟩
set_option maxRecDepth 20000 in
theorem kX6_add_88 : zLV E_X6_add 88 E_X3_rekey 0 := zLV.of gX6_add_X3_rekey okX3_rekey ⟨by decide +kernel, by decide +kernel, by decide +kernel⟩ ⟨by decide, by decide⟩
set_option maxRecDepth 20000 in
theorem kX6_change_120 : zLV E_X6_change 120 E_X6_needWork 1 := zLV.of gX6_change_X6_needWork okX6_needWork ⟨by decide +kernel, by decide +kernel, by decide +kernel⟩ ⟨by decide, by decide⟩
set_option maxRecDepth 20000 in
theorem kX6_change_198 : zLV E_X6_change 198 E_X6_tellsOneWork 0 := zLV.of gX6_change_X6_tellsOneWork okX6_tellsOneWork ⟨by decide +kernel, by decide +kernel, by decide +kernel⟩ ⟨by decide, by decide⟩
set_option maxRecDepth 20000 in
theorem kX6_change_206 : zLV E_X6_change 206 E_X0_remember 1 := zLV.of gX6_change_X0_remember okX0_remember ⟨by decide +kernel, by decide +kernel, by decide +kernel⟩ ⟨by decide, by decide⟩
set_option maxRecDepth 20000 in
theorem kX6_change_210 : zLV E_X6_change 210 E_X5_copyFrom 1 := zLV.of gX6_change_X5_copyFrom okX5_copyFrom ⟨by decide +kernel, by decide +kernel, by decide +kernel⟩ ⟨by decide, by decide⟩
set_option maxRecDepth 20000 in
theorem kX6_change_88 : zLV E_X6_change 88 E_X3_rekey 0 := zLV.of gX6_change_X3_rekey okX3_rekey ⟨by decide +kernel, by decide +kernel, by decide +kernel⟩ ⟨by decide, by decide⟩
set_option maxRecDepth 20000 in
theorem kX6_setYear_120 : zLV E_X6_setYear 120 E_X6_needWork 1 := zLV.of gX6_setYear_X6_needWork okX6_needWork ⟨by decide +kernel, by decide +kernel, by decide +kernel⟩ ⟨by decide, by decide⟩
set_option maxRecDepth 20000 in
theorem kX6_setYear_213 : zLS E_X6_setYear 213 E_X6_isYear 1 := zLS.of gX6_setYear_X6_isYear okX6_isYear ⟨by decide +kernel, by decide +kernel, by decide +kernel⟩ ⟨by decide, by decide⟩
set_option maxRecDepth 20000 in
theorem kX6_setYear_206 : zLV E_X6_setYear 206 E_X0_remember 1 := zLV.of gX6_setYear_X0_remember okX0_remember ⟨by decide +kernel, by decide +kernel, by decide +kernel⟩ ⟨by decide, by decide⟩
set_option maxRecDepth 20000 in
theorem kX6_setYear_88 : zLV E_X6_setYear 88 E_X3_rekey 0 := zLV.of gX6_setYear_X3_rekey okX3_rekey ⟨by decide +kernel, by decide +kernel, by decide +kernel⟩ ⟨by decide, by decide⟩
set_option maxRecDepth 20000 in
theorem kX6_remove_120 : zLV E_X6_remove 120 E_X6_needWork 1 := zLV.of gX6_remove_X6_needWork okX6_needWork ⟨by decide +kernel, by decide +kernel, by decide +kernel⟩ ⟨by decide, by decide⟩
set_option maxRecDepth 20000 in
theorem kX6_remove_206 : zLV E_X6_remove 206 E_X0_remember 1 := zLV.of gX6_remove_X0_remember okX0_remember ⟨by decide +kernel, by decide +kernel, by decide +kernel⟩ ⟨by decide, by decide⟩
set_option maxRecDepth 20000 in
theorem kX6_remove_219 : zLV E_X6_remove 219 E_X3_takeOut 1 := zLV.of gX6_remove_X3_takeOut okX3_takeOut ⟨by decide +kernel, by decide +kernel, by decide +kernel⟩ ⟨by decide, by decide⟩
set_option maxRecDepth 20000 in
theorem kX6_remove_88 : zLV E_X6_remove 88 E_X3_rekey 0 := zLV.of gX6_remove_X3_rekey okX3_rekey ⟨by decide +kernel, by decide +kernel, by decide +kernel⟩ ⟨by decide, by decide⟩
set_option maxRecDepth 20000 in
theorem kX6_setStyle_222 : zLS E_X6_setStyle 222 E_X6_needStyle 1 := zLS.of gX6_setStyle_X6_needStyle okX6_needStyle ⟨by decide +kernel, by decide +kernel, by decide +kernel⟩ ⟨by decide, by decide⟩
set_option maxRecDepth 20000 in
theorem kX6_setStyle_206 : zLV E_X6_setStyle 206 E_X0_remember 1 := zLV.of gX6_setStyle_X0_remember okX0_remember ⟨by decide +kernel, by decide +kernel, by decide +kernel⟩ ⟨by decide, by decide⟩
set_option maxRecDepth 20000 in
theorem kX6_setStyle_88 : zLV E_X6_setStyle 88 E_X3_rekey 0 := zLV.of gX6_setStyle_X3_rekey okX3_rekey ⟨by decide +kernel, by decide +kernel, by decide +kernel⟩ ⟨by decide, by decide⟩
set_option maxRecDepth 20000 in
theorem kX6_setOrder_206 : zLV E_X6_setOrder 206 E_X0_remember 1 := zLV.of gX6_setOrder_X0_remember okX0_remember ⟨by decide +kernel, by decide +kernel, by decide +kernel⟩ ⟨by decide, by decide⟩
set_option maxRecDepth 20000 in
theorem kX6_setOrder_88 : zLV E_X6_setOrder 88 E_X3_rekey 0 := zLV.of gX6_setOrder_X3_rekey okX3_rekey ⟨by decide +kernel, by decide +kernel, by decide +kernel⟩ ⟨by decide, by decide⟩
set_option maxRecDepth 20000 in
theorem kX6_print_206 : zLV E_X6_print 206 E_X0_remember 1 := zLV.of gX6_print_X0_remember okX0_remember ⟨by decide +kernel, by decide +kernel, by decide +kernel⟩ ⟨by decide, by decide⟩
set_option maxRecDepth 20000 in
theorem kX6_print_227 : zLV E_X6_print 227 E_X3_printKeys 0 := zLV.of gX6_print_X3_printKeys okX3_printKeys ⟨by decide +kernel, by decide +kernel, by decide +kernel⟩ ⟨by decide, by decide⟩
set_option maxRecDepth 20000 in
theorem kX6_undo_235 : zLV E_X6_undo 235 E_X0_takeBack 1 := zLV.of gX6_undo_X0_takeBack okX0_takeBack ⟨by decide +kernel, by decide +kernel, by decide +kernel⟩ ⟨by decide, by decide⟩
set_option maxRecDepth 20000 in
theorem kX6_ifRemoved_120 : zLV E_X6_ifRemoved 120 E_X6_needWork 1 := zLV.of gX6_ifRemoved_X6_needWork okX6_needWork ⟨by decide +kernel, by decide +kernel, by decide +kernel⟩ ⟨by decide, by decide⟩
set_option maxRecDepth 20000 in
theorem kX6_ifRemoved_238 : zLV E_X6_ifRemoved 238 E_X6_keysHangingOn 1 := zLV.of gX6_ifRemoved_X6_keysHangingOn okX6_keysHangingOn ⟨by decide +kernel, by decide +kernel, by decide +kernel⟩ ⟨by decide, by decide⟩
set_option maxRecDepth 20000 in
theorem kX6_freeYear_120 : zLV E_X6_freeYear 120 E_X6_needWork 1 := zLV.of gX6_freeYear_X6_needWork okX6_needWork ⟨by decide +kernel, by decide +kernel, by decide +kernel⟩ ⟨by decide, by decide⟩
set_option maxRecDepth 20000 in
theorem kX6_freeYear_213 : zLS E_X6_freeYear 213 E_X6_isYear 1 := zLS.of gX6_freeYear_X6_isYear okX6_isYear ⟨by decide +kernel, by decide +kernel, by decide +kernel⟩ ⟨by decide, by decide⟩
set_option maxRecDepth 20000 in
theorem kX6_freeYear_241 : zLV E_X6_freeYear 241 E_X3_isFree 2 := zLV.of gX6_freeYear_X3_isFree okX3_isFree ⟨by decide +kernel, by decide +kernel, by decide +kernel⟩ ⟨by decide, by decide⟩
set_option maxRecDepth 20000 in
theorem kX6_lettersWith_222 : zLS E_X6_lettersWith 222 E_X6_needStyle 1 := zLS.of gX6_lettersWith_X6_needStyle okX6_needStyle ⟨by decide +kernel, by decide +kernel, by decide +kernel⟩ ⟨by decide, by decide⟩
set_option maxRecDepth 20000 in
theorem kX6_lettersWith_245 : zLV E_X6_lettersWith 245 E_X6_tryStyle 1 := zLV.of gX6_lettersWith_X6_tryStyle okX6_tryStyle ⟨by decide +kernel, by decide +kernel, by decide +kernel⟩ ⟨by decide, by decide⟩
set_option maxRecDepth 20000 in
theorem kX6_lettersWith_103 : zLV E_X6_lettersWith 103 E_X3_lettered 0 := zLV.of gX6_lettersWith_X3_lettered okX3_lettered ⟨by decide +kernel, by decide +kernel, by decide +kernel⟩ ⟨by decide, by decide⟩
set_option maxRecDepth 20000 in
theorem kX6_bestStyle_245 : zLV E_X6_bestStyle 245 E_X6_tryStyle 1 := zLV.of gX6_bestStyle_X6_tryStyle okX6_tryStyle ⟨by decide +kernel, by decide +kernel, by decide +kernel⟩ ⟨by decide, by decide⟩
set_option maxRecDepth 20000 in
theorem kX6_bestStyle_103 : zLV E_X6_bestStyle 103 E_X3_lettered 0 := zLV.of gX6_bestStyle_X3_lettered okX3_lettered ⟨by decide +kernel, by decide +kernel, by decide +kernel⟩ ⟨by decide, by decide⟩
set_option maxRecDepth 20000 in
theorem kX6_bestStyle_109 : zLV E_X6_bestStyle 109 E_X3_longestKey 0 := zLV.of gX6_bestStyle_X3_longestKey okX3_longestKey ⟨by decide +kernel, by decide +kernel, by decide +kernel⟩ ⟨by decide, by decide⟩
set_option maxRecDepth 20000 in
theorem kX6_weightiest_238 : zLV E_X6_weightiest 238 E_X6_keysHangingOn 1 := zLV.of gX6_weightiest_X6_keysHangingOn okX6_keysHangingOn ⟨by decide +kernel, by decide +kernel, by decide +kernel⟩ ⟨by decide, by decide⟩
set_option maxRecDepth 20000 in
theorem kX6_runScript_254 : zLV E_X6_runScript 254 E_X3_copyFrom 1 := zLV.of gX6_runScript_X3_copyFrom okX3_copyFrom ⟨by decide +kernel, by decide +kernel, by decide +kernel⟩ ⟨by decide, by decide⟩
set_option maxRecDepth 20000 in
theorem kX6_runScript_256 : zLS E_X6_runScript 256 E_X6_commandAt 2 := zLS.of gX6_runScript_X6_commandAt okX6_commandAt ⟨by decide +kernel, by decide +kernel, by decide +kernel⟩ ⟨by decide, by decide⟩
set_option maxRecDepth 20000 in
theorem kX6_runScript_259 : zLS E_X6_runScript 259 E_X6_succeeds 2 := zLS.of gX6_runScript_X6_succeeds okX6_succeeds ⟨by decide +kernel, by decide +kernel, by decide +kernel⟩ ⟨by decide, by decide⟩
set_option maxRecDepth 20000 in
theorem kX6_runScript_88 : zLV E_X6_runScript 88 E_X3_rekey 0 := zLV.of gX6_runScript_X3_rekey okX3_rekey ⟨by decide +kernel, by decide +kernel, by decide +kernel⟩ ⟨by decide, by decide⟩
set_option maxRecDepth 20000 in
theorem kX6_simulate_254 : zLV E_X6_simulate 254 E_X3_copyFrom 1 := zLV.of gX6_simulate_X3_copyFrom okX3_copyFrom ⟨by decide +kernel, by decide +kernel, by decide +kernel⟩ ⟨by decide, by decide⟩
set_option maxRecDepth 20000 in
theorem kX6_simulate_269 : zLV E_X6_simulate 269 E_X6_playRound 2 := zLV.of gX6_simulate_X6_playRound okX6_playRound ⟨by decide +kernel, by decide +kernel, by decide +kernel⟩ ⟨by decide, by decide⟩
set_option maxRecDepth 20000 in
theorem kX6_simulate_88 : zLV E_X6_simulate 88 E_X3_rekey 0 := zLV.of gX6_simulate_X3_rekey okX3_rekey ⟨by decide +kernel, by decide +kernel, by decide +kernel⟩ ⟨by decide, by decide⟩
set_option maxRecDepth 20000 in
theorem kX6_simulate_103 : zLV E_X6_simulate 103 E_X3_lettered 0 := zLV.of gX6_simulate_X3_lettered okX3_lettered ⟨by decide +kernel, by decide +kernel, by decide +kernel⟩ ⟨by decide, by decide⟩
set_option maxRecDepth 20000 in
theorem kX6_save_273 : zLS E_X6_save 273 E_X6_needSlot 1 := zLS.of gX6_save_X6_needSlot okX6_needSlot ⟨by decide +kernel, by decide +kernel, by decide +kernel⟩ ⟨by decide, by decide⟩
set_option maxRecDepth 20000 in
theorem kX6_save_254 : zLV E_X6_save 254 E_X3_copyFrom 1 := zLV.of gX6_save_X3_copyFrom okX3_copyFrom ⟨by decide +kernel, by decide +kernel, by decide +kernel⟩ ⟨by decide, by decide⟩
set_option maxRecDepth 20000 in
theorem kX6_restore_273 : zLS E_X6_restore 273 E_X6_needSlot 1 := zLS.of gX6_restore_X6_needSlot okX6_needSlot ⟨by decide +kernel, by decide +kernel, by decide +kernel⟩ ⟨by decide, by decide⟩
set_option maxRecDepth 20000 in
theorem kX6_restore_254 : zLV E_X6_restore 254 E_X3_copyFrom 1 := zLV.of gX6_restore_X3_copyFrom okX3_copyFrom ⟨by decide +kernel, by decide +kernel, by decide +kernel⟩ ⟨by decide, by decide⟩
set_option maxRecDepth 20000 in
theorem kX6_restore_91 : zLV E_X6_restore 91 E_X0_forget 0 := zLV.of gX6_restore_X0_forget okX0_forget ⟨by decide +kernel, by decide +kernel, by decide +kernel⟩ ⟨by decide, by decide⟩
set_option maxRecDepth 20000 in
theorem kX6_needWork_278 : zLV E_X6_needWork 278 E_X3_has 1 := zLV.of gX6_needWork_X3_has okX3_has ⟨by decide +kernel, by decide +kernel, by decide +kernel⟩ ⟨by decide, by decide⟩
set_option maxRecDepth 20000 in
theorem kX6_needStyle_286 : zLS E_X6_needStyle 286 E_X6_isStyle 1 := zLS.of gX6_needStyle_X6_isStyle okX6_isStyle ⟨by decide +kernel, by decide +kernel, by decide +kernel⟩ ⟨by decide, by decide⟩
set_option maxRecDepth 20000 in
theorem kX6_tellsOneWork_68 : zLV E_X6_tellsOneWork 68 E_X4_read 0 := zLV.of gX6_tellsOneWork_X4_read okX4_read ⟨by decide +kernel, by decide +kernel, by decide +kernel⟩ ⟨by decide, by decide⟩
set_option maxRecDepth 20000 in
theorem kX6_keysHangingOn_254 : zLV E_X6_keysHangingOn 254 E_X3_copyFrom 1 := zLV.of gX6_keysHangingOn_X3_copyFrom okX3_copyFrom ⟨by decide +kernel, by decide +kernel, by decide +kernel⟩ ⟨by decide, by decide⟩
set_option maxRecDepth 20000 in
theorem kX6_keysHangingOn_219 : zLV E_X6_keysHangingOn 219 E_X3_takeOut 1 := zLV.of gX6_keysHangingOn_X3_takeOut okX3_takeOut ⟨by decide +kernel, by decide +kernel, by decide +kernel⟩ ⟨by decide, by decide⟩
set_option maxRecDepth 20000 in
theorem kX6_keysHangingOn_88 : zLV E_X6_keysHangingOn 88 E_X3_rekey 0 := zLV.of gX6_keysHangingOn_X3_rekey okX3_rekey ⟨by decide +kernel, by decide +kernel, by decide +kernel⟩ ⟨by decide, by decide⟩
set_option maxRecDepth 20000 in
theorem kX6_tryStyle_254 : zLV E_X6_tryStyle 254 E_X3_copyFrom 1 := zLV.of gX6_tryStyle_X3_copyFrom okX3_copyFrom ⟨by decide +kernel, by decide +kernel, by decide +kernel⟩ ⟨by decide, by decide⟩
set_option maxRecDepth 20000 in
theorem kX6_tryStyle_88 : zLV E_X6_tryStyle 88 E_X3_rekey 0 := zLV.of gX6_tryStyle_X3_rekey okX3_rekey ⟨by decide +kernel, by decide +kernel, by decide +kernel⟩ ⟨by decide, by decide⟩
set_option maxRecDepth 20000 in
theorem kX6_succeeds_293 : zLS E_X6_succeeds 293 E_X6_removes 2 := zLS.of gX6_succeeds_X6_removes okX6_removes ⟨by decide +kernel, by decide +kernel, by decide +kernel⟩ ⟨by decide, by decide⟩
set_option maxRecDepth 20000 in
theorem kX6_succeeds_296 : zLS E_X6_succeeds 296 E_X6_setsStyle 2 := zLS.of gX6_succeeds_X6_setsStyle okX6_setsStyle ⟨by decide +kernel, by decide +kernel, by decide +kernel⟩ ⟨by decide, by decide⟩
set_option maxRecDepth 20000 in
theorem kX6_succeeds_299 : zLS E_X6_succeeds 299 E_X6_setsOrder 2 := zLS.of gX6_succeeds_X6_setsOrder okX6_setsOrder ⟨by decide +kernel, by decide +kernel, by decide +kernel⟩ ⟨by decide, by decide⟩
set_option maxRecDepth 20000 in
theorem kX6_succeeds_302 : zLS E_X6_succeeds 302 E_X6_movesYear 3 := zLS.of gX6_succeeds_X6_movesYear okX6_movesYear ⟨by decide +kernel, by decide +kernel, by decide +kernel⟩ ⟨by decide, by decide⟩
set_option maxRecDepth 20000 in
theorem kX6_succeeds_278 : zLV E_X6_succeeds 278 E_X3_has 1 := zLV.of gX6_succeeds_X3_has okX3_has ⟨by decide +kernel, by decide +kernel, by decide +kernel⟩ ⟨by decide, by decide⟩
set_option maxRecDepth 20000 in
theorem kX6_succeeds_147 : zLS E_X6_succeeds 147 E_X1_letterOf 1 := zLS.of gX6_succeeds_X1_letterOf okX1_letterOf ⟨by decide +kernel, by decide +kernel, by decide +kernel⟩ ⟨by decide, by decide⟩
set_option maxRecDepth 20000 in
theorem kX6_succeeds_103 : zLV E_X6_succeeds 103 E_X3_lettered 0 := zLV.of gX6_succeeds_X3_lettered okX3_lettered ⟨by decide +kernel, by decide +kernel, by decide +kernel⟩ ⟨by decide, by decide⟩
set_option maxRecDepth 20000 in
theorem kX6_succeeds_306 : zLS E_X6_succeeds 306 E_X6_prints 2 := zLS.of gX6_succeeds_X6_prints okX6_prints ⟨by decide +kernel, by decide +kernel, by decide +kernel⟩ ⟨by decide, by decide⟩
set_option maxRecDepth 20000 in
theorem kX6_succeeds_187 : zLV E_X6_succeeds 187 E_X3_printedOfAnother 0 := zLV.of gX6_succeeds_X3_printedOfAnother okX3_printedOfAnother ⟨by decide +kernel, by decide +kernel, by decide +kernel⟩ ⟨by decide, by decide⟩
set_option maxRecDepth 20000 in
theorem kX6_removes_278 : zLV E_X6_removes 278 E_X3_has 1 := zLV.of gX6_removes_X3_has okX3_has ⟨by decide +kernel, by decide +kernel, by decide +kernel⟩ ⟨by decide, by decide⟩
set_option maxRecDepth 20000 in
theorem kX6_removes_219 : zLV E_X6_removes 219 E_X3_takeOut 1 := zLV.of gX6_removes_X3_takeOut okX3_takeOut ⟨by decide +kernel, by decide +kernel, by decide +kernel⟩ ⟨by decide, by decide⟩
set_option maxRecDepth 20000 in
theorem kX6_setsStyle_286 : zLS E_X6_setsStyle 286 E_X6_isStyle 1 := zLS.of gX6_setsStyle_X6_isStyle okX6_isStyle ⟨by decide +kernel, by decide +kernel, by decide +kernel⟩ ⟨by decide, by decide⟩
set_option maxRecDepth 20000 in
theorem kX6_movesYear_278 : zLV E_X6_movesYear 278 E_X3_has 1 := zLV.of gX6_movesYear_X3_has okX3_has ⟨by decide +kernel, by decide +kernel, by decide +kernel⟩ ⟨by decide, by decide⟩
set_option maxRecDepth 20000 in
theorem kX6_movesYear_213 : zLS E_X6_movesYear 213 E_X6_isYear 1 := zLS.of gX6_movesYear_X6_isYear okX6_isYear ⟨by decide +kernel, by decide +kernel, by decide +kernel⟩ ⟨by decide, by decide⟩
set_option maxRecDepth 20000 in
theorem kX6_prints_227 : zLV E_X6_prints 227 E_X3_printKeys 0 := zLV.of gX6_prints_X3_printKeys okX3_printKeys ⟨by decide +kernel, by decide +kernel, by decide +kernel⟩ ⟨by decide, by decide⟩
set_option maxRecDepth 20000 in
theorem kX6_playRound_309 : zLV E_X6_playRound 309 E_X5_empty 0 := zLV.of gX6_playRound_X5_empty okX5_empty ⟨by decide +kernel, by decide +kernel, by decide +kernel⟩ ⟨by decide, by decide⟩
set_option maxRecDepth 20000 in
theorem kX6_playRound_313 : zLS E_X6_playRound 313 E_X2_with 3 := zLS.of gX6_playRound_X2_with okX2_with ⟨by decide +kernel, by decide +kernel, by decide +kernel⟩ ⟨by decide, by decide⟩
set_option maxRecDepth 20000 in
theorem kX6_playRound_84 : zLV E_X6_playRound 84 E_X3_place 1 := zLV.of gX6_playRound_X3_place okX3_place ⟨by decide +kernel, by decide +kernel, by decide +kernel⟩ ⟨by decide, by decide⟩
set_option maxRecDepth 20000 in
theorem kX6_playRound_219 : zLV E_X6_playRound 219 E_X3_takeOut 1 := zLV.of gX6_playRound_X3_takeOut okX3_takeOut ⟨by decide +kernel, by decide +kernel, by decide +kernel⟩ ⟨by decide, by decide⟩
set_option maxRecDepth 20000 in
theorem kX6_playRound_278 : zLV E_X6_playRound 278 E_X3_has 1 := zLV.of gX6_playRound_X3_has okX3_has ⟨by decide +kernel, by decide +kernel, by decide +kernel⟩ ⟨by decide, by decide⟩
