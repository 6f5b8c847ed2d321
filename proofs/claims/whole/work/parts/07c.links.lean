/-! calls: the links -/
set_option maxRecDepth 20000 in
theorem kX0_init_17 : zLI E_X0_init 17 E_X3_init 0 := zLI.of gX0_init_X3_init okX3_init rfl ⟨by decide +kernel, by decide +kernel, by decide +kernel⟩ rfl ⟨by decide +kernel, by decide +kernel, by decide +kernel⟩ ⟨by decide, by decide⟩
set_option maxRecDepth 20000 in
theorem kX0_remember_25 : zLV E_X0_remember 25 E_X3_copyFrom 1 := zLV.of gX0_remember_X3_copyFrom okX3_copyFrom ⟨by decide +kernel, by decide +kernel, by decide +kernel⟩ ⟨by decide, by decide⟩
set_option maxRecDepth 20000 in
theorem kX0_takeBack_25 : zLV E_X0_takeBack 25 E_X3_copyFrom 1 := zLV.of gX0_takeBack_X3_copyFrom okX3_copyFrom ⟨by decide +kernel, by decide +kernel, by decide +kernel⟩ ⟨by decide, by decide⟩
set_option maxRecDepth 20000 in
theorem kX1_length_15 : zLS E_X1_length 15 E_X1_letterOf 1 := zLS.of gX1_length_X1_letterOf okX1_letterOf ⟨by decide +kernel, by decide +kernel, by decide +kernel⟩ ⟨by decide, by decide⟩
set_option maxRecDepth 20000 in
theorem kX1_length_19 : zLS E_X1_length 19 E_X2_length 1 := zLS.of gX1_length_X2_length okX2_length ⟨by decide +kernel, by decide +kernel, by decide +kernel⟩ ⟨by decide, by decide⟩
set_option maxRecDepth 20000 in
theorem kX1_length_24 : zLS E_X1_length 24 E_X1_signs 1 := zLS.of gX1_length_X1_signs okX1_signs ⟨by decide +kernel, by decide +kernel, by decide +kernel⟩ ⟨by decide, by decide⟩
set_option maxRecDepth 20000 in
theorem kX1_length_27 : zLS E_X1_length 27 E_X1_digits 1 := zLS.of gX1_length_X1_digits okX1_digits ⟨by decide +kernel, by decide +kernel, by decide +kernel⟩ ⟨by decide, by decide⟩
set_option maxRecDepth 20000 in
theorem kX1_codeAt_19 : zLS E_X1_codeAt 19 E_X2_length 1 := zLS.of gX1_codeAt_X2_length okX2_length ⟨by decide +kernel, by decide +kernel, by decide +kernel⟩ ⟨by decide, by decide⟩
set_option maxRecDepth 20000 in
theorem kX1_codeAt_24 : zLS E_X1_codeAt 24 E_X1_signs 1 := zLS.of gX1_codeAt_X1_signs okX1_signs ⟨by decide +kernel, by decide +kernel, by decide +kernel⟩ ⟨by decide, by decide⟩
set_option maxRecDepth 20000 in
theorem kX1_codeAt_27 : zLS E_X1_codeAt 27 E_X1_digits 1 := zLS.of gX1_codeAt_X1_digits okX1_digits ⟨by decide +kernel, by decide +kernel, by decide +kernel⟩ ⟨by decide, by decide⟩
set_option maxRecDepth 20000 in
theorem kX1_codeAt_30 : zLS E_X1_codeAt 30 E_X2_codeAt 2 := zLS.of gX1_codeAt_X2_codeAt okX2_codeAt ⟨by decide +kernel, by decide +kernel, by decide +kernel⟩ ⟨by decide, by decide⟩
set_option maxRecDepth 20000 in
theorem kX1_codeAt_34 : zLS E_X1_codeAt 34 E_X1_digitFromEnd 2 := zLS.of gX1_codeAt_X1_digitFromEnd okX1_digitFromEnd ⟨by decide +kernel, by decide +kernel, by decide +kernel⟩ ⟨by decide, by decide⟩
set_option maxRecDepth 20000 in
theorem kX1_codeAt_15 : zLS E_X1_codeAt 15 E_X1_letterOf 1 := zLS.of gX1_codeAt_X1_letterOf okX1_letterOf ⟨by decide +kernel, by decide +kernel, by decide +kernel⟩ ⟨by decide, by decide⟩
set_option maxRecDepth 20000 in
theorem kX2_codeAt_11 : zLS E_X2_codeAt 11 E_X2_numberAt 2 := zLS.of gX2_codeAt_X2_numberAt okX2_numberAt ⟨by decide +kernel, by decide +kernel, by decide +kernel⟩ ⟨by decide, by decide⟩
set_option maxRecDepth 20000 in
theorem kX2_length_11 : zLS E_X2_length 11 E_X2_numberAt 2 := zLS.of gX2_length_X2_numberAt okX2_numberAt ⟨by decide +kernel, by decide +kernel, by decide +kernel⟩ ⟨by decide, by decide⟩
set_option maxRecDepth 20000 in
theorem kX3_init_17 : zLI E_X3_init 17 E_X5_init 0 := zLI.of gX3_init_X5_init okX5_init rfl ⟨by decide +kernel, by decide +kernel, by decide +kernel⟩ rfl ⟨by decide +kernel, by decide +kernel, by decide +kernel⟩ ⟨by decide, by decide⟩
set_option maxRecDepth 20000 in
theorem kX3_copyFrom_45 : zLV E_X3_copyFrom 45 E_X5_copyFrom 1 := zLV.of gX3_copyFrom_X5_copyFrom okX5_copyFrom ⟨by decide +kernel, by decide +kernel, by decide +kernel⟩ ⟨by decide, by decide⟩
set_option maxRecDepth 20000 in
theorem kX3_place_45 : zLV E_X3_place 45 E_X5_copyFrom 1 := zLV.of gX3_place_X5_copyFrom okX5_copyFrom ⟨by decide +kernel, by decide +kernel, by decide +kernel⟩ ⟨by decide, by decide⟩
set_option maxRecDepth 20000 in
theorem kX3_takeOut_49 : zLV E_X3_takeOut 49 E_X3_has 1 := zLV.of gX3_takeOut_X3_has okX3_has ⟨by decide +kernel, by decide +kernel, by decide +kernel⟩ ⟨by decide, by decide⟩
set_option maxRecDepth 20000 in
theorem kX3_takeOut_53 : zLV E_X3_takeOut 53 E_X3_disown 1 := zLV.of gX3_takeOut_X3_disown okX3_disown ⟨by decide +kernel, by decide +kernel, by decide +kernel⟩ ⟨by decide, by decide⟩
set_option maxRecDepth 20000 in
theorem kX3_rekey_60 : zLV E_X3_rekey 60 E_X5_stem 2 := zLV.of gX3_rekey_X5_stem okX5_stem ⟨by decide +kernel, by decide +kernel, by decide +kernel⟩ ⟨by decide, by decide⟩
set_option maxRecDepth 20000 in
theorem kX3_rekey_64 : zLV E_X3_rekey 64 E_X3_letterDue 1 := zLV.of gX3_rekey_X3_letterDue okX3_letterDue ⟨by decide +kernel, by decide +kernel, by decide +kernel⟩ ⟨by decide, by decide⟩
set_option maxRecDepth 20000 in
theorem kX3_letterDue_68 : zLV E_X3_letterDue 68 E_X3_isBefore 2 := zLV.of gX3_letterDue_X3_isBefore okX3_isBefore ⟨by decide +kernel, by decide +kernel, by decide +kernel⟩ ⟨by decide, by decide⟩
set_option maxRecDepth 20000 in
theorem kX3_isBefore_72 : zLV E_X3_isBefore 72 E_X5_compareAuthors 1 := zLV.of gX3_isBefore_X5_compareAuthors okX5_compareAuthors ⟨by decide +kernel, by decide +kernel, by decide +kernel⟩ ⟨by decide, by decide⟩
set_option maxRecDepth 20000 in
theorem kX3_isBefore_76 : zLS E_X3_isBefore 76 E_J6_compare_7cf53 2 := zLS.of gX3_isBefore_J6_compare_7cf53 okJ6_compare_7cf53 ⟨by decide +kernel, by decide +kernel, by decide +kernel⟩ ⟨by decide, by decide⟩
set_option maxRecDepth 20000 in
theorem kX3_isBefore_86 : zLS E_X3_isBefore 86 E_J13_compare_74951 2 := zLS.of gX3_isBefore_J13_compare_74951 okJ13_compare_74951 ⟨by decide +kernel, by decide +kernel, by decide +kernel⟩ ⟨by decide, by decide⟩
set_option maxRecDepth 20000 in
theorem kX3_placeOf_68 : zLV E_X3_placeOf 68 E_X3_isBefore 2 := zLV.of gX3_placeOf_X3_isBefore okX3_isBefore ⟨by decide +kernel, by decide +kernel, by decide +kernel⟩ ⟨by decide, by decide⟩
set_option maxRecDepth 20000 in
theorem kX3_isFree_60 : zLV E_X3_isFree 60 E_X5_stem 2 := zLV.of gX3_isFree_X5_stem okX5_stem ⟨by decide +kernel, by decide +kernel, by decide +kernel⟩ ⟨by decide, by decide⟩
set_option maxRecDepth 20000 in
theorem kX3_lettered_91 : zLS E_X3_lettered 91 E_X1_letterOf 1 := zLS.of gX3_lettered_X1_letterOf okX1_letterOf ⟨by decide +kernel, by decide +kernel, by decide +kernel⟩ ⟨by decide, by decide⟩
set_option maxRecDepth 20000 in
theorem kX3_differentStems_91 : zLS E_X3_differentStems 91 E_X1_letterOf 1 := zLS.of gX3_differentStems_X1_letterOf okX1_letterOf ⟨by decide +kernel, by decide +kernel, by decide +kernel⟩ ⟨by decide, by decide⟩
set_option maxRecDepth 20000 in
theorem kX3_longestKey_97 : zLS E_X3_longestKey 97 E_X1_length 1 := zLS.of gX3_longestKey_X1_length okX1_length ⟨by decide +kernel, by decide +kernel, by decide +kernel⟩ ⟨by decide, by decide⟩
set_option maxRecDepth 20000 in
theorem kX3_printedStillRight_105 : zLV E_X3_printedStillRight 105 E_X3_holderOf 1 := zLV.of gX3_printedStillRight_X3_holderOf okX3_holderOf ⟨by decide +kernel, by decide +kernel, by decide +kernel⟩ ⟨by decide, by decide⟩
set_option maxRecDepth 20000 in
theorem kX3_printedWithoutMeaning_105 : zLV E_X3_printedWithoutMeaning 105 E_X3_holderOf 1 := zLV.of gX3_printedWithoutMeaning_X3_holderOf okX3_holderOf ⟨by decide +kernel, by decide +kernel, by decide +kernel⟩ ⟨by decide, by decide⟩
set_option maxRecDepth 20000 in
theorem kX3_printedOfAnother_108 : zLV E_X3_printedOfAnother 108 E_X3_printedStillRight 0 := zLV.of gX3_printedOfAnother_X3_printedStillRight okX3_printedStillRight ⟨by decide +kernel, by decide +kernel, by decide +kernel⟩ ⟨by decide, by decide⟩
set_option maxRecDepth 20000 in
theorem kX3_printedOfAnother_112 : zLV E_X3_printedOfAnother 112 E_X3_printedWithoutMeaning 0 := zLV.of gX3_printedOfAnother_X3_printedWithoutMeaning okX3_printedWithoutMeaning ⟨by decide +kernel, by decide +kernel, by decide +kernel⟩ ⟨by decide, by decide⟩
set_option maxRecDepth 20000 in
theorem kX4_init_21 : zLI E_X4_init 21 E_X5_init 0 := zLI.of gX4_init_X5_init okX5_init rfl ⟨by decide +kernel, by decide +kernel, by decide +kernel⟩ rfl ⟨by decide +kernel, by decide +kernel, by decide +kernel⟩ ⟨by decide, by decide⟩
set_option maxRecDepth 20000 in
theorem kX4_spells_26 : zLS E_X4_spells 26 E_X1_length 1 := zLS.of gX4_spells_X1_length okX1_length ⟨by decide +kernel, by decide +kernel, by decide +kernel⟩ ⟨by decide, by decide⟩
set_option maxRecDepth 20000 in
theorem kX4_spells_31 : zLS E_X4_spells 31 E_X1_codeAt 2 := zLS.of gX4_spells_X1_codeAt okX1_codeAt ⟨by decide +kernel, by decide +kernel, by decide +kernel⟩ ⟨by decide, by decide⟩
set_option maxRecDepth 20000 in
theorem kX4_read_38 : zLV E_X4_read 38 E_X4_beginWork 0 := zLV.of gX4_read_X4_beginWork okX4_beginWork ⟨by decide +kernel, by decide +kernel, by decide +kernel⟩ ⟨by decide, by decide⟩
set_option maxRecDepth 20000 in
theorem kX4_read_42 : zLV E_X4_read 42 E_X4_takes 1 := zLV.of gX4_read_X4_takes okX4_takes ⟨by decide +kernel, by decide +kernel, by decide +kernel⟩ ⟨by decide, by decide⟩
set_option maxRecDepth 20000 in
theorem kX4_beginWork_52 : zLV E_X4_beginWork 52 E_X5_empty 0 := zLV.of gX4_beginWork_X5_empty okX5_empty ⟨by decide +kernel, by decide +kernel, by decide +kernel⟩ ⟨by decide, by decide⟩
set_option maxRecDepth 20000 in
theorem kX4_beginWork_58 : zLV E_X4_beginWork 58 E_X4_begin 1 := zLV.of gX4_beginWork_X4_begin okX4_begin ⟨by decide +kernel, by decide +kernel, by decide +kernel⟩ ⟨by decide, by decide⟩
set_option maxRecDepth 20000 in
theorem kX4_takes_62 : zLV E_X4_takes 62 E_X4_takesAuthors 2 := zLV.of gX4_takes_X4_takesAuthors okX4_takesAuthors ⟨by decide +kernel, by decide +kernel, by decide +kernel⟩ ⟨by decide, by decide⟩
set_option maxRecDepth 20000 in
theorem kX4_takes_66 : zLV E_X4_takes 66 E_X4_takesYear 2 := zLV.of gX4_takes_X4_takesYear okX4_takesYear ⟨by decide +kernel, by decide +kernel, by decide +kernel⟩ ⟨by decide, by decide⟩
set_option maxRecDepth 20000 in
theorem kX4_takes_69 : zLV E_X4_takes 69 E_X4_takesTitle 2 := zLV.of gX4_takes_X4_takesTitle okX4_takesTitle ⟨by decide +kernel, by decide +kernel, by decide +kernel⟩ ⟨by decide, by decide⟩
set_option maxRecDepth 20000 in
theorem kX4_takesAuthors_72 : zLS E_X4_takesAuthors 72 E_X4_isLetter 1 := zLS.of gX4_takesAuthors_X4_isLetter okX4_isLetter ⟨by decide +kernel, by decide +kernel, by decide +kernel⟩ ⟨by decide, by decide⟩
set_option maxRecDepth 20000 in
theorem kX4_takesAuthors_79 : zLS E_X4_takesAuthors 79 E_X2_with 3 := zLS.of gX4_takesAuthors_X2_with okX2_with ⟨by decide +kernel, by decide +kernel, by decide +kernel⟩ ⟨by decide, by decide⟩
set_option maxRecDepth 20000 in
theorem kX4_takesAuthors_85 : zLV E_X4_takesAuthors 85 E_X4_countLetter 0 := zLV.of gX4_takesAuthors_X4_countLetter okX4_countLetter ⟨by decide +kernel, by decide +kernel, by decide +kernel⟩ ⟨by decide, by decide⟩
set_option maxRecDepth 20000 in
theorem kX4_takesAuthors_58 : zLV E_X4_takesAuthors 58 E_X4_begin 1 := zLV.of gX4_takesAuthors_X4_begin okX4_begin ⟨by decide +kernel, by decide +kernel, by decide +kernel⟩ ⟨by decide, by decide⟩
set_option maxRecDepth 20000 in
theorem kX4_takesYear_58 : zLV E_X4_takesYear 58 E_X4_begin 1 := zLV.of gX4_takesYear_X4_begin okX4_begin ⟨by decide +kernel, by decide +kernel, by decide +kernel⟩ ⟨by decide, by decide⟩
set_option maxRecDepth 20000 in
theorem kX4_takesTitle_72 : zLS E_X4_takesTitle 72 E_X4_isLetter 1 := zLS.of gX4_takesTitle_X4_isLetter okX4_isLetter ⟨by decide +kernel, by decide +kernel, by decide +kernel⟩ ⟨by decide, by decide⟩
set_option maxRecDepth 20000 in
theorem kX4_takesTitle_79 : zLS E_X4_takesTitle 79 E_X2_with 3 := zLS.of gX4_takesTitle_X2_with okX2_with ⟨by decide +kernel, by decide +kernel, by decide +kernel⟩ ⟨by decide, by decide⟩
set_option maxRecDepth 20000 in
theorem kX4_takesTitle_85 : zLV E_X4_takesTitle 85 E_X4_countLetter 0 := zLV.of gX4_takesTitle_X4_countLetter okX4_countLetter ⟨by decide +kernel, by decide +kernel, by decide +kernel⟩ ⟨by decide, by decide⟩
set_option maxRecDepth 20000 in
theorem kX4_takesTitle_38 : zLV E_X4_takesTitle 38 E_X4_beginWork 0 := zLV.of gX4_takesTitle_X4_beginWork okX4_beginWork ⟨by decide +kernel, by decide +kernel, by decide +kernel⟩ ⟨by decide, by decide⟩
set_option maxRecDepth 20000 in
theorem kX5_compareAuthors_26 : zLS E_X5_compareAuthors 26 E_J13_compare_74951 2 := zLS.of gX5_compareAuthors_J13_compare_74951 okJ13_compare_74951 ⟨by decide +kernel, by decide +kernel, by decide +kernel⟩ ⟨by decide, by decide⟩
set_option maxRecDepth 20000 in
theorem kX5_stem_32 : zLV E_X5_stem 32 E_X5_firstThreeLetters 0 := zLV.of gX5_stem_X5_firstThreeLetters okX5_firstThreeLetters ⟨by decide +kernel, by decide +kernel, by decide +kernel⟩ ⟨by decide, by decide⟩
set_option maxRecDepth 20000 in
theorem kX5_stem_36 : zLS E_X5_stem 36 E_X1_withTwoDigits 3 := zLS.of gX5_stem_X1_withTwoDigits okX1_withTwoDigits ⟨by decide +kernel, by decide +kernel, by decide +kernel⟩ ⟨by decide, by decide⟩
set_option maxRecDepth 20000 in
theorem kX5_stem_42 : zLV E_X5_stem 42 E_X5_initials 0 := zLV.of gX5_stem_X5_initials okX5_initials ⟨by decide +kernel, by decide +kernel, by decide +kernel⟩ ⟨by decide, by decide⟩
set_option maxRecDepth 20000 in
theorem kX5_stem_45 : zLS E_X5_stem 45 E_X1_withFourDigits 2 := zLS.of gX5_stem_X1_withFourDigits okX1_withFourDigits ⟨by decide +kernel, by decide +kernel, by decide +kernel⟩ ⟨by decide, by decide⟩
set_option maxRecDepth 20000 in
theorem kX5_stem_49 : zLV E_X5_stem 49 E_X5_authorAndTitle 0 := zLV.of gX5_stem_X5_authorAndTitle okX5_authorAndTitle ⟨by decide +kernel, by decide +kernel, by decide +kernel⟩ ⟨by decide, by decide⟩
set_option maxRecDepth 20000 in
theorem kX5_firstThreeLetters_52 : zLS E_X5_firstThreeLetters 52 E_X2_numberAt 2 := zLS.of gX5_firstThreeLetters_X2_numberAt okX2_numberAt ⟨by decide +kernel, by decide +kernel, by decide +kernel⟩ ⟨by decide, by decide⟩
set_option maxRecDepth 20000 in
theorem kX5_firstThreeLetters_58 : zLS E_X5_firstThreeLetters 58 E_X2_with 3 := zLS.of gX5_firstThreeLetters_X2_with okX2_with ⟨by decide +kernel, by decide +kernel, by decide +kernel⟩ ⟨by decide, by decide⟩
set_option maxRecDepth 20000 in
theorem kX5_initials_52 : zLS E_X5_initials 52 E_X2_numberAt 2 := zLS.of gX5_initials_X2_numberAt okX2_numberAt ⟨by decide +kernel, by decide +kernel, by decide +kernel⟩ ⟨by decide, by decide⟩
set_option maxRecDepth 20000 in
theorem kX5_initials_58 : zLS E_X5_initials 58 E_X2_with 3 := zLS.of gX5_initials_X2_with okX2_with ⟨by decide +kernel, by decide +kernel, by decide +kernel⟩ ⟨by decide, by decide⟩
set_option maxRecDepth 20000 in
theorem kX5_authorAndTitle_52 : zLS E_X5_authorAndTitle 52 E_X2_numberAt 2 := zLS.of gX5_authorAndTitle_X2_numberAt okX2_numberAt ⟨by decide +kernel, by decide +kernel, by decide +kernel⟩ ⟨by decide, by decide⟩
set_option maxRecDepth 20000 in
theorem kX5_authorAndTitle_58 : zLS E_X5_authorAndTitle 58 E_X2_with 3 := zLS.of gX5_authorAndTitle_X2_with okX2_with ⟨by decide +kernel, by decide +kernel, by decide +kernel⟩ ⟨by decide, by decide⟩
set_option maxRecDepth 20000 in
theorem kX6_init_9 : zLI E_X6_init 9 E_X4_init 0 := zLI.of gX6_init_X4_init okX4_init rfl ⟨by decide +kernel, by decide +kernel, by decide +kernel⟩ rfl ⟨by decide +kernel, by decide +kernel, by decide +kernel⟩ ⟨by decide, by decide⟩
set_option maxRecDepth 20000 in
theorem kX6_init_18 : zLI E_X6_init 18 E_X3_init 0 := zLI.of gX6_init_X3_init okX3_init rfl ⟨by decide +kernel, by decide +kernel, by decide +kernel⟩ rfl ⟨by decide +kernel, by decide +kernel, by decide +kernel⟩ ⟨by decide, by decide⟩
set_option maxRecDepth 20000 in
theorem kX6_init_28 : zLI E_X6_init 28 E_X5_init 0 := zLI.of gX6_init_X5_init okX5_init rfl ⟨by decide +kernel, by decide +kernel, by decide +kernel⟩ rfl ⟨by decide +kernel, by decide +kernel, by decide +kernel⟩ ⟨by decide, by decide⟩
set_option maxRecDepth 20000 in
theorem kX6_init_35 : zLI E_X6_init 35 E_X0_init 0 := zLI.of gX6_init_X0_init okX0_init rfl ⟨by decide +kernel, by decide +kernel, by decide +kernel⟩ rfl ⟨by decide +kernel, by decide +kernel, by decide +kernel⟩ ⟨by decide, by decide⟩
set_option maxRecDepth 20000 in
theorem kX6_append_64 : zLV E_X6_append 64 E_X4_put 1 := zLV.of gX6_append_X4_put okX4_put ⟨by decide +kernel, by decide +kernel, by decide +kernel⟩ ⟨by decide, by decide⟩
set_option maxRecDepth 20000 in
theorem kX6_errorPosition_68 : zLV E_X6_errorPosition 68 E_X4_read 0 := zLV.of gX6_errorPosition_X4_read okX4_read ⟨by decide +kernel, by decide +kernel, by decide +kernel⟩ ⟨by decide, by decide⟩
set_option maxRecDepth 20000 in
theorem kX6_load_68 : zLV E_X6_load 68 E_X4_read 0 := zLV.of gX6_load_X4_read okX4_read ⟨by decide +kernel, by decide +kernel, by decide +kernel⟩ ⟨by decide, by decide⟩
set_option maxRecDepth 20000 in
theorem kX6_load_74 : zLV E_X6_load 74 E_X3_empty 0 := zLV.of gX6_load_X3_empty okX3_empty ⟨by decide +kernel, by decide +kernel, by decide +kernel⟩ ⟨by decide, by decide⟩
set_option maxRecDepth 20000 in
theorem kX6_load_84 : zLV E_X6_load 84 E_X3_place 1 := zLV.of gX6_load_X3_place okX3_place ⟨by decide +kernel, by decide +kernel, by decide +kernel⟩ ⟨by decide, by decide⟩
set_option maxRecDepth 20000 in
theorem kX6_load_88 : zLV E_X6_load 88 E_X3_rekey 0 := zLV.of gX6_load_X3_rekey okX3_rekey ⟨by decide +kernel, by decide +kernel, by decide +kernel⟩ ⟨by decide, by decide⟩
set_option maxRecDepth 20000 in
theorem kX6_load_91 : zLV E_X6_load 91 E_X0_forget 0 := zLV.of gX6_load_X0_forget okX0_forget ⟨by decide +kernel, by decide +kernel, by decide +kernel⟩ ⟨by decide, by decide⟩
set_option maxRecDepth 20000 in
theorem kX6_about_103 : zLV E_X6_about 103 E_X3_lettered 0 := zLV.of gX6_about_X3_lettered okX3_lettered ⟨by decide +kernel, by decide +kernel, by decide +kernel⟩ ⟨by decide, by decide⟩
set_option maxRecDepth 20000 in
theorem kX6_about_106 : zLV E_X6_about 106 E_X3_differentStems 0 := zLV.of gX6_about_X3_differentStems okX3_differentStems ⟨by decide +kernel, by decide +kernel, by decide +kernel⟩ ⟨by decide, by decide⟩
set_option maxRecDepth 20000 in
theorem kX6_about_109 : zLV E_X6_about 109 E_X3_longestKey 0 := zLV.of gX6_about_X3_longestKey okX3_longestKey ⟨by decide +kernel, by decide +kernel, by decide +kernel⟩ ⟨by decide, by decide⟩
set_option maxRecDepth 20000 in
theorem kX6_about_115 : zLV E_X6_about 115 E_X3_printedOfNone 0 := zLV.of gX6_about_X3_printedOfNone okX3_printedOfNone ⟨by decide +kernel, by decide +kernel, by decide +kernel⟩ ⟨by decide, by decide⟩
set_option maxRecDepth 20000 in
theorem kX6_work_120 : zLV E_X6_work 120 E_X6_needWork 1 := zLV.of gX6_work_X6_needWork okX6_needWork ⟨by decide +kernel, by decide +kernel, by decide +kernel⟩ ⟨by decide, by decide⟩
set_option maxRecDepth 20000 in
theorem kX6_work_135 : zLS E_X6_work 135 E_X2_length 1 := zLS.of gX6_work_X2_length okX2_length ⟨by decide +kernel, by decide +kernel, by decide +kernel⟩ ⟨by decide, by decide⟩
set_option maxRecDepth 20000 in
theorem kX6_work_144 : zLS E_X6_work 144 E_X1_length 1 := zLS.of gX6_work_X1_length okX1_length ⟨by decide +kernel, by decide +kernel, by decide +kernel⟩ ⟨by decide, by decide⟩
set_option maxRecDepth 20000 in
theorem kX6_work_147 : zLS E_X6_work 147 E_X1_letterOf 1 := zLS.of gX6_work_X1_letterOf okX1_letterOf ⟨by decide +kernel, by decide +kernel, by decide +kernel⟩ ⟨by decide, by decide⟩
set_option maxRecDepth 20000 in
theorem kX6_work_150 : zLV E_X6_work 150 E_X3_placeOf 1 := zLV.of gX6_work_X3_placeOf okX3_placeOf ⟨by decide +kernel, by decide +kernel, by decide +kernel⟩ ⟨by decide, by decide⟩
set_option maxRecDepth 20000 in
theorem kX6_work_154 : zLV E_X6_work 154 E_X3_sharing 1 := zLV.of gX6_work_X3_sharing okX3_sharing ⟨by decide +kernel, by decide +kernel, by decide +kernel⟩ ⟨by decide, by decide⟩
set_option maxRecDepth 20000 in
theorem kX6_letter_120 : zLV E_X6_letter 120 E_X6_needWork 1 := zLV.of gX6_letter_X6_needWork okX6_needWork ⟨by decide +kernel, by decide +kernel, by decide +kernel⟩ ⟨by decide, by decide⟩
set_option maxRecDepth 20000 in
theorem kX6_letter_163 : zLV E_X6_letter 163 E_X5_nameAt 1 := zLV.of gX6_letter_X5_nameAt okX5_nameAt ⟨by decide +kernel, by decide +kernel, by decide +kernel⟩ ⟨by decide, by decide⟩
set_option maxRecDepth 20000 in
theorem kX6_letter_167 : zLS E_X6_letter 167 E_X2_codeAt 2 := zLS.of gX6_letter_X2_codeAt okX2_codeAt ⟨by decide +kernel, by decide +kernel, by decide +kernel⟩ ⟨by decide, by decide⟩
set_option maxRecDepth 20000 in
theorem kX6_key_120 : zLV E_X6_key 120 E_X6_needWork 1 := zLV.of gX6_key_X6_needWork okX6_needWork ⟨by decide +kernel, by decide +kernel, by decide +kernel⟩ ⟨by decide, by decide⟩
set_option maxRecDepth 20000 in
theorem kX6_key_173 : zLS E_X6_key 173 E_X1_codeAt 2 := zLS.of gX6_key_X1_codeAt okX1_codeAt ⟨by decide +kernel, by decide +kernel, by decide +kernel⟩ ⟨by decide, by decide⟩
set_option maxRecDepth 20000 in
theorem kX6_at_150 : zLV E_X6_at 150 E_X3_placeOf 1 := zLV.of gX6_at_X3_placeOf okX3_placeOf ⟨by decide +kernel, by decide +kernel, by decide +kernel⟩ ⟨by decide, by decide⟩
set_option maxRecDepth 20000 in
theorem kX6_meaning_176 : zLV E_X6_meaning 176 E_X4_spells 1 := zLV.of gX6_meaning_X4_spells okX4_spells ⟨by decide +kernel, by decide +kernel, by decide +kernel⟩ ⟨by decide, by decide⟩
set_option maxRecDepth 20000 in
theorem kX6_printedMeaning_176 : zLV E_X6_printedMeaning 176 E_X4_spells 1 := zLV.of gX6_printedMeaning_X4_spells okX4_spells ⟨by decide +kernel, by decide +kernel, by decide +kernel⟩ ⟨by decide, by decide⟩
set_option maxRecDepth 20000 in
theorem kX6_printed_187 : zLV E_X6_printed 187 E_X3_printedOfAnother 0 := zLV.of gX6_printed_X3_printedOfAnother okX3_printedOfAnother ⟨by decide +kernel, by decide +kernel, by decide +kernel⟩ ⟨by decide, by decide⟩
set_option maxRecDepth 20000 in
theorem kX6_printed_190 : zLV E_X6_printed 190 E_X3_printedWithoutMeaning 0 := zLV.of gX6_printed_X3_printedWithoutMeaning okX3_printedWithoutMeaning ⟨by decide +kernel, by decide +kernel, by decide +kernel⟩ ⟨by decide, by decide⟩
set_option maxRecDepth 20000 in
theorem kX6_printed_193 : zLV E_X6_printed 193 E_X3_printedStillRight 0 := zLV.of gX6_printed_X3_printedStillRight okX3_printedStillRight ⟨by decide +kernel, by decide +kernel, by decide +kernel⟩ ⟨by decide, by decide⟩
set_option maxRecDepth 20000 in
theorem kX6_add_198 : zLV E_X6_add 198 E_X6_tellsOneWork 0 := zLV.of gX6_add_X6_tellsOneWork okX6_tellsOneWork ⟨by decide +kernel, by decide +kernel, by decide +kernel⟩ ⟨by decide, by decide⟩
set_option maxRecDepth 20000 in
theorem kX6_add_206 : zLV E_X6_add 206 E_X0_remember 1 := zLV.of gX6_add_X0_remember okX0_remember ⟨by decide +kernel, by decide +kernel, by decide +kernel⟩ ⟨by decide, by decide⟩
set_option maxRecDepth 20000 in
theorem kX6_add_84 : zLV E_X6_add 84 E_X3_place 1 := zLV.of gX6_add_X3_place okX3_place ⟨by decide +kernel, by decide +kernel, by decide +kernel⟩ ⟨by decide, by decide⟩
set_option maxRecDepth 20000 in
theorem kX6_add_88 : zLV E_X6_add 88 E_X3_rekey 0 := zLV.of gX6_add_X3_rekey okX3_rekey ⟨by decide +kernel, by decide +kernel, by decide +kernel⟩ ⟨by decide, by decide⟩
set_option maxRecDepth 20000 in
theorem kX6_change_120 : zLV E_X6_change 120 E_X6_needWork 1 := zLV.of gX6_change_X6_needWork okX6_needWork ⟨by decide +kernel, by decide +kernel, by decide +kernel⟩ ⟨by decide, by decide⟩
set_option maxRecDepth 20000 in
theorem kX6_change_198 : zLV E_X6_change 198 E_X6_tellsOneWork 0 := zLV.of gX6_change_X6_tellsOneWork okX6_tellsOneWork ⟨by decide +kernel, by decide +kernel, by decide +kernel⟩ ⟨by decide, by decide⟩
set_option maxRecDepth 20000 in
theorem kX6_change_206 : zLV E_X6_change 206 E_X0_remember 1 := zLV.of gX6_change_X0_remember okX0_remember ⟨by decide +kernel, by decide +kernel, by decide +kernel⟩ ⟨by decide, by decide⟩
set_option maxRecDepth 20000 in
theorem kX6_change_210 : zLV E_X6_change 210 E_X5_copyFrom 1 := zLV.of gX6_change_X5_copyFrom okX5_copyFrom ⟨by decide +kernel, by decide +kernel, by decide +kernel⟩ ⟨by decide, by decide⟩
set_option maxRecDepth 20000 in
theorem kX6_change_88 : zLV E_X6_change 88 E_X3_rekey 0 := zLV.of gX6_change_X3_rekey okX3_rekey ⟨by decide +kernel, by decide +kernel, by decide +kernel⟩ ⟨by decide, by decide⟩
set_option maxRecDepth 20000 in
theorem kX6_setYear_120 : zLV E_X6_setYear 120 E_X6_needWork 1 := zLV.of gX6_setYear_X6_needWork okX6_needWork ⟨by decide +kernel, by decide +kernel, by decide +kernel⟩ ⟨by decide, by decide⟩
set_option maxRecDepth 20000 in
theorem kX6_setYear_213 : zLS E_X6_setYear 213 E_X6_isYear 1 := zLS.of gX6_setYear_X6_isYear okX6_isYear ⟨by decide +kernel, by decide +kernel, by decide +kernel⟩ ⟨by decide, by decide⟩
set_option maxRecDepth 20000 in
theorem kX6_setYear_206 : zLV E_X6_setYear 206 E_X0_remember 1 := zLV.of gX6_setYear_X0_remember okX0_remember ⟨by decide +kernel, by decide +kernel, by decide +kernel⟩ ⟨by decide, by decide⟩
set_option maxRecDepth 20000 in
theorem kX6_setYear_88 : zLV E_X6_setYear 88 E_X3_rekey 0 := zLV.of gX6_setYear_X3_rekey okX3_rekey ⟨by decide +kernel, by decide +kernel, by decide +kernel⟩ ⟨by decide, by decide⟩
set_option maxRecDepth 20000 in
theorem kX6_remove_120 : zLV E_X6_remove 120 E_X6_needWork 1 := zLV.of gX6_remove_X6_needWork okX6_needWork ⟨by decide +kernel, by decide +kernel, by decide +kernel⟩ ⟨by decide, by decide⟩
set_option maxRecDepth 20000 in
theorem kX6_remove_206 : zLV E_X6_remove 206 E_X0_remember 1 := zLV.of gX6_remove_X0_remember okX0_remember ⟨by decide +kernel, by decide +kernel, by decide +kernel⟩ ⟨by decide, by decide⟩
set_option maxRecDepth 20000 in
theorem kX6_remove_219 : zLV E_X6_remove 219 E_X3_takeOut 1 := zLV.of gX6_remove_X3_takeOut okX3_takeOut ⟨by decide +kernel, by decide +kernel, by decide +kernel⟩ ⟨by decide, by decide⟩
set_option maxRecDepth 20000 in
theorem kX6_remove_88 : zLV E_X6_remove 88 E_X3_rekey 0 := zLV.of gX6_remove_X3_rekey okX3_rekey ⟨by decide +kernel, by decide +kernel, by decide +kernel⟩ ⟨by decide, by decide⟩
set_option maxRecDepth 20000 in
theorem kX6_setStyle_222 : zLS E_X6_setStyle 222 E_X6_needStyle 1 := zLS.of gX6_setStyle_X6_needStyle okX6_needStyle ⟨by decide +kernel, by decide +kernel, by decide +kernel⟩ ⟨by decide, by decide⟩
set_option maxRecDepth 20000 in
theorem kX6_setStyle_206 : zLV E_X6_setStyle 206 E_X0_remember 1 := zLV.of gX6_setStyle_X0_remember okX0_remember ⟨by decide +kernel, by decide +kernel, by decide +kernel⟩ ⟨by decide, by decide⟩
set_option maxRecDepth 20000 in
theorem kX6_setStyle_88 : zLV E_X6_setStyle 88 E_X3_rekey 0 := zLV.of gX6_setStyle_X3_rekey okX3_rekey ⟨by decide +kernel, by decide +kernel, by decide +kernel⟩ ⟨by decide, by decide⟩
set_option maxRecDepth 20000 in
theorem kX6_setOrder_206 : zLV E_X6_setOrder 206 E_X0_remember 1 := zLV.of gX6_setOrder_X0_remember okX0_remember ⟨by decide +kernel, by decide +kernel, by decide +kernel⟩ ⟨by decide, by decide⟩
set_option maxRecDepth 20000 in
theorem kX6_setOrder_88 : zLV E_X6_setOrder 88 E_X3_rekey 0 := zLV.of gX6_setOrder_X3_rekey okX3_rekey ⟨by decide +kernel, by decide +kernel, by decide +kernel⟩ ⟨by decide, by decide⟩
set_option maxRecDepth 20000 in
theorem kX6_print_206 : zLV E_X6_print 206 E_X0_remember 1 := zLV.of gX6_print_X0_remember okX0_remember ⟨by decide +kernel, by decide +kernel, by decide +kernel⟩ ⟨by decide, by decide⟩
set_option maxRecDepth 20000 in
theorem kX6_print_227 : zLV E_X6_print 227 E_X3_printKeys 0 := zLV.of gX6_print_X3_printKeys okX3_printKeys ⟨by decide +kernel, by decide +kernel, by decide +kernel⟩ ⟨by decide, by decide⟩
set_option maxRecDepth 20000 in
theorem kX6_undo_235 : zLV E_X6_undo 235 E_X0_takeBack 1 := zLV.of gX6_undo_X0_takeBack okX0_takeBack ⟨by decide +kernel, by decide +kernel, by decide +kernel⟩ ⟨by decide, by decide⟩
set_option maxRecDepth 20000 in
theorem kX6_ifRemoved_120 : zLV E_X6_ifRemoved 120 E_X6_needWork 1 := zLV.of gX6_ifRemoved_X6_needWork okX6_needWork ⟨by decide +kernel, by decide +kernel, by decide +kernel⟩ ⟨by decide, by decide⟩
set_option maxRecDepth 20000 in
theorem kX6_ifRemoved_238 : zLV E_X6_ifRemoved 238 E_X6_keysHangingOn 1 := zLV.of gX6_ifRemoved_X6_keysHangingOn okX6_keysHangingOn ⟨by decide +kernel, by decide +kernel, by decide +kernel⟩ ⟨by decide, by decide⟩
set_option maxRecDepth 20000 in
theorem kX6_freeYear_120 : zLV E_X6_freeYear 120 E_X6_needWork 1 := zLV.of gX6_freeYear_X6_needWork okX6_needWork ⟨by decide +kernel, by decide +kernel, by decide +kernel⟩ ⟨by decide, by decide⟩
set_option maxRecDepth 20000 in
theorem kX6_freeYear_213 : zLS E_X6_freeYear 213 E_X6_isYear 1 := zLS.of gX6_freeYear_X6_isYear okX6_isYear ⟨by decide +kernel, by decide +kernel, by decide +kernel⟩ ⟨by decide, by decide⟩
set_option maxRecDepth 20000 in
theorem kX6_freeYear_241 : zLV E_X6_freeYear 241 E_X3_isFree 2 := zLV.of gX6_freeYear_X3_isFree okX3_isFree ⟨by decide +kernel, by decide +kernel, by decide +kernel⟩ ⟨by decide, by decide⟩
set_option maxRecDepth 20000 in
theorem kX6_lettersWith_222 : zLS E_X6_lettersWith 222 E_X6_needStyle 1 := zLS.of gX6_lettersWith_X6_needStyle okX6_needStyle ⟨by decide +kernel, by decide +kernel, by decide +kernel⟩ ⟨by decide, by decide⟩
set_option maxRecDepth 20000 in
theorem kX6_lettersWith_245 : zLV E_X6_lettersWith 245 E_X6_tryStyle 1 := zLV.of gX6_lettersWith_X6_tryStyle okX6_tryStyle ⟨by decide +kernel, by decide +kernel, by decide +kernel⟩ ⟨by decide, by decide⟩
set_option maxRecDepth 20000 in
theorem kX6_lettersWith_103 : zLV E_X6_lettersWith 103 E_X3_lettered 0 := zLV.of gX6_lettersWith_X3_lettered okX3_lettered ⟨by decide +kernel, by decide +kernel, by decide +kernel⟩ ⟨by decide, by decide⟩
set_option maxRecDepth 20000 in
theorem kX6_bestStyle_245 : zLV E_X6_bestStyle 245 E_X6_tryStyle 1 := zLV.of gX6_bestStyle_X6_tryStyle okX6_tryStyle ⟨by decide +kernel, by decide +kernel, by decide +kernel⟩ ⟨by decide, by decide⟩
set_option maxRecDepth 20000 in
theorem kX6_bestStyle_103 : zLV E_X6_bestStyle 103 E_X3_lettered 0 := zLV.of gX6_bestStyle_X3_lettered okX3_lettered ⟨by decide +kernel, by decide +kernel, by decide +kernel⟩ ⟨by decide, by decide⟩
set_option maxRecDepth 20000 in
theorem kX6_bestStyle_109 : zLV E_X6_bestStyle 109 E_X3_longestKey 0 := zLV.of gX6_bestStyle_X3_longestKey okX3_longestKey ⟨by decide +kernel, by decide +kernel, by decide +kernel⟩ ⟨by decide, by decide⟩
set_option maxRecDepth 20000 in
theorem kX6_weightiest_238 : zLV E_X6_weightiest 238 E_X6_keysHangingOn 1 := zLV.of gX6_weightiest_X6_keysHangingOn okX6_keysHangingOn ⟨by decide +kernel, by decide +kernel, by decide +kernel⟩ ⟨by decide, by decide⟩
set_option maxRecDepth 20000 in
theorem kX6_runScript_254 : zLV E_X6_runScript 254 E_X3_copyFrom 1 := zLV.of gX6_runScript_X3_copyFrom okX3_copyFrom ⟨by decide +kernel, by decide +kernel, by decide +kernel⟩ ⟨by decide, by decide⟩
set_option maxRecDepth 20000 in
theorem kX6_runScript_256 : zLS E_X6_runScript 256 E_X6_commandAt 2 := zLS.of gX6_runScript_X6_commandAt okX6_commandAt ⟨by decide +kernel, by decide +kernel, by decide +kernel⟩ ⟨by decide, by decide⟩
set_option maxRecDepth 20000 in
theorem kX6_runScript_259 : zLS E_X6_runScript 259 E_X6_succeeds 2 := zLS.of gX6_runScript_X6_succeeds okX6_succeeds ⟨by decide +kernel, by decide +kernel, by decide +kernel⟩ ⟨by decide, by decide⟩
set_option maxRecDepth 20000 in
theorem kX6_runScript_88 : zLV E_X6_runScript 88 E_X3_rekey 0 := zLV.of gX6_runScript_X3_rekey okX3_rekey ⟨by decide +kernel, by decide +kernel, by decide +kernel⟩ ⟨by decide, by decide⟩
set_option maxRecDepth 20000 in
theorem kX6_simulate_254 : zLV E_X6_simulate 254 E_X3_copyFrom 1 := zLV.of gX6_simulate_X3_copyFrom okX3_copyFrom ⟨by decide +kernel, by decide +kernel, by decide +kernel⟩ ⟨by decide, by decide⟩
set_option maxRecDepth 20000 in
theorem kX6_simulate_269 : zLV E_X6_simulate 269 E_X6_playRound 2 := zLV.of gX6_simulate_X6_playRound okX6_playRound ⟨by decide +kernel, by decide +kernel, by decide +kernel⟩ ⟨by decide, by decide⟩
set_option maxRecDepth 20000 in
theorem kX6_simulate_88 : zLV E_X6_simulate 88 E_X3_rekey 0 := zLV.of gX6_simulate_X3_rekey okX3_rekey ⟨by decide +kernel, by decide +kernel, by decide +kernel⟩ ⟨by decide, by decide⟩
set_option maxRecDepth 20000 in
theorem kX6_simulate_103 : zLV E_X6_simulate 103 E_X3_lettered 0 := zLV.of gX6_simulate_X3_lettered okX3_lettered ⟨by decide +kernel, by decide +kernel, by decide +kernel⟩ ⟨by decide, by decide⟩
set_option maxRecDepth 20000 in
theorem kX6_save_273 : zLS E_X6_save 273 E_X6_needSlot 1 := zLS.of gX6_save_X6_needSlot okX6_needSlot ⟨by decide +kernel, by decide +kernel, by decide +kernel⟩ ⟨by decide, by decide⟩
set_option maxRecDepth 20000 in
theorem kX6_save_254 : zLV E_X6_save 254 E_X3_copyFrom 1 := zLV.of gX6_save_X3_copyFrom okX3_copyFrom ⟨by decide +kernel, by decide +kernel, by decide +kernel⟩ ⟨by decide, by decide⟩
set_option maxRecDepth 20000 in
theorem kX6_restore_273 : zLS E_X6_restore 273 E_X6_needSlot 1 := zLS.of gX6_restore_X6_needSlot okX6_needSlot ⟨by decide +kernel, by decide +kernel, by decide +kernel⟩ ⟨by decide, by decide⟩
set_option maxRecDepth 20000 in
theorem kX6_restore_254 : zLV E_X6_restore 254 E_X3_copyFrom 1 := zLV.of gX6_restore_X3_copyFrom okX3_copyFrom ⟨by decide +kernel, by decide +kernel, by decide +kernel⟩ ⟨by decide, by decide⟩
set_option maxRecDepth 20000 in
theorem kX6_restore_91 : zLV E_X6_restore 91 E_X0_forget 0 := zLV.of gX6_restore_X0_forget okX0_forget ⟨by decide +kernel, by decide +kernel, by decide +kernel⟩ ⟨by decide, by decide⟩
set_option maxRecDepth 20000 in
theorem kX6_needWork_278 : zLV E_X6_needWork 278 E_X3_has 1 := zLV.of gX6_needWork_X3_has okX3_has ⟨by decide +kernel, by decide +kernel, by decide +kernel⟩ ⟨by decide, by decide⟩
set_option maxRecDepth 20000 in
theorem kX6_needStyle_286 : zLS E_X6_needStyle 286 E_X6_isStyle 1 := zLS.of gX6_needStyle_X6_isStyle okX6_isStyle ⟨by decide +kernel, by decide +kernel, by decide +kernel⟩ ⟨by decide, by decide⟩
set_option maxRecDepth 20000 in
theorem kX6_tellsOneWork_68 : zLV E_X6_tellsOneWork 68 E_X4_read 0 := zLV.of gX6_tellsOneWork_X4_read okX4_read ⟨by decide +kernel, by decide +kernel, by decide +kernel⟩ ⟨by decide, by decide⟩
set_option maxRecDepth 20000 in
theorem kX6_keysHangingOn_254 : zLV E_X6_keysHangingOn 254 E_X3_copyFrom 1 := zLV.of gX6_keysHangingOn_X3_copyFrom okX3_copyFrom ⟨by decide +kernel, by decide +kernel, by decide +kernel⟩ ⟨by decide, by decide⟩
set_option maxRecDepth 20000 in
theorem kX6_keysHangingOn_219 : zLV E_X6_keysHangingOn 219 E_X3_takeOut 1 := zLV.of gX6_keysHangingOn_X3_takeOut okX3_takeOut ⟨by decide +kernel, by decide +kernel, by decide +kernel⟩ ⟨by decide, by decide⟩
set_option maxRecDepth 20000 in
theorem kX6_keysHangingOn_88 : zLV E_X6_keysHangingOn 88 E_X3_rekey 0 := zLV.of gX6_keysHangingOn_X3_rekey okX3_rekey ⟨by decide +kernel, by decide +kernel, by decide +kernel⟩ ⟨by decide, by decide⟩
set_option maxRecDepth 20000 in
theorem kX6_tryStyle_254 : zLV E_X6_tryStyle 254 E_X3_copyFrom 1 := zLV.of gX6_tryStyle_X3_copyFrom okX3_copyFrom ⟨by decide +kernel, by decide +kernel, by decide +kernel⟩ ⟨by decide, by decide⟩
set_option maxRecDepth 20000 in
theorem kX6_tryStyle_88 : zLV E_X6_tryStyle 88 E_X3_rekey 0 := zLV.of gX6_tryStyle_X3_rekey okX3_rekey ⟨by decide +kernel, by decide +kernel, by decide +kernel⟩ ⟨by decide, by decide⟩
set_option maxRecDepth 20000 in
theorem kX6_succeeds_293 : zLS E_X6_succeeds 293 E_X6_removes 2 := zLS.of gX6_succeeds_X6_removes okX6_removes ⟨by decide +kernel, by decide +kernel, by decide +kernel⟩ ⟨by decide, by decide⟩
set_option maxRecDepth 20000 in
theorem kX6_succeeds_296 : zLS E_X6_succeeds 296 E_X6_setsStyle 2 := zLS.of gX6_succeeds_X6_setsStyle okX6_setsStyle ⟨by decide +kernel, by decide +kernel, by decide +kernel⟩ ⟨by decide, by decide⟩
set_option maxRecDepth 20000 in
theorem kX6_succeeds_299 : zLS E_X6_succeeds 299 E_X6_setsOrder 2 := zLS.of gX6_succeeds_X6_setsOrder okX6_setsOrder ⟨by decide +kernel, by decide +kernel, by decide +kernel⟩ ⟨by decide, by decide⟩
set_option maxRecDepth 20000 in
theorem kX6_succeeds_302 : zLS E_X6_succeeds 302 E_X6_movesYear 3 := zLS.of gX6_succeeds_X6_movesYear okX6_movesYear ⟨by decide +kernel, by decide +kernel, by decide +kernel⟩ ⟨by decide, by decide⟩
set_option maxRecDepth 20000 in
theorem kX6_succeeds_278 : zLV E_X6_succeeds 278 E_X3_has 1 := zLV.of gX6_succeeds_X3_has okX3_has ⟨by decide +kernel, by decide +kernel, by decide +kernel⟩ ⟨by decide, by decide⟩
set_option maxRecDepth 20000 in
theorem kX6_succeeds_147 : zLS E_X6_succeeds 147 E_X1_letterOf 1 := zLS.of gX6_succeeds_X1_letterOf okX1_letterOf ⟨by decide +kernel, by decide +kernel, by decide +kernel⟩ ⟨by decide, by decide⟩
set_option maxRecDepth 20000 in
theorem kX6_succeeds_103 : zLV E_X6_succeeds 103 E_X3_lettered 0 := zLV.of gX6_succeeds_X3_lettered okX3_lettered ⟨by decide +kernel, by decide +kernel, by decide +kernel⟩ ⟨by decide, by decide⟩
set_option maxRecDepth 20000 in
theorem kX6_succeeds_306 : zLS E_X6_succeeds 306 E_X6_prints 2 := zLS.of gX6_succeeds_X6_prints okX6_prints ⟨by decide +kernel, by decide +kernel, by decide +kernel⟩ ⟨by decide, by decide⟩
set_option maxRecDepth 20000 in
theorem kX6_succeeds_187 : zLV E_X6_succeeds 187 E_X3_printedOfAnother 0 := zLV.of gX6_succeeds_X3_printedOfAnother okX3_printedOfAnother ⟨by decide +kernel, by decide +kernel, by decide +kernel⟩ ⟨by decide, by decide⟩
set_option maxRecDepth 20000 in
theorem kX6_removes_278 : zLV E_X6_removes 278 E_X3_has 1 := zLV.of gX6_removes_X3_has okX3_has ⟨by decide +kernel, by decide +kernel, by decide +kernel⟩ ⟨by decide, by decide⟩
set_option maxRecDepth 20000 in
theorem kX6_removes_219 : zLV E_X6_removes 219 E_X3_takeOut 1 := zLV.of gX6_removes_X3_takeOut okX3_takeOut ⟨by decide +kernel, by decide +kernel, by decide +kernel⟩ ⟨by decide, by decide⟩
set_option maxRecDepth 20000 in
theorem kX6_setsStyle_286 : zLS E_X6_setsStyle 286 E_X6_isStyle 1 := zLS.of gX6_setsStyle_X6_isStyle okX6_isStyle ⟨by decide +kernel, by decide +kernel, by decide +kernel⟩ ⟨by decide, by decide⟩
set_option maxRecDepth 20000 in
theorem kX6_movesYear_278 : zLV E_X6_movesYear 278 E_X3_has 1 := zLV.of gX6_movesYear_X3_has okX3_has ⟨by decide +kernel, by decide +kernel, by decide +kernel⟩ ⟨by decide, by decide⟩
set_option maxRecDepth 20000 in
theorem kX6_movesYear_213 : zLS E_X6_movesYear 213 E_X6_isYear 1 := zLS.of gX6_movesYear_X6_isYear okX6_isYear ⟨by decide +kernel, by decide +kernel, by decide +kernel⟩ ⟨by decide, by decide⟩
set_option maxRecDepth 20000 in
theorem kX6_prints_227 : zLV E_X6_prints 227 E_X3_printKeys 0 := zLV.of gX6_prints_X3_printKeys okX3_printKeys ⟨by decide +kernel, by decide +kernel, by decide +kernel⟩ ⟨by decide, by decide⟩
set_option maxRecDepth 20000 in
theorem kX6_playRound_309 : zLV E_X6_playRound 309 E_X5_empty 0 := zLV.of gX6_playRound_X5_empty okX5_empty ⟨by decide +kernel, by decide +kernel, by decide +kernel⟩ ⟨by decide, by decide⟩
set_option maxRecDepth 20000 in
theorem kX6_playRound_313 : zLS E_X6_playRound 313 E_X2_with 3 := zLS.of gX6_playRound_X2_with okX2_with ⟨by decide +kernel, by decide +kernel, by decide +kernel⟩ ⟨by decide, by decide⟩
set_option maxRecDepth 20000 in
theorem kX6_playRound_84 : zLV E_X6_playRound 84 E_X3_place 1 := zLV.of gX6_playRound_X3_place okX3_place ⟨by decide +kernel, by decide +kernel, by decide +kernel⟩ ⟨by decide, by decide⟩
set_option maxRecDepth 20000 in
theorem kX6_playRound_219 : zLV E_X6_playRound 219 E_X3_takeOut 1 := zLV.of gX6_playRound_X3_takeOut okX3_takeOut ⟨by decide +kernel, by decide +kernel, by decide +kernel⟩ ⟨by decide, by decide⟩
set_option maxRecDepth 20000 in
theorem kX6_playRound_278 : zLV E_X6_playRound 278 E_X3_has 1 := zLV.of gX6_playRound_X3_has okX3_has ⟨by decide +kernel, by decide +kernel, by decide +kernel⟩ ⟨by decide, by decide⟩
set_option maxRecDepth 20000 in
theorem kX7_init_50 : zLS E_X7_init 50 E_X7_clean 1 := zLS.of gX7_init_X7_clean okX7_clean ⟨by decide +kernel, by decide +kernel, by decide +kernel⟩ ⟨by decide, by decide⟩
set_option maxRecDepth 20000 in
theorem kX7_note_63 : zLS E_X7_note 63 E_X7_copy 5 := zLS.of gX7_note_X7_copy okX7_copy ⟨by decide +kernel, by decide +kernel, by decide +kernel⟩ ⟨by decide, by decide⟩
set_option maxRecDepth 20000 in
theorem kX7_begin_63 : zLS E_X7_begin 63 E_X7_copy 5 := zLS.of gX7_begin_X7_copy okX7_copy ⟨by decide +kernel, by decide +kernel, by decide +kernel⟩ ⟨by decide, by decide⟩
set_option maxRecDepth 20000 in
theorem kX7_author_67 : zLS E_X7_author 67 E_X7_cell 2 := zLS.of gX7_author_X7_cell okX7_cell ⟨by decide +kernel, by decide +kernel, by decide +kernel⟩ ⟨by decide, by decide⟩
set_option maxRecDepth 20000 in
theorem kX7_compareAuthors_67 : zLS E_X7_compareAuthors 67 E_X7_cell 2 := zLS.of gX7_compareAuthors_X7_cell okX7_cell ⟨by decide +kernel, by decide +kernel, by decide +kernel⟩ ⟨by decide, by decide⟩
set_option maxRecDepth 20000 in
theorem kX7_compareAuthors_71 : zLS E_X7_compareAuthors 71 E_X7_author 2 := zLS.of gX7_compareAuthors_X7_author okX7_author ⟨by decide +kernel, by decide +kernel, by decide +kernel⟩ ⟨by decide, by decide⟩
set_option maxRecDepth 20000 in
theorem kX7_compareAuthors_74 : zLS E_X7_compareAuthors 74 E_X7_compareNames 3 := zLS.of gX7_compareAuthors_X7_compareNames okX7_compareNames ⟨by decide +kernel, by decide +kernel, by decide +kernel⟩ ⟨by decide, by decide⟩
set_option maxRecDepth 20000 in
theorem kX7_isAhead_67 : zLS E_X7_isAhead 67 E_X7_cell 2 := zLS.of gX7_isAhead_X7_cell okX7_cell ⟨by decide +kernel, by decide +kernel, by decide +kernel⟩ ⟨by decide, by decide⟩
set_option maxRecDepth 20000 in
theorem kX7_isAhead_78 : zLS E_X7_isAhead 78 E_X7_compareAuthors 3 := zLS.of gX7_isAhead_X7_compareAuthors okX7_compareAuthors ⟨by decide +kernel, by decide +kernel, by decide +kernel⟩ ⟨by decide, by decide⟩
set_option maxRecDepth 20000 in
theorem kX7_isAhead_74 : zLS E_X7_isAhead 74 E_X7_compareNames 3 := zLS.of gX7_isAhead_X7_compareNames okX7_compareNames ⟨by decide +kernel, by decide +kernel, by decide +kernel⟩ ⟨by decide, by decide⟩
set_option maxRecDepth 20000 in
theorem kX7_putYear_81 : zLS E_X7_putYear 81 E_X7_tenTo 1 := zLS.of gX7_putYear_X7_tenTo okX7_tenTo ⟨by decide +kernel, by decide +kernel, by decide +kernel⟩ ⟨by decide, by decide⟩
set_option maxRecDepth 20000 in
theorem kX7_putYear_85 : zLV E_X7_putYear 85 E_X7_put 1 := zLV.of gX7_putYear_X7_put okX7_put ⟨by decide +kernel, by decide +kernel, by decide +kernel⟩ ⟨by decide, by decide⟩
set_option maxRecDepth 20000 in
theorem kX7_layStem_67 : zLS E_X7_layStem 67 E_X7_cell 2 := zLS.of gX7_layStem_X7_cell okX7_cell ⟨by decide +kernel, by decide +kernel, by decide +kernel⟩ ⟨by decide, by decide⟩
set_option maxRecDepth 20000 in
theorem kX7_layStem_71 : zLS E_X7_layStem 71 E_X7_author 2 := zLS.of gX7_layStem_X7_author okX7_author ⟨by decide +kernel, by decide +kernel, by decide +kernel⟩ ⟨by decide, by decide⟩
set_option maxRecDepth 20000 in
theorem kX7_layStem_85 : zLV E_X7_layStem 85 E_X7_put 1 := zLV.of gX7_layStem_X7_put okX7_put ⟨by decide +kernel, by decide +kernel, by decide +kernel⟩ ⟨by decide, by decide⟩
set_option maxRecDepth 20000 in
theorem kX7_layStem_89 : zLV E_X7_layStem 89 E_X7_putYear 2 := zLV.of gX7_layStem_X7_putYear okX7_putYear ⟨by decide +kernel, by decide +kernel, by decide +kernel⟩ ⟨by decide, by decide⟩
set_option maxRecDepth 20000 in
theorem kX7_lay_93 : zLV E_X7_lay 93 E_X7_layStem 3 := zLV.of gX7_lay_X7_layStem okX7_layStem ⟨by decide +kernel, by decide +kernel, by decide +kernel⟩ ⟨by decide, by decide⟩
set_option maxRecDepth 20000 in
theorem kX7_lay_63 : zLS E_X7_lay 63 E_X7_copy 5 := zLS.of gX7_lay_X7_copy okX7_copy ⟨by decide +kernel, by decide +kernel, by decide +kernel⟩ ⟨by decide, by decide⟩
set_option maxRecDepth 20000 in
theorem kX7_lay_97 : zLS E_X7_lay 97 E_X7_areLike 4 := zLS.of gX7_lay_X7_areLike okX7_areLike ⟨by decide +kernel, by decide +kernel, by decide +kernel⟩ ⟨by decide, by decide⟩
set_option maxRecDepth 20000 in
theorem kX7_lay_101 : zLS E_X7_lay 101 E_X7_isAhead 3 := zLS.of gX7_lay_X7_isAhead okX7_isAhead ⟨by decide +kernel, by decide +kernel, by decide +kernel⟩ ⟨by decide, by decide⟩
set_option maxRecDepth 20000 in
theorem kX7_layWas_105 : zLV E_X7_layWas 105 E_X7_layNow 0 := zLV.of gX7_layWas_X7_layNow okX7_layNow ⟨by decide +kernel, by decide +kernel, by decide +kernel⟩ ⟨by decide, by decide⟩
set_option maxRecDepth 20000 in
theorem kX7_layWas_63 : zLS E_X7_layWas 63 E_X7_copy 5 := zLS.of gX7_layWas_X7_copy okX7_copy ⟨by decide +kernel, by decide +kernel, by decide +kernel⟩ ⟨by decide, by decide⟩
set_option maxRecDepth 20000 in
theorem kX7_layNow_108 : zLV E_X7_layNow 108 E_X7_lay 2 := zLV.of gX7_layNow_X7_lay okX7_lay ⟨by decide +kernel, by decide +kernel, by decide +kernel⟩ ⟨by decide, by decide⟩
set_option maxRecDepth 20000 in
theorem kX7_others_108 : zLV E_X7_others 108 E_X7_lay 2 := zLV.of gX7_others_X7_lay okX7_lay ⟨by decide +kernel, by decide +kernel, by decide +kernel⟩ ⟨by decide, by decide⟩
set_option maxRecDepth 20000 in
theorem kX7_others_97 : zLS E_X7_others 97 E_X7_areLike 4 := zLS.of gX7_others_X7_areLike okX7_areLike ⟨by decide +kernel, by decide +kernel, by decide +kernel⟩ ⟨by decide, by decide⟩
set_option maxRecDepth 20000 in
theorem kX7_drop_67 : zLS E_X7_drop 67 E_X7_cell 2 := zLS.of gX7_drop_X7_cell okX7_cell ⟨by decide +kernel, by decide +kernel, by decide +kernel⟩ ⟨by decide, by decide⟩
set_option maxRecDepth 20000 in
theorem kX7_goPrint_108 : zLV E_X7_goPrint 108 E_X7_lay 2 := zLV.of gX7_goPrint_X7_lay okX7_lay ⟨by decide +kernel, by decide +kernel, by decide +kernel⟩ ⟨by decide, by decide⟩
set_option maxRecDepth 20000 in
theorem kX7_goPrint_63 : zLS E_X7_goPrint 63 E_X7_copy 5 := zLS.of gX7_goPrint_X7_copy okX7_copy ⟨by decide +kernel, by decide +kernel, by decide +kernel⟩ ⟨by decide, by decide⟩
set_option maxRecDepth 20000 in
theorem kX7_holder_97 : zLS E_X7_holder 97 E_X7_areLike 4 := zLS.of gX7_holder_X7_areLike okX7_areLike ⟨by decide +kernel, by decide +kernel, by decide +kernel⟩ ⟨by decide, by decide⟩
set_option maxRecDepth 20000 in
theorem kX7_printedOf_108 : zLV E_X7_printedOf 108 E_X7_lay 2 := zLV.of gX7_printedOf_X7_lay okX7_lay ⟨by decide +kernel, by decide +kernel, by decide +kernel⟩ ⟨by decide, by decide⟩
set_option maxRecDepth 20000 in
theorem kX7_printedOf_112 : zLV E_X7_printedOf 112 E_X7_holder 2 := zLV.of gX7_printedOf_X7_holder okX7_holder ⟨by decide +kernel, by decide +kernel, by decide +kernel⟩ ⟨by decide, by decide⟩
set_option maxRecDepth 20000 in
theorem kX7_append_118 : zLS E_X7_append 118 E_X7_in 3 := zLS.of gX7_append_X7_in okX7_in ⟨by decide +kernel, by decide +kernel, by decide +kernel⟩ ⟨by decide, by decide⟩
set_option maxRecDepth 20000 in
theorem kX7_append_125 : zLV E_X7_append 125 E_X7_refused 1 := zLV.of gX7_append_X7_refused okX7_refused ⟨by decide +kernel, by decide +kernel, by decide +kernel⟩ ⟨by decide, by decide⟩
set_option maxRecDepth 20000 in
theorem kX7_isLetter_118 : zLS E_X7_isLetter 118 E_X7_in 3 := zLS.of gX7_isLetter_X7_in okX7_in ⟨by decide +kernel, by decide +kernel, by decide +kernel⟩ ⟨by decide, by decide⟩
set_option maxRecDepth 20000 in
theorem kX7_readName_140 : zLV E_X7_readName 140 E_X7_isLetter 0 := zLV.of gX7_readName_X7_isLetter okX7_isLetter ⟨by decide +kernel, by decide +kernel, by decide +kernel⟩ ⟨by decide, by decide⟩
set_option maxRecDepth 20000 in
theorem kX7_readName_144 : zLV E_X7_readName 144 E_X7_accept 1 := zLV.of gX7_readName_X7_accept okX7_accept ⟨by decide +kernel, by decide +kernel, by decide +kernel⟩ ⟨by decide, by decide⟩
set_option maxRecDepth 20000 in
theorem kX7_readYear_118 : zLS E_X7_readYear 118 E_X7_in 3 := zLS.of gX7_readYear_X7_in okX7_in ⟨by decide +kernel, by decide +kernel, by decide +kernel⟩ ⟨by decide, by decide⟩
set_option maxRecDepth 20000 in
theorem kX7_readYear_144 : zLV E_X7_readYear 144 E_X7_accept 1 := zLV.of gX7_readYear_X7_accept okX7_accept ⟨by decide +kernel, by decide +kernel, by decide +kernel⟩ ⟨by decide, by decide⟩
set_option maxRecDepth 20000 in
theorem kX7_readWork_67 : zLS E_X7_readWork 67 E_X7_cell 2 := zLS.of gX7_readWork_X7_cell okX7_cell ⟨by decide +kernel, by decide +kernel, by decide +kernel⟩ ⟨by decide, by decide⟩
set_option maxRecDepth 20000 in
theorem kX7_readWork_71 : zLS E_X7_readWork 71 E_X7_author 2 := zLS.of gX7_readWork_X7_author okX7_author ⟨by decide +kernel, by decide +kernel, by decide +kernel⟩ ⟨by decide, by decide⟩
set_option maxRecDepth 20000 in
theorem kX7_readWork_152 : zLV E_X7_readWork 152 E_X7_readName 1 := zLV.of gX7_readWork_X7_readName okX7_readName ⟨by decide +kernel, by decide +kernel, by decide +kernel⟩ ⟨by decide, by decide⟩
set_option maxRecDepth 20000 in
theorem kX7_readWork_155 : zLV E_X7_readWork 155 E_X7_isNext 1 := zLV.of gX7_readWork_X7_isNext okX7_isNext ⟨by decide +kernel, by decide +kernel, by decide +kernel⟩ ⟨by decide, by decide⟩
set_option maxRecDepth 20000 in
theorem kX7_readWork_144 : zLV E_X7_readWork 144 E_X7_accept 1 := zLV.of gX7_readWork_X7_accept okX7_accept ⟨by decide +kernel, by decide +kernel, by decide +kernel⟩ ⟨by decide, by decide⟩
set_option maxRecDepth 20000 in
theorem kX7_readWork_158 : zLV E_X7_readWork 158 E_X7_readYear 1 := zLV.of gX7_readWork_X7_readYear okX7_readYear ⟨by decide +kernel, by decide +kernel, by decide +kernel⟩ ⟨by decide, by decide⟩
set_option maxRecDepth 20000 in
theorem kX7_readText_50 : zLS E_X7_readText 50 E_X7_clean 1 := zLS.of gX7_readText_X7_clean okX7_clean ⟨by decide +kernel, by decide +kernel, by decide +kernel⟩ ⟨by decide, by decide⟩
set_option maxRecDepth 20000 in
theorem kX7_readText_161 : zLV E_X7_readText 161 E_X7_readWork 0 := zLV.of gX7_readText_X7_readWork okX7_readWork ⟨by decide +kernel, by decide +kernel, by decide +kernel⟩ ⟨by decide, by decide⟩
set_option maxRecDepth 20000 in
theorem kX7_readText_155 : zLV E_X7_readText 155 E_X7_isNext 1 := zLV.of gX7_readText_X7_isNext okX7_isNext ⟨by decide +kernel, by decide +kernel, by decide +kernel⟩ ⟨by decide, by decide⟩
set_option maxRecDepth 20000 in
theorem kX7_readText_144 : zLV E_X7_readText 144 E_X7_accept 1 := zLV.of gX7_readText_X7_accept okX7_accept ⟨by decide +kernel, by decide +kernel, by decide +kernel⟩ ⟨by decide, by decide⟩
set_option maxRecDepth 20000 in
theorem kX7_errorPosition_164 : zLV E_X7_errorPosition 164 E_X7_readText 0 := zLV.of gX7_errorPosition_X7_readText okX7_readText ⟨by decide +kernel, by decide +kernel, by decide +kernel⟩ ⟨by decide, by decide⟩
set_option maxRecDepth 20000 in
theorem kX7_load_164 : zLV E_X7_load 164 E_X7_readText 0 := zLV.of gX7_load_X7_readText okX7_readText ⟨by decide +kernel, by decide +kernel, by decide +kernel⟩ ⟨by decide, by decide⟩
set_option maxRecDepth 20000 in
theorem kX7_load_125 : zLV E_X7_load 125 E_X7_refused 1 := zLV.of gX7_load_X7_refused okX7_refused ⟨by decide +kernel, by decide +kernel, by decide +kernel⟩ ⟨by decide, by decide⟩
set_option maxRecDepth 20000 in
theorem kX7_load_63 : zLS E_X7_load 63 E_X7_copy 5 := zLS.of gX7_load_X7_copy okX7_copy ⟨by decide +kernel, by decide +kernel, by decide +kernel⟩ ⟨by decide, by decide⟩
set_option maxRecDepth 20000 in
theorem kX7_isOneWork_164 : zLV E_X7_isOneWork 164 E_X7_readText 0 := zLV.of gX7_isOneWork_X7_readText okX7_readText ⟨by decide +kernel, by decide +kernel, by decide +kernel⟩ ⟨by decide, by decide⟩
set_option maxRecDepth 20000 in
theorem kX7_about_118 : zLS E_X7_about 118 E_X7_in 3 := zLS.of gX7_about_X7_in okX7_in ⟨by decide +kernel, by decide +kernel, by decide +kernel⟩ ⟨by decide, by decide⟩
set_option maxRecDepth 20000 in
theorem kX7_about_125 : zLV E_X7_about 125 E_X7_refused 1 := zLV.of gX7_about_X7_refused okX7_refused ⟨by decide +kernel, by decide +kernel, by decide +kernel⟩ ⟨by decide, by decide⟩
set_option maxRecDepth 20000 in
theorem kX7_about_105 : zLV E_X7_about 105 E_X7_layNow 0 := zLV.of gX7_about_X7_layNow okX7_layNow ⟨by decide +kernel, by decide +kernel, by decide +kernel⟩ ⟨by decide, by decide⟩
set_option maxRecDepth 20000 in
theorem kX7_about_170 : zLS E_X7_about 170 E_X7_lettered 2 := zLS.of gX7_about_X7_lettered okX7_lettered ⟨by decide +kernel, by decide +kernel, by decide +kernel⟩ ⟨by decide, by decide⟩
set_option maxRecDepth 20000 in
theorem kX7_about_173 : zLV E_X7_about 173 E_X7_stems 0 := zLV.of gX7_about_X7_stems okX7_stems ⟨by decide +kernel, by decide +kernel, by decide +kernel⟩ ⟨by decide, by decide⟩
set_option maxRecDepth 20000 in
theorem kX7_about_176 : zLV E_X7_about 176 E_X7_longest 1 := zLV.of gX7_about_X7_longest okX7_longest ⟨by decide +kernel, by decide +kernel, by decide +kernel⟩ ⟨by decide, by decide⟩
set_option maxRecDepth 20000 in
theorem kX7_about_180 : zLV E_X7_about 180 E_X7_gone 0 := zLV.of gX7_about_X7_gone okX7_gone ⟨by decide +kernel, by decide +kernel, by decide +kernel⟩ ⟨by decide, by decide⟩
set_option maxRecDepth 20000 in
theorem kX7_isWork_118 : zLS E_X7_isWork 118 E_X7_in 3 := zLS.of gX7_isWork_X7_in okX7_in ⟨by decide +kernel, by decide +kernel, by decide +kernel⟩ ⟨by decide, by decide⟩
set_option maxRecDepth 20000 in
theorem kX7_work_183 : zLV E_X7_work 183 E_X7_isWork 1 := zLV.of gX7_work_X7_isWork okX7_isWork ⟨by decide +kernel, by decide +kernel, by decide +kernel⟩ ⟨by decide, by decide⟩
set_option maxRecDepth 20000 in
theorem kX7_work_118 : zLS E_X7_work 118 E_X7_in 3 := zLS.of gX7_work_X7_in okX7_in ⟨by decide +kernel, by decide +kernel, by decide +kernel⟩ ⟨by decide, by decide⟩
set_option maxRecDepth 20000 in
theorem kX7_work_125 : zLV E_X7_work 125 E_X7_refused 1 := zLV.of gX7_work_X7_refused okX7_refused ⟨by decide +kernel, by decide +kernel, by decide +kernel⟩ ⟨by decide, by decide⟩
set_option maxRecDepth 20000 in
theorem kX7_work_105 : zLV E_X7_work 105 E_X7_layNow 0 := zLV.of gX7_work_X7_layNow okX7_layNow ⟨by decide +kernel, by decide +kernel, by decide +kernel⟩ ⟨by decide, by decide⟩
set_option maxRecDepth 20000 in
theorem kX7_work_67 : zLS E_X7_work 67 E_X7_cell 2 := zLS.of gX7_work_X7_cell okX7_cell ⟨by decide +kernel, by decide +kernel, by decide +kernel⟩ ⟨by decide, by decide⟩
set_option maxRecDepth 20000 in
theorem kX7_letter_183 : zLV E_X7_letter 183 E_X7_isWork 1 := zLV.of gX7_letter_X7_isWork okX7_isWork ⟨by decide +kernel, by decide +kernel, by decide +kernel⟩ ⟨by decide, by decide⟩
set_option maxRecDepth 20000 in
theorem kX7_letter_67 : zLS E_X7_letter 67 E_X7_cell 2 := zLS.of gX7_letter_X7_cell okX7_cell ⟨by decide +kernel, by decide +kernel, by decide +kernel⟩ ⟨by decide, by decide⟩
set_option maxRecDepth 20000 in
theorem kX7_letter_118 : zLS E_X7_letter 118 E_X7_in 3 := zLS.of gX7_letter_X7_in okX7_in ⟨by decide +kernel, by decide +kernel, by decide +kernel⟩ ⟨by decide, by decide⟩
set_option maxRecDepth 20000 in
theorem kX7_letter_125 : zLV E_X7_letter 125 E_X7_refused 1 := zLV.of gX7_letter_X7_refused okX7_refused ⟨by decide +kernel, by decide +kernel, by decide +kernel⟩ ⟨by decide, by decide⟩
set_option maxRecDepth 20000 in
theorem kX7_letter_71 : zLS E_X7_letter 71 E_X7_author 2 := zLS.of gX7_letter_X7_author okX7_author ⟨by decide +kernel, by decide +kernel, by decide +kernel⟩ ⟨by decide, by decide⟩
set_option maxRecDepth 20000 in
theorem kX7_key_183 : zLV E_X7_key 183 E_X7_isWork 1 := zLV.of gX7_key_X7_isWork okX7_isWork ⟨by decide +kernel, by decide +kernel, by decide +kernel⟩ ⟨by decide, by decide⟩
set_option maxRecDepth 20000 in
theorem kX7_key_125 : zLV E_X7_key 125 E_X7_refused 1 := zLV.of gX7_key_X7_refused okX7_refused ⟨by decide +kernel, by decide +kernel, by decide +kernel⟩ ⟨by decide, by decide⟩
set_option maxRecDepth 20000 in
theorem kX7_key_105 : zLV E_X7_key 105 E_X7_layNow 0 := zLV.of gX7_key_X7_layNow okX7_layNow ⟨by decide +kernel, by decide +kernel, by decide +kernel⟩ ⟨by decide, by decide⟩
set_option maxRecDepth 20000 in
theorem kX7_at_125 : zLV E_X7_at 125 E_X7_refused 1 := zLV.of gX7_at_X7_refused okX7_refused ⟨by decide +kernel, by decide +kernel, by decide +kernel⟩ ⟨by decide, by decide⟩
set_option maxRecDepth 20000 in
theorem kX7_at_105 : zLV E_X7_at 105 E_X7_layNow 0 := zLV.of gX7_at_X7_layNow okX7_layNow ⟨by decide +kernel, by decide +kernel, by decide +kernel⟩ ⟨by decide, by decide⟩
set_option maxRecDepth 20000 in
theorem kX7_meaning_105 : zLV E_X7_meaning 105 E_X7_layNow 0 := zLV.of gX7_meaning_X7_layNow okX7_layNow ⟨by decide +kernel, by decide +kernel, by decide +kernel⟩ ⟨by decide, by decide⟩
set_option maxRecDepth 20000 in
theorem kX7_meaning_188 : zLV E_X7_meaning 188 E_X7_isText 2 := zLV.of gX7_meaning_X7_isText okX7_isText ⟨by decide +kernel, by decide +kernel, by decide +kernel⟩ ⟨by decide, by decide⟩
set_option maxRecDepth 20000 in
theorem kX7_printedMeaning_188 : zLV E_X7_printedMeaning 188 E_X7_isText 2 := zLV.of gX7_printedMeaning_X7_isText okX7_isText ⟨by decide +kernel, by decide +kernel, by decide +kernel⟩ ⟨by decide, by decide⟩
set_option maxRecDepth 20000 in
theorem kX7_printed_118 : zLS E_X7_printed 118 E_X7_in 3 := zLS.of gX7_printed_X7_in okX7_in ⟨by decide +kernel, by decide +kernel, by decide +kernel⟩ ⟨by decide, by decide⟩
set_option maxRecDepth 20000 in
theorem kX7_printed_125 : zLV E_X7_printed 125 E_X7_refused 1 := zLV.of gX7_printed_X7_refused okX7_refused ⟨by decide +kernel, by decide +kernel, by decide +kernel⟩ ⟨by decide, by decide⟩
set_option maxRecDepth 20000 in
theorem kX7_printed_192 : zLV E_X7_printed 192 E_X7_printedOf 2 := zLV.of gX7_printed_X7_printedOf okX7_printedOf ⟨by decide +kernel, by decide +kernel, by decide +kernel⟩ ⟨by decide, by decide⟩
set_option maxRecDepth 20000 in
theorem kX7_add_195 : zLV E_X7_add 195 E_X7_isOneWork 0 := zLV.of gX7_add_X7_isOneWork okX7_isOneWork ⟨by decide +kernel, by decide +kernel, by decide +kernel⟩ ⟨by decide, by decide⟩
set_option maxRecDepth 20000 in
theorem kX7_add_125 : zLV E_X7_add 125 E_X7_refused 1 := zLV.of gX7_add_X7_refused okX7_refused ⟨by decide +kernel, by decide +kernel, by decide +kernel⟩ ⟨by decide, by decide⟩
set_option maxRecDepth 20000 in
theorem kX7_add_198 : zLV E_X7_add 198 E_X7_note 0 := zLV.of gX7_add_X7_note okX7_note ⟨by decide +kernel, by decide +kernel, by decide +kernel⟩ ⟨by decide, by decide⟩
set_option maxRecDepth 20000 in
theorem kX7_add_67 : zLS E_X7_add 67 E_X7_cell 2 := zLS.of gX7_add_X7_cell okX7_cell ⟨by decide +kernel, by decide +kernel, by decide +kernel⟩ ⟨by decide, by decide⟩
set_option maxRecDepth 20000 in
theorem kX7_add_63 : zLS E_X7_add 63 E_X7_copy 5 := zLS.of gX7_add_X7_copy okX7_copy ⟨by decide +kernel, by decide +kernel, by decide +kernel⟩ ⟨by decide, by decide⟩
set_option maxRecDepth 20000 in
theorem kX7_change_183 : zLV E_X7_change 183 E_X7_isWork 1 := zLV.of gX7_change_X7_isWork okX7_isWork ⟨by decide +kernel, by decide +kernel, by decide +kernel⟩ ⟨by decide, by decide⟩
set_option maxRecDepth 20000 in
theorem kX7_change_195 : zLV E_X7_change 195 E_X7_isOneWork 0 := zLV.of gX7_change_X7_isOneWork okX7_isOneWork ⟨by decide +kernel, by decide +kernel, by decide +kernel⟩ ⟨by decide, by decide⟩
set_option maxRecDepth 20000 in
theorem kX7_change_125 : zLV E_X7_change 125 E_X7_refused 1 := zLV.of gX7_change_X7_refused okX7_refused ⟨by decide +kernel, by decide +kernel, by decide +kernel⟩ ⟨by decide, by decide⟩
set_option maxRecDepth 20000 in
theorem kX7_change_198 : zLV E_X7_change 198 E_X7_note 0 := zLV.of gX7_change_X7_note okX7_note ⟨by decide +kernel, by decide +kernel, by decide +kernel⟩ ⟨by decide, by decide⟩
set_option maxRecDepth 20000 in
theorem kX7_change_201 : zLV E_X7_change 201 E_X7_layWas 0 := zLV.of gX7_change_X7_layWas okX7_layWas ⟨by decide +kernel, by decide +kernel, by decide +kernel⟩ ⟨by decide, by decide⟩
set_option maxRecDepth 20000 in
theorem kX7_change_67 : zLS E_X7_change 67 E_X7_cell 2 := zLS.of gX7_change_X7_cell okX7_cell ⟨by decide +kernel, by decide +kernel, by decide +kernel⟩ ⟨by decide, by decide⟩
set_option maxRecDepth 20000 in
theorem kX7_change_63 : zLS E_X7_change 63 E_X7_copy 5 := zLS.of gX7_change_X7_copy okX7_copy ⟨by decide +kernel, by decide +kernel, by decide +kernel⟩ ⟨by decide, by decide⟩
set_option maxRecDepth 20000 in
theorem kX7_change_204 : zLV E_X7_change 204 E_X7_others 2 := zLV.of gX7_change_X7_others okX7_others ⟨by decide +kernel, by decide +kernel, by decide +kernel⟩ ⟨by decide, by decide⟩
set_option maxRecDepth 20000 in
theorem kX7_isYear_118 : zLS E_X7_isYear 118 E_X7_in 3 := zLS.of gX7_isYear_X7_in okX7_in ⟨by decide +kernel, by decide +kernel, by decide +kernel⟩ ⟨by decide, by decide⟩
set_option maxRecDepth 20000 in
theorem kX7_setYear_183 : zLV E_X7_setYear 183 E_X7_isWork 1 := zLV.of gX7_setYear_X7_isWork okX7_isWork ⟨by decide +kernel, by decide +kernel, by decide +kernel⟩ ⟨by decide, by decide⟩
set_option maxRecDepth 20000 in
theorem kX7_setYear_211 : zLS E_X7_setYear 211 E_X7_isYear 1 := zLS.of gX7_setYear_X7_isYear okX7_isYear ⟨by decide +kernel, by decide +kernel, by decide +kernel⟩ ⟨by decide, by decide⟩
set_option maxRecDepth 20000 in
theorem kX7_setYear_125 : zLV E_X7_setYear 125 E_X7_refused 1 := zLV.of gX7_setYear_X7_refused okX7_refused ⟨by decide +kernel, by decide +kernel, by decide +kernel⟩ ⟨by decide, by decide⟩
set_option maxRecDepth 20000 in
theorem kX7_setYear_198 : zLV E_X7_setYear 198 E_X7_note 0 := zLV.of gX7_setYear_X7_note okX7_note ⟨by decide +kernel, by decide +kernel, by decide +kernel⟩ ⟨by decide, by decide⟩
set_option maxRecDepth 20000 in
theorem kX7_setYear_201 : zLV E_X7_setYear 201 E_X7_layWas 0 := zLV.of gX7_setYear_X7_layWas okX7_layWas ⟨by decide +kernel, by decide +kernel, by decide +kernel⟩ ⟨by decide, by decide⟩
set_option maxRecDepth 20000 in
theorem kX7_setYear_67 : zLS E_X7_setYear 67 E_X7_cell 2 := zLS.of gX7_setYear_X7_cell okX7_cell ⟨by decide +kernel, by decide +kernel, by decide +kernel⟩ ⟨by decide, by decide⟩
set_option maxRecDepth 20000 in
theorem kX7_setYear_204 : zLV E_X7_setYear 204 E_X7_others 2 := zLV.of gX7_setYear_X7_others okX7_others ⟨by decide +kernel, by decide +kernel, by decide +kernel⟩ ⟨by decide, by decide⟩
set_option maxRecDepth 20000 in
theorem kX7_remove_183 : zLV E_X7_remove 183 E_X7_isWork 1 := zLV.of gX7_remove_X7_isWork okX7_isWork ⟨by decide +kernel, by decide +kernel, by decide +kernel⟩ ⟨by decide, by decide⟩
set_option maxRecDepth 20000 in
theorem kX7_remove_125 : zLV E_X7_remove 125 E_X7_refused 1 := zLV.of gX7_remove_X7_refused okX7_refused ⟨by decide +kernel, by decide +kernel, by decide +kernel⟩ ⟨by decide, by decide⟩
set_option maxRecDepth 20000 in
theorem kX7_remove_198 : zLV E_X7_remove 198 E_X7_note 0 := zLV.of gX7_remove_X7_note okX7_note ⟨by decide +kernel, by decide +kernel, by decide +kernel⟩ ⟨by decide, by decide⟩
set_option maxRecDepth 20000 in
theorem kX7_remove_201 : zLV E_X7_remove 201 E_X7_layWas 0 := zLV.of gX7_remove_X7_layWas okX7_layWas ⟨by decide +kernel, by decide +kernel, by decide +kernel⟩ ⟨by decide, by decide⟩
set_option maxRecDepth 20000 in
theorem kX7_remove_214 : zLS E_X7_remove 214 E_X7_drop 2 := zLS.of gX7_remove_X7_drop okX7_drop ⟨by decide +kernel, by decide +kernel, by decide +kernel⟩ ⟨by decide, by decide⟩
set_option maxRecDepth 20000 in
theorem kX7_remove_204 : zLV E_X7_remove 204 E_X7_others 2 := zLV.of gX7_remove_X7_others okX7_others ⟨by decide +kernel, by decide +kernel, by decide +kernel⟩ ⟨by decide, by decide⟩
set_option maxRecDepth 20000 in
theorem kX7_isStyle_118 : zLS E_X7_isStyle 118 E_X7_in 3 := zLS.of gX7_isStyle_X7_in okX7_in ⟨by decide +kernel, by decide +kernel, by decide +kernel⟩ ⟨by decide, by decide⟩
set_option maxRecDepth 20000 in
theorem kX7_setStyle_219 : zLS E_X7_setStyle 219 E_X7_isStyle 1 := zLS.of gX7_setStyle_X7_isStyle okX7_isStyle ⟨by decide +kernel, by decide +kernel, by decide +kernel⟩ ⟨by decide, by decide⟩
set_option maxRecDepth 20000 in
theorem kX7_setStyle_125 : zLV E_X7_setStyle 125 E_X7_refused 1 := zLV.of gX7_setStyle_X7_refused okX7_refused ⟨by decide +kernel, by decide +kernel, by decide +kernel⟩ ⟨by decide, by decide⟩
set_option maxRecDepth 20000 in
theorem kX7_setStyle_198 : zLV E_X7_setStyle 198 E_X7_note 0 := zLV.of gX7_setStyle_X7_note okX7_note ⟨by decide +kernel, by decide +kernel, by decide +kernel⟩ ⟨by decide, by decide⟩
set_option maxRecDepth 20000 in
theorem kX7_setOrder_118 : zLS E_X7_setOrder 118 E_X7_in 3 := zLS.of gX7_setOrder_X7_in okX7_in ⟨by decide +kernel, by decide +kernel, by decide +kernel⟩ ⟨by decide, by decide⟩
set_option maxRecDepth 20000 in
theorem kX7_setOrder_125 : zLV E_X7_setOrder 125 E_X7_refused 1 := zLV.of gX7_setOrder_X7_refused okX7_refused ⟨by decide +kernel, by decide +kernel, by decide +kernel⟩ ⟨by decide, by decide⟩
set_option maxRecDepth 20000 in
theorem kX7_setOrder_198 : zLV E_X7_setOrder 198 E_X7_note 0 := zLV.of gX7_setOrder_X7_note okX7_note ⟨by decide +kernel, by decide +kernel, by decide +kernel⟩ ⟨by decide, by decide⟩
set_option maxRecDepth 20000 in
theorem kX7_setOrder_201 : zLV E_X7_setOrder 201 E_X7_layWas 0 := zLV.of gX7_setOrder_X7_layWas okX7_layWas ⟨by decide +kernel, by decide +kernel, by decide +kernel⟩ ⟨by decide, by decide⟩
set_option maxRecDepth 20000 in
theorem kX7_setOrder_204 : zLV E_X7_setOrder 204 E_X7_others 2 := zLV.of gX7_setOrder_X7_others okX7_others ⟨by decide +kernel, by decide +kernel, by decide +kernel⟩ ⟨by decide, by decide⟩
set_option maxRecDepth 20000 in
theorem kX7_print_198 : zLV E_X7_print 198 E_X7_note 0 := zLV.of gX7_print_X7_note okX7_note ⟨by decide +kernel, by decide +kernel, by decide +kernel⟩ ⟨by decide, by decide⟩
set_option maxRecDepth 20000 in
theorem kX7_print_222 : zLV E_X7_print 222 E_X7_goPrint 1 := zLV.of gX7_print_X7_goPrint okX7_goPrint ⟨by decide +kernel, by decide +kernel, by decide +kernel⟩ ⟨by decide, by decide⟩
set_option maxRecDepth 20000 in
theorem kX7_undo_125 : zLV E_X7_undo 125 E_X7_refused 1 := zLV.of gX7_undo_X7_refused okX7_refused ⟨by decide +kernel, by decide +kernel, by decide +kernel⟩ ⟨by decide, by decide⟩
set_option maxRecDepth 20000 in
theorem kX7_undo_63 : zLS E_X7_undo 63 E_X7_copy 5 := zLS.of gX7_undo_X7_copy okX7_copy ⟨by decide +kernel, by decide +kernel, by decide +kernel⟩ ⟨by decide, by decide⟩
set_option maxRecDepth 20000 in
theorem kX7_without_201 : zLV E_X7_without 201 E_X7_layWas 0 := zLV.of gX7_without_X7_layWas okX7_layWas ⟨by decide +kernel, by decide +kernel, by decide +kernel⟩ ⟨by decide, by decide⟩
set_option maxRecDepth 20000 in
theorem kX7_without_225 : zLV E_X7_without 225 E_X7_begin 0 := zLV.of gX7_without_X7_begin okX7_begin ⟨by decide +kernel, by decide +kernel, by decide +kernel⟩ ⟨by decide, by decide⟩
set_option maxRecDepth 20000 in
theorem kX7_without_214 : zLS E_X7_without 214 E_X7_drop 2 := zLS.of gX7_without_X7_drop okX7_drop ⟨by decide +kernel, by decide +kernel, by decide +kernel⟩ ⟨by decide, by decide⟩
set_option maxRecDepth 20000 in
theorem kX7_without_204 : zLV E_X7_without 204 E_X7_others 2 := zLV.of gX7_without_X7_others okX7_others ⟨by decide +kernel, by decide +kernel, by decide +kernel⟩ ⟨by decide, by decide⟩
set_option maxRecDepth 20000 in
theorem kX7_ifRemoved_183 : zLV E_X7_ifRemoved 183 E_X7_isWork 1 := zLV.of gX7_ifRemoved_X7_isWork okX7_isWork ⟨by decide +kernel, by decide +kernel, by decide +kernel⟩ ⟨by decide, by decide⟩
set_option maxRecDepth 20000 in
theorem kX7_ifRemoved_125 : zLV E_X7_ifRemoved 125 E_X7_refused 1 := zLV.of gX7_ifRemoved_X7_refused okX7_refused ⟨by decide +kernel, by decide +kernel, by decide +kernel⟩ ⟨by decide, by decide⟩
set_option maxRecDepth 20000 in
theorem kX7_ifRemoved_228 : zLV E_X7_ifRemoved 228 E_X7_without 1 := zLV.of gX7_ifRemoved_X7_without okX7_without ⟨by decide +kernel, by decide +kernel, by decide +kernel⟩ ⟨by decide, by decide⟩
set_option maxRecDepth 20000 in
theorem kX7_isFree_67 : zLS E_X7_isFree 67 E_X7_cell 2 := zLS.of gX7_isFree_X7_cell okX7_cell ⟨by decide +kernel, by decide +kernel, by decide +kernel⟩ ⟨by decide, by decide⟩
set_option maxRecDepth 20000 in
theorem kX7_isFree_93 : zLV E_X7_isFree 93 E_X7_layStem 3 := zLV.of gX7_isFree_X7_layStem okX7_layStem ⟨by decide +kernel, by decide +kernel, by decide +kernel⟩ ⟨by decide, by decide⟩
set_option maxRecDepth 20000 in
theorem kX7_isFree_63 : zLS E_X7_isFree 63 E_X7_copy 5 := zLS.of gX7_isFree_X7_copy okX7_copy ⟨by decide +kernel, by decide +kernel, by decide +kernel⟩ ⟨by decide, by decide⟩
set_option maxRecDepth 20000 in
theorem kX7_isFree_97 : zLS E_X7_isFree 97 E_X7_areLike 4 := zLS.of gX7_isFree_X7_areLike okX7_areLike ⟨by decide +kernel, by decide +kernel, by decide +kernel⟩ ⟨by decide, by decide⟩
set_option maxRecDepth 20000 in
theorem kX7_freeYear_183 : zLV E_X7_freeYear 183 E_X7_isWork 1 := zLV.of gX7_freeYear_X7_isWork okX7_isWork ⟨by decide +kernel, by decide +kernel, by decide +kernel⟩ ⟨by decide, by decide⟩
set_option maxRecDepth 20000 in
theorem kX7_freeYear_125 : zLV E_X7_freeYear 125 E_X7_refused 1 := zLV.of gX7_freeYear_X7_refused okX7_refused ⟨by decide +kernel, by decide +kernel, by decide +kernel⟩ ⟨by decide, by decide⟩
set_option maxRecDepth 20000 in
theorem kX7_freeYear_225 : zLV E_X7_freeYear 225 E_X7_begin 0 := zLV.of gX7_freeYear_X7_begin okX7_begin ⟨by decide +kernel, by decide +kernel, by decide +kernel⟩ ⟨by decide, by decide⟩
set_option maxRecDepth 20000 in
theorem kX7_freeYear_67 : zLS E_X7_freeYear 67 E_X7_cell 2 := zLS.of gX7_freeYear_X7_cell okX7_cell ⟨by decide +kernel, by decide +kernel, by decide +kernel⟩ ⟨by decide, by decide⟩
set_option maxRecDepth 20000 in
theorem kX7_freeYear_211 : zLS E_X7_freeYear 211 E_X7_isYear 1 := zLS.of gX7_freeYear_X7_isYear okX7_isYear ⟨by decide +kernel, by decide +kernel, by decide +kernel⟩ ⟨by decide, by decide⟩
set_option maxRecDepth 20000 in
theorem kX7_freeYear_231 : zLV E_X7_freeYear 231 E_X7_isFree 2 := zLV.of gX7_freeYear_X7_isFree okX7_isFree ⟨by decide +kernel, by decide +kernel, by decide +kernel⟩ ⟨by decide, by decide⟩
set_option maxRecDepth 20000 in
theorem kX7_letteredBy_108 : zLV E_X7_letteredBy 108 E_X7_lay 2 := zLV.of gX7_letteredBy_X7_lay okX7_lay ⟨by decide +kernel, by decide +kernel, by decide +kernel⟩ ⟨by decide, by decide⟩
set_option maxRecDepth 20000 in
theorem kX7_letteredBy_170 : zLS E_X7_letteredBy 170 E_X7_lettered 2 := zLS.of gX7_letteredBy_X7_lettered okX7_lettered ⟨by decide +kernel, by decide +kernel, by decide +kernel⟩ ⟨by decide, by decide⟩
set_option maxRecDepth 20000 in
theorem kX7_lettersWith_219 : zLS E_X7_lettersWith 219 E_X7_isStyle 1 := zLS.of gX7_lettersWith_X7_isStyle okX7_isStyle ⟨by decide +kernel, by decide +kernel, by decide +kernel⟩ ⟨by decide, by decide⟩
set_option maxRecDepth 20000 in
theorem kX7_lettersWith_125 : zLV E_X7_lettersWith 125 E_X7_refused 1 := zLV.of gX7_lettersWith_X7_refused okX7_refused ⟨by decide +kernel, by decide +kernel, by decide +kernel⟩ ⟨by decide, by decide⟩
set_option maxRecDepth 20000 in
theorem kX7_lettersWith_235 : zLV E_X7_lettersWith 235 E_X7_letteredBy 1 := zLV.of gX7_lettersWith_X7_letteredBy okX7_letteredBy ⟨by decide +kernel, by decide +kernel, by decide +kernel⟩ ⟨by decide, by decide⟩
set_option maxRecDepth 20000 in
theorem kX7_bestStyle_235 : zLV E_X7_bestStyle 235 E_X7_letteredBy 1 := zLV.of gX7_bestStyle_X7_letteredBy okX7_letteredBy ⟨by decide +kernel, by decide +kernel, by decide +kernel⟩ ⟨by decide, by decide⟩
set_option maxRecDepth 20000 in
theorem kX7_bestStyle_176 : zLV E_X7_bestStyle 176 E_X7_longest 1 := zLV.of gX7_bestStyle_X7_longest okX7_longest ⟨by decide +kernel, by decide +kernel, by decide +kernel⟩ ⟨by decide, by decide⟩
set_option maxRecDepth 20000 in
theorem kX7_weightiest_228 : zLV E_X7_weightiest 228 E_X7_without 1 := zLV.of gX7_weightiest_X7_without okX7_without ⟨by decide +kernel, by decide +kernel, by decide +kernel⟩ ⟨by decide, by decide⟩
