/-! the methods, as data -/
def E_X0_init : Me := (yX0_init, cX0_init, 2, none, wsX0_init, (3, 55), (533, 3052), [])
def E_X0_forget : Me := (yX0_forget, cX0_forget, 1, none, wsX0_forget, (0, 0), (0, 0), [])
def E_X0_remember : Me := (yX0_remember, cX0_remember, 2, none, wsX0_remember, (2, 44), (0, 0), [])
def E_X0_takeBack : Me := (yX0_takeBack, cX0_takeBack, 2, none, wsX0_takeBack, (2, 44), (0, 0), [])
def E_X1_withTwoDigits : Me := (yX1_withTwoDigits, cX1_withTwoDigits, 6, (some .long), wsX1_withTwoDigits, (0, 0), (0, 0), [])
def E_X1_withFourDigits : Me := (yX1_withFourDigits, cX1_withFourDigits, 3, (some .long), wsX1_withFourDigits, (0, 0), (0, 0), [])
def E_X1_letterOf : Me := (yX1_letterOf, cX1_letterOf, 2, (some .int), wsX1_letterOf, (0, 0), (0, 0), [])
def E_X1_signs : Me := (yX1_signs, cX1_signs, 2, (some .int), wsX1_signs, (0, 0), (0, 0), [])
def E_X1_digits : Me := (yX1_digits, cX1_digits, 2, (some .int), wsX1_digits, (0, 0), (0, 0), [])
def E_X1_length : Me := (yX1_length, cX1_length, 3, (some .int), wsX1_length, (2, 45), (0, 0), [])
def E_X1_codeAt : Me := (yX1_codeAt, cX1_codeAt, 6, (some .int), wsX1_codeAt, (2, 45), (0, 0), [])
def E_X1_digitFromEnd : Me := (yX1_digitFromEnd, cX1_digitFromEnd, 5, (some .int), wsX1_digitFromEnd, (0, 0), (0, 0), [])
def E_X2_numberAt : Me := (yX2_numberAt, cX2_numberAt, 3, (some .int), wsX2_numberAt, (0, 0), (0, 0), [])
def E_X2_codeAt : Me := (yX2_codeAt, cX2_codeAt, 4, (some .int), wsX2_codeAt, (1, 22), (0, 0), [])
def E_X2_length : Me := (yX2_length, cX2_length, 4, (some .int), wsX2_length, (1, 22), (0, 0), [])
def E_X2_with : Me := (yX2_with, cX2_with, 4, (some .long), wsX2_with, (0, 0), (0, 0), [])
def E_X3_init : Me := (yX3_init, cX3_init, 2, none, wsX3_init, (2, 34), (37, 208), [])
def E_X3_empty : Me := (yX3_empty, cX3_empty, 1, none, wsX3_empty, (0, 0), (0, 0), [])
def E_X3_copyFrom : Me := (yX3_copyFrom, cX3_copyFrom, 3, none, wsX3_copyFrom, (1, 22), (0, 0), [])
def E_X3_has : Me := (yX3_has, cX3_has, 2, (some .boolean), wsX3_has, (0, 0), (0, 0), [])
def E_X3_place : Me := (yX3_place, cX3_place, 2, none, wsX3_place, (1, 22), (0, 0), [])
def E_X3_takeOut : Me := (yX3_takeOut, cX3_takeOut, 4, none, wsX3_takeOut, (1, 22), (0, 0), [])
def E_X3_disown : Me := (yX3_disown, cX3_disown, 3, none, wsX3_disown, (0, 0), (0, 0), [])
def E_X3_rekey : Me := (yX3_rekey, cX3_rekey, 5, (some .int), wsX3_rekey, (4, 97), (0, 0), [])
def E_X3_letterDue : Me := (yX3_letterDue, cX3_letterDue, 5, (some .int), wsX3_letterDue, (3, 73), (0, 0), [])
def E_X3_isBefore : Me := (yX3_isBefore, cX3_isBefore, 8, (some .boolean), wsX3_isBefore, (2, 46), (0, 0), [])
def E_X3_placeOf : Me := (yX3_placeOf, cX3_placeOf, 4, (some .int), wsX3_placeOf, (3, 73), (0, 0), [])
def E_X3_sharing : Me := (yX3_sharing, cX3_sharing, 4, (some .int), wsX3_sharing, (0, 0), (0, 0), [])
def E_X3_isFree : Me := (yX3_isFree, cX3_isFree, 6, (some .boolean), wsX3_isFree, (3, 68), (0, 0), [])
def E_X3_lettered : Me := (yX3_lettered, cX3_lettered, 3, (some .int), wsX3_lettered, (1, 21), (0, 0), [])
def E_X3_differentStems : Me := (yX3_differentStems, cX3_differentStems, 3, (some .int), wsX3_differentStems, (1, 21), (0, 0), [])
def E_X3_longestKey : Me := (yX3_longestKey, cX3_longestKey, 3, (some .int), wsX3_longestKey, (3, 67), (0, 0), [])
def E_X3_printKeys : Me := (yX3_printKeys, cX3_printKeys, 2, none, wsX3_printKeys, (0, 0), (0, 0), [])
def E_X3_holderOf : Me := (yX3_holderOf, cX3_holderOf, 4, (some .int), wsX3_holderOf, (0, 0), (0, 0), [])
def E_X3_printedOfNone : Me := (yX3_printedOfNone, cX3_printedOfNone, 3, (some .int), wsX3_printedOfNone, (0, 0), (0, 0), [])
def E_X3_printedStillRight : Me := (yX3_printedStillRight, cX3_printedStillRight, 3, (some .int), wsX3_printedStillRight, (1, 23), (0, 0), [])
def E_X3_printedWithoutMeaning : Me := (yX3_printedWithoutMeaning, cX3_printedWithoutMeaning, 3, (some .int), wsX3_printedWithoutMeaning, (1, 23), (0, 0), [])
def E_X3_printedOfAnother : Me := (yX3_printedOfAnother, cX3_printedOfAnother, 1, (some .int), wsX3_printedOfAnother, (2, 45), (0, 0), [])
def E_X4_init : Me := (yX4_init, cX4_init, 2, none, wsX4_init, (2, 34), (34, 244), [])
def E_X4_put : Me := (yX4_put, cX4_put, 2, none, wsX4_put, (0, 0), (0, 0), [])
def E_X4_spells : Me := (yX4_spells, cX4_spells, 4, (some .boolean), wsX4_spells, (3, 70), (0, 0), [])
def E_X4_read : Me := (yX4_read, cX4_read, 2, (some .int), wsX4_read, (4, 85), (0, 0), [])
def E_X4_beginWork : Me := (yX4_beginWork, cX4_beginWork, 1, (some .boolean), wsX4_beginWork, (1, 21), (0, 0), [])
def E_X4_begin : Me := (yX4_begin, cX4_begin, 2, none, wsX4_begin, (0, 0), (0, 0), [])
def E_X4_takes : Me := (yX4_takes, cX4_takes, 3, (some .boolean), wsX4_takes, (3, 63), (0, 0), [])
def E_X4_takesAuthors : Me := (yX4_takesAuthors, cX4_takesAuthors, 4, (some .boolean), wsX4_takesAuthors, (1, 23), (0, 0), [])
def E_X4_takesYear : Me := (yX4_takesYear, cX4_takesYear, 4, (some .boolean), wsX4_takesYear, (1, 21), (0, 0), [])
def E_X4_takesTitle : Me := (yX4_takesTitle, cX4_takesTitle, 3, (some .boolean), wsX4_takesTitle, (2, 41), (0, 0), [])
def E_X4_countLetter : Me := (yX4_countLetter, cX4_countLetter, 1, (some .boolean), wsX4_countLetter, (0, 0), (0, 0), [])
def E_X4_isLetter : Me := (yX4_isLetter, cX4_isLetter, 1, (some .boolean), wsX4_isLetter, (0, 0), (0, 0), [])
def E_X5_init : Me := (yX5_init, cX5_init, 1, none, wsX5_init, (1, 14), (1, 4), [])
def E_X5_empty : Me := (yX5_empty, cX5_empty, 2, none, wsX5_empty, (0, 0), (0, 0), [])
def E_X5_copyFrom : Me := (yX5_copyFrom, cX5_copyFrom, 3, none, wsX5_copyFrom, (0, 0), (0, 0), [])
def E_X5_nameAt : Me := (yX5_nameAt, cX5_nameAt, 2, (some .long), wsX5_nameAt, (0, 0), (0, 0), [])
def E_X5_compareAuthors : Me := (yX5_compareAuthors, cX5_compareAuthors, 4, (some .int), wsX5_compareAuthors, (1, 23), (0, 0), [])
def E_X5_stem : Me := (yX5_stem, cX5_stem, 3, (some .long), wsX5_stem, (2, 46), (0, 0), [])
def E_X5_firstThreeLetters : Me := (yX5_firstThreeLetters, cX5_firstThreeLetters, 4, (some .long), wsX5_firstThreeLetters, (1, 23), (0, 0), [])
def E_X5_initials : Me := (yX5_initials, cX5_initials, 4, (some .long), wsX5_initials, (1, 23), (0, 0), [])
def E_X5_authorAndTitle : Me := (yX5_authorAndTitle, cX5_authorAndTitle, 3, (some .long), wsX5_authorAndTitle, (1, 23), (0, 0), [])
def E_X6_init : Me := (yX6_init, cX6_init, 2, none, wsX6_init, (4, 76), (725, 4185), [])
def E_X6_append : Me := (yX6_append, cX6_append, 2, (some .int), wsX6_append, (6, 84), (1, 6), [])
def E_X6_clearText : Me := (yX6_clearText, cX6_clearText, 2, (some .int), wsX6_clearText, (0, 0), (0, 0), [])
def E_X6_errorPosition : Me := (yX6_errorPosition, cX6_errorPosition, 1, (some .int), wsX6_errorPosition, (5, 106), (0, 0), [])
def E_X6_load : Me := (yX6_load, cX6_load, 2, (some .int), wsX6_load, (6, 121), (1, 6), [])
def E_X6_about : Me := (yX6_about, cX6_about, 2, (some .int), wsX6_about, (6, 89), (1, 6), [])
def E_X6_work : Me := (yX6_work, cX6_work, 3, (some .int), wsX6_work, (7, 105), (2, 12), [])
def E_X6_letter : Me := (yX6_letter, cX6_letter, 5, (some .int), wsX6_letter, (7, 105), (2, 12), [])
def E_X6_key : Me := (yX6_key, cX6_key, 3, (some .int), wsX6_key, (7, 105), (2, 12), [])
def E_X6_at : Me := (yX6_at, cX6_at, 3, (some .int), wsX6_at, (6, 96), (1, 6), [])
def E_X6_meaning : Me := (yX6_meaning, cX6_meaning, 2, (some .int), wsX6_meaning, (4, 93), (0, 0), [])
def E_X6_printedMeaning : Me := (yX6_printedMeaning, cX6_printedMeaning, 2, (some .int), wsX6_printedMeaning, (4, 93), (0, 0), [])
def E_X6_printed : Me := (yX6_printed, cX6_printed, 2, (some .int), wsX6_printed, (6, 84), (1, 6), [])
def E_X6_add : Me := (yX6_add, cX6_add, 1, (some .int), wsX6_add, (6, 126), (1, 6), [])
def E_X6_change : Me := (yX6_change, cX6_change, 2, (some .int), wsX6_change, (7, 126), (2, 12), [])
def E_X6_setYear : Me := (yX6_setYear, cX6_setYear, 3, (some .int), wsX6_setYear, (7, 121), (2, 12), [])
def E_X6_remove : Me := (yX6_remove, cX6_remove, 2, (some .int), wsX6_remove, (7, 121), (1, 6), [])
def E_X6_setStyle : Me := (yX6_setStyle, cX6_setStyle, 3, (some .int), wsX6_setStyle, (7, 121), (1, 6), [])
def E_X6_setOrder : Me := (yX6_setOrder, cX6_setOrder, 2, (some .int), wsX6_setOrder, (6, 121), (1, 6), [])
def E_X6_print : Me := (yX6_print, cX6_print, 1, (some .int), wsX6_print, (3, 65), (0, 0), [])
def E_X6_undo : Me := (yX6_undo, cX6_undo, 1, (some .int), wsX6_undo, (6, 84), (1, 6), [])
def E_X6_ifRemoved : Me := (yX6_ifRemoved, cX6_ifRemoved, 2, (some .int), wsX6_ifRemoved, (7, 142), (1, 6), [])
def E_X6_freeYear : Me := (yX6_freeYear, cX6_freeYear, 4, (some .int), wsX6_freeYear, (7, 105), (1, 6), [])
def E_X6_lettersWith : Me := (yX6_lettersWith, cX6_lettersWith, 2, (some .int), wsX6_lettersWith, (7, 142), (1, 6), [])
def E_X6_bestStyle : Me := (yX6_bestStyle, cX6_bestStyle, 7, (some .int), wsX6_bestStyle, (6, 142), (0, 0), [])
def E_X6_weightiest : Me := (yX6_weightiest, cX6_weightiest, 5, (some .int), wsX6_weightiest, (6, 142), (0, 0), [])
def E_X6_runScript : Me := (yX6_runScript, cX6_runScript, 7, (some .int), wsX6_runScript, (6, 121), (1, 6), [])
def E_X6_simulate : Me := (yX6_simulate, cX6_simulate, 7, (some .int), wsX6_simulate, (6, 121), (1, 6), [])
def E_X6_save : Me := (yX6_save, cX6_save, 2, (some .int), wsX6_save, (7, 104), (1, 6), [])
def E_X6_restore : Me := (yX6_restore, cX6_restore, 2, (some .int), wsX6_restore, (7, 104), (2, 12), [])
def E_X6_needWork : Me := (yX6_needWork, cX6_needWork, 2, none, wsX6_needWork, (6, 84), (1, 6), [])
def E_X6_needStyle : Me := (yX6_needStyle, cX6_needStyle, 1, none, wsX6_needStyle, (6, 84), (1, 6), [])
def E_X6_needSlot : Me := (yX6_needSlot, cX6_needSlot, 1, none, wsX6_needSlot, (6, 84), (1, 6), [])
def E_X6_isYear : Me := (yX6_isYear, cX6_isYear, 1, (some .boolean), wsX6_isYear, (0, 0), (0, 0), [])
def E_X6_isStyle : Me := (yX6_isStyle, cX6_isStyle, 1, (some .boolean), wsX6_isStyle, (0, 0), (0, 0), [])
def E_X6_tellsOneWork : Me := (yX6_tellsOneWork, cX6_tellsOneWork, 1, (some .boolean), wsX6_tellsOneWork, (5, 106), (0, 0), [])
def E_X6_keysHangingOn : Me := (yX6_keysHangingOn, cX6_keysHangingOn, 2, (some .int), wsX6_keysHangingOn, (5, 121), (0, 0), [])
def E_X6_tryStyle : Me := (yX6_tryStyle, cX6_tryStyle, 2, none, wsX6_tryStyle, (5, 121), (0, 0), [])
def E_X6_commandAt : Me := (yX6_commandAt, cX6_commandAt, 6, (some .int), wsX6_commandAt, (0, 0), (0, 0), [])
def E_X6_succeeds : Me := (yX6_succeeds, cX6_succeeds, 3, (some .boolean), wsX6_succeeds, (3, 66), (0, 0), [])
def E_X6_removes : Me := (yX6_removes, cX6_removes, 2, (some .boolean), wsX6_removes, (2, 45), (0, 0), [])
def E_X6_setsStyle : Me := (yX6_setsStyle, cX6_setsStyle, 2, (some .boolean), wsX6_setsStyle, (1, 20), (0, 0), [])
def E_X6_setsOrder : Me := (yX6_setsOrder, cX6_setsOrder, 2, (some .boolean), wsX6_setsOrder, (0, 0), (0, 0), [])
def E_X6_movesYear : Me := (yX6_movesYear, cX6_movesYear, 3, (some .boolean), wsX6_movesYear, (1, 21), (0, 0), [])
def E_X6_prints : Me := (yX6_prints, cX6_prints, 2, (some .boolean), wsX6_prints, (1, 21), (0, 0), [])
def E_X6_playRound : Me := (yX6_playRound, cX6_playRound, 4, none, wsX6_playRound, (2, 45), (0, 0), [])
def E_J6_compare_7cf53 : Me := (yJ6_compare_7cf53, cJ6_compare_7cf53, 2, (some .int), wsJ6_compare_7cf53, (0, 0), (0, 0), [])
def E_J13_compare_74951 : Me := (yJ13_compare_74951, cJ13_compare_74951, 4, (some .int), wsJ13_compare_74951, (0, 0), (0, 0), [])
set_option maxRecDepth 20000 in
theorem okX0_init : EOK E_X0_init := ⟨by decide +kernel, ⟨_, rfl⟩, rfl, by decide +kernel⟩
set_option maxRecDepth 20000 in
theorem okX0_forget : EOK E_X0_forget := ⟨by decide +kernel, ⟨_, rfl⟩, rfl, by decide +kernel⟩
set_option maxRecDepth 20000 in
theorem okX0_remember : EOK E_X0_remember := ⟨by decide +kernel, ⟨_, rfl⟩, rfl, by decide +kernel⟩
set_option maxRecDepth 20000 in
theorem okX0_takeBack : EOK E_X0_takeBack := ⟨by decide +kernel, ⟨_, rfl⟩, rfl, by decide +kernel⟩
set_option maxRecDepth 20000 in
theorem okX1_withTwoDigits : EOK E_X1_withTwoDigits := ⟨by decide +kernel, ⟨_, rfl⟩, rfl, by decide +kernel⟩
set_option maxRecDepth 20000 in
theorem okX1_withFourDigits : EOK E_X1_withFourDigits := ⟨by decide +kernel, ⟨_, rfl⟩, rfl, by decide +kernel⟩
set_option maxRecDepth 20000 in
theorem okX1_letterOf : EOK E_X1_letterOf := ⟨by decide +kernel, ⟨_, rfl⟩, rfl, by decide +kernel⟩
set_option maxRecDepth 20000 in
theorem okX1_signs : EOK E_X1_signs := ⟨by decide +kernel, ⟨_, rfl⟩, rfl, by decide +kernel⟩
set_option maxRecDepth 20000 in
theorem okX1_digits : EOK E_X1_digits := ⟨by decide +kernel, ⟨_, rfl⟩, rfl, by decide +kernel⟩
set_option maxRecDepth 20000 in
theorem okX1_length : EOK E_X1_length := ⟨by decide +kernel, ⟨_, rfl⟩, rfl, by decide +kernel⟩
set_option maxRecDepth 20000 in
theorem okX1_codeAt : EOK E_X1_codeAt := ⟨by decide +kernel, ⟨_, rfl⟩, rfl, by decide +kernel⟩
set_option maxRecDepth 20000 in
theorem okX1_digitFromEnd : EOK E_X1_digitFromEnd := ⟨by decide +kernel, ⟨_, rfl⟩, rfl, by decide +kernel⟩
set_option maxRecDepth 20000 in
theorem okX2_numberAt : EOK E_X2_numberAt := ⟨by decide +kernel, ⟨_, rfl⟩, rfl, by decide +kernel⟩
set_option maxRecDepth 20000 in
theorem okX2_codeAt : EOK E_X2_codeAt := ⟨by decide +kernel, ⟨_, rfl⟩, rfl, by decide +kernel⟩
set_option maxRecDepth 20000 in
theorem okX2_length : EOK E_X2_length := ⟨by decide +kernel, ⟨_, rfl⟩, rfl, by decide +kernel⟩
set_option maxRecDepth 20000 in
theorem okX2_with : EOK E_X2_with := ⟨by decide +kernel, ⟨_, rfl⟩, rfl, by decide +kernel⟩
set_option maxRecDepth 20000 in
theorem okX3_init : EOK E_X3_init := ⟨by decide +kernel, ⟨_, rfl⟩, rfl, by decide +kernel⟩
set_option maxRecDepth 20000 in
theorem okX3_empty : EOK E_X3_empty := ⟨by decide +kernel, ⟨_, rfl⟩, rfl, by decide +kernel⟩
set_option maxRecDepth 20000 in
theorem okX3_copyFrom : EOK E_X3_copyFrom := ⟨by decide +kernel, ⟨_, rfl⟩, rfl, by decide +kernel⟩
set_option maxRecDepth 20000 in
theorem okX3_has : EOK E_X3_has := ⟨by decide +kernel, ⟨_, rfl⟩, rfl, by decide +kernel⟩
set_option maxRecDepth 20000 in
theorem okX3_place : EOK E_X3_place := ⟨by decide +kernel, ⟨_, rfl⟩, rfl, by decide +kernel⟩
set_option maxRecDepth 20000 in
theorem okX3_takeOut : EOK E_X3_takeOut := ⟨by decide +kernel, ⟨_, rfl⟩, rfl, by decide +kernel⟩
set_option maxRecDepth 20000 in
theorem okX3_disown : EOK E_X3_disown := ⟨by decide +kernel, ⟨_, rfl⟩, rfl, by decide +kernel⟩
set_option maxRecDepth 20000 in
theorem okX3_rekey : EOK E_X3_rekey := ⟨by decide +kernel, ⟨_, rfl⟩, rfl, by decide +kernel⟩
set_option maxRecDepth 20000 in
theorem okX3_letterDue : EOK E_X3_letterDue := ⟨by decide +kernel, ⟨_, rfl⟩, rfl, by decide +kernel⟩
set_option maxRecDepth 20000 in
theorem okX3_isBefore : EOK E_X3_isBefore := ⟨by decide +kernel, ⟨_, rfl⟩, rfl, by decide +kernel⟩
set_option maxRecDepth 20000 in
theorem okX3_placeOf : EOK E_X3_placeOf := ⟨by decide +kernel, ⟨_, rfl⟩, rfl, by decide +kernel⟩
set_option maxRecDepth 20000 in
theorem okX3_sharing : EOK E_X3_sharing := ⟨by decide +kernel, ⟨_, rfl⟩, rfl, by decide +kernel⟩
set_option maxRecDepth 20000 in
theorem okX3_isFree : EOK E_X3_isFree := ⟨by decide +kernel, ⟨_, rfl⟩, rfl, by decide +kernel⟩
set_option maxRecDepth 20000 in
theorem okX3_lettered : EOK E_X3_lettered := ⟨by decide +kernel, ⟨_, rfl⟩, rfl, by decide +kernel⟩
set_option maxRecDepth 20000 in
theorem okX3_differentStems : EOK E_X3_differentStems := ⟨by decide +kernel, ⟨_, rfl⟩, rfl, by decide +kernel⟩
set_option maxRecDepth 20000 in
theorem okX3_longestKey : EOK E_X3_longestKey := ⟨by decide +kernel, ⟨_, rfl⟩, rfl, by decide +kernel⟩
set_option maxRecDepth 20000 in
theorem okX3_printKeys : EOK E_X3_printKeys := ⟨by decide +kernel, ⟨_, rfl⟩, rfl, by decide +kernel⟩
set_option maxRecDepth 20000 in
theorem okX3_holderOf : EOK E_X3_holderOf := ⟨by decide +kernel, ⟨_, rfl⟩, rfl, by decide +kernel⟩
set_option maxRecDepth 20000 in
theorem okX3_printedOfNone : EOK E_X3_printedOfNone := ⟨by decide +kernel, ⟨_, rfl⟩, rfl, by decide +kernel⟩
set_option maxRecDepth 20000 in
theorem okX3_printedStillRight : EOK E_X3_printedStillRight := ⟨by decide +kernel, ⟨_, rfl⟩, rfl, by decide +kernel⟩
set_option maxRecDepth 20000 in
theorem okX3_printedWithoutMeaning : EOK E_X3_printedWithoutMeaning := ⟨by decide +kernel, ⟨_, rfl⟩, rfl, by decide +kernel⟩
set_option maxRecDepth 20000 in
theorem okX3_printedOfAnother : EOK E_X3_printedOfAnother := ⟨by decide +kernel, ⟨_, rfl⟩, rfl, by decide +kernel⟩
set_option maxRecDepth 20000 in
theorem okX4_init : EOK E_X4_init := ⟨by decide +kernel, ⟨_, rfl⟩, rfl, by decide +kernel⟩
set_option maxRecDepth 20000 in
theorem okX4_put : EOK E_X4_put := ⟨by decide +kernel, ⟨_, rfl⟩, rfl, by decide +kernel⟩
set_option maxRecDepth 20000 in
theorem okX4_spells : EOK E_X4_spells := ⟨by decide +kernel, ⟨_, rfl⟩, rfl, by decide +kernel⟩
set_option maxRecDepth 20000 in
theorem okX4_read : EOK E_X4_read := ⟨by decide +kernel, ⟨_, rfl⟩, rfl, by decide +kernel⟩
set_option maxRecDepth 20000 in
theorem okX4_beginWork : EOK E_X4_beginWork := ⟨by decide +kernel, ⟨_, rfl⟩, rfl, by decide +kernel⟩
set_option maxRecDepth 20000 in
theorem okX4_begin : EOK E_X4_begin := ⟨by decide +kernel, ⟨_, rfl⟩, rfl, by decide +kernel⟩
set_option maxRecDepth 20000 in
theorem okX4_takes : EOK E_X4_takes := ⟨by decide +kernel, ⟨_, rfl⟩, rfl, by decide +kernel⟩
set_option maxRecDepth 20000 in
theorem okX4_takesAuthors : EOK E_X4_takesAuthors := ⟨by decide +kernel, ⟨_, rfl⟩, rfl, by decide +kernel⟩
set_option maxRecDepth 20000 in
theorem okX4_takesYear : EOK E_X4_takesYear := ⟨by decide +kernel, ⟨_, rfl⟩, rfl, by decide +kernel⟩
set_option maxRecDepth 20000 in
theorem okX4_takesTitle : EOK E_X4_takesTitle := ⟨by decide +kernel, ⟨_, rfl⟩, rfl, by decide +kernel⟩
set_option maxRecDepth 20000 in
theorem okX4_countLetter : EOK E_X4_countLetter := ⟨by decide +kernel, ⟨_, rfl⟩, rfl, by decide +kernel⟩
set_option maxRecDepth 20000 in
theorem okX4_isLetter : EOK E_X4_isLetter := ⟨by decide +kernel, ⟨_, rfl⟩, rfl, by decide +kernel⟩
set_option maxRecDepth 20000 in
theorem okX5_init : EOK E_X5_init := ⟨by decide +kernel, ⟨_, rfl⟩, rfl, by decide +kernel⟩
set_option maxRecDepth 20000 in
theorem okX5_empty : EOK E_X5_empty := ⟨by decide +kernel, ⟨_, rfl⟩, rfl, by decide +kernel⟩
set_option maxRecDepth 20000 in
theorem okX5_copyFrom : EOK E_X5_copyFrom := ⟨by decide +kernel, ⟨_, rfl⟩, rfl, by decide +kernel⟩
set_option maxRecDepth 20000 in
theorem okX5_nameAt : EOK E_X5_nameAt := ⟨by decide +kernel, ⟨_, rfl⟩, rfl, by decide +kernel⟩
set_option maxRecDepth 20000 in
theorem okX5_compareAuthors : EOK E_X5_compareAuthors := ⟨by decide +kernel, ⟨_, rfl⟩, rfl, by decide +kernel⟩
set_option maxRecDepth 20000 in
theorem okX5_stem : EOK E_X5_stem := ⟨by decide +kernel, ⟨_, rfl⟩, rfl, by decide +kernel⟩
set_option maxRecDepth 20000 in
theorem okX5_firstThreeLetters : EOK E_X5_firstThreeLetters := ⟨by decide +kernel, ⟨_, rfl⟩, rfl, by decide +kernel⟩
set_option maxRecDepth 20000 in
theorem okX5_initials : EOK E_X5_initials := ⟨by decide +kernel, ⟨_, rfl⟩, rfl, by decide +kernel⟩
set_option maxRecDepth 20000 in
theorem okX5_authorAndTitle : EOK E_X5_authorAndTitle := ⟨by decide +kernel, ⟨_, rfl⟩, rfl, by decide +kernel⟩
set_option maxRecDepth 20000 in
theorem okX6_init : EOK E_X6_init := ⟨by decide +kernel, ⟨_, rfl⟩, rfl, by decide +kernel⟩
set_option maxRecDepth 20000 in
theorem okX6_append : EOK E_X6_append := ⟨by decide +kernel, ⟨_, rfl⟩, rfl, by decide +kernel⟩
set_option maxRecDepth 20000 in
theorem okX6_clearText : EOK E_X6_clearText := ⟨by decide +kernel, ⟨_, rfl⟩, rfl, by decide +kernel⟩
set_option maxRecDepth 20000 in
theorem okX6_errorPosition : EOK E_X6_errorPosition := ⟨by decide +kernel, ⟨_, rfl⟩, rfl, by decide +kernel⟩
set_option maxRecDepth 20000 in
theorem okX6_load : EOK E_X6_load := ⟨by decide +kernel, ⟨_, rfl⟩, rfl, by decide +kernel⟩
set_option maxRecDepth 20000 in
theorem okX6_about : EOK E_X6_about := ⟨by decide +kernel, ⟨_, rfl⟩, rfl, by decide +kernel⟩
set_option maxRecDepth 20000 in
theorem okX6_work : EOK E_X6_work := ⟨by decide +kernel, ⟨_, rfl⟩, rfl, by decide +kernel⟩
set_option maxRecDepth 20000 in
theorem okX6_letter : EOK E_X6_letter := ⟨by decide +kernel, ⟨_, rfl⟩, rfl, by decide +kernel⟩
set_option maxRecDepth 20000 in
theorem okX6_key : EOK E_X6_key := ⟨by decide +kernel, ⟨_, rfl⟩, rfl, by decide +kernel⟩
set_option maxRecDepth 20000 in
theorem okX6_at : EOK E_X6_at := ⟨by decide +kernel, ⟨_, rfl⟩, rfl, by decide +kernel⟩
set_option maxRecDepth 20000 in
theorem okX6_meaning : EOK E_X6_meaning := ⟨by decide +kernel, ⟨_, rfl⟩, rfl, by decide +kernel⟩
set_option maxRecDepth 20000 in
theorem okX6_printedMeaning : EOK E_X6_printedMeaning := ⟨by decide +kernel, ⟨_, rfl⟩, rfl, by decide +kernel⟩
set_option maxRecDepth 20000 in
theorem okX6_printed : EOK E_X6_printed := ⟨by decide +kernel, ⟨_, rfl⟩, rfl, by decide +kernel⟩
set_option maxRecDepth 20000 in
theorem okX6_add : EOK E_X6_add := ⟨by decide +kernel, ⟨_, rfl⟩, rfl, by decide +kernel⟩
set_option maxRecDepth 20000 in
theorem okX6_change : EOK E_X6_change := ⟨by decide +kernel, ⟨_, rfl⟩, rfl, by decide +kernel⟩
set_option maxRecDepth 20000 in
theorem okX6_setYear : EOK E_X6_setYear := ⟨by decide +kernel, ⟨_, rfl⟩, rfl, by decide +kernel⟩
set_option maxRecDepth 20000 in
theorem okX6_remove : EOK E_X6_remove := ⟨by decide +kernel, ⟨_, rfl⟩, rfl, by decide +kernel⟩
set_option maxRecDepth 20000 in
theorem okX6_setStyle : EOK E_X6_setStyle := ⟨by decide +kernel, ⟨_, rfl⟩, rfl, by decide +kernel⟩
set_option maxRecDepth 20000 in
theorem okX6_setOrder : EOK E_X6_setOrder := ⟨by decide +kernel, ⟨_, rfl⟩, rfl, by decide +kernel⟩
set_option maxRecDepth 20000 in
theorem okX6_print : EOK E_X6_print := ⟨by decide +kernel, ⟨_, rfl⟩, rfl, by decide +kernel⟩
set_option maxRecDepth 20000 in
theorem okX6_undo : EOK E_X6_undo := ⟨by decide +kernel, ⟨_, rfl⟩, rfl, by decide +kernel⟩
set_option maxRecDepth 20000 in
theorem okX6_ifRemoved : EOK E_X6_ifRemoved := ⟨by decide +kernel, ⟨_, rfl⟩, rfl, by decide +kernel⟩
set_option maxRecDepth 20000 in
theorem okX6_freeYear : EOK E_X6_freeYear := ⟨by decide +kernel, ⟨_, rfl⟩, rfl, by decide +kernel⟩
set_option maxRecDepth 20000 in
theorem okX6_lettersWith : EOK E_X6_lettersWith := ⟨by decide +kernel, ⟨_, rfl⟩, rfl, by decide +kernel⟩
set_option maxRecDepth 20000 in
theorem okX6_bestStyle : EOK E_X6_bestStyle := ⟨by decide +kernel, ⟨_, rfl⟩, rfl, by decide +kernel⟩
set_option maxRecDepth 20000 in
theorem okX6_weightiest : EOK E_X6_weightiest := ⟨by decide +kernel, ⟨_, rfl⟩, rfl, by decide +kernel⟩
set_option maxRecDepth 20000 in
theorem okX6_runScript : EOK E_X6_runScript := ⟨by decide +kernel, ⟨_, rfl⟩, rfl, by decide +kernel⟩
set_option maxRecDepth 20000 in
theorem okX6_simulate : EOK E_X6_simulate := ⟨by decide +kernel, ⟨_, rfl⟩, rfl, by decide +kernel⟩
set_option maxRecDepth 20000 in
theorem okX6_save : EOK E_X6_save := ⟨by decide +kernel, ⟨_, rfl⟩, rfl, by decide +kernel⟩
set_option maxRecDepth 20000 in
theorem okX6_restore : EOK E_X6_restore := ⟨by decide +kernel, ⟨_, rfl⟩, rfl, by decide +kernel⟩
set_option maxRecDepth 20000 in
theorem okX6_needWork : EOK E_X6_needWork := ⟨by decide +kernel, ⟨_, rfl⟩, rfl, by decide +kernel⟩
set_option maxRecDepth 20000 in
theorem okX6_needStyle : EOK E_X6_needStyle := ⟨by decide +kernel, ⟨_, rfl⟩, rfl, by decide +kernel⟩
set_option maxRecDepth 20000 in
theorem okX6_needSlot : EOK E_X6_needSlot := ⟨by decide +kernel, ⟨_, rfl⟩, rfl, by decide +kernel⟩
set_option maxRecDepth 20000 in
theorem okX6_isYear : EOK E_X6_isYear := ⟨by decide +kernel, ⟨_, rfl⟩, rfl, by decide +kernel⟩
set_option maxRecDepth 20000 in
theorem okX6_isStyle : EOK E_X6_isStyle := ⟨by decide +kernel, ⟨_, rfl⟩, rfl, by decide +kernel⟩
set_option maxRecDepth 20000 in
theorem okX6_tellsOneWork : EOK E_X6_tellsOneWork := ⟨by decide +kernel, ⟨_, rfl⟩, rfl, by decide +kernel⟩
set_option maxRecDepth 20000 in
theorem okX6_keysHangingOn : EOK E_X6_keysHangingOn := ⟨by decide +kernel, ⟨_, rfl⟩, rfl, by decide +kernel⟩
set_option maxRecDepth 20000 in
theorem okX6_tryStyle : EOK E_X6_tryStyle := ⟨by decide +kernel, ⟨_, rfl⟩, rfl, by decide +kernel⟩
set_option maxRecDepth 20000 in
theorem okX6_commandAt : EOK E_X6_commandAt := ⟨by decide +kernel, ⟨_, rfl⟩, rfl, by decide +kernel⟩
set_option maxRecDepth 20000 in
theorem okX6_succeeds : EOK E_X6_succeeds := ⟨by decide +kernel, ⟨_, rfl⟩, rfl, by decide +kernel⟩
set_option maxRecDepth 20000 in
theorem okX6_removes : EOK E_X6_removes := ⟨by decide +kernel, ⟨_, rfl⟩, rfl, by decide +kernel⟩
set_option maxRecDepth 20000 in
theorem okX6_setsStyle : EOK E_X6_setsStyle := ⟨by decide +kernel, ⟨_, rfl⟩, rfl, by decide +kernel⟩
set_option maxRecDepth 20000 in
theorem okX6_setsOrder : EOK E_X6_setsOrder := ⟨by decide +kernel, ⟨_, rfl⟩, rfl, by decide +kernel⟩
set_option maxRecDepth 20000 in
theorem okX6_movesYear : EOK E_X6_movesYear := ⟨by decide +kernel, ⟨_, rfl⟩, rfl, by decide +kernel⟩
set_option maxRecDepth 20000 in
theorem okX6_prints : EOK E_X6_prints := ⟨by decide +kernel, ⟨_, rfl⟩, rfl, by decide +kernel⟩
set_option maxRecDepth 20000 in
theorem okX6_playRound : EOK E_X6_playRound := ⟨by decide +kernel, ⟨_, rfl⟩, rfl, by decide +kernel⟩
set_option maxRecDepth 20000 in
theorem okJ6_compare_7cf53 : EOK E_J6_compare_7cf53 := ⟨by decide +kernel, ⟨_, rfl⟩, rfl, by decide +kernel⟩
set_option maxRecDepth 20000 in
theorem okJ13_compare_74951 : EOK E_J13_compare_74951 := ⟨by decide +kernel, ⟨_, rfl⟩, rfl, by decide +kernel⟩
