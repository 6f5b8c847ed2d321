/-! the methods, as data -/
def E_X0_init : Me := (yX0_init, cX0_init, 2, none, wsX0_init, (3, 55), (533, 3052), [])
def E_X0_forget : Me := (yX0_forget, cX0_forget, 1, none, wsX0_forget, (0, 0), (0, 0), [])
def E_X0_remember : Me := (yX0_remember, cX0_remember, 2, none, wsX0_remember, (2, 44), (0, 0), [])
def E_X0_takeBack : Me := (yX0_takeBack, cX0_takeBack, 2, none, wsX0_takeBack, (2, 44), (0, 0), [])
def E_X1_withTwoDigits : Me := (yX1_withTwoDigits, cX1_withTwoDigits, 6, (some .long), wsX1_withTwoDigits, (0, 0), (0, 0), [])
def E_X1_withFourDigits : Me := (yX1_withFourDigits, cX1_withFourDigits, 3, (some .long), wsX1_withFourDigits, (0, 0), (0, 0), [])
def E_X1_letterOf : Me := (yX1_letterOf, cX1_letterOf, 2, (some .int), wsX1_letterOf, (0, 0), (0, 0), [])
def E_X1_signs : Me := (yX1_signs, cX1_signs, 2, (some .int), wsX1_signs, (0, 0), (0, 0), [])
def E_X1_digits : Me := (yX1_digits, cX1_digits, 2, (some .int), wsX1_digits, (0, 0), (0, 0), [])
def E_X1_length : Me := (yX1_length, cX1_length, 3, (some .int), wsX1_length, (2, 45), (0, 0), [])
def E_X1_codeAt : Me := (yX1_codeAt, cX1_codeAt, 6, (some .int), wsX1_codeAt, (2, 45), (0, 0), [])
def E_X1_digitFromEnd : Me := (yX1_digitFromEnd, cX1_digitFromEnd, 5, (some .int), wsX1_digitFromEnd, (0, 0), (0, 0), [])
def E_X2_numberAt : Me := (yX2_numberAt, cX2_numberAt, 3, (some .int), wsX2_numberAt, (0, 0), (0, 0), [])
def E_X2_codeAt : Me := (yX2_codeAt, cX2_codeAt, 4, (some .int), wsX2_codeAt, (1, 22), (0, 0), [])
def E_X2_length : Me := (yX2_length, cX2_length, 4, (some .int), wsX2_length, (1, 22), (0, 0), [])
def E_X2_with : Me := (yX2_with, cX2_with, 4, (some .long), wsX2_with, (0, 0), (0, 0), [])
def E_X3_init : Me := (yX3_init, cX3_init, 2, none, wsX3_init, (2, 34), (37, 208), [])
def E_X3_empty : Me := (yX3_empty, cX3_empty, 1, none, wsX3_empty, (0, 0), (0, 0), [])
def E_X3_copyFrom : Me := (yX3_copyFrom, cX3_copyFrom, 3, none, wsX3_copyFrom, (1, 22), (0, 0), [])
def E_X3_has : Me := (yX3_has, cX3_has, 2, (some .boolean), wsX3_has, (0, 0), (0, 0), [])
def E_X3_place : Me := (yX3_place, cX3_place, 2, none, wsX3_place, (1, 22), (0, 0), [])
def E_X3_takeOut : Me := (yX3_takeOut, cX3_takeOut, 4, none, wsX3_takeOut, (1, 22), (0, 0), [])
def E_X3_disown : Me := (yX3_disown, cX3_disown, 3, none, wsX3_disown, (0, 0), (0, 0), [])
def E_X3_rekey : Me := (yX3_rekey, cX3_rekey, 5, (some .int), wsX3_rekey, (4, 97), (0, 0), [])
def E_X3_letterDue : Me := (yX3_letterDue, cX3_letterDue, 5, (some .int), wsX3_letterDue, (3, 73), (0, 0), [])
def E_X3_isBefore : Me := (yX3_isBefore, cX3_isBefore, 8, (some .boolean), wsX3_isBefore, (2, 46), (0, 0), [])
def E_X3_placeOf : Me := (yX3_placeOf, cX3_placeOf, 4, (some .int), wsX3_placeOf, (3, 73), (0, 0), [])
def E_X3_sharing : Me := (yX3_sharing, cX3_sharing, 4, (some .int), wsX3_sharing, (0, 0), (0, 0), [])
def E_X3_isFree : Me := (yX3_isFree, cX3_isFree, 6, (some .boolean), wsX3_isFree, (3, 68), (0, 0), [])
def E_X3_lettered : Me := (yX3_lettered, cX3_lettered, 3, (some .int), wsX3_lettered, (1, 21), (0, 0), [])
def E_X3_differentStems : Me := (yX3_differentStems, cX3_differentStems, 3, (some .int), wsX3_differentStems, (1, 21), (0, 0), [])
def E_X3_longestKey : Me := (yX3_longestKey, cX3_longestKey, 3, (some .int), wsX3_longestKey, (3, 67), (0, 0), [])
def E_X3_printKeys : Me := (yX3_printKeys, cX3_printKeys, 2, none, wsX3_printKeys, (0, 0), (0, 0), [])
def E_X3_holderOf : Me := (yX3_holderOf, cX3_holderOf, 4, (some .int), wsX3_holderOf, (0, 0), (0, 0), [])
def E_X3_printedOfNone : Me := (yX3_printedOfNone, cX3_printedOfNone, 3, (some .int), wsX3_printedOfNone, (0, 0), (0, 0), [])
def E_X3_printedStillRight : Me := (yX3_printedStillRight, cX3_printedStillRight, 3, (some .int), wsX3_printedStillRight, (1, 23), (0, 0), [])
def E_X3_printedWithoutMeaning : Me := (yX3_printedWithoutMeaning, cX3_printedWithoutMeaning, 3, (some .int), wsX3_printedWithoutMeaning, (1, 23), (0, 0), [])
def E_X3_printedOfAnother : Me := (yX3_printedOfAnother, cX3_printedOfAnother, 1, (some .int), wsX3_printedOfAnother, (2, 45), (0, 0), [])
def E_X4_init : Me := (yX4_init, cX4_init, 2, none, wsX4_init, (2, 34), (34, 244), [])
def E_X4_put : Me := (yX4_put, cX4_put, 2, none, wsX4_put, (0, 0), (0, 0), [])
def E_X4_spells : Me := (yX4_spells, cX4_spells, 4, (some .boolean), wsX4_spells, (3, 70), (0, 0), [])
def E_X4_read : Me := (yX4_read, cX4_read, 2, (some .int), wsX4_read, (4, 85), (0, 0), [])
def E_X4_beginWork : Me := (yX4_beginWork, cX4_beginWork, 1, (some .boolean), wsX4_beginWork, (1, 21), (0, 0), [])
def E_X4_begin : Me := (yX4_begin, cX4_begin, 2, none, wsX4_begin, (0, 0), (0, 0), [])
def E_X4_takes : Me := (yX4_takes, cX4_takes, 3, (some .boolean), wsX4_takes, (3, 63), (0, 0), [])
def E_X4_takesAuthors : Me := (yX4_takesAuthors, cX4_takesAuthors, 4, (some .boolean), wsX4_takesAuthors, (1, 23), (0, 0), [])
def E_X4_takesYear : Me := (yX4_takesYear, cX4_takesYear, 4, (some .boolean), wsX4_takesYear, (1, 21), (0, 0), [])
def E_X4_takesTitle : Me := (yX4_takesTitle, cX4_takesTitle, 3, (some .boolean), wsX4_takesTitle, (2, 41), (0, 0), [])
def E_X4_countLetter : Me := (yX4_countLetter, cX4_countLetter, 1, (some .boolean), wsX4_countLetter, (0, 0), (0, 0), [])
def E_X4_isLetter : Me := (yX4_isLetter, cX4_isLetter, 1, (some .boolean), wsX4_isLetter, (0, 0), (0, 0), [])
def E_X5_init : Me := (yX5_init, cX5_init, 1, none, wsX5_init, (1, 14), (1, 4), [])
def E_X5_empty : Me := (yX5_empty, cX5_empty, 2, none, wsX5_empty, (0, 0), (0, 0), [])
def E_X5_copyFrom : Me := (yX5_copyFrom, cX5_copyFrom, 3, none, wsX5_copyFrom, (0, 0), (0, 0), [])
def E_X5_nameAt : Me := (yX5_nameAt, cX5_nameAt, 2, (some .long), wsX5_nameAt, (0, 0), (0, 0), [])
def E_X5_compareAuthors : Me := (yX5_compareAuthors, cX5_compareAuthors, 4, (some .int), wsX5_compareAuthors, (1, 23), (0, 0), [])
def E_X5_stem : Me := (yX5_stem, cX5_stem, 3, (some .long), wsX5_stem, (2, 46), (0, 0), [])
def E_X5_firstThreeLetters : Me := (yX5_firstThreeLetters, cX5_firstThreeLetters, 4, (some .long), wsX5_firstThreeLetters, (1, 23), (0, 0), [])
def E_X5_initials : Me := (yX5_initials, cX5_initials, 4, (some .long), wsX5_initials, (1, 23), (0, 0), [])
def E_X5_authorAndTitle : Me := (yX5_authorAndTitle, cX5_authorAndTitle, 3, (some .long), wsX5_authorAndTitle, (1, 23), (0, 0), [])
def E_X6_init : Me := (yX6_init, cX6_init, 2, none, wsX6_init, (4, 76), (725, 4185), [])
def E_X6_append : Me := (yX6_append, cX6_append, 2, (some .int), wsX6_append, (6, 84), (1, 6), [])
def E_X6_clearText : Me := (yX6_clearText, cX6_clearText, 2, (some .int), wsX6_clearText, (0, 0), (0, 0), [])
def E_X6_errorPosition : Me := (yX6_errorPosition, cX6_errorPosition, 1, (some .int), wsX6_errorPosition, (5, 106), (0, 0), [])
def E_X6_load : Me := (yX6_load, cX6_load, 2, (some .int), wsX6_load, (6, 121), (1, 6), [])
def E_X6_about : Me := (yX6_about, cX6_about, 2, (some .int), wsX6_about, (6, 89), (1, 6), [])
def E_X6_work : Me := (yX6_work, cX6_work, 3, (some .int), wsX6_work, (7, 105), (2, 12), [])
def E_X6_letter : Me := (yX6_letter, cX6_letter, 5, (some .int), wsX6_letter, (7, 105), (2, 12), [])
def E_X6_key : Me := (yX6_key, cX6_key, 3, (some .int), wsX6_key, (7, 105), (2, 12), [])
def E_X6_at : Me := (yX6_at, cX6_at, 3, (some .int), wsX6_at, (6, 96), (1, 6), [])
def E_X6_meaning : Me := (yX6_meaning, cX6_meaning, 2, (some .int), wsX6_meaning, (4, 93), (0, 0), [])
def E_X6_printedMeaning : Me := (yX6_printedMeaning, cX6_printedMeaning, 2, (some .int), wsX6_printedMeaning, (4, 93), (0, 0), [])
def E_X6_printed : Me := (yX6_printed, cX6_printed, 2, (some .int), wsX6_printed, (6, 84), (1, 6), [])
def E_X6_add : Me := (yX6_add, cX6_add, 1, (some .int), wsX6_add, (6, 126), (1, 6), [])
def E_X6_change : Me := (yX6_change, cX6_change, 2, (some .int), wsX6_change, (7, 126), (2, 12), [])
def E_X6_setYear : Me := (yX6_setYear, cX6_setYear, 3, (some .int), wsX6_setYear, (7, 121), (2, 12), [])
def E_X6_remove : Me := (yX6_remove, cX6_remove, 2, (some .int), wsX6_remove, (7, 121), (1, 6), [])
def E_X6_setStyle : Me := (yX6_setStyle, cX6_setStyle, 3, (some .int), wsX6_setStyle, (7, 121), (1, 6), [])
def E_X6_setOrder : Me := (yX6_setOrder, cX6_setOrder, 2, (some .int), wsX6_setOrder, (6, 121), (1, 6), [])
def E_X6_print : Me := (yX6_print, cX6_print, 1, (some .int), wsX6_print, (3, 65), (0, 0), [])
def E_X6_undo : Me := (yX6_undo, cX6_undo, 1, (some .int), wsX6_undo, (6, 84), (1, 6), [])
def E_X6_ifRemoved : Me := (yX6_ifRemoved, cX6_ifRemoved, 2, (some .int), wsX6_ifRemoved, (7, 142), (1, 6), [])
def E_X6_freeYear : Me := (yX6_freeYear, cX6_freeYear, 4, (some .int), wsX6_freeYear, (7, 105), (1, 6), [])
def E_X6_lettersWith : Me := (yX6_lettersWith, cX6_lettersWith, 2, (some .int), wsX6_lettersWith, (7, 142), (1, 6), [])
def E_X6_bestStyle : Me := (yX6_bestStyle, cX6_bestStyle, 7, (some .int), wsX6_bestStyle, (6, 142), (0, 0), [])
def E_X6_weightiest : Me := (yX6_weightiest, cX6_weightiest, 5, (some .int), wsX6_weightiest, (6, 142), (0, 0), [])
def E_X6_runScript : Me := (yX6_runScript, cX6_runScript, 7, (some .int), wsX6_runScript, (6, 121), (1, 6), [])
def E_X6_simulate : Me := (yX6_simulate, cX6_simulate, 7, (some .int), wsX6_simulate, (6, 121), (1, 6), [])
def E_X6_save : Me := (yX6_save, cX6_save, 2, (some .int), wsX6_save, (7, 104), (1, 6), [])
def E_X6_restore : Me := (yX6_restore, cX6_restore, 2, (some .int), wsX6_restore, (7, 104), (2, 12), [])
def E_X6_needWork : Me := (yX6_needWork, cX6_needWork, 2, none, wsX6_needWork, (6, 84), (1, 6), [])
def E_X6_needStyle : Me := (yX6_needStyle, cX6_needStyle, 1, none, wsX6_needStyle, (6, 84), (1, 6), [])
def E_X6_needSlot : Me := (yX6_needSlot, cX6_needSlot, 1, none, wsX6_needSlot, (6, 84), (1, 6), [])
def E_X6_isYear : Me := (yX6_isYear, cX6_isYear, 1, (some .boolean), wsX6_isYear, (0, 0), (0, 0), [])
def E_X6_isStyle : Me := (yX6_isStyle, cX6_isStyle, 1, (some .boolean), wsX6_isStyle, (0, 0), (0, 0), [])
def E_X6_tellsOneWork : Me := (yX6_tellsOneWork, cX6_tellsOneWork, 1, (some .boolean), wsX6_tellsOneWork, (5, 106), (0, 0), [])
def E_X6_keysHangingOn : Me := (yX6_keysHangingOn, cX6_keysHangingOn, 2, (some .int), wsX6_keysHangingOn, (5, 121), (0, 0), [])
def E_X6_tryStyle : Me := (yX6_tryStyle, cX6_tryStyle, 2, none, wsX6_tryStyle, (5, 121), (0, 0), [])
def E_X6_commandAt : Me := (yX6_commandAt, cX6_commandAt, 6, (some .int), wsX6_commandAt, (0, 0), (0, 0), [])
def E_X6_succeeds : Me := (yX6_succeeds, cX6_succeeds, 3, (some .boolean), wsX6_succeeds, (3, 66), (0, 0), [])
def E_X6_removes : Me := (yX6_removes, cX6_removes, 2, (some .boolean), wsX6_removes, (2, 45), (0, 0), [])
def E_X6_setsStyle : Me := (yX6_setsStyle, cX6_setsStyle, 2, (some .boolean), wsX6_setsStyle, (1, 20), (0, 0), [])
def E_X6_setsOrder : Me := (yX6_setsOrder, cX6_setsOrder, 2, (some .boolean), wsX6_setsOrder, (0, 0), (0, 0), [])
def E_X6_movesYear : Me := (yX6_movesYear, cX6_movesYear, 3, (some .boolean), wsX6_movesYear, (1, 21), (0, 0), [])
def E_X6_prints : Me := (yX6_prints, cX6_prints, 2, (some .boolean), wsX6_prints, (1, 21), (0, 0), [])
def E_X6_playRound : Me := (yX6_playRound, cX6_playRound, 4, none, wsX6_playRound, (2, 45), (0, 0), [])
def E_X7_init : Me := (yX7_init, cX7_init, 1, none, wsX7_init, (1, 21), (13, 19232), [])
def E_X7_thrown : Me := (yX7_thrown, cX7_thrown, 1, (some .int), wsX7_thrown, (0, 0), (0, 0), [])
def E_X7_refused : Me := (yX7_refused, cX7_refused, 2, (some .boolean), wsX7_refused, (0, 0), (0, 0), [])
def E_X7_in : Me := (yX7_in, cX7_in, 6, (some .boolean), wsX7_in, (0, 0), (0, 0), [])
def E_X7_copy : Me := (yX7_copy, cX7_copy, 6, none, wsX7_copy, (0, 0), (0, 0), [])
def E_X7_tenTo : Me := (yX7_tenTo, cX7_tenTo, 4, (some .long), wsX7_tenTo, (0, 0), (0, 0), [])
def E_X7_clean : Me := (yX7_clean, cX7_clean, 2, none, wsX7_clean, (0, 0), (0, 0), [])
def E_X7_note : Me := (yX7_note, cX7_note, 1, none, wsX7_note, (1, 25), (0, 0), [])
def E_X7_begin : Me := (yX7_begin, cX7_begin, 1, none, wsX7_begin, (1, 25), (0, 0), [])
def E_X7_cell : Me := (yX7_cell, cX7_cell, 2, (some .int), wsX7_cell, (0, 0), (0, 0), [])
def E_X7_author : Me := (yX7_author, cX7_author, 2, (some .int), wsX7_author, (1, 21), (0, 0), [])
def E_X7_compareNames : Me := (yX7_compareNames, cX7_compareNames, 5, (some .int), wsX7_compareNames, (0, 0), (0, 0), [])
def E_X7_compareAuthors : Me := (yX7_compareAuthors, cX7_compareAuthors, 7, (some .int), wsX7_compareAuthors, (2, 42), (0, 0), [])
def E_X7_isAhead : Me := (yX7_isAhead, cX7_isAhead, 8, (some .boolean), wsX7_isAhead, (3, 68), (0, 0), [])
def E_X7_put : Me := (yX7_put, cX7_put, 2, none, wsX7_put, (0, 0), (0, 0), [])
def E_X7_putYear : Me := (yX7_putYear, cX7_putYear, 5, none, wsX7_putYear, (1, 23), (0, 0), [])
def E_X7_layStem : Me := (yX7_layStem, cX7_layStem, 8, none, wsX7_layStem, (2, 47), (0, 0), [])
def E_X7_areLike : Me := (yX7_areLike, cX7_areLike, 6, (some .boolean), wsX7_areLike, (0, 0), (0, 0), [])
def E_X7_lay : Me := (yX7_lay, cX7_lay, 8, none, wsX7_lay, (4, 95), (0, 0), [])
def E_X7_layWas : Me := (yX7_layWas, cX7_layWas, 1, none, wsX7_layWas, (6, 142), (0, 0), [])
def E_X7_layNow : Me := (yX7_layNow, cX7_layNow, 1, none, wsX7_layNow, (5, 122), (0, 0), [])
def E_X7_others : Me := (yX7_others, cX7_others, 6, (some .int), wsX7_others, (5, 122), (0, 0), [])
def E_X7_lettered : Me := (yX7_lettered, cX7_lettered, 4, (some .int), wsX7_lettered, (0, 0), (0, 0), [])
def E_X7_longest : Me := (yX7_longest, cX7_longest, 4, (some .int), wsX7_longest, (0, 0), (0, 0), [])
def E_X7_drop : Me := (yX7_drop, cX7_drop, 4, none, wsX7_drop, (1, 21), (0, 0), [])
def E_X7_goPrint : Me := (yX7_goPrint, cX7_goPrint, 3, none, wsX7_goPrint, (5, 122), (0, 0), [])
def E_X7_holder : Me := (yX7_holder, cX7_holder, 4, (some .int), wsX7_holder, (1, 25), (0, 0), [])
def E_X7_printedOf : Me := (yX7_printedOf, cX7_printedOf, 7, (some .int), wsX7_printedOf, (5, 122), (0, 0), [])
def E_X7_append : Me := (yX7_append, cX7_append, 2, (some .int), wsX7_append, (1, 25), (0, 0), [])
def E_X7_clearText : Me := (yX7_clearText, cX7_clearText, 2, (some .int), wsX7_clearText, (0, 0), (0, 0), [])
def E_X7_isNext : Me := (yX7_isNext, cX7_isNext, 2, (some .boolean), wsX7_isNext, (0, 0), (0, 0), [])
def E_X7_isLetter : Me := (yX7_isLetter, cX7_isLetter, 1, (some .boolean), wsX7_isLetter, (1, 25), (0, 0), [])
def E_X7_accept : Me := (yX7_accept, cX7_accept, 2, none, wsX7_accept, (0, 0), (0, 0), [])
def E_X7_readName : Me := (yX7_readName, cX7_readName, 2, none, wsX7_readName, (2, 45), (0, 0), [])
def E_X7_readYear : Me := (yX7_readYear, cX7_readYear, 4, none, wsX7_readYear, (1, 25), (0, 0), [])
def E_X7_readWork : Me := (yX7_readWork, cX7_readWork, 2, none, wsX7_readWork, (3, 66), (0, 0), [])
def E_X7_readText : Me := (yX7_readText, cX7_readText, 1, (some .int), wsX7_readText, (4, 87), (0, 0), [])
def E_X7_errorPosition : Me := (yX7_errorPosition, cX7_errorPosition, 1, (some .int), wsX7_errorPosition, (5, 107), (0, 0), [])
def E_X7_load : Me := (yX7_load, cX7_load, 1, (some .int), wsX7_load, (5, 107), (0, 0), [])
def E_X7_isOneWork : Me := (yX7_isOneWork, cX7_isOneWork, 1, (some .boolean), wsX7_isOneWork, (5, 107), (0, 0), [])
def E_X7_stems : Me := (yX7_stems, cX7_stems, 3, (some .int), wsX7_stems, (0, 0), (0, 0), [])
def E_X7_gone : Me := (yX7_gone, cX7_gone, 3, (some .int), wsX7_gone, (0, 0), (0, 0), [])
def E_X7_about : Me := (yX7_about, cX7_about, 2, (some .int), wsX7_about, (6, 142), (0, 0), [])
def E_X7_isWork : Me := (yX7_isWork, cX7_isWork, 2, (some .boolean), wsX7_isWork, (1, 25), (0, 0), [])
def E_X7_work : Me := (yX7_work, cX7_work, 3, (some .int), wsX7_work, (6, 142), (0, 0), [])
def E_X7_letter : Me := (yX7_letter, cX7_letter, 5, (some .int), wsX7_letter, (2, 46), (0, 0), [])
def E_X7_key : Me := (yX7_key, cX7_key, 3, (some .int), wsX7_key, (6, 142), (0, 0), [])
def E_X7_at : Me := (yX7_at, cX7_at, 3, (some .int), wsX7_at, (6, 142), (0, 0), [])
def E_X7_isText : Me := (yX7_isText, cX7_isText, 5, (some .boolean), wsX7_isText, (0, 0), (0, 0), [])
def E_X7_meaning : Me := (yX7_meaning, cX7_meaning, 2, (some .int), wsX7_meaning, (6, 142), (0, 0), [])
def E_X7_printedMeaning : Me := (yX7_printedMeaning, cX7_printedMeaning, 2, (some .int), wsX7_printedMeaning, (1, 24), (0, 0), [])
def E_X7_printed : Me := (yX7_printed, cX7_printed, 2, (some .int), wsX7_printed, (6, 148), (0, 0), [])
def E_X7_add : Me := (yX7_add, cX7_add, 1, (some .int), wsX7_add, (6, 127), (0, 0), [])
def E_X7_change : Me := (yX7_change, cX7_change, 2, (some .int), wsX7_change, (7, 162), (0, 0), [])
def E_X7_isYear : Me := (yX7_isYear, cX7_isYear, 1, (some .boolean), wsX7_isYear, (1, 25), (0, 0), [])
def E_X7_setYear : Me := (yX7_setYear, cX7_setYear, 3, (some .int), wsX7_setYear, (7, 162), (0, 0), [])
def E_X7_remove : Me := (yX7_remove, cX7_remove, 2, (some .int), wsX7_remove, (7, 162), (0, 0), [])
def E_X7_isStyle : Me := (yX7_isStyle, cX7_isStyle, 1, (some .boolean), wsX7_isStyle, (1, 25), (0, 0), [])
def E_X7_setStyle : Me := (yX7_setStyle, cX7_setStyle, 3, (some .int), wsX7_setStyle, (2, 45), (0, 0), [])
def E_X7_setOrder : Me := (yX7_setOrder, cX7_setOrder, 2, (some .int), wsX7_setOrder, (7, 162), (0, 0), [])
def E_X7_print : Me := (yX7_print, cX7_print, 1, (some .int), wsX7_print, (6, 144), (0, 0), [])
def E_X7_undo : Me := (yX7_undo, cX7_undo, 1, (some .int), wsX7_undo, (1, 25), (0, 0), [])
def E_X7_without : Me := (yX7_without, cX7_without, 2, (some .int), wsX7_without, (7, 162), (0, 0), [])
def E_X7_ifRemoved : Me := (yX7_ifRemoved, cX7_ifRemoved, 2, (some .int), wsX7_ifRemoved, (8, 183), (0, 0), [])
def E_X7_isFree : Me := (yX7_isFree, cX7_isFree, 5, (some .boolean), wsX7_isFree, (3, 74), (0, 0), [])
def E_X7_freeYear : Me := (yX7_freeYear, cX7_freeYear, 4, (some .int), wsX7_freeYear, (4, 98), (0, 0), [])
def E_X7_letteredBy : Me := (yX7_letteredBy, cX7_letteredBy, 2, (some .int), wsX7_letteredBy, (5, 122), (0, 0), [])
def E_X7_lettersWith : Me := (yX7_lettersWith, cX7_lettersWith, 2, (some .int), wsX7_lettersWith, (6, 143), (0, 0), [])
def E_X7_bestStyle : Me := (yX7_bestStyle, cX7_bestStyle, 7, (some .int), wsX7_bestStyle, (6, 143), (0, 0), [])
def E_X7_weightiest : Me := (yX7_weightiest, cX7_weightiest, 5, (some .int), wsX7_weightiest, (8, 183), (0, 0), [])
def E_X7_has : Me := (yX7_has, cX7_has, 2, (some .boolean), wsX7_has, (0, 0), (0, 0), [])
def E_X7_does : Me := (yX7_does, cX7_does, 7, (some .boolean), wsX7_does, (6, 148), (0, 0), [])
def E_X7_runScript : Me := (yX7_runScript, cX7_runScript, 6, (some .int), wsX7_runScript, (7, 174), (0, 0), [])
def E_X7_round : Me := (yX7_round, cX7_round, 3, none, wsX7_round, (2, 44), (0, 0), [])
def E_X7_simulate : Me := (yX7_simulate, cX7_simulate, 7, (some .int), wsX7_simulate, (5, 122), (0, 0), [])
def E_X7_save : Me := (yX7_save, cX7_save, 2, (some .int), wsX7_save, (1, 25), (0, 0), [])
def E_X7_restore : Me := (yX7_restore, cX7_restore, 2, (some .int), wsX7_restore, (1, 25), (0, 0), [])
def E_L_append : Me := (yL_append, cL_append, 4, (some .int), wsL_append, (7, 105), (1, 6), [(0, 9, 12, 13), (0, 9, 15, 15)])
def E_L_load : Me := (yL_load, cL_load, 3, (some .int), wsL_load, (7, 142), (1, 6), [(0, 8, 11, 15)])
def E_L_about : Me := (yL_about, cL_about, 4, (some .int), wsL_about, (7, 110), (1, 6), [(0, 9, 12, 13)])
def E_L_work : Me := (yL_work, cL_work, 5, (some .int), wsL_work, (8, 127), (2, 12), [(0, 10, 13, 28), (0, 10, 17, 13)])
def E_L_letter : Me := (yL_letter, cL_letter, 6, (some .int), wsL_letter, (8, 129), (2, 12), [(0, 12, 15, 28), (0, 12, 19, 13)])
def E_L_key : Me := (yL_key, cL_key, 5, (some .int), wsL_key, (8, 127), (2, 12), [(0, 10, 13, 28), (0, 10, 17, 13)])
def E_L_at : Me := (yL_at, cL_at, 4, (some .int), wsL_at, (7, 118), (1, 6), [(0, 9, 12, 13)])
def E_L_printed : Me := (yL_printed, cL_printed, 4, (some .int), wsL_printed, (7, 105), (1, 6), [(0, 9, 12, 13)])
def E_L_add : Me := (yL_add, cL_add, 3, (some .int), wsL_add, (7, 146), (1, 6), [(0, 8, 11, 15)])
def E_L_change : Me := (yL_change, cL_change, 4, (some .int), wsL_change, (8, 147), (2, 12), [(0, 9, 12, 28), (0, 9, 15, 15)])
def E_L_setYear : Me := (yL_setYear, cL_setYear, 5, (some .int), wsL_setYear, (8, 143), (2, 12), [(0, 10, 13, 28), (0, 10, 17, 13)])
def E_L_remove : Me := (yL_remove, cL_remove, 4, (some .int), wsL_remove, (8, 142), (1, 6), [(0, 9, 12, 28)])
def E_L_setStyle : Me := (yL_setStyle, cL_setStyle, 4, (some .int), wsL_setStyle, (8, 143), (1, 6), [(0, 9, 12, 13)])
def E_L_setOrder : Me := (yL_setOrder, cL_setOrder, 4, (some .int), wsL_setOrder, (7, 142), (1, 6), [(0, 9, 12, 13)])
def E_L_undo : Me := (yL_undo, cL_undo, 3, (some .int), wsL_undo, (7, 104), (1, 6), [(0, 8, 11, 15)])
def E_L_ifRemoved : Me := (yL_ifRemoved, cL_ifRemoved, 4, (some .int), wsL_ifRemoved, (8, 163), (1, 6), [(0, 9, 12, 28)])
def E_L_freeYear : Me := (yL_freeYear, cL_freeYear, 4, (some .int), wsL_freeYear, (8, 128), (1, 6), [(0, 9, 12, 28)])
def E_L_lettersWith : Me := (yL_lettersWith, cL_lettersWith, 4, (some .int), wsL_lettersWith, (8, 163), (1, 6), [(0, 9, 12, 13)])
def E_L_runScript : Me := (yL_runScript, cL_runScript, 6, (some .int), wsL_runScript, (7, 147), (1, 6), [(0, 11, 14, 13)])
def E_L_simulate : Me := (yL_simulate, cL_simulate, 6, (some .int), wsL_simulate, (7, 147), (1, 6), [(0, 11, 14, 13)])
def E_L_save : Me := (yL_save, cL_save, 4, (some .int), wsL_save, (8, 125), (1, 6), [(0, 9, 12, 28)])
def E_L_restore : Me := (yL_restore, cL_restore, 4, (some .int), wsL_restore, (8, 125), (2, 12), [(0, 9, 12, 28), (0, 9, 15, 15)])
def E_L_law : Me := (x, cL_law, 7, (some .boolean), wsL_law, (11, 414), (601024, 7293034), [])
def E_J6_compare_7cf53 : Me := (yJ6_compare_7cf53, cJ6_compare_7cf53, 2, (some .int), wsJ6_compare_7cf53, (0, 0), (0, 0), [])
def E_J13_compare_74951 : Me := (yJ13_compare_74951, cJ13_compare_74951, 4, (some .int), wsJ13_compare_74951, (0, 0), (0, 0), [])
set_option maxRecDepth 20000 in
theorem okX0_init : EOK E_X0_init := ⟨by decide +kernel, ⟨_, rfl⟩, rfl, by decide +kernel⟩
set_option maxRecDepth 20000 in
theorem okX0_forget : EOK E_X0_forget := ⟨by decide +kernel, ⟨_, rfl⟩, rfl, by decide +kernel⟩
set_option maxRecDepth 20000 in
theorem okX0_remember : EOK E_X0_remember := ⟨by decide +kernel, ⟨_, rfl⟩, rfl, by decide +kernel⟩
set_option maxRecDepth 20000 in
theorem okX0_takeBack : EOK E_X0_takeBack := ⟨by decide +kernel, ⟨_, rfl⟩, rfl, by decide +kernel⟩
set_option maxRecDepth 20000 in
theorem okX1_withTwoDigits : EOK E_X1_withTwoDigits := ⟨by decide +kernel, ⟨_, rfl⟩, rfl, by decide +kernel⟩
set_option maxRecDepth 20000 in
theorem okX1_withFourDigits : EOK E_X1_withFourDigits := ⟨by decide +kernel, ⟨_, rfl⟩, rfl, by decide +kernel⟩
set_option maxRecDepth 20000 in
theorem okX1_letterOf : EOK E_X1_letterOf := ⟨by decide +kernel, ⟨_, rfl⟩, rfl, by decide +kernel⟩
set_option maxRecDepth 20000 in
theorem okX1_signs : EOK E_X1_signs := ⟨by decide +kernel, ⟨_, rfl⟩, rfl, by decide +kernel⟩
set_option maxRecDepth 20000 in
theorem okX1_digits : EOK E_X1_digits := ⟨by decide +kernel, ⟨_, rfl⟩, rfl, by decide +kernel⟩
set_option maxRecDepth 20000 in
theorem okX1_length : EOK E_X1_length := ⟨by decide +kernel, ⟨_, rfl⟩, rfl, by decide +kernel⟩
set_option maxRecDepth 20000 in
theorem okX1_codeAt : EOK E_X1_codeAt := ⟨by decide +kernel, ⟨_, rfl⟩, rfl, by decide +kernel⟩
set_option maxRecDepth 20000 in
theorem okX1_digitFromEnd : EOK E_X1_digitFromEnd := ⟨by decide +kernel, ⟨_, rfl⟩, rfl, by decide +kernel⟩
set_option maxRecDepth 20000 in
theorem okX2_numberAt : EOK E_X2_numberAt := ⟨by decide +kernel, ⟨_, rfl⟩, rfl, by decide +kernel⟩
set_option maxRecDepth 20000 in
theorem okX2_codeAt : EOK E_X2_codeAt := ⟨by decide +kernel, ⟨_, rfl⟩, rfl, by decide +kernel⟩
set_option maxRecDepth 20000 in
theorem okX2_length : EOK E_X2_length := ⟨by decide +kernel, ⟨_, rfl⟩, rfl, by decide +kernel⟩
set_option maxRecDepth 20000 in
theorem okX2_with : EOK E_X2_with := ⟨by decide +kernel, ⟨_, rfl⟩, rfl, by decide +kernel⟩
set_option maxRecDepth 20000 in
theorem okX3_init : EOK E_X3_init := ⟨by decide +kernel, ⟨_, rfl⟩, rfl, by decide +kernel⟩
set_option maxRecDepth 20000 in
theorem okX3_empty : EOK E_X3_empty := ⟨by decide +kernel, ⟨_, rfl⟩, rfl, by decide +kernel⟩
set_option maxRecDepth 20000 in
theorem okX3_copyFrom : EOK E_X3_copyFrom := ⟨by decide +kernel, ⟨_, rfl⟩, rfl, by decide +kernel⟩
set_option maxRecDepth 20000 in
theorem okX3_has : EOK E_X3_has := ⟨by decide +kernel, ⟨_, rfl⟩, rfl, by decide +kernel⟩
set_option maxRecDepth 20000 in
theorem okX3_place : EOK E_X3_place := ⟨by decide +kernel, ⟨_, rfl⟩, rfl, by decide +kernel⟩
set_option maxRecDepth 20000 in
theorem okX3_takeOut : EOK E_X3_takeOut := ⟨by decide +kernel, ⟨_, rfl⟩, rfl, by decide +kernel⟩
set_option maxRecDepth 20000 in
theorem okX3_disown : EOK E_X3_disown := ⟨by decide +kernel, ⟨_, rfl⟩, rfl, by decide +kernel⟩
set_option maxRecDepth 20000 in
theorem okX3_rekey : EOK E_X3_rekey := ⟨by decide +kernel, ⟨_, rfl⟩, rfl, by decide +kernel⟩
set_option maxRecDepth 20000 in
theorem okX3_letterDue : EOK E_X3_letterDue := ⟨by decide +kernel, ⟨_, rfl⟩, rfl, by decide +kernel⟩
set_option maxRecDepth 20000 in
theorem okX3_isBefore : EOK E_X3_isBefore := ⟨by decide +kernel, ⟨_, rfl⟩, rfl, by decide +kernel⟩
set_option maxRecDepth 20000 in
theorem okX3_placeOf : EOK E_X3_placeOf := ⟨by decide +kernel, ⟨_, rfl⟩, rfl, by decide +kernel⟩
set_option maxRecDepth 20000 in
theorem okX3_sharing : EOK E_X3_sharing := ⟨by decide +kernel, ⟨_, rfl⟩, rfl, by decide +kernel⟩
set_option maxRecDepth 20000 in
theorem okX3_isFree : EOK E_X3_isFree := ⟨by decide +kernel, ⟨_, rfl⟩, rfl, by decide +kernel⟩
set_option maxRecDepth 20000 in
theorem okX3_lettered : EOK E_X3_lettered := ⟨by decide +kernel, ⟨_, rfl⟩, rfl, by decide +kernel⟩
set_option maxRecDepth 20000 in
theorem okX3_differentStems : EOK E_X3_differentStems := ⟨by decide +kernel, ⟨_, rfl⟩, rfl, by decide +kernel⟩
set_option maxRecDepth 20000 in
theorem okX3_longestKey : EOK E_X3_longestKey := ⟨by decide +kernel, ⟨_, rfl⟩, rfl, by decide +kernel⟩
set_option maxRecDepth 20000 in
theorem okX3_printKeys : EOK E_X3_printKeys := ⟨by decide +kernel, ⟨_, rfl⟩, rfl, by decide +kernel⟩
set_option maxRecDepth 20000 in
theorem okX3_holderOf : EOK E_X3_holderOf := ⟨by decide +kernel, ⟨_, rfl⟩, rfl, by decide +kernel⟩
set_option maxRecDepth 20000 in
theorem okX3_printedOfNone : EOK E_X3_printedOfNone := ⟨by decide +kernel, ⟨_, rfl⟩, rfl, by decide +kernel⟩
set_option maxRecDepth 20000 in
theorem okX3_printedStillRight : EOK E_X3_printedStillRight := ⟨by decide +kernel, ⟨_, rfl⟩, rfl, by decide +kernel⟩
set_option maxRecDepth 20000 in
theorem okX3_printedWithoutMeaning : EOK E_X3_printedWithoutMeaning := ⟨by decide +kernel, ⟨_, rfl⟩, rfl, by decide +kernel⟩
set_option maxRecDepth 20000 in
theorem okX3_printedOfAnother : EOK E_X3_printedOfAnother := ⟨by decide +kernel, ⟨_, rfl⟩, rfl, by decide +kernel⟩
set_option maxRecDepth 20000 in
theorem okX4_init : EOK E_X4_init := ⟨by decide +kernel, ⟨_, rfl⟩, rfl, by decide +kernel⟩
set_option maxRecDepth 20000 in
theorem okX4_put : EOK E_X4_put := ⟨by decide +kernel, ⟨_, rfl⟩, rfl, by decide +kernel⟩
set_option maxRecDepth 20000 in
theorem okX4_spells : EOK E_X4_spells := ⟨by decide +kernel, ⟨_, rfl⟩, rfl, by decide +kernel⟩
set_option maxRecDepth 20000 in
theorem okX4_read : EOK E_X4_read := ⟨by decide +kernel, ⟨_, rfl⟩, rfl, by decide +kernel⟩
set_option maxRecDepth 20000 in
theorem okX4_beginWork : EOK E_X4_beginWork := ⟨by decide +kernel, ⟨_, rfl⟩, rfl, by decide +kernel⟩
set_option maxRecDepth 20000 in
theorem okX4_begin : EOK E_X4_begin := ⟨by decide +kernel, ⟨_, rfl⟩, rfl, by decide +kernel⟩
set_option maxRecDepth 20000 in
theorem okX4_takes : EOK E_X4_takes := ⟨by decide +kernel, ⟨_, rfl⟩, rfl, by decide +kernel⟩
set_option maxRecDepth 20000 in
theorem okX4_takesAuthors : EOK E_X4_takesAuthors := ⟨by decide +kernel, ⟨_, rfl⟩, rfl, by decide +kernel⟩
set_option maxRecDepth 20000 in
theorem okX4_takesYear : EOK E_X4_takesYear := ⟨by decide +kernel, ⟨_, rfl⟩, rfl, by decide +kernel⟩
set_option maxRecDepth 20000 in
theorem okX4_takesTitle : EOK E_X4_takesTitle := ⟨by decide +kernel, ⟨_, rfl⟩, rfl, by decide +kernel⟩
set_option maxRecDepth 20000 in
theorem okX4_countLetter : EOK E_X4_countLetter := ⟨by decide +kernel, ⟨_, rfl⟩, rfl, by decide +kernel⟩
set_option maxRecDepth 20000 in
theorem okX4_isLetter : EOK E_X4_isLetter := ⟨by decide +kernel, ⟨_, rfl⟩, rfl, by decide +kernel⟩
set_option maxRecDepth 20000 in
theorem okX5_init : EOK E_X5_init := ⟨by decide +kernel, ⟨_, rfl⟩, rfl, by decide +kernel⟩
set_option maxRecDepth 20000 in
theorem okX5_empty : EOK E_X5_empty := ⟨by decide +kernel, ⟨_, rfl⟩, rfl, by decide +kernel⟩
set_option maxRecDepth 20000 in
theorem okX5_copyFrom : EOK E_X5_copyFrom := ⟨by decide +kernel, ⟨_, rfl⟩, rfl, by decide +kernel⟩
set_option maxRecDepth 20000 in
theorem okX5_nameAt : EOK E_X5_nameAt := ⟨by decide +kernel, ⟨_, rfl⟩, rfl, by decide +kernel⟩
set_option maxRecDepth 20000 in
theorem okX5_compareAuthors : EOK E_X5_compareAuthors := ⟨by decide +kernel, ⟨_, rfl⟩, rfl, by decide +kernel⟩
set_option maxRecDepth 20000 in
theorem okX5_stem : EOK E_X5_stem := ⟨by decide +kernel, ⟨_, rfl⟩, rfl, by decide +kernel⟩
set_option maxRecDepth 20000 in
theorem okX5_firstThreeLetters : EOK E_X5_firstThreeLetters := ⟨by decide +kernel, ⟨_, rfl⟩, rfl, by decide +kernel⟩
set_option maxRecDepth 20000 in
theorem okX5_initials : EOK E_X5_initials := ⟨by decide +kernel, ⟨_, rfl⟩, rfl, by decide +kernel⟩
set_option maxRecDepth 20000 in
theorem okX5_authorAndTitle : EOK E_X5_authorAndTitle := ⟨by decide +kernel, ⟨_, rfl⟩, rfl, by decide +kernel⟩
set_option maxRecDepth 20000 in
theorem okX6_init : EOK E_X6_init := ⟨by decide +kernel, ⟨_, rfl⟩, rfl, by decide +kernel⟩
set_option maxRecDepth 20000 in
theorem okX6_append : EOK E_X6_append := ⟨by decide +kernel, ⟨_, rfl⟩, rfl, by decide +kernel⟩
set_option maxRecDepth 20000 in
theorem okX6_clearText : EOK E_X6_clearText := ⟨by decide +kernel, ⟨_, rfl⟩, rfl, by decide +kernel⟩
set_option maxRecDepth 20000 in
theorem okX6_errorPosition : EOK E_X6_errorPosition := ⟨by decide +kernel, ⟨_, rfl⟩, rfl, by decide +kernel⟩
set_option maxRecDepth 20000 in
theorem okX6_load : EOK E_X6_load := ⟨by decide +kernel, ⟨_, rfl⟩, rfl, by decide +kernel⟩
set_option maxRecDepth 20000 in
theorem okX6_about : EOK E_X6_about := ⟨by decide +kernel, ⟨_, rfl⟩, rfl, by decide +kernel⟩
set_option maxRecDepth 20000 in
theorem okX6_work : EOK E_X6_work := ⟨by decide +kernel, ⟨_, rfl⟩, rfl, by decide +kernel⟩
set_option maxRecDepth 20000 in
theorem okX6_letter : EOK E_X6_letter := ⟨by decide +kernel, ⟨_, rfl⟩, rfl, by decide +kernel⟩
set_option maxRecDepth 20000 in
theorem okX6_key : EOK E_X6_key := ⟨by decide +kernel, ⟨_, rfl⟩, rfl, by decide +kernel⟩
set_option maxRecDepth 20000 in
theorem okX6_at : EOK E_X6_at := ⟨by decide +kernel, ⟨_, rfl⟩, rfl, by decide +kernel⟩
set_option maxRecDepth 20000 in
theorem okX6_meaning : EOK E_X6_meaning := ⟨by decide +kernel, ⟨_, rfl⟩, rfl, by decide +kernel⟩
set_option maxRecDepth 20000 in
theorem okX6_printedMeaning : EOK E_X6_printedMeaning := ⟨by decide +kernel, ⟨_, rfl⟩, rfl, by decide +kernel⟩
set_option maxRecDepth 20000 in
theorem okX6_printed : EOK E_X6_printed := ⟨by decide +kernel, ⟨_, rfl⟩, rfl, by decide +kernel⟩
set_option maxRecDepth 20000 in
theorem okX6_add : EOK E_X6_add := ⟨by decide +kernel, ⟨_, rfl⟩, rfl, by decide +kernel⟩
set_option maxRecDepth 20000 in
theorem okX6_change : EOK E_X6_change := ⟨by decide +kernel, ⟨_, rfl⟩, rfl, by decide +kernel⟩
set_option maxRecDepth 20000 in
theorem okX6_setYear : EOK E_X6_setYear := ⟨by decide +kernel, ⟨_, rfl⟩, rfl, by decide +kernel⟩
set_option maxRecDepth 20000 in
theorem okX6_remove : EOK E_X6_remove := ⟨by decide +kernel, ⟨_, rfl⟩, rfl, by decide +kernel⟩
set_option maxRecDepth 20000 in
theorem okX6_setStyle : EOK E_X6_setStyle := ⟨by decide +kernel, ⟨_, rfl⟩, rfl, by decide +kernel⟩
set_option maxRecDepth 20000 in
theorem okX6_setOrder : EOK E_X6_setOrder := ⟨by decide +kernel, ⟨_, rfl⟩, rfl, by decide +kernel⟩
set_option maxRecDepth 20000 in
theorem okX6_print : EOK E_X6_print := ⟨by decide +kernel, ⟨_, rfl⟩, rfl, by decide +kernel⟩
set_option maxRecDepth 20000 in
theorem okX6_undo : EOK E_X6_undo := ⟨by decide +kernel, ⟨_, rfl⟩, rfl, by decide +kernel⟩
set_option maxRecDepth 20000 in
theorem okX6_ifRemoved : EOK E_X6_ifRemoved := ⟨by decide +kernel, ⟨_, rfl⟩, rfl, by decide +kernel⟩
set_option maxRecDepth 20000 in
theorem okX6_freeYear : EOK E_X6_freeYear := ⟨by decide +kernel, ⟨_, rfl⟩, rfl, by decide +kernel⟩
set_option maxRecDepth 20000 in
theorem okX6_lettersWith : EOK E_X6_lettersWith := ⟨by decide +kernel, ⟨_, rfl⟩, rfl, by decide +kernel⟩
set_option maxRecDepth 20000 in
theorem okX6_bestStyle : EOK E_X6_bestStyle := ⟨by decide +kernel, ⟨_, rfl⟩, rfl, by decide +kernel⟩
set_option maxRecDepth 20000 in
theorem okX6_weightiest : EOK E_X6_weightiest := ⟨by decide +kernel, ⟨_, rfl⟩, rfl, by decide +kernel⟩
set_option maxRecDepth 20000 in
theorem okX6_runScript : EOK E_X6_runScript := ⟨by decide +kernel, ⟨_, rfl⟩, rfl, by decide +kernel⟩
set_option maxRecDepth 20000 in
theorem okX6_simulate : EOK E_X6_simulate := ⟨by decide +kernel, ⟨_, rfl⟩, rfl, by decide +kernel⟩
set_option maxRecDepth 20000 in
theorem okX6_save : EOK E_X6_save := ⟨by decide +kernel, ⟨_, rfl⟩, rfl, by decide +kernel⟩
set_option maxRecDepth 20000 in
theorem okX6_restore : EOK E_X6_restore := ⟨by decide +kernel, ⟨_, rfl⟩, rfl, by decide +kernel⟩
set_option maxRecDepth 20000 in
theorem okX6_needWork : EOK E_X6_needWork := ⟨by decide +kernel, ⟨_, rfl⟩, rfl, by decide +kernel⟩
set_option maxRecDepth 20000 in
theorem okX6_needStyle : EOK E_X6_needStyle := ⟨by decide +kernel, ⟨_, rfl⟩, rfl, by decide +kernel⟩
set_option maxRecDepth 20000 in
theorem okX6_needSlot : EOK E_X6_needSlot := ⟨by decide +kernel, ⟨_, rfl⟩, rfl, by decide +kernel⟩
set_option maxRecDepth 20000 in
theorem okX6_isYear : EOK E_X6_isYear := ⟨by decide +kernel, ⟨_, rfl⟩, rfl, by decide +kernel⟩
set_option maxRecDepth 20000 in
theorem okX6_isStyle : EOK E_X6_isStyle := ⟨by decide +kernel, ⟨_, rfl⟩, rfl, by decide +kernel⟩
set_option maxRecDepth 20000 in
theorem okX6_tellsOneWork : EOK E_X6_tellsOneWork := ⟨by decide +kernel, ⟨_, rfl⟩, rfl, by decide +kernel⟩
set_option maxRecDepth 20000 in
theorem okX6_keysHangingOn : EOK E_X6_keysHangingOn := ⟨by decide +kernel, ⟨_, rfl⟩, rfl, by decide +kernel⟩
set_option maxRecDepth 20000 in
theorem okX6_tryStyle : EOK E_X6_tryStyle := ⟨by decide +kernel, ⟨_, rfl⟩, rfl, by decide +kernel⟩
set_option maxRecDepth 20000 in
theorem okX6_commandAt : EOK E_X6_commandAt := ⟨by decide +kernel, ⟨_, rfl⟩, rfl, by decide +kernel⟩
set_option maxRecDepth 20000 in
theorem okX6_succeeds : EOK E_X6_succeeds := ⟨by decide +kernel, ⟨_, rfl⟩, rfl, by decide +kernel⟩
set_option maxRecDepth 20000 in
theorem okX6_removes : EOK E_X6_removes := ⟨by decide +kernel, ⟨_, rfl⟩, rfl, by decide +kernel⟩
set_option maxRecDepth 20000 in
theorem okX6_setsStyle : EOK E_X6_setsStyle := ⟨by decide +kernel, ⟨_, rfl⟩, rfl, by decide +kernel⟩
set_option maxRecDepth 20000 in
theorem okX6_setsOrder : EOK E_X6_setsOrder := ⟨by decide +kernel, ⟨_, rfl⟩, rfl, by decide +kernel⟩
set_option maxRecDepth 20000 in
theorem okX6_movesYear : EOK E_X6_movesYear := ⟨by decide +kernel, ⟨_, rfl⟩, rfl, by decide +kernel⟩
set_option maxRecDepth 20000 in
theorem okX6_prints : EOK E_X6_prints := ⟨by decide +kernel, ⟨_, rfl⟩, rfl, by decide +kernel⟩
set_option maxRecDepth 20000 in
theorem okX6_playRound : EOK E_X6_playRound := ⟨by decide +kernel, ⟨_, rfl⟩, rfl, by decide +kernel⟩
set_option maxRecDepth 20000 in
theorem okX7_init : EOK E_X7_init := ⟨by decide +kernel, ⟨_, rfl⟩, rfl, by decide +kernel⟩
set_option maxRecDepth 20000 in
theorem okX7_thrown : EOK E_X7_thrown := ⟨by decide +kernel, ⟨_, rfl⟩, rfl, by decide +kernel⟩
set_option maxRecDepth 20000 in
theorem okX7_refused : EOK E_X7_refused := ⟨by decide +kernel, ⟨_, rfl⟩, rfl, by decide +kernel⟩
set_option maxRecDepth 20000 in
theorem okX7_in : EOK E_X7_in := ⟨by decide +kernel, ⟨_, rfl⟩, rfl, by decide +kernel⟩
set_option maxRecDepth 20000 in
theorem okX7_copy : EOK E_X7_copy := ⟨by decide +kernel, ⟨_, rfl⟩, rfl, by decide +kernel⟩
set_option maxRecDepth 20000 in
theorem okX7_tenTo : EOK E_X7_tenTo := ⟨by decide +kernel, ⟨_, rfl⟩, rfl, by decide +kernel⟩
set_option maxRecDepth 20000 in
theorem okX7_clean : EOK E_X7_clean := ⟨by decide +kernel, ⟨_, rfl⟩, rfl, by decide +kernel⟩
set_option maxRecDepth 20000 in
theorem okX7_note : EOK E_X7_note := ⟨by decide +kernel, ⟨_, rfl⟩, rfl, by decide +kernel⟩
set_option maxRecDepth 20000 in
theorem okX7_begin : EOK E_X7_begin := ⟨by decide +kernel, ⟨_, rfl⟩, rfl, by decide +kernel⟩
set_option maxRecDepth 20000 in
theorem okX7_cell : EOK E_X7_cell := ⟨by decide +kernel, ⟨_, rfl⟩, rfl, by decide +kernel⟩
set_option maxRecDepth 20000 in
theorem okX7_author : EOK E_X7_author := ⟨by decide +kernel, ⟨_, rfl⟩, rfl, by decide +kernel⟩
set_option maxRecDepth 20000 in
theorem okX7_compareNames : EOK E_X7_compareNames := ⟨by decide +kernel, ⟨_, rfl⟩, rfl, by decide +kernel⟩
set_option maxRecDepth 20000 in
theorem okX7_compareAuthors : EOK E_X7_compareAuthors := ⟨by decide +kernel, ⟨_, rfl⟩, rfl, by decide +kernel⟩
set_option maxRecDepth 20000 in
theorem okX7_isAhead : EOK E_X7_isAhead := ⟨by decide +kernel, ⟨_, rfl⟩, rfl, by decide +kernel⟩
set_option maxRecDepth 20000 in
theorem okX7_put : EOK E_X7_put := ⟨by decide +kernel, ⟨_, rfl⟩, rfl, by decide +kernel⟩
set_option maxRecDepth 20000 in
theorem okX7_putYear : EOK E_X7_putYear := ⟨by decide +kernel, ⟨_, rfl⟩, rfl, by decide +kernel⟩
set_option maxRecDepth 20000 in
theorem okX7_layStem : EOK E_X7_layStem := ⟨by decide +kernel, ⟨_, rfl⟩, rfl, by decide +kernel⟩
set_option maxRecDepth 20000 in
theorem okX7_areLike : EOK E_X7_areLike := ⟨by decide +kernel, ⟨_, rfl⟩, rfl, by decide +kernel⟩
set_option maxRecDepth 20000 in
theorem okX7_lay : EOK E_X7_lay := ⟨by decide +kernel, ⟨_, rfl⟩, rfl, by decide +kernel⟩
set_option maxRecDepth 20000 in
theorem okX7_layWas : EOK E_X7_layWas := ⟨by decide +kernel, ⟨_, rfl⟩, rfl, by decide +kernel⟩
set_option maxRecDepth 20000 in
theorem okX7_layNow : EOK E_X7_layNow := ⟨by decide +kernel, ⟨_, rfl⟩, rfl, by decide +kernel⟩
set_option maxRecDepth 20000 in
theorem okX7_others : EOK E_X7_others := ⟨by decide +kernel, ⟨_, rfl⟩, rfl, by decide +kernel⟩
set_option maxRecDepth 20000 in
theorem okX7_lettered : EOK E_X7_lettered := ⟨by decide +kernel, ⟨_, rfl⟩, rfl, by decide +kernel⟩
set_option maxRecDepth 20000 in
theorem okX7_longest : EOK E_X7_longest := ⟨by decide +kernel, ⟨_, rfl⟩, rfl, by decide +kernel⟩
set_option maxRecDepth 20000 in
theorem okX7_drop : EOK E_X7_drop := ⟨by decide +kernel, ⟨_, rfl⟩, rfl, by decide +kernel⟩
set_option maxRecDepth 20000 in
theorem okX7_goPrint : EOK E_X7_goPrint := ⟨by decide +kernel, ⟨_, rfl⟩, rfl, by decide +kernel⟩
set_option maxRecDepth 20000 in
theorem okX7_holder : EOK E_X7_holder := ⟨by decide +kernel, ⟨_, rfl⟩, rfl, by decide +kernel⟩
set_option maxRecDepth 20000 in
theorem okX7_printedOf : EOK E_X7_printedOf := ⟨by decide +kernel, ⟨_, rfl⟩, rfl, by decide +kernel⟩
set_option maxRecDepth 20000 in
theorem okX7_append : EOK E_X7_append := ⟨by decide +kernel, ⟨_, rfl⟩, rfl, by decide +kernel⟩
set_option maxRecDepth 20000 in
theorem okX7_clearText : EOK E_X7_clearText := ⟨by decide +kernel, ⟨_, rfl⟩, rfl, by decide +kernel⟩
set_option maxRecDepth 20000 in
theorem okX7_isNext : EOK E_X7_isNext := ⟨by decide +kernel, ⟨_, rfl⟩, rfl, by decide +kernel⟩
set_option maxRecDepth 20000 in
theorem okX7_isLetter : EOK E_X7_isLetter := ⟨by decide +kernel, ⟨_, rfl⟩, rfl, by decide +kernel⟩
set_option maxRecDepth 20000 in
theorem okX7_accept : EOK E_X7_accept := ⟨by decide +kernel, ⟨_, rfl⟩, rfl, by decide +kernel⟩
set_option maxRecDepth 20000 in
theorem okX7_readName : EOK E_X7_readName := ⟨by decide +kernel, ⟨_, rfl⟩, rfl, by decide +kernel⟩
set_option maxRecDepth 20000 in
theorem okX7_readYear : EOK E_X7_readYear := ⟨by decide +kernel, ⟨_, rfl⟩, rfl, by decide +kernel⟩
set_option maxRecDepth 20000 in
theorem okX7_readWork : EOK E_X7_readWork := ⟨by decide +kernel, ⟨_, rfl⟩, rfl, by decide +kernel⟩
set_option maxRecDepth 20000 in
theorem okX7_readText : EOK E_X7_readText := ⟨by decide +kernel, ⟨_, rfl⟩, rfl, by decide +kernel⟩
set_option maxRecDepth 20000 in
theorem okX7_errorPosition : EOK E_X7_errorPosition := ⟨by decide +kernel, ⟨_, rfl⟩, rfl, by decide +kernel⟩
set_option maxRecDepth 20000 in
theorem okX7_load : EOK E_X7_load := ⟨by decide +kernel, ⟨_, rfl⟩, rfl, by decide +kernel⟩
set_option maxRecDepth 20000 in
theorem okX7_isOneWork : EOK E_X7_isOneWork := ⟨by decide +kernel, ⟨_, rfl⟩, rfl, by decide +kernel⟩
set_option maxRecDepth 20000 in
theorem okX7_stems : EOK E_X7_stems := ⟨by decide +kernel, ⟨_, rfl⟩, rfl, by decide +kernel⟩
set_option maxRecDepth 20000 in
theorem okX7_gone : EOK E_X7_gone := ⟨by decide +kernel, ⟨_, rfl⟩, rfl, by decide +kernel⟩
set_option maxRecDepth 20000 in
theorem okX7_about : EOK E_X7_about := ⟨by decide +kernel, ⟨_, rfl⟩, rfl, by decide +kernel⟩
set_option maxRecDepth 20000 in
theorem okX7_isWork : EOK E_X7_isWork := ⟨by decide +kernel, ⟨_, rfl⟩, rfl, by decide +kernel⟩
set_option maxRecDepth 20000 in
theorem okX7_work : EOK E_X7_work := ⟨by decide +kernel, ⟨_, rfl⟩, rfl, by decide +kernel⟩
set_option maxRecDepth 20000 in
theorem okX7_letter : EOK E_X7_letter := ⟨by decide +kernel, ⟨_, rfl⟩, rfl, by decide +kernel⟩
set_option maxRecDepth 20000 in
theorem okX7_key : EOK E_X7_key := ⟨by decide +kernel, ⟨_, rfl⟩, rfl, by decide +kernel⟩
set_option maxRecDepth 20000 in
theorem okX7_at : EOK E_X7_at := ⟨by decide +kernel, ⟨_, rfl⟩, rfl, by decide +kernel⟩
set_option maxRecDepth 20000 in
theorem okX7_isText : EOK E_X7_isText := ⟨by decide +kernel, ⟨_, rfl⟩, rfl, by decide +kernel⟩
set_option maxRecDepth 20000 in
theorem okX7_meaning : EOK E_X7_meaning := ⟨by decide +kernel, ⟨_, rfl⟩, rfl, by decide +kernel⟩
set_option maxRecDepth 20000 in
theorem okX7_printedMeaning : EOK E_X7_printedMeaning := ⟨by decide +kernel, ⟨_, rfl⟩, rfl, by decide +kernel⟩
set_option maxRecDepth 20000 in
theorem okX7_printed : EOK E_X7_printed := ⟨by decide +kernel, ⟨_, rfl⟩, rfl, by decide +kernel⟩
set_option maxRecDepth 20000 in
theorem okX7_add : EOK E_X7_add := ⟨by decide +kernel, ⟨_, rfl⟩, rfl, by decide +kernel⟩
set_option maxRecDepth 20000 in
theorem okX7_change : EOK E_X7_change := ⟨by decide +kernel, ⟨_, rfl⟩, rfl, by decide +kernel⟩
set_option maxRecDepth 20000 in
theorem okX7_isYear : EOK E_X7_isYear := ⟨by decide +kernel, ⟨_, rfl⟩, rfl, by decide +kernel⟩
set_option maxRecDepth 20000 in
theorem okX7_setYear : EOK E_X7_setYear := ⟨by decide +kernel, ⟨_, rfl⟩, rfl, by decide +kernel⟩
set_option maxRecDepth 20000 in
theorem okX7_remove : EOK E_X7_remove := ⟨by decide +kernel, ⟨_, rfl⟩, rfl, by decide +kernel⟩
set_option maxRecDepth 20000 in
theorem okX7_isStyle : EOK E_X7_isStyle := ⟨by decide +kernel, ⟨_, rfl⟩, rfl, by decide +kernel⟩
set_option maxRecDepth 20000 in
theorem okX7_setStyle : EOK E_X7_setStyle := ⟨by decide +kernel, ⟨_, rfl⟩, rfl, by decide +kernel⟩
set_option maxRecDepth 20000 in
theorem okX7_setOrder : EOK E_X7_setOrder := ⟨by decide +kernel, ⟨_, rfl⟩, rfl, by decide +kernel⟩
set_option maxRecDepth 20000 in
theorem okX7_print : EOK E_X7_print := ⟨by decide +kernel, ⟨_, rfl⟩, rfl, by decide +kernel⟩
set_option maxRecDepth 20000 in
theorem okX7_undo : EOK E_X7_undo := ⟨by decide +kernel, ⟨_, rfl⟩, rfl, by decide +kernel⟩
set_option maxRecDepth 20000 in
theorem okX7_without : EOK E_X7_without := ⟨by decide +kernel, ⟨_, rfl⟩, rfl, by decide +kernel⟩
set_option maxRecDepth 20000 in
theorem okX7_ifRemoved : EOK E_X7_ifRemoved := ⟨by decide +kernel, ⟨_, rfl⟩, rfl, by decide +kernel⟩
set_option maxRecDepth 20000 in
theorem okX7_isFree : EOK E_X7_isFree := ⟨by decide +kernel, ⟨_, rfl⟩, rfl, by decide +kernel⟩
set_option maxRecDepth 20000 in
theorem okX7_freeYear : EOK E_X7_freeYear := ⟨by decide +kernel, ⟨_, rfl⟩, rfl, by decide +kernel⟩
set_option maxRecDepth 20000 in
theorem okX7_letteredBy : EOK E_X7_letteredBy := ⟨by decide +kernel, ⟨_, rfl⟩, rfl, by decide +kernel⟩
set_option maxRecDepth 20000 in
theorem okX7_lettersWith : EOK E_X7_lettersWith := ⟨by decide +kernel, ⟨_, rfl⟩, rfl, by decide +kernel⟩
set_option maxRecDepth 20000 in
theorem okX7_bestStyle : EOK E_X7_bestStyle := ⟨by decide +kernel, ⟨_, rfl⟩, rfl, by decide +kernel⟩
set_option maxRecDepth 20000 in
theorem okX7_weightiest : EOK E_X7_weightiest := ⟨by decide +kernel, ⟨_, rfl⟩, rfl, by decide +kernel⟩
set_option maxRecDepth 20000 in
theorem okX7_has : EOK E_X7_has := ⟨by decide +kernel, ⟨_, rfl⟩, rfl, by decide +kernel⟩
set_option maxRecDepth 20000 in
theorem okX7_does : EOK E_X7_does := ⟨by decide +kernel, ⟨_, rfl⟩, rfl, by decide +kernel⟩
set_option maxRecDepth 20000 in
theorem okX7_runScript : EOK E_X7_runScript := ⟨by decide +kernel, ⟨_, rfl⟩, rfl, by decide +kernel⟩
set_option maxRecDepth 20000 in
theorem okX7_round : EOK E_X7_round := ⟨by decide +kernel, ⟨_, rfl⟩, rfl, by decide +kernel⟩
set_option maxRecDepth 20000 in
theorem okX7_simulate : EOK E_X7_simulate := ⟨by decide +kernel, ⟨_, rfl⟩, rfl, by decide +kernel⟩
set_option maxRecDepth 20000 in
theorem okX7_save : EOK E_X7_save := ⟨by decide +kernel, ⟨_, rfl⟩, rfl, by decide +kernel⟩
set_option maxRecDepth 20000 in
theorem okX7_restore : EOK E_X7_restore := ⟨by decide +kernel, ⟨_, rfl⟩, rfl, by decide +kernel⟩
set_option maxRecDepth 20000 in
theorem okL_append : EOKh E_L_append := ⟨by decide +kernel, ⟨_, rfl⟩, by decide +kernel⟩
set_option maxRecDepth 20000 in
theorem okL_load : EOKh E_L_load := ⟨by decide +kernel, ⟨_, rfl⟩, by decide +kernel⟩
set_option maxRecDepth 20000 in
theorem okL_about : EOKh E_L_about := ⟨by decide +kernel, ⟨_, rfl⟩, by decide +kernel⟩
set_option maxRecDepth 20000 in
theorem okL_work : EOKh E_L_work := ⟨by decide +kernel, ⟨_, rfl⟩, by decide +kernel⟩
set_option maxRecDepth 20000 in
theorem okL_letter : EOKh E_L_letter := ⟨by decide +kernel, ⟨_, rfl⟩, by decide +kernel⟩
set_option maxRecDepth 20000 in
theorem okL_key : EOKh E_L_key := ⟨by decide +kernel, ⟨_, rfl⟩, by decide +kernel⟩
set_option maxRecDepth 20000 in
theorem okL_at : EOKh E_L_at := ⟨by decide +kernel, ⟨_, rfl⟩, by decide +kernel⟩
set_option maxRecDepth 20000 in
theorem okL_printed : EOKh E_L_printed := ⟨by decide +kernel, ⟨_, rfl⟩, by decide +kernel⟩
set_option maxRecDepth 20000 in
theorem okL_add : EOKh E_L_add := ⟨by decide +kernel, ⟨_, rfl⟩, by decide +kernel⟩
set_option maxRecDepth 20000 in
theorem okL_change : EOKh E_L_change := ⟨by decide +kernel, ⟨_, rfl⟩, by decide +kernel⟩
set_option maxRecDepth 20000 in
theorem okL_setYear : EOKh E_L_setYear := ⟨by decide +kernel, ⟨_, rfl⟩, by decide +kernel⟩
set_option maxRecDepth 20000 in
theorem okL_remove : EOKh E_L_remove := ⟨by decide +kernel, ⟨_, rfl⟩, by decide +kernel⟩
set_option maxRecDepth 20000 in
theorem okL_setStyle : EOKh E_L_setStyle := ⟨by decide +kernel, ⟨_, rfl⟩, by decide +kernel⟩
set_option maxRecDepth 20000 in
theorem okL_setOrder : EOKh E_L_setOrder := ⟨by decide +kernel, ⟨_, rfl⟩, by decide +kernel⟩
set_option maxRecDepth 20000 in
theorem okL_undo : EOKh E_L_undo := ⟨by decide +kernel, ⟨_, rfl⟩, by decide +kernel⟩
set_option maxRecDepth 20000 in
theorem okL_ifRemoved : EOKh E_L_ifRemoved := ⟨by decide +kernel, ⟨_, rfl⟩, by decide +kernel⟩
set_option maxRecDepth 20000 in
theorem okL_freeYear : EOKh E_L_freeYear := ⟨by decide +kernel, ⟨_, rfl⟩, by decide +kernel⟩
set_option maxRecDepth 20000 in
theorem okL_lettersWith : EOKh E_L_lettersWith := ⟨by decide +kernel, ⟨_, rfl⟩, by decide +kernel⟩
set_option maxRecDepth 20000 in
theorem okL_runScript : EOKh E_L_runScript := ⟨by decide +kernel, ⟨_, rfl⟩, by decide +kernel⟩
set_option maxRecDepth 20000 in
theorem okL_simulate : EOKh E_L_simulate := ⟨by decide +kernel, ⟨_, rfl⟩, by decide +kernel⟩
set_option maxRecDepth 20000 in
theorem okL_save : EOKh E_L_save := ⟨by decide +kernel, ⟨_, rfl⟩, by decide +kernel⟩
set_option maxRecDepth 20000 in
theorem okL_restore : EOKh E_L_restore := ⟨by decide +kernel, ⟨_, rfl⟩, by decide +kernel⟩
set_option maxRecDepth 20000 in
theorem okJ6_compare_7cf53 : EOK E_J6_compare_7cf53 := ⟨by decide +kernel, ⟨_, rfl⟩, rfl, by decide +kernel⟩
set_option maxRecDepth 20000 in
theorem okJ13_compare_74951 : EOK E_J13_compare_74951 := ⟨by decide +kernel, ⟨_, rfl⟩, rfl, by decide +kernel⟩
