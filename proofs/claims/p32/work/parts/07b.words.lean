/-! fields, classes, constants, throws: as each method's words have them -/
theorem oX0_init : Cond.methodLink (mY E_X0_init).cls 3 Lib.objectInit ∈ mW E_X0_init ∧ Cond.instanceMethod Lib.objectInit ∈ mW E_X0_init ∧ Cond.code Lib.objectInit ⟨#[0xb1]⟩ 1 none ∈ mW E_X0_init := ⟨by decide +kernel, by decide +kernel, by decide +kernel⟩
theorem aX0_init_7 : Cond.classLink (mY E_X0_init).cls 9 RX3 ∈ mW E_X0_init := by decide +kernel
set_option maxRecDepth 20000 in
theorem fX0_init_11 : FL E_X0_init 11 0 0 := ⟨by decide, by decide, by decide +kernel, by decide +kernel⟩
set_option maxRecDepth 20000 in
theorem nX0_init_9 : NL E_X0_init 9 1 := ⟨by decide, by decide +kernel, by decide +kernel, by decide +kernel, by decide +kernel⟩
set_option maxRecDepth 20000 in
theorem fX0_forget_18 : FL E_X0_forget 18 0 2 := ⟨by decide, by decide, by decide +kernel, by decide +kernel⟩
set_option maxRecDepth 20000 in
theorem fX0_remember_18 : FL E_X0_remember 18 0 2 := ⟨by decide, by decide, by decide +kernel, by decide +kernel⟩
set_option maxRecDepth 20000 in
theorem fX0_remember_22 : FL E_X0_remember 22 0 1 := ⟨by decide, by decide, by decide +kernel, by decide +kernel⟩
set_option maxRecDepth 20000 in
theorem fX0_remember_11 : FL E_X0_remember 11 0 0 := ⟨by decide, by decide, by decide +kernel, by decide +kernel⟩
set_option maxRecDepth 20000 in
theorem fX0_takeBack_18 : FL E_X0_takeBack 18 0 2 := ⟨by decide, by decide, by decide +kernel, by decide +kernel⟩
set_option maxRecDepth 20000 in
theorem fX0_takeBack_11 : FL E_X0_takeBack 11 0 0 := ⟨by decide, by decide, by decide +kernel, by decide +kernel⟩
set_option maxRecDepth 20000 in
theorem fX0_takeBack_22 : FL E_X0_takeBack 22 0 1 := ⟨by decide, by decide, by decide +kernel, by decide +kernel⟩
set_option maxRecDepth 20000 in
theorem lX1_withTwoDigits_11 : Cond.constantLong (mY E_X1_withTwoDigits).cls 11 (i64 (262144)) ∈ mW E_X1_withTwoDigits := by decide +kernel
set_option maxRecDepth 20000 in
theorem lX1_withFourDigits_13 : Cond.constantLong (mY E_X1_withFourDigits).cls 13 (i64 (131072)) ∈ mW E_X1_withFourDigits := by decide +kernel
theorem oX3_init : Cond.methodLink (mY E_X3_init).cls 3 Lib.objectInit ∈ mW E_X3_init ∧ Cond.instanceMethod Lib.objectInit ∈ mW E_X3_init ∧ Cond.code Lib.objectInit ⟨#[0xb1]⟩ 1 none ∈ mW E_X3_init := ⟨by decide +kernel, by decide +kernel, by decide +kernel⟩
theorem aX3_init_7 : Cond.classLink (mY E_X3_init).cls 9 RX5 ∈ mW E_X3_init := by decide +kernel
set_option maxRecDepth 20000 in
theorem fX3_init_11 : FL E_X3_init 11 1 0 := ⟨by decide, by decide, by decide +kernel, by decide +kernel⟩
set_option maxRecDepth 20000 in
theorem nX3_init_9 : NL E_X3_init 9 3 := ⟨by decide, by decide +kernel, by decide +kernel, by decide +kernel, by decide +kernel⟩
theorem aX3_init_long : Cond.arrayClass .long ∈ mW E_X3_init := by decide +kernel
set_option maxRecDepth 20000 in
theorem fX3_init_18 : FL E_X3_init 18 1 4 := ⟨by decide, by decide, by decide +kernel, by decide +kernel⟩
set_option maxRecDepth 20000 in
theorem fX3_init_22 : FL E_X3_init 22 1 5 := ⟨by decide, by decide, by decide +kernel, by decide +kernel⟩
set_option maxRecDepth 20000 in
theorem fX3_init_25 : FL E_X3_init 25 1 6 := ⟨by decide, by decide, by decide +kernel, by decide +kernel⟩
theorem aX3_init_int : Cond.arrayClass .int ∈ mW E_X3_init := by decide +kernel
set_option maxRecDepth 20000 in
theorem fX3_init_28 : FL E_X3_init 28 1 7 := ⟨by decide, by decide, by decide +kernel, by decide +kernel⟩
set_option maxRecDepth 20000 in
theorem fX3_empty_32 : FL E_X3_empty 32 1 1 := ⟨by decide, by decide, by decide +kernel, by decide +kernel⟩
set_option maxRecDepth 20000 in
theorem fX3_empty_36 : FL E_X3_empty 36 1 2 := ⟨by decide, by decide, by decide +kernel, by decide +kernel⟩
set_option maxRecDepth 20000 in
theorem fX3_empty_39 : FL E_X3_empty 39 1 3 := ⟨by decide, by decide, by decide +kernel, by decide +kernel⟩
set_option maxRecDepth 20000 in
theorem fX3_empty_42 : FL E_X3_empty 42 1 8 := ⟨by decide, by decide, by decide +kernel, by decide +kernel⟩
set_option maxRecDepth 20000 in
theorem fX3_copyFrom_32 : FL E_X3_copyFrom 32 1 1 := ⟨by decide, by decide, by decide +kernel, by decide +kernel⟩
set_option maxRecDepth 20000 in
theorem fX3_copyFrom_36 : FL E_X3_copyFrom 36 1 2 := ⟨by decide, by decide, by decide +kernel, by decide +kernel⟩
set_option maxRecDepth 20000 in
theorem fX3_copyFrom_39 : FL E_X3_copyFrom 39 1 3 := ⟨by decide, by decide, by decide +kernel, by decide +kernel⟩
set_option maxRecDepth 20000 in
theorem fX3_copyFrom_42 : FL E_X3_copyFrom 42 1 8 := ⟨by decide, by decide, by decide +kernel, by decide +kernel⟩
set_option maxRecDepth 20000 in
theorem fX3_copyFrom_11 : FL E_X3_copyFrom 11 1 0 := ⟨by decide, by decide, by decide +kernel, by decide +kernel⟩
set_option maxRecDepth 20000 in
theorem fX3_copyFrom_18 : FL E_X3_copyFrom 18 1 4 := ⟨by decide, by decide, by decide +kernel, by decide +kernel⟩
set_option maxRecDepth 20000 in
theorem fX3_copyFrom_22 : FL E_X3_copyFrom 22 1 5 := ⟨by decide, by decide, by decide +kernel, by decide +kernel⟩
set_option maxRecDepth 20000 in
theorem fX3_copyFrom_25 : FL E_X3_copyFrom 25 1 6 := ⟨by decide, by decide, by decide +kernel, by decide +kernel⟩
set_option maxRecDepth 20000 in
theorem fX3_copyFrom_28 : FL E_X3_copyFrom 28 1 7 := ⟨by decide, by decide, by decide +kernel, by decide +kernel⟩
set_option maxRecDepth 20000 in
theorem fX3_has_32 : FL E_X3_has 32 1 1 := ⟨by decide, by decide, by decide +kernel, by decide +kernel⟩
set_option maxRecDepth 20000 in
theorem fX3_place_32 : FL E_X3_place 32 1 1 := ⟨by decide, by decide, by decide +kernel, by decide +kernel⟩
set_option maxRecDepth 20000 in
theorem fX3_place_11 : FL E_X3_place 11 1 0 := ⟨by decide, by decide, by decide +kernel, by decide +kernel⟩
set_option maxRecDepth 20000 in
theorem fX3_place_22 : FL E_X3_place 22 1 5 := ⟨by decide, by decide, by decide +kernel, by decide +kernel⟩
set_option maxRecDepth 20000 in
theorem fX3_takeOut_11 : FL E_X3_takeOut 11 1 0 := ⟨by decide, by decide, by decide +kernel, by decide +kernel⟩
set_option maxRecDepth 20000 in
theorem fX3_takeOut_32 : FL E_X3_takeOut 32 1 1 := ⟨by decide, by decide, by decide +kernel, by decide +kernel⟩
set_option maxRecDepth 20000 in
theorem fX3_takeOut_22 : FL E_X3_takeOut 22 1 5 := ⟨by decide, by decide, by decide +kernel, by decide +kernel⟩
set_option maxRecDepth 20000 in
theorem fX3_disown_42 : FL E_X3_disown 42 1 8 := ⟨by decide, by decide, by decide +kernel, by decide +kernel⟩
set_option maxRecDepth 20000 in
theorem fX3_disown_28 : FL E_X3_disown 28 1 7 := ⟨by decide, by decide, by decide +kernel, by decide +kernel⟩
set_option maxRecDepth 20000 in
theorem fX3_rekey_32 : FL E_X3_rekey 32 1 1 := ⟨by decide, by decide, by decide +kernel, by decide +kernel⟩
set_option maxRecDepth 20000 in
theorem fX3_rekey_18 : FL E_X3_rekey 18 1 4 := ⟨by decide, by decide, by decide +kernel, by decide +kernel⟩
set_option maxRecDepth 20000 in
theorem fX3_rekey_11 : FL E_X3_rekey 11 1 0 := ⟨by decide, by decide, by decide +kernel, by decide +kernel⟩
set_option maxRecDepth 20000 in
theorem fX3_rekey_36 : FL E_X3_rekey 36 1 2 := ⟨by decide, by decide, by decide +kernel, by decide +kernel⟩
set_option maxRecDepth 20000 in
theorem fX3_rekey_57 : FL E_X3_rekey 57 3 2 := ⟨by decide, by decide, by decide +kernel, by decide +kernel⟩
set_option maxRecDepth 20000 in
theorem fX3_rekey_22 : FL E_X3_rekey 22 1 5 := ⟨by decide, by decide, by decide +kernel, by decide +kernel⟩
set_option maxRecDepth 20000 in
theorem fX3_letterDue_32 : FL E_X3_letterDue 32 1 1 := ⟨by decide, by decide, by decide +kernel, by decide +kernel⟩
set_option maxRecDepth 20000 in
theorem fX3_letterDue_18 : FL E_X3_letterDue 18 1 4 := ⟨by decide, by decide, by decide +kernel, by decide +kernel⟩
set_option maxRecDepth 20000 in
theorem fX3_isBefore_11 : FL E_X3_isBefore 11 1 0 := ⟨by decide, by decide, by decide +kernel, by decide +kernel⟩
set_option maxRecDepth 20000 in
theorem fX3_isBefore_57 : FL E_X3_isBefore 57 3 2 := ⟨by decide, by decide, by decide +kernel, by decide +kernel⟩
set_option maxRecDepth 20000 in
theorem fX3_isBefore_39 : FL E_X3_isBefore 39 1 3 := ⟨by decide, by decide, by decide +kernel, by decide +kernel⟩
set_option maxRecDepth 20000 in
theorem fX3_isBefore_82 : FL E_X3_isBefore 82 3 3 := ⟨by decide, by decide, by decide +kernel, by decide +kernel⟩
set_option maxRecDepth 20000 in
theorem fX3_placeOf_32 : FL E_X3_placeOf 32 1 1 := ⟨by decide, by decide, by decide +kernel, by decide +kernel⟩
set_option maxRecDepth 20000 in
theorem fX3_sharing_32 : FL E_X3_sharing 32 1 1 := ⟨by decide, by decide, by decide +kernel, by decide +kernel⟩
set_option maxRecDepth 20000 in
theorem fX3_sharing_18 : FL E_X3_sharing 18 1 4 := ⟨by decide, by decide, by decide +kernel, by decide +kernel⟩
set_option maxRecDepth 20000 in
theorem fX3_isFree_11 : FL E_X3_isFree 11 1 0 := ⟨by decide, by decide, by decide +kernel, by decide +kernel⟩
set_option maxRecDepth 20000 in
theorem fX3_isFree_36 : FL E_X3_isFree 36 1 2 := ⟨by decide, by decide, by decide +kernel, by decide +kernel⟩
set_option maxRecDepth 20000 in
theorem fX3_isFree_32 : FL E_X3_isFree 32 1 1 := ⟨by decide, by decide, by decide +kernel, by decide +kernel⟩
set_option maxRecDepth 20000 in
theorem fX3_isFree_18 : FL E_X3_isFree 18 1 4 := ⟨by decide, by decide, by decide +kernel, by decide +kernel⟩
set_option maxRecDepth 20000 in
theorem fX3_lettered_32 : FL E_X3_lettered 32 1 1 := ⟨by decide, by decide, by decide +kernel, by decide +kernel⟩
set_option maxRecDepth 20000 in
theorem fX3_lettered_22 : FL E_X3_lettered 22 1 5 := ⟨by decide, by decide, by decide +kernel, by decide +kernel⟩
set_option maxRecDepth 20000 in
theorem fX3_differentStems_32 : FL E_X3_differentStems 32 1 1 := ⟨by decide, by decide, by decide +kernel, by decide +kernel⟩
set_option maxRecDepth 20000 in
theorem fX3_differentStems_22 : FL E_X3_differentStems 22 1 5 := ⟨by decide, by decide, by decide +kernel, by decide +kernel⟩
set_option maxRecDepth 20000 in
theorem fX3_longestKey_32 : FL E_X3_longestKey 32 1 1 := ⟨by decide, by decide, by decide +kernel, by decide +kernel⟩
set_option maxRecDepth 20000 in
theorem fX3_longestKey_22 : FL E_X3_longestKey 22 1 5 := ⟨by decide, by decide, by decide +kernel, by decide +kernel⟩
theorem mX3_longestKey_100 : Cond.methodLink (mY E_X3_longestKey).cls 100 Lib.Math.max.name ∈ mW E_X3_longestKey ∧ Cond.static Lib.Math.max.name ∈ mW E_X3_longestKey ∧ Cond.initialized "java/lang/Math" ∈ mW E_X3_longestKey ∧ Cond.code Lib.Math.max.name Lib.Math.max.code 2 (some .int) ∈ mW E_X3_longestKey := ⟨by decide +kernel, by decide +kernel, by decide +kernel, by decide +kernel⟩
set_option maxRecDepth 20000 in
theorem fX3_printKeys_32 : FL E_X3_printKeys 32 1 1 := ⟨by decide, by decide, by decide +kernel, by decide +kernel⟩
set_option maxRecDepth 20000 in
theorem fX3_printKeys_25 : FL E_X3_printKeys 25 1 6 := ⟨by decide, by decide, by decide +kernel, by decide +kernel⟩
set_option maxRecDepth 20000 in
theorem fX3_printKeys_22 : FL E_X3_printKeys 22 1 5 := ⟨by decide, by decide, by decide +kernel, by decide +kernel⟩
set_option maxRecDepth 20000 in
theorem fX3_printKeys_28 : FL E_X3_printKeys 28 1 7 := ⟨by decide, by decide, by decide +kernel, by decide +kernel⟩
set_option maxRecDepth 20000 in
theorem fX3_printKeys_42 : FL E_X3_printKeys 42 1 8 := ⟨by decide, by decide, by decide +kernel, by decide +kernel⟩
set_option maxRecDepth 20000 in
theorem fX3_holderOf_32 : FL E_X3_holderOf 32 1 1 := ⟨by decide, by decide, by decide +kernel, by decide +kernel⟩
set_option maxRecDepth 20000 in
theorem fX3_holderOf_22 : FL E_X3_holderOf 22 1 5 := ⟨by decide, by decide, by decide +kernel, by decide +kernel⟩
set_option maxRecDepth 20000 in
theorem fX3_printedOfNone_42 : FL E_X3_printedOfNone 42 1 8 := ⟨by decide, by decide, by decide +kernel, by decide +kernel⟩
set_option maxRecDepth 20000 in
theorem fX3_printedOfNone_28 : FL E_X3_printedOfNone 28 1 7 := ⟨by decide, by decide, by decide +kernel, by decide +kernel⟩
set_option maxRecDepth 20000 in
theorem fX3_printedStillRight_42 : FL E_X3_printedStillRight 42 1 8 := ⟨by decide, by decide, by decide +kernel, by decide +kernel⟩
set_option maxRecDepth 20000 in
theorem fX3_printedStillRight_25 : FL E_X3_printedStillRight 25 1 6 := ⟨by decide, by decide, by decide +kernel, by decide +kernel⟩
set_option maxRecDepth 20000 in
theorem fX3_printedStillRight_28 : FL E_X3_printedStillRight 28 1 7 := ⟨by decide, by decide, by decide +kernel, by decide +kernel⟩
set_option maxRecDepth 20000 in
theorem fX3_printedWithoutMeaning_42 : FL E_X3_printedWithoutMeaning 42 1 8 := ⟨by decide, by decide, by decide +kernel, by decide +kernel⟩
set_option maxRecDepth 20000 in
theorem fX3_printedWithoutMeaning_25 : FL E_X3_printedWithoutMeaning 25 1 6 := ⟨by decide, by decide, by decide +kernel, by decide +kernel⟩
set_option maxRecDepth 20000 in
theorem fX3_printedOfAnother_42 : FL E_X3_printedOfAnother 42 1 8 := ⟨by decide, by decide, by decide +kernel, by decide +kernel⟩
theorem oX4_init : Cond.methodLink (mY E_X4_init).cls 3 Lib.objectInit ∈ mW E_X4_init ∧ Cond.instanceMethod Lib.objectInit ∈ mW E_X4_init ∧ Cond.code Lib.objectInit ⟨#[0xb1]⟩ 1 none ∈ mW E_X4_init := ⟨by decide +kernel, by decide +kernel, by decide +kernel⟩
theorem aX4_init_char : Cond.arrayClass .char ∈ mW E_X4_init := by decide +kernel
set_option maxRecDepth 20000 in
theorem fX4_init_9 : FL E_X4_init 9 2 0 := ⟨by decide, by decide, by decide +kernel, by decide +kernel⟩
theorem aX4_init_15 : Cond.classLink (mY E_X4_init).cls 15 RX5 ∈ mW E_X4_init := by decide +kernel
set_option maxRecDepth 20000 in
theorem fX4_init_17 : FL E_X4_init 17 2 2 := ⟨by decide, by decide, by decide +kernel, by decide +kernel⟩
set_option maxRecDepth 20000 in
theorem nX4_init_15 : NL E_X4_init 15 3 := ⟨by decide, by decide +kernel, by decide +kernel, by decide +kernel, by decide +kernel⟩
set_option maxRecDepth 20000 in
theorem fX4_put_22 : FL E_X4_put 22 2 1 := ⟨by decide, by decide, by decide +kernel, by decide +kernel⟩
set_option maxRecDepth 20000 in
theorem fX4_put_9 : FL E_X4_put 9 2 0 := ⟨by decide, by decide, by decide +kernel, by decide +kernel⟩
set_option maxRecDepth 20000 in
theorem fX4_spells_22 : FL E_X4_spells 22 2 1 := ⟨by decide, by decide, by decide +kernel, by decide +kernel⟩
set_option maxRecDepth 20000 in
theorem fX4_spells_9 : FL E_X4_spells 9 2 0 := ⟨by decide, by decide, by decide +kernel, by decide +kernel⟩
set_option maxRecDepth 20000 in
theorem fX4_read_35 : FL E_X4_read 35 2 3 := ⟨by decide, by decide, by decide +kernel, by decide +kernel⟩
set_option maxRecDepth 20000 in
theorem fX4_read_22 : FL E_X4_read 22 2 1 := ⟨by decide, by decide, by decide +kernel, by decide +kernel⟩
set_option maxRecDepth 20000 in
theorem fX4_read_9 : FL E_X4_read 9 2 0 := ⟨by decide, by decide, by decide +kernel, by decide +kernel⟩
set_option maxRecDepth 20000 in
theorem fX4_read_46 : FL E_X4_read 46 2 4 := ⟨by decide, by decide, by decide +kernel, by decide +kernel⟩
set_option maxRecDepth 20000 in
theorem fX4_read_49 : FL E_X4_read 49 2 5 := ⟨by decide, by decide, by decide +kernel, by decide +kernel⟩
set_option maxRecDepth 20000 in
theorem fX4_beginWork_35 : FL E_X4_beginWork 35 2 3 := ⟨by decide, by decide, by decide +kernel, by decide +kernel⟩
set_option maxRecDepth 20000 in
theorem fX4_beginWork_17 : FL E_X4_beginWork 17 2 2 := ⟨by decide, by decide, by decide +kernel, by decide +kernel⟩
set_option maxRecDepth 20000 in
theorem fX4_beginWork_55 : FL E_X4_beginWork 55 3 1 := ⟨by decide, by decide, by decide +kernel, by decide +kernel⟩
set_option maxRecDepth 20000 in
theorem fX4_begin_46 : FL E_X4_begin 46 2 4 := ⟨by decide, by decide, by decide +kernel, by decide +kernel⟩
set_option maxRecDepth 20000 in
theorem fX4_begin_49 : FL E_X4_begin 49 2 5 := ⟨by decide, by decide, by decide +kernel, by decide +kernel⟩
set_option maxRecDepth 20000 in
theorem fX4_takes_35 : FL E_X4_takes 35 2 3 := ⟨by decide, by decide, by decide +kernel, by decide +kernel⟩
set_option maxRecDepth 20000 in
theorem fX4_takes_17 : FL E_X4_takes 17 2 2 := ⟨by decide, by decide, by decide +kernel, by decide +kernel⟩
set_option maxRecDepth 20000 in
theorem fX4_takes_46 : FL E_X4_takes 46 2 4 := ⟨by decide, by decide, by decide +kernel, by decide +kernel⟩
set_option maxRecDepth 20000 in
theorem fX4_takesAuthors_55 : FL E_X4_takesAuthors 55 3 1 := ⟨by decide, by decide, by decide +kernel, by decide +kernel⟩
set_option maxRecDepth 20000 in
theorem fX4_takesAuthors_75 : FL E_X4_takesAuthors 75 3 0 := ⟨by decide, by decide, by decide +kernel, by decide +kernel⟩
set_option maxRecDepth 20000 in
theorem fX4_takesAuthors_49 : FL E_X4_takesAuthors 49 2 5 := ⟨by decide, by decide, by decide +kernel, by decide +kernel⟩
set_option maxRecDepth 20000 in
theorem fX4_takesYear_49 : FL E_X4_takesYear 49 2 5 := ⟨by decide, by decide, by decide +kernel, by decide +kernel⟩
set_option maxRecDepth 20000 in
theorem fX4_takesYear_88 : FL E_X4_takesYear 88 3 2 := ⟨by decide, by decide, by decide +kernel, by decide +kernel⟩
set_option maxRecDepth 20000 in
theorem fX4_takesTitle_91 : FL E_X4_takesTitle 91 3 3 := ⟨by decide, by decide, by decide +kernel, by decide +kernel⟩
set_option maxRecDepth 20000 in
theorem fX4_takesTitle_49 : FL E_X4_takesTitle 49 2 5 := ⟨by decide, by decide, by decide +kernel, by decide +kernel⟩
set_option maxRecDepth 20000 in
theorem fX4_countLetter_49 : FL E_X4_countLetter 49 2 5 := ⟨by decide, by decide, by decide +kernel, by decide +kernel⟩
theorem oX5_init : Cond.methodLink (mY E_X5_init).cls 3 Lib.objectInit ∈ mW E_X5_init ∧ Cond.instanceMethod Lib.objectInit ∈ mW E_X5_init ∧ Cond.code Lib.objectInit ⟨#[0xb1]⟩ 1 none ∈ mW E_X5_init := ⟨by decide +kernel, by decide +kernel, by decide +kernel⟩
theorem aX5_init_long : Cond.arrayClass .long ∈ mW E_X5_init := by decide +kernel
set_option maxRecDepth 20000 in
theorem fX5_init_9 : FL E_X5_init 9 3 0 := ⟨by decide, by decide, by decide +kernel, by decide +kernel⟩
set_option maxRecDepth 20000 in
theorem fX5_empty_9 : FL E_X5_empty 9 3 0 := ⟨by decide, by decide, by decide +kernel, by decide +kernel⟩
set_option maxRecDepth 20000 in
theorem fX5_empty_15 : FL E_X5_empty 15 3 1 := ⟨by decide, by decide, by decide +kernel, by decide +kernel⟩
set_option maxRecDepth 20000 in
theorem fX5_empty_19 : FL E_X5_empty 19 3 2 := ⟨by decide, by decide, by decide +kernel, by decide +kernel⟩
set_option maxRecDepth 20000 in
theorem fX5_empty_22 : FL E_X5_empty 22 3 3 := ⟨by decide, by decide, by decide +kernel, by decide +kernel⟩
set_option maxRecDepth 20000 in
theorem fX5_copyFrom_9 : FL E_X5_copyFrom 9 3 0 := ⟨by decide, by decide, by decide +kernel, by decide +kernel⟩
set_option maxRecDepth 20000 in
theorem fX5_copyFrom_15 : FL E_X5_copyFrom 15 3 1 := ⟨by decide, by decide, by decide +kernel, by decide +kernel⟩
set_option maxRecDepth 20000 in
theorem fX5_copyFrom_19 : FL E_X5_copyFrom 19 3 2 := ⟨by decide, by decide, by decide +kernel, by decide +kernel⟩
set_option maxRecDepth 20000 in
theorem fX5_copyFrom_22 : FL E_X5_copyFrom 22 3 3 := ⟨by decide, by decide, by decide +kernel, by decide +kernel⟩
set_option maxRecDepth 20000 in
theorem fX5_nameAt_15 : FL E_X5_nameAt 15 3 1 := ⟨by decide, by decide, by decide +kernel, by decide +kernel⟩
set_option maxRecDepth 20000 in
theorem fX5_nameAt_9 : FL E_X5_nameAt 9 3 0 := ⟨by decide, by decide, by decide +kernel, by decide +kernel⟩
set_option maxRecDepth 20000 in
theorem fX5_nameAt_22 : FL E_X5_nameAt 22 3 3 := ⟨by decide, by decide, by decide +kernel, by decide +kernel⟩
set_option maxRecDepth 20000 in
theorem fX5_compareAuthors_9 : FL E_X5_compareAuthors 9 3 0 := ⟨by decide, by decide, by decide +kernel, by decide +kernel⟩
set_option maxRecDepth 20000 in
theorem fX5_stem_9 : FL E_X5_stem 9 3 0 := ⟨by decide, by decide, by decide +kernel, by decide +kernel⟩
set_option maxRecDepth 20000 in
theorem fX5_stem_15 : FL E_X5_stem 15 3 1 := ⟨by decide, by decide, by decide +kernel, by decide +kernel⟩
set_option maxRecDepth 20000 in
theorem fX5_firstThreeLetters_9 : FL E_X5_firstThreeLetters 9 3 0 := ⟨by decide, by decide, by decide +kernel, by decide +kernel⟩
set_option maxRecDepth 20000 in
theorem fX5_initials_9 : FL E_X5_initials 9 3 0 := ⟨by decide, by decide, by decide +kernel, by decide +kernel⟩
set_option maxRecDepth 20000 in
theorem fX5_authorAndTitle_9 : FL E_X5_authorAndTitle 9 3 0 := ⟨by decide, by decide, by decide +kernel, by decide +kernel⟩
set_option maxRecDepth 20000 in
theorem fX5_authorAndTitle_22 : FL E_X5_authorAndTitle 22 3 3 := ⟨by decide, by decide, by decide +kernel, by decide +kernel⟩
theorem oX6_init : Cond.methodLink (mY E_X6_init).cls 1 Lib.objectInit ∈ mW E_X6_init ∧ Cond.instanceMethod Lib.objectInit ∈ mW E_X6_init ∧ Cond.code Lib.objectInit ⟨#[0xb1]⟩ 1 none ∈ mW E_X6_init := ⟨by decide +kernel, by decide +kernel, by decide +kernel⟩
set_option maxRecDepth 20000 in
theorem nX6_init_7 : NL E_X6_init 7 2 := ⟨by decide, by decide +kernel, by decide +kernel, by decide +kernel, by decide +kernel⟩
set_option maxRecDepth 20000 in
theorem fX6_init_10 : FL E_X6_init 10 4 0 := ⟨by decide, by decide, by decide +kernel, by decide +kernel⟩
set_option maxRecDepth 20000 in
theorem nX6_init_16 : NL E_X6_init 16 1 := ⟨by decide, by decide +kernel, by decide +kernel, by decide +kernel, by decide +kernel⟩
set_option maxRecDepth 20000 in
theorem fX6_init_19 : FL E_X6_init 19 4 1 := ⟨by decide, by decide, by decide +kernel, by decide +kernel⟩
set_option maxRecDepth 20000 in
theorem fX6_init_23 : FL E_X6_init 23 4 2 := ⟨by decide, by decide, by decide +kernel, by decide +kernel⟩
set_option maxRecDepth 20000 in
theorem nX6_init_26 : NL E_X6_init 26 3 := ⟨by decide, by decide +kernel, by decide +kernel, by decide +kernel, by decide +kernel⟩
set_option maxRecDepth 20000 in
theorem fX6_init_29 : FL E_X6_init 29 4 3 := ⟨by decide, by decide, by decide +kernel, by decide +kernel⟩
set_option maxRecDepth 20000 in
theorem nX6_init_33 : NL E_X6_init 33 0 := ⟨by decide, by decide +kernel, by decide +kernel, by decide +kernel, by decide +kernel⟩
set_option maxRecDepth 20000 in
theorem fX6_init_36 : FL E_X6_init 36 4 4 := ⟨by decide, by decide, by decide +kernel, by decide +kernel⟩
theorem aX6_init_61 : Cond.classLink (mY E_X6_init).cls 16 RX3 ∈ mW E_X6_init := by decide +kernel
set_option maxRecDepth 20000 in
theorem fX6_init_40 : FL E_X6_init 40 4 5 := ⟨by decide, by decide, by decide +kernel, by decide +kernel⟩
theorem aX6_init_boolean : Cond.arrayClass .boolean ∈ mW E_X6_init := by decide +kernel
set_option maxRecDepth 20000 in
theorem fX6_init_44 : FL E_X6_init 44 4 6 := ⟨by decide, by decide, by decide +kernel, by decide +kernel⟩
set_option maxRecDepth 20000 in
theorem fX6_append_10 : FL E_X6_append 10 4 0 := ⟨by decide, by decide, by decide +kernel, by decide +kernel⟩
set_option maxRecDepth 20000 in
theorem fX6_append_55 : FL E_X6_append 55 2 1 := ⟨by decide, by decide, by decide +kernel, by decide +kernel⟩
set_option maxRecDepth 20000 in
theorem fX6_clearText_10 : FL E_X6_clearText 10 4 0 := ⟨by decide, by decide, by decide +kernel, by decide +kernel⟩
set_option maxRecDepth 20000 in
theorem fX6_clearText_55 : FL E_X6_clearText 55 2 1 := ⟨by decide, by decide, by decide +kernel, by decide +kernel⟩
set_option maxRecDepth 20000 in
theorem fX6_errorPosition_10 : FL E_X6_errorPosition 10 4 0 := ⟨by decide, by decide, by decide +kernel, by decide +kernel⟩
set_option maxRecDepth 20000 in
theorem fX6_load_10 : FL E_X6_load 10 4 0 := ⟨by decide, by decide, by decide +kernel, by decide +kernel⟩
set_option maxRecDepth 20000 in
theorem fX6_load_19 : FL E_X6_load 19 4 1 := ⟨by decide, by decide, by decide +kernel, by decide +kernel⟩
set_option maxRecDepth 20000 in
theorem fX6_load_77 : FL E_X6_load 77 2 3 := ⟨by decide, by decide, by decide +kernel, by decide +kernel⟩
set_option maxRecDepth 20000 in
theorem fX6_load_80 : FL E_X6_load 80 2 2 := ⟨by decide, by decide, by decide +kernel, by decide +kernel⟩
set_option maxRecDepth 20000 in
theorem fX6_load_36 : FL E_X6_load 36 4 4 := ⟨by decide, by decide, by decide +kernel, by decide +kernel⟩
set_option maxRecDepth 20000 in
theorem fX6_load_44 : FL E_X6_load 44 4 6 := ⟨by decide, by decide, by decide +kernel, by decide +kernel⟩
set_option maxRecDepth 20000 in
theorem fX6_load_94 : FL E_X6_load 94 1 1 := ⟨by decide, by decide, by decide +kernel, by decide +kernel⟩
set_option maxRecDepth 20000 in
theorem fX6_about_19 : FL E_X6_about 19 4 1 := ⟨by decide, by decide, by decide +kernel, by decide +kernel⟩
set_option maxRecDepth 20000 in
theorem fX6_about_94 : FL E_X6_about 94 1 1 := ⟨by decide, by decide, by decide +kernel, by decide +kernel⟩
set_option maxRecDepth 20000 in
theorem fX6_about_97 : FL E_X6_about 97 1 2 := ⟨by decide, by decide, by decide +kernel, by decide +kernel⟩
set_option maxRecDepth 20000 in
theorem fX6_about_100 : FL E_X6_about 100 1 3 := ⟨by decide, by decide, by decide +kernel, by decide +kernel⟩
set_option maxRecDepth 20000 in
theorem fX6_about_112 : FL E_X6_about 112 1 8 := ⟨by decide, by decide, by decide +kernel, by decide +kernel⟩
set_option maxRecDepth 20000 in
theorem fX6_work_19 : FL E_X6_work 19 4 1 := ⟨by decide, by decide, by decide +kernel, by decide +kernel⟩
set_option maxRecDepth 20000 in
theorem fX6_work_124 : FL E_X6_work 124 1 0 := ⟨by decide, by decide, by decide +kernel, by decide +kernel⟩
set_option maxRecDepth 20000 in
theorem fX6_work_125 : FL E_X6_work 125 3 2 := ⟨by decide, by decide, by decide +kernel, by decide +kernel⟩
set_option maxRecDepth 20000 in
theorem fX6_work_128 : FL E_X6_work 128 3 1 := ⟨by decide, by decide, by decide +kernel, by decide +kernel⟩
set_option maxRecDepth 20000 in
theorem fX6_work_131 : FL E_X6_work 131 3 3 := ⟨by decide, by decide, by decide +kernel, by decide +kernel⟩
set_option maxRecDepth 20000 in
theorem fX6_work_140 : FL E_X6_work 140 1 5 := ⟨by decide, by decide, by decide +kernel, by decide +kernel⟩
set_option maxRecDepth 20000 in
theorem fX6_letter_19 : FL E_X6_letter 19 4 1 := ⟨by decide, by decide, by decide +kernel, by decide +kernel⟩
set_option maxRecDepth 20000 in
theorem fX6_letter_124 : FL E_X6_letter 124 1 0 := ⟨by decide, by decide, by decide +kernel, by decide +kernel⟩
set_option maxRecDepth 20000 in
theorem fX6_letter_128 : FL E_X6_letter 128 3 1 := ⟨by decide, by decide, by decide +kernel, by decide +kernel⟩
set_option maxRecDepth 20000 in
theorem fX6_key_19 : FL E_X6_key 19 4 1 := ⟨by decide, by decide, by decide +kernel, by decide +kernel⟩
set_option maxRecDepth 20000 in
theorem fX6_key_140 : FL E_X6_key 140 1 5 := ⟨by decide, by decide, by decide +kernel, by decide +kernel⟩
set_option maxRecDepth 20000 in
theorem fX6_at_19 : FL E_X6_at 19 4 1 := ⟨by decide, by decide, by decide +kernel, by decide +kernel⟩
set_option maxRecDepth 20000 in
theorem fX6_at_94 : FL E_X6_at 94 1 1 := ⟨by decide, by decide, by decide +kernel, by decide +kernel⟩
set_option maxRecDepth 20000 in
theorem fX6_meaning_19 : FL E_X6_meaning 19 4 1 := ⟨by decide, by decide, by decide +kernel, by decide +kernel⟩
set_option maxRecDepth 20000 in
theorem fX6_meaning_94 : FL E_X6_meaning 94 1 1 := ⟨by decide, by decide, by decide +kernel, by decide +kernel⟩
set_option maxRecDepth 20000 in
theorem fX6_meaning_10 : FL E_X6_meaning 10 4 0 := ⟨by decide, by decide, by decide +kernel, by decide +kernel⟩
set_option maxRecDepth 20000 in
theorem fX6_meaning_140 : FL E_X6_meaning 140 1 5 := ⟨by decide, by decide, by decide +kernel, by decide +kernel⟩
set_option maxRecDepth 20000 in
theorem fX6_printedMeaning_19 : FL E_X6_printedMeaning 19 4 1 := ⟨by decide, by decide, by decide +kernel, by decide +kernel⟩
set_option maxRecDepth 20000 in
theorem fX6_printedMeaning_112 : FL E_X6_printedMeaning 112 1 8 := ⟨by decide, by decide, by decide +kernel, by decide +kernel⟩
set_option maxRecDepth 20000 in
theorem fX6_printedMeaning_10 : FL E_X6_printedMeaning 10 4 0 := ⟨by decide, by decide, by decide +kernel, by decide +kernel⟩
set_option maxRecDepth 20000 in
theorem fX6_printedMeaning_180 : FL E_X6_printedMeaning 180 1 6 := ⟨by decide, by decide, by decide +kernel, by decide +kernel⟩
set_option maxRecDepth 20000 in
theorem fX6_printedMeaning_183 : FL E_X6_printedMeaning 183 1 7 := ⟨by decide, by decide, by decide +kernel, by decide +kernel⟩
set_option maxRecDepth 20000 in
theorem fX6_printed_19 : FL E_X6_printed 19 4 1 := ⟨by decide, by decide, by decide +kernel, by decide +kernel⟩
set_option maxRecDepth 20000 in
theorem fX6_add_19 : FL E_X6_add 19 4 1 := ⟨by decide, by decide, by decide +kernel, by decide +kernel⟩
set_option maxRecDepth 20000 in
theorem fX6_add_94 : FL E_X6_add 94 1 1 := ⟨by decide, by decide, by decide +kernel, by decide +kernel⟩
set_option maxRecDepth 20000 in
theorem fX6_add_36 : FL E_X6_add 36 4 4 := ⟨by decide, by decide, by decide +kernel, by decide +kernel⟩
set_option maxRecDepth 20000 in
theorem fX6_add_10 : FL E_X6_add 10 4 0 := ⟨by decide, by decide, by decide +kernel, by decide +kernel⟩
set_option maxRecDepth 20000 in
theorem fX6_add_80 : FL E_X6_add 80 2 2 := ⟨by decide, by decide, by decide +kernel, by decide +kernel⟩
set_option maxRecDepth 20000 in
theorem fX6_change_36 : FL E_X6_change 36 4 4 := ⟨by decide, by decide, by decide +kernel, by decide +kernel⟩
set_option maxRecDepth 20000 in
theorem fX6_change_19 : FL E_X6_change 19 4 1 := ⟨by decide, by decide, by decide +kernel, by decide +kernel⟩
set_option maxRecDepth 20000 in
theorem fX6_change_124 : FL E_X6_change 124 1 0 := ⟨by decide, by decide, by decide +kernel, by decide +kernel⟩
set_option maxRecDepth 20000 in
theorem fX6_change_10 : FL E_X6_change 10 4 0 := ⟨by decide, by decide, by decide +kernel, by decide +kernel⟩
set_option maxRecDepth 20000 in
theorem fX6_change_80 : FL E_X6_change 80 2 2 := ⟨by decide, by decide, by decide +kernel, by decide +kernel⟩
set_option maxRecDepth 20000 in
theorem fX6_setYear_36 : FL E_X6_setYear 36 4 4 := ⟨by decide, by decide, by decide +kernel, by decide +kernel⟩
set_option maxRecDepth 20000 in
theorem fX6_setYear_19 : FL E_X6_setYear 19 4 1 := ⟨by decide, by decide, by decide +kernel, by decide +kernel⟩
set_option maxRecDepth 20000 in
theorem fX6_setYear_124 : FL E_X6_setYear 124 1 0 := ⟨by decide, by decide, by decide +kernel, by decide +kernel⟩
set_option maxRecDepth 20000 in
theorem fX6_setYear_125 : FL E_X6_setYear 125 3 2 := ⟨by decide, by decide, by decide +kernel, by decide +kernel⟩
set_option maxRecDepth 20000 in
theorem fX6_remove_36 : FL E_X6_remove 36 4 4 := ⟨by decide, by decide, by decide +kernel, by decide +kernel⟩
set_option maxRecDepth 20000 in
theorem fX6_remove_19 : FL E_X6_remove 19 4 1 := ⟨by decide, by decide, by decide +kernel, by decide +kernel⟩
set_option maxRecDepth 20000 in
theorem fX6_setStyle_36 : FL E_X6_setStyle 36 4 4 := ⟨by decide, by decide, by decide +kernel, by decide +kernel⟩
set_option maxRecDepth 20000 in
theorem fX6_setStyle_19 : FL E_X6_setStyle 19 4 1 := ⟨by decide, by decide, by decide +kernel, by decide +kernel⟩
set_option maxRecDepth 20000 in
theorem fX6_setStyle_97 : FL E_X6_setStyle 97 1 2 := ⟨by decide, by decide, by decide +kernel, by decide +kernel⟩
set_option maxRecDepth 20000 in
theorem fX6_setOrder_36 : FL E_X6_setOrder 36 4 4 := ⟨by decide, by decide, by decide +kernel, by decide +kernel⟩
set_option maxRecDepth 20000 in
theorem fX6_setOrder_19 : FL E_X6_setOrder 19 4 1 := ⟨by decide, by decide, by decide +kernel, by decide +kernel⟩
set_option maxRecDepth 20000 in
theorem fX6_setOrder_100 : FL E_X6_setOrder 100 1 3 := ⟨by decide, by decide, by decide +kernel, by decide +kernel⟩
set_option maxRecDepth 20000 in
theorem fX6_print_36 : FL E_X6_print 36 4 4 := ⟨by decide, by decide, by decide +kernel, by decide +kernel⟩
set_option maxRecDepth 20000 in
theorem fX6_print_19 : FL E_X6_print 19 4 1 := ⟨by decide, by decide, by decide +kernel, by decide +kernel⟩
set_option maxRecDepth 20000 in
theorem fX6_print_112 : FL E_X6_print 112 1 8 := ⟨by decide, by decide, by decide +kernel, by decide +kernel⟩
set_option maxRecDepth 20000 in
theorem fX6_undo_36 : FL E_X6_undo 36 4 4 := ⟨by decide, by decide, by decide +kernel, by decide +kernel⟩
set_option maxRecDepth 20000 in
theorem fX6_undo_230 : FL E_X6_undo 230 0 2 := ⟨by decide, by decide, by decide +kernel, by decide +kernel⟩
set_option maxRecDepth 20000 in
theorem fX6_undo_19 : FL E_X6_undo 19 4 1 := ⟨by decide, by decide, by decide +kernel, by decide +kernel⟩
set_option maxRecDepth 20000 in
theorem fX6_freeYear_19 : FL E_X6_freeYear 19 4 1 := ⟨by decide, by decide, by decide +kernel, by decide +kernel⟩
set_option maxRecDepth 20000 in
theorem fX6_freeYear_124 : FL E_X6_freeYear 124 1 0 := ⟨by decide, by decide, by decide +kernel, by decide +kernel⟩
set_option maxRecDepth 20000 in
theorem fX6_freeYear_125 : FL E_X6_freeYear 125 3 2 := ⟨by decide, by decide, by decide +kernel, by decide +kernel⟩
set_option maxRecDepth 20000 in
theorem fX6_lettersWith_23 : FL E_X6_lettersWith 23 4 2 := ⟨by decide, by decide, by decide +kernel, by decide +kernel⟩
set_option maxRecDepth 20000 in
theorem fX6_bestStyle_23 : FL E_X6_bestStyle 23 4 2 := ⟨by decide, by decide, by decide +kernel, by decide +kernel⟩
set_option maxRecDepth 20000 in
theorem fX6_weightiest_19 : FL E_X6_weightiest 19 4 1 := ⟨by decide, by decide, by decide +kernel, by decide +kernel⟩
set_option maxRecDepth 20000 in
theorem fX6_weightiest_94 : FL E_X6_weightiest 94 1 1 := ⟨by decide, by decide, by decide +kernel, by decide +kernel⟩
set_option maxRecDepth 20000 in
theorem lX6_runScript_250 : Cond.constantLong (mY E_X6_runScript).cls 250 (i64 (10000)) ∈ mW E_X6_runScript := by decide +kernel
set_option maxRecDepth 20000 in
theorem fX6_runScript_23 : FL E_X6_runScript 23 4 2 := ⟨by decide, by decide, by decide +kernel, by decide +kernel⟩
set_option maxRecDepth 20000 in
theorem fX6_runScript_19 : FL E_X6_runScript 19 4 1 := ⟨by decide, by decide, by decide +kernel, by decide +kernel⟩
set_option maxRecDepth 20000 in
theorem fX6_simulate_23 : FL E_X6_simulate 23 4 2 := ⟨by decide, by decide, by decide +kernel, by decide +kernel⟩
set_option maxRecDepth 20000 in
theorem fX6_simulate_19 : FL E_X6_simulate 19 4 1 := ⟨by decide, by decide, by decide +kernel, by decide +kernel⟩
set_option maxRecDepth 20000 in
theorem lX6_simulate_265 : Cond.constantLong (mY E_X6_simulate).cls 265 (i64 (6364136223846793005)) ∈ mW E_X6_simulate := by decide +kernel
set_option maxRecDepth 20000 in
theorem lX6_simulate_267 : Cond.constantLong (mY E_X6_simulate).cls 267 (i64 (1442695040888963407)) ∈ mW E_X6_simulate := by decide +kernel
set_option maxRecDepth 20000 in
theorem fX6_simulate_94 : FL E_X6_simulate 94 1 1 := ⟨by decide, by decide, by decide +kernel, by decide +kernel⟩
set_option maxRecDepth 20000 in
theorem fX6_save_40 : FL E_X6_save 40 4 5 := ⟨by decide, by decide, by decide +kernel, by decide +kernel⟩
set_option maxRecDepth 20000 in
theorem fX6_save_19 : FL E_X6_save 19 4 1 := ⟨by decide, by decide, by decide +kernel, by decide +kernel⟩
set_option maxRecDepth 20000 in
theorem fX6_save_44 : FL E_X6_save 44 4 6 := ⟨by decide, by decide, by decide +kernel, by decide +kernel⟩
set_option maxRecDepth 20000 in
theorem fX6_save_94 : FL E_X6_save 94 1 1 := ⟨by decide, by decide, by decide +kernel, by decide +kernel⟩
set_option maxRecDepth 20000 in
theorem fX6_restore_44 : FL E_X6_restore 44 4 6 := ⟨by decide, by decide, by decide +kernel, by decide +kernel⟩
set_option maxRecDepth 20000 in
theorem fX6_restore_19 : FL E_X6_restore 19 4 1 := ⟨by decide, by decide, by decide +kernel, by decide +kernel⟩
set_option maxRecDepth 20000 in
theorem fX6_restore_40 : FL E_X6_restore 40 4 5 := ⟨by decide, by decide, by decide +kernel, by decide +kernel⟩
set_option maxRecDepth 20000 in
theorem fX6_restore_36 : FL E_X6_restore 36 4 4 := ⟨by decide, by decide, by decide +kernel, by decide +kernel⟩
set_option maxRecDepth 20000 in
theorem fX6_restore_94 : FL E_X6_restore 94 1 1 := ⟨by decide, by decide, by decide +kernel, by decide +kernel⟩
set_option maxRecDepth 20000 in
theorem fX6_needWork_19 : FL E_X6_needWork 19 4 1 := ⟨by decide, by decide, by decide +kernel, by decide +kernel⟩
set_option maxRecDepth 20000 in
theorem fX6_tellsOneWork_10 : FL E_X6_tellsOneWork 10 4 0 := ⟨by decide, by decide, by decide +kernel, by decide +kernel⟩
set_option maxRecDepth 20000 in
theorem fX6_tellsOneWork_77 : FL E_X6_tellsOneWork 77 2 3 := ⟨by decide, by decide, by decide +kernel, by decide +kernel⟩
set_option maxRecDepth 20000 in
theorem fX6_keysHangingOn_23 : FL E_X6_keysHangingOn 23 4 2 := ⟨by decide, by decide, by decide +kernel, by decide +kernel⟩
set_option maxRecDepth 20000 in
theorem fX6_keysHangingOn_19 : FL E_X6_keysHangingOn 19 4 1 := ⟨by decide, by decide, by decide +kernel, by decide +kernel⟩
set_option maxRecDepth 20000 in
theorem fX6_tryStyle_23 : FL E_X6_tryStyle 23 4 2 := ⟨by decide, by decide, by decide +kernel, by decide +kernel⟩
set_option maxRecDepth 20000 in
theorem fX6_tryStyle_19 : FL E_X6_tryStyle 19 4 1 := ⟨by decide, by decide, by decide +kernel, by decide +kernel⟩
set_option maxRecDepth 20000 in
theorem fX6_tryStyle_97 : FL E_X6_tryStyle 97 1 2 := ⟨by decide, by decide, by decide +kernel, by decide +kernel⟩
set_option maxRecDepth 20000 in
theorem lX6_commandAt_250 : Cond.constantLong (mY E_X6_commandAt).cls 250 (i64 (10000)) ∈ mW E_X6_commandAt := by decide +kernel
set_option maxRecDepth 20000 in
theorem fX6_succeeds_140 : FL E_X6_succeeds 140 1 5 := ⟨by decide, by decide, by decide +kernel, by decide +kernel⟩
set_option maxRecDepth 20000 in
theorem fX6_setsStyle_97 : FL E_X6_setsStyle 97 1 2 := ⟨by decide, by decide, by decide +kernel, by decide +kernel⟩
set_option maxRecDepth 20000 in
theorem fX6_setsOrder_100 : FL E_X6_setsOrder 100 1 3 := ⟨by decide, by decide, by decide +kernel, by decide +kernel⟩
set_option maxRecDepth 20000 in
theorem fX6_movesYear_124 : FL E_X6_movesYear 124 1 0 := ⟨by decide, by decide, by decide +kernel, by decide +kernel⟩
set_option maxRecDepth 20000 in
theorem fX6_movesYear_125 : FL E_X6_movesYear 125 3 2 := ⟨by decide, by decide, by decide +kernel, by decide +kernel⟩
set_option maxRecDepth 20000 in
theorem fX6_playRound_29 : FL E_X6_playRound 29 4 3 := ⟨by decide, by decide, by decide +kernel, by decide +kernel⟩
set_option maxRecDepth 20000 in
theorem fX6_playRound_128 : FL E_X6_playRound 128 3 1 := ⟨by decide, by decide, by decide +kernel, by decide +kernel⟩
set_option maxRecDepth 20000 in
theorem fX6_playRound_310 : FL E_X6_playRound 310 3 0 := ⟨by decide, by decide, by decide +kernel, by decide +kernel⟩
set_option maxRecDepth 20000 in
theorem fX6_playRound_125 : FL E_X6_playRound 125 3 2 := ⟨by decide, by decide, by decide +kernel, by decide +kernel⟩
set_option maxRecDepth 20000 in
theorem fX6_playRound_131 : FL E_X6_playRound 131 3 3 := ⟨by decide, by decide, by decide +kernel, by decide +kernel⟩
set_option maxRecDepth 20000 in
theorem fX6_playRound_94 : FL E_X6_playRound 94 1 1 := ⟨by decide, by decide, by decide +kernel, by decide +kernel⟩
set_option maxRecDepth 20000 in
theorem fX6_playRound_124 : FL E_X6_playRound 124 1 0 := ⟨by decide, by decide, by decide +kernel, by decide +kernel⟩
