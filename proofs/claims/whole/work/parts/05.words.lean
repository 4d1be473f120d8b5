theorem clX0 : sm_Cl 0 RX0 TX0 6 tyX0 := ⟨rfl, rfl, (by decide +kernel), tyX0_ok, nmX0⟩
theorem clX1 : sm_Cl 1 RX1 TX1 2 tyX1 := ⟨rfl, rfl, (by decide +kernel), tyX1_ok, nmX1⟩
theorem clX2 : sm_Cl 2 RX2 TX2 6 tyX2 := ⟨rfl, rfl, (by decide +kernel), tyX2_ok, nmX2⟩
theorem clX3 : sm_Cl 3 RX3 TX3 3 tyX3 := ⟨rfl, rfl, (by decide +kernel), tyX3_ok, nmX3⟩
theorem clX4 : sm_Cl 4 RX4 TX4 4 tyX4 := ⟨rfl, rfl, (by decide +kernel), tyX4_ok, nmX4⟩
theorem clX5 : sm_Cl 5 RX5 TX5 5 tyX5 := ⟨rfl, rfl, (by decide +kernel), tyX5_ok, nmX5⟩
theorem clX6 : sm_Cl 6 RX6 TX6 3 tyX6 := ⟨rfl, rfl, (by decide +kernel), tyX6_ok, nmX6⟩
theorem clX7 : sm_Cl 7 RX7 TX7 5 tyX7 := ⟨rfl, rfl, (by decide +kernel), tyX7_ok, nmX7⟩
theorem clX8 : sm_Cl 8 RX8 TX8 11 tyX8 := ⟨rfl, rfl, (by decide +kernel), tyX8_ok, nmX8⟩
theorem clX9 : sm_Cl 9 RX9 TX9 21 tyX9 := ⟨rfl, rfl, (by decide +kernel), tyX9_ok, nmX9⟩
abbrev mX8_init : sm_Mu := (yX8_init, cX8_init, 2, none)
theorem meX8_init : sm_Me mX8_init 0 := ⟨lw_good_in (List.mem_append_right _ (List.mem_of_getElem? (i := 21) (by decide +kernel))) (by decide +kernel), lw_good_in (List.mem_append_right _ (List.mem_of_getElem? (i := 1) (by decide +kernel))) (by decide +kernel), by decide +kernel, by decide +kernel⟩
abbrev mX7_init : sm_Mu := (yX7_init, cX7_init, 1, none)
theorem meX7_init : sm_Me mX7_init 0 := ⟨lw_good_in (List.mem_append_right _ (List.mem_of_getElem? (i := 29) (by decide +kernel))) (by decide +kernel), lw_good_in (List.mem_append_right _ (List.mem_of_getElem? (i := 2) (by decide +kernel))) (by decide +kernel), by decide +kernel, by decide +kernel⟩
abbrev mX4_init : sm_Mu := (yX4_init, cX4_init, 2, none)
theorem meX4_init : sm_Me mX4_init 1 := ⟨lw_good_in (List.mem_append_right _ (List.mem_of_getElem? (i := 56) (by decide +kernel))) (by decide +kernel), lw_good_in (List.mem_append_right _ (List.mem_of_getElem? (i := 3) (by decide +kernel))) (by decide +kernel), by decide +kernel, by decide +kernel⟩
abbrev mX1_init : sm_Mu := (yX1_init, cX1_init, 2, none)
theorem meX1_init : sm_Me mX1_init 0 := ⟨lw_good_in (List.mem_append_right _ (List.mem_of_getElem? (i := 62) (by decide +kernel))) (by decide +kernel), lw_good_in (List.mem_append_right _ (List.mem_of_getElem? (i := 4) (by decide +kernel))) (by decide +kernel), by decide +kernel, by decide +kernel⟩
abbrev mX0_init : sm_Mu := (yX0_init, cX0_init, 1, none)
theorem meX0_init : sm_Me mX0_init 0 := ⟨lw_good_in (List.mem_append_right _ (List.mem_of_getElem? (i := 69) (by decide +kernel))) (by decide +kernel), lw_good_in (List.mem_append_right _ (List.mem_of_getElem? (i := 5) (by decide +kernel))) (by decide +kernel), by decide +kernel, by decide +kernel⟩
abbrev mX3_init : sm_Mu := (yX3_init, cX3_init, 2, none)
theorem meX3_init : sm_Me mX3_init 0 := ⟨lw_good_in (List.mem_append_right _ (List.mem_of_getElem? (i := 134) (by decide +kernel))) (by decide +kernel), lw_good_in (List.mem_append_right _ (List.mem_of_getElem? (i := 6) (by decide +kernel))) (by decide +kernel), by decide +kernel, by decide +kernel⟩
abbrev mX6_init : sm_Mu := (yX6_init, cX6_init, 1, none)
theorem meX6_init : sm_Me mX6_init 0 := ⟨lw_good_in (List.mem_append_right _ (List.mem_of_getElem? (i := 154) (by decide +kernel))) (by decide +kernel), lw_good_in (List.mem_append_right _ (List.mem_of_getElem? (i := 7) (by decide +kernel))) (by decide +kernel), by decide +kernel, by decide +kernel⟩
abbrev mX2_init : sm_Mu := (yX2_init, cX2_init, 2, none)
theorem meX2_init : sm_Me mX2_init 1 := ⟨lw_good_in (List.mem_append_right _ (List.mem_of_getElem? (i := 173) (by decide +kernel))) (by decide +kernel), lw_good_in (List.mem_append_right _ (List.mem_of_getElem? (i := 8) (by decide +kernel))) (by decide +kernel), by decide +kernel, by decide +kernel⟩
abbrev mX5_init : sm_Mu := (yX5_init, cX5_init, 1, none)
theorem meX5_init : sm_Me mX5_init 0 := ⟨lw_good_in (List.mem_append_right _ (List.mem_of_getElem? (i := 198) (by decide +kernel))) (by decide +kernel), lw_good_in (List.mem_append_right _ (List.mem_of_getElem? (i := 9) (by decide +kernel))) (by decide +kernel), by decide +kernel, by decide +kernel⟩
abbrev mX8_type : sm_Mu := (yX8_type, cX8_type, 2, (some .int))
theorem meX8_type : sm_Me mX8_type 1 := ⟨lw_good_in (List.mem_append_right _ (List.mem_of_getElem? (i := 258) (by decide +kernel))) (by decide +kernel), lw_good_in (List.mem_append_right _ (List.mem_of_getElem? (i := 1) (by decide +kernel))) (by decide +kernel), by decide +kernel, by decide +kernel⟩
abbrev mX7_add : sm_Mu := (yX7_add, cX7_add, 2, (some .boolean))
theorem meX7_add : sm_Me mX7_add 1 := ⟨lw_good_in (List.mem_append_right _ (List.mem_of_getElem? (i := 262) (by decide +kernel))) (by decide +kernel), lw_good_in (List.mem_append_right _ (List.mem_of_getElem? (i := 2) (by decide +kernel))) (by decide +kernel), by decide +kernel, by decide +kernel⟩
abbrev mX8_clear : sm_Mu := (yX8_clear, cX8_clear, 2, (some .int))
theorem meX8_clear : sm_Me mX8_clear 0 := ⟨lw_good_in (List.mem_append_right _ (List.mem_of_getElem? (i := 266) (by decide +kernel))) (by decide +kernel), lw_good_in (List.mem_append_right _ (List.mem_of_getElem? (i := 1) (by decide +kernel))) (by decide +kernel), by decide +kernel, by decide +kernel⟩
abbrev mX8_tells : sm_Mu := (yX8_tells, cX8_tells, 1, (some .int))
theorem meX8_tells : sm_Me mX8_tells 0 := ⟨lw_good_in (List.mem_append_right _ (List.mem_of_getElem? (i := 270) (by decide +kernel))) (by decide +kernel), lw_good_in (List.mem_append_right _ (List.mem_of_getElem? (i := 1) (by decide +kernel))) (by decide +kernel), by decide +kernel, by decide +kernel⟩
abbrev mX4_readAll : sm_Mu := (yX4_readAll, cX4_readAll, 1, (some .boolean))
theorem meX4_readAll : sm_Me mX4_readAll 0 := ⟨lw_good_in (List.mem_append_right _ (List.mem_of_getElem? (i := 274) (by decide +kernel))) (by decide +kernel), lw_good_in (List.mem_append_right _ (List.mem_of_getElem? (i := 3) (by decide +kernel))) (by decide +kernel), by decide +kernel, by decide +kernel⟩
abbrev mX7_split : sm_Mu := (yX7_split, cX7_split, 3, none)
theorem meX7_split : sm_Me mX7_split 0 := ⟨lw_good_in (List.mem_append_right _ (List.mem_of_getElem? (i := 278) (by decide +kernel))) (by decide +kernel), lw_good_in (List.mem_append_right _ (List.mem_of_getElem? (i := 2) (by decide +kernel))) (by decide +kernel), by decide +kernel, by decide +kernel⟩
abbrev mX7_goesOn : sm_Mu := (yX7_goesOn, cX7_goesOn, 2, (some .boolean))
theorem meX7_goesOn : sm_Me mX7_goesOn 1 := ⟨lw_good_in (List.mem_append_right _ (List.mem_of_getElem? (i := 282) (by decide +kernel))) (by decide +kernel), lw_good_in (List.mem_append_right _ (List.mem_of_getElem? (i := 2) (by decide +kernel))) (by decide +kernel), by decide +kernel, by decide +kernel⟩
abbrev mX7_isSmallLetter : sm_Mu := (yX7_isSmallLetter, cX7_isSmallLetter, 1, (some .boolean))
theorem meX7_isSmallLetter : sm_Me mX7_isSmallLetter 1 := ⟨lw_good_in (List.mem_append_right _ (List.mem_of_getElem? (i := 285) (by decide +kernel))) (by decide +kernel), lw_good_in (List.mem_append_right _ (List.mem_of_getElem? (i := 2) (by decide +kernel))) (by decide +kernel), by decide +kernel, by decide +kernel⟩
abbrev mX7_isFigure : sm_Mu := (yX7_isFigure, cX7_isFigure, 1, (some .boolean))
theorem meX7_isFigure : sm_Me mX7_isFigure 1 := ⟨lw_good_in (List.mem_append_right _ (List.mem_of_getElem? (i := 288) (by decide +kernel))) (by decide +kernel), lw_good_in (List.mem_append_right _ (List.mem_of_getElem? (i := 2) (by decide +kernel))) (by decide +kernel), by decide +kernel, by decide +kernel⟩
abbrev mX7_putKind : sm_Mu := (yX7_putKind, cX7_putKind, 4, none)
theorem meX7_putKind : sm_Me mX7_putKind 2 := ⟨lw_good_in (List.mem_append_right _ (List.mem_of_getElem? (i := 292) (by decide +kernel))) (by decide +kernel), lw_good_in (List.mem_append_right _ (List.mem_of_getElem? (i := 2) (by decide +kernel))) (by decide +kernel), by decide +kernel, by decide +kernel⟩
abbrev mX7_kindOfWord : sm_Mu := (yX7_kindOfWord, cX7_kindOfWord, 3, (some .int))
theorem meX7_kindOfWord : sm_Me mX7_kindOfWord 2 := ⟨lw_good_in (List.mem_append_right _ (List.mem_of_getElem? (i := 296) (by decide +kernel))) (by decide +kernel), lw_good_in (List.mem_append_right _ (List.mem_of_getElem? (i := 2) (by decide +kernel))) (by decide +kernel), by decide +kernel, by decide +kernel⟩
abbrev mX7_isWord : sm_Mu := (yX7_isWord, cX7_isWord, 5, (some .boolean))
theorem meX7_isWord : sm_Me mX7_isWord 3 := ⟨lw_good_in (List.mem_append_right _ (List.mem_of_getElem? (i := 301) (by decide +kernel))) (by decide +kernel), lw_good_in (List.mem_append_right _ (List.mem_of_getElem? (i := 2) (by decide +kernel))) (by decide +kernel), by decide +kernel, by decide +kernel⟩
abbrev mJ0_length_8abf5 : sm_Mu := (yJ0_length_8abf5, cJ0_length_8abf5, 1, (some .int))
theorem meJ0_length_8abf5 : sm_Me mJ0_length_8abf5 0 := ⟨lw_good_in (List.mem_append_right _ (List.mem_of_getElem? (i := 305) (by decide +kernel))) (by decide +kernel), lw_good_in (List.mem_append_right _ (List.mem_of_getElem? (i := 11) (by decide +kernel))) (by decide +kernel), by decide +kernel, by decide +kernel⟩
abbrev mJ0_coder_7d493 : sm_Mu := (yJ0_coder_7d493, cJ0_coder_7d493, 1, (some .byte))
theorem meJ0_coder_7d493 : sm_Me mJ0_coder_7d493 0 := ⟨lw_good_in (List.mem_append_right _ (List.mem_of_getElem? (i := 309) (by decide +kernel))) (by decide +kernel), lw_good_in (List.mem_append_right _ (List.mem_of_getElem? (i := 11) (by decide +kernel))) (by decide +kernel), by decide +kernel, by decide +kernel⟩
abbrev mJ0_charAt_5068e : sm_Mu := (yJ0_charAt_5068e, cJ0_charAt_5068e, 2, (some .char))
theorem meJ0_charAt_5068e : sm_Me mJ0_charAt_5068e 1 := ⟨lw_good_in (List.mem_append_right _ (List.mem_of_getElem? (i := 315) (by decide +kernel))) (by decide +kernel), lw_good_in (List.mem_append_right _ (List.mem_of_getElem? (i := 11) (by decide +kernel))) (by decide +kernel), by decide +kernel, by decide +kernel⟩
abbrev mJ0_isLatin1_aae02 : sm_Mu := (yJ0_isLatin1_aae02, cJ0_isLatin1_aae02, 1, (some .boolean))
theorem meJ0_isLatin1_aae02 : sm_Me mJ0_isLatin1_aae02 0 := ⟨lw_good_in (List.mem_append_right _ (List.mem_of_getElem? (i := 319) (by decide +kernel))) (by decide +kernel), lw_good_in (List.mem_append_right _ (List.mem_of_getElem? (i := 11) (by decide +kernel))) (by decide +kernel), by decide +kernel, by decide +kernel⟩
abbrev mJ1_charAt_3b067 : sm_Mu := (yJ1_charAt_3b067, cJ1_charAt_3b067, 2, (some .char))
theorem meJ1_charAt_3b067 : sm_Me mJ1_charAt_3b067 2 := ⟨lw_good_in (List.mem_append_right _ (List.mem_of_getElem? (i := 322) (by decide +kernel))) (by decide +kernel), lw_good_in (List.mem_append_right _ (List.mem_of_getElem? (i := 12) (by decide +kernel))) (by decide +kernel), by decide +kernel, by decide +kernel⟩
abbrev mJ0_checkIndex_df160 : sm_Mu := (yJ0_checkIndex_df160, cJ0_checkIndex_df160, 2, none)
theorem meJ0_checkIndex_df160 : sm_Me mJ0_checkIndex_df160 2 := ⟨lw_good_in (List.mem_append_right _ (List.mem_of_getElem? (i := 325) (by decide +kernel))) (by decide +kernel), lw_good_in (List.mem_append_right _ (List.mem_of_getElem? (i := 11) (by decide +kernel))) (by decide +kernel), by decide +kernel, by decide +kernel⟩
abbrev mJ3_checkIndex_8e157 : sm_Mu := (yJ3_checkIndex_8e157, cJ3_checkIndex_8e157, 3, (some .int))
theorem meJ3_checkIndex_8e157 : sm_Me mJ3_checkIndex_8e157 3 := ⟨lw_good_in (List.mem_append_right _ (List.mem_of_getElem? (i := 330) (by decide +kernel))) (by decide +kernel), lw_good_in (List.mem_append_right _ (List.mem_of_getElem? (i := 13) (by decide +kernel))) (by decide +kernel), by decide +kernel, by decide +kernel⟩
abbrev mJ2_charAt_3b067 : sm_Mu := (yJ2_charAt_3b067, cJ2_charAt_3b067, 2, (some .char))
theorem meJ2_charAt_3b067 : sm_Me mJ2_charAt_3b067 2 := ⟨lw_good_in (List.mem_append_right _ (List.mem_of_getElem? (i := 333) (by decide +kernel))) (by decide +kernel), lw_good_in (List.mem_append_right _ (List.mem_of_getElem? (i := 14) (by decide +kernel))) (by decide +kernel), by decide +kernel, by decide +kernel⟩
abbrev mJ2_checkIndex_2214a : sm_Mu := (yJ2_checkIndex_2214a, cJ2_checkIndex_2214a, 2, none)
theorem meJ2_checkIndex_2214a : sm_Me mJ2_checkIndex_2214a 2 := ⟨lw_good_in (List.mem_append_right _ (List.mem_of_getElem? (i := 336) (by decide +kernel))) (by decide +kernel), lw_good_in (List.mem_append_right _ (List.mem_of_getElem? (i := 14) (by decide +kernel))) (by decide +kernel), by decide +kernel, by decide +kernel⟩
abbrev mJ2_length_9d52b : sm_Mu := (yJ2_length_9d52b, cJ2_length_9d52b, 1, (some .int))
theorem meJ2_length_9d52b : sm_Me mJ2_length_9d52b 1 := ⟨lw_good_in (List.mem_append_right _ (List.mem_of_getElem? (i := 339) (by decide +kernel))) (by decide +kernel), lw_good_in (List.mem_append_right _ (List.mem_of_getElem? (i := 14) (by decide +kernel))) (by decide +kernel), by decide +kernel, by decide +kernel⟩
abbrev mJ2_getChar_3b067 : sm_Mu := (yJ2_getChar_3b067, cJ2_getChar_3b067, 2, (some .char))
theorem meJ2_getChar_3b067 : sm_Me mJ2_getChar_3b067 2 := ⟨lw_good_in (List.mem_append_right _ (List.mem_of_getElem? (i := 343) (by decide +kernel))) (by decide +kernel), lw_good_in (List.mem_append_right _ (List.mem_of_getElem? (i := 14) (by decide +kernel))) (by decide +kernel), by decide +kernel, by decide +kernel⟩
abbrev mX7_kindOfNumber : sm_Mu := (yX7_kindOfNumber, cX7_kindOfNumber, 4, (some .int))
theorem meX7_kindOfNumber : sm_Me mX7_kindOfNumber 2 := ⟨lw_good_in (List.mem_append_right _ (List.mem_of_getElem? (i := 354) (by decide +kernel))) (by decide +kernel), lw_good_in (List.mem_append_right _ (List.mem_of_getElem? (i := 2) (by decide +kernel))) (by decide +kernel), by decide +kernel, by decide +kernel⟩
abbrev mX7_valueOf : sm_Mu := (yX7_valueOf, cX7_valueOf, 5, (some .int))
theorem meX7_valueOf : sm_Me mX7_valueOf 2 := ⟨lw_good_in (List.mem_append_right _ (List.mem_of_getElem? (i := 358) (by decide +kernel))) (by decide +kernel), lw_good_in (List.mem_append_right _ (List.mem_of_getElem? (i := 2) (by decide +kernel))) (by decide +kernel), by decide +kernel, by decide +kernel⟩
abbrev mX1_empty : sm_Mu := (yX1_empty, cX1_empty, 1, none)
theorem meX1_empty : sm_Me mX1_empty 0 := ⟨lw_good_in (List.mem_append_right _ (List.mem_of_getElem? (i := 362) (by decide +kernel))) (by decide +kernel), lw_good_in (List.mem_append_right _ (List.mem_of_getElem? (i := 4) (by decide +kernel))) (by decide +kernel), by decide +kernel, by decide +kernel⟩
abbrev mX4_readItem : sm_Mu := (yX4_readItem, cX4_readItem, 2, (some .boolean))
theorem meX4_readItem : sm_Me mX4_readItem 0 := ⟨lw_good_in (List.mem_append_right _ (List.mem_of_getElem? (i := 366) (by decide +kernel))) (by decide +kernel), lw_good_in (List.mem_append_right _ (List.mem_of_getElem? (i := 3) (by decide +kernel))) (by decide +kernel), by decide +kernel, by decide +kernel⟩
abbrev mX4_readCask : sm_Mu := (yX4_readCask, cX4_readCask, 4, (some .boolean))
theorem meX4_readCask : sm_Me mX4_readCask 0 := ⟨lw_good_in (List.mem_append_right _ (List.mem_of_getElem? (i := 370) (by decide +kernel))) (by decide +kernel), lw_good_in (List.mem_append_right _ (List.mem_of_getElem? (i := 3) (by decide +kernel))) (by decide +kernel), by decide +kernel, by decide +kernel⟩
abbrev mX4_readNumber : sm_Mu := (yX4_readNumber, cX4_readNumber, 4, (some .boolean))
theorem meX4_readNumber : sm_Me mX4_readNumber 2 := ⟨lw_good_in (List.mem_append_right _ (List.mem_of_getElem? (i := 374) (by decide +kernel))) (by decide +kernel), lw_good_in (List.mem_append_right _ (List.mem_of_getElem? (i := 3) (by decide +kernel))) (by decide +kernel), by decide +kernel, by decide +kernel⟩
abbrev mX4_step : sm_Mu := (yX4_step, cX4_step, 1, none)
theorem meX4_step : sm_Me mX4_step 0 := ⟨lw_good_in (List.mem_append_right _ (List.mem_of_getElem? (i := 378) (by decide +kernel))) (by decide +kernel), lw_good_in (List.mem_append_right _ (List.mem_of_getElem? (i := 3) (by decide +kernel))) (by decide +kernel), by decide +kernel, by decide +kernel⟩
abbrev mX4_readItemEnd : sm_Mu := (yX4_readItemEnd, cX4_readItemEnd, 1, (some .boolean))
theorem meX4_readItemEnd : sm_Me mX4_readItemEnd 0 := ⟨lw_good_in (List.mem_append_right _ (List.mem_of_getElem? (i := 382) (by decide +kernel))) (by decide +kernel), lw_good_in (List.mem_append_right _ (List.mem_of_getElem? (i := 3) (by decide +kernel))) (by decide +kernel), by decide +kernel, by decide +kernel⟩
abbrev mX1_add : sm_Mu := (yX1_add, cX1_add, 4, (some .boolean))
theorem meX1_add : sm_Me mX1_add 3 := ⟨lw_good_in (List.mem_append_right _ (List.mem_of_getElem? (i := 386) (by decide +kernel))) (by decide +kernel), lw_good_in (List.mem_append_right _ (List.mem_of_getElem? (i := 4) (by decide +kernel))) (by decide +kernel), by decide +kernel, by decide +kernel⟩
abbrev mX0_becomeNew : sm_Mu := (yX0_becomeNew, cX0_becomeNew, 4, none)
theorem meX0_becomeNew : sm_Me mX0_becomeNew 3 := ⟨lw_good_in (List.mem_append_right _ (List.mem_of_getElem? (i := 390) (by decide +kernel))) (by decide +kernel), lw_good_in (List.mem_append_right _ (List.mem_of_getElem? (i := 5) (by decide +kernel))) (by decide +kernel), by decide +kernel, by decide +kernel⟩
abbrev mX4_readStands : sm_Mu := (yX4_readStands, cX4_readStands, 2, (some .boolean))
theorem meX4_readStands : sm_Me mX4_readStands 0 := ⟨lw_good_in (List.mem_append_right _ (List.mem_of_getElem? (i := 394) (by decide +kernel))) (by decide +kernel), lw_good_in (List.mem_append_right _ (List.mem_of_getElem? (i := 3) (by decide +kernel))) (by decide +kernel), by decide +kernel, by decide +kernel⟩
abbrev mX1_has : sm_Mu := (yX1_has, cX1_has, 2, (some .boolean))
theorem meX1_has : sm_Me mX1_has 1 := ⟨lw_good_in (List.mem_append_right _ (List.mem_of_getElem? (i := 398) (by decide +kernel))) (by decide +kernel), lw_good_in (List.mem_append_right _ (List.mem_of_getElem? (i := 4) (by decide +kernel))) (by decide +kernel), by decide +kernel, by decide +kernel⟩
abbrev mX4_faultPlace : sm_Mu := (yX4_faultPlace, cX4_faultPlace, 1, (some .int))
theorem meX4_faultPlace : sm_Me mX4_faultPlace 0 := ⟨lw_good_in (List.mem_append_right _ (List.mem_of_getElem? (i := 402) (by decide +kernel))) (by decide +kernel), lw_good_in (List.mem_append_right _ (List.mem_of_getElem? (i := 3) (by decide +kernel))) (by decide +kernel), by decide +kernel, by decide +kernel⟩
abbrev mX3_remember : sm_Mu := (yX3_remember, cX3_remember, 2, none)
theorem meX3_remember : sm_Me mX3_remember 1 := ⟨lw_good_in (List.mem_append_right _ (List.mem_of_getElem? (i := 406) (by decide +kernel))) (by decide +kernel), lw_good_in (List.mem_append_right _ (List.mem_of_getElem? (i := 6) (by decide +kernel))) (by decide +kernel), by decide +kernel, by decide +kernel⟩
abbrev mX1_copyFrom : sm_Mu := (yX1_copyFrom, cX1_copyFrom, 3, none)
theorem meX1_copyFrom : sm_Me mX1_copyFrom 1 := ⟨lw_good_in (List.mem_append_right _ (List.mem_of_getElem? (i := 410) (by decide +kernel))) (by decide +kernel), lw_good_in (List.mem_append_right _ (List.mem_of_getElem? (i := 4) (by decide +kernel))) (by decide +kernel), by decide +kernel, by decide +kernel⟩
abbrev mX0_copyFrom : sm_Mu := (yX0_copyFrom, cX0_copyFrom, 2, none)
theorem meX0_copyFrom : sm_Me mX0_copyFrom 1 := ⟨lw_good_in (List.mem_append_right _ (List.mem_of_getElem? (i := 414) (by decide +kernel))) (by decide +kernel), lw_good_in (List.mem_append_right _ (List.mem_of_getElem? (i := 5) (by decide +kernel))) (by decide +kernel), by decide +kernel, by decide +kernel⟩
abbrev mJ9_min_7cf53 : sm_Mu := (yJ9_min_7cf53, cJ9_min_7cf53, 2, (some .int))
theorem meJ9_min_7cf53 : sm_Me mJ9_min_7cf53 2 := ⟨lw_good_in (List.mem_append_right _ (List.mem_of_getElem? (i := 417) (by decide +kernel))) (by decide +kernel), lw_good_in (List.mem_append_right _ (List.mem_of_getElem? (i := 15) (by decide +kernel))) (by decide +kernel), by decide +kernel, by decide +kernel⟩
abbrev mX8_fills : sm_Mu := (yX8_fills, cX8_fills, 4, (some .int))
theorem meX8_fills : sm_Me mX8_fills 3 := ⟨lw_good_in (List.mem_append_right _ (List.mem_of_getElem? (i := 423) (by decide +kernel))) (by decide +kernel), lw_good_in (List.mem_append_right _ (List.mem_of_getElem? (i := 1) (by decide +kernel))) (by decide +kernel), by decide +kernel, by decide +kernel⟩
abbrev mX8_roomIn : sm_Mu := (yX8_roomIn, cX8_roomIn, 2, (some .int))
theorem meX8_roomIn : sm_Me mX8_roomIn 1 := ⟨lw_good_in (List.mem_append_right _ (List.mem_of_getElem? (i := 428) (by decide +kernel))) (by decide +kernel), lw_good_in (List.mem_append_right _ (List.mem_of_getElem? (i := 1) (by decide +kernel))) (by decide +kernel), by decide +kernel, by decide +kernel⟩
abbrev mX8_levelsOf : sm_Mu := (yX8_levelsOf, cX8_levelsOf, 2, (some (.object "CaskGauge$Levels")))
theorem meX8_levelsOf : sm_Me mX8_levelsOf 1 := ⟨lw_good_in (List.mem_append_right _ (List.mem_of_getElem? (i := 432) (by decide +kernel))) (by decide +kernel), lw_good_in (List.mem_append_right _ (List.mem_of_getElem? (i := 1) (by decide +kernel))) (by decide +kernel), by decide +kernel, by decide +kernel⟩
abbrev mX8_lyingLevelsOf : sm_Mu := (yX8_lyingLevelsOf, cX8_lyingLevelsOf, 2, (some (.object "CaskGauge$Levels")))
theorem meX8_lyingLevelsOf : sm_Me mX8_lyingLevelsOf 1 := ⟨lw_good_in (List.mem_append_right _ (List.mem_of_getElem? (i := 436) (by decide +kernel))) (by decide +kernel), lw_good_in (List.mem_append_right _ (List.mem_of_getElem? (i := 1) (by decide +kernel))) (by decide +kernel), by decide +kernel, by decide +kernel⟩
abbrev mX2_measure : sm_Mu := (yX2_measure, cX2_measure, 5, none)
theorem meX2_measure : sm_Me mX2_measure 1 := ⟨lw_good_in (List.mem_append_right _ (List.mem_of_getElem? (i := 440) (by decide +kernel))) (by decide +kernel), lw_good_in (List.mem_append_right _ (List.mem_of_getElem? (i := 8) (by decide +kernel))) (by decide +kernel), by decide +kernel, by decide +kernel⟩
abbrev mX0_radiusOf : sm_Mu := (yX0_radiusOf, cX0_radiusOf, 4, (some .int))
theorem meX0_radiusOf : sm_Me mX0_radiusOf 1 := ⟨lw_good_in (List.mem_append_right _ (List.mem_of_getElem? (i := 445) (by decide +kernel))) (by decide +kernel), lw_good_in (List.mem_append_right _ (List.mem_of_getElem? (i := 5) (by decide +kernel))) (by decide +kernel), by decide +kernel, by decide +kernel⟩
abbrev mX0_cellsOf : sm_Mu := (yX0_cellsOf, cX0_cellsOf, 6, (some .int))
theorem meX0_cellsOf : sm_Me mX0_cellsOf 2 := ⟨lw_good_in (List.mem_append_right _ (List.mem_of_getElem? (i := 449) (by decide +kernel))) (by decide +kernel), lw_good_in (List.mem_append_right _ (List.mem_of_getElem? (i := 5) (by decide +kernel))) (by decide +kernel), by decide +kernel, by decide +kernel⟩
abbrev mX2_addAhead : sm_Mu := (yX2_addAhead, cX2_addAhead, 3, none)
theorem meX2_addAhead : sm_Me mX2_addAhead 2 := ⟨lw_good_in (List.mem_append_right _ (List.mem_of_getElem? (i := 453) (by decide +kernel))) (by decide +kernel), lw_good_in (List.mem_append_right _ (List.mem_of_getElem? (i := 8) (by decide +kernel))) (by decide +kernel), by decide +kernel, by decide +kernel⟩
abbrev mX2_reach : sm_Mu := (yX2_reach, cX2_reach, 2, (some .boolean))
theorem meX2_reach : sm_Me mX2_reach 1 := ⟨lw_good_in (List.mem_append_right _ (List.mem_of_getElem? (i := 457) (by decide +kernel))) (by decide +kernel), lw_good_in (List.mem_append_right _ (List.mem_of_getElem? (i := 8) (by decide +kernel))) (by decide +kernel), by decide +kernel, by decide +kernel⟩
abbrev mX2_hold : sm_Mu := (yX2_hold, cX2_hold, 1, (some .int))
theorem meX2_hold : sm_Me mX2_hold 0 := ⟨lw_good_in (List.mem_append_right _ (List.mem_of_getElem? (i := 461) (by decide +kernel))) (by decide +kernel), lw_good_in (List.mem_append_right _ (List.mem_of_getElem? (i := 8) (by decide +kernel))) (by decide +kernel), by decide +kernel, by decide +kernel⟩
abbrev mX2_amountAt : sm_Mu := (yX2_amountAt, cX2_amountAt, 2, (some .int))
theorem meX2_amountAt : sm_Me mX2_amountAt 1 := ⟨lw_good_in (List.mem_append_right _ (List.mem_of_getElem? (i := 465) (by decide +kernel))) (by decide +kernel), lw_good_in (List.mem_append_right _ (List.mem_of_getElem? (i := 8) (by decide +kernel))) (by decide +kernel), by decide +kernel, by decide +kernel⟩
abbrev mX0_takeIn : sm_Mu := (yX0_takeIn, cX0_takeIn, 3, none)
theorem meX0_takeIn : sm_Me mX0_takeIn 2 := ⟨lw_good_in (List.mem_append_right _ (List.mem_of_getElem? (i := 469) (by decide +kernel))) (by decide +kernel), lw_good_in (List.mem_append_right _ (List.mem_of_getElem? (i := 5) (by decide +kernel))) (by decide +kernel), by decide +kernel, by decide +kernel⟩
abbrev mX8_draws : sm_Mu := (yX8_draws, cX8_draws, 3, (some .int))
theorem meX8_draws : sm_Me mX8_draws 2 := ⟨lw_good_in (List.mem_append_right _ (List.mem_of_getElem? (i := 473) (by decide +kernel))) (by decide +kernel), lw_good_in (List.mem_append_right _ (List.mem_of_getElem? (i := 1) (by decide +kernel))) (by decide +kernel), by decide +kernel, by decide +kernel⟩
abbrev mX0_giveOut : sm_Mu := (yX0_giveOut, cX0_giveOut, 3, (some .int))
theorem meX0_giveOut : sm_Me mX0_giveOut 1 := ⟨lw_good_in (List.mem_append_right _ (List.mem_of_getElem? (i := 477) (by decide +kernel))) (by decide +kernel), lw_good_in (List.mem_append_right _ (List.mem_of_getElem? (i := 5) (by decide +kernel))) (by decide +kernel), by decide +kernel, by decide +kernel⟩
abbrev mX8_pours : sm_Mu := (yX8_pours, cX8_pours, 5, (some .int))
theorem meX8_pours : sm_Me mX8_pours 3 := ⟨lw_good_in (List.mem_append_right _ (List.mem_of_getElem? (i := 481) (by decide +kernel))) (by decide +kernel), lw_good_in (List.mem_append_right _ (List.mem_of_getElem? (i := 1) (by decide +kernel))) (by decide +kernel), by decide +kernel, by decide +kernel⟩
abbrev mX8_turnsOver : sm_Mu := (yX8_turnsOver, cX8_turnsOver, 2, (some .int))
theorem meX8_turnsOver : sm_Me mX8_turnsOver 1 := ⟨lw_good_in (List.mem_append_right _ (List.mem_of_getElem? (i := 485) (by decide +kernel))) (by decide +kernel), lw_good_in (List.mem_append_right _ (List.mem_of_getElem? (i := 1) (by decide +kernel))) (by decide +kernel), by decide +kernel, by decide +kernel⟩
abbrev mX8_undo : sm_Mu := (yX8_undo, cX8_undo, 1, (some .int))
theorem meX8_undo : sm_Me mX8_undo 0 := ⟨lw_good_in (List.mem_append_right _ (List.mem_of_getElem? (i := 489) (by decide +kernel))) (by decide +kernel), lw_good_in (List.mem_append_right _ (List.mem_of_getElem? (i := 1) (by decide +kernel))) (by decide +kernel), by decide +kernel, by decide +kernel⟩
abbrev mX3_recallInto : sm_Mu := (yX3_recallInto, cX3_recallInto, 2, (some .boolean))
theorem meX3_recallInto : sm_Me mX3_recallInto 1 := ⟨lw_good_in (List.mem_append_right _ (List.mem_of_getElem? (i := 493) (by decide +kernel))) (by decide +kernel), lw_good_in (List.mem_append_right _ (List.mem_of_getElem? (i := 6) (by decide +kernel))) (by decide +kernel), by decide +kernel, by decide +kernel⟩
abbrev mX8_cask : sm_Mu := (yX8_cask, cX8_cask, 4, (some .int))
theorem meX8_cask : sm_Me mX8_cask 2 := ⟨lw_good_in (List.mem_append_right _ (List.mem_of_getElem? (i := 497) (by decide +kernel))) (by decide +kernel), lw_good_in (List.mem_append_right _ (List.mem_of_getElem? (i := 1) (by decide +kernel))) (by decide +kernel), by decide +kernel, by decide +kernel⟩
abbrev mX2_leastDip : sm_Mu := (yX2_leastDip, cX2_leastDip, 2, (some .int))
theorem meX2_leastDip : sm_Me mX2_leastDip 1 := ⟨lw_good_in (List.mem_append_right _ (List.mem_of_getElem? (i := 501) (by decide +kernel))) (by decide +kernel), lw_good_in (List.mem_append_right _ (List.mem_of_getElem? (i := 8) (by decide +kernel))) (by decide +kernel), by decide +kernel, by decide +kernel⟩
abbrev mX2_leastDipFrom : sm_Mu := (yX2_leastDipFrom, cX2_leastDipFrom, 4, (some .int))
theorem meX2_leastDipFrom : sm_Me mX2_leastDipFrom 2 := ⟨lw_good_in (List.mem_append_right _ (List.mem_of_getElem? (i := 505) (by decide +kernel))) (by decide +kernel), lw_good_in (List.mem_append_right _ (List.mem_of_getElem? (i := 8) (by decide +kernel))) (by decide +kernel), by decide +kernel, by decide +kernel⟩
abbrev mJ9_max_7cf53 : sm_Mu := (yJ9_max_7cf53, cJ9_max_7cf53, 2, (some .int))
theorem meJ9_max_7cf53 : sm_Me mJ9_max_7cf53 2 := ⟨lw_good_in (List.mem_append_right _ (List.mem_of_getElem? (i := 508) (by decide +kernel))) (by decide +kernel), lw_good_in (List.mem_append_right _ (List.mem_of_getElem? (i := 15) (by decide +kernel))) (by decide +kernel), by decide +kernel, by decide +kernel⟩
abbrev mX0_strength : sm_Mu := (yX0_strength, cX0_strength, 1, (some .float))
theorem meX0_strength : sm_Me mX0_strength 0 := ⟨lw_good_in (List.mem_append_right _ (List.mem_of_getElem? (i := 512) (by decide +kernel))) (by decide +kernel), lw_good_in (List.mem_append_right _ (List.mem_of_getElem? (i := 5) (by decide +kernel))) (by decide +kernel), by decide +kernel, by decide +kernel⟩
abbrev mX8_inThousandths : sm_Mu := (yX8_inThousandths, cX8_inThousandths, 1, (some .int))
theorem meX8_inThousandths : sm_Me mX8_inThousandths 1 := ⟨lw_good_in (List.mem_append_right _ (List.mem_of_getElem? (i := 515) (by decide +kernel))) (by decide +kernel), lw_good_in (List.mem_append_right _ (List.mem_of_getElem? (i := 1) (by decide +kernel))) (by decide +kernel), by decide +kernel, by decide +kernel⟩
abbrev mX8_slice : sm_Mu := (yX8_slice, cX8_slice, 5, (some .int))
theorem meX8_slice : sm_Me mX8_slice 3 := ⟨lw_good_in (List.mem_append_right _ (List.mem_of_getElem? (i := 520) (by decide +kernel))) (by decide +kernel), lw_good_in (List.mem_append_right _ (List.mem_of_getElem? (i := 1) (by decide +kernel))) (by decide +kernel), by decide +kernel, by decide +kernel⟩
abbrev mX8_under : sm_Mu := (yX8_under, cX8_under, 4, (some .int))
theorem meX8_under : sm_Me mX8_under 2 := ⟨lw_good_in (List.mem_append_right _ (List.mem_of_getElem? (i := 526) (by decide +kernel))) (by decide +kernel), lw_good_in (List.mem_append_right _ (List.mem_of_getElem? (i := 1) (by decide +kernel))) (by decide +kernel), by decide +kernel, by decide +kernel⟩
abbrev mX8_dip : sm_Mu := (yX8_dip, cX8_dip, 4, (some .int))
theorem meX8_dip : sm_Me mX8_dip 2 := ⟨lw_good_in (List.mem_append_right _ (List.mem_of_getElem? (i := 532) (by decide +kernel))) (by decide +kernel), lw_good_in (List.mem_append_right _ (List.mem_of_getElem? (i := 1) (by decide +kernel))) (by decide +kernel), by decide +kernel, by decide +kernel⟩
abbrev mX8_stick : sm_Mu := (yX8_stick, cX8_stick, 4, (some .int))
theorem meX8_stick : sm_Me mX8_stick 3 := ⟨lw_good_in (List.mem_append_right _ (List.mem_of_getElem? (i := 536) (by decide +kernel))) (by decide +kernel), lw_good_in (List.mem_append_right _ (List.mem_of_getElem? (i := 1) (by decide +kernel))) (by decide +kernel), by decide +kernel, by decide +kernel⟩
abbrev mX2_markAt : sm_Mu := (yX2_markAt, cX2_markAt, 5, (some .int))
theorem meX2_markAt : sm_Me mX2_markAt 2 := ⟨lw_good_in (List.mem_append_right _ (List.mem_of_getElem? (i := 540) (by decide +kernel))) (by decide +kernel), lw_good_in (List.mem_append_right _ (List.mem_of_getElem? (i := 8) (by decide +kernel))) (by decide +kernel), by decide +kernel, by decide +kernel⟩
abbrev mX8_known : sm_Mu := (yX8_known, cX8_known, 7, (some .int))
theorem meX8_known : sm_Me mX8_known 3 := ⟨lw_good_in (List.mem_append_right _ (List.mem_of_getElem? (i := 545) (by decide +kernel))) (by decide +kernel), lw_good_in (List.mem_append_right _ (List.mem_of_getElem? (i := 1) (by decide +kernel))) (by decide +kernel), by decide +kernel, by decide +kernel⟩
abbrev mX8_shares : sm_Mu := (yX8_shares, cX8_shares, 5, (some .int))
theorem meX8_shares : sm_Me mX8_shares 3 := ⟨lw_good_in (List.mem_append_right _ (List.mem_of_getElem? (i := 549) (by decide +kernel))) (by decide +kernel), lw_good_in (List.mem_append_right _ (List.mem_of_getElem? (i := 1) (by decide +kernel))) (by decide +kernel), by decide +kernel, by decide +kernel⟩
abbrev mX5_findFairest : sm_Mu := (yX5_findFairest, cX5_findFairest, 7, none)
theorem meX5_findFairest : sm_Me mX5_findFairest 3 := ⟨lw_good_in (List.mem_append_right _ (List.mem_of_getElem? (i := 553) (by decide +kernel))) (by decide +kernel), lw_good_in (List.mem_append_right _ (List.mem_of_getElem? (i := 9) (by decide +kernel))) (by decide +kernel), by decide +kernel, by decide +kernel⟩
abbrev mX5_weigh : sm_Mu := (yX5_weigh, cX5_weigh, 9, none)
theorem meX5_weigh : sm_Me mX5_weigh 4 := ⟨lw_good_in (List.mem_append_right _ (List.mem_of_getElem? (i := 559) (by decide +kernel))) (by decide +kernel), lw_good_in (List.mem_append_right _ (List.mem_of_getElem? (i := 9) (by decide +kernel))) (by decide +kernel), by decide +kernel, by decide +kernel⟩
abbrev mX8_all : sm_Mu := (yX8_all, cX8_all, 2, (some .int))
theorem meX8_all : sm_Me mX8_all 1 := ⟨lw_good_in (List.mem_append_right _ (List.mem_of_getElem? (i := 565) (by decide +kernel))) (by decide +kernel), lw_good_in (List.mem_append_right _ (List.mem_of_getElem? (i := 1) (by decide +kernel))) (by decide +kernel), by decide +kernel, by decide +kernel⟩
abbrev mX1_strongest : sm_Mu := (yX1_strongest, cX1_strongest, 4, (some .int))
theorem meX1_strongest : sm_Me mX1_strongest 0 := ⟨lw_good_in (List.mem_append_right _ (List.mem_of_getElem? (i := 569) (by decide +kernel))) (by decide +kernel), lw_good_in (List.mem_append_right _ (List.mem_of_getElem? (i := 4) (by decide +kernel))) (by decide +kernel), by decide +kernel, by decide +kernel⟩
abbrev mX1_meanStrength : sm_Mu := (yX1_meanStrength, cX1_meanStrength, 4, (some .float))
theorem meX1_meanStrength : sm_Me mX1_meanStrength 0 := ⟨lw_good_in (List.mem_append_right _ (List.mem_of_getElem? (i := 574) (by decide +kernel))) (by decide +kernel), lw_good_in (List.mem_append_right _ (List.mem_of_getElem? (i := 4) (by decide +kernel))) (by decide +kernel), by decide +kernel, by decide +kernel⟩
abbrev mX8_sees : sm_Mu := (yX8_sees, cX8_sees, 3, (some .int))
theorem meX8_sees : sm_Me mX8_sees 2 := ⟨lw_good_in (List.mem_append_right _ (List.mem_of_getElem? (i := 578) (by decide +kernel))) (by decide +kernel), lw_good_in (List.mem_append_right _ (List.mem_of_getElem? (i := 1) (by decide +kernel))) (by decide +kernel), by decide +kernel, by decide +kernel⟩
abbrev mX6_add : sm_Mu := (yX6_add, cX6_add, 3, (some .boolean))
theorem meX6_add : sm_Me mX6_add 2 := ⟨lw_good_in (List.mem_append_right _ (List.mem_of_getElem? (i := 583) (by decide +kernel))) (by decide +kernel), lw_good_in (List.mem_append_right _ (List.mem_of_getElem? (i := 7) (by decide +kernel))) (by decide +kernel), by decide +kernel, by decide +kernel⟩
abbrev mX8_forget : sm_Mu := (yX8_forget, cX8_forget, 2, (some .int))
theorem meX8_forget : sm_Me mX8_forget 0 := ⟨lw_good_in (List.mem_append_right _ (List.mem_of_getElem? (i := 587) (by decide +kernel))) (by decide +kernel), lw_good_in (List.mem_append_right _ (List.mem_of_getElem? (i := 1) (by decide +kernel))) (by decide +kernel), by decide +kernel, by decide +kernel⟩
abbrev mX8_which : sm_Mu := (yX8_which, cX8_which, 3, (some .int))
theorem meX8_which : sm_Me mX8_which 0 := ⟨lw_good_in (List.mem_append_right _ (List.mem_of_getElem? (i := 591) (by decide +kernel))) (by decide +kernel), lw_good_in (List.mem_append_right _ (List.mem_of_getElem? (i := 1) (by decide +kernel))) (by decide +kernel), by decide +kernel, by decide +kernel⟩
abbrev mX6_fits : sm_Mu := (yX6_fits, cX6_fits, 3, (some .boolean))
theorem meX6_fits : sm_Me mX6_fits 1 := ⟨lw_good_in (List.mem_append_right _ (List.mem_of_getElem? (i := 595) (by decide +kernel))) (by decide +kernel), lw_good_in (List.mem_append_right _ (List.mem_of_getElem? (i := 7) (by decide +kernel))) (by decide +kernel), by decide +kernel, by decide +kernel⟩
abbrev mX8_ask : sm_Mu := (yX8_ask, cX8_ask, 6, (some .int))
theorem meX8_ask : sm_Me mX8_ask 0 := ⟨lw_good_in (List.mem_append_right _ (List.mem_of_getElem? (i := 600) (by decide +kernel))) (by decide +kernel), lw_good_in (List.mem_append_right _ (List.mem_of_getElem? (i := 1) (by decide +kernel))) (by decide +kernel), by decide +kernel, by decide +kernel⟩
abbrev mJ6_bitCount_0f7a4 : sm_Mu := (yJ6_bitCount_0f7a4, cJ6_bitCount_0f7a4, 1, (some .int))
theorem meJ6_bitCount_0f7a4 : sm_Me mJ6_bitCount_0f7a4 1 := ⟨lw_good_in (List.mem_append_right _ (List.mem_of_getElem? (i := 604) (by decide +kernel))) (by decide +kernel), lw_good_in (List.mem_append_right _ (List.mem_of_getElem? (i := 16) (by decide +kernel))) (by decide +kernel), by decide +kernel, by decide +kernel⟩
abbrev mX8_startAsking : sm_Mu := (yX8_startAsking, cX8_startAsking, 2, none)
theorem meX8_startAsking : sm_Me mX8_startAsking 0 := ⟨lw_good_in (List.mem_append_right _ (List.mem_of_getElem? (i := 611) (by decide +kernel))) (by decide +kernel), lw_good_in (List.mem_append_right _ (List.mem_of_getElem? (i := 1) (by decide +kernel))) (by decide +kernel), by decide +kernel, by decide +kernel⟩
abbrev mX8_mostAlike : sm_Mu := (yX8_mostAlike, cX8_mostAlike, 6, (some .int))
theorem meX8_mostAlike : sm_Me mX8_mostAlike 1 := ⟨lw_good_in (List.mem_append_right _ (List.mem_of_getElem? (i := 615) (by decide +kernel))) (by decide +kernel), lw_good_in (List.mem_append_right _ (List.mem_of_getElem? (i := 1) (by decide +kernel))) (by decide +kernel), by decide +kernel, by decide +kernel⟩
abbrev mX8_raiseAskedDips : sm_Mu := (yX8_raiseAskedDips, cX8_raiseAskedDips, 5, (some .boolean))
theorem meX8_raiseAskedDips : sm_Me mX8_raiseAskedDips 1 := ⟨lw_good_in (List.mem_append_right _ (List.mem_of_getElem? (i := 620) (by decide +kernel))) (by decide +kernel), lw_good_in (List.mem_append_right _ (List.mem_of_getElem? (i := 1) (by decide +kernel))) (by decide +kernel), by decide +kernel, by decide +kernel⟩
abbrev mX8_keep : sm_Mu := (yX8_keep, cX8_keep, 2, (some .int))
theorem meX8_keep : sm_Me mX8_keep 1 := ⟨lw_good_in (List.mem_append_right _ (List.mem_of_getElem? (i := 625) (by decide +kernel))) (by decide +kernel), lw_good_in (List.mem_append_right _ (List.mem_of_getElem? (i := 1) (by decide +kernel))) (by decide +kernel), by decide +kernel, by decide +kernel⟩
abbrev mX8_back : sm_Mu := (yX8_back, cX8_back, 2, (some .int))
theorem meX8_back : sm_Me mX8_back 1 := ⟨lw_good_in (List.mem_append_right _ (List.mem_of_getElem? (i := 629) (by decide +kernel))) (by decide +kernel), lw_good_in (List.mem_append_right _ (List.mem_of_getElem? (i := 1) (by decide +kernel))) (by decide +kernel), by decide +kernel, by decide +kernel⟩
abbrev mX8_count : sm_Mu := (yX8_count, cX8_count, 2, (some .int))
theorem meX8_count : sm_Me mX8_count 1 := ⟨lw_good_in (List.mem_append_right _ (List.mem_of_getElem? (i := 633) (by decide +kernel))) (by decide +kernel), lw_good_in (List.mem_append_right _ (List.mem_of_getElem? (i := 1) (by decide +kernel))) (by decide +kernel), by decide +kernel, by decide +kernel⟩
abbrev mX1_allWine : sm_Mu := (yX1_allWine, cX1_allWine, 3, (some .int))
theorem meX1_allWine : sm_Me mX1_allWine 0 := ⟨lw_good_in (List.mem_append_right _ (List.mem_of_getElem? (i := 637) (by decide +kernel))) (by decide +kernel), lw_good_in (List.mem_append_right _ (List.mem_of_getElem? (i := 4) (by decide +kernel))) (by decide +kernel), by decide +kernel, by decide +kernel⟩
abbrev mX1_allSpirit : sm_Mu := (yX1_allSpirit, cX1_allSpirit, 3, (some .int))
theorem meX1_allSpirit : sm_Me mX1_allSpirit 0 := ⟨lw_good_in (List.mem_append_right _ (List.mem_of_getElem? (i := 641) (by decide +kernel))) (by decide +kernel), lw_good_in (List.mem_append_right _ (List.mem_of_getElem? (i := 4) (by decide +kernel))) (by decide +kernel), by decide +kernel, by decide +kernel⟩
abbrev mX9_init : sm_Mu := (yX9_init, cX9_init, 1, none)
theorem meX9_init : sm_Me mX9_init 0 := ⟨lw_good_in (List.mem_append_right _ (List.mem_of_getElem? (i := 646) (by decide +kernel))) (by decide +kernel), lw_good_in (List.mem_append_right _ (List.mem_of_getElem? (i := 10) (by decide +kernel))) (by decide +kernel), by decide +kernel, by decide +kernel⟩
abbrev mX9_type : sm_Mu := (yX9_type, cX9_type, 2, (some .int))
theorem meX9_type : sm_Me mX9_type 1 := ⟨lw_good_in (List.mem_append_right _ (List.mem_of_getElem? (i := 715) (by decide +kernel))) (by decide +kernel), lw_good_in (List.mem_append_right _ (List.mem_of_getElem? (i := 10) (by decide +kernel))) (by decide +kernel), by decide +kernel, by decide +kernel⟩
abbrev mX9_in : sm_Mu := (yX9_in, cX9_in, 3, (some .boolean))
theorem meX9_in : sm_Me mX9_in 3 := ⟨lw_good_in (List.mem_append_right _ (List.mem_of_getElem? (i := 718) (by decide +kernel))) (by decide +kernel), lw_good_in (List.mem_append_right _ (List.mem_of_getElem? (i := 10) (by decide +kernel))) (by decide +kernel), by decide +kernel, by decide +kernel⟩
abbrev mX9_clear : sm_Mu := (yX9_clear, cX9_clear, 2, (some .int))
theorem meX9_clear : sm_Me mX9_clear 0 := ⟨lw_good_in (List.mem_append_right _ (List.mem_of_getElem? (i := 722) (by decide +kernel))) (by decide +kernel), lw_good_in (List.mem_append_right _ (List.mem_of_getElem? (i := 10) (by decide +kernel))) (by decide +kernel), by decide +kernel, by decide +kernel⟩
abbrev mX9_tells : sm_Mu := (yX9_tells, cX9_tells, 3, (some .int))
theorem meX9_tells : sm_Me mX9_tells 0 := ⟨lw_good_in (List.mem_append_right _ (List.mem_of_getElem? (i := 726) (by decide +kernel))) (by decide +kernel), lw_good_in (List.mem_append_right _ (List.mem_of_getElem? (i := 10) (by decide +kernel))) (by decide +kernel), by decide +kernel, by decide +kernel⟩
abbrev mX9_reads : sm_Mu := (yX9_reads, cX9_reads, 2, (some .int))
theorem meX9_reads : sm_Me mX9_reads 0 := ⟨lw_good_in (List.mem_append_right _ (List.mem_of_getElem? (i := 730) (by decide +kernel))) (by decide +kernel), lw_good_in (List.mem_append_right _ (List.mem_of_getElem? (i := 10) (by decide +kernel))) (by decide +kernel), by decide +kernel, by decide +kernel⟩
abbrev mX9_steps : sm_Mu := (yX9_steps, cX9_steps, 1, none)
theorem meX9_steps : sm_Me mX9_steps 0 := ⟨lw_good_in (List.mem_append_right _ (List.mem_of_getElem? (i := 734) (by decide +kernel))) (by decide +kernel), lw_good_in (List.mem_append_right _ (List.mem_of_getElem? (i := 10) (by decide +kernel))) (by decide +kernel), by decide +kernel, by decide +kernel⟩
abbrev mX9_at : sm_Mu := (yX9_at, cX9_at, 2, (some .int))
theorem meX9_at : sm_Me mX9_at 1 := ⟨lw_good_in (List.mem_append_right _ (List.mem_of_getElem? (i := 738) (by decide +kernel))) (by decide +kernel), lw_good_in (List.mem_append_right _ (List.mem_of_getElem? (i := 10) (by decide +kernel))) (by decide +kernel), by decide +kernel, by decide +kernel⟩
abbrev mX9_takesFigures : sm_Mu := (yX9_takesFigures, cX9_takesFigures, 1, none)
theorem meX9_takesFigures : sm_Me mX9_takesFigures 0 := ⟨lw_good_in (List.mem_append_right _ (List.mem_of_getElem? (i := 742) (by decide +kernel))) (by decide +kernel), lw_good_in (List.mem_append_right _ (List.mem_of_getElem? (i := 10) (by decide +kernel))) (by decide +kernel), by decide +kernel, by decide +kernel⟩
abbrev mX9_isCaskWord : sm_Mu := (yX9_isCaskWord, cX9_isCaskWord, 1, (some .boolean))
theorem meX9_isCaskWord : sm_Me mX9_isCaskWord 0 := ⟨lw_good_in (List.mem_append_right _ (List.mem_of_getElem? (i := 746) (by decide +kernel))) (by decide +kernel), lw_good_in (List.mem_append_right _ (List.mem_of_getElem? (i := 10) (by decide +kernel))) (by decide +kernel), by decide +kernel, by decide +kernel⟩
abbrev mX9_isStandsWord : sm_Mu := (yX9_isStandsWord, cX9_isStandsWord, 1, (some .boolean))
theorem meX9_isStandsWord : sm_Me mX9_isStandsWord 0 := ⟨lw_good_in (List.mem_append_right _ (List.mem_of_getElem? (i := 750) (by decide +kernel))) (by decide +kernel), lw_good_in (List.mem_append_right _ (List.mem_of_getElem? (i := 10) (by decide +kernel))) (by decide +kernel), by decide +kernel, by decide +kernel⟩
abbrev mX9_readsCask : sm_Mu := (yX9_readsCask, cX9_readsCask, 5, none)
theorem meX9_readsCask : sm_Me mX9_readsCask 0 := ⟨lw_good_in (List.mem_append_right _ (List.mem_of_getElem? (i := 754) (by decide +kernel))) (by decide +kernel), lw_good_in (List.mem_append_right _ (List.mem_of_getElem? (i := 10) (by decide +kernel))) (by decide +kernel), by decide +kernel, by decide +kernel⟩
abbrev mX9_takes : sm_Mu := (yX9_takes, cX9_takes, 2, none)
theorem meX9_takes : sm_Me mX9_takes 1 := ⟨lw_good_in (List.mem_append_right _ (List.mem_of_getElem? (i := 758) (by decide +kernel))) (by decide +kernel), lw_good_in (List.mem_append_right _ (List.mem_of_getElem? (i := 10) (by decide +kernel))) (by decide +kernel), by decide +kernel, by decide +kernel⟩
abbrev mX9_numberIn : sm_Mu := (yX9_numberIn, cX9_numberIn, 4, (some .int))
theorem meX9_numberIn : sm_Me mX9_numberIn 2 := ⟨lw_good_in (List.mem_append_right _ (List.mem_of_getElem? (i := 762) (by decide +kernel))) (by decide +kernel), lw_good_in (List.mem_append_right _ (List.mem_of_getElem? (i := 10) (by decide +kernel))) (by decide +kernel), by decide +kernel, by decide +kernel⟩
abbrev mX9_readsStands : sm_Mu := (yX9_readsStands, cX9_readsStands, 2, none)
theorem meX9_readsStands : sm_Me mX9_readsStands 0 := ⟨lw_good_in (List.mem_append_right _ (List.mem_of_getElem? (i := 766) (by decide +kernel))) (by decide +kernel), lw_good_in (List.mem_append_right _ (List.mem_of_getElem? (i := 10) (by decide +kernel))) (by decide +kernel), by decide +kernel, by decide +kernel⟩
abbrev mX9_notes : sm_Mu := (yX9_notes, cX9_notes, 2, none)
theorem meX9_notes : sm_Me mX9_notes 0 := ⟨lw_good_in (List.mem_append_right _ (List.mem_of_getElem? (i := 770) (by decide +kernel))) (by decide +kernel), lw_good_in (List.mem_append_right _ (List.mem_of_getElem? (i := 10) (by decide +kernel))) (by decide +kernel), by decide +kernel, by decide +kernel⟩
abbrev mX9_fills : sm_Mu := (yX9_fills, cX9_fills, 4, (some .int))
theorem meX9_fills : sm_Me mX9_fills 3 := ⟨lw_good_in (List.mem_append_right _ (List.mem_of_getElem? (i := 774) (by decide +kernel))) (by decide +kernel), lw_good_in (List.mem_append_right _ (List.mem_of_getElem? (i := 10) (by decide +kernel))) (by decide +kernel), by decide +kernel, by decide +kernel⟩
abbrev mX9_isCask : sm_Mu := (yX9_isCask, cX9_isCask, 2, (some .boolean))
theorem meX9_isCask : sm_Me mX9_isCask 1 := ⟨lw_good_in (List.mem_append_right _ (List.mem_of_getElem? (i := 778) (by decide +kernel))) (by decide +kernel), lw_good_in (List.mem_append_right _ (List.mem_of_getElem? (i := 10) (by decide +kernel))) (by decide +kernel), by decide +kernel, by decide +kernel⟩
abbrev mX9_hold : sm_Mu := (yX9_hold, cX9_hold, 2, (some .int))
theorem meX9_hold : sm_Me mX9_hold 1 := ⟨lw_good_in (List.mem_append_right _ (List.mem_of_getElem? (i := 782) (by decide +kernel))) (by decide +kernel), lw_good_in (List.mem_append_right _ (List.mem_of_getElem? (i := 10) (by decide +kernel))) (by decide +kernel), by decide +kernel, by decide +kernel⟩
abbrev mX9_laysNow : sm_Mu := (yX9_laysNow, cX9_laysNow, 2, none)
theorem meX9_laysNow : sm_Me mX9_laysNow 1 := ⟨lw_good_in (List.mem_append_right _ (List.mem_of_getElem? (i := 786) (by decide +kernel))) (by decide +kernel), lw_good_in (List.mem_append_right _ (List.mem_of_getElem? (i := 10) (by decide +kernel))) (by decide +kernel), by decide +kernel, by decide +kernel⟩
abbrev mX9_of : sm_Mu := (yX9_of, cX9_of, 3, (some .int))
theorem meX9_of : sm_Me mX9_of 2 := ⟨lw_good_in (List.mem_append_right _ (List.mem_of_getElem? (i := 790) (by decide +kernel))) (by decide +kernel), lw_good_in (List.mem_append_right _ (List.mem_of_getElem? (i := 10) (by decide +kernel))) (by decide +kernel), by decide +kernel, by decide +kernel⟩
abbrev mX9_lays : sm_Mu := (yX9_lays, cX9_lays, 6, none)
theorem meX9_lays : sm_Me mX9_lays 2 := ⟨lw_good_in (List.mem_append_right _ (List.mem_of_getElem? (i := 794) (by decide +kernel))) (by decide +kernel), lw_good_in (List.mem_append_right _ (List.mem_of_getElem? (i := 10) (by decide +kernel))) (by decide +kernel), by decide +kernel, by decide +kernel⟩
abbrev mX9_cellsOf : sm_Mu := (yX9_cellsOf, cX9_cellsOf, 8, (some .int))
theorem meX9_cellsOf : sm_Me mX9_cellsOf 3 := ⟨lw_good_in (List.mem_append_right _ (List.mem_of_getElem? (i := 798) (by decide +kernel))) (by decide +kernel), lw_good_in (List.mem_append_right _ (List.mem_of_getElem? (i := 10) (by decide +kernel))) (by decide +kernel), by decide +kernel, by decide +kernel⟩
abbrev mX9_radius : sm_Mu := (yX9_radius, cX9_radius, 5, (some .int))
theorem meX9_radius : sm_Me mX9_radius 2 := ⟨lw_good_in (List.mem_append_right _ (List.mem_of_getElem? (i := 802) (by decide +kernel))) (by decide +kernel), lw_good_in (List.mem_append_right _ (List.mem_of_getElem? (i := 10) (by decide +kernel))) (by decide +kernel), by decide +kernel, by decide +kernel⟩
abbrev mX9_draws : sm_Mu := (yX9_draws, cX9_draws, 4, (some .int))
theorem meX9_draws : sm_Me mX9_draws 2 := ⟨lw_good_in (List.mem_append_right _ (List.mem_of_getElem? (i := 806) (by decide +kernel))) (by decide +kernel), lw_good_in (List.mem_append_right _ (List.mem_of_getElem? (i := 10) (by decide +kernel))) (by decide +kernel), by decide +kernel, by decide +kernel⟩
abbrev mX9_goes : sm_Mu := (yX9_goes, cX9_goes, 4, (some .int))
theorem meX9_goes : sm_Me mX9_goes 2 := ⟨lw_good_in (List.mem_append_right _ (List.mem_of_getElem? (i := 810) (by decide +kernel))) (by decide +kernel), lw_good_in (List.mem_append_right _ (List.mem_of_getElem? (i := 10) (by decide +kernel))) (by decide +kernel), by decide +kernel, by decide +kernel⟩
abbrev mX9_pours : sm_Mu := (yX9_pours, cX9_pours, 4, (some .int))
theorem meX9_pours : sm_Me mX9_pours 3 := ⟨lw_good_in (List.mem_append_right _ (List.mem_of_getElem? (i := 814) (by decide +kernel))) (by decide +kernel), lw_good_in (List.mem_append_right _ (List.mem_of_getElem? (i := 10) (by decide +kernel))) (by decide +kernel), by decide +kernel, by decide +kernel⟩
abbrev mX9_turnsOver : sm_Mu := (yX9_turnsOver, cX9_turnsOver, 2, (some .int))
theorem meX9_turnsOver : sm_Me mX9_turnsOver 1 := ⟨lw_good_in (List.mem_append_right _ (List.mem_of_getElem? (i := 818) (by decide +kernel))) (by decide +kernel), lw_good_in (List.mem_append_right _ (List.mem_of_getElem? (i := 10) (by decide +kernel))) (by decide +kernel), by decide +kernel, by decide +kernel⟩
abbrev mX9_undo : sm_Mu := (yX9_undo, cX9_undo, 2, (some .int))
theorem meX9_undo : sm_Me mX9_undo 0 := ⟨lw_good_in (List.mem_append_right _ (List.mem_of_getElem? (i := 822) (by decide +kernel))) (by decide +kernel), lw_good_in (List.mem_append_right _ (List.mem_of_getElem? (i := 10) (by decide +kernel))) (by decide +kernel), by decide +kernel, by decide +kernel⟩
abbrev mX9_cask : sm_Mu := (yX9_cask, cX9_cask, 3, (some .int))
theorem meX9_cask : sm_Me mX9_cask 2 := ⟨lw_good_in (List.mem_append_right _ (List.mem_of_getElem? (i := 826) (by decide +kernel))) (by decide +kernel), lw_good_in (List.mem_append_right _ (List.mem_of_getElem? (i := 10) (by decide +kernel))) (by decide +kernel), by decide +kernel, by decide +kernel⟩
abbrev mX9_dipOf : sm_Mu := (yX9_dipOf, cX9_dipOf, 3, (some .int))
theorem meX9_dipOf : sm_Me mX9_dipOf 1 := ⟨lw_good_in (List.mem_append_right _ (List.mem_of_getElem? (i := 830) (by decide +kernel))) (by decide +kernel), lw_good_in (List.mem_append_right _ (List.mem_of_getElem? (i := 10) (by decide +kernel))) (by decide +kernel), by decide +kernel, by decide +kernel⟩
abbrev mX9_strength : sm_Mu := (yX9_strength, cX9_strength, 2, (some .float))
theorem meX9_strength : sm_Me mX9_strength 1 := ⟨lw_good_in (List.mem_append_right _ (List.mem_of_getElem? (i := 835) (by decide +kernel))) (by decide +kernel), lw_good_in (List.mem_append_right _ (List.mem_of_getElem? (i := 10) (by decide +kernel))) (by decide +kernel), by decide +kernel, by decide +kernel⟩
abbrev mX9_slice : sm_Mu := (yX9_slice, cX9_slice, 4, (some .int))
theorem meX9_slice : sm_Me mX9_slice 3 := ⟨lw_good_in (List.mem_append_right _ (List.mem_of_getElem? (i := 839) (by decide +kernel))) (by decide +kernel), lw_good_in (List.mem_append_right _ (List.mem_of_getElem? (i := 10) (by decide +kernel))) (by decide +kernel), by decide +kernel, by decide +kernel⟩
abbrev mX9_under : sm_Mu := (yX9_under, cX9_under, 3, (some .int))
theorem meX9_under : sm_Me mX9_under 2 := ⟨lw_good_in (List.mem_append_right _ (List.mem_of_getElem? (i := 843) (by decide +kernel))) (by decide +kernel), lw_good_in (List.mem_append_right _ (List.mem_of_getElem? (i := 10) (by decide +kernel))) (by decide +kernel), by decide +kernel, by decide +kernel⟩
abbrev mX9_isHeight : sm_Mu := (yX9_isHeight, cX9_isHeight, 3, (some .boolean))
theorem meX9_isHeight : sm_Me mX9_isHeight 2 := ⟨lw_good_in (List.mem_append_right _ (List.mem_of_getElem? (i := 847) (by decide +kernel))) (by decide +kernel), lw_good_in (List.mem_append_right _ (List.mem_of_getElem? (i := 10) (by decide +kernel))) (by decide +kernel), by decide +kernel, by decide +kernel⟩
abbrev mX9_dip : sm_Mu := (yX9_dip, cX9_dip, 3, (some .int))
theorem meX9_dip : sm_Me mX9_dip 2 := ⟨lw_good_in (List.mem_append_right _ (List.mem_of_getElem? (i := 851) (by decide +kernel))) (by decide +kernel), lw_good_in (List.mem_append_right _ (List.mem_of_getElem? (i := 10) (by decide +kernel))) (by decide +kernel), by decide +kernel, by decide +kernel⟩
abbrev mX9_stick : sm_Mu := (yX9_stick, cX9_stick, 6, (some .int))
theorem meX9_stick : sm_Me mX9_stick 3 := ⟨lw_good_in (List.mem_append_right _ (List.mem_of_getElem? (i := 855) (by decide +kernel))) (by decide +kernel), lw_good_in (List.mem_append_right _ (List.mem_of_getElem? (i := 10) (by decide +kernel))) (by decide +kernel), by decide +kernel, by decide +kernel⟩
abbrev mX9_known : sm_Mu := (yX9_known, cX9_known, 5, (some .int))
theorem meX9_known : sm_Me mX9_known 3 := ⟨lw_good_in (List.mem_append_right _ (List.mem_of_getElem? (i := 859) (by decide +kernel))) (by decide +kernel), lw_good_in (List.mem_append_right _ (List.mem_of_getElem? (i := 10) (by decide +kernel))) (by decide +kernel), by decide +kernel, by decide +kernel⟩
abbrev mX9_shares : sm_Mu := (yX9_shares, cX9_shares, 11, (some .int))
theorem meX9_shares : sm_Me mX9_shares 3 := ⟨lw_good_in (List.mem_append_right _ (List.mem_of_getElem? (i := 863) (by decide +kernel))) (by decide +kernel), lw_good_in (List.mem_append_right _ (List.mem_of_getElem? (i := 10) (by decide +kernel))) (by decide +kernel), by decide +kernel, by decide +kernel⟩
abbrev mX9_mostBy : sm_Mu := (yX9_mostBy, cX9_mostBy, 6, (some .int))
theorem meX9_mostBy : sm_Me mX9_mostBy 3 := ⟨lw_good_in (List.mem_append_right _ (List.mem_of_getElem? (i := 867) (by decide +kernel))) (by decide +kernel), lw_good_in (List.mem_append_right _ (List.mem_of_getElem? (i := 10) (by decide +kernel))) (by decide +kernel), by decide +kernel, by decide +kernel⟩
abbrev mX9_all : sm_Mu := (yX9_all, cX9_all, 2, (some .int))
theorem meX9_all : sm_Me mX9_all 1 := ⟨lw_good_in (List.mem_append_right _ (List.mem_of_getElem? (i := 871) (by decide +kernel))) (by decide +kernel), lw_good_in (List.mem_append_right _ (List.mem_of_getElem? (i := 10) (by decide +kernel))) (by decide +kernel), by decide +kernel, by decide +kernel⟩
abbrev mX9_strongest : sm_Mu := (yX9_strongest, cX9_strongest, 3, (some .int))
theorem meX9_strongest : sm_Me mX9_strongest 0 := ⟨lw_good_in (List.mem_append_right _ (List.mem_of_getElem? (i := 875) (by decide +kernel))) (by decide +kernel), lw_good_in (List.mem_append_right _ (List.mem_of_getElem? (i := 10) (by decide +kernel))) (by decide +kernel), by decide +kernel, by decide +kernel⟩
abbrev mX9_mean : sm_Mu := (yX9_mean, cX9_mean, 4, (some .int))
theorem meX9_mean : sm_Me mX9_mean 0 := ⟨lw_good_in (List.mem_append_right _ (List.mem_of_getElem? (i := 879) (by decide +kernel))) (by decide +kernel), lw_good_in (List.mem_append_right _ (List.mem_of_getElem? (i := 10) (by decide +kernel))) (by decide +kernel), by decide +kernel, by decide +kernel⟩
abbrev mX9_sees : sm_Mu := (yX9_sees, cX9_sees, 3, (some .int))
theorem meX9_sees : sm_Me mX9_sees 2 := ⟨lw_good_in (List.mem_append_right _ (List.mem_of_getElem? (i := 883) (by decide +kernel))) (by decide +kernel), lw_good_in (List.mem_append_right _ (List.mem_of_getElem? (i := 10) (by decide +kernel))) (by decide +kernel), by decide +kernel, by decide +kernel⟩
abbrev mX9_forget : sm_Mu := (yX9_forget, cX9_forget, 2, (some .int))
theorem meX9_forget : sm_Me mX9_forget 0 := ⟨lw_good_in (List.mem_append_right _ (List.mem_of_getElem? (i := 888) (by decide +kernel))) (by decide +kernel), lw_good_in (List.mem_append_right _ (List.mem_of_getElem? (i := 10) (by decide +kernel))) (by decide +kernel), by decide +kernel, by decide +kernel⟩
abbrev mX9_which : sm_Mu := (yX9_which, cX9_which, 1, (some .int))
theorem meX9_which : sm_Me mX9_which 0 := ⟨lw_good_in (List.mem_append_right _ (List.mem_of_getElem? (i := 892) (by decide +kernel))) (by decide +kernel), lw_good_in (List.mem_append_right _ (List.mem_of_getElem? (i := 10) (by decide +kernel))) (by decide +kernel), by decide +kernel, by decide +kernel⟩
abbrev mX9_suspects : sm_Mu := (yX9_suspects, cX9_suspects, 5, (some .int))
theorem meX9_suspects : sm_Me mX9_suspects 0 := ⟨lw_good_in (List.mem_append_right _ (List.mem_of_getElem? (i := 896) (by decide +kernel))) (by decide +kernel), lw_good_in (List.mem_append_right _ (List.mem_of_getElem? (i := 10) (by decide +kernel))) (by decide +kernel), by decide +kernel, by decide +kernel⟩
abbrev mX9_ask : sm_Mu := (yX9_ask, cX9_ask, 6, (some .int))
theorem meX9_ask : sm_Me mX9_ask 0 := ⟨lw_good_in (List.mem_append_right _ (List.mem_of_getElem? (i := 900) (by decide +kernel))) (by decide +kernel), lw_good_in (List.mem_append_right _ (List.mem_of_getElem? (i := 10) (by decide +kernel))) (by decide +kernel), by decide +kernel, by decide +kernel⟩
abbrev mX9_laysDips : sm_Mu := (yX9_laysDips, cX9_laysDips, 3, none)
theorem meX9_laysDips : sm_Me mX9_laysDips 0 := ⟨lw_good_in (List.mem_append_right _ (List.mem_of_getElem? (i := 904) (by decide +kernel))) (by decide +kernel), lw_good_in (List.mem_append_right _ (List.mem_of_getElem? (i := 10) (by decide +kernel))) (by decide +kernel), by decide +kernel, by decide +kernel⟩
abbrev mX9_alike : sm_Mu := (yX9_alike, cX9_alike, 7, (some .int))
theorem meX9_alike : sm_Me mX9_alike 2 := ⟨lw_good_in (List.mem_append_right _ (List.mem_of_getElem? (i := 908) (by decide +kernel))) (by decide +kernel), lw_good_in (List.mem_append_right _ (List.mem_of_getElem? (i := 10) (by decide +kernel))) (by decide +kernel), by decide +kernel, by decide +kernel⟩
abbrev mX9_keep : sm_Mu := (yX9_keep, cX9_keep, 3, (some .int))
theorem meX9_keep : sm_Me mX9_keep 1 := ⟨lw_good_in (List.mem_append_right _ (List.mem_of_getElem? (i := 912) (by decide +kernel))) (by decide +kernel), lw_good_in (List.mem_append_right _ (List.mem_of_getElem? (i := 10) (by decide +kernel))) (by decide +kernel), by decide +kernel, by decide +kernel⟩
abbrev mX9_back : sm_Mu := (yX9_back, cX9_back, 3, (some .int))
theorem meX9_back : sm_Me mX9_back 1 := ⟨lw_good_in (List.mem_append_right _ (List.mem_of_getElem? (i := 916) (by decide +kernel))) (by decide +kernel), lw_good_in (List.mem_append_right _ (List.mem_of_getElem? (i := 10) (by decide +kernel))) (by decide +kernel), by decide +kernel, by decide +kernel⟩
abbrev mX9_count : sm_Mu := (yX9_count, cX9_count, 2, (some .int))
theorem meX9_count : sm_Me mX9_count 1 := ⟨lw_good_in (List.mem_append_right _ (List.mem_of_getElem? (i := 920) (by decide +kernel))) (by decide +kernel), lw_good_in (List.mem_append_right _ (List.mem_of_getElem? (i := 10) (by decide +kernel))) (by decide +kernel), by decide +kernel, by decide +kernel⟩
abbrev mX9_sum : sm_Mu := (yX9_sum, cX9_sum, 4, (some .int))
theorem meX9_sum : sm_Me mX9_sum 1 := ⟨lw_good_in (List.mem_append_right _ (List.mem_of_getElem? (i := 924) (by decide +kernel))) (by decide +kernel), lw_good_in (List.mem_append_right _ (List.mem_of_getElem? (i := 10) (by decide +kernel))) (by decide +kernel), by decide +kernel, by decide +kernel⟩
theorem imX8_init : Cond.instanceMethod mX8_init.1 ∈ lw_good := lw_good_in (List.mem_append_right _ (List.mem_of_getElem? (i := 20) (by decide +kernel))) (by decide +kernel)
theorem imX7_init : Cond.instanceMethod mX7_init.1 ∈ lw_good := lw_good_in (List.mem_append_right _ (List.mem_of_getElem? (i := 28) (by decide +kernel))) (by decide +kernel)
theorem imX4_init : Cond.instanceMethod mX4_init.1 ∈ lw_good := lw_good_in (List.mem_append_right _ (List.mem_of_getElem? (i := 55) (by decide +kernel))) (by decide +kernel)
theorem imX1_init : Cond.instanceMethod mX1_init.1 ∈ lw_good := lw_good_in (List.mem_append_right _ (List.mem_of_getElem? (i := 61) (by decide +kernel))) (by decide +kernel)
theorem imX0_init : Cond.instanceMethod mX0_init.1 ∈ lw_good := lw_good_in (List.mem_append_right _ (List.mem_of_getElem? (i := 68) (by decide +kernel))) (by decide +kernel)
theorem imX3_init : Cond.instanceMethod mX3_init.1 ∈ lw_good := lw_good_in (List.mem_append_right _ (List.mem_of_getElem? (i := 133) (by decide +kernel))) (by decide +kernel)
theorem imX6_init : Cond.instanceMethod mX6_init.1 ∈ lw_good := lw_good_in (List.mem_append_right _ (List.mem_of_getElem? (i := 153) (by decide +kernel))) (by decide +kernel)
theorem imX2_init : Cond.instanceMethod mX2_init.1 ∈ lw_good := lw_good_in (List.mem_append_right _ (List.mem_of_getElem? (i := 172) (by decide +kernel))) (by decide +kernel)
theorem imX5_init : Cond.instanceMethod mX5_init.1 ∈ lw_good := lw_good_in (List.mem_append_right _ (List.mem_of_getElem? (i := 197) (by decide +kernel))) (by decide +kernel)
theorem imX8_type : Cond.instanceMethod mX8_type.1 ∈ lw_good := lw_good_in (List.mem_append_right _ (List.mem_of_getElem? (i := 256) (by decide +kernel))) (by decide +kernel)
theorem seX8_type : Cond.selects mX8_type.1.cls mX8_type.1 mX8_type.1 ∈ lw_good := lw_good_in (List.mem_append_right _ (List.mem_of_getElem? (i := 257) (by decide +kernel))) (by decide +kernel)
theorem imX7_add : Cond.instanceMethod mX7_add.1 ∈ lw_good := lw_good_in (List.mem_append_right _ (List.mem_of_getElem? (i := 260) (by decide +kernel))) (by decide +kernel)
theorem seX7_add : Cond.selects mX7_add.1.cls mX7_add.1 mX7_add.1 ∈ lw_good := lw_good_in (List.mem_append_right _ (List.mem_of_getElem? (i := 261) (by decide +kernel))) (by decide +kernel)
theorem imX8_clear : Cond.instanceMethod mX8_clear.1 ∈ lw_good := lw_good_in (List.mem_append_right _ (List.mem_of_getElem? (i := 264) (by decide +kernel))) (by decide +kernel)
theorem seX8_clear : Cond.selects mX8_clear.1.cls mX8_clear.1 mX8_clear.1 ∈ lw_good := lw_good_in (List.mem_append_right _ (List.mem_of_getElem? (i := 265) (by decide +kernel))) (by decide +kernel)
theorem imX8_tells : Cond.instanceMethod mX8_tells.1 ∈ lw_good := lw_good_in (List.mem_append_right _ (List.mem_of_getElem? (i := 268) (by decide +kernel))) (by decide +kernel)
theorem seX8_tells : Cond.selects mX8_tells.1.cls mX8_tells.1 mX8_tells.1 ∈ lw_good := lw_good_in (List.mem_append_right _ (List.mem_of_getElem? (i := 269) (by decide +kernel))) (by decide +kernel)
theorem imX4_readAll : Cond.instanceMethod mX4_readAll.1 ∈ lw_good := lw_good_in (List.mem_append_right _ (List.mem_of_getElem? (i := 272) (by decide +kernel))) (by decide +kernel)
theorem seX4_readAll : Cond.selects mX4_readAll.1.cls mX4_readAll.1 mX4_readAll.1 ∈ lw_good := lw_good_in (List.mem_append_right _ (List.mem_of_getElem? (i := 273) (by decide +kernel))) (by decide +kernel)
theorem imX7_split : Cond.instanceMethod mX7_split.1 ∈ lw_good := lw_good_in (List.mem_append_right _ (List.mem_of_getElem? (i := 276) (by decide +kernel))) (by decide +kernel)
theorem seX7_split : Cond.selects mX7_split.1.cls mX7_split.1 mX7_split.1 ∈ lw_good := lw_good_in (List.mem_append_right _ (List.mem_of_getElem? (i := 277) (by decide +kernel))) (by decide +kernel)
theorem imX7_goesOn : Cond.instanceMethod mX7_goesOn.1 ∈ lw_good := lw_good_in (List.mem_append_right _ (List.mem_of_getElem? (i := 281) (by decide +kernel))) (by decide +kernel)
theorem ssX7_isSmallLetter : Cond.static mX7_isSmallLetter.1 ∈ lw_good := lw_good_in (List.mem_append_right _ (List.mem_of_getElem? (i := 284) (by decide +kernel))) (by decide +kernel)
theorem ssX7_isFigure : Cond.static mX7_isFigure.1 ∈ lw_good := lw_good_in (List.mem_append_right _ (List.mem_of_getElem? (i := 287) (by decide +kernel))) (by decide +kernel)
theorem imX7_putKind : Cond.instanceMethod mX7_putKind.1 ∈ lw_good := lw_good_in (List.mem_append_right _ (List.mem_of_getElem? (i := 291) (by decide +kernel))) (by decide +kernel)
theorem imX7_kindOfWord : Cond.instanceMethod mX7_kindOfWord.1 ∈ lw_good := lw_good_in (List.mem_append_right _ (List.mem_of_getElem? (i := 295) (by decide +kernel))) (by decide +kernel)
theorem imX7_isWord : Cond.instanceMethod mX7_isWord.1 ∈ lw_good := lw_good_in (List.mem_append_right _ (List.mem_of_getElem? (i := 300) (by decide +kernel))) (by decide +kernel)
theorem imJ0_length_8abf5 : Cond.instanceMethod mJ0_length_8abf5.1 ∈ lw_good := lw_good_in (List.mem_append_right _ (List.mem_of_getElem? (i := 303) (by decide +kernel))) (by decide +kernel)
theorem seJ0_length_8abf5 : Cond.selects mJ0_length_8abf5.1.cls mJ0_length_8abf5.1 mJ0_length_8abf5.1 ∈ lw_good := lw_good_in (List.mem_append_right _ (List.mem_of_getElem? (i := 304) (by decide +kernel))) (by decide +kernel)
theorem imJ0_coder_7d493 : Cond.instanceMethod mJ0_coder_7d493.1 ∈ lw_good := lw_good_in (List.mem_append_right _ (List.mem_of_getElem? (i := 307) (by decide +kernel))) (by decide +kernel)
theorem seJ0_coder_7d493 : Cond.selects mJ0_coder_7d493.1.cls mJ0_coder_7d493.1 mJ0_coder_7d493.1 ∈ lw_good := lw_good_in (List.mem_append_right _ (List.mem_of_getElem? (i := 308) (by decide +kernel))) (by decide +kernel)
theorem imJ0_charAt_5068e : Cond.instanceMethod mJ0_charAt_5068e.1 ∈ lw_good := lw_good_in (List.mem_append_right _ (List.mem_of_getElem? (i := 313) (by decide +kernel))) (by decide +kernel)
theorem seJ0_charAt_5068e : Cond.selects mJ0_charAt_5068e.1.cls mJ0_charAt_5068e.1 mJ0_charAt_5068e.1 ∈ lw_good := lw_good_in (List.mem_append_right _ (List.mem_of_getElem? (i := 314) (by decide +kernel))) (by decide +kernel)
theorem imJ0_isLatin1_aae02 : Cond.instanceMethod mJ0_isLatin1_aae02.1 ∈ lw_good := lw_good_in (List.mem_append_right _ (List.mem_of_getElem? (i := 317) (by decide +kernel))) (by decide +kernel)
theorem seJ0_isLatin1_aae02 : Cond.selects mJ0_isLatin1_aae02.1.cls mJ0_isLatin1_aae02.1 mJ0_isLatin1_aae02.1 ∈ lw_good := lw_good_in (List.mem_append_right _ (List.mem_of_getElem? (i := 318) (by decide +kernel))) (by decide +kernel)
theorem ssJ1_charAt_3b067 : Cond.static mJ1_charAt_3b067.1 ∈ lw_good := lw_good_in (List.mem_append_right _ (List.mem_of_getElem? (i := 321) (by decide +kernel))) (by decide +kernel)
theorem ssJ0_checkIndex_df160 : Cond.static mJ0_checkIndex_df160.1 ∈ lw_good := lw_good_in (List.mem_append_right _ (List.mem_of_getElem? (i := 324) (by decide +kernel))) (by decide +kernel)
theorem ssJ3_checkIndex_8e157 : Cond.static mJ3_checkIndex_8e157.1 ∈ lw_good := lw_good_in (List.mem_append_right _ (List.mem_of_getElem? (i := 329) (by decide +kernel))) (by decide +kernel)
theorem ssJ2_charAt_3b067 : Cond.static mJ2_charAt_3b067.1 ∈ lw_good := lw_good_in (List.mem_append_right _ (List.mem_of_getElem? (i := 332) (by decide +kernel))) (by decide +kernel)
theorem ssJ2_checkIndex_2214a : Cond.static mJ2_checkIndex_2214a.1 ∈ lw_good := lw_good_in (List.mem_append_right _ (List.mem_of_getElem? (i := 335) (by decide +kernel))) (by decide +kernel)
theorem ssJ2_length_9d52b : Cond.static mJ2_length_9d52b.1 ∈ lw_good := lw_good_in (List.mem_append_right _ (List.mem_of_getElem? (i := 338) (by decide +kernel))) (by decide +kernel)
theorem ssJ2_getChar_3b067 : Cond.static mJ2_getChar_3b067.1 ∈ lw_good := lw_good_in (List.mem_append_right _ (List.mem_of_getElem? (i := 342) (by decide +kernel))) (by decide +kernel)
theorem imX7_kindOfNumber : Cond.instanceMethod mX7_kindOfNumber.1 ∈ lw_good := lw_good_in (List.mem_append_right _ (List.mem_of_getElem? (i := 353) (by decide +kernel))) (by decide +kernel)
theorem imX7_valueOf : Cond.instanceMethod mX7_valueOf.1 ∈ lw_good := lw_good_in (List.mem_append_right _ (List.mem_of_getElem? (i := 357) (by decide +kernel))) (by decide +kernel)
theorem imX1_empty : Cond.instanceMethod mX1_empty.1 ∈ lw_good := lw_good_in (List.mem_append_right _ (List.mem_of_getElem? (i := 360) (by decide +kernel))) (by decide +kernel)
theorem seX1_empty : Cond.selects mX1_empty.1.cls mX1_empty.1 mX1_empty.1 ∈ lw_good := lw_good_in (List.mem_append_right _ (List.mem_of_getElem? (i := 361) (by decide +kernel))) (by decide +kernel)
theorem imX4_readItem : Cond.instanceMethod mX4_readItem.1 ∈ lw_good := lw_good_in (List.mem_append_right _ (List.mem_of_getElem? (i := 365) (by decide +kernel))) (by decide +kernel)
theorem imX4_readCask : Cond.instanceMethod mX4_readCask.1 ∈ lw_good := lw_good_in (List.mem_append_right _ (List.mem_of_getElem? (i := 369) (by decide +kernel))) (by decide +kernel)
theorem imX4_readNumber : Cond.instanceMethod mX4_readNumber.1 ∈ lw_good := lw_good_in (List.mem_append_right _ (List.mem_of_getElem? (i := 373) (by decide +kernel))) (by decide +kernel)
theorem imX4_step : Cond.instanceMethod mX4_step.1 ∈ lw_good := lw_good_in (List.mem_append_right _ (List.mem_of_getElem? (i := 377) (by decide +kernel))) (by decide +kernel)
theorem imX4_readItemEnd : Cond.instanceMethod mX4_readItemEnd.1 ∈ lw_good := lw_good_in (List.mem_append_right _ (List.mem_of_getElem? (i := 381) (by decide +kernel))) (by decide +kernel)
theorem imX1_add : Cond.instanceMethod mX1_add.1 ∈ lw_good := lw_good_in (List.mem_append_right _ (List.mem_of_getElem? (i := 384) (by decide +kernel))) (by decide +kernel)
theorem seX1_add : Cond.selects mX1_add.1.cls mX1_add.1 mX1_add.1 ∈ lw_good := lw_good_in (List.mem_append_right _ (List.mem_of_getElem? (i := 385) (by decide +kernel))) (by decide +kernel)
theorem imX0_becomeNew : Cond.instanceMethod mX0_becomeNew.1 ∈ lw_good := lw_good_in (List.mem_append_right _ (List.mem_of_getElem? (i := 388) (by decide +kernel))) (by decide +kernel)
theorem seX0_becomeNew : Cond.selects mX0_becomeNew.1.cls mX0_becomeNew.1 mX0_becomeNew.1 ∈ lw_good := lw_good_in (List.mem_append_right _ (List.mem_of_getElem? (i := 389) (by decide +kernel))) (by decide +kernel)
theorem imX4_readStands : Cond.instanceMethod mX4_readStands.1 ∈ lw_good := lw_good_in (List.mem_append_right _ (List.mem_of_getElem? (i := 393) (by decide +kernel))) (by decide +kernel)
theorem imX1_has : Cond.instanceMethod mX1_has.1 ∈ lw_good := lw_good_in (List.mem_append_right _ (List.mem_of_getElem? (i := 396) (by decide +kernel))) (by decide +kernel)
theorem seX1_has : Cond.selects mX1_has.1.cls mX1_has.1 mX1_has.1 ∈ lw_good := lw_good_in (List.mem_append_right _ (List.mem_of_getElem? (i := 397) (by decide +kernel))) (by decide +kernel)
theorem imX4_faultPlace : Cond.instanceMethod mX4_faultPlace.1 ∈ lw_good := lw_good_in (List.mem_append_right _ (List.mem_of_getElem? (i := 400) (by decide +kernel))) (by decide +kernel)
theorem seX4_faultPlace : Cond.selects mX4_faultPlace.1.cls mX4_faultPlace.1 mX4_faultPlace.1 ∈ lw_good := lw_good_in (List.mem_append_right _ (List.mem_of_getElem? (i := 401) (by decide +kernel))) (by decide +kernel)
theorem imX3_remember : Cond.instanceMethod mX3_remember.1 ∈ lw_good := lw_good_in (List.mem_append_right _ (List.mem_of_getElem? (i := 404) (by decide +kernel))) (by decide +kernel)
theorem seX3_remember : Cond.selects mX3_remember.1.cls mX3_remember.1 mX3_remember.1 ∈ lw_good := lw_good_in (List.mem_append_right _ (List.mem_of_getElem? (i := 405) (by decide +kernel))) (by decide +kernel)
theorem imX1_copyFrom : Cond.instanceMethod mX1_copyFrom.1 ∈ lw_good := lw_good_in (List.mem_append_right _ (List.mem_of_getElem? (i := 408) (by decide +kernel))) (by decide +kernel)
theorem seX1_copyFrom : Cond.selects mX1_copyFrom.1.cls mX1_copyFrom.1 mX1_copyFrom.1 ∈ lw_good := lw_good_in (List.mem_append_right _ (List.mem_of_getElem? (i := 409) (by decide +kernel))) (by decide +kernel)
theorem imX0_copyFrom : Cond.instanceMethod mX0_copyFrom.1 ∈ lw_good := lw_good_in (List.mem_append_right _ (List.mem_of_getElem? (i := 412) (by decide +kernel))) (by decide +kernel)
theorem seX0_copyFrom : Cond.selects mX0_copyFrom.1.cls mX0_copyFrom.1 mX0_copyFrom.1 ∈ lw_good := lw_good_in (List.mem_append_right _ (List.mem_of_getElem? (i := 413) (by decide +kernel))) (by decide +kernel)
theorem ssJ9_min_7cf53 : Cond.static mJ9_min_7cf53.1 ∈ lw_good := lw_good_in (List.mem_append_right _ (List.mem_of_getElem? (i := 416) (by decide +kernel))) (by decide +kernel)
theorem imX8_fills : Cond.instanceMethod mX8_fills.1 ∈ lw_good := lw_good_in (List.mem_append_right _ (List.mem_of_getElem? (i := 421) (by decide +kernel))) (by decide +kernel)
theorem seX8_fills : Cond.selects mX8_fills.1.cls mX8_fills.1 mX8_fills.1 ∈ lw_good := lw_good_in (List.mem_append_right _ (List.mem_of_getElem? (i := 422) (by decide +kernel))) (by decide +kernel)
theorem imX8_roomIn : Cond.instanceMethod mX8_roomIn.1 ∈ lw_good := lw_good_in (List.mem_append_right _ (List.mem_of_getElem? (i := 427) (by decide +kernel))) (by decide +kernel)
theorem imX8_levelsOf : Cond.instanceMethod mX8_levelsOf.1 ∈ lw_good := lw_good_in (List.mem_append_right _ (List.mem_of_getElem? (i := 431) (by decide +kernel))) (by decide +kernel)
theorem imX8_lyingLevelsOf : Cond.instanceMethod mX8_lyingLevelsOf.1 ∈ lw_good := lw_good_in (List.mem_append_right _ (List.mem_of_getElem? (i := 435) (by decide +kernel))) (by decide +kernel)
theorem imX2_measure : Cond.instanceMethod mX2_measure.1 ∈ lw_good := lw_good_in (List.mem_append_right _ (List.mem_of_getElem? (i := 438) (by decide +kernel))) (by decide +kernel)
theorem seX2_measure : Cond.selects mX2_measure.1.cls mX2_measure.1 mX2_measure.1 ∈ lw_good := lw_good_in (List.mem_append_right _ (List.mem_of_getElem? (i := 439) (by decide +kernel))) (by decide +kernel)
theorem imX0_radiusOf : Cond.instanceMethod mX0_radiusOf.1 ∈ lw_good := lw_good_in (List.mem_append_right _ (List.mem_of_getElem? (i := 443) (by decide +kernel))) (by decide +kernel)
theorem seX0_radiusOf : Cond.selects mX0_radiusOf.1.cls mX0_radiusOf.1 mX0_radiusOf.1 ∈ lw_good := lw_good_in (List.mem_append_right _ (List.mem_of_getElem? (i := 444) (by decide +kernel))) (by decide +kernel)
theorem imX0_cellsOf : Cond.instanceMethod mX0_cellsOf.1 ∈ lw_good := lw_good_in (List.mem_append_right _ (List.mem_of_getElem? (i := 447) (by decide +kernel))) (by decide +kernel)
theorem seX0_cellsOf : Cond.selects mX0_cellsOf.1.cls mX0_cellsOf.1 mX0_cellsOf.1 ∈ lw_good := lw_good_in (List.mem_append_right _ (List.mem_of_getElem? (i := 448) (by decide +kernel))) (by decide +kernel)
theorem imX2_addAhead : Cond.instanceMethod mX2_addAhead.1 ∈ lw_good := lw_good_in (List.mem_append_right _ (List.mem_of_getElem? (i := 452) (by decide +kernel))) (by decide +kernel)
theorem imX2_reach : Cond.instanceMethod mX2_reach.1 ∈ lw_good := lw_good_in (List.mem_append_right _ (List.mem_of_getElem? (i := 455) (by decide +kernel))) (by decide +kernel)
theorem seX2_reach : Cond.selects mX2_reach.1.cls mX2_reach.1 mX2_reach.1 ∈ lw_good := lw_good_in (List.mem_append_right _ (List.mem_of_getElem? (i := 456) (by decide +kernel))) (by decide +kernel)
theorem imX2_hold : Cond.instanceMethod mX2_hold.1 ∈ lw_good := lw_good_in (List.mem_append_right _ (List.mem_of_getElem? (i := 459) (by decide +kernel))) (by decide +kernel)
theorem seX2_hold : Cond.selects mX2_hold.1.cls mX2_hold.1 mX2_hold.1 ∈ lw_good := lw_good_in (List.mem_append_right _ (List.mem_of_getElem? (i := 460) (by decide +kernel))) (by decide +kernel)
theorem imX2_amountAt : Cond.instanceMethod mX2_amountAt.1 ∈ lw_good := lw_good_in (List.mem_append_right _ (List.mem_of_getElem? (i := 463) (by decide +kernel))) (by decide +kernel)
theorem seX2_amountAt : Cond.selects mX2_amountAt.1.cls mX2_amountAt.1 mX2_amountAt.1 ∈ lw_good := lw_good_in (List.mem_append_right _ (List.mem_of_getElem? (i := 464) (by decide +kernel))) (by decide +kernel)
theorem imX0_takeIn : Cond.instanceMethod mX0_takeIn.1 ∈ lw_good := lw_good_in (List.mem_append_right _ (List.mem_of_getElem? (i := 467) (by decide +kernel))) (by decide +kernel)
theorem seX0_takeIn : Cond.selects mX0_takeIn.1.cls mX0_takeIn.1 mX0_takeIn.1 ∈ lw_good := lw_good_in (List.mem_append_right _ (List.mem_of_getElem? (i := 468) (by decide +kernel))) (by decide +kernel)
theorem imX8_draws : Cond.instanceMethod mX8_draws.1 ∈ lw_good := lw_good_in (List.mem_append_right _ (List.mem_of_getElem? (i := 471) (by decide +kernel))) (by decide +kernel)
theorem seX8_draws : Cond.selects mX8_draws.1.cls mX8_draws.1 mX8_draws.1 ∈ lw_good := lw_good_in (List.mem_append_right _ (List.mem_of_getElem? (i := 472) (by decide +kernel))) (by decide +kernel)
theorem imX0_giveOut : Cond.instanceMethod mX0_giveOut.1 ∈ lw_good := lw_good_in (List.mem_append_right _ (List.mem_of_getElem? (i := 475) (by decide +kernel))) (by decide +kernel)
theorem seX0_giveOut : Cond.selects mX0_giveOut.1.cls mX0_giveOut.1 mX0_giveOut.1 ∈ lw_good := lw_good_in (List.mem_append_right _ (List.mem_of_getElem? (i := 476) (by decide +kernel))) (by decide +kernel)
theorem imX8_pours : Cond.instanceMethod mX8_pours.1 ∈ lw_good := lw_good_in (List.mem_append_right _ (List.mem_of_getElem? (i := 479) (by decide +kernel))) (by decide +kernel)
theorem seX8_pours : Cond.selects mX8_pours.1.cls mX8_pours.1 mX8_pours.1 ∈ lw_good := lw_good_in (List.mem_append_right _ (List.mem_of_getElem? (i := 480) (by decide +kernel))) (by decide +kernel)
theorem imX8_turnsOver : Cond.instanceMethod mX8_turnsOver.1 ∈ lw_good := lw_good_in (List.mem_append_right _ (List.mem_of_getElem? (i := 483) (by decide +kernel))) (by decide +kernel)
theorem seX8_turnsOver : Cond.selects mX8_turnsOver.1.cls mX8_turnsOver.1 mX8_turnsOver.1 ∈ lw_good := lw_good_in (List.mem_append_right _ (List.mem_of_getElem? (i := 484) (by decide +kernel))) (by decide +kernel)
theorem imX8_undo : Cond.instanceMethod mX8_undo.1 ∈ lw_good := lw_good_in (List.mem_append_right _ (List.mem_of_getElem? (i := 487) (by decide +kernel))) (by decide +kernel)
theorem seX8_undo : Cond.selects mX8_undo.1.cls mX8_undo.1 mX8_undo.1 ∈ lw_good := lw_good_in (List.mem_append_right _ (List.mem_of_getElem? (i := 488) (by decide +kernel))) (by decide +kernel)
theorem imX3_recallInto : Cond.instanceMethod mX3_recallInto.1 ∈ lw_good := lw_good_in (List.mem_append_right _ (List.mem_of_getElem? (i := 491) (by decide +kernel))) (by decide +kernel)
theorem seX3_recallInto : Cond.selects mX3_recallInto.1.cls mX3_recallInto.1 mX3_recallInto.1 ∈ lw_good := lw_good_in (List.mem_append_right _ (List.mem_of_getElem? (i := 492) (by decide +kernel))) (by decide +kernel)
theorem imX8_cask : Cond.instanceMethod mX8_cask.1 ∈ lw_good := lw_good_in (List.mem_append_right _ (List.mem_of_getElem? (i := 495) (by decide +kernel))) (by decide +kernel)
theorem seX8_cask : Cond.selects mX8_cask.1.cls mX8_cask.1 mX8_cask.1 ∈ lw_good := lw_good_in (List.mem_append_right _ (List.mem_of_getElem? (i := 496) (by decide +kernel))) (by decide +kernel)
theorem imX2_leastDip : Cond.instanceMethod mX2_leastDip.1 ∈ lw_good := lw_good_in (List.mem_append_right _ (List.mem_of_getElem? (i := 499) (by decide +kernel))) (by decide +kernel)
theorem seX2_leastDip : Cond.selects mX2_leastDip.1.cls mX2_leastDip.1 mX2_leastDip.1 ∈ lw_good := lw_good_in (List.mem_append_right _ (List.mem_of_getElem? (i := 500) (by decide +kernel))) (by decide +kernel)
theorem imX2_leastDipFrom : Cond.instanceMethod mX2_leastDipFrom.1 ∈ lw_good := lw_good_in (List.mem_append_right _ (List.mem_of_getElem? (i := 503) (by decide +kernel))) (by decide +kernel)
theorem seX2_leastDipFrom : Cond.selects mX2_leastDipFrom.1.cls mX2_leastDipFrom.1 mX2_leastDipFrom.1 ∈ lw_good := lw_good_in (List.mem_append_right _ (List.mem_of_getElem? (i := 504) (by decide +kernel))) (by decide +kernel)
theorem ssJ9_max_7cf53 : Cond.static mJ9_max_7cf53.1 ∈ lw_good := lw_good_in (List.mem_append_right _ (List.mem_of_getElem? (i := 507) (by decide +kernel))) (by decide +kernel)
theorem imX0_strength : Cond.instanceMethod mX0_strength.1 ∈ lw_good := lw_good_in (List.mem_append_right _ (List.mem_of_getElem? (i := 510) (by decide +kernel))) (by decide +kernel)
theorem seX0_strength : Cond.selects mX0_strength.1.cls mX0_strength.1 mX0_strength.1 ∈ lw_good := lw_good_in (List.mem_append_right _ (List.mem_of_getElem? (i := 511) (by decide +kernel))) (by decide +kernel)
theorem ssX8_inThousandths : Cond.static mX8_inThousandths.1 ∈ lw_good := lw_good_in (List.mem_append_right _ (List.mem_of_getElem? (i := 514) (by decide +kernel))) (by decide +kernel)
theorem imX8_slice : Cond.instanceMethod mX8_slice.1 ∈ lw_good := lw_good_in (List.mem_append_right _ (List.mem_of_getElem? (i := 518) (by decide +kernel))) (by decide +kernel)
theorem seX8_slice : Cond.selects mX8_slice.1.cls mX8_slice.1 mX8_slice.1 ∈ lw_good := lw_good_in (List.mem_append_right _ (List.mem_of_getElem? (i := 519) (by decide +kernel))) (by decide +kernel)
theorem imX8_under : Cond.instanceMethod mX8_under.1 ∈ lw_good := lw_good_in (List.mem_append_right _ (List.mem_of_getElem? (i := 524) (by decide +kernel))) (by decide +kernel)
theorem seX8_under : Cond.selects mX8_under.1.cls mX8_under.1 mX8_under.1 ∈ lw_good := lw_good_in (List.mem_append_right _ (List.mem_of_getElem? (i := 525) (by decide +kernel))) (by decide +kernel)
theorem imX8_dip : Cond.instanceMethod mX8_dip.1 ∈ lw_good := lw_good_in (List.mem_append_right _ (List.mem_of_getElem? (i := 530) (by decide +kernel))) (by decide +kernel)
theorem seX8_dip : Cond.selects mX8_dip.1.cls mX8_dip.1 mX8_dip.1 ∈ lw_good := lw_good_in (List.mem_append_right _ (List.mem_of_getElem? (i := 531) (by decide +kernel))) (by decide +kernel)
theorem imX8_stick : Cond.instanceMethod mX8_stick.1 ∈ lw_good := lw_good_in (List.mem_append_right _ (List.mem_of_getElem? (i := 534) (by decide +kernel))) (by decide +kernel)
theorem seX8_stick : Cond.selects mX8_stick.1.cls mX8_stick.1 mX8_stick.1 ∈ lw_good := lw_good_in (List.mem_append_right _ (List.mem_of_getElem? (i := 535) (by decide +kernel))) (by decide +kernel)
theorem imX2_markAt : Cond.instanceMethod mX2_markAt.1 ∈ lw_good := lw_good_in (List.mem_append_right _ (List.mem_of_getElem? (i := 538) (by decide +kernel))) (by decide +kernel)
theorem seX2_markAt : Cond.selects mX2_markAt.1.cls mX2_markAt.1 mX2_markAt.1 ∈ lw_good := lw_good_in (List.mem_append_right _ (List.mem_of_getElem? (i := 539) (by decide +kernel))) (by decide +kernel)
theorem imX8_known : Cond.instanceMethod mX8_known.1 ∈ lw_good := lw_good_in (List.mem_append_right _ (List.mem_of_getElem? (i := 543) (by decide +kernel))) (by decide +kernel)
theorem seX8_known : Cond.selects mX8_known.1.cls mX8_known.1 mX8_known.1 ∈ lw_good := lw_good_in (List.mem_append_right _ (List.mem_of_getElem? (i := 544) (by decide +kernel))) (by decide +kernel)
theorem imX8_shares : Cond.instanceMethod mX8_shares.1 ∈ lw_good := lw_good_in (List.mem_append_right _ (List.mem_of_getElem? (i := 547) (by decide +kernel))) (by decide +kernel)
theorem seX8_shares : Cond.selects mX8_shares.1.cls mX8_shares.1 mX8_shares.1 ∈ lw_good := lw_good_in (List.mem_append_right _ (List.mem_of_getElem? (i := 548) (by decide +kernel))) (by decide +kernel)
theorem imX5_findFairest : Cond.instanceMethod mX5_findFairest.1 ∈ lw_good := lw_good_in (List.mem_append_right _ (List.mem_of_getElem? (i := 551) (by decide +kernel))) (by decide +kernel)
theorem seX5_findFairest : Cond.selects mX5_findFairest.1.cls mX5_findFairest.1 mX5_findFairest.1 ∈ lw_good := lw_good_in (List.mem_append_right _ (List.mem_of_getElem? (i := 552) (by decide +kernel))) (by decide +kernel)
theorem imX5_weigh : Cond.instanceMethod mX5_weigh.1 ∈ lw_good := lw_good_in (List.mem_append_right _ (List.mem_of_getElem? (i := 558) (by decide +kernel))) (by decide +kernel)
theorem imX8_all : Cond.instanceMethod mX8_all.1 ∈ lw_good := lw_good_in (List.mem_append_right _ (List.mem_of_getElem? (i := 563) (by decide +kernel))) (by decide +kernel)
theorem seX8_all : Cond.selects mX8_all.1.cls mX8_all.1 mX8_all.1 ∈ lw_good := lw_good_in (List.mem_append_right _ (List.mem_of_getElem? (i := 564) (by decide +kernel))) (by decide +kernel)
theorem imX1_strongest : Cond.instanceMethod mX1_strongest.1 ∈ lw_good := lw_good_in (List.mem_append_right _ (List.mem_of_getElem? (i := 567) (by decide +kernel))) (by decide +kernel)
theorem seX1_strongest : Cond.selects mX1_strongest.1.cls mX1_strongest.1 mX1_strongest.1 ∈ lw_good := lw_good_in (List.mem_append_right _ (List.mem_of_getElem? (i := 568) (by decide +kernel))) (by decide +kernel)
theorem imX1_meanStrength : Cond.instanceMethod mX1_meanStrength.1 ∈ lw_good := lw_good_in (List.mem_append_right _ (List.mem_of_getElem? (i := 572) (by decide +kernel))) (by decide +kernel)
theorem seX1_meanStrength : Cond.selects mX1_meanStrength.1.cls mX1_meanStrength.1 mX1_meanStrength.1 ∈ lw_good := lw_good_in (List.mem_append_right _ (List.mem_of_getElem? (i := 573) (by decide +kernel))) (by decide +kernel)
theorem imX8_sees : Cond.instanceMethod mX8_sees.1 ∈ lw_good := lw_good_in (List.mem_append_right _ (List.mem_of_getElem? (i := 576) (by decide +kernel))) (by decide +kernel)
theorem seX8_sees : Cond.selects mX8_sees.1.cls mX8_sees.1 mX8_sees.1 ∈ lw_good := lw_good_in (List.mem_append_right _ (List.mem_of_getElem? (i := 577) (by decide +kernel))) (by decide +kernel)
theorem imX6_add : Cond.instanceMethod mX6_add.1 ∈ lw_good := lw_good_in (List.mem_append_right _ (List.mem_of_getElem? (i := 581) (by decide +kernel))) (by decide +kernel)
theorem seX6_add : Cond.selects mX6_add.1.cls mX6_add.1 mX6_add.1 ∈ lw_good := lw_good_in (List.mem_append_right _ (List.mem_of_getElem? (i := 582) (by decide +kernel))) (by decide +kernel)
theorem imX8_forget : Cond.instanceMethod mX8_forget.1 ∈ lw_good := lw_good_in (List.mem_append_right _ (List.mem_of_getElem? (i := 585) (by decide +kernel))) (by decide +kernel)
theorem seX8_forget : Cond.selects mX8_forget.1.cls mX8_forget.1 mX8_forget.1 ∈ lw_good := lw_good_in (List.mem_append_right _ (List.mem_of_getElem? (i := 586) (by decide +kernel))) (by decide +kernel)
theorem imX8_which : Cond.instanceMethod mX8_which.1 ∈ lw_good := lw_good_in (List.mem_append_right _ (List.mem_of_getElem? (i := 589) (by decide +kernel))) (by decide +kernel)
theorem seX8_which : Cond.selects mX8_which.1.cls mX8_which.1 mX8_which.1 ∈ lw_good := lw_good_in (List.mem_append_right _ (List.mem_of_getElem? (i := 590) (by decide +kernel))) (by decide +kernel)
theorem imX6_fits : Cond.instanceMethod mX6_fits.1 ∈ lw_good := lw_good_in (List.mem_append_right _ (List.mem_of_getElem? (i := 593) (by decide +kernel))) (by decide +kernel)
theorem seX6_fits : Cond.selects mX6_fits.1.cls mX6_fits.1 mX6_fits.1 ∈ lw_good := lw_good_in (List.mem_append_right _ (List.mem_of_getElem? (i := 594) (by decide +kernel))) (by decide +kernel)
theorem imX8_ask : Cond.instanceMethod mX8_ask.1 ∈ lw_good := lw_good_in (List.mem_append_right _ (List.mem_of_getElem? (i := 598) (by decide +kernel))) (by decide +kernel)
theorem seX8_ask : Cond.selects mX8_ask.1.cls mX8_ask.1 mX8_ask.1 ∈ lw_good := lw_good_in (List.mem_append_right _ (List.mem_of_getElem? (i := 599) (by decide +kernel))) (by decide +kernel)
theorem ssJ6_bitCount_0f7a4 : Cond.static mJ6_bitCount_0f7a4.1 ∈ lw_good := lw_good_in (List.mem_append_right _ (List.mem_of_getElem? (i := 603) (by decide +kernel))) (by decide +kernel)
theorem imX8_startAsking : Cond.instanceMethod mX8_startAsking.1 ∈ lw_good := lw_good_in (List.mem_append_right _ (List.mem_of_getElem? (i := 610) (by decide +kernel))) (by decide +kernel)
theorem imX8_mostAlike : Cond.instanceMethod mX8_mostAlike.1 ∈ lw_good := lw_good_in (List.mem_append_right _ (List.mem_of_getElem? (i := 614) (by decide +kernel))) (by decide +kernel)
theorem imX8_raiseAskedDips : Cond.instanceMethod mX8_raiseAskedDips.1 ∈ lw_good := lw_good_in (List.mem_append_right _ (List.mem_of_getElem? (i := 619) (by decide +kernel))) (by decide +kernel)
theorem imX8_keep : Cond.instanceMethod mX8_keep.1 ∈ lw_good := lw_good_in (List.mem_append_right _ (List.mem_of_getElem? (i := 623) (by decide +kernel))) (by decide +kernel)
theorem seX8_keep : Cond.selects mX8_keep.1.cls mX8_keep.1 mX8_keep.1 ∈ lw_good := lw_good_in (List.mem_append_right _ (List.mem_of_getElem? (i := 624) (by decide +kernel))) (by decide +kernel)
theorem imX8_back : Cond.instanceMethod mX8_back.1 ∈ lw_good := lw_good_in (List.mem_append_right _ (List.mem_of_getElem? (i := 627) (by decide +kernel))) (by decide +kernel)
theorem seX8_back : Cond.selects mX8_back.1.cls mX8_back.1 mX8_back.1 ∈ lw_good := lw_good_in (List.mem_append_right _ (List.mem_of_getElem? (i := 628) (by decide +kernel))) (by decide +kernel)
theorem imX8_count : Cond.instanceMethod mX8_count.1 ∈ lw_good := lw_good_in (List.mem_append_right _ (List.mem_of_getElem? (i := 631) (by decide +kernel))) (by decide +kernel)
theorem seX8_count : Cond.selects mX8_count.1.cls mX8_count.1 mX8_count.1 ∈ lw_good := lw_good_in (List.mem_append_right _ (List.mem_of_getElem? (i := 632) (by decide +kernel))) (by decide +kernel)
theorem imX1_allWine : Cond.instanceMethod mX1_allWine.1 ∈ lw_good := lw_good_in (List.mem_append_right _ (List.mem_of_getElem? (i := 635) (by decide +kernel))) (by decide +kernel)
theorem seX1_allWine : Cond.selects mX1_allWine.1.cls mX1_allWine.1 mX1_allWine.1 ∈ lw_good := lw_good_in (List.mem_append_right _ (List.mem_of_getElem? (i := 636) (by decide +kernel))) (by decide +kernel)
theorem imX1_allSpirit : Cond.instanceMethod mX1_allSpirit.1 ∈ lw_good := lw_good_in (List.mem_append_right _ (List.mem_of_getElem? (i := 639) (by decide +kernel))) (by decide +kernel)
theorem seX1_allSpirit : Cond.selects mX1_allSpirit.1.cls mX1_allSpirit.1 mX1_allSpirit.1 ∈ lw_good := lw_good_in (List.mem_append_right _ (List.mem_of_getElem? (i := 640) (by decide +kernel))) (by decide +kernel)
theorem imX9_init : Cond.instanceMethod mX9_init.1 ∈ lw_good := lw_good_in (List.mem_append_right _ (List.mem_of_getElem? (i := 645) (by decide +kernel))) (by decide +kernel)
theorem imX9_type : Cond.instanceMethod mX9_type.1 ∈ lw_good := lw_good_in (List.mem_append_right _ (List.mem_of_getElem? (i := 713) (by decide +kernel))) (by decide +kernel)
theorem seX9_type : Cond.selects mX9_type.1.cls mX9_type.1 mX9_type.1 ∈ lw_good := lw_good_in (List.mem_append_right _ (List.mem_of_getElem? (i := 714) (by decide +kernel))) (by decide +kernel)
theorem ssX9_in : Cond.static mX9_in.1 ∈ lw_good := lw_good_in (List.mem_append_right _ (List.mem_of_getElem? (i := 717) (by decide +kernel))) (by decide +kernel)
theorem imX9_clear : Cond.instanceMethod mX9_clear.1 ∈ lw_good := lw_good_in (List.mem_append_right _ (List.mem_of_getElem? (i := 720) (by decide +kernel))) (by decide +kernel)
theorem seX9_clear : Cond.selects mX9_clear.1.cls mX9_clear.1 mX9_clear.1 ∈ lw_good := lw_good_in (List.mem_append_right _ (List.mem_of_getElem? (i := 721) (by decide +kernel))) (by decide +kernel)
theorem imX9_tells : Cond.instanceMethod mX9_tells.1 ∈ lw_good := lw_good_in (List.mem_append_right _ (List.mem_of_getElem? (i := 724) (by decide +kernel))) (by decide +kernel)
theorem seX9_tells : Cond.selects mX9_tells.1.cls mX9_tells.1 mX9_tells.1 ∈ lw_good := lw_good_in (List.mem_append_right _ (List.mem_of_getElem? (i := 725) (by decide +kernel))) (by decide +kernel)
theorem imX9_reads : Cond.instanceMethod mX9_reads.1 ∈ lw_good := lw_good_in (List.mem_append_right _ (List.mem_of_getElem? (i := 729) (by decide +kernel))) (by decide +kernel)
theorem imX9_steps : Cond.instanceMethod mX9_steps.1 ∈ lw_good := lw_good_in (List.mem_append_right _ (List.mem_of_getElem? (i := 733) (by decide +kernel))) (by decide +kernel)
theorem imX9_at : Cond.instanceMethod mX9_at.1 ∈ lw_good := lw_good_in (List.mem_append_right _ (List.mem_of_getElem? (i := 737) (by decide +kernel))) (by decide +kernel)
theorem imX9_takesFigures : Cond.instanceMethod mX9_takesFigures.1 ∈ lw_good := lw_good_in (List.mem_append_right _ (List.mem_of_getElem? (i := 741) (by decide +kernel))) (by decide +kernel)
theorem imX9_isCaskWord : Cond.instanceMethod mX9_isCaskWord.1 ∈ lw_good := lw_good_in (List.mem_append_right _ (List.mem_of_getElem? (i := 745) (by decide +kernel))) (by decide +kernel)
theorem imX9_isStandsWord : Cond.instanceMethod mX9_isStandsWord.1 ∈ lw_good := lw_good_in (List.mem_append_right _ (List.mem_of_getElem? (i := 749) (by decide +kernel))) (by decide +kernel)
theorem imX9_readsCask : Cond.instanceMethod mX9_readsCask.1 ∈ lw_good := lw_good_in (List.mem_append_right _ (List.mem_of_getElem? (i := 753) (by decide +kernel))) (by decide +kernel)
theorem imX9_takes : Cond.instanceMethod mX9_takes.1 ∈ lw_good := lw_good_in (List.mem_append_right _ (List.mem_of_getElem? (i := 757) (by decide +kernel))) (by decide +kernel)
theorem imX9_numberIn : Cond.instanceMethod mX9_numberIn.1 ∈ lw_good := lw_good_in (List.mem_append_right _ (List.mem_of_getElem? (i := 761) (by decide +kernel))) (by decide +kernel)
theorem imX9_readsStands : Cond.instanceMethod mX9_readsStands.1 ∈ lw_good := lw_good_in (List.mem_append_right _ (List.mem_of_getElem? (i := 765) (by decide +kernel))) (by decide +kernel)
theorem imX9_notes : Cond.instanceMethod mX9_notes.1 ∈ lw_good := lw_good_in (List.mem_append_right _ (List.mem_of_getElem? (i := 769) (by decide +kernel))) (by decide +kernel)
theorem imX9_fills : Cond.instanceMethod mX9_fills.1 ∈ lw_good := lw_good_in (List.mem_append_right _ (List.mem_of_getElem? (i := 772) (by decide +kernel))) (by decide +kernel)
theorem seX9_fills : Cond.selects mX9_fills.1.cls mX9_fills.1 mX9_fills.1 ∈ lw_good := lw_good_in (List.mem_append_right _ (List.mem_of_getElem? (i := 773) (by decide +kernel))) (by decide +kernel)
theorem imX9_isCask : Cond.instanceMethod mX9_isCask.1 ∈ lw_good := lw_good_in (List.mem_append_right _ (List.mem_of_getElem? (i := 777) (by decide +kernel))) (by decide +kernel)
theorem imX9_hold : Cond.instanceMethod mX9_hold.1 ∈ lw_good := lw_good_in (List.mem_append_right _ (List.mem_of_getElem? (i := 781) (by decide +kernel))) (by decide +kernel)
theorem imX9_laysNow : Cond.instanceMethod mX9_laysNow.1 ∈ lw_good := lw_good_in (List.mem_append_right _ (List.mem_of_getElem? (i := 785) (by decide +kernel))) (by decide +kernel)
theorem imX9_of : Cond.instanceMethod mX9_of.1 ∈ lw_good := lw_good_in (List.mem_append_right _ (List.mem_of_getElem? (i := 789) (by decide +kernel))) (by decide +kernel)
theorem imX9_lays : Cond.instanceMethod mX9_lays.1 ∈ lw_good := lw_good_in (List.mem_append_right _ (List.mem_of_getElem? (i := 793) (by decide +kernel))) (by decide +kernel)
theorem imX9_cellsOf : Cond.instanceMethod mX9_cellsOf.1 ∈ lw_good := lw_good_in (List.mem_append_right _ (List.mem_of_getElem? (i := 797) (by decide +kernel))) (by decide +kernel)
theorem imX9_radius : Cond.instanceMethod mX9_radius.1 ∈ lw_good := lw_good_in (List.mem_append_right _ (List.mem_of_getElem? (i := 801) (by decide +kernel))) (by decide +kernel)
theorem imX9_draws : Cond.instanceMethod mX9_draws.1 ∈ lw_good := lw_good_in (List.mem_append_right _ (List.mem_of_getElem? (i := 804) (by decide +kernel))) (by decide +kernel)
theorem seX9_draws : Cond.selects mX9_draws.1.cls mX9_draws.1 mX9_draws.1 ∈ lw_good := lw_good_in (List.mem_append_right _ (List.mem_of_getElem? (i := 805) (by decide +kernel))) (by decide +kernel)
theorem imX9_goes : Cond.instanceMethod mX9_goes.1 ∈ lw_good := lw_good_in (List.mem_append_right _ (List.mem_of_getElem? (i := 809) (by decide +kernel))) (by decide +kernel)
theorem imX9_pours : Cond.instanceMethod mX9_pours.1 ∈ lw_good := lw_good_in (List.mem_append_right _ (List.mem_of_getElem? (i := 812) (by decide +kernel))) (by decide +kernel)
theorem seX9_pours : Cond.selects mX9_pours.1.cls mX9_pours.1 mX9_pours.1 ∈ lw_good := lw_good_in (List.mem_append_right _ (List.mem_of_getElem? (i := 813) (by decide +kernel))) (by decide +kernel)
theorem imX9_turnsOver : Cond.instanceMethod mX9_turnsOver.1 ∈ lw_good := lw_good_in (List.mem_append_right _ (List.mem_of_getElem? (i := 816) (by decide +kernel))) (by decide +kernel)
theorem seX9_turnsOver : Cond.selects mX9_turnsOver.1.cls mX9_turnsOver.1 mX9_turnsOver.1 ∈ lw_good := lw_good_in (List.mem_append_right _ (List.mem_of_getElem? (i := 817) (by decide +kernel))) (by decide +kernel)
theorem imX9_undo : Cond.instanceMethod mX9_undo.1 ∈ lw_good := lw_good_in (List.mem_append_right _ (List.mem_of_getElem? (i := 820) (by decide +kernel))) (by decide +kernel)
theorem seX9_undo : Cond.selects mX9_undo.1.cls mX9_undo.1 mX9_undo.1 ∈ lw_good := lw_good_in (List.mem_append_right _ (List.mem_of_getElem? (i := 821) (by decide +kernel))) (by decide +kernel)
theorem imX9_cask : Cond.instanceMethod mX9_cask.1 ∈ lw_good := lw_good_in (List.mem_append_right _ (List.mem_of_getElem? (i := 824) (by decide +kernel))) (by decide +kernel)
theorem seX9_cask : Cond.selects mX9_cask.1.cls mX9_cask.1 mX9_cask.1 ∈ lw_good := lw_good_in (List.mem_append_right _ (List.mem_of_getElem? (i := 825) (by decide +kernel))) (by decide +kernel)
theorem imX9_dipOf : Cond.instanceMethod mX9_dipOf.1 ∈ lw_good := lw_good_in (List.mem_append_right _ (List.mem_of_getElem? (i := 829) (by decide +kernel))) (by decide +kernel)
theorem imX9_strength : Cond.instanceMethod mX9_strength.1 ∈ lw_good := lw_good_in (List.mem_append_right _ (List.mem_of_getElem? (i := 834) (by decide +kernel))) (by decide +kernel)
theorem imX9_slice : Cond.instanceMethod mX9_slice.1 ∈ lw_good := lw_good_in (List.mem_append_right _ (List.mem_of_getElem? (i := 837) (by decide +kernel))) (by decide +kernel)
theorem seX9_slice : Cond.selects mX9_slice.1.cls mX9_slice.1 mX9_slice.1 ∈ lw_good := lw_good_in (List.mem_append_right _ (List.mem_of_getElem? (i := 838) (by decide +kernel))) (by decide +kernel)
theorem imX9_under : Cond.instanceMethod mX9_under.1 ∈ lw_good := lw_good_in (List.mem_append_right _ (List.mem_of_getElem? (i := 841) (by decide +kernel))) (by decide +kernel)
theorem seX9_under : Cond.selects mX9_under.1.cls mX9_under.1 mX9_under.1 ∈ lw_good := lw_good_in (List.mem_append_right _ (List.mem_of_getElem? (i := 842) (by decide +kernel))) (by decide +kernel)
theorem imX9_isHeight : Cond.instanceMethod mX9_isHeight.1 ∈ lw_good := lw_good_in (List.mem_append_right _ (List.mem_of_getElem? (i := 846) (by decide +kernel))) (by decide +kernel)
theorem imX9_dip : Cond.instanceMethod mX9_dip.1 ∈ lw_good := lw_good_in (List.mem_append_right _ (List.mem_of_getElem? (i := 849) (by decide +kernel))) (by decide +kernel)
theorem seX9_dip : Cond.selects mX9_dip.1.cls mX9_dip.1 mX9_dip.1 ∈ lw_good := lw_good_in (List.mem_append_right _ (List.mem_of_getElem? (i := 850) (by decide +kernel))) (by decide +kernel)
theorem imX9_stick : Cond.instanceMethod mX9_stick.1 ∈ lw_good := lw_good_in (List.mem_append_right _ (List.mem_of_getElem? (i := 853) (by decide +kernel))) (by decide +kernel)
theorem seX9_stick : Cond.selects mX9_stick.1.cls mX9_stick.1 mX9_stick.1 ∈ lw_good := lw_good_in (List.mem_append_right _ (List.mem_of_getElem? (i := 854) (by decide +kernel))) (by decide +kernel)
theorem imX9_known : Cond.instanceMethod mX9_known.1 ∈ lw_good := lw_good_in (List.mem_append_right _ (List.mem_of_getElem? (i := 857) (by decide +kernel))) (by decide +kernel)
theorem seX9_known : Cond.selects mX9_known.1.cls mX9_known.1 mX9_known.1 ∈ lw_good := lw_good_in (List.mem_append_right _ (List.mem_of_getElem? (i := 858) (by decide +kernel))) (by decide +kernel)
theorem imX9_shares : Cond.instanceMethod mX9_shares.1 ∈ lw_good := lw_good_in (List.mem_append_right _ (List.mem_of_getElem? (i := 861) (by decide +kernel))) (by decide +kernel)
theorem seX9_shares : Cond.selects mX9_shares.1.cls mX9_shares.1 mX9_shares.1 ∈ lw_good := lw_good_in (List.mem_append_right _ (List.mem_of_getElem? (i := 862) (by decide +kernel))) (by decide +kernel)
theorem imX9_mostBy : Cond.instanceMethod mX9_mostBy.1 ∈ lw_good := lw_good_in (List.mem_append_right _ (List.mem_of_getElem? (i := 866) (by decide +kernel))) (by decide +kernel)
theorem imX9_all : Cond.instanceMethod mX9_all.1 ∈ lw_good := lw_good_in (List.mem_append_right _ (List.mem_of_getElem? (i := 869) (by decide +kernel))) (by decide +kernel)
theorem seX9_all : Cond.selects mX9_all.1.cls mX9_all.1 mX9_all.1 ∈ lw_good := lw_good_in (List.mem_append_right _ (List.mem_of_getElem? (i := 870) (by decide +kernel))) (by decide +kernel)
theorem imX9_strongest : Cond.instanceMethod mX9_strongest.1 ∈ lw_good := lw_good_in (List.mem_append_right _ (List.mem_of_getElem? (i := 874) (by decide +kernel))) (by decide +kernel)
theorem imX9_mean : Cond.instanceMethod mX9_mean.1 ∈ lw_good := lw_good_in (List.mem_append_right _ (List.mem_of_getElem? (i := 878) (by decide +kernel))) (by decide +kernel)
theorem imX9_sees : Cond.instanceMethod mX9_sees.1 ∈ lw_good := lw_good_in (List.mem_append_right _ (List.mem_of_getElem? (i := 881) (by decide +kernel))) (by decide +kernel)
theorem seX9_sees : Cond.selects mX9_sees.1.cls mX9_sees.1 mX9_sees.1 ∈ lw_good := lw_good_in (List.mem_append_right _ (List.mem_of_getElem? (i := 882) (by decide +kernel))) (by decide +kernel)
theorem imX9_forget : Cond.instanceMethod mX9_forget.1 ∈ lw_good := lw_good_in (List.mem_append_right _ (List.mem_of_getElem? (i := 886) (by decide +kernel))) (by decide +kernel)
theorem seX9_forget : Cond.selects mX9_forget.1.cls mX9_forget.1 mX9_forget.1 ∈ lw_good := lw_good_in (List.mem_append_right _ (List.mem_of_getElem? (i := 887) (by decide +kernel))) (by decide +kernel)
theorem imX9_which : Cond.instanceMethod mX9_which.1 ∈ lw_good := lw_good_in (List.mem_append_right _ (List.mem_of_getElem? (i := 890) (by decide +kernel))) (by decide +kernel)
theorem seX9_which : Cond.selects mX9_which.1.cls mX9_which.1 mX9_which.1 ∈ lw_good := lw_good_in (List.mem_append_right _ (List.mem_of_getElem? (i := 891) (by decide +kernel))) (by decide +kernel)
theorem imX9_suspects : Cond.instanceMethod mX9_suspects.1 ∈ lw_good := lw_good_in (List.mem_append_right _ (List.mem_of_getElem? (i := 895) (by decide +kernel))) (by decide +kernel)
theorem imX9_ask : Cond.instanceMethod mX9_ask.1 ∈ lw_good := lw_good_in (List.mem_append_right _ (List.mem_of_getElem? (i := 898) (by decide +kernel))) (by decide +kernel)
theorem seX9_ask : Cond.selects mX9_ask.1.cls mX9_ask.1 mX9_ask.1 ∈ lw_good := lw_good_in (List.mem_append_right _ (List.mem_of_getElem? (i := 899) (by decide +kernel))) (by decide +kernel)
theorem imX9_laysDips : Cond.instanceMethod mX9_laysDips.1 ∈ lw_good := lw_good_in (List.mem_append_right _ (List.mem_of_getElem? (i := 903) (by decide +kernel))) (by decide +kernel)
theorem imX9_alike : Cond.instanceMethod mX9_alike.1 ∈ lw_good := lw_good_in (List.mem_append_right _ (List.mem_of_getElem? (i := 907) (by decide +kernel))) (by decide +kernel)
theorem imX9_keep : Cond.instanceMethod mX9_keep.1 ∈ lw_good := lw_good_in (List.mem_append_right _ (List.mem_of_getElem? (i := 910) (by decide +kernel))) (by decide +kernel)
theorem seX9_keep : Cond.selects mX9_keep.1.cls mX9_keep.1 mX9_keep.1 ∈ lw_good := lw_good_in (List.mem_append_right _ (List.mem_of_getElem? (i := 911) (by decide +kernel))) (by decide +kernel)
theorem imX9_back : Cond.instanceMethod mX9_back.1 ∈ lw_good := lw_good_in (List.mem_append_right _ (List.mem_of_getElem? (i := 914) (by decide +kernel))) (by decide +kernel)
theorem seX9_back : Cond.selects mX9_back.1.cls mX9_back.1 mX9_back.1 ∈ lw_good := lw_good_in (List.mem_append_right _ (List.mem_of_getElem? (i := 915) (by decide +kernel))) (by decide +kernel)
theorem imX9_count : Cond.instanceMethod mX9_count.1 ∈ lw_good := lw_good_in (List.mem_append_right _ (List.mem_of_getElem? (i := 918) (by decide +kernel))) (by decide +kernel)
theorem seX9_count : Cond.selects mX9_count.1.cls mX9_count.1 mX9_count.1 ∈ lw_good := lw_good_in (List.mem_append_right _ (List.mem_of_getElem? (i := 919) (by decide +kernel))) (by decide +kernel)
theorem imX9_sum : Cond.instanceMethod mX9_sum.1 ∈ lw_good := lw_good_in (List.mem_append_right _ (List.mem_of_getElem? (i := 923) (by decide +kernel))) (by decide +kernel)
theorem seX7_goesOn : Cond.selects mX7_goesOn.1.cls mX7_goesOn.1 mX7_goesOn.1 ∈ lw_good := lw_good_in (List.mem_append_left _ (List.mem_of_getElem? (i := 0) (by decide +kernel))) (by decide +kernel)
theorem seX7_putKind : Cond.selects mX7_putKind.1.cls mX7_putKind.1 mX7_putKind.1 ∈ lw_good := lw_good_in (List.mem_append_left _ (List.mem_of_getElem? (i := 1) (by decide +kernel))) (by decide +kernel)
theorem seX7_kindOfWord : Cond.selects mX7_kindOfWord.1.cls mX7_kindOfWord.1 mX7_kindOfWord.1 ∈ lw_good := lw_good_in (List.mem_append_left _ (List.mem_of_getElem? (i := 2) (by decide +kernel))) (by decide +kernel)
theorem seX7_isWord : Cond.selects mX7_isWord.1.cls mX7_isWord.1 mX7_isWord.1 ∈ lw_good := lw_good_in (List.mem_append_left _ (List.mem_of_getElem? (i := 3) (by decide +kernel))) (by decide +kernel)
theorem seX7_kindOfNumber : Cond.selects mX7_kindOfNumber.1.cls mX7_kindOfNumber.1 mX7_kindOfNumber.1 ∈ lw_good := lw_good_in (List.mem_append_left _ (List.mem_of_getElem? (i := 4) (by decide +kernel))) (by decide +kernel)
theorem seX7_valueOf : Cond.selects mX7_valueOf.1.cls mX7_valueOf.1 mX7_valueOf.1 ∈ lw_good := lw_good_in (List.mem_append_left _ (List.mem_of_getElem? (i := 5) (by decide +kernel))) (by decide +kernel)
theorem seX4_readItem : Cond.selects mX4_readItem.1.cls mX4_readItem.1 mX4_readItem.1 ∈ lw_good := lw_good_in (List.mem_append_left _ (List.mem_of_getElem? (i := 6) (by decide +kernel))) (by decide +kernel)
theorem seX4_readCask : Cond.selects mX4_readCask.1.cls mX4_readCask.1 mX4_readCask.1 ∈ lw_good := lw_good_in (List.mem_append_left _ (List.mem_of_getElem? (i := 7) (by decide +kernel))) (by decide +kernel)
theorem seX4_readNumber : Cond.selects mX4_readNumber.1.cls mX4_readNumber.1 mX4_readNumber.1 ∈ lw_good := lw_good_in (List.mem_append_left _ (List.mem_of_getElem? (i := 8) (by decide +kernel))) (by decide +kernel)
theorem seX4_step : Cond.selects mX4_step.1.cls mX4_step.1 mX4_step.1 ∈ lw_good := lw_good_in (List.mem_append_left _ (List.mem_of_getElem? (i := 9) (by decide +kernel))) (by decide +kernel)
theorem seX4_readItemEnd : Cond.selects mX4_readItemEnd.1.cls mX4_readItemEnd.1 mX4_readItemEnd.1 ∈ lw_good := lw_good_in (List.mem_append_left _ (List.mem_of_getElem? (i := 10) (by decide +kernel))) (by decide +kernel)
theorem seX4_readStands : Cond.selects mX4_readStands.1.cls mX4_readStands.1 mX4_readStands.1 ∈ lw_good := lw_good_in (List.mem_append_left _ (List.mem_of_getElem? (i := 11) (by decide +kernel))) (by decide +kernel)
theorem seX8_roomIn : Cond.selects mX8_roomIn.1.cls mX8_roomIn.1 mX8_roomIn.1 ∈ lw_good := lw_good_in (List.mem_append_left _ (List.mem_of_getElem? (i := 12) (by decide +kernel))) (by decide +kernel)
theorem seX8_levelsOf : Cond.selects mX8_levelsOf.1.cls mX8_levelsOf.1 mX8_levelsOf.1 ∈ lw_good := lw_good_in (List.mem_append_left _ (List.mem_of_getElem? (i := 13) (by decide +kernel))) (by decide +kernel)
theorem seX8_lyingLevelsOf : Cond.selects mX8_lyingLevelsOf.1.cls mX8_lyingLevelsOf.1 mX8_lyingLevelsOf.1 ∈ lw_good := lw_good_in (List.mem_append_left _ (List.mem_of_getElem? (i := 14) (by decide +kernel))) (by decide +kernel)
theorem seX2_addAhead : Cond.selects mX2_addAhead.1.cls mX2_addAhead.1 mX2_addAhead.1 ∈ lw_good := lw_good_in (List.mem_append_left _ (List.mem_of_getElem? (i := 15) (by decide +kernel))) (by decide +kernel)
theorem seX5_weigh : Cond.selects mX5_weigh.1.cls mX5_weigh.1 mX5_weigh.1 ∈ lw_good := lw_good_in (List.mem_append_left _ (List.mem_of_getElem? (i := 16) (by decide +kernel))) (by decide +kernel)
theorem seX8_startAsking : Cond.selects mX8_startAsking.1.cls mX8_startAsking.1 mX8_startAsking.1 ∈ lw_good := lw_good_in (List.mem_append_left _ (List.mem_of_getElem? (i := 17) (by decide +kernel))) (by decide +kernel)
theorem seX8_mostAlike : Cond.selects mX8_mostAlike.1.cls mX8_mostAlike.1 mX8_mostAlike.1 ∈ lw_good := lw_good_in (List.mem_append_left _ (List.mem_of_getElem? (i := 18) (by decide +kernel))) (by decide +kernel)
theorem seX8_raiseAskedDips : Cond.selects mX8_raiseAskedDips.1.cls mX8_raiseAskedDips.1 mX8_raiseAskedDips.1 ∈ lw_good := lw_good_in (List.mem_append_left _ (List.mem_of_getElem? (i := 19) (by decide +kernel))) (by decide +kernel)
theorem seX9_reads : Cond.selects mX9_reads.1.cls mX9_reads.1 mX9_reads.1 ∈ lw_good := lw_good_in (List.mem_append_left _ (List.mem_of_getElem? (i := 20) (by decide +kernel))) (by decide +kernel)
theorem seX9_steps : Cond.selects mX9_steps.1.cls mX9_steps.1 mX9_steps.1 ∈ lw_good := lw_good_in (List.mem_append_left _ (List.mem_of_getElem? (i := 21) (by decide +kernel))) (by decide +kernel)
theorem seX9_at : Cond.selects mX9_at.1.cls mX9_at.1 mX9_at.1 ∈ lw_good := lw_good_in (List.mem_append_left _ (List.mem_of_getElem? (i := 22) (by decide +kernel))) (by decide +kernel)
theorem seX9_takesFigures : Cond.selects mX9_takesFigures.1.cls mX9_takesFigures.1 mX9_takesFigures.1 ∈ lw_good := lw_good_in (List.mem_append_left _ (List.mem_of_getElem? (i := 23) (by decide +kernel))) (by decide +kernel)
theorem seX9_isCaskWord : Cond.selects mX9_isCaskWord.1.cls mX9_isCaskWord.1 mX9_isCaskWord.1 ∈ lw_good := lw_good_in (List.mem_append_left _ (List.mem_of_getElem? (i := 24) (by decide +kernel))) (by decide +kernel)
theorem seX9_isStandsWord : Cond.selects mX9_isStandsWord.1.cls mX9_isStandsWord.1 mX9_isStandsWord.1 ∈ lw_good := lw_good_in (List.mem_append_left _ (List.mem_of_getElem? (i := 25) (by decide +kernel))) (by decide +kernel)
theorem seX9_readsCask : Cond.selects mX9_readsCask.1.cls mX9_readsCask.1 mX9_readsCask.1 ∈ lw_good := lw_good_in (List.mem_append_left _ (List.mem_of_getElem? (i := 26) (by decide +kernel))) (by decide +kernel)
theorem seX9_takes : Cond.selects mX9_takes.1.cls mX9_takes.1 mX9_takes.1 ∈ lw_good := lw_good_in (List.mem_append_left _ (List.mem_of_getElem? (i := 27) (by decide +kernel))) (by decide +kernel)
theorem seX9_numberIn : Cond.selects mX9_numberIn.1.cls mX9_numberIn.1 mX9_numberIn.1 ∈ lw_good := lw_good_in (List.mem_append_left _ (List.mem_of_getElem? (i := 28) (by decide +kernel))) (by decide +kernel)
theorem seX9_readsStands : Cond.selects mX9_readsStands.1.cls mX9_readsStands.1 mX9_readsStands.1 ∈ lw_good := lw_good_in (List.mem_append_left _ (List.mem_of_getElem? (i := 29) (by decide +kernel))) (by decide +kernel)
theorem seX9_notes : Cond.selects mX9_notes.1.cls mX9_notes.1 mX9_notes.1 ∈ lw_good := lw_good_in (List.mem_append_left _ (List.mem_of_getElem? (i := 30) (by decide +kernel))) (by decide +kernel)
theorem seX9_isCask : Cond.selects mX9_isCask.1.cls mX9_isCask.1 mX9_isCask.1 ∈ lw_good := lw_good_in (List.mem_append_left _ (List.mem_of_getElem? (i := 31) (by decide +kernel))) (by decide +kernel)
theorem seX9_hold : Cond.selects mX9_hold.1.cls mX9_hold.1 mX9_hold.1 ∈ lw_good := lw_good_in (List.mem_append_left _ (List.mem_of_getElem? (i := 32) (by decide +kernel))) (by decide +kernel)
theorem seX9_laysNow : Cond.selects mX9_laysNow.1.cls mX9_laysNow.1 mX9_laysNow.1 ∈ lw_good := lw_good_in (List.mem_append_left _ (List.mem_of_getElem? (i := 33) (by decide +kernel))) (by decide +kernel)
theorem seX9_of : Cond.selects mX9_of.1.cls mX9_of.1 mX9_of.1 ∈ lw_good := lw_good_in (List.mem_append_left _ (List.mem_of_getElem? (i := 34) (by decide +kernel))) (by decide +kernel)
theorem seX9_lays : Cond.selects mX9_lays.1.cls mX9_lays.1 mX9_lays.1 ∈ lw_good := lw_good_in (List.mem_append_left _ (List.mem_of_getElem? (i := 35) (by decide +kernel))) (by decide +kernel)
theorem seX9_cellsOf : Cond.selects mX9_cellsOf.1.cls mX9_cellsOf.1 mX9_cellsOf.1 ∈ lw_good := lw_good_in (List.mem_append_left _ (List.mem_of_getElem? (i := 36) (by decide +kernel))) (by decide +kernel)
theorem seX9_radius : Cond.selects mX9_radius.1.cls mX9_radius.1 mX9_radius.1 ∈ lw_good := lw_good_in (List.mem_append_left _ (List.mem_of_getElem? (i := 37) (by decide +kernel))) (by decide +kernel)
theorem seX9_goes : Cond.selects mX9_goes.1.cls mX9_goes.1 mX9_goes.1 ∈ lw_good := lw_good_in (List.mem_append_left _ (List.mem_of_getElem? (i := 38) (by decide +kernel))) (by decide +kernel)
theorem seX9_dipOf : Cond.selects mX9_dipOf.1.cls mX9_dipOf.1 mX9_dipOf.1 ∈ lw_good := lw_good_in (List.mem_append_left _ (List.mem_of_getElem? (i := 39) (by decide +kernel))) (by decide +kernel)
theorem seX9_strength : Cond.selects mX9_strength.1.cls mX9_strength.1 mX9_strength.1 ∈ lw_good := lw_good_in (List.mem_append_left _ (List.mem_of_getElem? (i := 40) (by decide +kernel))) (by decide +kernel)
theorem seX9_isHeight : Cond.selects mX9_isHeight.1.cls mX9_isHeight.1 mX9_isHeight.1 ∈ lw_good := lw_good_in (List.mem_append_left _ (List.mem_of_getElem? (i := 41) (by decide +kernel))) (by decide +kernel)
theorem seX9_mostBy : Cond.selects mX9_mostBy.1.cls mX9_mostBy.1 mX9_mostBy.1 ∈ lw_good := lw_good_in (List.mem_append_left _ (List.mem_of_getElem? (i := 42) (by decide +kernel))) (by decide +kernel)
theorem seX9_strongest : Cond.selects mX9_strongest.1.cls mX9_strongest.1 mX9_strongest.1 ∈ lw_good := lw_good_in (List.mem_append_left _ (List.mem_of_getElem? (i := 43) (by decide +kernel))) (by decide +kernel)
theorem seX9_mean : Cond.selects mX9_mean.1.cls mX9_mean.1 mX9_mean.1 ∈ lw_good := lw_good_in (List.mem_append_left _ (List.mem_of_getElem? (i := 44) (by decide +kernel))) (by decide +kernel)
theorem seX9_suspects : Cond.selects mX9_suspects.1.cls mX9_suspects.1 mX9_suspects.1 ∈ lw_good := lw_good_in (List.mem_append_left _ (List.mem_of_getElem? (i := 45) (by decide +kernel))) (by decide +kernel)
theorem seX9_laysDips : Cond.selects mX9_laysDips.1.cls mX9_laysDips.1 mX9_laysDips.1 ∈ lw_good := lw_good_in (List.mem_append_left _ (List.mem_of_getElem? (i := 46) (by decide +kernel))) (by decide +kernel)
theorem seX9_alike : Cond.selects mX9_alike.1.cls mX9_alike.1 mX9_alike.1 ∈ lw_good := lw_good_in (List.mem_append_left _ (List.mem_of_getElem? (i := 47) (by decide +kernel))) (by decide +kernel)
theorem seX9_sum : Cond.selects mX9_sum.1.cls mX9_sum.1 mX9_sum.1 ∈ lw_good := lw_good_in (List.mem_append_left _ (List.mem_of_getElem? (i := 48) (by decide +kernel))) (by decide +kernel)
theorem iniL : Cond.initialized RL ∈ lw_good := lw_good_in (List.mem_append_right _ (List.mem_of_getElem? (i := 0) (by decide +kernel))) (by decide +kernel)
theorem iniX8 : Cond.initialized RX8 ∈ lw_good := lw_good_in (List.mem_append_right _ (List.mem_of_getElem? (i := 1) (by decide +kernel))) (by decide +kernel)
theorem iniX7 : Cond.initialized RX7 ∈ lw_good := lw_good_in (List.mem_append_right _ (List.mem_of_getElem? (i := 2) (by decide +kernel))) (by decide +kernel)
theorem iniX4 : Cond.initialized RX4 ∈ lw_good := lw_good_in (List.mem_append_right _ (List.mem_of_getElem? (i := 3) (by decide +kernel))) (by decide +kernel)
theorem iniX1 : Cond.initialized RX1 ∈ lw_good := lw_good_in (List.mem_append_right _ (List.mem_of_getElem? (i := 4) (by decide +kernel))) (by decide +kernel)
theorem iniX0 : Cond.initialized RX0 ∈ lw_good := lw_good_in (List.mem_append_right _ (List.mem_of_getElem? (i := 5) (by decide +kernel))) (by decide +kernel)
theorem iniX3 : Cond.initialized RX3 ∈ lw_good := lw_good_in (List.mem_append_right _ (List.mem_of_getElem? (i := 6) (by decide +kernel))) (by decide +kernel)
theorem iniX6 : Cond.initialized RX6 ∈ lw_good := lw_good_in (List.mem_append_right _ (List.mem_of_getElem? (i := 7) (by decide +kernel))) (by decide +kernel)
theorem iniX2 : Cond.initialized RX2 ∈ lw_good := lw_good_in (List.mem_append_right _ (List.mem_of_getElem? (i := 8) (by decide +kernel))) (by decide +kernel)
theorem iniX5 : Cond.initialized RX5 ∈ lw_good := lw_good_in (List.mem_append_right _ (List.mem_of_getElem? (i := 9) (by decide +kernel))) (by decide +kernel)
theorem iniX9 : Cond.initialized RX9 ∈ lw_good := lw_good_in (List.mem_append_right _ (List.mem_of_getElem? (i := 10) (by decide +kernel))) (by decide +kernel)
theorem iniJ0 : Cond.initialized RJ0 ∈ lw_good := lw_good_in (List.mem_append_right _ (List.mem_of_getElem? (i := 11) (by decide +kernel))) (by decide +kernel)
theorem iniJ1 : Cond.initialized RJ1 ∈ lw_good := lw_good_in (List.mem_append_right _ (List.mem_of_getElem? (i := 12) (by decide +kernel))) (by decide +kernel)
theorem iniJ3 : Cond.initialized RJ3 ∈ lw_good := lw_good_in (List.mem_append_right _ (List.mem_of_getElem? (i := 13) (by decide +kernel))) (by decide +kernel)
theorem iniJ2 : Cond.initialized RJ2 ∈ lw_good := lw_good_in (List.mem_append_right _ (List.mem_of_getElem? (i := 14) (by decide +kernel))) (by decide +kernel)
theorem iniJ9 : Cond.initialized RJ9 ∈ lw_good := lw_good_in (List.mem_append_right _ (List.mem_of_getElem? (i := 15) (by decide +kernel))) (by decide +kernel)
theorem iniJ6 : Cond.initialized RJ6 ∈ lw_good := lw_good_in (List.mem_append_right _ (List.mem_of_getElem? (i := 16) (by decide +kernel))) (by decide +kernel)
theorem cnL_7 : Cond.classLink RL 7 RX8 ∈ lw_good := lw_good_in (List.mem_append_right _ (List.mem_of_getElem? (i := 17) (by decide +kernel))) (by decide +kernel)
theorem isX8 : Cond.instantiable RX8 11 ∈ lw_good := lw_good_in (List.mem_append_right _ (List.mem_of_getElem? (i := 18) (by decide +kernel))) (by decide +kernel)
theorem mlL_9 : Cond.methodLink RL 9 mX8_init.1 ∈ lw_good := lw_good_in (List.mem_append_right _ (List.mem_of_getElem? (i := 19) (by decide +kernel))) (by decide +kernel)
theorem mlX8_3 : Cond.methodLink RX8 3 objectInit ∈ lw_good := lw_good_in (List.mem_append_right _ (List.mem_of_getElem? (i := 22) (by decide +kernel))) (by decide +kernel)
theorem cnX8_9 : Cond.classLink RX8 9 RX7 ∈ lw_good := lw_good_in (List.mem_append_right _ (List.mem_of_getElem? (i := 25) (by decide +kernel))) (by decide +kernel)
theorem isX7 : Cond.instantiable RX7 5 ∈ lw_good := lw_good_in (List.mem_append_right _ (List.mem_of_getElem? (i := 26) (by decide +kernel))) (by decide +kernel)
theorem mlX8_11 : Cond.methodLink RX8 11 mX7_init.1 ∈ lw_good := lw_good_in (List.mem_append_right _ (List.mem_of_getElem? (i := 27) (by decide +kernel))) (by decide +kernel)
theorem mlX7_3 : Cond.methodLink RX7 3 objectInit ∈ lw_good := lw_good_in (List.mem_append_right _ (List.mem_of_getElem? (i := 30) (by decide +kernel))) (by decide +kernel)
theorem fgX7_9 : sm_Fg RX7 9 7 0 := ⟨_, _, _, _, clX7, by decide, lw_good_in (List.mem_append_right _ (List.mem_of_getElem? (i := 31) (by decide +kernel))) (by decide +kernel)⟩
theorem flX7_9 : sm_Fl RX7 9 7 0 (.array .int) true := ⟨_, _, _, _, clX7, by decide, rfl, rfl, lw_good_in (List.mem_append_right _ (List.mem_of_getElem? (i := 31) (by decide +kernel))) (by decide +kernel), by decide +kernel⟩
theorem fgX7_24 : sm_Fg RX7 24 7 1 := ⟨_, _, _, _, clX7, by decide, lw_good_in (List.mem_append_right _ (List.mem_of_getElem? (i := 32) (by decide +kernel))) (by decide +kernel)⟩
theorem flX7_24 : sm_Fl RX7 24 7 1 (.int) false := ⟨_, _, _, _, clX7, by decide, rfl, rfl, lw_good_in (List.mem_append_right _ (List.mem_of_getElem? (i := 32) (by decide +kernel))) (by decide +kernel), by decide +kernel⟩
theorem fgX8_81 : sm_Fg RX8 81 7 1 := ⟨_, _, _, _, clX7, by decide, lw_good_in (List.mem_append_right _ (List.mem_of_getElem? (i := 33) (by decide +kernel))) (by decide +kernel)⟩
theorem flX8_81 : sm_Fl RX8 81 7 1 (.int) false := ⟨_, _, _, _, clX7, by decide, rfl, rfl, lw_good_in (List.mem_append_right _ (List.mem_of_getElem? (i := 33) (by decide +kernel))) (by decide +kernel), by decide +kernel⟩
theorem fgX7_15 : sm_Fg RX7 15 7 2 := ⟨_, _, _, _, clX7, by decide, lw_good_in (List.mem_append_right _ (List.mem_of_getElem? (i := 34) (by decide +kernel))) (by decide +kernel)⟩
theorem flX7_15 : sm_Fl RX7 15 7 2 (.array .int) true := ⟨_, _, _, _, clX7, by decide, rfl, rfl, lw_good_in (List.mem_append_right _ (List.mem_of_getElem? (i := 34) (by decide +kernel))) (by decide +kernel), by decide +kernel⟩
theorem fgX4_37 : sm_Fg RX4 37 7 2 := ⟨_, _, _, _, clX7, by decide, lw_good_in (List.mem_append_right _ (List.mem_of_getElem? (i := 35) (by decide +kernel))) (by decide +kernel)⟩
theorem fgX7_18 : sm_Fg RX7 18 7 3 := ⟨_, _, _, _, clX7, by decide, lw_good_in (List.mem_append_right _ (List.mem_of_getElem? (i := 36) (by decide +kernel))) (by decide +kernel)⟩
theorem flX7_18 : sm_Fl RX7 18 7 3 (.array .int) true := ⟨_, _, _, _, clX7, by decide, rfl, rfl, lw_good_in (List.mem_append_right _ (List.mem_of_getElem? (i := 36) (by decide +kernel))) (by decide +kernel), by decide +kernel⟩
theorem fgX4_45 : sm_Fg RX4 45 7 3 := ⟨_, _, _, _, clX7, by decide, lw_good_in (List.mem_append_right _ (List.mem_of_getElem? (i := 37) (by decide +kernel))) (by decide +kernel)⟩
theorem fgX7_21 : sm_Fg RX7 21 7 4 := ⟨_, _, _, _, clX7, by decide, lw_good_in (List.mem_append_right _ (List.mem_of_getElem? (i := 38) (by decide +kernel))) (by decide +kernel)⟩
theorem flX7_21 : sm_Fl RX7 21 7 4 (.array .int) true := ⟨_, _, _, _, clX7, by decide, rfl, rfl, lw_good_in (List.mem_append_right _ (List.mem_of_getElem? (i := 38) (by decide +kernel))) (by decide +kernel), by decide +kernel⟩
theorem fgX4_61 : sm_Fg RX4 61 7 4 := ⟨_, _, _, _, clX7, by decide, lw_good_in (List.mem_append_right _ (List.mem_of_getElem? (i := 39) (by decide +kernel))) (by decide +kernel)⟩
theorem ac_int : Cond.arrayClass .int ∈ lw_good := lw_good_in (List.mem_append_right _ (List.mem_of_getElem? (i := 51) (by decide +kernel))) (by decide +kernel)
theorem cnX8_16 : Cond.classLink RX8 16 RX4 ∈ lw_good := lw_good_in (List.mem_append_right _ (List.mem_of_getElem? (i := 52) (by decide +kernel))) (by decide +kernel)
theorem isX4 : Cond.instantiable RX4 4 ∈ lw_good := lw_good_in (List.mem_append_right _ (List.mem_of_getElem? (i := 53) (by decide +kernel))) (by decide +kernel)
theorem mlX8_18 : Cond.methodLink RX8 18 mX4_init.1 ∈ lw_good := lw_good_in (List.mem_append_right _ (List.mem_of_getElem? (i := 54) (by decide +kernel))) (by decide +kernel)
theorem mlX4_3 : Cond.methodLink RX4 3 objectInit ∈ lw_good := lw_good_in (List.mem_append_right _ (List.mem_of_getElem? (i := 57) (by decide +kernel))) (by decide +kernel)
theorem cnX4_15 : Cond.classLink RX4 15 RX1 ∈ lw_good := lw_good_in (List.mem_append_right _ (List.mem_of_getElem? (i := 58) (by decide +kernel))) (by decide +kernel)
theorem isX1 : Cond.instantiable RX1 2 ∈ lw_good := lw_good_in (List.mem_append_right _ (List.mem_of_getElem? (i := 59) (by decide +kernel))) (by decide +kernel)
theorem mlX4_17 : Cond.methodLink RX4 17 mX1_init.1 ∈ lw_good := lw_good_in (List.mem_append_right _ (List.mem_of_getElem? (i := 60) (by decide +kernel))) (by decide +kernel)
theorem mlX1_3 : Cond.methodLink RX1 3 objectInit ∈ lw_good := lw_good_in (List.mem_append_right _ (List.mem_of_getElem? (i := 63) (by decide +kernel))) (by decide +kernel)
theorem cnX1_9 : Cond.classLink RX1 9 RX0 ∈ lw_good := lw_good_in (List.mem_append_right _ (List.mem_of_getElem? (i := 64) (by decide +kernel))) (by decide +kernel)
theorem isX0 : Cond.instantiable RX0 6 ∈ lw_good := lw_good_in (List.mem_append_right _ (List.mem_of_getElem? (i := 66) (by decide +kernel))) (by decide +kernel)
theorem mlX0_1 : Cond.methodLink RX0 1 objectInit ∈ lw_good := lw_good_in (List.mem_append_right _ (List.mem_of_getElem? (i := 70) (by decide +kernel))) (by decide +kernel)
theorem fgX0_7 : sm_Fg RX0 7 0 0 := ⟨_, _, _, _, clX0, by decide, lw_good_in (List.mem_append_right _ (List.mem_of_getElem? (i := 71) (by decide +kernel))) (by decide +kernel)⟩
theorem flX0_7 : sm_Fl RX0 7 0 0 (.int) false := ⟨_, _, _, _, clX0, by decide, rfl, rfl, lw_good_in (List.mem_append_right _ (List.mem_of_getElem? (i := 71) (by decide +kernel))) (by decide +kernel), by decide +kernel⟩
theorem fgX2_23 : sm_Fg RX2 23 0 0 := ⟨_, _, _, _, clX0, by decide, lw_good_in (List.mem_append_right _ (List.mem_of_getElem? (i := 72) (by decide +kernel))) (by decide +kernel)⟩
theorem flX2_23 : sm_Fl RX2 23 0 0 (.int) false := ⟨_, _, _, _, clX0, by decide, rfl, rfl, lw_good_in (List.mem_append_right _ (List.mem_of_getElem? (i := 72) (by decide +kernel))) (by decide +kernel), by decide +kernel⟩
theorem fgX8_140 : sm_Fg RX8 140 0 0 := ⟨_, _, _, _, clX0, by decide, lw_good_in (List.mem_append_right _ (List.mem_of_getElem? (i := 73) (by decide +kernel))) (by decide +kernel)⟩
theorem flX8_140 : sm_Fl RX8 140 0 0 (.int) false := ⟨_, _, _, _, clX0, by decide, rfl, rfl, lw_good_in (List.mem_append_right _ (List.mem_of_getElem? (i := 73) (by decide +kernel))) (by decide +kernel), by decide +kernel⟩
theorem fgX0_13 : sm_Fg RX0 13 0 1 := ⟨_, _, _, _, clX0, by decide, lw_good_in (List.mem_append_right _ (List.mem_of_getElem? (i := 74) (by decide +kernel))) (by decide +kernel)⟩
theorem flX0_13 : sm_Fl RX0 13 0 1 (.int) false := ⟨_, _, _, _, clX0, by decide, rfl, rfl, lw_good_in (List.mem_append_right _ (List.mem_of_getElem? (i := 74) (by decide +kernel))) (by decide +kernel), by decide +kernel⟩
theorem fgX2_29 : sm_Fg RX2 29 0 1 := ⟨_, _, _, _, clX0, by decide, lw_good_in (List.mem_append_right _ (List.mem_of_getElem? (i := 75) (by decide +kernel))) (by decide +kernel)⟩
theorem flX2_29 : sm_Fl RX2 29 0 1 (.int) false := ⟨_, _, _, _, clX0, by decide, rfl, rfl, lw_good_in (List.mem_append_right _ (List.mem_of_getElem? (i := 75) (by decide +kernel))) (by decide +kernel), by decide +kernel⟩
theorem fgX8_143 : sm_Fg RX8 143 0 1 := ⟨_, _, _, _, clX0, by decide, lw_good_in (List.mem_append_right _ (List.mem_of_getElem? (i := 76) (by decide +kernel))) (by decide +kernel)⟩
theorem flX8_143 : sm_Fl RX8 143 0 1 (.int) false := ⟨_, _, _, _, clX0, by decide, rfl, rfl, lw_good_in (List.mem_append_right _ (List.mem_of_getElem? (i := 76) (by decide +kernel))) (by decide +kernel), by decide +kernel⟩
theorem fgX0_16 : sm_Fg RX0 16 0 2 := ⟨_, _, _, _, clX0, by decide, lw_good_in (List.mem_append_right _ (List.mem_of_getElem? (i := 77) (by decide +kernel))) (by decide +kernel)⟩
theorem flX0_16 : sm_Fl RX0 16 0 2 (.int) false := ⟨_, _, _, _, clX0, by decide, rfl, rfl, lw_good_in (List.mem_append_right _ (List.mem_of_getElem? (i := 77) (by decide +kernel))) (by decide +kernel), by decide +kernel⟩
theorem fgX2_33 : sm_Fg RX2 33 0 2 := ⟨_, _, _, _, clX0, by decide, lw_good_in (List.mem_append_right _ (List.mem_of_getElem? (i := 78) (by decide +kernel))) (by decide +kernel)⟩
theorem flX2_33 : sm_Fl RX2 33 0 2 (.int) false := ⟨_, _, _, _, clX0, by decide, rfl, rfl, lw_good_in (List.mem_append_right _ (List.mem_of_getElem? (i := 78) (by decide +kernel))) (by decide +kernel), by decide +kernel⟩
theorem fgX8_146 : sm_Fg RX8 146 0 2 := ⟨_, _, _, _, clX0, by decide, lw_good_in (List.mem_append_right _ (List.mem_of_getElem? (i := 79) (by decide +kernel))) (by decide +kernel)⟩
theorem flX8_146 : sm_Fl RX8 146 0 2 (.int) false := ⟨_, _, _, _, clX0, by decide, rfl, rfl, lw_good_in (List.mem_append_right _ (List.mem_of_getElem? (i := 79) (by decide +kernel))) (by decide +kernel), by decide +kernel⟩
theorem fgX0_19 : sm_Fg RX0 19 0 3 := ⟨_, _, _, _, clX0, by decide, lw_good_in (List.mem_append_right _ (List.mem_of_getElem? (i := 80) (by decide +kernel))) (by decide +kernel)⟩
theorem flX0_19 : sm_Fl RX0 19 0 3 (.boolean) false := ⟨_, _, _, _, clX0, by decide, rfl, rfl, lw_good_in (List.mem_append_right _ (List.mem_of_getElem? (i := 80) (by decide +kernel))) (by decide +kernel), by decide +kernel⟩
theorem fgX4_79 : sm_Fg RX4 79 0 3 := ⟨_, _, _, _, clX0, by decide, lw_good_in (List.mem_append_right _ (List.mem_of_getElem? (i := 81) (by decide +kernel))) (by decide +kernel)⟩
theorem flX4_79 : sm_Fl RX4 79 0 3 (.boolean) false := ⟨_, _, _, _, clX0, by decide, rfl, rfl, lw_good_in (List.mem_append_right _ (List.mem_of_getElem? (i := 81) (by decide +kernel))) (by decide +kernel), by decide +kernel⟩
theorem fgX8_129 : sm_Fg RX8 129 0 3 := ⟨_, _, _, _, clX0, by decide, lw_good_in (List.mem_append_right _ (List.mem_of_getElem? (i := 82) (by decide +kernel))) (by decide +kernel)⟩
theorem flX8_129 : sm_Fl RX8 129 0 3 (.boolean) false := ⟨_, _, _, _, clX0, by decide, rfl, rfl, lw_good_in (List.mem_append_right _ (List.mem_of_getElem? (i := 82) (by decide +kernel))) (by decide +kernel), by decide +kernel⟩
theorem fgX0_23 : sm_Fg RX0 23 0 4 := ⟨_, _, _, _, clX0, by decide, lw_good_in (List.mem_append_right _ (List.mem_of_getElem? (i := 83) (by decide +kernel))) (by decide +kernel)⟩
theorem flX0_23 : sm_Fl RX0 23 0 4 (.int) false := ⟨_, _, _, _, clX0, by decide, rfl, rfl, lw_good_in (List.mem_append_right _ (List.mem_of_getElem? (i := 83) (by decide +kernel))) (by decide +kernel), by decide +kernel⟩
theorem fgX8_123 : sm_Fg RX8 123 0 4 := ⟨_, _, _, _, clX0, by decide, lw_good_in (List.mem_append_right _ (List.mem_of_getElem? (i := 84) (by decide +kernel))) (by decide +kernel)⟩
theorem flX8_123 : sm_Fl RX8 123 0 4 (.int) false := ⟨_, _, _, _, clX0, by decide, rfl, rfl, lw_good_in (List.mem_append_right _ (List.mem_of_getElem? (i := 84) (by decide +kernel))) (by decide +kernel), by decide +kernel⟩
theorem fgX1_30 : sm_Fg RX1 30 0 4 := ⟨_, _, _, _, clX0, by decide, lw_good_in (List.mem_append_right _ (List.mem_of_getElem? (i := 85) (by decide +kernel))) (by decide +kernel)⟩
theorem flX1_30 : sm_Fl RX1 30 0 4 (.int) false := ⟨_, _, _, _, clX0, by decide, rfl, rfl, lw_good_in (List.mem_append_right _ (List.mem_of_getElem? (i := 85) (by decide +kernel))) (by decide +kernel), by decide +kernel⟩
theorem fgX0_26 : sm_Fg RX0 26 0 5 := ⟨_, _, _, _, clX0, by decide, lw_good_in (List.mem_append_right _ (List.mem_of_getElem? (i := 86) (by decide +kernel))) (by decide +kernel)⟩
theorem flX0_26 : sm_Fl RX0 26 0 5 (.int) false := ⟨_, _, _, _, clX0, by decide, rfl, rfl, lw_good_in (List.mem_append_right _ (List.mem_of_getElem? (i := 86) (by decide +kernel))) (by decide +kernel), by decide +kernel⟩
theorem fgX1_33 : sm_Fg RX1 33 0 5 := ⟨_, _, _, _, clX0, by decide, lw_good_in (List.mem_append_right _ (List.mem_of_getElem? (i := 87) (by decide +kernel))) (by decide +kernel)⟩
theorem flX1_33 : sm_Fl RX1 33 0 5 (.int) false := ⟨_, _, _, _, clX0, by decide, rfl, rfl, lw_good_in (List.mem_append_right _ (List.mem_of_getElem? (i := 87) (by decide +kernel))) (by decide +kernel), by decide +kernel⟩
theorem fgX8_156 : sm_Fg RX8 156 0 5 := ⟨_, _, _, _, clX0, by decide, lw_good_in (List.mem_append_right _ (List.mem_of_getElem? (i := 88) (by decide +kernel))) (by decide +kernel)⟩
theorem flX8_156 : sm_Fl RX8 156 0 5 (.int) false := ⟨_, _, _, _, clX0, by decide, rfl, rfl, lw_good_in (List.mem_append_right _ (List.mem_of_getElem? (i := 88) (by decide +kernel))) (by decide +kernel), by decide +kernel⟩
theorem fgX1_11 : sm_Fg RX1 11 1 0 := ⟨_, _, _, _, clX1, by decide, lw_good_in (List.mem_append_right _ (List.mem_of_getElem? (i := 102) (by decide +kernel))) (by decide +kernel)⟩
theorem flX1_11 : sm_Fl RX1 11 1 0 (.array (.object "CaskGauge$Cask")) true := ⟨_, _, _, _, clX1, by decide, rfl, rfl, lw_good_in (List.mem_append_right _ (List.mem_of_getElem? (i := 102) (by decide +kernel))) (by decide +kernel), by decide +kernel⟩
theorem fgX8_113 : sm_Fg RX8 113 1 0 := ⟨_, _, _, _, clX1, by decide, lw_good_in (List.mem_append_right _ (List.mem_of_getElem? (i := 103) (by decide +kernel))) (by decide +kernel)⟩
theorem fgX4_75 : sm_Fg RX4 75 1 0 := ⟨_, _, _, _, clX1, by decide, lw_good_in (List.mem_append_right _ (List.mem_of_getElem? (i := 104) (by decide +kernel))) (by decide +kernel)⟩
theorem fgX1_18 : sm_Fg RX1 18 1 1 := ⟨_, _, _, _, clX1, by decide, lw_good_in (List.mem_append_right _ (List.mem_of_getElem? (i := 105) (by decide +kernel))) (by decide +kernel)⟩
theorem flX1_18 : sm_Fl RX1 18 1 1 (.int) false := ⟨_, _, _, _, clX1, by decide, rfl, rfl, lw_good_in (List.mem_append_right _ (List.mem_of_getElem? (i := 105) (by decide +kernel))) (by decide +kernel), by decide +kernel⟩
theorem fgX4_48 : sm_Fg RX4 48 1 1 := ⟨_, _, _, _, clX1, by decide, lw_good_in (List.mem_append_right _ (List.mem_of_getElem? (i := 106) (by decide +kernel))) (by decide +kernel)⟩
theorem flX4_48 : sm_Fl RX4 48 1 1 (.int) false := ⟨_, _, _, _, clX1, by decide, rfl, rfl, lw_good_in (List.mem_append_right _ (List.mem_of_getElem? (i := 106) (by decide +kernel))) (by decide +kernel), by decide +kernel⟩
theorem fgX8_216 : sm_Fg RX8 216 1 1 := ⟨_, _, _, _, clX1, by decide, lw_good_in (List.mem_append_right _ (List.mem_of_getElem? (i := 107) (by decide +kernel))) (by decide +kernel)⟩
theorem flX8_216 : sm_Fl RX8 216 1 1 (.int) false := ⟨_, _, _, _, clX1, by decide, rfl, rfl, lw_good_in (List.mem_append_right _ (List.mem_of_getElem? (i := 107) (by decide +kernel))) (by decide +kernel), by decide +kernel⟩
theorem fgX4_18 : sm_Fg RX4 18 4 0 := ⟨_, _, _, _, clX4, by decide, lw_good_in (List.mem_append_right _ (List.mem_of_getElem? (i := 113) (by decide +kernel))) (by decide +kernel)⟩
theorem flX4_18 : sm_Fl RX4 18 4 0 (.object "CaskGauge$Cellar") true := ⟨_, _, _, _, clX4, by decide, rfl, rfl, lw_good_in (List.mem_append_right _ (List.mem_of_getElem? (i := 113) (by decide +kernel))) (by decide +kernel), by decide +kernel⟩
theorem fgX8_97 : sm_Fg RX8 97 4 0 := ⟨_, _, _, _, clX4, by decide, lw_good_in (List.mem_append_right _ (List.mem_of_getElem? (i := 114) (by decide +kernel))) (by decide +kernel)⟩
theorem fgX4_30 : sm_Fg RX4 30 4 1 := ⟨_, _, _, _, clX4, by decide, lw_good_in (List.mem_append_right _ (List.mem_of_getElem? (i := 115) (by decide +kernel))) (by decide +kernel)⟩
theorem flX4_30 : sm_Fl RX4 30 4 1 (.int) false := ⟨_, _, _, _, clX4, by decide, rfl, rfl, lw_good_in (List.mem_append_right _ (List.mem_of_getElem? (i := 115) (by decide +kernel))) (by decide +kernel), by decide +kernel⟩
theorem fgX8_103 : sm_Fg RX8 103 4 1 := ⟨_, _, _, _, clX4, by decide, lw_good_in (List.mem_append_right _ (List.mem_of_getElem? (i := 116) (by decide +kernel))) (by decide +kernel)⟩
theorem flX8_103 : sm_Fl RX8 103 4 1 (.int) false := ⟨_, _, _, _, clX4, by decide, rfl, rfl, lw_good_in (List.mem_append_right _ (List.mem_of_getElem? (i := 116) (by decide +kernel))) (by decide +kernel), by decide +kernel⟩
theorem fgX4_9 : sm_Fg RX4 9 4 2 := ⟨_, _, _, _, clX4, by decide, lw_good_in (List.mem_append_right _ (List.mem_of_getElem? (i := 117) (by decide +kernel))) (by decide +kernel)⟩
theorem flX4_9 : sm_Fl RX4 9 4 2 (.object "CaskGauge$Text") true := ⟨_, _, _, _, clX4, by decide, rfl, rfl, lw_good_in (List.mem_append_right _ (List.mem_of_getElem? (i := 117) (by decide +kernel))) (by decide +kernel), by decide +kernel⟩
theorem fgX4_34 : sm_Fg RX4 34 4 3 := ⟨_, _, _, _, clX4, by decide, lw_good_in (List.mem_append_right _ (List.mem_of_getElem? (i := 118) (by decide +kernel))) (by decide +kernel)⟩
theorem flX4_34 : sm_Fl RX4 34 4 3 (.int) false := ⟨_, _, _, _, clX4, by decide, rfl, rfl, lw_good_in (List.mem_append_right _ (List.mem_of_getElem? (i := 118) (by decide +kernel))) (by decide +kernel), by decide +kernel⟩
theorem cnX8_25 : Cond.classLink RX8 25 RX1 ∈ lw_good := lw_good_in (List.mem_append_right _ (List.mem_of_getElem? (i := 128) (by decide +kernel))) (by decide +kernel)
theorem mlX8_27 : Cond.methodLink RX8 27 mX1_init.1 ∈ lw_good := lw_good_in (List.mem_append_right _ (List.mem_of_getElem? (i := 129) (by decide +kernel))) (by decide +kernel)
theorem cnX8_32 : Cond.classLink RX8 32 RX3 ∈ lw_good := lw_good_in (List.mem_append_right _ (List.mem_of_getElem? (i := 130) (by decide +kernel))) (by decide +kernel)
theorem isX3 : Cond.instantiable RX3 3 ∈ lw_good := lw_good_in (List.mem_append_right _ (List.mem_of_getElem? (i := 131) (by decide +kernel))) (by decide +kernel)
theorem mlX8_34 : Cond.methodLink RX8 34 mX3_init.1 ∈ lw_good := lw_good_in (List.mem_append_right _ (List.mem_of_getElem? (i := 132) (by decide +kernel))) (by decide +kernel)
theorem mlX3_3 : Cond.methodLink RX3 3 objectInit ∈ lw_good := lw_good_in (List.mem_append_right _ (List.mem_of_getElem? (i := 135) (by decide +kernel))) (by decide +kernel)
theorem cnX3_9 : Cond.classLink RX3 9 RX1 ∈ lw_good := lw_good_in (List.mem_append_right _ (List.mem_of_getElem? (i := 136) (by decide +kernel))) (by decide +kernel)
theorem mlX3_17 : Cond.methodLink RX3 17 mX1_init.1 ∈ lw_good := lw_good_in (List.mem_append_right _ (List.mem_of_getElem? (i := 138) (by decide +kernel))) (by decide +kernel)
theorem fgX3_11 : sm_Fg RX3 11 3 0 := ⟨_, _, _, _, clX3, by decide, lw_good_in (List.mem_append_right _ (List.mem_of_getElem? (i := 139) (by decide +kernel))) (by decide +kernel)⟩
theorem flX3_11 : sm_Fl RX3 11 3 0 (.array (.object "CaskGauge$Cellar")) true := ⟨_, _, _, _, clX3, by decide, rfl, rfl, lw_good_in (List.mem_append_right _ (List.mem_of_getElem? (i := 139) (by decide +kernel))) (by decide +kernel), by decide +kernel⟩
theorem fgX3_18 : sm_Fg RX3 18 3 1 := ⟨_, _, _, _, clX3, by decide, lw_good_in (List.mem_append_right _ (List.mem_of_getElem? (i := 140) (by decide +kernel))) (by decide +kernel)⟩
theorem flX3_18 : sm_Fl RX3 18 3 1 (.int) false := ⟨_, _, _, _, clX3, by decide, rfl, rfl, lw_good_in (List.mem_append_right _ (List.mem_of_getElem? (i := 140) (by decide +kernel))) (by decide +kernel), by decide +kernel⟩
theorem fgX3_26 : sm_Fg RX3 26 3 2 := ⟨_, _, _, _, clX3, by decide, lw_good_in (List.mem_append_right _ (List.mem_of_getElem? (i := 141) (by decide +kernel))) (by decide +kernel)⟩
theorem flX3_26 : sm_Fl RX3 26 3 2 (.int) false := ⟨_, _, _, _, clX3, by decide, rfl, rfl, lw_good_in (List.mem_append_right _ (List.mem_of_getElem? (i := 141) (by decide +kernel))) (by decide +kernel), by decide +kernel⟩
theorem fgX8_137 : sm_Fg RX8 137 3 2 := ⟨_, _, _, _, clX3, by decide, lw_good_in (List.mem_append_right _ (List.mem_of_getElem? (i := 142) (by decide +kernel))) (by decide +kernel)⟩
theorem flX8_137 : sm_Fl RX8 137 3 2 (.int) false := ⟨_, _, _, _, clX3, by decide, rfl, rfl, lw_good_in (List.mem_append_right _ (List.mem_of_getElem? (i := 142) (by decide +kernel))) (by decide +kernel), by decide +kernel⟩
theorem cnX8_47 : Cond.classLink RX8 47 RX6 ∈ lw_good := lw_good_in (List.mem_append_right _ (List.mem_of_getElem? (i := 150) (by decide +kernel))) (by decide +kernel)
theorem isX6 : Cond.instantiable RX6 3 ∈ lw_good := lw_good_in (List.mem_append_right _ (List.mem_of_getElem? (i := 151) (by decide +kernel))) (by decide +kernel)
theorem mlX8_49 : Cond.methodLink RX8 49 mX6_init.1 ∈ lw_good := lw_good_in (List.mem_append_right _ (List.mem_of_getElem? (i := 152) (by decide +kernel))) (by decide +kernel)
theorem mlX6_3 : Cond.methodLink RX6 3 objectInit ∈ lw_good := lw_good_in (List.mem_append_right _ (List.mem_of_getElem? (i := 155) (by decide +kernel))) (by decide +kernel)
theorem fgX6_9 : sm_Fg RX6 9 6 0 := ⟨_, _, _, _, clX6, by decide, lw_good_in (List.mem_append_right _ (List.mem_of_getElem? (i := 156) (by decide +kernel))) (by decide +kernel)⟩
theorem flX6_9 : sm_Fl RX6 9 6 0 (.array .int) true := ⟨_, _, _, _, clX6, by decide, rfl, rfl, lw_good_in (List.mem_append_right _ (List.mem_of_getElem? (i := 156) (by decide +kernel))) (by decide +kernel), by decide +kernel⟩
theorem fgX6_15 : sm_Fg RX6 15 6 1 := ⟨_, _, _, _, clX6, by decide, lw_good_in (List.mem_append_right _ (List.mem_of_getElem? (i := 157) (by decide +kernel))) (by decide +kernel)⟩
theorem flX6_15 : sm_Fl RX6 15 6 1 (.array .int) true := ⟨_, _, _, _, clX6, by decide, rfl, rfl, lw_good_in (List.mem_append_right _ (List.mem_of_getElem? (i := 157) (by decide +kernel))) (by decide +kernel), by decide +kernel⟩
theorem fgX6_18 : sm_Fg RX6 18 6 2 := ⟨_, _, _, _, clX6, by decide, lw_good_in (List.mem_append_right _ (List.mem_of_getElem? (i := 158) (by decide +kernel))) (by decide +kernel)⟩
theorem flX6_18 : sm_Fl RX6 18 6 2 (.int) false := ⟨_, _, _, _, clX6, by decide, rfl, rfl, lw_good_in (List.mem_append_right _ (List.mem_of_getElem? (i := 158) (by decide +kernel))) (by decide +kernel), by decide +kernel⟩
theorem fgX8_215 : sm_Fg RX8 215 6 2 := ⟨_, _, _, _, clX6, by decide, lw_good_in (List.mem_append_right _ (List.mem_of_getElem? (i := 159) (by decide +kernel))) (by decide +kernel)⟩
theorem flX8_215 : sm_Fl RX8 215 6 2 (.int) false := ⟨_, _, _, _, clX6, by decide, rfl, rfl, lw_good_in (List.mem_append_right _ (List.mem_of_getElem? (i := 159) (by decide +kernel))) (by decide +kernel), by decide +kernel⟩
theorem ac_boolean : Cond.arrayClass .boolean ∈ lw_good := lw_good_in (List.mem_append_right _ (List.mem_of_getElem? (i := 167) (by decide +kernel))) (by decide +kernel)
theorem cnX8_54 : Cond.classLink RX8 54 RX2 ∈ lw_good := lw_good_in (List.mem_append_right _ (List.mem_of_getElem? (i := 168) (by decide +kernel))) (by decide +kernel)
theorem isX2 : Cond.instantiable RX2 6 ∈ lw_good := lw_good_in (List.mem_append_right _ (List.mem_of_getElem? (i := 170) (by decide +kernel))) (by decide +kernel)
theorem mlX8_63 : Cond.methodLink RX8 63 mX2_init.1 ∈ lw_good := lw_good_in (List.mem_append_right _ (List.mem_of_getElem? (i := 171) (by decide +kernel))) (by decide +kernel)
theorem mlX2_3 : Cond.methodLink RX2 3 objectInit ∈ lw_good := lw_good_in (List.mem_append_right _ (List.mem_of_getElem? (i := 174) (by decide +kernel))) (by decide +kernel)
theorem fgX2_9 : sm_Fg RX2 9 2 0 := ⟨_, _, _, _, clX2, by decide, lw_good_in (List.mem_append_right _ (List.mem_of_getElem? (i := 175) (by decide +kernel))) (by decide +kernel)⟩
theorem flX2_9 : sm_Fl RX2 9 2 0 (.boolean) true := ⟨_, _, _, _, clX2, by decide, rfl, rfl, lw_good_in (List.mem_append_right _ (List.mem_of_getElem? (i := 175) (by decide +kernel))) (by decide +kernel), by decide +kernel⟩
theorem fgX2_15 : sm_Fg RX2 15 2 1 := ⟨_, _, _, _, clX2, by decide, lw_good_in (List.mem_append_right _ (List.mem_of_getElem? (i := 176) (by decide +kernel))) (by decide +kernel)⟩
theorem flX2_15 : sm_Fl RX2 15 2 1 (.array .int) true := ⟨_, _, _, _, clX2, by decide, rfl, rfl, lw_good_in (List.mem_append_right _ (List.mem_of_getElem? (i := 176) (by decide +kernel))) (by decide +kernel), by decide +kernel⟩
theorem fgX2_19 : sm_Fg RX2 19 2 2 := ⟨_, _, _, _, clX2, by decide, lw_good_in (List.mem_append_right _ (List.mem_of_getElem? (i := 177) (by decide +kernel))) (by decide +kernel)⟩
theorem flX2_19 : sm_Fl RX2 19 2 2 (.int) false := ⟨_, _, _, _, clX2, by decide, rfl, rfl, lw_good_in (List.mem_append_right _ (List.mem_of_getElem? (i := 177) (by decide +kernel))) (by decide +kernel), by decide +kernel⟩
theorem fgX2_26 : sm_Fg RX2 26 2 3 := ⟨_, _, _, _, clX2, by decide, lw_good_in (List.mem_append_right _ (List.mem_of_getElem? (i := 178) (by decide +kernel))) (by decide +kernel)⟩
theorem flX2_26 : sm_Fl RX2 26 2 3 (.int) false := ⟨_, _, _, _, clX2, by decide, rfl, rfl, lw_good_in (List.mem_append_right _ (List.mem_of_getElem? (i := 178) (by decide +kernel))) (by decide +kernel), by decide +kernel⟩
theorem fgX2_30 : sm_Fg RX2 30 2 4 := ⟨_, _, _, _, clX2, by decide, lw_good_in (List.mem_append_right _ (List.mem_of_getElem? (i := 179) (by decide +kernel))) (by decide +kernel)⟩
theorem flX2_30 : sm_Fl RX2 30 2 4 (.int) false := ⟨_, _, _, _, clX2, by decide, rfl, rfl, lw_good_in (List.mem_append_right _ (List.mem_of_getElem? (i := 179) (by decide +kernel))) (by decide +kernel), by decide +kernel⟩
theorem fgX2_40 : sm_Fg RX2 40 2 5 := ⟨_, _, _, _, clX2, by decide, lw_good_in (List.mem_append_right _ (List.mem_of_getElem? (i := 180) (by decide +kernel))) (by decide +kernel)⟩
theorem flX2_40 : sm_Fl RX2 40 2 5 (.int) false := ⟨_, _, _, _, clX2, by decide, rfl, rfl, lw_good_in (List.mem_append_right _ (List.mem_of_getElem? (i := 180) (by decide +kernel))) (by decide +kernel), by decide +kernel⟩
theorem cnX8_66 : Cond.classLink RX8 66 RX5 ∈ lw_good := lw_good_in (List.mem_append_right _ (List.mem_of_getElem? (i := 194) (by decide +kernel))) (by decide +kernel)
theorem isX5 : Cond.instantiable RX5 5 ∈ lw_good := lw_good_in (List.mem_append_right _ (List.mem_of_getElem? (i := 195) (by decide +kernel))) (by decide +kernel)
theorem mlX5_3 : Cond.methodLink RX5 3 objectInit ∈ lw_good := lw_good_in (List.mem_append_right _ (List.mem_of_getElem? (i := 199) (by decide +kernel))) (by decide +kernel)
theorem fgX5_9 : sm_Fg RX5 9 5 0 := ⟨_, _, _, _, clX5, by decide, lw_good_in (List.mem_append_right _ (List.mem_of_getElem? (i := 200) (by decide +kernel))) (by decide +kernel)⟩
theorem flX5_9 : sm_Fl RX5 9 5 0 (.int) false := ⟨_, _, _, _, clX5, by decide, rfl, rfl, lw_good_in (List.mem_append_right _ (List.mem_of_getElem? (i := 200) (by decide +kernel))) (by decide +kernel), by decide +kernel⟩
theorem fgX8_202 : sm_Fg RX8 202 5 0 := ⟨_, _, _, _, clX5, by decide, lw_good_in (List.mem_append_right _ (List.mem_of_getElem? (i := 201) (by decide +kernel))) (by decide +kernel)⟩
theorem flX8_202 : sm_Fl RX8 202 5 0 (.int) false := ⟨_, _, _, _, clX5, by decide, rfl, rfl, lw_good_in (List.mem_append_right _ (List.mem_of_getElem? (i := 201) (by decide +kernel))) (by decide +kernel), by decide +kernel⟩
theorem fgX5_37 : sm_Fg RX5 37 5 1 := ⟨_, _, _, _, clX5, by decide, lw_good_in (List.mem_append_right _ (List.mem_of_getElem? (i := 202) (by decide +kernel))) (by decide +kernel)⟩
theorem flX5_37 : sm_Fl RX5 37 5 1 (.int) false := ⟨_, _, _, _, clX5, by decide, rfl, rfl, lw_good_in (List.mem_append_right _ (List.mem_of_getElem? (i := 202) (by decide +kernel))) (by decide +kernel), by decide +kernel⟩
theorem fgX8_190 : sm_Fg RX8 190 5 1 := ⟨_, _, _, _, clX5, by decide, lw_good_in (List.mem_append_right _ (List.mem_of_getElem? (i := 203) (by decide +kernel))) (by decide +kernel)⟩
theorem flX8_190 : sm_Fl RX8 190 5 1 (.int) false := ⟨_, _, _, _, clX5, by decide, rfl, rfl, lw_good_in (List.mem_append_right _ (List.mem_of_getElem? (i := 203) (by decide +kernel))) (by decide +kernel), by decide +kernel⟩
theorem fgX5_40 : sm_Fg RX5 40 5 2 := ⟨_, _, _, _, clX5, by decide, lw_good_in (List.mem_append_right _ (List.mem_of_getElem? (i := 204) (by decide +kernel))) (by decide +kernel)⟩
theorem flX5_40 : sm_Fl RX5 40 5 2 (.int) false := ⟨_, _, _, _, clX5, by decide, rfl, rfl, lw_good_in (List.mem_append_right _ (List.mem_of_getElem? (i := 204) (by decide +kernel))) (by decide +kernel), by decide +kernel⟩
theorem fgX8_193 : sm_Fg RX8 193 5 2 := ⟨_, _, _, _, clX5, by decide, lw_good_in (List.mem_append_right _ (List.mem_of_getElem? (i := 205) (by decide +kernel))) (by decide +kernel)⟩
theorem flX8_193 : sm_Fl RX8 193 5 2 (.int) false := ⟨_, _, _, _, clX5, by decide, rfl, rfl, lw_good_in (List.mem_append_right _ (List.mem_of_getElem? (i := 205) (by decide +kernel))) (by decide +kernel), by decide +kernel⟩
theorem fgX5_43 : sm_Fg RX5 43 5 3 := ⟨_, _, _, _, clX5, by decide, lw_good_in (List.mem_append_right _ (List.mem_of_getElem? (i := 206) (by decide +kernel))) (by decide +kernel)⟩
theorem flX5_43 : sm_Fl RX5 43 5 3 (.int) false := ⟨_, _, _, _, clX5, by decide, rfl, rfl, lw_good_in (List.mem_append_right _ (List.mem_of_getElem? (i := 206) (by decide +kernel))) (by decide +kernel), by decide +kernel⟩
theorem fgX8_196 : sm_Fg RX8 196 5 3 := ⟨_, _, _, _, clX5, by decide, lw_good_in (List.mem_append_right _ (List.mem_of_getElem? (i := 207) (by decide +kernel))) (by decide +kernel)⟩
theorem flX8_196 : sm_Fl RX8 196 5 3 (.int) false := ⟨_, _, _, _, clX5, by decide, rfl, rfl, lw_good_in (List.mem_append_right _ (List.mem_of_getElem? (i := 207) (by decide +kernel))) (by decide +kernel), by decide +kernel⟩
theorem fgX5_46 : sm_Fg RX5 46 5 4 := ⟨_, _, _, _, clX5, by decide, lw_good_in (List.mem_append_right _ (List.mem_of_getElem? (i := 208) (by decide +kernel))) (by decide +kernel)⟩
theorem flX5_46 : sm_Fl RX5 46 5 4 (.int) false := ⟨_, _, _, _, clX5, by decide, rfl, rfl, lw_good_in (List.mem_append_right _ (List.mem_of_getElem? (i := 208) (by decide +kernel))) (by decide +kernel), by decide +kernel⟩
theorem fgX8_199 : sm_Fg RX8 199 5 4 := ⟨_, _, _, _, clX5, by decide, lw_good_in (List.mem_append_right _ (List.mem_of_getElem? (i := 209) (by decide +kernel))) (by decide +kernel)⟩
theorem flX8_199 : sm_Fl RX8 199 5 4 (.int) false := ⟨_, _, _, _, clX5, by decide, rfl, rfl, lw_good_in (List.mem_append_right _ (List.mem_of_getElem? (i := 209) (by decide +kernel))) (by decide +kernel), by decide +kernel⟩
theorem fgX8_12 : sm_Fg RX8 12 8 0 := ⟨_, _, _, _, clX8, by decide, lw_good_in (List.mem_append_right _ (List.mem_of_getElem? (i := 221) (by decide +kernel))) (by decide +kernel)⟩
theorem flX8_12 : sm_Fl RX8 12 8 0 (.object "CaskGauge$Text") true := ⟨_, _, _, _, clX8, by decide, rfl, rfl, lw_good_in (List.mem_append_right _ (List.mem_of_getElem? (i := 221) (by decide +kernel))) (by decide +kernel), by decide +kernel⟩
theorem fgX8_21 : sm_Fg RX8 21 8 1 := ⟨_, _, _, _, clX8, by decide, lw_good_in (List.mem_append_right _ (List.mem_of_getElem? (i := 222) (by decide +kernel))) (by decide +kernel)⟩
theorem flX8_21 : sm_Fl RX8 21 8 1 (.object "CaskGauge$Reader") true := ⟨_, _, _, _, clX8, by decide, rfl, rfl, lw_good_in (List.mem_append_right _ (List.mem_of_getElem? (i := 222) (by decide +kernel))) (by decide +kernel), by decide +kernel⟩
theorem fgX8_28 : sm_Fg RX8 28 8 2 := ⟨_, _, _, _, clX8, by decide, lw_good_in (List.mem_append_right _ (List.mem_of_getElem? (i := 223) (by decide +kernel))) (by decide +kernel)⟩
theorem flX8_28 : sm_Fl RX8 28 8 2 (.object "CaskGauge$Cellar") true := ⟨_, _, _, _, clX8, by decide, rfl, rfl, lw_good_in (List.mem_append_right _ (List.mem_of_getElem? (i := 223) (by decide +kernel))) (by decide +kernel), by decide +kernel⟩
theorem fgX8_35 : sm_Fg RX8 35 8 3 := ⟨_, _, _, _, clX8, by decide, lw_good_in (List.mem_append_right _ (List.mem_of_getElem? (i := 224) (by decide +kernel))) (by decide +kernel)⟩
theorem flX8_35 : sm_Fl RX8 35 8 3 (.object "CaskGauge$Past") true := ⟨_, _, _, _, clX8, by decide, rfl, rfl, lw_good_in (List.mem_append_right _ (List.mem_of_getElem? (i := 224) (by decide +kernel))) (by decide +kernel), by decide +kernel⟩
theorem fgX8_39 : sm_Fg RX8 39 8 4 := ⟨_, _, _, _, clX8, by decide, lw_good_in (List.mem_append_right _ (List.mem_of_getElem? (i := 225) (by decide +kernel))) (by decide +kernel)⟩
theorem flX8_39 : sm_Fl RX8 39 8 4 (.array (.object "CaskGauge$Cellar")) true := ⟨_, _, _, _, clX8, by decide, rfl, rfl, lw_good_in (List.mem_append_right _ (List.mem_of_getElem? (i := 225) (by decide +kernel))) (by decide +kernel), by decide +kernel⟩
theorem fgX8_43 : sm_Fg RX8 43 8 5 := ⟨_, _, _, _, clX8, by decide, lw_good_in (List.mem_append_right _ (List.mem_of_getElem? (i := 226) (by decide +kernel))) (by decide +kernel)⟩
theorem flX8_43 : sm_Fl RX8 43 8 5 (.array .boolean) true := ⟨_, _, _, _, clX8, by decide, rfl, rfl, lw_good_in (List.mem_append_right _ (List.mem_of_getElem? (i := 226) (by decide +kernel))) (by decide +kernel), by decide +kernel⟩
theorem fgX8_50 : sm_Fg RX8 50 8 6 := ⟨_, _, _, _, clX8, by decide, lw_good_in (List.mem_append_right _ (List.mem_of_getElem? (i := 227) (by decide +kernel))) (by decide +kernel)⟩
theorem flX8_50 : sm_Fl RX8 50 8 6 (.object "CaskGauge$Sightings") true := ⟨_, _, _, _, clX8, by decide, rfl, rfl, lw_good_in (List.mem_append_right _ (List.mem_of_getElem? (i := 227) (by decide +kernel))) (by decide +kernel), by decide +kernel⟩
theorem fgX8_56 : sm_Fg RX8 56 8 7 := ⟨_, _, _, _, clX8, by decide, lw_good_in (List.mem_append_right _ (List.mem_of_getElem? (i := 228) (by decide +kernel))) (by decide +kernel)⟩
theorem flX8_56 : sm_Fl RX8 56 8 7 (.array (.object "CaskGauge$Levels")) true := ⟨_, _, _, _, clX8, by decide, rfl, rfl, lw_good_in (List.mem_append_right _ (List.mem_of_getElem? (i := 228) (by decide +kernel))) (by decide +kernel), by decide +kernel⟩
theorem fgX8_60 : sm_Fg RX8 60 8 8 := ⟨_, _, _, _, clX8, by decide, lw_good_in (List.mem_append_right _ (List.mem_of_getElem? (i := 229) (by decide +kernel))) (by decide +kernel)⟩
theorem flX8_60 : sm_Fl RX8 60 8 8 (.array (.object "CaskGauge$Levels")) true := ⟨_, _, _, _, clX8, by decide, rfl, rfl, lw_good_in (List.mem_append_right _ (List.mem_of_getElem? (i := 229) (by decide +kernel))) (by decide +kernel), by decide +kernel⟩
theorem fgX8_69 : sm_Fg RX8 69 8 9 := ⟨_, _, _, _, clX8, by decide, lw_good_in (List.mem_append_right _ (List.mem_of_getElem? (i := 230) (by decide +kernel))) (by decide +kernel)⟩
theorem flX8_69 : sm_Fl RX8 69 8 9 (.object "CaskGauge$Sharing") true := ⟨_, _, _, _, clX8, by decide, rfl, rfl, lw_good_in (List.mem_append_right _ (List.mem_of_getElem? (i := 230) (by decide +kernel))) (by decide +kernel), by decide +kernel⟩
theorem fgX8_73 : sm_Fg RX8 73 8 10 := ⟨_, _, _, _, clX8, by decide, lw_good_in (List.mem_append_right _ (List.mem_of_getElem? (i := 231) (by decide +kernel))) (by decide +kernel)⟩
theorem flX8_73 : sm_Fl RX8 73 8 10 (.array .int) true := ⟨_, _, _, _, clX8, by decide, rfl, rfl, lw_good_in (List.mem_append_right _ (List.mem_of_getElem? (i := 231) (by decide +kernel))) (by decide +kernel), by decide +kernel⟩
theorem mlL_13 : Cond.methodLink RL 13 mX8_type.1 ∈ lw_good := lw_good_in (List.mem_append_right _ (List.mem_of_getElem? (i := 255) (by decide +kernel))) (by decide +kernel)
theorem mlX8_77 : Cond.methodLink RX8 77 mX7_add.1 ∈ lw_good := lw_good_in (List.mem_append_right _ (List.mem_of_getElem? (i := 259) (by decide +kernel))) (by decide +kernel)
theorem mlL_18 : Cond.methodLink RL 18 mX8_clear.1 ∈ lw_good := lw_good_in (List.mem_append_right _ (List.mem_of_getElem? (i := 263) (by decide +kernel))) (by decide +kernel)
theorem mlL_23 : Cond.methodLink RL 23 mX8_tells.1 ∈ lw_good := lw_good_in (List.mem_append_right _ (List.mem_of_getElem? (i := 267) (by decide +kernel))) (by decide +kernel)
theorem mlX8_85 : Cond.methodLink RX8 85 mX4_readAll.1 ∈ lw_good := lw_good_in (List.mem_append_right _ (List.mem_of_getElem? (i := 271) (by decide +kernel))) (by decide +kernel)
theorem mlX4_22 : Cond.methodLink RX4 22 mX7_split.1 ∈ lw_good := lw_good_in (List.mem_append_right _ (List.mem_of_getElem? (i := 275) (by decide +kernel))) (by decide +kernel)
theorem mlX7_28 : Cond.methodLink RX7 28 mX7_goesOn.1 ∈ lw_good := lw_good_in (List.mem_append_right _ (List.mem_of_getElem? (i := 279) (by decide +kernel))) (by decide +kernel)
theorem mlX7_36 : Cond.methodLink RX7 36 mX7_isSmallLetter.1 ∈ lw_good := lw_good_in (List.mem_append_right _ (List.mem_of_getElem? (i := 283) (by decide +kernel))) (by decide +kernel)
theorem mlX7_39 : Cond.methodLink RX7 39 mX7_isFigure.1 ∈ lw_good := lw_good_in (List.mem_append_right _ (List.mem_of_getElem? (i := 286) (by decide +kernel))) (by decide +kernel)
theorem mlX7_32 : Cond.methodLink RX7 32 mX7_putKind.1 ∈ lw_good := lw_good_in (List.mem_append_right _ (List.mem_of_getElem? (i := 289) (by decide +kernel))) (by decide +kernel)
theorem mlX7_42 : Cond.methodLink RX7 42 mX7_kindOfWord.1 ∈ lw_good := lw_good_in (List.mem_append_right _ (List.mem_of_getElem? (i := 293) (by decide +kernel))) (by decide +kernel)
theorem mlX7_54 : Cond.methodLink RX7 54 mX7_isWord.1 ∈ lw_good := lw_good_in (List.mem_append_right _ (List.mem_of_getElem? (i := 298) (by decide +kernel))) (by decide +kernel)
theorem mlX7_60 : Cond.methodLink RX7 60 mJ0_length_8abf5.1 ∈ lw_good := lw_good_in (List.mem_append_right _ (List.mem_of_getElem? (i := 302) (by decide +kernel))) (by decide +kernel)
theorem mlJ0_335 : Cond.methodLink RJ0 335 mJ0_coder_7d493.1 ∈ lw_good := lw_good_in (List.mem_append_right _ (List.mem_of_getElem? (i := 306) (by decide +kernel))) (by decide +kernel)
theorem mlX7_65 : Cond.methodLink RX7 65 mJ0_charAt_5068e.1 ∈ lw_good := lw_good_in (List.mem_append_right _ (List.mem_of_getElem? (i := 312) (by decide +kernel))) (by decide +kernel)
theorem mlJ0_492 : Cond.methodLink RJ0 492 mJ0_isLatin1_aae02.1 ∈ lw_good := lw_good_in (List.mem_append_right _ (List.mem_of_getElem? (i := 316) (by decide +kernel))) (by decide +kernel)
theorem mlJ0_495 : Cond.methodLink RJ0 495 mJ1_charAt_3b067.1 ∈ lw_good := lw_good_in (List.mem_append_right _ (List.mem_of_getElem? (i := 320) (by decide +kernel))) (by decide +kernel)
theorem mlJ1_9 : Cond.methodLink RJ1 9 mJ0_checkIndex_df160.1 ∈ lw_good := lw_good_in (List.mem_append_right _ (List.mem_of_getElem? (i := 323) (by decide +kernel))) (by decide +kernel)
theorem mlJ0_1059 : Cond.methodLink RJ0 1059 mJ3_checkIndex_8e157.1 ∈ lw_good := lw_good_in (List.mem_append_right _ (List.mem_of_getElem? (i := 328) (by decide +kernel))) (by decide +kernel)
theorem mlJ0_498 : Cond.methodLink RJ0 498 mJ2_charAt_3b067.1 ∈ lw_good := lw_good_in (List.mem_append_right _ (List.mem_of_getElem? (i := 331) (by decide +kernel))) (by decide +kernel)
theorem mlJ2_67 : Cond.methodLink RJ2 67 mJ2_checkIndex_2214a.1 ∈ lw_good := lw_good_in (List.mem_append_right _ (List.mem_of_getElem? (i := 334) (by decide +kernel))) (by decide +kernel)
theorem mlJ2_48 : Cond.methodLink RJ2 48 mJ2_length_9d52b.1 ∈ lw_good := lw_good_in (List.mem_append_right _ (List.mem_of_getElem? (i := 337) (by decide +kernel))) (by decide +kernel)
theorem mlJ2_414 : Cond.methodLink RJ2 414 mJ0_checkIndex_df160.1 ∈ lw_good := lw_good_in (List.mem_append_right _ (List.mem_of_getElem? (i := 340) (by decide +kernel))) (by decide +kernel)
theorem mlJ2_71 : Cond.methodLink RJ2 71 mJ2_getChar_3b067.1 ∈ lw_good := lw_good_in (List.mem_append_right _ (List.mem_of_getElem? (i := 341) (by decide +kernel))) (by decide +kernel)
theorem mlX7_46 : Cond.methodLink RX7 46 mX7_kindOfNumber.1 ∈ lw_good := lw_good_in (List.mem_append_right _ (List.mem_of_getElem? (i := 351) (by decide +kernel))) (by decide +kernel)
theorem mlX7_49 : Cond.methodLink RX7 49 mX7_valueOf.1 ∈ lw_good := lw_good_in (List.mem_append_right _ (List.mem_of_getElem? (i := 355) (by decide +kernel))) (by decide +kernel)
theorem mlX4_27 : Cond.methodLink RX4 27 mX1_empty.1 ∈ lw_good := lw_good_in (List.mem_append_right _ (List.mem_of_getElem? (i := 359) (by decide +kernel))) (by decide +kernel)
theorem mlX4_41 : Cond.methodLink RX4 41 mX4_readItem.1 ∈ lw_good := lw_good_in (List.mem_append_right _ (List.mem_of_getElem? (i := 363) (by decide +kernel))) (by decide +kernel)
theorem mlX4_51 : Cond.methodLink RX4 51 mX4_readCask.1 ∈ lw_good := lw_good_in (List.mem_append_right _ (List.mem_of_getElem? (i := 367) (by decide +kernel))) (by decide +kernel)
theorem mlX4_57 : Cond.methodLink RX4 57 mX4_readNumber.1 ∈ lw_good := lw_good_in (List.mem_append_right _ (List.mem_of_getElem? (i := 371) (by decide +kernel))) (by decide +kernel)
theorem mlX4_85 : Cond.methodLink RX4 85 mX4_step.1 ∈ lw_good := lw_good_in (List.mem_append_right _ (List.mem_of_getElem? (i := 375) (by decide +kernel))) (by decide +kernel)
theorem mlX4_64 : Cond.methodLink RX4 64 mX4_readItemEnd.1 ∈ lw_good := lw_good_in (List.mem_append_right _ (List.mem_of_getElem? (i := 379) (by decide +kernel))) (by decide +kernel)
theorem mlX4_67 : Cond.methodLink RX4 67 mX1_add.1 ∈ lw_good := lw_good_in (List.mem_append_right _ (List.mem_of_getElem? (i := 383) (by decide +kernel))) (by decide +kernel)
theorem mlX1_22 : Cond.methodLink RX1 22 mX0_becomeNew.1 ∈ lw_good := lw_good_in (List.mem_append_right _ (List.mem_of_getElem? (i := 387) (by decide +kernel))) (by decide +kernel)
theorem mlX4_54 : Cond.methodLink RX4 54 mX4_readStands.1 ∈ lw_good := lw_good_in (List.mem_append_right _ (List.mem_of_getElem? (i := 391) (by decide +kernel))) (by decide +kernel)
theorem mlX4_71 : Cond.methodLink RX4 71 mX1_has.1 ∈ lw_good := lw_good_in (List.mem_append_right _ (List.mem_of_getElem? (i := 395) (by decide +kernel))) (by decide +kernel)
theorem mlX8_89 : Cond.methodLink RX8 89 mX4_faultPlace.1 ∈ lw_good := lw_good_in (List.mem_append_right _ (List.mem_of_getElem? (i := 399) (by decide +kernel))) (by decide +kernel)
theorem mlX8_93 : Cond.methodLink RX8 93 mX3_remember.1 ∈ lw_good := lw_good_in (List.mem_append_right _ (List.mem_of_getElem? (i := 403) (by decide +kernel))) (by decide +kernel)
theorem mlX3_22 : Cond.methodLink RX3 22 mX1_copyFrom.1 ∈ lw_good := lw_good_in (List.mem_append_right _ (List.mem_of_getElem? (i := 407) (by decide +kernel))) (by decide +kernel)
theorem mlX1_26 : Cond.methodLink RX1 26 mX0_copyFrom.1 ∈ lw_good := lw_good_in (List.mem_append_right _ (List.mem_of_getElem? (i := 411) (by decide +kernel))) (by decide +kernel)
theorem mlX3_29 : Cond.methodLink RX3 29 mJ9_min_7cf53.1 ∈ lw_good := lw_good_in (List.mem_append_right _ (List.mem_of_getElem? (i := 415) (by decide +kernel))) (by decide +kernel)
theorem mlX8_100 : Cond.methodLink RX8 100 mX1_copyFrom.1 ∈ lw_good := lw_good_in (List.mem_append_right _ (List.mem_of_getElem? (i := 418) (by decide +kernel))) (by decide +kernel)
theorem ac_byte : Cond.arrayClass .byte ∈ lw_good := lw_good_in (List.mem_append_right _ (List.mem_of_getElem? (i := 419) (by decide +kernel))) (by decide +kernel)
theorem mlL_27 : Cond.methodLink RL 27 mX8_fills.1 ∈ lw_good := lw_good_in (List.mem_append_right _ (List.mem_of_getElem? (i := 420) (by decide +kernel))) (by decide +kernel)
theorem mlX8_106 : Cond.methodLink RX8 106 mX1_has.1 ∈ lw_good := lw_good_in (List.mem_append_right _ (List.mem_of_getElem? (i := 424) (by decide +kernel))) (by decide +kernel)
theorem mlX8_109 : Cond.methodLink RX8 109 mX8_roomIn.1 ∈ lw_good := lw_good_in (List.mem_append_right _ (List.mem_of_getElem? (i := 425) (by decide +kernel))) (by decide +kernel)
theorem mlX8_149 : Cond.methodLink RX8 149 mX8_levelsOf.1 ∈ lw_good := lw_good_in (List.mem_append_right _ (List.mem_of_getElem? (i := 429) (by decide +kernel))) (by decide +kernel)
theorem mlX8_217 : Cond.methodLink RX8 217 mX8_lyingLevelsOf.1 ∈ lw_good := lw_good_in (List.mem_append_right _ (List.mem_of_getElem? (i := 433) (by decide +kernel))) (by decide +kernel)
theorem mlX8_247 : Cond.methodLink RX8 247 mX2_measure.1 ∈ lw_good := lw_good_in (List.mem_append_right _ (List.mem_of_getElem? (i := 437) (by decide +kernel))) (by decide +kernel)
theorem mlX2_34 : Cond.methodLink RX2 34 mJ9_min_7cf53.1 ∈ lw_good := lw_good_in (List.mem_append_right _ (List.mem_of_getElem? (i := 441) (by decide +kernel))) (by decide +kernel)
theorem mlX2_43 : Cond.methodLink RX2 43 mX0_radiusOf.1 ∈ lw_good := lw_good_in (List.mem_append_right _ (List.mem_of_getElem? (i := 442) (by decide +kernel))) (by decide +kernel)
theorem mlX2_47 : Cond.methodLink RX2 47 mX0_cellsOf.1 ∈ lw_good := lw_good_in (List.mem_append_right _ (List.mem_of_getElem? (i := 446) (by decide +kernel))) (by decide +kernel)
theorem mlX2_50 : Cond.methodLink RX2 50 mX2_addAhead.1 ∈ lw_good := lw_good_in (List.mem_append_right _ (List.mem_of_getElem? (i := 450) (by decide +kernel))) (by decide +kernel)
theorem mlX2_54 : Cond.methodLink RX2 54 mX2_reach.1 ∈ lw_good := lw_good_in (List.mem_append_right _ (List.mem_of_getElem? (i := 454) (by decide +kernel))) (by decide +kernel)
theorem mlX8_153 : Cond.methodLink RX8 153 mX2_hold.1 ∈ lw_good := lw_good_in (List.mem_append_right _ (List.mem_of_getElem? (i := 458) (by decide +kernel))) (by decide +kernel)
theorem mlX2_58 : Cond.methodLink RX2 58 mX2_amountAt.1 ∈ lw_good := lw_good_in (List.mem_append_right _ (List.mem_of_getElem? (i := 462) (by decide +kernel))) (by decide +kernel)
theorem mlX8_117 : Cond.methodLink RX8 117 mX0_takeIn.1 ∈ lw_good := lw_good_in (List.mem_append_right _ (List.mem_of_getElem? (i := 466) (by decide +kernel))) (by decide +kernel)
theorem mlL_32 : Cond.methodLink RL 32 mX8_draws.1 ∈ lw_good := lw_good_in (List.mem_append_right _ (List.mem_of_getElem? (i := 470) (by decide +kernel))) (by decide +kernel)
theorem mlX8_126 : Cond.methodLink RX8 126 mX0_giveOut.1 ∈ lw_good := lw_good_in (List.mem_append_right _ (List.mem_of_getElem? (i := 474) (by decide +kernel))) (by decide +kernel)
theorem mlL_37 : Cond.methodLink RL 37 mX8_pours.1 ∈ lw_good := lw_good_in (List.mem_append_right _ (List.mem_of_getElem? (i := 478) (by decide +kernel))) (by decide +kernel)
theorem mlL_41 : Cond.methodLink RL 41 mX8_turnsOver.1 ∈ lw_good := lw_good_in (List.mem_append_right _ (List.mem_of_getElem? (i := 482) (by decide +kernel))) (by decide +kernel)
theorem mlL_45 : Cond.methodLink RL 45 mX8_undo.1 ∈ lw_good := lw_good_in (List.mem_append_right _ (List.mem_of_getElem? (i := 486) (by decide +kernel))) (by decide +kernel)
theorem mlX8_133 : Cond.methodLink RX8 133 mX3_recallInto.1 ∈ lw_good := lw_good_in (List.mem_append_right _ (List.mem_of_getElem? (i := 490) (by decide +kernel))) (by decide +kernel)
theorem mlL_49 : Cond.methodLink RL 49 mX8_cask.1 ∈ lw_good := lw_good_in (List.mem_append_right _ (List.mem_of_getElem? (i := 494) (by decide +kernel))) (by decide +kernel)
theorem mlX8_159 : Cond.methodLink RX8 159 mX2_leastDip.1 ∈ lw_good := lw_good_in (List.mem_append_right _ (List.mem_of_getElem? (i := 498) (by decide +kernel))) (by decide +kernel)
theorem mlX2_61 : Cond.methodLink RX2 61 mX2_leastDipFrom.1 ∈ lw_good := lw_good_in (List.mem_append_right _ (List.mem_of_getElem? (i := 502) (by decide +kernel))) (by decide +kernel)
theorem mlX2_64 : Cond.methodLink RX2 64 mJ9_max_7cf53.1 ∈ lw_good := lw_good_in (List.mem_append_right _ (List.mem_of_getElem? (i := 506) (by decide +kernel))) (by decide +kernel)
theorem mlX8_162 : Cond.methodLink RX8 162 mX0_strength.1 ∈ lw_good := lw_good_in (List.mem_append_right _ (List.mem_of_getElem? (i := 509) (by decide +kernel))) (by decide +kernel)
theorem mlX8_166 : Cond.methodLink RX8 166 mX8_inThousandths.1 ∈ lw_good := lw_good_in (List.mem_append_right _ (List.mem_of_getElem? (i := 513) (by decide +kernel))) (by decide +kernel)
theorem kfX8_251 : Cond.constantFloat RX8 251 1148846080 ∈ lw_good := lw_good_in (List.mem_append_right _ (List.mem_of_getElem? (i := 516) (by decide +kernel))) (by decide +kernel)
theorem mlL_53 : Cond.methodLink RL 53 mX8_slice.1 ∈ lw_good := lw_good_in (List.mem_append_right _ (List.mem_of_getElem? (i := 517) (by decide +kernel))) (by decide +kernel)
theorem mlX8_170 : Cond.methodLink RX8 170 mX0_radiusOf.1 ∈ lw_good := lw_good_in (List.mem_append_right _ (List.mem_of_getElem? (i := 521) (by decide +kernel))) (by decide +kernel)
theorem mlX8_173 : Cond.methodLink RX8 173 mX0_cellsOf.1 ∈ lw_good := lw_good_in (List.mem_append_right _ (List.mem_of_getElem? (i := 522) (by decide +kernel))) (by decide +kernel)
theorem mlL_57 : Cond.methodLink RL 57 mX8_under.1 ∈ lw_good := lw_good_in (List.mem_append_right _ (List.mem_of_getElem? (i := 523) (by decide +kernel))) (by decide +kernel)
theorem mlX8_177 : Cond.methodLink RX8 177 mX2_reach.1 ∈ lw_good := lw_good_in (List.mem_append_right _ (List.mem_of_getElem? (i := 527) (by decide +kernel))) (by decide +kernel)
theorem mlX8_180 : Cond.methodLink RX8 180 mX2_amountAt.1 ∈ lw_good := lw_good_in (List.mem_append_right _ (List.mem_of_getElem? (i := 528) (by decide +kernel))) (by decide +kernel)
theorem mlL_61 : Cond.methodLink RL 61 mX8_dip.1 ∈ lw_good := lw_good_in (List.mem_append_right _ (List.mem_of_getElem? (i := 529) (by decide +kernel))) (by decide +kernel)
theorem mlL_65 : Cond.methodLink RL 65 mX8_stick.1 ∈ lw_good := lw_good_in (List.mem_append_right _ (List.mem_of_getElem? (i := 533) (by decide +kernel))) (by decide +kernel)
theorem mlX8_183 : Cond.methodLink RX8 183 mX2_markAt.1 ∈ lw_good := lw_good_in (List.mem_append_right _ (List.mem_of_getElem? (i := 537) (by decide +kernel))) (by decide +kernel)
theorem mlX2_67 : Cond.methodLink RX2 67 mX2_hold.1 ∈ lw_good := lw_good_in (List.mem_append_right _ (List.mem_of_getElem? (i := 541) (by decide +kernel))) (by decide +kernel)
theorem mlL_69 : Cond.methodLink RL 69 mX8_known.1 ∈ lw_good := lw_good_in (List.mem_append_right _ (List.mem_of_getElem? (i := 542) (by decide +kernel))) (by decide +kernel)
theorem mlL_73 : Cond.methodLink RL 73 mX8_shares.1 ∈ lw_good := lw_good_in (List.mem_append_right _ (List.mem_of_getElem? (i := 546) (by decide +kernel))) (by decide +kernel)
theorem mlX8_186 : Cond.methodLink RX8 186 mX5_findFairest.1 ∈ lw_good := lw_good_in (List.mem_append_right _ (List.mem_of_getElem? (i := 550) (by decide +kernel))) (by decide +kernel)
theorem mlX5_15 : Cond.methodLink RX5 15 mX2_leastDip.1 ∈ lw_good := lw_good_in (List.mem_append_right _ (List.mem_of_getElem? (i := 554) (by decide +kernel))) (by decide +kernel)
theorem mlX5_21 : Cond.methodLink RX5 21 mJ9_min_7cf53.1 ∈ lw_good := lw_good_in (List.mem_append_right _ (List.mem_of_getElem? (i := 555) (by decide +kernel))) (by decide +kernel)
theorem mlX5_27 : Cond.methodLink RX5 27 mX5_weigh.1 ∈ lw_good := lw_good_in (List.mem_append_right _ (List.mem_of_getElem? (i := 556) (by decide +kernel))) (by decide +kernel)
theorem mlX5_31 : Cond.methodLink RX5 31 mX2_amountAt.1 ∈ lw_good := lw_good_in (List.mem_append_right _ (List.mem_of_getElem? (i := 560) (by decide +kernel))) (by decide +kernel)
theorem mlX5_34 : Cond.methodLink RX5 34 mJ9_max_7cf53.1 ∈ lw_good := lw_good_in (List.mem_append_right _ (List.mem_of_getElem? (i := 561) (by decide +kernel))) (by decide +kernel)
theorem mlL_77 : Cond.methodLink RL 77 mX8_all.1 ∈ lw_good := lw_good_in (List.mem_append_right _ (List.mem_of_getElem? (i := 562) (by decide +kernel))) (by decide +kernel)
theorem mlX8_205 : Cond.methodLink RX8 205 mX1_strongest.1 ∈ lw_good := lw_good_in (List.mem_append_right _ (List.mem_of_getElem? (i := 566) (by decide +kernel))) (by decide +kernel)
theorem mlX1_36 : Cond.methodLink RX1 36 mX0_strength.1 ∈ lw_good := lw_good_in (List.mem_append_right _ (List.mem_of_getElem? (i := 570) (by decide +kernel))) (by decide +kernel)
theorem mlX8_208 : Cond.methodLink RX8 208 mX1_meanStrength.1 ∈ lw_good := lw_good_in (List.mem_append_right _ (List.mem_of_getElem? (i := 571) (by decide +kernel))) (by decide +kernel)
theorem mlL_81 : Cond.methodLink RL 81 mX8_sees.1 ∈ lw_good := lw_good_in (List.mem_append_right _ (List.mem_of_getElem? (i := 575) (by decide +kernel))) (by decide +kernel)
theorem kcX8_211 : Cond.constant RX8 211 99999 ∈ lw_good := lw_good_in (List.mem_append_right _ (List.mem_of_getElem? (i := 579) (by decide +kernel))) (by decide +kernel)
theorem mlX8_212 : Cond.methodLink RX8 212 mX6_add.1 ∈ lw_good := lw_good_in (List.mem_append_right _ (List.mem_of_getElem? (i := 580) (by decide +kernel))) (by decide +kernel)
theorem mlL_85 : Cond.methodLink RL 85 mX8_forget.1 ∈ lw_good := lw_good_in (List.mem_append_right _ (List.mem_of_getElem? (i := 584) (by decide +kernel))) (by decide +kernel)
theorem mlL_89 : Cond.methodLink RL 89 mX8_which.1 ∈ lw_good := lw_good_in (List.mem_append_right _ (List.mem_of_getElem? (i := 588) (by decide +kernel))) (by decide +kernel)
theorem mlX8_220 : Cond.methodLink RX8 220 mX6_fits.1 ∈ lw_good := lw_good_in (List.mem_append_right _ (List.mem_of_getElem? (i := 592) (by decide +kernel))) (by decide +kernel)
theorem mlX6_22 : Cond.methodLink RX6 22 mX2_leastDip.1 ∈ lw_good := lw_good_in (List.mem_append_right _ (List.mem_of_getElem? (i := 596) (by decide +kernel))) (by decide +kernel)
theorem mlL_93 : Cond.methodLink RL 93 mX8_ask.1 ∈ lw_good := lw_good_in (List.mem_append_right _ (List.mem_of_getElem? (i := 597) (by decide +kernel))) (by decide +kernel)
theorem mlX8_224 : Cond.methodLink RX8 224 mX8_which.1 ∈ lw_good := lw_good_in (List.mem_append_right _ (List.mem_of_getElem? (i := 601) (by decide +kernel))) (by decide +kernel)
theorem mlX8_227 : Cond.methodLink RX8 227 mJ6_bitCount_0f7a4.1 ∈ lw_good := lw_good_in (List.mem_append_right _ (List.mem_of_getElem? (i := 602) (by decide +kernel))) (by decide +kernel)
theorem kcJ6_265 : Cond.constant RJ6 265 1431655765 ∈ lw_good := lw_good_in (List.mem_append_right _ (List.mem_of_getElem? (i := 605) (by decide +kernel))) (by decide +kernel)
theorem kcJ6_266 : Cond.constant RJ6 266 858993459 ∈ lw_good := lw_good_in (List.mem_append_right _ (List.mem_of_getElem? (i := 606) (by decide +kernel))) (by decide +kernel)
theorem kcJ6_267 : Cond.constant RJ6 267 252645135 ∈ lw_good := lw_good_in (List.mem_append_right _ (List.mem_of_getElem? (i := 607) (by decide +kernel))) (by decide +kernel)
theorem mlX8_232 : Cond.methodLink RX8 232 mX8_startAsking.1 ∈ lw_good := lw_good_in (List.mem_append_right _ (List.mem_of_getElem? (i := 608) (by decide +kernel))) (by decide +kernel)
theorem mlX8_235 : Cond.methodLink RX8 235 mX8_mostAlike.1 ∈ lw_good := lw_good_in (List.mem_append_right _ (List.mem_of_getElem? (i := 612) (by decide +kernel))) (by decide +kernel)
theorem mlX8_255 : Cond.methodLink RX8 255 mJ9_max_7cf53.1 ∈ lw_good := lw_good_in (List.mem_append_right _ (List.mem_of_getElem? (i := 616) (by decide +kernel))) (by decide +kernel)
theorem mlX8_238 : Cond.methodLink RX8 238 mX8_raiseAskedDips.1 ∈ lw_good := lw_good_in (List.mem_append_right _ (List.mem_of_getElem? (i := 617) (by decide +kernel))) (by decide +kernel)
theorem mlX8_252 : Cond.methodLink RX8 252 mX2_leastDipFrom.1 ∈ lw_good := lw_good_in (List.mem_append_right _ (List.mem_of_getElem? (i := 621) (by decide +kernel))) (by decide +kernel)
theorem mlL_97 : Cond.methodLink RL 97 mX8_keep.1 ∈ lw_good := lw_good_in (List.mem_append_right _ (List.mem_of_getElem? (i := 622) (by decide +kernel))) (by decide +kernel)
theorem mlL_101 : Cond.methodLink RL 101 mX8_back.1 ∈ lw_good := lw_good_in (List.mem_append_right _ (List.mem_of_getElem? (i := 626) (by decide +kernel))) (by decide +kernel)
theorem mlL_105 : Cond.methodLink RL 105 mX8_count.1 ∈ lw_good := lw_good_in (List.mem_append_right _ (List.mem_of_getElem? (i := 630) (by decide +kernel))) (by decide +kernel)
theorem mlX8_241 : Cond.methodLink RX8 241 mX1_allWine.1 ∈ lw_good := lw_good_in (List.mem_append_right _ (List.mem_of_getElem? (i := 634) (by decide +kernel))) (by decide +kernel)
theorem mlX8_244 : Cond.methodLink RX8 244 mX1_allSpirit.1 ∈ lw_good := lw_good_in (List.mem_append_right _ (List.mem_of_getElem? (i := 638) (by decide +kernel))) (by decide +kernel)
theorem cnL_10 : Cond.classLink RL 10 RX9 ∈ lw_good := lw_good_in (List.mem_append_right _ (List.mem_of_getElem? (i := 642) (by decide +kernel))) (by decide +kernel)
theorem isX9 : Cond.instantiable RX9 21 ∈ lw_good := lw_good_in (List.mem_append_right _ (List.mem_of_getElem? (i := 643) (by decide +kernel))) (by decide +kernel)
theorem mlL_12 : Cond.methodLink RL 12 mX9_init.1 ∈ lw_good := lw_good_in (List.mem_append_right _ (List.mem_of_getElem? (i := 644) (by decide +kernel))) (by decide +kernel)
theorem mlX9_1 : Cond.methodLink RX9 1 objectInit ∈ lw_good := lw_good_in (List.mem_append_right _ (List.mem_of_getElem? (i := 647) (by decide +kernel))) (by decide +kernel)
theorem fgX9_39 : sm_Fg RX9 39 9 0 := ⟨_, _, _, _, clX9, by decide, lw_good_in (List.mem_append_right _ (List.mem_of_getElem? (i := 648) (by decide +kernel))) (by decide +kernel)⟩
theorem flX9_39 : sm_Fl RX9 39 9 0 (.int) false := ⟨_, _, _, _, clX9, by decide, rfl, rfl, lw_good_in (List.mem_append_right _ (List.mem_of_getElem? (i := 648) (by decide +kernel))) (by decide +kernel), by decide +kernel⟩
theorem fgX9_7 : sm_Fg RX9 7 9 1 := ⟨_, _, _, _, clX9, by decide, lw_good_in (List.mem_append_right _ (List.mem_of_getElem? (i := 649) (by decide +kernel))) (by decide +kernel)⟩
theorem flX9_7 : sm_Fl RX9 7 9 1 (.array .int) true := ⟨_, _, _, _, clX9, by decide, rfl, rfl, lw_good_in (List.mem_append_right _ (List.mem_of_getElem? (i := 649) (by decide +kernel))) (by decide +kernel), by decide +kernel⟩
theorem fgX9_13 : sm_Fg RX9 13 9 2 := ⟨_, _, _, _, clX9, by decide, lw_good_in (List.mem_append_right _ (List.mem_of_getElem? (i := 650) (by decide +kernel))) (by decide +kernel)⟩
theorem flX9_13 : sm_Fl RX9 13 9 2 (.array .int) true := ⟨_, _, _, _, clX9, by decide, rfl, rfl, lw_good_in (List.mem_append_right _ (List.mem_of_getElem? (i := 650) (by decide +kernel))) (by decide +kernel), by decide +kernel⟩
theorem fgX9_16 : sm_Fg RX9 16 9 3 := ⟨_, _, _, _, clX9, by decide, lw_good_in (List.mem_append_right _ (List.mem_of_getElem? (i := 651) (by decide +kernel))) (by decide +kernel)⟩
theorem flX9_16 : sm_Fl RX9 16 9 3 (.array .int) true := ⟨_, _, _, _, clX9, by decide, rfl, rfl, lw_good_in (List.mem_append_right _ (List.mem_of_getElem? (i := 651) (by decide +kernel))) (by decide +kernel), by decide +kernel⟩
theorem fgX9_124 : sm_Fg RX9 124 9 4 := ⟨_, _, _, _, clX9, by decide, lw_good_in (List.mem_append_right _ (List.mem_of_getElem? (i := 652) (by decide +kernel))) (by decide +kernel)⟩
theorem flX9_124 : sm_Fl RX9 124 9 4 (.int) false := ⟨_, _, _, _, clX9, by decide, rfl, rfl, lw_good_in (List.mem_append_right _ (List.mem_of_getElem? (i := 652) (by decide +kernel))) (by decide +kernel), by decide +kernel⟩
theorem fgX9_19 : sm_Fg RX9 19 9 5 := ⟨_, _, _, _, clX9, by decide, lw_good_in (List.mem_append_right _ (List.mem_of_getElem? (i := 653) (by decide +kernel))) (by decide +kernel)⟩
theorem flX9_19 : sm_Fl RX9 19 9 5 (.array .int) true := ⟨_, _, _, _, clX9, by decide, rfl, rfl, lw_good_in (List.mem_append_right _ (List.mem_of_getElem? (i := 653) (by decide +kernel))) (by decide +kernel), by decide +kernel⟩
theorem fgX9_22 : sm_Fg RX9 22 9 6 := ⟨_, _, _, _, clX9, by decide, lw_good_in (List.mem_append_right _ (List.mem_of_getElem? (i := 654) (by decide +kernel))) (by decide +kernel)⟩
theorem flX9_22 : sm_Fl RX9 22 9 6 (.array .boolean) true := ⟨_, _, _, _, clX9, by decide, rfl, rfl, lw_good_in (List.mem_append_right _ (List.mem_of_getElem? (i := 654) (by decide +kernel))) (by decide +kernel), by decide +kernel⟩
theorem fgX9_26 : sm_Fg RX9 26 9 7 := ⟨_, _, _, _, clX9, by decide, lw_good_in (List.mem_append_right _ (List.mem_of_getElem? (i := 655) (by decide +kernel))) (by decide +kernel)⟩
theorem flX9_26 : sm_Fl RX9 26 9 7 (.array .int) true := ⟨_, _, _, _, clX9, by decide, rfl, rfl, lw_good_in (List.mem_append_right _ (List.mem_of_getElem? (i := 655) (by decide +kernel))) (by decide +kernel), by decide +kernel⟩
theorem fgX9_165 : sm_Fg RX9 165 9 8 := ⟨_, _, _, _, clX9, by decide, lw_good_in (List.mem_append_right _ (List.mem_of_getElem? (i := 656) (by decide +kernel))) (by decide +kernel)⟩
theorem flX9_165 : sm_Fl RX9 165 9 8 (.int) false := ⟨_, _, _, _, clX9, by decide, rfl, rfl, lw_good_in (List.mem_append_right _ (List.mem_of_getElem? (i := 656) (by decide +kernel))) (by decide +kernel), by decide +kernel⟩
theorem fgX9_29 : sm_Fg RX9 29 9 9 := ⟨_, _, _, _, clX9, by decide, lw_good_in (List.mem_append_right _ (List.mem_of_getElem? (i := 657) (by decide +kernel))) (by decide +kernel)⟩
theorem flX9_29 : sm_Fl RX9 29 9 9 (.array .byte) true := ⟨_, _, _, _, clX9, by decide, rfl, rfl, lw_good_in (List.mem_append_right _ (List.mem_of_getElem? (i := 657) (by decide +kernel))) (by decide +kernel), by decide +kernel⟩
theorem fgX9_47 : sm_Fg RX9 47 9 10 := ⟨_, _, _, _, clX9, by decide, lw_good_in (List.mem_append_right _ (List.mem_of_getElem? (i := 658) (by decide +kernel))) (by decide +kernel)⟩
theorem flX9_47 : sm_Fl RX9 47 9 10 (.int) false := ⟨_, _, _, _, clX9, by decide, rfl, rfl, lw_good_in (List.mem_append_right _ (List.mem_of_getElem? (i := 658) (by decide +kernel))) (by decide +kernel), by decide +kernel⟩
theorem fgX9_53 : sm_Fg RX9 53 9 11 := ⟨_, _, _, _, clX9, by decide, lw_good_in (List.mem_append_right _ (List.mem_of_getElem? (i := 659) (by decide +kernel))) (by decide +kernel)⟩
theorem flX9_53 : sm_Fl RX9 53 9 11 (.int) false := ⟨_, _, _, _, clX9, by decide, rfl, rfl, lw_good_in (List.mem_append_right _ (List.mem_of_getElem? (i := 659) (by decide +kernel))) (by decide +kernel), by decide +kernel⟩
theorem fgX9_50 : sm_Fg RX9 50 9 12 := ⟨_, _, _, _, clX9, by decide, lw_good_in (List.mem_append_right _ (List.mem_of_getElem? (i := 660) (by decide +kernel))) (by decide +kernel)⟩
theorem flX9_50 : sm_Fl RX9 50 9 12 (.int) false := ⟨_, _, _, _, clX9, by decide, rfl, rfl, lw_good_in (List.mem_append_right _ (List.mem_of_getElem? (i := 660) (by decide +kernel))) (by decide +kernel), by decide +kernel⟩
theorem fgX9_63 : sm_Fg RX9 63 9 13 := ⟨_, _, _, _, clX9, by decide, lw_good_in (List.mem_append_right _ (List.mem_of_getElem? (i := 661) (by decide +kernel))) (by decide +kernel)⟩
theorem flX9_63 : sm_Fl RX9 63 9 13 (.int) false := ⟨_, _, _, _, clX9, by decide, rfl, rfl, lw_good_in (List.mem_append_right _ (List.mem_of_getElem? (i := 661) (by decide +kernel))) (by decide +kernel), by decide +kernel⟩
theorem fgX9_60 : sm_Fg RX9 60 9 14 := ⟨_, _, _, _, clX9, by decide, lw_good_in (List.mem_append_right _ (List.mem_of_getElem? (i := 662) (by decide +kernel))) (by decide +kernel)⟩
theorem flX9_60 : sm_Fl RX9 60 9 14 (.int) false := ⟨_, _, _, _, clX9, by decide, rfl, rfl, lw_good_in (List.mem_append_right _ (List.mem_of_getElem? (i := 662) (by decide +kernel))) (by decide +kernel), by decide +kernel⟩
theorem fgX9_76 : sm_Fg RX9 76 9 15 := ⟨_, _, _, _, clX9, by decide, lw_good_in (List.mem_append_right _ (List.mem_of_getElem? (i := 663) (by decide +kernel))) (by decide +kernel)⟩
theorem flX9_76 : sm_Fl RX9 76 9 15 (.int) false := ⟨_, _, _, _, clX9, by decide, rfl, rfl, lw_good_in (List.mem_append_right _ (List.mem_of_getElem? (i := 663) (by decide +kernel))) (by decide +kernel), by decide +kernel⟩
theorem fgX9_33 : sm_Fg RX9 33 9 16 := ⟨_, _, _, _, clX9, by decide, lw_good_in (List.mem_append_right _ (List.mem_of_getElem? (i := 664) (by decide +kernel))) (by decide +kernel)⟩
theorem flX9_33 : sm_Fl RX9 33 9 16 (.array .int) true := ⟨_, _, _, _, clX9, by decide, rfl, rfl, lw_good_in (List.mem_append_right _ (List.mem_of_getElem? (i := 664) (by decide +kernel))) (by decide +kernel), by decide +kernel⟩
theorem fgX9_109 : sm_Fg RX9 109 9 17 := ⟨_, _, _, _, clX9, by decide, lw_good_in (List.mem_append_right _ (List.mem_of_getElem? (i := 665) (by decide +kernel))) (by decide +kernel)⟩
theorem flX9_109 : sm_Fl RX9 109 9 17 (.int) false := ⟨_, _, _, _, clX9, by decide, rfl, rfl, lw_good_in (List.mem_append_right _ (List.mem_of_getElem? (i := 665) (by decide +kernel))) (by decide +kernel), by decide +kernel⟩
theorem fgX9_149 : sm_Fg RX9 149 9 18 := ⟨_, _, _, _, clX9, by decide, lw_good_in (List.mem_append_right _ (List.mem_of_getElem? (i := 666) (by decide +kernel))) (by decide +kernel)⟩
theorem flX9_149 : sm_Fl RX9 149 9 18 (.int) false := ⟨_, _, _, _, clX9, by decide, rfl, rfl, lw_good_in (List.mem_append_right _ (List.mem_of_getElem? (i := 666) (by decide +kernel))) (by decide +kernel), by decide +kernel⟩
theorem fgX9_152 : sm_Fg RX9 152 9 19 := ⟨_, _, _, _, clX9, by decide, lw_good_in (List.mem_append_right _ (List.mem_of_getElem? (i := 667) (by decide +kernel))) (by decide +kernel)⟩
theorem flX9_152 : sm_Fl RX9 152 9 19 (.int) false := ⟨_, _, _, _, clX9, by decide, rfl, rfl, lw_good_in (List.mem_append_right _ (List.mem_of_getElem? (i := 667) (by decide +kernel))) (by decide +kernel), by decide +kernel⟩
theorem fgX9_36 : sm_Fg RX9 36 9 20 := ⟨_, _, _, _, clX9, by decide, lw_good_in (List.mem_append_right _ (List.mem_of_getElem? (i := 668) (by decide +kernel))) (by decide +kernel)⟩
theorem flX9_36 : sm_Fl RX9 36 9 20 (.array .int) true := ⟨_, _, _, _, clX9, by decide, rfl, rfl, lw_good_in (List.mem_append_right _ (List.mem_of_getElem? (i := 668) (by decide +kernel))) (by decide +kernel), by decide +kernel⟩
theorem mlL_17 : Cond.methodLink RL 17 mX9_type.1 ∈ lw_good := lw_good_in (List.mem_append_right _ (List.mem_of_getElem? (i := 712) (by decide +kernel))) (by decide +kernel)
theorem mlX9_43 : Cond.methodLink RX9 43 mX9_in.1 ∈ lw_good := lw_good_in (List.mem_append_right _ (List.mem_of_getElem? (i := 716) (by decide +kernel))) (by decide +kernel)
theorem mlL_22 : Cond.methodLink RL 22 mX9_clear.1 ∈ lw_good := lw_good_in (List.mem_append_right _ (List.mem_of_getElem? (i := 719) (by decide +kernel))) (by decide +kernel)
theorem mlL_26 : Cond.methodLink RL 26 mX9_tells.1 ∈ lw_good := lw_good_in (List.mem_append_right _ (List.mem_of_getElem? (i := 723) (by decide +kernel))) (by decide +kernel)
theorem mlX9_96 : Cond.methodLink RX9 96 mX9_reads.1 ∈ lw_good := lw_good_in (List.mem_append_right _ (List.mem_of_getElem? (i := 727) (by decide +kernel))) (by decide +kernel)
theorem mlX9_79 : Cond.methodLink RX9 79 mX9_steps.1 ∈ lw_good := lw_good_in (List.mem_append_right _ (List.mem_of_getElem? (i := 731) (by decide +kernel))) (by decide +kernel)
theorem mlX9_56 : Cond.methodLink RX9 56 mX9_at.1 ∈ lw_good := lw_good_in (List.mem_append_right _ (List.mem_of_getElem? (i := 735) (by decide +kernel))) (by decide +kernel)
theorem mlX9_66 : Cond.methodLink RX9 66 mX9_takesFigures.1 ∈ lw_good := lw_good_in (List.mem_append_right _ (List.mem_of_getElem? (i := 739) (by decide +kernel))) (by decide +kernel)
theorem mlX9_69 : Cond.methodLink RX9 69 mX9_isCaskWord.1 ∈ lw_good := lw_good_in (List.mem_append_right _ (List.mem_of_getElem? (i := 743) (by decide +kernel))) (by decide +kernel)
theorem mlX9_73 : Cond.methodLink RX9 73 mX9_isStandsWord.1 ∈ lw_good := lw_good_in (List.mem_append_right _ (List.mem_of_getElem? (i := 747) (by decide +kernel))) (by decide +kernel)
theorem mlX9_90 : Cond.methodLink RX9 90 mX9_readsCask.1 ∈ lw_good := lw_good_in (List.mem_append_right _ (List.mem_of_getElem? (i := 751) (by decide +kernel))) (by decide +kernel)
theorem mlX9_82 : Cond.methodLink RX9 82 mX9_takes.1 ∈ lw_good := lw_good_in (List.mem_append_right _ (List.mem_of_getElem? (i := 755) (by decide +kernel))) (by decide +kernel)
theorem mlX9_86 : Cond.methodLink RX9 86 mX9_numberIn.1 ∈ lw_good := lw_good_in (List.mem_append_right _ (List.mem_of_getElem? (i := 759) (by decide +kernel))) (by decide +kernel)
theorem mlX9_93 : Cond.methodLink RX9 93 mX9_readsStands.1 ∈ lw_good := lw_good_in (List.mem_append_right _ (List.mem_of_getElem? (i := 763) (by decide +kernel))) (by decide +kernel)
theorem mlX9_100 : Cond.methodLink RX9 100 mX9_notes.1 ∈ lw_good := lw_good_in (List.mem_append_right _ (List.mem_of_getElem? (i := 767) (by decide +kernel))) (by decide +kernel)
theorem mlL_31 : Cond.methodLink RL 31 mX9_fills.1 ∈ lw_good := lw_good_in (List.mem_append_right _ (List.mem_of_getElem? (i := 771) (by decide +kernel))) (by decide +kernel)
theorem mlX9_127 : Cond.methodLink RX9 127 mX9_isCask.1 ∈ lw_good := lw_good_in (List.mem_append_right _ (List.mem_of_getElem? (i := 775) (by decide +kernel))) (by decide +kernel)
theorem mlX9_131 : Cond.methodLink RX9 131 mX9_hold.1 ∈ lw_good := lw_good_in (List.mem_append_right _ (List.mem_of_getElem? (i := 779) (by decide +kernel))) (by decide +kernel)
theorem mlX9_120 : Cond.methodLink RX9 120 mX9_laysNow.1 ∈ lw_good := lw_good_in (List.mem_append_right _ (List.mem_of_getElem? (i := 783) (by decide +kernel))) (by decide +kernel)
theorem mlX9_103 : Cond.methodLink RX9 103 mX9_of.1 ∈ lw_good := lw_good_in (List.mem_append_right _ (List.mem_of_getElem? (i := 787) (by decide +kernel))) (by decide +kernel)
theorem mlX9_116 : Cond.methodLink RX9 116 mX9_lays.1 ∈ lw_good := lw_good_in (List.mem_append_right _ (List.mem_of_getElem? (i := 791) (by decide +kernel))) (by decide +kernel)
theorem mlX9_112 : Cond.methodLink RX9 112 mX9_cellsOf.1 ∈ lw_good := lw_good_in (List.mem_append_right _ (List.mem_of_getElem? (i := 795) (by decide +kernel))) (by decide +kernel)
theorem mlX9_106 : Cond.methodLink RX9 106 mX9_radius.1 ∈ lw_good := lw_good_in (List.mem_append_right _ (List.mem_of_getElem? (i := 799) (by decide +kernel))) (by decide +kernel)
theorem mlL_36 : Cond.methodLink RL 36 mX9_draws.1 ∈ lw_good := lw_good_in (List.mem_append_right _ (List.mem_of_getElem? (i := 803) (by decide +kernel))) (by decide +kernel)
theorem mlX9_134 : Cond.methodLink RX9 134 mX9_goes.1 ∈ lw_good := lw_good_in (List.mem_append_right _ (List.mem_of_getElem? (i := 807) (by decide +kernel))) (by decide +kernel)
theorem mlL_40 : Cond.methodLink RL 40 mX9_pours.1 ∈ lw_good := lw_good_in (List.mem_append_right _ (List.mem_of_getElem? (i := 811) (by decide +kernel))) (by decide +kernel)
theorem mlL_44 : Cond.methodLink RL 44 mX9_turnsOver.1 ∈ lw_good := lw_good_in (List.mem_append_right _ (List.mem_of_getElem? (i := 815) (by decide +kernel))) (by decide +kernel)
theorem mlL_48 : Cond.methodLink RL 48 mX9_undo.1 ∈ lw_good := lw_good_in (List.mem_append_right _ (List.mem_of_getElem? (i := 819) (by decide +kernel))) (by decide +kernel)
theorem mlL_52 : Cond.methodLink RL 52 mX9_cask.1 ∈ lw_good := lw_good_in (List.mem_append_right _ (List.mem_of_getElem? (i := 823) (by decide +kernel))) (by decide +kernel)
theorem mlX9_137 : Cond.methodLink RX9 137 mX9_dipOf.1 ∈ lw_good := lw_good_in (List.mem_append_right _ (List.mem_of_getElem? (i := 827) (by decide +kernel))) (by decide +kernel)
theorem kfX9_140 : Cond.constantFloat RX9 140 1148846080 ∈ lw_good := lw_good_in (List.mem_append_right _ (List.mem_of_getElem? (i := 831) (by decide +kernel))) (by decide +kernel)
theorem mlX9_141 : Cond.methodLink RX9 141 mX9_strength.1 ∈ lw_good := lw_good_in (List.mem_append_right _ (List.mem_of_getElem? (i := 832) (by decide +kernel))) (by decide +kernel)
theorem mlL_56 : Cond.methodLink RL 56 mX9_slice.1 ∈ lw_good := lw_good_in (List.mem_append_right _ (List.mem_of_getElem? (i := 836) (by decide +kernel))) (by decide +kernel)
theorem mlL_60 : Cond.methodLink RL 60 mX9_under.1 ∈ lw_good := lw_good_in (List.mem_append_right _ (List.mem_of_getElem? (i := 840) (by decide +kernel))) (by decide +kernel)
theorem mlX9_145 : Cond.methodLink RX9 145 mX9_isHeight.1 ∈ lw_good := lw_good_in (List.mem_append_right _ (List.mem_of_getElem? (i := 844) (by decide +kernel))) (by decide +kernel)
theorem mlL_64 : Cond.methodLink RL 64 mX9_dip.1 ∈ lw_good := lw_good_in (List.mem_append_right _ (List.mem_of_getElem? (i := 848) (by decide +kernel))) (by decide +kernel)
theorem mlL_68 : Cond.methodLink RL 68 mX9_stick.1 ∈ lw_good := lw_good_in (List.mem_append_right _ (List.mem_of_getElem? (i := 852) (by decide +kernel))) (by decide +kernel)
theorem mlL_72 : Cond.methodLink RL 72 mX9_known.1 ∈ lw_good := lw_good_in (List.mem_append_right _ (List.mem_of_getElem? (i := 856) (by decide +kernel))) (by decide +kernel)
theorem mlL_76 : Cond.methodLink RL 76 mX9_shares.1 ∈ lw_good := lw_good_in (List.mem_append_right _ (List.mem_of_getElem? (i := 860) (by decide +kernel))) (by decide +kernel)
theorem mlX9_155 : Cond.methodLink RX9 155 mX9_mostBy.1 ∈ lw_good := lw_good_in (List.mem_append_right _ (List.mem_of_getElem? (i := 864) (by decide +kernel))) (by decide +kernel)
theorem mlL_80 : Cond.methodLink RL 80 mX9_all.1 ∈ lw_good := lw_good_in (List.mem_append_right _ (List.mem_of_getElem? (i := 868) (by decide +kernel))) (by decide +kernel)
theorem mlX9_158 : Cond.methodLink RX9 158 mX9_strongest.1 ∈ lw_good := lw_good_in (List.mem_append_right _ (List.mem_of_getElem? (i := 872) (by decide +kernel))) (by decide +kernel)
theorem mlX9_161 : Cond.methodLink RX9 161 mX9_mean.1 ∈ lw_good := lw_good_in (List.mem_append_right _ (List.mem_of_getElem? (i := 876) (by decide +kernel))) (by decide +kernel)
theorem mlL_84 : Cond.methodLink RL 84 mX9_sees.1 ∈ lw_good := lw_good_in (List.mem_append_right _ (List.mem_of_getElem? (i := 880) (by decide +kernel))) (by decide +kernel)
theorem kcX9_164 : Cond.constant RX9 164 99999 ∈ lw_good := lw_good_in (List.mem_append_right _ (List.mem_of_getElem? (i := 884) (by decide +kernel))) (by decide +kernel)
theorem mlL_88 : Cond.methodLink RL 88 mX9_forget.1 ∈ lw_good := lw_good_in (List.mem_append_right _ (List.mem_of_getElem? (i := 885) (by decide +kernel))) (by decide +kernel)
theorem mlL_92 : Cond.methodLink RL 92 mX9_which.1 ∈ lw_good := lw_good_in (List.mem_append_right _ (List.mem_of_getElem? (i := 889) (by decide +kernel))) (by decide +kernel)
theorem mlX9_168 : Cond.methodLink RX9 168 mX9_suspects.1 ∈ lw_good := lw_good_in (List.mem_append_right _ (List.mem_of_getElem? (i := 893) (by decide +kernel))) (by decide +kernel)
theorem mlL_96 : Cond.methodLink RL 96 mX9_ask.1 ∈ lw_good := lw_good_in (List.mem_append_right _ (List.mem_of_getElem? (i := 897) (by decide +kernel))) (by decide +kernel)
theorem mlX9_171 : Cond.methodLink RX9 171 mX9_laysDips.1 ∈ lw_good := lw_good_in (List.mem_append_right _ (List.mem_of_getElem? (i := 901) (by decide +kernel))) (by decide +kernel)
theorem mlX9_174 : Cond.methodLink RX9 174 mX9_alike.1 ∈ lw_good := lw_good_in (List.mem_append_right _ (List.mem_of_getElem? (i := 905) (by decide +kernel))) (by decide +kernel)
theorem mlL_100 : Cond.methodLink RL 100 mX9_keep.1 ∈ lw_good := lw_good_in (List.mem_append_right _ (List.mem_of_getElem? (i := 909) (by decide +kernel))) (by decide +kernel)
theorem mlL_104 : Cond.methodLink RL 104 mX9_back.1 ∈ lw_good := lw_good_in (List.mem_append_right _ (List.mem_of_getElem? (i := 913) (by decide +kernel))) (by decide +kernel)
theorem mlL_108 : Cond.methodLink RL 108 mX9_count.1 ∈ lw_good := lw_good_in (List.mem_append_right _ (List.mem_of_getElem? (i := 917) (by decide +kernel))) (by decide +kernel)
theorem mlX9_177 : Cond.methodLink RX9 177 mX9_sum.1 ∈ lw_good := lw_good_in (List.mem_append_right _ (List.mem_of_getElem? (i := 921) (by decide +kernel))) (by decide +kernel)
theorem oi_im : Cond.instanceMethod objectInit ∈ lw_good := lw_good_in (List.mem_append_right _ (List.mem_of_getElem? (i := 23) (by decide +kernel))) (by decide +kernel)
theorem oi_co : Cond.code objectInit ⟨#[0xb1]⟩ 1 none ∈ lw_good := lw_good_in (List.mem_append_right _ (List.mem_of_getElem? (i := 24) (by decide +kernel))) (by decide +kernel)
