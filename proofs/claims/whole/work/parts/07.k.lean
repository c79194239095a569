abbrev mX0_init : GM := (yX0_init, cX0_init, 1, none)
abbrev mX0_begin : GM := (yX0_begin, cX0_begin, 3, none)
abbrev mX0_price : GM := (yX0_price, cX0_price, 5, none)
abbrev mX0_priceEverywhere : GM := (yX0_priceEverywhere, cX0_priceEverywhere, 5, none)
abbrev mX0_slot : GM := (yX0_slot, cX0_slot, 3, (some .int))
abbrev mX0_search : GM := (yX0_search, cX0_search, 1, (some .int))
abbrev mX0_extend : GM := (yX0_extend, cX0_extend, 5, none)
abbrev mX0_priceAt : GM := (yX0_priceAt, cX0_priceAt, 4, (some .int))
abbrev mX1_init : GM := (yX1_init, cX1_init, 1, none)
abbrev mX1_join : GM := (yX1_join, cX1_join, 5, (some .int))
abbrev mX1_become : GM := (yX1_become, cX1_become, 3, none)
abbrev mX1_placeOf : GM := (yX1_placeOf, cX1_placeOf, 3, (some .int))
abbrev mX1_dogsBefore : GM := (yX1_dogsBefore, cX1_dogsBefore, 4, (some .int))
abbrev mX1_changePlaces : GM := (yX1_changePlaces, cX1_changePlaces, 3, none)
abbrev mX1_pulls : GM := (yX1_pulls, cX1_pulls, 3, (some .int))
abbrev mX1_pullsAs : GM := (yX1_pullsAs, cX1_pullsAs, 5, (some .int))
abbrev mX1_passesRight : GM := (yX1_passesRight, cX1_passesRight, 5, (some .boolean))
abbrev mX2_init : GM := (yX2_init, cX2_init, 1, none)
abbrev mX2_append : GM := (yX2_append, cX2_append, 2, none)
abbrev mX2_readInto : GM := (yX2_readInto, cX2_readInto, 4, (some .int))
abbrev mX2_pass : GM := (yX2_pass, cX2_pass, 2, (some .boolean))
abbrev mX2_readExpression : GM := (yX2_readExpression, cX2_readExpression, 4, (some .boolean))
abbrev mX2_readConjunction : GM := (yX2_readConjunction, cX2_readConjunction, 4, (some .boolean))
abbrev mX2_readNegation : GM := (yX2_readNegation, cX2_readNegation, 3, (some .boolean))
abbrev mX2_readComparison : GM := (yX2_readComparison, cX2_readComparison, 4, (some .boolean))
abbrev mX2_readSum : GM := (yX2_readSum, cX2_readSum, 5, (some .boolean))
abbrev mX2_readTerm : GM := (yX2_readTerm, cX2_readTerm, 4, (some .boolean))
abbrev mX2_readOne : GM := (yX2_readOne, cX2_readOne, 3, (some .boolean))
abbrev mX2_step : GM := (yX2_step, cX2_step, 2, none)
abbrev mX2_passWord : GM := (yX2_passWord, cX2_passWord, 2, (some .int))
abbrev mX2_isSpelled : GM := (yX2_isSpelled, cX2_isSpelled, 3, (some .boolean))
abbrev mX2_passNumber : GM := (yX2_passNumber, cX2_passNumber, 1, (some .int))
abbrev mX2_isLetter : GM := (yX2_isLetter, cX2_isLetter, 1, (some .boolean))
abbrev mX2_isDigit : GM := (yX2_isDigit, cX2_isDigit, 1, (some .boolean))
abbrev mX3_init : GM := (yX3_init, cX3_init, 1, none)
abbrev mX3_put : GM := (yX3_put, cX3_put, 6, none)
abbrev mX3_lay : GM := (yX3_lay, cX3_lay, 7, none)
abbrev mX3_lastNear : GM := (yX3_lastNear, cX3_lastNear, 3, (some .int))
abbrev mX3_remove : GM := (yX3_remove, cX3_remove, 3, none)
abbrev mX3_become : GM := (yX3_become, cX3_become, 3, none)
abbrev mX3_takeOver : GM := (yX3_takeOver, cX3_takeOver, 4, none)
abbrev mX3_dogsOf : GM := (yX3_dogsOf, cX3_dogsOf, 2, (some .int))
abbrev mX4_init : GM := (yX4_init, cX4_init, 1, none)
abbrev mX4_become : GM := (yX4_become, cX4_become, 4, none)
abbrev mX4_holds : GM := (yX4_holds, cX4_holds, 2, (some .boolean))
abbrev mX4_holdsStretch : GM := (yX4_holdsStretch, cX4_holdsStretch, 3, (some .boolean))
abbrev mX4_write : GM := (yX4_write, cX4_write, 3, none)
abbrev mX5_init : GM := (yX5_init, cX5_init, 1, none)
abbrev mX5_clear : GM := (yX5_clear, cX5_clear, 1, none)
abbrev mX5_addToken : GM := (yX5_addToken, cX5_addToken, 2, none)
abbrev mX5_addNumber : GM := (yX5_addNumber, cX5_addNumber, 2, none)
abbrev mX5_endPart : GM := (yX5_endPart, cX5_endPart, 2, none)
abbrev mX5_become : GM := (yX5_become, cX5_become, 3, none)
abbrev mX5_valueOf : GM := (yX5_valueOf, cX5_valueOf, 4, (some .int))
abbrev mX5_work : GM := (yX5_work, cX5_work, 5, none)
abbrev mX5_join : GM := (yX5_join, cX5_join, 3, (some .int))
abbrev mX5_push : GM := (yX5_push, cX5_push, 2, none)
abbrev mX5_pop : GM := (yX5_pop, cX5_pop, 1, (some .int))
abbrev mX6_spelling : GM := (yX6_spelling, cX6_spelling, 1, (some (.object "java/lang/String")))
abbrev mX7_init : GM := (yX7_init, cX7_init, 2, none)
abbrev mX7_dog : GM := (yX7_dog, cX7_dog, 4, (some .int))
abbrev mX7_set : GM := (yX7_set, cX7_set, 4, (some .int))
abbrev mX7_told : GM := (yX7_told, cX7_told, 3, (some .int))
abbrev mX7_asks : GM := (yX7_asks, cX7_asks, 4, (some .int))
abbrev mX7_feed : GM := (yX7_feed, cX7_feed, 2, (some .int))
abbrev mX7_text : GM := (yX7_text, cX7_text, 2, (some .int))
abbrev mX7_force : GM := (yX7_force, cX7_force, 3, (some .int))
abbrev mX7_cross : GM := (yX7_cross, cX7_cross, 3, (some .int))
abbrev mX7_undo : GM := (yX7_undo, cX7_undo, 2, (some .int))
abbrev mX7_comb : GM := (yX7_comb, cX7_comb, 2, (some .int))
abbrev mX7_at : GM := (yX7_at, cX7_at, 2, (some .int))
abbrev mX7_left : GM := (yX7_left, cX7_left, 2, (some .int))
abbrev mX7_who : GM := (yX7_who, cX7_who, 6, (some .int))
abbrev mX7_without : GM := (yX7_without, cX7_without, 2, (some .int))
abbrev mX7_unclip : GM := (yX7_unclip, cX7_unclip, 4, (some .int))
abbrev mX7_cost : GM := (yX7_cost, cX7_cost, 3, (some .int))
abbrev mX7_atOdds : GM := (yX7_atOdds, cX7_atOdds, 2, (some .int))
abbrev mX7_best : GM := (yX7_best, cX7_best, 2, (some .int))
abbrev mX7_swaps : GM := (yX7_swaps, cX7_swaps, 7, (some .int))
abbrev mX7_post : GM := (yX7_post, cX7_post, 3, (some .int))
abbrev mX7_bestPost : GM := (yX7_bestPost, cX7_bestPost, 6, (some .int))
abbrev mX7_seen : GM := (yX7_seen, cX7_seen, 6, (some .int))
abbrev mX7_fetch : GM := (yX7_fetch, cX7_fetch, 1, (some .int))
abbrev mX7_fetched : GM := (yX7_fetched, cX7_fetched, 2, (some .int))
abbrev mX7_walk : GM := (yX7_walk, cX7_walk, 4, (some .int))
abbrev mX7_take : GM := (yX7_take, cX7_take, 6, (some .int))
abbrev mX7_drawn : GM := (yX7_drawn, cX7_drawn, 3, (some .int))
abbrev mX7_chance : GM := (yX7_chance, cX7_chance, 8, (some .long))
abbrev mX7_image : GM := (yX7_image, cX7_image, 1, (some .int))
abbrev mX7_back : GM := (yX7_back, cX7_back, 1, (some .int))
abbrev mX7_count : GM := (yX7_count, cX7_count, 2, (some .int))
abbrev mX7_sheet : GM := (yX7_sheet, cX7_sheet, 4, (some .int))
abbrev mX7_cell : GM := (yX7_cell, cX7_cell, 5, (some .int))
abbrev mX7_copy : GM := (yX7_copy, cX7_copy, 8, (some .int))
abbrev mX7_crossings : GM := (yX7_crossings, cX7_crossings, 9, (some .int))
abbrev mX7_taken : GM := (yX7_taken, cX7_taken, 3, (some .int))
abbrev mX7_isWithin : GM := (yX7_isWithin, cX7_isWithin, 3, (some .boolean))
abbrev mX7_isDog : GM := (yX7_isDog, cX7_isDog, 2, (some .boolean))
abbrev mX7_isSheet : GM := (yX7_isSheet, cX7_isSheet, 1, (some .boolean))
abbrev mX7_bit : GM := (yX7_bit, cX7_bit, 1, (some .int))
abbrev mX7_allDogs : GM := (yX7_allDogs, cX7_allDogs, 1, (some .int))
abbrev mX7_isUnder : GM := (yX7_isUnder, cX7_isUnder, 4, (some .boolean))
abbrev mX7_replace : GM := (yX7_replace, cX7_replace, 4, (some .int))
abbrev mX7_greatestDivisor : GM := (yX7_greatestDivisor, cX7_greatestDivisor, 6, (some .int))
abbrev mX7_ruled : GM := (yX7_ruled, cX7_ruled, 7, (some .int))
abbrev mX7_ruledInHand : GM := (yX7_ruledInHand, cX7_ruledInHand, 5, (some .int))
abbrev mX7_oddsInHand : GM := (yX7_oddsInHand, cX7_oddsInHand, 3, (some .int))
abbrev mX7_findWorths : GM := (yX7_findWorths, cX7_findWorths, 3, none)
abbrev mX7_worthOf : GM := (yX7_worthOf, cX7_worthOf, 5, (some .int))
abbrev mX7_makeTangle : GM := (yX7_makeTangle, cX7_makeTangle, 3, none)
abbrev mX7_leftWithout : GM := (yX7_leftWithout, cX7_leftWithout, 4, (some .int))
abbrev mX7_leftOfDrawn : GM := (yX7_leftOfDrawn, cX7_leftOfDrawn, 6, (some .int))
abbrev mX7_refusalOfOrder : GM := (yX7_refusalOfOrder, cX7_refusalOfOrder, 5, (some .int))
abbrev mX7_findBestOrder : GM := (yX7_findBestOrder, cX7_findBestOrder, 5, (some .int))
abbrev mX7_findFetchOrder : GM := (yX7_findFetchOrder, cX7_findFetchOrder, 3, (some .int))
abbrev mX7_rowsLeadingTo : GM := (yX7_rowsLeadingTo, cX7_rowsLeadingTo, 8, (some .int))
abbrev mX7_wouldMeetItsPlace : GM := (yX7_wouldMeetItsPlace, cX7_wouldMeetItsPlace, 4, (some .boolean))
abbrev mX7_isTrialOrder : GM := (yX7_isTrialOrder, cX7_isTrialOrder, 3, (some .boolean))
abbrev mX7_changeTrial : GM := (yX7_changeTrial, cX7_changeTrial, 3, none)
abbrev mX7_dogsOnRight : GM := (yX7_dogsOnRight, cX7_dogsOnRight, 4, (some .int))
abbrev mX7_woundAt : GM := (yX7_woundAt, cX7_woundAt, 5, (some .int))
abbrev mX7_pullsTogether : GM := (yX7_pullsTogether, cX7_pullsTogether, 6, (some .int))
abbrev mX8_in : GM := (yX8_in, cX8_in, 6, (some .boolean))
abbrev mX8_within : GM := (yX8_within, cX8_within, 3, (some .int))
abbrev mX8_off : GM := (yX8_off, cX8_off, 2, (some .int))
abbrev mX8_bitsOf : GM := (yX8_bitsOf, cX8_bitsOf, 3, (some .int))
abbrev mX8_init : GM := (yX8_init, cX8_init, 1, none)
abbrev mX8_spell : GM := (yX8_spell, cX8_spell, 10, none)
abbrev mX8_isDog : GM := (yX8_isDog, cX8_isDog, 2, (some .boolean))
abbrev mX8_dog : GM := (yX8_dog, cX8_dog, 4, (some .int))
abbrev mX8_set : GM := (yX8_set, cX8_set, 5, (some .int))
abbrev mX8_placeOf : GM := (yX8_placeOf, cX8_placeOf, 3, (some .int))
abbrev mX8_pulls : GM := (yX8_pulls, cX8_pulls, 6, (some .int))
abbrev mX8_right : GM := (yX8_right, cX8_right, 6, (some .boolean))
abbrev mX8_told : GM := (yX8_told, cX8_told, 3, (some .int))
abbrev mX8_feed : GM := (yX8_feed, cX8_feed, 2, (some .int))
abbrev mX8_byteAt : GM := (yX8_byteAt, cX8_byteAt, 2, (some .int))
abbrev mX8_next : GM := (yX8_next, cX8_next, 3, none)
abbrev mX8_fail : GM := (yX8_fail, cX8_fail, 1, none)
abbrev mX8_isLetter : GM := (yX8_isLetter, cX8_isLetter, 3, (some .boolean))
abbrev mX8_isWord : GM := (yX8_isWord, cX8_isWord, 9, (some .boolean))
abbrev mX8_isSign : GM := (yX8_isSign, cX8_isSign, 2, (some .boolean))
abbrev mX8_opens : GM := (yX8_opens, cX8_opens, 1, (some .boolean))
abbrev mX8_name : GM := (yX8_name, cX8_name, 1, (some .int))
abbrev mX8_atom : GM := (yX8_atom, cX8_atom, 2, (some .int))
abbrev mX8_term : GM := (yX8_term, cX8_term, 2, (some .int))
abbrev mX8_added : GM := (yX8_added, cX8_added, 4, (some .int))
abbrev mX8_not : GM := (yX8_not, cX8_not, 4, (some .int))
abbrev mX8_both : GM := (yX8_both, cX8_both, 3, (some .int))
abbrev mX8_either : GM := (yX8_either, cX8_either, 3, (some .int))
abbrev mX8_part : GM := (yX8_part, cX8_part, 3, (some .int))
abbrev mX8_read : GM := (yX8_read, cX8_read, 6, (some .int))
abbrev mX8_text : GM := (yX8_text, cX8_text, 2, (some .int))
abbrev mX8_force : GM := (yX8_force, cX8_force, 3, (some .int))
abbrev mX8_says : GM := (yX8_says, cX8_says, 7, (some .int))
abbrev mX8_told2 : GM := (yX8_told2, cX8_told2, 4, (some .int))
abbrev mX8_asks : GM := (yX8_asks, cX8_asks, 4, (some .int))
abbrev mX8_swap : GM := (yX8_swap, cX8_swap, 3, none)
abbrev mX8_cross : GM := (yX8_cross, cX8_cross, 3, (some .int))
abbrev mX8_undo : GM := (yX8_undo, cX8_undo, 1, (some .int))
abbrev mX8_comes : GM := (yX8_comes, cX8_comes, 6, none)
abbrev mX8_tangle : GM := (yX8_tangle, cX8_tangle, 8, none)
abbrev mX8_comb : GM := (yX8_comb, cX8_comb, 3, (some .int))
abbrev mX8_at : GM := (yX8_at, cX8_at, 2, (some .int))
abbrev mX8_left : GM := (yX8_left, cX8_left, 2, (some .int))
abbrev mX8_who : GM := (yX8_who, cX8_who, 7, (some .int))
abbrev mX8_without : GM := (yX8_without, cX8_without, 2, (some .int))
abbrev mX8_unclip : GM := (yX8_unclip, cX8_unclip, 4, (some .int))
abbrev mX8_cost : GM := (yX8_cost, cX8_cost, 3, (some .int))
abbrev mX8_atOddsNow : GM := (yX8_atOddsNow, cX8_atOddsNow, 3, (some .int))
abbrev mX8_orders : GM := (yX8_orders, cX8_orders, 5, none)
abbrev mX8_bestOrder : GM := (yX8_bestOrder, cX8_bestOrder, 2, none)
abbrev mX8_atOdds : GM := (yX8_atOdds, cX8_atOdds, 2, (some .int))
abbrev mX8_best : GM := (yX8_best, cX8_best, 2, (some .int))
abbrev mX8_orderBad : GM := (yX8_orderBad, cX8_orderBad, 5, (some .int))
abbrev mX8_swaps : GM := (yX8_swaps, cX8_swaps, 6, (some .int))
abbrev mX8_rightOf : GM := (yX8_rightOf, cX8_rightOf, 4, (some .int))
abbrev mX8_wound : GM := (yX8_wound, cX8_wound, 5, (some .int))
abbrev mX8_post : GM := (yX8_post, cX8_post, 5, (some .int))
abbrev mX8_bestPost : GM := (yX8_bestPost, cX8_bestPost, 4, (some .int))
abbrev mX8_rowsOf : GM := (yX8_rowsOf, cX8_rowsOf, 6, none)
abbrev mX8_seen : GM := (yX8_seen, cX8_seen, 5, (some .int))
abbrev mX8_fetches : GM := (yX8_fetches, cX8_fetches, 8, none)
abbrev mX8_fetching : GM := (yX8_fetching, cX8_fetching, 3, none)
abbrev mX8_fetch : GM := (yX8_fetch, cX8_fetch, 1, (some .int))
abbrev mX8_fetched : GM := (yX8_fetched, cX8_fetched, 2, (some .int))
abbrev mX8_walk : GM := (yX8_walk, cX8_walk, 1, (some .int))
abbrev mX8_take : GM := (yX8_take, cX8_take, 8, (some .int))
abbrev mX8_drawn : GM := (yX8_drawn, cX8_drawn, 5, (some .int))
abbrev mX8_chance : GM := (yX8_chance, cX8_chance, 14, (some .long))
abbrev mX8_image : GM := (yX8_image, cX8_image, 2, (some .int))
abbrev mX8_back : GM := (yX8_back, cX8_back, 2, (some .int))
abbrev mX8_count : GM := (yX8_count, cX8_count, 2, (some .int))
abbrev mX8_isSheet : GM := (yX8_isSheet, cX8_isSheet, 1, (some .boolean))
abbrev mX8_sheet : GM := (yX8_sheet, cX8_sheet, 5, (some .int))
abbrev mX8_cell : GM := (yX8_cell, cX8_cell, 4, (some .int))
abbrev mX8_copy : GM := (yX8_copy, cX8_copy, 9, (some .int))
abbrev mX8_crossings : GM := (yX8_crossings, cX8_crossings, 8, (some .int))
abbrev mX8_over : GM := (yX8_over, cX8_over, 1, (some .int))
abbrev mX8_taken : GM := (yX8_taken, cX8_taken, 4, (some .int))
abbrev mJ11_isValidCodePoint_9a6ad : GM := (yJ11_isValidCodePoint_9a6ad, cJ11_isValidCodePoint_9a6ad, 2, (some .boolean))
abbrev mJ11_highSurrogate_5068e : GM := (yJ11_highSurrogate_5068e, cJ11_highSurrogate_5068e, 1, (some .char))
abbrev mJ11_lowSurrogate_5068e : GM := (yJ11_lowSurrogate_5068e, cJ11_lowSurrogate_5068e, 1, (some .char))
abbrev mJ6_bitCount_0f7a4 : GM := (yJ6_bitCount_0f7a4, cJ6_bitCount_0f7a4, 1, (some .int))
abbrev mJ9_abs_0f7a4 : GM := (yJ9_abs_0f7a4, cJ9_abs_0f7a4, 1, (some .int))
abbrev mJ9_max_7cf53 : GM := (yJ9_max_7cf53, cJ9_max_7cf53, 2, (some .int))
abbrev mJ9_min_7cf53 : GM := (yJ9_min_7cf53, cJ9_min_7cf53, 2, (some .int))
abbrev mJ0_length_8abf5 : GM := (yJ0_length_8abf5, cJ0_length_8abf5, 1, (some .int))
abbrev mJ0_charAt_5068e : GM := (yJ0_charAt_5068e, cJ0_charAt_5068e, 2, (some .char))
abbrev mJ0_indexOf_0f7a4 : GM := (yJ0_indexOf_0f7a4, cJ0_indexOf_0f7a4, 2, (some .int))
abbrev mJ0_indexOf_7cf53 : GM := (yJ0_indexOf_7cf53, cJ0_indexOf_7cf53, 3, (some .int))
abbrev mJ0_coder_7d493 : GM := (yJ0_coder_7d493, cJ0_coder_7d493, 1, (some .byte))
abbrev mJ0_isLatin1_aae02 : GM := (yJ0_isLatin1_aae02, cJ0_isLatin1_aae02, 1, (some .boolean))
abbrev mJ0_checkIndex_df160 : GM := (yJ0_checkIndex_df160, cJ0_checkIndex_df160, 2, none)
abbrev mJ0_checkBoundsBeginEnd_23922 : GM := (yJ0_checkBoundsBeginEnd_23922, cJ0_checkBoundsBeginEnd_23922, 3, none)
abbrev mJ1_charAt_3b067 : GM := (yJ1_charAt_3b067, cJ1_charAt_3b067, 2, (some .char))
abbrev mJ1_canEncode_9a6ad : GM := (yJ1_canEncode_9a6ad, cJ1_canEncode_9a6ad, 1, (some .boolean))
abbrev mJ1_indexOf_4cfef : GM := (yJ1_indexOf_4cfef, cJ1_indexOf_4cfef, 4, (some .int))
abbrev mJ1_indexOfChar_4cfef : GM := (yJ1_indexOfChar_4cfef, cJ1_indexOfChar_4cfef, 6, (some .int))
abbrev mJ2_getChar_3b067 : GM := (yJ2_getChar_3b067, cJ2_getChar_3b067, 2, (some .char))
abbrev mJ2_length_9d52b : GM := (yJ2_length_9d52b, cJ2_length_9d52b, 1, (some .int))
abbrev mJ2_indexOf_4cfef : GM := (yJ2_indexOf_4cfef, cJ2_indexOf_4cfef, 4, (some .int))
abbrev mJ2_indexOfChar_4cfef : GM := (yJ2_indexOfChar_4cfef, cJ2_indexOfChar_4cfef, 4, (some .int))
abbrev mJ2_indexOfCharUnsafe_4cfef : GM := (yJ2_indexOfCharUnsafe_4cfef, cJ2_indexOfCharUnsafe_4cfef, 5, (some .int))
abbrev mJ2_indexOfSupplementary_4cfef : GM := (yJ2_indexOfSupplementary_4cfef, cJ2_indexOfSupplementary_4cfef, 7, (some .int))
abbrev mJ2_charAt_3b067 : GM := (yJ2_charAt_3b067, cJ2_charAt_3b067, 2, (some .char))
abbrev mJ2_checkIndex_2214a : GM := (yJ2_checkIndex_2214a, cJ2_checkIndex_2214a, 2, none)
abbrev mJ2_checkBoundsBeginEnd_d044e : GM := (yJ2_checkBoundsBeginEnd_d044e, cJ2_checkBoundsBeginEnd_d044e, 3, none)
abbrev mJ3_checkIndex_8e157 : GM := (yJ3_checkIndex_8e157, cJ3_checkIndex_8e157, 3, (some .int))
abbrev mJ3_checkFromToIndex_8c36e : GM := (yJ3_checkFromToIndex_8c36e, cJ3_checkFromToIndex_8c36e, 4, (some .int))
theorem kb_m100 : (Int8.ofInt (-100)).toInt32 = (-100 : Int32) := by decide
theorem kb_m99 : (Int8.ofInt (-99)).toInt32 = (-99 : Int32) := by decide
theorem kb_m14 : (Int8.ofInt (-14)).toInt32 = (-14 : Int32) := by decide
theorem kb_m13 : (Int8.ofInt (-13)).toInt32 = (-13 : Int32) := by decide
theorem kb_m12 : (Int8.ofInt (-12)).toInt32 = (-12 : Int32) := by decide
theorem kb_m11 : (Int8.ofInt (-11)).toInt32 = (-11 : Int32) := by decide
theorem kb_m4 : (Int8.ofInt (-4)).toInt32 = (-4 : Int32) := by decide
theorem kb_m3 : (Int8.ofInt (-3)).toInt32 = (-3 : Int32) := by decide
theorem kb_m2 : (Int8.ofInt (-2)).toInt32 = (-2 : Int32) := by decide
theorem kb_6 : (Int8.ofInt (6)).toInt32 = (6 : Int32) := by decide
theorem kb_7 : (Int8.ofInt (7)).toInt32 = (7 : Int32) := by decide
theorem kb_8 : (Int8.ofInt (8)).toInt32 = (8 : Int32) := by decide
theorem kb_9 : (Int8.ofInt (9)).toInt32 = (9 : Int32) := by decide
theorem kb_10 : (Int8.ofInt (10)).toInt32 = (10 : Int32) := by decide
theorem kb_11 : (Int8.ofInt (11)).toInt32 = (11 : Int32) := by decide
theorem kb_12 : (Int8.ofInt (12)).toInt32 = (12 : Int32) := by decide
theorem kb_13 : (Int8.ofInt (13)).toInt32 = (13 : Int32) := by decide
theorem kb_14 : (Int8.ofInt (14)).toInt32 = (14 : Int32) := by decide
theorem kb_15 : (Int8.ofInt (15)).toInt32 = (15 : Int32) := by decide
theorem kb_16 : (Int8.ofInt (16)).toInt32 = (16 : Int32) := by decide
theorem kb_17 : (Int8.ofInt (17)).toInt32 = (17 : Int32) := by decide
theorem kb_18 : (Int8.ofInt (18)).toInt32 = (18 : Int32) := by decide
theorem kb_19 : (Int8.ofInt (19)).toInt32 = (19 : Int32) := by decide
theorem kb_20 : (Int8.ofInt (20)).toInt32 = (20 : Int32) := by decide
theorem kb_21 : (Int8.ofInt (21)).toInt32 = (21 : Int32) := by decide
theorem kb_22 : (Int8.ofInt (22)).toInt32 = (22 : Int32) := by decide
theorem kb_23 : (Int8.ofInt (23)).toInt32 = (23 : Int32) := by decide
theorem kb_24 : (Int8.ofInt (24)).toInt32 = (24 : Int32) := by decide
theorem kb_32 : (Int8.ofInt (32)).toInt32 = (32 : Int32) := by decide
theorem kb_36 : (Int8.ofInt (36)).toInt32 = (36 : Int32) := by decide
theorem kb_40 : (Int8.ofInt (40)).toInt32 = (40 : Int32) := by decide
theorem kb_41 : (Int8.ofInt (41)).toInt32 = (41 : Int32) := by decide
theorem kb_42 : (Int8.ofInt (42)).toInt32 = (42 : Int32) := by decide
theorem kb_43 : (Int8.ofInt (43)).toInt32 = (43 : Int32) := by decide
theorem kb_45 : (Int8.ofInt (45)).toInt32 = (45 : Int32) := by decide
theorem kb_48 : (Int8.ofInt (48)).toInt32 = (48 : Int32) := by decide
theorem kb_49 : (Int8.ofInt (49)).toInt32 = (49 : Int32) := by decide
theorem kb_57 : (Int8.ofInt (57)).toInt32 = (57 : Int32) := by decide
theorem kb_59 : (Int8.ofInt (59)).toInt32 = (59 : Int32) := by decide
theorem kb_60 : (Int8.ofInt (60)).toInt32 = (60 : Int32) := by decide
theorem kb_61 : (Int8.ofInt (61)).toInt32 = (61 : Int32) := by decide
theorem kb_63 : (Int8.ofInt (63)).toInt32 = (63 : Int32) := by decide
theorem kb_64 : (Int8.ofInt (64)).toInt32 = (64 : Int32) := by decide
theorem kb_80 : (Int8.ofInt (80)).toInt32 = (80 : Int32) := by decide
theorem kb_97 : (Int8.ofInt (97)).toInt32 = (97 : Int32) := by decide
theorem kb_99 : (Int8.ofInt (99)).toInt32 = (99 : Int32) := by decide
theorem kb_100 : (Int8.ofInt (100)).toInt32 = (100 : Int32) := by decide
theorem kb_101 : (Int8.ofInt (101)).toInt32 = (101 : Int32) := by decide
theorem kb_104 : (Int8.ofInt (104)).toInt32 = (104 : Int32) := by decide
theorem kb_105 : (Int8.ofInt (105)).toInt32 = (105 : Int32) := by decide
theorem kb_109 : (Int8.ofInt (109)).toInt32 = (109 : Int32) := by decide
theorem kb_110 : (Int8.ofInt (110)).toInt32 = (110 : Int32) := by decide
theorem kb_111 : (Int8.ofInt (111)).toInt32 = (111 : Int32) := by decide
theorem kb_112 : (Int8.ofInt (112)).toInt32 = (112 : Int32) := by decide
theorem kb_114 : (Int8.ofInt (114)).toInt32 = (114 : Int32) := by decide
theorem kb_115 : (Int8.ofInt (115)).toInt32 = (115 : Int32) := by decide
theorem kb_116 : (Int8.ofInt (116)).toInt32 = (116 : Int32) := by decide
theorem kb_119 : (Int8.ofInt (119)).toInt32 = (119 : Int32) := by decide
theorem kb_121 : (Int8.ofInt (121)).toInt32 = (121 : Int32) := by decide
theorem kb_122 : (Int8.ofInt (122)).toInt32 = (122 : Int32) := by decide
theorem ki_m1 : Int32.ofInt (-1) = (-1 : Int32) := by decide
theorem ki_0 : Int32.ofInt (0) = (0 : Int32) := by decide
theorem ki_1 : Int32.ofInt (1) = (1 : Int32) := by decide
theorem ki_2 : Int32.ofInt (2) = (2 : Int32) := by decide
theorem ki_3 : Int32.ofInt (3) = (3 : Int32) := by decide
theorem ki_4 : Int32.ofInt (4) = (4 : Int32) := by decide
theorem ki_5 : Int32.ofInt (5) = (5 : Int32) := by decide
theorem ki_6 : Int32.ofInt (6) = (6 : Int32) := by decide
theorem ks_160 : (Int16.ofInt (160)).toInt32 = (160 : Int32) := by decide
theorem ks_216 : (Int16.ofInt (216)).toInt32 = (216 : Int32) := by decide
theorem ks_255 : (Int16.ofInt (255)).toInt32 = (255 : Int32) := by decide
theorem ks_960 : (Int16.ofInt (960)).toInt32 = (960 : Int32) := by decide
theorem ks_1023 : (Int16.ofInt (1023)).toInt32 = (1023 : Int32) := by decide
theorem ks_12345 : (Int16.ofInt (12345)).toInt32 = (12345 : Int32) := by decide
theorem kl_0 : Int64.ofNat ((0 : Fin 2) : Nat) = 0 := by decide
theorem kl_1 : Int64.ofNat ((1 : Fin 2) : Nat) = 1 := by decide
theorem kc_J2_227 : Cond.constant RJ2 227 (65536) ∈ gw := gw_at (i := 407) (by decide +kernel) rfl
theorem kc_J11_110 : Cond.constant RJ11 110 (55232) ∈ gw := gw_at (i := 432) (by decide +kernel) rfl
theorem kc_J11_76 : Cond.constant RJ11 76 (56320) ∈ gw := gw_at (i := 436) (by decide +kernel) rfl
theorem kc_X7_143 : Cond.constant RX7 143 (-100000) ∈ gw := gw_at (i := 575) (by decide +kernel) rfl
theorem kc_J6_265 : Cond.constant RJ6 265 (1431655765) ∈ gw := gw_at (i := 711) (by decide +kernel) rfl
theorem kc_J6_266 : Cond.constant RJ6 266 (858993459) ∈ gw := gw_at (i := 712) (by decide +kernel) rfl
theorem kc_J6_267 : Cond.constant RJ6 267 (252645135) ∈ gw := gw_at (i := 713) (by decide +kernel) rfl
theorem kc_X0_48 : Cond.constant RX0 48 (1000000) ∈ gw := gw_at (i := 751) (by decide +kernel) rfl
theorem kc_X7_325 : Cond.constant RX7 325 (1103515245) ∈ gw := gw_at (i := 861) (by decide +kernel) rfl
theorem kj_X7_261 : Cond.constantLong RX7 261 (-4611686018427387904) ∈ gw := gw_at (i := 866) (by decide +kernel) rfl
theorem kj_X8_110 : Cond.constantLong RX8 110 (5) ∈ gw := gw_at (i := 1119) (by decide +kernel) rfl
theorem kj_X8_112 : Cond.constantLong RX8 112 (10) ∈ gw := gw_at (i := 1123) (by decide +kernel) rfl
theorem kj_X8_114 : Cond.constantLong RX8 114 (99) ∈ gw := gw_at (i := 1124) (by decide +kernel) rfl
theorem kj_X8_123 : Cond.constantLong RX8 123 (2) ∈ gw := gw_at (i := 1133) (by decide +kernel) rfl
theorem kj_X8_125 : Cond.constantLong RX8 125 (9) ∈ gw := gw_at (i := 1134) (by decide +kernel) rfl
theorem kj_X8_135 : Cond.constantLong RX8 135 (255) ∈ gw := gw_at (i := 1151) (by decide +kernel) rfl
theorem kj_X8_158 : Cond.constantLong RX8 158 (97) ∈ gw := gw_at (i := 1168) (by decide +kernel) rfl
theorem kj_X8_160 : Cond.constantLong RX8 160 (122) ∈ gw := gw_at (i := 1169) (by decide +kernel) rfl
theorem kj_X8_162 : Cond.constantLong RX8 162 (48) ∈ gw := gw_at (i := 1170) (by decide +kernel) rfl
theorem kj_X8_164 : Cond.constantLong RX8 164 (57) ∈ gw := gw_at (i := 1171) (by decide +kernel) rfl
theorem kj_X8_232 : Cond.constantLong RX8 232 (43) ∈ gw := gw_at (i := 1224) (by decide +kernel) rfl
theorem kj_X8_240 : Cond.constantLong RX8 240 (60) ∈ gw := gw_at (i := 1225) (by decide +kernel) rfl
theorem kc_X8_269 : Cond.constant RX8 269 (-100000) ∈ gw := gw_at (i := 1248) (by decide +kernel) rfl
theorem kj_X8_356 : Cond.constantLong RX8 356 (3) ∈ gw := gw_at (i := 1331) (by decide +kernel) rfl
theorem kj_X8_325 : Cond.constantLong RX8 325 (4) ∈ gw := gw_at (i := 1356) (by decide +kernel) rfl
theorem kj_X8_340 : Cond.constantLong RX8 340 (40) ∈ gw := gw_at (i := 1389) (by decide +kernel) rfl
theorem kc_X8_342 : Cond.constant RX8 342 (1103515245) ∈ gw := gw_at (i := 1390) (by decide +kernel) rfl
theorem kj_X8_343 : Cond.constantLong RX8 343 (20) ∈ gw := gw_at (i := 1395) (by decide +kernel) rfl
theorem kj_X8_345 : Cond.constantLong RX8 345 (-4611686018427387904) ∈ gw := gw_at (i := 1396) (by decide +kernel) rfl
theorem kj_X8_358 : Cond.constantLong RX8 358 (-1) ∈ gw := gw_at (i := 1414) (by decide +kernel) rfl
theorem fl_X0_9 : FL RX0 9 0 0 := ⟨_, rfl, by decide, gw_at (i := 181) (by decide +kernel) rfl⟩
theorem fp_0_0 : FP 0 0 (.array .int) true := ⟨_, rfl, by decide +kernel, rfl, rfl⟩
theorem fl_X0_15 : FL RX0 15 0 1 := ⟨_, rfl, by decide, gw_at (i := 183) (by decide +kernel) rfl⟩
theorem fp_0_1 : FP 0 1 (.array .int) true := ⟨_, rfl, by decide +kernel, rfl, rfl⟩
theorem fl_X0_18 : FL RX0 18 0 2 := ⟨_, rfl, by decide, gw_at (i := 185) (by decide +kernel) rfl⟩
theorem fp_0_2 : FP 0 2 (.array .int) true := ⟨_, rfl, by decide +kernel, rfl, rfl⟩
theorem fl_X0_21 : FL RX0 21 0 3 := ⟨_, rfl, by decide, gw_at (i := 186) (by decide +kernel) rfl⟩
theorem fp_0_3 : FP 0 3 (.array .int) true := ⟨_, rfl, by decide +kernel, rfl, rfl⟩
theorem fl_X0_24 : FL RX0 24 0 4 := ⟨_, rfl, by decide, gw_at (i := 187) (by decide +kernel) rfl⟩
theorem fp_0_4 : FP 0 4 .int false := ⟨_, rfl, by decide +kernel, rfl, rfl⟩
theorem fl_X0_28 : FL RX0 28 0 5 := ⟨_, rfl, by decide, gw_at (i := 188) (by decide +kernel) rfl⟩
theorem fp_0_5 : FP 0 5 .int false := ⟨_, rfl, by decide +kernel, rfl, rfl⟩
theorem fl_X1_9 : FL RX1 9 1 0 := ⟨_, rfl, by decide, gw_at (i := 140) (by decide +kernel) rfl⟩
theorem fp_1_0 : FP 1 0 (.array .int) true := ⟨_, rfl, by decide +kernel, rfl, rfl⟩
theorem fl_X1_15 : FL RX1 15 1 1 := ⟨_, rfl, by decide, gw_at (i := 142) (by decide +kernel) rfl⟩
theorem fp_1_1 : FP 1 1 (.array .int) true := ⟨_, rfl, by decide +kernel, rfl, rfl⟩
theorem fl_X1_18 : FL RX1 18 1 2 := ⟨_, rfl, by decide, gw_at (i := 144) (by decide +kernel) rfl⟩
theorem fp_1_2 : FP 1 2 (.array .int) true := ⟨_, rfl, by decide +kernel, rfl, rfl⟩
theorem fl_X1_21 : FL RX1 21 1 3 := ⟨_, rfl, by decide, gw_at (i := 146) (by decide +kernel) rfl⟩
theorem fp_1_3 : FP 1 3 (.array .int) true := ⟨_, rfl, by decide +kernel, rfl, rfl⟩
theorem fl_X1_24 : FL RX1 24 1 4 := ⟨_, rfl, by decide, gw_at (i := 148) (by decide +kernel) rfl⟩
theorem fp_1_4 : FP 1 4 (.array .int) true := ⟨_, rfl, by decide +kernel, rfl, rfl⟩
theorem fl_X1_30 : FL RX1 30 1 5 := ⟨_, rfl, by decide, gw_at (i := 150) (by decide +kernel) rfl⟩
theorem fp_1_5 : FP 1 5 (.object "DogsOnLeads$Row") true := ⟨_, rfl, by decide +kernel, rfl, rfl⟩
theorem fl_X1_34 : FL RX1 34 1 6 := ⟨_, rfl, by decide, gw_at (i := 152) (by decide +kernel) rfl⟩
theorem fp_1_6 : FP 1 6 .int false := ⟨_, rfl, by decide +kernel, rfl, rfl⟩
theorem fl_X1_38 : FL RX1 38 1 7 := ⟨_, rfl, by decide, gw_at (i := 154) (by decide +kernel) rfl⟩
theorem fp_1_7 : FP 1 7 .int false := ⟨_, rfl, by decide +kernel, rfl, rfl⟩
theorem fl_X2_9 : FL RX2 9 2 0 := ⟨_, rfl, by decide, gw_at (i := 230) (by decide +kernel) rfl⟩
theorem fp_2_0 : FP 2 0 (.array .int) true := ⟨_, rfl, by decide +kernel, rfl, rfl⟩
theorem fl_X2_18 : FL RX2 18 2 1 := ⟨_, rfl, by decide, gw_at (i := 231) (by decide +kernel) rfl⟩
theorem fp_2_1 : FP 2 1 (.object "DogsOnLeads$Text") true := ⟨_, rfl, by decide +kernel, rfl, rfl⟩
theorem fl_X2_22 : FL RX2 22 2 2 := ⟨_, rfl, by decide, gw_at (i := 232) (by decide +kernel) rfl⟩
theorem fp_2_2 : FP 2 2 .int false := ⟨_, rfl, by decide +kernel, rfl, rfl⟩
theorem fl_X2_26 : FL RX2 26 2 3 := ⟨_, rfl, by decide, gw_at (i := 234) (by decide +kernel) rfl⟩
theorem fp_2_3 : FP 2 3 .int false := ⟨_, rfl, by decide +kernel, rfl, rfl⟩
theorem fl_X2_31 : FL RX2 31 2 4 := ⟨_, rfl, by decide, gw_at (i := 235) (by decide +kernel) rfl⟩
theorem fp_2_4 : FP 2 4 .int false := ⟨_, rfl, by decide +kernel, rfl, rfl⟩
theorem fl_X2_34 : FL RX2 34 2 5 := ⟨_, rfl, by decide, gw_at (i := 236) (by decide +kernel) rfl⟩
theorem fp_2_5 : FP 2 5 .int false := ⟨_, rfl, by decide +kernel, rfl, rfl⟩
theorem fl_X2_37 : FL RX2 37 2 6 := ⟨_, rfl, by decide, gw_at (i := 237) (by decide +kernel) rfl⟩
theorem fp_2_6 : FP 2 6 .int false := ⟨_, rfl, by decide +kernel, rfl, rfl⟩
theorem fl_X3_9 : FL RX3 9 3 0 := ⟨_, rfl, by decide, gw_at (i := 114) (by decide +kernel) rfl⟩
theorem fp_3_0 : FP 3 0 (.array .int) true := ⟨_, rfl, by decide +kernel, rfl, rfl⟩
theorem fl_X3_15 : FL RX3 15 3 1 := ⟨_, rfl, by decide, gw_at (i := 116) (by decide +kernel) rfl⟩
theorem fp_3_1 : FP 3 1 (.array .int) true := ⟨_, rfl, by decide +kernel, rfl, rfl⟩
theorem fl_X3_18 : FL RX3 18 3 2 := ⟨_, rfl, by decide, gw_at (i := 118) (by decide +kernel) rfl⟩
theorem fp_3_2 : FP 3 2 (.array .int) true := ⟨_, rfl, by decide +kernel, rfl, rfl⟩
theorem fl_X3_21 : FL RX3 21 3 3 := ⟨_, rfl, by decide, gw_at (i := 120) (by decide +kernel) rfl⟩
theorem fp_3_3 : FP 3 3 (.array .int) true := ⟨_, rfl, by decide +kernel, rfl, rfl⟩
theorem fl_X3_24 : FL RX3 24 3 4 := ⟨_, rfl, by decide, gw_at (i := 122) (by decide +kernel) rfl⟩
theorem fp_3_4 : FP 3 4 (.array .int) true := ⟨_, rfl, by decide +kernel, rfl, rfl⟩
theorem fl_X3_27 : FL RX3 27 3 5 := ⟨_, rfl, by decide, gw_at (i := 124) (by decide +kernel) rfl⟩
theorem fp_3_5 : FP 3 5 .int false := ⟨_, rfl, by decide +kernel, rfl, rfl⟩
theorem fl_X4_9 : FL RX4 9 4 0 := ⟨_, rfl, by decide, gw_at (i := 263) (by decide +kernel) rfl⟩
theorem fp_4_0 : FP 4 0 (.array .int) true := ⟨_, rfl, by decide +kernel, rfl, rfl⟩
theorem fl_X4_15 : FL RX4 15 4 1 := ⟨_, rfl, by decide, gw_at (i := 265) (by decide +kernel) rfl⟩
theorem fp_4_1 : FP 4 1 .int false := ⟨_, rfl, by decide +kernel, rfl, rfl⟩
theorem fl_X4_19 : FL RX4 19 4 2 := ⟨_, rfl, by decide, gw_at (i := 267) (by decide +kernel) rfl⟩
theorem fp_4_2 : FP 4 2 .int false := ⟨_, rfl, by decide +kernel, rfl, rfl⟩
theorem fl_X5_9 : FL RX5 9 5 0 := ⟨_, rfl, by decide, gw_at (i := 214) (by decide +kernel) rfl⟩
theorem fp_5_0 : FP 5 0 (.array .int) true := ⟨_, rfl, by decide +kernel, rfl, rfl⟩
theorem fl_X5_15 : FL RX5 15 5 1 := ⟨_, rfl, by decide, gw_at (i := 215) (by decide +kernel) rfl⟩
theorem fp_5_1 : FP 5 1 (.array .int) true := ⟨_, rfl, by decide +kernel, rfl, rfl⟩
theorem fl_X5_18 : FL RX5 18 5 2 := ⟨_, rfl, by decide, gw_at (i := 216) (by decide +kernel) rfl⟩
theorem fp_5_2 : FP 5 2 .int false := ⟨_, rfl, by decide +kernel, rfl, rfl⟩
theorem fl_X5_22 : FL RX5 22 5 3 := ⟨_, rfl, by decide, gw_at (i := 217) (by decide +kernel) rfl⟩
theorem fp_5_3 : FP 5 3 (.array .int) true := ⟨_, rfl, by decide +kernel, rfl, rfl⟩
theorem fl_X5_25 : FL RX5 25 5 4 := ⟨_, rfl, by decide, gw_at (i := 218) (by decide +kernel) rfl⟩
theorem fp_5_4 : FP 5 4 .int false := ⟨_, rfl, by decide +kernel, rfl, rfl⟩
theorem fl_X7_10 : FL RX7 10 6 0 := ⟨_, rfl, by decide, gw_at (i := 490) (by decide +kernel) rfl⟩
theorem fp_6_0 : FP 6 0 (.object "DogsOnLeads$Pack") true := ⟨_, rfl, by decide +kernel, rfl, rfl⟩
theorem fl_X7_16 : FL RX7 16 6 1 := ⟨_, rfl, by decide, gw_at (i := 491) (by decide +kernel) rfl⟩
theorem fp_6_1 : FP 6 1 (.object "DogsOnLeads$Pack") true := ⟨_, rfl, by decide +kernel, rfl, rfl⟩
theorem fl_X7_19 : FL RX7 19 6 2 := ⟨_, rfl, by decide, gw_at (i := 492) (by decide +kernel) rfl⟩
theorem fp_6_2 : FP 6 2 .boolean false := ⟨_, rfl, by decide +kernel, rfl, rfl⟩
theorem fl_X7_26 : FL RX7 26 6 3 := ⟨_, rfl, by decide, gw_at (i := 493) (by decide +kernel) rfl⟩
theorem fp_6_3 : FP 6 3 (.object "DogsOnLeads$Row") true := ⟨_, rfl, by decide +kernel, rfl, rfl⟩
theorem fl_X7_30 : FL RX7 30 6 4 := ⟨_, rfl, by decide, gw_at (i := 494) (by decide +kernel) rfl⟩
theorem fp_6_4 : FP 6 4 (.object "DogsOnLeads$Row") true := ⟨_, rfl, by decide +kernel, rfl, rfl⟩
theorem fl_X7_36 : FL RX7 36 6 5 := ⟨_, rfl, by decide, gw_at (i := 495) (by decide +kernel) rfl⟩
theorem fp_6_5 : FP 6 5 (.object "DogsOnLeads$Orders") true := ⟨_, rfl, by decide +kernel, rfl, rfl⟩
theorem fl_X7_43 : FL RX7 43 6 6 := ⟨_, rfl, by decide, gw_at (i := 496) (by decide +kernel) rfl⟩
theorem fp_6_6 : FP 6 6 (.object "DogsOnLeads$Reader") true := ⟨_, rfl, by decide +kernel, rfl, rfl⟩
theorem fl_X7_49 : FL RX7 49 6 7 := ⟨_, rfl, by decide, gw_at (i := 497) (by decide +kernel) rfl⟩
theorem fp_6_7 : FP 6 7 (.array (.object "DogsOnLeads$Text")) true := ⟨_, rfl, by decide +kernel, rfl, rfl⟩
theorem fl_X7_53 : FL RX7 53 6 8 := ⟨_, rfl, by decide, gw_at (i := 498) (by decide +kernel) rfl⟩
theorem fp_6_8 : FP 6 8 .int false := ⟨_, rfl, by decide +kernel, rfl, rfl⟩
theorem fl_X7_59 : FL RX7 59 6 9 := ⟨_, rfl, by decide, gw_at (i := 499) (by decide +kernel) rfl⟩
theorem fp_6_9 : FP 6 9 (.array .int) true := ⟨_, rfl, by decide +kernel, rfl, rfl⟩
theorem fl_X7_65 : FL RX7 65 6 10 := ⟨_, rfl, by decide, gw_at (i := 500) (by decide +kernel) rfl⟩
theorem fp_6_10 : FP 6 10 (.array (.object "DogsOnLeads$Sheet")) true := ⟨_, rfl, by decide +kernel, rfl, rfl⟩
theorem fl_X7_69 : FL RX7 69 6 11 := ⟨_, rfl, by decide, gw_at (i := 501) (by decide +kernel) rfl⟩
theorem fp_6_11 : FP 6 11 (.array .int) true := ⟨_, rfl, by decide +kernel, rfl, rfl⟩
theorem fl_X7_72 : FL RX7 72 6 12 := ⟨_, rfl, by decide, gw_at (i := 502) (by decide +kernel) rfl⟩
theorem fp_6_12 : FP 6 12 (.array .int) true := ⟨_, rfl, by decide +kernel, rfl, rfl⟩
theorem fl_X7_75 : FL RX7 75 6 13 := ⟨_, rfl, by decide, gw_at (i := 503) (by decide +kernel) rfl⟩
theorem fp_6_13 : FP 6 13 (.array .int) true := ⟨_, rfl, by decide +kernel, rfl, rfl⟩
theorem fl_X7_104 : FL RX7 104 1 5 := ⟨_, rfl, by decide, gw_at (i := 151) (by decide +kernel) rfl⟩
theorem fl_X7_107 : FL RX7 107 3 5 := ⟨_, rfl, by decide, gw_at (i := 125) (by decide +kernel) rfl⟩
theorem fl_X7_110 : FL RX7 110 1 6 := ⟨_, rfl, by decide, gw_at (i := 153) (by decide +kernel) rfl⟩
theorem fl_X7_119 : FL RX7 119 1 1 := ⟨_, rfl, by decide, gw_at (i := 143) (by decide +kernel) rfl⟩
theorem fl_X7_126 : FL RX7 126 1 2 := ⟨_, rfl, by decide, gw_at (i := 145) (by decide +kernel) rfl⟩
theorem fl_X7_129 : FL RX7 129 1 3 := ⟨_, rfl, by decide, gw_at (i := 147) (by decide +kernel) rfl⟩
theorem fl_X7_132 : FL RX7 132 1 0 := ⟨_, rfl, by decide, gw_at (i := 141) (by decide +kernel) rfl⟩
theorem fl_X7_148 : FL RX7 148 2 2 := ⟨_, rfl, by decide, gw_at (i := 233) (by decide +kernel) rfl⟩
theorem fl_X7_149 : FL RX7 149 1 7 := ⟨_, rfl, by decide, gw_at (i := 155) (by decide +kernel) rfl⟩
theorem fl_X7_152 : FL RX7 152 1 4 := ⟨_, rfl, by decide, gw_at (i := 149) (by decide +kernel) rfl⟩
theorem fl_X7_165 : FL RX7 165 3 0 := ⟨_, rfl, by decide, gw_at (i := 115) (by decide +kernel) rfl⟩
theorem fl_X7_175 : FL RX7 175 3 1 := ⟨_, rfl, by decide, gw_at (i := 117) (by decide +kernel) rfl⟩
theorem fl_X7_200 : FL RX7 200 3 2 := ⟨_, rfl, by decide, gw_at (i := 119) (by decide +kernel) rfl⟩
theorem fl_X7_203 : FL RX7 203 3 3 := ⟨_, rfl, by decide, gw_at (i := 121) (by decide +kernel) rfl⟩
theorem fl_X7_212 : FL RX7 212 0 1 := ⟨_, rfl, by decide, gw_at (i := 184) (by decide +kernel) rfl⟩
theorem fl_X7_218 : FL RX7 218 4 2 := ⟨_, rfl, by decide, gw_at (i := 268) (by decide +kernel) rfl⟩
theorem fl_X7_219 : FL RX7 219 4 0 := ⟨_, rfl, by decide, gw_at (i := 264) (by decide +kernel) rfl⟩
theorem fl_X7_275 : FL RX7 275 4 1 := ⟨_, rfl, by decide, gw_at (i := 266) (by decide +kernel) rfl⟩
theorem fl_X7_319 : FL RX7 319 3 4 := ⟨_, rfl, by decide, gw_at (i := 123) (by decide +kernel) rfl⟩
theorem fl_X7_330 : FL RX7 330 0 0 := ⟨_, rfl, by decide, gw_at (i := 182) (by decide +kernel) rfl⟩
theorem fl_X8_13 : FL RX8 13 7 1 := ⟨_, rfl, by decide, gw_at (i := 946) (by decide +kernel) rfl⟩
theorem fp_7_1 : FP 7 1 (.array .int) true := ⟨_, rfl, by decide +kernel, rfl, rfl⟩
theorem fl_X8_17 : FL RX8 17 7 2 := ⟨_, rfl, by decide, gw_at (i := 947) (by decide +kernel) rfl⟩
theorem fp_7_2 : FP 7 2 (.array .int) true := ⟨_, rfl, by decide +kernel, rfl, rfl⟩
theorem fl_X8_20 : FL RX8 20 7 5 := ⟨_, rfl, by decide, gw_at (i := 950) (by decide +kernel) rfl⟩
theorem fp_7_5 : FP 7 5 (.array .int) true := ⟨_, rfl, by decide +kernel, rfl, rfl⟩
theorem fl_X8_23 : FL RX8 23 7 7 := ⟨_, rfl, by decide, gw_at (i := 952) (by decide +kernel) rfl⟩
theorem fp_7_7 : FP 7 7 (.array .int) true := ⟨_, rfl, by decide +kernel, rfl, rfl⟩
theorem fl_X8_26 : FL RX8 26 7 8 := ⟨_, rfl, by decide, gw_at (i := 953) (by decide +kernel) rfl⟩
theorem fp_7_8 : FP 7 8 (.array .int) true := ⟨_, rfl, by decide +kernel, rfl, rfl⟩
theorem fl_X8_29 : FL RX8 29 7 9 := ⟨_, rfl, by decide, gw_at (i := 954) (by decide +kernel) rfl⟩
theorem fp_7_9 : FP 7 9 (.array .int) true := ⟨_, rfl, by decide +kernel, rfl, rfl⟩
theorem fl_X8_32 : FL RX8 32 7 10 := ⟨_, rfl, by decide, gw_at (i := 955) (by decide +kernel) rfl⟩
theorem fp_7_10 : FP 7 10 (.array .int) true := ⟨_, rfl, by decide +kernel, rfl, rfl⟩
theorem fl_X8_35 : FL RX8 35 7 11 := ⟨_, rfl, by decide, gw_at (i := 956) (by decide +kernel) rfl⟩
theorem fp_7_11 : FP 7 11 (.array .int) true := ⟨_, rfl, by decide +kernel, rfl, rfl⟩
theorem fl_X8_38 : FL RX8 38 7 13 := ⟨_, rfl, by decide, gw_at (i := 958) (by decide +kernel) rfl⟩
theorem fp_7_13 : FP 7 13 (.array .int) true := ⟨_, rfl, by decide +kernel, rfl, rfl⟩
theorem fl_X8_41 : FL RX8 41 7 14 := ⟨_, rfl, by decide, gw_at (i := 959) (by decide +kernel) rfl⟩
theorem fp_7_14 : FP 7 14 (.array .int) true := ⟨_, rfl, by decide +kernel, rfl, rfl⟩
theorem fl_X8_44 : FL RX8 44 7 31 := ⟨_, rfl, by decide, gw_at (i := 976) (by decide +kernel) rfl⟩
theorem fp_7_31 : FP 7 31 (.array .int) true := ⟨_, rfl, by decide +kernel, rfl, rfl⟩
theorem fl_X8_47 : FL RX8 47 7 32 := ⟨_, rfl, by decide, gw_at (i := 977) (by decide +kernel) rfl⟩
theorem fp_7_32 : FP 7 32 (.array .int) true := ⟨_, rfl, by decide +kernel, rfl, rfl⟩
theorem fl_X8_50 : FL RX8 50 7 33 := ⟨_, rfl, by decide, gw_at (i := 978) (by decide +kernel) rfl⟩
theorem fp_7_33 : FP 7 33 (.array .int) true := ⟨_, rfl, by decide +kernel, rfl, rfl⟩
theorem fl_X8_53 : FL RX8 53 7 35 := ⟨_, rfl, by decide, gw_at (i := 980) (by decide +kernel) rfl⟩
theorem fp_7_35 : FP 7 35 (.array .int) true := ⟨_, rfl, by decide +kernel, rfl, rfl⟩
theorem fl_X8_56 : FL RX8 56 7 36 := ⟨_, rfl, by decide, gw_at (i := 981) (by decide +kernel) rfl⟩
theorem fp_7_36 : FP 7 36 (.array .int) true := ⟨_, rfl, by decide +kernel, rfl, rfl⟩
theorem fl_X8_59 : FL RX8 59 7 38 := ⟨_, rfl, by decide, gw_at (i := 983) (by decide +kernel) rfl⟩
theorem fp_7_38 : FP 7 38 (.array .int) true := ⟨_, rfl, by decide +kernel, rfl, rfl⟩
theorem fl_X8_62 : FL RX8 62 7 39 := ⟨_, rfl, by decide, gw_at (i := 984) (by decide +kernel) rfl⟩
theorem fp_7_39 : FP 7 39 (.array .int) true := ⟨_, rfl, by decide +kernel, rfl, rfl⟩
theorem fl_X8_65 : FL RX8 65 7 42 := ⟨_, rfl, by decide, gw_at (i := 987) (by decide +kernel) rfl⟩
theorem fp_7_42 : FP 7 42 (.array .int) true := ⟨_, rfl, by decide +kernel, rfl, rfl⟩
theorem fl_X8_68 : FL RX8 68 7 43 := ⟨_, rfl, by decide, gw_at (i := 988) (by decide +kernel) rfl⟩
theorem fp_7_43 : FP 7 43 (.array .int) true := ⟨_, rfl, by decide +kernel, rfl, rfl⟩
theorem fl_X8_71 : FL RX8 71 7 46 := ⟨_, rfl, by decide, gw_at (i := 991) (by decide +kernel) rfl⟩
theorem fp_7_46 : FP 7 46 (.array .int) true := ⟨_, rfl, by decide +kernel, rfl, rfl⟩
theorem fl_X8_74 : FL RX8 74 7 47 := ⟨_, rfl, by decide, gw_at (i := 992) (by decide +kernel) rfl⟩
theorem fp_7_47 : FP 7 47 (.array .int) true := ⟨_, rfl, by decide +kernel, rfl, rfl⟩
theorem fl_X8_77 : FL RX8 77 7 48 := ⟨_, rfl, by decide, gw_at (i := 993) (by decide +kernel) rfl⟩
theorem fp_7_48 : FP 7 48 (.array .int) true := ⟨_, rfl, by decide +kernel, rfl, rfl⟩
theorem fl_X8_80 : FL RX8 80 7 49 := ⟨_, rfl, by decide, gw_at (i := 994) (by decide +kernel) rfl⟩
theorem fp_7_49 : FP 7 49 .int false := ⟨_, rfl, by decide +kernel, rfl, rfl⟩
theorem fl_X8_83 : FL RX8 83 7 52 := ⟨_, rfl, by decide, gw_at (i := 997) (by decide +kernel) rfl⟩
theorem fp_7_52 : FP 7 52 (.array .boolean) true := ⟨_, rfl, by decide +kernel, rfl, rfl⟩
theorem fl_X8_87 : FL RX8 87 7 53 := ⟨_, rfl, by decide, gw_at (i := 998) (by decide +kernel) rfl⟩
theorem fp_7_53 : FP 7 53 (.array .int) true := ⟨_, rfl, by decide +kernel, rfl, rfl⟩
theorem fl_X8_90 : FL RX8 90 7 54 := ⟨_, rfl, by decide, gw_at (i := 999) (by decide +kernel) rfl⟩
theorem fp_7_54 : FP 7 54 (.array .int) true := ⟨_, rfl, by decide +kernel, rfl, rfl⟩
theorem fl_X8_93 : FL RX8 93 7 55 := ⟨_, rfl, by decide, gw_at (i := 1000) (by decide +kernel) rfl⟩
theorem fp_7_55 : FP 7 55 (.array .int) true := ⟨_, rfl, by decide +kernel, rfl, rfl⟩
theorem fl_X8_100 : FL RX8 100 7 3 := ⟨_, rfl, by decide, gw_at (i := 948) (by decide +kernel) rfl⟩
theorem fp_7_3 : FP 7 3 .int false := ⟨_, rfl, by decide +kernel, rfl, rfl⟩
theorem fl_X8_103 : FL RX8 103 7 12 := ⟨_, rfl, by decide, gw_at (i := 957) (by decide +kernel) rfl⟩
theorem fl_X8_116 : FL RX8 116 7 15 := ⟨_, rfl, by decide, gw_at (i := 960) (by decide +kernel) rfl⟩
theorem fp_7_12 : FP 7 12 .int false := ⟨_, rfl, by decide +kernel, rfl, rfl⟩
theorem fl_X8_137 : FL RX8 137 7 6 := ⟨_, rfl, by decide, gw_at (i := 951) (by decide +kernel) rfl⟩
theorem fp_7_6 : FP 7 6 .int false := ⟨_, rfl, by decide +kernel, rfl, rfl⟩
theorem fl_X8_140 : FL RX8 140 7 23 := ⟨_, rfl, by decide, gw_at (i := 968) (by decide +kernel) rfl⟩
theorem fl_X8_143 : FL RX8 143 7 22 := ⟨_, rfl, by decide, gw_at (i := 967) (by decide +kernel) rfl⟩
theorem fl_X8_146 : FL RX8 146 7 24 := ⟨_, rfl, by decide, gw_at (i := 969) (by decide +kernel) rfl⟩
theorem fp_7_24 : FP 7 24 .int false := ⟨_, rfl, by decide +kernel, rfl, rfl⟩
theorem fl_X8_152 : FL RX8 152 7 26 := ⟨_, rfl, by decide, gw_at (i := 971) (by decide +kernel) rfl⟩
theorem fp_7_26 : FP 7 26 .int false := ⟨_, rfl, by decide +kernel, rfl, rfl⟩
theorem fl_X8_155 : FL RX8 155 7 25 := ⟨_, rfl, by decide, gw_at (i := 970) (by decide +kernel) rfl⟩
theorem fp_7_25 : FP 7 25 .int false := ⟨_, rfl, by decide +kernel, rfl, rfl⟩
theorem fl_X8_166 : FL RX8 166 7 27 := ⟨_, rfl, by decide, gw_at (i := 972) (by decide +kernel) rfl⟩
theorem fp_7_27 : FP 7 27 .long false := ⟨_, rfl, by decide +kernel, rfl, rfl⟩
theorem fl_X8_170 : FL RX8 170 7 29 := ⟨_, rfl, by decide, gw_at (i := 974) (by decide +kernel) rfl⟩
theorem fp_7_29 : FP 7 29 .boolean false := ⟨_, rfl, by decide +kernel, rfl, rfl⟩
theorem fl_X8_174 : FL RX8 174 7 30 := ⟨_, rfl, by decide, gw_at (i := 975) (by decide +kernel) rfl⟩
theorem fp_7_30 : FP 7 30 .int false := ⟨_, rfl, by decide +kernel, rfl, rfl⟩
theorem fl_X8_181 : FL RX8 181 7 28 := ⟨_, rfl, by decide, gw_at (i := 973) (by decide +kernel) rfl⟩
theorem fp_7_28 : FP 7 28 .int false := ⟨_, rfl, by decide +kernel, rfl, rfl⟩
theorem fl_X8_194 : FL RX8 194 7 16 := ⟨_, rfl, by decide, gw_at (i := 961) (by decide +kernel) rfl⟩
theorem fl_X8_197 : FL RX8 197 7 17 := ⟨_, rfl, by decide, gw_at (i := 962) (by decide +kernel) rfl⟩
theorem fl_X8_200 : FL RX8 200 7 18 := ⟨_, rfl, by decide, gw_at (i := 963) (by decide +kernel) rfl⟩
theorem fl_X8_203 : FL RX8 203 7 19 := ⟨_, rfl, by decide, gw_at (i := 964) (by decide +kernel) rfl⟩
theorem fl_X8_206 : FL RX8 206 7 20 := ⟨_, rfl, by decide, gw_at (i := 965) (by decide +kernel) rfl⟩
theorem fl_X8_209 : FL RX8 209 7 21 := ⟨_, rfl, by decide, gw_at (i := 966) (by decide +kernel) rfl⟩
theorem fp_7_22 : FP 7 22 .int false := ⟨_, rfl, by decide +kernel, rfl, rfl⟩
theorem fp_7_23 : FP 7 23 .int false := ⟨_, rfl, by decide +kernel, rfl, rfl⟩
theorem fl_X8_252 : FL RX8 252 7 4 := ⟨_, rfl, by decide, gw_at (i := 949) (by decide +kernel) rfl⟩
theorem fp_7_4 : FP 7 4 .int false := ⟨_, rfl, by decide +kernel, rfl, rfl⟩
theorem fp_7_16 : FP 7 16 .int false := ⟨_, rfl, by decide +kernel, rfl, rfl⟩
theorem fp_7_17 : FP 7 17 .int false := ⟨_, rfl, by decide +kernel, rfl, rfl⟩
theorem fp_7_18 : FP 7 18 .int false := ⟨_, rfl, by decide +kernel, rfl, rfl⟩
theorem fp_7_19 : FP 7 19 .int false := ⟨_, rfl, by decide +kernel, rfl, rfl⟩
theorem fp_7_20 : FP 7 20 .int false := ⟨_, rfl, by decide +kernel, rfl, rfl⟩
theorem fp_7_21 : FP 7 21 .int false := ⟨_, rfl, by decide +kernel, rfl, rfl⟩
theorem fp_7_15 : FP 7 15 .int false := ⟨_, rfl, by decide +kernel, rfl, rfl⟩
theorem fl_X8_274 : FL RX8 274 7 34 := ⟨_, rfl, by decide, gw_at (i := 979) (by decide +kernel) rfl⟩
theorem fp_7_34 : FP 7 34 .int false := ⟨_, rfl, by decide +kernel, rfl, rfl⟩
theorem fl_X8_290 : FL RX8 290 7 37 := ⟨_, rfl, by decide, gw_at (i := 982) (by decide +kernel) rfl⟩
theorem fp_7_37 : FP 7 37 .int false := ⟨_, rfl, by decide +kernel, rfl, rfl⟩
theorem fl_X8_316 : FL RX8 316 7 40 := ⟨_, rfl, by decide, gw_at (i := 985) (by decide +kernel) rfl⟩
theorem fp_7_40 : FP 7 40 .int false := ⟨_, rfl, by decide +kernel, rfl, rfl⟩
theorem fl_X8_319 : FL RX8 319 7 41 := ⟨_, rfl, by decide, gw_at (i := 986) (by decide +kernel) rfl⟩
theorem fp_7_41 : FP 7 41 .int false := ⟨_, rfl, by decide +kernel, rfl, rfl⟩
theorem fl_X8_327 : FL RX8 327 7 44 := ⟨_, rfl, by decide, gw_at (i := 989) (by decide +kernel) rfl⟩
theorem fp_7_44 : FP 7 44 .int false := ⟨_, rfl, by decide +kernel, rfl, rfl⟩
theorem fl_X8_330 : FL RX8 330 7 45 := ⟨_, rfl, by decide, gw_at (i := 990) (by decide +kernel) rfl⟩
theorem fp_7_45 : FP 7 45 .int false := ⟨_, rfl, by decide +kernel, rfl, rfl⟩
theorem fl_X8_350 : FL RX8 350 7 50 := ⟨_, rfl, by decide, gw_at (i := 995) (by decide +kernel) rfl⟩
theorem fp_7_50 : FP 7 50 .int false := ⟨_, rfl, by decide +kernel, rfl, rfl⟩
theorem fl_X8_353 : FL RX8 353 7 51 := ⟨_, rfl, by decide, gw_at (i := 996) (by decide +kernel) rfl⟩
theorem fp_7_51 : FP 7 51 .int false := ⟨_, rfl, by decide +kernel, rfl, rfl⟩
theorem mb_J0_coder_7d493 : MB mJ0_coder_7d493 0 := ⟨gw_at (i := 284) (by decide +kernel) rfl, gw_at (i := 84) (by decide +kernel) rfl, by decide, ⟨by decide, by decide⟩, by decide +kernel⟩
theorem mv_J0_335 : MV RJ0 335 mJ0_coder_7d493 0 := ⟨mb_J0_coder_7d493, gw_at (i := 281) (by decide +kernel) rfl, gw_at (i := 282) (by decide +kernel) rfl, gw_at (i := 283) (by decide +kernel) rfl⟩
theorem mb_J0_isLatin1_aae02 : MB mJ0_isLatin1_aae02 0 := ⟨gw_at (i := 294) (by decide +kernel) rfl, gw_at (i := 84) (by decide +kernel) rfl, by decide, ⟨by decide, by decide⟩, by decide +kernel⟩
theorem mv_J0_492 : MV RJ0 492 mJ0_isLatin1_aae02 0 := ⟨mb_J0_isLatin1_aae02, gw_at (i := 291) (by decide +kernel) rfl, gw_at (i := 292) (by decide +kernel) rfl, gw_at (i := 293) (by decide +kernel) rfl⟩
theorem mb_J1_charAt_3b067 : MB mJ1_charAt_3b067 2 := ⟨gw_at (i := 297) (by decide +kernel) rfl, gw_at (i := 85) (by decide +kernel) rfl, by decide, ⟨by decide, by decide⟩, by decide +kernel⟩
theorem mv_J0_495 : MS RJ0 495 mJ1_charAt_3b067 2 := ⟨mb_J1_charAt_3b067, gw_at (i := 295) (by decide +kernel) rfl, gw_at (i := 296) (by decide +kernel) rfl⟩
theorem mb_J2_charAt_3b067 : MB mJ2_charAt_3b067 2 := ⟨gw_at (i := 308) (by decide +kernel) rfl, gw_at (i := 87) (by decide +kernel) rfl, by decide, ⟨by decide, by decide⟩, by decide +kernel⟩
theorem mv_J0_498 : MS RJ0 498 mJ2_charAt_3b067 2 := ⟨mb_J2_charAt_3b067, gw_at (i := 306) (by decide +kernel) rfl, gw_at (i := 307) (by decide +kernel) rfl⟩
theorem mb_J0_length_8abf5 : MB mJ0_length_8abf5 0 := ⟨gw_at (i := 280) (by decide +kernel) rfl, gw_at (i := 84) (by decide +kernel) rfl, by decide, ⟨by decide, by decide⟩, by decide +kernel⟩
theorem mv_J0_505 : MV RJ0 505 mJ0_length_8abf5 0 := ⟨mb_J0_length_8abf5, gw_at (i := 386) (by decide +kernel) rfl, gw_at (i := 278) (by decide +kernel) rfl, gw_at (i := 279) (by decide +kernel) rfl⟩
theorem mb_J0_indexOf_7cf53 : MB mJ0_indexOf_7cf53 2 := ⟨gw_at (i := 385) (by decide +kernel) rfl, gw_at (i := 84) (by decide +kernel) rfl, by decide, ⟨by decide, by decide⟩, by decide +kernel⟩
theorem mv_J0_633 : MV RJ0 633 mJ0_indexOf_7cf53 2 := ⟨mb_J0_indexOf_7cf53, gw_at (i := 382) (by decide +kernel) rfl, gw_at (i := 383) (by decide +kernel) rfl, gw_at (i := 384) (by decide +kernel) rfl⟩
theorem mb_J1_indexOf_4cfef : MB mJ1_indexOf_4cfef 4 := ⟨gw_at (i := 389) (by decide +kernel) rfl, gw_at (i := 85) (by decide +kernel) rfl, by decide, ⟨by decide, by decide⟩, by decide +kernel⟩
theorem mv_J0_637 : MS RJ0 637 mJ1_indexOf_4cfef 4 := ⟨mb_J1_indexOf_4cfef, gw_at (i := 387) (by decide +kernel) rfl, gw_at (i := 388) (by decide +kernel) rfl⟩
theorem mb_J2_indexOf_4cfef : MB mJ2_indexOf_4cfef 4 := ⟨gw_at (i := 404) (by decide +kernel) rfl, gw_at (i := 87) (by decide +kernel) rfl, by decide, ⟨by decide, by decide⟩, by decide +kernel⟩
theorem mv_J0_640 : MS RJ0 640 mJ2_indexOf_4cfef 4 := ⟨mb_J2_indexOf_4cfef, gw_at (i := 402) (by decide +kernel) rfl, gw_at (i := 403) (by decide +kernel) rfl⟩
theorem mb_J3_checkIndex_8e157 : MB mJ3_checkIndex_8e157 3 := ⟨gw_at (i := 305) (by decide +kernel) rfl, gw_at (i := 86) (by decide +kernel) rfl, by decide, ⟨by decide, by decide⟩, by decide +kernel⟩
theorem mv_J0_1059 : MS RJ0 1059 mJ3_checkIndex_8e157 3 := ⟨mb_J3_checkIndex_8e157, gw_at (i := 303) (by decide +kernel) rfl, gw_at (i := 304) (by decide +kernel) rfl⟩
theorem mb_J3_checkFromToIndex_8c36e : MB mJ3_checkFromToIndex_8c36e 4 := ⟨gw_at (i := 419) (by decide +kernel) rfl, gw_at (i := 86) (by decide +kernel) rfl, by decide, ⟨by decide, by decide⟩, by decide +kernel⟩
theorem mv_J0_1062 : MS RJ0 1062 mJ3_checkFromToIndex_8c36e 4 := ⟨mb_J3_checkFromToIndex_8c36e, gw_at (i := 417) (by decide +kernel) rfl, gw_at (i := 418) (by decide +kernel) rfl⟩
theorem mb_J0_checkIndex_df160 : MB mJ0_checkIndex_df160 2 := ⟨gw_at (i := 300) (by decide +kernel) rfl, gw_at (i := 84) (by decide +kernel) rfl, by decide, ⟨by decide, by decide⟩, by decide +kernel⟩
theorem mv_J1_9 : MS RJ1 9 mJ0_checkIndex_df160 2 := ⟨mb_J0_checkIndex_df160, gw_at (i := 298) (by decide +kernel) rfl, gw_at (i := 299) (by decide +kernel) rfl⟩
theorem mb_J9_min_7cf53 : MB mJ9_min_7cf53 2 := ⟨gw_at (i := 398) (by decide +kernel) rfl, gw_at (i := 89) (by decide +kernel) rfl, by decide, ⟨by decide, by decide⟩, by decide +kernel⟩
theorem mv_J1_38 : MS RJ1 38 mJ9_min_7cf53 2 := ⟨mb_J9_min_7cf53, gw_at (i := 396) (by decide +kernel) rfl, gw_at (i := 397) (by decide +kernel) rfl⟩
theorem mb_J1_canEncode_9a6ad : MB mJ1_canEncode_9a6ad 1 := ⟨gw_at (i := 392) (by decide +kernel) rfl, gw_at (i := 85) (by decide +kernel) rfl, by decide, ⟨by decide, by decide⟩, by decide +kernel⟩
theorem mv_J1_88 : MS RJ1 88 mJ1_canEncode_9a6ad 1 := ⟨mb_J1_canEncode_9a6ad, gw_at (i := 390) (by decide +kernel) rfl, gw_at (i := 391) (by decide +kernel) rfl⟩
theorem mb_J9_max_7cf53 : MB mJ9_max_7cf53 2 := ⟨gw_at (i := 395) (by decide +kernel) rfl, gw_at (i := 89) (by decide +kernel) rfl, by decide, ⟨by decide, by decide⟩, by decide +kernel⟩
theorem mv_J1_92 : MS RJ1 92 mJ9_max_7cf53 2 := ⟨mb_J9_max_7cf53, gw_at (i := 393) (by decide +kernel) rfl, gw_at (i := 394) (by decide +kernel) rfl⟩
theorem mb_J1_indexOfChar_4cfef : MB mJ1_indexOfChar_4cfef 4 := ⟨gw_at (i := 401) (by decide +kernel) rfl, gw_at (i := 85) (by decide +kernel) rfl, by decide, ⟨by decide, by decide⟩, by decide +kernel⟩
theorem mv_J1_95 : MS RJ1 95 mJ1_indexOfChar_4cfef 4 := ⟨mb_J1_indexOfChar_4cfef, gw_at (i := 399) (by decide +kernel) rfl, gw_at (i := 400) (by decide +kernel) rfl⟩
theorem mb_J2_length_9d52b : MB mJ2_length_9d52b 1 := ⟨gw_at (i := 314) (by decide +kernel) rfl, gw_at (i := 87) (by decide +kernel) rfl, by decide, ⟨by decide, by decide⟩, by decide +kernel⟩
theorem mv_J2_48 : MS RJ2 48 mJ2_length_9d52b 1 := ⟨mb_J2_length_9d52b, gw_at (i := 312) (by decide +kernel) rfl, gw_at (i := 313) (by decide +kernel) rfl⟩
theorem mb_J2_checkIndex_2214a : MB mJ2_checkIndex_2214a 2 := ⟨gw_at (i := 311) (by decide +kernel) rfl, gw_at (i := 87) (by decide +kernel) rfl, by decide, ⟨by decide, by decide⟩, by decide +kernel⟩
theorem mv_J2_67 : MS RJ2 67 mJ2_checkIndex_2214a 2 := ⟨mb_J2_checkIndex_2214a, gw_at (i := 309) (by decide +kernel) rfl, gw_at (i := 310) (by decide +kernel) rfl⟩
theorem mb_J2_getChar_3b067 : MB mJ2_getChar_3b067 2 := ⟨gw_at (i := 318) (by decide +kernel) rfl, gw_at (i := 87) (by decide +kernel) rfl, by decide, ⟨by decide, by decide⟩, by decide +kernel⟩
theorem mv_J2_71 : MS RJ2 71 mJ2_getChar_3b067 2 := ⟨mb_J2_getChar_3b067, gw_at (i := 316) (by decide +kernel) rfl, gw_at (i := 317) (by decide +kernel) rfl⟩
theorem mb_J2_checkBoundsBeginEnd_d044e : MB mJ2_checkBoundsBeginEnd_d044e 3 := ⟨gw_at (i := 413) (by decide +kernel) rfl, gw_at (i := 87) (by decide +kernel) rfl, by decide, ⟨by decide, by decide⟩, by decide +kernel⟩
theorem mv_J2_96 : MS RJ2 96 mJ2_checkBoundsBeginEnd_d044e 3 := ⟨mb_J2_checkBoundsBeginEnd_d044e, gw_at (i := 411) (by decide +kernel) rfl, gw_at (i := 412) (by decide +kernel) rfl⟩
theorem mb_J11_highSurrogate_5068e : MB mJ11_highSurrogate_5068e 1 := ⟨gw_at (i := 431) (by decide +kernel) rfl, gw_at (i := 90) (by decide +kernel) rfl, by decide, ⟨by decide, by decide⟩, by decide +kernel⟩
theorem mv_J2_157 : MS RJ2 157 mJ11_highSurrogate_5068e 1 := ⟨mb_J11_highSurrogate_5068e, gw_at (i := 429) (by decide +kernel) rfl, gw_at (i := 430) (by decide +kernel) rfl⟩
theorem mb_J11_lowSurrogate_5068e : MB mJ11_lowSurrogate_5068e 1 := ⟨gw_at (i := 435) (by decide +kernel) rfl, gw_at (i := 90) (by decide +kernel) rfl, by decide, ⟨by decide, by decide⟩, by decide +kernel⟩
theorem mv_J2_161 : MS RJ2 161 mJ11_lowSurrogate_5068e 1 := ⟨mb_J11_lowSurrogate_5068e, gw_at (i := 433) (by decide +kernel) rfl, gw_at (i := 434) (by decide +kernel) rfl⟩
theorem mb_J11_isValidCodePoint_9a6ad : MB mJ11_isValidCodePoint_9a6ad 1 := ⟨gw_at (i := 428) (by decide +kernel) rfl, gw_at (i := 90) (by decide +kernel) rfl, by decide, ⟨by decide, by decide⟩, by decide +kernel⟩
theorem mv_J2_164 : MS RJ2 164 mJ11_isValidCodePoint_9a6ad 1 := ⟨mb_J11_isValidCodePoint_9a6ad, gw_at (i := 426) (by decide +kernel) rfl, gw_at (i := 427) (by decide +kernel) rfl⟩
theorem mv_J2_183 : MS RJ2 183 mJ9_min_7cf53 2 := ⟨mb_J9_min_7cf53, gw_at (i := 406) (by decide +kernel) rfl, gw_at (i := 397) (by decide +kernel) rfl⟩
theorem mv_J2_224 : MS RJ2 224 mJ9_max_7cf53 2 := ⟨mb_J9_max_7cf53, gw_at (i := 405) (by decide +kernel) rfl, gw_at (i := 394) (by decide +kernel) rfl⟩
theorem mb_J2_indexOfChar_4cfef : MB mJ2_indexOfChar_4cfef 4 := ⟨gw_at (i := 410) (by decide +kernel) rfl, gw_at (i := 87) (by decide +kernel) rfl, by decide, ⟨by decide, by decide⟩, by decide +kernel⟩
theorem mv_J2_228 : MS RJ2 228 mJ2_indexOfChar_4cfef 4 := ⟨mb_J2_indexOfChar_4cfef, gw_at (i := 408) (by decide +kernel) rfl, gw_at (i := 409) (by decide +kernel) rfl⟩
theorem mb_J2_indexOfSupplementary_4cfef : MB mJ2_indexOfSupplementary_4cfef 4 := ⟨gw_at (i := 425) (by decide +kernel) rfl, gw_at (i := 87) (by decide +kernel) rfl, by decide, ⟨by decide, by decide⟩, by decide +kernel⟩
theorem mv_J2_232 : MS RJ2 232 mJ2_indexOfSupplementary_4cfef 4 := ⟨mb_J2_indexOfSupplementary_4cfef, gw_at (i := 423) (by decide +kernel) rfl, gw_at (i := 424) (by decide +kernel) rfl⟩
theorem mb_J0_checkBoundsBeginEnd_23922 : MB mJ0_checkBoundsBeginEnd_23922 3 := ⟨gw_at (i := 416) (by decide +kernel) rfl, gw_at (i := 84) (by decide +kernel) rfl, by decide, ⟨by decide, by decide⟩, by decide +kernel⟩
theorem mv_J2_241 : MS RJ2 241 mJ0_checkBoundsBeginEnd_23922 3 := ⟨mb_J0_checkBoundsBeginEnd_23922, gw_at (i := 414) (by decide +kernel) rfl, gw_at (i := 415) (by decide +kernel) rfl⟩
theorem mb_J2_indexOfCharUnsafe_4cfef : MB mJ2_indexOfCharUnsafe_4cfef 4 := ⟨gw_at (i := 422) (by decide +kernel) rfl, gw_at (i := 87) (by decide +kernel) rfl, by decide, ⟨by decide, by decide⟩, by decide +kernel⟩
theorem mv_J2_244 : MS RJ2 244 mJ2_indexOfCharUnsafe_4cfef 4 := ⟨mb_J2_indexOfCharUnsafe_4cfef, gw_at (i := 420) (by decide +kernel) rfl, gw_at (i := 421) (by decide +kernel) rfl⟩
theorem mv_J2_414 : MS RJ2 414 mJ0_checkIndex_df160 2 := ⟨mb_J0_checkIndex_df160, gw_at (i := 315) (by decide +kernel) rfl, gw_at (i := 299) (by decide +kernel) rfl⟩
theorem mb_X7_init : MB mX7_init 0 := ⟨gw_at (i := 98) (by decide +kernel) rfl, gw_at (i := 77) (by decide +kernel) rfl, by decide, ⟨by decide, by decide⟩, by decide +kernel⟩
theorem mv_L_9 : MI RL 9 mX7_init 0 := ⟨mb_X7_init, gw_at (i := 96) (by decide +kernel) rfl, gw_at (i := 97) (by decide +kernel) rfl, rfl, rfl⟩
theorem mb_X8_init : MB mX8_init 0 := ⟨gw_at (i := 940) (by decide +kernel) rfl, gw_at (i := 91) (by decide +kernel) rfl, by decide, ⟨by decide, by decide⟩, by decide +kernel⟩
theorem mv_L_12 : MI RL 12 mX8_init 0 := ⟨mb_X8_init, gw_at (i := 938) (by decide +kernel) rfl, gw_at (i := 939) (by decide +kernel) rfl, rfl, rfl⟩
theorem mb_X7_dog : MB mX7_dog 3 := ⟨gw_at (i := 537) (by decide +kernel) rfl, gw_at (i := 77) (by decide +kernel) rfl, by decide, ⟨by decide, by decide⟩, by decide +kernel⟩
theorem mv_L_13 : MV RL 13 mX7_dog 3 := ⟨mb_X7_dog, gw_at (i := 534) (by decide +kernel) rfl, gw_at (i := 535) (by decide +kernel) rfl, gw_at (i := 536) (by decide +kernel) rfl⟩
theorem mb_X8_dog : MB mX8_dog 3 := ⟨gw_at (i := 1118) (by decide +kernel) rfl, gw_at (i := 91) (by decide +kernel) rfl, by decide, ⟨by decide, by decide⟩, by decide +kernel⟩
theorem mv_L_17 : MV RL 17 mX8_dog 3 := ⟨mb_X8_dog, gw_at (i := 1115) (by decide +kernel) rfl, gw_at (i := 1116) (by decide +kernel) rfl, gw_at (i := 1117) (by decide +kernel) rfl⟩
theorem mb_X7_set : MB mX7_set 3 := ⟨gw_at (i := 546) (by decide +kernel) rfl, gw_at (i := 77) (by decide +kernel) rfl, by decide, ⟨by decide, by decide⟩, by decide +kernel⟩
theorem mv_L_18 : MV RL 18 mX7_set 3 := ⟨mb_X7_set, gw_at (i := 543) (by decide +kernel) rfl, gw_at (i := 544) (by decide +kernel) rfl, gw_at (i := 545) (by decide +kernel) rfl⟩
theorem mb_X8_set : MB mX8_set 3 := ⟨gw_at (i := 1128) (by decide +kernel) rfl, gw_at (i := 91) (by decide +kernel) rfl, by decide, ⟨by decide, by decide⟩, by decide +kernel⟩
theorem mv_L_21 : MV RL 21 mX8_set 3 := ⟨mb_X8_set, gw_at (i := 1125) (by decide +kernel) rfl, gw_at (i := 1126) (by decide +kernel) rfl, gw_at (i := 1127) (by decide +kernel) rfl⟩
theorem mb_X7_told : MB mX7_told 2 := ⟨gw_at (i := 557) (by decide +kernel) rfl, gw_at (i := 77) (by decide +kernel) rfl, by decide, ⟨by decide, by decide⟩, by decide +kernel⟩
theorem mv_L_22 : MV RL 22 mX7_told 2 := ⟨mb_X7_told, gw_at (i := 554) (by decide +kernel) rfl, gw_at (i := 555) (by decide +kernel) rfl, gw_at (i := 556) (by decide +kernel) rfl⟩
theorem mb_X8_told : MB mX8_told 2 := ⟨gw_at (i := 1138) (by decide +kernel) rfl, gw_at (i := 91) (by decide +kernel) rfl, by decide, ⟨by decide, by decide⟩, by decide +kernel⟩
theorem mv_L_26 : MV RL 26 mX8_told 2 := ⟨mb_X8_told, gw_at (i := 1135) (by decide +kernel) rfl, gw_at (i := 1136) (by decide +kernel) rfl, gw_at (i := 1137) (by decide +kernel) rfl⟩
theorem mb_X7_asks : MB mX7_asks 3 := ⟨gw_at (i := 574) (by decide +kernel) rfl, gw_at (i := 77) (by decide +kernel) rfl, by decide, ⟨by decide, by decide⟩, by decide +kernel⟩
theorem mv_L_27 : MV RL 27 mX7_asks 3 := ⟨mb_X7_asks, gw_at (i := 571) (by decide +kernel) rfl, gw_at (i := 572) (by decide +kernel) rfl, gw_at (i := 573) (by decide +kernel) rfl⟩
theorem mb_X8_asks : MB mX8_asks 3 := ⟨gw_at (i := 1233) (by decide +kernel) rfl, gw_at (i := 91) (by decide +kernel) rfl, by decide, ⟨by decide, by decide⟩, by decide +kernel⟩
theorem mv_L_30 : MV RL 30 mX8_asks 3 := ⟨mb_X8_asks, gw_at (i := 1230) (by decide +kernel) rfl, gw_at (i := 1231) (by decide +kernel) rfl, gw_at (i := 1232) (by decide +kernel) rfl⟩
theorem mb_X7_feed : MB mX7_feed 1 := ⟨gw_at (i := 615) (by decide +kernel) rfl, gw_at (i := 77) (by decide +kernel) rfl, by decide, ⟨by decide, by decide⟩, by decide +kernel⟩
theorem mv_L_31 : MV RL 31 mX7_feed 1 := ⟨mb_X7_feed, gw_at (i := 612) (by decide +kernel) rfl, gw_at (i := 613) (by decide +kernel) rfl, gw_at (i := 614) (by decide +kernel) rfl⟩
theorem mb_X8_feed : MB mX8_feed 1 := ⟨gw_at (i := 1150) (by decide +kernel) rfl, gw_at (i := 91) (by decide +kernel) rfl, by decide, ⟨by decide, by decide⟩, by decide +kernel⟩
theorem mv_L_35 : MV RL 35 mX8_feed 1 := ⟨mb_X8_feed, gw_at (i := 1147) (by decide +kernel) rfl, gw_at (i := 1148) (by decide +kernel) rfl, gw_at (i := 1149) (by decide +kernel) rfl⟩
theorem mb_X7_text : MB mX7_text 0 := ⟨gw_at (i := 619) (by decide +kernel) rfl, gw_at (i := 77) (by decide +kernel) rfl, by decide, ⟨by decide, by decide⟩, by decide +kernel⟩
theorem mv_L_36 : MV RL 36 mX7_text 0 := ⟨mb_X7_text, gw_at (i := 616) (by decide +kernel) rfl, gw_at (i := 617) (by decide +kernel) rfl, gw_at (i := 618) (by decide +kernel) rfl⟩
theorem mb_X8_text : MB mX8_text 0 := ⟨gw_at (i := 1155) (by decide +kernel) rfl, gw_at (i := 91) (by decide +kernel) rfl, by decide, ⟨by decide, by decide⟩, by decide +kernel⟩
theorem mv_L_40 : MV RL 40 mX8_text 0 := ⟨mb_X8_text, gw_at (i := 1152) (by decide +kernel) rfl, gw_at (i := 1153) (by decide +kernel) rfl, gw_at (i := 1154) (by decide +kernel) rfl⟩
theorem mb_X7_force : MB mX7_force 1 := ⟨gw_at (i := 623) (by decide +kernel) rfl, gw_at (i := 77) (by decide +kernel) rfl, by decide, ⟨by decide, by decide⟩, by decide +kernel⟩
theorem mv_L_41 : MV RL 41 mX7_force 1 := ⟨mb_X7_force, gw_at (i := 620) (by decide +kernel) rfl, gw_at (i := 621) (by decide +kernel) rfl, gw_at (i := 622) (by decide +kernel) rfl⟩
theorem mb_X8_force : MB mX8_force 1 := ⟨gw_at (i := 1229) (by decide +kernel) rfl, gw_at (i := 91) (by decide +kernel) rfl, by decide, ⟨by decide, by decide⟩, by decide +kernel⟩
theorem mv_L_44 : MV RL 44 mX8_force 1 := ⟨mb_X8_force, gw_at (i := 1226) (by decide +kernel) rfl, gw_at (i := 1227) (by decide +kernel) rfl, gw_at (i := 1228) (by decide +kernel) rfl⟩
theorem mb_X7_cross : MB mX7_cross 2 := ⟨gw_at (i := 627) (by decide +kernel) rfl, gw_at (i := 77) (by decide +kernel) rfl, by decide, ⟨by decide, by decide⟩, by decide +kernel⟩
theorem mv_L_45 : MV RL 45 mX7_cross 2 := ⟨mb_X7_cross, gw_at (i := 624) (by decide +kernel) rfl, gw_at (i := 625) (by decide +kernel) rfl, gw_at (i := 626) (by decide +kernel) rfl⟩
theorem mb_X8_cross : MB mX8_cross 2 := ⟨gw_at (i := 1252) (by decide +kernel) rfl, gw_at (i := 91) (by decide +kernel) rfl, by decide, ⟨by decide, by decide⟩, by decide +kernel⟩
theorem mv_L_48 : MV RL 48 mX8_cross 2 := ⟨mb_X8_cross, gw_at (i := 1249) (by decide +kernel) rfl, gw_at (i := 1250) (by decide +kernel) rfl, gw_at (i := 1251) (by decide +kernel) rfl⟩
theorem mb_X7_undo : MB mX7_undo 0 := ⟨gw_at (i := 647) (by decide +kernel) rfl, gw_at (i := 77) (by decide +kernel) rfl, by decide, ⟨by decide, by decide⟩, by decide +kernel⟩
theorem mv_L_49 : MV RL 49 mX7_undo 0 := ⟨mb_X7_undo, gw_at (i := 644) (by decide +kernel) rfl, gw_at (i := 645) (by decide +kernel) rfl, gw_at (i := 646) (by decide +kernel) rfl⟩
theorem mb_X8_undo : MB mX8_undo 0 := ⟨gw_at (i := 1260) (by decide +kernel) rfl, gw_at (i := 91) (by decide +kernel) rfl, by decide, ⟨by decide, by decide⟩, by decide +kernel⟩
theorem mv_L_52 : MV RL 52 mX8_undo 0 := ⟨mb_X8_undo, gw_at (i := 1257) (by decide +kernel) rfl, gw_at (i := 1258) (by decide +kernel) rfl, gw_at (i := 1259) (by decide +kernel) rfl⟩
theorem mb_X7_comb : MB mX7_comb 0 := ⟨gw_at (i := 651) (by decide +kernel) rfl, gw_at (i := 77) (by decide +kernel) rfl, by decide, ⟨by decide, by decide⟩, by decide +kernel⟩
theorem mv_L_53 : MV RL 53 mX7_comb 0 := ⟨mb_X7_comb, gw_at (i := 648) (by decide +kernel) rfl, gw_at (i := 649) (by decide +kernel) rfl, gw_at (i := 650) (by decide +kernel) rfl⟩
theorem mb_X8_comb : MB mX8_comb 0 := ⟨gw_at (i := 1264) (by decide +kernel) rfl, gw_at (i := 91) (by decide +kernel) rfl, by decide, ⟨by decide, by decide⟩, by decide +kernel⟩
theorem mv_L_56 : MV RL 56 mX8_comb 0 := ⟨mb_X8_comb, gw_at (i := 1261) (by decide +kernel) rfl, gw_at (i := 1262) (by decide +kernel) rfl, gw_at (i := 1263) (by decide +kernel) rfl⟩
theorem mb_X7_at : MB mX7_at 1 := ⟨gw_at (i := 681) (by decide +kernel) rfl, gw_at (i := 77) (by decide +kernel) rfl, by decide, ⟨by decide, by decide⟩, by decide +kernel⟩
theorem mv_L_57 : MV RL 57 mX7_at 1 := ⟨mb_X7_at, gw_at (i := 678) (by decide +kernel) rfl, gw_at (i := 679) (by decide +kernel) rfl, gw_at (i := 680) (by decide +kernel) rfl⟩
theorem mb_X8_at : MB mX8_at 1 := ⟨gw_at (i := 1276) (by decide +kernel) rfl, gw_at (i := 91) (by decide +kernel) rfl, by decide, ⟨by decide, by decide⟩, by decide +kernel⟩
theorem mv_L_60 : MV RL 60 mX8_at 1 := ⟨mb_X8_at, gw_at (i := 1273) (by decide +kernel) rfl, gw_at (i := 1274) (by decide +kernel) rfl, gw_at (i := 1275) (by decide +kernel) rfl⟩
theorem mb_X7_left : MB mX7_left 1 := ⟨gw_at (i := 685) (by decide +kernel) rfl, gw_at (i := 77) (by decide +kernel) rfl, by decide, ⟨by decide, by decide⟩, by decide +kernel⟩
theorem mv_L_61 : MV RL 61 mX7_left 1 := ⟨mb_X7_left, gw_at (i := 682) (by decide +kernel) rfl, gw_at (i := 683) (by decide +kernel) rfl, gw_at (i := 684) (by decide +kernel) rfl⟩
theorem mb_X8_left : MB mX8_left 1 := ⟨gw_at (i := 1280) (by decide +kernel) rfl, gw_at (i := 91) (by decide +kernel) rfl, by decide, ⟨by decide, by decide⟩, by decide +kernel⟩
theorem mv_L_64 : MV RL 64 mX8_left 1 := ⟨mb_X8_left, gw_at (i := 1277) (by decide +kernel) rfl, gw_at (i := 1278) (by decide +kernel) rfl, gw_at (i := 1279) (by decide +kernel) rfl⟩
theorem mb_X7_who : MB mX7_who 2 := ⟨gw_at (i := 689) (by decide +kernel) rfl, gw_at (i := 77) (by decide +kernel) rfl, by decide, ⟨by decide, by decide⟩, by decide +kernel⟩
theorem mv_L_65 : MV RL 65 mX7_who 2 := ⟨mb_X7_who, gw_at (i := 686) (by decide +kernel) rfl, gw_at (i := 687) (by decide +kernel) rfl, gw_at (i := 688) (by decide +kernel) rfl⟩
theorem mb_X8_who : MB mX8_who 2 := ⟨gw_at (i := 1284) (by decide +kernel) rfl, gw_at (i := 91) (by decide +kernel) rfl, by decide, ⟨by decide, by decide⟩, by decide +kernel⟩
theorem mv_L_68 : MV RL 68 mX8_who 2 := ⟨mb_X8_who, gw_at (i := 1281) (by decide +kernel) rfl, gw_at (i := 1282) (by decide +kernel) rfl, gw_at (i := 1283) (by decide +kernel) rfl⟩
theorem mb_X7_without : MB mX7_without 1 := ⟨gw_at (i := 699) (by decide +kernel) rfl, gw_at (i := 77) (by decide +kernel) rfl, by decide, ⟨by decide, by decide⟩, by decide +kernel⟩
theorem mv_L_69 : MV RL 69 mX7_without 1 := ⟨mb_X7_without, gw_at (i := 696) (by decide +kernel) rfl, gw_at (i := 697) (by decide +kernel) rfl, gw_at (i := 698) (by decide +kernel) rfl⟩
theorem mb_X8_without : MB mX8_without 1 := ⟨gw_at (i := 1288) (by decide +kernel) rfl, gw_at (i := 91) (by decide +kernel) rfl, by decide, ⟨by decide, by decide⟩, by decide +kernel⟩
theorem mv_L_72 : MV RL 72 mX8_without 1 := ⟨mb_X8_without, gw_at (i := 1285) (by decide +kernel) rfl, gw_at (i := 1286) (by decide +kernel) rfl, gw_at (i := 1287) (by decide +kernel) rfl⟩
theorem mb_X7_unclip : MB mX7_unclip 1 := ⟨gw_at (i := 717) (by decide +kernel) rfl, gw_at (i := 77) (by decide +kernel) rfl, by decide, ⟨by decide, by decide⟩, by decide +kernel⟩
theorem mv_L_73 : MV RL 73 mX7_unclip 1 := ⟨mb_X7_unclip, gw_at (i := 714) (by decide +kernel) rfl, gw_at (i := 715) (by decide +kernel) rfl, gw_at (i := 716) (by decide +kernel) rfl⟩
theorem mb_X8_unclip : MB mX8_unclip 1 := ⟨gw_at (i := 1292) (by decide +kernel) rfl, gw_at (i := 91) (by decide +kernel) rfl, by decide, ⟨by decide, by decide⟩, by decide +kernel⟩
theorem mv_L_76 : MV RL 76 mX8_unclip 1 := ⟨mb_X8_unclip, gw_at (i := 1289) (by decide +kernel) rfl, gw_at (i := 1290) (by decide +kernel) rfl, gw_at (i := 1291) (by decide +kernel) rfl⟩
theorem mb_X7_cost : MB mX7_cost 0 := ⟨gw_at (i := 721) (by decide +kernel) rfl, gw_at (i := 77) (by decide +kernel) rfl, by decide, ⟨by decide, by decide⟩, by decide +kernel⟩
theorem mv_L_77 : MV RL 77 mX7_cost 0 := ⟨mb_X7_cost, gw_at (i := 718) (by decide +kernel) rfl, gw_at (i := 719) (by decide +kernel) rfl, gw_at (i := 720) (by decide +kernel) rfl⟩
theorem mb_X8_cost : MB mX8_cost 0 := ⟨gw_at (i := 1299) (by decide +kernel) rfl, gw_at (i := 91) (by decide +kernel) rfl, by decide, ⟨by decide, by decide⟩, by decide +kernel⟩
theorem mv_L_80 : MV RL 80 mX8_cost 0 := ⟨mb_X8_cost, gw_at (i := 1296) (by decide +kernel) rfl, gw_at (i := 1297) (by decide +kernel) rfl, gw_at (i := 1298) (by decide +kernel) rfl⟩
theorem mb_X7_atOdds : MB mX7_atOdds 1 := ⟨gw_at (i := 725) (by decide +kernel) rfl, gw_at (i := 77) (by decide +kernel) rfl, by decide, ⟨by decide, by decide⟩, by decide +kernel⟩
theorem mv_L_81 : MV RL 81 mX7_atOdds 1 := ⟨mb_X7_atOdds, gw_at (i := 722) (by decide +kernel) rfl, gw_at (i := 723) (by decide +kernel) rfl, gw_at (i := 724) (by decide +kernel) rfl⟩
theorem mb_X8_atOdds : MB mX8_atOdds 1 := ⟨gw_at (i := 1303) (by decide +kernel) rfl, gw_at (i := 91) (by decide +kernel) rfl, by decide, ⟨by decide, by decide⟩, by decide +kernel⟩
theorem mv_L_84 : MV RL 84 mX8_atOdds 1 := ⟨mb_X8_atOdds, gw_at (i := 1300) (by decide +kernel) rfl, gw_at (i := 1301) (by decide +kernel) rfl, gw_at (i := 1302) (by decide +kernel) rfl⟩
theorem mb_X7_best : MB mX7_best 1 := ⟨gw_at (i := 764) (by decide +kernel) rfl, gw_at (i := 77) (by decide +kernel) rfl, by decide, ⟨by decide, by decide⟩, by decide +kernel⟩
theorem mv_L_85 : MV RL 85 mX7_best 1 := ⟨mb_X7_best, gw_at (i := 761) (by decide +kernel) rfl, gw_at (i := 762) (by decide +kernel) rfl, gw_at (i := 763) (by decide +kernel) rfl⟩
theorem mb_X8_best : MB mX8_best 1 := ⟨gw_at (i := 1319) (by decide +kernel) rfl, gw_at (i := 91) (by decide +kernel) rfl, by decide, ⟨by decide, by decide⟩, by decide +kernel⟩
theorem mv_L_88 : MV RL 88 mX8_best 1 := ⟨mb_X8_best, gw_at (i := 1316) (by decide +kernel) rfl, gw_at (i := 1317) (by decide +kernel) rfl, gw_at (i := 1318) (by decide +kernel) rfl⟩
theorem mb_X7_swaps : MB mX7_swaps 1 := ⟨gw_at (i := 768) (by decide +kernel) rfl, gw_at (i := 77) (by decide +kernel) rfl, by decide, ⟨by decide, by decide⟩, by decide +kernel⟩
theorem mv_L_89 : MV RL 89 mX7_swaps 1 := ⟨mb_X7_swaps, gw_at (i := 765) (by decide +kernel) rfl, gw_at (i := 766) (by decide +kernel) rfl, gw_at (i := 767) (by decide +kernel) rfl⟩
theorem mb_X8_swaps : MB mX8_swaps 1 := ⟨gw_at (i := 1323) (by decide +kernel) rfl, gw_at (i := 91) (by decide +kernel) rfl, by decide, ⟨by decide, by decide⟩, by decide +kernel⟩
theorem mv_L_92 : MV RL 92 mX8_swaps 1 := ⟨mb_X8_swaps, gw_at (i := 1320) (by decide +kernel) rfl, gw_at (i := 1321) (by decide +kernel) rfl, gw_at (i := 1322) (by decide +kernel) rfl⟩
theorem mb_X7_post : MB mX7_post 2 := ⟨gw_at (i := 779) (by decide +kernel) rfl, gw_at (i := 77) (by decide +kernel) rfl, by decide, ⟨by decide, by decide⟩, by decide +kernel⟩
theorem mv_L_93 : MV RL 93 mX7_post 2 := ⟨mb_X7_post, gw_at (i := 776) (by decide +kernel) rfl, gw_at (i := 777) (by decide +kernel) rfl, gw_at (i := 778) (by decide +kernel) rfl⟩
theorem mb_X8_post : MB mX8_post 2 := ⟨gw_at (i := 1335) (by decide +kernel) rfl, gw_at (i := 91) (by decide +kernel) rfl, by decide, ⟨by decide, by decide⟩, by decide +kernel⟩
theorem mv_L_96 : MV RL 96 mX8_post 2 := ⟨mb_X8_post, gw_at (i := 1332) (by decide +kernel) rfl, gw_at (i := 1333) (by decide +kernel) rfl, gw_at (i := 1334) (by decide +kernel) rfl⟩
theorem mb_X7_bestPost : MB mX7_bestPost 1 := ⟨gw_at (i := 799) (by decide +kernel) rfl, gw_at (i := 77) (by decide +kernel) rfl, by decide, ⟨by decide, by decide⟩, by decide +kernel⟩
theorem mv_L_97 : MV RL 97 mX7_bestPost 1 := ⟨mb_X7_bestPost, gw_at (i := 796) (by decide +kernel) rfl, gw_at (i := 797) (by decide +kernel) rfl, gw_at (i := 798) (by decide +kernel) rfl⟩
theorem mb_X8_bestPost : MB mX8_bestPost 1 := ⟨gw_at (i := 1351) (by decide +kernel) rfl, gw_at (i := 91) (by decide +kernel) rfl, by decide, ⟨by decide, by decide⟩, by decide +kernel⟩
theorem mv_L_100 : MV RL 100 mX8_bestPost 1 := ⟨mb_X8_bestPost, gw_at (i := 1348) (by decide +kernel) rfl, gw_at (i := 1349) (by decide +kernel) rfl, gw_at (i := 1350) (by decide +kernel) rfl⟩
theorem mb_X7_seen : MB mX7_seen 3 := ⟨gw_at (i := 803) (by decide +kernel) rfl, gw_at (i := 77) (by decide +kernel) rfl, by decide, ⟨by decide, by decide⟩, by decide +kernel⟩
theorem mv_L_101 : MV RL 101 mX7_seen 3 := ⟨mb_X7_seen, gw_at (i := 800) (by decide +kernel) rfl, gw_at (i := 801) (by decide +kernel) rfl, gw_at (i := 802) (by decide +kernel) rfl⟩
theorem mb_X8_seen : MB mX8_seen 3 := ⟨gw_at (i := 1355) (by decide +kernel) rfl, gw_at (i := 91) (by decide +kernel) rfl, by decide, ⟨by decide, by decide⟩, by decide +kernel⟩
theorem mv_L_104 : MV RL 104 mX8_seen 3 := ⟨mb_X8_seen, gw_at (i := 1352) (by decide +kernel) rfl, gw_at (i := 1353) (by decide +kernel) rfl, gw_at (i := 1354) (by decide +kernel) rfl⟩
theorem mb_X7_fetch : MB mX7_fetch 0 := ⟨gw_at (i := 823) (by decide +kernel) rfl, gw_at (i := 77) (by decide +kernel) rfl, by decide, ⟨by decide, by decide⟩, by decide +kernel⟩
theorem mv_L_105 : MV RL 105 mX7_fetch 0 := ⟨mb_X7_fetch, gw_at (i := 820) (by decide +kernel) rfl, gw_at (i := 821) (by decide +kernel) rfl, gw_at (i := 822) (by decide +kernel) rfl⟩
theorem mb_X8_fetch : MB mX8_fetch 0 := ⟨gw_at (i := 1364) (by decide +kernel) rfl, gw_at (i := 91) (by decide +kernel) rfl, by decide, ⟨by decide, by decide⟩, by decide +kernel⟩
theorem mv_L_108 : MV RL 108 mX8_fetch 0 := ⟨mb_X8_fetch, gw_at (i := 1361) (by decide +kernel) rfl, gw_at (i := 1362) (by decide +kernel) rfl, gw_at (i := 1363) (by decide +kernel) rfl⟩
theorem mb_X7_fetched : MB mX7_fetched 1 := ⟨gw_at (i := 836) (by decide +kernel) rfl, gw_at (i := 77) (by decide +kernel) rfl, by decide, ⟨by decide, by decide⟩, by decide +kernel⟩
theorem mv_L_109 : MV RL 109 mX7_fetched 1 := ⟨mb_X7_fetched, gw_at (i := 833) (by decide +kernel) rfl, gw_at (i := 834) (by decide +kernel) rfl, gw_at (i := 835) (by decide +kernel) rfl⟩
theorem mb_X8_fetched : MB mX8_fetched 1 := ⟨gw_at (i := 1376) (by decide +kernel) rfl, gw_at (i := 91) (by decide +kernel) rfl, by decide, ⟨by decide, by decide⟩, by decide +kernel⟩
theorem mv_L_112 : MV RL 112 mX8_fetched 1 := ⟨mb_X8_fetched, gw_at (i := 1373) (by decide +kernel) rfl, gw_at (i := 1374) (by decide +kernel) rfl, gw_at (i := 1375) (by decide +kernel) rfl⟩
theorem mb_X7_walk : MB mX7_walk 0 := ⟨gw_at (i := 840) (by decide +kernel) rfl, gw_at (i := 77) (by decide +kernel) rfl, by decide, ⟨by decide, by decide⟩, by decide +kernel⟩
theorem mv_L_113 : MV RL 113 mX7_walk 0 := ⟨mb_X7_walk, gw_at (i := 837) (by decide +kernel) rfl, gw_at (i := 838) (by decide +kernel) rfl, gw_at (i := 839) (by decide +kernel) rfl⟩
theorem mb_X8_walk : MB mX8_walk 0 := ⟨gw_at (i := 1380) (by decide +kernel) rfl, gw_at (i := 91) (by decide +kernel) rfl, by decide, ⟨by decide, by decide⟩, by decide +kernel⟩
theorem mv_L_116 : MV RL 116 mX8_walk 0 := ⟨mb_X8_walk, gw_at (i := 1377) (by decide +kernel) rfl, gw_at (i := 1378) (by decide +kernel) rfl, gw_at (i := 1379) (by decide +kernel) rfl⟩
theorem mb_X7_take : MB mX7_take 1 := ⟨gw_at (i := 844) (by decide +kernel) rfl, gw_at (i := 77) (by decide +kernel) rfl, by decide, ⟨by decide, by decide⟩, by decide +kernel⟩
theorem mv_L_117 : MV RL 117 mX7_take 1 := ⟨mb_X7_take, gw_at (i := 841) (by decide +kernel) rfl, gw_at (i := 842) (by decide +kernel) rfl, gw_at (i := 843) (by decide +kernel) rfl⟩
theorem mb_X8_take : MB mX8_take 1 := ⟨gw_at (i := 1384) (by decide +kernel) rfl, gw_at (i := 91) (by decide +kernel) rfl, by decide, ⟨by decide, by decide⟩, by decide +kernel⟩
theorem mv_L_120 : MV RL 120 mX8_take 1 := ⟨mb_X8_take, gw_at (i := 1381) (by decide +kernel) rfl, gw_at (i := 1382) (by decide +kernel) rfl, gw_at (i := 1383) (by decide +kernel) rfl⟩
theorem mb_X7_drawn : MB mX7_drawn 2 := ⟨gw_at (i := 856) (by decide +kernel) rfl, gw_at (i := 77) (by decide +kernel) rfl, by decide, ⟨by decide, by decide⟩, by decide +kernel⟩
theorem mv_L_121 : MV RL 121 mX7_drawn 2 := ⟨mb_X7_drawn, gw_at (i := 853) (by decide +kernel) rfl, gw_at (i := 854) (by decide +kernel) rfl, gw_at (i := 855) (by decide +kernel) rfl⟩
theorem mb_X8_drawn : MB mX8_drawn 2 := ⟨gw_at (i := 1388) (by decide +kernel) rfl, gw_at (i := 91) (by decide +kernel) rfl, by decide, ⟨by decide, by decide⟩, by decide +kernel⟩
theorem mv_L_124 : MV RL 124 mX8_drawn 2 := ⟨mb_X8_drawn, gw_at (i := 1385) (by decide +kernel) rfl, gw_at (i := 1386) (by decide +kernel) rfl, gw_at (i := 1387) (by decide +kernel) rfl⟩
theorem mb_X7_chance : MB mX7_chance 5 := ⟨gw_at (i := 865) (by decide +kernel) rfl, gw_at (i := 77) (by decide +kernel) rfl, by decide, ⟨by decide, by decide⟩, by decide +kernel⟩
theorem mv_L_125 : MV RL 125 mX7_chance 5 := ⟨mb_X7_chance, gw_at (i := 862) (by decide +kernel) rfl, gw_at (i := 863) (by decide +kernel) rfl, gw_at (i := 864) (by decide +kernel) rfl⟩
theorem mb_X8_chance : MB mX8_chance 5 := ⟨gw_at (i := 1394) (by decide +kernel) rfl, gw_at (i := 91) (by decide +kernel) rfl, by decide, ⟨by decide, by decide⟩, by decide +kernel⟩
theorem mv_L_129 : MV RL 129 mX8_chance 5 := ⟨mb_X8_chance, gw_at (i := 1391) (by decide +kernel) rfl, gw_at (i := 1392) (by decide +kernel) rfl, gw_at (i := 1393) (by decide +kernel) rfl⟩
theorem mb_X7_image : MB mX7_image 0 := ⟨gw_at (i := 873) (by decide +kernel) rfl, gw_at (i := 77) (by decide +kernel) rfl, by decide, ⟨by decide, by decide⟩, by decide +kernel⟩
theorem mv_L_130 : MV RL 130 mX7_image 0 := ⟨mb_X7_image, gw_at (i := 870) (by decide +kernel) rfl, gw_at (i := 871) (by decide +kernel) rfl, gw_at (i := 872) (by decide +kernel) rfl⟩
theorem mb_X8_image : MB mX8_image 0 := ⟨gw_at (i := 1401) (by decide +kernel) rfl, gw_at (i := 91) (by decide +kernel) rfl, by decide, ⟨by decide, by decide⟩, by decide +kernel⟩
theorem mv_L_133 : MV RL 133 mX8_image 0 := ⟨mb_X8_image, gw_at (i := 1398) (by decide +kernel) rfl, gw_at (i := 1399) (by decide +kernel) rfl, gw_at (i := 1400) (by decide +kernel) rfl⟩
theorem mb_X7_back : MB mX7_back 0 := ⟨gw_at (i := 882) (by decide +kernel) rfl, gw_at (i := 77) (by decide +kernel) rfl, by decide, ⟨by decide, by decide⟩, by decide +kernel⟩
theorem mv_L_134 : MV RL 134 mX7_back 0 := ⟨mb_X7_back, gw_at (i := 879) (by decide +kernel) rfl, gw_at (i := 880) (by decide +kernel) rfl, gw_at (i := 881) (by decide +kernel) rfl⟩
theorem mb_X8_back : MB mX8_back 0 := ⟨gw_at (i := 1405) (by decide +kernel) rfl, gw_at (i := 91) (by decide +kernel) rfl, by decide, ⟨by decide, by decide⟩, by decide +kernel⟩
theorem mv_L_137 : MV RL 137 mX8_back 0 := ⟨mb_X8_back, gw_at (i := 1402) (by decide +kernel) rfl, gw_at (i := 1403) (by decide +kernel) rfl, gw_at (i := 1404) (by decide +kernel) rfl⟩
theorem mb_X7_count : MB mX7_count 1 := ⟨gw_at (i := 886) (by decide +kernel) rfl, gw_at (i := 77) (by decide +kernel) rfl, by decide, ⟨by decide, by decide⟩, by decide +kernel⟩
theorem mv_L_138 : MV RL 138 mX7_count 1 := ⟨mb_X7_count, gw_at (i := 883) (by decide +kernel) rfl, gw_at (i := 884) (by decide +kernel) rfl, gw_at (i := 885) (by decide +kernel) rfl⟩
theorem mb_X8_count : MB mX8_count 1 := ⟨gw_at (i := 1409) (by decide +kernel) rfl, gw_at (i := 91) (by decide +kernel) rfl, by decide, ⟨by decide, by decide⟩, by decide +kernel⟩
theorem mv_L_141 : MV RL 141 mX8_count 1 := ⟨mb_X8_count, gw_at (i := 1406) (by decide +kernel) rfl, gw_at (i := 1407) (by decide +kernel) rfl, gw_at (i := 1408) (by decide +kernel) rfl⟩
theorem mb_X7_sheet : MB mX7_sheet 3 := ⟨gw_at (i := 890) (by decide +kernel) rfl, gw_at (i := 77) (by decide +kernel) rfl, by decide, ⟨by decide, by decide⟩, by decide +kernel⟩
theorem mv_L_142 : MV RL 142 mX7_sheet 3 := ⟨mb_X7_sheet, gw_at (i := 887) (by decide +kernel) rfl, gw_at (i := 888) (by decide +kernel) rfl, gw_at (i := 889) (by decide +kernel) rfl⟩
theorem mb_X8_sheet : MB mX8_sheet 3 := ⟨gw_at (i := 1413) (by decide +kernel) rfl, gw_at (i := 91) (by decide +kernel) rfl, by decide, ⟨by decide, by decide⟩, by decide +kernel⟩
theorem mv_L_145 : MV RL 145 mX8_sheet 3 := ⟨mb_X8_sheet, gw_at (i := 1410) (by decide +kernel) rfl, gw_at (i := 1411) (by decide +kernel) rfl, gw_at (i := 1412) (by decide +kernel) rfl⟩
theorem mb_X7_cell : MB mX7_cell 3 := ⟨gw_at (i := 900) (by decide +kernel) rfl, gw_at (i := 77) (by decide +kernel) rfl, by decide, ⟨by decide, by decide⟩, by decide +kernel⟩
theorem mv_L_146 : MV RL 146 mX7_cell 3 := ⟨mb_X7_cell, gw_at (i := 897) (by decide +kernel) rfl, gw_at (i := 898) (by decide +kernel) rfl, gw_at (i := 899) (by decide +kernel) rfl⟩
theorem mb_X8_cell : MB mX8_cell 3 := ⟨gw_at (i := 1418) (by decide +kernel) rfl, gw_at (i := 91) (by decide +kernel) rfl, by decide, ⟨by decide, by decide⟩, by decide +kernel⟩
theorem mv_L_149 : MV RL 149 mX8_cell 3 := ⟨mb_X8_cell, gw_at (i := 1415) (by decide +kernel) rfl, gw_at (i := 1416) (by decide +kernel) rfl, gw_at (i := 1417) (by decide +kernel) rfl⟩
theorem mb_X7_copy : MB mX7_copy 5 := ⟨gw_at (i := 914) (by decide +kernel) rfl, gw_at (i := 77) (by decide +kernel) rfl, by decide, ⟨by decide, by decide⟩, by decide +kernel⟩
theorem mv_L_150 : MV RL 150 mX7_copy 5 := ⟨mb_X7_copy, gw_at (i := 911) (by decide +kernel) rfl, gw_at (i := 912) (by decide +kernel) rfl, gw_at (i := 913) (by decide +kernel) rfl⟩
theorem mb_X8_copy : MB mX8_copy 5 := ⟨gw_at (i := 1422) (by decide +kernel) rfl, gw_at (i := 91) (by decide +kernel) rfl, by decide, ⟨by decide, by decide⟩, by decide +kernel⟩
theorem mv_L_154 : MV RL 154 mX8_copy 5 := ⟨mb_X8_copy, gw_at (i := 1419) (by decide +kernel) rfl, gw_at (i := 1420) (by decide +kernel) rfl, gw_at (i := 1421) (by decide +kernel) rfl⟩
theorem mb_X7_crossings : MB mX7_crossings 4 := ⟨gw_at (i := 925) (by decide +kernel) rfl, gw_at (i := 77) (by decide +kernel) rfl, by decide, ⟨by decide, by decide⟩, by decide +kernel⟩
theorem mv_L_155 : MV RL 155 mX7_crossings 4 := ⟨mb_X7_crossings, gw_at (i := 922) (by decide +kernel) rfl, gw_at (i := 923) (by decide +kernel) rfl, gw_at (i := 924) (by decide +kernel) rfl⟩
theorem mb_X8_crossings : MB mX8_crossings 4 := ⟨gw_at (i := 1426) (by decide +kernel) rfl, gw_at (i := 91) (by decide +kernel) rfl, by decide, ⟨by decide, by decide⟩, by decide +kernel⟩
theorem mv_L_159 : MV RL 159 mX8_crossings 4 := ⟨mb_X8_crossings, gw_at (i := 1423) (by decide +kernel) rfl, gw_at (i := 1424) (by decide +kernel) rfl, gw_at (i := 1425) (by decide +kernel) rfl⟩
theorem mb_X7_taken : MB mX7_taken 2 := ⟨gw_at (i := 930) (by decide +kernel) rfl, gw_at (i := 77) (by decide +kernel) rfl, by decide, ⟨by decide, by decide⟩, by decide +kernel⟩
theorem mv_L_160 : MV RL 160 mX7_taken 2 := ⟨mb_X7_taken, gw_at (i := 927) (by decide +kernel) rfl, gw_at (i := 928) (by decide +kernel) rfl, gw_at (i := 929) (by decide +kernel) rfl⟩
theorem mb_X8_taken : MB mX8_taken 2 := ⟨gw_at (i := 1431) (by decide +kernel) rfl, gw_at (i := 91) (by decide +kernel) rfl, by decide, ⟨by decide, by decide⟩, by decide +kernel⟩
theorem mv_L_163 : MV RL 163 mX8_taken 2 := ⟨mb_X8_taken, gw_at (i := 1428) (by decide +kernel) rfl, gw_at (i := 1429) (by decide +kernel) rfl, gw_at (i := 1430) (by decide +kernel) rfl⟩
theorem mv_X0_31 : MS RX0 31 mJ9_min_7cf53 2 := ⟨mb_J9_min_7cf53, gw_at (i := 738) (by decide +kernel) rfl, gw_at (i := 397) (by decide +kernel) rfl⟩
theorem mv_X0_37 : MS RX0 37 mJ9_max_7cf53 2 := ⟨mb_J9_max_7cf53, gw_at (i := 739) (by decide +kernel) rfl, gw_at (i := 394) (by decide +kernel) rfl⟩
theorem mb_X0_slot : MB mX0_slot 3 := ⟨gw_at (i := 746) (by decide +kernel) rfl, gw_at (i := 80) (by decide +kernel) rfl, by decide, ⟨by decide, by decide⟩, by decide +kernel⟩
theorem mv_X0_40 : MS RX0 40 mX0_slot 3 := ⟨mb_X0_slot, gw_at (i := 744) (by decide +kernel) rfl, gw_at (i := 745) (by decide +kernel) rfl⟩
theorem mb_X0_price : MB mX0_price 4 := ⟨gw_at (i := 743) (by decide +kernel) rfl, gw_at (i := 80) (by decide +kernel) rfl, by decide, ⟨by decide, by decide⟩, by decide +kernel⟩
theorem mv_X0_44 : MV RX0 44 mX0_price 4 := ⟨mb_X0_price, gw_at (i := 832) (by decide +kernel) rfl, gw_at (i := 741) (by decide +kernel) rfl, gw_at (i := 742) (by decide +kernel) rfl⟩
theorem mb_X0_extend : MB mX0_extend 3 := ⟨gw_at (i := 755) (by decide +kernel) rfl, gw_at (i := 80) (by decide +kernel) rfl, by decide, ⟨by decide, by decide⟩, by decide +kernel⟩
theorem mv_X0_49 : MV RX0 49 mX0_extend 3 := ⟨mb_X0_extend, gw_at (i := 752) (by decide +kernel) rfl, gw_at (i := 754) (by decide +kernel) rfl, gw_at (i := 27) (by decide +kernel) rfl⟩
theorem mb_X7_bit : MB mX7_bit 1 := ⟨gw_at (i := 634) (by decide +kernel) rfl, gw_at (i := 77) (by decide +kernel) rfl, by decide, ⟨by decide, by decide⟩, by decide +kernel⟩
theorem mb_X0_priceAt : MB mX0_priceAt 2 := ⟨gw_at (i := 760) (by decide +kernel) rfl, gw_at (i := 80) (by decide +kernel) rfl, by decide, ⟨by decide, by decide⟩, by decide +kernel⟩
theorem mv_X0_57 : MV RX0 57 mX0_priceAt 2 := ⟨mb_X0_priceAt, gw_at (i := 757) (by decide +kernel) rfl, gw_at (i := 759) (by decide +kernel) rfl, gw_at (i := 28) (by decide +kernel) rfl⟩
theorem mb_X3_init : MB mX3_init 0 := ⟨gw_at (i := 112) (by decide +kernel) rfl, gw_at (i := 79) (by decide +kernel) rfl, by decide, ⟨by decide, by decide⟩, by decide +kernel⟩
theorem mb_X3_become : MB mX3_become 1 := ⟨gw_at (i := 677) (by decide +kernel) rfl, gw_at (i := 79) (by decide +kernel) rfl, by decide, ⟨by decide, by decide⟩, by decide +kernel⟩
theorem mv_X1_41 : MV RX1 41 mX3_become 1 := ⟨mb_X3_become, gw_at (i := 878) (by decide +kernel) rfl, gw_at (i := 675) (by decide +kernel) rfl, gw_at (i := 676) (by decide +kernel) rfl⟩
theorem mb_X7_isWithin : MB mX7_isWithin 3 := ⟨gw_at (i := 479) (by decide +kernel) rfl, gw_at (i := 77) (by decide +kernel) rfl, by decide, ⟨by decide, by decide⟩, by decide +kernel⟩
theorem mb_X1_pullsAs : MB mX1_pullsAs 3 := ⟨gw_at (i := 569) (by decide +kernel) rfl, gw_at (i := 78) (by decide +kernel) rfl, by decide, ⟨by decide, by decide⟩, by decide +kernel⟩
theorem mv_X1_53 : MV RX1 53 mX1_pullsAs 3 := ⟨mb_X1_pullsAs, gw_at (i := 566) (by decide +kernel) rfl, gw_at (i := 568) (by decide +kernel) rfl, gw_at (i := 13) (by decide +kernel) rfl⟩
theorem mv_X1_57 : MS RX1 57 mJ9_max_7cf53 2 := ⟨mb_J9_max_7cf53, gw_at (i := 570) (by decide +kernel) rfl, gw_at (i := 394) (by decide +kernel) rfl⟩
theorem mb_X5_init : MB mX5_init 0 := ⟨gw_at (i := 212) (by decide +kernel) rfl, gw_at (i := 82) (by decide +kernel) rfl, by decide, ⟨by decide, by decide⟩, by decide +kernel⟩
theorem mb_X5_clear : MB mX5_clear 0 := ⟨gw_at (i := 336) (by decide +kernel) rfl, gw_at (i := 82) (by decide +kernel) rfl, by decide, ⟨by decide, by decide⟩, by decide +kernel⟩
theorem mv_X2_40 : MV RX2 40 mX5_clear 0 := ⟨mb_X5_clear, gw_at (i := 333) (by decide +kernel) rfl, gw_at (i := 334) (by decide +kernel) rfl, gw_at (i := 335) (by decide +kernel) rfl⟩
theorem mb_X2_step : MB mX2_step 0 := ⟨gw_at (i := 340) (by decide +kernel) rfl, gw_at (i := 81) (by decide +kernel) rfl, by decide, ⟨by decide, by decide⟩, by decide +kernel⟩
theorem mv_X2_43 : MV RX2 43 mX2_step 0 := ⟨mb_X2_step, gw_at (i := 337) (by decide +kernel) rfl, gw_at (i := 339) (by decide +kernel) rfl, gw_at (i := 0) (by decide +kernel) rfl⟩
theorem mb_X2_pass : MB mX2_pass 1 := ⟨gw_at (i := 440) (by decide +kernel) rfl, gw_at (i := 81) (by decide +kernel) rfl, by decide, ⟨by decide, by decide⟩, by decide +kernel⟩
theorem mv_X2_46 : MV RX2 46 mX2_pass 1 := ⟨mb_X2_pass, gw_at (i := 437) (by decide +kernel) rfl, gw_at (i := 439) (by decide +kernel) rfl, gw_at (i := 4) (by decide +kernel) rfl⟩
theorem mb_X2_readExpression : MB mX2_readExpression 1 := ⟨gw_at (i := 444) (by decide +kernel) rfl, gw_at (i := 81) (by decide +kernel) rfl, by decide, ⟨by decide, by decide⟩, by decide +kernel⟩
theorem mv_X2_50 : MV RX2 50 mX2_readExpression 1 := ⟨mb_X2_readExpression, gw_at (i := 441) (by decide +kernel) rfl, gw_at (i := 443) (by decide +kernel) rfl, gw_at (i := 5) (by decide +kernel) rfl⟩
theorem mb_X5_endPart : MB mX5_endPart 1 := ⟨gw_at (i := 484) (by decide +kernel) rfl, gw_at (i := 82) (by decide +kernel) rfl, by decide, ⟨by decide, by decide⟩, by decide +kernel⟩
theorem mv_X2_53 : MV RX2 53 mX5_endPart 1 := ⟨mb_X5_endPart, gw_at (i := 481) (by decide +kernel) rfl, gw_at (i := 482) (by decide +kernel) rfl, gw_at (i := 483) (by decide +kernel) rfl⟩
theorem mb_X5_become : MB mX5_become 1 := ⟨gw_at (i := 489) (by decide +kernel) rfl, gw_at (i := 82) (by decide +kernel) rfl, by decide, ⟨by decide, by decide⟩, by decide +kernel⟩
theorem mv_X2_57 : MV RX2 57 mX5_become 1 := ⟨mb_X5_become, gw_at (i := 486) (by decide +kernel) rfl, gw_at (i := 487) (by decide +kernel) rfl, gw_at (i := 488) (by decide +kernel) rfl⟩
theorem mb_X2_readConjunction : MB mX2_readConjunction 1 := ⟨gw_at (i := 448) (by decide +kernel) rfl, gw_at (i := 81) (by decide +kernel) rfl, by decide, ⟨by decide, by decide⟩, by decide +kernel⟩
theorem mv_X2_61 : MV RX2 61 mX2_readConjunction 1 := ⟨mb_X2_readConjunction, gw_at (i := 445) (by decide +kernel) rfl, gw_at (i := 447) (by decide +kernel) rfl, gw_at (i := 6) (by decide +kernel) rfl⟩
theorem mb_X5_addToken : MB mX5_addToken 1 := ⟨gw_at (i := 476) (by decide +kernel) rfl, gw_at (i := 82) (by decide +kernel) rfl, by decide, ⟨by decide, by decide⟩, by decide +kernel⟩
theorem mv_X2_64 : MV RX2 64 mX5_addToken 1 := ⟨mb_X5_addToken, gw_at (i := 480) (by decide +kernel) rfl, gw_at (i := 474) (by decide +kernel) rfl, gw_at (i := 475) (by decide +kernel) rfl⟩
theorem mb_X2_readNegation : MB mX2_readNegation 1 := ⟨gw_at (i := 452) (by decide +kernel) rfl, gw_at (i := 81) (by decide +kernel) rfl, by decide, ⟨by decide, by decide⟩, by decide +kernel⟩
theorem mv_X2_67 : MV RX2 67 mX2_readNegation 1 := ⟨mb_X2_readNegation, gw_at (i := 449) (by decide +kernel) rfl, gw_at (i := 451) (by decide +kernel) rfl, gw_at (i := 7) (by decide +kernel) rfl⟩
theorem mb_X2_readComparison : MB mX2_readComparison 1 := ⟨gw_at (i := 456) (by decide +kernel) rfl, gw_at (i := 81) (by decide +kernel) rfl, by decide, ⟨by decide, by decide⟩, by decide +kernel⟩
theorem mv_X2_70 : MV RX2 70 mX2_readComparison 1 := ⟨mb_X2_readComparison, gw_at (i := 453) (by decide +kernel) rfl, gw_at (i := 455) (by decide +kernel) rfl, gw_at (i := 8) (by decide +kernel) rfl⟩
theorem mb_X2_readSum : MB mX2_readSum 1 := ⟨gw_at (i := 460) (by decide +kernel) rfl, gw_at (i := 81) (by decide +kernel) rfl, by decide, ⟨by decide, by decide⟩, by decide +kernel⟩
theorem mv_X2_73 : MV RX2 73 mX2_readSum 1 := ⟨mb_X2_readSum, gw_at (i := 457) (by decide +kernel) rfl, gw_at (i := 459) (by decide +kernel) rfl, gw_at (i := 9) (by decide +kernel) rfl⟩
theorem mb_X2_readTerm : MB mX2_readTerm 1 := ⟨gw_at (i := 464) (by decide +kernel) rfl, gw_at (i := 81) (by decide +kernel) rfl, by decide, ⟨by decide, by decide⟩, by decide +kernel⟩
theorem mv_X2_76 : MV RX2 76 mX2_readTerm 1 := ⟨mb_X2_readTerm, gw_at (i := 461) (by decide +kernel) rfl, gw_at (i := 463) (by decide +kernel) rfl, gw_at (i := 10) (by decide +kernel) rfl⟩
theorem mb_X2_readOne : MB mX2_readOne 1 := ⟨gw_at (i := 468) (by decide +kernel) rfl, gw_at (i := 81) (by decide +kernel) rfl, by decide, ⟨by decide, by decide⟩, by decide +kernel⟩
theorem mv_X2_79 : MV RX2 79 mX2_readOne 1 := ⟨mb_X2_readOne, gw_at (i := 465) (by decide +kernel) rfl, gw_at (i := 467) (by decide +kernel) rfl, gw_at (i := 11) (by decide +kernel) rfl⟩
theorem mb_X5_addNumber : MB mX5_addNumber 1 := ⟨gw_at (i := 472) (by decide +kernel) rfl, gw_at (i := 82) (by decide +kernel) rfl, by decide, ⟨by decide, by decide⟩, by decide +kernel⟩
theorem mv_X2_82 : MV RX2 82 mX5_addNumber 1 := ⟨mb_X5_addNumber, gw_at (i := 469) (by decide +kernel) rfl, gw_at (i := 470) (by decide +kernel) rfl, gw_at (i := 471) (by decide +kernel) rfl⟩
theorem mb_X2_isLetter : MB mX2_isLetter 1 := ⟨gw_at (i := 343) (by decide +kernel) rfl, gw_at (i := 81) (by decide +kernel) rfl, by decide, ⟨by decide, by decide⟩, by decide +kernel⟩
theorem mv_X2_89 : MS RX2 89 mX2_isLetter 1 := ⟨mb_X2_isLetter, gw_at (i := 341) (by decide +kernel) rfl, gw_at (i := 342) (by decide +kernel) rfl⟩
theorem mb_X2_passWord : MB mX2_passWord 0 := ⟨gw_at (i := 347) (by decide +kernel) rfl, gw_at (i := 81) (by decide +kernel) rfl, by decide, ⟨by decide, by decide⟩, by decide +kernel⟩
theorem mv_X2_92 : MV RX2 92 mX2_passWord 0 := ⟨mb_X2_passWord, gw_at (i := 344) (by decide +kernel) rfl, gw_at (i := 346) (by decide +kernel) rfl, gw_at (i := 1) (by decide +kernel) rfl⟩
theorem mb_X2_isDigit : MB mX2_isDigit 1 := ⟨gw_at (i := 372) (by decide +kernel) rfl, gw_at (i := 81) (by decide +kernel) rfl, by decide, ⟨by decide, by decide⟩, by decide +kernel⟩
theorem mv_X2_96 : MS RX2 96 mX2_isDigit 1 := ⟨mb_X2_isDigit, gw_at (i := 370) (by decide +kernel) rfl, gw_at (i := 371) (by decide +kernel) rfl⟩
theorem mb_X2_passNumber : MB mX2_passNumber 0 := ⟨gw_at (i := 376) (by decide +kernel) rfl, gw_at (i := 81) (by decide +kernel) rfl, by decide, ⟨by decide, by decide⟩, by decide +kernel⟩
theorem mv_X2_99 : MV RX2 99 mX2_passNumber 0 := ⟨mb_X2_passNumber, gw_at (i := 373) (by decide +kernel) rfl, gw_at (i := 375) (by decide +kernel) rfl, gw_at (i := 3) (by decide +kernel) rfl⟩
theorem mb_J0_indexOf_0f7a4 : MB mJ0_indexOf_0f7a4 1 := ⟨gw_at (i := 381) (by decide +kernel) rfl, gw_at (i := 84) (by decide +kernel) rfl, by decide, ⟨by decide, by decide⟩, by decide +kernel⟩
theorem mv_X2_104 : MV RX2 104 mJ0_indexOf_0f7a4 1 := ⟨mb_J0_indexOf_0f7a4, gw_at (i := 378) (by decide +kernel) rfl, gw_at (i := 379) (by decide +kernel) rfl, gw_at (i := 380) (by decide +kernel) rfl⟩
theorem mb_X6_spelling : MB mX6_spelling 1 := ⟨gw_at (i := 350) (by decide +kernel) rfl, gw_at (i := 88) (by decide +kernel) rfl, by decide, ⟨by decide, by decide⟩, by decide +kernel⟩
theorem mv_X2_110 : MS RX2 110 mX6_spelling 1 := ⟨mb_X6_spelling, gw_at (i := 348) (by decide +kernel) rfl, gw_at (i := 349) (by decide +kernel) rfl⟩
theorem mb_X2_isSpelled : MB mX2_isSpelled 1 := ⟨gw_at (i := 367) (by decide +kernel) rfl, gw_at (i := 81) (by decide +kernel) rfl, by decide, ⟨by decide, by decide⟩, by decide +kernel⟩
theorem mv_X2_114 : MV RX2 114 mX2_isSpelled 1 := ⟨mb_X2_isSpelled, gw_at (i := 364) (by decide +kernel) rfl, gw_at (i := 366) (by decide +kernel) rfl, gw_at (i := 2) (by decide +kernel) rfl⟩
theorem mv_X2_118 : MV RX2 118 mJ0_length_8abf5 0 := ⟨mb_J0_length_8abf5, gw_at (i := 368) (by decide +kernel) rfl, gw_at (i := 278) (by decide +kernel) rfl, gw_at (i := 279) (by decide +kernel) rfl⟩
theorem mb_J0_charAt_5068e : MB mJ0_charAt_5068e 1 := ⟨gw_at (i := 290) (by decide +kernel) rfl, gw_at (i := 84) (by decide +kernel) rfl, by decide, ⟨by decide, by decide⟩, by decide +kernel⟩
theorem mv_X2_121 : MV RX2 121 mJ0_charAt_5068e 1 := ⟨mb_J0_charAt_5068e, gw_at (i := 369) (by decide +kernel) rfl, gw_at (i := 288) (by decide +kernel) rfl, gw_at (i := 289) (by decide +kernel) rfl⟩
theorem mb_X3_lastNear : MB mX3_lastNear 1 := ⟨gw_at (i := 663) (by decide +kernel) rfl, gw_at (i := 79) (by decide +kernel) rfl, by decide, ⟨by decide, by decide⟩, by decide +kernel⟩
theorem mv_X3_31 : MV RX3 31 mX3_lastNear 1 := ⟨mb_X3_lastNear, gw_at (i := 660) (by decide +kernel) rfl, gw_at (i := 662) (by decide +kernel) rfl, gw_at (i := 20) (by decide +kernel) rfl⟩
theorem mb_X3_remove : MB mX3_remove 1 := ⟨gw_at (i := 668) (by decide +kernel) rfl, gw_at (i := 79) (by decide +kernel) rfl, by decide, ⟨by decide, by decide⟩, by decide +kernel⟩
theorem mv_X3_35 : MV RX3 35 mX3_remove 1 := ⟨mb_X3_remove, gw_at (i := 665) (by decide +kernel) rfl, gw_at (i := 667) (by decide +kernel) rfl, gw_at (i := 21) (by decide +kernel) rfl⟩
theorem mb_X3_put : MB mX3_put 5 := ⟨gw_at (i := 638) (by decide +kernel) rfl, gw_at (i := 79) (by decide +kernel) rfl, by decide, ⟨by decide, by decide⟩, by decide +kernel⟩
theorem mv_X3_39 : MV RX3 39 mX3_put 5 := ⟨mb_X3_put, gw_at (i := 673) (by decide +kernel) rfl, gw_at (i := 636) (by decide +kernel) rfl, gw_at (i := 637) (by decide +kernel) rfl⟩
theorem mb_J9_abs_0f7a4 : MB mJ9_abs_0f7a4 1 := ⟨gw_at (i := 582) (by decide +kernel) rfl, gw_at (i := 89) (by decide +kernel) rfl, by decide, ⟨by decide, by decide⟩, by decide +kernel⟩
theorem mv_X3_43 : MS RX3 43 mJ9_abs_0f7a4 1 := ⟨mb_J9_abs_0f7a4, gw_at (i := 664) (by decide +kernel) rfl, gw_at (i := 581) (by decide +kernel) rfl⟩
theorem mb_X3_takeOver : MB mX3_takeOver 3 := ⟨gw_at (i := 672) (by decide +kernel) rfl, gw_at (i := 79) (by decide +kernel) rfl, by decide, ⟨by decide, by decide⟩, by decide +kernel⟩
theorem mv_X3_48 : MV RX3 48 mX3_takeOver 3 := ⟨mb_X3_takeOver, gw_at (i := 669) (by decide +kernel) rfl, gw_at (i := 671) (by decide +kernel) rfl, gw_at (i := 22) (by decide +kernel) rfl⟩
theorem mv_X4_22 : MS RX4 22 mJ9_min_7cf53 2 := ⟨mb_J9_min_7cf53, gw_at (i := 895) (by decide +kernel) rfl, gw_at (i := 397) (by decide +kernel) rfl⟩
theorem mv_X4_28 : MS RX4 28 mJ9_max_7cf53 2 := ⟨mb_J9_max_7cf53, gw_at (i := 896) (by decide +kernel) rfl, gw_at (i := 394) (by decide +kernel) rfl⟩
theorem mb_X4_holds : MB mX4_holds 1 := ⟨gw_at (i := 904) (by decide +kernel) rfl, gw_at (i := 83) (by decide +kernel) rfl, by decide, ⟨by decide, by decide⟩, by decide +kernel⟩
theorem mv_X4_35 : MV RX4 35 mX4_holds 1 := ⟨mb_X4_holds, gw_at (i := 910) (by decide +kernel) rfl, gw_at (i := 902) (by decide +kernel) rfl, gw_at (i := 903) (by decide +kernel) rfl⟩
theorem mv_X5_28 : MV RX5 28 mX5_addToken 1 := ⟨mb_X5_addToken, gw_at (i := 473) (by decide +kernel) rfl, gw_at (i := 474) (by decide +kernel) rfl, gw_at (i := 475) (by decide +kernel) rfl⟩
theorem mb_X5_work : MB mX5_work 2 := ⟨gw_at (i := 596) (by decide +kernel) rfl, gw_at (i := 82) (by decide +kernel) rfl, by decide, ⟨by decide, by decide⟩, by decide +kernel⟩
theorem mv_X5_38 : MV RX5 38 mX5_work 2 := ⟨mb_X5_work, gw_at (i := 593) (by decide +kernel) rfl, gw_at (i := 595) (by decide +kernel) rfl, gw_at (i := 16) (by decide +kernel) rfl⟩
theorem mb_X5_pop : MB mX5_pop 0 := ⟨gw_at (i := 604) (by decide +kernel) rfl, gw_at (i := 82) (by decide +kernel) rfl, by decide, ⟨by decide, by decide⟩, by decide +kernel⟩
theorem mv_X5_42 : MV RX5 42 mX5_pop 0 := ⟨mb_X5_pop, gw_at (i := 601) (by decide +kernel) rfl, gw_at (i := 603) (by decide +kernel) rfl, gw_at (i := 18) (by decide +kernel) rfl⟩
theorem mb_X5_push : MB mX5_push 1 := ⟨gw_at (i := 600) (by decide +kernel) rfl, gw_at (i := 82) (by decide +kernel) rfl, by decide, ⟨by decide, by decide⟩, by decide +kernel⟩
theorem mv_X5_46 : MV RX5 46 mX5_push 1 := ⟨mb_X5_push, gw_at (i := 597) (by decide +kernel) rfl, gw_at (i := 599) (by decide +kernel) rfl, gw_at (i := 17) (by decide +kernel) rfl⟩
theorem mb_X5_join : MB mX5_join 3 := ⟨gw_at (i := 607) (by decide +kernel) rfl, gw_at (i := 82) (by decide +kernel) rfl, by decide, ⟨by decide, by decide⟩, by decide +kernel⟩
theorem mv_X5_49 : MS RX5 49 mX5_join 3 := ⟨mb_X5_join, gw_at (i := 605) (by decide +kernel) rfl, gw_at (i := 606) (by decide +kernel) rfl⟩
theorem mb_X1_init : MB mX1_init 0 := ⟨gw_at (i := 106) (by decide +kernel) rfl, gw_at (i := 78) (by decide +kernel) rfl, by decide, ⟨by decide, by decide⟩, by decide +kernel⟩
theorem mb_X0_init : MB mX0_init 0 := ⟨gw_at (i := 179) (by decide +kernel) rfl, gw_at (i := 80) (by decide +kernel) rfl, by decide, ⟨by decide, by decide⟩, by decide +kernel⟩
theorem mb_X2_init : MB mX2_init 0 := ⟨gw_at (i := 206) (by decide +kernel) rfl, gw_at (i := 81) (by decide +kernel) rfl, by decide, ⟨by decide, by decide⟩, by decide +kernel⟩
theorem mb_X4_init : MB mX4_init 0 := ⟨gw_at (i := 261) (by decide +kernel) rfl, gw_at (i := 83) (by decide +kernel) rfl, by decide, ⟨by decide, by decide⟩, by decide +kernel⟩
theorem mv_X7_82 : MV RX7 82 mJ0_length_8abf5 0 := ⟨mb_J0_length_8abf5, gw_at (i := 277) (by decide +kernel) rfl, gw_at (i := 278) (by decide +kernel) rfl, gw_at (i := 279) (by decide +kernel) rfl⟩
theorem mv_X7_88 : MV RX7 88 mJ0_charAt_5068e 1 := ⟨mb_J0_charAt_5068e, gw_at (i := 287) (by decide +kernel) rfl, gw_at (i := 288) (by decide +kernel) rfl, gw_at (i := 289) (by decide +kernel) rfl⟩
theorem mb_X2_append : MB mX2_append 1 := ⟨gw_at (i := 328) (by decide +kernel) rfl, gw_at (i := 81) (by decide +kernel) rfl, by decide, ⟨by decide, by decide⟩, by decide +kernel⟩
theorem mv_X7_92 : MV RX7 92 mX2_append 1 := ⟨mb_X2_append, gw_at (i := 325) (by decide +kernel) rfl, gw_at (i := 326) (by decide +kernel) rfl, gw_at (i := 327) (by decide +kernel) rfl⟩
theorem mb_X2_readInto : MB mX2_readInto 1 := ⟨gw_at (i := 332) (by decide +kernel) rfl, gw_at (i := 81) (by decide +kernel) rfl, by decide, ⟨by decide, by decide⟩, by decide +kernel⟩
theorem mv_X7_96 : MV RX7 96 mX2_readInto 1 := ⟨mb_X2_readInto, gw_at (i := 329) (by decide +kernel) rfl, gw_at (i := 330) (by decide +kernel) rfl, gw_at (i := 331) (by decide +kernel) rfl⟩
theorem mv_X7_100 : MS RX7 100 mX7_isWithin 3 := ⟨mb_X7_isWithin, gw_at (i := 538) (by decide +kernel) rfl, gw_at (i := 478) (by decide +kernel) rfl⟩
theorem mb_X1_join : MB mX1_join 4 := ⟨gw_at (i := 542) (by decide +kernel) rfl, gw_at (i := 78) (by decide +kernel) rfl, by decide, ⟨by decide, by decide⟩, by decide +kernel⟩
theorem mv_X7_111 : MV RX7 111 mX1_join 4 := ⟨mb_X1_join, gw_at (i := 539) (by decide +kernel) rfl, gw_at (i := 540) (by decide +kernel) rfl, gw_at (i := 541) (by decide +kernel) rfl⟩
theorem mb_X7_isDog : MB mX7_isDog 1 := ⟨gw_at (i := 550) (by decide +kernel) rfl, gw_at (i := 77) (by decide +kernel) rfl, by decide, ⟨by decide, by decide⟩, by decide +kernel⟩
theorem mv_X7_115 : MV RX7 115 mX7_isDog 1 := ⟨mb_X7_isDog, gw_at (i := 547) (by decide +kernel) rfl, gw_at (i := 549) (by decide +kernel) rfl, gw_at (i := 12) (by decide +kernel) rfl⟩
theorem mb_X7_replace : MB mX7_replace 3 := ⟨gw_at (i := 553) (by decide +kernel) rfl, gw_at (i := 77) (by decide +kernel) rfl, by decide, ⟨by decide, by decide⟩, by decide +kernel⟩
theorem mv_X7_122 : MS RX7 122 mX7_replace 3 := ⟨mb_X7_replace, gw_at (i := 551) (by decide +kernel) rfl, gw_at (i := 552) (by decide +kernel) rfl⟩
theorem mb_X1_placeOf : MB mX1_placeOf 1 := ⟨gw_at (i := 561) (by decide +kernel) rfl, gw_at (i := 78) (by decide +kernel) rfl, by decide, ⟨by decide, by decide⟩, by decide +kernel⟩
theorem mv_X7_135 : MV RX7 135 mX1_placeOf 1 := ⟨mb_X1_placeOf, gw_at (i := 558) (by decide +kernel) rfl, gw_at (i := 559) (by decide +kernel) rfl, gw_at (i := 560) (by decide +kernel) rfl⟩
theorem mb_X1_pulls : MB mX1_pulls 2 := ⟨gw_at (i := 565) (by decide +kernel) rfl, gw_at (i := 78) (by decide +kernel) rfl, by decide, ⟨by decide, by decide⟩, by decide +kernel⟩
theorem mv_X7_139 : MV RX7 139 mX1_pulls 2 := ⟨mb_X1_pulls, gw_at (i := 562) (by decide +kernel) rfl, gw_at (i := 563) (by decide +kernel) rfl, gw_at (i := 564) (by decide +kernel) rfl⟩
theorem mb_X7_ruledInHand : MB mX7_ruledInHand 3 := ⟨gw_at (i := 579) (by decide +kernel) rfl, gw_at (i := 77) (by decide +kernel) rfl, by decide, ⟨by decide, by decide⟩, by decide +kernel⟩
theorem mv_X7_144 : MV RX7 144 mX7_ruledInHand 3 := ⟨mb_X7_ruledInHand, gw_at (i := 576) (by decide +kernel) rfl, gw_at (i := 578) (by decide +kernel) rfl, gw_at (i := 14) (by decide +kernel) rfl⟩
theorem mb_X1_dogsBefore : MB mX1_dogsBefore 1 := ⟨gw_at (i := 631) (by decide +kernel) rfl, gw_at (i := 78) (by decide +kernel) rfl, by decide, ⟨by decide, by decide⟩, by decide +kernel⟩
theorem mv_X7_155 : MV RX7 155 mX1_dogsBefore 1 := ⟨mb_X1_dogsBefore, gw_at (i := 628) (by decide +kernel) rfl, gw_at (i := 629) (by decide +kernel) rfl, gw_at (i := 630) (by decide +kernel) rfl⟩
theorem mv_X7_158 : MV RX7 158 mX3_put 5 := ⟨mb_X3_put, gw_at (i := 635) (by decide +kernel) rfl, gw_at (i := 636) (by decide +kernel) rfl, gw_at (i := 637) (by decide +kernel) rfl⟩
theorem mb_X1_changePlaces : MB mX1_changePlaces 1 := ⟨gw_at (i := 642) (by decide +kernel) rfl, gw_at (i := 78) (by decide +kernel) rfl, by decide, ⟨by decide, by decide⟩, by decide +kernel⟩
theorem mv_X7_162 : MV RX7 162 mX1_changePlaces 1 := ⟨mb_X1_changePlaces, gw_at (i := 639) (by decide +kernel) rfl, gw_at (i := 640) (by decide +kernel) rfl, gw_at (i := 641) (by decide +kernel) rfl⟩
theorem mb_X7_makeTangle : MB mX7_makeTangle 0 := ⟨gw_at (i := 655) (by decide +kernel) rfl, gw_at (i := 77) (by decide +kernel) rfl, by decide, ⟨by decide, by decide⟩, by decide +kernel⟩
theorem mv_X7_168 : MV RX7 168 mX7_makeTangle 0 := ⟨mb_X7_makeTangle, gw_at (i := 652) (by decide +kernel) rfl, gw_at (i := 654) (by decide +kernel) rfl, gw_at (i := 19) (by decide +kernel) rfl⟩
theorem mv_X7_171 : MV RX7 171 mX3_become 1 := ⟨mb_X3_become, gw_at (i := 674) (by decide +kernel) rfl, gw_at (i := 675) (by decide +kernel) rfl, gw_at (i := 676) (by decide +kernel) rfl⟩
theorem mv_X7_178 : MS RX7 178 mX7_bit 1 := ⟨mb_X7_bit, gw_at (i := 690) (by decide +kernel) rfl, gw_at (i := 633) (by decide +kernel) rfl⟩
theorem mb_X3_dogsOf : MB mX3_dogsOf 1 := ⟨gw_at (i := 694) (by decide +kernel) rfl, gw_at (i := 79) (by decide +kernel) rfl, by decide, ⟨by decide, by decide⟩, by decide +kernel⟩
theorem mv_X7_181 : MV RX7 181 mX3_dogsOf 1 := ⟨mb_X3_dogsOf, gw_at (i := 691) (by decide +kernel) rfl, gw_at (i := 692) (by decide +kernel) rfl, gw_at (i := 693) (by decide +kernel) rfl⟩
theorem mv_X7_184 : MS RX7 184 mJ9_min_7cf53 2 := ⟨mb_J9_min_7cf53, gw_at (i := 583) (by decide +kernel) rfl, gw_at (i := 397) (by decide +kernel) rfl⟩
theorem mb_X7_allDogs : MB mX7_allDogs 0 := ⟨gw_at (i := 703) (by decide +kernel) rfl, gw_at (i := 77) (by decide +kernel) rfl, by decide, ⟨by decide, by decide⟩, by decide +kernel⟩
theorem mv_X7_189 : MV RX7 189 mX7_allDogs 0 := ⟨mb_X7_allDogs, gw_at (i := 700) (by decide +kernel) rfl, gw_at (i := 702) (by decide +kernel) rfl, gw_at (i := 23) (by decide +kernel) rfl⟩
theorem mb_X7_leftWithout : MB mX7_leftWithout 1 := ⟨gw_at (i := 707) (by decide +kernel) rfl, gw_at (i := 77) (by decide +kernel) rfl, by decide, ⟨by decide, by decide⟩, by decide +kernel⟩
theorem mv_X7_192 : MV RX7 192 mX7_leftWithout 1 := ⟨mb_X7_leftWithout, gw_at (i := 704) (by decide +kernel) rfl, gw_at (i := 706) (by decide +kernel) rfl, gw_at (i := 24) (by decide +kernel) rfl⟩
theorem mb_J6_bitCount_0f7a4 : MB mJ6_bitCount_0f7a4 1 := ⟨gw_at (i := 710) (by decide +kernel) rfl, gw_at (i := 92) (by decide +kernel) rfl, by decide, ⟨by decide, by decide⟩, by decide +kernel⟩
theorem mv_X7_195 : MS RX7 195 mJ6_bitCount_0f7a4 1 := ⟨mb_J6_bitCount_0f7a4, gw_at (i := 708) (by decide +kernel) rfl, gw_at (i := 709) (by decide +kernel) rfl⟩
theorem mb_X7_oddsInHand : MB mX7_oddsInHand 0 := ⟨gw_at (i := 729) (by decide +kernel) rfl, gw_at (i := 77) (by decide +kernel) rfl, by decide, ⟨by decide, by decide⟩, by decide +kernel⟩
theorem mv_X7_206 : MV RX7 206 mX7_oddsInHand 0 := ⟨mb_X7_oddsInHand, gw_at (i := 726) (by decide +kernel) rfl, gw_at (i := 728) (by decide +kernel) rfl, gw_at (i := 25) (by decide +kernel) rfl⟩
theorem mb_X7_findBestOrder : MB mX7_findBestOrder 0 := ⟨gw_at (i := 733) (by decide +kernel) rfl, gw_at (i := 77) (by decide +kernel) rfl, by decide, ⟨by decide, by decide⟩, by decide +kernel⟩
theorem mv_X7_209 : MV RX7 209 mX7_findBestOrder 0 := ⟨mb_X7_findBestOrder, gw_at (i := 730) (by decide +kernel) rfl, gw_at (i := 732) (by decide +kernel) rfl, gw_at (i := 26) (by decide +kernel) rfl⟩
theorem mb_X7_refusalOfOrder : MB mX7_refusalOfOrder 1 := ⟨gw_at (i := 772) (by decide +kernel) rfl, gw_at (i := 77) (by decide +kernel) rfl, by decide, ⟨by decide, by decide⟩, by decide +kernel⟩
theorem mv_X7_215 : MV RX7 215 mX7_refusalOfOrder 1 := ⟨mb_X7_refusalOfOrder, gw_at (i := 769) (by decide +kernel) rfl, gw_at (i := 771) (by decide +kernel) rfl, gw_at (i := 29) (by decide +kernel) rfl⟩
theorem mb_X7_dogsOnRight : MB mX7_dogsOnRight 1 := ⟨gw_at (i := 783) (by decide +kernel) rfl, gw_at (i := 77) (by decide +kernel) rfl, by decide, ⟨by decide, by decide⟩, by decide +kernel⟩
theorem mv_X7_222 : MV RX7 222 mX7_dogsOnRight 1 := ⟨mb_X7_dogsOnRight, gw_at (i := 780) (by decide +kernel) rfl, gw_at (i := 782) (by decide +kernel) rfl, gw_at (i := 30) (by decide +kernel) rfl⟩
theorem mb_X7_woundAt : MB mX7_woundAt 1 := ⟨gw_at (i := 791) (by decide +kernel) rfl, gw_at (i := 77) (by decide +kernel) rfl, by decide, ⟨by decide, by decide⟩, by decide +kernel⟩
theorem mv_X7_225 : MV RX7 225 mX7_woundAt 1 := ⟨mb_X7_woundAt, gw_at (i := 788) (by decide +kernel) rfl, gw_at (i := 790) (by decide +kernel) rfl, gw_at (i := 31) (by decide +kernel) rfl⟩
theorem mb_X7_pullsTogether : MB mX7_pullsTogether 1 := ⟨gw_at (i := 795) (by decide +kernel) rfl, gw_at (i := 77) (by decide +kernel) rfl, by decide, ⟨by decide, by decide⟩, by decide +kernel⟩
theorem mv_X7_228 : MV RX7 228 mX7_pullsTogether 1 := ⟨mb_X7_pullsTogether, gw_at (i := 792) (by decide +kernel) rfl, gw_at (i := 794) (by decide +kernel) rfl, gw_at (i := 32) (by decide +kernel) rfl⟩
theorem mb_X7_rowsLeadingTo : MB mX7_rowsLeadingTo 4 := ⟨gw_at (i := 807) (by decide +kernel) rfl, gw_at (i := 77) (by decide +kernel) rfl, by decide, ⟨by decide, by decide⟩, by decide +kernel⟩
theorem mv_X7_231 : MV RX7 231 mX7_rowsLeadingTo 4 := ⟨mb_X7_rowsLeadingTo, gw_at (i := 804) (by decide +kernel) rfl, gw_at (i := 806) (by decide +kernel) rfl, gw_at (i := 33) (by decide +kernel) rfl⟩
theorem mb_X7_findFetchOrder : MB mX7_findFetchOrder 0 := ⟨gw_at (i := 827) (by decide +kernel) rfl, gw_at (i := 77) (by decide +kernel) rfl, by decide, ⟨by decide, by decide⟩, by decide +kernel⟩
theorem mv_X7_235 : MV RX7 235 mX7_findFetchOrder 0 := ⟨mb_X7_findFetchOrder, gw_at (i := 824) (by decide +kernel) rfl, gw_at (i := 826) (by decide +kernel) rfl, gw_at (i := 37) (by decide +kernel) rfl⟩
theorem mb_X0_begin : MB mX0_begin 1 := ⟨gw_at (i := 737) (by decide +kernel) rfl, gw_at (i := 80) (by decide +kernel) rfl, by decide, ⟨by decide, by decide⟩, by decide +kernel⟩
theorem mv_X7_238 : MV RX7 238 mX0_begin 1 := ⟨mb_X0_begin, gw_at (i := 734) (by decide +kernel) rfl, gw_at (i := 735) (by decide +kernel) rfl, gw_at (i := 736) (by decide +kernel) rfl⟩
theorem mb_X7_ruled : MB mX7_ruled 5 := ⟨gw_at (i := 587) (by decide +kernel) rfl, gw_at (i := 77) (by decide +kernel) rfl, by decide, ⟨by decide, by decide⟩, by decide +kernel⟩
theorem mv_X7_241 : MV RX7 241 mX7_ruled 5 := ⟨mb_X7_ruled, gw_at (i := 584) (by decide +kernel) rfl, gw_at (i := 586) (by decide +kernel) rfl, gw_at (i := 15) (by decide +kernel) rfl⟩
theorem mb_X0_priceEverywhere : MB mX0_priceEverywhere 3 := ⟨gw_at (i := 831) (by decide +kernel) rfl, gw_at (i := 80) (by decide +kernel) rfl, by decide, ⟨by decide, by decide⟩, by decide +kernel⟩
theorem mv_X7_245 : MV RX7 245 mX0_priceEverywhere 3 := ⟨mb_X0_priceEverywhere, gw_at (i := 828) (by decide +kernel) rfl, gw_at (i := 829) (by decide +kernel) rfl, gw_at (i := 830) (by decide +kernel) rfl⟩
theorem mb_X0_search : MB mX0_search 0 := ⟨gw_at (i := 750) (by decide +kernel) rfl, gw_at (i := 80) (by decide +kernel) rfl, by decide, ⟨by decide, by decide⟩, by decide +kernel⟩
theorem mv_X7_249 : MV RX7 249 mX0_search 0 := ⟨mb_X0_search, gw_at (i := 747) (by decide +kernel) rfl, gw_at (i := 748) (by decide +kernel) rfl, gw_at (i := 749) (by decide +kernel) rfl⟩
theorem mb_X7_findWorths : MB mX7_findWorths 0 := ⟨gw_at (i := 848) (by decide +kernel) rfl, gw_at (i := 77) (by decide +kernel) rfl, by decide, ⟨by decide, by decide⟩, by decide +kernel⟩
theorem mv_X7_252 : MV RX7 252 mX7_findWorths 0 := ⟨mb_X7_findWorths, gw_at (i := 845) (by decide +kernel) rfl, gw_at (i := 847) (by decide +kernel) rfl, gw_at (i := 38) (by decide +kernel) rfl⟩
theorem mb_X7_worthOf : MB mX7_worthOf 1 := ⟨gw_at (i := 852) (by decide +kernel) rfl, gw_at (i := 77) (by decide +kernel) rfl, by decide, ⟨by decide, by decide⟩, by decide +kernel⟩
theorem mv_X7_255 : MV RX7 255 mX7_worthOf 1 := ⟨mb_X7_worthOf, gw_at (i := 849) (by decide +kernel) rfl, gw_at (i := 851) (by decide +kernel) rfl, gw_at (i := 39) (by decide +kernel) rfl⟩
theorem mb_X7_leftOfDrawn : MB mX7_leftOfDrawn 2 := ⟨gw_at (i := 860) (by decide +kernel) rfl, gw_at (i := 77) (by decide +kernel) rfl, by decide, ⟨by decide, by decide⟩, by decide +kernel⟩
theorem mv_X7_258 : MV RX7 258 mX7_leftOfDrawn 2 := ⟨mb_X7_leftOfDrawn, gw_at (i := 857) (by decide +kernel) rfl, gw_at (i := 859) (by decide +kernel) rfl, gw_at (i := 40) (by decide +kernel) rfl⟩
theorem mb_X7_greatestDivisor : MB mX7_greatestDivisor 2 := ⟨gw_at (i := 869) (by decide +kernel) rfl, gw_at (i := 77) (by decide +kernel) rfl, by decide, ⟨by decide, by decide⟩, by decide +kernel⟩
theorem mv_X7_263 : MS RX7 263 mX7_greatestDivisor 2 := ⟨mb_X7_greatestDivisor, gw_at (i := 867) (by decide +kernel) rfl, gw_at (i := 868) (by decide +kernel) rfl⟩
theorem mb_X1_become : MB mX1_become 1 := ⟨gw_at (i := 877) (by decide +kernel) rfl, gw_at (i := 78) (by decide +kernel) rfl, by decide, ⟨by decide, by decide⟩, by decide +kernel⟩
theorem mv_X7_266 : MV RX7 266 mX1_become 1 := ⟨mb_X1_become, gw_at (i := 874) (by decide +kernel) rfl, gw_at (i := 875) (by decide +kernel) rfl, gw_at (i := 876) (by decide +kernel) rfl⟩
theorem mb_X7_isSheet : MB mX7_isSheet 1 := ⟨gw_at (i := 775) (by decide +kernel) rfl, gw_at (i := 77) (by decide +kernel) rfl, by decide, ⟨by decide, by decide⟩, by decide +kernel⟩
theorem mv_X7_269 : MS RX7 269 mX7_isSheet 1 := ⟨mb_X7_isSheet, gw_at (i := 773) (by decide +kernel) rfl, gw_at (i := 774) (by decide +kernel) rfl⟩
theorem mb_X4_become : MB mX4_become 2 := ⟨gw_at (i := 894) (by decide +kernel) rfl, gw_at (i := 83) (by decide +kernel) rfl, by decide, ⟨by decide, by decide⟩, by decide +kernel⟩
theorem mv_X7_272 : MV RX7 272 mX4_become 2 := ⟨mb_X4_become, gw_at (i := 891) (by decide +kernel) rfl, gw_at (i := 892) (by decide +kernel) rfl, gw_at (i := 893) (by decide +kernel) rfl⟩
theorem mv_X7_278 : MV RX7 278 mX4_holds 1 := ⟨mb_X4_holds, gw_at (i := 901) (by decide +kernel) rfl, gw_at (i := 902) (by decide +kernel) rfl, gw_at (i := 903) (by decide +kernel) rfl⟩
theorem mb_X4_write : MB mX4_write 2 := ⟨gw_at (i := 909) (by decide +kernel) rfl, gw_at (i := 83) (by decide +kernel) rfl, by decide, ⟨by decide, by decide⟩, by decide +kernel⟩
theorem mv_X7_281 : MV RX7 281 mX4_write 2 := ⟨mb_X4_write, gw_at (i := 906) (by decide +kernel) rfl, gw_at (i := 907) (by decide +kernel) rfl, gw_at (i := 908) (by decide +kernel) rfl⟩
theorem mb_X4_holdsStretch : MB mX4_holdsStretch 2 := ⟨gw_at (i := 918) (by decide +kernel) rfl, gw_at (i := 83) (by decide +kernel) rfl, by decide, ⟨by decide, by decide⟩, by decide +kernel⟩
theorem mv_X7_284 : MV RX7 284 mX4_holdsStretch 2 := ⟨mb_X4_holdsStretch, gw_at (i := 915) (by decide +kernel) rfl, gw_at (i := 916) (by decide +kernel) rfl, gw_at (i := 917) (by decide +kernel) rfl⟩
theorem mv_X7_294 : MV RX7 294 mX7_cross 2 := ⟨mb_X7_cross, gw_at (i := 926) (by decide +kernel) rfl, gw_at (i := 625) (by decide +kernel) rfl, gw_at (i := 626) (by decide +kernel) rfl⟩
theorem mb_X7_isUnder : MB mX7_isUnder 2 := ⟨gw_at (i := 933) (by decide +kernel) rfl, gw_at (i := 77) (by decide +kernel) rfl, by decide, ⟨by decide, by decide⟩, by decide +kernel⟩
theorem mv_X7_297 : MS RX7 297 mX7_isUnder 2 := ⟨mb_X7_isUnder, gw_at (i := 931) (by decide +kernel) rfl, gw_at (i := 932) (by decide +kernel) rfl⟩
theorem mv_X7_303 : MS RX7 303 mJ9_max_7cf53 2 := ⟨mb_J9_max_7cf53, gw_at (i := 588) (by decide +kernel) rfl, gw_at (i := 394) (by decide +kernel) rfl⟩
theorem mv_X7_306 : MS RX7 306 mJ9_abs_0f7a4 1 := ⟨mb_J9_abs_0f7a4, gw_at (i := 580) (by decide +kernel) rfl, gw_at (i := 581) (by decide +kernel) rfl⟩
theorem mb_X5_valueOf : MB mX5_valueOf 2 := ⟨gw_at (i := 592) (by decide +kernel) rfl, gw_at (i := 82) (by decide +kernel) rfl, by decide, ⟨by decide, by decide⟩, by decide +kernel⟩
theorem mv_X7_309 : MV RX7 309 mX5_valueOf 2 := ⟨mb_X5_valueOf, gw_at (i := 589) (by decide +kernel) rfl, gw_at (i := 590) (by decide +kernel) rfl, gw_at (i := 591) (by decide +kernel) rfl⟩
theorem mb_X3_lay : MB mX3_lay 5 := ⟨gw_at (i := 659) (by decide +kernel) rfl, gw_at (i := 79) (by decide +kernel) rfl, by decide, ⟨by decide, by decide⟩, by decide +kernel⟩
theorem mv_X7_322 : MV RX7 322 mX3_lay 5 := ⟨mb_X3_lay, gw_at (i := 656) (by decide +kernel) rfl, gw_at (i := 657) (by decide +kernel) rfl, gw_at (i := 658) (by decide +kernel) rfl⟩
theorem mv_X7_326 : MV RX7 326 mX0_price 4 := ⟨mb_X0_price, gw_at (i := 740) (by decide +kernel) rfl, gw_at (i := 741) (by decide +kernel) rfl, gw_at (i := 742) (by decide +kernel) rfl⟩
theorem mb_X7_isTrialOrder : MB mX7_isTrialOrder 1 := ⟨gw_at (i := 811) (by decide +kernel) rfl, gw_at (i := 77) (by decide +kernel) rfl, by decide, ⟨by decide, by decide⟩, by decide +kernel⟩
theorem mv_X7_333 : MV RX7 333 mX7_isTrialOrder 1 := ⟨mb_X7_isTrialOrder, gw_at (i := 808) (by decide +kernel) rfl, gw_at (i := 810) (by decide +kernel) rfl, gw_at (i := 34) (by decide +kernel) rfl⟩
theorem mb_X7_wouldMeetItsPlace : MB mX7_wouldMeetItsPlace 2 := ⟨gw_at (i := 815) (by decide +kernel) rfl, gw_at (i := 77) (by decide +kernel) rfl, by decide, ⟨by decide, by decide⟩, by decide +kernel⟩
theorem mv_X7_337 : MV RX7 337 mX7_wouldMeetItsPlace 2 := ⟨mb_X7_wouldMeetItsPlace, gw_at (i := 812) (by decide +kernel) rfl, gw_at (i := 814) (by decide +kernel) rfl, gw_at (i := 35) (by decide +kernel) rfl⟩
theorem mb_X7_changeTrial : MB mX7_changeTrial 1 := ⟨gw_at (i := 819) (by decide +kernel) rfl, gw_at (i := 77) (by decide +kernel) rfl, by decide, ⟨by decide, by decide⟩, by decide +kernel⟩
theorem mv_X7_340 : MV RX7 340 mX7_changeTrial 1 := ⟨mb_X7_changeTrial, gw_at (i := 816) (by decide +kernel) rfl, gw_at (i := 818) (by decide +kernel) rfl, gw_at (i := 36) (by decide +kernel) rfl⟩
theorem mb_X1_passesRight : MB mX1_passesRight 3 := ⟨gw_at (i := 787) (by decide +kernel) rfl, gw_at (i := 78) (by decide +kernel) rfl, by decide, ⟨by decide, by decide⟩, by decide +kernel⟩
theorem mv_X7_343 : MV RX7 343 mX1_passesRight 3 := ⟨mb_X1_passesRight, gw_at (i := 784) (by decide +kernel) rfl, gw_at (i := 785) (by decide +kernel) rfl, gw_at (i := 786) (by decide +kernel) rfl⟩
theorem mb_X8_spell : MB mX8_spell 9 := ⟨gw_at (i := 945) (by decide +kernel) rfl, gw_at (i := 91) (by decide +kernel) rfl, by decide, ⟨by decide, by decide⟩, by decide +kernel⟩
theorem mv_X8_96 : MV RX8 96 mX8_spell 9 := ⟨mb_X8_spell, gw_at (i := 942) (by decide +kernel) rfl, gw_at (i := 944) (by decide +kernel) rfl, gw_at (i := 41) (by decide +kernel) rfl⟩
theorem mb_X8_in : MB mX8_in 3 := ⟨gw_at (i := 1122) (by decide +kernel) rfl, gw_at (i := 91) (by decide +kernel) rfl, by decide, ⟨by decide, by decide⟩, by decide +kernel⟩
theorem mv_X8_106 : MS RX8 106 mX8_in 3 := ⟨mb_X8_in, gw_at (i := 1120) (by decide +kernel) rfl, gw_at (i := 1121) (by decide +kernel) rfl⟩
theorem mb_X8_isDog : MB mX8_isDog 1 := ⟨gw_at (i := 1132) (by decide +kernel) rfl, gw_at (i := 91) (by decide +kernel) rfl, by decide, ⟨by decide, by decide⟩, by decide +kernel⟩
theorem mv_X8_119 : MV RX8 119 mX8_isDog 1 := ⟨mb_X8_isDog, gw_at (i := 1129) (by decide +kernel) rfl, gw_at (i := 1131) (by decide +kernel) rfl, gw_at (i := 42) (by decide +kernel) rfl⟩
theorem mb_X8_placeOf : MB mX8_placeOf 1 := ⟨gw_at (i := 1142) (by decide +kernel) rfl, gw_at (i := 91) (by decide +kernel) rfl, by decide, ⟨by decide, by decide⟩, by decide +kernel⟩
theorem mv_X8_127 : MV RX8 127 mX8_placeOf 1 := ⟨mb_X8_placeOf, gw_at (i := 1139) (by decide +kernel) rfl, gw_at (i := 1141) (by decide +kernel) rfl, gw_at (i := 43) (by decide +kernel) rfl⟩
theorem mb_X8_pulls : MB mX8_pulls 2 := ⟨gw_at (i := 1146) (by decide +kernel) rfl, gw_at (i := 91) (by decide +kernel) rfl, by decide, ⟨by decide, by decide⟩, by decide +kernel⟩
theorem mv_X8_131 : MV RX8 131 mX8_pulls 2 := ⟨mb_X8_pulls, gw_at (i := 1143) (by decide +kernel) rfl, gw_at (i := 1145) (by decide +kernel) rfl, gw_at (i := 44) (by decide +kernel) rfl⟩
theorem mb_X8_byteAt : MB mX8_byteAt 1 := ⟨gw_at (i := 1167) (by decide +kernel) rfl, gw_at (i := 91) (by decide +kernel) rfl, by decide, ⟨by decide, by decide⟩, by decide +kernel⟩
theorem mv_X8_149 : MV RX8 149 mX8_byteAt 1 := ⟨mb_X8_byteAt, gw_at (i := 1164) (by decide +kernel) rfl, gw_at (i := 1166) (by decide +kernel) rfl, gw_at (i := 47) (by decide +kernel) rfl⟩
theorem mb_X8_isLetter : MB mX8_isLetter 2 := ⟨gw_at (i := 1179) (by decide +kernel) rfl, gw_at (i := 91) (by decide +kernel) rfl, by decide, ⟨by decide, by decide⟩, by decide +kernel⟩
theorem mv_X8_177 : MV RX8 177 mX8_isLetter 2 := ⟨mb_X8_isLetter, gw_at (i := 1176) (by decide +kernel) rfl, gw_at (i := 1178) (by decide +kernel) rfl, gw_at (i := 49) (by decide +kernel) rfl⟩
theorem mb_X8_fail : MB mX8_fail 0 := ⟨gw_at (i := 1187) (by decide +kernel) rfl, gw_at (i := 91) (by decide +kernel) rfl, by decide, ⟨by decide, by decide⟩, by decide +kernel⟩
theorem mv_X8_184 : MV RX8 184 mX8_fail 0 := ⟨mb_X8_fail, gw_at (i := 1184) (by decide +kernel) rfl, gw_at (i := 1186) (by decide +kernel) rfl, gw_at (i := 51) (by decide +kernel) rfl⟩
theorem mb_X8_next : MB mX8_next 0 := ⟨gw_at (i := 1163) (by decide +kernel) rfl, gw_at (i := 91) (by decide +kernel) rfl, by decide, ⟨by decide, by decide⟩, by decide +kernel⟩
theorem mv_X8_187 : MV RX8 187 mX8_next 0 := ⟨mb_X8_next, gw_at (i := 1160) (by decide +kernel) rfl, gw_at (i := 1162) (by decide +kernel) rfl, gw_at (i := 46) (by decide +kernel) rfl⟩
theorem mb_X8_isWord : MB mX8_isWord 8 := ⟨gw_at (i := 1175) (by decide +kernel) rfl, gw_at (i := 91) (by decide +kernel) rfl, by decide, ⟨by decide, by decide⟩, by decide +kernel⟩
theorem mv_X8_190 : MV RX8 190 mX8_isWord 8 := ⟨mb_X8_isWord, gw_at (i := 1172) (by decide +kernel) rfl, gw_at (i := 1174) (by decide +kernel) rfl, gw_at (i := 48) (by decide +kernel) rfl⟩
theorem mb_X8_isSign : MB mX8_isSign 1 := ⟨gw_at (i := 1219) (by decide +kernel) rfl, gw_at (i := 91) (by decide +kernel) rfl, by decide, ⟨by decide, by decide⟩, by decide +kernel⟩
theorem mv_X8_212 : MV RX8 212 mX8_isSign 1 := ⟨mb_X8_isSign, gw_at (i := 1216) (by decide +kernel) rfl, gw_at (i := 1218) (by decide +kernel) rfl, gw_at (i := 59) (by decide +kernel) rfl⟩
theorem mb_X8_opens : MB mX8_opens 0 := ⟨gw_at (i := 1203) (by decide +kernel) rfl, gw_at (i := 91) (by decide +kernel) rfl, by decide, ⟨by decide, by decide⟩, by decide +kernel⟩
theorem mv_X8_215 : MV RX8 215 mX8_opens 0 := ⟨mb_X8_opens, gw_at (i := 1200) (by decide +kernel) rfl, gw_at (i := 1202) (by decide +kernel) rfl, gw_at (i := 55) (by decide +kernel) rfl⟩
theorem mb_X8_atom : MB mX8_atom 0 := ⟨gw_at (i := 1215) (by decide +kernel) rfl, gw_at (i := 91) (by decide +kernel) rfl, by decide, ⟨by decide, by decide⟩, by decide +kernel⟩
theorem mv_X8_219 : MV RX8 219 mX8_atom 0 := ⟨mb_X8_atom, gw_at (i := 1212) (by decide +kernel) rfl, gw_at (i := 1214) (by decide +kernel) rfl, gw_at (i := 58) (by decide +kernel) rfl⟩
theorem mb_X8_either : MB mX8_either 0 := ⟨gw_at (i := 1191) (by decide +kernel) rfl, gw_at (i := 91) (by decide +kernel) rfl, by decide, ⟨by decide, by decide⟩, by decide +kernel⟩
theorem mv_X8_223 : MV RX8 223 mX8_either 0 := ⟨mb_X8_either, gw_at (i := 1188) (by decide +kernel) rfl, gw_at (i := 1190) (by decide +kernel) rfl, gw_at (i := 52) (by decide +kernel) rfl⟩
theorem mb_X8_name : MB mX8_name 0 := ⟨gw_at (i := 1223) (by decide +kernel) rfl, gw_at (i := 91) (by decide +kernel) rfl, by decide, ⟨by decide, by decide⟩, by decide +kernel⟩
theorem mv_X8_226 : MV RX8 226 mX8_name 0 := ⟨mb_X8_name, gw_at (i := 1220) (by decide +kernel) rfl, gw_at (i := 1222) (by decide +kernel) rfl, gw_at (i := 60) (by decide +kernel) rfl⟩
theorem mb_X8_term : MB mX8_term 0 := ⟨gw_at (i := 1211) (by decide +kernel) rfl, gw_at (i := 91) (by decide +kernel) rfl, by decide, ⟨by decide, by decide⟩, by decide +kernel⟩
theorem mv_X8_229 : MV RX8 229 mX8_term 0 := ⟨mb_X8_term, gw_at (i := 1208) (by decide +kernel) rfl, gw_at (i := 1210) (by decide +kernel) rfl, gw_at (i := 57) (by decide +kernel) rfl⟩
theorem mb_X8_not : MB mX8_not 0 := ⟨gw_at (i := 1199) (by decide +kernel) rfl, gw_at (i := 91) (by decide +kernel) rfl, by decide, ⟨by decide, by decide⟩, by decide +kernel⟩
theorem mv_X8_234 : MV RX8 234 mX8_not 0 := ⟨mb_X8_not, gw_at (i := 1196) (by decide +kernel) rfl, gw_at (i := 1198) (by decide +kernel) rfl, gw_at (i := 54) (by decide +kernel) rfl⟩
theorem mb_X8_added : MB mX8_added 0 := ⟨gw_at (i := 1207) (by decide +kernel) rfl, gw_at (i := 91) (by decide +kernel) rfl, by decide, ⟨by decide, by decide⟩, by decide +kernel⟩
theorem mv_X8_237 : MV RX8 237 mX8_added 0 := ⟨mb_X8_added, gw_at (i := 1204) (by decide +kernel) rfl, gw_at (i := 1206) (by decide +kernel) rfl, gw_at (i := 56) (by decide +kernel) rfl⟩
theorem mb_X8_both : MB mX8_both 0 := ⟨gw_at (i := 1195) (by decide +kernel) rfl, gw_at (i := 91) (by decide +kernel) rfl, by decide, ⟨by decide, by decide⟩, by decide +kernel⟩
theorem mv_X8_242 : MV RX8 242 mX8_both 0 := ⟨mb_X8_both, gw_at (i := 1192) (by decide +kernel) rfl, gw_at (i := 1194) (by decide +kernel) rfl, gw_at (i := 53) (by decide +kernel) rfl⟩
theorem mb_X8_part : MB mX8_part 1 := ⟨gw_at (i := 1183) (by decide +kernel) rfl, gw_at (i := 91) (by decide +kernel) rfl, by decide, ⟨by decide, by decide⟩, by decide +kernel⟩
theorem mv_X8_245 : MV RX8 245 mX8_part 1 := ⟨mb_X8_part, gw_at (i := 1180) (by decide +kernel) rfl, gw_at (i := 1182) (by decide +kernel) rfl, gw_at (i := 50) (by decide +kernel) rfl⟩
theorem mb_X8_read : MB mX8_read 2 := ⟨gw_at (i := 1159) (by decide +kernel) rfl, gw_at (i := 91) (by decide +kernel) rfl, by decide, ⟨by decide, by decide⟩, by decide +kernel⟩
theorem mv_X8_249 : MV RX8 249 mX8_read 2 := ⟨mb_X8_read, gw_at (i := 1156) (by decide +kernel) rfl, gw_at (i := 1158) (by decide +kernel) rfl, gw_at (i := 45) (by decide +kernel) rfl⟩
theorem mb_X8_off : MB mX8_off 2 := ⟨gw_at (i := 1240) (by decide +kernel) rfl, gw_at (i := 91) (by decide +kernel) rfl, by decide, ⟨by decide, by decide⟩, by decide +kernel⟩
theorem mv_X8_255 : MS RX8 255 mX8_off 2 := ⟨mb_X8_off, gw_at (i := 1238) (by decide +kernel) rfl, gw_at (i := 1239) (by decide +kernel) rfl⟩
theorem mb_X8_within : MB mX8_within 3 := ⟨gw_at (i := 1247) (by decide +kernel) rfl, gw_at (i := 91) (by decide +kernel) rfl, by decide, ⟨by decide, by decide⟩, by decide +kernel⟩
theorem mv_X8_258 : MS RX8 258 mX8_within 3 := ⟨mb_X8_within, gw_at (i := 1245) (by decide +kernel) rfl, gw_at (i := 1246) (by decide +kernel) rfl⟩
theorem mb_X8_says : MB mX8_says 4 := ⟨gw_at (i := 1244) (by decide +kernel) rfl, gw_at (i := 91) (by decide +kernel) rfl, by decide, ⟨by decide, by decide⟩, by decide +kernel⟩
theorem mv_X8_262 : MV RX8 262 mX8_says 4 := ⟨mb_X8_says, gw_at (i := 1241) (by decide +kernel) rfl, gw_at (i := 1243) (by decide +kernel) rfl, gw_at (i := 62) (by decide +kernel) rfl⟩
theorem mb_X8_told2 : MB mX8_told2 3 := ⟨gw_at (i := 1237) (by decide +kernel) rfl, gw_at (i := 91) (by decide +kernel) rfl, by decide, ⟨by decide, by decide⟩, by decide +kernel⟩
theorem mv_X8_266 : MV RX8 266 mX8_told2 3 := ⟨mb_X8_told2, gw_at (i := 1234) (by decide +kernel) rfl, gw_at (i := 1236) (by decide +kernel) rfl, gw_at (i := 61) (by decide +kernel) rfl⟩
theorem mb_X8_swap : MB mX8_swap 1 := ⟨gw_at (i := 1256) (by decide +kernel) rfl, gw_at (i := 91) (by decide +kernel) rfl, by decide, ⟨by decide, by decide⟩, by decide +kernel⟩
theorem mv_X8_270 : MV RX8 270 mX8_swap 1 := ⟨mb_X8_swap, gw_at (i := 1253) (by decide +kernel) rfl, gw_at (i := 1255) (by decide +kernel) rfl, gw_at (i := 63) (by decide +kernel) rfl⟩
theorem mb_X8_comes : MB mX8_comes 3 := ⟨gw_at (i := 1272) (by decide +kernel) rfl, gw_at (i := 91) (by decide +kernel) rfl, by decide, ⟨by decide, by decide⟩, by decide +kernel⟩
theorem mv_X8_277 : MV RX8 277 mX8_comes 3 := ⟨mb_X8_comes, gw_at (i := 1269) (by decide +kernel) rfl, gw_at (i := 1271) (by decide +kernel) rfl, gw_at (i := 65) (by decide +kernel) rfl⟩
theorem mb_X8_tangle : MB mX8_tangle 1 := ⟨gw_at (i := 1268) (by decide +kernel) rfl, gw_at (i := 91) (by decide +kernel) rfl, by decide, ⟨by decide, by decide⟩, by decide +kernel⟩
theorem mv_X8_281 : MV RX8 281 mX8_tangle 1 := ⟨mb_X8_tangle, gw_at (i := 1265) (by decide +kernel) rfl, gw_at (i := 1267) (by decide +kernel) rfl, gw_at (i := 64) (by decide +kernel) rfl⟩
theorem mb_X8_bitsOf : MB mX8_bitsOf 1 := ⟨gw_at (i := 1295) (by decide +kernel) rfl, gw_at (i := 91) (by decide +kernel) rfl, by decide, ⟨by decide, by decide⟩, by decide +kernel⟩
theorem mv_X8_284 : MS RX8 284 mX8_bitsOf 1 := ⟨mb_X8_bitsOf, gw_at (i := 1293) (by decide +kernel) rfl, gw_at (i := 1294) (by decide +kernel) rfl⟩
theorem mb_X8_atOddsNow : MB mX8_atOddsNow 0 := ⟨gw_at (i := 1307) (by decide +kernel) rfl, gw_at (i := 91) (by decide +kernel) rfl, by decide, ⟨by decide, by decide⟩, by decide +kernel⟩
theorem mv_X8_287 : MV RX8 287 mX8_atOddsNow 0 := ⟨mb_X8_atOddsNow, gw_at (i := 1304) (by decide +kernel) rfl, gw_at (i := 1306) (by decide +kernel) rfl, gw_at (i := 66) (by decide +kernel) rfl⟩
theorem mb_X8_orders : MB mX8_orders 2 := ⟨gw_at (i := 1315) (by decide +kernel) rfl, gw_at (i := 91) (by decide +kernel) rfl, by decide, ⟨by decide, by decide⟩, by decide +kernel⟩
theorem mv_X8_293 : MV RX8 293 mX8_orders 2 := ⟨mb_X8_orders, gw_at (i := 1312) (by decide +kernel) rfl, gw_at (i := 1314) (by decide +kernel) rfl, gw_at (i := 68) (by decide +kernel) rfl⟩
theorem mb_X8_bestOrder : MB mX8_bestOrder 0 := ⟨gw_at (i := 1311) (by decide +kernel) rfl, gw_at (i := 91) (by decide +kernel) rfl, by decide, ⟨by decide, by decide⟩, by decide +kernel⟩
theorem mv_X8_297 : MV RX8 297 mX8_bestOrder 0 := ⟨mb_X8_bestOrder, gw_at (i := 1308) (by decide +kernel) rfl, gw_at (i := 1310) (by decide +kernel) rfl, gw_at (i := 67) (by decide +kernel) rfl⟩
theorem mb_X8_isSheet : MB mX8_isSheet 1 := ⟨gw_at (i := 1330) (by decide +kernel) rfl, gw_at (i := 91) (by decide +kernel) rfl, by decide, ⟨by decide, by decide⟩, by decide +kernel⟩
theorem mv_X8_300 : MS RX8 300 mX8_isSheet 1 := ⟨mb_X8_isSheet, gw_at (i := 1328) (by decide +kernel) rfl, gw_at (i := 1329) (by decide +kernel) rfl⟩
theorem mb_X8_orderBad : MB mX8_orderBad 1 := ⟨gw_at (i := 1327) (by decide +kernel) rfl, gw_at (i := 91) (by decide +kernel) rfl, by decide, ⟨by decide, by decide⟩, by decide +kernel⟩
theorem mv_X8_303 : MV RX8 303 mX8_orderBad 1 := ⟨mb_X8_orderBad, gw_at (i := 1324) (by decide +kernel) rfl, gw_at (i := 1326) (by decide +kernel) rfl, gw_at (i := 69) (by decide +kernel) rfl⟩
theorem mb_X8_right : MB mX8_right 3 := ⟨gw_at (i := 1343) (by decide +kernel) rfl, gw_at (i := 91) (by decide +kernel) rfl, by decide, ⟨by decide, by decide⟩, by decide +kernel⟩
theorem mv_X8_306 : MV RX8 306 mX8_right 3 := ⟨mb_X8_right, gw_at (i := 1340) (by decide +kernel) rfl, gw_at (i := 1342) (by decide +kernel) rfl, gw_at (i := 71) (by decide +kernel) rfl⟩
theorem mb_X8_rightOf : MB mX8_rightOf 1 := ⟨gw_at (i := 1339) (by decide +kernel) rfl, gw_at (i := 91) (by decide +kernel) rfl, by decide, ⟨by decide, by decide⟩, by decide +kernel⟩
theorem mv_X8_310 : MV RX8 310 mX8_rightOf 1 := ⟨mb_X8_rightOf, gw_at (i := 1336) (by decide +kernel) rfl, gw_at (i := 1338) (by decide +kernel) rfl, gw_at (i := 70) (by decide +kernel) rfl⟩
theorem mb_X8_wound : MB mX8_wound 1 := ⟨gw_at (i := 1347) (by decide +kernel) rfl, gw_at (i := 91) (by decide +kernel) rfl, by decide, ⟨by decide, by decide⟩, by decide +kernel⟩
theorem mv_X8_313 : MV RX8 313 mX8_wound 1 := ⟨mb_X8_wound, gw_at (i := 1344) (by decide +kernel) rfl, gw_at (i := 1346) (by decide +kernel) rfl, gw_at (i := 72) (by decide +kernel) rfl⟩
theorem mb_X8_rowsOf : MB mX8_rowsOf 3 := ⟨gw_at (i := 1360) (by decide +kernel) rfl, gw_at (i := 91) (by decide +kernel) rfl, by decide, ⟨by decide, by decide⟩, by decide +kernel⟩
theorem mv_X8_322 : MV RX8 322 mX8_rowsOf 3 := ⟨mb_X8_rowsOf, gw_at (i := 1357) (by decide +kernel) rfl, gw_at (i := 1359) (by decide +kernel) rfl, gw_at (i := 73) (by decide +kernel) rfl⟩
theorem mb_X8_fetches : MB mX8_fetches 4 := ⟨gw_at (i := 1372) (by decide +kernel) rfl, gw_at (i := 91) (by decide +kernel) rfl, by decide, ⟨by decide, by decide⟩, by decide +kernel⟩
theorem mv_X8_333 : MV RX8 333 mX8_fetches 4 := ⟨mb_X8_fetches, gw_at (i := 1369) (by decide +kernel) rfl, gw_at (i := 1371) (by decide +kernel) rfl, gw_at (i := 75) (by decide +kernel) rfl⟩
theorem mb_X8_fetching : MB mX8_fetching 0 := ⟨gw_at (i := 1368) (by decide +kernel) rfl, gw_at (i := 91) (by decide +kernel) rfl, by decide, ⟨by decide, by decide⟩, by decide +kernel⟩
theorem mv_X8_337 : MV RX8 337 mX8_fetching 0 := ⟨mb_X8_fetching, gw_at (i := 1365) (by decide +kernel) rfl, gw_at (i := 1367) (by decide +kernel) rfl, gw_at (i := 74) (by decide +kernel) rfl⟩
theorem mv_X8_347 : MV RX8 347 mX8_drawn 2 := ⟨mb_X8_drawn, gw_at (i := 1397) (by decide +kernel) rfl, gw_at (i := 1386) (by decide +kernel) rfl, gw_at (i := 1387) (by decide +kernel) rfl⟩
theorem mv_X8_360 : MV RX8 360 mX8_cross 2 := ⟨mb_X8_cross, gw_at (i := 1427) (by decide +kernel) rfl, gw_at (i := 1250) (by decide +kernel) rfl, gw_at (i := 1251) (by decide +kernel) rfl⟩
theorem mb_X8_over : MB mX8_over 1 := ⟨gw_at (i := 1434) (by decide +kernel) rfl, gw_at (i := 91) (by decide +kernel) rfl, by decide, ⟨by decide, by decide⟩, by decide +kernel⟩
theorem mv_X8_363 : MS RX8 363 mX8_over 1 := ⟨mb_X8_over, gw_at (i := 1432) (by decide +kernel) rfl, gw_at (i := 1433) (by decide +kernel) rfl⟩
section GL
variable {E : GE} {M : GM} {d mc ms : Nat} {A : Nat → Prop} {Q : Option Value → va_W → Prop} {k n pc : Nat} {st : List Value} {ws : va_W} {ls : List (Option Value)}
theorem g_aload0 {r : List (Option Value)} {x : Nat} (hd : decode M.2.1 pc = .ok (.aload_n 0, 1)) (kk : G E M d mc ms A Q k n (pc + 1) (some (.ref x) :: r) (.ref x :: st) ws) : G E M d mc ms A Q k n pc (some (.ref x) :: r) st ws := g_aload_ng hd rfl kk
theorem g_aload1 {l0 : Option Value} {r : List (Option Value)} {x : Nat} (hd : decode M.2.1 pc = .ok (.aload_n 1, 1)) (kk : G E M d mc ms A Q k n (pc + 1) (l0 :: some (.ref x) :: r) (.ref x :: st) ws) : G E M d mc ms A Q k n pc (l0 :: some (.ref x) :: r) st ws := g_aload_ng hd rfl kk
theorem g_aload2 {l0 l1 : Option Value} {r : List (Option Value)} {x : Nat} (hd : decode M.2.1 pc = .ok (.aload_n 2, 1)) (kk : G E M d mc ms A Q k n (pc + 1) (l0 :: l1 :: some (.ref x) :: r) (.ref x :: st) ws) : G E M d mc ms A Q k n pc (l0 :: l1 :: some (.ref x) :: r) st ws := g_aload_ng hd rfl kk
theorem g_aload3 {l0 l1 l2 : Option Value} {r : List (Option Value)} {x : Nat} (hd : decode M.2.1 pc = .ok (.aload_n 3, 1)) (kk : G E M d mc ms A Q k n (pc + 1) (l0 :: l1 :: l2 :: some (.ref x) :: r) (.ref x :: st) ws) : G E M d mc ms A Q k n pc (l0 :: l1 :: l2 :: some (.ref x) :: r) st ws := g_aload_ng hd rfl kk
theorem g_aload4 {l0 l1 l2 l3 : Option Value} {r : List (Option Value)} {x : Nat} (hd : decode M.2.1 pc = .ok (.aload 4, 2)) (kk : G E M d mc ms A Q k n (pc + 2) (l0 :: l1 :: l2 :: l3 :: some (.ref x) :: r) (.ref x :: st) ws) : G E M d mc ms A Q k n pc (l0 :: l1 :: l2 :: l3 :: some (.ref x) :: r) st ws := g_aload_g hd rfl kk
theorem g_aload5 {l0 l1 l2 l3 l4 : Option Value} {r : List (Option Value)} {x : Nat} (hd : decode M.2.1 pc = .ok (.aload 5, 2)) (kk : G E M d mc ms A Q k n (pc + 2) (l0 :: l1 :: l2 :: l3 :: l4 :: some (.ref x) :: r) (.ref x :: st) ws) : G E M d mc ms A Q k n pc (l0 :: l1 :: l2 :: l3 :: l4 :: some (.ref x) :: r) st ws := g_aload_g hd rfl kk
theorem g_aload6 {l0 l1 l2 l3 l4 l5 : Option Value} {r : List (Option Value)} {x : Nat} (hd : decode M.2.1 pc = .ok (.aload 6, 2)) (kk : G E M d mc ms A Q k n (pc + 2) (l0 :: l1 :: l2 :: l3 :: l4 :: l5 :: some (.ref x) :: r) (.ref x :: st) ws) : G E M d mc ms A Q k n pc (l0 :: l1 :: l2 :: l3 :: l4 :: l5 :: some (.ref x) :: r) st ws := g_aload_g hd rfl kk
theorem g_aload7 {l0 l1 l2 l3 l4 l5 l6 : Option Value} {r : List (Option Value)} {x : Nat} (hd : decode M.2.1 pc = .ok (.aload 7, 2)) (kk : G E M d mc ms A Q k n (pc + 2) (l0 :: l1 :: l2 :: l3 :: l4 :: l5 :: l6 :: some (.ref x) :: r) (.ref x :: st) ws) : G E M d mc ms A Q k n pc (l0 :: l1 :: l2 :: l3 :: l4 :: l5 :: l6 :: some (.ref x) :: r) st ws := g_aload_g hd rfl kk
theorem g_astore1 {l0 l1 : Option Value} {r : List (Option Value)} {x : Nat} (hd : decode M.2.1 pc = .ok (.astore_n 1, 1)) (hn : Nat.ble 2 M.2.2.1 = true) (h1 : g_c1 l0 = true) (kk : G E M d mc ms A Q k n (pc + 1) (l0 :: some (.ref x) :: r) st ws) : G E M d mc ms A Q k n pc (l0 :: l1 :: r) (.ref x :: st) ws := g_astore_ng hd (Nat.le_of_ble_eq_true hn) (fun o ho h0 => by cases ho; exact h1) kk
theorem g_astore2 {l0 l1 l2 : Option Value} {r : List (Option Value)} {x : Nat} (hd : decode M.2.1 pc = .ok (.astore_n 2, 1)) (hn : Nat.ble 3 M.2.2.1 = true) (h1 : g_c1 l1 = true) (kk : G E M d mc ms A Q k n (pc + 1) (l0 :: l1 :: some (.ref x) :: r) st ws) : G E M d mc ms A Q k n pc (l0 :: l1 :: l2 :: r) (.ref x :: st) ws := g_astore_ng hd (Nat.le_of_ble_eq_true hn) (fun o ho h0 => by cases ho; exact h1) kk
theorem g_astore3 {l0 l1 l2 l3 : Option Value} {r : List (Option Value)} {x : Nat} (hd : decode M.2.1 pc = .ok (.astore_n 3, 1)) (hn : Nat.ble 4 M.2.2.1 = true) (h1 : g_c1 l2 = true) (kk : G E M d mc ms A Q k n (pc + 1) (l0 :: l1 :: l2 :: some (.ref x) :: r) st ws) : G E M d mc ms A Q k n pc (l0 :: l1 :: l2 :: l3 :: r) (.ref x :: st) ws := g_astore_ng hd (Nat.le_of_ble_eq_true hn) (fun o ho h0 => by cases ho; exact h1) kk
theorem g_astore4 {l0 l1 l2 l3 l4 : Option Value} {r : List (Option Value)} {x : Nat} (hd : decode M.2.1 pc = .ok (.astore 4, 2)) (hn : Nat.ble 5 M.2.2.1 = true) (h1 : g_c1 l3 = true) (kk : G E M d mc ms A Q k n (pc + 2) (l0 :: l1 :: l2 :: l3 :: some (.ref x) :: r) st ws) : G E M d mc ms A Q k n pc (l0 :: l1 :: l2 :: l3 :: l4 :: r) (.ref x :: st) ws := g_astore_g hd (Nat.le_of_ble_eq_true hn) (fun o ho h0 => by cases ho; exact h1) kk
theorem g_astore5 {l0 l1 l2 l3 l4 l5 : Option Value} {r : List (Option Value)} {x : Nat} (hd : decode M.2.1 pc = .ok (.astore 5, 2)) (hn : Nat.ble 6 M.2.2.1 = true) (h1 : g_c1 l4 = true) (kk : G E M d mc ms A Q k n (pc + 2) (l0 :: l1 :: l2 :: l3 :: l4 :: some (.ref x) :: r) st ws) : G E M d mc ms A Q k n pc (l0 :: l1 :: l2 :: l3 :: l4 :: l5 :: r) (.ref x :: st) ws := g_astore_g hd (Nat.le_of_ble_eq_true hn) (fun o ho h0 => by cases ho; exact h1) kk
theorem g_astore6 {l0 l1 l2 l3 l4 l5 l6 : Option Value} {r : List (Option Value)} {x : Nat} (hd : decode M.2.1 pc = .ok (.astore 6, 2)) (hn : Nat.ble 7 M.2.2.1 = true) (h1 : g_c1 l5 = true) (kk : G E M d mc ms A Q k n (pc + 2) (l0 :: l1 :: l2 :: l3 :: l4 :: l5 :: some (.ref x) :: r) st ws) : G E M d mc ms A Q k n pc (l0 :: l1 :: l2 :: l3 :: l4 :: l5 :: l6 :: r) (.ref x :: st) ws := g_astore_g hd (Nat.le_of_ble_eq_true hn) (fun o ho h0 => by cases ho; exact h1) kk
theorem g_astore7 {l0 l1 l2 l3 l4 l5 l6 l7 : Option Value} {r : List (Option Value)} {x : Nat} (hd : decode M.2.1 pc = .ok (.astore 7, 2)) (hn : Nat.ble 8 M.2.2.1 = true) (h1 : g_c1 l6 = true) (kk : G E M d mc ms A Q k n (pc + 2) (l0 :: l1 :: l2 :: l3 :: l4 :: l5 :: l6 :: some (.ref x) :: r) st ws) : G E M d mc ms A Q k n pc (l0 :: l1 :: l2 :: l3 :: l4 :: l5 :: l6 :: l7 :: r) (.ref x :: st) ws := g_astore_g hd (Nat.le_of_ble_eq_true hn) (fun o ho h0 => by cases ho; exact h1) kk
theorem g_iinc1 {l0 : Option Value} {r : List (Option Value)} {c0 : Int} {x v : Int32} (hv : Int32.ofInt c0 = v) (hd : decode M.2.1 pc = .ok (.iinc 1 c0, 3)) (hn : Nat.ble 2 M.2.2.1 = true) (h1 : g_c1 l0 = true) (kk : G E M d mc ms A Q k n (pc + 3) (l0 :: some (.int (x + v)) :: r) st ws) : G E M d mc ms A Q k n pc (l0 :: some (.int x) :: r) st ws := g_iinc_g hv hd (Nat.le_of_ble_eq_true hn) rfl (fun o ho h0 => by cases ho; exact h1) kk
theorem g_iinc2 {l0 l1 : Option Value} {r : List (Option Value)} {c0 : Int} {x v : Int32} (hv : Int32.ofInt c0 = v) (hd : decode M.2.1 pc = .ok (.iinc 2 c0, 3)) (hn : Nat.ble 3 M.2.2.1 = true) (h1 : g_c1 l1 = true) (kk : G E M d mc ms A Q k n (pc + 3) (l0 :: l1 :: some (.int (x + v)) :: r) st ws) : G E M d mc ms A Q k n pc (l0 :: l1 :: some (.int x) :: r) st ws := g_iinc_g hv hd (Nat.le_of_ble_eq_true hn) rfl (fun o ho h0 => by cases ho; exact h1) kk
theorem g_iinc3 {l0 l1 l2 : Option Value} {r : List (Option Value)} {c0 : Int} {x v : Int32} (hv : Int32.ofInt c0 = v) (hd : decode M.2.1 pc = .ok (.iinc 3 c0, 3)) (hn : Nat.ble 4 M.2.2.1 = true) (h1 : g_c1 l2 = true) (kk : G E M d mc ms A Q k n (pc + 3) (l0 :: l1 :: l2 :: some (.int (x + v)) :: r) st ws) : G E M d mc ms A Q k n pc (l0 :: l1 :: l2 :: some (.int x) :: r) st ws := g_iinc_g hv hd (Nat.le_of_ble_eq_true hn) rfl (fun o ho h0 => by cases ho; exact h1) kk
theorem g_iinc4 {l0 l1 l2 l3 : Option Value} {r : List (Option Value)} {c0 : Int} {x v : Int32} (hv : Int32.ofInt c0 = v) (hd : decode M.2.1 pc = .ok (.iinc 4 c0, 3)) (hn : Nat.ble 5 M.2.2.1 = true) (h1 : g_c1 l3 = true) (kk : G E M d mc ms A Q k n (pc + 3) (l0 :: l1 :: l2 :: l3 :: some (.int (x + v)) :: r) st ws) : G E M d mc ms A Q k n pc (l0 :: l1 :: l2 :: l3 :: some (.int x) :: r) st ws := g_iinc_g hv hd (Nat.le_of_ble_eq_true hn) rfl (fun o ho h0 => by cases ho; exact h1) kk
theorem g_iinc5 {l0 l1 l2 l3 l4 : Option Value} {r : List (Option Value)} {c0 : Int} {x v : Int32} (hv : Int32.ofInt c0 = v) (hd : decode M.2.1 pc = .ok (.iinc 5 c0, 3)) (hn : Nat.ble 6 M.2.2.1 = true) (h1 : g_c1 l4 = true) (kk : G E M d mc ms A Q k n (pc + 3) (l0 :: l1 :: l2 :: l3 :: l4 :: some (.int (x + v)) :: r) st ws) : G E M d mc ms A Q k n pc (l0 :: l1 :: l2 :: l3 :: l4 :: some (.int x) :: r) st ws := g_iinc_g hv hd (Nat.le_of_ble_eq_true hn) rfl (fun o ho h0 => by cases ho; exact h1) kk
theorem g_iinc6 {l0 l1 l2 l3 l4 l5 : Option Value} {r : List (Option Value)} {c0 : Int} {x v : Int32} (hv : Int32.ofInt c0 = v) (hd : decode M.2.1 pc = .ok (.iinc 6 c0, 3)) (hn : Nat.ble 7 M.2.2.1 = true) (h1 : g_c1 l5 = true) (kk : G E M d mc ms A Q k n (pc + 3) (l0 :: l1 :: l2 :: l3 :: l4 :: l5 :: some (.int (x + v)) :: r) st ws) : G E M d mc ms A Q k n pc (l0 :: l1 :: l2 :: l3 :: l4 :: l5 :: some (.int x) :: r) st ws := g_iinc_g hv hd (Nat.le_of_ble_eq_true hn) rfl (fun o ho h0 => by cases ho; exact h1) kk
theorem g_iinc7 {l0 l1 l2 l3 l4 l5 l6 : Option Value} {r : List (Option Value)} {c0 : Int} {x v : Int32} (hv : Int32.ofInt c0 = v) (hd : decode M.2.1 pc = .ok (.iinc 7 c0, 3)) (hn : Nat.ble 8 M.2.2.1 = true) (h1 : g_c1 l6 = true) (kk : G E M d mc ms A Q k n (pc + 3) (l0 :: l1 :: l2 :: l3 :: l4 :: l5 :: l6 :: some (.int (x + v)) :: r) st ws) : G E M d mc ms A Q k n pc (l0 :: l1 :: l2 :: l3 :: l4 :: l5 :: l6 :: some (.int x) :: r) st ws := g_iinc_g hv hd (Nat.le_of_ble_eq_true hn) rfl (fun o ho h0 => by cases ho; exact h1) kk
theorem g_iinc8 {l0 l1 l2 l3 l4 l5 l6 l7 : Option Value} {r : List (Option Value)} {c0 : Int} {x v : Int32} (hv : Int32.ofInt c0 = v) (hd : decode M.2.1 pc = .ok (.iinc 8 c0, 3)) (hn : Nat.ble 9 M.2.2.1 = true) (h1 : g_c1 l7 = true) (kk : G E M d mc ms A Q k n (pc + 3) (l0 :: l1 :: l2 :: l3 :: l4 :: l5 :: l6 :: l7 :: some (.int (x + v)) :: r) st ws) : G E M d mc ms A Q k n pc (l0 :: l1 :: l2 :: l3 :: l4 :: l5 :: l6 :: l7 :: some (.int x) :: r) st ws := g_iinc_g hv hd (Nat.le_of_ble_eq_true hn) rfl (fun o ho h0 => by cases ho; exact h1) kk
theorem g_iload0 {r : List (Option Value)} {x : Int32} (hd : decode M.2.1 pc = .ok (.iload_n 0, 1)) (kk : G E M d mc ms A Q k n (pc + 1) (some (.int x) :: r) (.int x :: st) ws) : G E M d mc ms A Q k n pc (some (.int x) :: r) st ws := g_iload_ng hd rfl kk
theorem g_iload1 {l0 : Option Value} {r : List (Option Value)} {x : Int32} (hd : decode M.2.1 pc = .ok (.iload_n 1, 1)) (kk : G E M d mc ms A Q k n (pc + 1) (l0 :: some (.int x) :: r) (.int x :: st) ws) : G E M d mc ms A Q k n pc (l0 :: some (.int x) :: r) st ws := g_iload_ng hd rfl kk
theorem g_iload2 {l0 l1 : Option Value} {r : List (Option Value)} {x : Int32} (hd : decode M.2.1 pc = .ok (.iload_n 2, 1)) (kk : G E M d mc ms A Q k n (pc + 1) (l0 :: l1 :: some (.int x) :: r) (.int x :: st) ws) : G E M d mc ms A Q k n pc (l0 :: l1 :: some (.int x) :: r) st ws := g_iload_ng hd rfl kk
theorem g_iload3 {l0 l1 l2 : Option Value} {r : List (Option Value)} {x : Int32} (hd : decode M.2.1 pc = .ok (.iload_n 3, 1)) (kk : G E M d mc ms A Q k n (pc + 1) (l0 :: l1 :: l2 :: some (.int x) :: r) (.int x :: st) ws) : G E M d mc ms A Q k n pc (l0 :: l1 :: l2 :: some (.int x) :: r) st ws := g_iload_ng hd rfl kk
theorem g_iload4 {l0 l1 l2 l3 : Option Value} {r : List (Option Value)} {x : Int32} (hd : decode M.2.1 pc = .ok (.iload 4, 2)) (kk : G E M d mc ms A Q k n (pc + 2) (l0 :: l1 :: l2 :: l3 :: some (.int x) :: r) (.int x :: st) ws) : G E M d mc ms A Q k n pc (l0 :: l1 :: l2 :: l3 :: some (.int x) :: r) st ws := g_iload_g hd rfl kk
theorem g_iload5 {l0 l1 l2 l3 l4 : Option Value} {r : List (Option Value)} {x : Int32} (hd : decode M.2.1 pc = .ok (.iload 5, 2)) (kk : G E M d mc ms A Q k n (pc + 2) (l0 :: l1 :: l2 :: l3 :: l4 :: some (.int x) :: r) (.int x :: st) ws) : G E M d mc ms A Q k n pc (l0 :: l1 :: l2 :: l3 :: l4 :: some (.int x) :: r) st ws := g_iload_g hd rfl kk
theorem g_iload6 {l0 l1 l2 l3 l4 l5 : Option Value} {r : List (Option Value)} {x : Int32} (hd : decode M.2.1 pc = .ok (.iload 6, 2)) (kk : G E M d mc ms A Q k n (pc + 2) (l0 :: l1 :: l2 :: l3 :: l4 :: l5 :: some (.int x) :: r) (.int x :: st) ws) : G E M d mc ms A Q k n pc (l0 :: l1 :: l2 :: l3 :: l4 :: l5 :: some (.int x) :: r) st ws := g_iload_g hd rfl kk
theorem g_iload7 {l0 l1 l2 l3 l4 l5 l6 : Option Value} {r : List (Option Value)} {x : Int32} (hd : decode M.2.1 pc = .ok (.iload 7, 2)) (kk : G E M d mc ms A Q k n (pc + 2) (l0 :: l1 :: l2 :: l3 :: l4 :: l5 :: l6 :: some (.int x) :: r) (.int x :: st) ws) : G E M d mc ms A Q k n pc (l0 :: l1 :: l2 :: l3 :: l4 :: l5 :: l6 :: some (.int x) :: r) st ws := g_iload_g hd rfl kk
theorem g_iload8 {l0 l1 l2 l3 l4 l5 l6 l7 : Option Value} {r : List (Option Value)} {x : Int32} (hd : decode M.2.1 pc = .ok (.iload 8, 2)) (kk : G E M d mc ms A Q k n (pc + 2) (l0 :: l1 :: l2 :: l3 :: l4 :: l5 :: l6 :: l7 :: some (.int x) :: r) (.int x :: st) ws) : G E M d mc ms A Q k n pc (l0 :: l1 :: l2 :: l3 :: l4 :: l5 :: l6 :: l7 :: some (.int x) :: r) st ws := g_iload_g hd rfl kk
theorem g_iload9 {l0 l1 l2 l3 l4 l5 l6 l7 l8 : Option Value} {r : List (Option Value)} {x : Int32} (hd : decode M.2.1 pc = .ok (.iload 9, 2)) (kk : G E M d mc ms A Q k n (pc + 2) (l0 :: l1 :: l2 :: l3 :: l4 :: l5 :: l6 :: l7 :: l8 :: some (.int x) :: r) (.int x :: st) ws) : G E M d mc ms A Q k n pc (l0 :: l1 :: l2 :: l3 :: l4 :: l5 :: l6 :: l7 :: l8 :: some (.int x) :: r) st ws := g_iload_g hd rfl kk
theorem g_istore0 {l0 : Option Value} {r : List (Option Value)} {x : Int32} (hd : decode M.2.1 pc = .ok (.istore_n 0, 1)) (hn : Nat.ble 1 M.2.2.1 = true) (kk : G E M d mc ms A Q k n (pc + 1) (some (.int x) :: r) st ws) : G E M d mc ms A Q k n pc (l0 :: r) (.int x :: st) ws := g_istore_ng hd (Nat.le_of_ble_eq_true hn) (fun o ho h0 => absurd h0 (Nat.lt_irrefl _)) kk
theorem g_istore1 {l0 l1 : Option Value} {r : List (Option Value)} {x : Int32} (hd : decode M.2.1 pc = .ok (.istore_n 1, 1)) (hn : Nat.ble 2 M.2.2.1 = true) (h1 : g_c1 l0 = true) (kk : G E M d mc ms A Q k n (pc + 1) (l0 :: some (.int x) :: r) st ws) : G E M d mc ms A Q k n pc (l0 :: l1 :: r) (.int x :: st) ws := g_istore_ng hd (Nat.le_of_ble_eq_true hn) (fun o ho h0 => by cases ho; exact h1) kk
theorem g_istore2 {l0 l1 l2 : Option Value} {r : List (Option Value)} {x : Int32} (hd : decode M.2.1 pc = .ok (.istore_n 2, 1)) (hn : Nat.ble 3 M.2.2.1 = true) (h1 : g_c1 l1 = true) (kk : G E M d mc ms A Q k n (pc + 1) (l0 :: l1 :: some (.int x) :: r) st ws) : G E M d mc ms A Q k n pc (l0 :: l1 :: l2 :: r) (.int x :: st) ws := g_istore_ng hd (Nat.le_of_ble_eq_true hn) (fun o ho h0 => by cases ho; exact h1) kk
theorem g_istore3 {l0 l1 l2 l3 : Option Value} {r : List (Option Value)} {x : Int32} (hd : decode M.2.1 pc = .ok (.istore_n 3, 1)) (hn : Nat.ble 4 M.2.2.1 = true) (h1 : g_c1 l2 = true) (kk : G E M d mc ms A Q k n (pc + 1) (l0 :: l1 :: l2 :: some (.int x) :: r) st ws) : G E M d mc ms A Q k n pc (l0 :: l1 :: l2 :: l3 :: r) (.int x :: st) ws := g_istore_ng hd (Nat.le_of_ble_eq_true hn) (fun o ho h0 => by cases ho; exact h1) kk
theorem g_istore4 {l0 l1 l2 l3 l4 : Option Value} {r : List (Option Value)} {x : Int32} (hd : decode M.2.1 pc = .ok (.istore 4, 2)) (hn : Nat.ble 5 M.2.2.1 = true) (h1 : g_c1 l3 = true) (kk : G E M d mc ms A Q k n (pc + 2) (l0 :: l1 :: l2 :: l3 :: some (.int x) :: r) st ws) : G E M d mc ms A Q k n pc (l0 :: l1 :: l2 :: l3 :: l4 :: r) (.int x :: st) ws := g_istore_g hd (Nat.le_of_ble_eq_true hn) (fun o ho h0 => by cases ho; exact h1) kk
theorem g_istore5 {l0 l1 l2 l3 l4 l5 : Option Value} {r : List (Option Value)} {x : Int32} (hd : decode M.2.1 pc = .ok (.istore 5, 2)) (hn : Nat.ble 6 M.2.2.1 = true) (h1 : g_c1 l4 = true) (kk : G E M d mc ms A Q k n (pc + 2) (l0 :: l1 :: l2 :: l3 :: l4 :: some (.int x) :: r) st ws) : G E M d mc ms A Q k n pc (l0 :: l1 :: l2 :: l3 :: l4 :: l5 :: r) (.int x :: st) ws := g_istore_g hd (Nat.le_of_ble_eq_true hn) (fun o ho h0 => by cases ho; exact h1) kk
theorem g_istore6 {l0 l1 l2 l3 l4 l5 l6 : Option Value} {r : List (Option Value)} {x : Int32} (hd : decode M.2.1 pc = .ok (.istore 6, 2)) (hn : Nat.ble 7 M.2.2.1 = true) (h1 : g_c1 l5 = true) (kk : G E M d mc ms A Q k n (pc + 2) (l0 :: l1 :: l2 :: l3 :: l4 :: l5 :: some (.int x) :: r) st ws) : G E M d mc ms A Q k n pc (l0 :: l1 :: l2 :: l3 :: l4 :: l5 :: l6 :: r) (.int x :: st) ws := g_istore_g hd (Nat.le_of_ble_eq_true hn) (fun o ho h0 => by cases ho; exact h1) kk
theorem g_istore7 {l0 l1 l2 l3 l4 l5 l6 l7 : Option Value} {r : List (Option Value)} {x : Int32} (hd : decode M.2.1 pc = .ok (.istore 7, 2)) (hn : Nat.ble 8 M.2.2.1 = true) (h1 : g_c1 l6 = true) (kk : G E M d mc ms A Q k n (pc + 2) (l0 :: l1 :: l2 :: l3 :: l4 :: l5 :: l6 :: some (.int x) :: r) st ws) : G E M d mc ms A Q k n pc (l0 :: l1 :: l2 :: l3 :: l4 :: l5 :: l6 :: l7 :: r) (.int x :: st) ws := g_istore_g hd (Nat.le_of_ble_eq_true hn) (fun o ho h0 => by cases ho; exact h1) kk
theorem g_istore8 {l0 l1 l2 l3 l4 l5 l6 l7 l8 : Option Value} {r : List (Option Value)} {x : Int32} (hd : decode M.2.1 pc = .ok (.istore 8, 2)) (hn : Nat.ble 9 M.2.2.1 = true) (h1 : g_c1 l7 = true) (kk : G E M d mc ms A Q k n (pc + 2) (l0 :: l1 :: l2 :: l3 :: l4 :: l5 :: l6 :: l7 :: some (.int x) :: r) st ws) : G E M d mc ms A Q k n pc (l0 :: l1 :: l2 :: l3 :: l4 :: l5 :: l6 :: l7 :: l8 :: r) (.int x :: st) ws := g_istore_g hd (Nat.le_of_ble_eq_true hn) (fun o ho h0 => by cases ho; exact h1) kk
theorem g_lload0 {r : List (Option Value)} {x : Int64} (hd : decode M.2.1 pc = .ok (.lload_n 0, 1)) (kk : G E M d mc ms A Q k n (pc + 1) (some (.long x) :: r) (.long x :: st) ws) : G E M d mc ms A Q k n pc (some (.long x) :: r) st ws := g_lload_ng hd rfl kk
theorem g_lload2 {l0 l1 : Option Value} {r : List (Option Value)} {x : Int64} (hd : decode M.2.1 pc = .ok (.lload_n 2, 1)) (kk : G E M d mc ms A Q k n (pc + 1) (l0 :: l1 :: some (.long x) :: r) (.long x :: st) ws) : G E M d mc ms A Q k n pc (l0 :: l1 :: some (.long x) :: r) st ws := g_lload_ng hd rfl kk
theorem g_lload4 {l0 l1 l2 l3 : Option Value} {r : List (Option Value)} {x : Int64} (hd : decode M.2.1 pc = .ok (.lload 4, 2)) (kk : G E M d mc ms A Q k n (pc + 2) (l0 :: l1 :: l2 :: l3 :: some (.long x) :: r) (.long x :: st) ws) : G E M d mc ms A Q k n pc (l0 :: l1 :: l2 :: l3 :: some (.long x) :: r) st ws := g_lload_g hd rfl kk
theorem g_lload6 {l0 l1 l2 l3 l4 l5 : Option Value} {r : List (Option Value)} {x : Int64} (hd : decode M.2.1 pc = .ok (.lload 6, 2)) (kk : G E M d mc ms A Q k n (pc + 2) (l0 :: l1 :: l2 :: l3 :: l4 :: l5 :: some (.long x) :: r) (.long x :: st) ws) : G E M d mc ms A Q k n pc (l0 :: l1 :: l2 :: l3 :: l4 :: l5 :: some (.long x) :: r) st ws := g_lload_g hd rfl kk
theorem g_lload8 {l0 l1 l2 l3 l4 l5 l6 l7 : Option Value} {r : List (Option Value)} {x : Int64} (hd : decode M.2.1 pc = .ok (.lload 8, 2)) (kk : G E M d mc ms A Q k n (pc + 2) (l0 :: l1 :: l2 :: l3 :: l4 :: l5 :: l6 :: l7 :: some (.long x) :: r) (.long x :: st) ws) : G E M d mc ms A Q k n pc (l0 :: l1 :: l2 :: l3 :: l4 :: l5 :: l6 :: l7 :: some (.long x) :: r) st ws := g_lload_g hd rfl kk
theorem g_lload10 {l0 l1 l2 l3 l4 l5 l6 l7 l8 l9 : Option Value} {r : List (Option Value)} {x : Int64} (hd : decode M.2.1 pc = .ok (.lload 10, 2)) (kk : G E M d mc ms A Q k n (pc + 2) (l0 :: l1 :: l2 :: l3 :: l4 :: l5 :: l6 :: l7 :: l8 :: l9 :: some (.long x) :: r) (.long x :: st) ws) : G E M d mc ms A Q k n pc (l0 :: l1 :: l2 :: l3 :: l4 :: l5 :: l6 :: l7 :: l8 :: l9 :: some (.long x) :: r) st ws := g_lload_g hd rfl kk
theorem g_lload12 {l0 l1 l2 l3 l4 l5 l6 l7 l8 l9 l10 l11 : Option Value} {r : List (Option Value)} {x : Int64} (hd : decode M.2.1 pc = .ok (.lload 12, 2)) (kk : G E M d mc ms A Q k n (pc + 2) (l0 :: l1 :: l2 :: l3 :: l4 :: l5 :: l6 :: l7 :: l8 :: l9 :: l10 :: l11 :: some (.long x) :: r) (.long x :: st) ws) : G E M d mc ms A Q k n pc (l0 :: l1 :: l2 :: l3 :: l4 :: l5 :: l6 :: l7 :: l8 :: l9 :: l10 :: l11 :: some (.long x) :: r) st ws := g_lload_g hd rfl kk
theorem g_lstore6 {l0 l1 l2 l3 l4 l5 l6 l7 : Option Value} {r : List (Option Value)} {x : Int64} (hd : decode M.2.1 pc = .ok (.lstore 6, 2)) (hn : Nat.ble 8 M.2.2.1 = true) (h1 : g_c1 l5 = true) (kk : G E M d mc ms A Q k n (pc + 2) (l0 :: l1 :: l2 :: l3 :: l4 :: l5 :: some (.long x) :: none :: r) st ws) : G E M d mc ms A Q k n pc (l0 :: l1 :: l2 :: l3 :: l4 :: l5 :: l6 :: l7 :: r) (.long x :: st) ws := g_lstore_g hd (Nat.le_of_ble_eq_true hn) (fun o ho h0 => by cases ho; exact h1) kk
theorem g_lstore8 {l0 l1 l2 l3 l4 l5 l6 l7 l8 l9 : Option Value} {r : List (Option Value)} {x : Int64} (hd : decode M.2.1 pc = .ok (.lstore 8, 2)) (hn : Nat.ble 10 M.2.2.1 = true) (h1 : g_c1 l7 = true) (kk : G E M d mc ms A Q k n (pc + 2) (l0 :: l1 :: l2 :: l3 :: l4 :: l5 :: l6 :: l7 :: some (.long x) :: none :: r) st ws) : G E M d mc ms A Q k n pc (l0 :: l1 :: l2 :: l3 :: l4 :: l5 :: l6 :: l7 :: l8 :: l9 :: r) (.long x :: st) ws := g_lstore_g hd (Nat.le_of_ble_eq_true hn) (fun o ho h0 => by cases ho; exact h1) kk
theorem g_lstore10 {l0 l1 l2 l3 l4 l5 l6 l7 l8 l9 l10 l11 : Option Value} {r : List (Option Value)} {x : Int64} (hd : decode M.2.1 pc = .ok (.lstore 10, 2)) (hn : Nat.ble 12 M.2.2.1 = true) (h1 : g_c1 l9 = true) (kk : G E M d mc ms A Q k n (pc + 2) (l0 :: l1 :: l2 :: l3 :: l4 :: l5 :: l6 :: l7 :: l8 :: l9 :: some (.long x) :: none :: r) st ws) : G E M d mc ms A Q k n pc (l0 :: l1 :: l2 :: l3 :: l4 :: l5 :: l6 :: l7 :: l8 :: l9 :: l10 :: l11 :: r) (.long x :: st) ws := g_lstore_g hd (Nat.le_of_ble_eq_true hn) (fun o ho h0 => by cases ho; exact h1) kk
theorem g_lstore12 {l0 l1 l2 l3 l4 l5 l6 l7 l8 l9 l10 l11 l12 l13 : Option Value} {r : List (Option Value)} {x : Int64} (hd : decode M.2.1 pc = .ok (.lstore 12, 2)) (hn : Nat.ble 14 M.2.2.1 = true) (h1 : g_c1 l11 = true) (kk : G E M d mc ms A Q k n (pc + 2) (l0 :: l1 :: l2 :: l3 :: l4 :: l5 :: l6 :: l7 :: l8 :: l9 :: l10 :: l11 :: some (.long x) :: none :: r) st ws) : G E M d mc ms A Q k n pc (l0 :: l1 :: l2 :: l3 :: l4 :: l5 :: l6 :: l7 :: l8 :: l9 :: l10 :: l11 :: l12 :: l13 :: r) (.long x :: st) ws := g_lstore_g hd (Nat.le_of_ble_eq_true hn) (fun o ho h0 => by cases ho; exact h1) kk
def g_Ci (E : GE) (M : GM) (d : Nat) (av : List Value) (ws : va_W) (Q : Int32 → va_W → Prop) : Prop := g_C E M d 0 0 av ws (fun v w => ∃ r, v = some (.int r) ∧ Q r w)
def g_Cl (E : GE) (M : GM) (d : Nat) (av : List Value) (ws : va_W) (Q : Int64 → va_W → Prop) : Prop := g_C E M d 0 0 av ws (fun v w => ∃ r, v = some (.long r) ∧ Q r w)
def g_Ca (E : GE) (M : GM) (d : Nat) (av : List Value) (ws : va_W) (Q : Nat → va_W → Prop) : Prop := g_C E M d 0 0 av ws (fun v w => ∃ r, v = some (.ref r) ∧ Q r w)
def g_Cv (E : GE) (M : GM) (d : Nat) (av : List Value) (ws : va_W) (Q : va_W → Prop) : Prop := g_C E M d 0 0 av ws (fun v w => v = none ∧ Q w)
theorem g_Ci.frame {X wc Y : va_W} {av : List Value} {Q0 : Int32 → va_W → Prop} (h : g_Ci E M d av wc Q0) : g_Ci E M d av (X ++ (wc ++ Y)) (fun r w => ∃ w1, Q0 r w1 ∧ w = X ++ (w1 ++ Y)) := g_post (g_frame (X := X) (Y := Y) h) (fun v w hq => by obtain ⟨w1, ⟨r, hv, hq⟩, hw⟩ := hq; exact ⟨r, hv, w1, hq, hw⟩)
theorem g_Cl.frame {X wc Y : va_W} {av : List Value} {Q0 : Int64 → va_W → Prop} (h : g_Cl E M d av wc Q0) : g_Cl E M d av (X ++ (wc ++ Y)) (fun r w => ∃ w1, Q0 r w1 ∧ w = X ++ (w1 ++ Y)) := g_post (g_frame (X := X) (Y := Y) h) (fun v w hq => by obtain ⟨w1, ⟨r, hv, hq⟩, hw⟩ := hq; exact ⟨r, hv, w1, hq, hw⟩)
theorem g_Ca.frame {X wc Y : va_W} {av : List Value} {Q0 : Nat → va_W → Prop} (h : g_Ca E M d av wc Q0) : g_Ca E M d av (X ++ (wc ++ Y)) (fun r w => ∃ w1, Q0 r w1 ∧ w = X ++ (w1 ++ Y)) := g_post (g_frame (X := X) (Y := Y) h) (fun v w hq => by obtain ⟨w1, ⟨r, hv, hq⟩, hw⟩ := hq; exact ⟨r, hv, w1, hq, hw⟩)
theorem g_Cv.frame {X wc Y : va_W} {av : List Value} {Q0 : va_W → Prop} (h : g_Cv E M d av wc Q0) : g_Cv E M d av (X ++ (wc ++ Y)) (fun w => ∃ w1, Q0 w1 ∧ w = X ++ (w1 ++ Y)) := g_post (g_frame (X := X) (Y := Y) h) (fun v w hq => by obtain ⟨w1, ⟨hv, hq⟩, hw⟩ := hq; exact ⟨hv, w1, hq, hw⟩)
/-- no cells of its own: the world stays -/
theorem g_Ci.none {av : List Value} {Q0 : Int32 → va_W → Prop} (h : g_Ci E M d av [] Q0) : g_Ci E M d av ws (fun r w => (∃ w1, Q0 r (w1 ++ []) ∧ w = w1 ++ ws)) := g_post (g_frame (X := []) (Y := ws) h) (fun v w hq => by obtain ⟨w1, ⟨r, hv, hq⟩, hw⟩ := hq; exact ⟨r, hv, w1, by rw [List.append_nil]; exact hq, by simpa using hw⟩)
theorem g_S1a {M' : GM} {idx : Nat} {v1 : Value} {Q0 : Nat → va_W → Prop} (hd : decode M.2.1 pc = .ok (.invokestatic idx, 3)) (hm : MS M.1.cls idx M' 1) (hr : Nat.ble (st.map fun v => v.category).sum 8 = true) (hk : k ≤ mc) (hk2 : n ≤ ms) (hC : g_Ca E M' d [v1] ws Q0) (kk : ∀ (r : Nat) (w : va_W), Q0 r w → G E M (d + 1) mc ms A Q k n (pc + 3) ls (.ref r :: st) w) : G E M (d + 1) mc ms A Q k n pc ls (v1 :: st) ws :=
  g_callS (As := [v1]) (rest := st) hd hm rfl (Nat.le_of_ble_eq_true hr) hC hk hk2 (fun v w hq => by obtain ⟨r, rfl, hq⟩ := hq; exact kk r w hq)
theorem g_S1i {M' : GM} {idx : Nat} {v1 : Value} {Q0 : Int32 → va_W → Prop} (hd : decode M.2.1 pc = .ok (.invokestatic idx, 3)) (hm : MS M.1.cls idx M' 1) (hr : Nat.ble (st.map fun v => v.category).sum 8 = true) (hk : k ≤ mc) (hk2 : n ≤ ms) (hC : g_Ci E M' d [v1] ws Q0) (kk : ∀ (r : Int32) (w : va_W), Q0 r w → G E M (d + 1) mc ms A Q k n (pc + 3) ls (.int r :: st) w) : G E M (d + 1) mc ms A Q k n pc ls (v1 :: st) ws :=
  g_callS (As := [v1]) (rest := st) hd hm rfl (Nat.le_of_ble_eq_true hr) hC hk hk2 (fun v w hq => by obtain ⟨r, rfl, hq⟩ := hq; exact kk r w hq)
theorem g_S2i {M' : GM} {idx : Nat} {v1 v2 : Value} {Q0 : Int32 → va_W → Prop} (hd : decode M.2.1 pc = .ok (.invokestatic idx, 3)) (hm : MS M.1.cls idx M' 2) (hr : Nat.ble (st.map fun v => v.category).sum 8 = true) (hk : k ≤ mc) (hk2 : n ≤ ms) (hC : g_Ci E M' d [v1, v2] ws Q0) (kk : ∀ (r : Int32) (w : va_W), Q0 r w → G E M (d + 1) mc ms A Q k n (pc + 3) ls (.int r :: st) w) : G E M (d + 1) mc ms A Q k n pc ls (v2 :: v1 :: st) ws :=
  g_callS (As := [v1, v2]) (rest := st) hd hm rfl (Nat.le_of_ble_eq_true hr) hC hk hk2 (fun v w hq => by obtain ⟨r, rfl, hq⟩ := hq; exact kk r w hq)
theorem g_S2v {M' : GM} {idx : Nat} {v1 v2 : Value} {Q0 : va_W → Prop} (hd : decode M.2.1 pc = .ok (.invokestatic idx, 3)) (hm : MS M.1.cls idx M' 2) (hr : Nat.ble (st.map fun v => v.category).sum 8 = true) (hk : k ≤ mc) (hk2 : n ≤ ms) (hC : g_Cv E M' d [v1, v2] ws Q0) (kk : ∀ (w : va_W), Q0 w → G E M (d + 1) mc ms A Q k n (pc + 3) ls st w) : G E M (d + 1) mc ms A Q k n pc ls (v2 :: v1 :: st) ws :=
  g_callS (As := [v1, v2]) (rest := st) hd hm rfl (Nat.le_of_ble_eq_true hr) hC hk hk2 (fun v w hq => by obtain ⟨rfl, hq⟩ := hq; exact kk w hq)
theorem g_S3i {M' : GM} {idx : Nat} {v1 v2 v3 : Value} {Q0 : Int32 → va_W → Prop} (hd : decode M.2.1 pc = .ok (.invokestatic idx, 3)) (hm : MS M.1.cls idx M' 3) (hr : Nat.ble (st.map fun v => v.category).sum 8 = true) (hk : k ≤ mc) (hk2 : n ≤ ms) (hC : g_Ci E M' d [v1, v2, v3] ws Q0) (kk : ∀ (r : Int32) (w : va_W), Q0 r w → G E M (d + 1) mc ms A Q k n (pc + 3) ls (.int r :: st) w) : G E M (d + 1) mc ms A Q k n pc ls (v3 :: v2 :: v1 :: st) ws :=
  g_callS (As := [v1, v2, v3]) (rest := st) hd hm rfl (Nat.le_of_ble_eq_true hr) hC hk hk2 (fun v w hq => by obtain ⟨r, rfl, hq⟩ := hq; exact kk r w hq)
theorem g_S3v {M' : GM} {idx : Nat} {v1 v2 v3 : Value} {Q0 : va_W → Prop} (hd : decode M.2.1 pc = .ok (.invokestatic idx, 3)) (hm : MS M.1.cls idx M' 3) (hr : Nat.ble (st.map fun v => v.category).sum 8 = true) (hk : k ≤ mc) (hk2 : n ≤ ms) (hC : g_Cv E M' d [v1, v2, v3] ws Q0) (kk : ∀ (w : va_W), Q0 w → G E M (d + 1) mc ms A Q k n (pc + 3) ls st w) : G E M (d + 1) mc ms A Q k n pc ls (v3 :: v2 :: v1 :: st) ws :=
  g_callS (As := [v1, v2, v3]) (rest := st) hd hm rfl (Nat.le_of_ble_eq_true hr) hC hk hk2 (fun v w hq => by obtain ⟨rfl, hq⟩ := hq; exact kk w hq)
theorem g_S4i {M' : GM} {idx : Nat} {v1 v2 v3 v4 : Value} {Q0 : Int32 → va_W → Prop} (hd : decode M.2.1 pc = .ok (.invokestatic idx, 3)) (hm : MS M.1.cls idx M' 4) (hr : Nat.ble (st.map fun v => v.category).sum 8 = true) (hk : k ≤ mc) (hk2 : n ≤ ms) (hC : g_Ci E M' d [v1, v2, v3, v4] ws Q0) (kk : ∀ (r : Int32) (w : va_W), Q0 r w → G E M (d + 1) mc ms A Q k n (pc + 3) ls (.int r :: st) w) : G E M (d + 1) mc ms A Q k n pc ls (v4 :: v3 :: v2 :: v1 :: st) ws :=
  g_callS (As := [v1, v2, v3, v4]) (rest := st) hd hm rfl (Nat.le_of_ble_eq_true hr) hC hk hk2 (fun v w hq => by obtain ⟨r, rfl, hq⟩ := hq; exact kk r w hq)
theorem g_SN1i {M' : GM} {idx : Nat} {v1 : Value} {Q0 : Int32 → va_W → Prop} (hd : decode M.2.1 pc = .ok (.invokestatic idx, 3)) (hm : MSN E M.1.cls idx M' 1) (hr : Nat.ble (st.map fun v => v.category).sum 8 = true) (hk : k ≤ mc) (hk2 : n ≤ ms) (hC : g_Ci E M' d [v1] ws Q0) (kk : ∀ (r : Int32) (w : va_W), Q0 r w → G E M (d + 1) mc ms A Q k n (pc + 3) ls (.int r :: st) w) : G E M (d + 1) mc ms A Q k n pc ls (v1 :: st) ws :=
  g_callSN (As := [v1]) (rest := st) hd hm rfl (Nat.le_of_ble_eq_true hr) hC hk hk2 (fun v w hq => by obtain ⟨r, rfl, hq⟩ := hq; exact kk r w hq)
theorem g_SN3i {M' : GM} {idx : Nat} {v1 v2 v3 : Value} {Q0 : Int32 → va_W → Prop} (hd : decode M.2.1 pc = .ok (.invokestatic idx, 3)) (hm : MSN E M.1.cls idx M' 3) (hr : Nat.ble (st.map fun v => v.category).sum 8 = true) (hk : k ≤ mc) (hk2 : n ≤ ms) (hC : g_Ci E M' d [v1, v2, v3] ws Q0) (kk : ∀ (r : Int32) (w : va_W), Q0 r w → G E M (d + 1) mc ms A Q k n (pc + 3) ls (.int r :: st) w) : G E M (d + 1) mc ms A Q k n pc ls (v3 :: v2 :: v1 :: st) ws :=
  g_callSN (As := [v1, v2, v3]) (rest := st) hd hm rfl (Nat.le_of_ble_eq_true hr) hC hk hk2 (fun v w hq => by obtain ⟨r, rfl, hq⟩ := hq; exact kk r w hq)
theorem g_V0i {M' : GM} {idx b ci : Nat} {fs : List Value} {Q0 : Int32 → va_W → Prop} (hd : decode M.2.1 pc = .ok (.invokevirtual idx, 3)) (hm : MV M.1.cls idx M' 0) (i : Nat) (he : ws[i]? = some (b, .inr (ci, fs))) (hci : vwCl[ci]?.map (fun r => r.1) = some M'.1.cls) (hr : Nat.ble (st.map fun v => v.category).sum 8 = true) (hk : k ≤ mc) (hk2 : n ≤ ms) (hC : g_Ci E M' d (.ref b :: []) ws Q0) (kk : ∀ (r : Int32) (w : va_W), Q0 r w → G E M (d + 1) mc ms A Q k n (pc + 3) ls (.int r :: st) w) : G E M (d + 1) mc ms A Q k n pc ls (.ref b :: st) ws :=
  g_callV (As := []) (rest := st) hd hm he hci rfl (Nat.le_of_ble_eq_true hr) hC hk hk2 (fun v w hq => by obtain ⟨r, rfl, hq⟩ := hq; exact kk r w hq)
theorem g_V0v {M' : GM} {idx b ci : Nat} {fs : List Value} {Q0 : va_W → Prop} (hd : decode M.2.1 pc = .ok (.invokevirtual idx, 3)) (hm : MV M.1.cls idx M' 0) (i : Nat) (he : ws[i]? = some (b, .inr (ci, fs))) (hci : vwCl[ci]?.map (fun r => r.1) = some M'.1.cls) (hr : Nat.ble (st.map fun v => v.category).sum 8 = true) (hk : k ≤ mc) (hk2 : n ≤ ms) (hC : g_Cv E M' d (.ref b :: []) ws Q0) (kk : ∀ (w : va_W), Q0 w → G E M (d + 1) mc ms A Q k n (pc + 3) ls st w) : G E M (d + 1) mc ms A Q k n pc ls (.ref b :: st) ws :=
  g_callV (As := []) (rest := st) hd hm he hci rfl (Nat.le_of_ble_eq_true hr) hC hk hk2 (fun v w hq => by obtain ⟨rfl, hq⟩ := hq; exact kk w hq)
theorem g_V1i {M' : GM} {idx b ci : Nat} {fs : List Value} {v1 : Value} {Q0 : Int32 → va_W → Prop} (hd : decode M.2.1 pc = .ok (.invokevirtual idx, 3)) (hm : MV M.1.cls idx M' 1) (i : Nat) (he : ws[i]? = some (b, .inr (ci, fs))) (hci : vwCl[ci]?.map (fun r => r.1) = some M'.1.cls) (hr : Nat.ble (st.map fun v => v.category).sum 8 = true) (hk : k ≤ mc) (hk2 : n ≤ ms) (hC : g_Ci E M' d (.ref b :: [v1]) ws Q0) (kk : ∀ (r : Int32) (w : va_W), Q0 r w → G E M (d + 1) mc ms A Q k n (pc + 3) ls (.int r :: st) w) : G E M (d + 1) mc ms A Q k n pc ls (v1 :: .ref b :: st) ws :=
  g_callV (As := [v1]) (rest := st) hd hm he hci rfl (Nat.le_of_ble_eq_true hr) hC hk hk2 (fun v w hq => by obtain ⟨r, rfl, hq⟩ := hq; exact kk r w hq)
theorem g_V1v {M' : GM} {idx b ci : Nat} {fs : List Value} {v1 : Value} {Q0 : va_W → Prop} (hd : decode M.2.1 pc = .ok (.invokevirtual idx, 3)) (hm : MV M.1.cls idx M' 1) (i : Nat) (he : ws[i]? = some (b, .inr (ci, fs))) (hci : vwCl[ci]?.map (fun r => r.1) = some M'.1.cls) (hr : Nat.ble (st.map fun v => v.category).sum 8 = true) (hk : k ≤ mc) (hk2 : n ≤ ms) (hC : g_Cv E M' d (.ref b :: [v1]) ws Q0) (kk : ∀ (w : va_W), Q0 w → G E M (d + 1) mc ms A Q k n (pc + 3) ls st w) : G E M (d + 1) mc ms A Q k n pc ls (v1 :: .ref b :: st) ws :=
  g_callV (As := [v1]) (rest := st) hd hm he hci rfl (Nat.le_of_ble_eq_true hr) hC hk hk2 (fun v w hq => by obtain ⟨rfl, hq⟩ := hq; exact kk w hq)
theorem g_V2i {M' : GM} {idx b ci : Nat} {fs : List Value} {v1 v2 : Value} {Q0 : Int32 → va_W → Prop} (hd : decode M.2.1 pc = .ok (.invokevirtual idx, 3)) (hm : MV M.1.cls idx M' 2) (i : Nat) (he : ws[i]? = some (b, .inr (ci, fs))) (hci : vwCl[ci]?.map (fun r => r.1) = some M'.1.cls) (hr : Nat.ble (st.map fun v => v.category).sum 8 = true) (hk : k ≤ mc) (hk2 : n ≤ ms) (hC : g_Ci E M' d (.ref b :: [v1, v2]) ws Q0) (kk : ∀ (r : Int32) (w : va_W), Q0 r w → G E M (d + 1) mc ms A Q k n (pc + 3) ls (.int r :: st) w) : G E M (d + 1) mc ms A Q k n pc ls (v2 :: v1 :: .ref b :: st) ws :=
  g_callV (As := [v1, v2]) (rest := st) hd hm he hci rfl (Nat.le_of_ble_eq_true hr) hC hk hk2 (fun v w hq => by obtain ⟨r, rfl, hq⟩ := hq; exact kk r w hq)
theorem g_V2v {M' : GM} {idx b ci : Nat} {fs : List Value} {v1 v2 : Value} {Q0 : va_W → Prop} (hd : decode M.2.1 pc = .ok (.invokevirtual idx, 3)) (hm : MV M.1.cls idx M' 2) (i : Nat) (he : ws[i]? = some (b, .inr (ci, fs))) (hci : vwCl[ci]?.map (fun r => r.1) = some M'.1.cls) (hr : Nat.ble (st.map fun v => v.category).sum 8 = true) (hk : k ≤ mc) (hk2 : n ≤ ms) (hC : g_Cv E M' d (.ref b :: [v1, v2]) ws Q0) (kk : ∀ (w : va_W), Q0 w → G E M (d + 1) mc ms A Q k n (pc + 3) ls st w) : G E M (d + 1) mc ms A Q k n pc ls (v2 :: v1 :: .ref b :: st) ws :=
  g_callV (As := [v1, v2]) (rest := st) hd hm he hci rfl (Nat.le_of_ble_eq_true hr) hC hk hk2 (fun v w hq => by obtain ⟨rfl, hq⟩ := hq; exact kk w hq)
theorem g_V3i {M' : GM} {idx b ci : Nat} {fs : List Value} {v1 v2 v3 : Value} {Q0 : Int32 → va_W → Prop} (hd : decode M.2.1 pc = .ok (.invokevirtual idx, 3)) (hm : MV M.1.cls idx M' 3) (i : Nat) (he : ws[i]? = some (b, .inr (ci, fs))) (hci : vwCl[ci]?.map (fun r => r.1) = some M'.1.cls) (hr : Nat.ble (st.map fun v => v.category).sum 8 = true) (hk : k ≤ mc) (hk2 : n ≤ ms) (hC : g_Ci E M' d (.ref b :: [v1, v2, v3]) ws Q0) (kk : ∀ (r : Int32) (w : va_W), Q0 r w → G E M (d + 1) mc ms A Q k n (pc + 3) ls (.int r :: st) w) : G E M (d + 1) mc ms A Q k n pc ls (v3 :: v2 :: v1 :: .ref b :: st) ws :=
  g_callV (As := [v1, v2, v3]) (rest := st) hd hm he hci rfl (Nat.le_of_ble_eq_true hr) hC hk hk2 (fun v w hq => by obtain ⟨r, rfl, hq⟩ := hq; exact kk r w hq)
theorem g_V3v {M' : GM} {idx b ci : Nat} {fs : List Value} {v1 v2 v3 : Value} {Q0 : va_W → Prop} (hd : decode M.2.1 pc = .ok (.invokevirtual idx, 3)) (hm : MV M.1.cls idx M' 3) (i : Nat) (he : ws[i]? = some (b, .inr (ci, fs))) (hci : vwCl[ci]?.map (fun r => r.1) = some M'.1.cls) (hr : Nat.ble (st.map fun v => v.category).sum 8 = true) (hk : k ≤ mc) (hk2 : n ≤ ms) (hC : g_Cv E M' d (.ref b :: [v1, v2, v3]) ws Q0) (kk : ∀ (w : va_W), Q0 w → G E M (d + 1) mc ms A Q k n (pc + 3) ls st w) : G E M (d + 1) mc ms A Q k n pc ls (v3 :: v2 :: v1 :: .ref b :: st) ws :=
  g_callV (As := [v1, v2, v3]) (rest := st) hd hm he hci rfl (Nat.le_of_ble_eq_true hr) hC hk hk2 (fun v w hq => by obtain ⟨rfl, hq⟩ := hq; exact kk w hq)
theorem g_V4i {M' : GM} {idx b ci : Nat} {fs : List Value} {v1 v2 v3 v4 : Value} {Q0 : Int32 → va_W → Prop} (hd : decode M.2.1 pc = .ok (.invokevirtual idx, 3)) (hm : MV M.1.cls idx M' 4) (i : Nat) (he : ws[i]? = some (b, .inr (ci, fs))) (hci : vwCl[ci]?.map (fun r => r.1) = some M'.1.cls) (hr : Nat.ble (st.map fun v => v.category).sum 8 = true) (hk : k ≤ mc) (hk2 : n ≤ ms) (hC : g_Ci E M' d (.ref b :: [v1, v2, v3, v4]) ws Q0) (kk : ∀ (r : Int32) (w : va_W), Q0 r w → G E M (d + 1) mc ms A Q k n (pc + 3) ls (.int r :: st) w) : G E M (d + 1) mc ms A Q k n pc ls (v4 :: v3 :: v2 :: v1 :: .ref b :: st) ws :=
  g_callV (As := [v1, v2, v3, v4]) (rest := st) hd hm he hci rfl (Nat.le_of_ble_eq_true hr) hC hk hk2 (fun v w hq => by obtain ⟨r, rfl, hq⟩ := hq; exact kk r w hq)
theorem g_V4v {M' : GM} {idx b ci : Nat} {fs : List Value} {v1 v2 v3 v4 : Value} {Q0 : va_W → Prop} (hd : decode M.2.1 pc = .ok (.invokevirtual idx, 3)) (hm : MV M.1.cls idx M' 4) (i : Nat) (he : ws[i]? = some (b, .inr (ci, fs))) (hci : vwCl[ci]?.map (fun r => r.1) = some M'.1.cls) (hr : Nat.ble (st.map fun v => v.category).sum 8 = true) (hk : k ≤ mc) (hk2 : n ≤ ms) (hC : g_Cv E M' d (.ref b :: [v1, v2, v3, v4]) ws Q0) (kk : ∀ (w : va_W), Q0 w → G E M (d + 1) mc ms A Q k n (pc + 3) ls st w) : G E M (d + 1) mc ms A Q k n pc ls (v4 :: v3 :: v2 :: v1 :: .ref b :: st) ws :=
  g_callV (As := [v1, v2, v3, v4]) (rest := st) hd hm he hci rfl (Nat.le_of_ble_eq_true hr) hC hk hk2 (fun v w hq => by obtain ⟨rfl, hq⟩ := hq; exact kk w hq)
theorem g_V5i {M' : GM} {idx b ci : Nat} {fs : List Value} {v1 v2 v3 v4 v5 : Value} {Q0 : Int32 → va_W → Prop} (hd : decode M.2.1 pc = .ok (.invokevirtual idx, 3)) (hm : MV M.1.cls idx M' 5) (i : Nat) (he : ws[i]? = some (b, .inr (ci, fs))) (hci : vwCl[ci]?.map (fun r => r.1) = some M'.1.cls) (hr : Nat.ble (st.map fun v => v.category).sum 8 = true) (hk : k ≤ mc) (hk2 : n ≤ ms) (hC : g_Ci E M' d (.ref b :: [v1, v2, v3, v4, v5]) ws Q0) (kk : ∀ (r : Int32) (w : va_W), Q0 r w → G E M (d + 1) mc ms A Q k n (pc + 3) ls (.int r :: st) w) : G E M (d + 1) mc ms A Q k n pc ls (v5 :: v4 :: v3 :: v2 :: v1 :: .ref b :: st) ws :=
  g_callV (As := [v1, v2, v3, v4, v5]) (rest := st) hd hm he hci rfl (Nat.le_of_ble_eq_true hr) hC hk hk2 (fun v w hq => by obtain ⟨r, rfl, hq⟩ := hq; exact kk r w hq)
theorem g_V5l {M' : GM} {idx b ci : Nat} {fs : List Value} {v1 v2 v3 v4 v5 : Value} {Q0 : Int64 → va_W → Prop} (hd : decode M.2.1 pc = .ok (.invokevirtual idx, 3)) (hm : MV M.1.cls idx M' 5) (i : Nat) (he : ws[i]? = some (b, .inr (ci, fs))) (hci : vwCl[ci]?.map (fun r => r.1) = some M'.1.cls) (hr : Nat.ble (st.map fun v => v.category).sum 8 = true) (hk : k ≤ mc) (hk2 : n ≤ ms) (hC : g_Cl E M' d (.ref b :: [v1, v2, v3, v4, v5]) ws Q0) (kk : ∀ (r : Int64) (w : va_W), Q0 r w → G E M (d + 1) mc ms A Q k n (pc + 3) ls (.long r :: st) w) : G E M (d + 1) mc ms A Q k n pc ls (v5 :: v4 :: v3 :: v2 :: v1 :: .ref b :: st) ws :=
  g_callV (As := [v1, v2, v3, v4, v5]) (rest := st) hd hm he hci rfl (Nat.le_of_ble_eq_true hr) hC hk hk2 (fun v w hq => by obtain ⟨r, rfl, hq⟩ := hq; exact kk r w hq)
theorem g_V5v {M' : GM} {idx b ci : Nat} {fs : List Value} {v1 v2 v3 v4 v5 : Value} {Q0 : va_W → Prop} (hd : decode M.2.1 pc = .ok (.invokevirtual idx, 3)) (hm : MV M.1.cls idx M' 5) (i : Nat) (he : ws[i]? = some (b, .inr (ci, fs))) (hci : vwCl[ci]?.map (fun r => r.1) = some M'.1.cls) (hr : Nat.ble (st.map fun v => v.category).sum 8 = true) (hk : k ≤ mc) (hk2 : n ≤ ms) (hC : g_Cv E M' d (.ref b :: [v1, v2, v3, v4, v5]) ws Q0) (kk : ∀ (w : va_W), Q0 w → G E M (d + 1) mc ms A Q k n (pc + 3) ls st w) : G E M (d + 1) mc ms A Q k n pc ls (v5 :: v4 :: v3 :: v2 :: v1 :: .ref b :: st) ws :=
  g_callV (As := [v1, v2, v3, v4, v5]) (rest := st) hd hm he hci rfl (Nat.le_of_ble_eq_true hr) hC hk hk2 (fun v w hq => by obtain ⟨rfl, hq⟩ := hq; exact kk w hq)
theorem g_V8i {M' : GM} {idx b ci : Nat} {fs : List Value} {v1 v2 v3 v4 v5 v6 v7 v8 : Value} {Q0 : Int32 → va_W → Prop} (hd : decode M.2.1 pc = .ok (.invokevirtual idx, 3)) (hm : MV M.1.cls idx M' 8) (i : Nat) (he : ws[i]? = some (b, .inr (ci, fs))) (hci : vwCl[ci]?.map (fun r => r.1) = some M'.1.cls) (hr : Nat.ble (st.map fun v => v.category).sum 8 = true) (hk : k ≤ mc) (hk2 : n ≤ ms) (hC : g_Ci E M' d (.ref b :: [v1, v2, v3, v4, v5, v6, v7, v8]) ws Q0) (kk : ∀ (r : Int32) (w : va_W), Q0 r w → G E M (d + 1) mc ms A Q k n (pc + 3) ls (.int r :: st) w) : G E M (d + 1) mc ms A Q k n pc ls (v8 :: v7 :: v6 :: v5 :: v4 :: v3 :: v2 :: v1 :: .ref b :: st) ws :=
  g_callV (As := [v1, v2, v3, v4, v5, v6, v7, v8]) (rest := st) hd hm he hci rfl (Nat.le_of_ble_eq_true hr) hC hk hk2 (fun v w hq => by obtain ⟨r, rfl, hq⟩ := hq; exact kk r w hq)
theorem g_V9v {M' : GM} {idx b ci : Nat} {fs : List Value} {v1 v2 v3 v4 v5 v6 v7 v8 v9 : Value} {Q0 : va_W → Prop} (hd : decode M.2.1 pc = .ok (.invokevirtual idx, 3)) (hm : MV M.1.cls idx M' 9) (i : Nat) (he : ws[i]? = some (b, .inr (ci, fs))) (hci : vwCl[ci]?.map (fun r => r.1) = some M'.1.cls) (hr : Nat.ble (st.map fun v => v.category).sum 8 = true) (hk : k ≤ mc) (hk2 : n ≤ ms) (hC : g_Cv E M' d (.ref b :: [v1, v2, v3, v4, v5, v6, v7, v8, v9]) ws Q0) (kk : ∀ (w : va_W), Q0 w → G E M (d + 1) mc ms A Q k n (pc + 3) ls st w) : G E M (d + 1) mc ms A Q k n pc ls (v9 :: v8 :: v7 :: v6 :: v5 :: v4 :: v3 :: v2 :: v1 :: .ref b :: st) ws :=
  g_callV (As := [v1, v2, v3, v4, v5, v6, v7, v8, v9]) (rest := st) hd hm he hci rfl (Nat.le_of_ble_eq_true hr) hC hk hk2 (fun v w hq => by obtain ⟨rfl, hq⟩ := hq; exact kk w hq)
end GL
