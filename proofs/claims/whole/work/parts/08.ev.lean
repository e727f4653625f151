/-! methods, fields and calls, by program -/
abbrev m_X0_init : mM := (yX0_init, cX0_init, 1, none)
abbrev m_X0_clear : mM := (yX0_clear, cX0_clear, 1, none)
abbrev m_X0_close : mM := (yX0_close, cX0_close, 4, none)
abbrev m_X0_bind : mM := (yX0_bind, cX0_bind, 6, none)
abbrev m_X0_ancestorsOf : mM := (yX0_ancestorsOf, cX0_ancestorsOf, 4, (some .int))
abbrev m_X0_fewestSteps : mM := (yX0_fewestSteps, cX0_fewestSteps, 7, (some .int))
abbrev m_X0_degreeOf : mM := (yX0_degreeOf, cX0_degreeOf, 3, (some .int))
abbrev m_X0_isWithin : mM := (yX0_isWithin, cX0_isWithin, 5, (some .boolean))
abbrev m_X0_knownBy : mM := (yX0_knownBy, cX0_knownBy, 4, (some .int))
abbrev m_X1_init : mM := (yX1_init, cX1_init, 1, none)
abbrev m_X1_clear : mM := (yX1_clear, cX1_clear, 1, none)
abbrev m_X1_add : mM := (yX1_add, cX1_add, 2, none)
abbrev m_X1_isTold : mM := (yX1_isTold, cX1_isTold, 1, (some .boolean))
abbrev m_X1_valueFor : mM := (yX1_valueFor, cX1_valueFor, 8, (some .int))
abbrev m_X1_leaf : mM := (yX1_leaf, cX1_leaf, 5, (some .int))
abbrev m_X1_joined : mM := (yX1_joined, cX1_joined, 3, (some .int))
abbrev m_X1_truth : mM := (yX1_truth, cX1_truth, 1, (some .int))
abbrev m_X2_init : mM := (yX2_init, cX2_init, 1, none)
abbrev m_X2_restart : mM := (yX2_restart, cX2_restart, 2, none)
abbrev m_X2_add : mM := (yX2_add, cX2_add, 2, none)
abbrev m_X2_stepBack : mM := (yX2_stepBack, cX2_stepBack, 2, (some .boolean))
abbrev m_X2_stepOn : mM := (yX2_stepOn, cX2_stepOn, 2, (some .boolean))
abbrev m_X2_load : mM := (yX2_load, cX2_load, 2, none)
abbrev m_X3_init : mM := (yX3_init, cX3_init, 2, none)
abbrev m_X3_spouseOf : mM := (yX3_spouseOf, cX3_spouseOf, 4, (some .int))
abbrev m_X3_wedBeside : mM := (yX3_wedBeside, cX3_wedBeside, 5, (some .int))
abbrev m_X3_barOf : mM := (yX3_barOf, cX3_barOf, 3, (some .int))
abbrev m_X3_barBetween : mM := (yX3_barBetween, cX3_barBetween, 6, (some .int))
abbrev m_X3_risersOf : mM := (yX3_risersOf, cX3_risersOf, 9, (some .int))
abbrev m_X3_sittersIn : mM := (yX3_sittersIn, cX3_sittersIn, 5, (some .int))
abbrev m_X3_presentIn : mM := (yX3_presentIn, cX3_presentIn, 7, (some .int))
abbrev m_X3_calledNext : mM := (yX3_calledNext, cX3_calledNext, 4, (some .int))
abbrev m_X3_takesCall : mM := (yX3_takesCall, cX3_takesCall, 3, (some .boolean))
abbrev m_X3_readIn : mM := (yX3_readIn, cX3_readIn, 6, (some .int))
abbrev m_X3_earOf : mM := (yX3_earOf, cX3_earOf, 9, (some .int))
abbrev m_X3_hearersOf : mM := (yX3_hearersOf, cX3_hearersOf, 7, (some .int))
abbrev m_X3_quietOf : mM := (yX3_quietOf, cX3_quietOf, 9, (some .int))
abbrev m_X3_keepSunday : mM := (yX3_keepSunday, cX3_keepSunday, 5, (some .int))
abbrev m_X3_isWedWhenRead : mM := (yX3_isWedWhenRead, cX3_isWedWhenRead, 4, (some .boolean))
abbrev m_X3_isRisenAgainst : mM := (yX3_isRisenAgainst, cX3_isRisenAgainst, 6, (some .boolean))
abbrev m_X4_init : mM := (yX4_init, cX4_init, 3, none)
abbrev m_X4_begin : mM := (yX4_begin, cX4_begin, 2, none)
abbrev m_X4_readsLine : mM := (yX4_readsLine, cX4_readsLine, 2, (some .boolean))
abbrev m_X4_refuse : mM := (yX4_refuse, cX4_refuse, 2, (some .boolean))
abbrev m_X4_churchLine : mM := (yX4_churchLine, cX4_churchLine, 1, (some .boolean))
abbrev m_X4_personLine : mM := (yX4_personLine, cX4_personLine, 4, (some .boolean))
abbrev m_X4_parents : mM := (yX4_parents, cX4_parents, 3, (some .boolean))
abbrev m_X4_vowAndSailing : mM := (yX4_vowAndSailing, cX4_vowAndSailing, 2, (some .boolean))
abbrev m_X4_linkLine : mM := (yX4_linkLine, cX4_linkLine, 8, (some .boolean))
abbrev m_X4_pairLine : mM := (yX4_pairLine, cX4_pairLine, 3, (some .boolean))
abbrev m_X4_pairPlaces : mM := (yX4_pairPlaces, cX4_pairPlaces, 5, (some .boolean))
abbrev m_X4_settingLine : mM := (yX4_settingLine, cX4_settingLine, 5, (some .boolean))
abbrev m_X4_hearsLine : mM := (yX4_hearsLine, cX4_hearsLine, 1, (some .boolean))
abbrev m_X4_isFirst : mM := (yX4_isFirst, cX4_isFirst, 2, (some .boolean))
abbrev m_X4_isNewName : mM := (yX4_isNewName, cX4_isNewName, 2, (some .boolean))
abbrev m_X4_takePerson : mM := (yX4_takePerson, cX4_takePerson, 3, (some .int))
abbrev m_X4_takeChurch : mM := (yX4_takeChurch, cX4_takeChurch, 2, (some .int))
abbrev m_X4_nameHere : mM := (yX4_nameHere, cX4_nameHere, 2, (some .int))
abbrev m_X4_number : mM := (yX4_number, cX4_number, 4, (some .int))
abbrev m_X4_word : mM := (yX4_word, cX4_word, 2, (some .boolean))
abbrev m_X4_sign : mM := (yX4_sign, cX4_sign, 2, (some .boolean))
abbrev m_X4_either : mM := (yX4_either, cX4_either, 4, (some .boolean))
abbrev m_X4_both : mM := (yX4_both, cX4_both, 4, (some .boolean))
abbrev m_X4_one : mM := (yX4_one, cX4_one, 3, (some .boolean))
abbrev m_X4_relation : mM := (yX4_relation, cX4_relation, 4, (some .boolean))
abbrev m_X4_sum : mM := (yX4_sum, cX4_sum, 5, (some .boolean))
abbrev m_X4_term : mM := (yX4_term, cX4_term, 5, (some .boolean))
abbrev m_X4_isTermSign : mM := (yX4_isTermSign, cX4_isTermSign, 1, (some .boolean))
abbrev m_X4_unit : mM := (yX4_unit, cX4_unit, 4, (some .boolean))
abbrev m_X4_leafCode : mM := (yX4_leafCode, cX4_leafCode, 1, (some .int))
abbrev m_X5_init : mM := (yX5_init, cX5_init, 1, none)
abbrev m_X5_tell : mM := (yX5_tell, cX5_tell, 5, (some .int))
abbrev m_X5_takeBack : mM := (yX5_takeBack, cX5_takeBack, 2, (some .boolean))
abbrev m_X5_passTime : mM := (yX5_passTime, cX5_passTime, 2, (some .int))
abbrev m_X5_fitting : mM := (yX5_fitting, cX5_fitting, 6, (some .int))
abbrev m_X5_isFitting : mM := (yX5_isFitting, cX5_isFitting, 6, (some .boolean))
abbrev m_X5_counts : mM := (yX5_counts, cX5_counts, 4, (some .boolean))
abbrev m_X5_isSo : mM := (yX5_isSo, cX5_isSo, 6, (some .boolean))
abbrev m_X6_init : mM := (yX6_init, cX6_init, 1, none)
abbrev m_X6_bestSet : mM := (yX6_bestSet, cX6_bestSet, 6, (some .int))
abbrev m_X6_mark : mM := (yX6_mark, cX6_mark, 3, none)
abbrev m_X6_isMarked : mM := (yX6_isMarked, cX6_isMarked, 3, (some .boolean))
abbrev m_X6_better : mM := (yX6_better, cX6_better, 3, (some .int))
abbrev m_X6_openPairs : mM := (yX6_openPairs, cX6_openPairs, 4, (some .int))
abbrev m_X6_readingsDue : mM := (yX6_readingsDue, cX6_readingsDue, 4, (some .int))
abbrev m_X6_presentPairs : mM := (yX6_presentPairs, cX6_presentPairs, 5, (some .int))
abbrev m_X6_weighSets : mM := (yX6_weighSets, cX6_weighSets, 6, none)
abbrev m_X6_fits : mM := (yX6_fits, cX6_fits, 2, (some .boolean))
abbrev m_X6_callsIn : mM := (yX6_callsIn, cX6_callsIn, 6, (some .int))
abbrev m_X6_passSunday : mM := (yX6_passSunday, cX6_passSunday, 6, none)
abbrev m_X6_readFrom : mM := (yX6_readFrom, cX6_readFrom, 4, none)
abbrev m_X6_isFull : mM := (yX6_isFull, cX6_isFull, 5, (some .boolean))
abbrev m_X6_ones : mM := (yX6_ones, cX6_ones, 3, (some .int))
abbrev m_X6_unfinished : mM := (yX6_unfinished, cX6_unfinished, 3, (some .int))
abbrev m_X7_init : mM := (yX7_init, cX7_init, 1, none)
abbrev m_X7_begin : mM := (yX7_begin, cX7_begin, 2, none)
abbrev m_X7_copyFrom : mM := (yX7_copyFrom, cX7_copyFrom, 2, none)
abbrev m_X7_seat : mM := (yX7_seat, cX7_seat, 2, (some .int))
abbrev m_X7_setSeat : mM := (yX7_setSeat, cX7_setSeat, 3, none)
abbrev m_X7_status : mM := (yX7_status, cX7_status, 2, (some .int))
abbrev m_X7_setStatus : mM := (yX7_setStatus, cX7_setStatus, 3, none)
abbrev m_X7_pairsThatAre : mM := (yX7_pairsThatAre, cX7_pairsThatAre, 4, (some .int))
abbrev m_X7_churchOne : mM := (yX7_churchOne, cX7_churchOne, 2, (some .int))
abbrev m_X7_churchOther : mM := (yX7_churchOther, cX7_churchOther, 2, (some .int))
abbrev m_X7_isReadIn : mM := (yX7_isReadIn, cX7_isReadIn, 3, (some .boolean))
abbrev m_X7_setChurches : mM := (yX7_setChurches, cX7_setChurches, 4, none)
abbrev m_X7_readings : mM := (yX7_readings, cX7_readings, 2, (some .int))
abbrev m_X7_addReading : mM := (yX7_addReading, cX7_addReading, 2, none)
abbrev m_X7_sundays : mM := (yX7_sundays, cX7_sundays, 1, (some .int))
abbrev m_X7_nextSunday : mM := (yX7_nextSunday, cX7_nextSunday, 1, (some .int))
abbrev m_X7_endSunday : mM := (yX7_endSunday, cX7_endSunday, 1, none)
abbrev m_X7_seed : mM := (yX7_seed, cX7_seed, 1, (some .int))
abbrev m_X7_drawTenth : mM := (yX7_drawTenth, cX7_drawTenth, 1, (some .int))
abbrev m_X8_init : mM := (yX8_init, cX8_init, 4, none)
abbrev m_X8_hasRoom : mM := (yX8_hasRoom, cX8_hasRoom, 2, (some .boolean))
abbrev m_X8_put : mM := (yX8_put, cX8_put, 3, none)
abbrev m_X8_rewind : mM := (yX8_rewind, cX8_rewind, 1, none)
abbrev m_X8_advance : mM := (yX8_advance, cX8_advance, 2, none)
abbrev m_X8_isWord : mM := (yX8_isWord, cX8_isWord, 2, (some .boolean))
abbrev m_X8_isSign : mM := (yX8_isSign, cX8_isSign, 2, (some .boolean))
abbrev m_X8_takeWord : mM := (yX8_takeWord, cX8_takeWord, 2, none)
abbrev m_X8_takeNumber : mM := (yX8_takeNumber, cX8_takeNumber, 1, none)
abbrev m_X8_takeSign : mM := (yX8_takeSign, cX8_takeSign, 2, none)
abbrev m_X8_byteAt : mM := (yX8_byteAt, cX8_byteAt, 2, (some .int))
abbrev m_X8_withLetter : mM := (yX8_withLetter, cX8_withLetter, 3, (some .long))
abbrev m_X8_isBlank : mM := (yX8_isBlank, cX8_isBlank, 1, (some .boolean))
abbrev m_X8_isLetter : mM := (yX8_isLetter, cX8_isLetter, 1, (some .boolean))
abbrev m_X8_isDigit : mM := (yX8_isDigit, cX8_isDigit, 1, (some .boolean))
abbrev m_X9_init : mM := (yX9_init, cX9_init, 1, none)
abbrev m_X9_clear : mM := (yX9_clear, cX9_clear, 1, none)
abbrev m_X9_hasChurch : mM := (yX9_hasChurch, cX9_hasChurch, 2, (some .boolean))
abbrev m_X9_hasPerson : mM := (yX9_hasPerson, cX9_hasPerson, 2, (some .boolean))
abbrev m_X9_hasPair : mM := (yX9_hasPair, cX9_hasPair, 2, (some .boolean))
abbrev m_X9_findChurch : mM := (yX9_findChurch, cX9_findChurch, 3, (some .int))
abbrev m_X9_findPerson : mM := (yX9_findPerson, cX9_findPerson, 3, (some .int))
abbrev m_X9_pairedWith : mM := (yX9_pairedWith, cX9_pairedWith, 4, (some .int))
abbrev m_X9_pairMask : mM := (yX9_pairMask, cX9_pairMask, 2, (some .int))
abbrev m_X9_addChurch : mM := (yX9_addChurch, cX9_addChurch, 3, none)
abbrev m_X9_describe : mM := (yX9_describe, cX9_describe, 4, none)
abbrev m_X9_addPair : mM := (yX9_addPair, cX9_addPair, 5, none)
abbrev m_X9_set : mM := (yX9_set, cX9_set, 3, none)
abbrev m_X9_isAway : mM := (yX9_isAway, cX9_isAway, 3, (some .boolean))
abbrev m_X9_isPairAway : mM := (yX9_isPairAway, cX9_isPairAway, 3, (some .boolean))
abbrev m_X9_find : mM := (yX9_find, cX9_find, 5, (some .int))
abbrev m_X10_init : mM := (yX10_init, cX10_init, 1, none)
abbrev m_X10_feed : mM := (yX10_feed, cX10_feed, 6, (some .int))
abbrev m_X10_end : mM := (yX10_end, cX10_end, 2, (some .int))
abbrev m_X10_town : mM := (yX10_town, cX10_town, 3, (some .int))
abbrev m_X10_fault : mM := (yX10_fault, cX10_fault, 2, (some .int))
abbrev m_X10_person : mM := (yX10_person, cX10_person, 3, (some .int))
abbrev m_X10_pair : mM := (yX10_pair, cX10_pair, 3, (some .int))
abbrev m_X10_degree : mM := (yX10_degree, cX10_degree, 3, (some .int))
abbrev m_X10_ancestors : mM := (yX10_ancestors, cX10_ancestors, 2, (some .int))
abbrev m_X10_hearing : mM := (yX10_hearing, cX10_hearing, 2, (some .int))
abbrev m_X10_church : mM := (yX10_church, cX10_church, 3, (some .int))
abbrev m_X10_sit : mM := (yX10_sit, cX10_sit, 4, (some .int))
abbrev m_X10_move : mM := (yX10_move, cX10_move, 4, (some .int))
abbrev m_X10_licence : mM := (yX10_licence, cX10_licence, 2, (some .boolean))
abbrev m_X10_sunday : mM := (yX10_sunday, cX10_sunday, 2, (some .int))
abbrev m_X10_undo : mM := (yX10_undo, cX10_undo, 1, (some .boolean))
abbrev m_X10_redo : mM := (yX10_redo, cX10_redo, 1, (some .boolean))
abbrev m_X10_quiet : mM := (yX10_quiet, cX10_quiet, 7, (some .int))
abbrev m_X10_quietest : mM := (yX10_quietest, cX10_quietest, 8, (some .int))
abbrev m_X10_hush : mM := (yX10_hush, cX10_hush, 4, (some .int))
abbrev m_X10_will : mM := (yX10_will, cX10_will, 5, (some .int))
abbrev m_X10_settles : mM := (yX10_settles, cX10_settles, 3, (some .int))
abbrev m_X10_season : mM := (yX10_season, cX10_season, 3, (some .int))
abbrev m_X10_law : mM := (yX10_law, cX10_law, 2, (some .int))
abbrev m_X10_free : mM := (yX10_free, cX10_free, 4, (some .int))
abbrev m_X10_sits : mM := (yX10_sits, cX10_sits, 3, (some .int))
abbrev m_X10_knew : mM := (yX10_knew, cX10_knew, 3, (some .int))
abbrev m_X10_kin : mM := (yX10_kin, cX10_kin, 4, (some .int))
abbrev m_X10_untell : mM := (yX10_untell, cX10_untell, 2, (some .boolean))
abbrev m_X10_later : mM := (yX10_later, cX10_later, 2, (some .int))
abbrev m_X10_meant : mM := (yX10_meant, cX10_meant, 2, (some .int))
abbrev m_X10_ask : mM := (yX10_ask, cX10_ask, 9, (some .int))
abbrev m_X10_image : mM := (yX10_image, cX10_image, 2, (some .int))
abbrev m_X10_back : mM := (yX10_back, cX10_back, 2, (some .int))
abbrev m_X10_about : mM := (yX10_about, cX10_about, 2, (some .int))
abbrev m_X10_settleIn : mM := (yX10_settleIn, cX10_settleIn, 1, none)
abbrev m_X10_isOpen : mM := (yX10_isOpen, cX10_isOpen, 2, (some .boolean))
abbrev m_X10_openWithin : mM := (yX10_openWithin, cX10_openWithin, 4, (some .int))
abbrev m_X10_greatestCommon : mM := (yX10_greatestCommon, cX10_greatestCommon, 6, (some .int))
abbrev m_X11_init : mM := (yX11_init, cX11_init, 1, none)
abbrev m_X11_feed : mM := (yX11_feed, cX11_feed, 6, (some .int))
abbrev m_X11_four : mM := (yX11_four, cX11_four, 3, none)
abbrev m_X11_end : mM := (yX11_end, cX11_end, 2, (some .int))
abbrev m_X11_here : mM := (yX11_here, cX11_here, 2, (some .int))
abbrev m_X11_isLetter : mM := (yX11_isLetter, cX11_isLetter, 1, (some .boolean))
abbrev m_X11_isDigit : mM := (yX11_isDigit, cX11_isDigit, 1, (some .boolean))
abbrev m_X11_isSign : mM := (yX11_isSign, cX11_isSign, 1, (some .boolean))
abbrev m_X11_token : mM := (yX11_token, cX11_token, 3, none)
abbrev m_X11_wrong : mM := (yX11_wrong, cX11_wrong, 2, none)
abbrev m_X11_isWord : mM := (yX11_isWord, cX11_isWord, 3, (some .boolean))
abbrev m_X11_isOwn : mM := (yX11_isOwn, cX11_isOwn, 1, (some .boolean))
abbrev m_X11_isName : mM := (yX11_isName, cX11_isName, 1, (some .boolean))
abbrev m_X11_want : mM := (yX11_want, cX11_want, 3, none)
abbrev m_X11_toldNumber : mM := (yX11_toldNumber, cX11_toldNumber, 4, (some .int))
abbrev m_X11_told : mM := (yX11_told, cX11_told, 5, (some .int))
abbrev m_X11_takes : mM := (yX11_takes, cX11_takes, 4, (some .boolean))
abbrev m_X11_find : mM := (yX11_find, cX11_find, 5, (some .int))
abbrev m_X11_newName : mM := (yX11_newName, cX11_newName, 3, none)
abbrev m_X11_oldName : mM := (yX11_oldName, cX11_oldName, 3, (some .int))
abbrev m_X11_oldPerson : mM := (yX11_oldPerson, cX11_oldPerson, 1, (some .int))
abbrev m_X11_church : mM := (yX11_church, cX11_church, 2, (some .int))
abbrev m_X11_add : mM := (yX11_add, cX11_add, 3, none)
abbrev m_X11_tight : mM := (yX11_tight, cX11_tight, 1, (some .int))
abbrev m_X11_close : mM := (yX11_close, cX11_close, 2, none)
abbrev m_X11_hasRelation : mM := (yX11_hasRelation, cX11_hasRelation, 2, (some .boolean))
abbrev m_X11_mayNot : mM := (yX11_mayNot, cX11_mayNot, 1, (some .boolean))
abbrev m_X11_asked : mM := (yX11_asked, cX11_asked, 1, (some .int))
abbrev m_X11_isFull : mM := (yX11_isFull, cX11_isFull, 1, (some .boolean))
abbrev m_X11_countUnit : mM := (yX11_countUnit, cX11_countUnit, 1, none)
abbrev m_X11_openUp : mM := (yX11_openUp, cX11_openUp, 2, none)
abbrev m_X11_unit : mM := (yX11_unit, cX11_unit, 3, none)
abbrev m_X11_sign : mM := (yX11_sign, cX11_sign, 1, (some .int))
abbrev m_X11_hasBracket : mM := (yX11_hasBracket, cX11_hasBracket, 3, (some .boolean))
abbrev m_X11_readHears : mM := (yX11_readHears, cX11_readHears, 3, none)
abbrev m_X11_truth : mM := (yX11_truth, cX11_truth, 1, (some .int))
abbrev m_X11_done : mM := (yX11_done, cX11_done, 3, (some .int))
abbrev m_X11_heard : mM := (yX11_heard, cX11_heard, 3, (some .int))
abbrev m_X11_readChurch : mM := (yX11_readChurch, cX11_readChurch, 1, none)
abbrev m_X11_readParents : mM := (yX11_readParents, cX11_readParents, 3, none)
abbrev m_X11_readPerson : mM := (yX11_readPerson, cX11_readPerson, 2, none)
abbrev m_X11_readKnows : mM := (yX11_readKnows, cX11_readKnows, 3, none)
abbrev m_X11_readSpites : mM := (yX11_readSpites, cX11_readSpites, 3, none)
abbrev m_X11_isPairTold : mM := (yX11_isPairTold, cX11_isPairTold, 5, (some .boolean))
abbrev m_X11_readPair : mM := (yX11_readPair, cX11_readPair, 4, none)
abbrev m_X11_readLine : mM := (yX11_readLine, cX11_readLine, 1, none)
abbrev m_X11_readAll : mM := (yX11_readAll, cX11_readAll, 1, none)
abbrev m_X11_town : mM := (yX11_town, cX11_town, 2, (some .int))
abbrev m_X11_fault : mM := (yX11_fault, cX11_fault, 2, (some .int))
abbrev m_X11_isIn : mM := (yX11_isIn, cX11_isIn, 3, (some .boolean))
abbrev m_X11_isPerson : mM := (yX11_isPerson, cX11_isPerson, 2, (some .boolean))
abbrev m_X11_isChurch : mM := (yX11_isChurch, cX11_isChurch, 2, (some .boolean))
abbrev m_X11_isPair : mM := (yX11_isPair, cX11_isPair, 2, (some .boolean))
abbrev m_X11_layAncestors : mM := (yX11_layAncestors, cX11_layAncestors, 6, none)
abbrev m_X11_degreeOf : mM := (yX11_degreeOf, cX11_degreeOf, 7, (some .int))
abbrev m_X11_degree : mM := (yX11_degree, cX11_degree, 3, (some .int))
abbrev m_X11_ancestors : mM := (yX11_ancestors, cX11_ancestors, 4, (some .int))
abbrev m_X11_isParent : mM := (yX11_isParent, cX11_isParent, 3, (some .boolean))
abbrev m_X11_knownTo : mM := (yX11_knownTo, cX11_knownTo, 4, (some .int))
abbrev m_X11_load : mM := (yX11_load, cX11_load, 2, none)
abbrev m_X11_stateOf : mM := (yX11_stateOf, cX11_stateOf, 2, (some .int))
abbrev m_X11_isOf : mM := (yX11_isOf, cX11_isOf, 3, (some .boolean))
abbrev m_X11_wedWith : mM := (yX11_wedWith, cX11_wedWith, 5, (some .int))
abbrev m_X11_areKin : mM := (yX11_areKin, cX11_areKin, 4, (some .boolean))
abbrev m_X11_barOf : mM := (yX11_barOf, cX11_barOf, 4, (some .int))
abbrev m_X11_wouldRise : mM := (yX11_wouldRise, cX11_wouldRise, 4, (some .boolean))
abbrev m_X11_risersOf : mM := (yX11_risersOf, cX11_risersOf, 4, (some .int))
abbrev m_X11_isAwayOn : mM := (yX11_isAwayOn, cX11_isAwayOn, 3, (some .boolean))
abbrev m_X11_nextSunday : mM := (yX11_nextSunday, cX11_nextSunday, 1, (some .int))
abbrev m_X11_isAway : mM := (yX11_isAway, cX11_isAway, 2, (some .boolean))
abbrev m_X11_isAt : mM := (yX11_isAt, cX11_isAt, 3, (some .boolean))
abbrev m_X11_layRead : mM := (yX11_layRead, cX11_layRead, 4, none)
abbrev m_X11_seatedIn : mM := (yX11_seatedIn, cX11_seatedIn, 4, (some .int))
abbrev m_X11_hearingOf : mM := (yX11_hearingOf, cX11_hearingOf, 2, (some .int))
abbrev m_X11_loadRead : mM := (yX11_loadRead, cX11_loadRead, 1, none)
abbrev m_X11_draw : mM := (yX11_draw, cX11_draw, 1, (some .int))
abbrev m_X11_isRisen : mM := (yX11_isRisen, cX11_isRisen, 4, (some .boolean))
abbrev m_X11_goSunday : mM := (yX11_goSunday, cX11_goSunday, 3, (some .int))
abbrev m_X11_person : mM := (yX11_person, cX11_person, 3, (some .int))
abbrev m_X11_pair : mM := (yX11_pair, cX11_pair, 3, (some .int))
abbrev m_X11_hearing : mM := (yX11_hearing, cX11_hearing, 2, (some .int))
abbrev m_X11_church_ : mM := (yX11_church_, cX11_church_, 5, (some .int))
abbrev m_X11_act : mM := (yX11_act, cX11_act, 2, none)
abbrev m_X11_exchange : mM := (yX11_exchange, cX11_exchange, 4, none)
abbrev m_X11_sit : mM := (yX11_sit, cX11_sit, 4, (some .int))
abbrev m_X11_isOpen : mM := (yX11_isOpen, cX11_isOpen, 2, (some .boolean))
abbrev m_X11_move : mM := (yX11_move, cX11_move, 4, (some .int))
abbrev m_X11_licence : mM := (yX11_licence, cX11_licence, 2, (some .boolean))
abbrev m_X11_sunday : mM := (yX11_sunday, cX11_sunday, 3, (some .int))
abbrev m_X11_undo : mM := (yX11_undo, cX11_undo, 1, (some .boolean))
abbrev m_X11_redo : mM := (yX11_redo, cX11_redo, 1, (some .boolean))
abbrev m_X11_divisor : mM := (yX11_divisor, cX11_divisor, 5, (some .int))
abbrev m_X11_layQuiet : mM := (yX11_layQuiet, cX11_layQuiet, 6, none)
abbrev m_X11_quiet : mM := (yX11_quiet, cX11_quiet, 6, (some .int))
abbrev m_X11_quietest : mM := (yX11_quietest, cX11_quietest, 10, (some .int))
abbrev m_X11_members : mM := (yX11_members, cX11_members, 3, (some .int))
abbrev m_X11_hush : mM := (yX11_hush, cX11_hush, 6, (some .int))
abbrev m_X11_will : mM := (yX11_will, cX11_will, 5, (some .int))
abbrev m_X11_settles : mM := (yX11_settles, cX11_settles, 3, (some .int))
abbrev m_X11_dueOf : mM := (yX11_dueOf, cX11_dueOf, 2, (some .int))
abbrev m_X11_firstRow : mM := (yX11_firstRow, cX11_firstRow, 4, (some .int))
abbrev m_X11_mayRead : mM := (yX11_mayRead, cX11_mayRead, 4, (some .boolean))
abbrev m_X11_readOn : mM := (yX11_readOn, cX11_readOn, 8, (some .int))
abbrev m_X11_goSeason : mM := (yX11_goSeason, cX11_goSeason, 5, none)
abbrev m_X11_readBy : mM := (yX11_readBy, cX11_readBy, 4, (some .int))
abbrev m_X11_season : mM := (yX11_season, cX11_season, 5, (some .int))
abbrev m_X11_kinPairs : mM := (yX11_kinPairs, cX11_kinPairs, 4, (some .int))
abbrev m_X11_law : mM := (yX11_law, cX11_law, 2, (some .int))
abbrev m_X11_isFree : mM := (yX11_isFree, cX11_isFree, 2, (some .boolean))
abbrev m_X11_free : mM := (yX11_free, cX11_free, 4, (some .int))
abbrev m_X11_tell : mM := (yX11_tell, cX11_tell, 5, (some .int))
abbrev m_X11_sits : mM := (yX11_sits, cX11_sits, 3, (some .int))
abbrev m_X11_knew : mM := (yX11_knew, cX11_knew, 3, (some .int))
abbrev m_X11_kin : mM := (yX11_kin, cX11_kin, 4, (some .int))
abbrev m_X11_untell : mM := (yX11_untell, cX11_untell, 2, (some .boolean))
abbrev m_X11_later : mM := (yX11_later, cX11_later, 2, (some .int))
abbrev m_X11_isSo : mM := (yX11_isSo, cX11_isSo, 3, (some .boolean))
abbrev m_X11_isMeant : mM := (yX11_isMeant, cX11_isMeant, 5, (some .boolean))
abbrev m_X11_meant : mM := (yX11_meant, cX11_meant, 4, (some .int))
abbrev m_X11_ask : mM := (yX11_ask, cX11_ask, 9, (some .int))
abbrev m_X11_isBox : mM := (yX11_isBox, cX11_isBox, 1, (some .boolean))
abbrev m_X11_image : mM := (yX11_image, cX11_image, 3, (some .int))
abbrev m_X11_back : mM := (yX11_back, cX11_back, 3, (some .int))
abbrev m_X11_pairsThatAre : mM := (yX11_pairsThatAre, cX11_pairsThatAre, 4, (some .int))
abbrev m_X11_about : mM := (yX11_about, cX11_about, 2, (some .int))
abbrev m_J11_isValidCodePoint_9a6ad : mM := (yJ11_isValidCodePoint_9a6ad, cJ11_isValidCodePoint_9a6ad, 2, (some .boolean))
abbrev m_J11_highSurrogate_5068e : mM := (yJ11_highSurrogate_5068e, cJ11_highSurrogate_5068e, 1, (some .char))
abbrev m_J11_lowSurrogate_5068e : mM := (yJ11_lowSurrogate_5068e, cJ11_lowSurrogate_5068e, 1, (some .char))
abbrev m_J6_bitCount_0f7a4 : mM := (yJ6_bitCount_0f7a4, cJ6_bitCount_0f7a4, 1, (some .int))
abbrev m_J9_max_7cf53 : mM := (yJ9_max_7cf53, cJ9_max_7cf53, 2, (some .int))
abbrev m_J9_min_7cf53 : mM := (yJ9_min_7cf53, cJ9_min_7cf53, 2, (some .int))
abbrev m_J0_length_8abf5 : mM := (yJ0_length_8abf5, cJ0_length_8abf5, 1, (some .int))
abbrev m_J0_charAt_5068e : mM := (yJ0_charAt_5068e, cJ0_charAt_5068e, 2, (some .char))
abbrev m_J0_indexOf_0f7a4 : mM := (yJ0_indexOf_0f7a4, cJ0_indexOf_0f7a4, 2, (some .int))
abbrev m_J0_indexOf_7cf53 : mM := (yJ0_indexOf_7cf53, cJ0_indexOf_7cf53, 3, (some .int))
abbrev m_J0_coder_7d493 : mM := (yJ0_coder_7d493, cJ0_coder_7d493, 1, (some .byte))
abbrev m_J0_isLatin1_aae02 : mM := (yJ0_isLatin1_aae02, cJ0_isLatin1_aae02, 1, (some .boolean))
abbrev m_J0_checkIndex_df160 : mM := (yJ0_checkIndex_df160, cJ0_checkIndex_df160, 2, none)
abbrev m_J0_checkBoundsBeginEnd_23922 : mM := (yJ0_checkBoundsBeginEnd_23922, cJ0_checkBoundsBeginEnd_23922, 3, none)
abbrev m_J1_charAt_3b067 : mM := (yJ1_charAt_3b067, cJ1_charAt_3b067, 2, (some .char))
abbrev m_J1_canEncode_9a6ad : mM := (yJ1_canEncode_9a6ad, cJ1_canEncode_9a6ad, 1, (some .boolean))
abbrev m_J1_indexOf_4cfef : mM := (yJ1_indexOf_4cfef, cJ1_indexOf_4cfef, 4, (some .int))
abbrev m_J1_indexOfChar_4cfef : mM := (yJ1_indexOfChar_4cfef, cJ1_indexOfChar_4cfef, 6, (some .int))
abbrev m_J2_getChar_3b067 : mM := (yJ2_getChar_3b067, cJ2_getChar_3b067, 2, (some .char))
abbrev m_J2_length_9d52b : mM := (yJ2_length_9d52b, cJ2_length_9d52b, 1, (some .int))
abbrev m_J2_indexOf_4cfef : mM := (yJ2_indexOf_4cfef, cJ2_indexOf_4cfef, 4, (some .int))
abbrev m_J2_indexOfChar_4cfef : mM := (yJ2_indexOfChar_4cfef, cJ2_indexOfChar_4cfef, 4, (some .int))
abbrev m_J2_indexOfCharUnsafe_4cfef : mM := (yJ2_indexOfCharUnsafe_4cfef, cJ2_indexOfCharUnsafe_4cfef, 5, (some .int))
abbrev m_J2_indexOfSupplementary_4cfef : mM := (yJ2_indexOfSupplementary_4cfef, cJ2_indexOfSupplementary_4cfef, 7, (some .int))
abbrev m_J2_charAt_3b067 : mM := (yJ2_charAt_3b067, cJ2_charAt_3b067, 2, (some .char))
abbrev m_J2_checkIndex_2214a : mM := (yJ2_checkIndex_2214a, cJ2_checkIndex_2214a, 2, none)
abbrev m_J2_checkBoundsBeginEnd_d044e : mM := (yJ2_checkBoundsBeginEnd_d044e, cJ2_checkBoundsBeginEnd_d044e, 3, none)
abbrev m_J7_fill_53178 : mM := (yJ7_fill_53178, cJ7_fill_53178, 4, none)
abbrev m_J3_checkIndex_8e157 : mM := (yJ3_checkIndex_8e157, cJ3_checkIndex_8e157, 3, (some .int))
abbrev m_J3_checkFromToIndex_8c36e : mM := (yJ3_checkFromToIndex_8c36e, cJ3_checkFromToIndex_8c36e, 4, (some .int))
abbrev m_L_law : mM := (yL_law, cL_law, 4, some .boolean)
theorem in_1 {w : Cond} (h : w ∈ tables_1_1) : w ∈ tables_1 := List.mem_append_left _ h
theorem in_2 {w : Cond} (h : w ∈ tables_1_2) : w ∈ tables_1 := List.mem_append_right _ (List.mem_append_left _ h)
theorem in_3 {w : Cond} (h : w ∈ tables_1_3) : w ∈ tables_1 := List.mem_append_right _ (List.mem_append_right _ (List.mem_append_left _ h))
theorem in_4 {w : Cond} (h : w ∈ tables_1_4) : w ∈ tables_1 := List.mem_append_right _ (List.mem_append_right _ (List.mem_append_right _ (List.mem_append_left _ h)))
theorem in_5 {w : Cond} (h : w ∈ tables_1_5) : w ∈ tables_1 := List.mem_append_right _ (List.mem_append_right _ (List.mem_append_right _ (List.mem_append_right _ (List.mem_append_left _ h))))
theorem in_6 {w : Cond} (h : w ∈ tables_1_6) : w ∈ tables_1 := List.mem_append_right _ (List.mem_append_right _ (List.mem_append_right _ (List.mem_append_right _ (List.mem_append_right _ (List.mem_append_left _ h)))))
theorem in_7 {w : Cond} (h : w ∈ tables_1_7) : w ∈ tables_1 := List.mem_append_right _ (List.mem_append_right _ (List.mem_append_right _ (List.mem_append_right _ (List.mem_append_right _ (List.mem_append_right _ (List.mem_append_left _ h))))))
theorem in_8 {w : Cond} (h : w ∈ tables_1_8) : w ∈ tables_1 := List.mem_append_right _ (List.mem_append_right _ (List.mem_append_right _ (List.mem_append_right _ (List.mem_append_right _ (List.mem_append_right _ (List.mem_append_right _ (List.mem_append_left _ h)))))))
theorem in_9 {w : Cond} (h : w ∈ tables_1_9) : w ∈ tables_1 := List.mem_append_right _ (List.mem_append_right _ (List.mem_append_right _ (List.mem_append_right _ (List.mem_append_right _ (List.mem_append_right _ (List.mem_append_right _ (List.mem_append_right _ (h))))))))
set_option maxRecDepth 100000 in
theorem f_X10_10 : mF "ThreeSundays" 10 10 12 0 := ⟨Nat.le_of_ble_eq_true rfl, _, rfl, rfl, Nat.le_of_ble_eq_true rfl, gw_of (in_2 (List.mem_of_getElem? (i := 180) rfl)) rfl⟩
set_option maxRecDepth 100000 in
theorem f_X10_16 : mF "ThreeSundays" 16 10 12 1 := ⟨Nat.le_of_ble_eq_true rfl, _, rfl, rfl, Nat.le_of_ble_eq_true rfl, gw_of (in_2 (List.mem_of_getElem? (i := 181) rfl)) rfl⟩
set_option maxRecDepth 100000 in
theorem f_X10_22 : mF "ThreeSundays" 22 10 12 2 := ⟨Nat.le_of_ble_eq_true rfl, _, rfl, rfl, Nat.le_of_ble_eq_true rfl, gw_of (in_2 (List.mem_of_getElem? (i := 182) rfl)) rfl⟩
set_option maxRecDepth 100000 in
theorem f_X10_31 : mF "ThreeSundays" 31 10 12 3 := ⟨Nat.le_of_ble_eq_true rfl, _, rfl, rfl, Nat.le_of_ble_eq_true rfl, gw_of (in_2 (List.mem_of_getElem? (i := 183) rfl)) rfl⟩
set_option maxRecDepth 100000 in
theorem f_X10_40 : mF "ThreeSundays" 40 10 12 4 := ⟨Nat.le_of_ble_eq_true rfl, _, rfl, rfl, Nat.le_of_ble_eq_true rfl, gw_of (in_2 (List.mem_of_getElem? (i := 184) rfl)) rfl⟩
set_option maxRecDepth 100000 in
theorem f_X10_47 : mF "ThreeSundays" 47 10 12 5 := ⟨Nat.le_of_ble_eq_true rfl, _, rfl, rfl, Nat.le_of_ble_eq_true rfl, gw_of (in_2 (List.mem_of_getElem? (i := 185) rfl)) rfl⟩
set_option maxRecDepth 100000 in
theorem f_X10_51 : mF "ThreeSundays" 51 10 12 6 := ⟨Nat.le_of_ble_eq_true rfl, _, rfl, rfl, Nat.le_of_ble_eq_true rfl, gw_of (in_2 (List.mem_of_getElem? (i := 186) rfl)) rfl⟩
set_option maxRecDepth 100000 in
theorem f_X10_57 : mF "ThreeSundays" 57 10 12 7 := ⟨Nat.le_of_ble_eq_true rfl, _, rfl, rfl, Nat.le_of_ble_eq_true rfl, gw_of (in_2 (List.mem_of_getElem? (i := 187) rfl)) rfl⟩
set_option maxRecDepth 100000 in
theorem f_X10_61 : mF "ThreeSundays" 61 10 12 8 := ⟨Nat.le_of_ble_eq_true rfl, _, rfl, rfl, Nat.le_of_ble_eq_true rfl, gw_of (in_2 (List.mem_of_getElem? (i := 188) rfl)) rfl⟩
set_option maxRecDepth 100000 in
theorem f_X10_68 : mF "ThreeSundays" 68 10 12 9 := ⟨Nat.le_of_ble_eq_true rfl, _, rfl, rfl, Nat.le_of_ble_eq_true rfl, gw_of (in_2 (List.mem_of_getElem? (i := 189) rfl)) rfl⟩
set_option maxRecDepth 100000 in
theorem f_X10_75 : mF "ThreeSundays" 75 10 12 10 := ⟨Nat.le_of_ble_eq_true rfl, _, rfl, rfl, Nat.le_of_ble_eq_true rfl, gw_of (in_2 (List.mem_of_getElem? (i := 190) rfl)) rfl⟩
set_option maxRecDepth 100000 in
theorem f_X10_90 : mF "ThreeSundays" 90 8 8 3 := ⟨Nat.le_of_ble_eq_true rfl, _, rfl, rfl, Nat.le_of_ble_eq_true rfl, gw_of (in_2 (List.mem_of_getElem? (i := 10) rfl)) rfl⟩
set_option maxRecDepth 100000 in
theorem f_X10_97 : mF "ThreeSundays" 97 8 8 4 := ⟨Nat.le_of_ble_eq_true rfl, _, rfl, rfl, Nat.le_of_ble_eq_true rfl, gw_of (in_2 (List.mem_of_getElem? (i := 12) rfl)) rfl⟩
set_option maxRecDepth 100000 in
theorem f_X10_104 : mF "ThreeSundays" 104 9 18 9 := ⟨Nat.le_of_ble_eq_true rfl, _, rfl, rfl, Nat.le_of_ble_eq_true rfl, gw_of (in_1 (List.mem_of_getElem? (i := 118) rfl)) rfl⟩
set_option maxRecDepth 100000 in
theorem f_X10_108 : mF "ThreeSundays" 108 9 18 12 := ⟨Nat.le_of_ble_eq_true rfl, _, rfl, rfl, Nat.le_of_ble_eq_true rfl, gw_of (in_1 (List.mem_of_getElem? (i := 130) rfl)) rfl⟩
set_option maxRecDepth 100000 in
theorem f_X10_116 : mF "ThreeSundays" 116 4 5 3 := ⟨Nat.le_of_ble_eq_true rfl, _, rfl, rfl, Nat.le_of_ble_eq_true rfl, gw_of (in_2 (List.mem_of_getElem? (i := 48) rfl)) rfl⟩
set_option maxRecDepth 100000 in
theorem f_X10_119 : mF "ThreeSundays" 119 4 5 4 := ⟨Nat.le_of_ble_eq_true rfl, _, rfl, rfl, Nat.le_of_ble_eq_true rfl, gw_of (in_2 (List.mem_of_getElem? (i := 50) rfl)) rfl⟩
set_option maxRecDepth 100000 in
theorem f_X10_129 : mF "ThreeSundays" 129 9 18 2 := ⟨Nat.le_of_ble_eq_true rfl, _, rfl, rfl, Nat.le_of_ble_eq_true rfl, gw_of (in_1 (List.mem_of_getElem? (i := 96) rfl)) rfl⟩
set_option maxRecDepth 100000 in
theorem f_X10_133 : mF "ThreeSundays" 133 0 6 0 := ⟨Nat.le_of_ble_eq_true rfl, _, rfl, rfl, Nat.le_of_ble_eq_true rfl, gw_of (in_1 (List.mem_of_getElem? (i := 43) rfl)) rfl⟩
set_option maxRecDepth 100000 in
theorem f_X10_136 : mF "ThreeSundays" 136 0 6 1 := ⟨Nat.le_of_ble_eq_true rfl, _, rfl, rfl, Nat.le_of_ble_eq_true rfl, gw_of (in_1 (List.mem_of_getElem? (i := 46) rfl)) rfl⟩
set_option maxRecDepth 100000 in
theorem f_X10_139 : mF "ThreeSundays" 139 9 18 14 := ⟨Nat.le_of_ble_eq_true rfl, _, rfl, rfl, Nat.le_of_ble_eq_true rfl, gw_of (in_1 (List.mem_of_getElem? (i := 141) rfl)) rfl⟩
set_option maxRecDepth 100000 in
theorem f_X10_142 : mF "ThreeSundays" 142 9 18 3 := ⟨Nat.le_of_ble_eq_true rfl, _, rfl, rfl, Nat.le_of_ble_eq_true rfl, gw_of (in_1 (List.mem_of_getElem? (i := 100) rfl)) rfl⟩
set_option maxRecDepth 100000 in
theorem f_X10_157 : mF "ThreeSundays" 157 0 6 3 := ⟨Nat.le_of_ble_eq_true rfl, _, rfl, rfl, Nat.le_of_ble_eq_true rfl, gw_of (in_1 (List.mem_of_getElem? (i := 52) rfl)) rfl⟩
set_option maxRecDepth 100000 in
theorem f_X10_160 : mF "ThreeSundays" 160 9 18 4 := ⟨Nat.le_of_ble_eq_true rfl, _, rfl, rfl, Nat.le_of_ble_eq_true rfl, gw_of (in_1 (List.mem_of_getElem? (i := 105) rfl)) rfl⟩
set_option maxRecDepth 100000 in
theorem f_X10_166 : mF "ThreeSundays" 166 9 18 5 := ⟨Nat.le_of_ble_eq_true rfl, _, rfl, rfl, Nat.le_of_ble_eq_true rfl, gw_of (in_1 (List.mem_of_getElem? (i := 108) rfl)) rfl⟩
set_option maxRecDepth 100000 in
theorem f_X10_169 : mF "ThreeSundays" 169 9 18 6 := ⟨Nat.le_of_ble_eq_true rfl, _, rfl, rfl, Nat.le_of_ble_eq_true rfl, gw_of (in_1 (List.mem_of_getElem? (i := 111) rfl)) rfl⟩
set_option maxRecDepth 100000 in
theorem f_X10_253 : mF "ThreeSundays" 253 9 18 11 := ⟨Nat.le_of_ble_eq_true rfl, _, rfl, rfl, Nat.le_of_ble_eq_true rfl, gw_of (in_1 (List.mem_of_getElem? (i := 128) rfl)) rfl⟩
set_option maxRecDepth 100000 in
theorem f_X10_274 : mF "ThreeSundays" 274 9 18 15 := ⟨Nat.le_of_ble_eq_true rfl, _, rfl, rfl, Nat.le_of_ble_eq_true rfl, gw_of (in_1 (List.mem_of_getElem? (i := 145) rfl)) rfl⟩
set_option maxRecDepth 100000 in
theorem f_X10_302 : mF "ThreeSundays" 302 10 12 11 := ⟨Nat.le_of_ble_eq_true rfl, _, rfl, rfl, Nat.le_of_ble_eq_true rfl, gw_of (in_2 (List.mem_of_getElem? (i := 191) rfl)) rfl⟩
set_option maxRecDepth 100000 in
theorem f_X10_308 : mF "ThreeSundays" 308 9 18 13 := ⟨Nat.le_of_ble_eq_true rfl, _, rfl, rfl, Nat.le_of_ble_eq_true rfl, gw_of (in_1 (List.mem_of_getElem? (i := 138) rfl)) rfl⟩
set_option maxRecDepth 100000 in
theorem f_X10_317 : mF "ThreeSundays" 317 2 4 2 := ⟨Nat.le_of_ble_eq_true rfl, _, rfl, rfl, Nat.le_of_ble_eq_true rfl, gw_of (in_2 (List.mem_of_getElem? (i := 98) rfl)) rfl⟩
set_option maxRecDepth 100000 in
theorem f_X10_320 : mF "ThreeSundays" 320 2 4 3 := ⟨Nat.le_of_ble_eq_true rfl, _, rfl, rfl, Nat.le_of_ble_eq_true rfl, gw_of (in_2 (List.mem_of_getElem? (i := 100) rfl)) rfl⟩
set_option maxRecDepth 100000 in
theorem f_X10_323 : mF "ThreeSundays" 323 5 8 6 := ⟨Nat.le_of_ble_eq_true rfl, _, rfl, rfl, Nat.le_of_ble_eq_true rfl, gw_of (in_2 (List.mem_of_getElem? (i := 140) rfl)) rfl⟩
set_option maxRecDepth 100000 in
theorem f_X10_326 : mF "ThreeSundays" 326 5 8 7 := ⟨Nat.le_of_ble_eq_true rfl, _, rfl, rfl, Nat.le_of_ble_eq_true rfl, gw_of (in_2 (List.mem_of_getElem? (i := 142) rfl)) rfl⟩
set_option maxRecDepth 100000 in
theorem f_X10_329 : mF "ThreeSundays" 329 9 18 10 := ⟨Nat.le_of_ble_eq_true rfl, _, rfl, rfl, Nat.le_of_ble_eq_true rfl, gw_of (in_1 (List.mem_of_getElem? (i := 124) rfl)) rfl⟩
set_option maxRecDepth 100000 in
theorem f_X10_333 : mF "ThreeSundays" 333 1 4 3 := ⟨Nat.le_of_ble_eq_true rfl, _, rfl, rfl, Nat.le_of_ble_eq_true rfl, gw_of (in_1 (List.mem_of_getElem? (i := 82) rfl)) rfl⟩
set_option maxRecDepth 100000 in
theorem f_X10_338 : mF "ThreeSundays" 338 3 2 1 := ⟨Nat.le_of_ble_eq_true rfl, _, rfl, rfl, Nat.le_of_ble_eq_true rfl, gw_of (in_2 (List.mem_of_getElem? (i := 70) rfl)) rfl⟩
set_option maxRecDepth 100000 in
theorem f_X0_9 : mF "ThreeSundays$Family" 9 0 6 0 := ⟨Nat.le_of_ble_eq_true rfl, _, rfl, rfl, Nat.le_of_ble_eq_true rfl, gw_of (in_1 (List.mem_of_getElem? (i := 42) rfl)) rfl⟩
set_option maxRecDepth 100000 in
theorem f_X0_15 : mF "ThreeSundays$Family" 15 0 6 1 := ⟨Nat.le_of_ble_eq_true rfl, _, rfl, rfl, Nat.le_of_ble_eq_true rfl, gw_of (in_1 (List.mem_of_getElem? (i := 45) rfl)) rfl⟩
set_option maxRecDepth 100000 in
theorem f_X0_18 : mF "ThreeSundays$Family" 18 0 6 2 := ⟨Nat.le_of_ble_eq_true rfl, _, rfl, rfl, Nat.le_of_ble_eq_true rfl, gw_of (in_1 (List.mem_of_getElem? (i := 48) rfl)) rfl⟩
set_option maxRecDepth 100000 in
theorem f_X0_21 : mF "ThreeSundays$Family" 21 0 6 3 := ⟨Nat.le_of_ble_eq_true rfl, _, rfl, rfl, Nat.le_of_ble_eq_true rfl, gw_of (in_1 (List.mem_of_getElem? (i := 50) rfl)) rfl⟩
set_option maxRecDepth 100000 in
theorem f_X0_24 : mF "ThreeSundays$Family" 24 0 6 4 := ⟨Nat.le_of_ble_eq_true rfl, _, rfl, rfl, Nat.le_of_ble_eq_true rfl, gw_of (in_1 (List.mem_of_getElem? (i := 54) rfl)) rfl⟩
set_option maxRecDepth 100000 in
theorem f_X0_27 : mF "ThreeSundays$Family" 27 0 6 5 := ⟨Nat.le_of_ble_eq_true rfl, _, rfl, rfl, Nat.le_of_ble_eq_true rfl, gw_of (in_1 (List.mem_of_getElem? (i := 55) rfl)) rfl⟩
set_option maxRecDepth 100000 in
theorem f_X1_9 : mF "ThreeSundays$Formula" 9 1 4 0 := ⟨Nat.le_of_ble_eq_true rfl, _, rfl, rfl, Nat.le_of_ble_eq_true rfl, gw_of (in_1 (List.mem_of_getElem? (i := 77) rfl)) rfl⟩
set_option maxRecDepth 100000 in
theorem f_X1_13 : mF "ThreeSundays$Formula" 13 1 4 1 := ⟨Nat.le_of_ble_eq_true rfl, _, rfl, rfl, Nat.le_of_ble_eq_true rfl, gw_of (in_1 (List.mem_of_getElem? (i := 78) rfl)) rfl⟩
set_option maxRecDepth 100000 in
theorem f_X1_16 : mF "ThreeSundays$Formula" 16 1 4 2 := ⟨Nat.le_of_ble_eq_true rfl, _, rfl, rfl, Nat.le_of_ble_eq_true rfl, gw_of (in_1 (List.mem_of_getElem? (i := 79) rfl)) rfl⟩
set_option maxRecDepth 100000 in
theorem f_X1_20 : mF "ThreeSundays$Formula" 20 1 4 3 := ⟨Nat.le_of_ble_eq_true rfl, _, rfl, rfl, Nat.le_of_ble_eq_true rfl, gw_of (in_1 (List.mem_of_getElem? (i := 80) rfl)) rfl⟩
set_option maxRecDepth 100000 in
theorem f_X2_13 : mF "ThreeSundays$History" 13 2 4 0 := ⟨Nat.le_of_ble_eq_true rfl, _, rfl, rfl, Nat.le_of_ble_eq_true rfl, gw_of (in_2 (List.mem_of_getElem? (i := 95) rfl)) rfl⟩
set_option maxRecDepth 100000 in
theorem f_X2_16 : mF "ThreeSundays$History" 16 2 4 1 := ⟨Nat.le_of_ble_eq_true rfl, _, rfl, rfl, Nat.le_of_ble_eq_true rfl, gw_of (in_2 (List.mem_of_getElem? (i := 96) rfl)) rfl⟩
set_option maxRecDepth 100000 in
theorem f_X2_20 : mF "ThreeSundays$History" 20 2 4 2 := ⟨Nat.le_of_ble_eq_true rfl, _, rfl, rfl, Nat.le_of_ble_eq_true rfl, gw_of (in_2 (List.mem_of_getElem? (i := 97) rfl)) rfl⟩
set_option maxRecDepth 100000 in
theorem f_X2_23 : mF "ThreeSundays$History" 23 2 4 3 := ⟨Nat.le_of_ble_eq_true rfl, _, rfl, rfl, Nat.le_of_ble_eq_true rfl, gw_of (in_2 (List.mem_of_getElem? (i := 99) rfl)) rfl⟩
set_option maxRecDepth 100000 in
theorem f_X2_26 : mF "ThreeSundays$History" 26 7 1 0 := ⟨Nat.le_of_ble_eq_true rfl, _, rfl, rfl, Nat.le_of_ble_eq_true rfl, gw_of (in_2 (List.mem_of_getElem? (i := 83) rfl)) rfl⟩
set_option maxRecDepth 100000 in
theorem f_X3_9 : mF "ThreeSundays$Parish" 9 3 2 0 := ⟨Nat.le_of_ble_eq_true rfl, _, rfl, rfl, Nat.le_of_ble_eq_true rfl, gw_of (in_2 (List.mem_of_getElem? (i := 68) rfl)) rfl⟩
set_option maxRecDepth 100000 in
theorem f_X3_15 : mF "ThreeSundays$Parish" 15 3 2 1 := ⟨Nat.le_of_ble_eq_true rfl, _, rfl, rfl, Nat.le_of_ble_eq_true rfl, gw_of (in_2 (List.mem_of_getElem? (i := 69) rfl)) rfl⟩
set_option maxRecDepth 100000 in
theorem f_X3_19 : mF "ThreeSundays$Parish" 19 9 18 13 := ⟨Nat.le_of_ble_eq_true rfl, _, rfl, rfl, Nat.le_of_ble_eq_true rfl, gw_of (in_1 (List.mem_of_getElem? (i := 134) rfl)) rfl⟩
set_option maxRecDepth 100000 in
theorem f_X3_31 : mF "ThreeSundays$Parish" 31 9 18 5 := ⟨Nat.le_of_ble_eq_true rfl, _, rfl, rfl, Nat.le_of_ble_eq_true rfl, gw_of (in_1 (List.mem_of_getElem? (i := 107) rfl)) rfl⟩
set_option maxRecDepth 100000 in
theorem f_X3_34 : mF "ThreeSundays$Parish" 34 9 18 6 := ⟨Nat.le_of_ble_eq_true rfl, _, rfl, rfl, Nat.le_of_ble_eq_true rfl, gw_of (in_1 (List.mem_of_getElem? (i := 110) rfl)) rfl⟩
set_option maxRecDepth 100000 in
theorem f_X3_44 : mF "ThreeSundays$Parish" 44 9 18 9 := ⟨Nat.le_of_ble_eq_true rfl, _, rfl, rfl, Nat.le_of_ble_eq_true rfl, gw_of (in_1 (List.mem_of_getElem? (i := 119) rfl)) rfl⟩
set_option maxRecDepth 100000 in
theorem f_X3_48 : mF "ThreeSundays$Parish" 48 9 18 15 := ⟨Nat.le_of_ble_eq_true rfl, _, rfl, rfl, Nat.le_of_ble_eq_true rfl, gw_of (in_1 (List.mem_of_getElem? (i := 144) rfl)) rfl⟩
set_option maxRecDepth 100000 in
theorem f_X3_57 : mF "ThreeSundays$Parish" 57 9 18 14 := ⟨Nat.le_of_ble_eq_true rfl, _, rfl, rfl, Nat.le_of_ble_eq_true rfl, gw_of (in_1 (List.mem_of_getElem? (i := 140) rfl)) rfl⟩
set_option maxRecDepth 100000 in
theorem f_X3_64 : mF "ThreeSundays$Parish" 64 9 18 12 := ⟨Nat.le_of_ble_eq_true rfl, _, rfl, rfl, Nat.le_of_ble_eq_true rfl, gw_of (in_1 (List.mem_of_getElem? (i := 133) rfl)) rfl⟩
set_option maxRecDepth 100000 in
theorem f_X3_67 : mF "ThreeSundays$Parish" 67 9 18 4 := ⟨Nat.le_of_ble_eq_true rfl, _, rfl, rfl, Nat.le_of_ble_eq_true rfl, gw_of (in_1 (List.mem_of_getElem? (i := 104) rfl)) rfl⟩
set_option maxRecDepth 100000 in
theorem f_X3_70 : mF "ThreeSundays$Parish" 70 0 6 3 := ⟨Nat.le_of_ble_eq_true rfl, _, rfl, rfl, Nat.le_of_ble_eq_true rfl, gw_of (in_1 (List.mem_of_getElem? (i := 51) rfl)) rfl⟩
set_option maxRecDepth 100000 in
theorem f_X3_102 : mF "ThreeSundays$Parish" 102 9 18 16 := ⟨Nat.le_of_ble_eq_true rfl, _, rfl, rfl, Nat.le_of_ble_eq_true rfl, gw_of (in_1 (List.mem_of_getElem? (i := 148) rfl)) rfl⟩
set_option maxRecDepth 100000 in
theorem f_X3_108 : mF "ThreeSundays$Parish" 108 9 18 10 := ⟨Nat.le_of_ble_eq_true rfl, _, rfl, rfl, Nat.le_of_ble_eq_true rfl, gw_of (in_1 (List.mem_of_getElem? (i := 122) rfl)) rfl⟩
set_option maxRecDepth 100000 in
theorem f_X3_130 : mF "ThreeSundays$Parish" 130 9 18 2 := ⟨Nat.le_of_ble_eq_true rfl, _, rfl, rfl, Nat.le_of_ble_eq_true rfl, gw_of (in_1 (List.mem_of_getElem? (i := 98) rfl)) rfl⟩
set_option maxRecDepth 100000 in
theorem f_X4_9 : mF "ThreeSundays$Parser" 9 4 5 4 := ⟨Nat.le_of_ble_eq_true rfl, _, rfl, rfl, Nat.le_of_ble_eq_true rfl, gw_of (in_2 (List.mem_of_getElem? (i := 49) rfl)) rfl⟩
set_option maxRecDepth 100000 in
theorem f_X4_15 : mF "ThreeSundays$Parser" 15 4 5 0 := ⟨Nat.le_of_ble_eq_true rfl, _, rfl, rfl, Nat.le_of_ble_eq_true rfl, gw_of (in_2 (List.mem_of_getElem? (i := 44) rfl)) rfl⟩
set_option maxRecDepth 100000 in
theorem f_X4_19 : mF "ThreeSundays$Parser" 19 4 5 1 := ⟨Nat.le_of_ble_eq_true rfl, _, rfl, rfl, Nat.le_of_ble_eq_true rfl, gw_of (in_2 (List.mem_of_getElem? (i := 45) rfl)) rfl⟩
set_option maxRecDepth 100000 in
theorem f_X4_28 : mF "ThreeSundays$Parser" 28 4 5 2 := ⟨Nat.le_of_ble_eq_true rfl, _, rfl, rfl, Nat.le_of_ble_eq_true rfl, gw_of (in_2 (List.mem_of_getElem? (i := 46) rfl)) rfl⟩
set_option maxRecDepth 100000 in
theorem f_X4_31 : mF "ThreeSundays$Parser" 31 4 5 3 := ⟨Nat.le_of_ble_eq_true rfl, _, rfl, rfl, Nat.le_of_ble_eq_true rfl, gw_of (in_2 (List.mem_of_getElem? (i := 47) rfl)) rfl⟩
set_option maxRecDepth 100000 in
theorem f_X4_39 : mF "ThreeSundays$Parser" 39 8 8 4 := ⟨Nat.le_of_ble_eq_true rfl, _, rfl, rfl, Nat.le_of_ble_eq_true rfl, gw_of (in_2 (List.mem_of_getElem? (i := 11) rfl)) rfl⟩
set_option maxRecDepth 100000 in
theorem f_X4_46 : mF "ThreeSundays$Parser" 46 8 8 6 := ⟨Nat.le_of_ble_eq_true rfl, _, rfl, rfl, Nat.le_of_ble_eq_true rfl, gw_of (in_2 (List.mem_of_getElem? (i := 16) rfl)) rfl⟩
set_option maxRecDepth 100000 in
theorem f_X4_56 : mF "ThreeSundays$Parser" 56 9 18 9 := ⟨Nat.le_of_ble_eq_true rfl, _, rfl, rfl, Nat.le_of_ble_eq_true rfl, gw_of (in_1 (List.mem_of_getElem? (i := 117) rfl)) rfl⟩
set_option maxRecDepth 100000 in
theorem f_X4_60 : mF "ThreeSundays$Parser" 60 0 6 2 := ⟨Nat.le_of_ble_eq_true rfl, _, rfl, rfl, Nat.le_of_ble_eq_true rfl, gw_of (in_1 (List.mem_of_getElem? (i := 49) rfl)) rfl⟩
set_option maxRecDepth 100000 in
theorem f_X4_70 : mF "ThreeSundays$Parser" 70 9 18 4 := ⟨Nat.le_of_ble_eq_true rfl, _, rfl, rfl, Nat.le_of_ble_eq_true rfl, gw_of (in_1 (List.mem_of_getElem? (i := 103) rfl)) rfl⟩
set_option maxRecDepth 100000 in
theorem f_X4_87 : mF "ThreeSundays$Parser" 87 8 8 5 := ⟨Nat.le_of_ble_eq_true rfl, _, rfl, rfl, Nat.le_of_ble_eq_true rfl, gw_of (in_2 (List.mem_of_getElem? (i := 14) rfl)) rfl⟩
set_option maxRecDepth 100000 in
theorem f_X4_90 : mF "ThreeSundays$Parser" 90 9 18 11 := ⟨Nat.le_of_ble_eq_true rfl, _, rfl, rfl, Nat.le_of_ble_eq_true rfl, gw_of (in_1 (List.mem_of_getElem? (i := 126) rfl)) rfl⟩
set_option maxRecDepth 100000 in
theorem f_X4_96 : mF "ThreeSundays$Parser" 96 8 8 7 := ⟨Nat.le_of_ble_eq_true rfl, _, rfl, rfl, Nat.le_of_ble_eq_true rfl, gw_of (in_2 (List.mem_of_getElem? (i := 18) rfl)) rfl⟩
set_option maxRecDepth 100000 in
theorem f_X4_111 : mF "ThreeSundays$Parser" 111 9 18 12 := ⟨Nat.le_of_ble_eq_true rfl, _, rfl, rfl, Nat.le_of_ble_eq_true rfl, gw_of (in_1 (List.mem_of_getElem? (i := 132) rfl)) rfl⟩
set_option maxRecDepth 100000 in
theorem f_X4_141 : mF "ThreeSundays$Parser" 141 0 6 0 := ⟨Nat.le_of_ble_eq_true rfl, _, rfl, rfl, Nat.le_of_ble_eq_true rfl, gw_of (in_1 (List.mem_of_getElem? (i := 44) rfl)) rfl⟩
set_option maxRecDepth 100000 in
theorem f_X4_144 : mF "ThreeSundays$Parser" 144 0 6 1 := ⟨Nat.le_of_ble_eq_true rfl, _, rfl, rfl, Nat.le_of_ble_eq_true rfl, gw_of (in_1 (List.mem_of_getElem? (i := 47) rfl)) rfl⟩
set_option maxRecDepth 100000 in
theorem f_X4_147 : mF "ThreeSundays$Parser" 147 9 18 14 := ⟨Nat.le_of_ble_eq_true rfl, _, rfl, rfl, Nat.le_of_ble_eq_true rfl, gw_of (in_1 (List.mem_of_getElem? (i := 142) rfl)) rfl⟩
set_option maxRecDepth 100000 in
theorem f_X4_154 : mF "ThreeSundays$Parser" 154 9 18 3 := ⟨Nat.le_of_ble_eq_true rfl, _, rfl, rfl, Nat.le_of_ble_eq_true rfl, gw_of (in_1 (List.mem_of_getElem? (i := 101) rfl)) rfl⟩
set_option maxRecDepth 100000 in
theorem f_X4_162 : mF "ThreeSundays$Parser" 162 9 18 13 := ⟨Nat.le_of_ble_eq_true rfl, _, rfl, rfl, Nat.le_of_ble_eq_true rfl, gw_of (in_1 (List.mem_of_getElem? (i := 137) rfl)) rfl⟩
set_option maxRecDepth 100000 in
theorem f_X4_171 : mF "ThreeSundays$Parser" 171 9 18 2 := ⟨Nat.le_of_ble_eq_true rfl, _, rfl, rfl, Nat.le_of_ble_eq_true rfl, gw_of (in_1 (List.mem_of_getElem? (i := 97) rfl)) rfl⟩
set_option maxRecDepth 100000 in
theorem f_X4_197 : mF "ThreeSundays$Parser" 197 9 18 10 := ⟨Nat.le_of_ble_eq_true rfl, _, rfl, rfl, Nat.le_of_ble_eq_true rfl, gw_of (in_1 (List.mem_of_getElem? (i := 123) rfl)) rfl⟩
set_option maxRecDepth 100000 in
theorem f_X4_228 : mF "ThreeSundays$Parser" 228 1 4 3 := ⟨Nat.le_of_ble_eq_true rfl, _, rfl, rfl, Nat.le_of_ble_eq_true rfl, gw_of (in_1 (List.mem_of_getElem? (i := 81) rfl)) rfl⟩
set_option maxRecDepth 100000 in
theorem f_X5_11 : mF "ThreeSundays$Said" 11 5 8 0 := ⟨Nat.le_of_ble_eq_true rfl, _, rfl, rfl, Nat.le_of_ble_eq_true rfl, gw_of (in_2 (List.mem_of_getElem? (i := 133) rfl)) rfl⟩
set_option maxRecDepth 100000 in
theorem f_X5_15 : mF "ThreeSundays$Said" 15 5 8 1 := ⟨Nat.le_of_ble_eq_true rfl, _, rfl, rfl, Nat.le_of_ble_eq_true rfl, gw_of (in_2 (List.mem_of_getElem? (i := 134) rfl)) rfl⟩
set_option maxRecDepth 100000 in
theorem f_X5_18 : mF "ThreeSundays$Said" 18 5 8 2 := ⟨Nat.le_of_ble_eq_true rfl, _, rfl, rfl, Nat.le_of_ble_eq_true rfl, gw_of (in_2 (List.mem_of_getElem? (i := 135) rfl)) rfl⟩
set_option maxRecDepth 100000 in
theorem f_X5_21 : mF "ThreeSundays$Said" 21 5 8 3 := ⟨Nat.le_of_ble_eq_true rfl, _, rfl, rfl, Nat.le_of_ble_eq_true rfl, gw_of (in_2 (List.mem_of_getElem? (i := 136) rfl)) rfl⟩
set_option maxRecDepth 100000 in
theorem f_X5_25 : mF "ThreeSundays$Said" 25 5 8 4 := ⟨Nat.le_of_ble_eq_true rfl, _, rfl, rfl, Nat.le_of_ble_eq_true rfl, gw_of (in_2 (List.mem_of_getElem? (i := 137) rfl)) rfl⟩
set_option maxRecDepth 100000 in
theorem f_X5_28 : mF "ThreeSundays$Said" 28 5 8 5 := ⟨Nat.le_of_ble_eq_true rfl, _, rfl, rfl, Nat.le_of_ble_eq_true rfl, gw_of (in_2 (List.mem_of_getElem? (i := 138) rfl)) rfl⟩
set_option maxRecDepth 100000 in
theorem f_X5_31 : mF "ThreeSundays$Said" 31 5 8 6 := ⟨Nat.le_of_ble_eq_true rfl, _, rfl, rfl, Nat.le_of_ble_eq_true rfl, gw_of (in_2 (List.mem_of_getElem? (i := 139) rfl)) rfl⟩
set_option maxRecDepth 100000 in
theorem f_X5_35 : mF "ThreeSundays$Said" 35 5 8 7 := ⟨Nat.le_of_ble_eq_true rfl, _, rfl, rfl, Nat.le_of_ble_eq_true rfl, gw_of (in_2 (List.mem_of_getElem? (i := 141) rfl)) rfl⟩
set_option maxRecDepth 100000 in
theorem f_X5_39 : mF "ThreeSundays$Said" 39 9 18 12 := ⟨Nat.le_of_ble_eq_true rfl, _, rfl, rfl, Nat.le_of_ble_eq_true rfl, gw_of (in_1 (List.mem_of_getElem? (i := 131) rfl)) rfl⟩
set_option maxRecDepth 100000 in
theorem f_X5_61 : mF "ThreeSundays$Said" 61 9 18 9 := ⟨Nat.le_of_ble_eq_true rfl, _, rfl, rfl, Nat.le_of_ble_eq_true rfl, gw_of (in_1 (List.mem_of_getElem? (i := 120) rfl)) rfl⟩
set_option maxRecDepth 100000 in
theorem f_X5_65 : mF "ThreeSundays$Said" 65 0 6 3 := ⟨Nat.le_of_ble_eq_true rfl, _, rfl, rfl, Nat.le_of_ble_eq_true rfl, gw_of (in_1 (List.mem_of_getElem? (i := 53) rfl)) rfl⟩
set_option maxRecDepth 100000 in
theorem f_X6_11 : mF "ThreeSundays$Season" 11 6 3 0 := ⟨Nat.le_of_ble_eq_true rfl, _, rfl, rfl, Nat.le_of_ble_eq_true rfl, gw_of (in_2 (List.mem_of_getElem? (i := 117) rfl)) rfl⟩
set_option maxRecDepth 100000 in
theorem f_X6_15 : mF "ThreeSundays$Season" 15 6 3 1 := ⟨Nat.le_of_ble_eq_true rfl, _, rfl, rfl, Nat.le_of_ble_eq_true rfl, gw_of (in_2 (List.mem_of_getElem? (i := 118) rfl)) rfl⟩
set_option maxRecDepth 100000 in
theorem f_X6_70 : mF "ThreeSundays$Season" 70 9 18 13 := ⟨Nat.le_of_ble_eq_true rfl, _, rfl, rfl, Nat.le_of_ble_eq_true rfl, gw_of (in_1 (List.mem_of_getElem? (i := 136) rfl)) rfl⟩
set_option maxRecDepth 100000 in
theorem f_X6_91 : mF "ThreeSundays$Season" 91 6 3 2 := ⟨Nat.le_of_ble_eq_true rfl, _, rfl, rfl, Nat.le_of_ble_eq_true rfl, gw_of (in_2 (List.mem_of_getElem? (i := 119) rfl)) rfl⟩
set_option maxRecDepth 100000 in
theorem f_X6_94 : mF "ThreeSundays$Season" 94 9 18 11 := ⟨Nat.le_of_ble_eq_true rfl, _, rfl, rfl, Nat.le_of_ble_eq_true rfl, gw_of (in_1 (List.mem_of_getElem? (i := 127) rfl)) rfl⟩
set_option maxRecDepth 100000 in
theorem f_X6_101 : mF "ThreeSundays$Season" 101 9 18 16 := ⟨Nat.le_of_ble_eq_true rfl, _, rfl, rfl, Nat.le_of_ble_eq_true rfl, gw_of (in_1 (List.mem_of_getElem? (i := 147) rfl)) rfl⟩
set_option maxRecDepth 100000 in
theorem f_X7_11 : mF "ThreeSundays$State" 11 7 1 0 := ⟨Nat.le_of_ble_eq_true rfl, _, rfl, rfl, Nat.le_of_ble_eq_true rfl, gw_of (in_2 (List.mem_of_getElem? (i := 82) rfl)) rfl⟩
set_option maxRecDepth 100000 in
theorem f_X7_21 : mF "ThreeSundays$State" 21 9 18 2 := ⟨Nat.le_of_ble_eq_true rfl, _, rfl, rfl, Nat.le_of_ble_eq_true rfl, gw_of (in_1 (List.mem_of_getElem? (i := 95) rfl)) rfl⟩
set_option maxRecDepth 100000 in
theorem f_X7_32 : mF "ThreeSundays$State" 32 9 18 7 := ⟨Nat.le_of_ble_eq_true rfl, _, rfl, rfl, Nat.le_of_ble_eq_true rfl, gw_of (in_1 (List.mem_of_getElem? (i := 113) rfl)) rfl⟩
set_option maxRecDepth 100000 in
theorem f_X7_35 : mF "ThreeSundays$State" 35 9 18 8 := ⟨Nat.le_of_ble_eq_true rfl, _, rfl, rfl, Nat.le_of_ble_eq_true rfl, gw_of (in_1 (List.mem_of_getElem? (i := 115) rfl)) rfl⟩
set_option maxRecDepth 100000 in
theorem f_X7_38 : mF "ThreeSundays$State" 38 9 18 17 := ⟨Nat.le_of_ble_eq_true rfl, _, rfl, rfl, Nat.le_of_ble_eq_true rfl, gw_of (in_1 (List.mem_of_getElem? (i := 150) rfl)) rfl⟩
set_option maxRecDepth 100000 in
theorem f_X8_11 : mF "ThreeSundays$Tape" 11 8 8 0 := ⟨Nat.le_of_ble_eq_true rfl, _, rfl, rfl, Nat.le_of_ble_eq_true rfl, gw_of (in_2 (List.mem_of_getElem? (i := 6) rfl)) rfl⟩
set_option maxRecDepth 100000 in
theorem f_X8_15 : mF "ThreeSundays$Tape" 15 8 8 1 := ⟨Nat.le_of_ble_eq_true rfl, _, rfl, rfl, Nat.le_of_ble_eq_true rfl, gw_of (in_2 (List.mem_of_getElem? (i := 7) rfl)) rfl⟩
set_option maxRecDepth 100000 in
theorem f_X8_35 : mF "ThreeSundays$Tape" 35 8 8 3 := ⟨Nat.le_of_ble_eq_true rfl, _, rfl, rfl, Nat.le_of_ble_eq_true rfl, gw_of (in_2 (List.mem_of_getElem? (i := 9) rfl)) rfl⟩
set_option maxRecDepth 100000 in
theorem f_X8_38 : mF "ThreeSundays$Tape" 38 8 8 2 := ⟨Nat.le_of_ble_eq_true rfl, _, rfl, rfl, Nat.le_of_ble_eq_true rfl, gw_of (in_2 (List.mem_of_getElem? (i := 8) rfl)) rfl⟩
set_option maxRecDepth 100000 in
theorem f_X8_52 : mF "ThreeSundays$Tape" 52 8 8 5 := ⟨Nat.le_of_ble_eq_true rfl, _, rfl, rfl, Nat.le_of_ble_eq_true rfl, gw_of (in_2 (List.mem_of_getElem? (i := 15) rfl)) rfl⟩
set_option maxRecDepth 100000 in
theorem f_X8_55 : mF "ThreeSundays$Tape" 55 8 8 6 := ⟨Nat.le_of_ble_eq_true rfl, _, rfl, rfl, Nat.le_of_ble_eq_true rfl, gw_of (in_2 (List.mem_of_getElem? (i := 17) rfl)) rfl⟩
set_option maxRecDepth 100000 in
theorem f_X8_58 : mF "ThreeSundays$Tape" 58 8 8 7 := ⟨Nat.le_of_ble_eq_true rfl, _, rfl, rfl, Nat.le_of_ble_eq_true rfl, gw_of (in_2 (List.mem_of_getElem? (i := 19) rfl)) rfl⟩
set_option maxRecDepth 100000 in
theorem f_X8_62 : mF "ThreeSundays$Tape" 62 8 8 4 := ⟨Nat.le_of_ble_eq_true rfl, _, rfl, rfl, Nat.le_of_ble_eq_true rfl, gw_of (in_2 (List.mem_of_getElem? (i := 13) rfl)) rfl⟩
set_option maxRecDepth 100000 in
theorem f_X9_9 : mF "ThreeSundays$Town" 9 9 18 0 := ⟨Nat.le_of_ble_eq_true rfl, _, rfl, rfl, Nat.le_of_ble_eq_true rfl, gw_of (in_1 (List.mem_of_getElem? (i := 92) rfl)) rfl⟩
set_option maxRecDepth 100000 in
theorem f_X9_15 : mF "ThreeSundays$Town" 15 9 18 1 := ⟨Nat.le_of_ble_eq_true rfl, _, rfl, rfl, Nat.le_of_ble_eq_true rfl, gw_of (in_1 (List.mem_of_getElem? (i := 93) rfl)) rfl⟩
set_option maxRecDepth 100000 in
theorem f_X9_18 : mF "ThreeSundays$Town" 18 9 18 2 := ⟨Nat.le_of_ble_eq_true rfl, _, rfl, rfl, Nat.le_of_ble_eq_true rfl, gw_of (in_1 (List.mem_of_getElem? (i := 94) rfl)) rfl⟩
set_option maxRecDepth 100000 in
theorem f_X9_22 : mF "ThreeSundays$Town" 22 9 18 3 := ⟨Nat.le_of_ble_eq_true rfl, _, rfl, rfl, Nat.le_of_ble_eq_true rfl, gw_of (in_1 (List.mem_of_getElem? (i := 99) rfl)) rfl⟩
set_option maxRecDepth 100000 in
theorem f_X9_25 : mF "ThreeSundays$Town" 25 9 18 4 := ⟨Nat.le_of_ble_eq_true rfl, _, rfl, rfl, Nat.le_of_ble_eq_true rfl, gw_of (in_1 (List.mem_of_getElem? (i := 102) rfl)) rfl⟩
set_option maxRecDepth 100000 in
theorem f_X9_28 : mF "ThreeSundays$Town" 28 9 18 5 := ⟨Nat.le_of_ble_eq_true rfl, _, rfl, rfl, Nat.le_of_ble_eq_true rfl, gw_of (in_1 (List.mem_of_getElem? (i := 106) rfl)) rfl⟩
set_option maxRecDepth 100000 in
theorem f_X9_31 : mF "ThreeSundays$Town" 31 9 18 6 := ⟨Nat.le_of_ble_eq_true rfl, _, rfl, rfl, Nat.le_of_ble_eq_true rfl, gw_of (in_1 (List.mem_of_getElem? (i := 109) rfl)) rfl⟩
set_option maxRecDepth 100000 in
theorem f_X9_34 : mF "ThreeSundays$Town" 34 9 18 7 := ⟨Nat.le_of_ble_eq_true rfl, _, rfl, rfl, Nat.le_of_ble_eq_true rfl, gw_of (in_1 (List.mem_of_getElem? (i := 112) rfl)) rfl⟩
set_option maxRecDepth 100000 in
theorem f_X9_37 : mF "ThreeSundays$Town" 37 9 18 8 := ⟨Nat.le_of_ble_eq_true rfl, _, rfl, rfl, Nat.le_of_ble_eq_true rfl, gw_of (in_1 (List.mem_of_getElem? (i := 114) rfl)) rfl⟩
set_option maxRecDepth 100000 in
theorem f_X9_43 : mF "ThreeSundays$Town" 43 9 18 9 := ⟨Nat.le_of_ble_eq_true rfl, _, rfl, rfl, Nat.le_of_ble_eq_true rfl, gw_of (in_1 (List.mem_of_getElem? (i := 116) rfl)) rfl⟩
set_option maxRecDepth 100000 in
theorem f_X9_50 : mF "ThreeSundays$Town" 50 9 18 10 := ⟨Nat.le_of_ble_eq_true rfl, _, rfl, rfl, Nat.le_of_ble_eq_true rfl, gw_of (in_1 (List.mem_of_getElem? (i := 121) rfl)) rfl⟩
set_option maxRecDepth 100000 in
theorem f_X9_54 : mF "ThreeSundays$Town" 54 9 18 15 := ⟨Nat.le_of_ble_eq_true rfl, _, rfl, rfl, Nat.le_of_ble_eq_true rfl, gw_of (in_1 (List.mem_of_getElem? (i := 143) rfl)) rfl⟩
set_option maxRecDepth 100000 in
theorem f_X9_58 : mF "ThreeSundays$Town" 58 9 18 16 := ⟨Nat.le_of_ble_eq_true rfl, _, rfl, rfl, Nat.le_of_ble_eq_true rfl, gw_of (in_1 (List.mem_of_getElem? (i := 146) rfl)) rfl⟩
set_option maxRecDepth 100000 in
theorem f_X9_61 : mF "ThreeSundays$Town" 61 9 18 11 := ⟨Nat.le_of_ble_eq_true rfl, _, rfl, rfl, Nat.le_of_ble_eq_true rfl, gw_of (in_1 (List.mem_of_getElem? (i := 125) rfl)) rfl⟩
set_option maxRecDepth 100000 in
theorem f_X9_64 : mF "ThreeSundays$Town" 64 9 18 12 := ⟨Nat.le_of_ble_eq_true rfl, _, rfl, rfl, Nat.le_of_ble_eq_true rfl, gw_of (in_1 (List.mem_of_getElem? (i := 129) rfl)) rfl⟩
set_option maxRecDepth 100000 in
theorem f_X9_67 : mF "ThreeSundays$Town" 67 9 18 13 := ⟨Nat.le_of_ble_eq_true rfl, _, rfl, rfl, Nat.le_of_ble_eq_true rfl, gw_of (in_1 (List.mem_of_getElem? (i := 135) rfl)) rfl⟩
set_option maxRecDepth 100000 in
theorem f_X9_70 : mF "ThreeSundays$Town" 70 9 18 14 := ⟨Nat.le_of_ble_eq_true rfl, _, rfl, rfl, Nat.le_of_ble_eq_true rfl, gw_of (in_1 (List.mem_of_getElem? (i := 139) rfl)) rfl⟩
set_option maxRecDepth 100000 in
theorem f_X9_73 : mF "ThreeSundays$Town" 73 9 18 17 := ⟨Nat.le_of_ble_eq_true rfl, _, rfl, rfl, Nat.le_of_ble_eq_true rfl, gw_of (in_1 (List.mem_of_getElem? (i := 149) rfl)) rfl⟩
set_option maxRecDepth 100000 in
theorem f_X11_7 : mF "ThreeSundaysModel" 7 11 81 0 := ⟨Nat.le_of_ble_eq_true rfl, _, rfl, rfl, Nat.le_of_ble_eq_true rfl, gw_of (in_6 (List.mem_of_getElem? (i := 26) rfl)) rfl⟩
set_option maxRecDepth 100000 in
theorem f_X11_13 : mF "ThreeSundaysModel" 13 11 81 3 := ⟨Nat.le_of_ble_eq_true rfl, _, rfl, rfl, Nat.le_of_ble_eq_true rfl, gw_of (in_6 (List.mem_of_getElem? (i := 29) rfl)) rfl⟩
set_option maxRecDepth 100000 in
theorem f_X11_17 : mF "ThreeSundaysModel" 17 11 81 10 := ⟨Nat.le_of_ble_eq_true rfl, _, rfl, rfl, Nat.le_of_ble_eq_true rfl, gw_of (in_6 (List.mem_of_getElem? (i := 36) rfl)) rfl⟩
set_option maxRecDepth 100000 in
theorem f_X11_21 : mF "ThreeSundaysModel" 21 11 81 11 := ⟨Nat.le_of_ble_eq_true rfl, _, rfl, rfl, Nat.le_of_ble_eq_true rfl, gw_of (in_6 (List.mem_of_getElem? (i := 37) rfl)) rfl⟩
set_option maxRecDepth 100000 in
theorem f_X11_24 : mF "ThreeSundaysModel" 24 11 81 12 := ⟨Nat.le_of_ble_eq_true rfl, _, rfl, rfl, Nat.le_of_ble_eq_true rfl, gw_of (in_6 (List.mem_of_getElem? (i := 38) rfl)) rfl⟩
set_option maxRecDepth 100000 in
theorem f_X11_27 : mF "ThreeSundaysModel" 27 11 81 13 := ⟨Nat.le_of_ble_eq_true rfl, _, rfl, rfl, Nat.le_of_ble_eq_true rfl, gw_of (in_6 (List.mem_of_getElem? (i := 39) rfl)) rfl⟩
set_option maxRecDepth 100000 in
theorem f_X11_30 : mF "ThreeSundaysModel" 30 11 81 14 := ⟨Nat.le_of_ble_eq_true rfl, _, rfl, rfl, Nat.le_of_ble_eq_true rfl, gw_of (in_6 (List.mem_of_getElem? (i := 40) rfl)) rfl⟩
set_option maxRecDepth 100000 in
theorem f_X11_33 : mF "ThreeSundaysModel" 33 11 81 15 := ⟨Nat.le_of_ble_eq_true rfl, _, rfl, rfl, Nat.le_of_ble_eq_true rfl, gw_of (in_6 (List.mem_of_getElem? (i := 41) rfl)) rfl⟩
set_option maxRecDepth 100000 in
theorem f_X11_36 : mF "ThreeSundaysModel" 36 11 81 16 := ⟨Nat.le_of_ble_eq_true rfl, _, rfl, rfl, Nat.le_of_ble_eq_true rfl, gw_of (in_6 (List.mem_of_getElem? (i := 42) rfl)) rfl⟩
set_option maxRecDepth 100000 in
theorem f_X11_39 : mF "ThreeSundaysModel" 39 11 81 24 := ⟨Nat.le_of_ble_eq_true rfl, _, rfl, rfl, Nat.le_of_ble_eq_true rfl, gw_of (in_6 (List.mem_of_getElem? (i := 50) rfl)) rfl⟩
set_option maxRecDepth 100000 in
theorem f_X11_42 : mF "ThreeSundaysModel" 42 11 81 25 := ⟨Nat.le_of_ble_eq_true rfl, _, rfl, rfl, Nat.le_of_ble_eq_true rfl, gw_of (in_6 (List.mem_of_getElem? (i := 51) rfl)) rfl⟩
set_option maxRecDepth 100000 in
theorem f_X11_45 : mF "ThreeSundaysModel" 45 11 81 26 := ⟨Nat.le_of_ble_eq_true rfl, _, rfl, rfl, Nat.le_of_ble_eq_true rfl, gw_of (in_6 (List.mem_of_getElem? (i := 52) rfl)) rfl⟩
set_option maxRecDepth 100000 in
theorem f_X11_48 : mF "ThreeSundaysModel" 48 11 81 27 := ⟨Nat.le_of_ble_eq_true rfl, _, rfl, rfl, Nat.le_of_ble_eq_true rfl, gw_of (in_6 (List.mem_of_getElem? (i := 53) rfl)) rfl⟩
set_option maxRecDepth 100000 in
theorem f_X11_51 : mF "ThreeSundaysModel" 51 11 81 28 := ⟨Nat.le_of_ble_eq_true rfl, _, rfl, rfl, Nat.le_of_ble_eq_true rfl, gw_of (in_6 (List.mem_of_getElem? (i := 54) rfl)) rfl⟩
set_option maxRecDepth 100000 in
theorem f_X11_54 : mF "ThreeSundaysModel" 54 11 81 29 := ⟨Nat.le_of_ble_eq_true rfl, _, rfl, rfl, Nat.le_of_ble_eq_true rfl, gw_of (in_6 (List.mem_of_getElem? (i := 55) rfl)) rfl⟩
set_option maxRecDepth 100000 in
theorem f_X11_57 : mF "ThreeSundaysModel" 57 11 81 30 := ⟨Nat.le_of_ble_eq_true rfl, _, rfl, rfl, Nat.le_of_ble_eq_true rfl, gw_of (in_6 (List.mem_of_getElem? (i := 56) rfl)) rfl⟩
set_option maxRecDepth 100000 in
theorem f_X11_60 : mF "ThreeSundaysModel" 60 11 81 31 := ⟨Nat.le_of_ble_eq_true rfl, _, rfl, rfl, Nat.le_of_ble_eq_true rfl, gw_of (in_6 (List.mem_of_getElem? (i := 57) rfl)) rfl⟩
set_option maxRecDepth 100000 in
theorem f_X11_63 : mF "ThreeSundaysModel" 63 11 81 32 := ⟨Nat.le_of_ble_eq_true rfl, _, rfl, rfl, Nat.le_of_ble_eq_true rfl, gw_of (in_6 (List.mem_of_getElem? (i := 58) rfl)) rfl⟩
set_option maxRecDepth 100000 in
theorem f_X11_66 : mF "ThreeSundaysModel" 66 11 81 33 := ⟨Nat.le_of_ble_eq_true rfl, _, rfl, rfl, Nat.le_of_ble_eq_true rfl, gw_of (in_6 (List.mem_of_getElem? (i := 59) rfl)) rfl⟩
set_option maxRecDepth 100000 in
theorem f_X11_69 : mF "ThreeSundaysModel" 69 11 81 34 := ⟨Nat.le_of_ble_eq_true rfl, _, rfl, rfl, Nat.le_of_ble_eq_true rfl, gw_of (in_6 (List.mem_of_getElem? (i := 60) rfl)) rfl⟩
set_option maxRecDepth 100000 in
theorem f_X11_72 : mF "ThreeSundaysModel" 72 11 81 35 := ⟨Nat.le_of_ble_eq_true rfl, _, rfl, rfl, Nat.le_of_ble_eq_true rfl, gw_of (in_6 (List.mem_of_getElem? (i := 61) rfl)) rfl⟩
set_option maxRecDepth 100000 in
theorem f_X11_75 : mF "ThreeSundaysModel" 75 11 81 36 := ⟨Nat.le_of_ble_eq_true rfl, _, rfl, rfl, Nat.le_of_ble_eq_true rfl, gw_of (in_6 (List.mem_of_getElem? (i := 62) rfl)) rfl⟩
set_option maxRecDepth 100000 in
theorem f_X11_78 : mF "ThreeSundaysModel" 78 11 81 37 := ⟨Nat.le_of_ble_eq_true rfl, _, rfl, rfl, Nat.le_of_ble_eq_true rfl, gw_of (in_6 (List.mem_of_getElem? (i := 63) rfl)) rfl⟩
set_option maxRecDepth 100000 in
theorem f_X11_81 : mF "ThreeSundaysModel" 81 11 81 38 := ⟨Nat.le_of_ble_eq_true rfl, _, rfl, rfl, Nat.le_of_ble_eq_true rfl, gw_of (in_6 (List.mem_of_getElem? (i := 64) rfl)) rfl⟩
set_option maxRecDepth 100000 in
theorem f_X11_84 : mF "ThreeSundaysModel" 84 11 81 39 := ⟨Nat.le_of_ble_eq_true rfl, _, rfl, rfl, Nat.le_of_ble_eq_true rfl, gw_of (in_6 (List.mem_of_getElem? (i := 65) rfl)) rfl⟩
set_option maxRecDepth 100000 in
theorem f_X11_87 : mF "ThreeSundaysModel" 87 11 81 40 := ⟨Nat.le_of_ble_eq_true rfl, _, rfl, rfl, Nat.le_of_ble_eq_true rfl, gw_of (in_6 (List.mem_of_getElem? (i := 66) rfl)) rfl⟩
set_option maxRecDepth 100000 in
theorem f_X11_91 : mF "ThreeSundaysModel" 91 11 81 41 := ⟨Nat.le_of_ble_eq_true rfl, _, rfl, rfl, Nat.le_of_ble_eq_true rfl, gw_of (in_6 (List.mem_of_getElem? (i := 67) rfl)) rfl⟩
set_option maxRecDepth 100000 in
theorem f_X11_94 : mF "ThreeSundaysModel" 94 11 81 53 := ⟨Nat.le_of_ble_eq_true rfl, _, rfl, rfl, Nat.le_of_ble_eq_true rfl, gw_of (in_6 (List.mem_of_getElem? (i := 79) rfl)) rfl⟩
set_option maxRecDepth 100000 in
theorem f_X11_97 : mF "ThreeSundaysModel" 97 11 81 54 := ⟨Nat.le_of_ble_eq_true rfl, _, rfl, rfl, Nat.le_of_ble_eq_true rfl, gw_of (in_6 (List.mem_of_getElem? (i := 80) rfl)) rfl⟩
set_option maxRecDepth 100000 in
theorem f_X11_100 : mF "ThreeSundaysModel" 100 11 81 59 := ⟨Nat.le_of_ble_eq_true rfl, _, rfl, rfl, Nat.le_of_ble_eq_true rfl, gw_of (in_6 (List.mem_of_getElem? (i := 85) rfl)) rfl⟩
set_option maxRecDepth 100000 in
theorem f_X11_103 : mF "ThreeSundaysModel" 103 11 81 60 := ⟨Nat.le_of_ble_eq_true rfl, _, rfl, rfl, Nat.le_of_ble_eq_true rfl, gw_of (in_6 (List.mem_of_getElem? (i := 86) rfl)) rfl⟩
set_option maxRecDepth 100000 in
theorem f_X11_106 : mF "ThreeSundaysModel" 106 11 81 61 := ⟨Nat.le_of_ble_eq_true rfl, _, rfl, rfl, Nat.le_of_ble_eq_true rfl, gw_of (in_6 (List.mem_of_getElem? (i := 87) rfl)) rfl⟩
set_option maxRecDepth 100000 in
theorem f_X11_109 : mF "ThreeSundaysModel" 109 11 81 62 := ⟨Nat.le_of_ble_eq_true rfl, _, rfl, rfl, Nat.le_of_ble_eq_true rfl, gw_of (in_6 (List.mem_of_getElem? (i := 88) rfl)) rfl⟩
set_option maxRecDepth 100000 in
theorem f_X11_112 : mF "ThreeSundaysModel" 112 11 81 64 := ⟨Nat.le_of_ble_eq_true rfl, _, rfl, rfl, Nat.le_of_ble_eq_true rfl, gw_of (in_6 (List.mem_of_getElem? (i := 90) rfl)) rfl⟩
set_option maxRecDepth 100000 in
theorem f_X11_115 : mF "ThreeSundaysModel" 115 11 81 69 := ⟨Nat.le_of_ble_eq_true rfl, _, rfl, rfl, Nat.le_of_ble_eq_true rfl, gw_of (in_6 (List.mem_of_getElem? (i := 95) rfl)) rfl⟩
set_option maxRecDepth 100000 in
theorem f_X11_118 : mF "ThreeSundaysModel" 118 11 81 70 := ⟨Nat.le_of_ble_eq_true rfl, _, rfl, rfl, Nat.le_of_ble_eq_true rfl, gw_of (in_6 (List.mem_of_getElem? (i := 96) rfl)) rfl⟩
set_option maxRecDepth 100000 in
theorem f_X11_121 : mF "ThreeSundaysModel" 121 11 81 71 := ⟨Nat.le_of_ble_eq_true rfl, _, rfl, rfl, Nat.le_of_ble_eq_true rfl, gw_of (in_6 (List.mem_of_getElem? (i := 97) rfl)) rfl⟩
set_option maxRecDepth 100000 in
theorem f_X11_124 : mF "ThreeSundaysModel" 124 11 81 72 := ⟨Nat.le_of_ble_eq_true rfl, _, rfl, rfl, Nat.le_of_ble_eq_true rfl, gw_of (in_6 (List.mem_of_getElem? (i := 98) rfl)) rfl⟩
set_option maxRecDepth 100000 in
theorem f_X11_127 : mF "ThreeSundaysModel" 127 11 81 73 := ⟨Nat.le_of_ble_eq_true rfl, _, rfl, rfl, Nat.le_of_ble_eq_true rfl, gw_of (in_6 (List.mem_of_getElem? (i := 99) rfl)) rfl⟩
set_option maxRecDepth 100000 in
theorem f_X11_130 : mF "ThreeSundaysModel" 130 11 81 74 := ⟨Nat.le_of_ble_eq_true rfl, _, rfl, rfl, Nat.le_of_ble_eq_true rfl, gw_of (in_6 (List.mem_of_getElem? (i := 100) rfl)) rfl⟩
set_option maxRecDepth 100000 in
theorem f_X11_133 : mF "ThreeSundaysModel" 133 11 81 75 := ⟨Nat.le_of_ble_eq_true rfl, _, rfl, rfl, Nat.le_of_ble_eq_true rfl, gw_of (in_6 (List.mem_of_getElem? (i := 101) rfl)) rfl⟩
set_option maxRecDepth 100000 in
theorem f_X11_136 : mF "ThreeSundaysModel" 136 11 81 76 := ⟨Nat.le_of_ble_eq_true rfl, _, rfl, rfl, Nat.le_of_ble_eq_true rfl, gw_of (in_6 (List.mem_of_getElem? (i := 102) rfl)) rfl⟩
set_option maxRecDepth 100000 in
theorem f_X11_139 : mF "ThreeSundaysModel" 139 11 81 79 := ⟨Nat.le_of_ble_eq_true rfl, _, rfl, rfl, Nat.le_of_ble_eq_true rfl, gw_of (in_6 (List.mem_of_getElem? (i := 105) rfl)) rfl⟩
set_option maxRecDepth 100000 in
theorem f_X11_142 : mF "ThreeSundaysModel" 142 11 81 80 := ⟨Nat.le_of_ble_eq_true rfl, _, rfl, rfl, Nat.le_of_ble_eq_true rfl, gw_of (in_6 (List.mem_of_getElem? (i := 106) rfl)) rfl⟩
set_option maxRecDepth 100000 in
theorem f_X11_145 : mF "ThreeSundaysModel" 145 11 81 1 := ⟨Nat.le_of_ble_eq_true rfl, _, rfl, rfl, Nat.le_of_ble_eq_true rfl, gw_of (in_6 (List.mem_of_getElem? (i := 27) rfl)) rfl⟩
set_option maxRecDepth 100000 in
theorem f_X11_152 : mF "ThreeSundaysModel" 152 11 81 4 := ⟨Nat.le_of_ble_eq_true rfl, _, rfl, rfl, Nat.le_of_ble_eq_true rfl, gw_of (in_6 (List.mem_of_getElem? (i := 30) rfl)) rfl⟩
set_option maxRecDepth 100000 in
theorem f_X11_155 : mF "ThreeSundaysModel" 155 11 81 5 := ⟨Nat.le_of_ble_eq_true rfl, _, rfl, rfl, Nat.le_of_ble_eq_true rfl, gw_of (in_6 (List.mem_of_getElem? (i := 31) rfl)) rfl⟩
set_option maxRecDepth 100000 in
theorem f_X11_162 : mF "ThreeSundaysModel" 162 11 81 7 := ⟨Nat.le_of_ble_eq_true rfl, _, rfl, rfl, Nat.le_of_ble_eq_true rfl, gw_of (in_6 (List.mem_of_getElem? (i := 33) rfl)) rfl⟩
set_option maxRecDepth 100000 in
theorem f_X11_165 : mF "ThreeSundaysModel" 165 11 81 9 := ⟨Nat.le_of_ble_eq_true rfl, _, rfl, rfl, Nat.le_of_ble_eq_true rfl, gw_of (in_6 (List.mem_of_getElem? (i := 35) rfl)) rfl⟩
set_option maxRecDepth 100000 in
theorem f_X11_169 : mF "ThreeSundaysModel" 169 11 81 8 := ⟨Nat.le_of_ble_eq_true rfl, _, rfl, rfl, Nat.le_of_ble_eq_true rfl, gw_of (in_6 (List.mem_of_getElem? (i := 34) rfl)) rfl⟩
set_option maxRecDepth 100000 in
theorem f_X11_172 : mF "ThreeSundaysModel" 172 11 81 6 := ⟨Nat.le_of_ble_eq_true rfl, _, rfl, rfl, Nat.le_of_ble_eq_true rfl, gw_of (in_6 (List.mem_of_getElem? (i := 32) rfl)) rfl⟩
set_option maxRecDepth 100000 in
theorem f_X11_185 : mF "ThreeSundaysModel" 185 11 81 2 := ⟨Nat.le_of_ble_eq_true rfl, _, rfl, rfl, Nat.le_of_ble_eq_true rfl, gw_of (in_6 (List.mem_of_getElem? (i := 28) rfl)) rfl⟩
set_option maxRecDepth 100000 in
theorem f_X11_258 : mF "ThreeSundaysModel" 258 11 81 43 := ⟨Nat.le_of_ble_eq_true rfl, _, rfl, rfl, Nat.le_of_ble_eq_true rfl, gw_of (in_6 (List.mem_of_getElem? (i := 69) rfl)) rfl⟩
set_option maxRecDepth 100000 in
theorem f_X11_264 : mF "ThreeSundaysModel" 264 11 81 42 := ⟨Nat.le_of_ble_eq_true rfl, _, rfl, rfl, Nat.le_of_ble_eq_true rfl, gw_of (in_6 (List.mem_of_getElem? (i := 68) rfl)) rfl⟩
set_option maxRecDepth 100000 in
theorem f_X11_267 : mF "ThreeSundaysModel" 267 11 81 17 := ⟨Nat.le_of_ble_eq_true rfl, _, rfl, rfl, Nat.le_of_ble_eq_true rfl, gw_of (in_6 (List.mem_of_getElem? (i := 43) rfl)) rfl⟩
set_option maxRecDepth 100000 in
theorem f_X11_270 : mF "ThreeSundaysModel" 270 11 81 19 := ⟨Nat.le_of_ble_eq_true rfl, _, rfl, rfl, Nat.le_of_ble_eq_true rfl, gw_of (in_6 (List.mem_of_getElem? (i := 45) rfl)) rfl⟩
set_option maxRecDepth 100000 in
theorem f_X11_280 : mF "ThreeSundaysModel" 280 11 81 23 := ⟨Nat.le_of_ble_eq_true rfl, _, rfl, rfl, Nat.le_of_ble_eq_true rfl, gw_of (in_6 (List.mem_of_getElem? (i := 49) rfl)) rfl⟩
set_option maxRecDepth 100000 in
theorem f_X11_283 : mF "ThreeSundaysModel" 283 11 81 20 := ⟨Nat.le_of_ble_eq_true rfl, _, rfl, rfl, Nat.le_of_ble_eq_true rfl, gw_of (in_6 (List.mem_of_getElem? (i := 46) rfl)) rfl⟩
set_option maxRecDepth 100000 in
theorem f_X11_286 : mF "ThreeSundaysModel" 286 11 81 22 := ⟨Nat.le_of_ble_eq_true rfl, _, rfl, rfl, Nat.le_of_ble_eq_true rfl, gw_of (in_6 (List.mem_of_getElem? (i := 48) rfl)) rfl⟩
set_option maxRecDepth 100000 in
theorem f_X11_324 : mF "ThreeSundaysModel" 324 11 81 18 := ⟨Nat.le_of_ble_eq_true rfl, _, rfl, rfl, Nat.le_of_ble_eq_true rfl, gw_of (in_6 (List.mem_of_getElem? (i := 44) rfl)) rfl⟩
set_option maxRecDepth 100000 in
theorem f_X11_350 : mF "ThreeSundaysModel" 350 11 81 45 := ⟨Nat.le_of_ble_eq_true rfl, _, rfl, rfl, Nat.le_of_ble_eq_true rfl, gw_of (in_6 (List.mem_of_getElem? (i := 71) rfl)) rfl⟩
set_option maxRecDepth 100000 in
theorem f_X11_353 : mF "ThreeSundaysModel" 353 11 81 46 := ⟨Nat.le_of_ble_eq_true rfl, _, rfl, rfl, Nat.le_of_ble_eq_true rfl, gw_of (in_6 (List.mem_of_getElem? (i := 72) rfl)) rfl⟩
set_option maxRecDepth 100000 in
theorem f_X11_356 : mF "ThreeSundaysModel" 356 11 81 44 := ⟨Nat.le_of_ble_eq_true rfl, _, rfl, rfl, Nat.le_of_ble_eq_true rfl, gw_of (in_6 (List.mem_of_getElem? (i := 70) rfl)) rfl⟩
set_option maxRecDepth 100000 in
theorem f_X11_378 : mF "ThreeSundaysModel" 378 11 81 55 := ⟨Nat.le_of_ble_eq_true rfl, _, rfl, rfl, Nat.le_of_ble_eq_true rfl, gw_of (in_6 (List.mem_of_getElem? (i := 81) rfl)) rfl⟩
set_option maxRecDepth 100000 in
theorem f_X11_385 : mF "ThreeSundaysModel" 385 11 81 56 := ⟨Nat.le_of_ble_eq_true rfl, _, rfl, rfl, Nat.le_of_ble_eq_true rfl, gw_of (in_6 (List.mem_of_getElem? (i := 82) rfl)) rfl⟩
set_option maxRecDepth 100000 in
theorem f_X11_388 : mF "ThreeSundaysModel" 388 11 81 47 := ⟨Nat.le_of_ble_eq_true rfl, _, rfl, rfl, Nat.le_of_ble_eq_true rfl, gw_of (in_6 (List.mem_of_getElem? (i := 73) rfl)) rfl⟩
set_option maxRecDepth 100000 in
theorem f_X11_391 : mF "ThreeSundaysModel" 391 11 81 57 := ⟨Nat.le_of_ble_eq_true rfl, _, rfl, rfl, Nat.le_of_ble_eq_true rfl, gw_of (in_6 (List.mem_of_getElem? (i := 83) rfl)) rfl⟩
set_option maxRecDepth 100000 in
theorem f_X11_394 : mF "ThreeSundaysModel" 394 11 81 48 := ⟨Nat.le_of_ble_eq_true rfl, _, rfl, rfl, Nat.le_of_ble_eq_true rfl, gw_of (in_6 (List.mem_of_getElem? (i := 74) rfl)) rfl⟩
set_option maxRecDepth 100000 in
theorem f_X11_397 : mF "ThreeSundaysModel" 397 11 81 58 := ⟨Nat.le_of_ble_eq_true rfl, _, rfl, rfl, Nat.le_of_ble_eq_true rfl, gw_of (in_6 (List.mem_of_getElem? (i := 84) rfl)) rfl⟩
set_option maxRecDepth 100000 in
theorem f_X11_400 : mF "ThreeSundaysModel" 400 11 81 49 := ⟨Nat.le_of_ble_eq_true rfl, _, rfl, rfl, Nat.le_of_ble_eq_true rfl, gw_of (in_6 (List.mem_of_getElem? (i := 75) rfl)) rfl⟩
set_option maxRecDepth 100000 in
theorem f_X11_409 : mF "ThreeSundaysModel" 409 11 81 50 := ⟨Nat.le_of_ble_eq_true rfl, _, rfl, rfl, Nat.le_of_ble_eq_true rfl, gw_of (in_6 (List.mem_of_getElem? (i := 76) rfl)) rfl⟩
set_option maxRecDepth 100000 in
theorem f_X11_412 : mF "ThreeSundaysModel" 412 11 81 51 := ⟨Nat.le_of_ble_eq_true rfl, _, rfl, rfl, Nat.le_of_ble_eq_true rfl, gw_of (in_6 (List.mem_of_getElem? (i := 77) rfl)) rfl⟩
set_option maxRecDepth 100000 in
theorem f_X11_415 : mF "ThreeSundaysModel" 415 11 81 52 := ⟨Nat.le_of_ble_eq_true rfl, _, rfl, rfl, Nat.le_of_ble_eq_true rfl, gw_of (in_6 (List.mem_of_getElem? (i := 78) rfl)) rfl⟩
set_option maxRecDepth 100000 in
theorem f_X11_418 : mF "ThreeSundaysModel" 418 11 81 21 := ⟨Nat.le_of_ble_eq_true rfl, _, rfl, rfl, Nat.le_of_ble_eq_true rfl, gw_of (in_6 (List.mem_of_getElem? (i := 47) rfl)) rfl⟩
set_option maxRecDepth 100000 in
theorem f_X11_424 : mF "ThreeSundaysModel" 424 11 81 65 := ⟨Nat.le_of_ble_eq_true rfl, _, rfl, rfl, Nat.le_of_ble_eq_true rfl, gw_of (in_6 (List.mem_of_getElem? (i := 91) rfl)) rfl⟩
set_option maxRecDepth 100000 in
theorem f_X11_427 : mF "ThreeSundaysModel" 427 11 81 66 := ⟨Nat.le_of_ble_eq_true rfl, _, rfl, rfl, Nat.le_of_ble_eq_true rfl, gw_of (in_6 (List.mem_of_getElem? (i := 92) rfl)) rfl⟩
set_option maxRecDepth 100000 in
theorem f_X11_430 : mF "ThreeSundaysModel" 430 11 81 77 := ⟨Nat.le_of_ble_eq_true rfl, _, rfl, rfl, Nat.le_of_ble_eq_true rfl, gw_of (in_6 (List.mem_of_getElem? (i := 103) rfl)) rfl⟩
set_option maxRecDepth 100000 in
theorem f_X11_473 : mF "ThreeSundaysModel" 473 11 81 63 := ⟨Nat.le_of_ble_eq_true rfl, _, rfl, rfl, Nat.le_of_ble_eq_true rfl, gw_of (in_6 (List.mem_of_getElem? (i := 89) rfl)) rfl⟩
set_option maxRecDepth 100000 in
theorem f_X11_527 : mF "ThreeSundaysModel" 527 11 81 67 := ⟨Nat.le_of_ble_eq_true rfl, _, rfl, rfl, Nat.le_of_ble_eq_true rfl, gw_of (in_6 (List.mem_of_getElem? (i := 93) rfl)) rfl⟩
set_option maxRecDepth 100000 in
theorem f_X11_530 : mF "ThreeSundaysModel" 530 11 81 68 := ⟨Nat.le_of_ble_eq_true rfl, _, rfl, rfl, Nat.le_of_ble_eq_true rfl, gw_of (in_6 (List.mem_of_getElem? (i := 94) rfl)) rfl⟩
set_option maxRecDepth 100000 in
theorem f_X11_567 : mF "ThreeSundaysModel" 567 11 81 78 := ⟨Nat.le_of_ble_eq_true rfl, _, rfl, rfl, Nat.le_of_ble_eq_true rfl, gw_of (in_6 (List.mem_of_getElem? (i := 104) rfl)) rfl⟩
set_option maxRecDepth 100000 in
theorem yv_X0_clear : Cond.instanceMethod yX0_clear ∈ gw ∧ Cond.selects yX0_clear.cls yX0_clear yX0_clear ∈ gw ∧ Cond.initialized yX0_clear.cls ∈ gw ∧ cdM m_X0_clear ∈ gw ∧ (plainName yX0_clear.cls = true ∧ yX0_clear.cls ≠ "java/lang/invoke/MethodHandle" ∧ yX0_clear.cls ≠ "java/lang/invoke/VarHandle" ∧ (parseMethodDescriptor yX0_clear.desc).map (fun d => d.parameters.length) = some 0 ∧ m_X0_clear.2.2.1 ≤ 45) := ⟨gw_of (in_3 (List.mem_of_getElem? (i := 10) rfl)) rfl, gw_of (in_3 (List.mem_of_getElem? (i := 11) rfl)) rfl, gw_of (in_1 (List.mem_of_getElem? (i := 3) rfl)) rfl, gw_of (in_3 (List.mem_of_getElem? (i := 12) rfl)) rfl, ⟨by decide +kernel, by decide +kernel, by decide +kernel, by decide +kernel, by decide +kernel⟩⟩
set_option maxRecDepth 100000 in
theorem yv_X0_close : Cond.instanceMethod yX0_close ∈ gw ∧ Cond.selects yX0_close.cls yX0_close yX0_close ∈ gw ∧ Cond.initialized yX0_close.cls ∈ gw ∧ cdM m_X0_close ∈ gw ∧ (plainName yX0_close.cls = true ∧ yX0_close.cls ≠ "java/lang/invoke/MethodHandle" ∧ yX0_close.cls ≠ "java/lang/invoke/VarHandle" ∧ (parseMethodDescriptor yX0_close.desc).map (fun d => d.parameters.length) = some 1 ∧ m_X0_close.2.2.1 ≤ 45) := ⟨gw_of (in_4 (List.mem_of_getElem? (i := 35) rfl)) rfl, gw_of (in_4 (List.mem_of_getElem? (i := 36) rfl)) rfl, gw_of (in_1 (List.mem_of_getElem? (i := 3) rfl)) rfl, gw_of (in_4 (List.mem_of_getElem? (i := 37) rfl)) rfl, ⟨by decide +kernel, by decide +kernel, by decide +kernel, by decide +kernel, by decide +kernel⟩⟩
set_option maxRecDepth 100000 in
theorem yv_X0_bind : Cond.instanceMethod yX0_bind ∈ gw ∧ Cond.selects yX0_bind.cls yX0_bind yX0_bind ∈ gw ∧ Cond.initialized yX0_bind.cls ∈ gw ∧ cdM m_X0_bind ∈ gw ∧ (plainName yX0_bind.cls = true ∧ yX0_bind.cls ≠ "java/lang/invoke/MethodHandle" ∧ yX0_bind.cls ≠ "java/lang/invoke/VarHandle" ∧ (parseMethodDescriptor yX0_bind.desc).map (fun d => d.parameters.length) = some 2 ∧ m_X0_bind.2.2.1 ≤ 45) := ⟨gw_of (in_4 (List.mem_of_getElem? (i := 41) rfl)) rfl, gw_sel (List.mem_of_getElem? (i := 32) rfl) rfl, gw_of (in_1 (List.mem_of_getElem? (i := 3) rfl)) rfl, gw_of (in_4 (List.mem_of_getElem? (i := 42) rfl)) rfl, ⟨by decide +kernel, by decide +kernel, by decide +kernel, by decide +kernel, by decide +kernel⟩⟩
set_option maxRecDepth 100000 in
theorem yv_X0_ancestorsOf : Cond.instanceMethod yX0_ancestorsOf ∈ gw ∧ Cond.selects yX0_ancestorsOf.cls yX0_ancestorsOf yX0_ancestorsOf ∈ gw ∧ Cond.initialized yX0_ancestorsOf.cls ∈ gw ∧ cdM m_X0_ancestorsOf ∈ gw ∧ (plainName yX0_ancestorsOf.cls = true ∧ yX0_ancestorsOf.cls ≠ "java/lang/invoke/MethodHandle" ∧ yX0_ancestorsOf.cls ≠ "java/lang/invoke/VarHandle" ∧ (parseMethodDescriptor yX0_ancestorsOf.desc).map (fun d => d.parameters.length) = some 1 ∧ m_X0_ancestorsOf.2.2.1 ≤ 45) := ⟨gw_of (in_4 (List.mem_of_getElem? (i := 151) rfl)) rfl, gw_of (in_4 (List.mem_of_getElem? (i := 152) rfl)) rfl, gw_of (in_1 (List.mem_of_getElem? (i := 3) rfl)) rfl, gw_of (in_4 (List.mem_of_getElem? (i := 153) rfl)) rfl, ⟨by decide +kernel, by decide +kernel, by decide +kernel, by decide +kernel, by decide +kernel⟩⟩
set_option maxRecDepth 100000 in
theorem yv_X0_fewestSteps : Cond.instanceMethod yX0_fewestSteps ∈ gw ∧ Cond.selects yX0_fewestSteps.cls yX0_fewestSteps yX0_fewestSteps ∈ gw ∧ Cond.initialized yX0_fewestSteps.cls ∈ gw ∧ cdM m_X0_fewestSteps ∈ gw ∧ (plainName yX0_fewestSteps.cls = true ∧ yX0_fewestSteps.cls ≠ "java/lang/invoke/MethodHandle" ∧ yX0_fewestSteps.cls ≠ "java/lang/invoke/VarHandle" ∧ (parseMethodDescriptor yX0_fewestSteps.desc).map (fun d => d.parameters.length) = some 2 ∧ m_X0_fewestSteps.2.2.1 ≤ 45) := ⟨gw_of (in_4 (List.mem_of_getElem? (i := 45) rfl)) rfl, gw_sel (List.mem_of_getElem? (i := 33) rfl) rfl, gw_of (in_1 (List.mem_of_getElem? (i := 3) rfl)) rfl, gw_of (in_4 (List.mem_of_getElem? (i := 46) rfl)) rfl, ⟨by decide +kernel, by decide +kernel, by decide +kernel, by decide +kernel, by decide +kernel⟩⟩
set_option maxRecDepth 100000 in
theorem yv_X0_degreeOf : Cond.instanceMethod yX0_degreeOf ∈ gw ∧ Cond.selects yX0_degreeOf.cls yX0_degreeOf yX0_degreeOf ∈ gw ∧ Cond.initialized yX0_degreeOf.cls ∈ gw ∧ cdM m_X0_degreeOf ∈ gw ∧ (plainName yX0_degreeOf.cls = true ∧ yX0_degreeOf.cls ≠ "java/lang/invoke/MethodHandle" ∧ yX0_degreeOf.cls ≠ "java/lang/invoke/VarHandle" ∧ (parseMethodDescriptor yX0_degreeOf.desc).map (fun d => d.parameters.length) = some 2 ∧ m_X0_degreeOf.2.2.1 ≤ 45) := ⟨gw_of (in_4 (List.mem_of_getElem? (i := 143) rfl)) rfl, gw_of (in_4 (List.mem_of_getElem? (i := 144) rfl)) rfl, gw_of (in_1 (List.mem_of_getElem? (i := 3) rfl)) rfl, gw_of (in_4 (List.mem_of_getElem? (i := 145) rfl)) rfl, ⟨by decide +kernel, by decide +kernel, by decide +kernel, by decide +kernel, by decide +kernel⟩⟩
set_option maxRecDepth 100000 in
theorem yv_X0_isWithin : Cond.instanceMethod yX0_isWithin ∈ gw ∧ Cond.selects yX0_isWithin.cls yX0_isWithin yX0_isWithin ∈ gw ∧ Cond.initialized yX0_isWithin.cls ∈ gw ∧ cdM m_X0_isWithin ∈ gw ∧ (plainName yX0_isWithin.cls = true ∧ yX0_isWithin.cls ≠ "java/lang/invoke/MethodHandle" ∧ yX0_isWithin.cls ≠ "java/lang/invoke/VarHandle" ∧ (parseMethodDescriptor yX0_isWithin.desc).map (fun d => d.parameters.length) = some 3 ∧ m_X0_isWithin.2.2.1 ≤ 45) := ⟨gw_of (in_4 (List.mem_of_getElem? (i := 109) rfl)) rfl, gw_of (in_4 (List.mem_of_getElem? (i := 110) rfl)) rfl, gw_of (in_1 (List.mem_of_getElem? (i := 3) rfl)) rfl, gw_of (in_4 (List.mem_of_getElem? (i := 111) rfl)) rfl, ⟨by decide +kernel, by decide +kernel, by decide +kernel, by decide +kernel, by decide +kernel⟩⟩
set_option maxRecDepth 100000 in
theorem yv_X0_knownBy : Cond.instanceMethod yX0_knownBy ∈ gw ∧ Cond.selects yX0_knownBy.cls yX0_knownBy yX0_knownBy ∈ gw ∧ Cond.initialized yX0_knownBy.cls ∈ gw ∧ cdM m_X0_knownBy ∈ gw ∧ (plainName yX0_knownBy.cls = true ∧ yX0_knownBy.cls ≠ "java/lang/invoke/MethodHandle" ∧ yX0_knownBy.cls ≠ "java/lang/invoke/VarHandle" ∧ (parseMethodDescriptor yX0_knownBy.desc).map (fun d => d.parameters.length) = some 1 ∧ m_X0_knownBy.2.2.1 ≤ 45) := ⟨gw_of (in_5 (List.mem_of_getElem? (i := 235) rfl)) rfl, gw_of (in_5 (List.mem_of_getElem? (i := 236) rfl)) rfl, gw_of (in_1 (List.mem_of_getElem? (i := 3) rfl)) rfl, gw_of (in_5 (List.mem_of_getElem? (i := 237) rfl)) rfl, ⟨by decide +kernel, by decide +kernel, by decide +kernel, by decide +kernel, by decide +kernel⟩⟩
set_option maxRecDepth 100000 in
theorem yv_X1_clear : Cond.instanceMethod yX1_clear ∈ gw ∧ Cond.selects yX1_clear.cls yX1_clear yX1_clear ∈ gw ∧ Cond.initialized yX1_clear.cls ∈ gw ∧ cdM m_X1_clear ∈ gw ∧ (plainName yX1_clear.cls = true ∧ yX1_clear.cls ≠ "java/lang/invoke/MethodHandle" ∧ yX1_clear.cls ≠ "java/lang/invoke/VarHandle" ∧ (parseMethodDescriptor yX1_clear.desc).map (fun d => d.parameters.length) = some 0 ∧ m_X1_clear.2.2.1 ≤ 45) := ⟨gw_of (in_3 (List.mem_of_getElem? (i := 6) rfl)) rfl, gw_of (in_3 (List.mem_of_getElem? (i := 7) rfl)) rfl, gw_of (in_1 (List.mem_of_getElem? (i := 4) rfl)) rfl, gw_of (in_3 (List.mem_of_getElem? (i := 8) rfl)) rfl, ⟨by decide +kernel, by decide +kernel, by decide +kernel, by decide +kernel, by decide +kernel⟩⟩
set_option maxRecDepth 100000 in
theorem yv_X1_add : Cond.instanceMethod yX1_add ∈ gw ∧ Cond.selects yX1_add.cls yX1_add yX1_add ∈ gw ∧ Cond.initialized yX1_add.cls ∈ gw ∧ cdM m_X1_add ∈ gw ∧ (plainName yX1_add.cls = true ∧ yX1_add.cls ≠ "java/lang/invoke/MethodHandle" ∧ yX1_add.cls ≠ "java/lang/invoke/VarHandle" ∧ (parseMethodDescriptor yX1_add.desc).map (fun d => d.parameters.length) = some 1 ∧ m_X1_add.2.2.1 ≤ 45) := ⟨gw_of (in_4 (List.mem_of_getElem? (i := 19) rfl)) rfl, gw_of (in_4 (List.mem_of_getElem? (i := 20) rfl)) rfl, gw_of (in_1 (List.mem_of_getElem? (i := 4) rfl)) rfl, gw_of (in_4 (List.mem_of_getElem? (i := 21) rfl)) rfl, ⟨by decide +kernel, by decide +kernel, by decide +kernel, by decide +kernel, by decide +kernel⟩⟩
set_option maxRecDepth 100000 in
theorem yv_X1_isTold : Cond.instanceMethod yX1_isTold ∈ gw ∧ Cond.selects yX1_isTold.cls yX1_isTold yX1_isTold ∈ gw ∧ Cond.initialized yX1_isTold.cls ∈ gw ∧ cdM m_X1_isTold ∈ gw ∧ (plainName yX1_isTold.cls = true ∧ yX1_isTold.cls ≠ "java/lang/invoke/MethodHandle" ∧ yX1_isTold.cls ≠ "java/lang/invoke/VarHandle" ∧ (parseMethodDescriptor yX1_isTold.desc).map (fun d => d.parameters.length) = some 0 ∧ m_X1_isTold.2.2.1 ≤ 45) := ⟨gw_of (in_4 (List.mem_of_getElem? (i := 163) rfl)) rfl, gw_of (in_4 (List.mem_of_getElem? (i := 164) rfl)) rfl, gw_of (in_1 (List.mem_of_getElem? (i := 4) rfl)) rfl, gw_of (in_4 (List.mem_of_getElem? (i := 165) rfl)) rfl, ⟨by decide +kernel, by decide +kernel, by decide +kernel, by decide +kernel, by decide +kernel⟩⟩
set_option maxRecDepth 100000 in
theorem yv_X1_valueFor : Cond.instanceMethod yX1_valueFor ∈ gw ∧ Cond.selects yX1_valueFor.cls yX1_valueFor yX1_valueFor ∈ gw ∧ Cond.initialized yX1_valueFor.cls ∈ gw ∧ cdM m_X1_valueFor ∈ gw ∧ (plainName yX1_valueFor.cls = true ∧ yX1_valueFor.cls ≠ "java/lang/invoke/MethodHandle" ∧ yX1_valueFor.cls ≠ "java/lang/invoke/VarHandle" ∧ (parseMethodDescriptor yX1_valueFor.desc).map (fun d => d.parameters.length) = some 4 ∧ m_X1_valueFor.2.2.1 ≤ 45) := ⟨gw_of (in_4 (List.mem_of_getElem? (i := 184) rfl)) rfl, gw_of (in_4 (List.mem_of_getElem? (i := 185) rfl)) rfl, gw_of (in_1 (List.mem_of_getElem? (i := 4) rfl)) rfl, gw_of (in_4 (List.mem_of_getElem? (i := 186) rfl)) rfl, ⟨by decide +kernel, by decide +kernel, by decide +kernel, by decide +kernel, by decide +kernel⟩⟩
set_option maxRecDepth 100000 in
theorem ys_X1_leaf : Cond.static yX1_leaf ∈ gw ∧ Cond.initialized yX1_leaf.cls ∈ gw ∧ cdM m_X1_leaf ∈ gw ∧ (plainName yX1_leaf.cls = true ∧ yX1_leaf.cls ≠ "java/lang/invoke/MethodHandle" ∧ yX1_leaf.cls ≠ "java/lang/invoke/VarHandle" ∧ (parseMethodDescriptor yX1_leaf.desc).map (fun d => d.parameters.length) = some 5 ∧ m_X1_leaf.2.2.1 ≤ 45) := ⟨gw_of (in_4 (List.mem_of_getElem? (i := 188) rfl)) rfl, gw_of (in_1 (List.mem_of_getElem? (i := 4) rfl)) rfl, gw_of (in_4 (List.mem_of_getElem? (i := 189) rfl)) rfl, ⟨by decide +kernel, by decide +kernel, by decide +kernel, by decide +kernel, by decide +kernel⟩⟩
set_option maxRecDepth 100000 in
theorem ys_X1_joined : Cond.static yX1_joined ∈ gw ∧ Cond.initialized yX1_joined.cls ∈ gw ∧ cdM m_X1_joined ∈ gw ∧ (plainName yX1_joined.cls = true ∧ yX1_joined.cls ≠ "java/lang/invoke/MethodHandle" ∧ yX1_joined.cls ≠ "java/lang/invoke/VarHandle" ∧ (parseMethodDescriptor yX1_joined.desc).map (fun d => d.parameters.length) = some 3 ∧ m_X1_joined.2.2.1 ≤ 45) := ⟨gw_of (in_4 (List.mem_of_getElem? (i := 194) rfl)) rfl, gw_of (in_1 (List.mem_of_getElem? (i := 4) rfl)) rfl, gw_of (in_4 (List.mem_of_getElem? (i := 195) rfl)) rfl, ⟨by decide +kernel, by decide +kernel, by decide +kernel, by decide +kernel, by decide +kernel⟩⟩
set_option maxRecDepth 100000 in
theorem ys_X1_truth : Cond.static yX1_truth ∈ gw ∧ Cond.initialized yX1_truth.cls ∈ gw ∧ cdM m_X1_truth ∈ gw ∧ (plainName yX1_truth.cls = true ∧ yX1_truth.cls ≠ "java/lang/invoke/MethodHandle" ∧ yX1_truth.cls ≠ "java/lang/invoke/VarHandle" ∧ (parseMethodDescriptor yX1_truth.desc).map (fun d => d.parameters.length) = some 1 ∧ m_X1_truth.2.2.1 ≤ 45) := ⟨gw_of (in_4 (List.mem_of_getElem? (i := 191) rfl)) rfl, gw_of (in_1 (List.mem_of_getElem? (i := 4) rfl)) rfl, gw_of (in_4 (List.mem_of_getElem? (i := 192) rfl)) rfl, ⟨by decide +kernel, by decide +kernel, by decide +kernel, by decide +kernel, by decide +kernel⟩⟩
set_option maxRecDepth 100000 in
theorem yv_X2_restart : Cond.instanceMethod yX2_restart ∈ gw ∧ Cond.selects yX2_restart.cls yX2_restart yX2_restart ∈ gw ∧ Cond.initialized yX2_restart.cls ∈ gw ∧ cdM m_X2_restart ∈ gw ∧ (plainName yX2_restart.cls = true ∧ yX2_restart.cls ≠ "java/lang/invoke/MethodHandle" ∧ yX2_restart.cls ≠ "java/lang/invoke/VarHandle" ∧ (parseMethodDescriptor yX2_restart.desc).map (fun d => d.parameters.length) = some 1 ∧ m_X2_restart.2.2.1 ≤ 45) := ⟨gw_of (in_2 (List.mem_of_getElem? (i := 176) rfl)) rfl, gw_of (in_2 (List.mem_of_getElem? (i := 177) rfl)) rfl, gw_of (in_1 (List.mem_of_getElem? (i := 13) rfl)) rfl, gw_of (in_2 (List.mem_of_getElem? (i := 178) rfl)) rfl, ⟨by decide +kernel, by decide +kernel, by decide +kernel, by decide +kernel, by decide +kernel⟩⟩
set_option maxRecDepth 100000 in
theorem yv_X2_add : Cond.instanceMethod yX2_add ∈ gw ∧ Cond.selects yX2_add.cls yX2_add yX2_add ∈ gw ∧ Cond.initialized yX2_add.cls ∈ gw ∧ cdM m_X2_add ∈ gw ∧ (plainName yX2_add.cls = true ∧ yX2_add.cls ≠ "java/lang/invoke/MethodHandle" ∧ yX2_add.cls ≠ "java/lang/invoke/VarHandle" ∧ (parseMethodDescriptor yX2_add.desc).map (fun d => d.parameters.length) = some 1 ∧ m_X2_add.2.2.1 ≤ 45) := ⟨gw_of (in_4 (List.mem_of_getElem? (i := 220) rfl)) rfl, gw_of (in_4 (List.mem_of_getElem? (i := 221) rfl)) rfl, gw_of (in_1 (List.mem_of_getElem? (i := 13) rfl)) rfl, gw_of (in_4 (List.mem_of_getElem? (i := 222) rfl)) rfl, ⟨by decide +kernel, by decide +kernel, by decide +kernel, by decide +kernel, by decide +kernel⟩⟩
set_option maxRecDepth 100000 in
theorem yv_X2_stepBack : Cond.instanceMethod yX2_stepBack ∈ gw ∧ Cond.selects yX2_stepBack.cls yX2_stepBack yX2_stepBack ∈ gw ∧ Cond.initialized yX2_stepBack.cls ∈ gw ∧ cdM m_X2_stepBack ∈ gw ∧ (plainName yX2_stepBack.cls = true ∧ yX2_stepBack.cls ≠ "java/lang/invoke/MethodHandle" ∧ yX2_stepBack.cls ≠ "java/lang/invoke/VarHandle" ∧ (parseMethodDescriptor yX2_stepBack.desc).map (fun d => d.parameters.length) = some 1 ∧ m_X2_stepBack.2.2.1 ≤ 45) := ⟨gw_of (in_5 (List.mem_of_getElem? (i := 45) rfl)) rfl, gw_of (in_5 (List.mem_of_getElem? (i := 46) rfl)) rfl, gw_of (in_1 (List.mem_of_getElem? (i := 13) rfl)) rfl, gw_of (in_5 (List.mem_of_getElem? (i := 47) rfl)) rfl, ⟨by decide +kernel, by decide +kernel, by decide +kernel, by decide +kernel, by decide +kernel⟩⟩
set_option maxRecDepth 100000 in
theorem yv_X2_stepOn : Cond.instanceMethod yX2_stepOn ∈ gw ∧ Cond.selects yX2_stepOn.cls yX2_stepOn yX2_stepOn ∈ gw ∧ Cond.initialized yX2_stepOn.cls ∈ gw ∧ cdM m_X2_stepOn ∈ gw ∧ (plainName yX2_stepOn.cls = true ∧ yX2_stepOn.cls ≠ "java/lang/invoke/MethodHandle" ∧ yX2_stepOn.cls ≠ "java/lang/invoke/VarHandle" ∧ (parseMethodDescriptor yX2_stepOn.desc).map (fun d => d.parameters.length) = some 1 ∧ m_X2_stepOn.2.2.1 ≤ 45) := ⟨gw_of (in_5 (List.mem_of_getElem? (i := 57) rfl)) rfl, gw_of (in_5 (List.mem_of_getElem? (i := 58) rfl)) rfl, gw_of (in_1 (List.mem_of_getElem? (i := 13) rfl)) rfl, gw_of (in_5 (List.mem_of_getElem? (i := 59) rfl)) rfl, ⟨by decide +kernel, by decide +kernel, by decide +kernel, by decide +kernel, by decide +kernel⟩⟩
set_option maxRecDepth 100000 in
theorem yv_X2_load : Cond.instanceMethod yX2_load ∈ gw ∧ Cond.selects yX2_load.cls yX2_load yX2_load ∈ gw ∧ Cond.initialized yX2_load.cls ∈ gw ∧ cdM m_X2_load ∈ gw ∧ (plainName yX2_load.cls = true ∧ yX2_load.cls ≠ "java/lang/invoke/MethodHandle" ∧ yX2_load.cls ≠ "java/lang/invoke/VarHandle" ∧ (parseMethodDescriptor yX2_load.desc).map (fun d => d.parameters.length) = some 1 ∧ m_X2_load.2.2.1 ≤ 45) := ⟨gw_of (in_5 (List.mem_of_getElem? (i := 50) rfl)) rfl, gw_sel (List.mem_of_getElem? (i := 40) rfl) rfl, gw_of (in_1 (List.mem_of_getElem? (i := 13) rfl)) rfl, gw_of (in_5 (List.mem_of_getElem? (i := 51) rfl)) rfl, ⟨by decide +kernel, by decide +kernel, by decide +kernel, by decide +kernel, by decide +kernel⟩⟩
set_option maxRecDepth 100000 in
theorem yv_X3_spouseOf : Cond.instanceMethod yX3_spouseOf ∈ gw ∧ Cond.selects yX3_spouseOf.cls yX3_spouseOf yX3_spouseOf ∈ gw ∧ Cond.initialized yX3_spouseOf.cls ∈ gw ∧ cdM m_X3_spouseOf ∈ gw ∧ (plainName yX3_spouseOf.cls = true ∧ yX3_spouseOf.cls ≠ "java/lang/invoke/MethodHandle" ∧ yX3_spouseOf.cls ≠ "java/lang/invoke/VarHandle" ∧ (parseMethodDescriptor yX3_spouseOf.desc).map (fun d => d.parameters.length) = some 2 ∧ m_X3_spouseOf.2.2.1 ≤ 45) := ⟨gw_of (in_4 (List.mem_of_getElem? (i := 72) rfl)) rfl, gw_of (in_4 (List.mem_of_getElem? (i := 73) rfl)) rfl, gw_of (in_1 (List.mem_of_getElem? (i := 11) rfl)) rfl, gw_of (in_4 (List.mem_of_getElem? (i := 74) rfl)) rfl, ⟨by decide +kernel, by decide +kernel, by decide +kernel, by decide +kernel, by decide +kernel⟩⟩
set_option maxRecDepth 100000 in
theorem yv_X3_wedBeside : Cond.instanceMethod yX3_wedBeside ∈ gw ∧ Cond.selects yX3_wedBeside.cls yX3_wedBeside yX3_wedBeside ∈ gw ∧ Cond.initialized yX3_wedBeside.cls ∈ gw ∧ cdM m_X3_wedBeside ∈ gw ∧ (plainName yX3_wedBeside.cls = true ∧ yX3_wedBeside.cls ≠ "java/lang/invoke/MethodHandle" ∧ yX3_wedBeside.cls ≠ "java/lang/invoke/VarHandle" ∧ (parseMethodDescriptor yX3_wedBeside.desc).map (fun d => d.parameters.length) = some 2 ∧ m_X3_wedBeside.2.2.1 ≤ 45) := ⟨gw_of (in_4 (List.mem_of_getElem? (i := 114) rfl)) rfl, gw_sel (List.mem_of_getElem? (i := 34) rfl) rfl, gw_of (in_1 (List.mem_of_getElem? (i := 11) rfl)) rfl, gw_of (in_4 (List.mem_of_getElem? (i := 115) rfl)) rfl, ⟨by decide +kernel, by decide +kernel, by decide +kernel, by decide +kernel, by decide +kernel⟩⟩
set_option maxRecDepth 100000 in
theorem yv_X3_barOf : Cond.instanceMethod yX3_barOf ∈ gw ∧ Cond.selects yX3_barOf.cls yX3_barOf yX3_barOf ∈ gw ∧ Cond.initialized yX3_barOf.cls ∈ gw ∧ cdM m_X3_barOf ∈ gw ∧ (plainName yX3_barOf.cls = true ∧ yX3_barOf.cls ≠ "java/lang/invoke/MethodHandle" ∧ yX3_barOf.cls ≠ "java/lang/invoke/VarHandle" ∧ (parseMethodDescriptor yX3_barOf.desc).map (fun d => d.parameters.length) = some 2 ∧ m_X3_barOf.2.2.1 ≤ 45) := ⟨gw_of (in_4 (List.mem_of_getElem? (i := 101) rfl)) rfl, gw_of (in_4 (List.mem_of_getElem? (i := 102) rfl)) rfl, gw_of (in_1 (List.mem_of_getElem? (i := 11) rfl)) rfl, gw_of (in_4 (List.mem_of_getElem? (i := 103) rfl)) rfl, ⟨by decide +kernel, by decide +kernel, by decide +kernel, by decide +kernel, by decide +kernel⟩⟩
set_option maxRecDepth 100000 in
theorem yv_X3_barBetween : Cond.instanceMethod yX3_barBetween ∈ gw ∧ Cond.selects yX3_barBetween.cls yX3_barBetween yX3_barBetween ∈ gw ∧ Cond.initialized yX3_barBetween.cls ∈ gw ∧ cdM m_X3_barBetween ∈ gw ∧ (plainName yX3_barBetween.cls = true ∧ yX3_barBetween.cls ≠ "java/lang/invoke/MethodHandle" ∧ yX3_barBetween.cls ≠ "java/lang/invoke/VarHandle" ∧ (parseMethodDescriptor yX3_barBetween.desc).map (fun d => d.parameters.length) = some 4 ∧ m_X3_barBetween.2.2.1 ≤ 45) := ⟨gw_of (in_4 (List.mem_of_getElem? (i := 105) rfl)) rfl, gw_of (in_4 (List.mem_of_getElem? (i := 106) rfl)) rfl, gw_of (in_1 (List.mem_of_getElem? (i := 11) rfl)) rfl, gw_of (in_4 (List.mem_of_getElem? (i := 107) rfl)) rfl, ⟨by decide +kernel, by decide +kernel, by decide +kernel, by decide +kernel, by decide +kernel⟩⟩
set_option maxRecDepth 100000 in
theorem yv_X3_risersOf : Cond.instanceMethod yX3_risersOf ∈ gw ∧ Cond.selects yX3_risersOf.cls yX3_risersOf yX3_risersOf ∈ gw ∧ Cond.initialized yX3_risersOf.cls ∈ gw ∧ cdM m_X3_risersOf ∈ gw ∧ (plainName yX3_risersOf.cls = true ∧ yX3_risersOf.cls ≠ "java/lang/invoke/MethodHandle" ∧ yX3_risersOf.cls ≠ "java/lang/invoke/VarHandle" ∧ (parseMethodDescriptor yX3_risersOf.desc).map (fun d => d.parameters.length) = some 2 ∧ m_X3_risersOf.2.2.1 ≤ 45) := ⟨gw_of (in_4 (List.mem_of_getElem? (i := 118) rfl)) rfl, gw_of (in_4 (List.mem_of_getElem? (i := 119) rfl)) rfl, gw_of (in_1 (List.mem_of_getElem? (i := 11) rfl)) rfl, gw_of (in_4 (List.mem_of_getElem? (i := 120) rfl)) rfl, ⟨by decide +kernel, by decide +kernel, by decide +kernel, by decide +kernel, by decide +kernel⟩⟩
set_option maxRecDepth 100000 in
theorem yv_X3_sittersIn : Cond.instanceMethod yX3_sittersIn ∈ gw ∧ Cond.selects yX3_sittersIn.cls yX3_sittersIn yX3_sittersIn ∈ gw ∧ Cond.initialized yX3_sittersIn.cls ∈ gw ∧ cdM m_X3_sittersIn ∈ gw ∧ (plainName yX3_sittersIn.cls = true ∧ yX3_sittersIn.cls ≠ "java/lang/invoke/MethodHandle" ∧ yX3_sittersIn.cls ≠ "java/lang/invoke/VarHandle" ∧ (parseMethodDescriptor yX3_sittersIn.desc).map (fun d => d.parameters.length) = some 2 ∧ m_X3_sittersIn.2.2.1 ≤ 45) := ⟨gw_of (in_4 (List.mem_of_getElem? (i := 207) rfl)) rfl, gw_of (in_4 (List.mem_of_getElem? (i := 208) rfl)) rfl, gw_of (in_1 (List.mem_of_getElem? (i := 11) rfl)) rfl, gw_of (in_4 (List.mem_of_getElem? (i := 209) rfl)) rfl, ⟨by decide +kernel, by decide +kernel, by decide +kernel, by decide +kernel, by decide +kernel⟩⟩
set_option maxRecDepth 100000 in
theorem yv_X3_presentIn : Cond.instanceMethod yX3_presentIn ∈ gw ∧ Cond.selects yX3_presentIn.cls yX3_presentIn yX3_presentIn ∈ gw ∧ Cond.initialized yX3_presentIn.cls ∈ gw ∧ cdM m_X3_presentIn ∈ gw ∧ (plainName yX3_presentIn.cls = true ∧ yX3_presentIn.cls ≠ "java/lang/invoke/MethodHandle" ∧ yX3_presentIn.cls ≠ "java/lang/invoke/VarHandle" ∧ (parseMethodDescriptor yX3_presentIn.desc).map (fun d => d.parameters.length) = some 3 ∧ m_X3_presentIn.2.2.1 ≤ 45) := ⟨gw_of (in_4 (List.mem_of_getElem? (i := 180) rfl)) rfl, gw_sel (List.mem_of_getElem? (i := 36) rfl) rfl, gw_of (in_1 (List.mem_of_getElem? (i := 11) rfl)) rfl, gw_of (in_4 (List.mem_of_getElem? (i := 181) rfl)) rfl, ⟨by decide +kernel, by decide +kernel, by decide +kernel, by decide +kernel, by decide +kernel⟩⟩
set_option maxRecDepth 100000 in
theorem yv_X3_calledNext : Cond.instanceMethod yX3_calledNext ∈ gw ∧ Cond.selects yX3_calledNext.cls yX3_calledNext yX3_calledNext ∈ gw ∧ Cond.initialized yX3_calledNext.cls ∈ gw ∧ cdM m_X3_calledNext ∈ gw ∧ (plainName yX3_calledNext.cls = true ∧ yX3_calledNext.cls ≠ "java/lang/invoke/MethodHandle" ∧ yX3_calledNext.cls ≠ "java/lang/invoke/VarHandle" ∧ (parseMethodDescriptor yX3_calledNext.desc).map (fun d => d.parameters.length) = some 1 ∧ m_X3_calledNext.2.2.1 ≤ 45) := ⟨gw_of (in_4 (List.mem_of_getElem? (i := 122) rfl)) rfl, gw_of (in_4 (List.mem_of_getElem? (i := 123) rfl)) rfl, gw_of (in_1 (List.mem_of_getElem? (i := 11) rfl)) rfl, gw_of (in_4 (List.mem_of_getElem? (i := 124) rfl)) rfl, ⟨by decide +kernel, by decide +kernel, by decide +kernel, by decide +kernel, by decide +kernel⟩⟩
set_option maxRecDepth 100000 in
theorem yv_X3_takesCall : Cond.instanceMethod yX3_takesCall ∈ gw ∧ Cond.selects yX3_takesCall.cls yX3_takesCall yX3_takesCall ∈ gw ∧ Cond.initialized yX3_takesCall.cls ∈ gw ∧ cdM m_X3_takesCall ∈ gw ∧ (plainName yX3_takesCall.cls = true ∧ yX3_takesCall.cls ≠ "java/lang/invoke/MethodHandle" ∧ yX3_takesCall.cls ≠ "java/lang/invoke/VarHandle" ∧ (parseMethodDescriptor yX3_takesCall.desc).map (fun d => d.parameters.length) = some 2 ∧ m_X3_takesCall.2.2.1 ≤ 45) := ⟨gw_of (in_4 (List.mem_of_getElem? (i := 136) rfl)) rfl, gw_sel (List.mem_of_getElem? (i := 35) rfl) rfl, gw_of (in_1 (List.mem_of_getElem? (i := 11) rfl)) rfl, gw_of (in_4 (List.mem_of_getElem? (i := 137) rfl)) rfl, ⟨by decide +kernel, by decide +kernel, by decide +kernel, by decide +kernel, by decide +kernel⟩⟩
set_option maxRecDepth 100000 in
theorem yv_X3_readIn : Cond.instanceMethod yX3_readIn ∈ gw ∧ Cond.selects yX3_readIn.cls yX3_readIn yX3_readIn ∈ gw ∧ Cond.initialized yX3_readIn.cls ∈ gw ∧ cdM m_X3_readIn ∈ gw ∧ (plainName yX3_readIn.cls = true ∧ yX3_readIn.cls ≠ "java/lang/invoke/MethodHandle" ∧ yX3_readIn.cls ≠ "java/lang/invoke/VarHandle" ∧ (parseMethodDescriptor yX3_readIn.desc).map (fun d => d.parameters.length) = some 3 ∧ m_X3_readIn.2.2.1 ≤ 45) := ⟨gw_of (in_4 (List.mem_of_getElem? (i := 168) rfl)) rfl, gw_of (in_4 (List.mem_of_getElem? (i := 169) rfl)) rfl, gw_of (in_1 (List.mem_of_getElem? (i := 11) rfl)) rfl, gw_of (in_4 (List.mem_of_getElem? (i := 170) rfl)) rfl, ⟨by decide +kernel, by decide +kernel, by decide +kernel, by decide +kernel, by decide +kernel⟩⟩
set_option maxRecDepth 100000 in
theorem yv_X3_earOf : Cond.instanceMethod yX3_earOf ∈ gw ∧ Cond.selects yX3_earOf.cls yX3_earOf yX3_earOf ∈ gw ∧ Cond.initialized yX3_earOf.cls ∈ gw ∧ cdM m_X3_earOf ∈ gw ∧ (plainName yX3_earOf.cls = true ∧ yX3_earOf.cls ≠ "java/lang/invoke/MethodHandle" ∧ yX3_earOf.cls ≠ "java/lang/invoke/VarHandle" ∧ (parseMethodDescriptor yX3_earOf.desc).map (fun d => d.parameters.length) = some 3 ∧ m_X3_earOf.2.2.1 ≤ 45) := ⟨gw_of (in_4 (List.mem_of_getElem? (i := 159) rfl)) rfl, gw_of (in_4 (List.mem_of_getElem? (i := 160) rfl)) rfl, gw_of (in_1 (List.mem_of_getElem? (i := 11) rfl)) rfl, gw_of (in_4 (List.mem_of_getElem? (i := 161) rfl)) rfl, ⟨by decide +kernel, by decide +kernel, by decide +kernel, by decide +kernel, by decide +kernel⟩⟩
set_option maxRecDepth 100000 in
theorem yv_X3_hearersOf : Cond.instanceMethod yX3_hearersOf ∈ gw ∧ Cond.selects yX3_hearersOf.cls yX3_hearersOf yX3_hearersOf ∈ gw ∧ Cond.initialized yX3_hearersOf.cls ∈ gw ∧ cdM m_X3_hearersOf ∈ gw ∧ (plainName yX3_hearersOf.cls = true ∧ yX3_hearersOf.cls ≠ "java/lang/invoke/MethodHandle" ∧ yX3_hearersOf.cls ≠ "java/lang/invoke/VarHandle" ∧ (parseMethodDescriptor yX3_hearersOf.desc).map (fun d => d.parameters.length) = some 2 ∧ m_X3_hearersOf.2.2.1 ≤ 45) := ⟨gw_of (in_5 (List.mem_of_getElem? (i := 82) rfl)) rfl, gw_of (in_5 (List.mem_of_getElem? (i := 83) rfl)) rfl, gw_of (in_1 (List.mem_of_getElem? (i := 11) rfl)) rfl, gw_of (in_5 (List.mem_of_getElem? (i := 84) rfl)) rfl, ⟨by decide +kernel, by decide +kernel, by decide +kernel, by decide +kernel, by decide +kernel⟩⟩
set_option maxRecDepth 100000 in
theorem yv_X3_quietOf : Cond.instanceMethod yX3_quietOf ∈ gw ∧ Cond.selects yX3_quietOf.cls yX3_quietOf yX3_quietOf ∈ gw ∧ Cond.initialized yX3_quietOf.cls ∈ gw ∧ cdM m_X3_quietOf ∈ gw ∧ (plainName yX3_quietOf.cls = true ∧ yX3_quietOf.cls ≠ "java/lang/invoke/MethodHandle" ∧ yX3_quietOf.cls ≠ "java/lang/invoke/VarHandle" ∧ (parseMethodDescriptor yX3_quietOf.desc).map (fun d => d.parameters.length) = some 4 ∧ m_X3_quietOf.2.2.1 ≤ 45) := ⟨gw_of (in_5 (List.mem_of_getElem? (i := 65) rfl)) rfl, gw_of (in_5 (List.mem_of_getElem? (i := 66) rfl)) rfl, gw_of (in_1 (List.mem_of_getElem? (i := 11) rfl)) rfl, gw_of (in_5 (List.mem_of_getElem? (i := 67) rfl)) rfl, ⟨by decide +kernel, by decide +kernel, by decide +kernel, by decide +kernel, by decide +kernel⟩⟩
set_option maxRecDepth 100000 in
theorem yv_X3_keepSunday : Cond.instanceMethod yX3_keepSunday ∈ gw ∧ Cond.selects yX3_keepSunday.cls yX3_keepSunday yX3_keepSunday ∈ gw ∧ Cond.initialized yX3_keepSunday.cls ∈ gw ∧ cdM m_X3_keepSunday ∈ gw ∧ (plainName yX3_keepSunday.cls = true ∧ yX3_keepSunday.cls ≠ "java/lang/invoke/MethodHandle" ∧ yX3_keepSunday.cls ≠ "java/lang/invoke/VarHandle" ∧ (parseMethodDescriptor yX3_keepSunday.desc).map (fun d => d.parameters.length) = some 1 ∧ m_X3_keepSunday.2.2.1 ≤ 45) := ⟨gw_of (in_5 (List.mem_of_getElem? (i := 12) rfl)) rfl, gw_of (in_5 (List.mem_of_getElem? (i := 13) rfl)) rfl, gw_of (in_1 (List.mem_of_getElem? (i := 11) rfl)) rfl, gw_of (in_5 (List.mem_of_getElem? (i := 14) rfl)) rfl, ⟨by decide +kernel, by decide +kernel, by decide +kernel, by decide +kernel, by decide +kernel⟩⟩
set_option maxRecDepth 100000 in
theorem yv_X3_isWedWhenRead : Cond.instanceMethod yX3_isWedWhenRead ∈ gw ∧ Cond.selects yX3_isWedWhenRead.cls yX3_isWedWhenRead yX3_isWedWhenRead ∈ gw ∧ Cond.initialized yX3_isWedWhenRead.cls ∈ gw ∧ cdM m_X3_isWedWhenRead ∈ gw ∧ (plainName yX3_isWedWhenRead.cls = true ∧ yX3_isWedWhenRead.cls ≠ "java/lang/invoke/MethodHandle" ∧ yX3_isWedWhenRead.cls ≠ "java/lang/invoke/VarHandle" ∧ (parseMethodDescriptor yX3_isWedWhenRead.desc).map (fun d => d.parameters.length) = some 3 ∧ m_X3_isWedWhenRead.2.2.1 ≤ 45) := ⟨gw_of (in_5 (List.mem_of_getElem? (i := 18) rfl)) rfl, gw_sel (List.mem_of_getElem? (i := 38) rfl) rfl, gw_of (in_1 (List.mem_of_getElem? (i := 11) rfl)) rfl, gw_of (in_5 (List.mem_of_getElem? (i := 19) rfl)) rfl, ⟨by decide +kernel, by decide +kernel, by decide +kernel, by decide +kernel, by decide +kernel⟩⟩
set_option maxRecDepth 100000 in
theorem yv_X3_isRisenAgainst : Cond.instanceMethod yX3_isRisenAgainst ∈ gw ∧ Cond.selects yX3_isRisenAgainst.cls yX3_isRisenAgainst yX3_isRisenAgainst ∈ gw ∧ Cond.initialized yX3_isRisenAgainst.cls ∈ gw ∧ cdM m_X3_isRisenAgainst ∈ gw ∧ (plainName yX3_isRisenAgainst.cls = true ∧ yX3_isRisenAgainst.cls ≠ "java/lang/invoke/MethodHandle" ∧ yX3_isRisenAgainst.cls ≠ "java/lang/invoke/VarHandle" ∧ (parseMethodDescriptor yX3_isRisenAgainst.desc).map (fun d => d.parameters.length) = some 3 ∧ m_X3_isRisenAgainst.2.2.1 ≤ 45) := ⟨gw_of (in_5 (List.mem_of_getElem? (i := 22) rfl)) rfl, gw_sel (List.mem_of_getElem? (i := 39) rfl) rfl, gw_of (in_1 (List.mem_of_getElem? (i := 11) rfl)) rfl, gw_of (in_5 (List.mem_of_getElem? (i := 23) rfl)) rfl, ⟨by decide +kernel, by decide +kernel, by decide +kernel, by decide +kernel, by decide +kernel⟩⟩
set_option maxRecDepth 100000 in
theorem yv_X4_begin : Cond.instanceMethod yX4_begin ∈ gw ∧ Cond.selects yX4_begin.cls yX4_begin yX4_begin ∈ gw ∧ Cond.initialized yX4_begin.cls ∈ gw ∧ cdM m_X4_begin ∈ gw ∧ (plainName yX4_begin.cls = true ∧ yX4_begin.cls ≠ "java/lang/invoke/MethodHandle" ∧ yX4_begin.cls ≠ "java/lang/invoke/VarHandle" ∧ (parseMethodDescriptor yX4_begin.desc).map (fun d => d.parameters.length) = some 1 ∧ m_X4_begin.2.2.1 ≤ 45) := ⟨gw_of (in_2 (List.mem_of_getElem? (i := 238) rfl)) rfl, gw_of (in_2 (List.mem_of_getElem? (i := 239) rfl)) rfl, gw_of (in_1 (List.mem_of_getElem? (i := 10) rfl)) rfl, gw_of (in_3 (List.mem_of_getElem? (i := 0) rfl)) rfl, ⟨by decide +kernel, by decide +kernel, by decide +kernel, by decide +kernel, by decide +kernel⟩⟩
set_option maxRecDepth 100000 in
theorem yv_X4_readsLine : Cond.instanceMethod yX4_readsLine ∈ gw ∧ Cond.selects yX4_readsLine.cls yX4_readsLine yX4_readsLine ∈ gw ∧ Cond.initialized yX4_readsLine.cls ∈ gw ∧ cdM m_X4_readsLine ∈ gw ∧ (plainName yX4_readsLine.cls = true ∧ yX4_readsLine.cls ≠ "java/lang/invoke/MethodHandle" ∧ yX4_readsLine.cls ≠ "java/lang/invoke/VarHandle" ∧ (parseMethodDescriptor yX4_readsLine.desc).map (fun d => d.parameters.length) = some 0 ∧ m_X4_readsLine.2.2.1 ≤ 45) := ⟨gw_of (in_3 (List.mem_of_getElem? (i := 109) rfl)) rfl, gw_of (in_3 (List.mem_of_getElem? (i := 110) rfl)) rfl, gw_of (in_1 (List.mem_of_getElem? (i := 10) rfl)) rfl, gw_of (in_3 (List.mem_of_getElem? (i := 111) rfl)) rfl, ⟨by decide +kernel, by decide +kernel, by decide +kernel, by decide +kernel, by decide +kernel⟩⟩
set_option maxRecDepth 100000 in
theorem yv_X4_refuse : Cond.instanceMethod yX4_refuse ∈ gw ∧ Cond.selects yX4_refuse.cls yX4_refuse yX4_refuse ∈ gw ∧ Cond.initialized yX4_refuse.cls ∈ gw ∧ cdM m_X4_refuse ∈ gw ∧ (plainName yX4_refuse.cls = true ∧ yX4_refuse.cls ≠ "java/lang/invoke/MethodHandle" ∧ yX4_refuse.cls ≠ "java/lang/invoke/VarHandle" ∧ (parseMethodDescriptor yX4_refuse.desc).map (fun d => d.parameters.length) = some 1 ∧ m_X4_refuse.2.2.1 ≤ 45) := ⟨gw_of (in_3 (List.mem_of_getElem? (i := 114) rfl)) rfl, gw_sel (List.mem_of_getElem? (i := 5) rfl) rfl, gw_of (in_1 (List.mem_of_getElem? (i := 10) rfl)) rfl, gw_of (in_3 (List.mem_of_getElem? (i := 115) rfl)) rfl, ⟨by decide +kernel, by decide +kernel, by decide +kernel, by decide +kernel, by decide +kernel⟩⟩
set_option maxRecDepth 100000 in
theorem yv_X4_churchLine : Cond.instanceMethod yX4_churchLine ∈ gw ∧ Cond.selects yX4_churchLine.cls yX4_churchLine yX4_churchLine ∈ gw ∧ Cond.initialized yX4_churchLine.cls ∈ gw ∧ cdM m_X4_churchLine ∈ gw ∧ (plainName yX4_churchLine.cls = true ∧ yX4_churchLine.cls ≠ "java/lang/invoke/MethodHandle" ∧ yX4_churchLine.cls ≠ "java/lang/invoke/VarHandle" ∧ (parseMethodDescriptor yX4_churchLine.desc).map (fun d => d.parameters.length) = some 0 ∧ m_X4_churchLine.2.2.1 ≤ 45) := ⟨gw_of (in_3 (List.mem_of_getElem? (i := 118) rfl)) rfl, gw_sel (List.mem_of_getElem? (i := 6) rfl) rfl, gw_of (in_1 (List.mem_of_getElem? (i := 10) rfl)) rfl, gw_of (in_3 (List.mem_of_getElem? (i := 119) rfl)) rfl, ⟨by decide +kernel, by decide +kernel, by decide +kernel, by decide +kernel, by decide +kernel⟩⟩
set_option maxRecDepth 100000 in
theorem yv_X4_personLine : Cond.instanceMethod yX4_personLine ∈ gw ∧ Cond.selects yX4_personLine.cls yX4_personLine yX4_personLine ∈ gw ∧ Cond.initialized yX4_personLine.cls ∈ gw ∧ cdM m_X4_personLine ∈ gw ∧ (plainName yX4_personLine.cls = true ∧ yX4_personLine.cls ≠ "java/lang/invoke/MethodHandle" ∧ yX4_personLine.cls ≠ "java/lang/invoke/VarHandle" ∧ (parseMethodDescriptor yX4_personLine.desc).map (fun d => d.parameters.length) = some 0 ∧ m_X4_personLine.2.2.1 ≤ 45) := ⟨gw_of (in_3 (List.mem_of_getElem? (i := 138) rfl)) rfl, gw_sel (List.mem_of_getElem? (i := 8) rfl) rfl, gw_of (in_1 (List.mem_of_getElem? (i := 10) rfl)) rfl, gw_of (in_3 (List.mem_of_getElem? (i := 139) rfl)) rfl, ⟨by decide +kernel, by decide +kernel, by decide +kernel, by decide +kernel, by decide +kernel⟩⟩
set_option maxRecDepth 100000 in
theorem yv_X4_parents : Cond.instanceMethod yX4_parents ∈ gw ∧ Cond.selects yX4_parents.cls yX4_parents yX4_parents ∈ gw ∧ Cond.initialized yX4_parents.cls ∈ gw ∧ cdM m_X4_parents ∈ gw ∧ (plainName yX4_parents.cls = true ∧ yX4_parents.cls ≠ "java/lang/invoke/MethodHandle" ∧ yX4_parents.cls ≠ "java/lang/invoke/VarHandle" ∧ (parseMethodDescriptor yX4_parents.desc).map (fun d => d.parameters.length) = some 0 ∧ m_X4_parents.2.2.1 ≤ 45) := ⟨gw_of (in_3 (List.mem_of_getElem? (i := 166) rfl)) rfl, gw_sel (List.mem_of_getElem? (i := 12) rfl) rfl, gw_of (in_1 (List.mem_of_getElem? (i := 10) rfl)) rfl, gw_of (in_3 (List.mem_of_getElem? (i := 167) rfl)) rfl, ⟨by decide +kernel, by decide +kernel, by decide +kernel, by decide +kernel, by decide +kernel⟩⟩
set_option maxRecDepth 100000 in
theorem yv_X4_vowAndSailing : Cond.instanceMethod yX4_vowAndSailing ∈ gw ∧ Cond.selects yX4_vowAndSailing.cls yX4_vowAndSailing yX4_vowAndSailing ∈ gw ∧ Cond.initialized yX4_vowAndSailing.cls ∈ gw ∧ cdM m_X4_vowAndSailing ∈ gw ∧ (plainName yX4_vowAndSailing.cls = true ∧ yX4_vowAndSailing.cls ≠ "java/lang/invoke/MethodHandle" ∧ yX4_vowAndSailing.cls ≠ "java/lang/invoke/VarHandle" ∧ (parseMethodDescriptor yX4_vowAndSailing.desc).map (fun d => d.parameters.length) = some 0 ∧ m_X4_vowAndSailing.2.2.1 ≤ 45) := ⟨gw_of (in_3 (List.mem_of_getElem? (i := 174) rfl)) rfl, gw_sel (List.mem_of_getElem? (i := 14) rfl) rfl, gw_of (in_1 (List.mem_of_getElem? (i := 10) rfl)) rfl, gw_of (in_3 (List.mem_of_getElem? (i := 175) rfl)) rfl, ⟨by decide +kernel, by decide +kernel, by decide +kernel, by decide +kernel, by decide +kernel⟩⟩
set_option maxRecDepth 100000 in
theorem yv_X4_linkLine : Cond.instanceMethod yX4_linkLine ∈ gw ∧ Cond.selects yX4_linkLine.cls yX4_linkLine yX4_linkLine ∈ gw ∧ Cond.initialized yX4_linkLine.cls ∈ gw ∧ cdM m_X4_linkLine ∈ gw ∧ (plainName yX4_linkLine.cls = true ∧ yX4_linkLine.cls ≠ "java/lang/invoke/MethodHandle" ∧ yX4_linkLine.cls ≠ "java/lang/invoke/VarHandle" ∧ (parseMethodDescriptor yX4_linkLine.desc).map (fun d => d.parameters.length) = some 2 ∧ m_X4_linkLine.2.2.1 ≤ 45) := ⟨gw_of (in_3 (List.mem_of_getElem? (i := 182) rfl)) rfl, gw_sel (List.mem_of_getElem? (i := 16) rfl) rfl, gw_of (in_1 (List.mem_of_getElem? (i := 10) rfl)) rfl, gw_of (in_3 (List.mem_of_getElem? (i := 183) rfl)) rfl, ⟨by decide +kernel, by decide +kernel, by decide +kernel, by decide +kernel, by decide +kernel⟩⟩
set_option maxRecDepth 100000 in
theorem yv_X4_pairLine : Cond.instanceMethod yX4_pairLine ∈ gw ∧ Cond.selects yX4_pairLine.cls yX4_pairLine yX4_pairLine ∈ gw ∧ Cond.initialized yX4_pairLine.cls ∈ gw ∧ cdM m_X4_pairLine ∈ gw ∧ (plainName yX4_pairLine.cls = true ∧ yX4_pairLine.cls ≠ "java/lang/invoke/MethodHandle" ∧ yX4_pairLine.cls ≠ "java/lang/invoke/VarHandle" ∧ (parseMethodDescriptor yX4_pairLine.desc).map (fun d => d.parameters.length) = some 0 ∧ m_X4_pairLine.2.2.1 ≤ 45) := ⟨gw_of (in_3 (List.mem_of_getElem? (i := 192) rfl)) rfl, gw_sel (List.mem_of_getElem? (i := 17) rfl) rfl, gw_of (in_1 (List.mem_of_getElem? (i := 10) rfl)) rfl, gw_of (in_3 (List.mem_of_getElem? (i := 193) rfl)) rfl, ⟨by decide +kernel, by decide +kernel, by decide +kernel, by decide +kernel, by decide +kernel⟩⟩
set_option maxRecDepth 100000 in
theorem yv_X4_pairPlaces : Cond.instanceMethod yX4_pairPlaces ∈ gw ∧ Cond.selects yX4_pairPlaces.cls yX4_pairPlaces yX4_pairPlaces ∈ gw ∧ Cond.initialized yX4_pairPlaces.cls ∈ gw ∧ cdM m_X4_pairPlaces ∈ gw ∧ (plainName yX4_pairPlaces.cls = true ∧ yX4_pairPlaces.cls ≠ "java/lang/invoke/MethodHandle" ∧ yX4_pairPlaces.cls ≠ "java/lang/invoke/VarHandle" ∧ (parseMethodDescriptor yX4_pairPlaces.desc).map (fun d => d.parameters.length) = some 2 ∧ m_X4_pairPlaces.2.2.1 ≤ 45) := ⟨gw_of (in_3 (List.mem_of_getElem? (i := 204) rfl)) rfl, gw_sel (List.mem_of_getElem? (i := 18) rfl) rfl, gw_of (in_1 (List.mem_of_getElem? (i := 10) rfl)) rfl, gw_of (in_3 (List.mem_of_getElem? (i := 205) rfl)) rfl, ⟨by decide +kernel, by decide +kernel, by decide +kernel, by decide +kernel, by decide +kernel⟩⟩
set_option maxRecDepth 100000 in
theorem yv_X4_settingLine : Cond.instanceMethod yX4_settingLine ∈ gw ∧ Cond.selects yX4_settingLine.cls yX4_settingLine yX4_settingLine ∈ gw ∧ Cond.initialized yX4_settingLine.cls ∈ gw ∧ cdM m_X4_settingLine ∈ gw ∧ (plainName yX4_settingLine.cls = true ∧ yX4_settingLine.cls ≠ "java/lang/invoke/MethodHandle" ∧ yX4_settingLine.cls ≠ "java/lang/invoke/VarHandle" ∧ (parseMethodDescriptor yX4_settingLine.desc).map (fun d => d.parameters.length) = some 2 ∧ m_X4_settingLine.2.2.1 ≤ 45) := ⟨gw_of (in_4 (List.mem_of_getElem? (i := 28) rfl)) rfl, gw_sel (List.mem_of_getElem? (i := 31) rfl) rfl, gw_of (in_1 (List.mem_of_getElem? (i := 10) rfl)) rfl, gw_of (in_4 (List.mem_of_getElem? (i := 29) rfl)) rfl, ⟨by decide +kernel, by decide +kernel, by decide +kernel, by decide +kernel, by decide +kernel⟩⟩
set_option maxRecDepth 100000 in
theorem yv_X4_hearsLine : Cond.instanceMethod yX4_hearsLine ∈ gw ∧ Cond.selects yX4_hearsLine.cls yX4_hearsLine yX4_hearsLine ∈ gw ∧ Cond.initialized yX4_hearsLine.cls ∈ gw ∧ cdM m_X4_hearsLine ∈ gw ∧ (plainName yX4_hearsLine.cls = true ∧ yX4_hearsLine.cls ≠ "java/lang/invoke/MethodHandle" ∧ yX4_hearsLine.cls ≠ "java/lang/invoke/VarHandle" ∧ (parseMethodDescriptor yX4_hearsLine.desc).map (fun d => d.parameters.length) = some 0 ∧ m_X4_hearsLine.2.2.1 ≤ 45) := ⟨gw_of (in_3 (List.mem_of_getElem? (i := 212) rfl)) rfl, gw_sel (List.mem_of_getElem? (i := 19) rfl) rfl, gw_of (in_1 (List.mem_of_getElem? (i := 10) rfl)) rfl, gw_of (in_3 (List.mem_of_getElem? (i := 213) rfl)) rfl, ⟨by decide +kernel, by decide +kernel, by decide +kernel, by decide +kernel, by decide +kernel⟩⟩
set_option maxRecDepth 100000 in
theorem yv_X4_isFirst : Cond.instanceMethod yX4_isFirst ∈ gw ∧ Cond.selects yX4_isFirst.cls yX4_isFirst yX4_isFirst ∈ gw ∧ Cond.initialized yX4_isFirst.cls ∈ gw ∧ cdM m_X4_isFirst ∈ gw ∧ (plainName yX4_isFirst.cls = true ∧ yX4_isFirst.cls ≠ "java/lang/invoke/MethodHandle" ∧ yX4_isFirst.cls ≠ "java/lang/invoke/VarHandle" ∧ (parseMethodDescriptor yX4_isFirst.desc).map (fun d => d.parameters.length) = some 1 ∧ m_X4_isFirst.2.2.1 ≤ 45) := ⟨gw_of (in_3 (List.mem_of_getElem? (i := 216) rfl)) rfl, gw_sel (List.mem_of_getElem? (i := 20) rfl) rfl, gw_of (in_1 (List.mem_of_getElem? (i := 10) rfl)) rfl, gw_of (in_3 (List.mem_of_getElem? (i := 217) rfl)) rfl, ⟨by decide +kernel, by decide +kernel, by decide +kernel, by decide +kernel, by decide +kernel⟩⟩
set_option maxRecDepth 100000 in
theorem yv_X4_isNewName : Cond.instanceMethod yX4_isNewName ∈ gw ∧ Cond.selects yX4_isNewName.cls yX4_isNewName yX4_isNewName ∈ gw ∧ Cond.initialized yX4_isNewName.cls ∈ gw ∧ cdM m_X4_isNewName ∈ gw ∧ (plainName yX4_isNewName.cls = true ∧ yX4_isNewName.cls ≠ "java/lang/invoke/MethodHandle" ∧ yX4_isNewName.cls ≠ "java/lang/invoke/VarHandle" ∧ (parseMethodDescriptor yX4_isNewName.desc).map (fun d => d.parameters.length) = some 1 ∧ m_X4_isNewName.2.2.1 ≤ 45) := ⟨gw_of (in_3 (List.mem_of_getElem? (i := 130) rfl)) rfl, gw_sel (List.mem_of_getElem? (i := 7) rfl) rfl, gw_of (in_1 (List.mem_of_getElem? (i := 10) rfl)) rfl, gw_of (in_3 (List.mem_of_getElem? (i := 131) rfl)) rfl, ⟨by decide +kernel, by decide +kernel, by decide +kernel, by decide +kernel, by decide +kernel⟩⟩
set_option maxRecDepth 100000 in
theorem yv_X4_takePerson : Cond.instanceMethod yX4_takePerson ∈ gw ∧ Cond.selects yX4_takePerson.cls yX4_takePerson yX4_takePerson ∈ gw ∧ Cond.initialized yX4_takePerson.cls ∈ gw ∧ cdM m_X4_takePerson ∈ gw ∧ (plainName yX4_takePerson.cls = true ∧ yX4_takePerson.cls ≠ "java/lang/invoke/MethodHandle" ∧ yX4_takePerson.cls ≠ "java/lang/invoke/VarHandle" ∧ (parseMethodDescriptor yX4_takePerson.desc).map (fun d => d.parameters.length) = some 1 ∧ m_X4_takePerson.2.2.1 ≤ 45) := ⟨gw_of (in_3 (List.mem_of_getElem? (i := 170) rfl)) rfl, gw_sel (List.mem_of_getElem? (i := 13) rfl) rfl, gw_of (in_1 (List.mem_of_getElem? (i := 10) rfl)) rfl, gw_of (in_3 (List.mem_of_getElem? (i := 171) rfl)) rfl, ⟨by decide +kernel, by decide +kernel, by decide +kernel, by decide +kernel, by decide +kernel⟩⟩
set_option maxRecDepth 100000 in
theorem yv_X4_takeChurch : Cond.instanceMethod yX4_takeChurch ∈ gw ∧ Cond.selects yX4_takeChurch.cls yX4_takeChurch yX4_takeChurch ∈ gw ∧ Cond.initialized yX4_takeChurch.cls ∈ gw ∧ cdM m_X4_takeChurch ∈ gw ∧ (plainName yX4_takeChurch.cls = true ∧ yX4_takeChurch.cls ≠ "java/lang/invoke/MethodHandle" ∧ yX4_takeChurch.cls ≠ "java/lang/invoke/VarHandle" ∧ (parseMethodDescriptor yX4_takeChurch.desc).map (fun d => d.parameters.length) = some 0 ∧ m_X4_takeChurch.2.2.1 ≤ 45) := ⟨gw_of (in_3 (List.mem_of_getElem? (i := 154) rfl)) rfl, gw_sel (List.mem_of_getElem? (i := 10) rfl) rfl, gw_of (in_1 (List.mem_of_getElem? (i := 10) rfl)) rfl, gw_of (in_3 (List.mem_of_getElem? (i := 155) rfl)) rfl, ⟨by decide +kernel, by decide +kernel, by decide +kernel, by decide +kernel, by decide +kernel⟩⟩
set_option maxRecDepth 100000 in
theorem yv_X4_nameHere : Cond.instanceMethod yX4_nameHere ∈ gw ∧ Cond.selects yX4_nameHere.cls yX4_nameHere yX4_nameHere ∈ gw ∧ Cond.initialized yX4_nameHere.cls ∈ gw ∧ cdM m_X4_nameHere ∈ gw ∧ (plainName yX4_nameHere.cls = true ∧ yX4_nameHere.cls ≠ "java/lang/invoke/MethodHandle" ∧ yX4_nameHere.cls ≠ "java/lang/invoke/VarHandle" ∧ (parseMethodDescriptor yX4_nameHere.desc).map (fun d => d.parameters.length) = some 1 ∧ m_X4_nameHere.2.2.1 ≤ 45) := ⟨gw_of (in_3 (List.mem_of_getElem? (i := 158) rfl)) rfl, gw_sel (List.mem_of_getElem? (i := 11) rfl) rfl, gw_of (in_1 (List.mem_of_getElem? (i := 10) rfl)) rfl, gw_of (in_3 (List.mem_of_getElem? (i := 159) rfl)) rfl, ⟨by decide +kernel, by decide +kernel, by decide +kernel, by decide +kernel, by decide +kernel⟩⟩
set_option maxRecDepth 100000 in
theorem yv_X4_number : Cond.instanceMethod yX4_number ∈ gw ∧ Cond.selects yX4_number.cls yX4_number yX4_number ∈ gw ∧ Cond.initialized yX4_number.cls ∈ gw ∧ cdM m_X4_number ∈ gw ∧ (plainName yX4_number.cls = true ∧ yX4_number.cls ≠ "java/lang/invoke/MethodHandle" ∧ yX4_number.cls ≠ "java/lang/invoke/VarHandle" ∧ (parseMethodDescriptor yX4_number.desc).map (fun d => d.parameters.length) = some 2 ∧ m_X4_number.2.2.1 ≤ 45) := ⟨gw_of (in_3 (List.mem_of_getElem? (i := 178) rfl)) rfl, gw_sel (List.mem_of_getElem? (i := 15) rfl) rfl, gw_of (in_1 (List.mem_of_getElem? (i := 10) rfl)) rfl, gw_of (in_3 (List.mem_of_getElem? (i := 179) rfl)) rfl, ⟨by decide +kernel, by decide +kernel, by decide +kernel, by decide +kernel, by decide +kernel⟩⟩
set_option maxRecDepth 100000 in
theorem yv_X4_word : Cond.instanceMethod yX4_word ∈ gw ∧ Cond.selects yX4_word.cls yX4_word yX4_word ∈ gw ∧ Cond.initialized yX4_word.cls ∈ gw ∧ cdM m_X4_word ∈ gw ∧ (plainName yX4_word.cls = true ∧ yX4_word.cls ≠ "java/lang/invoke/MethodHandle" ∧ yX4_word.cls ≠ "java/lang/invoke/VarHandle" ∧ (parseMethodDescriptor yX4_word.desc).map (fun d => d.parameters.length) = some 1 ∧ m_X4_word.2.2.1 ≤ 45) := ⟨gw_of (in_3 (List.mem_of_getElem? (i := 146) rfl)) rfl, gw_sel (List.mem_of_getElem? (i := 9) rfl) rfl, gw_of (in_1 (List.mem_of_getElem? (i := 10) rfl)) rfl, gw_of (in_3 (List.mem_of_getElem? (i := 147) rfl)) rfl, ⟨by decide +kernel, by decide +kernel, by decide +kernel, by decide +kernel, by decide +kernel⟩⟩
set_option maxRecDepth 100000 in
theorem yv_X4_sign : Cond.instanceMethod yX4_sign ∈ gw ∧ Cond.selects yX4_sign.cls yX4_sign yX4_sign ∈ gw ∧ Cond.initialized yX4_sign.cls ∈ gw ∧ cdM m_X4_sign ∈ gw ∧ (plainName yX4_sign.cls = true ∧ yX4_sign.cls ≠ "java/lang/invoke/MethodHandle" ∧ yX4_sign.cls ≠ "java/lang/invoke/VarHandle" ∧ (parseMethodDescriptor yX4_sign.desc).map (fun d => d.parameters.length) = some 1 ∧ m_X4_sign.2.2.1 ≤ 45) := ⟨gw_of (in_4 (List.mem_of_getElem? (i := 16) rfl)) rfl, gw_sel (List.mem_of_getElem? (i := 29) rfl) rfl, gw_of (in_1 (List.mem_of_getElem? (i := 10) rfl)) rfl, gw_of (in_4 (List.mem_of_getElem? (i := 17) rfl)) rfl, ⟨by decide +kernel, by decide +kernel, by decide +kernel, by decide +kernel, by decide +kernel⟩⟩
set_option maxRecDepth 100000 in
theorem yv_X4_either : Cond.instanceMethod yX4_either ∈ gw ∧ Cond.selects yX4_either.cls yX4_either yX4_either ∈ gw ∧ Cond.initialized yX4_either.cls ∈ gw ∧ cdM m_X4_either ∈ gw ∧ (plainName yX4_either.cls = true ∧ yX4_either.cls ≠ "java/lang/invoke/MethodHandle" ∧ yX4_either.cls ≠ "java/lang/invoke/VarHandle" ∧ (parseMethodDescriptor yX4_either.desc).map (fun d => d.parameters.length) = some 1 ∧ m_X4_either.2.2.1 ≤ 45) := ⟨gw_of (in_3 (List.mem_of_getElem? (i := 220) rfl)) rfl, gw_sel (List.mem_of_getElem? (i := 21) rfl) rfl, gw_of (in_1 (List.mem_of_getElem? (i := 10) rfl)) rfl, gw_of (in_3 (List.mem_of_getElem? (i := 221) rfl)) rfl, ⟨by decide +kernel, by decide +kernel, by decide +kernel, by decide +kernel, by decide +kernel⟩⟩
set_option maxRecDepth 100000 in
theorem yv_X4_both : Cond.instanceMethod yX4_both ∈ gw ∧ Cond.selects yX4_both.cls yX4_both yX4_both ∈ gw ∧ Cond.initialized yX4_both.cls ∈ gw ∧ cdM m_X4_both ∈ gw ∧ (plainName yX4_both.cls = true ∧ yX4_both.cls ≠ "java/lang/invoke/MethodHandle" ∧ yX4_both.cls ≠ "java/lang/invoke/VarHandle" ∧ (parseMethodDescriptor yX4_both.desc).map (fun d => d.parameters.length) = some 1 ∧ m_X4_both.2.2.1 ≤ 45) := ⟨gw_of (in_3 (List.mem_of_getElem? (i := 224) rfl)) rfl, gw_sel (List.mem_of_getElem? (i := 22) rfl) rfl, gw_of (in_1 (List.mem_of_getElem? (i := 10) rfl)) rfl, gw_of (in_3 (List.mem_of_getElem? (i := 225) rfl)) rfl, ⟨by decide +kernel, by decide +kernel, by decide +kernel, by decide +kernel, by decide +kernel⟩⟩
set_option maxRecDepth 100000 in
theorem yv_X4_one : Cond.instanceMethod yX4_one ∈ gw ∧ Cond.selects yX4_one.cls yX4_one yX4_one ∈ gw ∧ Cond.initialized yX4_one.cls ∈ gw ∧ cdM m_X4_one ∈ gw ∧ (plainName yX4_one.cls = true ∧ yX4_one.cls ≠ "java/lang/invoke/MethodHandle" ∧ yX4_one.cls ≠ "java/lang/invoke/VarHandle" ∧ (parseMethodDescriptor yX4_one.desc).map (fun d => d.parameters.length) = some 1 ∧ m_X4_one.2.2.1 ≤ 45) := ⟨gw_of (in_3 (List.mem_of_getElem? (i := 228) rfl)) rfl, gw_sel (List.mem_of_getElem? (i := 23) rfl) rfl, gw_of (in_1 (List.mem_of_getElem? (i := 10) rfl)) rfl, gw_of (in_3 (List.mem_of_getElem? (i := 229) rfl)) rfl, ⟨by decide +kernel, by decide +kernel, by decide +kernel, by decide +kernel, by decide +kernel⟩⟩
set_option maxRecDepth 100000 in
theorem yv_X4_relation : Cond.instanceMethod yX4_relation ∈ gw ∧ Cond.selects yX4_relation.cls yX4_relation yX4_relation ∈ gw ∧ Cond.initialized yX4_relation.cls ∈ gw ∧ cdM m_X4_relation ∈ gw ∧ (plainName yX4_relation.cls = true ∧ yX4_relation.cls ≠ "java/lang/invoke/MethodHandle" ∧ yX4_relation.cls ≠ "java/lang/invoke/VarHandle" ∧ (parseMethodDescriptor yX4_relation.desc).map (fun d => d.parameters.length) = some 1 ∧ m_X4_relation.2.2.1 ≤ 45) := ⟨gw_of (in_3 (List.mem_of_getElem? (i := 232) rfl)) rfl, gw_sel (List.mem_of_getElem? (i := 24) rfl) rfl, gw_of (in_1 (List.mem_of_getElem? (i := 10) rfl)) rfl, gw_of (in_3 (List.mem_of_getElem? (i := 233) rfl)) rfl, ⟨by decide +kernel, by decide +kernel, by decide +kernel, by decide +kernel, by decide +kernel⟩⟩
set_option maxRecDepth 100000 in
theorem yv_X4_sum : Cond.instanceMethod yX4_sum ∈ gw ∧ Cond.selects yX4_sum.cls yX4_sum yX4_sum ∈ gw ∧ Cond.initialized yX4_sum.cls ∈ gw ∧ cdM m_X4_sum ∈ gw ∧ (plainName yX4_sum.cls = true ∧ yX4_sum.cls ≠ "java/lang/invoke/MethodHandle" ∧ yX4_sum.cls ≠ "java/lang/invoke/VarHandle" ∧ (parseMethodDescriptor yX4_sum.desc).map (fun d => d.parameters.length) = some 1 ∧ m_X4_sum.2.2.1 ≤ 45) := ⟨gw_of (in_3 (List.mem_of_getElem? (i := 236) rfl)) rfl, gw_sel (List.mem_of_getElem? (i := 25) rfl) rfl, gw_of (in_1 (List.mem_of_getElem? (i := 10) rfl)) rfl, gw_of (in_3 (List.mem_of_getElem? (i := 237) rfl)) rfl, ⟨by decide +kernel, by decide +kernel, by decide +kernel, by decide +kernel, by decide +kernel⟩⟩
set_option maxRecDepth 100000 in
theorem yv_X4_term : Cond.instanceMethod yX4_term ∈ gw ∧ Cond.selects yX4_term.cls yX4_term yX4_term ∈ gw ∧ Cond.initialized yX4_term.cls ∈ gw ∧ cdM m_X4_term ∈ gw ∧ (plainName yX4_term.cls = true ∧ yX4_term.cls ≠ "java/lang/invoke/MethodHandle" ∧ yX4_term.cls ≠ "java/lang/invoke/VarHandle" ∧ (parseMethodDescriptor yX4_term.desc).map (fun d => d.parameters.length) = some 1 ∧ m_X4_term.2.2.1 ≤ 45) := ⟨gw_of (in_4 (List.mem_of_getElem? (i := 0) rfl)) rfl, gw_sel (List.mem_of_getElem? (i := 26) rfl) rfl, gw_of (in_1 (List.mem_of_getElem? (i := 10) rfl)) rfl, gw_of (in_4 (List.mem_of_getElem? (i := 1) rfl)) rfl, ⟨by decide +kernel, by decide +kernel, by decide +kernel, by decide +kernel, by decide +kernel⟩⟩
set_option maxRecDepth 100000 in
theorem yv_X4_isTermSign : Cond.instanceMethod yX4_isTermSign ∈ gw ∧ Cond.selects yX4_isTermSign.cls yX4_isTermSign yX4_isTermSign ∈ gw ∧ Cond.initialized yX4_isTermSign.cls ∈ gw ∧ cdM m_X4_isTermSign ∈ gw ∧ (plainName yX4_isTermSign.cls = true ∧ yX4_isTermSign.cls ≠ "java/lang/invoke/MethodHandle" ∧ yX4_isTermSign.cls ≠ "java/lang/invoke/VarHandle" ∧ (parseMethodDescriptor yX4_isTermSign.desc).map (fun d => d.parameters.length) = some 0 ∧ m_X4_isTermSign.2.2.1 ≤ 45) := ⟨gw_of (in_4 (List.mem_of_getElem? (i := 24) rfl)) rfl, gw_sel (List.mem_of_getElem? (i := 30) rfl) rfl, gw_of (in_1 (List.mem_of_getElem? (i := 10) rfl)) rfl, gw_of (in_4 (List.mem_of_getElem? (i := 25) rfl)) rfl, ⟨by decide +kernel, by decide +kernel, by decide +kernel, by decide +kernel, by decide +kernel⟩⟩
set_option maxRecDepth 100000 in
theorem yv_X4_unit : Cond.instanceMethod yX4_unit ∈ gw ∧ Cond.selects yX4_unit.cls yX4_unit yX4_unit ∈ gw ∧ Cond.initialized yX4_unit.cls ∈ gw ∧ cdM m_X4_unit ∈ gw ∧ (plainName yX4_unit.cls = true ∧ yX4_unit.cls ≠ "java/lang/invoke/MethodHandle" ∧ yX4_unit.cls ≠ "java/lang/invoke/VarHandle" ∧ (parseMethodDescriptor yX4_unit.desc).map (fun d => d.parameters.length) = some 1 ∧ m_X4_unit.2.2.1 ≤ 45) := ⟨gw_of (in_4 (List.mem_of_getElem? (i := 4) rfl)) rfl, gw_sel (List.mem_of_getElem? (i := 27) rfl) rfl, gw_of (in_1 (List.mem_of_getElem? (i := 10) rfl)) rfl, gw_of (in_4 (List.mem_of_getElem? (i := 5) rfl)) rfl, ⟨by decide +kernel, by decide +kernel, by decide +kernel, by decide +kernel, by decide +kernel⟩⟩
set_option maxRecDepth 100000 in
theorem yv_X4_leafCode : Cond.instanceMethod yX4_leafCode ∈ gw ∧ Cond.selects yX4_leafCode.cls yX4_leafCode yX4_leafCode ∈ gw ∧ Cond.initialized yX4_leafCode.cls ∈ gw ∧ cdM m_X4_leafCode ∈ gw ∧ (plainName yX4_leafCode.cls = true ∧ yX4_leafCode.cls ≠ "java/lang/invoke/MethodHandle" ∧ yX4_leafCode.cls ≠ "java/lang/invoke/VarHandle" ∧ (parseMethodDescriptor yX4_leafCode.desc).map (fun d => d.parameters.length) = some 0 ∧ m_X4_leafCode.2.2.1 ≤ 45) := ⟨gw_of (in_4 (List.mem_of_getElem? (i := 8) rfl)) rfl, gw_sel (List.mem_of_getElem? (i := 28) rfl) rfl, gw_of (in_1 (List.mem_of_getElem? (i := 10) rfl)) rfl, gw_of (in_4 (List.mem_of_getElem? (i := 9) rfl)) rfl, ⟨by decide +kernel, by decide +kernel, by decide +kernel, by decide +kernel, by decide +kernel⟩⟩
set_option maxRecDepth 100000 in
theorem yv_X5_tell : Cond.instanceMethod yX5_tell ∈ gw ∧ Cond.selects yX5_tell.cls yX5_tell yX5_tell ∈ gw ∧ Cond.initialized yX5_tell.cls ∈ gw ∧ cdM m_X5_tell ∈ gw ∧ (plainName yX5_tell.cls = true ∧ yX5_tell.cls ≠ "java/lang/invoke/MethodHandle" ∧ yX5_tell.cls ≠ "java/lang/invoke/VarHandle" ∧ (parseMethodDescriptor yX5_tell.desc).map (fun d => d.parameters.length) = some 4 ∧ m_X5_tell.2.2.1 ≤ 45) := ⟨gw_of (in_5 (List.mem_of_getElem? (i := 180) rfl)) rfl, gw_of (in_5 (List.mem_of_getElem? (i := 181) rfl)) rfl, gw_of (in_1 (List.mem_of_getElem? (i := 15) rfl)) rfl, gw_of (in_5 (List.mem_of_getElem? (i := 182) rfl)) rfl, ⟨by decide +kernel, by decide +kernel, by decide +kernel, by decide +kernel, by decide +kernel⟩⟩
set_option maxRecDepth 100000 in
theorem yv_X5_takeBack : Cond.instanceMethod yX5_takeBack ∈ gw ∧ Cond.selects yX5_takeBack.cls yX5_takeBack yX5_takeBack ∈ gw ∧ Cond.initialized yX5_takeBack.cls ∈ gw ∧ cdM m_X5_takeBack ∈ gw ∧ (plainName yX5_takeBack.cls = true ∧ yX5_takeBack.cls ≠ "java/lang/invoke/MethodHandle" ∧ yX5_takeBack.cls ≠ "java/lang/invoke/VarHandle" ∧ (parseMethodDescriptor yX5_takeBack.desc).map (fun d => d.parameters.length) = some 1 ∧ m_X5_takeBack.2.2.1 ≤ 45) := ⟨gw_of (in_5 (List.mem_of_getElem? (i := 196) rfl)) rfl, gw_of (in_5 (List.mem_of_getElem? (i := 197) rfl)) rfl, gw_of (in_1 (List.mem_of_getElem? (i := 15) rfl)) rfl, gw_of (in_5 (List.mem_of_getElem? (i := 198) rfl)) rfl, ⟨by decide +kernel, by decide +kernel, by decide +kernel, by decide +kernel, by decide +kernel⟩⟩
set_option maxRecDepth 100000 in
theorem yv_X5_passTime : Cond.instanceMethod yX5_passTime ∈ gw ∧ Cond.selects yX5_passTime.cls yX5_passTime yX5_passTime ∈ gw ∧ Cond.initialized yX5_passTime.cls ∈ gw ∧ cdM m_X5_passTime ∈ gw ∧ (plainName yX5_passTime.cls = true ∧ yX5_passTime.cls ≠ "java/lang/invoke/MethodHandle" ∧ yX5_passTime.cls ≠ "java/lang/invoke/VarHandle" ∧ (parseMethodDescriptor yX5_passTime.desc).map (fun d => d.parameters.length) = some 1 ∧ m_X5_passTime.2.2.1 ≤ 45) := ⟨gw_of (in_5 (List.mem_of_getElem? (i := 204) rfl)) rfl, gw_of (in_5 (List.mem_of_getElem? (i := 205) rfl)) rfl, gw_of (in_1 (List.mem_of_getElem? (i := 15) rfl)) rfl, gw_of (in_5 (List.mem_of_getElem? (i := 206) rfl)) rfl, ⟨by decide +kernel, by decide +kernel, by decide +kernel, by decide +kernel, by decide +kernel⟩⟩
set_option maxRecDepth 100000 in
theorem yv_X5_fitting : Cond.instanceMethod yX5_fitting ∈ gw ∧ Cond.selects yX5_fitting.cls yX5_fitting yX5_fitting ∈ gw ∧ Cond.initialized yX5_fitting.cls ∈ gw ∧ cdM m_X5_fitting ∈ gw ∧ (plainName yX5_fitting.cls = true ∧ yX5_fitting.cls ≠ "java/lang/invoke/MethodHandle" ∧ yX5_fitting.cls ≠ "java/lang/invoke/VarHandle" ∧ (parseMethodDescriptor yX5_fitting.desc).map (fun d => d.parameters.length) = some 3 ∧ m_X5_fitting.2.2.1 ≤ 45) := ⟨gw_of (in_5 (List.mem_of_getElem? (i := 213) rfl)) rfl, gw_of (in_5 (List.mem_of_getElem? (i := 214) rfl)) rfl, gw_of (in_1 (List.mem_of_getElem? (i := 15) rfl)) rfl, gw_of (in_5 (List.mem_of_getElem? (i := 215) rfl)) rfl, ⟨by decide +kernel, by decide +kernel, by decide +kernel, by decide +kernel, by decide +kernel⟩⟩
set_option maxRecDepth 100000 in
theorem yv_X5_isFitting : Cond.instanceMethod yX5_isFitting ∈ gw ∧ Cond.selects yX5_isFitting.cls yX5_isFitting yX5_isFitting ∈ gw ∧ Cond.initialized yX5_isFitting.cls ∈ gw ∧ cdM m_X5_isFitting ∈ gw ∧ (plainName yX5_isFitting.cls = true ∧ yX5_isFitting.cls ≠ "java/lang/invoke/MethodHandle" ∧ yX5_isFitting.cls ≠ "java/lang/invoke/VarHandle" ∧ (parseMethodDescriptor yX5_isFitting.desc).map (fun d => d.parameters.length) = some 4 ∧ m_X5_isFitting.2.2.1 ≤ 45) := ⟨gw_of (in_5 (List.mem_of_getElem? (i := 218) rfl)) rfl, gw_sel (List.mem_of_getElem? (i := 47) rfl) rfl, gw_of (in_1 (List.mem_of_getElem? (i := 15) rfl)) rfl, gw_of (in_5 (List.mem_of_getElem? (i := 219) rfl)) rfl, ⟨by decide +kernel, by decide +kernel, by decide +kernel, by decide +kernel, by decide +kernel⟩⟩
set_option maxRecDepth 100000 in
theorem yv_X5_counts : Cond.instanceMethod yX5_counts ∈ gw ∧ Cond.selects yX5_counts.cls yX5_counts yX5_counts ∈ gw ∧ Cond.initialized yX5_counts.cls ∈ gw ∧ cdM m_X5_counts ∈ gw ∧ (plainName yX5_counts.cls = true ∧ yX5_counts.cls ≠ "java/lang/invoke/MethodHandle" ∧ yX5_counts.cls ≠ "java/lang/invoke/VarHandle" ∧ (parseMethodDescriptor yX5_counts.desc).map (fun d => d.parameters.length) = some 2 ∧ m_X5_counts.2.2.1 ≤ 45) := ⟨gw_of (in_5 (List.mem_of_getElem? (i := 222) rfl)) rfl, gw_sel (List.mem_of_getElem? (i := 48) rfl) rfl, gw_of (in_1 (List.mem_of_getElem? (i := 15) rfl)) rfl, gw_of (in_5 (List.mem_of_getElem? (i := 223) rfl)) rfl, ⟨by decide +kernel, by decide +kernel, by decide +kernel, by decide +kernel, by decide +kernel⟩⟩
set_option maxRecDepth 100000 in
theorem yv_X5_isSo : Cond.instanceMethod yX5_isSo ∈ gw ∧ Cond.selects yX5_isSo.cls yX5_isSo yX5_isSo ∈ gw ∧ Cond.initialized yX5_isSo.cls ∈ gw ∧ cdM m_X5_isSo ∈ gw ∧ (plainName yX5_isSo.cls = true ∧ yX5_isSo.cls ≠ "java/lang/invoke/MethodHandle" ∧ yX5_isSo.cls ≠ "java/lang/invoke/VarHandle" ∧ (parseMethodDescriptor yX5_isSo.desc).map (fun d => d.parameters.length) = some 4 ∧ m_X5_isSo.2.2.1 ≤ 45) := ⟨gw_of (in_5 (List.mem_of_getElem? (i := 226) rfl)) rfl, gw_sel (List.mem_of_getElem? (i := 49) rfl) rfl, gw_of (in_1 (List.mem_of_getElem? (i := 15) rfl)) rfl, gw_of (in_5 (List.mem_of_getElem? (i := 227) rfl)) rfl, ⟨by decide +kernel, by decide +kernel, by decide +kernel, by decide +kernel, by decide +kernel⟩⟩
set_option maxRecDepth 100000 in
theorem yv_X6_bestSet : Cond.instanceMethod yX6_bestSet ∈ gw ∧ Cond.selects yX6_bestSet.cls yX6_bestSet yX6_bestSet ∈ gw ∧ Cond.initialized yX6_bestSet.cls ∈ gw ∧ cdM m_X6_bestSet ∈ gw ∧ (plainName yX6_bestSet.cls = true ∧ yX6_bestSet.cls ≠ "java/lang/invoke/MethodHandle" ∧ yX6_bestSet.cls ≠ "java/lang/invoke/VarHandle" ∧ (parseMethodDescriptor yX6_bestSet.desc).map (fun d => d.parameters.length) = some 2 ∧ m_X6_bestSet.2.2.1 ≤ 45) := ⟨gw_of (in_5 (List.mem_of_getElem? (i := 103) rfl)) rfl, gw_of (in_5 (List.mem_of_getElem? (i := 104) rfl)) rfl, gw_of (in_1 (List.mem_of_getElem? (i := 14) rfl)) rfl, gw_of (in_5 (List.mem_of_getElem? (i := 105) rfl)) rfl, ⟨by decide +kernel, by decide +kernel, by decide +kernel, by decide +kernel, by decide +kernel⟩⟩
set_option maxRecDepth 100000 in
theorem ys_X6_mark : Cond.static yX6_mark ∈ gw ∧ Cond.initialized yX6_mark.cls ∈ gw ∧ cdM m_X6_mark ∈ gw ∧ (plainName yX6_mark.cls = true ∧ yX6_mark.cls ≠ "java/lang/invoke/MethodHandle" ∧ yX6_mark.cls ≠ "java/lang/invoke/VarHandle" ∧ (parseMethodDescriptor yX6_mark.desc).map (fun d => d.parameters.length) = some 2 ∧ m_X6_mark.2.2.1 ≤ 45) := ⟨gw_of (in_5 (List.mem_of_getElem? (i := 125) rfl)) rfl, gw_of (in_1 (List.mem_of_getElem? (i := 14) rfl)) rfl, gw_of (in_5 (List.mem_of_getElem? (i := 126) rfl)) rfl, ⟨by decide +kernel, by decide +kernel, by decide +kernel, by decide +kernel, by decide +kernel⟩⟩
set_option maxRecDepth 100000 in
theorem ys_X6_isMarked : Cond.static yX6_isMarked ∈ gw ∧ Cond.initialized yX6_isMarked.cls ∈ gw ∧ cdM m_X6_isMarked ∈ gw ∧ (plainName yX6_isMarked.cls = true ∧ yX6_isMarked.cls ≠ "java/lang/invoke/MethodHandle" ∧ yX6_isMarked.cls ≠ "java/lang/invoke/VarHandle" ∧ (parseMethodDescriptor yX6_isMarked.desc).map (fun d => d.parameters.length) = some 2 ∧ m_X6_isMarked.2.2.1 ≤ 45) := ⟨gw_of (in_5 (List.mem_of_getElem? (i := 128) rfl)) rfl, gw_of (in_1 (List.mem_of_getElem? (i := 14) rfl)) rfl, gw_of (in_5 (List.mem_of_getElem? (i := 129) rfl)) rfl, ⟨by decide +kernel, by decide +kernel, by decide +kernel, by decide +kernel, by decide +kernel⟩⟩
set_option maxRecDepth 100000 in
theorem ys_X6_better : Cond.static yX6_better ∈ gw ∧ Cond.initialized yX6_better.cls ∈ gw ∧ cdM m_X6_better ∈ gw ∧ (plainName yX6_better.cls = true ∧ yX6_better.cls ≠ "java/lang/invoke/MethodHandle" ∧ yX6_better.cls ≠ "java/lang/invoke/VarHandle" ∧ (parseMethodDescriptor yX6_better.desc).map (fun d => d.parameters.length) = some 2 ∧ m_X6_better.2.2.1 ≤ 45) := ⟨gw_of (in_5 (List.mem_of_getElem? (i := 158) rfl)) rfl, gw_of (in_1 (List.mem_of_getElem? (i := 14) rfl)) rfl, gw_of (in_5 (List.mem_of_getElem? (i := 159) rfl)) rfl, ⟨by decide +kernel, by decide +kernel, by decide +kernel, by decide +kernel, by decide +kernel⟩⟩
set_option maxRecDepth 100000 in
theorem ys_X6_openPairs : Cond.static yX6_openPairs ∈ gw ∧ Cond.initialized yX6_openPairs.cls ∈ gw ∧ cdM m_X6_openPairs ∈ gw ∧ (plainName yX6_openPairs.cls = true ∧ yX6_openPairs.cls ≠ "java/lang/invoke/MethodHandle" ∧ yX6_openPairs.cls ≠ "java/lang/invoke/VarHandle" ∧ (parseMethodDescriptor yX6_openPairs.desc).map (fun d => d.parameters.length) = some 2 ∧ m_X6_openPairs.2.2.1 ≤ 45) := ⟨gw_of (in_5 (List.mem_of_getElem? (i := 115) rfl)) rfl, gw_of (in_1 (List.mem_of_getElem? (i := 14) rfl)) rfl, gw_of (in_5 (List.mem_of_getElem? (i := 116) rfl)) rfl, ⟨by decide +kernel, by decide +kernel, by decide +kernel, by decide +kernel, by decide +kernel⟩⟩
set_option maxRecDepth 100000 in
theorem ys_X6_readingsDue : Cond.static yX6_readingsDue ∈ gw ∧ Cond.initialized yX6_readingsDue.cls ∈ gw ∧ cdM m_X6_readingsDue ∈ gw ∧ (plainName yX6_readingsDue.cls = true ∧ yX6_readingsDue.cls ≠ "java/lang/invoke/MethodHandle" ∧ yX6_readingsDue.cls ≠ "java/lang/invoke/VarHandle" ∧ (parseMethodDescriptor yX6_readingsDue.desc).map (fun d => d.parameters.length) = some 2 ∧ m_X6_readingsDue.2.2.1 ≤ 45) := ⟨gw_of (in_5 (List.mem_of_getElem? (i := 120) rfl)) rfl, gw_of (in_1 (List.mem_of_getElem? (i := 14) rfl)) rfl, gw_of (in_5 (List.mem_of_getElem? (i := 121) rfl)) rfl, ⟨by decide +kernel, by decide +kernel, by decide +kernel, by decide +kernel, by decide +kernel⟩⟩
set_option maxRecDepth 100000 in
theorem ys_X6_presentPairs : Cond.static yX6_presentPairs ∈ gw ∧ Cond.initialized yX6_presentPairs.cls ∈ gw ∧ cdM m_X6_presentPairs ∈ gw ∧ (plainName yX6_presentPairs.cls = true ∧ yX6_presentPairs.cls ≠ "java/lang/invoke/MethodHandle" ∧ yX6_presentPairs.cls ≠ "java/lang/invoke/VarHandle" ∧ (parseMethodDescriptor yX6_presentPairs.desc).map (fun d => d.parameters.length) = some 3 ∧ m_X6_presentPairs.2.2.1 ≤ 45) := ⟨gw_of (in_5 (List.mem_of_getElem? (i := 132) rfl)) rfl, gw_of (in_1 (List.mem_of_getElem? (i := 14) rfl)) rfl, gw_of (in_5 (List.mem_of_getElem? (i := 133) rfl)) rfl, ⟨by decide +kernel, by decide +kernel, by decide +kernel, by decide +kernel, by decide +kernel⟩⟩
set_option maxRecDepth 100000 in
theorem yv_X6_weighSets : Cond.instanceMethod yX6_weighSets ∈ gw ∧ Cond.selects yX6_weighSets.cls yX6_weighSets yX6_weighSets ∈ gw ∧ Cond.initialized yX6_weighSets.cls ∈ gw ∧ cdM m_X6_weighSets ∈ gw ∧ (plainName yX6_weighSets.cls = true ∧ yX6_weighSets.cls ≠ "java/lang/invoke/MethodHandle" ∧ yX6_weighSets.cls ≠ "java/lang/invoke/VarHandle" ∧ (parseMethodDescriptor yX6_weighSets.desc).map (fun d => d.parameters.length) = some 2 ∧ m_X6_weighSets.2.2.1 ≤ 45) := ⟨gw_of (in_5 (List.mem_of_getElem? (i := 108) rfl)) rfl, gw_sel (List.mem_of_getElem? (i := 41) rfl) rfl, gw_of (in_1 (List.mem_of_getElem? (i := 14) rfl)) rfl, gw_of (in_5 (List.mem_of_getElem? (i := 109) rfl)) rfl, ⟨by decide +kernel, by decide +kernel, by decide +kernel, by decide +kernel, by decide +kernel⟩⟩
set_option maxRecDepth 100000 in
theorem yv_X6_fits : Cond.instanceMethod yX6_fits ∈ gw ∧ Cond.selects yX6_fits.cls yX6_fits yX6_fits ∈ gw ∧ Cond.initialized yX6_fits.cls ∈ gw ∧ cdM m_X6_fits ∈ gw ∧ (plainName yX6_fits.cls = true ∧ yX6_fits.cls ≠ "java/lang/invoke/MethodHandle" ∧ yX6_fits.cls ≠ "java/lang/invoke/VarHandle" ∧ (parseMethodDescriptor yX6_fits.desc).map (fun d => d.parameters.length) = some 1 ∧ m_X6_fits.2.2.1 ≤ 45) := ⟨gw_of (in_5 (List.mem_of_getElem? (i := 148) rfl)) rfl, gw_sel (List.mem_of_getElem? (i := 44) rfl) rfl, gw_of (in_1 (List.mem_of_getElem? (i := 14) rfl)) rfl, gw_of (in_5 (List.mem_of_getElem? (i := 149) rfl)) rfl, ⟨by decide +kernel, by decide +kernel, by decide +kernel, by decide +kernel, by decide +kernel⟩⟩
set_option maxRecDepth 100000 in
theorem ys_X6_callsIn : Cond.static yX6_callsIn ∈ gw ∧ Cond.initialized yX6_callsIn.cls ∈ gw ∧ cdM m_X6_callsIn ∈ gw ∧ (plainName yX6_callsIn.cls = true ∧ yX6_callsIn.cls ≠ "java/lang/invoke/MethodHandle" ∧ yX6_callsIn.cls ≠ "java/lang/invoke/VarHandle" ∧ (parseMethodDescriptor yX6_callsIn.desc).map (fun d => d.parameters.length) = some 4 ∧ m_X6_callsIn.2.2.1 ≤ 45) := ⟨gw_of (in_5 (List.mem_of_getElem? (i := 111) rfl)) rfl, gw_of (in_1 (List.mem_of_getElem? (i := 14) rfl)) rfl, gw_of (in_5 (List.mem_of_getElem? (i := 112) rfl)) rfl, ⟨by decide +kernel, by decide +kernel, by decide +kernel, by decide +kernel, by decide +kernel⟩⟩
set_option maxRecDepth 100000 in
theorem yv_X6_passSunday : Cond.instanceMethod yX6_passSunday ∈ gw ∧ Cond.selects yX6_passSunday.cls yX6_passSunday yX6_passSunday ∈ gw ∧ Cond.initialized yX6_passSunday.cls ∈ gw ∧ cdM m_X6_passSunday ∈ gw ∧ (plainName yX6_passSunday.cls = true ∧ yX6_passSunday.cls ≠ "java/lang/invoke/MethodHandle" ∧ yX6_passSunday.cls ≠ "java/lang/invoke/VarHandle" ∧ (parseMethodDescriptor yX6_passSunday.desc).map (fun d => d.parameters.length) = some 1 ∧ m_X6_passSunday.2.2.1 ≤ 45) := ⟨gw_of (in_5 (List.mem_of_getElem? (i := 137) rfl)) rfl, gw_sel (List.mem_of_getElem? (i := 42) rfl) rfl, gw_of (in_1 (List.mem_of_getElem? (i := 14) rfl)) rfl, gw_of (in_5 (List.mem_of_getElem? (i := 138) rfl)) rfl, ⟨by decide +kernel, by decide +kernel, by decide +kernel, by decide +kernel, by decide +kernel⟩⟩
set_option maxRecDepth 100000 in
theorem yv_X6_readFrom : Cond.instanceMethod yX6_readFrom ∈ gw ∧ Cond.selects yX6_readFrom.cls yX6_readFrom yX6_readFrom ∈ gw ∧ Cond.initialized yX6_readFrom.cls ∈ gw ∧ cdM m_X6_readFrom ∈ gw ∧ (plainName yX6_readFrom.cls = true ∧ yX6_readFrom.cls ≠ "java/lang/invoke/MethodHandle" ∧ yX6_readFrom.cls ≠ "java/lang/invoke/VarHandle" ∧ (parseMethodDescriptor yX6_readFrom.desc).map (fun d => d.parameters.length) = some 2 ∧ m_X6_readFrom.2.2.1 ≤ 45) := ⟨gw_of (in_5 (List.mem_of_getElem? (i := 144) rfl)) rfl, gw_sel (List.mem_of_getElem? (i := 43) rfl) rfl, gw_of (in_1 (List.mem_of_getElem? (i := 14) rfl)) rfl, gw_of (in_5 (List.mem_of_getElem? (i := 145) rfl)) rfl, ⟨by decide +kernel, by decide +kernel, by decide +kernel, by decide +kernel, by decide +kernel⟩⟩
set_option maxRecDepth 100000 in
theorem yv_X6_isFull : Cond.instanceMethod yX6_isFull ∈ gw ∧ Cond.selects yX6_isFull.cls yX6_isFull yX6_isFull ∈ gw ∧ Cond.initialized yX6_isFull.cls ∈ gw ∧ cdM m_X6_isFull ∈ gw ∧ (plainName yX6_isFull.cls = true ∧ yX6_isFull.cls ≠ "java/lang/invoke/MethodHandle" ∧ yX6_isFull.cls ≠ "java/lang/invoke/VarHandle" ∧ (parseMethodDescriptor yX6_isFull.desc).map (fun d => d.parameters.length) = some 2 ∧ m_X6_isFull.2.2.1 ≤ 45) := ⟨gw_of (in_5 (List.mem_of_getElem? (i := 152) rfl)) rfl, gw_sel (List.mem_of_getElem? (i := 45) rfl) rfl, gw_of (in_1 (List.mem_of_getElem? (i := 14) rfl)) rfl, gw_of (in_5 (List.mem_of_getElem? (i := 153) rfl)) rfl, ⟨by decide +kernel, by decide +kernel, by decide +kernel, by decide +kernel, by decide +kernel⟩⟩
set_option maxRecDepth 100000 in
theorem ys_X6_ones : Cond.static yX6_ones ∈ gw ∧ Cond.initialized yX6_ones.cls ∈ gw ∧ cdM m_X6_ones ∈ gw ∧ (plainName yX6_ones.cls = true ∧ yX6_ones.cls ≠ "java/lang/invoke/MethodHandle" ∧ yX6_ones.cls ≠ "java/lang/invoke/VarHandle" ∧ (parseMethodDescriptor yX6_ones.desc).map (fun d => d.parameters.length) = some 1 ∧ m_X6_ones.2.2.1 ≤ 45) := ⟨gw_of (in_5 (List.mem_of_getElem? (i := 155) rfl)) rfl, gw_of (in_1 (List.mem_of_getElem? (i := 14) rfl)) rfl, gw_of (in_5 (List.mem_of_getElem? (i := 156) rfl)) rfl, ⟨by decide +kernel, by decide +kernel, by decide +kernel, by decide +kernel, by decide +kernel⟩⟩
set_option maxRecDepth 100000 in
theorem ys_X6_unfinished : Cond.static yX6_unfinished ∈ gw ∧ Cond.initialized yX6_unfinished.cls ∈ gw ∧ cdM m_X6_unfinished ∈ gw ∧ (plainName yX6_unfinished.cls = true ∧ yX6_unfinished.cls ≠ "java/lang/invoke/MethodHandle" ∧ yX6_unfinished.cls ≠ "java/lang/invoke/VarHandle" ∧ (parseMethodDescriptor yX6_unfinished.desc).map (fun d => d.parameters.length) = some 1 ∧ m_X6_unfinished.2.2.1 ≤ 45) := ⟨gw_of (in_5 (List.mem_of_getElem? (i := 140) rfl)) rfl, gw_of (in_1 (List.mem_of_getElem? (i := 14) rfl)) rfl, gw_of (in_5 (List.mem_of_getElem? (i := 141) rfl)) rfl, ⟨by decide +kernel, by decide +kernel, by decide +kernel, by decide +kernel, by decide +kernel⟩⟩
set_option maxRecDepth 100000 in
theorem yv_X7_begin : Cond.instanceMethod yX7_begin ∈ gw ∧ Cond.selects yX7_begin.cls yX7_begin yX7_begin ∈ gw ∧ Cond.initialized yX7_begin.cls ∈ gw ∧ cdM m_X7_begin ∈ gw ∧ (plainName yX7_begin.cls = true ∧ yX7_begin.cls ≠ "java/lang/invoke/MethodHandle" ∧ yX7_begin.cls ≠ "java/lang/invoke/VarHandle" ∧ (parseMethodDescriptor yX7_begin.desc).map (fun d => d.parameters.length) = some 1 ∧ m_X7_begin.2.2.1 ≤ 45) := ⟨gw_of (in_2 (List.mem_of_getElem? (i := 166) rfl)) rfl, gw_of (in_2 (List.mem_of_getElem? (i := 167) rfl)) rfl, gw_of (in_1 (List.mem_of_getElem? (i := 12) rfl)) rfl, gw_of (in_2 (List.mem_of_getElem? (i := 168) rfl)) rfl, ⟨by decide +kernel, by decide +kernel, by decide +kernel, by decide +kernel, by decide +kernel⟩⟩
set_option maxRecDepth 100000 in
theorem yv_X7_copyFrom : Cond.instanceMethod yX7_copyFrom ∈ gw ∧ Cond.selects yX7_copyFrom.cls yX7_copyFrom yX7_copyFrom ∈ gw ∧ Cond.initialized yX7_copyFrom.cls ∈ gw ∧ cdM m_X7_copyFrom ∈ gw ∧ (plainName yX7_copyFrom.cls = true ∧ yX7_copyFrom.cls ≠ "java/lang/invoke/MethodHandle" ∧ yX7_copyFrom.cls ≠ "java/lang/invoke/VarHandle" ∧ (parseMethodDescriptor yX7_copyFrom.desc).map (fun d => d.parameters.length) = some 1 ∧ m_X7_copyFrom.2.2.1 ≤ 45) := ⟨gw_of (in_5 (List.mem_of_getElem? (i := 91) rfl)) rfl, gw_of (in_5 (List.mem_of_getElem? (i := 92) rfl)) rfl, gw_of (in_1 (List.mem_of_getElem? (i := 12) rfl)) rfl, gw_of (in_5 (List.mem_of_getElem? (i := 93) rfl)) rfl, ⟨by decide +kernel, by decide +kernel, by decide +kernel, by decide +kernel, by decide +kernel⟩⟩
set_option maxRecDepth 100000 in
theorem yv_X7_seat : Cond.instanceMethod yX7_seat ∈ gw ∧ Cond.selects yX7_seat.cls yX7_seat yX7_seat ∈ gw ∧ Cond.initialized yX7_seat.cls ∈ gw ∧ cdM m_X7_seat ∈ gw ∧ (plainName yX7_seat.cls = true ∧ yX7_seat.cls ≠ "java/lang/invoke/MethodHandle" ∧ yX7_seat.cls ≠ "java/lang/invoke/VarHandle" ∧ (parseMethodDescriptor yX7_seat.desc).map (fun d => d.parameters.length) = some 1 ∧ m_X7_seat.2.2.1 ≤ 45) := ⟨gw_of (in_4 (List.mem_of_getElem? (i := 60) rfl)) rfl, gw_of (in_4 (List.mem_of_getElem? (i := 61) rfl)) rfl, gw_of (in_1 (List.mem_of_getElem? (i := 12) rfl)) rfl, gw_of (in_4 (List.mem_of_getElem? (i := 62) rfl)) rfl, ⟨by decide +kernel, by decide +kernel, by decide +kernel, by decide +kernel, by decide +kernel⟩⟩
set_option maxRecDepth 100000 in
theorem yv_X7_setSeat : Cond.instanceMethod yX7_setSeat ∈ gw ∧ Cond.selects yX7_setSeat.cls yX7_setSeat yX7_setSeat ∈ gw ∧ Cond.initialized yX7_setSeat.cls ∈ gw ∧ cdM m_X7_setSeat ∈ gw ∧ (plainName yX7_setSeat.cls = true ∧ yX7_setSeat.cls ≠ "java/lang/invoke/MethodHandle" ∧ yX7_setSeat.cls ≠ "java/lang/invoke/VarHandle" ∧ (parseMethodDescriptor yX7_setSeat.desc).map (fun d => d.parameters.length) = some 2 ∧ m_X7_setSeat.2.2.1 ≤ 45) := ⟨gw_of (in_4 (List.mem_of_getElem? (i := 216) rfl)) rfl, gw_of (in_4 (List.mem_of_getElem? (i := 217) rfl)) rfl, gw_of (in_1 (List.mem_of_getElem? (i := 12) rfl)) rfl, gw_of (in_4 (List.mem_of_getElem? (i := 218) rfl)) rfl, ⟨by decide +kernel, by decide +kernel, by decide +kernel, by decide +kernel, by decide +kernel⟩⟩
set_option maxRecDepth 100000 in
theorem yv_X7_status : Cond.instanceMethod yX7_status ∈ gw ∧ Cond.selects yX7_status.cls yX7_status yX7_status ∈ gw ∧ Cond.initialized yX7_status.cls ∈ gw ∧ cdM m_X7_status ∈ gw ∧ (plainName yX7_status.cls = true ∧ yX7_status.cls ≠ "java/lang/invoke/MethodHandle" ∧ yX7_status.cls ≠ "java/lang/invoke/VarHandle" ∧ (parseMethodDescriptor yX7_status.desc).map (fun d => d.parameters.length) = some 1 ∧ m_X7_status.2.2.1 ≤ 45) := ⟨gw_of (in_4 (List.mem_of_getElem? (i := 76) rfl)) rfl, gw_of (in_4 (List.mem_of_getElem? (i := 77) rfl)) rfl, gw_of (in_1 (List.mem_of_getElem? (i := 12) rfl)) rfl, gw_of (in_4 (List.mem_of_getElem? (i := 78) rfl)) rfl, ⟨by decide +kernel, by decide +kernel, by decide +kernel, by decide +kernel, by decide +kernel⟩⟩
set_option maxRecDepth 100000 in
theorem yv_X7_setStatus : Cond.instanceMethod yX7_setStatus ∈ gw ∧ Cond.selects yX7_setStatus.cls yX7_setStatus yX7_setStatus ∈ gw ∧ Cond.initialized yX7_setStatus.cls ∈ gw ∧ cdM m_X7_setStatus ∈ gw ∧ (plainName yX7_setStatus.cls = true ∧ yX7_setStatus.cls ≠ "java/lang/invoke/MethodHandle" ∧ yX7_setStatus.cls ≠ "java/lang/invoke/VarHandle" ∧ (parseMethodDescriptor yX7_setStatus.desc).map (fun d => d.parameters.length) = some 2 ∧ m_X7_setStatus.2.2.1 ≤ 45) := ⟨gw_of (in_5 (List.mem_of_getElem? (i := 0) rfl)) rfl, gw_of (in_5 (List.mem_of_getElem? (i := 1) rfl)) rfl, gw_of (in_1 (List.mem_of_getElem? (i := 12) rfl)) rfl, gw_of (in_5 (List.mem_of_getElem? (i := 2) rfl)) rfl, ⟨by decide +kernel, by decide +kernel, by decide +kernel, by decide +kernel, by decide +kernel⟩⟩
set_option maxRecDepth 100000 in
theorem yv_X7_pairsThatAre : Cond.instanceMethod yX7_pairsThatAre ∈ gw ∧ Cond.selects yX7_pairsThatAre.cls yX7_pairsThatAre yX7_pairsThatAre ∈ gw ∧ Cond.initialized yX7_pairsThatAre.cls ∈ gw ∧ cdM m_X7_pairsThatAre ∈ gw ∧ (plainName yX7_pairsThatAre.cls = true ∧ yX7_pairsThatAre.cls ≠ "java/lang/invoke/MethodHandle" ∧ yX7_pairsThatAre.cls ≠ "java/lang/invoke/VarHandle" ∧ (parseMethodDescriptor yX7_pairsThatAre.desc).map (fun d => d.parameters.length) = some 1 ∧ m_X7_pairsThatAre.2.2.1 ≤ 45) := ⟨gw_of (in_6 (List.mem_of_getElem? (i := 16) rfl)) rfl, gw_of (in_6 (List.mem_of_getElem? (i := 17) rfl)) rfl, gw_of (in_1 (List.mem_of_getElem? (i := 12) rfl)) rfl, gw_of (in_6 (List.mem_of_getElem? (i := 18) rfl)) rfl, ⟨by decide +kernel, by decide +kernel, by decide +kernel, by decide +kernel, by decide +kernel⟩⟩
set_option maxRecDepth 100000 in
theorem yv_X7_churchOne : Cond.instanceMethod yX7_churchOne ∈ gw ∧ Cond.selects yX7_churchOne.cls yX7_churchOne yX7_churchOne ∈ gw ∧ Cond.initialized yX7_churchOne.cls ∈ gw ∧ cdM m_X7_churchOne ∈ gw ∧ (plainName yX7_churchOne.cls = true ∧ yX7_churchOne.cls ≠ "java/lang/invoke/MethodHandle" ∧ yX7_churchOne.cls ≠ "java/lang/invoke/VarHandle" ∧ (parseMethodDescriptor yX7_churchOne.desc).map (fun d => d.parameters.length) = some 1 ∧ m_X7_churchOne.2.2.1 ≤ 45) := ⟨gw_of (in_4 (List.mem_of_getElem? (i := 88) rfl)) rfl, gw_of (in_4 (List.mem_of_getElem? (i := 89) rfl)) rfl, gw_of (in_1 (List.mem_of_getElem? (i := 12) rfl)) rfl, gw_of (in_4 (List.mem_of_getElem? (i := 90) rfl)) rfl, ⟨by decide +kernel, by decide +kernel, by decide +kernel, by decide +kernel, by decide +kernel⟩⟩
set_option maxRecDepth 100000 in
theorem yv_X7_churchOther : Cond.instanceMethod yX7_churchOther ∈ gw ∧ Cond.selects yX7_churchOther.cls yX7_churchOther yX7_churchOther ∈ gw ∧ Cond.initialized yX7_churchOther.cls ∈ gw ∧ cdM m_X7_churchOther ∈ gw ∧ (plainName yX7_churchOther.cls = true ∧ yX7_churchOther.cls ≠ "java/lang/invoke/MethodHandle" ∧ yX7_churchOther.cls ≠ "java/lang/invoke/VarHandle" ∧ (parseMethodDescriptor yX7_churchOther.desc).map (fun d => d.parameters.length) = some 1 ∧ m_X7_churchOther.2.2.1 ≤ 45) := ⟨gw_of (in_4 (List.mem_of_getElem? (i := 92) rfl)) rfl, gw_of (in_4 (List.mem_of_getElem? (i := 93) rfl)) rfl, gw_of (in_1 (List.mem_of_getElem? (i := 12) rfl)) rfl, gw_of (in_4 (List.mem_of_getElem? (i := 94) rfl)) rfl, ⟨by decide +kernel, by decide +kernel, by decide +kernel, by decide +kernel, by decide +kernel⟩⟩
set_option maxRecDepth 100000 in
theorem yv_X7_isReadIn : Cond.instanceMethod yX7_isReadIn ∈ gw ∧ Cond.selects yX7_isReadIn.cls yX7_isReadIn yX7_isReadIn ∈ gw ∧ Cond.initialized yX7_isReadIn.cls ∈ gw ∧ cdM m_X7_isReadIn ∈ gw ∧ (plainName yX7_isReadIn.cls = true ∧ yX7_isReadIn.cls ≠ "java/lang/invoke/MethodHandle" ∧ yX7_isReadIn.cls ≠ "java/lang/invoke/VarHandle" ∧ (parseMethodDescriptor yX7_isReadIn.desc).map (fun d => d.parameters.length) = some 2 ∧ m_X7_isReadIn.2.2.1 ≤ 45) := ⟨gw_of (in_4 (List.mem_of_getElem? (i := 172) rfl)) rfl, gw_of (in_4 (List.mem_of_getElem? (i := 173) rfl)) rfl, gw_of (in_1 (List.mem_of_getElem? (i := 12) rfl)) rfl, gw_of (in_4 (List.mem_of_getElem? (i := 174) rfl)) rfl, ⟨by decide +kernel, by decide +kernel, by decide +kernel, by decide +kernel, by decide +kernel⟩⟩
set_option maxRecDepth 100000 in
theorem yv_X7_setChurches : Cond.instanceMethod yX7_setChurches ∈ gw ∧ Cond.selects yX7_setChurches.cls yX7_setChurches yX7_setChurches ∈ gw ∧ Cond.initialized yX7_setChurches.cls ∈ gw ∧ cdM m_X7_setChurches ∈ gw ∧ (plainName yX7_setChurches.cls = true ∧ yX7_setChurches.cls ≠ "java/lang/invoke/MethodHandle" ∧ yX7_setChurches.cls ≠ "java/lang/invoke/VarHandle" ∧ (parseMethodDescriptor yX7_setChurches.desc).map (fun d => d.parameters.length) = some 3 ∧ m_X7_setChurches.2.2.1 ≤ 45) := ⟨gw_of (in_4 (List.mem_of_getElem? (i := 232) rfl)) rfl, gw_of (in_4 (List.mem_of_getElem? (i := 233) rfl)) rfl, gw_of (in_1 (List.mem_of_getElem? (i := 12) rfl)) rfl, gw_of (in_4 (List.mem_of_getElem? (i := 234) rfl)) rfl, ⟨by decide +kernel, by decide +kernel, by decide +kernel, by decide +kernel, by decide +kernel⟩⟩
set_option maxRecDepth 100000 in
theorem yv_X7_readings : Cond.instanceMethod yX7_readings ∈ gw ∧ Cond.selects yX7_readings.cls yX7_readings yX7_readings ∈ gw ∧ Cond.initialized yX7_readings.cls ∈ gw ∧ cdM m_X7_readings ∈ gw ∧ (plainName yX7_readings.cls = true ∧ yX7_readings.cls ≠ "java/lang/invoke/MethodHandle" ∧ yX7_readings.cls ≠ "java/lang/invoke/VarHandle" ∧ (parseMethodDescriptor yX7_readings.desc).map (fun d => d.parameters.length) = some 1 ∧ m_X7_readings.2.2.1 ≤ 45) := ⟨gw_of (in_4 (List.mem_of_getElem? (i := 96) rfl)) rfl, gw_of (in_4 (List.mem_of_getElem? (i := 97) rfl)) rfl, gw_of (in_1 (List.mem_of_getElem? (i := 12) rfl)) rfl, gw_of (in_4 (List.mem_of_getElem? (i := 98) rfl)) rfl, ⟨by decide +kernel, by decide +kernel, by decide +kernel, by decide +kernel, by decide +kernel⟩⟩
set_option maxRecDepth 100000 in
theorem yv_X7_addReading : Cond.instanceMethod yX7_addReading ∈ gw ∧ Cond.selects yX7_addReading.cls yX7_addReading yX7_addReading ∈ gw ∧ Cond.initialized yX7_addReading.cls ∈ gw ∧ cdM m_X7_addReading ∈ gw ∧ (plainName yX7_addReading.cls = true ∧ yX7_addReading.cls ≠ "java/lang/invoke/MethodHandle" ∧ yX7_addReading.cls ≠ "java/lang/invoke/VarHandle" ∧ (parseMethodDescriptor yX7_addReading.desc).map (fun d => d.parameters.length) = some 1 ∧ m_X7_addReading.2.2.1 ≤ 45) := ⟨gw_of (in_5 (List.mem_of_getElem? (i := 32) rfl)) rfl, gw_of (in_5 (List.mem_of_getElem? (i := 33) rfl)) rfl, gw_of (in_1 (List.mem_of_getElem? (i := 12) rfl)) rfl, gw_of (in_5 (List.mem_of_getElem? (i := 34) rfl)) rfl, ⟨by decide +kernel, by decide +kernel, by decide +kernel, by decide +kernel, by decide +kernel⟩⟩
set_option maxRecDepth 100000 in
theorem yv_X7_sundays : Cond.instanceMethod yX7_sundays ∈ gw ∧ Cond.selects yX7_sundays.cls yX7_sundays yX7_sundays ∈ gw ∧ Cond.initialized yX7_sundays.cls ∈ gw ∧ cdM m_X7_sundays ∈ gw ∧ (plainName yX7_sundays.cls = true ∧ yX7_sundays.cls ≠ "java/lang/invoke/MethodHandle" ∧ yX7_sundays.cls ≠ "java/lang/invoke/VarHandle" ∧ (parseMethodDescriptor yX7_sundays.desc).map (fun d => d.parameters.length) = some 0 ∧ m_X7_sundays.2.2.1 ≤ 45) := ⟨gw_of (in_5 (List.mem_of_getElem? (i := 8) rfl)) rfl, gw_of (in_5 (List.mem_of_getElem? (i := 9) rfl)) rfl, gw_of (in_1 (List.mem_of_getElem? (i := 12) rfl)) rfl, gw_of (in_5 (List.mem_of_getElem? (i := 10) rfl)) rfl, ⟨by decide +kernel, by decide +kernel, by decide +kernel, by decide +kernel, by decide +kernel⟩⟩
set_option maxRecDepth 100000 in
theorem yv_X7_nextSunday : Cond.instanceMethod yX7_nextSunday ∈ gw ∧ Cond.selects yX7_nextSunday.cls yX7_nextSunday yX7_nextSunday ∈ gw ∧ Cond.initialized yX7_nextSunday.cls ∈ gw ∧ cdM m_X7_nextSunday ∈ gw ∧ (plainName yX7_nextSunday.cls = true ∧ yX7_nextSunday.cls ≠ "java/lang/invoke/MethodHandle" ∧ yX7_nextSunday.cls ≠ "java/lang/invoke/VarHandle" ∧ (parseMethodDescriptor yX7_nextSunday.desc).map (fun d => d.parameters.length) = some 0 ∧ m_X7_nextSunday.2.2.1 ≤ 45) := ⟨gw_of (in_4 (List.mem_of_getElem? (i := 64) rfl)) rfl, gw_of (in_4 (List.mem_of_getElem? (i := 65) rfl)) rfl, gw_of (in_1 (List.mem_of_getElem? (i := 12) rfl)) rfl, gw_of (in_4 (List.mem_of_getElem? (i := 66) rfl)) rfl, ⟨by decide +kernel, by decide +kernel, by decide +kernel, by decide +kernel, by decide +kernel⟩⟩
set_option maxRecDepth 100000 in
theorem yv_X7_endSunday : Cond.instanceMethod yX7_endSunday ∈ gw ∧ Cond.selects yX7_endSunday.cls yX7_endSunday yX7_endSunday ∈ gw ∧ Cond.initialized yX7_endSunday.cls ∈ gw ∧ cdM m_X7_endSunday ∈ gw ∧ (plainName yX7_endSunday.cls = true ∧ yX7_endSunday.cls ≠ "java/lang/invoke/MethodHandle" ∧ yX7_endSunday.cls ≠ "java/lang/invoke/VarHandle" ∧ (parseMethodDescriptor yX7_endSunday.desc).map (fun d => d.parameters.length) = some 0 ∧ m_X7_endSunday.2.2.1 ≤ 45) := ⟨gw_of (in_5 (List.mem_of_getElem? (i := 37) rfl)) rfl, gw_of (in_5 (List.mem_of_getElem? (i := 38) rfl)) rfl, gw_of (in_1 (List.mem_of_getElem? (i := 12) rfl)) rfl, gw_of (in_5 (List.mem_of_getElem? (i := 39) rfl)) rfl, ⟨by decide +kernel, by decide +kernel, by decide +kernel, by decide +kernel, by decide +kernel⟩⟩
set_option maxRecDepth 100000 in
theorem yv_X7_seed : Cond.instanceMethod yX7_seed ∈ gw ∧ Cond.selects yX7_seed.cls yX7_seed yX7_seed ∈ gw ∧ Cond.initialized yX7_seed.cls ∈ gw ∧ cdM m_X7_seed ∈ gw ∧ (plainName yX7_seed.cls = true ∧ yX7_seed.cls ≠ "java/lang/invoke/MethodHandle" ∧ yX7_seed.cls ≠ "java/lang/invoke/VarHandle" ∧ (parseMethodDescriptor yX7_seed.desc).map (fun d => d.parameters.length) = some 0 ∧ m_X7_seed.2.2.1 ≤ 45) := ⟨gw_of (in_6 (List.mem_of_getElem? (i := 12) rfl)) rfl, gw_of (in_6 (List.mem_of_getElem? (i := 13) rfl)) rfl, gw_of (in_1 (List.mem_of_getElem? (i := 12) rfl)) rfl, gw_of (in_6 (List.mem_of_getElem? (i := 14) rfl)) rfl, ⟨by decide +kernel, by decide +kernel, by decide +kernel, by decide +kernel, by decide +kernel⟩⟩
set_option maxRecDepth 100000 in
theorem yv_X7_drawTenth : Cond.instanceMethod yX7_drawTenth ∈ gw ∧ Cond.selects yX7_drawTenth.cls yX7_drawTenth yX7_drawTenth ∈ gw ∧ Cond.initialized yX7_drawTenth.cls ∈ gw ∧ cdM m_X7_drawTenth ∈ gw ∧ (plainName yX7_drawTenth.cls = true ∧ yX7_drawTenth.cls ≠ "java/lang/invoke/MethodHandle" ∧ yX7_drawTenth.cls ≠ "java/lang/invoke/VarHandle" ∧ (parseMethodDescriptor yX7_drawTenth.desc).map (fun d => d.parameters.length) = some 0 ∧ m_X7_drawTenth.2.2.1 ≤ 45) := ⟨gw_of (in_5 (List.mem_of_getElem? (i := 26) rfl)) rfl, gw_of (in_5 (List.mem_of_getElem? (i := 27) rfl)) rfl, gw_of (in_1 (List.mem_of_getElem? (i := 12) rfl)) rfl, gw_of (in_5 (List.mem_of_getElem? (i := 28) rfl)) rfl, ⟨by decide +kernel, by decide +kernel, by decide +kernel, by decide +kernel, by decide +kernel⟩⟩
set_option maxRecDepth 100000 in
theorem yv_X8_hasRoom : Cond.instanceMethod yX8_hasRoom ∈ gw ∧ Cond.selects yX8_hasRoom.cls yX8_hasRoom yX8_hasRoom ∈ gw ∧ Cond.initialized yX8_hasRoom.cls ∈ gw ∧ cdM m_X8_hasRoom ∈ gw ∧ (plainName yX8_hasRoom.cls = true ∧ yX8_hasRoom.cls ≠ "java/lang/invoke/MethodHandle" ∧ yX8_hasRoom.cls ≠ "java/lang/invoke/VarHandle" ∧ (parseMethodDescriptor yX8_hasRoom.desc).map (fun d => d.parameters.length) = some 1 ∧ m_X8_hasRoom.2.2.1 ≤ 45) := ⟨gw_of (in_2 (List.mem_of_getElem? (i := 222) rfl)) rfl, gw_of (in_2 (List.mem_of_getElem? (i := 223) rfl)) rfl, gw_of (in_1 (List.mem_of_getElem? (i := 5) rfl)) rfl, gw_of (in_2 (List.mem_of_getElem? (i := 224) rfl)) rfl, ⟨by decide +kernel, by decide +kernel, by decide +kernel, by decide +kernel, by decide +kernel⟩⟩
set_option maxRecDepth 100000 in
theorem yv_X8_put : Cond.instanceMethod yX8_put ∈ gw ∧ Cond.selects yX8_put.cls yX8_put yX8_put ∈ gw ∧ Cond.initialized yX8_put.cls ∈ gw ∧ cdM m_X8_put ∈ gw ∧ (plainName yX8_put.cls = true ∧ yX8_put.cls ≠ "java/lang/invoke/MethodHandle" ∧ yX8_put.cls ≠ "java/lang/invoke/VarHandle" ∧ (parseMethodDescriptor yX8_put.desc).map (fun d => d.parameters.length) = some 1 ∧ m_X8_put.2.2.1 ≤ 45) := ⟨gw_of (in_2 (List.mem_of_getElem? (i := 226) rfl)) rfl, gw_of (in_2 (List.mem_of_getElem? (i := 227) rfl)) rfl, gw_of (in_1 (List.mem_of_getElem? (i := 5) rfl)) rfl, gw_of (in_2 (List.mem_of_getElem? (i := 228) rfl)) rfl, ⟨by decide +kernel, by decide +kernel, by decide +kernel, by decide +kernel, by decide +kernel⟩⟩
set_option maxRecDepth 100000 in
theorem yv_X8_rewind : Cond.instanceMethod yX8_rewind ∈ gw ∧ Cond.selects yX8_rewind.cls yX8_rewind yX8_rewind ∈ gw ∧ Cond.initialized yX8_rewind.cls ∈ gw ∧ cdM m_X8_rewind ∈ gw ∧ (plainName yX8_rewind.cls = true ∧ yX8_rewind.cls ≠ "java/lang/invoke/MethodHandle" ∧ yX8_rewind.cls ≠ "java/lang/invoke/VarHandle" ∧ (parseMethodDescriptor yX8_rewind.desc).map (fun d => d.parameters.length) = some 0 ∧ m_X8_rewind.2.2.1 ≤ 45) := ⟨gw_of (in_3 (List.mem_of_getElem? (i := 16) rfl)) rfl, gw_of (in_3 (List.mem_of_getElem? (i := 17) rfl)) rfl, gw_of (in_1 (List.mem_of_getElem? (i := 5) rfl)) rfl, gw_of (in_3 (List.mem_of_getElem? (i := 18) rfl)) rfl, ⟨by decide +kernel, by decide +kernel, by decide +kernel, by decide +kernel, by decide +kernel⟩⟩
set_option maxRecDepth 100000 in
theorem yv_X8_advance : Cond.instanceMethod yX8_advance ∈ gw ∧ Cond.selects yX8_advance.cls yX8_advance yX8_advance ∈ gw ∧ Cond.initialized yX8_advance.cls ∈ gw ∧ cdM m_X8_advance ∈ gw ∧ (plainName yX8_advance.cls = true ∧ yX8_advance.cls ≠ "java/lang/invoke/MethodHandle" ∧ yX8_advance.cls ≠ "java/lang/invoke/VarHandle" ∧ (parseMethodDescriptor yX8_advance.desc).map (fun d => d.parameters.length) = some 0 ∧ m_X8_advance.2.2.1 ≤ 45) := ⟨gw_of (in_3 (List.mem_of_getElem? (i := 20) rfl)) rfl, gw_of (in_3 (List.mem_of_getElem? (i := 21) rfl)) rfl, gw_of (in_1 (List.mem_of_getElem? (i := 5) rfl)) rfl, gw_of (in_3 (List.mem_of_getElem? (i := 22) rfl)) rfl, ⟨by decide +kernel, by decide +kernel, by decide +kernel, by decide +kernel, by decide +kernel⟩⟩
set_option maxRecDepth 100000 in
theorem yv_X8_isWord : Cond.instanceMethod yX8_isWord ∈ gw ∧ Cond.selects yX8_isWord.cls yX8_isWord yX8_isWord ∈ gw ∧ Cond.initialized yX8_isWord.cls ∈ gw ∧ cdM m_X8_isWord ∈ gw ∧ (plainName yX8_isWord.cls = true ∧ yX8_isWord.cls ≠ "java/lang/invoke/MethodHandle" ∧ yX8_isWord.cls ≠ "java/lang/invoke/VarHandle" ∧ (parseMethodDescriptor yX8_isWord.desc).map (fun d => d.parameters.length) = some 1 ∧ m_X8_isWord.2.2.1 ≤ 45) := ⟨gw_of (in_3 (List.mem_of_getElem? (i := 149) rfl)) rfl, gw_of (in_3 (List.mem_of_getElem? (i := 150) rfl)) rfl, gw_of (in_1 (List.mem_of_getElem? (i := 5) rfl)) rfl, gw_of (in_3 (List.mem_of_getElem? (i := 151) rfl)) rfl, ⟨by decide +kernel, by decide +kernel, by decide +kernel, by decide +kernel, by decide +kernel⟩⟩
set_option maxRecDepth 100000 in
theorem yv_X8_isSign : Cond.instanceMethod yX8_isSign ∈ gw ∧ Cond.selects yX8_isSign.cls yX8_isSign yX8_isSign ∈ gw ∧ Cond.initialized yX8_isSign.cls ∈ gw ∧ cdM m_X8_isSign ∈ gw ∧ (plainName yX8_isSign.cls = true ∧ yX8_isSign.cls ≠ "java/lang/invoke/MethodHandle" ∧ yX8_isSign.cls ≠ "java/lang/invoke/VarHandle" ∧ (parseMethodDescriptor yX8_isSign.desc).map (fun d => d.parameters.length) = some 1 ∧ m_X8_isSign.2.2.1 ≤ 45) := ⟨gw_of (in_4 (List.mem_of_getElem? (i := 11) rfl)) rfl, gw_of (in_4 (List.mem_of_getElem? (i := 12) rfl)) rfl, gw_of (in_1 (List.mem_of_getElem? (i := 5) rfl)) rfl, gw_of (in_4 (List.mem_of_getElem? (i := 13) rfl)) rfl, ⟨by decide +kernel, by decide +kernel, by decide +kernel, by decide +kernel, by decide +kernel⟩⟩
set_option maxRecDepth 100000 in
theorem yv_X8_takeWord : Cond.instanceMethod yX8_takeWord ∈ gw ∧ Cond.selects yX8_takeWord.cls yX8_takeWord yX8_takeWord ∈ gw ∧ Cond.initialized yX8_takeWord.cls ∈ gw ∧ cdM m_X8_takeWord ∈ gw ∧ (plainName yX8_takeWord.cls = true ∧ yX8_takeWord.cls ≠ "java/lang/invoke/MethodHandle" ∧ yX8_takeWord.cls ≠ "java/lang/invoke/VarHandle" ∧ (parseMethodDescriptor yX8_takeWord.desc).map (fun d => d.parameters.length) = some 0 ∧ m_X8_takeWord.2.2.1 ≤ 45) := ⟨gw_of (in_3 (List.mem_of_getElem? (i := 35) rfl)) rfl, gw_sel (List.mem_of_getElem? (i := 2) rfl) rfl, gw_of (in_1 (List.mem_of_getElem? (i := 5) rfl)) rfl, gw_of (in_3 (List.mem_of_getElem? (i := 36) rfl)) rfl, ⟨by decide +kernel, by decide +kernel, by decide +kernel, by decide +kernel, by decide +kernel⟩⟩
set_option maxRecDepth 100000 in
theorem yv_X8_takeNumber : Cond.instanceMethod yX8_takeNumber ∈ gw ∧ Cond.selects yX8_takeNumber.cls yX8_takeNumber yX8_takeNumber ∈ gw ∧ Cond.initialized yX8_takeNumber.cls ∈ gw ∧ cdM m_X8_takeNumber ∈ gw ∧ (plainName yX8_takeNumber.cls = true ∧ yX8_takeNumber.cls ≠ "java/lang/invoke/MethodHandle" ∧ yX8_takeNumber.cls ≠ "java/lang/invoke/VarHandle" ∧ (parseMethodDescriptor yX8_takeNumber.desc).map (fun d => d.parameters.length) = some 0 ∧ m_X8_takeNumber.2.2.1 ≤ 45) := ⟨gw_of (in_3 (List.mem_of_getElem? (i := 42) rfl)) rfl, gw_sel (List.mem_of_getElem? (i := 3) rfl) rfl, gw_of (in_1 (List.mem_of_getElem? (i := 5) rfl)) rfl, gw_of (in_3 (List.mem_of_getElem? (i := 43) rfl)) rfl, ⟨by decide +kernel, by decide +kernel, by decide +kernel, by decide +kernel, by decide +kernel⟩⟩
set_option maxRecDepth 100000 in
theorem yv_X8_takeSign : Cond.instanceMethod yX8_takeSign ∈ gw ∧ Cond.selects yX8_takeSign.cls yX8_takeSign yX8_takeSign ∈ gw ∧ Cond.initialized yX8_takeSign.cls ∈ gw ∧ cdM m_X8_takeSign ∈ gw ∧ (plainName yX8_takeSign.cls = true ∧ yX8_takeSign.cls ≠ "java/lang/invoke/MethodHandle" ∧ yX8_takeSign.cls ≠ "java/lang/invoke/VarHandle" ∧ (parseMethodDescriptor yX8_takeSign.desc).map (fun d => d.parameters.length) = some 1 ∧ m_X8_takeSign.2.2.1 ≤ 45) := ⟨gw_of (in_3 (List.mem_of_getElem? (i := 46) rfl)) rfl, gw_sel (List.mem_of_getElem? (i := 4) rfl) rfl, gw_of (in_1 (List.mem_of_getElem? (i := 5) rfl)) rfl, gw_of (in_3 (List.mem_of_getElem? (i := 47) rfl)) rfl, ⟨by decide +kernel, by decide +kernel, by decide +kernel, by decide +kernel, by decide +kernel⟩⟩
set_option maxRecDepth 100000 in
theorem yv_X8_byteAt : Cond.instanceMethod yX8_byteAt ∈ gw ∧ Cond.selects yX8_byteAt.cls yX8_byteAt yX8_byteAt ∈ gw ∧ Cond.initialized yX8_byteAt.cls ∈ gw ∧ cdM m_X8_byteAt ∈ gw ∧ (plainName yX8_byteAt.cls = true ∧ yX8_byteAt.cls ≠ "java/lang/invoke/MethodHandle" ∧ yX8_byteAt.cls ≠ "java/lang/invoke/VarHandle" ∧ (parseMethodDescriptor yX8_byteAt.desc).map (fun d => d.parameters.length) = some 1 ∧ m_X8_byteAt.2.2.1 ≤ 45) := ⟨gw_of (in_3 (List.mem_of_getElem? (i := 25) rfl)) rfl, gw_sel (List.mem_of_getElem? (i := 1) rfl) rfl, gw_of (in_1 (List.mem_of_getElem? (i := 5) rfl)) rfl, gw_of (in_3 (List.mem_of_getElem? (i := 26) rfl)) rfl, ⟨by decide +kernel, by decide +kernel, by decide +kernel, by decide +kernel, by decide +kernel⟩⟩
set_option maxRecDepth 100000 in
theorem ys_X8_withLetter : Cond.static yX8_withLetter ∈ gw ∧ Cond.initialized yX8_withLetter.cls ∈ gw ∧ cdM m_X8_withLetter ∈ gw ∧ (plainName yX8_withLetter.cls = true ∧ yX8_withLetter.cls ≠ "java/lang/invoke/MethodHandle" ∧ yX8_withLetter.cls ≠ "java/lang/invoke/VarHandle" ∧ (parseMethodDescriptor yX8_withLetter.desc).map (fun d => d.parameters.length) = some 2 ∧ m_X8_withLetter.2.2.1 ≤ 45) := ⟨gw_of (in_2 (List.mem_of_getElem? (i := 4) rfl)) rfl, gw_of (in_1 (List.mem_of_getElem? (i := 5) rfl)) rfl, gw_of (in_2 (List.mem_of_getElem? (i := 5) rfl)) rfl, ⟨by decide +kernel, by decide +kernel, by decide +kernel, by decide +kernel, by decide +kernel⟩⟩
set_option maxRecDepth 100000 in
theorem ys_X8_isBlank : Cond.static yX8_isBlank ∈ gw ∧ Cond.initialized yX8_isBlank.cls ∈ gw ∧ cdM m_X8_isBlank ∈ gw ∧ (plainName yX8_isBlank.cls = true ∧ yX8_isBlank.cls ≠ "java/lang/invoke/MethodHandle" ∧ yX8_isBlank.cls ≠ "java/lang/invoke/VarHandle" ∧ (parseMethodDescriptor yX8_isBlank.desc).map (fun d => d.parameters.length) = some 1 ∧ m_X8_isBlank.2.2.1 ≤ 45) := ⟨gw_of (in_3 (List.mem_of_getElem? (i := 28) rfl)) rfl, gw_of (in_1 (List.mem_of_getElem? (i := 5) rfl)) rfl, gw_of (in_3 (List.mem_of_getElem? (i := 29) rfl)) rfl, ⟨by decide +kernel, by decide +kernel, by decide +kernel, by decide +kernel, by decide +kernel⟩⟩
set_option maxRecDepth 100000 in
theorem ys_X8_isLetter : Cond.static yX8_isLetter ∈ gw ∧ Cond.initialized yX8_isLetter.cls ∈ gw ∧ cdM m_X8_isLetter ∈ gw ∧ (plainName yX8_isLetter.cls = true ∧ yX8_isLetter.cls ≠ "java/lang/invoke/MethodHandle" ∧ yX8_isLetter.cls ≠ "java/lang/invoke/VarHandle" ∧ (parseMethodDescriptor yX8_isLetter.desc).map (fun d => d.parameters.length) = some 1 ∧ m_X8_isLetter.2.2.1 ≤ 45) := ⟨gw_of (in_3 (List.mem_of_getElem? (i := 31) rfl)) rfl, gw_of (in_1 (List.mem_of_getElem? (i := 5) rfl)) rfl, gw_of (in_3 (List.mem_of_getElem? (i := 32) rfl)) rfl, ⟨by decide +kernel, by decide +kernel, by decide +kernel, by decide +kernel, by decide +kernel⟩⟩
set_option maxRecDepth 100000 in
theorem ys_X8_isDigit : Cond.static yX8_isDigit ∈ gw ∧ Cond.initialized yX8_isDigit.cls ∈ gw ∧ cdM m_X8_isDigit ∈ gw ∧ (plainName yX8_isDigit.cls = true ∧ yX8_isDigit.cls ≠ "java/lang/invoke/MethodHandle" ∧ yX8_isDigit.cls ≠ "java/lang/invoke/VarHandle" ∧ (parseMethodDescriptor yX8_isDigit.desc).map (fun d => d.parameters.length) = some 1 ∧ m_X8_isDigit.2.2.1 ≤ 45) := ⟨gw_of (in_3 (List.mem_of_getElem? (i := 38) rfl)) rfl, gw_of (in_1 (List.mem_of_getElem? (i := 5) rfl)) rfl, gw_of (in_3 (List.mem_of_getElem? (i := 39) rfl)) rfl, ⟨by decide +kernel, by decide +kernel, by decide +kernel, by decide +kernel, by decide +kernel⟩⟩
set_option maxRecDepth 100000 in
theorem yv_X9_clear : Cond.instanceMethod yX9_clear ∈ gw ∧ Cond.selects yX9_clear.cls yX9_clear yX9_clear ∈ gw ∧ Cond.initialized yX9_clear.cls ∈ gw ∧ cdM m_X9_clear ∈ gw ∧ (plainName yX9_clear.cls = true ∧ yX9_clear.cls ≠ "java/lang/invoke/MethodHandle" ∧ yX9_clear.cls ≠ "java/lang/invoke/VarHandle" ∧ (parseMethodDescriptor yX9_clear.desc).map (fun d => d.parameters.length) = some 0 ∧ m_X9_clear.2.2.1 ≤ 45) := ⟨gw_of (in_3 (List.mem_of_getElem? (i := 2) rfl)) rfl, gw_of (in_3 (List.mem_of_getElem? (i := 3) rfl)) rfl, gw_of (in_1 (List.mem_of_getElem? (i := 2) rfl)) rfl, gw_of (in_3 (List.mem_of_getElem? (i := 4) rfl)) rfl, ⟨by decide +kernel, by decide +kernel, by decide +kernel, by decide +kernel, by decide +kernel⟩⟩
set_option maxRecDepth 100000 in
theorem yv_X9_hasChurch : Cond.instanceMethod yX9_hasChurch ∈ gw ∧ Cond.selects yX9_hasChurch.cls yX9_hasChurch yX9_hasChurch ∈ gw ∧ Cond.initialized yX9_hasChurch.cls ∈ gw ∧ cdM m_X9_hasChurch ∈ gw ∧ (plainName yX9_hasChurch.cls = true ∧ yX9_hasChurch.cls ≠ "java/lang/invoke/MethodHandle" ∧ yX9_hasChurch.cls ≠ "java/lang/invoke/VarHandle" ∧ (parseMethodDescriptor yX9_hasChurch.desc).map (fun d => d.parameters.length) = some 1 ∧ m_X9_hasChurch.2.2.1 ≤ 45) := ⟨gw_of (in_4 (List.mem_of_getElem? (i := 203) rfl)) rfl, gw_of (in_4 (List.mem_of_getElem? (i := 204) rfl)) rfl, gw_of (in_1 (List.mem_of_getElem? (i := 2) rfl)) rfl, gw_of (in_4 (List.mem_of_getElem? (i := 205) rfl)) rfl, ⟨by decide +kernel, by decide +kernel, by decide +kernel, by decide +kernel, by decide +kernel⟩⟩
set_option maxRecDepth 100000 in
theorem yv_X9_hasPerson : Cond.instanceMethod yX9_hasPerson ∈ gw ∧ Cond.selects yX9_hasPerson.cls yX9_hasPerson yX9_hasPerson ∈ gw ∧ Cond.initialized yX9_hasPerson.cls ∈ gw ∧ cdM m_X9_hasPerson ∈ gw ∧ (plainName yX9_hasPerson.cls = true ∧ yX9_hasPerson.cls ≠ "java/lang/invoke/MethodHandle" ∧ yX9_hasPerson.cls ≠ "java/lang/invoke/VarHandle" ∧ (parseMethodDescriptor yX9_hasPerson.desc).map (fun d => d.parameters.length) = some 1 ∧ m_X9_hasPerson.2.2.1 ≤ 45) := ⟨gw_of (in_4 (List.mem_of_getElem? (i := 56) rfl)) rfl, gw_of (in_4 (List.mem_of_getElem? (i := 57) rfl)) rfl, gw_of (in_1 (List.mem_of_getElem? (i := 2) rfl)) rfl, gw_of (in_4 (List.mem_of_getElem? (i := 58) rfl)) rfl, ⟨by decide +kernel, by decide +kernel, by decide +kernel, by decide +kernel, by decide +kernel⟩⟩
set_option maxRecDepth 100000 in
theorem yv_X9_hasPair : Cond.instanceMethod yX9_hasPair ∈ gw ∧ Cond.selects yX9_hasPair.cls yX9_hasPair yX9_hasPair ∈ gw ∧ Cond.initialized yX9_hasPair.cls ∈ gw ∧ cdM m_X9_hasPair ∈ gw ∧ (plainName yX9_hasPair.cls = true ∧ yX9_hasPair.cls ≠ "java/lang/invoke/MethodHandle" ∧ yX9_hasPair.cls ≠ "java/lang/invoke/VarHandle" ∧ (parseMethodDescriptor yX9_hasPair.desc).map (fun d => d.parameters.length) = some 1 ∧ m_X9_hasPair.2.2.1 ≤ 45) := ⟨gw_of (in_4 (List.mem_of_getElem? (i := 84) rfl)) rfl, gw_of (in_4 (List.mem_of_getElem? (i := 85) rfl)) rfl, gw_of (in_1 (List.mem_of_getElem? (i := 2) rfl)) rfl, gw_of (in_4 (List.mem_of_getElem? (i := 86) rfl)) rfl, ⟨by decide +kernel, by decide +kernel, by decide +kernel, by decide +kernel, by decide +kernel⟩⟩
set_option maxRecDepth 100000 in
theorem yv_X9_findChurch : Cond.instanceMethod yX9_findChurch ∈ gw ∧ Cond.selects yX9_findChurch.cls yX9_findChurch yX9_findChurch ∈ gw ∧ Cond.initialized yX9_findChurch.cls ∈ gw ∧ cdM m_X9_findChurch ∈ gw ∧ (plainName yX9_findChurch.cls = true ∧ yX9_findChurch.cls ≠ "java/lang/invoke/MethodHandle" ∧ yX9_findChurch.cls ≠ "java/lang/invoke/VarHandle" ∧ (parseMethodDescriptor yX9_findChurch.desc).map (fun d => d.parameters.length) = some 1 ∧ m_X9_findChurch.2.2.1 ≤ 45) := ⟨gw_of (in_3 (List.mem_of_getElem? (i := 122) rfl)) rfl, gw_of (in_3 (List.mem_of_getElem? (i := 123) rfl)) rfl, gw_of (in_1 (List.mem_of_getElem? (i := 2) rfl)) rfl, gw_of (in_3 (List.mem_of_getElem? (i := 124) rfl)) rfl, ⟨by decide +kernel, by decide +kernel, by decide +kernel, by decide +kernel, by decide +kernel⟩⟩
set_option maxRecDepth 100000 in
theorem yv_X9_findPerson : Cond.instanceMethod yX9_findPerson ∈ gw ∧ Cond.selects yX9_findPerson.cls yX9_findPerson yX9_findPerson ∈ gw ∧ Cond.initialized yX9_findPerson.cls ∈ gw ∧ cdM m_X9_findPerson ∈ gw ∧ (plainName yX9_findPerson.cls = true ∧ yX9_findPerson.cls ≠ "java/lang/invoke/MethodHandle" ∧ yX9_findPerson.cls ≠ "java/lang/invoke/VarHandle" ∧ (parseMethodDescriptor yX9_findPerson.desc).map (fun d => d.parameters.length) = some 1 ∧ m_X9_findPerson.2.2.1 ≤ 45) := ⟨gw_of (in_3 (List.mem_of_getElem? (i := 141) rfl)) rfl, gw_of (in_3 (List.mem_of_getElem? (i := 142) rfl)) rfl, gw_of (in_1 (List.mem_of_getElem? (i := 2) rfl)) rfl, gw_of (in_3 (List.mem_of_getElem? (i := 143) rfl)) rfl, ⟨by decide +kernel, by decide +kernel, by decide +kernel, by decide +kernel, by decide +kernel⟩⟩
set_option maxRecDepth 100000 in
theorem yv_X9_pairedWith : Cond.instanceMethod yX9_pairedWith ∈ gw ∧ Cond.selects yX9_pairedWith.cls yX9_pairedWith yX9_pairedWith ∈ gw ∧ Cond.initialized yX9_pairedWith.cls ∈ gw ∧ cdM m_X9_pairedWith ∈ gw ∧ (plainName yX9_pairedWith.cls = true ∧ yX9_pairedWith.cls ≠ "java/lang/invoke/MethodHandle" ∧ yX9_pairedWith.cls ≠ "java/lang/invoke/VarHandle" ∧ (parseMethodDescriptor yX9_pairedWith.desc).map (fun d => d.parameters.length) = some 1 ∧ m_X9_pairedWith.2.2.1 ≤ 45) := ⟨gw_of (in_3 (List.mem_of_getElem? (i := 195) rfl)) rfl, gw_of (in_3 (List.mem_of_getElem? (i := 196) rfl)) rfl, gw_of (in_1 (List.mem_of_getElem? (i := 2) rfl)) rfl, gw_of (in_3 (List.mem_of_getElem? (i := 197) rfl)) rfl, ⟨by decide +kernel, by decide +kernel, by decide +kernel, by decide +kernel, by decide +kernel⟩⟩
set_option maxRecDepth 100000 in
theorem yv_X9_pairMask : Cond.instanceMethod yX9_pairMask ∈ gw ∧ Cond.selects yX9_pairMask.cls yX9_pairMask yX9_pairMask ∈ gw ∧ Cond.initialized yX9_pairMask.cls ∈ gw ∧ cdM m_X9_pairMask ∈ gw ∧ (plainName yX9_pairMask.cls = true ∧ yX9_pairMask.cls ≠ "java/lang/invoke/MethodHandle" ∧ yX9_pairMask.cls ≠ "java/lang/invoke/VarHandle" ∧ (parseMethodDescriptor yX9_pairMask.desc).map (fun d => d.parameters.length) = some 1 ∧ m_X9_pairMask.2.2.1 ≤ 45) := ⟨gw_of (in_3 (List.mem_of_getElem? (i := 199) rfl)) rfl, gw_of (in_3 (List.mem_of_getElem? (i := 200) rfl)) rfl, gw_of (in_1 (List.mem_of_getElem? (i := 2) rfl)) rfl, gw_of (in_3 (List.mem_of_getElem? (i := 201) rfl)) rfl, ⟨by decide +kernel, by decide +kernel, by decide +kernel, by decide +kernel, by decide +kernel⟩⟩
set_option maxRecDepth 100000 in
theorem yv_X9_addChurch : Cond.instanceMethod yX9_addChurch ∈ gw ∧ Cond.selects yX9_addChurch.cls yX9_addChurch yX9_addChurch ∈ gw ∧ Cond.initialized yX9_addChurch.cls ∈ gw ∧ cdM m_X9_addChurch ∈ gw ∧ (plainName yX9_addChurch.cls = true ∧ yX9_addChurch.cls ≠ "java/lang/invoke/MethodHandle" ∧ yX9_addChurch.cls ≠ "java/lang/invoke/VarHandle" ∧ (parseMethodDescriptor yX9_addChurch.desc).map (fun d => d.parameters.length) = some 1 ∧ m_X9_addChurch.2.2.1 ≤ 45) := ⟨gw_of (in_3 (List.mem_of_getElem? (i := 133) rfl)) rfl, gw_of (in_3 (List.mem_of_getElem? (i := 134) rfl)) rfl, gw_of (in_1 (List.mem_of_getElem? (i := 2) rfl)) rfl, gw_of (in_3 (List.mem_of_getElem? (i := 135) rfl)) rfl, ⟨by decide +kernel, by decide +kernel, by decide +kernel, by decide +kernel, by decide +kernel⟩⟩
set_option maxRecDepth 100000 in
theorem yv_X9_describe : Cond.instanceMethod yX9_describe ∈ gw ∧ Cond.selects yX9_describe.cls yX9_describe yX9_describe ∈ gw ∧ Cond.initialized yX9_describe.cls ∈ gw ∧ cdM m_X9_describe ∈ gw ∧ (plainName yX9_describe.cls = true ∧ yX9_describe.cls ≠ "java/lang/invoke/MethodHandle" ∧ yX9_describe.cls ≠ "java/lang/invoke/VarHandle" ∧ (parseMethodDescriptor yX9_describe.desc).map (fun d => d.parameters.length) = some 2 ∧ m_X9_describe.2.2.1 ≤ 45) := ⟨gw_of (in_3 (List.mem_of_getElem? (i := 161) rfl)) rfl, gw_of (in_3 (List.mem_of_getElem? (i := 162) rfl)) rfl, gw_of (in_1 (List.mem_of_getElem? (i := 2) rfl)) rfl, gw_of (in_3 (List.mem_of_getElem? (i := 163) rfl)) rfl, ⟨by decide +kernel, by decide +kernel, by decide +kernel, by decide +kernel, by decide +kernel⟩⟩
set_option maxRecDepth 100000 in
theorem yv_X9_addPair : Cond.instanceMethod yX9_addPair ∈ gw ∧ Cond.selects yX9_addPair.cls yX9_addPair yX9_addPair ∈ gw ∧ Cond.initialized yX9_addPair.cls ∈ gw ∧ cdM m_X9_addPair ∈ gw ∧ (plainName yX9_addPair.cls = true ∧ yX9_addPair.cls ≠ "java/lang/invoke/MethodHandle" ∧ yX9_addPair.cls ≠ "java/lang/invoke/VarHandle" ∧ (parseMethodDescriptor yX9_addPair.desc).map (fun d => d.parameters.length) = some 4 ∧ m_X9_addPair.2.2.1 ≤ 45) := ⟨gw_of (in_3 (List.mem_of_getElem? (i := 207) rfl)) rfl, gw_of (in_3 (List.mem_of_getElem? (i := 208) rfl)) rfl, gw_of (in_1 (List.mem_of_getElem? (i := 2) rfl)) rfl, gw_of (in_3 (List.mem_of_getElem? (i := 209) rfl)) rfl, ⟨by decide +kernel, by decide +kernel, by decide +kernel, by decide +kernel, by decide +kernel⟩⟩
set_option maxRecDepth 100000 in
theorem yv_X9_set : Cond.instanceMethod yX9_set ∈ gw ∧ Cond.selects yX9_set.cls yX9_set yX9_set ∈ gw ∧ Cond.initialized yX9_set.cls ∈ gw ∧ cdM m_X9_set ∈ gw ∧ (plainName yX9_set.cls = true ∧ yX9_set.cls ≠ "java/lang/invoke/MethodHandle" ∧ yX9_set.cls ≠ "java/lang/invoke/VarHandle" ∧ (parseMethodDescriptor yX9_set.desc).map (fun d => d.parameters.length) = some 2 ∧ m_X9_set.2.2.1 ≤ 45) := ⟨gw_of (in_4 (List.mem_of_getElem? (i := 31) rfl)) rfl, gw_of (in_4 (List.mem_of_getElem? (i := 32) rfl)) rfl, gw_of (in_1 (List.mem_of_getElem? (i := 2) rfl)) rfl, gw_of (in_4 (List.mem_of_getElem? (i := 33) rfl)) rfl, ⟨by decide +kernel, by decide +kernel, by decide +kernel, by decide +kernel, by decide +kernel⟩⟩
set_option maxRecDepth 100000 in
theorem yv_X9_isAway : Cond.instanceMethod yX9_isAway ∈ gw ∧ Cond.selects yX9_isAway.cls yX9_isAway yX9_isAway ∈ gw ∧ Cond.initialized yX9_isAway.cls ∈ gw ∧ cdM m_X9_isAway ∈ gw ∧ (plainName yX9_isAway.cls = true ∧ yX9_isAway.cls ≠ "java/lang/invoke/MethodHandle" ∧ yX9_isAway.cls ≠ "java/lang/invoke/VarHandle" ∧ (parseMethodDescriptor yX9_isAway.desc).map (fun d => d.parameters.length) = some 2 ∧ m_X9_isAway.2.2.1 ≤ 45) := ⟨gw_of (in_4 (List.mem_of_getElem? (i := 68) rfl)) rfl, gw_of (in_4 (List.mem_of_getElem? (i := 69) rfl)) rfl, gw_of (in_1 (List.mem_of_getElem? (i := 2) rfl)) rfl, gw_of (in_4 (List.mem_of_getElem? (i := 70) rfl)) rfl, ⟨by decide +kernel, by decide +kernel, by decide +kernel, by decide +kernel, by decide +kernel⟩⟩
set_option maxRecDepth 100000 in
theorem yv_X9_isPairAway : Cond.instanceMethod yX9_isPairAway ∈ gw ∧ Cond.selects yX9_isPairAway.cls yX9_isPairAway yX9_isPairAway ∈ gw ∧ Cond.initialized yX9_isPairAway.cls ∈ gw ∧ cdM m_X9_isPairAway ∈ gw ∧ (plainName yX9_isPairAway.cls = true ∧ yX9_isPairAway.cls ≠ "java/lang/invoke/MethodHandle" ∧ yX9_isPairAway.cls ≠ "java/lang/invoke/VarHandle" ∧ (parseMethodDescriptor yX9_isPairAway.desc).map (fun d => d.parameters.length) = some 2 ∧ m_X9_isPairAway.2.2.1 ≤ 45) := ⟨gw_of (in_4 (List.mem_of_getElem? (i := 128) rfl)) rfl, gw_of (in_4 (List.mem_of_getElem? (i := 129) rfl)) rfl, gw_of (in_1 (List.mem_of_getElem? (i := 2) rfl)) rfl, gw_of (in_4 (List.mem_of_getElem? (i := 130) rfl)) rfl, ⟨by decide +kernel, by decide +kernel, by decide +kernel, by decide +kernel, by decide +kernel⟩⟩
set_option maxRecDepth 100000 in
theorem ys_X9_find : Cond.static yX9_find ∈ gw ∧ Cond.initialized yX9_find.cls ∈ gw ∧ cdM m_X9_find ∈ gw ∧ (plainName yX9_find.cls = true ∧ yX9_find.cls ≠ "java/lang/invoke/MethodHandle" ∧ yX9_find.cls ≠ "java/lang/invoke/VarHandle" ∧ (parseMethodDescriptor yX9_find.desc).map (fun d => d.parameters.length) = some 3 ∧ m_X9_find.2.2.1 ≤ 45) := ⟨gw_of (in_3 (List.mem_of_getElem? (i := 126) rfl)) rfl, gw_of (in_1 (List.mem_of_getElem? (i := 2) rfl)) rfl, gw_of (in_3 (List.mem_of_getElem? (i := 127) rfl)) rfl, ⟨by decide +kernel, by decide +kernel, by decide +kernel, by decide +kernel, by decide +kernel⟩⟩
set_option maxRecDepth 100000 in
theorem yv_X10_feed : Cond.instanceMethod yX10_feed ∈ gw ∧ Cond.selects yX10_feed.cls yX10_feed yX10_feed ∈ gw ∧ Cond.initialized yX10_feed.cls ∈ gw ∧ cdM m_X10_feed ∈ gw ∧ (plainName yX10_feed.cls = true ∧ yX10_feed.cls ≠ "java/lang/invoke/MethodHandle" ∧ yX10_feed.cls ≠ "java/lang/invoke/VarHandle" ∧ (parseMethodDescriptor yX10_feed.desc).map (fun d => d.parameters.length) = some 5 ∧ m_X10_feed.2.2.1 ≤ 45) := ⟨gw_of (in_2 (List.mem_of_getElem? (i := 218) rfl)) rfl, gw_of (in_2 (List.mem_of_getElem? (i := 219) rfl)) rfl, gw_of (in_1 (List.mem_of_getElem? (i := 1) rfl)) rfl, gw_of (in_2 (List.mem_of_getElem? (i := 220) rfl)) rfl, ⟨by decide +kernel, by decide +kernel, by decide +kernel, by decide +kernel, by decide +kernel⟩⟩
set_option maxRecDepth 100000 in
theorem yv_X10_end : Cond.instanceMethod yX10_end ∈ gw ∧ Cond.selects yX10_end.cls yX10_end yX10_end ∈ gw ∧ Cond.initialized yX10_end.cls ∈ gw ∧ cdM m_X10_end ∈ gw ∧ (plainName yX10_end.cls = true ∧ yX10_end.cls ≠ "java/lang/invoke/MethodHandle" ∧ yX10_end.cls ≠ "java/lang/invoke/VarHandle" ∧ (parseMethodDescriptor yX10_end.desc).map (fun d => d.parameters.length) = some 1 ∧ m_X10_end.2.2.1 ≤ 45) := ⟨gw_of (in_2 (List.mem_of_getElem? (i := 230) rfl)) rfl, gw_of (in_2 (List.mem_of_getElem? (i := 231) rfl)) rfl, gw_of (in_1 (List.mem_of_getElem? (i := 1) rfl)) rfl, gw_of (in_2 (List.mem_of_getElem? (i := 232) rfl)) rfl, ⟨by decide +kernel, by decide +kernel, by decide +kernel, by decide +kernel, by decide +kernel⟩⟩
set_option maxRecDepth 100000 in
theorem yv_X10_town : Cond.instanceMethod yX10_town ∈ gw ∧ Cond.selects yX10_town.cls yX10_town yX10_town ∈ gw ∧ Cond.initialized yX10_town.cls ∈ gw ∧ cdM m_X10_town ∈ gw ∧ (plainName yX10_town.cls = true ∧ yX10_town.cls ≠ "java/lang/invoke/MethodHandle" ∧ yX10_town.cls ≠ "java/lang/invoke/VarHandle" ∧ (parseMethodDescriptor yX10_town.desc).map (fun d => d.parameters.length) = some 0 ∧ m_X10_town.2.2.1 ≤ 45) := ⟨gw_of (in_2 (List.mem_of_getElem? (i := 234) rfl)) rfl, gw_of (in_2 (List.mem_of_getElem? (i := 235) rfl)) rfl, gw_of (in_1 (List.mem_of_getElem? (i := 1) rfl)) rfl, gw_of (in_2 (List.mem_of_getElem? (i := 236) rfl)) rfl, ⟨by decide +kernel, by decide +kernel, by decide +kernel, by decide +kernel, by decide +kernel⟩⟩
set_option maxRecDepth 100000 in
theorem yv_X10_fault : Cond.instanceMethod yX10_fault ∈ gw ∧ Cond.selects yX10_fault.cls yX10_fault yX10_fault ∈ gw ∧ Cond.initialized yX10_fault.cls ∈ gw ∧ cdM m_X10_fault ∈ gw ∧ (plainName yX10_fault.cls = true ∧ yX10_fault.cls ≠ "java/lang/invoke/MethodHandle" ∧ yX10_fault.cls ≠ "java/lang/invoke/VarHandle" ∧ (parseMethodDescriptor yX10_fault.desc).map (fun d => d.parameters.length) = some 1 ∧ m_X10_fault.2.2.1 ≤ 45) := ⟨gw_of (in_4 (List.mem_of_getElem? (i := 48) rfl)) rfl, gw_of (in_4 (List.mem_of_getElem? (i := 49) rfl)) rfl, gw_of (in_1 (List.mem_of_getElem? (i := 1) rfl)) rfl, gw_of (in_4 (List.mem_of_getElem? (i := 50) rfl)) rfl, ⟨by decide +kernel, by decide +kernel, by decide +kernel, by decide +kernel, by decide +kernel⟩⟩
set_option maxRecDepth 100000 in
theorem yv_X10_person : Cond.instanceMethod yX10_person ∈ gw ∧ Cond.selects yX10_person.cls yX10_person yX10_person ∈ gw ∧ Cond.initialized yX10_person.cls ∈ gw ∧ cdM m_X10_person ∈ gw ∧ (plainName yX10_person.cls = true ∧ yX10_person.cls ≠ "java/lang/invoke/MethodHandle" ∧ yX10_person.cls ≠ "java/lang/invoke/VarHandle" ∧ (parseMethodDescriptor yX10_person.desc).map (fun d => d.parameters.length) = some 2 ∧ m_X10_person.2.2.1 ≤ 45) := ⟨gw_of (in_4 (List.mem_of_getElem? (i := 52) rfl)) rfl, gw_of (in_4 (List.mem_of_getElem? (i := 53) rfl)) rfl, gw_of (in_1 (List.mem_of_getElem? (i := 1) rfl)) rfl, gw_of (in_4 (List.mem_of_getElem? (i := 54) rfl)) rfl, ⟨by decide +kernel, by decide +kernel, by decide +kernel, by decide +kernel, by decide +kernel⟩⟩
set_option maxRecDepth 100000 in
theorem yv_X10_pair : Cond.instanceMethod yX10_pair ∈ gw ∧ Cond.selects yX10_pair.cls yX10_pair yX10_pair ∈ gw ∧ Cond.initialized yX10_pair.cls ∈ gw ∧ cdM m_X10_pair ∈ gw ∧ (plainName yX10_pair.cls = true ∧ yX10_pair.cls ≠ "java/lang/invoke/MethodHandle" ∧ yX10_pair.cls ≠ "java/lang/invoke/VarHandle" ∧ (parseMethodDescriptor yX10_pair.desc).map (fun d => d.parameters.length) = some 2 ∧ m_X10_pair.2.2.1 ≤ 45) := ⟨gw_of (in_4 (List.mem_of_getElem? (i := 80) rfl)) rfl, gw_of (in_4 (List.mem_of_getElem? (i := 81) rfl)) rfl, gw_of (in_1 (List.mem_of_getElem? (i := 1) rfl)) rfl, gw_of (in_4 (List.mem_of_getElem? (i := 82) rfl)) rfl, ⟨by decide +kernel, by decide +kernel, by decide +kernel, by decide +kernel, by decide +kernel⟩⟩
set_option maxRecDepth 100000 in
theorem yv_X10_degree : Cond.instanceMethod yX10_degree ∈ gw ∧ Cond.selects yX10_degree.cls yX10_degree yX10_degree ∈ gw ∧ Cond.initialized yX10_degree.cls ∈ gw ∧ cdM m_X10_degree ∈ gw ∧ (plainName yX10_degree.cls = true ∧ yX10_degree.cls ≠ "java/lang/invoke/MethodHandle" ∧ yX10_degree.cls ≠ "java/lang/invoke/VarHandle" ∧ (parseMethodDescriptor yX10_degree.desc).map (fun d => d.parameters.length) = some 2 ∧ m_X10_degree.2.2.1 ≤ 45) := ⟨gw_of (in_4 (List.mem_of_getElem? (i := 139) rfl)) rfl, gw_of (in_4 (List.mem_of_getElem? (i := 140) rfl)) rfl, gw_of (in_1 (List.mem_of_getElem? (i := 1) rfl)) rfl, gw_of (in_4 (List.mem_of_getElem? (i := 141) rfl)) rfl, ⟨by decide +kernel, by decide +kernel, by decide +kernel, by decide +kernel, by decide +kernel⟩⟩
set_option maxRecDepth 100000 in
theorem yv_X10_ancestors : Cond.instanceMethod yX10_ancestors ∈ gw ∧ Cond.selects yX10_ancestors.cls yX10_ancestors yX10_ancestors ∈ gw ∧ Cond.initialized yX10_ancestors.cls ∈ gw ∧ cdM m_X10_ancestors ∈ gw ∧ (plainName yX10_ancestors.cls = true ∧ yX10_ancestors.cls ≠ "java/lang/invoke/MethodHandle" ∧ yX10_ancestors.cls ≠ "java/lang/invoke/VarHandle" ∧ (parseMethodDescriptor yX10_ancestors.desc).map (fun d => d.parameters.length) = some 1 ∧ m_X10_ancestors.2.2.1 ≤ 45) := ⟨gw_of (in_4 (List.mem_of_getElem? (i := 147) rfl)) rfl, gw_of (in_4 (List.mem_of_getElem? (i := 148) rfl)) rfl, gw_of (in_1 (List.mem_of_getElem? (i := 1) rfl)) rfl, gw_of (in_4 (List.mem_of_getElem? (i := 149) rfl)) rfl, ⟨by decide +kernel, by decide +kernel, by decide +kernel, by decide +kernel, by decide +kernel⟩⟩
set_option maxRecDepth 100000 in
theorem yv_X10_hearing : Cond.instanceMethod yX10_hearing ∈ gw ∧ Cond.selects yX10_hearing.cls yX10_hearing yX10_hearing ∈ gw ∧ Cond.initialized yX10_hearing.cls ∈ gw ∧ cdM m_X10_hearing ∈ gw ∧ (plainName yX10_hearing.cls = true ∧ yX10_hearing.cls ≠ "java/lang/invoke/MethodHandle" ∧ yX10_hearing.cls ≠ "java/lang/invoke/VarHandle" ∧ (parseMethodDescriptor yX10_hearing.desc).map (fun d => d.parameters.length) = some 1 ∧ m_X10_hearing.2.2.1 ≤ 45) := ⟨gw_of (in_4 (List.mem_of_getElem? (i := 155) rfl)) rfl, gw_of (in_4 (List.mem_of_getElem? (i := 156) rfl)) rfl, gw_of (in_1 (List.mem_of_getElem? (i := 1) rfl)) rfl, gw_of (in_4 (List.mem_of_getElem? (i := 157) rfl)) rfl, ⟨by decide +kernel, by decide +kernel, by decide +kernel, by decide +kernel, by decide +kernel⟩⟩
set_option maxRecDepth 100000 in
theorem yv_X10_church : Cond.instanceMethod yX10_church ∈ gw ∧ Cond.selects yX10_church.cls yX10_church yX10_church ∈ gw ∧ Cond.initialized yX10_church.cls ∈ gw ∧ cdM m_X10_church ∈ gw ∧ (plainName yX10_church.cls = true ∧ yX10_church.cls ≠ "java/lang/invoke/MethodHandle" ∧ yX10_church.cls ≠ "java/lang/invoke/VarHandle" ∧ (parseMethodDescriptor yX10_church.desc).map (fun d => d.parameters.length) = some 2 ∧ m_X10_church.2.2.1 ≤ 45) := ⟨gw_of (in_4 (List.mem_of_getElem? (i := 199) rfl)) rfl, gw_of (in_4 (List.mem_of_getElem? (i := 200) rfl)) rfl, gw_of (in_1 (List.mem_of_getElem? (i := 1) rfl)) rfl, gw_of (in_4 (List.mem_of_getElem? (i := 201) rfl)) rfl, ⟨by decide +kernel, by decide +kernel, by decide +kernel, by decide +kernel, by decide +kernel⟩⟩
set_option maxRecDepth 100000 in
theorem yv_X10_sit : Cond.instanceMethod yX10_sit ∈ gw ∧ Cond.selects yX10_sit.cls yX10_sit yX10_sit ∈ gw ∧ Cond.initialized yX10_sit.cls ∈ gw ∧ cdM m_X10_sit ∈ gw ∧ (plainName yX10_sit.cls = true ∧ yX10_sit.cls ≠ "java/lang/invoke/MethodHandle" ∧ yX10_sit.cls ≠ "java/lang/invoke/VarHandle" ∧ (parseMethodDescriptor yX10_sit.desc).map (fun d => d.parameters.length) = some 2 ∧ m_X10_sit.2.2.1 ≤ 45) := ⟨gw_of (in_4 (List.mem_of_getElem? (i := 212) rfl)) rfl, gw_of (in_4 (List.mem_of_getElem? (i := 213) rfl)) rfl, gw_of (in_1 (List.mem_of_getElem? (i := 1) rfl)) rfl, gw_of (in_4 (List.mem_of_getElem? (i := 214) rfl)) rfl, ⟨by decide +kernel, by decide +kernel, by decide +kernel, by decide +kernel, by decide +kernel⟩⟩
set_option maxRecDepth 100000 in
theorem yv_X10_move : Cond.instanceMethod yX10_move ∈ gw ∧ Cond.selects yX10_move.cls yX10_move yX10_move ∈ gw ∧ Cond.initialized yX10_move.cls ∈ gw ∧ cdM m_X10_move ∈ gw ∧ (plainName yX10_move.cls = true ∧ yX10_move.cls ≠ "java/lang/invoke/MethodHandle" ∧ yX10_move.cls ≠ "java/lang/invoke/VarHandle" ∧ (parseMethodDescriptor yX10_move.desc).map (fun d => d.parameters.length) = some 3 ∧ m_X10_move.2.2.1 ≤ 45) := ⟨gw_of (in_4 (List.mem_of_getElem? (i := 224) rfl)) rfl, gw_of (in_4 (List.mem_of_getElem? (i := 225) rfl)) rfl, gw_of (in_1 (List.mem_of_getElem? (i := 1) rfl)) rfl, gw_of (in_4 (List.mem_of_getElem? (i := 226) rfl)) rfl, ⟨by decide +kernel, by decide +kernel, by decide +kernel, by decide +kernel, by decide +kernel⟩⟩
set_option maxRecDepth 100000 in
theorem yv_X10_licence : Cond.instanceMethod yX10_licence ∈ gw ∧ Cond.selects yX10_licence.cls yX10_licence yX10_licence ∈ gw ∧ Cond.initialized yX10_licence.cls ∈ gw ∧ cdM m_X10_licence ∈ gw ∧ (plainName yX10_licence.cls = true ∧ yX10_licence.cls ≠ "java/lang/invoke/MethodHandle" ∧ yX10_licence.cls ≠ "java/lang/invoke/VarHandle" ∧ (parseMethodDescriptor yX10_licence.desc).map (fun d => d.parameters.length) = some 1 ∧ m_X10_licence.2.2.1 ≤ 45) := ⟨gw_of (in_4 (List.mem_of_getElem? (i := 236) rfl)) rfl, gw_of (in_4 (List.mem_of_getElem? (i := 237) rfl)) rfl, gw_of (in_1 (List.mem_of_getElem? (i := 1) rfl)) rfl, gw_of (in_4 (List.mem_of_getElem? (i := 238) rfl)) rfl, ⟨by decide +kernel, by decide +kernel, by decide +kernel, by decide +kernel, by decide +kernel⟩⟩
set_option maxRecDepth 100000 in
theorem yv_X10_sunday : Cond.instanceMethod yX10_sunday ∈ gw ∧ Cond.selects yX10_sunday.cls yX10_sunday yX10_sunday ∈ gw ∧ Cond.initialized yX10_sunday.cls ∈ gw ∧ cdM m_X10_sunday ∈ gw ∧ (plainName yX10_sunday.cls = true ∧ yX10_sunday.cls ≠ "java/lang/invoke/MethodHandle" ∧ yX10_sunday.cls ≠ "java/lang/invoke/VarHandle" ∧ (parseMethodDescriptor yX10_sunday.desc).map (fun d => d.parameters.length) = some 0 ∧ m_X10_sunday.2.2.1 ≤ 45) := ⟨gw_of (in_5 (List.mem_of_getElem? (i := 4) rfl)) rfl, gw_of (in_5 (List.mem_of_getElem? (i := 5) rfl)) rfl, gw_of (in_1 (List.mem_of_getElem? (i := 1) rfl)) rfl, gw_of (in_5 (List.mem_of_getElem? (i := 6) rfl)) rfl, ⟨by decide +kernel, by decide +kernel, by decide +kernel, by decide +kernel, by decide +kernel⟩⟩
set_option maxRecDepth 100000 in
theorem yv_X10_undo : Cond.instanceMethod yX10_undo ∈ gw ∧ Cond.selects yX10_undo.cls yX10_undo yX10_undo ∈ gw ∧ Cond.initialized yX10_undo.cls ∈ gw ∧ cdM m_X10_undo ∈ gw ∧ (plainName yX10_undo.cls = true ∧ yX10_undo.cls ≠ "java/lang/invoke/MethodHandle" ∧ yX10_undo.cls ≠ "java/lang/invoke/VarHandle" ∧ (parseMethodDescriptor yX10_undo.desc).map (fun d => d.parameters.length) = some 0 ∧ m_X10_undo.2.2.1 ≤ 45) := ⟨gw_of (in_5 (List.mem_of_getElem? (i := 41) rfl)) rfl, gw_of (in_5 (List.mem_of_getElem? (i := 42) rfl)) rfl, gw_of (in_1 (List.mem_of_getElem? (i := 1) rfl)) rfl, gw_of (in_5 (List.mem_of_getElem? (i := 43) rfl)) rfl, ⟨by decide +kernel, by decide +kernel, by decide +kernel, by decide +kernel, by decide +kernel⟩⟩
set_option maxRecDepth 100000 in
theorem yv_X10_redo : Cond.instanceMethod yX10_redo ∈ gw ∧ Cond.selects yX10_redo.cls yX10_redo yX10_redo ∈ gw ∧ Cond.initialized yX10_redo.cls ∈ gw ∧ cdM m_X10_redo ∈ gw ∧ (plainName yX10_redo.cls = true ∧ yX10_redo.cls ≠ "java/lang/invoke/MethodHandle" ∧ yX10_redo.cls ≠ "java/lang/invoke/VarHandle" ∧ (parseMethodDescriptor yX10_redo.desc).map (fun d => d.parameters.length) = some 0 ∧ m_X10_redo.2.2.1 ≤ 45) := ⟨gw_of (in_5 (List.mem_of_getElem? (i := 53) rfl)) rfl, gw_of (in_5 (List.mem_of_getElem? (i := 54) rfl)) rfl, gw_of (in_1 (List.mem_of_getElem? (i := 1) rfl)) rfl, gw_of (in_5 (List.mem_of_getElem? (i := 55) rfl)) rfl, ⟨by decide +kernel, by decide +kernel, by decide +kernel, by decide +kernel, by decide +kernel⟩⟩
set_option maxRecDepth 100000 in
theorem yv_X10_quiet : Cond.instanceMethod yX10_quiet ∈ gw ∧ Cond.selects yX10_quiet.cls yX10_quiet yX10_quiet ∈ gw ∧ Cond.initialized yX10_quiet.cls ∈ gw ∧ cdM m_X10_quiet ∈ gw ∧ (plainName yX10_quiet.cls = true ∧ yX10_quiet.cls ≠ "java/lang/invoke/MethodHandle" ∧ yX10_quiet.cls ≠ "java/lang/invoke/VarHandle" ∧ (parseMethodDescriptor yX10_quiet.desc).map (fun d => d.parameters.length) = some 4 ∧ m_X10_quiet.2.2.1 ≤ 45) := ⟨gw_of (in_5 (List.mem_of_getElem? (i := 61) rfl)) rfl, gw_of (in_5 (List.mem_of_getElem? (i := 62) rfl)) rfl, gw_of (in_1 (List.mem_of_getElem? (i := 1) rfl)) rfl, gw_of (in_5 (List.mem_of_getElem? (i := 63) rfl)) rfl, ⟨by decide +kernel, by decide +kernel, by decide +kernel, by decide +kernel, by decide +kernel⟩⟩
set_option maxRecDepth 100000 in
theorem yv_X10_quietest : Cond.instanceMethod yX10_quietest ∈ gw ∧ Cond.selects yX10_quietest.cls yX10_quietest yX10_quietest ∈ gw ∧ Cond.initialized yX10_quietest.cls ∈ gw ∧ cdM m_X10_quietest ∈ gw ∧ (plainName yX10_quietest.cls = true ∧ yX10_quietest.cls ≠ "java/lang/invoke/MethodHandle" ∧ yX10_quietest.cls ≠ "java/lang/invoke/VarHandle" ∧ (parseMethodDescriptor yX10_quietest.desc).map (fun d => d.parameters.length) = some 2 ∧ m_X10_quietest.2.2.1 ≤ 45) := ⟨gw_of (in_5 (List.mem_of_getElem? (i := 74) rfl)) rfl, gw_of (in_5 (List.mem_of_getElem? (i := 75) rfl)) rfl, gw_of (in_1 (List.mem_of_getElem? (i := 1) rfl)) rfl, gw_of (in_5 (List.mem_of_getElem? (i := 76) rfl)) rfl, ⟨by decide +kernel, by decide +kernel, by decide +kernel, by decide +kernel, by decide +kernel⟩⟩
set_option maxRecDepth 100000 in
theorem yv_X10_hush : Cond.instanceMethod yX10_hush ∈ gw ∧ Cond.selects yX10_hush.cls yX10_hush yX10_hush ∈ gw ∧ Cond.initialized yX10_hush.cls ∈ gw ∧ cdM m_X10_hush ∈ gw ∧ (plainName yX10_hush.cls = true ∧ yX10_hush.cls ≠ "java/lang/invoke/MethodHandle" ∧ yX10_hush.cls ≠ "java/lang/invoke/VarHandle" ∧ (parseMethodDescriptor yX10_hush.desc).map (fun d => d.parameters.length) = some 2 ∧ m_X10_hush.2.2.1 ≤ 45) := ⟨gw_of (in_5 (List.mem_of_getElem? (i := 78) rfl)) rfl, gw_of (in_5 (List.mem_of_getElem? (i := 79) rfl)) rfl, gw_of (in_1 (List.mem_of_getElem? (i := 1) rfl)) rfl, gw_of (in_5 (List.mem_of_getElem? (i := 80) rfl)) rfl, ⟨by decide +kernel, by decide +kernel, by decide +kernel, by decide +kernel, by decide +kernel⟩⟩
set_option maxRecDepth 100000 in
theorem yv_X10_will : Cond.instanceMethod yX10_will ∈ gw ∧ Cond.selects yX10_will.cls yX10_will yX10_will ∈ gw ∧ Cond.initialized yX10_will.cls ∈ gw ∧ cdM m_X10_will ∈ gw ∧ (plainName yX10_will.cls = true ∧ yX10_will.cls ≠ "java/lang/invoke/MethodHandle" ∧ yX10_will.cls ≠ "java/lang/invoke/VarHandle" ∧ (parseMethodDescriptor yX10_will.desc).map (fun d => d.parameters.length) = some 3 ∧ m_X10_will.2.2.1 ≤ 45) := ⟨gw_of (in_5 (List.mem_of_getElem? (i := 87) rfl)) rfl, gw_of (in_5 (List.mem_of_getElem? (i := 88) rfl)) rfl, gw_of (in_1 (List.mem_of_getElem? (i := 1) rfl)) rfl, gw_of (in_5 (List.mem_of_getElem? (i := 89) rfl)) rfl, ⟨by decide +kernel, by decide +kernel, by decide +kernel, by decide +kernel, by decide +kernel⟩⟩
set_option maxRecDepth 100000 in
theorem yv_X10_settles : Cond.instanceMethod yX10_settles ∈ gw ∧ Cond.selects yX10_settles.cls yX10_settles yX10_settles ∈ gw ∧ Cond.initialized yX10_settles.cls ∈ gw ∧ cdM m_X10_settles ∈ gw ∧ (plainName yX10_settles.cls = true ∧ yX10_settles.cls ≠ "java/lang/invoke/MethodHandle" ∧ yX10_settles.cls ≠ "java/lang/invoke/VarHandle" ∧ (parseMethodDescriptor yX10_settles.desc).map (fun d => d.parameters.length) = some 1 ∧ m_X10_settles.2.2.1 ≤ 45) := ⟨gw_of (in_5 (List.mem_of_getElem? (i := 95) rfl)) rfl, gw_of (in_5 (List.mem_of_getElem? (i := 96) rfl)) rfl, gw_of (in_1 (List.mem_of_getElem? (i := 1) rfl)) rfl, gw_of (in_5 (List.mem_of_getElem? (i := 97) rfl)) rfl, ⟨by decide +kernel, by decide +kernel, by decide +kernel, by decide +kernel, by decide +kernel⟩⟩
set_option maxRecDepth 100000 in
theorem yv_X10_season : Cond.instanceMethod yX10_season ∈ gw ∧ Cond.selects yX10_season.cls yX10_season yX10_season ∈ gw ∧ Cond.initialized yX10_season.cls ∈ gw ∧ cdM m_X10_season ∈ gw ∧ (plainName yX10_season.cls = true ∧ yX10_season.cls ≠ "java/lang/invoke/MethodHandle" ∧ yX10_season.cls ≠ "java/lang/invoke/VarHandle" ∧ (parseMethodDescriptor yX10_season.desc).map (fun d => d.parameters.length) = some 1 ∧ m_X10_season.2.2.1 ≤ 45) := ⟨gw_of (in_5 (List.mem_of_getElem? (i := 99) rfl)) rfl, gw_of (in_5 (List.mem_of_getElem? (i := 100) rfl)) rfl, gw_of (in_1 (List.mem_of_getElem? (i := 1) rfl)) rfl, gw_of (in_5 (List.mem_of_getElem? (i := 101) rfl)) rfl, ⟨by decide +kernel, by decide +kernel, by decide +kernel, by decide +kernel, by decide +kernel⟩⟩
set_option maxRecDepth 100000 in
theorem yv_X10_law : Cond.instanceMethod yX10_law ∈ gw ∧ Cond.selects yX10_law.cls yX10_law yX10_law ∈ gw ∧ Cond.initialized yX10_law.cls ∈ gw ∧ cdM m_X10_law ∈ gw ∧ (plainName yX10_law.cls = true ∧ yX10_law.cls ≠ "java/lang/invoke/MethodHandle" ∧ yX10_law.cls ≠ "java/lang/invoke/VarHandle" ∧ (parseMethodDescriptor yX10_law.desc).map (fun d => d.parameters.length) = some 1 ∧ m_X10_law.2.2.1 ≤ 45) := ⟨gw_of (in_5 (List.mem_of_getElem? (i := 162) rfl)) rfl, gw_of (in_5 (List.mem_of_getElem? (i := 163) rfl)) rfl, gw_of (in_1 (List.mem_of_getElem? (i := 1) rfl)) rfl, gw_of (in_5 (List.mem_of_getElem? (i := 164) rfl)) rfl, ⟨by decide +kernel, by decide +kernel, by decide +kernel, by decide +kernel, by decide +kernel⟩⟩
set_option maxRecDepth 100000 in
theorem yv_X10_free : Cond.instanceMethod yX10_free ∈ gw ∧ Cond.selects yX10_free.cls yX10_free yX10_free ∈ gw ∧ Cond.initialized yX10_free.cls ∈ gw ∧ cdM m_X10_free ∈ gw ∧ (plainName yX10_free.cls = true ∧ yX10_free.cls ≠ "java/lang/invoke/MethodHandle" ∧ yX10_free.cls ≠ "java/lang/invoke/VarHandle" ∧ (parseMethodDescriptor yX10_free.desc).map (fun d => d.parameters.length) = some 0 ∧ m_X10_free.2.2.1 ≤ 45) := ⟨gw_of (in_5 (List.mem_of_getElem? (i := 171) rfl)) rfl, gw_of (in_5 (List.mem_of_getElem? (i := 172) rfl)) rfl, gw_of (in_1 (List.mem_of_getElem? (i := 1) rfl)) rfl, gw_of (in_5 (List.mem_of_getElem? (i := 173) rfl)) rfl, ⟨by decide +kernel, by decide +kernel, by decide +kernel, by decide +kernel, by decide +kernel⟩⟩
set_option maxRecDepth 100000 in
theorem yv_X10_sits : Cond.instanceMethod yX10_sits ∈ gw ∧ Cond.selects yX10_sits.cls yX10_sits yX10_sits ∈ gw ∧ Cond.initialized yX10_sits.cls ∈ gw ∧ cdM m_X10_sits ∈ gw ∧ (plainName yX10_sits.cls = true ∧ yX10_sits.cls ≠ "java/lang/invoke/MethodHandle" ∧ yX10_sits.cls ≠ "java/lang/invoke/VarHandle" ∧ (parseMethodDescriptor yX10_sits.desc).map (fun d => d.parameters.length) = some 2 ∧ m_X10_sits.2.2.1 ≤ 45) := ⟨gw_of (in_5 (List.mem_of_getElem? (i := 176) rfl)) rfl, gw_of (in_5 (List.mem_of_getElem? (i := 177) rfl)) rfl, gw_of (in_1 (List.mem_of_getElem? (i := 1) rfl)) rfl, gw_of (in_5 (List.mem_of_getElem? (i := 178) rfl)) rfl, ⟨by decide +kernel, by decide +kernel, by decide +kernel, by decide +kernel, by decide +kernel⟩⟩
set_option maxRecDepth 100000 in
theorem yv_X10_knew : Cond.instanceMethod yX10_knew ∈ gw ∧ Cond.selects yX10_knew.cls yX10_knew yX10_knew ∈ gw ∧ Cond.initialized yX10_knew.cls ∈ gw ∧ cdM m_X10_knew ∈ gw ∧ (plainName yX10_knew.cls = true ∧ yX10_knew.cls ≠ "java/lang/invoke/MethodHandle" ∧ yX10_knew.cls ≠ "java/lang/invoke/VarHandle" ∧ (parseMethodDescriptor yX10_knew.desc).map (fun d => d.parameters.length) = some 2 ∧ m_X10_knew.2.2.1 ≤ 45) := ⟨gw_of (in_5 (List.mem_of_getElem? (i := 184) rfl)) rfl, gw_of (in_5 (List.mem_of_getElem? (i := 185) rfl)) rfl, gw_of (in_1 (List.mem_of_getElem? (i := 1) rfl)) rfl, gw_of (in_5 (List.mem_of_getElem? (i := 186) rfl)) rfl, ⟨by decide +kernel, by decide +kernel, by decide +kernel, by decide +kernel, by decide +kernel⟩⟩
set_option maxRecDepth 100000 in
theorem yv_X10_kin : Cond.instanceMethod yX10_kin ∈ gw ∧ Cond.selects yX10_kin.cls yX10_kin yX10_kin ∈ gw ∧ Cond.initialized yX10_kin.cls ∈ gw ∧ cdM m_X10_kin ∈ gw ∧ (plainName yX10_kin.cls = true ∧ yX10_kin.cls ≠ "java/lang/invoke/MethodHandle" ∧ yX10_kin.cls ≠ "java/lang/invoke/VarHandle" ∧ (parseMethodDescriptor yX10_kin.desc).map (fun d => d.parameters.length) = some 3 ∧ m_X10_kin.2.2.1 ≤ 45) := ⟨gw_of (in_5 (List.mem_of_getElem? (i := 188) rfl)) rfl, gw_of (in_5 (List.mem_of_getElem? (i := 189) rfl)) rfl, gw_of (in_1 (List.mem_of_getElem? (i := 1) rfl)) rfl, gw_of (in_5 (List.mem_of_getElem? (i := 190) rfl)) rfl, ⟨by decide +kernel, by decide +kernel, by decide +kernel, by decide +kernel, by decide +kernel⟩⟩
set_option maxRecDepth 100000 in
theorem yv_X10_untell : Cond.instanceMethod yX10_untell ∈ gw ∧ Cond.selects yX10_untell.cls yX10_untell yX10_untell ∈ gw ∧ Cond.initialized yX10_untell.cls ∈ gw ∧ cdM m_X10_untell ∈ gw ∧ (plainName yX10_untell.cls = true ∧ yX10_untell.cls ≠ "java/lang/invoke/MethodHandle" ∧ yX10_untell.cls ≠ "java/lang/invoke/VarHandle" ∧ (parseMethodDescriptor yX10_untell.desc).map (fun d => d.parameters.length) = some 1 ∧ m_X10_untell.2.2.1 ≤ 45) := ⟨gw_of (in_5 (List.mem_of_getElem? (i := 192) rfl)) rfl, gw_of (in_5 (List.mem_of_getElem? (i := 193) rfl)) rfl, gw_of (in_1 (List.mem_of_getElem? (i := 1) rfl)) rfl, gw_of (in_5 (List.mem_of_getElem? (i := 194) rfl)) rfl, ⟨by decide +kernel, by decide +kernel, by decide +kernel, by decide +kernel, by decide +kernel⟩⟩
set_option maxRecDepth 100000 in
theorem yv_X10_later : Cond.instanceMethod yX10_later ∈ gw ∧ Cond.selects yX10_later.cls yX10_later yX10_later ∈ gw ∧ Cond.initialized yX10_later.cls ∈ gw ∧ cdM m_X10_later ∈ gw ∧ (plainName yX10_later.cls = true ∧ yX10_later.cls ≠ "java/lang/invoke/MethodHandle" ∧ yX10_later.cls ≠ "java/lang/invoke/VarHandle" ∧ (parseMethodDescriptor yX10_later.desc).map (fun d => d.parameters.length) = some 1 ∧ m_X10_later.2.2.1 ≤ 45) := ⟨gw_of (in_5 (List.mem_of_getElem? (i := 200) rfl)) rfl, gw_of (in_5 (List.mem_of_getElem? (i := 201) rfl)) rfl, gw_of (in_1 (List.mem_of_getElem? (i := 1) rfl)) rfl, gw_of (in_5 (List.mem_of_getElem? (i := 202) rfl)) rfl, ⟨by decide +kernel, by decide +kernel, by decide +kernel, by decide +kernel, by decide +kernel⟩⟩
set_option maxRecDepth 100000 in
theorem yv_X10_meant : Cond.instanceMethod yX10_meant ∈ gw ∧ Cond.selects yX10_meant.cls yX10_meant yX10_meant ∈ gw ∧ Cond.initialized yX10_meant.cls ∈ gw ∧ cdM m_X10_meant ∈ gw ∧ (plainName yX10_meant.cls = true ∧ yX10_meant.cls ≠ "java/lang/invoke/MethodHandle" ∧ yX10_meant.cls ≠ "java/lang/invoke/VarHandle" ∧ (parseMethodDescriptor yX10_meant.desc).map (fun d => d.parameters.length) = some 1 ∧ m_X10_meant.2.2.1 ≤ 45) := ⟨gw_of (in_5 (List.mem_of_getElem? (i := 209) rfl)) rfl, gw_of (in_5 (List.mem_of_getElem? (i := 210) rfl)) rfl, gw_of (in_1 (List.mem_of_getElem? (i := 1) rfl)) rfl, gw_of (in_5 (List.mem_of_getElem? (i := 211) rfl)) rfl, ⟨by decide +kernel, by decide +kernel, by decide +kernel, by decide +kernel, by decide +kernel⟩⟩
set_option maxRecDepth 100000 in
theorem yv_X10_ask : Cond.instanceMethod yX10_ask ∈ gw ∧ Cond.selects yX10_ask.cls yX10_ask yX10_ask ∈ gw ∧ Cond.initialized yX10_ask.cls ∈ gw ∧ cdM m_X10_ask ∈ gw ∧ (plainName yX10_ask.cls = true ∧ yX10_ask.cls ≠ "java/lang/invoke/MethodHandle" ∧ yX10_ask.cls ≠ "java/lang/invoke/VarHandle" ∧ (parseMethodDescriptor yX10_ask.desc).map (fun d => d.parameters.length) = some 2 ∧ m_X10_ask.2.2.1 ≤ 45) := ⟨gw_of (in_5 (List.mem_of_getElem? (i := 231) rfl)) rfl, gw_of (in_5 (List.mem_of_getElem? (i := 232) rfl)) rfl, gw_of (in_1 (List.mem_of_getElem? (i := 1) rfl)) rfl, gw_of (in_5 (List.mem_of_getElem? (i := 233) rfl)) rfl, ⟨by decide +kernel, by decide +kernel, by decide +kernel, by decide +kernel, by decide +kernel⟩⟩
set_option maxRecDepth 100000 in
theorem yv_X10_image : Cond.instanceMethod yX10_image ∈ gw ∧ Cond.selects yX10_image.cls yX10_image yX10_image ∈ gw ∧ Cond.initialized yX10_image.cls ∈ gw ∧ cdM m_X10_image ∈ gw ∧ (plainName yX10_image.cls = true ∧ yX10_image.cls ≠ "java/lang/invoke/MethodHandle" ∧ yX10_image.cls ≠ "java/lang/invoke/VarHandle" ∧ (parseMethodDescriptor yX10_image.desc).map (fun d => d.parameters.length) = some 1 ∧ m_X10_image.2.2.1 ≤ 45) := ⟨gw_of (in_6 (List.mem_of_getElem? (i := 0) rfl)) rfl, gw_of (in_6 (List.mem_of_getElem? (i := 1) rfl)) rfl, gw_of (in_1 (List.mem_of_getElem? (i := 1) rfl)) rfl, gw_of (in_6 (List.mem_of_getElem? (i := 2) rfl)) rfl, ⟨by decide +kernel, by decide +kernel, by decide +kernel, by decide +kernel, by decide +kernel⟩⟩
set_option maxRecDepth 100000 in
theorem yv_X10_back : Cond.instanceMethod yX10_back ∈ gw ∧ Cond.selects yX10_back.cls yX10_back yX10_back ∈ gw ∧ Cond.initialized yX10_back.cls ∈ gw ∧ cdM m_X10_back ∈ gw ∧ (plainName yX10_back.cls = true ∧ yX10_back.cls ≠ "java/lang/invoke/MethodHandle" ∧ yX10_back.cls ≠ "java/lang/invoke/VarHandle" ∧ (parseMethodDescriptor yX10_back.desc).map (fun d => d.parameters.length) = some 1 ∧ m_X10_back.2.2.1 ≤ 45) := ⟨gw_of (in_6 (List.mem_of_getElem? (i := 4) rfl)) rfl, gw_of (in_6 (List.mem_of_getElem? (i := 5) rfl)) rfl, gw_of (in_1 (List.mem_of_getElem? (i := 1) rfl)) rfl, gw_of (in_6 (List.mem_of_getElem? (i := 6) rfl)) rfl, ⟨by decide +kernel, by decide +kernel, by decide +kernel, by decide +kernel, by decide +kernel⟩⟩
set_option maxRecDepth 100000 in
theorem yv_X10_about : Cond.instanceMethod yX10_about ∈ gw ∧ Cond.selects yX10_about.cls yX10_about yX10_about ∈ gw ∧ Cond.initialized yX10_about.cls ∈ gw ∧ cdM m_X10_about ∈ gw ∧ (plainName yX10_about.cls = true ∧ yX10_about.cls ≠ "java/lang/invoke/MethodHandle" ∧ yX10_about.cls ≠ "java/lang/invoke/VarHandle" ∧ (parseMethodDescriptor yX10_about.desc).map (fun d => d.parameters.length) = some 1 ∧ m_X10_about.2.2.1 ≤ 45) := ⟨gw_of (in_6 (List.mem_of_getElem? (i := 8) rfl)) rfl, gw_of (in_6 (List.mem_of_getElem? (i := 9) rfl)) rfl, gw_of (in_1 (List.mem_of_getElem? (i := 1) rfl)) rfl, gw_of (in_6 (List.mem_of_getElem? (i := 10) rfl)) rfl, ⟨by decide +kernel, by decide +kernel, by decide +kernel, by decide +kernel, by decide +kernel⟩⟩
set_option maxRecDepth 100000 in
theorem yv_X10_settleIn : Cond.instanceMethod yX10_settleIn ∈ gw ∧ Cond.selects yX10_settleIn.cls yX10_settleIn yX10_settleIn ∈ gw ∧ Cond.initialized yX10_settleIn.cls ∈ gw ∧ cdM m_X10_settleIn ∈ gw ∧ (plainName yX10_settleIn.cls = true ∧ yX10_settleIn.cls ≠ "java/lang/invoke/MethodHandle" ∧ yX10_settleIn.cls ≠ "java/lang/invoke/VarHandle" ∧ (parseMethodDescriptor yX10_settleIn.desc).map (fun d => d.parameters.length) = some 0 ∧ m_X10_settleIn.2.2.1 ≤ 45) := ⟨gw_of (in_2 (List.mem_of_getElem? (i := 163) rfl)) rfl, gw_sel (List.mem_of_getElem? (i := 0) rfl) rfl, gw_of (in_1 (List.mem_of_getElem? (i := 1) rfl)) rfl, gw_of (in_2 (List.mem_of_getElem? (i := 164) rfl)) rfl, ⟨by decide +kernel, by decide +kernel, by decide +kernel, by decide +kernel, by decide +kernel⟩⟩
set_option maxRecDepth 100000 in
theorem yv_X10_isOpen : Cond.instanceMethod yX10_isOpen ∈ gw ∧ Cond.selects yX10_isOpen.cls yX10_isOpen yX10_isOpen ∈ gw ∧ Cond.initialized yX10_isOpen.cls ∈ gw ∧ cdM m_X10_isOpen ∈ gw ∧ (plainName yX10_isOpen.cls = true ∧ yX10_isOpen.cls ≠ "java/lang/invoke/MethodHandle" ∧ yX10_isOpen.cls ≠ "java/lang/invoke/VarHandle" ∧ (parseMethodDescriptor yX10_isOpen.desc).map (fun d => d.parameters.length) = some 1 ∧ m_X10_isOpen.2.2.1 ≤ 45) := ⟨gw_of (in_4 (List.mem_of_getElem? (i := 229) rfl)) rfl, gw_sel (List.mem_of_getElem? (i := 37) rfl) rfl, gw_of (in_1 (List.mem_of_getElem? (i := 1) rfl)) rfl, gw_of (in_4 (List.mem_of_getElem? (i := 230) rfl)) rfl, ⟨by decide +kernel, by decide +kernel, by decide +kernel, by decide +kernel, by decide +kernel⟩⟩
set_option maxRecDepth 100000 in
theorem yv_X10_openWithin : Cond.instanceMethod yX10_openWithin ∈ gw ∧ Cond.selects yX10_openWithin.cls yX10_openWithin yX10_openWithin ∈ gw ∧ Cond.initialized yX10_openWithin.cls ∈ gw ∧ cdM m_X10_openWithin ∈ gw ∧ (plainName yX10_openWithin.cls = true ∧ yX10_openWithin.cls ≠ "java/lang/invoke/MethodHandle" ∧ yX10_openWithin.cls ≠ "java/lang/invoke/VarHandle" ∧ (parseMethodDescriptor yX10_openWithin.desc).map (fun d => d.parameters.length) = some 1 ∧ m_X10_openWithin.2.2.1 ≤ 45) := ⟨gw_of (in_5 (List.mem_of_getElem? (i := 167) rfl)) rfl, gw_sel (List.mem_of_getElem? (i := 46) rfl) rfl, gw_of (in_1 (List.mem_of_getElem? (i := 1) rfl)) rfl, gw_of (in_5 (List.mem_of_getElem? (i := 168) rfl)) rfl, ⟨by decide +kernel, by decide +kernel, by decide +kernel, by decide +kernel, by decide +kernel⟩⟩
set_option maxRecDepth 100000 in
theorem ys_X10_greatestCommon : Cond.static yX10_greatestCommon ∈ gw ∧ Cond.initialized yX10_greatestCommon.cls ∈ gw ∧ cdM m_X10_greatestCommon ∈ gw ∧ (plainName yX10_greatestCommon.cls = true ∧ yX10_greatestCommon.cls ≠ "java/lang/invoke/MethodHandle" ∧ yX10_greatestCommon.cls ≠ "java/lang/invoke/VarHandle" ∧ (parseMethodDescriptor yX10_greatestCommon.desc).map (fun d => d.parameters.length) = some 2 ∧ m_X10_greatestCommon.2.2.1 ≤ 45) := ⟨gw_of (in_5 (List.mem_of_getElem? (i := 71) rfl)) rfl, gw_of (in_1 (List.mem_of_getElem? (i := 1) rfl)) rfl, gw_of (in_5 (List.mem_of_getElem? (i := 72) rfl)) rfl, ⟨by decide +kernel, by decide +kernel, by decide +kernel, by decide +kernel, by decide +kernel⟩⟩
set_option maxRecDepth 100000 in
theorem yv_X11_feed : Cond.instanceMethod yX11_feed ∈ gw ∧ Cond.selects yX11_feed.cls yX11_feed yX11_feed ∈ gw ∧ Cond.initialized yX11_feed.cls ∈ gw ∧ cdM m_X11_feed ∈ gw ∧ (plainName yX11_feed.cls = true ∧ yX11_feed.cls ≠ "java/lang/invoke/MethodHandle" ∧ yX11_feed.cls ≠ "java/lang/invoke/VarHandle" ∧ (parseMethodDescriptor yX11_feed.desc).map (fun d => d.parameters.length) = some 5 ∧ m_X11_feed.2.2.1 ≤ 45) := ⟨gw_of (in_7 (List.mem_of_getElem? (i := 31) rfl)) rfl, gw_of (in_7 (List.mem_of_getElem? (i := 32) rfl)) rfl, gw_of (in_1 (List.mem_of_getElem? (i := 18) rfl)) rfl, gw_of (in_7 (List.mem_of_getElem? (i := 33) rfl)) rfl, ⟨by decide +kernel, by decide +kernel, by decide +kernel, by decide +kernel, by decide +kernel⟩⟩
set_option maxRecDepth 100000 in
theorem yv_X11_four : Cond.instanceMethod yX11_four ∈ gw ∧ Cond.selects yX11_four.cls yX11_four yX11_four ∈ gw ∧ Cond.initialized yX11_four.cls ∈ gw ∧ cdM m_X11_four ∈ gw ∧ (plainName yX11_four.cls = true ∧ yX11_four.cls ≠ "java/lang/invoke/MethodHandle" ∧ yX11_four.cls ≠ "java/lang/invoke/VarHandle" ∧ (parseMethodDescriptor yX11_four.desc).map (fun d => d.parameters.length) = some 1 ∧ m_X11_four.2.2.1 ≤ 45) := ⟨gw_of (in_7 (List.mem_of_getElem? (i := 36) rfl)) rfl, gw_sel (List.mem_of_getElem? (i := 50) rfl) rfl, gw_of (in_1 (List.mem_of_getElem? (i := 18) rfl)) rfl, gw_of (in_7 (List.mem_of_getElem? (i := 37) rfl)) rfl, ⟨by decide +kernel, by decide +kernel, by decide +kernel, by decide +kernel, by decide +kernel⟩⟩
set_option maxRecDepth 100000 in
theorem yv_X11_end : Cond.instanceMethod yX11_end ∈ gw ∧ Cond.selects yX11_end.cls yX11_end yX11_end ∈ gw ∧ Cond.initialized yX11_end.cls ∈ gw ∧ cdM m_X11_end ∈ gw ∧ (plainName yX11_end.cls = true ∧ yX11_end.cls ≠ "java/lang/invoke/MethodHandle" ∧ yX11_end.cls ≠ "java/lang/invoke/VarHandle" ∧ (parseMethodDescriptor yX11_end.desc).map (fun d => d.parameters.length) = some 1 ∧ m_X11_end.2.2.1 ≤ 45) := ⟨gw_of (in_7 (List.mem_of_getElem? (i := 39) rfl)) rfl, gw_of (in_7 (List.mem_of_getElem? (i := 40) rfl)) rfl, gw_of (in_1 (List.mem_of_getElem? (i := 18) rfl)) rfl, gw_of (in_7 (List.mem_of_getElem? (i := 41) rfl)) rfl, ⟨by decide +kernel, by decide +kernel, by decide +kernel, by decide +kernel, by decide +kernel⟩⟩
set_option maxRecDepth 100000 in
theorem yv_X11_here : Cond.instanceMethod yX11_here ∈ gw ∧ Cond.selects yX11_here.cls yX11_here yX11_here ∈ gw ∧ Cond.initialized yX11_here.cls ∈ gw ∧ cdM m_X11_here ∈ gw ∧ (plainName yX11_here.cls = true ∧ yX11_here.cls ≠ "java/lang/invoke/MethodHandle" ∧ yX11_here.cls ≠ "java/lang/invoke/VarHandle" ∧ (parseMethodDescriptor yX11_here.desc).map (fun d => d.parameters.length) = some 1 ∧ m_X11_here.2.2.1 ≤ 45) := ⟨gw_of (in_7 (List.mem_of_getElem? (i := 56) rfl)) rfl, gw_sel (List.mem_of_getElem? (i := 53) rfl) rfl, gw_of (in_1 (List.mem_of_getElem? (i := 18) rfl)) rfl, gw_of (in_7 (List.mem_of_getElem? (i := 57) rfl)) rfl, ⟨by decide +kernel, by decide +kernel, by decide +kernel, by decide +kernel, by decide +kernel⟩⟩
set_option maxRecDepth 100000 in
theorem ys_X11_isLetter : Cond.static yX11_isLetter ∈ gw ∧ Cond.initialized yX11_isLetter.cls ∈ gw ∧ cdM m_X11_isLetter ∈ gw ∧ (plainName yX11_isLetter.cls = true ∧ yX11_isLetter.cls ≠ "java/lang/invoke/MethodHandle" ∧ yX11_isLetter.cls ≠ "java/lang/invoke/VarHandle" ∧ (parseMethodDescriptor yX11_isLetter.desc).map (fun d => d.parameters.length) = some 1 ∧ m_X11_isLetter.2.2.1 ≤ 45) := ⟨gw_of (in_7 (List.mem_of_getElem? (i := 59) rfl)) rfl, gw_of (in_1 (List.mem_of_getElem? (i := 18) rfl)) rfl, gw_of (in_7 (List.mem_of_getElem? (i := 60) rfl)) rfl, ⟨by decide +kernel, by decide +kernel, by decide +kernel, by decide +kernel, by decide +kernel⟩⟩
set_option maxRecDepth 100000 in
theorem ys_X11_isDigit : Cond.static yX11_isDigit ∈ gw ∧ Cond.initialized yX11_isDigit.cls ∈ gw ∧ cdM m_X11_isDigit ∈ gw ∧ (plainName yX11_isDigit.cls = true ∧ yX11_isDigit.cls ≠ "java/lang/invoke/MethodHandle" ∧ yX11_isDigit.cls ≠ "java/lang/invoke/VarHandle" ∧ (parseMethodDescriptor yX11_isDigit.desc).map (fun d => d.parameters.length) = some 1 ∧ m_X11_isDigit.2.2.1 ≤ 45) := ⟨gw_of (in_7 (List.mem_of_getElem? (i := 62) rfl)) rfl, gw_of (in_1 (List.mem_of_getElem? (i := 18) rfl)) rfl, gw_of (in_7 (List.mem_of_getElem? (i := 63) rfl)) rfl, ⟨by decide +kernel, by decide +kernel, by decide +kernel, by decide +kernel, by decide +kernel⟩⟩
set_option maxRecDepth 100000 in
theorem ys_X11_isSign : Cond.static yX11_isSign ∈ gw ∧ Cond.initialized yX11_isSign.cls ∈ gw ∧ cdM m_X11_isSign ∈ gw ∧ (plainName yX11_isSign.cls = true ∧ yX11_isSign.cls ≠ "java/lang/invoke/MethodHandle" ∧ yX11_isSign.cls ≠ "java/lang/invoke/VarHandle" ∧ (parseMethodDescriptor yX11_isSign.desc).map (fun d => d.parameters.length) = some 1 ∧ m_X11_isSign.2.2.1 ≤ 45) := ⟨gw_of (in_7 (List.mem_of_getElem? (i := 65) rfl)) rfl, gw_of (in_1 (List.mem_of_getElem? (i := 18) rfl)) rfl, gw_of (in_7 (List.mem_of_getElem? (i := 66) rfl)) rfl, ⟨by decide +kernel, by decide +kernel, by decide +kernel, by decide +kernel, by decide +kernel⟩⟩
set_option maxRecDepth 100000 in
theorem yv_X11_token : Cond.instanceMethod yX11_token ∈ gw ∧ Cond.selects yX11_token.cls yX11_token yX11_token ∈ gw ∧ Cond.initialized yX11_token.cls ∈ gw ∧ cdM m_X11_token ∈ gw ∧ (plainName yX11_token.cls = true ∧ yX11_token.cls ≠ "java/lang/invoke/MethodHandle" ∧ yX11_token.cls ≠ "java/lang/invoke/VarHandle" ∧ (parseMethodDescriptor yX11_token.desc).map (fun d => d.parameters.length) = some 0 ∧ m_X11_token.2.2.1 ≤ 45) := ⟨gw_of (in_7 (List.mem_of_getElem? (i := 52) rfl)) rfl, gw_sel (List.mem_of_getElem? (i := 52) rfl) rfl, gw_of (in_1 (List.mem_of_getElem? (i := 18) rfl)) rfl, gw_of (in_7 (List.mem_of_getElem? (i := 53) rfl)) rfl, ⟨by decide +kernel, by decide +kernel, by decide +kernel, by decide +kernel, by decide +kernel⟩⟩
set_option maxRecDepth 100000 in
theorem yv_X11_wrong : Cond.instanceMethod yX11_wrong ∈ gw ∧ Cond.selects yX11_wrong.cls yX11_wrong yX11_wrong ∈ gw ∧ Cond.initialized yX11_wrong.cls ∈ gw ∧ cdM m_X11_wrong ∈ gw ∧ (plainName yX11_wrong.cls = true ∧ yX11_wrong.cls ≠ "java/lang/invoke/MethodHandle" ∧ yX11_wrong.cls ≠ "java/lang/invoke/VarHandle" ∧ (parseMethodDescriptor yX11_wrong.desc).map (fun d => d.parameters.length) = some 1 ∧ m_X11_wrong.2.2.1 ≤ 45) := ⟨gw_of (in_7 (List.mem_of_getElem? (i := 114) rfl)) rfl, gw_sel (List.mem_of_getElem? (i := 60) rfl) rfl, gw_of (in_1 (List.mem_of_getElem? (i := 18) rfl)) rfl, gw_of (in_7 (List.mem_of_getElem? (i := 115) rfl)) rfl, ⟨by decide +kernel, by decide +kernel, by decide +kernel, by decide +kernel, by decide +kernel⟩⟩
set_option maxRecDepth 100000 in
theorem yv_X11_isWord : Cond.instanceMethod yX11_isWord ∈ gw ∧ Cond.selects yX11_isWord.cls yX11_isWord yX11_isWord ∈ gw ∧ Cond.initialized yX11_isWord.cls ∈ gw ∧ cdM m_X11_isWord ∈ gw ∧ (plainName yX11_isWord.cls = true ∧ yX11_isWord.cls ≠ "java/lang/invoke/MethodHandle" ∧ yX11_isWord.cls ≠ "java/lang/invoke/VarHandle" ∧ (parseMethodDescriptor yX11_isWord.desc).map (fun d => d.parameters.length) = some 1 ∧ m_X11_isWord.2.2.1 ≤ 45) := ⟨gw_of (in_7 (List.mem_of_getElem? (i := 74) rfl)) rfl, gw_sel (List.mem_of_getElem? (i := 55) rfl) rfl, gw_of (in_1 (List.mem_of_getElem? (i := 18) rfl)) rfl, gw_of (in_7 (List.mem_of_getElem? (i := 75) rfl)) rfl, ⟨by decide +kernel, by decide +kernel, by decide +kernel, by decide +kernel, by decide +kernel⟩⟩
set_option maxRecDepth 100000 in
theorem yv_X11_isOwn : Cond.instanceMethod yX11_isOwn ∈ gw ∧ Cond.selects yX11_isOwn.cls yX11_isOwn yX11_isOwn ∈ gw ∧ Cond.initialized yX11_isOwn.cls ∈ gw ∧ cdM m_X11_isOwn ∈ gw ∧ (plainName yX11_isOwn.cls = true ∧ yX11_isOwn.cls ≠ "java/lang/invoke/MethodHandle" ∧ yX11_isOwn.cls ≠ "java/lang/invoke/VarHandle" ∧ (parseMethodDescriptor yX11_isOwn.desc).map (fun d => d.parameters.length) = some 0 ∧ m_X11_isOwn.2.2.1 ≤ 45) := ⟨gw_of (in_7 (List.mem_of_getElem? (i := 90) rfl)) rfl, gw_sel (List.mem_of_getElem? (i := 59) rfl) rfl, gw_of (in_1 (List.mem_of_getElem? (i := 18) rfl)) rfl, gw_of (in_7 (List.mem_of_getElem? (i := 91) rfl)) rfl, ⟨by decide +kernel, by decide +kernel, by decide +kernel, by decide +kernel, by decide +kernel⟩⟩
set_option maxRecDepth 100000 in
theorem yv_X11_isName : Cond.instanceMethod yX11_isName ∈ gw ∧ Cond.selects yX11_isName.cls yX11_isName yX11_isName ∈ gw ∧ Cond.initialized yX11_isName.cls ∈ gw ∧ cdM m_X11_isName ∈ gw ∧ (plainName yX11_isName.cls = true ∧ yX11_isName.cls ≠ "java/lang/invoke/MethodHandle" ∧ yX11_isName.cls ≠ "java/lang/invoke/VarHandle" ∧ (parseMethodDescriptor yX11_isName.desc).map (fun d => d.parameters.length) = some 0 ∧ m_X11_isName.2.2.1 ≤ 45) := ⟨gw_of (in_7 (List.mem_of_getElem? (i := 86) rfl)) rfl, gw_sel (List.mem_of_getElem? (i := 58) rfl) rfl, gw_of (in_1 (List.mem_of_getElem? (i := 18) rfl)) rfl, gw_of (in_7 (List.mem_of_getElem? (i := 87) rfl)) rfl, ⟨by decide +kernel, by decide +kernel, by decide +kernel, by decide +kernel, by decide +kernel⟩⟩
set_option maxRecDepth 100000 in
theorem yv_X11_want : Cond.instanceMethod yX11_want ∈ gw ∧ Cond.selects yX11_want.cls yX11_want yX11_want ∈ gw ∧ Cond.initialized yX11_want.cls ∈ gw ∧ cdM m_X11_want ∈ gw ∧ (plainName yX11_want.cls = true ∧ yX11_want.cls ≠ "java/lang/invoke/MethodHandle" ∧ yX11_want.cls ≠ "java/lang/invoke/VarHandle" ∧ (parseMethodDescriptor yX11_want.desc).map (fun d => d.parameters.length) = some 1 ∧ m_X11_want.2.2.1 ≤ 45) := ⟨gw_of (in_7 (List.mem_of_getElem? (i := 126) rfl)) rfl, gw_sel (List.mem_of_getElem? (i := 63) rfl) rfl, gw_of (in_1 (List.mem_of_getElem? (i := 18) rfl)) rfl, gw_of (in_7 (List.mem_of_getElem? (i := 127) rfl)) rfl, ⟨by decide +kernel, by decide +kernel, by decide +kernel, by decide +kernel, by decide +kernel⟩⟩
set_option maxRecDepth 100000 in
theorem yv_X11_toldNumber : Cond.instanceMethod yX11_toldNumber ∈ gw ∧ Cond.selects yX11_toldNumber.cls yX11_toldNumber yX11_toldNumber ∈ gw ∧ Cond.initialized yX11_toldNumber.cls ∈ gw ∧ cdM m_X11_toldNumber ∈ gw ∧ (plainName yX11_toldNumber.cls = true ∧ yX11_toldNumber.cls ≠ "java/lang/invoke/MethodHandle" ∧ yX11_toldNumber.cls ≠ "java/lang/invoke/VarHandle" ∧ (parseMethodDescriptor yX11_toldNumber.desc).map (fun d => d.parameters.length) = some 2 ∧ m_X11_toldNumber.2.2.1 ≤ 45) := ⟨gw_of (in_7 (List.mem_of_getElem? (i := 154) rfl)) rfl, gw_sel (List.mem_of_getElem? (i := 70) rfl) rfl, gw_of (in_1 (List.mem_of_getElem? (i := 18) rfl)) rfl, gw_of (in_7 (List.mem_of_getElem? (i := 155) rfl)) rfl, ⟨by decide +kernel, by decide +kernel, by decide +kernel, by decide +kernel, by decide +kernel⟩⟩
set_option maxRecDepth 100000 in
theorem yv_X11_told : Cond.instanceMethod yX11_told ∈ gw ∧ Cond.selects yX11_told.cls yX11_told yX11_told ∈ gw ∧ Cond.initialized yX11_told.cls ∈ gw ∧ cdM m_X11_told ∈ gw ∧ (plainName yX11_told.cls = true ∧ yX11_told.cls ≠ "java/lang/invoke/MethodHandle" ∧ yX11_told.cls ≠ "java/lang/invoke/VarHandle" ∧ (parseMethodDescriptor yX11_told.desc).map (fun d => d.parameters.length) = some 3 ∧ m_X11_told.2.2.1 ≤ 45) := ⟨gw_of (in_7 (List.mem_of_getElem? (i := 150) rfl)) rfl, gw_sel (List.mem_of_getElem? (i := 69) rfl) rfl, gw_of (in_1 (List.mem_of_getElem? (i := 18) rfl)) rfl, gw_of (in_7 (List.mem_of_getElem? (i := 151) rfl)) rfl, ⟨by decide +kernel, by decide +kernel, by decide +kernel, by decide +kernel, by decide +kernel⟩⟩
set_option maxRecDepth 100000 in
theorem yv_X11_takes : Cond.instanceMethod yX11_takes ∈ gw ∧ Cond.selects yX11_takes.cls yX11_takes yX11_takes ∈ gw ∧ Cond.initialized yX11_takes.cls ∈ gw ∧ cdM m_X11_takes ∈ gw ∧ (plainName yX11_takes.cls = true ∧ yX11_takes.cls ≠ "java/lang/invoke/MethodHandle" ∧ yX11_takes.cls ≠ "java/lang/invoke/VarHandle" ∧ (parseMethodDescriptor yX11_takes.desc).map (fun d => d.parameters.length) = some 1 ∧ m_X11_takes.2.2.1 ≤ 45) := ⟨gw_of (in_7 (List.mem_of_getElem? (i := 142) rfl)) rfl, gw_sel (List.mem_of_getElem? (i := 67) rfl) rfl, gw_of (in_1 (List.mem_of_getElem? (i := 18) rfl)) rfl, gw_of (in_7 (List.mem_of_getElem? (i := 143) rfl)) rfl, ⟨by decide +kernel, by decide +kernel, by decide +kernel, by decide +kernel, by decide +kernel⟩⟩
set_option maxRecDepth 100000 in
theorem yv_X11_find : Cond.instanceMethod yX11_find ∈ gw ∧ Cond.selects yX11_find.cls yX11_find yX11_find ∈ gw ∧ Cond.initialized yX11_find.cls ∈ gw ∧ cdM m_X11_find ∈ gw ∧ (plainName yX11_find.cls = true ∧ yX11_find.cls ≠ "java/lang/invoke/MethodHandle" ∧ yX11_find.cls ≠ "java/lang/invoke/VarHandle" ∧ (parseMethodDescriptor yX11_find.desc).map (fun d => d.parameters.length) = some 2 ∧ m_X11_find.2.2.1 ≤ 45) := ⟨gw_of (in_7 (List.mem_of_getElem? (i := 118) rfl)) rfl, gw_sel (List.mem_of_getElem? (i := 61) rfl) rfl, gw_of (in_1 (List.mem_of_getElem? (i := 18) rfl)) rfl, gw_of (in_7 (List.mem_of_getElem? (i := 119) rfl)) rfl, ⟨by decide +kernel, by decide +kernel, by decide +kernel, by decide +kernel, by decide +kernel⟩⟩
set_option maxRecDepth 100000 in
theorem yv_X11_newName : Cond.instanceMethod yX11_newName ∈ gw ∧ Cond.selects yX11_newName.cls yX11_newName yX11_newName ∈ gw ∧ Cond.initialized yX11_newName.cls ∈ gw ∧ cdM m_X11_newName ∈ gw ∧ (plainName yX11_newName.cls = true ∧ yX11_newName.cls ≠ "java/lang/invoke/MethodHandle" ∧ yX11_newName.cls ≠ "java/lang/invoke/VarHandle" ∧ (parseMethodDescriptor yX11_newName.desc).map (fun d => d.parameters.length) = some 2 ∧ m_X11_newName.2.2.1 ≤ 45) := ⟨gw_of (in_7 (List.mem_of_getElem? (i := 82) rfl)) rfl, gw_sel (List.mem_of_getElem? (i := 57) rfl) rfl, gw_of (in_1 (List.mem_of_getElem? (i := 18) rfl)) rfl, gw_of (in_7 (List.mem_of_getElem? (i := 83) rfl)) rfl, ⟨by decide +kernel, by decide +kernel, by decide +kernel, by decide +kernel, by decide +kernel⟩⟩
set_option maxRecDepth 100000 in
theorem yv_X11_oldName : Cond.instanceMethod yX11_oldName ∈ gw ∧ Cond.selects yX11_oldName.cls yX11_oldName yX11_oldName ∈ gw ∧ Cond.initialized yX11_oldName.cls ∈ gw ∧ cdM m_X11_oldName ∈ gw ∧ (plainName yX11_oldName.cls = true ∧ yX11_oldName.cls ≠ "java/lang/invoke/MethodHandle" ∧ yX11_oldName.cls ≠ "java/lang/invoke/VarHandle" ∧ (parseMethodDescriptor yX11_oldName.desc).map (fun d => d.parameters.length) = some 2 ∧ m_X11_oldName.2.2.1 ≤ 45) := ⟨gw_of (in_7 (List.mem_of_getElem? (i := 134) rfl)) rfl, gw_sel (List.mem_of_getElem? (i := 65) rfl) rfl, gw_of (in_1 (List.mem_of_getElem? (i := 18) rfl)) rfl, gw_of (in_7 (List.mem_of_getElem? (i := 135) rfl)) rfl, ⟨by decide +kernel, by decide +kernel, by decide +kernel, by decide +kernel, by decide +kernel⟩⟩
set_option maxRecDepth 100000 in
theorem yv_X11_oldPerson : Cond.instanceMethod yX11_oldPerson ∈ gw ∧ Cond.selects yX11_oldPerson.cls yX11_oldPerson yX11_oldPerson ∈ gw ∧ Cond.initialized yX11_oldPerson.cls ∈ gw ∧ cdM m_X11_oldPerson ∈ gw ∧ (plainName yX11_oldPerson.cls = true ∧ yX11_oldPerson.cls ≠ "java/lang/invoke/MethodHandle" ∧ yX11_oldPerson.cls ≠ "java/lang/invoke/VarHandle" ∧ (parseMethodDescriptor yX11_oldPerson.desc).map (fun d => d.parameters.length) = some 0 ∧ m_X11_oldPerson.2.2.1 ≤ 45) := ⟨gw_of (in_7 (List.mem_of_getElem? (i := 146) rfl)) rfl, gw_sel (List.mem_of_getElem? (i := 68) rfl) rfl, gw_of (in_1 (List.mem_of_getElem? (i := 18) rfl)) rfl, gw_of (in_7 (List.mem_of_getElem? (i := 147) rfl)) rfl, ⟨by decide +kernel, by decide +kernel, by decide +kernel, by decide +kernel, by decide +kernel⟩⟩
set_option maxRecDepth 100000 in
theorem yv_X11_church : Cond.instanceMethod yX11_church ∈ gw ∧ Cond.selects yX11_church.cls yX11_church yX11_church ∈ gw ∧ Cond.initialized yX11_church.cls ∈ gw ∧ cdM m_X11_church ∈ gw ∧ (plainName yX11_church.cls = true ∧ yX11_church.cls ≠ "java/lang/invoke/MethodHandle" ∧ yX11_church.cls ≠ "java/lang/invoke/VarHandle" ∧ (parseMethodDescriptor yX11_church.desc).map (fun d => d.parameters.length) = some 0 ∧ m_X11_church.2.2.1 ≤ 45) := ⟨gw_of (in_7 (List.mem_of_getElem? (i := 130) rfl)) rfl, gw_sel (List.mem_of_getElem? (i := 64) rfl) rfl, gw_of (in_1 (List.mem_of_getElem? (i := 18) rfl)) rfl, gw_of (in_7 (List.mem_of_getElem? (i := 131) rfl)) rfl, ⟨by decide +kernel, by decide +kernel, by decide +kernel, by decide +kernel, by decide +kernel⟩⟩
set_option maxRecDepth 100000 in
theorem yv_X11_add : Cond.instanceMethod yX11_add ∈ gw ∧ Cond.selects yX11_add.cls yX11_add yX11_add ∈ gw ∧ Cond.initialized yX11_add.cls ∈ gw ∧ cdM m_X11_add ∈ gw ∧ (plainName yX11_add.cls = true ∧ yX11_add.cls ≠ "java/lang/invoke/MethodHandle" ∧ yX11_add.cls ≠ "java/lang/invoke/VarHandle" ∧ (parseMethodDescriptor yX11_add.desc).map (fun d => d.parameters.length) = some 2 ∧ m_X11_add.2.2.1 ≤ 45) := ⟨gw_of (in_7 (List.mem_of_getElem? (i := 205) rfl)) rfl, gw_sel (List.mem_of_getElem? (i := 82) rfl) rfl, gw_of (in_1 (List.mem_of_getElem? (i := 18) rfl)) rfl, gw_of (in_7 (List.mem_of_getElem? (i := 206) rfl)) rfl, ⟨by decide +kernel, by decide +kernel, by decide +kernel, by decide +kernel, by decide +kernel⟩⟩
set_option maxRecDepth 100000 in
theorem ys_X11_tight : Cond.static yX11_tight ∈ gw ∧ Cond.initialized yX11_tight.cls ∈ gw ∧ cdM m_X11_tight ∈ gw ∧ (plainName yX11_tight.cls = true ∧ yX11_tight.cls ≠ "java/lang/invoke/MethodHandle" ∧ yX11_tight.cls ≠ "java/lang/invoke/VarHandle" ∧ (parseMethodDescriptor yX11_tight.desc).map (fun d => d.parameters.length) = some 1 ∧ m_X11_tight.2.2.1 ≤ 45) := ⟨gw_of (in_7 (List.mem_of_getElem? (i := 185) rfl)) rfl, gw_of (in_1 (List.mem_of_getElem? (i := 18) rfl)) rfl, gw_of (in_7 (List.mem_of_getElem? (i := 186) rfl)) rfl, ⟨by decide +kernel, by decide +kernel, by decide +kernel, by decide +kernel, by decide +kernel⟩⟩
set_option maxRecDepth 100000 in
theorem yv_X11_close : Cond.instanceMethod yX11_close ∈ gw ∧ Cond.selects yX11_close.cls yX11_close yX11_close ∈ gw ∧ Cond.initialized yX11_close.cls ∈ gw ∧ cdM m_X11_close ∈ gw ∧ (plainName yX11_close.cls = true ∧ yX11_close.cls ≠ "java/lang/invoke/MethodHandle" ∧ yX11_close.cls ≠ "java/lang/invoke/VarHandle" ∧ (parseMethodDescriptor yX11_close.desc).map (fun d => d.parameters.length) = some 1 ∧ m_X11_close.2.2.1 ≤ 45) := ⟨gw_of (in_7 (List.mem_of_getElem? (i := 217) rfl)) rfl, gw_sel (List.mem_of_getElem? (i := 85) rfl) rfl, gw_of (in_1 (List.mem_of_getElem? (i := 18) rfl)) rfl, gw_of (in_7 (List.mem_of_getElem? (i := 218) rfl)) rfl, ⟨by decide +kernel, by decide +kernel, by decide +kernel, by decide +kernel, by decide +kernel⟩⟩
set_option maxRecDepth 100000 in
theorem yv_X11_hasRelation : Cond.instanceMethod yX11_hasRelation ∈ gw ∧ Cond.selects yX11_hasRelation.cls yX11_hasRelation yX11_hasRelation ∈ gw ∧ Cond.initialized yX11_hasRelation.cls ∈ gw ∧ cdM m_X11_hasRelation ∈ gw ∧ (plainName yX11_hasRelation.cls = true ∧ yX11_hasRelation.cls ≠ "java/lang/invoke/MethodHandle" ∧ yX11_hasRelation.cls ≠ "java/lang/invoke/VarHandle" ∧ (parseMethodDescriptor yX11_hasRelation.desc).map (fun d => d.parameters.length) = some 0 ∧ m_X11_hasRelation.2.2.1 ≤ 45) := ⟨gw_of (in_7 (List.mem_of_getElem? (i := 221) rfl)) rfl, gw_sel (List.mem_of_getElem? (i := 86) rfl) rfl, gw_of (in_1 (List.mem_of_getElem? (i := 18) rfl)) rfl, gw_of (in_7 (List.mem_of_getElem? (i := 222) rfl)) rfl, ⟨by decide +kernel, by decide +kernel, by decide +kernel, by decide +kernel, by decide +kernel⟩⟩
set_option maxRecDepth 100000 in
theorem yv_X11_mayNot : Cond.instanceMethod yX11_mayNot ∈ gw ∧ Cond.selects yX11_mayNot.cls yX11_mayNot yX11_mayNot ∈ gw ∧ Cond.initialized yX11_mayNot.cls ∈ gw ∧ cdM m_X11_mayNot ∈ gw ∧ (plainName yX11_mayNot.cls = true ∧ yX11_mayNot.cls ≠ "java/lang/invoke/MethodHandle" ∧ yX11_mayNot.cls ≠ "java/lang/invoke/VarHandle" ∧ (parseMethodDescriptor yX11_mayNot.desc).map (fun d => d.parameters.length) = some 0 ∧ m_X11_mayNot.2.2.1 ≤ 45) := ⟨gw_of (in_7 (List.mem_of_getElem? (i := 182) rfl)) rfl, gw_sel (List.mem_of_getElem? (i := 77) rfl) rfl, gw_of (in_1 (List.mem_of_getElem? (i := 18) rfl)) rfl, gw_of (in_7 (List.mem_of_getElem? (i := 183) rfl)) rfl, ⟨by decide +kernel, by decide +kernel, by decide +kernel, by decide +kernel, by decide +kernel⟩⟩
set_option maxRecDepth 100000 in
theorem yv_X11_asked : Cond.instanceMethod yX11_asked ∈ gw ∧ Cond.selects yX11_asked.cls yX11_asked yX11_asked ∈ gw ∧ Cond.initialized yX11_asked.cls ∈ gw ∧ cdM m_X11_asked ∈ gw ∧ (plainName yX11_asked.cls = true ∧ yX11_asked.cls ≠ "java/lang/invoke/MethodHandle" ∧ yX11_asked.cls ≠ "java/lang/invoke/VarHandle" ∧ (parseMethodDescriptor yX11_asked.desc).map (fun d => d.parameters.length) = some 0 ∧ m_X11_asked.2.2.1 ≤ 45) := ⟨gw_of (in_7 (List.mem_of_getElem? (i := 201) rfl)) rfl, gw_sel (List.mem_of_getElem? (i := 81) rfl) rfl, gw_of (in_1 (List.mem_of_getElem? (i := 18) rfl)) rfl, gw_of (in_7 (List.mem_of_getElem? (i := 202) rfl)) rfl, ⟨by decide +kernel, by decide +kernel, by decide +kernel, by decide +kernel, by decide +kernel⟩⟩
set_option maxRecDepth 100000 in
theorem yv_X11_isFull : Cond.instanceMethod yX11_isFull ∈ gw ∧ Cond.selects yX11_isFull.cls yX11_isFull yX11_isFull ∈ gw ∧ Cond.initialized yX11_isFull.cls ∈ gw ∧ cdM m_X11_isFull ∈ gw ∧ (plainName yX11_isFull.cls = true ∧ yX11_isFull.cls ≠ "java/lang/invoke/MethodHandle" ∧ yX11_isFull.cls ≠ "java/lang/invoke/VarHandle" ∧ (parseMethodDescriptor yX11_isFull.desc).map (fun d => d.parameters.length) = some 0 ∧ m_X11_isFull.2.2.1 ≤ 45) := ⟨gw_of (in_7 (List.mem_of_getElem? (i := 193) rfl)) rfl, gw_sel (List.mem_of_getElem? (i := 79) rfl) rfl, gw_of (in_1 (List.mem_of_getElem? (i := 18) rfl)) rfl, gw_of (in_7 (List.mem_of_getElem? (i := 194) rfl)) rfl, ⟨by decide +kernel, by decide +kernel, by decide +kernel, by decide +kernel, by decide +kernel⟩⟩
set_option maxRecDepth 100000 in
theorem yv_X11_countUnit : Cond.instanceMethod yX11_countUnit ∈ gw ∧ Cond.selects yX11_countUnit.cls yX11_countUnit yX11_countUnit ∈ gw ∧ Cond.initialized yX11_countUnit.cls ∈ gw ∧ cdM m_X11_countUnit ∈ gw ∧ (plainName yX11_countUnit.cls = true ∧ yX11_countUnit.cls ≠ "java/lang/invoke/MethodHandle" ∧ yX11_countUnit.cls ≠ "java/lang/invoke/VarHandle" ∧ (parseMethodDescriptor yX11_countUnit.desc).map (fun d => d.parameters.length) = some 0 ∧ m_X11_countUnit.2.2.1 ≤ 45) := ⟨gw_of (in_7 (List.mem_of_getElem? (i := 197) rfl)) rfl, gw_sel (List.mem_of_getElem? (i := 80) rfl) rfl, gw_of (in_1 (List.mem_of_getElem? (i := 18) rfl)) rfl, gw_of (in_7 (List.mem_of_getElem? (i := 198) rfl)) rfl, ⟨by decide +kernel, by decide +kernel, by decide +kernel, by decide +kernel, by decide +kernel⟩⟩
set_option maxRecDepth 100000 in
theorem yv_X11_openUp : Cond.instanceMethod yX11_openUp ∈ gw ∧ Cond.selects yX11_openUp.cls yX11_openUp yX11_openUp ∈ gw ∧ Cond.initialized yX11_openUp.cls ∈ gw ∧ cdM m_X11_openUp ∈ gw ∧ (plainName yX11_openUp.cls = true ∧ yX11_openUp.cls ≠ "java/lang/invoke/MethodHandle" ∧ yX11_openUp.cls ≠ "java/lang/invoke/VarHandle" ∧ (parseMethodDescriptor yX11_openUp.desc).map (fun d => d.parameters.length) = some 1 ∧ m_X11_openUp.2.2.1 ≤ 45) := ⟨gw_of (in_7 (List.mem_of_getElem? (i := 189) rfl)) rfl, gw_sel (List.mem_of_getElem? (i := 78) rfl) rfl, gw_of (in_1 (List.mem_of_getElem? (i := 18) rfl)) rfl, gw_of (in_7 (List.mem_of_getElem? (i := 190) rfl)) rfl, ⟨by decide +kernel, by decide +kernel, by decide +kernel, by decide +kernel, by decide +kernel⟩⟩
set_option maxRecDepth 100000 in
theorem yv_X11_unit : Cond.instanceMethod yX11_unit ∈ gw ∧ Cond.selects yX11_unit.cls yX11_unit yX11_unit ∈ gw ∧ Cond.initialized yX11_unit.cls ∈ gw ∧ cdM m_X11_unit ∈ gw ∧ (plainName yX11_unit.cls = true ∧ yX11_unit.cls ≠ "java/lang/invoke/MethodHandle" ∧ yX11_unit.cls ≠ "java/lang/invoke/VarHandle" ∧ (parseMethodDescriptor yX11_unit.desc).map (fun d => d.parameters.length) = some 0 ∧ m_X11_unit.2.2.1 ≤ 45) := ⟨gw_of (in_7 (List.mem_of_getElem? (i := 178) rfl)) rfl, gw_sel (List.mem_of_getElem? (i := 76) rfl) rfl, gw_of (in_1 (List.mem_of_getElem? (i := 18) rfl)) rfl, gw_of (in_7 (List.mem_of_getElem? (i := 179) rfl)) rfl, ⟨by decide +kernel, by decide +kernel, by decide +kernel, by decide +kernel, by decide +kernel⟩⟩
set_option maxRecDepth 100000 in
theorem yv_X11_sign : Cond.instanceMethod yX11_sign ∈ gw ∧ Cond.selects yX11_sign.cls yX11_sign yX11_sign ∈ gw ∧ Cond.initialized yX11_sign.cls ∈ gw ∧ cdM m_X11_sign ∈ gw ∧ (plainName yX11_sign.cls = true ∧ yX11_sign.cls ≠ "java/lang/invoke/MethodHandle" ∧ yX11_sign.cls ≠ "java/lang/invoke/VarHandle" ∧ (parseMethodDescriptor yX11_sign.desc).map (fun d => d.parameters.length) = some 0 ∧ m_X11_sign.2.2.1 ≤ 45) := ⟨gw_of (in_7 (List.mem_of_getElem? (i := 209) rfl)) rfl, gw_sel (List.mem_of_getElem? (i := 83) rfl) rfl, gw_of (in_1 (List.mem_of_getElem? (i := 18) rfl)) rfl, gw_of (in_7 (List.mem_of_getElem? (i := 210) rfl)) rfl, ⟨by decide +kernel, by decide +kernel, by decide +kernel, by decide +kernel, by decide +kernel⟩⟩
set_option maxRecDepth 100000 in
theorem yv_X11_hasBracket : Cond.instanceMethod yX11_hasBracket ∈ gw ∧ Cond.selects yX11_hasBracket.cls yX11_hasBracket yX11_hasBracket ∈ gw ∧ Cond.initialized yX11_hasBracket.cls ∈ gw ∧ cdM m_X11_hasBracket ∈ gw ∧ (plainName yX11_hasBracket.cls = true ∧ yX11_hasBracket.cls ≠ "java/lang/invoke/MethodHandle" ∧ yX11_hasBracket.cls ≠ "java/lang/invoke/VarHandle" ∧ (parseMethodDescriptor yX11_hasBracket.desc).map (fun d => d.parameters.length) = some 0 ∧ m_X11_hasBracket.2.2.1 ≤ 45) := ⟨gw_of (in_7 (List.mem_of_getElem? (i := 213) rfl)) rfl, gw_sel (List.mem_of_getElem? (i := 84) rfl) rfl, gw_of (in_1 (List.mem_of_getElem? (i := 18) rfl)) rfl, gw_of (in_7 (List.mem_of_getElem? (i := 214) rfl)) rfl, ⟨by decide +kernel, by decide +kernel, by decide +kernel, by decide +kernel, by decide +kernel⟩⟩
set_option maxRecDepth 100000 in
theorem yv_X11_readHears : Cond.instanceMethod yX11_readHears ∈ gw ∧ Cond.selects yX11_readHears.cls yX11_readHears yX11_readHears ∈ gw ∧ Cond.initialized yX11_readHears.cls ∈ gw ∧ cdM m_X11_readHears ∈ gw ∧ (plainName yX11_readHears.cls = true ∧ yX11_readHears.cls ≠ "java/lang/invoke/MethodHandle" ∧ yX11_readHears.cls ≠ "java/lang/invoke/VarHandle" ∧ (parseMethodDescriptor yX11_readHears.desc).map (fun d => d.parameters.length) = some 0 ∧ m_X11_readHears.2.2.1 ≤ 45) := ⟨gw_of (in_7 (List.mem_of_getElem? (i := 174) rfl)) rfl, gw_sel (List.mem_of_getElem? (i := 75) rfl) rfl, gw_of (in_1 (List.mem_of_getElem? (i := 18) rfl)) rfl, gw_of (in_7 (List.mem_of_getElem? (i := 175) rfl)) rfl, ⟨by decide +kernel, by decide +kernel, by decide +kernel, by decide +kernel, by decide +kernel⟩⟩
set_option maxRecDepth 100000 in
theorem ys_X11_truth : Cond.static yX11_truth ∈ gw ∧ Cond.initialized yX11_truth.cls ∈ gw ∧ cdM m_X11_truth ∈ gw ∧ (plainName yX11_truth.cls = true ∧ yX11_truth.cls ≠ "java/lang/invoke/MethodHandle" ∧ yX11_truth.cls ≠ "java/lang/invoke/VarHandle" ∧ (parseMethodDescriptor yX11_truth.desc).map (fun d => d.parameters.length) = some 1 ∧ m_X11_truth.2.2.1 ≤ 45) := ⟨gw_of (in_8 (List.mem_of_getElem? (i := 11) rfl)) rfl, gw_of (in_1 (List.mem_of_getElem? (i := 18) rfl)) rfl, gw_of (in_8 (List.mem_of_getElem? (i := 12) rfl)) rfl, ⟨by decide +kernel, by decide +kernel, by decide +kernel, by decide +kernel, by decide +kernel⟩⟩
set_option maxRecDepth 100000 in
theorem ys_X11_done : Cond.static yX11_done ∈ gw ∧ Cond.initialized yX11_done.cls ∈ gw ∧ cdM m_X11_done ∈ gw ∧ (plainName yX11_done.cls = true ∧ yX11_done.cls ≠ "java/lang/invoke/MethodHandle" ∧ yX11_done.cls ≠ "java/lang/invoke/VarHandle" ∧ (parseMethodDescriptor yX11_done.desc).map (fun d => d.parameters.length) = some 3 ∧ m_X11_done.2.2.1 ≤ 45) := ⟨gw_of (in_8 (List.mem_of_getElem? (i := 102) rfl)) rfl, gw_of (in_1 (List.mem_of_getElem? (i := 18) rfl)) rfl, gw_of (in_8 (List.mem_of_getElem? (i := 103) rfl)) rfl, ⟨by decide +kernel, by decide +kernel, by decide +kernel, by decide +kernel, by decide +kernel⟩⟩
set_option maxRecDepth 100000 in
theorem yv_X11_heard : Cond.instanceMethod yX11_heard ∈ gw ∧ Cond.selects yX11_heard.cls yX11_heard yX11_heard ∈ gw ∧ Cond.initialized yX11_heard.cls ∈ gw ∧ cdM m_X11_heard ∈ gw ∧ (plainName yX11_heard.cls = true ∧ yX11_heard.cls ≠ "java/lang/invoke/MethodHandle" ∧ yX11_heard.cls ≠ "java/lang/invoke/VarHandle" ∧ (parseMethodDescriptor yX11_heard.desc).map (fun d => d.parameters.length) = some 0 ∧ m_X11_heard.2.2.1 ≤ 45) := ⟨gw_of (in_8 (List.mem_of_getElem? (i := 99) rfl)) rfl, gw_sel (List.mem_of_getElem? (i := 108) rfl) rfl, gw_of (in_1 (List.mem_of_getElem? (i := 18) rfl)) rfl, gw_of (in_8 (List.mem_of_getElem? (i := 100) rfl)) rfl, ⟨by decide +kernel, by decide +kernel, by decide +kernel, by decide +kernel, by decide +kernel⟩⟩
set_option maxRecDepth 100000 in
theorem yv_X11_readChurch : Cond.instanceMethod yX11_readChurch ∈ gw ∧ Cond.selects yX11_readChurch.cls yX11_readChurch yX11_readChurch ∈ gw ∧ Cond.initialized yX11_readChurch.cls ∈ gw ∧ cdM m_X11_readChurch ∈ gw ∧ (plainName yX11_readChurch.cls = true ∧ yX11_readChurch.cls ≠ "java/lang/invoke/MethodHandle" ∧ yX11_readChurch.cls ≠ "java/lang/invoke/VarHandle" ∧ (parseMethodDescriptor yX11_readChurch.desc).map (fun d => d.parameters.length) = some 0 ∧ m_X11_readChurch.2.2.1 ≤ 45) := ⟨gw_of (in_7 (List.mem_of_getElem? (i := 78) rfl)) rfl, gw_sel (List.mem_of_getElem? (i := 56) rfl) rfl, gw_of (in_1 (List.mem_of_getElem? (i := 18) rfl)) rfl, gw_of (in_7 (List.mem_of_getElem? (i := 79) rfl)) rfl, ⟨by decide +kernel, by decide +kernel, by decide +kernel, by decide +kernel, by decide +kernel⟩⟩
set_option maxRecDepth 100000 in
theorem yv_X11_readParents : Cond.instanceMethod yX11_readParents ∈ gw ∧ Cond.selects yX11_readParents.cls yX11_readParents yX11_readParents ∈ gw ∧ Cond.initialized yX11_readParents.cls ∈ gw ∧ cdM m_X11_readParents ∈ gw ∧ (plainName yX11_readParents.cls = true ∧ yX11_readParents.cls ≠ "java/lang/invoke/MethodHandle" ∧ yX11_readParents.cls ≠ "java/lang/invoke/VarHandle" ∧ (parseMethodDescriptor yX11_readParents.desc).map (fun d => d.parameters.length) = some 1 ∧ m_X11_readParents.2.2.1 ≤ 45) := ⟨gw_of (in_7 (List.mem_of_getElem? (i := 138) rfl)) rfl, gw_sel (List.mem_of_getElem? (i := 66) rfl) rfl, gw_of (in_1 (List.mem_of_getElem? (i := 18) rfl)) rfl, gw_of (in_7 (List.mem_of_getElem? (i := 139) rfl)) rfl, ⟨by decide +kernel, by decide +kernel, by decide +kernel, by decide +kernel, by decide +kernel⟩⟩
set_option maxRecDepth 100000 in
theorem yv_X11_readPerson : Cond.instanceMethod yX11_readPerson ∈ gw ∧ Cond.selects yX11_readPerson.cls yX11_readPerson yX11_readPerson ∈ gw ∧ Cond.initialized yX11_readPerson.cls ∈ gw ∧ cdM m_X11_readPerson ∈ gw ∧ (plainName yX11_readPerson.cls = true ∧ yX11_readPerson.cls ≠ "java/lang/invoke/MethodHandle" ∧ yX11_readPerson.cls ≠ "java/lang/invoke/VarHandle" ∧ (parseMethodDescriptor yX11_readPerson.desc).map (fun d => d.parameters.length) = some 0 ∧ m_X11_readPerson.2.2.1 ≤ 45) := ⟨gw_of (in_7 (List.mem_of_getElem? (i := 122) rfl)) rfl, gw_sel (List.mem_of_getElem? (i := 62) rfl) rfl, gw_of (in_1 (List.mem_of_getElem? (i := 18) rfl)) rfl, gw_of (in_7 (List.mem_of_getElem? (i := 123) rfl)) rfl, ⟨by decide +kernel, by decide +kernel, by decide +kernel, by decide +kernel, by decide +kernel⟩⟩
set_option maxRecDepth 100000 in
theorem yv_X11_readKnows : Cond.instanceMethod yX11_readKnows ∈ gw ∧ Cond.selects yX11_readKnows.cls yX11_readKnows yX11_readKnows ∈ gw ∧ Cond.initialized yX11_readKnows.cls ∈ gw ∧ cdM m_X11_readKnows ∈ gw ∧ (plainName yX11_readKnows.cls = true ∧ yX11_readKnows.cls ≠ "java/lang/invoke/MethodHandle" ∧ yX11_readKnows.cls ≠ "java/lang/invoke/VarHandle" ∧ (parseMethodDescriptor yX11_readKnows.desc).map (fun d => d.parameters.length) = some 0 ∧ m_X11_readKnows.2.2.1 ≤ 45) := ⟨gw_of (in_7 (List.mem_of_getElem? (i := 158) rfl)) rfl, gw_sel (List.mem_of_getElem? (i := 71) rfl) rfl, gw_of (in_1 (List.mem_of_getElem? (i := 18) rfl)) rfl, gw_of (in_7 (List.mem_of_getElem? (i := 159) rfl)) rfl, ⟨by decide +kernel, by decide +kernel, by decide +kernel, by decide +kernel, by decide +kernel⟩⟩
set_option maxRecDepth 100000 in
theorem yv_X11_readSpites : Cond.instanceMethod yX11_readSpites ∈ gw ∧ Cond.selects yX11_readSpites.cls yX11_readSpites yX11_readSpites ∈ gw ∧ Cond.initialized yX11_readSpites.cls ∈ gw ∧ cdM m_X11_readSpites ∈ gw ∧ (plainName yX11_readSpites.cls = true ∧ yX11_readSpites.cls ≠ "java/lang/invoke/MethodHandle" ∧ yX11_readSpites.cls ≠ "java/lang/invoke/VarHandle" ∧ (parseMethodDescriptor yX11_readSpites.desc).map (fun d => d.parameters.length) = some 0 ∧ m_X11_readSpites.2.2.1 ≤ 45) := ⟨gw_of (in_7 (List.mem_of_getElem? (i := 162) rfl)) rfl, gw_sel (List.mem_of_getElem? (i := 72) rfl) rfl, gw_of (in_1 (List.mem_of_getElem? (i := 18) rfl)) rfl, gw_of (in_7 (List.mem_of_getElem? (i := 163) rfl)) rfl, ⟨by decide +kernel, by decide +kernel, by decide +kernel, by decide +kernel, by decide +kernel⟩⟩
set_option maxRecDepth 100000 in
theorem yv_X11_isPairTold : Cond.instanceMethod yX11_isPairTold ∈ gw ∧ Cond.selects yX11_isPairTold.cls yX11_isPairTold yX11_isPairTold ∈ gw ∧ Cond.initialized yX11_isPairTold.cls ∈ gw ∧ cdM m_X11_isPairTold ∈ gw ∧ (plainName yX11_isPairTold.cls = true ∧ yX11_isPairTold.cls ≠ "java/lang/invoke/MethodHandle" ∧ yX11_isPairTold.cls ≠ "java/lang/invoke/VarHandle" ∧ (parseMethodDescriptor yX11_isPairTold.desc).map (fun d => d.parameters.length) = some 2 ∧ m_X11_isPairTold.2.2.1 ≤ 45) := ⟨gw_of (in_7 (List.mem_of_getElem? (i := 170) rfl)) rfl, gw_sel (List.mem_of_getElem? (i := 74) rfl) rfl, gw_of (in_1 (List.mem_of_getElem? (i := 18) rfl)) rfl, gw_of (in_7 (List.mem_of_getElem? (i := 171) rfl)) rfl, ⟨by decide +kernel, by decide +kernel, by decide +kernel, by decide +kernel, by decide +kernel⟩⟩
set_option maxRecDepth 100000 in
theorem yv_X11_readPair : Cond.instanceMethod yX11_readPair ∈ gw ∧ Cond.selects yX11_readPair.cls yX11_readPair yX11_readPair ∈ gw ∧ Cond.initialized yX11_readPair.cls ∈ gw ∧ cdM m_X11_readPair ∈ gw ∧ (plainName yX11_readPair.cls = true ∧ yX11_readPair.cls ≠ "java/lang/invoke/MethodHandle" ∧ yX11_readPair.cls ≠ "java/lang/invoke/VarHandle" ∧ (parseMethodDescriptor yX11_readPair.desc).map (fun d => d.parameters.length) = some 0 ∧ m_X11_readPair.2.2.1 ≤ 45) := ⟨gw_of (in_7 (List.mem_of_getElem? (i := 166) rfl)) rfl, gw_sel (List.mem_of_getElem? (i := 73) rfl) rfl, gw_of (in_1 (List.mem_of_getElem? (i := 18) rfl)) rfl, gw_of (in_7 (List.mem_of_getElem? (i := 167) rfl)) rfl, ⟨by decide +kernel, by decide +kernel, by decide +kernel, by decide +kernel, by decide +kernel⟩⟩
set_option maxRecDepth 100000 in
theorem yv_X11_readLine : Cond.instanceMethod yX11_readLine ∈ gw ∧ Cond.selects yX11_readLine.cls yX11_readLine yX11_readLine ∈ gw ∧ Cond.initialized yX11_readLine.cls ∈ gw ∧ cdM m_X11_readLine ∈ gw ∧ (plainName yX11_readLine.cls = true ∧ yX11_readLine.cls ≠ "java/lang/invoke/MethodHandle" ∧ yX11_readLine.cls ≠ "java/lang/invoke/VarHandle" ∧ (parseMethodDescriptor yX11_readLine.desc).map (fun d => d.parameters.length) = some 0 ∧ m_X11_readLine.2.2.1 ≤ 45) := ⟨gw_of (in_7 (List.mem_of_getElem? (i := 69) rfl)) rfl, gw_sel (List.mem_of_getElem? (i := 54) rfl) rfl, gw_of (in_1 (List.mem_of_getElem? (i := 18) rfl)) rfl, gw_of (in_7 (List.mem_of_getElem? (i := 70) rfl)) rfl, ⟨by decide +kernel, by decide +kernel, by decide +kernel, by decide +kernel, by decide +kernel⟩⟩
set_option maxRecDepth 100000 in
theorem yv_X11_readAll : Cond.instanceMethod yX11_readAll ∈ gw ∧ Cond.selects yX11_readAll.cls yX11_readAll yX11_readAll ∈ gw ∧ Cond.initialized yX11_readAll.cls ∈ gw ∧ cdM m_X11_readAll ∈ gw ∧ (plainName yX11_readAll.cls = true ∧ yX11_readAll.cls ≠ "java/lang/invoke/MethodHandle" ∧ yX11_readAll.cls ≠ "java/lang/invoke/VarHandle" ∧ (parseMethodDescriptor yX11_readAll.desc).map (fun d => d.parameters.length) = some 0 ∧ m_X11_readAll.2.2.1 ≤ 45) := ⟨gw_of (in_7 (List.mem_of_getElem? (i := 48) rfl)) rfl, gw_sel (List.mem_of_getElem? (i := 51) rfl) rfl, gw_of (in_1 (List.mem_of_getElem? (i := 18) rfl)) rfl, gw_of (in_7 (List.mem_of_getElem? (i := 49) rfl)) rfl, ⟨by decide +kernel, by decide +kernel, by decide +kernel, by decide +kernel, by decide +kernel⟩⟩
set_option maxRecDepth 100000 in
theorem yv_X11_town : Cond.instanceMethod yX11_town ∈ gw ∧ Cond.selects yX11_town.cls yX11_town yX11_town ∈ gw ∧ Cond.initialized yX11_town.cls ∈ gw ∧ cdM m_X11_town ∈ gw ∧ (plainName yX11_town.cls = true ∧ yX11_town.cls ≠ "java/lang/invoke/MethodHandle" ∧ yX11_town.cls ≠ "java/lang/invoke/VarHandle" ∧ (parseMethodDescriptor yX11_town.desc).map (fun d => d.parameters.length) = some 0 ∧ m_X11_town.2.2.1 ≤ 45) := ⟨gw_of (in_7 (List.mem_of_getElem? (i := 43) rfl)) rfl, gw_of (in_7 (List.mem_of_getElem? (i := 44) rfl)) rfl, gw_of (in_1 (List.mem_of_getElem? (i := 18) rfl)) rfl, gw_of (in_7 (List.mem_of_getElem? (i := 45) rfl)) rfl, ⟨by decide +kernel, by decide +kernel, by decide +kernel, by decide +kernel, by decide +kernel⟩⟩
set_option maxRecDepth 100000 in
theorem yv_X11_fault : Cond.instanceMethod yX11_fault ∈ gw ∧ Cond.selects yX11_fault.cls yX11_fault yX11_fault ∈ gw ∧ Cond.initialized yX11_fault.cls ∈ gw ∧ cdM m_X11_fault ∈ gw ∧ (plainName yX11_fault.cls = true ∧ yX11_fault.cls ≠ "java/lang/invoke/MethodHandle" ∧ yX11_fault.cls ≠ "java/lang/invoke/VarHandle" ∧ (parseMethodDescriptor yX11_fault.desc).map (fun d => d.parameters.length) = some 1 ∧ m_X11_fault.2.2.1 ≤ 45) := ⟨gw_of (in_7 (List.mem_of_getElem? (i := 228) rfl)) rfl, gw_of (in_7 (List.mem_of_getElem? (i := 229) rfl)) rfl, gw_of (in_1 (List.mem_of_getElem? (i := 18) rfl)) rfl, gw_of (in_7 (List.mem_of_getElem? (i := 230) rfl)) rfl, ⟨by decide +kernel, by decide +kernel, by decide +kernel, by decide +kernel, by decide +kernel⟩⟩
set_option maxRecDepth 100000 in
theorem ys_X11_isIn : Cond.static yX11_isIn ∈ gw ∧ Cond.initialized yX11_isIn.cls ∈ gw ∧ cdM m_X11_isIn ∈ gw ∧ (plainName yX11_isIn.cls = true ∧ yX11_isIn.cls ≠ "java/lang/invoke/MethodHandle" ∧ yX11_isIn.cls ≠ "java/lang/invoke/VarHandle" ∧ (parseMethodDescriptor yX11_isIn.desc).map (fun d => d.parameters.length) = some 3 ∧ m_X11_isIn.2.2.1 ≤ 45) := ⟨gw_of (in_8 (List.mem_of_getElem? (i := 0) rfl)) rfl, gw_of (in_1 (List.mem_of_getElem? (i := 18) rfl)) rfl, gw_of (in_8 (List.mem_of_getElem? (i := 1) rfl)) rfl, ⟨by decide +kernel, by decide +kernel, by decide +kernel, by decide +kernel, by decide +kernel⟩⟩
set_option maxRecDepth 100000 in
theorem yv_X11_isPerson : Cond.instanceMethod yX11_isPerson ∈ gw ∧ Cond.selects yX11_isPerson.cls yX11_isPerson yX11_isPerson ∈ gw ∧ Cond.initialized yX11_isPerson.cls ∈ gw ∧ cdM m_X11_isPerson ∈ gw ∧ (plainName yX11_isPerson.cls = true ∧ yX11_isPerson.cls ≠ "java/lang/invoke/MethodHandle" ∧ yX11_isPerson.cls ≠ "java/lang/invoke/VarHandle" ∧ (parseMethodDescriptor yX11_isPerson.desc).map (fun d => d.parameters.length) = some 1 ∧ m_X11_isPerson.2.2.1 ≤ 45) := ⟨gw_of (in_7 (List.mem_of_getElem? (i := 237) rfl)) rfl, gw_sel (List.mem_of_getElem? (i := 88) rfl) rfl, gw_of (in_1 (List.mem_of_getElem? (i := 18) rfl)) rfl, gw_of (in_7 (List.mem_of_getElem? (i := 238) rfl)) rfl, ⟨by decide +kernel, by decide +kernel, by decide +kernel, by decide +kernel, by decide +kernel⟩⟩
set_option maxRecDepth 100000 in
theorem yv_X11_isChurch : Cond.instanceMethod yX11_isChurch ∈ gw ∧ Cond.selects yX11_isChurch.cls yX11_isChurch yX11_isChurch ∈ gw ∧ Cond.initialized yX11_isChurch.cls ∈ gw ∧ cdM m_X11_isChurch ∈ gw ∧ (plainName yX11_isChurch.cls = true ∧ yX11_isChurch.cls ≠ "java/lang/invoke/MethodHandle" ∧ yX11_isChurch.cls ≠ "java/lang/invoke/VarHandle" ∧ (parseMethodDescriptor yX11_isChurch.desc).map (fun d => d.parameters.length) = some 1 ∧ m_X11_isChurch.2.2.1 ≤ 45) := ⟨gw_of (in_8 (List.mem_of_getElem? (i := 110) rfl)) rfl, gw_sel (List.mem_of_getElem? (i := 109) rfl) rfl, gw_of (in_1 (List.mem_of_getElem? (i := 18) rfl)) rfl, gw_of (in_8 (List.mem_of_getElem? (i := 111) rfl)) rfl, ⟨by decide +kernel, by decide +kernel, by decide +kernel, by decide +kernel, by decide +kernel⟩⟩
set_option maxRecDepth 100000 in
theorem yv_X11_isPair : Cond.instanceMethod yX11_isPair ∈ gw ∧ Cond.selects yX11_isPair.cls yX11_isPair yX11_isPair ∈ gw ∧ Cond.initialized yX11_isPair.cls ∈ gw ∧ cdM m_X11_isPair ∈ gw ∧ (plainName yX11_isPair.cls = true ∧ yX11_isPair.cls ≠ "java/lang/invoke/MethodHandle" ∧ yX11_isPair.cls ≠ "java/lang/invoke/VarHandle" ∧ (parseMethodDescriptor yX11_isPair.desc).map (fun d => d.parameters.length) = some 1 ∧ m_X11_isPair.2.2.1 ≤ 45) := ⟨gw_of (in_8 (List.mem_of_getElem? (i := 59) rfl)) rfl, gw_sel (List.mem_of_getElem? (i := 99) rfl) rfl, gw_of (in_1 (List.mem_of_getElem? (i := 18) rfl)) rfl, gw_of (in_8 (List.mem_of_getElem? (i := 60) rfl)) rfl, ⟨by decide +kernel, by decide +kernel, by decide +kernel, by decide +kernel, by decide +kernel⟩⟩
set_option maxRecDepth 100000 in
theorem yv_X11_layAncestors : Cond.instanceMethod yX11_layAncestors ∈ gw ∧ Cond.selects yX11_layAncestors.cls yX11_layAncestors yX11_layAncestors ∈ gw ∧ Cond.initialized yX11_layAncestors.cls ∈ gw ∧ cdM m_X11_layAncestors ∈ gw ∧ (plainName yX11_layAncestors.cls = true ∧ yX11_layAncestors.cls ≠ "java/lang/invoke/MethodHandle" ∧ yX11_layAncestors.cls ≠ "java/lang/invoke/VarHandle" ∧ (parseMethodDescriptor yX11_layAncestors.desc).map (fun d => d.parameters.length) = some 0 ∧ m_X11_layAncestors.2.2.1 ≤ 45) := ⟨gw_of (in_7 (List.mem_of_getElem? (i := 225) rfl)) rfl, gw_sel (List.mem_of_getElem? (i := 87) rfl) rfl, gw_of (in_1 (List.mem_of_getElem? (i := 18) rfl)) rfl, gw_of (in_7 (List.mem_of_getElem? (i := 226) rfl)) rfl, ⟨by decide +kernel, by decide +kernel, by decide +kernel, by decide +kernel, by decide +kernel⟩⟩
set_option maxRecDepth 100000 in
theorem yv_X11_degreeOf : Cond.instanceMethod yX11_degreeOf ∈ gw ∧ Cond.selects yX11_degreeOf.cls yX11_degreeOf yX11_degreeOf ∈ gw ∧ Cond.initialized yX11_degreeOf.cls ∈ gw ∧ cdM m_X11_degreeOf ∈ gw ∧ (plainName yX11_degreeOf.cls = true ∧ yX11_degreeOf.cls ≠ "java/lang/invoke/MethodHandle" ∧ yX11_degreeOf.cls ≠ "java/lang/invoke/VarHandle" ∧ (parseMethodDescriptor yX11_degreeOf.desc).map (fun d => d.parameters.length) = some 2 ∧ m_X11_degreeOf.2.2.1 ≤ 45) := ⟨gw_of (in_8 (List.mem_of_getElem? (i := 4) rfl)) rfl, gw_sel (List.mem_of_getElem? (i := 89) rfl) rfl, gw_of (in_1 (List.mem_of_getElem? (i := 18) rfl)) rfl, gw_of (in_8 (List.mem_of_getElem? (i := 5) rfl)) rfl, ⟨by decide +kernel, by decide +kernel, by decide +kernel, by decide +kernel, by decide +kernel⟩⟩
set_option maxRecDepth 100000 in
theorem yv_X11_degree : Cond.instanceMethod yX11_degree ∈ gw ∧ Cond.selects yX11_degree.cls yX11_degree yX11_degree ∈ gw ∧ Cond.initialized yX11_degree.cls ∈ gw ∧ cdM m_X11_degree ∈ gw ∧ (plainName yX11_degree.cls = true ∧ yX11_degree.cls ≠ "java/lang/invoke/MethodHandle" ∧ yX11_degree.cls ≠ "java/lang/invoke/VarHandle" ∧ (parseMethodDescriptor yX11_degree.desc).map (fun d => d.parameters.length) = some 2 ∧ m_X11_degree.2.2.1 ≤ 45) := ⟨gw_of (in_7 (List.mem_of_getElem? (i := 232) rfl)) rfl, gw_of (in_7 (List.mem_of_getElem? (i := 233) rfl)) rfl, gw_of (in_1 (List.mem_of_getElem? (i := 18) rfl)) rfl, gw_of (in_7 (List.mem_of_getElem? (i := 234) rfl)) rfl, ⟨by decide +kernel, by decide +kernel, by decide +kernel, by decide +kernel, by decide +kernel⟩⟩
set_option maxRecDepth 100000 in
theorem yv_X11_ancestors : Cond.instanceMethod yX11_ancestors ∈ gw ∧ Cond.selects yX11_ancestors.cls yX11_ancestors yX11_ancestors ∈ gw ∧ Cond.initialized yX11_ancestors.cls ∈ gw ∧ cdM m_X11_ancestors ∈ gw ∧ (plainName yX11_ancestors.cls = true ∧ yX11_ancestors.cls ≠ "java/lang/invoke/MethodHandle" ∧ yX11_ancestors.cls ≠ "java/lang/invoke/VarHandle" ∧ (parseMethodDescriptor yX11_ancestors.desc).map (fun d => d.parameters.length) = some 1 ∧ m_X11_ancestors.2.2.1 ≤ 45) := ⟨gw_of (in_8 (List.mem_of_getElem? (i := 7) rfl)) rfl, gw_of (in_8 (List.mem_of_getElem? (i := 8) rfl)) rfl, gw_of (in_1 (List.mem_of_getElem? (i := 18) rfl)) rfl, gw_of (in_8 (List.mem_of_getElem? (i := 9) rfl)) rfl, ⟨by decide +kernel, by decide +kernel, by decide +kernel, by decide +kernel, by decide +kernel⟩⟩
set_option maxRecDepth 100000 in
theorem yv_X11_isParent : Cond.instanceMethod yX11_isParent ∈ gw ∧ Cond.selects yX11_isParent.cls yX11_isParent yX11_isParent ∈ gw ∧ Cond.initialized yX11_isParent.cls ∈ gw ∧ cdM m_X11_isParent ∈ gw ∧ (plainName yX11_isParent.cls = true ∧ yX11_isParent.cls ≠ "java/lang/invoke/MethodHandle" ∧ yX11_isParent.cls ≠ "java/lang/invoke/VarHandle" ∧ (parseMethodDescriptor yX11_isParent.desc).map (fun d => d.parameters.length) = some 2 ∧ m_X11_isParent.2.2.1 ≤ 45) := ⟨gw_of (in_8 (List.mem_of_getElem? (i := 51) rfl)) rfl, gw_sel (List.mem_of_getElem? (i := 98) rfl) rfl, gw_of (in_1 (List.mem_of_getElem? (i := 18) rfl)) rfl, gw_of (in_8 (List.mem_of_getElem? (i := 52) rfl)) rfl, ⟨by decide +kernel, by decide +kernel, by decide +kernel, by decide +kernel, by decide +kernel⟩⟩
set_option maxRecDepth 100000 in
theorem yv_X11_knownTo : Cond.instanceMethod yX11_knownTo ∈ gw ∧ Cond.selects yX11_knownTo.cls yX11_knownTo yX11_knownTo ∈ gw ∧ Cond.initialized yX11_knownTo.cls ∈ gw ∧ cdM m_X11_knownTo ∈ gw ∧ (plainName yX11_knownTo.cls = true ∧ yX11_knownTo.cls ≠ "java/lang/invoke/MethodHandle" ∧ yX11_knownTo.cls ≠ "java/lang/invoke/VarHandle" ∧ (parseMethodDescriptor yX11_knownTo.desc).map (fun d => d.parameters.length) = some 1 ∧ m_X11_knownTo.2.2.1 ≤ 45) := ⟨gw_of (in_8 (List.mem_of_getElem? (i := 47) rfl)) rfl, gw_sel (List.mem_of_getElem? (i := 97) rfl) rfl, gw_of (in_1 (List.mem_of_getElem? (i := 18) rfl)) rfl, gw_of (in_8 (List.mem_of_getElem? (i := 48) rfl)) rfl, ⟨by decide +kernel, by decide +kernel, by decide +kernel, by decide +kernel, by decide +kernel⟩⟩
set_option maxRecDepth 100000 in
theorem yv_X11_load : Cond.instanceMethod yX11_load ∈ gw ∧ Cond.selects yX11_load.cls yX11_load yX11_load ∈ gw ∧ Cond.initialized yX11_load.cls ∈ gw ∧ cdM m_X11_load ∈ gw ∧ (plainName yX11_load.cls = true ∧ yX11_load.cls ≠ "java/lang/invoke/MethodHandle" ∧ yX11_load.cls ≠ "java/lang/invoke/VarHandle" ∧ (parseMethodDescriptor yX11_load.desc).map (fun d => d.parameters.length) = some 0 ∧ m_X11_load.2.2.1 ≤ 45) := ⟨gw_of (in_8 (List.mem_of_getElem? (i := 19) rfl)) rfl, gw_sel (List.mem_of_getElem? (i := 90) rfl) rfl, gw_of (in_1 (List.mem_of_getElem? (i := 18) rfl)) rfl, gw_of (in_8 (List.mem_of_getElem? (i := 20) rfl)) rfl, ⟨by decide +kernel, by decide +kernel, by decide +kernel, by decide +kernel, by decide +kernel⟩⟩
set_option maxRecDepth 100000 in
theorem yv_X11_stateOf : Cond.instanceMethod yX11_stateOf ∈ gw ∧ Cond.selects yX11_stateOf.cls yX11_stateOf yX11_stateOf ∈ gw ∧ Cond.initialized yX11_stateOf.cls ∈ gw ∧ cdM m_X11_stateOf ∈ gw ∧ (plainName yX11_stateOf.cls = true ∧ yX11_stateOf.cls ≠ "java/lang/invoke/MethodHandle" ∧ yX11_stateOf.cls ≠ "java/lang/invoke/VarHandle" ∧ (parseMethodDescriptor yX11_stateOf.desc).map (fun d => d.parameters.length) = some 1 ∧ m_X11_stateOf.2.2.1 ≤ 45) := ⟨gw_of (in_8 (List.mem_of_getElem? (i := 39) rfl)) rfl, gw_sel (List.mem_of_getElem? (i := 95) rfl) rfl, gw_of (in_1 (List.mem_of_getElem? (i := 18) rfl)) rfl, gw_of (in_8 (List.mem_of_getElem? (i := 40) rfl)) rfl, ⟨by decide +kernel, by decide +kernel, by decide +kernel, by decide +kernel, by decide +kernel⟩⟩
set_option maxRecDepth 100000 in
theorem yv_X11_isOf : Cond.instanceMethod yX11_isOf ∈ gw ∧ Cond.selects yX11_isOf.cls yX11_isOf yX11_isOf ∈ gw ∧ Cond.initialized yX11_isOf.cls ∈ gw ∧ cdM m_X11_isOf ∈ gw ∧ (plainName yX11_isOf.cls = true ∧ yX11_isOf.cls ≠ "java/lang/invoke/MethodHandle" ∧ yX11_isOf.cls ≠ "java/lang/invoke/VarHandle" ∧ (parseMethodDescriptor yX11_isOf.desc).map (fun d => d.parameters.length) = some 2 ∧ m_X11_isOf.2.2.1 ≤ 45) := ⟨gw_of (in_8 (List.mem_of_getElem? (i := 43) rfl)) rfl, gw_sel (List.mem_of_getElem? (i := 96) rfl) rfl, gw_of (in_1 (List.mem_of_getElem? (i := 18) rfl)) rfl, gw_of (in_8 (List.mem_of_getElem? (i := 44) rfl)) rfl, ⟨by decide +kernel, by decide +kernel, by decide +kernel, by decide +kernel, by decide +kernel⟩⟩
set_option maxRecDepth 100000 in
theorem yv_X11_wedWith : Cond.instanceMethod yX11_wedWith ∈ gw ∧ Cond.selects yX11_wedWith.cls yX11_wedWith yX11_wedWith ∈ gw ∧ Cond.initialized yX11_wedWith.cls ∈ gw ∧ cdM m_X11_wedWith ∈ gw ∧ (plainName yX11_wedWith.cls = true ∧ yX11_wedWith.cls ≠ "java/lang/invoke/MethodHandle" ∧ yX11_wedWith.cls ≠ "java/lang/invoke/VarHandle" ∧ (parseMethodDescriptor yX11_wedWith.desc).map (fun d => d.parameters.length) = some 2 ∧ m_X11_wedWith.2.2.1 ≤ 45) := ⟨gw_of (in_8 (List.mem_of_getElem? (i := 35) rfl)) rfl, gw_sel (List.mem_of_getElem? (i := 94) rfl) rfl, gw_of (in_1 (List.mem_of_getElem? (i := 18) rfl)) rfl, gw_of (in_8 (List.mem_of_getElem? (i := 36) rfl)) rfl, ⟨by decide +kernel, by decide +kernel, by decide +kernel, by decide +kernel, by decide +kernel⟩⟩
set_option maxRecDepth 100000 in
theorem yv_X11_areKin : Cond.instanceMethod yX11_areKin ∈ gw ∧ Cond.selects yX11_areKin.cls yX11_areKin yX11_areKin ∈ gw ∧ Cond.initialized yX11_areKin.cls ∈ gw ∧ cdM m_X11_areKin ∈ gw ∧ (plainName yX11_areKin.cls = true ∧ yX11_areKin.cls ≠ "java/lang/invoke/MethodHandle" ∧ yX11_areKin.cls ≠ "java/lang/invoke/VarHandle" ∧ (parseMethodDescriptor yX11_areKin.desc).map (fun d => d.parameters.length) = some 3 ∧ m_X11_areKin.2.2.1 ≤ 45) := ⟨gw_of (in_8 (List.mem_of_getElem? (i := 75) rfl)) rfl, gw_sel (List.mem_of_getElem? (i := 103) rfl) rfl, gw_of (in_1 (List.mem_of_getElem? (i := 18) rfl)) rfl, gw_of (in_8 (List.mem_of_getElem? (i := 76) rfl)) rfl, ⟨by decide +kernel, by decide +kernel, by decide +kernel, by decide +kernel, by decide +kernel⟩⟩
set_option maxRecDepth 100000 in
theorem yv_X11_barOf : Cond.instanceMethod yX11_barOf ∈ gw ∧ Cond.selects yX11_barOf.cls yX11_barOf yX11_barOf ∈ gw ∧ Cond.initialized yX11_barOf.cls ∈ gw ∧ cdM m_X11_barOf ∈ gw ∧ (plainName yX11_barOf.cls = true ∧ yX11_barOf.cls ≠ "java/lang/invoke/MethodHandle" ∧ yX11_barOf.cls ≠ "java/lang/invoke/VarHandle" ∧ (parseMethodDescriptor yX11_barOf.desc).map (fun d => d.parameters.length) = some 1 ∧ m_X11_barOf.2.2.1 ≤ 45) := ⟨gw_of (in_8 (List.mem_of_getElem? (i := 71) rfl)) rfl, gw_sel (List.mem_of_getElem? (i := 102) rfl) rfl, gw_of (in_1 (List.mem_of_getElem? (i := 18) rfl)) rfl, gw_of (in_8 (List.mem_of_getElem? (i := 72) rfl)) rfl, ⟨by decide +kernel, by decide +kernel, by decide +kernel, by decide +kernel, by decide +kernel⟩⟩
set_option maxRecDepth 100000 in
theorem yv_X11_wouldRise : Cond.instanceMethod yX11_wouldRise ∈ gw ∧ Cond.selects yX11_wouldRise.cls yX11_wouldRise yX11_wouldRise ∈ gw ∧ Cond.initialized yX11_wouldRise.cls ∈ gw ∧ cdM m_X11_wouldRise ∈ gw ∧ (plainName yX11_wouldRise.cls = true ∧ yX11_wouldRise.cls ≠ "java/lang/invoke/MethodHandle" ∧ yX11_wouldRise.cls ≠ "java/lang/invoke/VarHandle" ∧ (parseMethodDescriptor yX11_wouldRise.desc).map (fun d => d.parameters.length) = some 2 ∧ m_X11_wouldRise.2.2.1 ≤ 45) := ⟨gw_of (in_8 (List.mem_of_getElem? (i := 83) rfl)) rfl, gw_sel (List.mem_of_getElem? (i := 105) rfl) rfl, gw_of (in_1 (List.mem_of_getElem? (i := 18) rfl)) rfl, gw_of (in_8 (List.mem_of_getElem? (i := 84) rfl)) rfl, ⟨by decide +kernel, by decide +kernel, by decide +kernel, by decide +kernel, by decide +kernel⟩⟩
set_option maxRecDepth 100000 in
theorem yv_X11_risersOf : Cond.instanceMethod yX11_risersOf ∈ gw ∧ Cond.selects yX11_risersOf.cls yX11_risersOf yX11_risersOf ∈ gw ∧ Cond.initialized yX11_risersOf.cls ∈ gw ∧ cdM m_X11_risersOf ∈ gw ∧ (plainName yX11_risersOf.cls = true ∧ yX11_risersOf.cls ≠ "java/lang/invoke/MethodHandle" ∧ yX11_risersOf.cls ≠ "java/lang/invoke/VarHandle" ∧ (parseMethodDescriptor yX11_risersOf.desc).map (fun d => d.parameters.length) = some 1 ∧ m_X11_risersOf.2.2.1 ≤ 45) := ⟨gw_of (in_8 (List.mem_of_getElem? (i := 79) rfl)) rfl, gw_sel (List.mem_of_getElem? (i := 104) rfl) rfl, gw_of (in_1 (List.mem_of_getElem? (i := 18) rfl)) rfl, gw_of (in_8 (List.mem_of_getElem? (i := 80) rfl)) rfl, ⟨by decide +kernel, by decide +kernel, by decide +kernel, by decide +kernel, by decide +kernel⟩⟩
set_option maxRecDepth 100000 in
theorem yv_X11_isAwayOn : Cond.instanceMethod yX11_isAwayOn ∈ gw ∧ Cond.selects yX11_isAwayOn.cls yX11_isAwayOn yX11_isAwayOn ∈ gw ∧ Cond.initialized yX11_isAwayOn.cls ∈ gw ∧ cdM m_X11_isAwayOn ∈ gw ∧ (plainName yX11_isAwayOn.cls = true ∧ yX11_isAwayOn.cls ≠ "java/lang/invoke/MethodHandle" ∧ yX11_isAwayOn.cls ≠ "java/lang/invoke/VarHandle" ∧ (parseMethodDescriptor yX11_isAwayOn.desc).map (fun d => d.parameters.length) = some 2 ∧ m_X11_isAwayOn.2.2.1 ≤ 45) := ⟨gw_of (in_8 (List.mem_of_getElem? (i := 31) rfl)) rfl, gw_sel (List.mem_of_getElem? (i := 93) rfl) rfl, gw_of (in_1 (List.mem_of_getElem? (i := 18) rfl)) rfl, gw_of (in_8 (List.mem_of_getElem? (i := 32) rfl)) rfl, ⟨by decide +kernel, by decide +kernel, by decide +kernel, by decide +kernel, by decide +kernel⟩⟩
set_option maxRecDepth 100000 in
theorem yv_X11_nextSunday : Cond.instanceMethod yX11_nextSunday ∈ gw ∧ Cond.selects yX11_nextSunday.cls yX11_nextSunday yX11_nextSunday ∈ gw ∧ Cond.initialized yX11_nextSunday.cls ∈ gw ∧ cdM m_X11_nextSunday ∈ gw ∧ (plainName yX11_nextSunday.cls = true ∧ yX11_nextSunday.cls ≠ "java/lang/invoke/MethodHandle" ∧ yX11_nextSunday.cls ≠ "java/lang/invoke/VarHandle" ∧ (parseMethodDescriptor yX11_nextSunday.desc).map (fun d => d.parameters.length) = some 0 ∧ m_X11_nextSunday.2.2.1 ≤ 45) := ⟨gw_of (in_8 (List.mem_of_getElem? (i := 27) rfl)) rfl, gw_sel (List.mem_of_getElem? (i := 92) rfl) rfl, gw_of (in_1 (List.mem_of_getElem? (i := 18) rfl)) rfl, gw_of (in_8 (List.mem_of_getElem? (i := 28) rfl)) rfl, ⟨by decide +kernel, by decide +kernel, by decide +kernel, by decide +kernel, by decide +kernel⟩⟩
set_option maxRecDepth 100000 in
theorem yv_X11_isAway : Cond.instanceMethod yX11_isAway ∈ gw ∧ Cond.selects yX11_isAway.cls yX11_isAway yX11_isAway ∈ gw ∧ Cond.initialized yX11_isAway.cls ∈ gw ∧ cdM m_X11_isAway ∈ gw ∧ (plainName yX11_isAway.cls = true ∧ yX11_isAway.cls ≠ "java/lang/invoke/MethodHandle" ∧ yX11_isAway.cls ≠ "java/lang/invoke/VarHandle" ∧ (parseMethodDescriptor yX11_isAway.desc).map (fun d => d.parameters.length) = some 1 ∧ m_X11_isAway.2.2.1 ≤ 45) := ⟨gw_of (in_8 (List.mem_of_getElem? (i := 23) rfl)) rfl, gw_sel (List.mem_of_getElem? (i := 91) rfl) rfl, gw_of (in_1 (List.mem_of_getElem? (i := 18) rfl)) rfl, gw_of (in_8 (List.mem_of_getElem? (i := 24) rfl)) rfl, ⟨by decide +kernel, by decide +kernel, by decide +kernel, by decide +kernel, by decide +kernel⟩⟩
set_option maxRecDepth 100000 in
theorem yv_X11_isAt : Cond.instanceMethod yX11_isAt ∈ gw ∧ Cond.selects yX11_isAt.cls yX11_isAt yX11_isAt ∈ gw ∧ Cond.initialized yX11_isAt.cls ∈ gw ∧ cdM m_X11_isAt ∈ gw ∧ (plainName yX11_isAt.cls = true ∧ yX11_isAt.cls ≠ "java/lang/invoke/MethodHandle" ∧ yX11_isAt.cls ≠ "java/lang/invoke/VarHandle" ∧ (parseMethodDescriptor yX11_isAt.desc).map (fun d => d.parameters.length) = some 2 ∧ m_X11_isAt.2.2.1 ≤ 45) := ⟨gw_of (in_8 (List.mem_of_getElem? (i := 114) rfl)) rfl, gw_sel (List.mem_of_getElem? (i := 110) rfl) rfl, gw_of (in_1 (List.mem_of_getElem? (i := 18) rfl)) rfl, gw_of (in_8 (List.mem_of_getElem? (i := 115) rfl)) rfl, ⟨by decide +kernel, by decide +kernel, by decide +kernel, by decide +kernel, by decide +kernel⟩⟩
set_option maxRecDepth 100000 in
theorem yv_X11_layRead : Cond.instanceMethod yX11_layRead ∈ gw ∧ Cond.selects yX11_layRead.cls yX11_layRead yX11_layRead ∈ gw ∧ Cond.initialized yX11_layRead.cls ∈ gw ∧ cdM m_X11_layRead ∈ gw ∧ (plainName yX11_layRead.cls = true ∧ yX11_layRead.cls ≠ "java/lang/invoke/MethodHandle" ∧ yX11_layRead.cls ≠ "java/lang/invoke/VarHandle" ∧ (parseMethodDescriptor yX11_layRead.desc).map (fun d => d.parameters.length) = some 0 ∧ m_X11_layRead.2.2.1 ≤ 45) := ⟨gw_of (in_8 (List.mem_of_getElem? (i := 67) rfl)) rfl, gw_sel (List.mem_of_getElem? (i := 101) rfl) rfl, gw_of (in_1 (List.mem_of_getElem? (i := 18) rfl)) rfl, gw_of (in_8 (List.mem_of_getElem? (i := 68) rfl)) rfl, ⟨by decide +kernel, by decide +kernel, by decide +kernel, by decide +kernel, by decide +kernel⟩⟩
set_option maxRecDepth 100000 in
theorem yv_X11_seatedIn : Cond.instanceMethod yX11_seatedIn ∈ gw ∧ Cond.selects yX11_seatedIn.cls yX11_seatedIn yX11_seatedIn ∈ gw ∧ Cond.initialized yX11_seatedIn.cls ∈ gw ∧ cdM m_X11_seatedIn ∈ gw ∧ (plainName yX11_seatedIn.cls = true ∧ yX11_seatedIn.cls ≠ "java/lang/invoke/MethodHandle" ∧ yX11_seatedIn.cls ≠ "java/lang/invoke/VarHandle" ∧ (parseMethodDescriptor yX11_seatedIn.desc).map (fun d => d.parameters.length) = some 1 ∧ m_X11_seatedIn.2.2.1 ≤ 45) := ⟨gw_of (in_8 (List.mem_of_getElem? (i := 95) rfl)) rfl, gw_sel (List.mem_of_getElem? (i := 107) rfl) rfl, gw_of (in_1 (List.mem_of_getElem? (i := 18) rfl)) rfl, gw_of (in_8 (List.mem_of_getElem? (i := 96) rfl)) rfl, ⟨by decide +kernel, by decide +kernel, by decide +kernel, by decide +kernel, by decide +kernel⟩⟩
set_option maxRecDepth 100000 in
theorem yv_X11_hearingOf : Cond.instanceMethod yX11_hearingOf ∈ gw ∧ Cond.selects yX11_hearingOf.cls yX11_hearingOf yX11_hearingOf ∈ gw ∧ Cond.initialized yX11_hearingOf.cls ∈ gw ∧ cdM m_X11_hearingOf ∈ gw ∧ (plainName yX11_hearingOf.cls = true ∧ yX11_hearingOf.cls ≠ "java/lang/invoke/MethodHandle" ∧ yX11_hearingOf.cls ≠ "java/lang/invoke/VarHandle" ∧ (parseMethodDescriptor yX11_hearingOf.desc).map (fun d => d.parameters.length) = some 1 ∧ m_X11_hearingOf.2.2.1 ≤ 45) := ⟨gw_of (in_8 (List.mem_of_getElem? (i := 91) rfl)) rfl, gw_sel (List.mem_of_getElem? (i := 106) rfl) rfl, gw_of (in_1 (List.mem_of_getElem? (i := 18) rfl)) rfl, gw_of (in_8 (List.mem_of_getElem? (i := 92) rfl)) rfl, ⟨by decide +kernel, by decide +kernel, by decide +kernel, by decide +kernel, by decide +kernel⟩⟩
set_option maxRecDepth 100000 in
theorem yv_X11_loadRead : Cond.instanceMethod yX11_loadRead ∈ gw ∧ Cond.selects yX11_loadRead.cls yX11_loadRead yX11_loadRead ∈ gw ∧ Cond.initialized yX11_loadRead.cls ∈ gw ∧ cdM m_X11_loadRead ∈ gw ∧ (plainName yX11_loadRead.cls = true ∧ yX11_loadRead.cls ≠ "java/lang/invoke/MethodHandle" ∧ yX11_loadRead.cls ≠ "java/lang/invoke/VarHandle" ∧ (parseMethodDescriptor yX11_loadRead.desc).map (fun d => d.parameters.length) = some 0 ∧ m_X11_loadRead.2.2.1 ≤ 45) := ⟨gw_of (in_8 (List.mem_of_getElem? (i := 63) rfl)) rfl, gw_sel (List.mem_of_getElem? (i := 100) rfl) rfl, gw_of (in_1 (List.mem_of_getElem? (i := 18) rfl)) rfl, gw_of (in_8 (List.mem_of_getElem? (i := 64) rfl)) rfl, ⟨by decide +kernel, by decide +kernel, by decide +kernel, by decide +kernel, by decide +kernel⟩⟩
set_option maxRecDepth 100000 in
theorem yv_X11_draw : Cond.instanceMethod yX11_draw ∈ gw ∧ Cond.selects yX11_draw.cls yX11_draw yX11_draw ∈ gw ∧ Cond.initialized yX11_draw.cls ∈ gw ∧ cdM m_X11_draw ∈ gw ∧ (plainName yX11_draw.cls = true ∧ yX11_draw.cls ≠ "java/lang/invoke/MethodHandle" ∧ yX11_draw.cls ≠ "java/lang/invoke/VarHandle" ∧ (parseMethodDescriptor yX11_draw.desc).map (fun d => d.parameters.length) = some 0 ∧ m_X11_draw.2.2.1 ≤ 45) := ⟨gw_of (in_8 (List.mem_of_getElem? (i := 150) rfl)) rfl, gw_sel (List.mem_of_getElem? (i := 115) rfl) rfl, gw_of (in_1 (List.mem_of_getElem? (i := 18) rfl)) rfl, gw_of (in_8 (List.mem_of_getElem? (i := 151) rfl)) rfl, ⟨by decide +kernel, by decide +kernel, by decide +kernel, by decide +kernel, by decide +kernel⟩⟩
set_option maxRecDepth 100000 in
theorem yv_X11_isRisen : Cond.instanceMethod yX11_isRisen ∈ gw ∧ Cond.selects yX11_isRisen.cls yX11_isRisen yX11_isRisen ∈ gw ∧ Cond.initialized yX11_isRisen.cls ∈ gw ∧ cdM m_X11_isRisen ∈ gw ∧ (plainName yX11_isRisen.cls = true ∧ yX11_isRisen.cls ≠ "java/lang/invoke/MethodHandle" ∧ yX11_isRisen.cls ≠ "java/lang/invoke/VarHandle" ∧ (parseMethodDescriptor yX11_isRisen.desc).map (fun d => d.parameters.length) = some 1 ∧ m_X11_isRisen.2.2.1 ≤ 45) := ⟨gw_of (in_8 (List.mem_of_getElem? (i := 146) rfl)) rfl, gw_sel (List.mem_of_getElem? (i := 114) rfl) rfl, gw_of (in_1 (List.mem_of_getElem? (i := 18) rfl)) rfl, gw_of (in_8 (List.mem_of_getElem? (i := 147) rfl)) rfl, ⟨by decide +kernel, by decide +kernel, by decide +kernel, by decide +kernel, by decide +kernel⟩⟩
set_option maxRecDepth 100000 in
theorem yv_X11_goSunday : Cond.instanceMethod yX11_goSunday ∈ gw ∧ Cond.selects yX11_goSunday.cls yX11_goSunday yX11_goSunday ∈ gw ∧ Cond.initialized yX11_goSunday.cls ∈ gw ∧ cdM m_X11_goSunday ∈ gw ∧ (plainName yX11_goSunday.cls = true ∧ yX11_goSunday.cls ≠ "java/lang/invoke/MethodHandle" ∧ yX11_goSunday.cls ≠ "java/lang/invoke/VarHandle" ∧ (parseMethodDescriptor yX11_goSunday.desc).map (fun d => d.parameters.length) = some 0 ∧ m_X11_goSunday.2.2.1 ≤ 45) := ⟨gw_of (in_8 (List.mem_of_getElem? (i := 142) rfl)) rfl, gw_sel (List.mem_of_getElem? (i := 113) rfl) rfl, gw_of (in_1 (List.mem_of_getElem? (i := 18) rfl)) rfl, gw_of (in_8 (List.mem_of_getElem? (i := 143) rfl)) rfl, ⟨by decide +kernel, by decide +kernel, by decide +kernel, by decide +kernel, by decide +kernel⟩⟩
set_option maxRecDepth 100000 in
theorem yv_X11_person : Cond.instanceMethod yX11_person ∈ gw ∧ Cond.selects yX11_person.cls yX11_person yX11_person ∈ gw ∧ Cond.initialized yX11_person.cls ∈ gw ∧ cdM m_X11_person ∈ gw ∧ (plainName yX11_person.cls = true ∧ yX11_person.cls ≠ "java/lang/invoke/MethodHandle" ∧ yX11_person.cls ≠ "java/lang/invoke/VarHandle" ∧ (parseMethodDescriptor yX11_person.desc).map (fun d => d.parameters.length) = some 2 ∧ m_X11_person.2.2.1 ≤ 45) := ⟨gw_of (in_8 (List.mem_of_getElem? (i := 14) rfl)) rfl, gw_of (in_8 (List.mem_of_getElem? (i := 15) rfl)) rfl, gw_of (in_1 (List.mem_of_getElem? (i := 18) rfl)) rfl, gw_of (in_8 (List.mem_of_getElem? (i := 16) rfl)) rfl, ⟨by decide +kernel, by decide +kernel, by decide +kernel, by decide +kernel, by decide +kernel⟩⟩
set_option maxRecDepth 100000 in
theorem yv_X11_pair : Cond.instanceMethod yX11_pair ∈ gw ∧ Cond.selects yX11_pair.cls yX11_pair yX11_pair ∈ gw ∧ Cond.initialized yX11_pair.cls ∈ gw ∧ cdM m_X11_pair ∈ gw ∧ (plainName yX11_pair.cls = true ∧ yX11_pair.cls ≠ "java/lang/invoke/MethodHandle" ∧ yX11_pair.cls ≠ "java/lang/invoke/VarHandle" ∧ (parseMethodDescriptor yX11_pair.desc).map (fun d => d.parameters.length) = some 2 ∧ m_X11_pair.2.2.1 ≤ 45) := ⟨gw_of (in_8 (List.mem_of_getElem? (i := 54) rfl)) rfl, gw_of (in_8 (List.mem_of_getElem? (i := 55) rfl)) rfl, gw_of (in_1 (List.mem_of_getElem? (i := 18) rfl)) rfl, gw_of (in_8 (List.mem_of_getElem? (i := 56) rfl)) rfl, ⟨by decide +kernel, by decide +kernel, by decide +kernel, by decide +kernel, by decide +kernel⟩⟩
set_option maxRecDepth 100000 in
theorem yv_X11_hearing : Cond.instanceMethod yX11_hearing ∈ gw ∧ Cond.selects yX11_hearing.cls yX11_hearing yX11_hearing ∈ gw ∧ Cond.initialized yX11_hearing.cls ∈ gw ∧ cdM m_X11_hearing ∈ gw ∧ (plainName yX11_hearing.cls = true ∧ yX11_hearing.cls ≠ "java/lang/invoke/MethodHandle" ∧ yX11_hearing.cls ≠ "java/lang/invoke/VarHandle" ∧ (parseMethodDescriptor yX11_hearing.desc).map (fun d => d.parameters.length) = some 1 ∧ m_X11_hearing.2.2.1 ≤ 45) := ⟨gw_of (in_8 (List.mem_of_getElem? (i := 86) rfl)) rfl, gw_of (in_8 (List.mem_of_getElem? (i := 87) rfl)) rfl, gw_of (in_1 (List.mem_of_getElem? (i := 18) rfl)) rfl, gw_of (in_8 (List.mem_of_getElem? (i := 88) rfl)) rfl, ⟨by decide +kernel, by decide +kernel, by decide +kernel, by decide +kernel, by decide +kernel⟩⟩
set_option maxRecDepth 100000 in
theorem yv_X11_church_ : Cond.instanceMethod yX11_church_ ∈ gw ∧ Cond.selects yX11_church_.cls yX11_church_ yX11_church_ ∈ gw ∧ Cond.initialized yX11_church_.cls ∈ gw ∧ cdM m_X11_church_ ∈ gw ∧ (plainName yX11_church_.cls = true ∧ yX11_church_.cls ≠ "java/lang/invoke/MethodHandle" ∧ yX11_church_.cls ≠ "java/lang/invoke/VarHandle" ∧ (parseMethodDescriptor yX11_church_.desc).map (fun d => d.parameters.length) = some 2 ∧ m_X11_church_.2.2.1 ≤ 45) := ⟨gw_of (in_8 (List.mem_of_getElem? (i := 105) rfl)) rfl, gw_of (in_8 (List.mem_of_getElem? (i := 106) rfl)) rfl, gw_of (in_1 (List.mem_of_getElem? (i := 18) rfl)) rfl, gw_of (in_8 (List.mem_of_getElem? (i := 107) rfl)) rfl, ⟨by decide +kernel, by decide +kernel, by decide +kernel, by decide +kernel, by decide +kernel⟩⟩
set_option maxRecDepth 100000 in
theorem yv_X11_act : Cond.instanceMethod yX11_act ∈ gw ∧ Cond.selects yX11_act.cls yX11_act yX11_act ∈ gw ∧ Cond.initialized yX11_act.cls ∈ gw ∧ cdM m_X11_act ∈ gw ∧ (plainName yX11_act.cls = true ∧ yX11_act.cls ≠ "java/lang/invoke/MethodHandle" ∧ yX11_act.cls ≠ "java/lang/invoke/VarHandle" ∧ (parseMethodDescriptor yX11_act.desc).map (fun d => d.parameters.length) = some 0 ∧ m_X11_act.2.2.1 ≤ 45) := ⟨gw_of (in_8 (List.mem_of_getElem? (i := 122) rfl)) rfl, gw_sel (List.mem_of_getElem? (i := 111) rfl) rfl, gw_of (in_1 (List.mem_of_getElem? (i := 18) rfl)) rfl, gw_of (in_8 (List.mem_of_getElem? (i := 123) rfl)) rfl, ⟨by decide +kernel, by decide +kernel, by decide +kernel, by decide +kernel, by decide +kernel⟩⟩
set_option maxRecDepth 100000 in
theorem yv_X11_exchange : Cond.instanceMethod yX11_exchange ∈ gw ∧ Cond.selects yX11_exchange.cls yX11_exchange yX11_exchange ∈ gw ∧ Cond.initialized yX11_exchange.cls ∈ gw ∧ cdM m_X11_exchange ∈ gw ∧ (plainName yX11_exchange.cls = true ∧ yX11_exchange.cls ≠ "java/lang/invoke/MethodHandle" ∧ yX11_exchange.cls ≠ "java/lang/invoke/VarHandle" ∧ (parseMethodDescriptor yX11_exchange.desc).map (fun d => d.parameters.length) = some 1 ∧ m_X11_exchange.2.2.1 ≤ 45) := ⟨gw_of (in_8 (List.mem_of_getElem? (i := 158) rfl)) rfl, gw_sel (List.mem_of_getElem? (i := 116) rfl) rfl, gw_of (in_1 (List.mem_of_getElem? (i := 18) rfl)) rfl, gw_of (in_8 (List.mem_of_getElem? (i := 159) rfl)) rfl, ⟨by decide +kernel, by decide +kernel, by decide +kernel, by decide +kernel, by decide +kernel⟩⟩
set_option maxRecDepth 100000 in
theorem yv_X11_sit : Cond.instanceMethod yX11_sit ∈ gw ∧ Cond.selects yX11_sit.cls yX11_sit yX11_sit ∈ gw ∧ Cond.initialized yX11_sit.cls ∈ gw ∧ cdM m_X11_sit ∈ gw ∧ (plainName yX11_sit.cls = true ∧ yX11_sit.cls ≠ "java/lang/invoke/MethodHandle" ∧ yX11_sit.cls ≠ "java/lang/invoke/VarHandle" ∧ (parseMethodDescriptor yX11_sit.desc).map (fun d => d.parameters.length) = some 2 ∧ m_X11_sit.2.2.1 ≤ 45) := ⟨gw_of (in_8 (List.mem_of_getElem? (i := 117) rfl)) rfl, gw_of (in_8 (List.mem_of_getElem? (i := 118) rfl)) rfl, gw_of (in_1 (List.mem_of_getElem? (i := 18) rfl)) rfl, gw_of (in_8 (List.mem_of_getElem? (i := 119) rfl)) rfl, ⟨by decide +kernel, by decide +kernel, by decide +kernel, by decide +kernel, by decide +kernel⟩⟩
set_option maxRecDepth 100000 in
theorem yv_X11_isOpen : Cond.instanceMethod yX11_isOpen ∈ gw ∧ Cond.selects yX11_isOpen.cls yX11_isOpen yX11_isOpen ∈ gw ∧ Cond.initialized yX11_isOpen.cls ∈ gw ∧ cdM m_X11_isOpen ∈ gw ∧ (plainName yX11_isOpen.cls = true ∧ yX11_isOpen.cls ≠ "java/lang/invoke/MethodHandle" ∧ yX11_isOpen.cls ≠ "java/lang/invoke/VarHandle" ∧ (parseMethodDescriptor yX11_isOpen.desc).map (fun d => d.parameters.length) = some 1 ∧ m_X11_isOpen.2.2.1 ≤ 45) := ⟨gw_of (in_8 (List.mem_of_getElem? (i := 130) rfl)) rfl, gw_sel (List.mem_of_getElem? (i := 112) rfl) rfl, gw_of (in_1 (List.mem_of_getElem? (i := 18) rfl)) rfl, gw_of (in_8 (List.mem_of_getElem? (i := 131) rfl)) rfl, ⟨by decide +kernel, by decide +kernel, by decide +kernel, by decide +kernel, by decide +kernel⟩⟩
set_option maxRecDepth 100000 in
theorem yv_X11_move : Cond.instanceMethod yX11_move ∈ gw ∧ Cond.selects yX11_move.cls yX11_move yX11_move ∈ gw ∧ Cond.initialized yX11_move.cls ∈ gw ∧ cdM m_X11_move ∈ gw ∧ (plainName yX11_move.cls = true ∧ yX11_move.cls ≠ "java/lang/invoke/MethodHandle" ∧ yX11_move.cls ≠ "java/lang/invoke/VarHandle" ∧ (parseMethodDescriptor yX11_move.desc).map (fun d => d.parameters.length) = some 3 ∧ m_X11_move.2.2.1 ≤ 45) := ⟨gw_of (in_8 (List.mem_of_getElem? (i := 125) rfl)) rfl, gw_of (in_8 (List.mem_of_getElem? (i := 126) rfl)) rfl, gw_of (in_1 (List.mem_of_getElem? (i := 18) rfl)) rfl, gw_of (in_8 (List.mem_of_getElem? (i := 127) rfl)) rfl, ⟨by decide +kernel, by decide +kernel, by decide +kernel, by decide +kernel, by decide +kernel⟩⟩
set_option maxRecDepth 100000 in
theorem yv_X11_licence : Cond.instanceMethod yX11_licence ∈ gw ∧ Cond.selects yX11_licence.cls yX11_licence yX11_licence ∈ gw ∧ Cond.initialized yX11_licence.cls ∈ gw ∧ cdM m_X11_licence ∈ gw ∧ (plainName yX11_licence.cls = true ∧ yX11_licence.cls ≠ "java/lang/invoke/MethodHandle" ∧ yX11_licence.cls ≠ "java/lang/invoke/VarHandle" ∧ (parseMethodDescriptor yX11_licence.desc).map (fun d => d.parameters.length) = some 1 ∧ m_X11_licence.2.2.1 ≤ 45) := ⟨gw_of (in_8 (List.mem_of_getElem? (i := 133) rfl)) rfl, gw_of (in_8 (List.mem_of_getElem? (i := 134) rfl)) rfl, gw_of (in_1 (List.mem_of_getElem? (i := 18) rfl)) rfl, gw_of (in_8 (List.mem_of_getElem? (i := 135) rfl)) rfl, ⟨by decide +kernel, by decide +kernel, by decide +kernel, by decide +kernel, by decide +kernel⟩⟩
set_option maxRecDepth 100000 in
theorem yv_X11_sunday : Cond.instanceMethod yX11_sunday ∈ gw ∧ Cond.selects yX11_sunday.cls yX11_sunday yX11_sunday ∈ gw ∧ Cond.initialized yX11_sunday.cls ∈ gw ∧ cdM m_X11_sunday ∈ gw ∧ (plainName yX11_sunday.cls = true ∧ yX11_sunday.cls ≠ "java/lang/invoke/MethodHandle" ∧ yX11_sunday.cls ≠ "java/lang/invoke/VarHandle" ∧ (parseMethodDescriptor yX11_sunday.desc).map (fun d => d.parameters.length) = some 0 ∧ m_X11_sunday.2.2.1 ≤ 45) := ⟨gw_of (in_8 (List.mem_of_getElem? (i := 137) rfl)) rfl, gw_of (in_8 (List.mem_of_getElem? (i := 138) rfl)) rfl, gw_of (in_1 (List.mem_of_getElem? (i := 18) rfl)) rfl, gw_of (in_8 (List.mem_of_getElem? (i := 139) rfl)) rfl, ⟨by decide +kernel, by decide +kernel, by decide +kernel, by decide +kernel, by decide +kernel⟩⟩
set_option maxRecDepth 100000 in
theorem yv_X11_undo : Cond.instanceMethod yX11_undo ∈ gw ∧ Cond.selects yX11_undo.cls yX11_undo yX11_undo ∈ gw ∧ Cond.initialized yX11_undo.cls ∈ gw ∧ cdM m_X11_undo ∈ gw ∧ (plainName yX11_undo.cls = true ∧ yX11_undo.cls ≠ "java/lang/invoke/MethodHandle" ∧ yX11_undo.cls ≠ "java/lang/invoke/VarHandle" ∧ (parseMethodDescriptor yX11_undo.desc).map (fun d => d.parameters.length) = some 0 ∧ m_X11_undo.2.2.1 ≤ 45) := ⟨gw_of (in_8 (List.mem_of_getElem? (i := 153) rfl)) rfl, gw_of (in_8 (List.mem_of_getElem? (i := 154) rfl)) rfl, gw_of (in_1 (List.mem_of_getElem? (i := 18) rfl)) rfl, gw_of (in_8 (List.mem_of_getElem? (i := 155) rfl)) rfl, ⟨by decide +kernel, by decide +kernel, by decide +kernel, by decide +kernel, by decide +kernel⟩⟩
set_option maxRecDepth 100000 in
theorem yv_X11_redo : Cond.instanceMethod yX11_redo ∈ gw ∧ Cond.selects yX11_redo.cls yX11_redo yX11_redo ∈ gw ∧ Cond.initialized yX11_redo.cls ∈ gw ∧ cdM m_X11_redo ∈ gw ∧ (plainName yX11_redo.cls = true ∧ yX11_redo.cls ≠ "java/lang/invoke/MethodHandle" ∧ yX11_redo.cls ≠ "java/lang/invoke/VarHandle" ∧ (parseMethodDescriptor yX11_redo.desc).map (fun d => d.parameters.length) = some 0 ∧ m_X11_redo.2.2.1 ≤ 45) := ⟨gw_of (in_8 (List.mem_of_getElem? (i := 161) rfl)) rfl, gw_of (in_8 (List.mem_of_getElem? (i := 162) rfl)) rfl, gw_of (in_1 (List.mem_of_getElem? (i := 18) rfl)) rfl, gw_of (in_8 (List.mem_of_getElem? (i := 163) rfl)) rfl, ⟨by decide +kernel, by decide +kernel, by decide +kernel, by decide +kernel, by decide +kernel⟩⟩
set_option maxRecDepth 100000 in
theorem ys_X11_divisor : Cond.static yX11_divisor ∈ gw ∧ Cond.initialized yX11_divisor.cls ∈ gw ∧ cdM m_X11_divisor ∈ gw ∧ (plainName yX11_divisor.cls = true ∧ yX11_divisor.cls ≠ "java/lang/invoke/MethodHandle" ∧ yX11_divisor.cls ≠ "java/lang/invoke/VarHandle" ∧ (parseMethodDescriptor yX11_divisor.desc).map (fun d => d.parameters.length) = some 2 ∧ m_X11_divisor.2.2.1 ≤ 45) := ⟨gw_of (in_8 (List.mem_of_getElem? (i := 173) rfl)) rfl, gw_of (in_1 (List.mem_of_getElem? (i := 18) rfl)) rfl, gw_of (in_8 (List.mem_of_getElem? (i := 174) rfl)) rfl, ⟨by decide +kernel, by decide +kernel, by decide +kernel, by decide +kernel, by decide +kernel⟩⟩
set_option maxRecDepth 100000 in
theorem yv_X11_layQuiet : Cond.instanceMethod yX11_layQuiet ∈ gw ∧ Cond.selects yX11_layQuiet.cls yX11_layQuiet yX11_layQuiet ∈ gw ∧ Cond.initialized yX11_layQuiet.cls ∈ gw ∧ cdM m_X11_layQuiet ∈ gw ∧ (plainName yX11_layQuiet.cls = true ∧ yX11_layQuiet.cls ≠ "java/lang/invoke/MethodHandle" ∧ yX11_layQuiet.cls ≠ "java/lang/invoke/VarHandle" ∧ (parseMethodDescriptor yX11_layQuiet.desc).map (fun d => d.parameters.length) = some 3 ∧ m_X11_layQuiet.2.2.1 ≤ 45) := ⟨gw_of (in_8 (List.mem_of_getElem? (i := 170) rfl)) rfl, gw_sel (List.mem_of_getElem? (i := 117) rfl) rfl, gw_of (in_1 (List.mem_of_getElem? (i := 18) rfl)) rfl, gw_of (in_8 (List.mem_of_getElem? (i := 171) rfl)) rfl, ⟨by decide +kernel, by decide +kernel, by decide +kernel, by decide +kernel, by decide +kernel⟩⟩
set_option maxRecDepth 100000 in
theorem yv_X11_quiet : Cond.instanceMethod yX11_quiet ∈ gw ∧ Cond.selects yX11_quiet.cls yX11_quiet yX11_quiet ∈ gw ∧ Cond.initialized yX11_quiet.cls ∈ gw ∧ cdM m_X11_quiet ∈ gw ∧ (plainName yX11_quiet.cls = true ∧ yX11_quiet.cls ≠ "java/lang/invoke/MethodHandle" ∧ yX11_quiet.cls ≠ "java/lang/invoke/VarHandle" ∧ (parseMethodDescriptor yX11_quiet.desc).map (fun d => d.parameters.length) = some 4 ∧ m_X11_quiet.2.2.1 ≤ 45) := ⟨gw_of (in_8 (List.mem_of_getElem? (i := 165) rfl)) rfl, gw_of (in_8 (List.mem_of_getElem? (i := 166) rfl)) rfl, gw_of (in_1 (List.mem_of_getElem? (i := 18) rfl)) rfl, gw_of (in_8 (List.mem_of_getElem? (i := 167) rfl)) rfl, ⟨by decide +kernel, by decide +kernel, by decide +kernel, by decide +kernel, by decide +kernel⟩⟩
set_option maxRecDepth 100000 in
theorem yv_X11_quietest : Cond.instanceMethod yX11_quietest ∈ gw ∧ Cond.selects yX11_quietest.cls yX11_quietest yX11_quietest ∈ gw ∧ Cond.initialized yX11_quietest.cls ∈ gw ∧ cdM m_X11_quietest ∈ gw ∧ (plainName yX11_quietest.cls = true ∧ yX11_quietest.cls ≠ "java/lang/invoke/MethodHandle" ∧ yX11_quietest.cls ≠ "java/lang/invoke/VarHandle" ∧ (parseMethodDescriptor yX11_quietest.desc).map (fun d => d.parameters.length) = some 2 ∧ m_X11_quietest.2.2.1 ≤ 45) := ⟨gw_of (in_8 (List.mem_of_getElem? (i := 176) rfl)) rfl, gw_of (in_8 (List.mem_of_getElem? (i := 177) rfl)) rfl, gw_of (in_1 (List.mem_of_getElem? (i := 18) rfl)) rfl, gw_of (in_8 (List.mem_of_getElem? (i := 178) rfl)) rfl, ⟨by decide +kernel, by decide +kernel, by decide +kernel, by decide +kernel, by decide +kernel⟩⟩
set_option maxRecDepth 100000 in
theorem ys_X11_members : Cond.static yX11_members ∈ gw ∧ Cond.initialized yX11_members.cls ∈ gw ∧ cdM m_X11_members ∈ gw ∧ (plainName yX11_members.cls = true ∧ yX11_members.cls ≠ "java/lang/invoke/MethodHandle" ∧ yX11_members.cls ≠ "java/lang/invoke/VarHandle" ∧ (parseMethodDescriptor yX11_members.desc).map (fun d => d.parameters.length) = some 1 ∧ m_X11_members.2.2.1 ≤ 45) := ⟨gw_of (in_8 (List.mem_of_getElem? (i := 184) rfl)) rfl, gw_of (in_1 (List.mem_of_getElem? (i := 18) rfl)) rfl, gw_of (in_8 (List.mem_of_getElem? (i := 185) rfl)) rfl, ⟨by decide +kernel, by decide +kernel, by decide +kernel, by decide +kernel, by decide +kernel⟩⟩
set_option maxRecDepth 100000 in
theorem yv_X11_hush : Cond.instanceMethod yX11_hush ∈ gw ∧ Cond.selects yX11_hush.cls yX11_hush yX11_hush ∈ gw ∧ Cond.initialized yX11_hush.cls ∈ gw ∧ cdM m_X11_hush ∈ gw ∧ (plainName yX11_hush.cls = true ∧ yX11_hush.cls ≠ "java/lang/invoke/MethodHandle" ∧ yX11_hush.cls ≠ "java/lang/invoke/VarHandle" ∧ (parseMethodDescriptor yX11_hush.desc).map (fun d => d.parameters.length) = some 2 ∧ m_X11_hush.2.2.1 ≤ 45) := ⟨gw_of (in_8 (List.mem_of_getElem? (i := 180) rfl)) rfl, gw_of (in_8 (List.mem_of_getElem? (i := 181) rfl)) rfl, gw_of (in_1 (List.mem_of_getElem? (i := 18) rfl)) rfl, gw_of (in_8 (List.mem_of_getElem? (i := 182) rfl)) rfl, ⟨by decide +kernel, by decide +kernel, by decide +kernel, by decide +kernel, by decide +kernel⟩⟩
set_option maxRecDepth 100000 in
theorem yv_X11_will : Cond.instanceMethod yX11_will ∈ gw ∧ Cond.selects yX11_will.cls yX11_will yX11_will ∈ gw ∧ Cond.initialized yX11_will.cls ∈ gw ∧ cdM m_X11_will ∈ gw ∧ (plainName yX11_will.cls = true ∧ yX11_will.cls ≠ "java/lang/invoke/MethodHandle" ∧ yX11_will.cls ≠ "java/lang/invoke/VarHandle" ∧ (parseMethodDescriptor yX11_will.desc).map (fun d => d.parameters.length) = some 3 ∧ m_X11_will.2.2.1 ≤ 45) := ⟨gw_of (in_8 (List.mem_of_getElem? (i := 187) rfl)) rfl, gw_of (in_8 (List.mem_of_getElem? (i := 188) rfl)) rfl, gw_of (in_1 (List.mem_of_getElem? (i := 18) rfl)) rfl, gw_of (in_8 (List.mem_of_getElem? (i := 189) rfl)) rfl, ⟨by decide +kernel, by decide +kernel, by decide +kernel, by decide +kernel, by decide +kernel⟩⟩
set_option maxRecDepth 100000 in
theorem yv_X11_settles : Cond.instanceMethod yX11_settles ∈ gw ∧ Cond.selects yX11_settles.cls yX11_settles yX11_settles ∈ gw ∧ Cond.initialized yX11_settles.cls ∈ gw ∧ cdM m_X11_settles ∈ gw ∧ (plainName yX11_settles.cls = true ∧ yX11_settles.cls ≠ "java/lang/invoke/MethodHandle" ∧ yX11_settles.cls ≠ "java/lang/invoke/VarHandle" ∧ (parseMethodDescriptor yX11_settles.desc).map (fun d => d.parameters.length) = some 1 ∧ m_X11_settles.2.2.1 ≤ 45) := ⟨gw_of (in_8 (List.mem_of_getElem? (i := 191) rfl)) rfl, gw_of (in_8 (List.mem_of_getElem? (i := 192) rfl)) rfl, gw_of (in_1 (List.mem_of_getElem? (i := 18) rfl)) rfl, gw_of (in_8 (List.mem_of_getElem? (i := 193) rfl)) rfl, ⟨by decide +kernel, by decide +kernel, by decide +kernel, by decide +kernel, by decide +kernel⟩⟩
set_option maxRecDepth 100000 in
theorem ys_X11_dueOf : Cond.static yX11_dueOf ∈ gw ∧ Cond.initialized yX11_dueOf.cls ∈ gw ∧ cdM m_X11_dueOf ∈ gw ∧ (plainName yX11_dueOf.cls = true ∧ yX11_dueOf.cls ≠ "java/lang/invoke/MethodHandle" ∧ yX11_dueOf.cls ≠ "java/lang/invoke/VarHandle" ∧ (parseMethodDescriptor yX11_dueOf.desc).map (fun d => d.parameters.length) = some 2 ∧ m_X11_dueOf.2.2.1 ≤ 45) := ⟨gw_of (in_8 (List.mem_of_getElem? (i := 215) rfl)) rfl, gw_of (in_1 (List.mem_of_getElem? (i := 18) rfl)) rfl, gw_of (in_8 (List.mem_of_getElem? (i := 216) rfl)) rfl, ⟨by decide +kernel, by decide +kernel, by decide +kernel, by decide +kernel, by decide +kernel⟩⟩
set_option maxRecDepth 100000 in
theorem yv_X11_firstRow : Cond.instanceMethod yX11_firstRow ∈ gw ∧ Cond.selects yX11_firstRow.cls yX11_firstRow yX11_firstRow ∈ gw ∧ Cond.initialized yX11_firstRow.cls ∈ gw ∧ cdM m_X11_firstRow ∈ gw ∧ (plainName yX11_firstRow.cls = true ∧ yX11_firstRow.cls ≠ "java/lang/invoke/MethodHandle" ∧ yX11_firstRow.cls ≠ "java/lang/invoke/VarHandle" ∧ (parseMethodDescriptor yX11_firstRow.desc).map (fun d => d.parameters.length) = some 0 ∧ m_X11_firstRow.2.2.1 ≤ 45) := ⟨gw_of (in_8 (List.mem_of_getElem? (i := 200) rfl)) rfl, gw_sel (List.mem_of_getElem? (i := 118) rfl) rfl, gw_of (in_1 (List.mem_of_getElem? (i := 18) rfl)) rfl, gw_of (in_8 (List.mem_of_getElem? (i := 201) rfl)) rfl, ⟨by decide +kernel, by decide +kernel, by decide +kernel, by decide +kernel, by decide +kernel⟩⟩
set_option maxRecDepth 100000 in
theorem yv_X11_mayRead : Cond.instanceMethod yX11_mayRead ∈ gw ∧ Cond.selects yX11_mayRead.cls yX11_mayRead yX11_mayRead ∈ gw ∧ Cond.initialized yX11_mayRead.cls ∈ gw ∧ cdM m_X11_mayRead ∈ gw ∧ (plainName yX11_mayRead.cls = true ∧ yX11_mayRead.cls ≠ "java/lang/invoke/MethodHandle" ∧ yX11_mayRead.cls ≠ "java/lang/invoke/VarHandle" ∧ (parseMethodDescriptor yX11_mayRead.desc).map (fun d => d.parameters.length) = some 3 ∧ m_X11_mayRead.2.2.1 ≤ 45) := ⟨gw_of (in_8 (List.mem_of_getElem? (i := 212) rfl)) rfl, gw_sel (List.mem_of_getElem? (i := 121) rfl) rfl, gw_of (in_1 (List.mem_of_getElem? (i := 18) rfl)) rfl, gw_of (in_8 (List.mem_of_getElem? (i := 213) rfl)) rfl, ⟨by decide +kernel, by decide +kernel, by decide +kernel, by decide +kernel, by decide +kernel⟩⟩
set_option maxRecDepth 100000 in
theorem yv_X11_readOn : Cond.instanceMethod yX11_readOn ∈ gw ∧ Cond.selects yX11_readOn.cls yX11_readOn yX11_readOn ∈ gw ∧ Cond.initialized yX11_readOn.cls ∈ gw ∧ cdM m_X11_readOn ∈ gw ∧ (plainName yX11_readOn.cls = true ∧ yX11_readOn.cls ≠ "java/lang/invoke/MethodHandle" ∧ yX11_readOn.cls ≠ "java/lang/invoke/VarHandle" ∧ (parseMethodDescriptor yX11_readOn.desc).map (fun d => d.parameters.length) = some 3 ∧ m_X11_readOn.2.2.1 ≤ 45) := ⟨gw_of (in_8 (List.mem_of_getElem? (i := 208) rfl)) rfl, gw_sel (List.mem_of_getElem? (i := 120) rfl) rfl, gw_of (in_1 (List.mem_of_getElem? (i := 18) rfl)) rfl, gw_of (in_8 (List.mem_of_getElem? (i := 209) rfl)) rfl, ⟨by decide +kernel, by decide +kernel, by decide +kernel, by decide +kernel, by decide +kernel⟩⟩
set_option maxRecDepth 100000 in
theorem yv_X11_goSeason : Cond.instanceMethod yX11_goSeason ∈ gw ∧ Cond.selects yX11_goSeason.cls yX11_goSeason yX11_goSeason ∈ gw ∧ Cond.initialized yX11_goSeason.cls ∈ gw ∧ cdM m_X11_goSeason ∈ gw ∧ (plainName yX11_goSeason.cls = true ∧ yX11_goSeason.cls ≠ "java/lang/invoke/MethodHandle" ∧ yX11_goSeason.cls ≠ "java/lang/invoke/VarHandle" ∧ (parseMethodDescriptor yX11_goSeason.desc).map (fun d => d.parameters.length) = some 1 ∧ m_X11_goSeason.2.2.1 ≤ 45) := ⟨gw_of (in_8 (List.mem_of_getElem? (i := 204) rfl)) rfl, gw_sel (List.mem_of_getElem? (i := 119) rfl) rfl, gw_of (in_1 (List.mem_of_getElem? (i := 18) rfl)) rfl, gw_of (in_8 (List.mem_of_getElem? (i := 205) rfl)) rfl, ⟨by decide +kernel, by decide +kernel, by decide +kernel, by decide +kernel, by decide +kernel⟩⟩
set_option maxRecDepth 100000 in
theorem yv_X11_readBy : Cond.instanceMethod yX11_readBy ∈ gw ∧ Cond.selects yX11_readBy.cls yX11_readBy yX11_readBy ∈ gw ∧ Cond.initialized yX11_readBy.cls ∈ gw ∧ cdM m_X11_readBy ∈ gw ∧ (plainName yX11_readBy.cls = true ∧ yX11_readBy.cls ≠ "java/lang/invoke/MethodHandle" ∧ yX11_readBy.cls ≠ "java/lang/invoke/VarHandle" ∧ (parseMethodDescriptor yX11_readBy.desc).map (fun d => d.parameters.length) = some 1 ∧ m_X11_readBy.2.2.1 ≤ 45) := ⟨gw_of (in_8 (List.mem_of_getElem? (i := 219) rfl)) rfl, gw_sel (List.mem_of_getElem? (i := 122) rfl) rfl, gw_of (in_1 (List.mem_of_getElem? (i := 18) rfl)) rfl, gw_of (in_8 (List.mem_of_getElem? (i := 220) rfl)) rfl, ⟨by decide +kernel, by decide +kernel, by decide +kernel, by decide +kernel, by decide +kernel⟩⟩
set_option maxRecDepth 100000 in
theorem yv_X11_season : Cond.instanceMethod yX11_season ∈ gw ∧ Cond.selects yX11_season.cls yX11_season yX11_season ∈ gw ∧ Cond.initialized yX11_season.cls ∈ gw ∧ cdM m_X11_season ∈ gw ∧ (plainName yX11_season.cls = true ∧ yX11_season.cls ≠ "java/lang/invoke/MethodHandle" ∧ yX11_season.cls ≠ "java/lang/invoke/VarHandle" ∧ (parseMethodDescriptor yX11_season.desc).map (fun d => d.parameters.length) = some 1 ∧ m_X11_season.2.2.1 ≤ 45) := ⟨gw_of (in_8 (List.mem_of_getElem? (i := 195) rfl)) rfl, gw_of (in_8 (List.mem_of_getElem? (i := 196) rfl)) rfl, gw_of (in_1 (List.mem_of_getElem? (i := 18) rfl)) rfl, gw_of (in_8 (List.mem_of_getElem? (i := 197) rfl)) rfl, ⟨by decide +kernel, by decide +kernel, by decide +kernel, by decide +kernel, by decide +kernel⟩⟩
set_option maxRecDepth 100000 in
theorem yv_X11_kinPairs : Cond.instanceMethod yX11_kinPairs ∈ gw ∧ Cond.selects yX11_kinPairs.cls yX11_kinPairs yX11_kinPairs ∈ gw ∧ Cond.initialized yX11_kinPairs.cls ∈ gw ∧ cdM m_X11_kinPairs ∈ gw ∧ (plainName yX11_kinPairs.cls = true ∧ yX11_kinPairs.cls ≠ "java/lang/invoke/MethodHandle" ∧ yX11_kinPairs.cls ≠ "java/lang/invoke/VarHandle" ∧ (parseMethodDescriptor yX11_kinPairs.desc).map (fun d => d.parameters.length) = some 1 ∧ m_X11_kinPairs.2.2.1 ≤ 45) := ⟨gw_of (in_8 (List.mem_of_getElem? (i := 227) rfl)) rfl, gw_sel (List.mem_of_getElem? (i := 123) rfl) rfl, gw_of (in_1 (List.mem_of_getElem? (i := 18) rfl)) rfl, gw_of (in_8 (List.mem_of_getElem? (i := 228) rfl)) rfl, ⟨by decide +kernel, by decide +kernel, by decide +kernel, by decide +kernel, by decide +kernel⟩⟩
set_option maxRecDepth 100000 in
theorem yv_X11_law : Cond.instanceMethod yX11_law ∈ gw ∧ Cond.selects yX11_law.cls yX11_law yX11_law ∈ gw ∧ Cond.initialized yX11_law.cls ∈ gw ∧ cdM m_X11_law ∈ gw ∧ (plainName yX11_law.cls = true ∧ yX11_law.cls ≠ "java/lang/invoke/MethodHandle" ∧ yX11_law.cls ≠ "java/lang/invoke/VarHandle" ∧ (parseMethodDescriptor yX11_law.desc).map (fun d => d.parameters.length) = some 1 ∧ m_X11_law.2.2.1 ≤ 45) := ⟨gw_of (in_8 (List.mem_of_getElem? (i := 222) rfl)) rfl, gw_of (in_8 (List.mem_of_getElem? (i := 223) rfl)) rfl, gw_of (in_1 (List.mem_of_getElem? (i := 18) rfl)) rfl, gw_of (in_8 (List.mem_of_getElem? (i := 224) rfl)) rfl, ⟨by decide +kernel, by decide +kernel, by decide +kernel, by decide +kernel, by decide +kernel⟩⟩
set_option maxRecDepth 100000 in
theorem yv_X11_isFree : Cond.instanceMethod yX11_isFree ∈ gw ∧ Cond.selects yX11_isFree.cls yX11_isFree yX11_isFree ∈ gw ∧ Cond.initialized yX11_isFree.cls ∈ gw ∧ cdM m_X11_isFree ∈ gw ∧ (plainName yX11_isFree.cls = true ∧ yX11_isFree.cls ≠ "java/lang/invoke/MethodHandle" ∧ yX11_isFree.cls ≠ "java/lang/invoke/VarHandle" ∧ (parseMethodDescriptor yX11_isFree.desc).map (fun d => d.parameters.length) = some 1 ∧ m_X11_isFree.2.2.1 ≤ 45) := ⟨gw_of (in_8 (List.mem_of_getElem? (i := 235) rfl)) rfl, gw_sel (List.mem_of_getElem? (i := 124) rfl) rfl, gw_of (in_1 (List.mem_of_getElem? (i := 18) rfl)) rfl, gw_of (in_8 (List.mem_of_getElem? (i := 236) rfl)) rfl, ⟨by decide +kernel, by decide +kernel, by decide +kernel, by decide +kernel, by decide +kernel⟩⟩
set_option maxRecDepth 100000 in
theorem yv_X11_free : Cond.instanceMethod yX11_free ∈ gw ∧ Cond.selects yX11_free.cls yX11_free yX11_free ∈ gw ∧ Cond.initialized yX11_free.cls ∈ gw ∧ cdM m_X11_free ∈ gw ∧ (plainName yX11_free.cls = true ∧ yX11_free.cls ≠ "java/lang/invoke/MethodHandle" ∧ yX11_free.cls ≠ "java/lang/invoke/VarHandle" ∧ (parseMethodDescriptor yX11_free.desc).map (fun d => d.parameters.length) = some 0 ∧ m_X11_free.2.2.1 ≤ 45) := ⟨gw_of (in_8 (List.mem_of_getElem? (i := 230) rfl)) rfl, gw_of (in_8 (List.mem_of_getElem? (i := 231) rfl)) rfl, gw_of (in_1 (List.mem_of_getElem? (i := 18) rfl)) rfl, gw_of (in_8 (List.mem_of_getElem? (i := 232) rfl)) rfl, ⟨by decide +kernel, by decide +kernel, by decide +kernel, by decide +kernel, by decide +kernel⟩⟩
set_option maxRecDepth 100000 in
theorem yv_X11_tell : Cond.instanceMethod yX11_tell ∈ gw ∧ Cond.selects yX11_tell.cls yX11_tell yX11_tell ∈ gw ∧ Cond.initialized yX11_tell.cls ∈ gw ∧ cdM m_X11_tell ∈ gw ∧ (plainName yX11_tell.cls = true ∧ yX11_tell.cls ≠ "java/lang/invoke/MethodHandle" ∧ yX11_tell.cls ≠ "java/lang/invoke/VarHandle" ∧ (parseMethodDescriptor yX11_tell.desc).map (fun d => d.parameters.length) = some 4 ∧ m_X11_tell.2.2.1 ≤ 45) := ⟨gw_of (in_9 (List.mem_of_getElem? (i := 3) rfl)) rfl, gw_sel (List.mem_of_getElem? (i := 125) rfl) rfl, gw_of (in_1 (List.mem_of_getElem? (i := 18) rfl)) rfl, gw_of (in_9 (List.mem_of_getElem? (i := 4) rfl)) rfl, ⟨by decide +kernel, by decide +kernel, by decide +kernel, by decide +kernel, by decide +kernel⟩⟩
set_option maxRecDepth 100000 in
theorem yv_X11_sits : Cond.instanceMethod yX11_sits ∈ gw ∧ Cond.selects yX11_sits.cls yX11_sits yX11_sits ∈ gw ∧ Cond.initialized yX11_sits.cls ∈ gw ∧ cdM m_X11_sits ∈ gw ∧ (plainName yX11_sits.cls = true ∧ yX11_sits.cls ≠ "java/lang/invoke/MethodHandle" ∧ yX11_sits.cls ≠ "java/lang/invoke/VarHandle" ∧ (parseMethodDescriptor yX11_sits.desc).map (fun d => d.parameters.length) = some 2 ∧ m_X11_sits.2.2.1 ≤ 45) := ⟨gw_of (in_8 (List.mem_of_getElem? (i := 238) rfl)) rfl, gw_of (in_8 (List.mem_of_getElem? (i := 239) rfl)) rfl, gw_of (in_1 (List.mem_of_getElem? (i := 18) rfl)) rfl, gw_of (in_9 (List.mem_of_getElem? (i := 0) rfl)) rfl, ⟨by decide +kernel, by decide +kernel, by decide +kernel, by decide +kernel, by decide +kernel⟩⟩
set_option maxRecDepth 100000 in
theorem yv_X11_knew : Cond.instanceMethod yX11_knew ∈ gw ∧ Cond.selects yX11_knew.cls yX11_knew yX11_knew ∈ gw ∧ Cond.initialized yX11_knew.cls ∈ gw ∧ cdM m_X11_knew ∈ gw ∧ (plainName yX11_knew.cls = true ∧ yX11_knew.cls ≠ "java/lang/invoke/MethodHandle" ∧ yX11_knew.cls ≠ "java/lang/invoke/VarHandle" ∧ (parseMethodDescriptor yX11_knew.desc).map (fun d => d.parameters.length) = some 2 ∧ m_X11_knew.2.2.1 ≤ 45) := ⟨gw_of (in_9 (List.mem_of_getElem? (i := 6) rfl)) rfl, gw_of (in_9 (List.mem_of_getElem? (i := 7) rfl)) rfl, gw_of (in_1 (List.mem_of_getElem? (i := 18) rfl)) rfl, gw_of (in_9 (List.mem_of_getElem? (i := 8) rfl)) rfl, ⟨by decide +kernel, by decide +kernel, by decide +kernel, by decide +kernel, by decide +kernel⟩⟩
set_option maxRecDepth 100000 in
theorem yv_X11_kin : Cond.instanceMethod yX11_kin ∈ gw ∧ Cond.selects yX11_kin.cls yX11_kin yX11_kin ∈ gw ∧ Cond.initialized yX11_kin.cls ∈ gw ∧ cdM m_X11_kin ∈ gw ∧ (plainName yX11_kin.cls = true ∧ yX11_kin.cls ≠ "java/lang/invoke/MethodHandle" ∧ yX11_kin.cls ≠ "java/lang/invoke/VarHandle" ∧ (parseMethodDescriptor yX11_kin.desc).map (fun d => d.parameters.length) = some 3 ∧ m_X11_kin.2.2.1 ≤ 45) := ⟨gw_of (in_9 (List.mem_of_getElem? (i := 10) rfl)) rfl, gw_of (in_9 (List.mem_of_getElem? (i := 11) rfl)) rfl, gw_of (in_1 (List.mem_of_getElem? (i := 18) rfl)) rfl, gw_of (in_9 (List.mem_of_getElem? (i := 12) rfl)) rfl, ⟨by decide +kernel, by decide +kernel, by decide +kernel, by decide +kernel, by decide +kernel⟩⟩
set_option maxRecDepth 100000 in
theorem yv_X11_untell : Cond.instanceMethod yX11_untell ∈ gw ∧ Cond.selects yX11_untell.cls yX11_untell yX11_untell ∈ gw ∧ Cond.initialized yX11_untell.cls ∈ gw ∧ cdM m_X11_untell ∈ gw ∧ (plainName yX11_untell.cls = true ∧ yX11_untell.cls ≠ "java/lang/invoke/MethodHandle" ∧ yX11_untell.cls ≠ "java/lang/invoke/VarHandle" ∧ (parseMethodDescriptor yX11_untell.desc).map (fun d => d.parameters.length) = some 1 ∧ m_X11_untell.2.2.1 ≤ 45) := ⟨gw_of (in_9 (List.mem_of_getElem? (i := 14) rfl)) rfl, gw_of (in_9 (List.mem_of_getElem? (i := 15) rfl)) rfl, gw_of (in_1 (List.mem_of_getElem? (i := 18) rfl)) rfl, gw_of (in_9 (List.mem_of_getElem? (i := 16) rfl)) rfl, ⟨by decide +kernel, by decide +kernel, by decide +kernel, by decide +kernel, by decide +kernel⟩⟩
set_option maxRecDepth 100000 in
theorem yv_X11_later : Cond.instanceMethod yX11_later ∈ gw ∧ Cond.selects yX11_later.cls yX11_later yX11_later ∈ gw ∧ Cond.initialized yX11_later.cls ∈ gw ∧ cdM m_X11_later ∈ gw ∧ (plainName yX11_later.cls = true ∧ yX11_later.cls ≠ "java/lang/invoke/MethodHandle" ∧ yX11_later.cls ≠ "java/lang/invoke/VarHandle" ∧ (parseMethodDescriptor yX11_later.desc).map (fun d => d.parameters.length) = some 1 ∧ m_X11_later.2.2.1 ≤ 45) := ⟨gw_of (in_9 (List.mem_of_getElem? (i := 18) rfl)) rfl, gw_of (in_9 (List.mem_of_getElem? (i := 19) rfl)) rfl, gw_of (in_1 (List.mem_of_getElem? (i := 18) rfl)) rfl, gw_of (in_9 (List.mem_of_getElem? (i := 20) rfl)) rfl, ⟨by decide +kernel, by decide +kernel, by decide +kernel, by decide +kernel, by decide +kernel⟩⟩
set_option maxRecDepth 100000 in
theorem yv_X11_isSo : Cond.instanceMethod yX11_isSo ∈ gw ∧ Cond.selects yX11_isSo.cls yX11_isSo yX11_isSo ∈ gw ∧ Cond.initialized yX11_isSo.cls ∈ gw ∧ cdM m_X11_isSo ∈ gw ∧ (plainName yX11_isSo.cls = true ∧ yX11_isSo.cls ≠ "java/lang/invoke/MethodHandle" ∧ yX11_isSo.cls ≠ "java/lang/invoke/VarHandle" ∧ (parseMethodDescriptor yX11_isSo.desc).map (fun d => d.parameters.length) = some 2 ∧ m_X11_isSo.2.2.1 ≤ 45) := ⟨gw_of (in_9 (List.mem_of_getElem? (i := 32) rfl)) rfl, gw_sel (List.mem_of_getElem? (i := 127) rfl) rfl, gw_of (in_1 (List.mem_of_getElem? (i := 18) rfl)) rfl, gw_of (in_9 (List.mem_of_getElem? (i := 33) rfl)) rfl, ⟨by decide +kernel, by decide +kernel, by decide +kernel, by decide +kernel, by decide +kernel⟩⟩
set_option maxRecDepth 100000 in
theorem yv_X11_isMeant : Cond.instanceMethod yX11_isMeant ∈ gw ∧ Cond.selects yX11_isMeant.cls yX11_isMeant yX11_isMeant ∈ gw ∧ Cond.initialized yX11_isMeant.cls ∈ gw ∧ cdM m_X11_isMeant ∈ gw ∧ (plainName yX11_isMeant.cls = true ∧ yX11_isMeant.cls ≠ "java/lang/invoke/MethodHandle" ∧ yX11_isMeant.cls ≠ "java/lang/invoke/VarHandle" ∧ (parseMethodDescriptor yX11_isMeant.desc).map (fun d => d.parameters.length) = some 2 ∧ m_X11_isMeant.2.2.1 ≤ 45) := ⟨gw_of (in_9 (List.mem_of_getElem? (i := 28) rfl)) rfl, gw_sel (List.mem_of_getElem? (i := 126) rfl) rfl, gw_of (in_1 (List.mem_of_getElem? (i := 18) rfl)) rfl, gw_of (in_9 (List.mem_of_getElem? (i := 29) rfl)) rfl, ⟨by decide +kernel, by decide +kernel, by decide +kernel, by decide +kernel, by decide +kernel⟩⟩
set_option maxRecDepth 100000 in
theorem yv_X11_meant : Cond.instanceMethod yX11_meant ∈ gw ∧ Cond.selects yX11_meant.cls yX11_meant yX11_meant ∈ gw ∧ Cond.initialized yX11_meant.cls ∈ gw ∧ cdM m_X11_meant ∈ gw ∧ (plainName yX11_meant.cls = true ∧ yX11_meant.cls ≠ "java/lang/invoke/MethodHandle" ∧ yX11_meant.cls ≠ "java/lang/invoke/VarHandle" ∧ (parseMethodDescriptor yX11_meant.desc).map (fun d => d.parameters.length) = some 1 ∧ m_X11_meant.2.2.1 ≤ 45) := ⟨gw_of (in_9 (List.mem_of_getElem? (i := 23) rfl)) rfl, gw_of (in_9 (List.mem_of_getElem? (i := 24) rfl)) rfl, gw_of (in_1 (List.mem_of_getElem? (i := 18) rfl)) rfl, gw_of (in_9 (List.mem_of_getElem? (i := 25) rfl)) rfl, ⟨by decide +kernel, by decide +kernel, by decide +kernel, by decide +kernel, by decide +kernel⟩⟩
set_option maxRecDepth 100000 in
theorem yv_X11_ask : Cond.instanceMethod yX11_ask ∈ gw ∧ Cond.selects yX11_ask.cls yX11_ask yX11_ask ∈ gw ∧ Cond.initialized yX11_ask.cls ∈ gw ∧ cdM m_X11_ask ∈ gw ∧ (plainName yX11_ask.cls = true ∧ yX11_ask.cls ≠ "java/lang/invoke/MethodHandle" ∧ yX11_ask.cls ≠ "java/lang/invoke/VarHandle" ∧ (parseMethodDescriptor yX11_ask.desc).map (fun d => d.parameters.length) = some 2 ∧ m_X11_ask.2.2.1 ≤ 45) := ⟨gw_of (in_9 (List.mem_of_getElem? (i := 35) rfl)) rfl, gw_of (in_9 (List.mem_of_getElem? (i := 36) rfl)) rfl, gw_of (in_1 (List.mem_of_getElem? (i := 18) rfl)) rfl, gw_of (in_9 (List.mem_of_getElem? (i := 37) rfl)) rfl, ⟨by decide +kernel, by decide +kernel, by decide +kernel, by decide +kernel, by decide +kernel⟩⟩
set_option maxRecDepth 100000 in
theorem ys_X11_isBox : Cond.static yX11_isBox ∈ gw ∧ Cond.initialized yX11_isBox.cls ∈ gw ∧ cdM m_X11_isBox ∈ gw ∧ (plainName yX11_isBox.cls = true ∧ yX11_isBox.cls ≠ "java/lang/invoke/MethodHandle" ∧ yX11_isBox.cls ≠ "java/lang/invoke/VarHandle" ∧ (parseMethodDescriptor yX11_isBox.desc).map (fun d => d.parameters.length) = some 1 ∧ m_X11_isBox.2.2.1 ≤ 45) := ⟨gw_of (in_9 (List.mem_of_getElem? (i := 44) rfl)) rfl, gw_of (in_1 (List.mem_of_getElem? (i := 18) rfl)) rfl, gw_of (in_9 (List.mem_of_getElem? (i := 45) rfl)) rfl, ⟨by decide +kernel, by decide +kernel, by decide +kernel, by decide +kernel, by decide +kernel⟩⟩
set_option maxRecDepth 100000 in
theorem yv_X11_image : Cond.instanceMethod yX11_image ∈ gw ∧ Cond.selects yX11_image.cls yX11_image yX11_image ∈ gw ∧ Cond.initialized yX11_image.cls ∈ gw ∧ cdM m_X11_image ∈ gw ∧ (plainName yX11_image.cls = true ∧ yX11_image.cls ≠ "java/lang/invoke/MethodHandle" ∧ yX11_image.cls ≠ "java/lang/invoke/VarHandle" ∧ (parseMethodDescriptor yX11_image.desc).map (fun d => d.parameters.length) = some 1 ∧ m_X11_image.2.2.1 ≤ 45) := ⟨gw_of (in_9 (List.mem_of_getElem? (i := 40) rfl)) rfl, gw_of (in_9 (List.mem_of_getElem? (i := 41) rfl)) rfl, gw_of (in_1 (List.mem_of_getElem? (i := 18) rfl)) rfl, gw_of (in_9 (List.mem_of_getElem? (i := 42) rfl)) rfl, ⟨by decide +kernel, by decide +kernel, by decide +kernel, by decide +kernel, by decide +kernel⟩⟩
set_option maxRecDepth 100000 in
theorem yv_X11_back : Cond.instanceMethod yX11_back ∈ gw ∧ Cond.selects yX11_back.cls yX11_back yX11_back ∈ gw ∧ Cond.initialized yX11_back.cls ∈ gw ∧ cdM m_X11_back ∈ gw ∧ (plainName yX11_back.cls = true ∧ yX11_back.cls ≠ "java/lang/invoke/MethodHandle" ∧ yX11_back.cls ≠ "java/lang/invoke/VarHandle" ∧ (parseMethodDescriptor yX11_back.desc).map (fun d => d.parameters.length) = some 1 ∧ m_X11_back.2.2.1 ≤ 45) := ⟨gw_of (in_9 (List.mem_of_getElem? (i := 47) rfl)) rfl, gw_of (in_9 (List.mem_of_getElem? (i := 48) rfl)) rfl, gw_of (in_1 (List.mem_of_getElem? (i := 18) rfl)) rfl, gw_of (in_9 (List.mem_of_getElem? (i := 49) rfl)) rfl, ⟨by decide +kernel, by decide +kernel, by decide +kernel, by decide +kernel, by decide +kernel⟩⟩
set_option maxRecDepth 100000 in
theorem yv_X11_pairsThatAre : Cond.instanceMethod yX11_pairsThatAre ∈ gw ∧ Cond.selects yX11_pairsThatAre.cls yX11_pairsThatAre yX11_pairsThatAre ∈ gw ∧ Cond.initialized yX11_pairsThatAre.cls ∈ gw ∧ cdM m_X11_pairsThatAre ∈ gw ∧ (plainName yX11_pairsThatAre.cls = true ∧ yX11_pairsThatAre.cls ≠ "java/lang/invoke/MethodHandle" ∧ yX11_pairsThatAre.cls ≠ "java/lang/invoke/VarHandle" ∧ (parseMethodDescriptor yX11_pairsThatAre.desc).map (fun d => d.parameters.length) = some 1 ∧ m_X11_pairsThatAre.2.2.1 ≤ 45) := ⟨gw_of (in_9 (List.mem_of_getElem? (i := 56) rfl)) rfl, gw_sel (List.mem_of_getElem? (i := 128) rfl) rfl, gw_of (in_1 (List.mem_of_getElem? (i := 18) rfl)) rfl, gw_of (in_9 (List.mem_of_getElem? (i := 57) rfl)) rfl, ⟨by decide +kernel, by decide +kernel, by decide +kernel, by decide +kernel, by decide +kernel⟩⟩
set_option maxRecDepth 100000 in
theorem yv_X11_about : Cond.instanceMethod yX11_about ∈ gw ∧ Cond.selects yX11_about.cls yX11_about yX11_about ∈ gw ∧ Cond.initialized yX11_about.cls ∈ gw ∧ cdM m_X11_about ∈ gw ∧ (plainName yX11_about.cls = true ∧ yX11_about.cls ≠ "java/lang/invoke/MethodHandle" ∧ yX11_about.cls ≠ "java/lang/invoke/VarHandle" ∧ (parseMethodDescriptor yX11_about.desc).map (fun d => d.parameters.length) = some 1 ∧ m_X11_about.2.2.1 ≤ 45) := ⟨gw_of (in_9 (List.mem_of_getElem? (i := 51) rfl)) rfl, gw_of (in_9 (List.mem_of_getElem? (i := 52) rfl)) rfl, gw_of (in_1 (List.mem_of_getElem? (i := 18) rfl)) rfl, gw_of (in_9 (List.mem_of_getElem? (i := 53) rfl)) rfl, ⟨by decide +kernel, by decide +kernel, by decide +kernel, by decide +kernel, by decide +kernel⟩⟩
set_option maxRecDepth 100000 in
theorem ys_J11_isValidCodePoint_9a6ad : Cond.static yJ11_isValidCodePoint_9a6ad ∈ gw ∧ Cond.initialized yJ11_isValidCodePoint_9a6ad.cls ∈ gw ∧ cdM m_J11_isValidCodePoint_9a6ad ∈ gw ∧ (plainName yJ11_isValidCodePoint_9a6ad.cls = true ∧ yJ11_isValidCodePoint_9a6ad.cls ≠ "java/lang/invoke/MethodHandle" ∧ yJ11_isValidCodePoint_9a6ad.cls ≠ "java/lang/invoke/VarHandle" ∧ (parseMethodDescriptor yJ11_isValidCodePoint_9a6ad.desc).map (fun d => d.parameters.length) = some 1 ∧ m_J11_isValidCodePoint_9a6ad.2.2.1 ≤ 45) := ⟨gw_of (in_3 (List.mem_of_getElem? (i := 98) rfl)) rfl, gw_of (in_1 (List.mem_of_getElem? (i := 20) rfl)) rfl, gw_of (in_3 (List.mem_of_getElem? (i := 99) rfl)) rfl, ⟨by decide +kernel, by decide +kernel, by decide +kernel, by decide +kernel, by decide +kernel⟩⟩
set_option maxRecDepth 100000 in
theorem ys_J11_highSurrogate_5068e : Cond.static yJ11_highSurrogate_5068e ∈ gw ∧ Cond.initialized yJ11_highSurrogate_5068e.cls ∈ gw ∧ cdM m_J11_highSurrogate_5068e ∈ gw ∧ (plainName yJ11_highSurrogate_5068e.cls = true ∧ yJ11_highSurrogate_5068e.cls ≠ "java/lang/invoke/MethodHandle" ∧ yJ11_highSurrogate_5068e.cls ≠ "java/lang/invoke/VarHandle" ∧ (parseMethodDescriptor yJ11_highSurrogate_5068e.desc).map (fun d => d.parameters.length) = some 1 ∧ m_J11_highSurrogate_5068e.2.2.1 ≤ 45) := ⟨gw_of (in_3 (List.mem_of_getElem? (i := 101) rfl)) rfl, gw_of (in_1 (List.mem_of_getElem? (i := 20) rfl)) rfl, gw_of (in_3 (List.mem_of_getElem? (i := 102) rfl)) rfl, ⟨by decide +kernel, by decide +kernel, by decide +kernel, by decide +kernel, by decide +kernel⟩⟩
set_option maxRecDepth 100000 in
theorem ys_J11_lowSurrogate_5068e : Cond.static yJ11_lowSurrogate_5068e ∈ gw ∧ Cond.initialized yJ11_lowSurrogate_5068e.cls ∈ gw ∧ cdM m_J11_lowSurrogate_5068e ∈ gw ∧ (plainName yJ11_lowSurrogate_5068e.cls = true ∧ yJ11_lowSurrogate_5068e.cls ≠ "java/lang/invoke/MethodHandle" ∧ yJ11_lowSurrogate_5068e.cls ≠ "java/lang/invoke/VarHandle" ∧ (parseMethodDescriptor yJ11_lowSurrogate_5068e.desc).map (fun d => d.parameters.length) = some 1 ∧ m_J11_lowSurrogate_5068e.2.2.1 ≤ 45) := ⟨gw_of (in_3 (List.mem_of_getElem? (i := 105) rfl)) rfl, gw_of (in_1 (List.mem_of_getElem? (i := 20) rfl)) rfl, gw_of (in_3 (List.mem_of_getElem? (i := 106) rfl)) rfl, ⟨by decide +kernel, by decide +kernel, by decide +kernel, by decide +kernel, by decide +kernel⟩⟩
set_option maxRecDepth 100000 in
theorem ys_J6_bitCount_0f7a4 : Cond.static yJ6_bitCount_0f7a4 ∈ gw ∧ Cond.initialized yJ6_bitCount_0f7a4.cls ∈ gw ∧ cdM m_J6_bitCount_0f7a4 ∈ gw ∧ (plainName yJ6_bitCount_0f7a4.cls = true ∧ yJ6_bitCount_0f7a4.cls ≠ "java/lang/invoke/MethodHandle" ∧ yJ6_bitCount_0f7a4.cls ≠ "java/lang/invoke/VarHandle" ∧ (parseMethodDescriptor yJ6_bitCount_0f7a4.desc).map (fun d => d.parameters.length) = some 1 ∧ m_J6_bitCount_0f7a4.2.2.1 ≤ 45) := ⟨gw_of (in_3 (List.mem_of_getElem? (i := 185) rfl)) rfl, gw_of (in_1 (List.mem_of_getElem? (i := 21) rfl)) rfl, gw_of (in_3 (List.mem_of_getElem? (i := 186) rfl)) rfl, ⟨by decide +kernel, by decide +kernel, by decide +kernel, by decide +kernel, by decide +kernel⟩⟩
set_option maxRecDepth 100000 in
theorem yv_J0_length_8abf5 : Cond.instanceMethod yJ0_length_8abf5 ∈ gw ∧ Cond.selects yJ0_length_8abf5.cls yJ0_length_8abf5 yJ0_length_8abf5 ∈ gw ∧ Cond.initialized yJ0_length_8abf5.cls ∈ gw ∧ cdM m_J0_length_8abf5 ∈ gw ∧ (plainName yJ0_length_8abf5.cls = true ∧ yJ0_length_8abf5.cls ≠ "java/lang/invoke/MethodHandle" ∧ yJ0_length_8abf5.cls ≠ "java/lang/invoke/VarHandle" ∧ (parseMethodDescriptor yJ0_length_8abf5.desc).map (fun d => d.parameters.length) = some 0 ∧ m_J0_length_8abf5.2.2.1 ≤ 45) := ⟨gw_of (in_1 (List.mem_of_getElem? (i := 196) rfl)) rfl, gw_of (in_1 (List.mem_of_getElem? (i := 197) rfl)) rfl, gw_of (in_1 (List.mem_of_getElem? (i := 6) rfl)) rfl, gw_of (in_1 (List.mem_of_getElem? (i := 198) rfl)) rfl, ⟨by decide +kernel, by decide +kernel, by decide +kernel, by decide +kernel, by decide +kernel⟩⟩
set_option maxRecDepth 100000 in
theorem yv_J0_charAt_5068e : Cond.instanceMethod yJ0_charAt_5068e ∈ gw ∧ Cond.selects yJ0_charAt_5068e.cls yJ0_charAt_5068e yJ0_charAt_5068e ∈ gw ∧ Cond.initialized yJ0_charAt_5068e.cls ∈ gw ∧ cdM m_J0_charAt_5068e ∈ gw ∧ (plainName yJ0_charAt_5068e.cls = true ∧ yJ0_charAt_5068e.cls ≠ "java/lang/invoke/MethodHandle" ∧ yJ0_charAt_5068e.cls ≠ "java/lang/invoke/VarHandle" ∧ (parseMethodDescriptor yJ0_charAt_5068e.desc).map (fun d => d.parameters.length) = some 1 ∧ m_J0_charAt_5068e.2.2.1 ≤ 45) := ⟨gw_of (in_1 (List.mem_of_getElem? (i := 206) rfl)) rfl, gw_of (in_1 (List.mem_of_getElem? (i := 207) rfl)) rfl, gw_of (in_1 (List.mem_of_getElem? (i := 6) rfl)) rfl, gw_of (in_1 (List.mem_of_getElem? (i := 208) rfl)) rfl, ⟨by decide +kernel, by decide +kernel, by decide +kernel, by decide +kernel, by decide +kernel⟩⟩
set_option maxRecDepth 100000 in
theorem yv_J0_indexOf_0f7a4 : Cond.instanceMethod yJ0_indexOf_0f7a4 ∈ gw ∧ Cond.selects yJ0_indexOf_0f7a4.cls yJ0_indexOf_0f7a4 yJ0_indexOf_0f7a4 ∈ gw ∧ Cond.initialized yJ0_indexOf_0f7a4.cls ∈ gw ∧ cdM m_J0_indexOf_0f7a4 ∈ gw ∧ (plainName yJ0_indexOf_0f7a4.cls = true ∧ yJ0_indexOf_0f7a4.cls ≠ "java/lang/invoke/MethodHandle" ∧ yJ0_indexOf_0f7a4.cls ≠ "java/lang/invoke/VarHandle" ∧ (parseMethodDescriptor yJ0_indexOf_0f7a4.desc).map (fun d => d.parameters.length) = some 1 ∧ m_J0_indexOf_0f7a4.2.2.1 ≤ 45) := ⟨gw_of (in_3 (List.mem_of_getElem? (i := 50) rfl)) rfl, gw_of (in_3 (List.mem_of_getElem? (i := 51) rfl)) rfl, gw_of (in_1 (List.mem_of_getElem? (i := 6) rfl)) rfl, gw_of (in_3 (List.mem_of_getElem? (i := 52) rfl)) rfl, ⟨by decide +kernel, by decide +kernel, by decide +kernel, by decide +kernel, by decide +kernel⟩⟩
set_option maxRecDepth 100000 in
theorem yv_J0_indexOf_7cf53 : Cond.instanceMethod yJ0_indexOf_7cf53 ∈ gw ∧ Cond.selects yJ0_indexOf_7cf53.cls yJ0_indexOf_7cf53 yJ0_indexOf_7cf53 ∈ gw ∧ Cond.initialized yJ0_indexOf_7cf53.cls ∈ gw ∧ cdM m_J0_indexOf_7cf53 ∈ gw ∧ (plainName yJ0_indexOf_7cf53.cls = true ∧ yJ0_indexOf_7cf53.cls ≠ "java/lang/invoke/MethodHandle" ∧ yJ0_indexOf_7cf53.cls ≠ "java/lang/invoke/VarHandle" ∧ (parseMethodDescriptor yJ0_indexOf_7cf53.desc).map (fun d => d.parameters.length) = some 2 ∧ m_J0_indexOf_7cf53.2.2.1 ≤ 45) := ⟨gw_of (in_3 (List.mem_of_getElem? (i := 54) rfl)) rfl, gw_of (in_3 (List.mem_of_getElem? (i := 55) rfl)) rfl, gw_of (in_1 (List.mem_of_getElem? (i := 6) rfl)) rfl, gw_of (in_3 (List.mem_of_getElem? (i := 56) rfl)) rfl, ⟨by decide +kernel, by decide +kernel, by decide +kernel, by decide +kernel, by decide +kernel⟩⟩
set_option maxRecDepth 100000 in
theorem yv_J0_coder_7d493 : Cond.instanceMethod yJ0_coder_7d493 ∈ gw ∧ Cond.selects yJ0_coder_7d493.cls yJ0_coder_7d493 yJ0_coder_7d493 ∈ gw ∧ Cond.initialized yJ0_coder_7d493.cls ∈ gw ∧ cdM m_J0_coder_7d493 ∈ gw ∧ (plainName yJ0_coder_7d493.cls = true ∧ yJ0_coder_7d493.cls ≠ "java/lang/invoke/MethodHandle" ∧ yJ0_coder_7d493.cls ≠ "java/lang/invoke/VarHandle" ∧ (parseMethodDescriptor yJ0_coder_7d493.desc).map (fun d => d.parameters.length) = some 0 ∧ m_J0_coder_7d493.2.2.1 ≤ 45) := ⟨gw_of (in_1 (List.mem_of_getElem? (i := 200) rfl)) rfl, gw_of (in_1 (List.mem_of_getElem? (i := 201) rfl)) rfl, gw_of (in_1 (List.mem_of_getElem? (i := 6) rfl)) rfl, gw_of (in_1 (List.mem_of_getElem? (i := 202) rfl)) rfl, ⟨by decide +kernel, by decide +kernel, by decide +kernel, by decide +kernel, by decide +kernel⟩⟩
set_option maxRecDepth 100000 in
theorem yv_J0_isLatin1_aae02 : Cond.instanceMethod yJ0_isLatin1_aae02 ∈ gw ∧ Cond.selects yJ0_isLatin1_aae02.cls yJ0_isLatin1_aae02 yJ0_isLatin1_aae02 ∈ gw ∧ Cond.initialized yJ0_isLatin1_aae02.cls ∈ gw ∧ cdM m_J0_isLatin1_aae02 ∈ gw ∧ (plainName yJ0_isLatin1_aae02.cls = true ∧ yJ0_isLatin1_aae02.cls ≠ "java/lang/invoke/MethodHandle" ∧ yJ0_isLatin1_aae02.cls ≠ "java/lang/invoke/VarHandle" ∧ (parseMethodDescriptor yJ0_isLatin1_aae02.desc).map (fun d => d.parameters.length) = some 0 ∧ m_J0_isLatin1_aae02.2.2.1 ≤ 45) := ⟨gw_of (in_1 (List.mem_of_getElem? (i := 210) rfl)) rfl, gw_of (in_1 (List.mem_of_getElem? (i := 211) rfl)) rfl, gw_of (in_1 (List.mem_of_getElem? (i := 6) rfl)) rfl, gw_of (in_1 (List.mem_of_getElem? (i := 212) rfl)) rfl, ⟨by decide +kernel, by decide +kernel, by decide +kernel, by decide +kernel, by decide +kernel⟩⟩
set_option maxRecDepth 100000 in
theorem ys_J0_checkIndex_df160 : Cond.static yJ0_checkIndex_df160 ∈ gw ∧ Cond.initialized yJ0_checkIndex_df160.cls ∈ gw ∧ cdM m_J0_checkIndex_df160 ∈ gw ∧ (plainName yJ0_checkIndex_df160.cls = true ∧ yJ0_checkIndex_df160.cls ≠ "java/lang/invoke/MethodHandle" ∧ yJ0_checkIndex_df160.cls ≠ "java/lang/invoke/VarHandle" ∧ (parseMethodDescriptor yJ0_checkIndex_df160.desc).map (fun d => d.parameters.length) = some 2 ∧ m_J0_checkIndex_df160.2.2.1 ≤ 45) := ⟨gw_of (in_1 (List.mem_of_getElem? (i := 217) rfl)) rfl, gw_of (in_1 (List.mem_of_getElem? (i := 6) rfl)) rfl, gw_of (in_1 (List.mem_of_getElem? (i := 218) rfl)) rfl, ⟨by decide +kernel, by decide +kernel, by decide +kernel, by decide +kernel, by decide +kernel⟩⟩
set_option maxRecDepth 100000 in
theorem ys_J0_checkBoundsBeginEnd_23922 : Cond.static yJ0_checkBoundsBeginEnd_23922 ∈ gw ∧ Cond.initialized yJ0_checkBoundsBeginEnd_23922.cls ∈ gw ∧ cdM m_J0_checkBoundsBeginEnd_23922 ∈ gw ∧ (plainName yJ0_checkBoundsBeginEnd_23922.cls = true ∧ yJ0_checkBoundsBeginEnd_23922.cls ≠ "java/lang/invoke/MethodHandle" ∧ yJ0_checkBoundsBeginEnd_23922.cls ≠ "java/lang/invoke/VarHandle" ∧ (parseMethodDescriptor yJ0_checkBoundsBeginEnd_23922.desc).map (fun d => d.parameters.length) = some 3 ∧ m_J0_checkBoundsBeginEnd_23922.2.2.1 ≤ 45) := ⟨gw_of (in_3 (List.mem_of_getElem? (i := 86) rfl)) rfl, gw_of (in_1 (List.mem_of_getElem? (i := 6) rfl)) rfl, gw_of (in_3 (List.mem_of_getElem? (i := 87) rfl)) rfl, ⟨by decide +kernel, by decide +kernel, by decide +kernel, by decide +kernel, by decide +kernel⟩⟩
set_option maxRecDepth 100000 in
theorem ys_J1_charAt_3b067 : Cond.static yJ1_charAt_3b067 ∈ gw ∧ Cond.initialized yJ1_charAt_3b067.cls ∈ gw ∧ cdM m_J1_charAt_3b067 ∈ gw ∧ (plainName yJ1_charAt_3b067.cls = true ∧ yJ1_charAt_3b067.cls ≠ "java/lang/invoke/MethodHandle" ∧ yJ1_charAt_3b067.cls ≠ "java/lang/invoke/VarHandle" ∧ (parseMethodDescriptor yJ1_charAt_3b067.desc).map (fun d => d.parameters.length) = some 2 ∧ m_J1_charAt_3b067.2.2.1 ≤ 45) := ⟨gw_of (in_1 (List.mem_of_getElem? (i := 214) rfl)) rfl, gw_of (in_1 (List.mem_of_getElem? (i := 7) rfl)) rfl, gw_of (in_1 (List.mem_of_getElem? (i := 215) rfl)) rfl, ⟨by decide +kernel, by decide +kernel, by decide +kernel, by decide +kernel, by decide +kernel⟩⟩
set_option maxRecDepth 100000 in
theorem ys_J1_canEncode_9a6ad : Cond.static yJ1_canEncode_9a6ad ∈ gw ∧ Cond.initialized yJ1_canEncode_9a6ad.cls ∈ gw ∧ cdM m_J1_canEncode_9a6ad ∈ gw ∧ (plainName yJ1_canEncode_9a6ad.cls = true ∧ yJ1_canEncode_9a6ad.cls ≠ "java/lang/invoke/MethodHandle" ∧ yJ1_canEncode_9a6ad.cls ≠ "java/lang/invoke/VarHandle" ∧ (parseMethodDescriptor yJ1_canEncode_9a6ad.desc).map (fun d => d.parameters.length) = some 1 ∧ m_J1_canEncode_9a6ad.2.2.1 ≤ 45) := ⟨gw_of (in_3 (List.mem_of_getElem? (i := 62) rfl)) rfl, gw_of (in_1 (List.mem_of_getElem? (i := 7) rfl)) rfl, gw_of (in_3 (List.mem_of_getElem? (i := 63) rfl)) rfl, ⟨by decide +kernel, by decide +kernel, by decide +kernel, by decide +kernel, by decide +kernel⟩⟩
set_option maxRecDepth 100000 in
theorem ys_J1_indexOf_4cfef : Cond.static yJ1_indexOf_4cfef ∈ gw ∧ Cond.initialized yJ1_indexOf_4cfef.cls ∈ gw ∧ cdM m_J1_indexOf_4cfef ∈ gw ∧ (plainName yJ1_indexOf_4cfef.cls = true ∧ yJ1_indexOf_4cfef.cls ≠ "java/lang/invoke/MethodHandle" ∧ yJ1_indexOf_4cfef.cls ≠ "java/lang/invoke/VarHandle" ∧ (parseMethodDescriptor yJ1_indexOf_4cfef.desc).map (fun d => d.parameters.length) = some 4 ∧ m_J1_indexOf_4cfef.2.2.1 ≤ 45) := ⟨gw_of (in_3 (List.mem_of_getElem? (i := 59) rfl)) rfl, gw_of (in_1 (List.mem_of_getElem? (i := 7) rfl)) rfl, gw_of (in_3 (List.mem_of_getElem? (i := 60) rfl)) rfl, ⟨by decide +kernel, by decide +kernel, by decide +kernel, by decide +kernel, by decide +kernel⟩⟩
set_option maxRecDepth 100000 in
theorem ys_J1_indexOfChar_4cfef : Cond.static yJ1_indexOfChar_4cfef ∈ gw ∧ Cond.initialized yJ1_indexOfChar_4cfef.cls ∈ gw ∧ cdM m_J1_indexOfChar_4cfef ∈ gw ∧ (plainName yJ1_indexOfChar_4cfef.cls = true ∧ yJ1_indexOfChar_4cfef.cls ≠ "java/lang/invoke/MethodHandle" ∧ yJ1_indexOfChar_4cfef.cls ≠ "java/lang/invoke/VarHandle" ∧ (parseMethodDescriptor yJ1_indexOfChar_4cfef.desc).map (fun d => d.parameters.length) = some 4 ∧ m_J1_indexOfChar_4cfef.2.2.1 ≤ 45) := ⟨gw_of (in_3 (List.mem_of_getElem? (i := 71) rfl)) rfl, gw_of (in_1 (List.mem_of_getElem? (i := 7) rfl)) rfl, gw_of (in_3 (List.mem_of_getElem? (i := 72) rfl)) rfl, ⟨by decide +kernel, by decide +kernel, by decide +kernel, by decide +kernel, by decide +kernel⟩⟩
set_option maxRecDepth 100000 in
theorem ys_J2_getChar_3b067 : Cond.static yJ2_getChar_3b067 ∈ gw ∧ Cond.initialized yJ2_getChar_3b067.cls ∈ gw ∧ cdM m_J2_getChar_3b067 ∈ gw ∧ (plainName yJ2_getChar_3b067.cls = true ∧ yJ2_getChar_3b067.cls ≠ "java/lang/invoke/MethodHandle" ∧ yJ2_getChar_3b067.cls ≠ "java/lang/invoke/VarHandle" ∧ (parseMethodDescriptor yJ2_getChar_3b067.desc).map (fun d => d.parameters.length) = some 2 ∧ m_J2_getChar_3b067.2.2.1 ≤ 45) := ⟨gw_of (in_1 (List.mem_of_getElem? (i := 235) rfl)) rfl, gw_of (in_1 (List.mem_of_getElem? (i := 9) rfl)) rfl, gw_of (in_1 (List.mem_of_getElem? (i := 236) rfl)) rfl, ⟨by decide +kernel, by decide +kernel, by decide +kernel, by decide +kernel, by decide +kernel⟩⟩
set_option maxRecDepth 100000 in
theorem ys_J2_length_9d52b : Cond.static yJ2_length_9d52b ∈ gw ∧ Cond.initialized yJ2_length_9d52b.cls ∈ gw ∧ cdM m_J2_length_9d52b ∈ gw ∧ (plainName yJ2_length_9d52b.cls = true ∧ yJ2_length_9d52b.cls ≠ "java/lang/invoke/MethodHandle" ∧ yJ2_length_9d52b.cls ≠ "java/lang/invoke/VarHandle" ∧ (parseMethodDescriptor yJ2_length_9d52b.desc).map (fun d => d.parameters.length) = some 1 ∧ m_J2_length_9d52b.2.2.1 ≤ 45) := ⟨gw_of (in_1 (List.mem_of_getElem? (i := 231) rfl)) rfl, gw_of (in_1 (List.mem_of_getElem? (i := 9) rfl)) rfl, gw_of (in_1 (List.mem_of_getElem? (i := 232) rfl)) rfl, ⟨by decide +kernel, by decide +kernel, by decide +kernel, by decide +kernel, by decide +kernel⟩⟩
set_option maxRecDepth 100000 in
theorem ys_J2_indexOf_4cfef : Cond.static yJ2_indexOf_4cfef ∈ gw ∧ Cond.initialized yJ2_indexOf_4cfef.cls ∈ gw ∧ cdM m_J2_indexOf_4cfef ∈ gw ∧ (plainName yJ2_indexOf_4cfef.cls = true ∧ yJ2_indexOf_4cfef.cls ≠ "java/lang/invoke/MethodHandle" ∧ yJ2_indexOf_4cfef.cls ≠ "java/lang/invoke/VarHandle" ∧ (parseMethodDescriptor yJ2_indexOf_4cfef.desc).map (fun d => d.parameters.length) = some 4 ∧ m_J2_indexOf_4cfef.2.2.1 ≤ 45) := ⟨gw_of (in_3 (List.mem_of_getElem? (i := 74) rfl)) rfl, gw_of (in_1 (List.mem_of_getElem? (i := 9) rfl)) rfl, gw_of (in_3 (List.mem_of_getElem? (i := 75) rfl)) rfl, ⟨by decide +kernel, by decide +kernel, by decide +kernel, by decide +kernel, by decide +kernel⟩⟩
set_option maxRecDepth 100000 in
theorem ys_J2_indexOfChar_4cfef : Cond.static yJ2_indexOfChar_4cfef ∈ gw ∧ Cond.initialized yJ2_indexOfChar_4cfef.cls ∈ gw ∧ cdM m_J2_indexOfChar_4cfef ∈ gw ∧ (plainName yJ2_indexOfChar_4cfef.cls = true ∧ yJ2_indexOfChar_4cfef.cls ≠ "java/lang/invoke/MethodHandle" ∧ yJ2_indexOfChar_4cfef.cls ≠ "java/lang/invoke/VarHandle" ∧ (parseMethodDescriptor yJ2_indexOfChar_4cfef.desc).map (fun d => d.parameters.length) = some 4 ∧ m_J2_indexOfChar_4cfef.2.2.1 ≤ 45) := ⟨gw_of (in_3 (List.mem_of_getElem? (i := 80) rfl)) rfl, gw_of (in_1 (List.mem_of_getElem? (i := 9) rfl)) rfl, gw_of (in_3 (List.mem_of_getElem? (i := 81) rfl)) rfl, ⟨by decide +kernel, by decide +kernel, by decide +kernel, by decide +kernel, by decide +kernel⟩⟩
set_option maxRecDepth 100000 in
theorem ys_J2_indexOfCharUnsafe_4cfef : Cond.static yJ2_indexOfCharUnsafe_4cfef ∈ gw ∧ Cond.initialized yJ2_indexOfCharUnsafe_4cfef.cls ∈ gw ∧ cdM m_J2_indexOfCharUnsafe_4cfef ∈ gw ∧ (plainName yJ2_indexOfCharUnsafe_4cfef.cls = true ∧ yJ2_indexOfCharUnsafe_4cfef.cls ≠ "java/lang/invoke/MethodHandle" ∧ yJ2_indexOfCharUnsafe_4cfef.cls ≠ "java/lang/invoke/VarHandle" ∧ (parseMethodDescriptor yJ2_indexOfCharUnsafe_4cfef.desc).map (fun d => d.parameters.length) = some 4 ∧ m_J2_indexOfCharUnsafe_4cfef.2.2.1 ≤ 45) := ⟨gw_of (in_3 (List.mem_of_getElem? (i := 92) rfl)) rfl, gw_of (in_1 (List.mem_of_getElem? (i := 9) rfl)) rfl, gw_of (in_3 (List.mem_of_getElem? (i := 93) rfl)) rfl, ⟨by decide +kernel, by decide +kernel, by decide +kernel, by decide +kernel, by decide +kernel⟩⟩
set_option maxRecDepth 100000 in
theorem ys_J2_indexOfSupplementary_4cfef : Cond.static yJ2_indexOfSupplementary_4cfef ∈ gw ∧ Cond.initialized yJ2_indexOfSupplementary_4cfef.cls ∈ gw ∧ cdM m_J2_indexOfSupplementary_4cfef ∈ gw ∧ (plainName yJ2_indexOfSupplementary_4cfef.cls = true ∧ yJ2_indexOfSupplementary_4cfef.cls ≠ "java/lang/invoke/MethodHandle" ∧ yJ2_indexOfSupplementary_4cfef.cls ≠ "java/lang/invoke/VarHandle" ∧ (parseMethodDescriptor yJ2_indexOfSupplementary_4cfef.desc).map (fun d => d.parameters.length) = some 4 ∧ m_J2_indexOfSupplementary_4cfef.2.2.1 ≤ 45) := ⟨gw_of (in_3 (List.mem_of_getElem? (i := 95) rfl)) rfl, gw_of (in_1 (List.mem_of_getElem? (i := 9) rfl)) rfl, gw_of (in_3 (List.mem_of_getElem? (i := 96) rfl)) rfl, ⟨by decide +kernel, by decide +kernel, by decide +kernel, by decide +kernel, by decide +kernel⟩⟩
set_option maxRecDepth 100000 in
theorem ys_J2_charAt_3b067 : Cond.static yJ2_charAt_3b067 ∈ gw ∧ Cond.initialized yJ2_charAt_3b067.cls ∈ gw ∧ cdM m_J2_charAt_3b067 ∈ gw ∧ (plainName yJ2_charAt_3b067.cls = true ∧ yJ2_charAt_3b067.cls ≠ "java/lang/invoke/MethodHandle" ∧ yJ2_charAt_3b067.cls ≠ "java/lang/invoke/VarHandle" ∧ (parseMethodDescriptor yJ2_charAt_3b067.desc).map (fun d => d.parameters.length) = some 2 ∧ m_J2_charAt_3b067.2.2.1 ≤ 45) := ⟨gw_of (in_1 (List.mem_of_getElem? (i := 225) rfl)) rfl, gw_of (in_1 (List.mem_of_getElem? (i := 9) rfl)) rfl, gw_of (in_1 (List.mem_of_getElem? (i := 226) rfl)) rfl, ⟨by decide +kernel, by decide +kernel, by decide +kernel, by decide +kernel, by decide +kernel⟩⟩
set_option maxRecDepth 100000 in
theorem ys_J2_checkIndex_2214a : Cond.static yJ2_checkIndex_2214a ∈ gw ∧ Cond.initialized yJ2_checkIndex_2214a.cls ∈ gw ∧ cdM m_J2_checkIndex_2214a ∈ gw ∧ (plainName yJ2_checkIndex_2214a.cls = true ∧ yJ2_checkIndex_2214a.cls ≠ "java/lang/invoke/MethodHandle" ∧ yJ2_checkIndex_2214a.cls ≠ "java/lang/invoke/VarHandle" ∧ (parseMethodDescriptor yJ2_checkIndex_2214a.desc).map (fun d => d.parameters.length) = some 2 ∧ m_J2_checkIndex_2214a.2.2.1 ≤ 45) := ⟨gw_of (in_1 (List.mem_of_getElem? (i := 228) rfl)) rfl, gw_of (in_1 (List.mem_of_getElem? (i := 9) rfl)) rfl, gw_of (in_1 (List.mem_of_getElem? (i := 229) rfl)) rfl, ⟨by decide +kernel, by decide +kernel, by decide +kernel, by decide +kernel, by decide +kernel⟩⟩
set_option maxRecDepth 100000 in
theorem ys_J2_checkBoundsBeginEnd_d044e : Cond.static yJ2_checkBoundsBeginEnd_d044e ∈ gw ∧ Cond.initialized yJ2_checkBoundsBeginEnd_d044e.cls ∈ gw ∧ cdM m_J2_checkBoundsBeginEnd_d044e ∈ gw ∧ (plainName yJ2_checkBoundsBeginEnd_d044e.cls = true ∧ yJ2_checkBoundsBeginEnd_d044e.cls ≠ "java/lang/invoke/MethodHandle" ∧ yJ2_checkBoundsBeginEnd_d044e.cls ≠ "java/lang/invoke/VarHandle" ∧ (parseMethodDescriptor yJ2_checkBoundsBeginEnd_d044e.desc).map (fun d => d.parameters.length) = some 3 ∧ m_J2_checkBoundsBeginEnd_d044e.2.2.1 ≤ 45) := ⟨gw_of (in_3 (List.mem_of_getElem? (i := 83) rfl)) rfl, gw_of (in_1 (List.mem_of_getElem? (i := 9) rfl)) rfl, gw_of (in_3 (List.mem_of_getElem? (i := 84) rfl)) rfl, ⟨by decide +kernel, by decide +kernel, by decide +kernel, by decide +kernel, by decide +kernel⟩⟩
set_option maxRecDepth 100000 in
theorem ys_J7_fill_53178 : Cond.static yJ7_fill_53178 ∈ gw ∧ Cond.initialized yJ7_fill_53178.cls ∈ gw ∧ cdM m_J7_fill_53178 ∈ gw ∧ (plainName yJ7_fill_53178.cls = true ∧ yJ7_fill_53178.cls ≠ "java/lang/invoke/MethodHandle" ∧ yJ7_fill_53178.cls ≠ "java/lang/invoke/VarHandle" ∧ (parseMethodDescriptor yJ7_fill_53178.desc).map (fun d => d.parameters.length) = some 2 ∧ m_J7_fill_53178.2.2.1 ≤ 45) := ⟨gw_of (in_2 (List.mem_of_getElem? (i := 170) rfl)) rfl, gw_of (in_1 (List.mem_of_getElem? (i := 16) rfl)) rfl, gw_of (in_2 (List.mem_of_getElem? (i := 171) rfl)) rfl, ⟨by decide +kernel, by decide +kernel, by decide +kernel, by decide +kernel, by decide +kernel⟩⟩
set_option maxRecDepth 100000 in
theorem ys_J3_checkIndex_8e157 : Cond.static yJ3_checkIndex_8e157 ∈ gw ∧ Cond.initialized yJ3_checkIndex_8e157.cls ∈ gw ∧ cdM m_J3_checkIndex_8e157 ∈ gw ∧ (plainName yJ3_checkIndex_8e157.cls = true ∧ yJ3_checkIndex_8e157.cls ≠ "java/lang/invoke/MethodHandle" ∧ yJ3_checkIndex_8e157.cls ≠ "java/lang/invoke/VarHandle" ∧ (parseMethodDescriptor yJ3_checkIndex_8e157.desc).map (fun d => d.parameters.length) = some 3 ∧ m_J3_checkIndex_8e157.2.2.1 ≤ 45) := ⟨gw_of (in_1 (List.mem_of_getElem? (i := 222) rfl)) rfl, gw_of (in_1 (List.mem_of_getElem? (i := 8) rfl)) rfl, gw_of (in_1 (List.mem_of_getElem? (i := 223) rfl)) rfl, ⟨by decide +kernel, by decide +kernel, by decide +kernel, by decide +kernel, by decide +kernel⟩⟩
set_option maxRecDepth 100000 in
theorem ys_J3_checkFromToIndex_8c36e : Cond.static yJ3_checkFromToIndex_8c36e ∈ gw ∧ Cond.initialized yJ3_checkFromToIndex_8c36e.cls ∈ gw ∧ cdM m_J3_checkFromToIndex_8c36e ∈ gw ∧ (plainName yJ3_checkFromToIndex_8c36e.cls = true ∧ yJ3_checkFromToIndex_8c36e.cls ≠ "java/lang/invoke/MethodHandle" ∧ yJ3_checkFromToIndex_8c36e.cls ≠ "java/lang/invoke/VarHandle" ∧ (parseMethodDescriptor yJ3_checkFromToIndex_8c36e.desc).map (fun d => d.parameters.length) = some 4 ∧ m_J3_checkFromToIndex_8c36e.2.2.1 ≤ 45) := ⟨gw_of (in_3 (List.mem_of_getElem? (i := 89) rfl)) rfl, gw_of (in_1 (List.mem_of_getElem? (i := 8) rfl)) rfl, gw_of (in_3 (List.mem_of_getElem? (i := 90) rfl)) rfl, ⟨by decide +kernel, by decide +kernel, by decide +kernel, by decide +kernel, by decide +kernel⟩⟩
set_option maxRecDepth 100000 in
theorem c_X10_79 : mCv "ThreeSundays" 79 m_X10_settleIn 0 := ⟨gw_of (in_2 (List.mem_of_getElem? (i := 161) rfl)) rfl, yv_X10_settleIn⟩
set_option maxRecDepth 100000 in
theorem c_X10_82 : mCv "ThreeSundays" 82 m_X8_hasRoom 1 := ⟨gw_of (in_2 (List.mem_of_getElem? (i := 221) rfl)) rfl, yv_X8_hasRoom⟩
set_option maxRecDepth 100000 in
theorem c_X10_86 : mCv "ThreeSundays" 86 m_X8_put 1 := ⟨gw_of (in_2 (List.mem_of_getElem? (i := 225) rfl)) rfl, yv_X8_put⟩
set_option maxRecDepth 100000 in
theorem c_X10_94 : mCv "ThreeSundays" 94 m_X4_begin 1 := ⟨gw_of (in_2 (List.mem_of_getElem? (i := 237) rfl)) rfl, yv_X4_begin⟩
set_option maxRecDepth 100000 in
theorem c_X10_100 : mCv "ThreeSundays" 100 m_X4_readsLine 0 := ⟨gw_of (in_3 (List.mem_of_getElem? (i := 108) rfl)) rfl, yv_X4_readsLine⟩
set_option maxRecDepth 100000 in
theorem c_X10_111 : mCv "ThreeSundays" 111 m_X0_close 1 := ⟨gw_of (in_4 (List.mem_of_getElem? (i := 34) rfl)) rfl, yv_X0_close⟩
set_option maxRecDepth 100000 in
theorem c_X10_122 : mCv "ThreeSundays" 122 m_X9_hasPerson 1 := ⟨gw_of (in_4 (List.mem_of_getElem? (i := 55) rfl)) rfl, yv_X9_hasPerson⟩
set_option maxRecDepth 100000 in
theorem c_X10_125 : mCv "ThreeSundays" 125 m_X7_seat 1 := ⟨gw_of (in_4 (List.mem_of_getElem? (i := 59) rfl)) rfl, yv_X7_seat⟩
set_option maxRecDepth 100000 in
theorem c_X10_145 : mCv "ThreeSundays" 145 m_X7_nextSunday 0 := ⟨gw_of (in_4 (List.mem_of_getElem? (i := 63) rfl)) rfl, yv_X7_nextSunday⟩
set_option maxRecDepth 100000 in
theorem c_X10_149 : mCv "ThreeSundays" 149 m_X9_isAway 2 := ⟨gw_of (in_4 (List.mem_of_getElem? (i := 67) rfl)) rfl, yv_X9_isAway⟩
set_option maxRecDepth 100000 in
theorem c_X10_153 : mCv "ThreeSundays" 153 m_X3_spouseOf 2 := ⟨gw_of (in_4 (List.mem_of_getElem? (i := 71) rfl)) rfl, yv_X3_spouseOf⟩
set_option maxRecDepth 100000 in
theorem c_X10_163 : mCv "ThreeSundays" 163 m_X9_hasPair 1 := ⟨gw_of (in_4 (List.mem_of_getElem? (i := 83) rfl)) rfl, yv_X9_hasPair⟩
set_option maxRecDepth 100000 in
theorem c_X10_172 : mCv "ThreeSundays" 172 m_X7_churchOne 1 := ⟨gw_of (in_4 (List.mem_of_getElem? (i := 87) rfl)) rfl, yv_X7_churchOne⟩
set_option maxRecDepth 100000 in
theorem c_X10_175 : mCv "ThreeSundays" 175 m_X7_churchOther 1 := ⟨gw_of (in_4 (List.mem_of_getElem? (i := 91) rfl)) rfl, yv_X7_churchOther⟩
set_option maxRecDepth 100000 in
theorem c_X10_178 : mCv "ThreeSundays" 178 m_X7_readings 1 := ⟨gw_of (in_4 (List.mem_of_getElem? (i := 95) rfl)) rfl, yv_X7_readings⟩
set_option maxRecDepth 100000 in
theorem c_X10_181 : mCv "ThreeSundays" 181 m_X7_status 1 := ⟨gw_of (in_4 (List.mem_of_getElem? (i := 99) rfl)) rfl, yv_X7_status⟩
set_option maxRecDepth 100000 in
theorem c_X10_184 : mCv "ThreeSundays" 184 m_X3_barOf 2 := ⟨gw_of (in_4 (List.mem_of_getElem? (i := 100) rfl)) rfl, yv_X3_barOf⟩
set_option maxRecDepth 100000 in
theorem c_X10_187 : mCv "ThreeSundays" 187 m_X3_risersOf 2 := ⟨gw_of (in_4 (List.mem_of_getElem? (i := 117) rfl)) rfl, yv_X3_risersOf⟩
set_option maxRecDepth 100000 in
theorem c_X10_190 : mCv "ThreeSundays" 190 m_X3_calledNext 1 := ⟨gw_of (in_4 (List.mem_of_getElem? (i := 121) rfl)) rfl, yv_X3_calledNext⟩
set_option maxRecDepth 100000 in
theorem c_X10_194 : mCv "ThreeSundays" 194 m_X0_degreeOf 2 := ⟨gw_of (in_4 (List.mem_of_getElem? (i := 142) rfl)) rfl, yv_X0_degreeOf⟩
set_option maxRecDepth 100000 in
theorem c_X10_198 : mCv "ThreeSundays" 198 m_X0_ancestorsOf 1 := ⟨gw_of (in_4 (List.mem_of_getElem? (i := 150) rfl)) rfl, yv_X0_ancestorsOf⟩
set_option maxRecDepth 100000 in
theorem c_X10_201 : mCv "ThreeSundays" 201 m_X3_earOf 3 := ⟨gw_of (in_4 (List.mem_of_getElem? (i := 158) rfl)) rfl, yv_X3_earOf⟩
set_option maxRecDepth 100000 in
theorem c_X10_205 : mCv "ThreeSundays" 205 m_X9_hasChurch 1 := ⟨gw_of (in_4 (List.mem_of_getElem? (i := 202) rfl)) rfl, yv_X9_hasChurch⟩
set_option maxRecDepth 100000 in
theorem c_X10_208 : mCv "ThreeSundays" 208 m_X3_sittersIn 2 := ⟨gw_of (in_4 (List.mem_of_getElem? (i := 206) rfl)) rfl, yv_X3_sittersIn⟩
set_option maxRecDepth 100000 in
theorem c_X10_211 : mCv "ThreeSundays" 211 m_X3_readIn 3 := ⟨gw_of (in_4 (List.mem_of_getElem? (i := 210) rfl)) rfl, yv_X3_readIn⟩
set_option maxRecDepth 100000 in
theorem c_X10_214 : mCv "ThreeSundays" 214 m_X7_setSeat 2 := ⟨gw_of (in_4 (List.mem_of_getElem? (i := 215) rfl)) rfl, yv_X7_setSeat⟩
set_option maxRecDepth 100000 in
theorem c_X10_218 : mCv "ThreeSundays" 218 m_X2_add 1 := ⟨gw_of (in_4 (List.mem_of_getElem? (i := 219) rfl)) rfl, yv_X2_add⟩
set_option maxRecDepth 100000 in
theorem c_X10_222 : mCv "ThreeSundays" 222 m_X10_isOpen 1 := ⟨gw_of (in_4 (List.mem_of_getElem? (i := 227) rfl)) rfl, yv_X10_isOpen⟩
set_option maxRecDepth 100000 in
theorem c_X10_225 : mCv "ThreeSundays" 225 m_X7_setChurches 3 := ⟨gw_of (in_4 (List.mem_of_getElem? (i := 231) rfl)) rfl, yv_X7_setChurches⟩
set_option maxRecDepth 100000 in
theorem c_X10_229 : mCv "ThreeSundays" 229 m_X7_setStatus 2 := ⟨gw_of (in_4 (List.mem_of_getElem? (i := 239) rfl)) rfl, yv_X7_setStatus⟩
set_option maxRecDepth 100000 in
theorem c_X10_232 : mCv "ThreeSundays" 232 m_X7_sundays 0 := ⟨gw_of (in_5 (List.mem_of_getElem? (i := 7) rfl)) rfl, yv_X7_sundays⟩
set_option maxRecDepth 100000 in
theorem c_X10_235 : mCv "ThreeSundays" 235 m_X3_keepSunday 1 := ⟨gw_of (in_5 (List.mem_of_getElem? (i := 11) rfl)) rfl, yv_X3_keepSunday⟩
set_option maxRecDepth 100000 in
theorem c_X10_238 : mCv "ThreeSundays" 238 m_X2_stepBack 1 := ⟨gw_of (in_5 (List.mem_of_getElem? (i := 44) rfl)) rfl, yv_X2_stepBack⟩
set_option maxRecDepth 100000 in
theorem c_X10_242 : mCv "ThreeSundays" 242 m_X2_stepOn 1 := ⟨gw_of (in_5 (List.mem_of_getElem? (i := 56) rfl)) rfl, yv_X2_stepOn⟩
set_option maxRecDepth 100000 in
theorem c_X10_245 : mCv "ThreeSundays" 245 m_X3_quietOf 4 := ⟨gw_of (in_5 (List.mem_of_getElem? (i := 64) rfl)) rfl, yv_X3_quietOf⟩
set_option maxRecDepth 100000 in
theorem c_X10_250 : mCs "ThreeSundays" 250 m_X10_greatestCommon 2 := ⟨gw_of (in_5 (List.mem_of_getElem? (i := 70) rfl)) rfl, ys_X10_greatestCommon⟩
set_option maxRecDepth 100000 in
theorem c_X10_256 : mCv "ThreeSundays" 256 m_X3_hearersOf 2 := ⟨gw_of (in_5 (List.mem_of_getElem? (i := 81) rfl)) rfl, yv_X3_hearersOf⟩
set_option maxRecDepth 100000 in
theorem c_X10_259 : mCs "ThreeSundays" 259 m_J6_bitCount_0f7a4 1 := ⟨gw_of (in_5 (List.mem_of_getElem? (i := 85) rfl)) rfl, ys_J6_bitCount_0f7a4⟩
set_option maxRecDepth 100000 in
theorem c_X10_264 : mCv "ThreeSundays" 264 m_X7_copyFrom 1 := ⟨gw_of (in_5 (List.mem_of_getElem? (i := 90) rfl)) rfl, yv_X7_copyFrom⟩
set_option maxRecDepth 100000 in
theorem c_X10_267 : mCv "ThreeSundays" 267 m_X6_bestSet 2 := ⟨gw_of (in_5 (List.mem_of_getElem? (i := 102) rfl)) rfl, yv_X6_bestSet⟩
set_option maxRecDepth 100000 in
theorem c_X10_271 : mCv "ThreeSundays" 271 m_X10_openWithin 1 := ⟨gw_of (in_5 (List.mem_of_getElem? (i := 165) rfl)) rfl, yv_X10_openWithin⟩
set_option maxRecDepth 100000 in
theorem c_X10_277 : mCv "ThreeSundays" 277 m_X3_barBetween 4 := ⟨gw_of (in_5 (List.mem_of_getElem? (i := 174) rfl)) rfl, yv_X3_barBetween⟩
set_option maxRecDepth 100000 in
theorem c_X10_280 : mCv "ThreeSundays" 280 m_X5_tell 4 := ⟨gw_of (in_5 (List.mem_of_getElem? (i := 179) rfl)) rfl, yv_X5_tell⟩
set_option maxRecDepth 100000 in
theorem c_X10_284 : mCv "ThreeSundays" 284 m_X5_takeBack 1 := ⟨gw_of (in_5 (List.mem_of_getElem? (i := 195) rfl)) rfl, yv_X5_takeBack⟩
set_option maxRecDepth 100000 in
theorem c_X10_287 : mCv "ThreeSundays" 287 m_X5_passTime 1 := ⟨gw_of (in_5 (List.mem_of_getElem? (i := 203) rfl)) rfl, yv_X5_passTime⟩
set_option maxRecDepth 100000 in
theorem c_X10_290 : mCv "ThreeSundays" 290 m_X5_fitting 3 := ⟨gw_of (in_5 (List.mem_of_getElem? (i := 212) rfl)) rfl, yv_X5_fitting⟩
set_option maxRecDepth 100000 in
theorem c_X10_294 : mCv "ThreeSundays" 294 m_X0_knownBy 1 := ⟨gw_of (in_5 (List.mem_of_getElem? (i := 234) rfl)) rfl, yv_X0_knownBy⟩
set_option maxRecDepth 100000 in
theorem c_X10_305 : mCv "ThreeSundays" 305 m_X2_restart 1 := ⟨gw_of (in_2 (List.mem_of_getElem? (i := 175) rfl)) rfl, yv_X2_restart⟩
set_option maxRecDepth 100000 in
theorem c_X10_311 : mCv "ThreeSundays" 311 m_X7_seed 0 := ⟨gw_of (in_6 (List.mem_of_getElem? (i := 11) rfl)) rfl, yv_X7_seed⟩
set_option maxRecDepth 100000 in
theorem c_X10_314 : mCv "ThreeSundays" 314 m_X7_pairsThatAre 1 := ⟨gw_of (in_6 (List.mem_of_getElem? (i := 15) rfl)) rfl, yv_X7_pairsThatAre⟩
set_option maxRecDepth 100000 in
theorem c_X10_341 : mCv "ThreeSundays" 341 m_X7_begin 1 := ⟨gw_of (in_2 (List.mem_of_getElem? (i := 165) rfl)) rfl, yv_X7_begin⟩
set_option maxRecDepth 100000 in
theorem c_X10_342 : mCv "ThreeSundays" 342 m_X0_isWithin 3 := ⟨gw_of (in_5 (List.mem_of_getElem? (i := 169) rfl)) rfl, yv_X0_isWithin⟩
set_option maxRecDepth 100000 in
theorem c_X0_30 : mCs "ThreeSundays$Family" 30 m_J7_fill_53178 2 := ⟨gw_of (in_3 (List.mem_of_getElem? (i := 13) rfl)) rfl, ys_J7_fill_53178⟩
set_option maxRecDepth 100000 in
theorem c_X0_36 : Cond.methodLink "ThreeSundays$Family" 36 arraycopyName ∈ gw := gw_of (in_4 (List.mem_of_getElem? (i := 38) rfl)) rfl
set_option maxRecDepth 100000 in
theorem c_X0_42 : mCv "ThreeSundays$Family" 42 m_X0_bind 2 := ⟨gw_of (in_4 (List.mem_of_getElem? (i := 39) rfl)) rfl, yv_X0_bind⟩
set_option maxRecDepth 100000 in
theorem c_X0_46 : mCv "ThreeSundays$Family" 46 m_X0_fewestSteps 2 := ⟨gw_of (in_4 (List.mem_of_getElem? (i := 43) rfl)) rfl, yv_X0_fewestSteps⟩
set_option maxRecDepth 100000 in
theorem c_X1_23 : mCs "ThreeSundays$Formula" 23 m_X1_leaf 5 := ⟨gw_of (in_4 (List.mem_of_getElem? (i := 187) rfl)) rfl, ys_X1_leaf⟩
set_option maxRecDepth 100000 in
theorem c_X1_27 : mCs "ThreeSundays$Formula" 27 m_X1_truth 1 := ⟨gw_of (in_4 (List.mem_of_getElem? (i := 190) rfl)) rfl, ys_X1_truth⟩
set_option maxRecDepth 100000 in
theorem c_X1_31 : mCs "ThreeSundays$Formula" 31 m_X1_joined 3 := ⟨gw_of (in_4 (List.mem_of_getElem? (i := 193) rfl)) rfl, ys_X1_joined⟩
set_option maxRecDepth 100000 in
theorem c_X2_30 : Cond.methodLink "ThreeSundays$History" 30 arraycopyName ∈ gw := gw_of (in_2 (List.mem_of_getElem? (i := 179) rfl)) rfl
set_option maxRecDepth 100000 in
theorem c_X2_36 : mCv "ThreeSundays$History" 36 m_X2_load 1 := ⟨gw_of (in_5 (List.mem_of_getElem? (i := 48) rfl)) rfl, yv_X2_load⟩
set_option maxRecDepth 100000 in
theorem c_X3_25 : mCv "ThreeSundays$Parish" 25 m_X7_status 1 := ⟨gw_of (in_4 (List.mem_of_getElem? (i := 75) rfl)) rfl, yv_X7_status⟩
set_option maxRecDepth 100000 in
theorem c_X3_37 : mCv "ThreeSundays$Parish" 37 m_X9_pairMask 1 := ⟨gw_of (in_4 (List.mem_of_getElem? (i := 116) rfl)) rfl, yv_X9_pairMask⟩
set_option maxRecDepth 100000 in
theorem c_X3_40 : mCv "ThreeSundays$Parish" 40 m_X3_barBetween 4 := ⟨gw_of (in_4 (List.mem_of_getElem? (i := 104) rfl)) rfl, yv_X3_barBetween⟩
set_option maxRecDepth 100000 in
theorem c_X3_51 : mCv "ThreeSundays$Parish" 51 m_X0_isWithin 3 := ⟨gw_of (in_4 (List.mem_of_getElem? (i := 108) rfl)) rfl, yv_X0_isWithin⟩
set_option maxRecDepth 100000 in
theorem c_X3_60 : mCv "ThreeSundays$Parish" 60 m_X3_wedBeside 2 := ⟨gw_of (in_4 (List.mem_of_getElem? (i := 112) rfl)) rfl, yv_X3_wedBeside⟩
set_option maxRecDepth 100000 in
theorem c_X3_73 : mCv "ThreeSundays$Parish" 73 m_X7_seat 1 := ⟨gw_of (in_4 (List.mem_of_getElem? (i := 166) rfl)) rfl, yv_X7_seat⟩
set_option maxRecDepth 100000 in
theorem c_X3_76 : mCv "ThreeSundays$Parish" 76 m_X7_nextSunday 0 := ⟨gw_of (in_4 (List.mem_of_getElem? (i := 126) rfl)) rfl, yv_X7_nextSunday⟩
set_option maxRecDepth 100000 in
theorem c_X3_80 : mCv "ThreeSundays$Parish" 80 m_X9_isAway 2 := ⟨gw_of (in_4 (List.mem_of_getElem? (i := 182) rfl)) rfl, yv_X9_isAway⟩
set_option maxRecDepth 100000 in
theorem c_X3_84 : mCs "ThreeSundays$Parish" 84 m_J7_fill_53178 2 := ⟨gw_of (in_4 (List.mem_of_getElem? (i := 125) rfl)) rfl, ys_J7_fill_53178⟩
set_option maxRecDepth 100000 in
theorem c_X3_90 : mCv "ThreeSundays$Parish" 90 m_X9_isPairAway 2 := ⟨gw_of (in_4 (List.mem_of_getElem? (i := 127) rfl)) rfl, yv_X9_isPairAway⟩
set_option maxRecDepth 100000 in
theorem c_X3_93 : mCv "ThreeSundays$Parish" 93 m_X7_churchOne 1 := ⟨gw_of (in_4 (List.mem_of_getElem? (i := 132) rfl)) rfl, yv_X7_churchOne⟩
set_option maxRecDepth 100000 in
theorem c_X3_96 : mCv "ThreeSundays$Parish" 96 m_X7_churchOther 1 := ⟨gw_of (in_4 (List.mem_of_getElem? (i := 133) rfl)) rfl, yv_X7_churchOther⟩
set_option maxRecDepth 100000 in
theorem c_X3_99 : mCv "ThreeSundays$Parish" 99 m_X3_takesCall 2 := ⟨gw_of (in_4 (List.mem_of_getElem? (i := 134) rfl)) rfl, yv_X3_takesCall⟩
set_option maxRecDepth 100000 in
theorem c_X3_105 : mCv "ThreeSundays$Parish" 105 m_X7_isReadIn 2 := ⟨gw_of (in_4 (List.mem_of_getElem? (i := 171) rfl)) rfl, yv_X7_isReadIn⟩
set_option maxRecDepth 100000 in
theorem c_X3_112 : mCv "ThreeSundays$Parish" 112 m_X1_isTold 0 := ⟨gw_of (in_4 (List.mem_of_getElem? (i := 162) rfl)) rfl, yv_X1_isTold⟩
set_option maxRecDepth 100000 in
theorem c_X3_118 : mCv "ThreeSundays$Parish" 118 m_X3_readIn 3 := ⟨gw_of (in_4 (List.mem_of_getElem? (i := 167) rfl)) rfl, yv_X3_readIn⟩
set_option maxRecDepth 100000 in
theorem c_X3_122 : mCs "ThreeSundays$Parish" 122 m_J6_bitCount_0f7a4 1 := ⟨gw_of (in_4 (List.mem_of_getElem? (i := 177) rfl)) rfl, ys_J6_bitCount_0f7a4⟩
set_option maxRecDepth 100000 in
theorem c_X3_127 : mCv "ThreeSundays$Parish" 127 m_X3_presentIn 3 := ⟨gw_of (in_4 (List.mem_of_getElem? (i := 178) rfl)) rfl, yv_X3_presentIn⟩
set_option maxRecDepth 100000 in
theorem c_X3_133 : mCv "ThreeSundays$Parish" 133 m_X1_valueFor 4 := ⟨gw_of (in_4 (List.mem_of_getElem? (i := 183) rfl)) rfl, yv_X1_valueFor⟩
set_option maxRecDepth 100000 in
theorem c_X3_146 : mCv "ThreeSundays$Parish" 146 m_X3_risersOf 2 := ⟨gw_of (in_5 (List.mem_of_getElem? (i := 24) rfl)) rfl, yv_X3_risersOf⟩
set_option maxRecDepth 100000 in
theorem c_X3_149 : mCv "ThreeSundays$Parish" 149 m_X3_calledNext 1 := ⟨gw_of (in_5 (List.mem_of_getElem? (i := 15) rfl)) rfl, yv_X3_calledNext⟩
set_option maxRecDepth 100000 in
theorem c_X3_153 : mCv "ThreeSundays$Parish" 153 m_X3_earOf 3 := ⟨gw_of (in_5 (List.mem_of_getElem? (i := 29) rfl)) rfl, yv_X3_earOf⟩
set_option maxRecDepth 100000 in
theorem c_X3_157 : mCv "ThreeSundays$Parish" 157 m_X3_isWedWhenRead 3 := ⟨gw_of (in_5 (List.mem_of_getElem? (i := 16) rfl)) rfl, yv_X3_isWedWhenRead⟩
set_option maxRecDepth 100000 in
theorem c_X3_161 : mCv "ThreeSundays$Parish" 161 m_X7_endSunday 0 := ⟨gw_of (in_5 (List.mem_of_getElem? (i := 36) rfl)) rfl, yv_X7_endSunday⟩
set_option maxRecDepth 100000 in
theorem c_X3_164 : mCv "ThreeSundays$Parish" 164 m_X3_isRisenAgainst 3 := ⟨gw_of (in_5 (List.mem_of_getElem? (i := 20) rfl)) rfl, yv_X3_isRisenAgainst⟩
set_option maxRecDepth 100000 in
theorem c_X3_167 : mCv "ThreeSundays$Parish" 167 m_X7_setStatus 2 := ⟨gw_of (in_5 (List.mem_of_getElem? (i := 30) rfl)) rfl, yv_X7_setStatus⟩
set_option maxRecDepth 100000 in
theorem c_X3_171 : mCv "ThreeSundays$Parish" 171 m_X7_addReading 1 := ⟨gw_of (in_5 (List.mem_of_getElem? (i := 31) rfl)) rfl, yv_X7_addReading⟩
set_option maxRecDepth 100000 in
theorem c_X3_175 : mCv "ThreeSundays$Parish" 175 m_X7_readings 1 := ⟨gw_of (in_5 (List.mem_of_getElem? (i := 35) rfl)) rfl, yv_X7_readings⟩
set_option maxRecDepth 100000 in
theorem c_X3_178 : mCv "ThreeSundays$Parish" 178 m_X7_drawTenth 0 := ⟨gw_of (in_5 (List.mem_of_getElem? (i := 25) rfl)) rfl, yv_X7_drawTenth⟩
set_option maxRecDepth 100000 in
theorem c_X4_23 : mCv "ThreeSundays$Parser" 23 m_X9_clear 0 := ⟨gw_of (in_3 (List.mem_of_getElem? (i := 1) rfl)) rfl, yv_X9_clear⟩
set_option maxRecDepth 100000 in
theorem c_X4_34 : mCv "ThreeSundays$Parser" 34 m_X8_rewind 0 := ⟨gw_of (in_3 (List.mem_of_getElem? (i := 15) rfl)) rfl, yv_X8_rewind⟩
set_option maxRecDepth 100000 in
theorem c_X4_42 : mCv "ThreeSundays$Parser" 42 m_X4_refuse 1 := ⟨gw_of (in_3 (List.mem_of_getElem? (i := 112) rfl)) rfl, yv_X4_refuse⟩
set_option maxRecDepth 100000 in
theorem c_X4_49 : mCv "ThreeSundays$Parser" 49 m_X4_churchLine 0 := ⟨gw_of (in_3 (List.mem_of_getElem? (i := 116) rfl)) rfl, yv_X4_churchLine⟩
set_option maxRecDepth 100000 in
theorem c_X4_53 : mCv "ThreeSundays$Parser" 53 m_X4_personLine 0 := ⟨gw_of (in_3 (List.mem_of_getElem? (i := 136) rfl)) rfl, yv_X4_personLine⟩
set_option maxRecDepth 100000 in
theorem c_X4_66 : mCv "ThreeSundays$Parser" 66 m_X4_linkLine 2 := ⟨gw_of (in_3 (List.mem_of_getElem? (i := 180) rfl)) rfl, yv_X4_linkLine⟩
set_option maxRecDepth 100000 in
theorem c_X4_73 : mCv "ThreeSundays$Parser" 73 m_X4_pairLine 0 := ⟨gw_of (in_3 (List.mem_of_getElem? (i := 190) rfl)) rfl, yv_X4_pairLine⟩
set_option maxRecDepth 100000 in
theorem c_X4_76 : mCv "ThreeSundays$Parser" 76 m_X4_hearsLine 0 := ⟨gw_of (in_3 (List.mem_of_getElem? (i := 210) rfl)) rfl, yv_X4_hearsLine⟩
set_option maxRecDepth 100000 in
theorem c_X4_79 : mCv "ThreeSundays$Parser" 79 m_X4_settingLine 2 := ⟨gw_of (in_4 (List.mem_of_getElem? (i := 26) rfl)) rfl, yv_X4_settingLine⟩
set_option maxRecDepth 100000 in
theorem c_X4_83 : mCv "ThreeSundays$Parser" 83 m_X4_sign 1 := ⟨gw_of (in_4 (List.mem_of_getElem? (i := 14) rfl)) rfl, yv_X4_sign⟩
set_option maxRecDepth 100000 in
theorem c_X4_93 : mCv "ThreeSundays$Parser" 93 m_X8_advance 0 := ⟨gw_of (in_3 (List.mem_of_getElem? (i := 120) rfl)) rfl, yv_X8_advance⟩
set_option maxRecDepth 100000 in
theorem c_X4_100 : mCv "ThreeSundays$Parser" 100 m_X9_findChurch 1 := ⟨gw_of (in_3 (List.mem_of_getElem? (i := 121) rfl)) rfl, yv_X9_findChurch⟩
set_option maxRecDepth 100000 in
theorem c_X4_104 : mCv "ThreeSundays$Parser" 104 m_X4_isNewName 1 := ⟨gw_of (in_3 (List.mem_of_getElem? (i := 128) rfl)) rfl, yv_X4_isNewName⟩
set_option maxRecDepth 100000 in
theorem c_X4_107 : mCv "ThreeSundays$Parser" 107 m_X9_addChurch 1 := ⟨gw_of (in_3 (List.mem_of_getElem? (i := 132) rfl)) rfl, yv_X9_addChurch⟩
set_option maxRecDepth 100000 in
theorem c_X4_114 : mCv "ThreeSundays$Parser" 114 m_X9_findPerson 1 := ⟨gw_of (in_3 (List.mem_of_getElem? (i := 140) rfl)) rfl, yv_X9_findPerson⟩
set_option maxRecDepth 100000 in
theorem c_X4_117 : mCv "ThreeSundays$Parser" 117 m_X4_word 1 := ⟨gw_of (in_3 (List.mem_of_getElem? (i := 144) rfl)) rfl, yv_X4_word⟩
set_option maxRecDepth 100000 in
theorem c_X4_120 : mCv "ThreeSundays$Parser" 120 m_X4_takeChurch 0 := ⟨gw_of (in_3 (List.mem_of_getElem? (i := 152) rfl)) rfl, yv_X4_takeChurch⟩
set_option maxRecDepth 100000 in
theorem c_X4_124 : mCv "ThreeSundays$Parser" 124 m_X9_describe 2 := ⟨gw_of (in_3 (List.mem_of_getElem? (i := 160) rfl)) rfl, yv_X9_describe⟩
set_option maxRecDepth 100000 in
theorem c_X4_128 : mCv "ThreeSundays$Parser" 128 m_X4_parents 0 := ⟨gw_of (in_3 (List.mem_of_getElem? (i := 164) rfl)) rfl, yv_X4_parents⟩
set_option maxRecDepth 100000 in
theorem c_X4_131 : mCv "ThreeSundays$Parser" 131 m_X4_vowAndSailing 0 := ⟨gw_of (in_3 (List.mem_of_getElem? (i := 172) rfl)) rfl, yv_X4_vowAndSailing⟩
set_option maxRecDepth 100000 in
theorem c_X4_134 : mCv "ThreeSundays$Parser" 134 m_X8_isWord 1 := ⟨gw_of (in_3 (List.mem_of_getElem? (i := 148) rfl)) rfl, yv_X8_isWord⟩
set_option maxRecDepth 100000 in
theorem c_X4_137 : mCv "ThreeSundays$Parser" 137 m_X4_takePerson 1 := ⟨gw_of (in_3 (List.mem_of_getElem? (i := 168) rfl)) rfl, yv_X4_takePerson⟩
set_option maxRecDepth 100000 in
theorem c_X4_150 : mCv "ThreeSundays$Parser" 150 m_X4_number 2 := ⟨gw_of (in_3 (List.mem_of_getElem? (i := 176) rfl)) rfl, yv_X4_number⟩
set_option maxRecDepth 100000 in
theorem c_X4_157 : mCs "ThreeSundays$Parser" 157 m_J6_bitCount_0f7a4 1 := ⟨gw_of (in_3 (List.mem_of_getElem? (i := 184) rfl)) rfl, ys_J6_bitCount_0f7a4⟩
set_option maxRecDepth 100000 in
theorem c_X4_165 : mCv "ThreeSundays$Parser" 165 m_X9_pairedWith 1 := ⟨gw_of (in_3 (List.mem_of_getElem? (i := 194) rfl)) rfl, yv_X9_pairedWith⟩
set_option maxRecDepth 100000 in
theorem c_X4_168 : mCv "ThreeSundays$Parser" 168 m_X4_pairPlaces 2 := ⟨gw_of (in_3 (List.mem_of_getElem? (i := 202) rfl)) rfl, yv_X4_pairPlaces⟩
set_option maxRecDepth 100000 in
theorem c_X4_174 : mCv "ThreeSundays$Parser" 174 m_X9_addPair 4 := ⟨gw_of (in_3 (List.mem_of_getElem? (i := 206) rfl)) rfl, yv_X9_addPair⟩
set_option maxRecDepth 100000 in
theorem c_X4_178 : mCv "ThreeSundays$Parser" 178 m_X4_isFirst 1 := ⟨gw_of (in_3 (List.mem_of_getElem? (i := 214) rfl)) rfl, yv_X4_isFirst⟩
set_option maxRecDepth 100000 in
theorem c_X4_181 : mCv "ThreeSundays$Parser" 181 m_X9_set 2 := ⟨gw_of (in_4 (List.mem_of_getElem? (i := 30) rfl)) rfl, yv_X9_set⟩
set_option maxRecDepth 100000 in
theorem c_X4_185 : mCv "ThreeSundays$Parser" 185 m_X4_either 1 := ⟨gw_of (in_3 (List.mem_of_getElem? (i := 218) rfl)) rfl, yv_X4_either⟩
set_option maxRecDepth 100000 in
theorem c_X4_188 : mCv "ThreeSundays$Parser" 188 m_X4_nameHere 1 := ⟨gw_of (in_3 (List.mem_of_getElem? (i := 156) rfl)) rfl, yv_X4_nameHere⟩
set_option maxRecDepth 100000 in
theorem c_X4_191 : mCv "ThreeSundays$Parser" 191 m_X8_isSign 1 := ⟨gw_of (in_4 (List.mem_of_getElem? (i := 10) rfl)) rfl, yv_X8_isSign⟩
set_option maxRecDepth 100000 in
theorem c_X4_194 : mCv "ThreeSundays$Parser" 194 m_X4_both 1 := ⟨gw_of (in_3 (List.mem_of_getElem? (i := 222) rfl)) rfl, yv_X4_both⟩
set_option maxRecDepth 100000 in
theorem c_X4_203 : mCv "ThreeSundays$Parser" 203 m_X1_add 1 := ⟨gw_of (in_4 (List.mem_of_getElem? (i := 18) rfl)) rfl, yv_X1_add⟩
set_option maxRecDepth 100000 in
theorem c_X4_207 : mCv "ThreeSundays$Parser" 207 m_X4_one 1 := ⟨gw_of (in_3 (List.mem_of_getElem? (i := 226) rfl)) rfl, yv_X4_one⟩
set_option maxRecDepth 100000 in
theorem c_X4_210 : mCv "ThreeSundays$Parser" 210 m_X4_relation 1 := ⟨gw_of (in_3 (List.mem_of_getElem? (i := 230) rfl)) rfl, yv_X4_relation⟩
set_option maxRecDepth 100000 in
theorem c_X4_213 : mCv "ThreeSundays$Parser" 213 m_X4_sum 1 := ⟨gw_of (in_3 (List.mem_of_getElem? (i := 234) rfl)) rfl, yv_X4_sum⟩
set_option maxRecDepth 100000 in
theorem c_X4_216 : mCv "ThreeSundays$Parser" 216 m_X4_term 1 := ⟨gw_of (in_3 (List.mem_of_getElem? (i := 238) rfl)) rfl, yv_X4_term⟩
set_option maxRecDepth 100000 in
theorem c_X4_219 : mCv "ThreeSundays$Parser" 219 m_X4_unit 1 := ⟨gw_of (in_4 (List.mem_of_getElem? (i := 2) rfl)) rfl, yv_X4_unit⟩
set_option maxRecDepth 100000 in
theorem c_X4_222 : mCv "ThreeSundays$Parser" 222 m_X4_isTermSign 0 := ⟨gw_of (in_4 (List.mem_of_getElem? (i := 22) rfl)) rfl, yv_X4_isTermSign⟩
set_option maxRecDepth 100000 in
theorem c_X4_225 : mCv "ThreeSundays$Parser" 225 m_X4_leafCode 0 := ⟨gw_of (in_4 (List.mem_of_getElem? (i := 6) rfl)) rfl, yv_X4_leafCode⟩
set_option maxRecDepth 100000 in
theorem c_X5_44 : mCv "ThreeSundays$Said" 44 m_X5_isFitting 4 := ⟨gw_of (in_5 (List.mem_of_getElem? (i := 216) rfl)) rfl, yv_X5_isFitting⟩
set_option maxRecDepth 100000 in
theorem c_X5_48 : mCv "ThreeSundays$Said" 48 m_X5_counts 2 := ⟨gw_of (in_5 (List.mem_of_getElem? (i := 220) rfl)) rfl, yv_X5_counts⟩
set_option maxRecDepth 100000 in
theorem c_X5_52 : mCv "ThreeSundays$Said" 52 m_X5_isSo 4 := ⟨gw_of (in_5 (List.mem_of_getElem? (i := 224) rfl)) rfl, yv_X5_isSo⟩
set_option maxRecDepth 100000 in
theorem c_X5_55 : mCv "ThreeSundays$Said" 55 m_X7_seat 1 := ⟨gw_of (in_5 (List.mem_of_getElem? (i := 228) rfl)) rfl, yv_X7_seat⟩
set_option maxRecDepth 100000 in
theorem c_X5_70 : mCv "ThreeSundays$Said" 70 m_X0_isWithin 3 := ⟨gw_of (in_5 (List.mem_of_getElem? (i := 229) rfl)) rfl, yv_X0_isWithin⟩
set_option maxRecDepth 100000 in
theorem c_X6_18 : mCv "ThreeSundays$Season" 18 m_X6_weighSets 2 := ⟨gw_of (in_5 (List.mem_of_getElem? (i := 106) rfl)) rfl, yv_X6_weighSets⟩
set_option maxRecDepth 100000 in
theorem c_X6_22 : mCs "ThreeSundays$Season" 22 m_X6_openPairs 2 := ⟨gw_of (in_5 (List.mem_of_getElem? (i := 114) rfl)) rfl, ys_X6_openPairs⟩
set_option maxRecDepth 100000 in
theorem c_X6_26 : mCs "ThreeSundays$Season" 26 m_J7_fill_53178 2 := ⟨gw_of (in_5 (List.mem_of_getElem? (i := 118) rfl)) rfl, ys_J7_fill_53178⟩
set_option maxRecDepth 100000 in
theorem c_X6_32 : mCs "ThreeSundays$Season" 32 m_X6_readingsDue 2 := ⟨gw_of (in_5 (List.mem_of_getElem? (i := 119) rfl)) rfl, ys_X6_readingsDue⟩
set_option maxRecDepth 100000 in
theorem c_X6_36 : mCs "ThreeSundays$Season" 36 m_X6_mark 2 := ⟨gw_of (in_5 (List.mem_of_getElem? (i := 124) rfl)) rfl, ys_X6_mark⟩
set_option maxRecDepth 100000 in
theorem c_X6_39 : mCs "ThreeSundays$Season" 39 m_X6_isMarked 2 := ⟨gw_of (in_5 (List.mem_of_getElem? (i := 127) rfl)) rfl, ys_X6_isMarked⟩
set_option maxRecDepth 100000 in
theorem c_X6_43 : mCv "ThreeSundays$Season" 43 m_X7_nextSunday 0 := ⟨gw_of (in_5 (List.mem_of_getElem? (i := 130) rfl)) rfl, yv_X7_nextSunday⟩
set_option maxRecDepth 100000 in
theorem c_X6_49 : mCs "ThreeSundays$Season" 49 m_X6_presentPairs 3 := ⟨gw_of (in_5 (List.mem_of_getElem? (i := 131) rfl)) rfl, ys_X6_presentPairs⟩
set_option maxRecDepth 100000 in
theorem c_X6_53 : mCv "ThreeSundays$Season" 53 m_X6_passSunday 1 := ⟨gw_of (in_5 (List.mem_of_getElem? (i := 135) rfl)) rfl, yv_X6_passSunday⟩
set_option maxRecDepth 100000 in
theorem c_X6_57 : mCs "ThreeSundays$Season" 57 m_X6_unfinished 1 := ⟨gw_of (in_5 (List.mem_of_getElem? (i := 139) rfl)) rfl, ys_X6_unfinished⟩
set_option maxRecDepth 100000 in
theorem c_X6_61 : mCs "ThreeSundays$Season" 61 m_X6_better 2 := ⟨gw_of (in_5 (List.mem_of_getElem? (i := 157) rfl)) rfl, ys_X6_better⟩
set_option maxRecDepth 100000 in
theorem c_X6_65 : mCs "ThreeSundays$Season" 65 m_J6_bitCount_0f7a4 1 := ⟨gw_of (in_5 (List.mem_of_getElem? (i := 160) rfl)) rfl, ys_J6_bitCount_0f7a4⟩
set_option maxRecDepth 100000 in
theorem c_X6_76 : mCv "ThreeSundays$Season" 76 m_X7_status 1 := ⟨gw_of (in_5 (List.mem_of_getElem? (i := 117) rfl)) rfl, yv_X7_status⟩
set_option maxRecDepth 100000 in
theorem c_X6_79 : mCv "ThreeSundays$Season" 79 m_X7_readings 1 := ⟨gw_of (in_5 (List.mem_of_getElem? (i := 122) rfl)) rfl, yv_X7_readings⟩
set_option maxRecDepth 100000 in
theorem c_X6_87 : mCv "ThreeSundays$Season" 87 m_X9_isPairAway 2 := ⟨gw_of (in_5 (List.mem_of_getElem? (i := 134) rfl)) rfl, yv_X9_isPairAway⟩
set_option maxRecDepth 100000 in
theorem c_X6_97 : mCs "ThreeSundays$Season" 97 m_X6_callsIn 4 := ⟨gw_of (in_5 (List.mem_of_getElem? (i := 110) rfl)) rfl, ys_X6_callsIn⟩
set_option maxRecDepth 100000 in
theorem c_X6_104 : mCv "ThreeSundays$Season" 104 m_X7_isReadIn 2 := ⟨gw_of (in_5 (List.mem_of_getElem? (i := 113) rfl)) rfl, yv_X7_isReadIn⟩
set_option maxRecDepth 100000 in
theorem c_X6_107 : mCv "ThreeSundays$Season" 107 m_X6_readFrom 2 := ⟨gw_of (in_5 (List.mem_of_getElem? (i := 142) rfl)) rfl, yv_X6_readFrom⟩
set_option maxRecDepth 100000 in
theorem c_X6_111 : mCv "ThreeSundays$Season" 111 m_X6_fits 1 := ⟨gw_of (in_5 (List.mem_of_getElem? (i := 146) rfl)) rfl, yv_X6_fits⟩
set_option maxRecDepth 100000 in
theorem c_X6_115 : mCv "ThreeSundays$Season" 115 m_X6_isFull 2 := ⟨gw_of (in_5 (List.mem_of_getElem? (i := 150) rfl)) rfl, yv_X6_isFull⟩
set_option maxRecDepth 100000 in
theorem c_X6_118 : mCs "ThreeSundays$Season" 118 m_X6_ones 1 := ⟨gw_of (in_5 (List.mem_of_getElem? (i := 154) rfl)) rfl, ys_X6_ones⟩
set_option maxRecDepth 100000 in
theorem c_X7_15 : mCs "ThreeSundays$State" 15 m_J7_fill_53178 2 := ⟨gw_of (in_2 (List.mem_of_getElem? (i := 169) rfl)) rfl, ys_J7_fill_53178⟩
set_option maxRecDepth 100000 in
theorem c_X7_26 : Cond.methodLink "ThreeSundays$State" 26 arraycopyName ∈ gw := gw_of (in_2 (List.mem_of_getElem? (i := 172) rfl)) rfl
set_option maxRecDepth 100000 in
theorem c_X7_42 : mCv "ThreeSundays$State" 42 m_X7_status 1 := ⟨gw_of (in_6 (List.mem_of_getElem? (i := 19) rfl)) rfl, yv_X7_status⟩
set_option maxRecDepth 100000 in
theorem c_X7_46 : mCv "ThreeSundays$State" 46 m_X7_churchOne 1 := ⟨gw_of (in_4 (List.mem_of_getElem? (i := 175) rfl)) rfl, yv_X7_churchOne⟩
set_option maxRecDepth 100000 in
theorem c_X7_48 : mCv "ThreeSundays$State" 48 m_X7_churchOther 1 := ⟨gw_of (in_4 (List.mem_of_getElem? (i := 176) rfl)) rfl, yv_X7_churchOther⟩
set_option maxRecDepth 100000 in
theorem c_X8_21 : mCv "ThreeSundays$Tape" 21 m_J0_length_8abf5 0 := ⟨gw_of (in_1 (List.mem_of_getElem? (i := 195) rfl)) rfl, yv_J0_length_8abf5⟩
set_option maxRecDepth 100000 in
theorem c_X8_27 : mCv "ThreeSundays$Tape" 27 m_J0_charAt_5068e 1 := ⟨gw_of (in_1 (List.mem_of_getElem? (i := 205) rfl)) rfl, yv_J0_charAt_5068e⟩
set_option maxRecDepth 100000 in
theorem c_X8_31 : mCs "ThreeSundays$Tape" 31 m_X8_withLetter 2 := ⟨gw_of (in_2 (List.mem_of_getElem? (i := 3) rfl)) rfl, ys_X8_withLetter⟩
set_option maxRecDepth 100000 in
theorem c_X8_41 : mCv "ThreeSundays$Tape" 41 m_X8_advance 0 := ⟨gw_of (in_3 (List.mem_of_getElem? (i := 19) rfl)) rfl, yv_X8_advance⟩
set_option maxRecDepth 100000 in
theorem c_X8_44 : mCv "ThreeSundays$Tape" 44 m_X8_byteAt 1 := ⟨gw_of (in_3 (List.mem_of_getElem? (i := 23) rfl)) rfl, yv_X8_byteAt⟩
set_option maxRecDepth 100000 in
theorem c_X8_48 : mCs "ThreeSundays$Tape" 48 m_X8_isBlank 1 := ⟨gw_of (in_3 (List.mem_of_getElem? (i := 27) rfl)) rfl, ys_X8_isBlank⟩
set_option maxRecDepth 100000 in
theorem c_X8_65 : mCs "ThreeSundays$Tape" 65 m_X8_isLetter 1 := ⟨gw_of (in_3 (List.mem_of_getElem? (i := 30) rfl)) rfl, ys_X8_isLetter⟩
set_option maxRecDepth 100000 in
theorem c_X8_68 : mCv "ThreeSundays$Tape" 68 m_X8_takeWord 0 := ⟨gw_of (in_3 (List.mem_of_getElem? (i := 33) rfl)) rfl, yv_X8_takeWord⟩
set_option maxRecDepth 100000 in
theorem c_X8_71 : mCs "ThreeSundays$Tape" 71 m_X8_isDigit 1 := ⟨gw_of (in_3 (List.mem_of_getElem? (i := 37) rfl)) rfl, ys_X8_isDigit⟩
set_option maxRecDepth 100000 in
theorem c_X8_74 : mCv "ThreeSundays$Tape" 74 m_X8_takeNumber 0 := ⟨gw_of (in_3 (List.mem_of_getElem? (i := 40) rfl)) rfl, yv_X8_takeNumber⟩
set_option maxRecDepth 100000 in
theorem c_X8_77 : mCv "ThreeSundays$Tape" 77 m_X8_takeSign 1 := ⟨gw_of (in_3 (List.mem_of_getElem? (i := 44) rfl)) rfl, yv_X8_takeSign⟩
set_option maxRecDepth 100000 in
theorem c_X8_83 : mCv "ThreeSundays$Tape" 83 m_J0_indexOf_0f7a4 1 := ⟨gw_of (in_3 (List.mem_of_getElem? (i := 49) rfl)) rfl, yv_J0_indexOf_0f7a4⟩
set_option maxRecDepth 100000 in
theorem c_X9_76 : mCv "ThreeSundays$Town" 76 m_X1_clear 0 := ⟨gw_of (in_3 (List.mem_of_getElem? (i := 5) rfl)) rfl, yv_X1_clear⟩
set_option maxRecDepth 100000 in
theorem c_X9_79 : mCv "ThreeSundays$Town" 79 m_X0_clear 0 := ⟨gw_of (in_3 (List.mem_of_getElem? (i := 9) rfl)) rfl, yv_X0_clear⟩
set_option maxRecDepth 100000 in
theorem c_X9_80 : mCs "ThreeSundays$Town" 80 m_J7_fill_53178 2 := ⟨gw_of (in_3 (List.mem_of_getElem? (i := 14) rfl)) rfl, ys_J7_fill_53178⟩
set_option maxRecDepth 100000 in
theorem c_X9_86 : mCs "ThreeSundays$Town" 86 m_X9_find 3 := ⟨gw_of (in_3 (List.mem_of_getElem? (i := 125) rfl)) rfl, ys_X9_find⟩
set_option maxRecDepth 100000 in
theorem c_X9_90 : mCv "ThreeSundays$Town" 90 m_X9_pairMask 1 := ⟨gw_of (in_3 (List.mem_of_getElem? (i := 198) rfl)) rfl, yv_X9_pairMask⟩
set_option maxRecDepth 100000 in
theorem c_X9_94 : mCv "ThreeSundays$Town" 94 m_X9_isAway 2 := ⟨gw_of (in_4 (List.mem_of_getElem? (i := 131) rfl)) rfl, yv_X9_isAway⟩
set_option maxRecDepth 100000 in
theorem c_L_13 : mCv "ThreeSundaysLaw" 13 m_X10_feed 5 := ⟨gw_of (in_2 (List.mem_of_getElem? (i := 217) rfl)) rfl, yv_X10_feed⟩
set_option maxRecDepth 100000 in
theorem c_L_17 : mCv "ThreeSundaysLaw" 17 m_X11_feed 5 := ⟨gw_of (in_7 (List.mem_of_getElem? (i := 30) rfl)) rfl, yv_X11_feed⟩
set_option maxRecDepth 100000 in
theorem c_L_18 : mCv "ThreeSundaysLaw" 18 m_X10_end 1 := ⟨gw_of (in_2 (List.mem_of_getElem? (i := 229) rfl)) rfl, yv_X10_end⟩
set_option maxRecDepth 100000 in
theorem c_L_22 : mCv "ThreeSundaysLaw" 22 m_X11_end 1 := ⟨gw_of (in_7 (List.mem_of_getElem? (i := 38) rfl)) rfl, yv_X11_end⟩
set_option maxRecDepth 100000 in
theorem c_L_23 : mCv "ThreeSundaysLaw" 23 m_X10_town 0 := ⟨gw_of (in_2 (List.mem_of_getElem? (i := 233) rfl)) rfl, yv_X10_town⟩
set_option maxRecDepth 100000 in
theorem c_L_27 : mCv "ThreeSundaysLaw" 27 m_X11_town 0 := ⟨gw_of (in_7 (List.mem_of_getElem? (i := 42) rfl)) rfl, yv_X11_town⟩
set_option maxRecDepth 100000 in
theorem c_L_28 : mCv "ThreeSundaysLaw" 28 m_X10_fault 1 := ⟨gw_of (in_4 (List.mem_of_getElem? (i := 47) rfl)) rfl, yv_X10_fault⟩
set_option maxRecDepth 100000 in
theorem c_L_31 : mCv "ThreeSundaysLaw" 31 m_X11_fault 1 := ⟨gw_of (in_7 (List.mem_of_getElem? (i := 227) rfl)) rfl, yv_X11_fault⟩
set_option maxRecDepth 100000 in
theorem c_L_32 : mCv "ThreeSundaysLaw" 32 m_X10_person 2 := ⟨gw_of (in_4 (List.mem_of_getElem? (i := 51) rfl)) rfl, yv_X10_person⟩
set_option maxRecDepth 100000 in
theorem c_L_36 : mCv "ThreeSundaysLaw" 36 m_X11_person 2 := ⟨gw_of (in_8 (List.mem_of_getElem? (i := 13) rfl)) rfl, yv_X11_person⟩
set_option maxRecDepth 100000 in
theorem c_L_37 : mCv "ThreeSundaysLaw" 37 m_X10_pair 2 := ⟨gw_of (in_4 (List.mem_of_getElem? (i := 79) rfl)) rfl, yv_X10_pair⟩
set_option maxRecDepth 100000 in
theorem c_L_40 : mCv "ThreeSundaysLaw" 40 m_X11_pair 2 := ⟨gw_of (in_8 (List.mem_of_getElem? (i := 53) rfl)) rfl, yv_X11_pair⟩
set_option maxRecDepth 100000 in
theorem c_L_41 : mCv "ThreeSundaysLaw" 41 m_X10_degree 2 := ⟨gw_of (in_4 (List.mem_of_getElem? (i := 138) rfl)) rfl, yv_X10_degree⟩
set_option maxRecDepth 100000 in
theorem c_L_44 : mCv "ThreeSundaysLaw" 44 m_X11_degree 2 := ⟨gw_of (in_7 (List.mem_of_getElem? (i := 231) rfl)) rfl, yv_X11_degree⟩
set_option maxRecDepth 100000 in
theorem c_L_45 : mCv "ThreeSundaysLaw" 45 m_X10_ancestors 1 := ⟨gw_of (in_4 (List.mem_of_getElem? (i := 146) rfl)) rfl, yv_X10_ancestors⟩
set_option maxRecDepth 100000 in
theorem c_L_48 : mCv "ThreeSundaysLaw" 48 m_X11_ancestors 1 := ⟨gw_of (in_8 (List.mem_of_getElem? (i := 6) rfl)) rfl, yv_X11_ancestors⟩
set_option maxRecDepth 100000 in
theorem c_L_49 : mCv "ThreeSundaysLaw" 49 m_X10_hearing 1 := ⟨gw_of (in_4 (List.mem_of_getElem? (i := 154) rfl)) rfl, yv_X10_hearing⟩
set_option maxRecDepth 100000 in
theorem c_L_52 : mCv "ThreeSundaysLaw" 52 m_X11_hearing 1 := ⟨gw_of (in_8 (List.mem_of_getElem? (i := 85) rfl)) rfl, yv_X11_hearing⟩
set_option maxRecDepth 100000 in
theorem c_L_53 : mCv "ThreeSundaysLaw" 53 m_X10_church 2 := ⟨gw_of (in_4 (List.mem_of_getElem? (i := 198) rfl)) rfl, yv_X10_church⟩
set_option maxRecDepth 100000 in
theorem c_L_56 : mCv "ThreeSundaysLaw" 56 m_X11_church_ 2 := ⟨gw_of (in_8 (List.mem_of_getElem? (i := 104) rfl)) rfl, yv_X11_church_⟩
set_option maxRecDepth 100000 in
theorem c_L_57 : mCv "ThreeSundaysLaw" 57 m_X10_sit 2 := ⟨gw_of (in_4 (List.mem_of_getElem? (i := 211) rfl)) rfl, yv_X10_sit⟩
set_option maxRecDepth 100000 in
theorem c_L_60 : mCv "ThreeSundaysLaw" 60 m_X11_sit 2 := ⟨gw_of (in_8 (List.mem_of_getElem? (i := 116) rfl)) rfl, yv_X11_sit⟩
set_option maxRecDepth 100000 in
theorem c_L_61 : mCv "ThreeSundaysLaw" 61 m_X10_move 3 := ⟨gw_of (in_4 (List.mem_of_getElem? (i := 223) rfl)) rfl, yv_X10_move⟩
set_option maxRecDepth 100000 in
theorem c_L_65 : mCv "ThreeSundaysLaw" 65 m_X11_move 3 := ⟨gw_of (in_8 (List.mem_of_getElem? (i := 124) rfl)) rfl, yv_X11_move⟩
set_option maxRecDepth 100000 in
theorem c_L_66 : mCv "ThreeSundaysLaw" 66 m_X10_licence 1 := ⟨gw_of (in_4 (List.mem_of_getElem? (i := 235) rfl)) rfl, yv_X10_licence⟩
set_option maxRecDepth 100000 in
theorem c_L_70 : mCv "ThreeSundaysLaw" 70 m_X11_licence 1 := ⟨gw_of (in_8 (List.mem_of_getElem? (i := 132) rfl)) rfl, yv_X11_licence⟩
set_option maxRecDepth 100000 in
theorem c_L_71 : mCv "ThreeSundaysLaw" 71 m_X10_sunday 0 := ⟨gw_of (in_5 (List.mem_of_getElem? (i := 3) rfl)) rfl, yv_X10_sunday⟩
set_option maxRecDepth 100000 in
theorem c_L_74 : mCv "ThreeSundaysLaw" 74 m_X11_sunday 0 := ⟨gw_of (in_8 (List.mem_of_getElem? (i := 136) rfl)) rfl, yv_X11_sunday⟩
set_option maxRecDepth 100000 in
theorem c_L_75 : mCv "ThreeSundaysLaw" 75 m_X10_undo 0 := ⟨gw_of (in_5 (List.mem_of_getElem? (i := 40) rfl)) rfl, yv_X10_undo⟩
set_option maxRecDepth 100000 in
theorem c_L_79 : mCv "ThreeSundaysLaw" 79 m_X11_undo 0 := ⟨gw_of (in_8 (List.mem_of_getElem? (i := 152) rfl)) rfl, yv_X11_undo⟩
set_option maxRecDepth 100000 in
theorem c_L_80 : mCv "ThreeSundaysLaw" 80 m_X10_redo 0 := ⟨gw_of (in_5 (List.mem_of_getElem? (i := 52) rfl)) rfl, yv_X10_redo⟩
set_option maxRecDepth 100000 in
theorem c_L_83 : mCv "ThreeSundaysLaw" 83 m_X11_redo 0 := ⟨gw_of (in_8 (List.mem_of_getElem? (i := 160) rfl)) rfl, yv_X11_redo⟩
set_option maxRecDepth 100000 in
theorem c_L_84 : mCv "ThreeSundaysLaw" 84 m_X10_quiet 4 := ⟨gw_of (in_5 (List.mem_of_getElem? (i := 60) rfl)) rfl, yv_X10_quiet⟩
set_option maxRecDepth 100000 in
theorem c_L_88 : mCv "ThreeSundaysLaw" 88 m_X11_quiet 4 := ⟨gw_of (in_8 (List.mem_of_getElem? (i := 164) rfl)) rfl, yv_X11_quiet⟩
set_option maxRecDepth 100000 in
theorem c_L_89 : mCv "ThreeSundaysLaw" 89 m_X10_quietest 2 := ⟨gw_of (in_5 (List.mem_of_getElem? (i := 73) rfl)) rfl, yv_X10_quietest⟩
set_option maxRecDepth 100000 in
theorem c_L_92 : mCv "ThreeSundaysLaw" 92 m_X11_quietest 2 := ⟨gw_of (in_8 (List.mem_of_getElem? (i := 175) rfl)) rfl, yv_X11_quietest⟩
set_option maxRecDepth 100000 in
theorem c_L_93 : mCv "ThreeSundaysLaw" 93 m_X10_hush 2 := ⟨gw_of (in_5 (List.mem_of_getElem? (i := 77) rfl)) rfl, yv_X10_hush⟩
set_option maxRecDepth 100000 in
theorem c_L_96 : mCv "ThreeSundaysLaw" 96 m_X11_hush 2 := ⟨gw_of (in_8 (List.mem_of_getElem? (i := 179) rfl)) rfl, yv_X11_hush⟩
set_option maxRecDepth 100000 in
theorem c_L_97 : mCv "ThreeSundaysLaw" 97 m_X10_will 3 := ⟨gw_of (in_5 (List.mem_of_getElem? (i := 86) rfl)) rfl, yv_X10_will⟩
set_option maxRecDepth 100000 in
theorem c_L_100 : mCv "ThreeSundaysLaw" 100 m_X11_will 3 := ⟨gw_of (in_8 (List.mem_of_getElem? (i := 186) rfl)) rfl, yv_X11_will⟩
set_option maxRecDepth 100000 in
theorem c_L_101 : mCv "ThreeSundaysLaw" 101 m_X10_settles 1 := ⟨gw_of (in_5 (List.mem_of_getElem? (i := 94) rfl)) rfl, yv_X10_settles⟩
set_option maxRecDepth 100000 in
theorem c_L_104 : mCv "ThreeSundaysLaw" 104 m_X11_settles 1 := ⟨gw_of (in_8 (List.mem_of_getElem? (i := 190) rfl)) rfl, yv_X11_settles⟩
set_option maxRecDepth 100000 in
theorem c_L_105 : mCv "ThreeSundaysLaw" 105 m_X10_season 1 := ⟨gw_of (in_5 (List.mem_of_getElem? (i := 98) rfl)) rfl, yv_X10_season⟩
set_option maxRecDepth 100000 in
theorem c_L_108 : mCv "ThreeSundaysLaw" 108 m_X11_season 1 := ⟨gw_of (in_8 (List.mem_of_getElem? (i := 194) rfl)) rfl, yv_X11_season⟩
set_option maxRecDepth 100000 in
theorem c_L_109 : mCv "ThreeSundaysLaw" 109 m_X10_law 1 := ⟨gw_of (in_5 (List.mem_of_getElem? (i := 161) rfl)) rfl, yv_X10_law⟩
set_option maxRecDepth 100000 in
theorem c_L_112 : mCv "ThreeSundaysLaw" 112 m_X11_law 1 := ⟨gw_of (in_8 (List.mem_of_getElem? (i := 221) rfl)) rfl, yv_X11_law⟩
set_option maxRecDepth 100000 in
theorem c_L_113 : mCv "ThreeSundaysLaw" 113 m_X10_free 0 := ⟨gw_of (in_5 (List.mem_of_getElem? (i := 170) rfl)) rfl, yv_X10_free⟩
set_option maxRecDepth 100000 in
theorem c_L_116 : mCv "ThreeSundaysLaw" 116 m_X11_free 0 := ⟨gw_of (in_8 (List.mem_of_getElem? (i := 229) rfl)) rfl, yv_X11_free⟩
set_option maxRecDepth 100000 in
theorem c_L_117 : mCv "ThreeSundaysLaw" 117 m_X10_sits 2 := ⟨gw_of (in_5 (List.mem_of_getElem? (i := 175) rfl)) rfl, yv_X10_sits⟩
set_option maxRecDepth 100000 in
theorem c_L_121 : mCv "ThreeSundaysLaw" 121 m_X11_sits 2 := ⟨gw_of (in_8 (List.mem_of_getElem? (i := 237) rfl)) rfl, yv_X11_sits⟩
set_option maxRecDepth 100000 in
theorem c_L_122 : mCv "ThreeSundaysLaw" 122 m_X10_knew 2 := ⟨gw_of (in_5 (List.mem_of_getElem? (i := 183) rfl)) rfl, yv_X10_knew⟩
set_option maxRecDepth 100000 in
theorem c_L_125 : mCv "ThreeSundaysLaw" 125 m_X11_knew 2 := ⟨gw_of (in_9 (List.mem_of_getElem? (i := 5) rfl)) rfl, yv_X11_knew⟩
set_option maxRecDepth 100000 in
theorem c_L_126 : mCv "ThreeSundaysLaw" 126 m_X10_kin 3 := ⟨gw_of (in_5 (List.mem_of_getElem? (i := 187) rfl)) rfl, yv_X10_kin⟩
set_option maxRecDepth 100000 in
theorem c_L_130 : mCv "ThreeSundaysLaw" 130 m_X11_kin 3 := ⟨gw_of (in_9 (List.mem_of_getElem? (i := 9) rfl)) rfl, yv_X11_kin⟩
set_option maxRecDepth 100000 in
theorem c_L_131 : mCv "ThreeSundaysLaw" 131 m_X10_untell 1 := ⟨gw_of (in_5 (List.mem_of_getElem? (i := 191) rfl)) rfl, yv_X10_untell⟩
set_option maxRecDepth 100000 in
theorem c_L_134 : mCv "ThreeSundaysLaw" 134 m_X11_untell 1 := ⟨gw_of (in_9 (List.mem_of_getElem? (i := 13) rfl)) rfl, yv_X11_untell⟩
set_option maxRecDepth 100000 in
theorem c_L_135 : mCv "ThreeSundaysLaw" 135 m_X10_later 1 := ⟨gw_of (in_5 (List.mem_of_getElem? (i := 199) rfl)) rfl, yv_X10_later⟩
set_option maxRecDepth 100000 in
theorem c_L_138 : mCv "ThreeSundaysLaw" 138 m_X11_later 1 := ⟨gw_of (in_9 (List.mem_of_getElem? (i := 17) rfl)) rfl, yv_X11_later⟩
set_option maxRecDepth 100000 in
theorem c_L_139 : mCv "ThreeSundaysLaw" 139 m_X10_meant 1 := ⟨gw_of (in_5 (List.mem_of_getElem? (i := 208) rfl)) rfl, yv_X10_meant⟩
set_option maxRecDepth 100000 in
theorem c_L_142 : mCv "ThreeSundaysLaw" 142 m_X11_meant 1 := ⟨gw_of (in_9 (List.mem_of_getElem? (i := 22) rfl)) rfl, yv_X11_meant⟩
set_option maxRecDepth 100000 in
theorem c_L_143 : mCv "ThreeSundaysLaw" 143 m_X10_ask 2 := ⟨gw_of (in_5 (List.mem_of_getElem? (i := 230) rfl)) rfl, yv_X10_ask⟩
set_option maxRecDepth 100000 in
theorem c_L_146 : mCv "ThreeSundaysLaw" 146 m_X11_ask 2 := ⟨gw_of (in_9 (List.mem_of_getElem? (i := 34) rfl)) rfl, yv_X11_ask⟩
set_option maxRecDepth 100000 in
theorem c_L_147 : mCv "ThreeSundaysLaw" 147 m_X10_image 1 := ⟨gw_of (in_5 (List.mem_of_getElem? (i := 239) rfl)) rfl, yv_X10_image⟩
set_option maxRecDepth 100000 in
theorem c_L_150 : mCv "ThreeSundaysLaw" 150 m_X11_image 1 := ⟨gw_of (in_9 (List.mem_of_getElem? (i := 39) rfl)) rfl, yv_X11_image⟩
set_option maxRecDepth 100000 in
theorem c_L_151 : mCv "ThreeSundaysLaw" 151 m_X10_back 1 := ⟨gw_of (in_6 (List.mem_of_getElem? (i := 3) rfl)) rfl, yv_X10_back⟩
set_option maxRecDepth 100000 in
theorem c_L_154 : mCv "ThreeSundaysLaw" 154 m_X11_back 1 := ⟨gw_of (in_9 (List.mem_of_getElem? (i := 46) rfl)) rfl, yv_X11_back⟩
set_option maxRecDepth 100000 in
theorem c_L_155 : mCv "ThreeSundaysLaw" 155 m_X10_about 1 := ⟨gw_of (in_6 (List.mem_of_getElem? (i := 7) rfl)) rfl, yv_X10_about⟩
set_option maxRecDepth 100000 in
theorem c_L_158 : mCv "ThreeSundaysLaw" 158 m_X11_about 1 := ⟨gw_of (in_9 (List.mem_of_getElem? (i := 50) rfl)) rfl, yv_X11_about⟩
set_option maxRecDepth 100000 in
theorem c_X11_148 : mCv "ThreeSundaysModel" 148 m_X11_four 1 := ⟨gw_of (in_7 (List.mem_of_getElem? (i := 34) rfl)) rfl, yv_X11_four⟩
set_option maxRecDepth 100000 in
theorem c_X11_158 : mCv "ThreeSundaysModel" 158 m_X11_here 1 := ⟨gw_of (in_7 (List.mem_of_getElem? (i := 54) rfl)) rfl, yv_X11_here⟩
set_option maxRecDepth 100000 in
theorem c_X11_175 : mCs "ThreeSundaysModel" 175 m_X11_isLetter 1 := ⟨gw_of (in_7 (List.mem_of_getElem? (i := 58) rfl)) rfl, ys_X11_isLetter⟩
set_option maxRecDepth 100000 in
theorem c_X11_179 : mCs "ThreeSundaysModel" 179 m_X11_isDigit 1 := ⟨gw_of (in_7 (List.mem_of_getElem? (i := 61) rfl)) rfl, ys_X11_isDigit⟩
set_option maxRecDepth 100000 in
theorem c_X11_182 : mCs "ThreeSundaysModel" 182 m_X11_isSign 1 := ⟨gw_of (in_7 (List.mem_of_getElem? (i := 64) rfl)) rfl, ys_X11_isSign⟩
set_option maxRecDepth 100000 in
theorem c_X11_230 : mCv "ThreeSundaysModel" 230 m_X11_isOwn 0 := ⟨gw_of (in_7 (List.mem_of_getElem? (i := 88) rfl)) rfl, yv_X11_isOwn⟩
set_option maxRecDepth 100000 in
theorem c_X11_234 : mCv "ThreeSundaysModel" 234 m_X11_isWord 1 := ⟨gw_of (in_7 (List.mem_of_getElem? (i := 72) rfl)) rfl, yv_X11_isWord⟩
set_option maxRecDepth 100000 in
theorem c_X11_238 : mCv "ThreeSundaysModel" 238 m_X11_wrong 1 := ⟨gw_of (in_7 (List.mem_of_getElem? (i := 112) rfl)) rfl, yv_X11_wrong⟩
set_option maxRecDepth 100000 in
theorem c_X11_241 : mCv "ThreeSundaysModel" 241 m_X11_token 0 := ⟨gw_of (in_7 (List.mem_of_getElem? (i := 50) rfl)) rfl, yv_X11_token⟩
set_option maxRecDepth 100000 in
theorem c_X11_244 : mCv "ThreeSundaysModel" 244 m_X11_want 1 := ⟨gw_of (in_7 (List.mem_of_getElem? (i := 124) rfl)) rfl, yv_X11_want⟩
set_option maxRecDepth 100000 in
theorem c_X11_248 : mCv "ThreeSundaysModel" 248 m_X11_toldNumber 2 := ⟨gw_of (in_7 (List.mem_of_getElem? (i := 152) rfl)) rfl, yv_X11_toldNumber⟩
set_option maxRecDepth 100000 in
theorem c_X11_252 : mCv "ThreeSundaysModel" 252 m_X11_isName 0 := ⟨gw_of (in_7 (List.mem_of_getElem? (i := 84) rfl)) rfl, yv_X11_isName⟩
set_option maxRecDepth 100000 in
theorem c_X11_255 : mCv "ThreeSundaysModel" 255 m_X11_find 2 := ⟨gw_of (in_7 (List.mem_of_getElem? (i := 116) rfl)) rfl, yv_X11_find⟩
set_option maxRecDepth 100000 in
theorem c_X11_261 : mCv "ThreeSundaysModel" 261 m_X11_oldName 2 := ⟨gw_of (in_7 (List.mem_of_getElem? (i := 132) rfl)) rfl, yv_X11_oldName⟩
set_option maxRecDepth 100000 in
theorem c_X11_273 : mCs "ThreeSundaysModel" 273 m_X11_tight 1 := ⟨gw_of (in_7 (List.mem_of_getElem? (i := 184) rfl)) rfl, ys_X11_tight⟩
set_option maxRecDepth 100000 in
theorem c_X11_276 : mCv "ThreeSundaysModel" 276 m_X11_add 2 := ⟨gw_of (in_7 (List.mem_of_getElem? (i := 203) rfl)) rfl, yv_X11_add⟩
set_option maxRecDepth 100000 in
theorem c_X11_289 : mCv "ThreeSundaysModel" 289 m_X11_mayNot 0 := ⟨gw_of (in_7 (List.mem_of_getElem? (i := 180) rfl)) rfl, yv_X11_mayNot⟩
set_option maxRecDepth 100000 in
theorem c_X11_292 : mCv "ThreeSundaysModel" 292 m_X11_openUp 1 := ⟨gw_of (in_7 (List.mem_of_getElem? (i := 187) rfl)) rfl, yv_X11_openUp⟩
set_option maxRecDepth 100000 in
theorem c_X11_295 : mCv "ThreeSundaysModel" 295 m_X11_isFull 0 := ⟨gw_of (in_7 (List.mem_of_getElem? (i := 191) rfl)) rfl, yv_X11_isFull⟩
set_option maxRecDepth 100000 in
theorem c_X11_298 : mCv "ThreeSundaysModel" 298 m_X11_countUnit 0 := ⟨gw_of (in_7 (List.mem_of_getElem? (i := 195) rfl)) rfl, yv_X11_countUnit⟩
set_option maxRecDepth 100000 in
theorem c_X11_301 : mCv "ThreeSundaysModel" 301 m_X11_asked 0 := ⟨gw_of (in_7 (List.mem_of_getElem? (i := 199) rfl)) rfl, yv_X11_asked⟩
set_option maxRecDepth 100000 in
theorem c_X11_305 : mCv "ThreeSundaysModel" 305 m_X11_unit 0 := ⟨gw_of (in_7 (List.mem_of_getElem? (i := 176) rfl)) rfl, yv_X11_unit⟩
set_option maxRecDepth 100000 in
theorem c_X11_308 : mCv "ThreeSundaysModel" 308 m_X11_sign 0 := ⟨gw_of (in_7 (List.mem_of_getElem? (i := 207) rfl)) rfl, yv_X11_sign⟩
set_option maxRecDepth 100000 in
theorem c_X11_311 : mCv "ThreeSundaysModel" 311 m_X11_hasBracket 0 := ⟨gw_of (in_7 (List.mem_of_getElem? (i := 211) rfl)) rfl, yv_X11_hasBracket⟩
set_option maxRecDepth 100000 in
theorem c_X11_314 : mCv "ThreeSundaysModel" 314 m_X11_close 1 := ⟨gw_of (in_7 (List.mem_of_getElem? (i := 215) rfl)) rfl, yv_X11_close⟩
set_option maxRecDepth 100000 in
theorem c_X11_317 : mCv "ThreeSundaysModel" 317 m_X11_hasRelation 0 := ⟨gw_of (in_7 (List.mem_of_getElem? (i := 219) rfl)) rfl, yv_X11_hasRelation⟩
set_option maxRecDepth 100000 in
theorem c_X11_320 : mCs "ThreeSundaysModel" 320 m_X11_truth 1 := ⟨gw_of (in_8 (List.mem_of_getElem? (i := 10) rfl)) rfl, ys_X11_truth⟩
set_option maxRecDepth 100000 in
theorem c_X11_327 : mCs "ThreeSundaysModel" 327 m_X11_done 3 := ⟨gw_of (in_8 (List.mem_of_getElem? (i := 101) rfl)) rfl, ys_X11_done⟩
set_option maxRecDepth 100000 in
theorem c_X11_331 : mCv "ThreeSundaysModel" 331 m_X11_newName 2 := ⟨gw_of (in_7 (List.mem_of_getElem? (i := 80) rfl)) rfl, yv_X11_newName⟩
set_option maxRecDepth 100000 in
theorem c_X11_334 : mCv "ThreeSundaysModel" 334 m_X11_takes 1 := ⟨gw_of (in_7 (List.mem_of_getElem? (i := 140) rfl)) rfl, yv_X11_takes⟩
set_option maxRecDepth 100000 in
theorem c_X11_337 : mCv "ThreeSundaysModel" 337 m_X11_oldPerson 0 := ⟨gw_of (in_7 (List.mem_of_getElem? (i := 144) rfl)) rfl, yv_X11_oldPerson⟩
set_option maxRecDepth 100000 in
theorem c_X11_340 : mCv "ThreeSundaysModel" 340 m_X11_church 0 := ⟨gw_of (in_7 (List.mem_of_getElem? (i := 128) rfl)) rfl, yv_X11_church⟩
set_option maxRecDepth 100000 in
theorem c_X11_343 : mCv "ThreeSundaysModel" 343 m_X11_readParents 1 := ⟨gw_of (in_7 (List.mem_of_getElem? (i := 136) rfl)) rfl, yv_X11_readParents⟩
set_option maxRecDepth 100000 in
theorem c_X11_346 : mCv "ThreeSundaysModel" 346 m_X11_told 3 := ⟨gw_of (in_7 (List.mem_of_getElem? (i := 148) rfl)) rfl, yv_X11_told⟩
set_option maxRecDepth 100000 in
theorem c_X11_359 : mCv "ThreeSundaysModel" 359 m_X11_isPairTold 2 := ⟨gw_of (in_7 (List.mem_of_getElem? (i := 168) rfl)) rfl, yv_X11_isPairTold⟩
set_option maxRecDepth 100000 in
theorem c_X11_363 : mCv "ThreeSundaysModel" 363 m_X11_readChurch 0 := ⟨gw_of (in_7 (List.mem_of_getElem? (i := 76) rfl)) rfl, yv_X11_readChurch⟩
set_option maxRecDepth 100000 in
theorem c_X11_366 : mCv "ThreeSundaysModel" 366 m_X11_readPerson 0 := ⟨gw_of (in_7 (List.mem_of_getElem? (i := 120) rfl)) rfl, yv_X11_readPerson⟩
set_option maxRecDepth 100000 in
theorem c_X11_369 : mCv "ThreeSundaysModel" 369 m_X11_readKnows 0 := ⟨gw_of (in_7 (List.mem_of_getElem? (i := 156) rfl)) rfl, yv_X11_readKnows⟩
set_option maxRecDepth 100000 in
theorem c_X11_372 : mCv "ThreeSundaysModel" 372 m_X11_readSpites 0 := ⟨gw_of (in_7 (List.mem_of_getElem? (i := 160) rfl)) rfl, yv_X11_readSpites⟩
set_option maxRecDepth 100000 in
theorem c_X11_375 : mCv "ThreeSundaysModel" 375 m_X11_readPair 0 := ⟨gw_of (in_7 (List.mem_of_getElem? (i := 164) rfl)) rfl, yv_X11_readPair⟩
set_option maxRecDepth 100000 in
theorem c_X11_382 : mCv "ThreeSundaysModel" 382 m_X11_readHears 0 := ⟨gw_of (in_7 (List.mem_of_getElem? (i := 172) rfl)) rfl, yv_X11_readHears⟩
set_option maxRecDepth 100000 in
theorem c_X11_403 : mCv "ThreeSundaysModel" 403 m_X11_readLine 0 := ⟨gw_of (in_7 (List.mem_of_getElem? (i := 67) rfl)) rfl, yv_X11_readLine⟩
set_option maxRecDepth 100000 in
theorem c_X11_406 : mCv "ThreeSundaysModel" 406 m_X11_readAll 0 := ⟨gw_of (in_7 (List.mem_of_getElem? (i := 46) rfl)) rfl, yv_X11_readAll⟩
set_option maxRecDepth 100000 in
theorem c_X11_421 : mCv "ThreeSundaysModel" 421 m_X11_layAncestors 0 := ⟨gw_of (in_7 (List.mem_of_getElem? (i := 223) rfl)) rfl, yv_X11_layAncestors⟩
set_option maxRecDepth 100000 in
theorem c_X11_433 : mCs "ThreeSundaysModel" 433 m_X11_isIn 3 := ⟨gw_of (in_7 (List.mem_of_getElem? (i := 239) rfl)) rfl, ys_X11_isIn⟩
set_option maxRecDepth 100000 in
theorem c_X11_437 : mCv "ThreeSundaysModel" 437 m_X11_isPerson 1 := ⟨gw_of (in_7 (List.mem_of_getElem? (i := 235) rfl)) rfl, yv_X11_isPerson⟩
set_option maxRecDepth 100000 in
theorem c_X11_440 : mCv "ThreeSundaysModel" 440 m_X11_degreeOf 2 := ⟨gw_of (in_8 (List.mem_of_getElem? (i := 2) rfl)) rfl, yv_X11_degreeOf⟩
set_option maxRecDepth 100000 in
theorem c_X11_443 : mCv "ThreeSundaysModel" 443 m_X11_isParent 2 := ⟨gw_of (in_8 (List.mem_of_getElem? (i := 49) rfl)) rfl, yv_X11_isParent⟩
set_option maxRecDepth 100000 in
theorem c_X11_446 : mCv "ThreeSundaysModel" 446 m_X11_stateOf 1 := ⟨gw_of (in_8 (List.mem_of_getElem? (i := 37) rfl)) rfl, yv_X11_stateOf⟩
set_option maxRecDepth 100000 in
theorem c_X11_449 : mCv "ThreeSundaysModel" 449 m_X11_isOf 2 := ⟨gw_of (in_8 (List.mem_of_getElem? (i := 41) rfl)) rfl, yv_X11_isOf⟩
set_option maxRecDepth 100000 in
theorem c_X11_452 : mCv "ThreeSundaysModel" 452 m_X11_areKin 3 := ⟨gw_of (in_8 (List.mem_of_getElem? (i := 73) rfl)) rfl, yv_X11_areKin⟩
set_option maxRecDepth 100000 in
theorem c_X11_455 : mCv "ThreeSundaysModel" 455 m_X11_wedWith 2 := ⟨gw_of (in_8 (List.mem_of_getElem? (i := 33) rfl)) rfl, yv_X11_wedWith⟩
set_option maxRecDepth 100000 in
theorem c_X11_458 : mCv "ThreeSundaysModel" 458 m_X11_barOf 1 := ⟨gw_of (in_8 (List.mem_of_getElem? (i := 69) rfl)) rfl, yv_X11_barOf⟩
set_option maxRecDepth 100000 in
theorem c_X11_461 : mCv "ThreeSundaysModel" 461 m_X11_knownTo 1 := ⟨gw_of (in_8 (List.mem_of_getElem? (i := 45) rfl)) rfl, yv_X11_knownTo⟩
set_option maxRecDepth 100000 in
theorem c_X11_464 : mCv "ThreeSundaysModel" 464 m_X11_wouldRise 2 := ⟨gw_of (in_8 (List.mem_of_getElem? (i := 81) rfl)) rfl, yv_X11_wouldRise⟩
set_option maxRecDepth 100000 in
theorem c_X11_467 : mCv "ThreeSundaysModel" 467 m_X11_nextSunday 0 := ⟨gw_of (in_8 (List.mem_of_getElem? (i := 25) rfl)) rfl, yv_X11_nextSunday⟩
set_option maxRecDepth 100000 in
theorem c_X11_470 : mCv "ThreeSundaysModel" 470 m_X11_isAwayOn 2 := ⟨gw_of (in_8 (List.mem_of_getElem? (i := 29) rfl)) rfl, yv_X11_isAwayOn⟩
set_option maxRecDepth 100000 in
theorem c_X11_476 : mCv "ThreeSundaysModel" 476 m_X11_isAway 1 := ⟨gw_of (in_8 (List.mem_of_getElem? (i := 21) rfl)) rfl, yv_X11_isAway⟩
set_option maxRecDepth 100000 in
theorem c_X11_479 : mCv "ThreeSundaysModel" 479 m_X11_seatedIn 1 := ⟨gw_of (in_8 (List.mem_of_getElem? (i := 93) rfl)) rfl, yv_X11_seatedIn⟩
set_option maxRecDepth 100000 in
theorem c_X11_482 : mCv "ThreeSundaysModel" 482 m_X11_heard 0 := ⟨gw_of (in_8 (List.mem_of_getElem? (i := 97) rfl)) rfl, yv_X11_heard⟩
set_option maxRecDepth 100000 in
theorem c_X11_485 : mCv "ThreeSundaysModel" 485 m_X11_load 0 := ⟨gw_of (in_8 (List.mem_of_getElem? (i := 17) rfl)) rfl, yv_X11_load⟩
set_option maxRecDepth 100000 in
theorem c_X11_488 : mCv "ThreeSundaysModel" 488 m_X11_layRead 0 := ⟨gw_of (in_8 (List.mem_of_getElem? (i := 65) rfl)) rfl, yv_X11_layRead⟩
set_option maxRecDepth 100000 in
theorem c_X11_491 : mCv "ThreeSundaysModel" 491 m_X11_risersOf 1 := ⟨gw_of (in_8 (List.mem_of_getElem? (i := 77) rfl)) rfl, yv_X11_risersOf⟩
set_option maxRecDepth 100000 in
theorem c_X11_494 : mCv "ThreeSundaysModel" 494 m_X11_isAt 2 := ⟨gw_of (in_8 (List.mem_of_getElem? (i := 112) rfl)) rfl, yv_X11_isAt⟩
set_option maxRecDepth 100000 in
theorem c_X11_497 : mCv "ThreeSundaysModel" 497 m_X11_draw 0 := ⟨gw_of (in_8 (List.mem_of_getElem? (i := 148) rfl)) rfl, yv_X11_draw⟩
set_option maxRecDepth 100000 in
theorem c_X11_500 : mCv "ThreeSundaysModel" 500 m_X11_hearingOf 1 := ⟨gw_of (in_8 (List.mem_of_getElem? (i := 89) rfl)) rfl, yv_X11_hearingOf⟩
set_option maxRecDepth 100000 in
theorem c_X11_503 : mCv "ThreeSundaysModel" 503 m_X11_isRisen 1 := ⟨gw_of (in_8 (List.mem_of_getElem? (i := 144) rfl)) rfl, yv_X11_isRisen⟩
set_option maxRecDepth 100000 in
theorem c_X11_506 : mCv "ThreeSundaysModel" 506 m_X11_isPair 1 := ⟨gw_of (in_8 (List.mem_of_getElem? (i := 57) rfl)) rfl, yv_X11_isPair⟩
set_option maxRecDepth 100000 in
theorem c_X11_509 : mCv "ThreeSundaysModel" 509 m_X11_loadRead 0 := ⟨gw_of (in_8 (List.mem_of_getElem? (i := 61) rfl)) rfl, yv_X11_loadRead⟩
set_option maxRecDepth 100000 in
theorem c_X11_512 : mCv "ThreeSundaysModel" 512 m_X11_isChurch 1 := ⟨gw_of (in_8 (List.mem_of_getElem? (i := 108) rfl)) rfl, yv_X11_isChurch⟩
set_option maxRecDepth 100000 in
theorem c_X11_515 : mCv "ThreeSundaysModel" 515 m_X11_act 0 := ⟨gw_of (in_8 (List.mem_of_getElem? (i := 120) rfl)) rfl, yv_X11_act⟩
set_option maxRecDepth 100000 in
theorem c_X11_518 : mCv "ThreeSundaysModel" 518 m_X11_isOpen 1 := ⟨gw_of (in_8 (List.mem_of_getElem? (i := 128) rfl)) rfl, yv_X11_isOpen⟩
set_option maxRecDepth 100000 in
theorem c_X11_521 : mCv "ThreeSundaysModel" 521 m_X11_goSunday 0 := ⟨gw_of (in_8 (List.mem_of_getElem? (i := 140) rfl)) rfl, yv_X11_goSunday⟩
set_option maxRecDepth 100000 in
theorem c_X11_524 : mCv "ThreeSundaysModel" 524 m_X11_exchange 1 := ⟨gw_of (in_8 (List.mem_of_getElem? (i := 156) rfl)) rfl, yv_X11_exchange⟩
set_option maxRecDepth 100000 in
theorem c_X11_533 : mCv "ThreeSundaysModel" 533 m_X11_layQuiet 3 := ⟨gw_of (in_8 (List.mem_of_getElem? (i := 168) rfl)) rfl, yv_X11_layQuiet⟩
set_option maxRecDepth 100000 in
theorem c_X11_537 : mCs "ThreeSundaysModel" 537 m_X11_divisor 2 := ⟨gw_of (in_8 (List.mem_of_getElem? (i := 172) rfl)) rfl, ys_X11_divisor⟩
set_option maxRecDepth 100000 in
theorem c_X11_540 : mCs "ThreeSundaysModel" 540 m_X11_members 1 := ⟨gw_of (in_8 (List.mem_of_getElem? (i := 183) rfl)) rfl, ys_X11_members⟩
set_option maxRecDepth 100000 in
theorem c_X11_543 : mCs "ThreeSundaysModel" 543 m_X11_dueOf 2 := ⟨gw_of (in_8 (List.mem_of_getElem? (i := 214) rfl)) rfl, ys_X11_dueOf⟩
set_option maxRecDepth 100000 in
theorem c_X11_546 : mCv "ThreeSundaysModel" 546 m_X11_mayRead 3 := ⟨gw_of (in_8 (List.mem_of_getElem? (i := 210) rfl)) rfl, yv_X11_mayRead⟩
set_option maxRecDepth 100000 in
theorem c_X11_549 : mCv "ThreeSundaysModel" 549 m_X11_readOn 3 := ⟨gw_of (in_8 (List.mem_of_getElem? (i := 206) rfl)) rfl, yv_X11_readOn⟩
set_option maxRecDepth 100000 in
theorem c_X11_552 : mCv "ThreeSundaysModel" 552 m_X11_firstRow 0 := ⟨gw_of (in_8 (List.mem_of_getElem? (i := 198) rfl)) rfl, yv_X11_firstRow⟩
set_option maxRecDepth 100000 in
theorem c_X11_555 : mCv "ThreeSundaysModel" 555 m_X11_goSeason 1 := ⟨gw_of (in_8 (List.mem_of_getElem? (i := 202) rfl)) rfl, yv_X11_goSeason⟩
set_option maxRecDepth 100000 in
theorem c_X11_558 : mCv "ThreeSundaysModel" 558 m_X11_readBy 1 := ⟨gw_of (in_8 (List.mem_of_getElem? (i := 217) rfl)) rfl, yv_X11_readBy⟩
set_option maxRecDepth 100000 in
theorem c_X11_561 : mCv "ThreeSundaysModel" 561 m_X11_kinPairs 1 := ⟨gw_of (in_8 (List.mem_of_getElem? (i := 225) rfl)) rfl, yv_X11_kinPairs⟩
set_option maxRecDepth 100000 in
theorem c_X11_564 : mCv "ThreeSundaysModel" 564 m_X11_isFree 1 := ⟨gw_of (in_8 (List.mem_of_getElem? (i := 233) rfl)) rfl, yv_X11_isFree⟩
set_option maxRecDepth 100000 in
theorem c_X11_570 : mCv "ThreeSundaysModel" 570 m_X11_tell 4 := ⟨gw_of (in_9 (List.mem_of_getElem? (i := 1) rfl)) rfl, yv_X11_tell⟩
set_option maxRecDepth 100000 in
theorem c_X11_575 : mCv "ThreeSundaysModel" 575 m_X11_isSo 2 := ⟨gw_of (in_9 (List.mem_of_getElem? (i := 30) rfl)) rfl, yv_X11_isSo⟩
set_option maxRecDepth 100000 in
theorem c_X11_578 : mCv "ThreeSundaysModel" 578 m_X11_isMeant 2 := ⟨gw_of (in_9 (List.mem_of_getElem? (i := 26) rfl)) rfl, yv_X11_isMeant⟩
set_option maxRecDepth 100000 in
theorem c_X11_581 : mCv "ThreeSundaysModel" 581 m_X11_meant 1 := ⟨gw_of (in_9 (List.mem_of_getElem? (i := 38) rfl)) rfl, yv_X11_meant⟩
set_option maxRecDepth 100000 in
theorem c_X11_584 : mCs "ThreeSundaysModel" 584 m_X11_isBox 1 := ⟨gw_of (in_9 (List.mem_of_getElem? (i := 43) rfl)) rfl, ys_X11_isBox⟩
set_option maxRecDepth 100000 in
theorem c_X11_587 : mCv "ThreeSundaysModel" 587 m_X11_pairsThatAre 1 := ⟨gw_of (in_9 (List.mem_of_getElem? (i := 54) rfl)) rfl, yv_X11_pairsThatAre⟩
set_option maxRecDepth 100000 in
theorem c_J0_335 : mCv "java/lang/String" 335 m_J0_coder_7d493 0 := ⟨gw_of (in_1 (List.mem_of_getElem? (i := 199) rfl)) rfl, yv_J0_coder_7d493⟩
set_option maxRecDepth 100000 in
theorem c_J0_492 : mCv "java/lang/String" 492 m_J0_isLatin1_aae02 0 := ⟨gw_of (in_1 (List.mem_of_getElem? (i := 209) rfl)) rfl, yv_J0_isLatin1_aae02⟩
set_option maxRecDepth 100000 in
theorem c_J0_495 : mCs "java/lang/String" 495 m_J1_charAt_3b067 2 := ⟨gw_of (in_1 (List.mem_of_getElem? (i := 213) rfl)) rfl, ys_J1_charAt_3b067⟩
set_option maxRecDepth 100000 in
theorem c_J0_498 : mCs "java/lang/String" 498 m_J2_charAt_3b067 2 := ⟨gw_of (in_1 (List.mem_of_getElem? (i := 224) rfl)) rfl, ys_J2_charAt_3b067⟩
set_option maxRecDepth 100000 in
theorem c_J0_505 : mCv "java/lang/String" 505 m_J0_length_8abf5 0 := ⟨gw_of (in_3 (List.mem_of_getElem? (i := 57) rfl)) rfl, yv_J0_length_8abf5⟩
set_option maxRecDepth 100000 in
theorem c_J0_633 : mCv "java/lang/String" 633 m_J0_indexOf_7cf53 2 := ⟨gw_of (in_3 (List.mem_of_getElem? (i := 53) rfl)) rfl, yv_J0_indexOf_7cf53⟩
set_option maxRecDepth 100000 in
theorem c_J0_637 : mCs "java/lang/String" 637 m_J1_indexOf_4cfef 4 := ⟨gw_of (in_3 (List.mem_of_getElem? (i := 58) rfl)) rfl, ys_J1_indexOf_4cfef⟩
set_option maxRecDepth 100000 in
theorem c_J0_640 : mCs "java/lang/String" 640 m_J2_indexOf_4cfef 4 := ⟨gw_of (in_3 (List.mem_of_getElem? (i := 73) rfl)) rfl, ys_J2_indexOf_4cfef⟩
set_option maxRecDepth 100000 in
theorem c_J0_1059 : mCs "java/lang/String" 1059 m_J3_checkIndex_8e157 3 := ⟨gw_of (in_1 (List.mem_of_getElem? (i := 221) rfl)) rfl, ys_J3_checkIndex_8e157⟩
set_option maxRecDepth 100000 in
theorem c_J0_1062 : mCs "java/lang/String" 1062 m_J3_checkFromToIndex_8c36e 4 := ⟨gw_of (in_3 (List.mem_of_getElem? (i := 88) rfl)) rfl, ys_J3_checkFromToIndex_8c36e⟩
set_option maxRecDepth 100000 in
theorem c_J1_9 : mCs "java/lang/StringLatin1" 9 m_J0_checkIndex_df160 2 := ⟨gw_of (in_1 (List.mem_of_getElem? (i := 216) rfl)) rfl, ys_J0_checkIndex_df160⟩
set_option maxRecDepth 100000 in
theorem c_J1_88 : mCs "java/lang/StringLatin1" 88 m_J1_canEncode_9a6ad 1 := ⟨gw_of (in_3 (List.mem_of_getElem? (i := 61) rfl)) rfl, ys_J1_canEncode_9a6ad⟩
set_option maxRecDepth 100000 in
theorem c_J1_95 : mCs "java/lang/StringLatin1" 95 m_J1_indexOfChar_4cfef 4 := ⟨gw_of (in_3 (List.mem_of_getElem? (i := 70) rfl)) rfl, ys_J1_indexOfChar_4cfef⟩
set_option maxRecDepth 100000 in
theorem c_J2_48 : mCs "java/lang/StringUTF16" 48 m_J2_length_9d52b 1 := ⟨gw_of (in_1 (List.mem_of_getElem? (i := 230) rfl)) rfl, ys_J2_length_9d52b⟩
set_option maxRecDepth 100000 in
theorem c_J2_67 : mCs "java/lang/StringUTF16" 67 m_J2_checkIndex_2214a 2 := ⟨gw_of (in_1 (List.mem_of_getElem? (i := 227) rfl)) rfl, ys_J2_checkIndex_2214a⟩
set_option maxRecDepth 100000 in
theorem c_J2_71 : mCs "java/lang/StringUTF16" 71 m_J2_getChar_3b067 2 := ⟨gw_of (in_1 (List.mem_of_getElem? (i := 234) rfl)) rfl, ys_J2_getChar_3b067⟩
set_option maxRecDepth 100000 in
theorem c_J2_96 : mCs "java/lang/StringUTF16" 96 m_J2_checkBoundsBeginEnd_d044e 3 := ⟨gw_of (in_3 (List.mem_of_getElem? (i := 82) rfl)) rfl, ys_J2_checkBoundsBeginEnd_d044e⟩
set_option maxRecDepth 100000 in
theorem c_J2_157 : mCs "java/lang/StringUTF16" 157 m_J11_highSurrogate_5068e 1 := ⟨gw_of (in_3 (List.mem_of_getElem? (i := 100) rfl)) rfl, ys_J11_highSurrogate_5068e⟩
set_option maxRecDepth 100000 in
theorem c_J2_161 : mCs "java/lang/StringUTF16" 161 m_J11_lowSurrogate_5068e 1 := ⟨gw_of (in_3 (List.mem_of_getElem? (i := 104) rfl)) rfl, ys_J11_lowSurrogate_5068e⟩
set_option maxRecDepth 100000 in
theorem c_J2_164 : mCs "java/lang/StringUTF16" 164 m_J11_isValidCodePoint_9a6ad 1 := ⟨gw_of (in_3 (List.mem_of_getElem? (i := 97) rfl)) rfl, ys_J11_isValidCodePoint_9a6ad⟩
set_option maxRecDepth 100000 in
theorem c_J2_228 : mCs "java/lang/StringUTF16" 228 m_J2_indexOfChar_4cfef 4 := ⟨gw_of (in_3 (List.mem_of_getElem? (i := 79) rfl)) rfl, ys_J2_indexOfChar_4cfef⟩
set_option maxRecDepth 100000 in
theorem c_J2_232 : mCs "java/lang/StringUTF16" 232 m_J2_indexOfSupplementary_4cfef 4 := ⟨gw_of (in_3 (List.mem_of_getElem? (i := 94) rfl)) rfl, ys_J2_indexOfSupplementary_4cfef⟩
set_option maxRecDepth 100000 in
theorem c_J2_241 : mCs "java/lang/StringUTF16" 241 m_J0_checkBoundsBeginEnd_23922 3 := ⟨gw_of (in_3 (List.mem_of_getElem? (i := 85) rfl)) rfl, ys_J0_checkBoundsBeginEnd_23922⟩
set_option maxRecDepth 100000 in
theorem c_J2_244 : mCs "java/lang/StringUTF16" 244 m_J2_indexOfCharUnsafe_4cfef 4 := ⟨gw_of (in_3 (List.mem_of_getElem? (i := 91) rfl)) rfl, ys_J2_indexOfCharUnsafe_4cfef⟩
set_option maxRecDepth 100000 in
theorem c_J2_414 : mCs "java/lang/StringUTF16" 414 m_J0_checkIndex_df160 2 := ⟨gw_of (in_1 (List.mem_of_getElem? (i := 233) rfl)) rfl, ys_J0_checkIndex_df160⟩
set_option maxRecDepth 100000 in
theorem k_X10_249 : Cond.constant "ThreeSundays" 249 100000000 ∈ gw := gw_of (in_5 (List.mem_of_getElem? (i := 69) rfl)) rfl
set_option maxRecDepth 100000 in
theorem k_X3_156 : Cond.constant "ThreeSundays$Parish" 156 100000000 ∈ gw := gw_of (in_5 (List.mem_of_getElem? (i := 68) rfl)) rfl
set_option maxRecDepth 100000 in
theorem k_X5_38 : Cond.constant "ThreeSundays$Said" 38 100000 ∈ gw := gw_of (in_5 (List.mem_of_getElem? (i := 207) rfl)) rfl
set_option maxRecDepth 100000 in
theorem k_X11_574 : Cond.constant "ThreeSundaysModel" 574 100000 ∈ gw := gw_of (in_9 (List.mem_of_getElem? (i := 21) rfl)) rfl
set_option maxRecDepth 100000 in
theorem k_J11_76 : Cond.constant "java/lang/Character" 76 56320 ∈ gw := gw_of (in_3 (List.mem_of_getElem? (i := 107) rfl)) rfl
set_option maxRecDepth 100000 in
theorem k_J11_110 : Cond.constant "java/lang/Character" 110 55232 ∈ gw := gw_of (in_3 (List.mem_of_getElem? (i := 103) rfl)) rfl
set_option maxRecDepth 100000 in
theorem k_J6_265 : Cond.constant "java/lang/Integer" 265 1431655765 ∈ gw := gw_of (in_3 (List.mem_of_getElem? (i := 187) rfl)) rfl
set_option maxRecDepth 100000 in
theorem k_J6_266 : Cond.constant "java/lang/Integer" 266 858993459 ∈ gw := gw_of (in_3 (List.mem_of_getElem? (i := 188) rfl)) rfl
set_option maxRecDepth 100000 in
theorem k_J6_267 : Cond.constant "java/lang/Integer" 267 252645135 ∈ gw := gw_of (in_3 (List.mem_of_getElem? (i := 189) rfl)) rfl
set_option maxRecDepth 100000 in
theorem k_J2_227 : Cond.constant "java/lang/StringUTF16" 227 65536 ∈ gw := gw_of (in_3 (List.mem_of_getElem? (i := 78) rfl)) rfl
set_option maxRecDepth 100000 in
theorem k_X11_188 : Cond.constantLong "ThreeSundaysModel" 188 109300298179432 ∈ gw := gw_of (in_7 (List.mem_of_getElem? (i := 71) rfl)) rfl
set_option maxRecDepth 100000 in
theorem k_X11_190 : Cond.constantLong "ThreeSundaysModel" 190 123581014175598 ∈ gw := gw_of (in_7 (List.mem_of_getElem? (i := 92) rfl)) rfl
set_option maxRecDepth 100000 in
theorem k_X11_192 : Cond.constantLong "ThreeSundaysModel" 192 26990 ∈ gw := gw_of (in_7 (List.mem_of_getElem? (i := 93) rfl)) rfl
set_option maxRecDepth 100000 in
theorem k_X11_194 : Cond.constantLong "ThreeSundaysModel" 194 28518 ∈ gw := gw_of (in_7 (List.mem_of_getElem? (i := 94) rfl)) rfl
set_option maxRecDepth 100000 in
theorem k_X11_196 : Cond.constantLong "ThreeSundaysModel" 196 6385252 ∈ gw := gw_of (in_7 (List.mem_of_getElem? (i := 95) rfl)) rfl
set_option maxRecDepth 100000 in
theorem k_X11_198 : Cond.constantLong "ThreeSundaysModel" 198 7761783 ∈ gw := gw_of (in_7 (List.mem_of_getElem? (i := 96) rfl)) rfl
set_option maxRecDepth 100000 in
theorem k_X11_200 : Cond.constantLong "ThreeSundaysModel" 200 495555538035 ∈ gw := gw_of (in_7 (List.mem_of_getElem? (i := 97) rfl)) rfl
set_option maxRecDepth 100000 in
theorem k_X11_202 : Cond.constantLong "ThreeSundaysModel" 202 461414299507 ∈ gw := gw_of (in_7 (List.mem_of_getElem? (i := 98) rfl)) rfl
set_option maxRecDepth 100000 in
theorem k_X11_204 : Cond.constantLong "ThreeSundaysModel" 204 126926642767219 ∈ gw := gw_of (in_7 (List.mem_of_getElem? (i := 99) rfl)) rfl
set_option maxRecDepth 100000 in
theorem k_X11_206 : Cond.constantLong "ThreeSundaysModel" 206 1885432178 ∈ gw := gw_of (in_7 (List.mem_of_getElem? (i := 100) rfl)) rfl
set_option maxRecDepth 100000 in
theorem k_X11_208 : Cond.constantLong "ThreeSundaysModel" 208 24948 ∈ gw := gw_of (in_7 (List.mem_of_getElem? (i := 101) rfl)) rfl
set_option maxRecDepth 100000 in
theorem k_X11_210 : Cond.constantLong "ThreeSundaysModel" 210 448377483891 ∈ gw := gw_of (in_7 (List.mem_of_getElem? (i := 102) rfl)) rfl
set_option maxRecDepth 100000 in
theorem k_X11_212 : Cond.constantLong "ThreeSundaysModel" 212 110386690024805 ∈ gw := gw_of (in_7 (List.mem_of_getElem? (i := 103) rfl)) rfl
set_option maxRecDepth 100000 in
theorem k_X11_214 : Cond.constantLong "ThreeSundaysModel" 214 426836257907 ∈ gw := gw_of (in_7 (List.mem_of_getElem? (i := 104) rfl)) rfl
set_option maxRecDepth 100000 in
theorem k_X11_216 : Cond.constantLong "ThreeSundaysModel" 216 1685217655 ∈ gw := gw_of (in_7 (List.mem_of_getElem? (i := 105) rfl)) rfl
set_option maxRecDepth 100000 in
theorem k_X11_218 : Cond.constantLong "ThreeSundaysModel" 218 126948200440185 ∈ gw := gw_of (in_7 (List.mem_of_getElem? (i := 106) rfl)) rfl
set_option maxRecDepth 100000 in
theorem k_X11_220 : Cond.constantLong "ThreeSundaysModel" 220 1919246692 ∈ gw := gw_of (in_7 (List.mem_of_getElem? (i := 107) rfl)) rfl
set_option maxRecDepth 100000 in
theorem k_X11_222 : Cond.constantLong "ThreeSundaysModel" 222 126879263909220 ∈ gw := gw_of (in_7 (List.mem_of_getElem? (i := 108) rfl)) rfl
set_option maxRecDepth 100000 in
theorem k_X11_224 : Cond.constantLong "ThreeSundaysModel" 224 7305070 ∈ gw := gw_of (in_7 (List.mem_of_getElem? (i := 109) rfl)) rfl
set_option maxRecDepth 100000 in
theorem k_X11_226 : Cond.constantLong "ThreeSundaysModel" 226 28530 ∈ gw := gw_of (in_7 (List.mem_of_getElem? (i := 110) rfl)) rfl
set_option maxRecDepth 100000 in
theorem k_X11_228 : Cond.constantLong "ThreeSundaysModel" 228 7237492 ∈ gw := gw_of (in_7 (List.mem_of_getElem? (i := 111) rfl)) rfl
