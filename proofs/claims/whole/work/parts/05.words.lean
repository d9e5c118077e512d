abbrev mX6_init : MI := (yX6_init, cX6_init, 1, none, 0, 3, 62)
abbrev mX1_init : MI := (yX1_init, cX1_init, 1, none, 0, 2, 42)
abbrev mX0_init : MI := (yX0_init, cX0_init, 2, none, 0, 1, 21)
abbrev mX4_init : MI := (yX4_init, cX4_init, 1, none, 0, 1, 21)
abbrev mX3_init : MI := (yX3_init, cX3_init, 1, none, 0, 1, 21)
abbrev mX2_init : MI := (yX2_init, cX2_init, 1, none, 0, 1, 21)
abbrev mX5_init : MI := (yX5_init, cX5_init, 1, none, 0, 1, 21)
abbrev mX6_gold : MI := (yX6_gold, cX6_gold, 4, (some .int), 2, 2, 42)
abbrev mX6_isCell : MI := (yX6_isCell, cX6_isCell, 1, (some .boolean), 1, 0, 0)
abbrev mX6_isWithin : MI := (yX6_isWithin, cX6_isWithin, 3, (some .boolean), 3, 0, 0)
abbrev mX0_goldOf : MI := (yX0_goldOf, cX0_goldOf, 2, (some .int), 1, 1, 20)
abbrev mX0_putGold : MI := (yX0_putGold, cX0_putGold, 3, none, 2, 1, 20)
abbrev mX6_man : MI := (yX6_man, cX6_man, 3, (some .int), 2, 3, 63)
abbrev mX6_isManNumber : MI := (yX6_isManNumber, cX6_isManNumber, 1, (some .boolean), 1, 0, 0)
abbrev mX0_welcome : MI := (yX0_welcome, cX0_welcome, 3, none, 2, 2, 41)
abbrev mX0_forgetMan : MI := (yX0_forgetMan, cX0_forgetMan, 2, none, 1, 1, 20)
abbrev mX0_countMen : MI := (yX0_countMen, cX0_countMen, 1, (some .int), 0, 1, 20)
abbrev mJ6_bitCount_0f7a4 : MI := (yJ6_bitCount_0f7a4, cJ6_bitCount_0f7a4, 1, (some .int), 1, 0, 0)
abbrev mX6_leave : MI := (yX6_leave, cX6_leave, 2, (some .int), 1, 3, 63)
abbrev mX0_isThere : MI := (yX0_isThere, cX0_isThere, 2, (some .boolean), 1, 1, 21)
abbrev mX6_hasBit : MI := (yX6_hasBit, cX6_hasBit, 2, (some .boolean), 2, 0, 0)
abbrev mX0_farewell : MI := (yX0_farewell, cX0_farewell, 3, none, 1, 2, 41)
abbrev mX6_know : MI := (yX6_know, cX6_know, 4, (some .int), 3, 2, 45)
abbrev mX0_setKnown : MI := (yX0_setKnown, cX0_setKnown, 6, none, 3, 1, 20)
abbrev mX0_knownTo : MI := (yX0_knownTo, cX0_knownTo, 2, (some .long), 1, 1, 20)
abbrev mJ13_bitCount_95d88 : MI := (yJ13_bitCount_95d88, cJ13_bitCount_95d88, 2, (some .int), 1, 0, 0)
abbrev mX6_claim : MI := (yX6_claim, cX6_claim, 3, (some .int), 2, 3, 65)
abbrev mX0_setClaimer : MI := (yX0_setClaimer, cX0_setClaimer, 3, none, 2, 1, 20)
abbrev mX0_countClaimed : MI := (yX0_countClaimed, cX0_countClaimed, 1, (some .int), 0, 2, 45)
abbrev mX0_countClaimedBy : MI := (yX0_countClaimedBy, cX0_countClaimedBy, 2, (some .int), 1, 1, 24)
abbrev mX0_cellsClaimedBy : MI := (yX0_cellsClaimedBy, cX0_cellsClaimedBy, 5, (some .long), 1, 0, 0)
abbrev mX6_say : MI := (yX6_say, cX6_say, 2, (some .int), 1, 1, 22)
abbrev mX2_add : MI := (yX2_add, cX2_add, 2, (some .boolean), 1, 0, 0)
abbrev mX2_size : MI := (yX2_size, cX2_size, 1, (some .int), 0, 0, 0)
abbrev mX6_wipe : MI := (yX6_wipe, cX6_wipe, 2, (some .int), 0, 1, 20)
abbrev mX2_clear : MI := (yX2_clear, cX2_clear, 1, none, 0, 0, 0)
abbrev mX6_fault : MI := (yX6_fault, cX6_fault, 1, (some .int), 0, 3, 65)
abbrev mX2_firstFault : MI := (yX2_firstFault, cX2_firstFault, 5, (some .int), 0, 2, 41)
abbrev mX2_signAt : MI := (yX2_signAt, cX2_signAt, 2, (some .int), 1, 0, 0)
abbrev mX2_isDeedOfMan : MI := (yX2_isDeedOfMan, cX2_isDeedOfMan, 1, (some .boolean), 1, 1, 21)
abbrev mX2_isNight : MI := (yX2_isNight, cX2_isNight, 1, (some .boolean), 1, 0, 0)
abbrev mX2_deedBy : MI := (yX2_deedBy, cX2_deedBy, 2, (some .int), 1, 0, 0)
abbrev mX2_manBy : MI := (yX2_manBy, cX2_manBy, 1, (some .int), 1, 0, 0)
abbrev mX6_judge : MI := (yX6_judge, cX6_judge, 3, (some .int), 1, 6, 137)
abbrev mX6_playWeeks : MI := (yX6_playWeeks, cX6_playWeeks, 1, (some .int), 0, 5, 117)
abbrev mX0_copyFrom : MI := (yX0_copyFrom, cX0_copyFrom, 2, none, 1, 1, 45)
abbrev mX5_play : MI := (yX5_play, cX5_play, 5, none, 2, 4, 93)
abbrev mX5_act : MI := (yX5_act, cX5_act, 5, none, 3, 3, 69)
abbrev mX0_reasonAgainst : MI := (yX0_reasonAgainst, cX0_reasonAgainst, 4, (some .int), 2, 2, 42)
abbrev mX0_tentOf : MI := (yX0_tentOf, cX0_tentOf, 2, (some .int), 1, 1, 20)
abbrev mX0_stepFrom : MI := (yX0_stepFrom, cX0_stepFrom, 2, (some .int), 2, 1, 20)
abbrev mX6_rowOf : MI := (yX6_rowOf, cX6_rowOf, 1, (some .int), 1, 0, 0)
abbrev mX6_columnOf : MI := (yX6_columnOf, cX6_columnOf, 1, (some .int), 1, 0, 0)
abbrev mX0_isKnownTo : MI := (yX0_isKnownTo, cX0_isKnownTo, 3, (some .boolean), 2, 1, 20)
abbrev mX0_claimerOf : MI := (yX0_claimerOf, cX0_claimerOf, 2, (some .int), 1, 1, 20)
abbrev mX0_perform : MI := (yX0_perform, cX0_perform, 3, none, 2, 2, 47)
abbrev mX0_passNight : MI := (yX0_passNight, cX0_passNight, 4, none, 0, 1, 24)
abbrev mX0_goldIn : MI := (yX0_goldIn, cX0_goldIn, 5, (some .int), 1, 0, 0)
abbrev mJ9_min_7cf53 : MI := (yJ9_min_7cf53, cJ9_min_7cf53, 2, (some .int), 2, 0, 0)
abbrev mX5_badAct : MI := (yX5_badAct, cX5_badAct, 1, (some .int), 0, 0, 0)
abbrev mX5_badReason : MI := (yX5_badReason, cX5_badReason, 1, (some .int), 0, 0, 0)
abbrev mX0_womansShare : MI := (yX0_womansShare, cX0_womansShare, 1, (some .int), 0, 0, 0)
abbrev mX6_behind : MI := (yX6_behind, cX6_behind, 4, (some .int), 2, 6, 137)
abbrev mX0_snoreOf : MI := (yX0_snoreOf, cX0_snoreOf, 2, (some .int), 1, 3, 65)
abbrev mX0_hasCold : MI := (yX0_hasCold, cX0_hasCold, 2, (some .boolean), 1, 1, 21)
abbrev mX0_snoreIf : MI := (yX0_snoreIf, cX0_snoreIf, 4, (some .int), 2, 2, 42)
abbrev mX0_isWhistling : MI := (yX0_isWhistling, cX0_isWhistling, 2, (some .boolean), 1, 1, 21)
abbrev mX0_saltOf : MI := (yX0_saltOf, cX0_saltOf, 2, (some .int), 1, 1, 20)
abbrev mX6_heard : MI := (yX6_heard, cX6_heard, 3, (some .int), 1, 6, 137)
abbrev mX0_listen : MI := (yX0_listen, cX0_listen, 2, none, 0, 4, 86)
abbrev mX0_heardAt : MI := (yX0_heardAt, cX0_heardAt, 2, (some .int), 1, 3, 66)
abbrev mX0_heardWithout : MI := (yX0_heardWithout, cX0_heardWithout, 5, (some .int), 2, 2, 42)
abbrev mX6_distance : MI := (yX6_distance, cX6_distance, 2, (some .int), 2, 1, 21)
abbrev mJ9_abs_0f7a4 : MI := (yJ9_abs_0f7a4, cJ9_abs_0f7a4, 1, (some .int), 1, 0, 0)
abbrev mJ9_max_7cf53 : MI := (yJ9_max_7cf53, cJ9_max_7cf53, 2, (some .int), 2, 0, 0)
abbrev mX6_whose : MI := (yX6_whose, cX6_whose, 4, (some .int), 1, 6, 137)
abbrev mX6_nothing : MI := (yX6_nothing, cX6_nothing, 3, (some .int), 1, 6, 137)
abbrev mX6_isZeroOrOne : MI := (yX6_isZeroOrOne, cX6_isZeroOrOne, 1, (some .boolean), 1, 0, 0)
abbrev mX5_firstEmptyClaim : MI := (yX5_firstEmptyClaim, cX5_firstEmptyClaim, 1, (some .int), 0, 0, 0)
abbrev mX5_countEmptyClaims : MI := (yX5_countEmptyClaims, cX5_countEmptyClaims, 1, (some .int), 0, 0, 0)
abbrev mX6_done : MI := (yX6_done, cX6_done, 2, (some .int), 0, 6, 137)
abbrev mX5_countActs : MI := (yX5_countActs, cX5_countActs, 1, (some .int), 0, 0, 0)
abbrev mX6_loudest : MI := (yX6_loudest, cX6_loudest, 7, (some .int), 1, 5, 107)
abbrev mX6_sleep : MI := (yX6_sleep, cX6_sleep, 5, (some .int), 3, 6, 137)
abbrev mX6_refusalOfSteps : MI := (yX6_refusalOfSteps, cX6_refusalOfSteps, 4, (some .int), 3, 2, 42)
abbrev mX6_quietest : MI := (yX6_quietest, cX6_quietest, 11, (some .int), 4, 5, 107)
abbrev mX0_heardByOthers : MI := (yX0_heardByOthers, cX0_heardByOthers, 6, (some .int), 2, 2, 42)
abbrev mX6_hide : MI := (yX6_hide, cX6_hide, 5, (some .int), 3, 6, 137)
abbrev mX6_tale : MI := (yX6_tale, cX6_tale, 4, (some .int), 3, 2, 42)
abbrev mX4_add : MI := (yX4_add, cX4_add, 4, (some .boolean), 3, 0, 0)
abbrev mX4_size : MI := (yX4_size, cX4_size, 1, (some .int), 0, 0, 0)
abbrev mX6_hush : MI := (yX6_hush, cX6_hush, 2, (some .int), 0, 1, 20)
abbrev mX4_clear : MI := (yX4_clear, cX4_clear, 1, none, 0, 0, 0)
abbrev mX6_liars : MI := (yX6_liars, cX6_liars, 3, (some .int), 1, 4, 91)
abbrev mX4_fewestLiars : MI := (yX4_fewestLiars, cX4_fewestLiars, 4, (some .int), 0, 3, 68)
abbrev mX4_holdTogether : MI := (yX4_holdTogether, cX4_holdTogether, 4, (some .boolean), 1, 2, 45)
abbrev mX4_isGoldBy : MI := (yX4_isGoldBy, cX4_isGoldBy, 5, (some .boolean), 2, 1, 21)
abbrev mX6_leaves : MI := (yX6_leaves, cX6_leaves, 4, (some .int), 1, 4, 88)
abbrev mX6_readDigits : MI := (yX6_readDigits, cX6_readDigits, 4, none, 1, 0, 0)
abbrev mX6_digitsAreTwos : MI := (yX6_digitsAreTwos, cX6_digitsAreTwos, 3, (some .boolean), 0, 2, 42)
abbrev mX6_digitAt : MI := (yX6_digitAt, cX6_digitAt, 2, (some .int), 1, 0, 0)
abbrev mX6_wouldRatherShare : MI := (yX6_wouldRatherShare, cX6_wouldRatherShare, 6, (some .boolean), 2, 3, 63)
abbrev mX0_twiceShare : MI := (yX0_twiceShare, cX0_twiceShare, 3, (some .int), 2, 2, 41)
abbrev mX6_seen : MI := (yX6_seen, cX6_seen, 3, (some .int), 2, 3, 64)
abbrev mX3_add : MI := (yX3_add, cX3_add, 3, (some .boolean), 2, 2, 42)
abbrev mX3_lodesThrough : MI := (yX3_lodesThrough, cX3_lodesThrough, 3, (some .long), 1, 1, 20)
abbrev mX3_size : MI := (yX3_size, cX3_size, 1, (some .int), 0, 0, 0)
abbrev mX6_forget : MI := (yX6_forget, cX6_forget, 2, (some .int), 0, 1, 20)
abbrev mX3_clear : MI := (yX3_clear, cX3_clear, 1, none, 0, 0, 0)
abbrev mX6_lodes : MI := (yX6_lodes, cX6_lodes, 2, (some .int), 1, 2, 41)
abbrev mX3_countFitting : MI := (yX3_countFitting, cX3_countFitting, 1, (some .int), 0, 1, 21)
abbrev mX3_fittingAt : MI := (yX3_fittingAt, cX3_fittingAt, 4, (some .int), 1, 0, 0)
abbrev mX6_odds : MI := (yX6_odds, cX6_odds, 3, (some .long), 2, 3, 63)
abbrev mX3_countThrough : MI := (yX3_countThrough, cX3_countThrough, 2, (some .int), 1, 2, 42)
abbrev mX6_partOfFraction : MI := (yX6_partOfFraction, cX6_partOfFraction, 7, (some .long), 3, 1, 30)
abbrev mX6_greatestDivisor : MI := (yX6_greatestDivisor, cX6_greatestDivisor, 11, (some .long), 2, 0, 0)
abbrev mX6_next : MI := (yX6_next, cX6_next, 8, (some .int), 1, 3, 63)
abbrev mX6_turns : MI := (yX6_turns, cX6_turns, 5, (some .int), 2, 2, 43)
abbrev mX6_findLeads : MI := (yX6_findLeads, cX6_findLeads, 3, none, 1, 1, 21)
abbrev mX6_leadAt : MI := (yX6_leadAt, cX6_leadAt, 2, (some .int), 1, 0, 0)
abbrev mX6_colds : MI := (yX6_colds, cX6_colds, 12, (some .long), 4, 4, 89)
abbrev mX6_hearWithAndWithoutCold : MI := (yX6_hearWithAndWithoutCold, cX6_hearWithAndWithoutCold, 5, none, 1, 3, 65)
abbrev mX0_menBits : MI := (yX0_menBits, cX0_menBits, 1, (some .int), 0, 0, 0)
abbrev mX6_heardIfSick : MI := (yX6_heardIfSick, cX6_heardIfSick, 5, (some .int), 2, 1, 21)
abbrev mX6_weightOf : MI := (yX6_weightOf, cX6_weightOf, 3, (some .long), 3, 1, 24)
abbrev mX6_power : MI := (yX6_power, cX6_power, 5, (some .long), 2, 0, 0)
abbrev mX6_year : MI := (yX6_year, cX6_year, 8, (some .int), 3, 3, 69)
abbrev mX0_allSalt : MI := (yX0_allSalt, cX0_allSalt, 3, (some .int), 0, 0, 0)
abbrev mX6_image : MI := (yX6_image, cX6_image, 3, (some .int), 1, 3, 87)
abbrev mX6_imageOf : MI := (yX6_imageOf, cX6_imageOf, 2, (some (.object "SnoresGold$Memory")), 1, 0, 0)
abbrev mX1_copyFrom : MI := (yX1_copyFrom, cX1_copyFrom, 2, none, 1, 2, 66)
abbrev mX4_copyFrom : MI := (yX4_copyFrom, cX4_copyFrom, 2, none, 1, 1, 45)
abbrev mX3_copyFrom : MI := (yX3_copyFrom, cX3_copyFrom, 2, none, 1, 0, 0)
abbrev mX1_markKept : MI := (yX1_markKept, cX1_markKept, 1, none, 0, 0, 0)
abbrev mX6_restore : MI := (yX6_restore, cX6_restore, 3, (some .int), 1, 3, 87)
abbrev mX1_isKept : MI := (yX1_isKept, cX1_isKept, 1, (some .boolean), 0, 0, 0)
abbrev mX6_told : MI := (yX6_told, cX6_told, 2, (some .int), 1, 5, 109)
abbrev mX6_toldOfMan : MI := (yX6_toldOfMan, cX6_toldOfMan, 4, (some .int), 2, 4, 86)
abbrev mX6_toldOfCell : MI := (yX6_toldOfCell, cX6_toldOfCell, 3, (some .int), 1, 2, 41)
abbrev mX6_toldOfKnown : MI := (yX6_toldOfKnown, cX6_toldOfKnown, 3, (some .int), 2, 2, 42)
abbrev mX7_init : MI := (yX7_init, cX7_init, 2, none, 0, 1, 21)
abbrev mX7_gold : MI := (yX7_gold, cX7_gold, 4, (some .int), 2, 2, 45)
abbrev mX7_isCell : MI := (yX7_isCell, cX7_isCell, 1, (some .boolean), 1, 1, 25)
abbrev mX7_in : MI := (yX7_in, cX7_in, 6, (some .boolean), 3, 0, 0)
abbrev mX7_man : MI := (yX7_man, cX7_man, 3, (some .int), 2, 2, 45)
abbrev mX7_ones : MI := (yX7_ones, cX7_ones, 3, (some .int), 1, 0, 0)
abbrev mX7_leave : MI := (yX7_leave, cX7_leave, 3, (some .int), 1, 2, 46)
abbrev mX7_isMan : MI := (yX7_isMan, cX7_isMan, 2, (some .boolean), 1, 1, 25)
abbrev mX7_know : MI := (yX7_know, cX7_know, 4, (some .int), 3, 2, 46)
abbrev mX7_knownBy : MI := (yX7_knownBy, cX7_knownBy, 4, (some .int), 1, 1, 22)
abbrev mX7_isKnown : MI := (yX7_isKnown, cX7_isKnown, 3, (some .boolean), 2, 0, 0)
abbrev mX7_claim : MI := (yX7_claim, cX7_claim, 3, (some .int), 2, 2, 46)
abbrev mX7_claimedCells : MI := (yX7_claimedCells, cX7_claimedCells, 1, (some .int), 0, 1, 23)
abbrev mX7_claimedBy : MI := (yX7_claimedBy, cX7_claimedBy, 4, (some .int), 1, 0, 0)
abbrev mX7_say : MI := (yX7_say, cX7_say, 2, (some .int), 1, 1, 25)
abbrev mX7_wipe : MI := (yX7_wipe, cX7_wipe, 2, (some .int), 0, 0, 0)
abbrev mX7_fault : MI := (yX7_fault, cX7_fault, 3, (some .int), 0, 3, 66)
abbrev mX7_readOn : MI := (yX7_readOn, cX7_readOn, 4, (some .int), 2, 2, 43)
abbrev mX7_deed : MI := (yX7_deed, cX7_deed, 2, (some .int), 1, 1, 22)
abbrev mX7_close : MI := (yX7_close, cX7_close, 3, (some .int), 2, 0, 0)
abbrev mX7_judge : MI := (yX7_judge, cX7_judge, 3, (some .int), 1, 6, 134)
abbrev mX7_refusal : MI := (yX7_refusal, cX7_refusal, 1, (some .int), 0, 5, 114)
abbrev mX7_keepNow : MI := (yX7_keepNow, cX7_keepNow, 2, none, 0, 0, 0)
abbrev mX7_goWeeks : MI := (yX7_goWeeks, cX7_goWeeks, 3, none, 0, 4, 92)
abbrev mX7_whyNot : MI := (yX7_whyNot, cX7_whyNot, 4, (some .int), 3, 2, 47)
abbrev mX7_canGo : MI := (yX7_canGo, cX7_canGo, 3, (some .boolean), 2, 1, 25)
abbrev mX7_eastBy : MI := (yX7_eastBy, cX7_eastBy, 1, (some .int), 1, 0, 0)
abbrev mX7_northBy : MI := (yX7_northBy, cX7_northBy, 1, (some .int), 1, 0, 0)
abbrev mX7_happen : MI := (yX7_happen, cX7_happen, 4, none, 3, 3, 69)
abbrev mX7_claimHere : MI := (yX7_claimHere, cX7_claimHere, 3, none, 1, 0, 0)
abbrev mX7_passNight : MI := (yX7_passNight, cX7_passNight, 4, none, 0, 2, 46)
abbrev mX7_back : MI := (yX7_back, cX7_back, 3, (some .int), 1, 0, 0)
abbrev mX7_behind : MI := (yX7_behind, cX7_behind, 4, (some .int), 2, 6, 134)
abbrev mX7_ofMan : MI := (yX7_ofMan, cX7_ofMan, 3, (some .int), 2, 3, 67)
abbrev mX7_snore : MI := (yX7_snore, cX7_snore, 2, (some .int), 1, 2, 46)
abbrev mX7_snoreBy : MI := (yX7_snoreBy, cX7_snoreBy, 5, (some .int), 2, 1, 22)
abbrev mX7_heard : MI := (yX7_heard, cX7_heard, 3, (some .int), 1, 6, 134)
abbrev mX7_heardAt : MI := (yX7_heardAt, cX7_heardAt, 5, (some .int), 2, 3, 67)
abbrev mX7_apart : MI := (yX7_apart, cX7_apart, 4, (some .int), 2, 0, 0)
abbrev mX7_over : MI := (yX7_over, cX7_over, 1, (some .int), 1, 0, 0)
abbrev mX7_whose : MI := (yX7_whose, cX7_whose, 3, (some .int), 1, 6, 134)
abbrev mX7_nothing : MI := (yX7_nothing, cX7_nothing, 3, (some .int), 1, 6, 134)
abbrev mX7_done : MI := (yX7_done, cX7_done, 2, (some .int), 0, 6, 134)
abbrev mX7_loudest : MI := (yX7_loudest, cX7_loudest, 4, (some .int), 1, 4, 91)
abbrev mX7_sleep : MI := (yX7_sleep, cX7_sleep, 4, (some .int), 3, 6, 143)
abbrev mX7_quietest : MI := (yX7_quietest, cX7_quietest, 9, (some .int), 4, 5, 115)
abbrev mX7_quietAt : MI := (yX7_quietAt, cX7_quietAt, 4, (some .int), 3, 4, 92)
abbrev mX7_givenAway : MI := (yX7_givenAway, cX7_givenAway, 6, (some .int), 2, 3, 67)
abbrev mX7_hide : MI := (yX7_hide, cX7_hide, 4, (some .int), 3, 6, 143)
abbrev mX7_tale : MI := (yX7_tale, cX7_tale, 4, (some .int), 3, 2, 46)
abbrev mX7_hush : MI := (yX7_hush, cX7_hush, 2, (some .int), 0, 0, 0)
abbrev mX7_liars : MI := (yX7_liars, cX7_liars, 5, (some .int), 1, 2, 46)
abbrev mX7_canBe : MI := (yX7_canBe, cX7_canBe, 5, (some .boolean), 1, 1, 22)
abbrev mX7_meant : MI := (yX7_meant, cX7_meant, 3, (some .int), 2, 0, 0)
abbrev mX7_leaves : MI := (yX7_leaves, cX7_leaves, 4, (some .int), 1, 3, 70)
abbrev mX7_areTwos : MI := (yX7_areTwos, cX7_areTwos, 5, (some .boolean), 1, 2, 46)
abbrev mX7_wouldLeave : MI := (yX7_wouldLeave, cX7_wouldLeave, 5, (some .boolean), 2, 2, 46)
abbrev mX7_halves : MI := (yX7_halves, cX7_halves, 3, (some .int), 2, 1, 24)
abbrev mX7_goldOf : MI := (yX7_goldOf, cX7_goldOf, 5, (some .int), 1, 0, 0)
abbrev mX7_seen : MI := (yX7_seen, cX7_seen, 3, (some .int), 2, 2, 45)
abbrev mX7_forget : MI := (yX7_forget, cX7_forget, 2, (some .int), 0, 0, 0)
abbrev mX7_lodes : MI := (yX7_lodes, cX7_lodes, 4, (some .int), 1, 2, 46)
abbrev mX7_fits : MI := (yX7_fits, cX7_fits, 4, (some .boolean), 1, 1, 23)
abbrev mX7_isOn : MI := (yX7_isOn, cX7_isOn, 4, (some .boolean), 2, 0, 0)
abbrev mX7_odds : MI := (yX7_odds, cX7_odds, 4, (some .long), 2, 3, 69)
abbrev mX7_linesOn : MI := (yX7_linesOn, cX7_linesOn, 4, (some .int), 1, 2, 46)
abbrev mX7_lowest : MI := (yX7_lowest, cX7_lowest, 11, (some .long), 3, 0, 0)
abbrev mX7_next : MI := (yX7_next, cX7_next, 8, (some .int), 1, 3, 69)
abbrev mX7_turns : MI := (yX7_turns, cX7_turns, 8, (some .int), 2, 1, 25)
abbrev mX7_leftEnd : MI := (yX7_leftEnd, cX7_leftEnd, 3, (some .int), 2, 0, 0)
abbrev mX7_rightEnd : MI := (yX7_rightEnd, cX7_rightEnd, 3, (some .int), 2, 0, 0)
abbrev mX7_colds : MI := (yX7_colds, cX7_colds, 13, (some .long), 4, 3, 70)
abbrev mX7_heardBy : MI := (yX7_heardBy, cX7_heardBy, 5, (some .int), 2, 2, 46)
abbrev mX7_year : MI := (yX7_year, cX7_year, 8, (some .int), 3, 4, 92)
abbrev mX7_image : MI := (yX7_image, cX7_image, 2, (some .int), 1, 3, 69)
abbrev mX7_passAll : MI := (yX7_passAll, cX7_passAll, 5, none, 1, 2, 45)
abbrev mX7_pass : MI := (yX7_pass, cX7_pass, 3, (some .int), 1, 0, 0)
abbrev mX7_passRow : MI := (yX7_passRow, cX7_passRow, 4, none, 2, 1, 22)
abbrev mX7_restore : MI := (yX7_restore, cX7_restore, 2, (some .int), 1, 3, 69)
abbrev mX7_told : MI := (yX7_told, cX7_told, 3, (some .int), 1, 4, 89)
abbrev mX7_toldOf : MI := (yX7_toldOf, cX7_toldOf, 3, (some .int), 2, 3, 67)
theorem co_ok {q : MI} (h1 : Cond.code (my q) (mb q) (mn q) (mr q) ∈ gt) (h2 : Cond.initialized (my q).cls ∈ gt) (h3 : ((my q).cls ≠ "java/lang/invoke/MethodHandle" ∧ (my q).cls ≠ "java/lang/invoke/VarHandle" ∧ (parseMethodDescriptor (my q).desc).map (fun d => d.parameters.length) = some (mp q))) : CO q := ⟨h1, h2, h3⟩
theorem ini_RX0 : Cond.initialized RX0 ∈ gt := (gt1 (i := 3) rfl rfl)
theorem ini_RX1 : Cond.initialized RX1 ∈ gt := (gt1 (i := 2) rfl rfl)
theorem ini_RX2 : Cond.initialized RX2 ∈ gt := (gt1 (i := 6) rfl rfl)
theorem ini_RX3 : Cond.initialized RX3 ∈ gt := (gt1 (i := 5) rfl rfl)
theorem ini_RX4 : Cond.initialized RX4 ∈ gt := (gt1 (i := 4) rfl rfl)
theorem ini_RX5 : Cond.initialized RX5 ∈ gt := (gt1 (i := 7) rfl rfl)
theorem ini_RX6 : Cond.initialized RX6 ∈ gt := (gt1 (i := 1) rfl rfl)
theorem ini_RX7 : Cond.initialized RX7 ∈ gt := (gt1 (i := 8) rfl rfl)
theorem ini_RJ6 : Cond.initialized RJ6 ∈ gt := (gt1 (i := 9) rfl rfl)
theorem ini_RJ13 : Cond.initialized RJ13 ∈ gt := (gt1 (i := 10) rfl rfl)
theorem ini_RJ9 : Cond.initialized RJ9 ∈ gt := (gt1 (i := 12) rfl rfl)
theorem ini_RJ10 : Cond.initialized RJ10 ∈ gt := (gt1 (i := 11) rfl rfl)
theorem ini_RL : Cond.initialized RL ∈ gt := (gt1 (i := 0) rfl rfl)
theorem co_X6_init : CO mX6_init := co_ok (gt1 (i := 17) rfl rfl) ini_RX6 (by decide +kernel)
theorem ci_X6_init : Cond.instanceMethod (my mX6_init) ∈ gt := (gt1 (i := 16) rfl rfl)
theorem co_X1_init : CO mX1_init := co_ok (gt1 (i := 25) rfl rfl) ini_RX1 (by decide +kernel)
theorem ci_X1_init : Cond.instanceMethod (my mX1_init) ∈ gt := (gt1 (i := 24) rfl rfl)
theorem co_X0_init : CO mX0_init := co_ok (gt1 (i := 31) rfl rfl) ini_RX0 (by decide +kernel)
theorem ci_X0_init : Cond.instanceMethod (my mX0_init) ∈ gt := (gt1 (i := 30) rfl rfl)
theorem co_X4_init : CO mX4_init := co_ok (gt1 (i := 70) rfl rfl) ini_RX4 (by decide +kernel)
theorem ci_X4_init : Cond.instanceMethod (my mX4_init) ∈ gt := (gt1 (i := 69) rfl rfl)
theorem co_X3_init : CO mX3_init := co_ok (gt1 (i := 89) rfl rfl) ini_RX3 (by decide +kernel)
theorem ci_X3_init : Cond.instanceMethod (my mX3_init) ∈ gt := (gt1 (i := 88) rfl rfl)
theorem co_X2_init : CO mX2_init := co_ok (gt1 (i := 119) rfl rfl) ini_RX2 (by decide +kernel)
theorem ci_X2_init : Cond.instanceMethod (my mX2_init) ∈ gt := (gt1 (i := 118) rfl rfl)
theorem co_X5_init : CO mX5_init := co_ok (gt1 (i := 132) rfl rfl) ini_RX5 (by decide +kernel)
theorem ci_X5_init : Cond.instanceMethod (my mX5_init) ∈ gt := (gt1 (i := 131) rfl rfl)
theorem co_X6_gold : CO mX6_gold := co_ok (gt1 (i := 186) rfl rfl) ini_RX6 (by decide +kernel)
theorem cv_X6_gold : CV mX6_gold := ⟨co_X6_gold, (gt1 (i := 184) rfl rfl), (gt1 (i := 185) rfl rfl)⟩
theorem co_X6_isCell : CO mX6_isCell := co_ok (gt1 (i := 189) rfl rfl) ini_RX6 (by decide +kernel)
theorem cs_X6_isCell : CS mX6_isCell := ⟨co_X6_isCell, (gt1 (i := 188) rfl rfl)⟩
theorem co_X6_isWithin : CO mX6_isWithin := co_ok (gt1 (i := 192) rfl rfl) ini_RX6 (by decide +kernel)
theorem cs_X6_isWithin : CS mX6_isWithin := ⟨co_X6_isWithin, (gt1 (i := 191) rfl rfl)⟩
theorem co_X0_goldOf : CO mX0_goldOf := co_ok (gt1 (i := 196) rfl rfl) ini_RX0 (by decide +kernel)
theorem cv_X0_goldOf : CV mX0_goldOf := ⟨co_X0_goldOf, (gt1 (i := 194) rfl rfl), (gt1 (i := 195) rfl rfl)⟩
theorem co_X0_putGold : CO mX0_putGold := co_ok (gt1 (i := 201) rfl rfl) ini_RX0 (by decide +kernel)
theorem cv_X0_putGold : CV mX0_putGold := ⟨co_X0_putGold, (gt1 (i := 199) rfl rfl), (gt1 (i := 200) rfl rfl)⟩
theorem co_X6_man : CO mX6_man := co_ok (gt1 (i := 205) rfl rfl) ini_RX6 (by decide +kernel)
theorem cv_X6_man : CV mX6_man := ⟨co_X6_man, (gt1 (i := 203) rfl rfl), (gt1 (i := 204) rfl rfl)⟩
theorem co_X6_isManNumber : CO mX6_isManNumber := co_ok (gt1 (i := 208) rfl rfl) ini_RX6 (by decide +kernel)
theorem cs_X6_isManNumber : CS mX6_isManNumber := ⟨co_X6_isManNumber, (gt1 (i := 207) rfl rfl)⟩
theorem co_X0_welcome : CO mX0_welcome := co_ok (gt1 (i := 212) rfl rfl) ini_RX0 (by decide +kernel)
theorem cv_X0_welcome : CV mX0_welcome := ⟨co_X0_welcome, (gt1 (i := 210) rfl rfl), (gt1 (i := 211) rfl rfl)⟩
theorem co_X0_forgetMan : CO mX0_forgetMan := co_ok (gt1 (i := 217) rfl rfl) ini_RX0 (by decide +kernel)
theorem cv_X0_forgetMan : CV mX0_forgetMan := ⟨co_X0_forgetMan, (gt1 (i := 216) rfl rfl), (gtp (i := 0) rfl rfl)⟩
theorem co_X0_countMen : CO mX0_countMen := co_ok (gt1 (i := 221) rfl rfl) ini_RX0 (by decide +kernel)
theorem cv_X0_countMen : CV mX0_countMen := ⟨co_X0_countMen, (gt1 (i := 219) rfl rfl), (gt1 (i := 220) rfl rfl)⟩
theorem co_J6_bitCount_0f7a4 : CO mJ6_bitCount_0f7a4 := co_ok (gt1 (i := 224) rfl rfl) ini_RJ6 (by decide +kernel)
theorem cs_J6_bitCount_0f7a4 : CS mJ6_bitCount_0f7a4 := ⟨co_J6_bitCount_0f7a4, (gt1 (i := 223) rfl rfl)⟩
theorem co_X6_leave : CO mX6_leave := co_ok (gt1 (i := 231) rfl rfl) ini_RX6 (by decide +kernel)
theorem cv_X6_leave : CV mX6_leave := ⟨co_X6_leave, (gt1 (i := 229) rfl rfl), (gt1 (i := 230) rfl rfl)⟩
theorem co_X0_isThere : CO mX0_isThere := co_ok (gt1 (i := 235) rfl rfl) ini_RX0 (by decide +kernel)
theorem cv_X0_isThere : CV mX0_isThere := ⟨co_X0_isThere, (gt1 (i := 233) rfl rfl), (gt1 (i := 234) rfl rfl)⟩
theorem co_X6_hasBit : CO mX6_hasBit := co_ok (gt1 (i := 238) rfl rfl) ini_RX6 (by decide +kernel)
theorem cs_X6_hasBit : CS mX6_hasBit := ⟨co_X6_hasBit, (gt1 (i := 237) rfl rfl)⟩
theorem co_X0_farewell : CO mX0_farewell := co_ok (gt2 (i := 2) rfl rfl) ini_RX0 (by decide +kernel)
theorem cv_X0_farewell : CV mX0_farewell := ⟨co_X0_farewell, (gt2 (i := 0) rfl rfl), (gt2 (i := 1) rfl rfl)⟩
theorem co_X6_know : CO mX6_know := co_ok (gt2 (i := 6) rfl rfl) ini_RX6 (by decide +kernel)
theorem cv_X6_know : CV mX6_know := ⟨co_X6_know, (gt2 (i := 4) rfl rfl), (gt2 (i := 5) rfl rfl)⟩
theorem co_X0_setKnown : CO mX0_setKnown := co_ok (gt2 (i := 10) rfl rfl) ini_RX0 (by decide +kernel)
theorem cv_X0_setKnown : CV mX0_setKnown := ⟨co_X0_setKnown, (gt2 (i := 8) rfl rfl), (gt2 (i := 9) rfl rfl)⟩
theorem co_X0_knownTo : CO mX0_knownTo := co_ok (gt2 (i := 15) rfl rfl) ini_RX0 (by decide +kernel)
theorem cv_X0_knownTo : CV mX0_knownTo := ⟨co_X0_knownTo, (gt2 (i := 13) rfl rfl), (gt2 (i := 14) rfl rfl)⟩
theorem co_J13_bitCount_95d88 : CO mJ13_bitCount_95d88 := co_ok (gt2 (i := 18) rfl rfl) ini_RJ13 (by decide +kernel)
theorem cs_J13_bitCount_95d88 : CS mJ13_bitCount_95d88 := ⟨co_J13_bitCount_95d88, (gt2 (i := 17) rfl rfl)⟩
theorem co_X6_claim : CO mX6_claim := co_ok (gt2 (i := 25) rfl rfl) ini_RX6 (by decide +kernel)
theorem cv_X6_claim : CV mX6_claim := ⟨co_X6_claim, (gt2 (i := 23) rfl rfl), (gt2 (i := 24) rfl rfl)⟩
theorem co_X0_setClaimer : CO mX0_setClaimer := co_ok (gt2 (i := 29) rfl rfl) ini_RX0 (by decide +kernel)
theorem cv_X0_setClaimer : CV mX0_setClaimer := ⟨co_X0_setClaimer, (gt2 (i := 27) rfl rfl), (gt2 (i := 28) rfl rfl)⟩
theorem co_X0_countClaimed : CO mX0_countClaimed := co_ok (gt2 (i := 33) rfl rfl) ini_RX0 (by decide +kernel)
theorem cv_X0_countClaimed : CV mX0_countClaimed := ⟨co_X0_countClaimed, (gt2 (i := 31) rfl rfl), (gt2 (i := 32) rfl rfl)⟩
theorem co_X0_countClaimedBy : CO mX0_countClaimedBy := co_ok (gt2 (i := 37) rfl rfl) ini_RX0 (by decide +kernel)
theorem cv_X0_countClaimedBy : CV mX0_countClaimedBy := ⟨co_X0_countClaimedBy, (gt2 (i := 35) rfl rfl), (gt2 (i := 36) rfl rfl)⟩
theorem co_X0_cellsClaimedBy : CO mX0_cellsClaimedBy := co_ok (gt2 (i := 41) rfl rfl) ini_RX0 (by decide +kernel)
theorem cv_X0_cellsClaimedBy : CV mX0_cellsClaimedBy := ⟨co_X0_cellsClaimedBy, (gt2 (i := 40) rfl rfl), (gtp (i := 1) rfl rfl)⟩
theorem co_X6_say : CO mX6_say := co_ok (gt2 (i := 46) rfl rfl) ini_RX6 (by decide +kernel)
theorem cv_X6_say : CV mX6_say := ⟨co_X6_say, (gt2 (i := 44) rfl rfl), (gt2 (i := 45) rfl rfl)⟩
theorem co_X2_add : CO mX2_add := co_ok (gt2 (i := 50) rfl rfl) ini_RX2 (by decide +kernel)
theorem cv_X2_add : CV mX2_add := ⟨co_X2_add, (gt2 (i := 48) rfl rfl), (gt2 (i := 49) rfl rfl)⟩
theorem co_X2_size : CO mX2_size := co_ok (gt2 (i := 54) rfl rfl) ini_RX2 (by decide +kernel)
theorem cv_X2_size : CV mX2_size := ⟨co_X2_size, (gt2 (i := 52) rfl rfl), (gt2 (i := 53) rfl rfl)⟩
theorem co_X6_wipe : CO mX6_wipe := co_ok (gt2 (i := 58) rfl rfl) ini_RX6 (by decide +kernel)
theorem cv_X6_wipe : CV mX6_wipe := ⟨co_X6_wipe, (gt2 (i := 56) rfl rfl), (gt2 (i := 57) rfl rfl)⟩
theorem co_X2_clear : CO mX2_clear := co_ok (gt2 (i := 62) rfl rfl) ini_RX2 (by decide +kernel)
theorem cv_X2_clear : CV mX2_clear := ⟨co_X2_clear, (gt2 (i := 60) rfl rfl), (gt2 (i := 61) rfl rfl)⟩
theorem co_X6_fault : CO mX6_fault := co_ok (gt2 (i := 66) rfl rfl) ini_RX6 (by decide +kernel)
theorem cv_X6_fault : CV mX6_fault := ⟨co_X6_fault, (gt2 (i := 64) rfl rfl), (gt2 (i := 65) rfl rfl)⟩
theorem co_X2_firstFault : CO mX2_firstFault := co_ok (gt2 (i := 70) rfl rfl) ini_RX2 (by decide +kernel)
theorem cv_X2_firstFault : CV mX2_firstFault := ⟨co_X2_firstFault, (gt2 (i := 68) rfl rfl), (gt2 (i := 69) rfl rfl)⟩
theorem co_X2_signAt : CO mX2_signAt := co_ok (gt2 (i := 74) rfl rfl) ini_RX2 (by decide +kernel)
theorem cv_X2_signAt : CV mX2_signAt := ⟨co_X2_signAt, (gt2 (i := 72) rfl rfl), (gt2 (i := 73) rfl rfl)⟩
theorem co_X2_isDeedOfMan : CO mX2_isDeedOfMan := co_ok (gt2 (i := 77) rfl rfl) ini_RX2 (by decide +kernel)
theorem cs_X2_isDeedOfMan : CS mX2_isDeedOfMan := ⟨co_X2_isDeedOfMan, (gt2 (i := 76) rfl rfl)⟩
theorem co_X2_isNight : CO mX2_isNight := co_ok (gt2 (i := 80) rfl rfl) ini_RX2 (by decide +kernel)
theorem cs_X2_isNight : CS mX2_isNight := ⟨co_X2_isNight, (gt2 (i := 79) rfl rfl)⟩
theorem co_X2_deedBy : CO mX2_deedBy := co_ok (gt2 (i := 83) rfl rfl) ini_RX2 (by decide +kernel)
theorem cs_X2_deedBy : CS mX2_deedBy := ⟨co_X2_deedBy, (gt2 (i := 82) rfl rfl)⟩
theorem co_X2_manBy : CO mX2_manBy := co_ok (gt2 (i := 88) rfl rfl) ini_RX2 (by decide +kernel)
theorem cs_X2_manBy : CS mX2_manBy := ⟨co_X2_manBy, (gt2 (i := 87) rfl rfl)⟩
theorem co_X6_judge : CO mX6_judge := co_ok (gt2 (i := 93) rfl rfl) ini_RX6 (by decide +kernel)
theorem cv_X6_judge : CV mX6_judge := ⟨co_X6_judge, (gt2 (i := 91) rfl rfl), (gt2 (i := 92) rfl rfl)⟩
theorem co_X6_playWeeks : CO mX6_playWeeks := co_ok (gt2 (i := 97) rfl rfl) ini_RX6 (by decide +kernel)
theorem cv_X6_playWeeks : CV mX6_playWeeks := ⟨co_X6_playWeeks, (gt2 (i := 96) rfl rfl), (gtp (i := 2) rfl rfl)⟩
theorem co_X0_copyFrom : CO mX0_copyFrom := co_ok (gt2 (i := 101) rfl rfl) ini_RX0 (by decide +kernel)
theorem cv_X0_copyFrom : CV mX0_copyFrom := ⟨co_X0_copyFrom, (gt2 (i := 99) rfl rfl), (gt2 (i := 100) rfl rfl)⟩
theorem co_X5_play : CO mX5_play := co_ok (gt2 (i := 108) rfl rfl) ini_RX5 (by decide +kernel)
theorem cv_X5_play : CV mX5_play := ⟨co_X5_play, (gt2 (i := 106) rfl rfl), (gt2 (i := 107) rfl rfl)⟩
theorem co_X5_act : CO mX5_act := co_ok (gt2 (i := 115) rfl rfl) ini_RX5 (by decide +kernel)
theorem cv_X5_act : CV mX5_act := ⟨co_X5_act, (gt2 (i := 114) rfl rfl), (gtp (i := 3) rfl rfl)⟩
theorem co_X0_reasonAgainst : CO mX0_reasonAgainst := co_ok (gt2 (i := 119) rfl rfl) ini_RX0 (by decide +kernel)
theorem cv_X0_reasonAgainst : CV mX0_reasonAgainst := ⟨co_X0_reasonAgainst, (gt2 (i := 117) rfl rfl), (gt2 (i := 118) rfl rfl)⟩
theorem co_X0_tentOf : CO mX0_tentOf := co_ok (gt2 (i := 124) rfl rfl) ini_RX0 (by decide +kernel)
theorem cv_X0_tentOf : CV mX0_tentOf := ⟨co_X0_tentOf, (gt2 (i := 122) rfl rfl), (gt2 (i := 123) rfl rfl)⟩
theorem co_X0_stepFrom : CO mX0_stepFrom := co_ok (gt2 (i := 127) rfl rfl) ini_RX0 (by decide +kernel)
theorem cs_X0_stepFrom : CS mX0_stepFrom := ⟨co_X0_stepFrom, (gt2 (i := 126) rfl rfl)⟩
theorem co_X6_rowOf : CO mX6_rowOf := co_ok (gt2 (i := 130) rfl rfl) ini_RX6 (by decide +kernel)
theorem cs_X6_rowOf : CS mX6_rowOf := ⟨co_X6_rowOf, (gt2 (i := 129) rfl rfl)⟩
theorem co_X6_columnOf : CO mX6_columnOf := co_ok (gt2 (i := 133) rfl rfl) ini_RX6 (by decide +kernel)
theorem cs_X6_columnOf : CS mX6_columnOf := ⟨co_X6_columnOf, (gt2 (i := 132) rfl rfl)⟩
theorem co_X0_isKnownTo : CO mX0_isKnownTo := co_ok (gt2 (i := 137) rfl rfl) ini_RX0 (by decide +kernel)
theorem cv_X0_isKnownTo : CV mX0_isKnownTo := ⟨co_X0_isKnownTo, (gt2 (i := 135) rfl rfl), (gt2 (i := 136) rfl rfl)⟩
theorem co_X0_claimerOf : CO mX0_claimerOf := co_ok (gt2 (i := 141) rfl rfl) ini_RX0 (by decide +kernel)
theorem cv_X0_claimerOf : CV mX0_claimerOf := ⟨co_X0_claimerOf, (gt2 (i := 139) rfl rfl), (gt2 (i := 140) rfl rfl)⟩
theorem co_X0_perform : CO mX0_perform := co_ok (gt2 (i := 147) rfl rfl) ini_RX0 (by decide +kernel)
theorem cv_X0_perform : CV mX0_perform := ⟨co_X0_perform, (gt2 (i := 145) rfl rfl), (gt2 (i := 146) rfl rfl)⟩
theorem co_X0_passNight : CO mX0_passNight := co_ok (gt2 (i := 151) rfl rfl) ini_RX0 (by decide +kernel)
theorem cv_X0_passNight : CV mX0_passNight := ⟨co_X0_passNight, (gt2 (i := 150) rfl rfl), (gtp (i := 4) rfl rfl)⟩
theorem co_X0_goldIn : CO mX0_goldIn := co_ok (gt2 (i := 155) rfl rfl) ini_RX0 (by decide +kernel)
theorem cv_X0_goldIn : CV mX0_goldIn := ⟨co_X0_goldIn, (gt2 (i := 153) rfl rfl), (gt2 (i := 154) rfl rfl)⟩
theorem co_J9_min_7cf53 : CO mJ9_min_7cf53 := co_ok (gt2 (i := 158) rfl rfl) ini_RJ9 (by decide +kernel)
theorem cs_J9_min_7cf53 : CS mJ9_min_7cf53 := ⟨co_J9_min_7cf53, (gt2 (i := 157) rfl rfl)⟩
theorem co_X5_badAct : CO mX5_badAct := co_ok (gt2 (i := 166) rfl rfl) ini_RX5 (by decide +kernel)
theorem cv_X5_badAct : CV mX5_badAct := ⟨co_X5_badAct, (gt2 (i := 164) rfl rfl), (gt2 (i := 165) rfl rfl)⟩
theorem co_X5_badReason : CO mX5_badReason := co_ok (gt2 (i := 170) rfl rfl) ini_RX5 (by decide +kernel)
theorem cv_X5_badReason : CV mX5_badReason := ⟨co_X5_badReason, (gt2 (i := 168) rfl rfl), (gt2 (i := 169) rfl rfl)⟩
theorem co_X0_womansShare : CO mX0_womansShare := co_ok (gt2 (i := 174) rfl rfl) ini_RX0 (by decide +kernel)
theorem cv_X0_womansShare : CV mX0_womansShare := ⟨co_X0_womansShare, (gt2 (i := 172) rfl rfl), (gt2 (i := 173) rfl rfl)⟩
theorem co_X6_behind : CO mX6_behind := co_ok (gt2 (i := 178) rfl rfl) ini_RX6 (by decide +kernel)
theorem cv_X6_behind : CV mX6_behind := ⟨co_X6_behind, (gt2 (i := 176) rfl rfl), (gt2 (i := 177) rfl rfl)⟩
theorem co_X0_snoreOf : CO mX0_snoreOf := co_ok (gt2 (i := 183) rfl rfl) ini_RX0 (by decide +kernel)
theorem cv_X0_snoreOf : CV mX0_snoreOf := ⟨co_X0_snoreOf, (gt2 (i := 181) rfl rfl), (gt2 (i := 182) rfl rfl)⟩
theorem co_X0_hasCold : CO mX0_hasCold := co_ok (gt2 (i := 187) rfl rfl) ini_RX0 (by decide +kernel)
theorem cv_X0_hasCold : CV mX0_hasCold := ⟨co_X0_hasCold, (gt2 (i := 185) rfl rfl), (gt2 (i := 186) rfl rfl)⟩
theorem co_X0_snoreIf : CO mX0_snoreIf := co_ok (gt2 (i := 191) rfl rfl) ini_RX0 (by decide +kernel)
theorem cv_X0_snoreIf : CV mX0_snoreIf := ⟨co_X0_snoreIf, (gt2 (i := 189) rfl rfl), (gt2 (i := 190) rfl rfl)⟩
theorem co_X0_isWhistling : CO mX0_isWhistling := co_ok (gt2 (i := 196) rfl rfl) ini_RX0 (by decide +kernel)
theorem cv_X0_isWhistling : CV mX0_isWhistling := ⟨co_X0_isWhistling, (gt2 (i := 194) rfl rfl), (gt2 (i := 195) rfl rfl)⟩
theorem co_X0_saltOf : CO mX0_saltOf := co_ok (gt2 (i := 200) rfl rfl) ini_RX0 (by decide +kernel)
theorem cv_X0_saltOf : CV mX0_saltOf := ⟨co_X0_saltOf, (gt2 (i := 198) rfl rfl), (gt2 (i := 199) rfl rfl)⟩
theorem co_X6_heard : CO mX6_heard := co_ok (gt2 (i := 205) rfl rfl) ini_RX6 (by decide +kernel)
theorem cv_X6_heard : CV mX6_heard := ⟨co_X6_heard, (gt2 (i := 203) rfl rfl), (gt2 (i := 204) rfl rfl)⟩
theorem co_X0_listen : CO mX0_listen := co_ok (gt2 (i := 209) rfl rfl) ini_RX0 (by decide +kernel)
theorem cv_X0_listen : CV mX0_listen := ⟨co_X0_listen, (gt2 (i := 207) rfl rfl), (gt2 (i := 208) rfl rfl)⟩
theorem co_X0_heardAt : CO mX0_heardAt := co_ok (gt2 (i := 214) rfl rfl) ini_RX0 (by decide +kernel)
theorem cv_X0_heardAt : CV mX0_heardAt := ⟨co_X0_heardAt, (gt2 (i := 212) rfl rfl), (gt2 (i := 213) rfl rfl)⟩
theorem co_X0_heardWithout : CO mX0_heardWithout := co_ok (gt2 (i := 218) rfl rfl) ini_RX0 (by decide +kernel)
theorem cv_X0_heardWithout : CV mX0_heardWithout := ⟨co_X0_heardWithout, (gt2 (i := 216) rfl rfl), (gt2 (i := 217) rfl rfl)⟩
theorem co_X6_distance : CO mX6_distance := co_ok (gt2 (i := 221) rfl rfl) ini_RX6 (by decide +kernel)
theorem cs_X6_distance : CS mX6_distance := ⟨co_X6_distance, (gt2 (i := 220) rfl rfl)⟩
theorem co_J9_abs_0f7a4 : CO mJ9_abs_0f7a4 := co_ok (gt2 (i := 225) rfl rfl) ini_RJ9 (by decide +kernel)
theorem cs_J9_abs_0f7a4 : CS mJ9_abs_0f7a4 := ⟨co_J9_abs_0f7a4, (gt2 (i := 224) rfl rfl)⟩
theorem co_J9_max_7cf53 : CO mJ9_max_7cf53 := co_ok (gt2 (i := 229) rfl rfl) ini_RJ9 (by decide +kernel)
theorem cs_J9_max_7cf53 : CS mJ9_max_7cf53 := ⟨co_J9_max_7cf53, (gt2 (i := 228) rfl rfl)⟩
theorem co_X6_whose : CO mX6_whose := co_ok (gt2 (i := 233) rfl rfl) ini_RX6 (by decide +kernel)
theorem cv_X6_whose : CV mX6_whose := ⟨co_X6_whose, (gt2 (i := 231) rfl rfl), (gt2 (i := 232) rfl rfl)⟩
theorem co_X6_nothing : CO mX6_nothing := co_ok (gt2 (i := 238) rfl rfl) ini_RX6 (by decide +kernel)
theorem cv_X6_nothing : CV mX6_nothing := ⟨co_X6_nothing, (gt2 (i := 236) rfl rfl), (gt2 (i := 237) rfl rfl)⟩
theorem co_X6_isZeroOrOne : CO mX6_isZeroOrOne := co_ok (gt3 (i := 1) rfl rfl) ini_RX6 (by decide +kernel)
theorem cs_X6_isZeroOrOne : CS mX6_isZeroOrOne := ⟨co_X6_isZeroOrOne, (gt3 (i := 0) rfl rfl)⟩
theorem co_X5_firstEmptyClaim : CO mX5_firstEmptyClaim := co_ok (gt3 (i := 5) rfl rfl) ini_RX5 (by decide +kernel)
theorem cv_X5_firstEmptyClaim : CV mX5_firstEmptyClaim := ⟨co_X5_firstEmptyClaim, (gt3 (i := 3) rfl rfl), (gt3 (i := 4) rfl rfl)⟩
theorem co_X5_countEmptyClaims : CO mX5_countEmptyClaims := co_ok (gt3 (i := 9) rfl rfl) ini_RX5 (by decide +kernel)
theorem cv_X5_countEmptyClaims : CV mX5_countEmptyClaims := ⟨co_X5_countEmptyClaims, (gt3 (i := 7) rfl rfl), (gt3 (i := 8) rfl rfl)⟩
theorem co_X6_done : CO mX6_done := co_ok (gt3 (i := 13) rfl rfl) ini_RX6 (by decide +kernel)
theorem cv_X6_done : CV mX6_done := ⟨co_X6_done, (gt3 (i := 11) rfl rfl), (gt3 (i := 12) rfl rfl)⟩
theorem co_X5_countActs : CO mX5_countActs := co_ok (gt3 (i := 17) rfl rfl) ini_RX5 (by decide +kernel)
theorem cv_X5_countActs : CV mX5_countActs := ⟨co_X5_countActs, (gt3 (i := 15) rfl rfl), (gt3 (i := 16) rfl rfl)⟩
theorem co_X6_loudest : CO mX6_loudest := co_ok (gt3 (i := 21) rfl rfl) ini_RX6 (by decide +kernel)
theorem cv_X6_loudest : CV mX6_loudest := ⟨co_X6_loudest, (gt3 (i := 19) rfl rfl), (gt3 (i := 20) rfl rfl)⟩
theorem co_X6_sleep : CO mX6_sleep := co_ok (gt3 (i := 25) rfl rfl) ini_RX6 (by decide +kernel)
theorem cv_X6_sleep : CV mX6_sleep := ⟨co_X6_sleep, (gt3 (i := 23) rfl rfl), (gt3 (i := 24) rfl rfl)⟩
theorem co_X6_refusalOfSteps : CO mX6_refusalOfSteps := co_ok (gt3 (i := 29) rfl rfl) ini_RX6 (by decide +kernel)
theorem cv_X6_refusalOfSteps : CV mX6_refusalOfSteps := ⟨co_X6_refusalOfSteps, (gt3 (i := 28) rfl rfl), (gtp (i := 5) rfl rfl)⟩
theorem co_X6_quietest : CO mX6_quietest := co_ok (gt3 (i := 33) rfl rfl) ini_RX6 (by decide +kernel)
theorem cv_X6_quietest : CV mX6_quietest := ⟨co_X6_quietest, (gt3 (i := 32) rfl rfl), (gtp (i := 6) rfl rfl)⟩
theorem co_X0_heardByOthers : CO mX0_heardByOthers := co_ok (gt3 (i := 38) rfl rfl) ini_RX0 (by decide +kernel)
theorem cv_X0_heardByOthers : CV mX0_heardByOthers := ⟨co_X0_heardByOthers, (gt3 (i := 36) rfl rfl), (gt3 (i := 37) rfl rfl)⟩
theorem co_X6_hide : CO mX6_hide := co_ok (gt3 (i := 43) rfl rfl) ini_RX6 (by decide +kernel)
theorem cv_X6_hide : CV mX6_hide := ⟨co_X6_hide, (gt3 (i := 41) rfl rfl), (gt3 (i := 42) rfl rfl)⟩
theorem co_X6_tale : CO mX6_tale := co_ok (gt3 (i := 47) rfl rfl) ini_RX6 (by decide +kernel)
theorem cv_X6_tale : CV mX6_tale := ⟨co_X6_tale, (gt3 (i := 45) rfl rfl), (gt3 (i := 46) rfl rfl)⟩
theorem co_X4_add : CO mX4_add := co_ok (gt3 (i := 51) rfl rfl) ini_RX4 (by decide +kernel)
theorem cv_X4_add : CV mX4_add := ⟨co_X4_add, (gt3 (i := 49) rfl rfl), (gt3 (i := 50) rfl rfl)⟩
theorem co_X4_size : CO mX4_size := co_ok (gt3 (i := 55) rfl rfl) ini_RX4 (by decide +kernel)
theorem cv_X4_size : CV mX4_size := ⟨co_X4_size, (gt3 (i := 53) rfl rfl), (gt3 (i := 54) rfl rfl)⟩
theorem co_X6_hush : CO mX6_hush := co_ok (gt3 (i := 59) rfl rfl) ini_RX6 (by decide +kernel)
theorem cv_X6_hush : CV mX6_hush := ⟨co_X6_hush, (gt3 (i := 57) rfl rfl), (gt3 (i := 58) rfl rfl)⟩
theorem co_X4_clear : CO mX4_clear := co_ok (gt3 (i := 63) rfl rfl) ini_RX4 (by decide +kernel)
theorem cv_X4_clear : CV mX4_clear := ⟨co_X4_clear, (gt3 (i := 61) rfl rfl), (gt3 (i := 62) rfl rfl)⟩
theorem co_X6_liars : CO mX6_liars := co_ok (gt3 (i := 67) rfl rfl) ini_RX6 (by decide +kernel)
theorem cv_X6_liars : CV mX6_liars := ⟨co_X6_liars, (gt3 (i := 65) rfl rfl), (gt3 (i := 66) rfl rfl)⟩
theorem co_X4_fewestLiars : CO mX4_fewestLiars := co_ok (gt3 (i := 71) rfl rfl) ini_RX4 (by decide +kernel)
theorem cv_X4_fewestLiars : CV mX4_fewestLiars := ⟨co_X4_fewestLiars, (gt3 (i := 69) rfl rfl), (gt3 (i := 70) rfl rfl)⟩
theorem co_X4_holdTogether : CO mX4_holdTogether := co_ok (gt3 (i := 76) rfl rfl) ini_RX4 (by decide +kernel)
theorem cv_X4_holdTogether : CV mX4_holdTogether := ⟨co_X4_holdTogether, (gt3 (i := 75) rfl rfl), (gtp (i := 7) rfl rfl)⟩
theorem co_X4_isGoldBy : CO mX4_isGoldBy := co_ok (gt3 (i := 80) rfl rfl) ini_RX4 (by decide +kernel)
theorem cv_X4_isGoldBy : CV mX4_isGoldBy := ⟨co_X4_isGoldBy, (gt3 (i := 79) rfl rfl), (gtp (i := 8) rfl rfl)⟩
theorem co_X6_leaves : CO mX6_leaves := co_ok (gt3 (i := 86) rfl rfl) ini_RX6 (by decide +kernel)
theorem cv_X6_leaves : CV mX6_leaves := ⟨co_X6_leaves, (gt3 (i := 84) rfl rfl), (gt3 (i := 85) rfl rfl)⟩
theorem co_X6_readDigits : CO mX6_readDigits := co_ok (gt3 (i := 91) rfl rfl) ini_RX6 (by decide +kernel)
theorem cv_X6_readDigits : CV mX6_readDigits := ⟨co_X6_readDigits, (gt3 (i := 90) rfl rfl), (gtp (i := 9) rfl rfl)⟩
theorem co_X6_digitsAreTwos : CO mX6_digitsAreTwos := co_ok (gt3 (i := 95) rfl rfl) ini_RX6 (by decide +kernel)
theorem cv_X6_digitsAreTwos : CV mX6_digitsAreTwos := ⟨co_X6_digitsAreTwos, (gt3 (i := 94) rfl rfl), (gtp (i := 10) rfl rfl)⟩
theorem co_X6_digitAt : CO mX6_digitAt := co_ok (gt3 (i := 99) rfl rfl) ini_RX6 (by decide +kernel)
theorem cv_X6_digitAt : CV mX6_digitAt := ⟨co_X6_digitAt, (gt3 (i := 98) rfl rfl), (gtp (i := 11) rfl rfl)⟩
theorem co_X6_wouldRatherShare : CO mX6_wouldRatherShare := co_ok (gt3 (i := 103) rfl rfl) ini_RX6 (by decide +kernel)
theorem cv_X6_wouldRatherShare : CV mX6_wouldRatherShare := ⟨co_X6_wouldRatherShare, (gt3 (i := 102) rfl rfl), (gtp (i := 12) rfl rfl)⟩
theorem co_X0_twiceShare : CO mX0_twiceShare := co_ok (gt3 (i := 107) rfl rfl) ini_RX0 (by decide +kernel)
theorem cv_X0_twiceShare : CV mX0_twiceShare := ⟨co_X0_twiceShare, (gt3 (i := 105) rfl rfl), (gt3 (i := 106) rfl rfl)⟩
theorem co_X6_seen : CO mX6_seen := co_ok (gt3 (i := 111) rfl rfl) ini_RX6 (by decide +kernel)
theorem cv_X6_seen : CV mX6_seen := ⟨co_X6_seen, (gt3 (i := 109) rfl rfl), (gt3 (i := 110) rfl rfl)⟩
theorem co_X3_add : CO mX3_add := co_ok (gt3 (i := 115) rfl rfl) ini_RX3 (by decide +kernel)
theorem cv_X3_add : CV mX3_add := ⟨co_X3_add, (gt3 (i := 113) rfl rfl), (gt3 (i := 114) rfl rfl)⟩
theorem co_X3_lodesThrough : CO mX3_lodesThrough := co_ok (gt3 (i := 118) rfl rfl) ini_RX3 (by decide +kernel)
theorem cs_X3_lodesThrough : CS mX3_lodesThrough := ⟨co_X3_lodesThrough, (gt3 (i := 117) rfl rfl)⟩
theorem co_X3_size : CO mX3_size := co_ok (gt3 (i := 125) rfl rfl) ini_RX3 (by decide +kernel)
theorem cv_X3_size : CV mX3_size := ⟨co_X3_size, (gt3 (i := 123) rfl rfl), (gt3 (i := 124) rfl rfl)⟩
theorem co_X6_forget : CO mX6_forget := co_ok (gt3 (i := 129) rfl rfl) ini_RX6 (by decide +kernel)
theorem cv_X6_forget : CV mX6_forget := ⟨co_X6_forget, (gt3 (i := 127) rfl rfl), (gt3 (i := 128) rfl rfl)⟩
theorem co_X3_clear : CO mX3_clear := co_ok (gt3 (i := 133) rfl rfl) ini_RX3 (by decide +kernel)
theorem cv_X3_clear : CV mX3_clear := ⟨co_X3_clear, (gt3 (i := 131) rfl rfl), (gt3 (i := 132) rfl rfl)⟩
theorem co_X6_lodes : CO mX6_lodes := co_ok (gt3 (i := 137) rfl rfl) ini_RX6 (by decide +kernel)
theorem cv_X6_lodes : CV mX6_lodes := ⟨co_X6_lodes, (gt3 (i := 135) rfl rfl), (gt3 (i := 136) rfl rfl)⟩
theorem co_X3_countFitting : CO mX3_countFitting := co_ok (gt3 (i := 141) rfl rfl) ini_RX3 (by decide +kernel)
theorem cv_X3_countFitting : CV mX3_countFitting := ⟨co_X3_countFitting, (gt3 (i := 139) rfl rfl), (gt3 (i := 140) rfl rfl)⟩
theorem co_X3_fittingAt : CO mX3_fittingAt := co_ok (gt3 (i := 146) rfl rfl) ini_RX3 (by decide +kernel)
theorem cv_X3_fittingAt : CV mX3_fittingAt := ⟨co_X3_fittingAt, (gt3 (i := 144) rfl rfl), (gt3 (i := 145) rfl rfl)⟩
theorem co_X6_odds : CO mX6_odds := co_ok (gt3 (i := 150) rfl rfl) ini_RX6 (by decide +kernel)
theorem cv_X6_odds : CV mX6_odds := ⟨co_X6_odds, (gt3 (i := 148) rfl rfl), (gt3 (i := 149) rfl rfl)⟩
theorem co_X3_countThrough : CO mX3_countThrough := co_ok (gt3 (i := 155) rfl rfl) ini_RX3 (by decide +kernel)
theorem cv_X3_countThrough : CV mX3_countThrough := ⟨co_X3_countThrough, (gt3 (i := 153) rfl rfl), (gt3 (i := 154) rfl rfl)⟩
theorem co_X6_partOfFraction : CO mX6_partOfFraction := co_ok (gt3 (i := 158) rfl rfl) ini_RX6 (by decide +kernel)
theorem cs_X6_partOfFraction : CS mX6_partOfFraction := ⟨co_X6_partOfFraction, (gt3 (i := 157) rfl rfl)⟩
theorem co_X6_greatestDivisor : CO mX6_greatestDivisor := co_ok (gt3 (i := 161) rfl rfl) ini_RX6 (by decide +kernel)
theorem cs_X6_greatestDivisor : CS mX6_greatestDivisor := ⟨co_X6_greatestDivisor, (gt3 (i := 160) rfl rfl)⟩
theorem co_X6_next : CO mX6_next := co_ok (gt3 (i := 165) rfl rfl) ini_RX6 (by decide +kernel)
theorem cv_X6_next : CV mX6_next := ⟨co_X6_next, (gt3 (i := 163) rfl rfl), (gt3 (i := 164) rfl rfl)⟩
theorem co_X6_turns : CO mX6_turns := co_ok (gt3 (i := 170) rfl rfl) ini_RX6 (by decide +kernel)
theorem cv_X6_turns : CV mX6_turns := ⟨co_X6_turns, (gt3 (i := 168) rfl rfl), (gt3 (i := 169) rfl rfl)⟩
theorem co_X6_findLeads : CO mX6_findLeads := co_ok (gt3 (i := 174) rfl rfl) ini_RX6 (by decide +kernel)
theorem cv_X6_findLeads : CV mX6_findLeads := ⟨co_X6_findLeads, (gt3 (i := 173) rfl rfl), (gtp (i := 13) rfl rfl)⟩
theorem co_X6_leadAt : CO mX6_leadAt := co_ok (gt3 (i := 178) rfl rfl) ini_RX6 (by decide +kernel)
theorem cv_X6_leadAt : CV mX6_leadAt := ⟨co_X6_leadAt, (gt3 (i := 177) rfl rfl), (gtp (i := 14) rfl rfl)⟩
theorem co_X6_colds : CO mX6_colds := co_ok (gt3 (i := 182) rfl rfl) ini_RX6 (by decide +kernel)
theorem cv_X6_colds : CV mX6_colds := ⟨co_X6_colds, (gt3 (i := 180) rfl rfl), (gt3 (i := 181) rfl rfl)⟩
theorem co_X6_hearWithAndWithoutCold : CO mX6_hearWithAndWithoutCold := co_ok (gt3 (i := 186) rfl rfl) ini_RX6 (by decide +kernel)
theorem cv_X6_hearWithAndWithoutCold : CV mX6_hearWithAndWithoutCold := ⟨co_X6_hearWithAndWithoutCold, (gt3 (i := 185) rfl rfl), (gtp (i := 15) rfl rfl)⟩
theorem co_X0_menBits : CO mX0_menBits := co_ok (gt3 (i := 191) rfl rfl) ini_RX0 (by decide +kernel)
theorem cv_X0_menBits : CV mX0_menBits := ⟨co_X0_menBits, (gt3 (i := 189) rfl rfl), (gt3 (i := 190) rfl rfl)⟩
theorem co_X6_heardIfSick : CO mX6_heardIfSick := co_ok (gt3 (i := 195) rfl rfl) ini_RX6 (by decide +kernel)
theorem cv_X6_heardIfSick : CV mX6_heardIfSick := ⟨co_X6_heardIfSick, (gt3 (i := 194) rfl rfl), (gtp (i := 16) rfl rfl)⟩
theorem co_X6_weightOf : CO mX6_weightOf := co_ok (gt3 (i := 199) rfl rfl) ini_RX6 (by decide +kernel)
theorem cs_X6_weightOf : CS mX6_weightOf := ⟨co_X6_weightOf, (gt3 (i := 198) rfl rfl)⟩
theorem co_X6_power : CO mX6_power := co_ok (gt3 (i := 202) rfl rfl) ini_RX6 (by decide +kernel)
theorem cs_X6_power : CS mX6_power := ⟨co_X6_power, (gt3 (i := 201) rfl rfl)⟩
theorem co_X6_year : CO mX6_year := co_ok (gt3 (i := 206) rfl rfl) ini_RX6 (by decide +kernel)
theorem cv_X6_year : CV mX6_year := ⟨co_X6_year, (gt3 (i := 204) rfl rfl), (gt3 (i := 205) rfl rfl)⟩
theorem co_X0_allSalt : CO mX0_allSalt := co_ok (gt3 (i := 213) rfl rfl) ini_RX0 (by decide +kernel)
theorem cv_X0_allSalt : CV mX0_allSalt := ⟨co_X0_allSalt, (gt3 (i := 211) rfl rfl), (gt3 (i := 212) rfl rfl)⟩
theorem co_X6_image : CO mX6_image := co_ok (gt3 (i := 217) rfl rfl) ini_RX6 (by decide +kernel)
theorem cv_X6_image : CV mX6_image := ⟨co_X6_image, (gt3 (i := 215) rfl rfl), (gt3 (i := 216) rfl rfl)⟩
theorem co_X6_imageOf : CO mX6_imageOf := co_ok (gt3 (i := 221) rfl rfl) ini_RX6 (by decide +kernel)
theorem cv_X6_imageOf : CV mX6_imageOf := ⟨co_X6_imageOf, (gt3 (i := 220) rfl rfl), (gtp (i := 17) rfl rfl)⟩
theorem co_X1_copyFrom : CO mX1_copyFrom := co_ok (gt3 (i := 225) rfl rfl) ini_RX1 (by decide +kernel)
theorem cv_X1_copyFrom : CV mX1_copyFrom := ⟨co_X1_copyFrom, (gt3 (i := 223) rfl rfl), (gt3 (i := 224) rfl rfl)⟩
theorem co_X4_copyFrom : CO mX4_copyFrom := co_ok (gt3 (i := 230) rfl rfl) ini_RX4 (by decide +kernel)
theorem cv_X4_copyFrom : CV mX4_copyFrom := ⟨co_X4_copyFrom, (gt3 (i := 228) rfl rfl), (gt3 (i := 229) rfl rfl)⟩
theorem co_X3_copyFrom : CO mX3_copyFrom := co_ok (gt3 (i := 235) rfl rfl) ini_RX3 (by decide +kernel)
theorem cv_X3_copyFrom : CV mX3_copyFrom := ⟨co_X3_copyFrom, (gt3 (i := 233) rfl rfl), (gt3 (i := 234) rfl rfl)⟩
theorem co_X1_markKept : CO mX1_markKept := co_ok (gt3 (i := 239) rfl rfl) ini_RX1 (by decide +kernel)
theorem cv_X1_markKept : CV mX1_markKept := ⟨co_X1_markKept, (gt3 (i := 237) rfl rfl), (gt3 (i := 238) rfl rfl)⟩
theorem co_X6_restore : CO mX6_restore := co_ok (gt4 (i := 3) rfl rfl) ini_RX6 (by decide +kernel)
theorem cv_X6_restore : CV mX6_restore := ⟨co_X6_restore, (gt4 (i := 1) rfl rfl), (gt4 (i := 2) rfl rfl)⟩
theorem co_X1_isKept : CO mX1_isKept := co_ok (gt4 (i := 7) rfl rfl) ini_RX1 (by decide +kernel)
theorem cv_X1_isKept : CV mX1_isKept := ⟨co_X1_isKept, (gt4 (i := 5) rfl rfl), (gt4 (i := 6) rfl rfl)⟩
theorem co_X6_told : CO mX6_told := co_ok (gt4 (i := 11) rfl rfl) ini_RX6 (by decide +kernel)
theorem cv_X6_told : CV mX6_told := ⟨co_X6_told, (gt4 (i := 9) rfl rfl), (gt4 (i := 10) rfl rfl)⟩
theorem co_X6_toldOfMan : CO mX6_toldOfMan := co_ok (gt4 (i := 15) rfl rfl) ini_RX6 (by decide +kernel)
theorem cv_X6_toldOfMan : CV mX6_toldOfMan := ⟨co_X6_toldOfMan, (gt4 (i := 14) rfl rfl), (gtp (i := 18) rfl rfl)⟩
theorem co_X6_toldOfCell : CO mX6_toldOfCell := co_ok (gt4 (i := 21) rfl rfl) ini_RX6 (by decide +kernel)
theorem cv_X6_toldOfCell : CV mX6_toldOfCell := ⟨co_X6_toldOfCell, (gt4 (i := 20) rfl rfl), (gtp (i := 19) rfl rfl)⟩
theorem co_X6_toldOfKnown : CO mX6_toldOfKnown := co_ok (gt4 (i := 25) rfl rfl) ini_RX6 (by decide +kernel)
theorem cv_X6_toldOfKnown : CV mX6_toldOfKnown := ⟨co_X6_toldOfKnown, (gt4 (i := 24) rfl rfl), (gtp (i := 20) rfl rfl)⟩
theorem co_X7_init : CO mX7_init := co_ok (gt4 (i := 31) rfl rfl) ini_RX7 (by decide +kernel)
theorem ci_X7_init : Cond.instanceMethod (my mX7_init) ∈ gt := (gt4 (i := 30) rfl rfl)
theorem co_X7_gold : CO mX7_gold := co_ok (gt4 (i := 149) rfl rfl) ini_RX7 (by decide +kernel)
theorem cv_X7_gold : CV mX7_gold := ⟨co_X7_gold, (gt4 (i := 147) rfl rfl), (gt4 (i := 148) rfl rfl)⟩
theorem co_X7_isCell : CO mX7_isCell := co_ok (gt4 (i := 152) rfl rfl) ini_RX7 (by decide +kernel)
theorem cs_X7_isCell : CS mX7_isCell := ⟨co_X7_isCell, (gt4 (i := 151) rfl rfl)⟩
theorem co_X7_in : CO mX7_in := co_ok (gt4 (i := 156) rfl rfl) ini_RX7 (by decide +kernel)
theorem cs_X7_in : CS mX7_in := ⟨co_X7_in, (gt4 (i := 155) rfl rfl)⟩
theorem co_X7_man : CO mX7_man := co_ok (gt4 (i := 161) rfl rfl) ini_RX7 (by decide +kernel)
theorem cv_X7_man : CV mX7_man := ⟨co_X7_man, (gt4 (i := 159) rfl rfl), (gt4 (i := 160) rfl rfl)⟩
theorem co_X7_ones : CO mX7_ones := co_ok (gt4 (i := 165) rfl rfl) ini_RX7 (by decide +kernel)
theorem cs_X7_ones : CS mX7_ones := ⟨co_X7_ones, (gt4 (i := 164) rfl rfl)⟩
theorem co_X7_leave : CO mX7_leave := co_ok (gt4 (i := 169) rfl rfl) ini_RX7 (by decide +kernel)
theorem cv_X7_leave : CV mX7_leave := ⟨co_X7_leave, (gt4 (i := 167) rfl rfl), (gt4 (i := 168) rfl rfl)⟩
theorem co_X7_isMan : CO mX7_isMan := co_ok (gt4 (i := 173) rfl rfl) ini_RX7 (by decide +kernel)
theorem cv_X7_isMan : CV mX7_isMan := ⟨co_X7_isMan, (gt4 (i := 172) rfl rfl), (gtp (i := 21) rfl rfl)⟩
theorem co_X7_know : CO mX7_know := co_ok (gt4 (i := 177) rfl rfl) ini_RX7 (by decide +kernel)
theorem cv_X7_know : CV mX7_know := ⟨co_X7_know, (gt4 (i := 175) rfl rfl), (gt4 (i := 176) rfl rfl)⟩
theorem co_X7_knownBy : CO mX7_knownBy := co_ok (gt4 (i := 182) rfl rfl) ini_RX7 (by decide +kernel)
theorem cv_X7_knownBy : CV mX7_knownBy := ⟨co_X7_knownBy, (gt4 (i := 181) rfl rfl), (gtp (i := 22) rfl rfl)⟩
theorem co_X7_isKnown : CO mX7_isKnown := co_ok (gt4 (i := 186) rfl rfl) ini_RX7 (by decide +kernel)
theorem cv_X7_isKnown : CV mX7_isKnown := ⟨co_X7_isKnown, (gt4 (i := 185) rfl rfl), (gtp (i := 23) rfl rfl)⟩
theorem co_X7_claim : CO mX7_claim := co_ok (gt4 (i := 190) rfl rfl) ini_RX7 (by decide +kernel)
theorem cv_X7_claim : CV mX7_claim := ⟨co_X7_claim, (gt4 (i := 188) rfl rfl), (gt4 (i := 189) rfl rfl)⟩
theorem co_X7_claimedCells : CO mX7_claimedCells := co_ok (gt4 (i := 194) rfl rfl) ini_RX7 (by decide +kernel)
theorem cv_X7_claimedCells : CV mX7_claimedCells := ⟨co_X7_claimedCells, (gt4 (i := 193) rfl rfl), (gtp (i := 24) rfl rfl)⟩
theorem co_X7_claimedBy : CO mX7_claimedBy := co_ok (gt4 (i := 198) rfl rfl) ini_RX7 (by decide +kernel)
theorem cv_X7_claimedBy : CV mX7_claimedBy := ⟨co_X7_claimedBy, (gt4 (i := 197) rfl rfl), (gtp (i := 25) rfl rfl)⟩
theorem co_X7_say : CO mX7_say := co_ok (gt4 (i := 202) rfl rfl) ini_RX7 (by decide +kernel)
theorem cv_X7_say : CV mX7_say := ⟨co_X7_say, (gt4 (i := 200) rfl rfl), (gt4 (i := 201) rfl rfl)⟩
theorem co_X7_wipe : CO mX7_wipe := co_ok (gt4 (i := 208) rfl rfl) ini_RX7 (by decide +kernel)
theorem cv_X7_wipe : CV mX7_wipe := ⟨co_X7_wipe, (gt4 (i := 206) rfl rfl), (gt4 (i := 207) rfl rfl)⟩
theorem co_X7_fault : CO mX7_fault := co_ok (gt4 (i := 212) rfl rfl) ini_RX7 (by decide +kernel)
theorem cv_X7_fault : CV mX7_fault := ⟨co_X7_fault, (gt4 (i := 210) rfl rfl), (gt4 (i := 211) rfl rfl)⟩
theorem co_X7_readOn : CO mX7_readOn := co_ok (gt4 (i := 216) rfl rfl) ini_RX7 (by decide +kernel)
theorem cv_X7_readOn : CV mX7_readOn := ⟨co_X7_readOn, (gt4 (i := 215) rfl rfl), (gtp (i := 26) rfl rfl)⟩
theorem co_X7_deed : CO mX7_deed := co_ok (gt4 (i := 220) rfl rfl) ini_RX7 (by decide +kernel)
theorem cv_X7_deed : CV mX7_deed := ⟨co_X7_deed, (gt4 (i := 219) rfl rfl), (gtp (i := 27) rfl rfl)⟩
theorem co_X7_close : CO mX7_close := co_ok (gt4 (i := 224) rfl rfl) ini_RX7 (by decide +kernel)
theorem cv_X7_close : CV mX7_close := ⟨co_X7_close, (gt4 (i := 223) rfl rfl), (gtp (i := 28) rfl rfl)⟩
theorem co_X7_judge : CO mX7_judge := co_ok (gt4 (i := 230) rfl rfl) ini_RX7 (by decide +kernel)
theorem cv_X7_judge : CV mX7_judge := ⟨co_X7_judge, (gt4 (i := 228) rfl rfl), (gt4 (i := 229) rfl rfl)⟩
theorem co_X7_refusal : CO mX7_refusal := co_ok (gt4 (i := 235) rfl rfl) ini_RX7 (by decide +kernel)
theorem cv_X7_refusal : CV mX7_refusal := ⟨co_X7_refusal, (gt4 (i := 234) rfl rfl), (gtp (i := 29) rfl rfl)⟩
theorem co_X7_keepNow : CO mX7_keepNow := co_ok (gt4 (i := 239) rfl rfl) ini_RX7 (by decide +kernel)
theorem cv_X7_keepNow : CV mX7_keepNow := ⟨co_X7_keepNow, (gt4 (i := 238) rfl rfl), (gtp (i := 30) rfl rfl)⟩
theorem co_X7_goWeeks : CO mX7_goWeeks := co_ok (gt5 (i := 4) rfl rfl) ini_RX7 (by decide +kernel)
theorem cv_X7_goWeeks : CV mX7_goWeeks := ⟨co_X7_goWeeks, (gt5 (i := 3) rfl rfl), (gtp (i := 31) rfl rfl)⟩
theorem co_X7_whyNot : CO mX7_whyNot := co_ok (gt5 (i := 8) rfl rfl) ini_RX7 (by decide +kernel)
theorem cv_X7_whyNot : CV mX7_whyNot := ⟨co_X7_whyNot, (gt5 (i := 7) rfl rfl), (gtp (i := 32) rfl rfl)⟩
theorem co_X7_canGo : CO mX7_canGo := co_ok (gt5 (i := 12) rfl rfl) ini_RX7 (by decide +kernel)
theorem cv_X7_canGo : CV mX7_canGo := ⟨co_X7_canGo, (gt5 (i := 11) rfl rfl), (gtp (i := 33) rfl rfl)⟩
theorem co_X7_eastBy : CO mX7_eastBy := co_ok (gt5 (i := 15) rfl rfl) ini_RX7 (by decide +kernel)
theorem cs_X7_eastBy : CS mX7_eastBy := ⟨co_X7_eastBy, (gt5 (i := 14) rfl rfl)⟩
theorem co_X7_northBy : CO mX7_northBy := co_ok (gt5 (i := 19) rfl rfl) ini_RX7 (by decide +kernel)
theorem cs_X7_northBy : CS mX7_northBy := ⟨co_X7_northBy, (gt5 (i := 18) rfl rfl)⟩
theorem co_X7_happen : CO mX7_happen := co_ok (gt5 (i := 23) rfl rfl) ini_RX7 (by decide +kernel)
theorem cv_X7_happen : CV mX7_happen := ⟨co_X7_happen, (gt5 (i := 22) rfl rfl), (gtp (i := 34) rfl rfl)⟩
theorem co_X7_claimHere : CO mX7_claimHere := co_ok (gt5 (i := 27) rfl rfl) ini_RX7 (by decide +kernel)
theorem cv_X7_claimHere : CV mX7_claimHere := ⟨co_X7_claimHere, (gt5 (i := 26) rfl rfl), (gtp (i := 35) rfl rfl)⟩
theorem co_X7_passNight : CO mX7_passNight := co_ok (gt5 (i := 31) rfl rfl) ini_RX7 (by decide +kernel)
theorem cv_X7_passNight : CV mX7_passNight := ⟨co_X7_passNight, (gt5 (i := 30) rfl rfl), (gtp (i := 36) rfl rfl)⟩
theorem co_X7_back : CO mX7_back := co_ok (gt5 (i := 35) rfl rfl) ini_RX7 (by decide +kernel)
theorem cv_X7_back : CV mX7_back := ⟨co_X7_back, (gt5 (i := 34) rfl rfl), (gtp (i := 37) rfl rfl)⟩
theorem co_X7_behind : CO mX7_behind := co_ok (gt5 (i := 39) rfl rfl) ini_RX7 (by decide +kernel)
theorem cv_X7_behind : CV mX7_behind := ⟨co_X7_behind, (gt5 (i := 37) rfl rfl), (gt5 (i := 38) rfl rfl)⟩
theorem co_X7_ofMan : CO mX7_ofMan := co_ok (gt5 (i := 44) rfl rfl) ini_RX7 (by decide +kernel)
theorem cv_X7_ofMan : CV mX7_ofMan := ⟨co_X7_ofMan, (gt5 (i := 43) rfl rfl), (gtp (i := 38) rfl rfl)⟩
theorem co_X7_snore : CO mX7_snore := co_ok (gt5 (i := 48) rfl rfl) ini_RX7 (by decide +kernel)
theorem cv_X7_snore : CV mX7_snore := ⟨co_X7_snore, (gt5 (i := 47) rfl rfl), (gtp (i := 39) rfl rfl)⟩
theorem co_X7_snoreBy : CO mX7_snoreBy := co_ok (gt5 (i := 52) rfl rfl) ini_RX7 (by decide +kernel)
theorem cv_X7_snoreBy : CV mX7_snoreBy := ⟨co_X7_snoreBy, (gt5 (i := 51) rfl rfl), (gtp (i := 40) rfl rfl)⟩
theorem co_X7_heard : CO mX7_heard := co_ok (gt5 (i := 56) rfl rfl) ini_RX7 (by decide +kernel)
theorem cv_X7_heard : CV mX7_heard := ⟨co_X7_heard, (gt5 (i := 54) rfl rfl), (gt5 (i := 55) rfl rfl)⟩
theorem co_X7_heardAt : CO mX7_heardAt := co_ok (gt5 (i := 60) rfl rfl) ini_RX7 (by decide +kernel)
theorem cv_X7_heardAt : CV mX7_heardAt := ⟨co_X7_heardAt, (gt5 (i := 59) rfl rfl), (gtp (i := 41) rfl rfl)⟩
theorem co_X7_apart : CO mX7_apart := co_ok (gt5 (i := 63) rfl rfl) ini_RX7 (by decide +kernel)
theorem cs_X7_apart : CS mX7_apart := ⟨co_X7_apart, (gt5 (i := 62) rfl rfl)⟩
theorem co_X7_over : CO mX7_over := co_ok (gt5 (i := 66) rfl rfl) ini_RX7 (by decide +kernel)
theorem cs_X7_over : CS mX7_over := ⟨co_X7_over, (gt5 (i := 65) rfl rfl)⟩
theorem co_X7_whose : CO mX7_whose := co_ok (gt5 (i := 70) rfl rfl) ini_RX7 (by decide +kernel)
theorem cv_X7_whose : CV mX7_whose := ⟨co_X7_whose, (gt5 (i := 68) rfl rfl), (gt5 (i := 69) rfl rfl)⟩
theorem co_X7_nothing : CO mX7_nothing := co_ok (gt5 (i := 74) rfl rfl) ini_RX7 (by decide +kernel)
theorem cv_X7_nothing : CV mX7_nothing := ⟨co_X7_nothing, (gt5 (i := 72) rfl rfl), (gt5 (i := 73) rfl rfl)⟩
theorem co_X7_done : CO mX7_done := co_ok (gt5 (i := 78) rfl rfl) ini_RX7 (by decide +kernel)
theorem cv_X7_done : CV mX7_done := ⟨co_X7_done, (gt5 (i := 76) rfl rfl), (gt5 (i := 77) rfl rfl)⟩
theorem co_X7_loudest : CO mX7_loudest := co_ok (gt5 (i := 82) rfl rfl) ini_RX7 (by decide +kernel)
theorem cv_X7_loudest : CV mX7_loudest := ⟨co_X7_loudest, (gt5 (i := 80) rfl rfl), (gt5 (i := 81) rfl rfl)⟩
theorem co_X7_sleep : CO mX7_sleep := co_ok (gt5 (i := 86) rfl rfl) ini_RX7 (by decide +kernel)
theorem cv_X7_sleep : CV mX7_sleep := ⟨co_X7_sleep, (gt5 (i := 84) rfl rfl), (gt5 (i := 85) rfl rfl)⟩
theorem co_X7_quietest : CO mX7_quietest := co_ok (gt5 (i := 91) rfl rfl) ini_RX7 (by decide +kernel)
theorem cv_X7_quietest : CV mX7_quietest := ⟨co_X7_quietest, (gt5 (i := 90) rfl rfl), (gtp (i := 42) rfl rfl)⟩
theorem co_X7_quietAt : CO mX7_quietAt := co_ok (gt5 (i := 95) rfl rfl) ini_RX7 (by decide +kernel)
theorem cv_X7_quietAt : CV mX7_quietAt := ⟨co_X7_quietAt, (gt5 (i := 94) rfl rfl), (gtp (i := 43) rfl rfl)⟩
theorem co_X7_givenAway : CO mX7_givenAway := co_ok (gt5 (i := 99) rfl rfl) ini_RX7 (by decide +kernel)
theorem cv_X7_givenAway : CV mX7_givenAway := ⟨co_X7_givenAway, (gt5 (i := 98) rfl rfl), (gtp (i := 44) rfl rfl)⟩
theorem co_X7_hide : CO mX7_hide := co_ok (gt5 (i := 103) rfl rfl) ini_RX7 (by decide +kernel)
theorem cv_X7_hide : CV mX7_hide := ⟨co_X7_hide, (gt5 (i := 101) rfl rfl), (gt5 (i := 102) rfl rfl)⟩
theorem co_X7_tale : CO mX7_tale := co_ok (gt5 (i := 107) rfl rfl) ini_RX7 (by decide +kernel)
theorem cv_X7_tale : CV mX7_tale := ⟨co_X7_tale, (gt5 (i := 105) rfl rfl), (gt5 (i := 106) rfl rfl)⟩
theorem co_X7_hush : CO mX7_hush := co_ok (gt5 (i := 111) rfl rfl) ini_RX7 (by decide +kernel)
theorem cv_X7_hush : CV mX7_hush := ⟨co_X7_hush, (gt5 (i := 109) rfl rfl), (gt5 (i := 110) rfl rfl)⟩
theorem co_X7_liars : CO mX7_liars := co_ok (gt5 (i := 115) rfl rfl) ini_RX7 (by decide +kernel)
theorem cv_X7_liars : CV mX7_liars := ⟨co_X7_liars, (gt5 (i := 113) rfl rfl), (gt5 (i := 114) rfl rfl)⟩
theorem co_X7_canBe : CO mX7_canBe := co_ok (gt5 (i := 119) rfl rfl) ini_RX7 (by decide +kernel)
theorem cv_X7_canBe : CV mX7_canBe := ⟨co_X7_canBe, (gt5 (i := 118) rfl rfl), (gtp (i := 45) rfl rfl)⟩
theorem co_X7_meant : CO mX7_meant := co_ok (gt5 (i := 123) rfl rfl) ini_RX7 (by decide +kernel)
theorem cv_X7_meant : CV mX7_meant := ⟨co_X7_meant, (gt5 (i := 122) rfl rfl), (gtp (i := 46) rfl rfl)⟩
theorem co_X7_leaves : CO mX7_leaves := co_ok (gt5 (i := 127) rfl rfl) ini_RX7 (by decide +kernel)
theorem cv_X7_leaves : CV mX7_leaves := ⟨co_X7_leaves, (gt5 (i := 125) rfl rfl), (gt5 (i := 126) rfl rfl)⟩
theorem co_X7_areTwos : CO mX7_areTwos := co_ok (gt5 (i := 131) rfl rfl) ini_RX7 (by decide +kernel)
theorem cv_X7_areTwos : CV mX7_areTwos := ⟨co_X7_areTwos, (gt5 (i := 130) rfl rfl), (gtp (i := 47) rfl rfl)⟩
theorem co_X7_wouldLeave : CO mX7_wouldLeave := co_ok (gt5 (i := 136) rfl rfl) ini_RX7 (by decide +kernel)
theorem cv_X7_wouldLeave : CV mX7_wouldLeave := ⟨co_X7_wouldLeave, (gt5 (i := 135) rfl rfl), (gtp (i := 48) rfl rfl)⟩
theorem co_X7_halves : CO mX7_halves := co_ok (gt5 (i := 140) rfl rfl) ini_RX7 (by decide +kernel)
theorem cv_X7_halves : CV mX7_halves := ⟨co_X7_halves, (gt5 (i := 139) rfl rfl), (gtp (i := 49) rfl rfl)⟩
theorem co_X7_goldOf : CO mX7_goldOf := co_ok (gt5 (i := 144) rfl rfl) ini_RX7 (by decide +kernel)
theorem cv_X7_goldOf : CV mX7_goldOf := ⟨co_X7_goldOf, (gt5 (i := 143) rfl rfl), (gtp (i := 50) rfl rfl)⟩
theorem co_X7_seen : CO mX7_seen := co_ok (gt5 (i := 148) rfl rfl) ini_RX7 (by decide +kernel)
theorem cv_X7_seen : CV mX7_seen := ⟨co_X7_seen, (gt5 (i := 146) rfl rfl), (gt5 (i := 147) rfl rfl)⟩
theorem co_X7_forget : CO mX7_forget := co_ok (gt5 (i := 152) rfl rfl) ini_RX7 (by decide +kernel)
theorem cv_X7_forget : CV mX7_forget := ⟨co_X7_forget, (gt5 (i := 150) rfl rfl), (gt5 (i := 151) rfl rfl)⟩
theorem co_X7_lodes : CO mX7_lodes := co_ok (gt5 (i := 156) rfl rfl) ini_RX7 (by decide +kernel)
theorem cv_X7_lodes : CV mX7_lodes := ⟨co_X7_lodes, (gt5 (i := 154) rfl rfl), (gt5 (i := 155) rfl rfl)⟩
theorem co_X7_fits : CO mX7_fits := co_ok (gt5 (i := 160) rfl rfl) ini_RX7 (by decide +kernel)
theorem cv_X7_fits : CV mX7_fits := ⟨co_X7_fits, (gt5 (i := 159) rfl rfl), (gtp (i := 51) rfl rfl)⟩
theorem co_X7_isOn : CO mX7_isOn := co_ok (gt5 (i := 163) rfl rfl) ini_RX7 (by decide +kernel)
theorem cs_X7_isOn : CS mX7_isOn := ⟨co_X7_isOn, (gt5 (i := 162) rfl rfl)⟩
theorem co_X7_odds : CO mX7_odds := co_ok (gt5 (i := 167) rfl rfl) ini_RX7 (by decide +kernel)
theorem cv_X7_odds : CV mX7_odds := ⟨co_X7_odds, (gt5 (i := 165) rfl rfl), (gt5 (i := 166) rfl rfl)⟩
theorem co_X7_linesOn : CO mX7_linesOn := co_ok (gt5 (i := 173) rfl rfl) ini_RX7 (by decide +kernel)
theorem cv_X7_linesOn : CV mX7_linesOn := ⟨co_X7_linesOn, (gt5 (i := 172) rfl rfl), (gtp (i := 52) rfl rfl)⟩
theorem co_X7_lowest : CO mX7_lowest := co_ok (gt5 (i := 176) rfl rfl) ini_RX7 (by decide +kernel)
theorem cs_X7_lowest : CS mX7_lowest := ⟨co_X7_lowest, (gt5 (i := 175) rfl rfl)⟩
theorem co_X7_next : CO mX7_next := co_ok (gt5 (i := 180) rfl rfl) ini_RX7 (by decide +kernel)
theorem cv_X7_next : CV mX7_next := ⟨co_X7_next, (gt5 (i := 178) rfl rfl), (gt5 (i := 179) rfl rfl)⟩
theorem co_X7_turns : CO mX7_turns := co_ok (gt5 (i := 184) rfl rfl) ini_RX7 (by decide +kernel)
theorem cv_X7_turns : CV mX7_turns := ⟨co_X7_turns, (gt5 (i := 182) rfl rfl), (gt5 (i := 183) rfl rfl)⟩
theorem co_X7_leftEnd : CO mX7_leftEnd := co_ok (gt5 (i := 188) rfl rfl) ini_RX7 (by decide +kernel)
theorem cv_X7_leftEnd : CV mX7_leftEnd := ⟨co_X7_leftEnd, (gt5 (i := 187) rfl rfl), (gtp (i := 53) rfl rfl)⟩
theorem co_X7_rightEnd : CO mX7_rightEnd := co_ok (gt5 (i := 192) rfl rfl) ini_RX7 (by decide +kernel)
theorem cv_X7_rightEnd : CV mX7_rightEnd := ⟨co_X7_rightEnd, (gt5 (i := 191) rfl rfl), (gtp (i := 54) rfl rfl)⟩
theorem co_X7_colds : CO mX7_colds := co_ok (gt5 (i := 196) rfl rfl) ini_RX7 (by decide +kernel)
theorem cv_X7_colds : CV mX7_colds := ⟨co_X7_colds, (gt5 (i := 194) rfl rfl), (gt5 (i := 195) rfl rfl)⟩
theorem co_X7_heardBy : CO mX7_heardBy := co_ok (gt5 (i := 202) rfl rfl) ini_RX7 (by decide +kernel)
theorem cv_X7_heardBy : CV mX7_heardBy := ⟨co_X7_heardBy, (gt5 (i := 201) rfl rfl), (gtp (i := 55) rfl rfl)⟩
theorem co_X7_year : CO mX7_year := co_ok (gt5 (i := 206) rfl rfl) ini_RX7 (by decide +kernel)
theorem cv_X7_year : CV mX7_year := ⟨co_X7_year, (gt5 (i := 204) rfl rfl), (gt5 (i := 205) rfl rfl)⟩
theorem co_X7_image : CO mX7_image := co_ok (gt5 (i := 215) rfl rfl) ini_RX7 (by decide +kernel)
theorem cv_X7_image : CV mX7_image := ⟨co_X7_image, (gt5 (i := 213) rfl rfl), (gt5 (i := 214) rfl rfl)⟩
theorem co_X7_passAll : CO mX7_passAll := co_ok (gt5 (i := 219) rfl rfl) ini_RX7 (by decide +kernel)
theorem cv_X7_passAll : CV mX7_passAll := ⟨co_X7_passAll, (gt5 (i := 218) rfl rfl), (gtp (i := 56) rfl rfl)⟩
theorem co_X7_pass : CO mX7_pass := co_ok (gt5 (i := 223) rfl rfl) ini_RX7 (by decide +kernel)
theorem cv_X7_pass : CV mX7_pass := ⟨co_X7_pass, (gt5 (i := 222) rfl rfl), (gtp (i := 57) rfl rfl)⟩
theorem co_X7_passRow : CO mX7_passRow := co_ok (gt5 (i := 227) rfl rfl) ini_RX7 (by decide +kernel)
theorem cv_X7_passRow : CV mX7_passRow := ⟨co_X7_passRow, (gt5 (i := 226) rfl rfl), (gtp (i := 58) rfl rfl)⟩
theorem co_X7_restore : CO mX7_restore := co_ok (gt5 (i := 231) rfl rfl) ini_RX7 (by decide +kernel)
theorem cv_X7_restore : CV mX7_restore := ⟨co_X7_restore, (gt5 (i := 229) rfl rfl), (gt5 (i := 230) rfl rfl)⟩
theorem co_X7_told : CO mX7_told := co_ok (gt5 (i := 235) rfl rfl) ini_RX7 (by decide +kernel)
theorem cv_X7_told : CV mX7_told := ⟨co_X7_told, (gt5 (i := 233) rfl rfl), (gt5 (i := 234) rfl rfl)⟩
theorem co_X7_toldOf : CO mX7_toldOf := co_ok (gt6 (i := 4) rfl rfl) ini_RX7 (by decide +kernel)
theorem cv_X7_toldOf : CV mX7_toldOf := ⟨co_X7_toldOf, (gt6 (i := 3) rfl rfl), (gtp (i := 59) rfl rfl)⟩
theorem ml_L_9 : Cond.methodLink RL 9 yX6_init ∈ gt := (gt1 (i := 15) rfl rfl)
theorem ml_X6_1 : Cond.methodLink RX6 1 objectInit ∈ gt := (gt1 (i := 18) rfl rfl)
theorem ml_X6_9 : Cond.methodLink RX6 9 yX1_init ∈ gt := (gt1 (i := 23) rfl rfl)
theorem ml_X1_1 : Cond.methodLink RX1 1 objectInit ∈ gt := (gt1 (i := 26) rfl rfl)
theorem ml_X1_9 : Cond.methodLink RX1 9 yX0_init ∈ gt := (gt1 (i := 29) rfl rfl)
theorem ml_X0_3 : Cond.methodLink RX0 3 objectInit ∈ gt := (gt1 (i := 32) rfl rfl)
theorem ml_X1_18 : Cond.methodLink RX1 18 yX4_init ∈ gt := (gt1 (i := 68) rfl rfl)
theorem ml_X4_3 : Cond.methodLink RX4 3 objectInit ∈ gt := (gt1 (i := 71) rfl rfl)
theorem ml_X1_25 : Cond.methodLink RX1 25 yX3_init ∈ gt := (gt1 (i := 87) rfl rfl)
theorem ml_X3_5 : Cond.methodLink RX3 5 objectInit ∈ gt := (gt1 (i := 90) rfl rfl)
theorem ml_X6_24 : Cond.methodLink RX6 24 yX2_init ∈ gt := (gt1 (i := 117) rfl rfl)
theorem ml_X2_3 : Cond.methodLink RX2 3 objectInit ∈ gt := (gt1 (i := 120) rfl rfl)
theorem ml_X5_3 : Cond.methodLink RX5 3 objectInit ∈ gt := (gt1 (i := 133) rfl rfl)
theorem ml_X6_38 : Cond.methodLink RX6 38 yX0_init ∈ gt := (gt1 (i := 151) rfl rfl)
theorem ml_L_13 : Cond.methodLink RL 13 yX6_gold ∈ gt := (gt1 (i := 183) rfl rfl)
theorem ml_X6_56 : Cond.methodLink RX6 56 yX6_isCell ∈ gt := (gt1 (i := 187) rfl rfl)
theorem ml_X6_60 : Cond.methodLink RX6 60 yX6_isWithin ∈ gt := (gt1 (i := 190) rfl rfl)
theorem ml_X6_67 : Cond.methodLink RX6 67 yX0_goldOf ∈ gt := (gt1 (i := 193) rfl rfl)
theorem ml_X6_71 : Cond.methodLink RX6 71 yX0_putGold ∈ gt := (gt1 (i := 198) rfl rfl)
theorem ml_L_18 : Cond.methodLink RL 18 yX6_man ∈ gt := (gt1 (i := 202) rfl rfl)
theorem ml_X6_75 : Cond.methodLink RX6 75 yX6_isManNumber ∈ gt := (gt1 (i := 206) rfl rfl)
theorem ml_X6_78 : Cond.methodLink RX6 78 yX0_welcome ∈ gt := (gt1 (i := 209) rfl rfl)
theorem ml_X0_79 : Cond.methodLink RX0 79 yX0_forgetMan ∈ gt := (gt1 (i := 214) rfl rfl)
theorem ml_X6_81 : Cond.methodLink RX6 81 yX0_countMen ∈ gt := (gt1 (i := 218) rfl rfl)
theorem ml_X0_68 : Cond.methodLink RX0 68 yJ6_bitCount_0f7a4 ∈ gt := (gt1 (i := 222) rfl rfl)
theorem ml_L_22 : Cond.methodLink RL 22 yX6_leave ∈ gt := (gt1 (i := 228) rfl rfl)
theorem ml_X6_85 : Cond.methodLink RX6 85 yX0_isThere ∈ gt := (gt1 (i := 232) rfl rfl)
theorem ml_X6_88 : Cond.methodLink RX6 88 yX0_farewell ∈ gt := (gt1 (i := 239) rfl rfl)
theorem ml_L_27 : Cond.methodLink RL 27 yX6_know ∈ gt := (gt2 (i := 3) rfl rfl)
theorem ml_X6_92 : Cond.methodLink RX6 92 yX0_setKnown ∈ gt := (gt2 (i := 7) rfl rfl)
theorem ml_X6_96 : Cond.methodLink RX6 96 yX0_knownTo ∈ gt := (gt2 (i := 12) rfl rfl)
theorem ml_X6_100 : Cond.methodLink RX6 100 yJ13_bitCount_95d88 ∈ gt := (gt2 (i := 16) rfl rfl)
theorem ml_L_32 : Cond.methodLink RL 32 yX6_claim ∈ gt := (gt2 (i := 22) rfl rfl)
theorem ml_X6_106 : Cond.methodLink RX6 106 yX0_setClaimer ∈ gt := (gt2 (i := 26) rfl rfl)
theorem ml_X6_109 : Cond.methodLink RX6 109 yX0_countClaimed ∈ gt := (gt2 (i := 30) rfl rfl)
theorem ml_X0_64 : Cond.methodLink RX0 64 yX0_countClaimedBy ∈ gt := (gt2 (i := 34) rfl rfl)
theorem ml_X0_54 : Cond.methodLink RX0 54 yX0_cellsClaimedBy ∈ gt := (gt2 (i := 38) rfl rfl)
theorem ml_X0_58 : Cond.methodLink RX0 58 yJ13_bitCount_95d88 ∈ gt := (gt2 (i := 42) rfl rfl)
theorem ml_L_36 : Cond.methodLink RL 36 yX6_say ∈ gt := (gt2 (i := 43) rfl rfl)
theorem ml_X6_112 : Cond.methodLink RX6 112 yX2_add ∈ gt := (gt2 (i := 47) rfl rfl)
theorem ml_X6_115 : Cond.methodLink RX6 115 yX2_size ∈ gt := (gt2 (i := 51) rfl rfl)
theorem ml_L_40 : Cond.methodLink RL 40 yX6_wipe ∈ gt := (gt2 (i := 55) rfl rfl)
theorem ml_X6_118 : Cond.methodLink RX6 118 yX2_clear ∈ gt := (gt2 (i := 59) rfl rfl)
theorem ml_L_45 : Cond.methodLink RL 45 yX6_fault ∈ gt := (gt2 (i := 63) rfl rfl)
theorem ml_X6_121 : Cond.methodLink RX6 121 yX2_firstFault ∈ gt := (gt2 (i := 67) rfl rfl)
theorem ml_X2_19 : Cond.methodLink RX2 19 yX2_signAt ∈ gt := (gt2 (i := 71) rfl rfl)
theorem ml_X2_23 : Cond.methodLink RX2 23 yX2_isDeedOfMan ∈ gt := (gt2 (i := 75) rfl rfl)
theorem ml_X2_27 : Cond.methodLink RX2 27 yX2_isNight ∈ gt := (gt2 (i := 78) rfl rfl)
theorem ml_X2_40 : Cond.methodLink RX2 40 yX2_deedBy ∈ gt := (gt2 (i := 81) rfl rfl)
theorem ml_X2_30 : Cond.methodLink RX2 30 yX2_manBy ∈ gt := (gt2 (i := 86) rfl rfl)
theorem ml_L_49 : Cond.methodLink RL 49 yX6_judge ∈ gt := (gt2 (i := 90) rfl rfl)
theorem ml_X6_124 : Cond.methodLink RX6 124 yX6_playWeeks ∈ gt := (gt2 (i := 94) rfl rfl)
theorem ml_X6_166 : Cond.methodLink RX6 166 yX0_copyFrom ∈ gt := (gt2 (i := 98) rfl rfl)
theorem ml_X0_31 : Cond.methodLink RX0 31 arraycopyName ∈ gt := (gt2 (i := 102) rfl rfl)
theorem ml_X6_173 : Cond.methodLink RX6 173 yX5_play ∈ gt := (gt2 (i := 105) rfl rfl)
theorem ml_X5_27 : Cond.methodLink RX5 27 yX2_size ∈ gt := (gt2 (i := 109) rfl rfl)
theorem ml_X5_33 : Cond.methodLink RX5 33 yX2_signAt ∈ gt := (gt2 (i := 110) rfl rfl)
theorem ml_X5_37 : Cond.methodLink RX5 37 yX2_isNight ∈ gt := (gt2 (i := 111) rfl rfl)
theorem ml_X5_41 : Cond.methodLink RX5 41 yX5_act ∈ gt := (gt2 (i := 112) rfl rfl)
theorem ml_X5_51 : Cond.methodLink RX5 51 yX0_reasonAgainst ∈ gt := (gt2 (i := 116) rfl rfl)
theorem ml_X0_113 : Cond.methodLink RX0 113 yX0_isThere ∈ gt := (gt2 (i := 120) rfl rfl)
theorem ml_X0_122 : Cond.methodLink RX0 122 yX0_tentOf ∈ gt := (gt2 (i := 121) rfl rfl)
theorem ml_X0_125 : Cond.methodLink RX0 125 yX0_stepFrom ∈ gt := (gt2 (i := 125) rfl rfl)
theorem ml_X0_128 : Cond.methodLink RX0 128 yX0_isKnownTo ∈ gt := (gt2 (i := 134) rfl rfl)
theorem ml_X0_131 : Cond.methodLink RX0 131 yX0_claimerOf ∈ gt := (gt2 (i := 138) rfl rfl)
theorem ml_X5_57 : Cond.methodLink RX5 57 yX0_tentOf ∈ gt := (gt2 (i := 142) rfl rfl)
theorem ml_X5_60 : Cond.methodLink RX5 60 yX0_goldOf ∈ gt := (gt2 (i := 143) rfl rfl)
theorem ml_X5_63 : Cond.methodLink RX5 63 yX0_perform ∈ gt := (gt2 (i := 144) rfl rfl)
theorem ml_X0_134 : Cond.methodLink RX0 134 yX0_passNight ∈ gt := (gt2 (i := 148) rfl rfl)
theorem ml_X0_95 : Cond.methodLink RX0 95 yX0_goldIn ∈ gt := (gt2 (i := 152) rfl rfl)
theorem ml_X0_101 : Cond.methodLink RX0 101 yJ9_min_7cf53 ∈ gt := (gt2 (i := 156) rfl rfl)
theorem ml_X0_137 : Cond.methodLink RX0 137 yX0_setKnown ∈ gt := (gt2 (i := 159) rfl rfl)
theorem ml_X0_141 : Cond.methodLink RX0 141 yX0_setClaimer ∈ gt := (gt2 (i := 160) rfl rfl)
theorem ml_X5_45 : Cond.methodLink RX5 45 yX2_manBy ∈ gt := (gt2 (i := 161) rfl rfl)
theorem ml_X5_48 : Cond.methodLink RX5 48 yX2_deedBy ∈ gt := (gt2 (i := 162) rfl rfl)
theorem ml_X6_127 : Cond.methodLink RX6 127 yX5_badAct ∈ gt := (gt2 (i := 163) rfl rfl)
theorem ml_X6_130 : Cond.methodLink RX6 130 yX5_badReason ∈ gt := (gt2 (i := 167) rfl rfl)
theorem ml_X6_133 : Cond.methodLink RX6 133 yX0_womansShare ∈ gt := (gt2 (i := 171) rfl rfl)
theorem ml_L_53 : Cond.methodLink RL 53 yX6_behind ∈ gt := (gt2 (i := 175) rfl rfl)
theorem ml_X6_136 : Cond.methodLink RX6 136 yX0_tentOf ∈ gt := (gt2 (i := 179) rfl rfl)
theorem ml_X6_139 : Cond.methodLink RX6 139 yX0_snoreOf ∈ gt := (gt2 (i := 180) rfl rfl)
theorem ml_X0_85 : Cond.methodLink RX0 85 yX0_hasCold ∈ gt := (gt2 (i := 184) rfl rfl)
theorem ml_X0_88 : Cond.methodLink RX0 88 yX0_snoreIf ∈ gt := (gt2 (i := 188) rfl rfl)
theorem ml_X0_92 : Cond.methodLink RX0 92 yX0_knownTo ∈ gt := (gt2 (i := 192) rfl rfl)
theorem ml_X0_98 : Cond.methodLink RX0 98 yX0_isWhistling ∈ gt := (gt2 (i := 193) rfl rfl)
theorem ml_X6_142 : Cond.methodLink RX6 142 yX0_saltOf ∈ gt := (gt2 (i := 197) rfl rfl)
theorem ml_X6_145 : Cond.methodLink RX6 145 yX0_countClaimedBy ∈ gt := (gt2 (i := 201) rfl rfl)
theorem ml_L_57 : Cond.methodLink RL 57 yX6_heard ∈ gt := (gt2 (i := 202) rfl rfl)
theorem ml_X6_148 : Cond.methodLink RX6 148 yX0_listen ∈ gt := (gt2 (i := 206) rfl rfl)
theorem ml_X0_107 : Cond.methodLink RX0 107 yX0_snoreOf ∈ gt := (gt2 (i := 210) rfl rfl)
theorem ml_X6_151 : Cond.methodLink RX6 151 yX0_heardAt ∈ gt := (gt2 (i := 211) rfl rfl)
theorem ml_X0_110 : Cond.methodLink RX0 110 yX0_heardWithout ∈ gt := (gt2 (i := 215) rfl rfl)
theorem ml_X6_337 : Cond.methodLink RX6 337 yX6_columnOf ∈ gt := (gt2 (i := 222) rfl rfl)
theorem ml_X6_340 : Cond.methodLink RX6 340 yJ9_abs_0f7a4 ∈ gt := (gt2 (i := 223) rfl rfl)
theorem ml_X6_343 : Cond.methodLink RX6 343 yX6_rowOf ∈ gt := (gt2 (i := 226) rfl rfl)
theorem ml_X0_119 : Cond.methodLink RX0 119 yJ9_max_7cf53 ∈ gt := (gt2 (i := 227) rfl rfl)
theorem ml_L_61 : Cond.methodLink RL 61 yX6_whose ∈ gt := (gt2 (i := 230) rfl rfl)
theorem ml_X6_154 : Cond.methodLink RX6 154 yX0_claimerOf ∈ gt := (gt2 (i := 234) rfl rfl)
theorem ml_L_65 : Cond.methodLink RL 65 yX6_nothing ∈ gt := (gt2 (i := 235) rfl rfl)
theorem ml_X6_157 : Cond.methodLink RX6 157 yX6_isZeroOrOne ∈ gt := (gt2 (i := 239) rfl rfl)
theorem ml_X6_160 : Cond.methodLink RX6 160 yX5_firstEmptyClaim ∈ gt := (gt3 (i := 2) rfl rfl)
theorem ml_X6_163 : Cond.methodLink RX6 163 yX5_countEmptyClaims ∈ gt := (gt3 (i := 6) rfl rfl)
theorem ml_L_69 : Cond.methodLink RL 69 yX6_done ∈ gt := (gt3 (i := 10) rfl rfl)
theorem ml_X6_170 : Cond.methodLink RX6 170 yX5_countActs ∈ gt := (gt3 (i := 14) rfl rfl)
theorem ml_L_73 : Cond.methodLink RL 73 yX6_loudest ∈ gt := (gt3 (i := 18) rfl rfl)
theorem ml_L_77 : Cond.methodLink RL 77 yX6_sleep ∈ gt := (gt3 (i := 22) rfl rfl)
theorem ml_X6_177 : Cond.methodLink RX6 177 yX6_refusalOfSteps ∈ gt := (gt3 (i := 26) rfl rfl)
theorem ml_X6_181 : Cond.methodLink RX6 181 yX6_quietest ∈ gt := (gt3 (i := 30) rfl rfl)
theorem ml_X6_215 : Cond.methodLink RX6 215 yX6_distance ∈ gt := (gt3 (i := 34) rfl rfl)
theorem ml_X6_219 : Cond.methodLink RX6 219 yX0_heardByOthers ∈ gt := (gt3 (i := 35) rfl rfl)
theorem ml_X6_222 : Cond.methodLink RX6 222 yX0_heardWithout ∈ gt := (gt3 (i := 39) rfl rfl)
theorem ml_L_82 : Cond.methodLink RL 82 yX6_hide ∈ gt := (gt3 (i := 40) rfl rfl)
theorem ml_L_86 : Cond.methodLink RL 86 yX6_tale ∈ gt := (gt3 (i := 44) rfl rfl)
theorem ml_X6_189 : Cond.methodLink RX6 189 yX4_add ∈ gt := (gt3 (i := 48) rfl rfl)
theorem ml_X6_194 : Cond.methodLink RX6 194 yX4_size ∈ gt := (gt3 (i := 52) rfl rfl)
theorem ml_L_90 : Cond.methodLink RL 90 yX6_hush ∈ gt := (gt3 (i := 56) rfl rfl)
theorem ml_X6_195 : Cond.methodLink RX6 195 yX4_clear ∈ gt := (gt3 (i := 60) rfl rfl)
theorem ml_L_94 : Cond.methodLink RL 94 yX6_liars ∈ gt := (gt3 (i := 64) rfl rfl)
theorem ml_X6_196 : Cond.methodLink RX6 196 yX4_fewestLiars ∈ gt := (gt3 (i := 68) rfl rfl)
theorem ml_X4_31 : Cond.methodLink RX4 31 yJ6_bitCount_0f7a4 ∈ gt := (gt3 (i := 72) rfl rfl)
theorem ml_X4_37 : Cond.methodLink RX4 37 yX4_holdTogether ∈ gt := (gt3 (i := 73) rfl rfl)
theorem ml_X4_41 : Cond.methodLink RX4 41 yX4_isGoldBy ∈ gt := (gt3 (i := 77) rfl rfl)
theorem ml_X6_199 : Cond.methodLink RX6 199 yJ6_bitCount_0f7a4 ∈ gt := (gt3 (i := 82) rfl rfl)
theorem ml_L_98 : Cond.methodLink RL 98 yX6_leaves ∈ gt := (gt3 (i := 83) rfl rfl)
theorem ml_X6_204 : Cond.methodLink RX6 204 yX6_readDigits ∈ gt := (gt3 (i := 88) rfl rfl)
theorem ml_X6_207 : Cond.methodLink RX6 207 yX6_digitsAreTwos ∈ gt := (gt3 (i := 92) rfl rfl)
theorem ml_X6_225 : Cond.methodLink RX6 225 yX6_digitAt ∈ gt := (gt3 (i := 96) rfl rfl)
theorem ml_X6_211 : Cond.methodLink RX6 211 yX6_wouldRatherShare ∈ gt := (gt3 (i := 100) rfl rfl)
theorem ml_X6_228 : Cond.methodLink RX6 228 yX0_twiceShare ∈ gt := (gt3 (i := 104) rfl rfl)
theorem ml_L_102 : Cond.methodLink RL 102 yX6_seen ∈ gt := (gt3 (i := 108) rfl rfl)
theorem ml_X6_235 : Cond.methodLink RX6 235 yX3_add ∈ gt := (gt3 (i := 112) rfl rfl)
theorem ml_X3_21 : Cond.methodLink RX3 21 yX3_lodesThrough ∈ gt := (gt3 (i := 116) rfl rfl)
theorem ml_X6_240 : Cond.methodLink RX6 240 yX3_size ∈ gt := (gt3 (i := 122) rfl rfl)
theorem ml_L_107 : Cond.methodLink RL 107 yX6_forget ∈ gt := (gt3 (i := 126) rfl rfl)
theorem ml_X6_241 : Cond.methodLink RX6 241 yX3_clear ∈ gt := (gt3 (i := 130) rfl rfl)
theorem ml_L_111 : Cond.methodLink RL 111 yX6_lodes ∈ gt := (gt3 (i := 134) rfl rfl)
theorem ml_X6_242 : Cond.methodLink RX6 242 yX3_countFitting ∈ gt := (gt3 (i := 138) rfl rfl)
theorem ml_X3_27 : Cond.methodLink RX3 27 yJ13_bitCount_95d88 ∈ gt := (gt3 (i := 142) rfl rfl)
theorem ml_X6_245 : Cond.methodLink RX6 245 yX3_fittingAt ∈ gt := (gt3 (i := 143) rfl rfl)
theorem ml_L_115 : Cond.methodLink RL 115 yX6_odds ∈ gt := (gt3 (i := 147) rfl rfl)
theorem ml_X6_250 : Cond.methodLink RX6 250 yX3_countThrough ∈ gt := (gt3 (i := 152) rfl rfl)
theorem ml_X6_253 : Cond.methodLink RX6 253 yX6_partOfFraction ∈ gt := (gt3 (i := 156) rfl rfl)
theorem ml_X6_333 : Cond.methodLink RX6 333 yX6_greatestDivisor ∈ gt := (gt3 (i := 159) rfl rfl)
theorem ml_L_120 : Cond.methodLink RL 120 yX6_next ∈ gt := (gt3 (i := 162) rfl rfl)
theorem ml_X6_257 : Cond.methodLink RX6 257 yJ9_max_7cf53 ∈ gt := (gt3 (i := 166) rfl rfl)
theorem ml_L_124 : Cond.methodLink RL 124 yX6_turns ∈ gt := (gt3 (i := 167) rfl rfl)
theorem ml_X6_262 : Cond.methodLink RX6 262 yX6_findLeads ∈ gt := (gt3 (i := 171) rfl rfl)
theorem ml_X6_265 : Cond.methodLink RX6 265 yX6_leadAt ∈ gt := (gt3 (i := 175) rfl rfl)
theorem ml_L_128 : Cond.methodLink RL 128 yX6_colds ∈ gt := (gt3 (i := 179) rfl rfl)
theorem ml_X6_268 : Cond.methodLink RX6 268 yX6_hearWithAndWithoutCold ∈ gt := (gt3 (i := 183) rfl rfl)
theorem ml_X6_326 : Cond.methodLink RX6 326 yX0_snoreIf ∈ gt := (gt3 (i := 187) rfl rfl)
theorem ml_X6_271 : Cond.methodLink RX6 271 yX0_menBits ∈ gt := (gt3 (i := 188) rfl rfl)
theorem ml_X6_274 : Cond.methodLink RX6 274 yX6_heardIfSick ∈ gt := (gt3 (i := 192) rfl rfl)
theorem ml_X6_330 : Cond.methodLink RX6 330 yX6_hasBit ∈ gt := (gt3 (i := 196) rfl rfl)
theorem ml_X6_277 : Cond.methodLink RX6 277 yX6_weightOf ∈ gt := (gt3 (i := 197) rfl rfl)
theorem ml_X6_281 : Cond.methodLink RX6 281 yX6_power ∈ gt := (gt3 (i := 200) rfl rfl)
theorem ml_L_133 : Cond.methodLink RL 133 yX6_year ∈ gt := (gt3 (i := 203) rfl rfl)
theorem ml_X6_286 : Cond.methodLink RX6 286 yX0_reasonAgainst ∈ gt := (gt3 (i := 208) rfl rfl)
theorem ml_X6_289 : Cond.methodLink RX6 289 yX0_perform ∈ gt := (gt3 (i := 209) rfl rfl)
theorem ml_X6_292 : Cond.methodLink RX6 292 yX0_allSalt ∈ gt := (gt3 (i := 210) rfl rfl)
theorem ml_L_137 : Cond.methodLink RL 137 yX6_image ∈ gt := (gt3 (i := 214) rfl rfl)
theorem ml_X6_295 : Cond.methodLink RX6 295 yX6_imageOf ∈ gt := (gt3 (i := 218) rfl rfl)
theorem ml_X6_299 : Cond.methodLink RX6 299 yX1_copyFrom ∈ gt := (gt3 (i := 222) rfl rfl)
theorem ml_X1_30 : Cond.methodLink RX1 30 yX0_copyFrom ∈ gt := (gt3 (i := 226) rfl rfl)
theorem ml_X1_34 : Cond.methodLink RX1 34 yX4_copyFrom ∈ gt := (gt3 (i := 227) rfl rfl)
theorem ml_X4_18 : Cond.methodLink RX4 18 arraycopyName ∈ gt := (gt3 (i := 231) rfl rfl)
theorem ml_X1_37 : Cond.methodLink RX1 37 yX3_copyFrom ∈ gt := (gt3 (i := 232) rfl rfl)
theorem ml_X6_302 : Cond.methodLink RX6 302 yX1_markKept ∈ gt := (gt3 (i := 236) rfl rfl)
theorem ml_L_141 : Cond.methodLink RL 141 yX6_restore ∈ gt := (gt4 (i := 0) rfl rfl)
theorem ml_X6_305 : Cond.methodLink RX6 305 yX1_isKept ∈ gt := (gt4 (i := 4) rfl rfl)
theorem ml_L_145 : Cond.methodLink RL 145 yX6_told ∈ gt := (gt4 (i := 8) rfl rfl)
theorem ml_X6_308 : Cond.methodLink RX6 308 yX6_toldOfMan ∈ gt := (gt4 (i := 12) rfl rfl)
theorem ml_X6_317 : Cond.methodLink RX6 317 yX0_hasCold ∈ gt := (gt4 (i := 16) rfl rfl)
theorem ml_X6_320 : Cond.methodLink RX6 320 yX0_isWhistling ∈ gt := (gt4 (i := 17) rfl rfl)
theorem ml_X6_311 : Cond.methodLink RX6 311 yX6_toldOfCell ∈ gt := (gt4 (i := 18) rfl rfl)
theorem ml_X6_314 : Cond.methodLink RX6 314 yX6_toldOfKnown ∈ gt := (gt4 (i := 22) rfl rfl)
theorem ml_X6_323 : Cond.methodLink RX6 323 yX0_isKnownTo ∈ gt := (gt4 (i := 26) rfl rfl)
theorem ml_L_12 : Cond.methodLink RL 12 yX7_init ∈ gt := (gt4 (i := 29) rfl rfl)
theorem ml_X7_1 : Cond.methodLink RX7 1 objectInit ∈ gt := (gt4 (i := 32) rfl rfl)
theorem ml_L_17 : Cond.methodLink RL 17 yX7_gold ∈ gt := (gt4 (i := 146) rfl rfl)
theorem ml_X7_96 : Cond.methodLink RX7 96 yX7_isCell ∈ gt := (gt4 (i := 150) rfl rfl)
theorem ml_X7_86 : Cond.methodLink RX7 86 yX7_in ∈ gt := (gt4 (i := 154) rfl rfl)
theorem ml_L_21 : Cond.methodLink RL 21 yX7_man ∈ gt := (gt4 (i := 158) rfl rfl)
theorem ml_X7_102 : Cond.methodLink RX7 102 yX7_ones ∈ gt := (gt4 (i := 163) rfl rfl)
theorem ml_L_26 : Cond.methodLink RL 26 yX7_leave ∈ gt := (gt4 (i := 166) rfl rfl)
theorem ml_X7_106 : Cond.methodLink RX7 106 yX7_isMan ∈ gt := (gt4 (i := 170) rfl rfl)
theorem ml_L_31 : Cond.methodLink RL 31 yX7_know ∈ gt := (gt4 (i := 174) rfl rfl)
theorem ml_X7_111 : Cond.methodLink RX7 111 yX7_knownBy ∈ gt := (gt4 (i := 179) rfl rfl)
theorem ml_X7_114 : Cond.methodLink RX7 114 yX7_isKnown ∈ gt := (gt4 (i := 183) rfl rfl)
theorem ml_L_35 : Cond.methodLink RL 35 yX7_claim ∈ gt := (gt4 (i := 187) rfl rfl)
theorem ml_X7_121 : Cond.methodLink RX7 121 yX7_claimedCells ∈ gt := (gt4 (i := 191) rfl rfl)
theorem ml_X7_118 : Cond.methodLink RX7 118 yX7_claimedBy ∈ gt := (gt4 (i := 195) rfl rfl)
theorem ml_L_39 : Cond.methodLink RL 39 yX7_say ∈ gt := (gt4 (i := 199) rfl rfl)
theorem ml_L_44 : Cond.methodLink RL 44 yX7_wipe ∈ gt := (gt4 (i := 205) rfl rfl)
theorem ml_L_48 : Cond.methodLink RL 48 yX7_fault ∈ gt := (gt4 (i := 209) rfl rfl)
theorem ml_X7_146 : Cond.methodLink RX7 146 yX7_readOn ∈ gt := (gt4 (i := 213) rfl rfl)
theorem ml_X7_139 : Cond.methodLink RX7 139 yX7_deed ∈ gt := (gt4 (i := 217) rfl rfl)
theorem ml_X7_135 : Cond.methodLink RX7 135 yX7_close ∈ gt := (gt4 (i := 221) rfl rfl)
theorem ml_L_52 : Cond.methodLink RL 52 yX7_judge ∈ gt := (gt4 (i := 227) rfl rfl)
theorem ml_X7_204 : Cond.methodLink RX7 204 yX7_refusal ∈ gt := (gt4 (i := 232) rfl rfl)
theorem ml_X7_193 : Cond.methodLink RX7 193 yX7_keepNow ∈ gt := (gt4 (i := 236) rfl rfl)
theorem ml_X7_196 : Cond.methodLink RX7 196 yX7_fault ∈ gt := (gt5 (i := 0) rfl rfl)
theorem ml_X7_199 : Cond.methodLink RX7 199 yX7_goWeeks ∈ gt := (gt5 (i := 1) rfl rfl)
theorem ml_X7_185 : Cond.methodLink RX7 185 yX7_whyNot ∈ gt := (gt5 (i := 5) rfl rfl)
theorem ml_X7_157 : Cond.methodLink RX7 157 yX7_canGo ∈ gt := (gt5 (i := 9) rfl rfl)
theorem ml_X7_149 : Cond.methodLink RX7 149 yX7_eastBy ∈ gt := (gt5 (i := 13) rfl rfl)
theorem ml_X7_154 : Cond.methodLink RX7 154 yX7_northBy ∈ gt := (gt5 (i := 17) rfl rfl)
theorem ml_X7_189 : Cond.methodLink RX7 189 yX7_happen ∈ gt := (gt5 (i := 20) rfl rfl)
theorem ml_X7_172 : Cond.methodLink RX7 172 yX7_claimHere ∈ gt := (gt5 (i := 24) rfl rfl)
theorem ml_X7_176 : Cond.methodLink RX7 176 yX7_passNight ∈ gt := (gt5 (i := 28) rfl rfl)
theorem ml_X7_207 : Cond.methodLink RX7 207 yX7_back ∈ gt := (gt5 (i := 32) rfl rfl)
theorem ml_L_56 : Cond.methodLink RL 56 yX7_behind ∈ gt := (gt5 (i := 36) rfl rfl)
theorem ml_X7_224 : Cond.methodLink RX7 224 yX7_ofMan ∈ gt := (gt5 (i := 41) rfl rfl)
theorem ml_X7_213 : Cond.methodLink RX7 213 yX7_snore ∈ gt := (gt5 (i := 45) rfl rfl)
theorem ml_X7_210 : Cond.methodLink RX7 210 yX7_snoreBy ∈ gt := (gt5 (i := 49) rfl rfl)
theorem ml_L_60 : Cond.methodLink RL 60 yX7_heard ∈ gt := (gt5 (i := 53) rfl rfl)
theorem ml_X7_227 : Cond.methodLink RX7 227 yX7_heardAt ∈ gt := (gt5 (i := 57) rfl rfl)
theorem ml_X7_216 : Cond.methodLink RX7 216 yX7_apart ∈ gt := (gt5 (i := 61) rfl rfl)
theorem ml_X7_219 : Cond.methodLink RX7 219 yX7_over ∈ gt := (gt5 (i := 64) rfl rfl)
theorem ml_L_64 : Cond.methodLink RL 64 yX7_whose ∈ gt := (gt5 (i := 67) rfl rfl)
theorem ml_L_68 : Cond.methodLink RL 68 yX7_nothing ∈ gt := (gt5 (i := 71) rfl rfl)
theorem ml_L_72 : Cond.methodLink RL 72 yX7_done ∈ gt := (gt5 (i := 75) rfl rfl)
theorem ml_L_76 : Cond.methodLink RL 76 yX7_loudest ∈ gt := (gt5 (i := 79) rfl rfl)
theorem ml_L_81 : Cond.methodLink RL 81 yX7_sleep ∈ gt := (gt5 (i := 83) rfl rfl)
theorem ml_X7_239 : Cond.methodLink RX7 239 yX7_quietest ∈ gt := (gt5 (i := 88) rfl rfl)
theorem ml_X7_233 : Cond.methodLink RX7 233 yX7_quietAt ∈ gt := (gt5 (i := 92) rfl rfl)
theorem ml_X7_230 : Cond.methodLink RX7 230 yX7_givenAway ∈ gt := (gt5 (i := 96) rfl rfl)
theorem ml_L_85 : Cond.methodLink RL 85 yX7_hide ∈ gt := (gt5 (i := 100) rfl rfl)
theorem ml_L_89 : Cond.methodLink RL 89 yX7_tale ∈ gt := (gt5 (i := 104) rfl rfl)
theorem ml_L_93 : Cond.methodLink RL 93 yX7_hush ∈ gt := (gt5 (i := 108) rfl rfl)
theorem ml_L_97 : Cond.methodLink RL 97 yX7_liars ∈ gt := (gt5 (i := 112) rfl rfl)
theorem ml_X7_249 : Cond.methodLink RX7 249 yX7_canBe ∈ gt := (gt5 (i := 116) rfl rfl)
theorem ml_X7_246 : Cond.methodLink RX7 246 yX7_meant ∈ gt := (gt5 (i := 120) rfl rfl)
theorem ml_L_101 : Cond.methodLink RL 101 yX7_leaves ∈ gt := (gt5 (i := 124) rfl rfl)
theorem ml_X7_261 : Cond.methodLink RX7 261 yX7_areTwos ∈ gt := (gt5 (i := 128) rfl rfl)
theorem ml_X7_264 : Cond.methodLink RX7 264 yX7_wouldLeave ∈ gt := (gt5 (i := 133) rfl rfl)
theorem ml_X7_258 : Cond.methodLink RX7 258 yX7_halves ∈ gt := (gt5 (i := 137) rfl rfl)
theorem ml_X7_254 : Cond.methodLink RX7 254 yX7_goldOf ∈ gt := (gt5 (i := 141) rfl rfl)
theorem ml_L_106 : Cond.methodLink RL 106 yX7_seen ∈ gt := (gt5 (i := 145) rfl rfl)
theorem ml_L_110 : Cond.methodLink RL 110 yX7_forget ∈ gt := (gt5 (i := 149) rfl rfl)
theorem ml_L_114 : Cond.methodLink RL 114 yX7_lodes ∈ gt := (gt5 (i := 153) rfl rfl)
theorem ml_X7_273 : Cond.methodLink RX7 273 yX7_fits ∈ gt := (gt5 (i := 157) rfl rfl)
theorem ml_X7_270 : Cond.methodLink RX7 270 yX7_isOn ∈ gt := (gt5 (i := 161) rfl rfl)
theorem ml_L_119 : Cond.methodLink RL 119 yX7_odds ∈ gt := (gt5 (i := 164) rfl rfl)
theorem ml_X7_278 : Cond.methodLink RX7 278 yX7_lodes ∈ gt := (gt5 (i := 169) rfl rfl)
theorem ml_X7_281 : Cond.methodLink RX7 281 yX7_linesOn ∈ gt := (gt5 (i := 170) rfl rfl)
theorem ml_X7_284 : Cond.methodLink RX7 284 yX7_lowest ∈ gt := (gt5 (i := 174) rfl rfl)
theorem ml_L_123 : Cond.methodLink RL 123 yX7_next ∈ gt := (gt5 (i := 177) rfl rfl)
theorem ml_L_127 : Cond.methodLink RL 127 yX7_turns ∈ gt := (gt5 (i := 181) rfl rfl)
theorem ml_X7_288 : Cond.methodLink RX7 288 yX7_leftEnd ∈ gt := (gt5 (i := 185) rfl rfl)
theorem ml_X7_291 : Cond.methodLink RX7 291 yX7_rightEnd ∈ gt := (gt5 (i := 189) rfl rfl)
theorem ml_L_132 : Cond.methodLink RL 132 yX7_colds ∈ gt := (gt5 (i := 193) rfl rfl)
theorem ml_X7_298 : Cond.methodLink RX7 298 yX7_heardBy ∈ gt := (gt5 (i := 199) rfl rfl)
theorem ml_L_136 : Cond.methodLink RL 136 yX7_year ∈ gt := (gt5 (i := 203) rfl rfl)
theorem ml_L_140 : Cond.methodLink RL 140 yX7_image ∈ gt := (gt5 (i := 212) rfl rfl)
theorem ml_X7_325 : Cond.methodLink RX7 325 yX7_passAll ∈ gt := (gt5 (i := 216) rfl rfl)
theorem ml_X7_318 : Cond.methodLink RX7 318 yX7_pass ∈ gt := (gt5 (i := 220) rfl rfl)
theorem ml_X7_321 : Cond.methodLink RX7 321 yX7_passRow ∈ gt := (gt5 (i := 224) rfl rfl)
theorem ml_L_144 : Cond.methodLink RL 144 yX7_restore ∈ gt := (gt5 (i := 228) rfl rfl)
theorem ml_L_148 : Cond.methodLink RL 148 yX7_told ∈ gt := (gt5 (i := 232) rfl rfl)
theorem ml_X7_338 : Cond.methodLink RX7 338 yX7_toldOf ∈ gt := (gt6 (i := 1) rfl rfl)
theorem cl_L_7 : Cond.classLink RL 7 RX6 ∈ gt := (gt1 (i := 13) rfl rfl)
theorem in_X6 : Cond.instantiable RX6 10 ∈ gt := (gt1 (i := 14) rfl rfl)
theorem cl_X6_7 : Cond.classLink RX6 7 RX1 ∈ gt := (gt1 (i := 21) rfl rfl)
theorem in_X1 : Cond.instantiable RX1 4 ∈ gt := (gt1 (i := 22) rfl rfl)
theorem cl_X1_7 : Cond.classLink RX1 7 RX0 ∈ gt := (gt1 (i := 27) rfl rfl)
theorem in_X0 : Cond.instantiable RX0 10 ∈ gt := (gt1 (i := 28) rfl rfl)
theorem fl_X0_9 : Cond.fieldLink RX0 9 "SnoresGold$Camp" "goldOn" "[I" ∈ gt := (gt1 (i := 33) rfl rfl)
theorem fl_X0_15 : Cond.fieldLink RX0 15 "SnoresGold$Camp" "claimers" "[I" ∈ gt := (gt1 (i := 34) rfl rfl)
theorem fl_X0_18 : Cond.fieldLink RX0 18 "SnoresGold$Camp" "tents" "[I" ∈ gt := (gt1 (i := 35) rfl rfl)
theorem fl_X0_21 : Cond.fieldLink RX0 21 "SnoresGold$Camp" "salts" "[I" ∈ gt := (gt1 (i := 36) rfl rfl)
theorem fl_X0_24 : Cond.fieldLink RX0 24 "SnoresGold$Camp" "known" "[J" ∈ gt := (gt1 (i := 37) rfl rfl)
theorem fl_X0_28 : Cond.fieldLink RX0 28 "SnoresGold$Camp" "snores" "[I" ∈ gt := (gt1 (i := 38) rfl rfl)
theorem fl_X0_37 : Cond.fieldLink RX0 37 "SnoresGold$Camp" "men" "I" ∈ gt := (gt1 (i := 39) rfl rfl)
theorem fl_X0_41 : Cond.fieldLink RX0 41 "SnoresGold$Camp" "withCold" "I" ∈ gt := (gt1 (i := 40) rfl rfl)
theorem fl_X0_44 : Cond.fieldLink RX0 44 "SnoresGold$Camp" "whistling" "I" ∈ gt := (gt1 (i := 41) rfl rfl)
theorem fl_X0_47 : Cond.fieldLink RX0 47 "SnoresGold$Camp" "womans" "I" ∈ gt := (gt1 (i := 42) rfl rfl)
theorem ac_int : Cond.arrayClass .int ∈ gt := (gt1 (i := 64) rfl rfl)
theorem ac_long : Cond.arrayClass .long ∈ gt := (gt1 (i := 65) rfl rfl)
theorem cl_X1_16 : Cond.classLink RX1 16 RX4 ∈ gt := (gt1 (i := 66) rfl rfl)
theorem in_X4 : Cond.instantiable RX4 4 ∈ gt := (gt1 (i := 67) rfl rfl)
theorem fl_X4_9 : Cond.fieldLink RX4 9 "SnoresGold$Tales" "tellers" "[I" ∈ gt := (gt1 (i := 72) rfl rfl)
theorem fl_X4_15 : Cond.fieldLink RX4 15 "SnoresGold$Tales" "cells" "[I" ∈ gt := (gt1 (i := 73) rfl rfl)
theorem fl_X4_24 : Cond.fieldLink RX4 24 "SnoresGold$Tales" "toldGolden" "I" ∈ gt := (gt1 (i := 74) rfl rfl)
theorem fl_X4_28 : Cond.fieldLink RX4 28 "SnoresGold$Tales" "count" "I" ∈ gt := (gt1 (i := 75) rfl rfl)
theorem cl_X1_23 : Cond.classLink RX1 23 RX3 ∈ gt := (gt1 (i := 85) rfl rfl)
theorem in_X3 : Cond.instantiable RX3 2 ∈ gt := (gt1 (i := 86) rfl rfl)
theorem kl_X3_11 : Cond.constantLong RX3 11 (70368744177663) ∈ gt := (gt1 (i := 91) rfl rfl)
theorem fl_X3_13 : Cond.fieldLink RX3 13 "SnoresGold$Sights" "fitting" "J" ∈ gt := (gt1 (i := 92) rfl rfl)
theorem fl_X3_17 : Cond.fieldLink RX3 17 "SnoresGold$Sights" "count" "I" ∈ gt := (gt1 (i := 93) rfl rfl)
theorem fl_X1_10 : Cond.fieldLink RX1 10 "SnoresGold$Memory" "camp" "LSnoresGold$Camp;" ∈ gt := (gt1 (i := 99) rfl rfl)
theorem fl_X1_19 : Cond.fieldLink RX1 19 "SnoresGold$Memory" "tales" "LSnoresGold$Tales;" ∈ gt := (gt1 (i := 101) rfl rfl)
theorem fl_X1_26 : Cond.fieldLink RX1 26 "SnoresGold$Memory" "sights" "LSnoresGold$Sights;" ∈ gt := (gt1 (i := 103) rfl rfl)
theorem fl_X1_40 : Cond.fieldLink RX1 40 "SnoresGold$Memory" "kept" "Z" ∈ gt := (gt1 (i := 105) rfl rfl)
theorem cl_X6_22 : Cond.classLink RX6 22 RX2 ∈ gt := (gt1 (i := 115) rfl rfl)
theorem in_X2 : Cond.instantiable RX2 2 ∈ gt := (gt1 (i := 116) rfl rfl)
theorem fl_X2_9 : Cond.fieldLink RX2 9 "SnoresGold$Pad" "signs" "[I" ∈ gt := (gt1 (i := 121) rfl rfl)
theorem fl_X2_15 : Cond.fieldLink RX2 15 "SnoresGold$Pad" "count" "I" ∈ gt := (gt1 (i := 122) rfl rfl)
theorem cl_X6_29 : Cond.classLink RX6 29 RX5 ∈ gt := (gt1 (i := 128) rfl rfl)
theorem in_X5 : Cond.instantiable RX5 5 ∈ gt := (gt1 (i := 129) rfl rfl)
theorem fl_X5_9 : Cond.fieldLink RX5 9 "SnoresGold$Week" "acts" "I" ∈ gt := (gt1 (i := 134) rfl rfl)
theorem fl_X5_15 : Cond.fieldLink RX5 15 "SnoresGold$Week" "bad" "I" ∈ gt := (gt1 (i := 135) rfl rfl)
theorem fl_X5_18 : Cond.fieldLink RX5 18 "SnoresGold$Week" "reason" "I" ∈ gt := (gt1 (i := 136) rfl rfl)
theorem fl_X5_21 : Cond.fieldLink RX5 21 "SnoresGold$Week" "firstEmpty" "I" ∈ gt := (gt1 (i := 137) rfl rfl)
theorem fl_X5_24 : Cond.fieldLink RX5 24 "SnoresGold$Week" "empty" "I" ∈ gt := (gt1 (i := 138) rfl rfl)
theorem cl_X6_36 : Cond.classLink RX6 36 RX0 ∈ gt := (gt1 (i := 150) rfl rfl)
theorem fl_X6_10 : Cond.fieldLink RX6 10 "SnoresGold" "now" "LSnoresGold$Memory;" ∈ gt := (gt1 (i := 152) rfl rfl)
theorem fl_X6_16 : Cond.fieldLink RX6 16 "SnoresGold" "imageZero" "LSnoresGold$Memory;" ∈ gt := (gt1 (i := 153) rfl rfl)
theorem fl_X6_19 : Cond.fieldLink RX6 19 "SnoresGold" "imageOne" "LSnoresGold$Memory;" ∈ gt := (gt1 (i := 154) rfl rfl)
theorem fl_X6_25 : Cond.fieldLink RX6 25 "SnoresGold" "pad" "LSnoresGold$Pad;" ∈ gt := (gt1 (i := 155) rfl rfl)
theorem fl_X6_32 : Cond.fieldLink RX6 32 "SnoresGold" "week" "LSnoresGold$Week;" ∈ gt := (gt1 (i := 156) rfl rfl)
theorem fl_X6_39 : Cond.fieldLink RX6 39 "SnoresGold" "ahead" "LSnoresGold$Camp;" ∈ gt := (gt1 (i := 157) rfl rfl)
theorem fl_X6_43 : Cond.fieldLink RX6 43 "SnoresGold" "digits" "[I" ∈ gt := (gt1 (i := 158) rfl rfl)
theorem fl_X6_47 : Cond.fieldLink RX6 47 "SnoresGold" "leads" "[I" ∈ gt := (gt1 (i := 159) rfl rfl)
theorem fl_X6_50 : Cond.fieldLink RX6 50 "SnoresGold" "heardCalm" "[I" ∈ gt := (gt1 (i := 160) rfl rfl)
theorem fl_X6_53 : Cond.fieldLink RX6 53 "SnoresGold" "heardCold" "[I" ∈ gt := (gt1 (i := 161) rfl rfl)
theorem ki_J6_265 : Cond.constant RJ6 265 (1431655765) ∈ gt := (gt1 (i := 225) rfl rfl)
theorem ki_J6_266 : Cond.constant RJ6 266 (858993459) ∈ gt := (gt1 (i := 226) rfl rfl)
theorem ki_J6_267 : Cond.constant RJ6 267 (252645135) ∈ gt := (gt1 (i := 227) rfl rfl)
theorem kl_X0_83 : Cond.constantLong RX0 83 (-1) ∈ gt := (gt2 (i := 11) rfl rfl)
theorem kl_J13_314 : Cond.constantLong RJ13 314 (6148914691236517205) ∈ gt := (gt2 (i := 19) rfl rfl)
theorem kl_J13_316 : Cond.constantLong RJ13 316 (3689348814741910323) ∈ gt := (gt2 (i := 20) rfl rfl)
theorem kl_J13_318 : Cond.constantLong RJ13 318 (1085102592571150095) ∈ gt := (gt2 (i := 21) rfl rfl)
theorem ki_X6_203 : Cond.constant RX6 203 (999999) ∈ gt := (gt3 (i := 87) rfl rfl)
theorem kl_X3_25 : Cond.constantLong RX3 25 (-1) ∈ gt := (gt3 (i := 121) rfl rfl)
theorem kl_X6_248 : Cond.constantLong RX6 248 (-1000000000000000002) ∈ gt := (gt3 (i := 151) rfl rfl)
theorem ki_X6_285 : Cond.constant RX6 285 (65537) ∈ gt := (gt3 (i := 207) rfl rfl)
theorem cl_L_10 : Cond.classLink RL 10 RX7 ∈ gt := (gt4 (i := 27) rfl rfl)
theorem in_X7 : Cond.instantiable RX7 37 ∈ gt := (gt4 (i := 28) rfl rfl)
theorem fl_X7_7 : Cond.fieldLink RX7 7 "SnoresGoldModel" "ore" "[I" ∈ gt := (gt4 (i := 33) rfl rfl)
theorem fl_X7_13 : Cond.fieldLink RX7 13 "SnoresGoldModel" "owner" "[I" ∈ gt := (gt4 (i := 34) rfl rfl)
theorem fl_X7_92 : Cond.fieldLink RX7 92 "SnoresGoldModel" "men" "I" ∈ gt := (gt4 (i := 35) rfl rfl)
theorem fl_X7_16 : Cond.fieldLink RX7 16 "SnoresGoldModel" "tent" "[I" ∈ gt := (gt4 (i := 36) rfl rfl)
theorem fl_X7_19 : Cond.fieldLink RX7 19 "SnoresGoldModel" "knows" "[J" ∈ gt := (gt4 (i := 37) rfl rfl)
theorem fl_X7_23 : Cond.fieldLink RX7 23 "SnoresGoldModel" "cold" "[I" ∈ gt := (gt4 (i := 38) rfl rfl)
theorem fl_X7_26 : Cond.fieldLink RX7 26 "SnoresGoldModel" "whistles" "[I" ∈ gt := (gt4 (i := 39) rfl rfl)
theorem fl_X7_29 : Cond.fieldLink RX7 29 "SnoresGoldModel" "salt" "[I" ∈ gt := (gt4 (i := 40) rfl rfl)
theorem fl_X7_32 : Cond.fieldLink RX7 32 "SnoresGoldModel" "taleMan" "[I" ∈ gt := (gt4 (i := 41) rfl rfl)
theorem fl_X7_35 : Cond.fieldLink RX7 35 "SnoresGoldModel" "taleCell" "[I" ∈ gt := (gt4 (i := 42) rfl rfl)
theorem fl_X7_38 : Cond.fieldLink RX7 38 "SnoresGoldModel" "taleGold" "[I" ∈ gt := (gt4 (i := 43) rfl rfl)
theorem fl_X7_243 : Cond.fieldLink RX7 243 "SnoresGoldModel" "tales" "I" ∈ gt := (gt4 (i := 44) rfl rfl)
theorem fl_X7_41 : Cond.fieldLink RX7 41 "SnoresGoldModel" "sightCell" "[I" ∈ gt := (gt4 (i := 45) rfl rfl)
theorem fl_X7_44 : Cond.fieldLink RX7 44 "SnoresGoldModel" "sightIs" "[I" ∈ gt := (gt4 (i := 46) rfl rfl)
theorem fl_X7_267 : Cond.fieldLink RX7 267 "SnoresGoldModel" "sights" "I" ∈ gt := (gt4 (i := 47) rfl rfl)
theorem fl_X7_47 : Cond.fieldLink RX7 47 "SnoresGoldModel" "pad" "[I" ∈ gt := (gt4 (i := 48) rfl rfl)
theorem fl_X7_129 : Cond.fieldLink RX7 129 "SnoresGoldModel" "padMany" "I" ∈ gt := (gt4 (i := 49) rfl rfl)
theorem fl_X7_50 : Cond.fieldLink RX7 50 "SnoresGoldModel" "act" "[I" ∈ gt := (gt4 (i := 50) rfl rfl)
theorem fl_X7_53 : Cond.fieldLink RX7 53 "SnoresGoldModel" "who" "[I" ∈ gt := (gt4 (i := 51) rfl rfl)
theorem fl_X7_56 : Cond.fieldLink RX7 56 "SnoresGoldModel" "way" "[I" ∈ gt := (gt4 (i := 52) rfl rfl)
theorem fl_X7_132 : Cond.fieldLink RX7 132 "SnoresGoldModel" "acts" "I" ∈ gt := (gt4 (i := 53) rfl rfl)
theorem fl_X7_169 : Cond.fieldLink RX7 169 "SnoresGoldModel" "womans" "I" ∈ gt := (gt4 (i := 54) rfl rfl)
theorem fl_X7_160 : Cond.fieldLink RX7 160 "SnoresGoldModel" "firstNothing" "I" ∈ gt := (gt4 (i := 55) rfl rfl)
theorem fl_X7_166 : Cond.fieldLink RX7 166 "SnoresGoldModel" "nothingMany" "I" ∈ gt := (gt4 (i := 56) rfl rfl)
theorem fl_X7_163 : Cond.fieldLink RX7 163 "SnoresGoldModel" "actNow" "I" ∈ gt := (gt4 (i := 57) rfl rfl)
theorem fl_X7_59 : Cond.fieldLink RX7 59 "SnoresGoldModel" "had" "[I" ∈ gt := (gt4 (i := 58) rfl rfl)
theorem fl_X7_62 : Cond.fieldLink RX7 62 "SnoresGoldModel" "hadKnown" "[J" ∈ gt := (gt4 (i := 59) rfl rfl)
theorem fl_X7_179 : Cond.fieldLink RX7 179 "SnoresGoldModel" "badAct" "I" ∈ gt := (gt4 (i := 60) rfl rfl)
theorem fl_X7_182 : Cond.fieldLink RX7 182 "SnoresGoldModel" "badWhy" "I" ∈ gt := (gt4 (i := 61) rfl rfl)
theorem fl_X7_65 : Cond.fieldLink RX7 65 "SnoresGoldModel" "with" "[I" ∈ gt := (gt4 (i := 62) rfl rfl)
theorem fl_X7_68 : Cond.fieldLink RX7 68 "SnoresGoldModel" "digit" "[I" ∈ gt := (gt4 (i := 63) rfl rfl)
theorem fl_X7_71 : Cond.fieldLink RX7 71 "SnoresGoldModel" "more" "[I" ∈ gt := (gt4 (i := 64) rfl rfl)
theorem fl_X7_74 : Cond.fieldLink RX7 74 "SnoresGoldModel" "kept" "[I" ∈ gt := (gt4 (i := 65) rfl rfl)
theorem fl_X7_77 : Cond.fieldLink RX7 77 "SnoresGoldModel" "keptKnown" "[J" ∈ gt := (gt4 (i := 66) rfl rfl)
theorem fl_X7_80 : Cond.fieldLink RX7 80 "SnoresGoldModel" "isKept" "[Z" ∈ gt := (gt4 (i := 67) rfl rfl)
theorem fl_X7_315 : Cond.fieldLink RX7 315 "SnoresGoldModel" "keptAt" "I" ∈ gt := (gt4 (i := 68) rfl rfl)
theorem fl_X7_311 : Cond.fieldLink RX7 311 "SnoresGoldModel" "isWriting" "Z" ∈ gt := (gt4 (i := 69) rfl rfl)
theorem ac_boolean : Cond.arrayClass .boolean ∈ gt := (gt4 (i := 145) rfl rfl)
theorem kl_X7_84 : Cond.constantLong RX7 84 (63) ∈ gt := (gt4 (i := 153) rfl rfl)
theorem kl_X7_100 : Cond.constantLong RX7 100 (9) ∈ gt := (gt4 (i := 157) rfl rfl)
theorem kl_X7_90 : Cond.constantLong RX7 90 (5) ∈ gt := (gt4 (i := 162) rfl rfl)
theorem kl_X7_109 : Cond.constantLong RX7 109 (-1) ∈ gt := (gt4 (i := 178) rfl rfl)
theorem kl_X7_125 : Cond.constantLong RX7 125 (33) ∈ gt := (gt4 (i := 203) rfl rfl)
theorem kl_X7_127 : Cond.constantLong RX7 127 (126) ∈ gt := (gt4 (i := 204) rfl rfl)
theorem kl_X7_142 : Cond.constantLong RX7 142 (65) ∈ gt := (gt4 (i := 225) rfl rfl)
theorem kl_X7_144 : Cond.constantLong RX7 144 (70) ∈ gt := (gt4 (i := 226) rfl rfl)
theorem kl_X7_202 : Cond.constantLong RX7 202 (2) ∈ gt := (gt4 (i := 231) rfl rfl)
theorem kl_X7_152 : Cond.constantLong RX7 152 (7) ∈ gt := (gt5 (i := 16) rfl rfl)
theorem kl_X7_222 : Cond.constantLong RX7 222 (3) ∈ gt := (gt5 (i := 40) rfl rfl)
theorem kl_X7_237 : Cond.constantLong RX7 237 (14) ∈ gt := (gt5 (i := 87) rfl rfl)
theorem kl_X7_252 : Cond.constantLong RX7 252 (999999) ∈ gt := (gt5 (i := 132) rfl rfl)
theorem kl_X7_276 : Cond.constantLong RX7 276 (-1000000000000000002) ∈ gt := (gt5 (i := 168) rfl rfl)
theorem kl_X7_294 : Cond.constantLong RX7 294 (10) ∈ gt := (gt5 (i := 197) rfl rfl)
theorem kl_X7_296 : Cond.constantLong RX7 296 (999) ∈ gt := (gt5 (i := 198) rfl rfl)
theorem kl_X7_301 : Cond.constantLong RX7 301 (9999) ∈ gt := (gt5 (i := 207) rfl rfl)
theorem kl_X7_303 : Cond.constantLong RX7 303 (99) ∈ gt := (gt5 (i := 208) rfl rfl)
theorem kl_X7_305 : Cond.constantLong RX7 305 (75) ∈ gt := (gt5 (i := 209) rfl rfl)
theorem kl_X7_307 : Cond.constantLong RX7 307 (74) ∈ gt := (gt5 (i := 210) rfl rfl)
theorem kl_X7_309 : Cond.constantLong RX7 309 (65537) ∈ gt := (gt5 (i := 211) rfl rfl)
theorem kl_X7_328 : Cond.constantLong RX7 328 (200) ∈ gt := (gt5 (i := 236) rfl rfl)
theorem kl_X7_330 : Cond.constantLong RX7 330 (1399) ∈ gt := (gt5 (i := 237) rfl rfl)
theorem kl_X7_332 : Cond.constantLong RX7 332 (100) ∈ gt := (gt5 (i := 238) rfl rfl)
theorem kl_X7_334 : Cond.constantLong RX7 334 (163) ∈ gt := (gt5 (i := 239) rfl rfl)
theorem kl_X7_336 : Cond.constantLong RX7 336 (69) ∈ gt := (gt6 (i := 0) rfl rfl)
theorem ac_char : Cond.arrayClass .char ∈ gt := (gt6 (i := 5) rfl rfl)
theorem nat_ac : Cond.native arraycopyName ∈ gt := (gt2 (i := 104) rfl rfl)
theorem sta_ac : Cond.static arraycopyName ∈ gt := (gt2 (i := 103) rfl rfl)
theorem oi_inst : Cond.instanceMethod objectInit ∈ gt := (gt1 (i := 19) rfl rfl)
theorem oi_code : Cond.code objectInit ⟨#[0xb1]⟩ 1 none ∈ gt := (gt1 (i := 20) rfl rfl)
theorem sta_mmax : Cond.static Lib.Math.max.name ∈ gt := (gt2 (i := 228) rfl rfl)
theorem cod_mmax : Cond.code Lib.Math.max.name Lib.Math.max.code 2 (some .int) ∈ gt := (gt2 (i := 229) rfl rfl)
theorem sta_mmin : Cond.static Lib.Math.min.name ∈ gt := (gt2 (i := 157) rfl rfl)
theorem cod_mmin : Cond.code Lib.Math.min.name Lib.Math.min.code 2 (some .int) ∈ gt := (gt2 (i := 158) rfl rfl)
theorem sta_mabs : Cond.static Lib.Math.abs.name ∈ gt := (gt2 (i := 224) rfl rfl)
theorem cod_mabs : Cond.code Lib.Math.abs.name Lib.Math.abs.code 1 (some .int) ∈ gt := (gt2 (i := 225) rfl rfl)
theorem la_X0 : ∀ w ∈ u_ws RX0 TX0 10, w ∈ gt := by
  intro w hw
  obtain ⟨k, hk, rfl⟩ := List.mem_map.mp hw
  have hk2 : k < 10 := List.mem_range.mp hk
  match k, hk2 with
  | 0, _ => exact (gt1 (i := 43) rfl rfl)
  | 1, _ => exact (gt1 (i := 45) rfl rfl)
  | 2, _ => exact (gt1 (i := 47) rfl rfl)
  | 3, _ => exact (gt1 (i := 49) rfl rfl)
  | 4, _ => exact (gt1 (i := 51) rfl rfl)
  | 5, _ => exact (gt1 (i := 53) rfl rfl)
  | 6, _ => exact (gt1 (i := 55) rfl rfl)
  | 7, _ => exact (gt1 (i := 57) rfl rfl)
  | 8, _ => exact (gt1 (i := 59) rfl rfl)
  | 9, _ => exact (gt1 (i := 61) rfl rfl)
  | k + 10, h => exact absurd h (by omega)
theorem la_X1 : ∀ w ∈ u_ws RX1 TX1 4, w ∈ gt := by
  intro w hw
  obtain ⟨k, hk, rfl⟩ := List.mem_map.mp hw
  have hk2 : k < 4 := List.mem_range.mp hk
  match k, hk2 with
  | 0, _ => exact (gt1 (i := 106) rfl rfl)
  | 1, _ => exact (gt1 (i := 108) rfl rfl)
  | 2, _ => exact (gt1 (i := 110) rfl rfl)
  | 3, _ => exact (gt1 (i := 112) rfl rfl)
  | k + 4, h => exact absurd h (by omega)
theorem la_X2 : ∀ w ∈ u_ws RX2 TX2 2, w ∈ gt := by
  intro w hw
  obtain ⟨k, hk, rfl⟩ := List.mem_map.mp hw
  have hk2 : k < 2 := List.mem_range.mp hk
  match k, hk2 with
  | 0, _ => exact (gt1 (i := 123) rfl rfl)
  | 1, _ => exact (gt1 (i := 125) rfl rfl)
  | k + 2, h => exact absurd h (by omega)
theorem la_X3 : ∀ w ∈ u_ws RX3 TX3 2, w ∈ gt := by
  intro w hw
  obtain ⟨k, hk, rfl⟩ := List.mem_map.mp hw
  have hk2 : k < 2 := List.mem_range.mp hk
  match k, hk2 with
  | 0, _ => exact (gt1 (i := 94) rfl rfl)
  | 1, _ => exact (gt1 (i := 96) rfl rfl)
  | k + 2, h => exact absurd h (by omega)
theorem la_X4 : ∀ w ∈ u_ws RX4 TX4 4, w ∈ gt := by
  intro w hw
  obtain ⟨k, hk, rfl⟩ := List.mem_map.mp hw
  have hk2 : k < 4 := List.mem_range.mp hk
  match k, hk2 with
  | 0, _ => exact (gt1 (i := 76) rfl rfl)
  | 1, _ => exact (gt1 (i := 78) rfl rfl)
  | 2, _ => exact (gt1 (i := 80) rfl rfl)
  | 3, _ => exact (gt1 (i := 82) rfl rfl)
  | k + 4, h => exact absurd h (by omega)
theorem la_X5 : ∀ w ∈ u_ws RX5 TX5 5, w ∈ gt := by
  intro w hw
  obtain ⟨k, hk, rfl⟩ := List.mem_map.mp hw
  have hk2 : k < 5 := List.mem_range.mp hk
  match k, hk2 with
  | 0, _ => exact (gt1 (i := 139) rfl rfl)
  | 1, _ => exact (gt1 (i := 141) rfl rfl)
  | 2, _ => exact (gt1 (i := 143) rfl rfl)
  | 3, _ => exact (gt1 (i := 145) rfl rfl)
  | 4, _ => exact (gt1 (i := 147) rfl rfl)
  | k + 5, h => exact absurd h (by omega)
theorem la_X6 : ∀ w ∈ u_ws RX6 TX6 10, w ∈ gt := by
  intro w hw
  obtain ⟨k, hk, rfl⟩ := List.mem_map.mp hw
  have hk2 : k < 10 := List.mem_range.mp hk
  match k, hk2 with
  | 0, _ => exact (gt1 (i := 162) rfl rfl)
  | 1, _ => exact (gt1 (i := 164) rfl rfl)
  | 2, _ => exact (gt1 (i := 166) rfl rfl)
  | 3, _ => exact (gt1 (i := 168) rfl rfl)
  | 4, _ => exact (gt1 (i := 170) rfl rfl)
  | 5, _ => exact (gt1 (i := 172) rfl rfl)
  | 6, _ => exact (gt1 (i := 174) rfl rfl)
  | 7, _ => exact (gt1 (i := 176) rfl rfl)
  | 8, _ => exact (gt1 (i := 178) rfl rfl)
  | 9, _ => exact (gt1 (i := 180) rfl rfl)
  | k + 10, h => exact absurd h (by omega)
theorem la_X7 : ∀ w ∈ u_ws RX7 TX7 37, w ∈ gt := by
  intro w hw
  obtain ⟨k, hk, rfl⟩ := List.mem_map.mp hw
  have hk2 : k < 37 := List.mem_range.mp hk
  match k, hk2 with
  | 0, _ => exact (gt4 (i := 70) rfl rfl)
  | 1, _ => exact (gt4 (i := 72) rfl rfl)
  | 2, _ => exact (gt4 (i := 74) rfl rfl)
  | 3, _ => exact (gt4 (i := 76) rfl rfl)
  | 4, _ => exact (gt4 (i := 78) rfl rfl)
  | 5, _ => exact (gt4 (i := 80) rfl rfl)
  | 6, _ => exact (gt4 (i := 82) rfl rfl)
  | 7, _ => exact (gt4 (i := 84) rfl rfl)
  | 8, _ => exact (gt4 (i := 86) rfl rfl)
  | 9, _ => exact (gt4 (i := 88) rfl rfl)
  | 10, _ => exact (gt4 (i := 90) rfl rfl)
  | 11, _ => exact (gt4 (i := 92) rfl rfl)
  | 12, _ => exact (gt4 (i := 94) rfl rfl)
  | 13, _ => exact (gt4 (i := 96) rfl rfl)
  | 14, _ => exact (gt4 (i := 98) rfl rfl)
  | 15, _ => exact (gt4 (i := 100) rfl rfl)
  | 16, _ => exact (gt4 (i := 102) rfl rfl)
  | 17, _ => exact (gt4 (i := 104) rfl rfl)
  | 18, _ => exact (gt4 (i := 106) rfl rfl)
  | 19, _ => exact (gt4 (i := 108) rfl rfl)
  | 20, _ => exact (gt4 (i := 110) rfl rfl)
  | 21, _ => exact (gt4 (i := 112) rfl rfl)
  | 22, _ => exact (gt4 (i := 114) rfl rfl)
  | 23, _ => exact (gt4 (i := 116) rfl rfl)
  | 24, _ => exact (gt4 (i := 118) rfl rfl)
  | 25, _ => exact (gt4 (i := 120) rfl rfl)
  | 26, _ => exact (gt4 (i := 122) rfl rfl)
  | 27, _ => exact (gt4 (i := 124) rfl rfl)
  | 28, _ => exact (gt4 (i := 126) rfl rfl)
  | 29, _ => exact (gt4 (i := 128) rfl rfl)
  | 30, _ => exact (gt4 (i := 130) rfl rfl)
  | 31, _ => exact (gt4 (i := 132) rfl rfl)
  | 32, _ => exact (gt4 (i := 134) rfl rfl)
  | 33, _ => exact (gt4 (i := 136) rfl rfl)
  | 34, _ => exact (gt4 (i := 138) rfl rfl)
  | 35, _ => exact (gt4 (i := 140) rfl rfl)
  | 36, _ => exact (gt4 (i := 142) rfl rfl)
  | k + 37, h => exact absurd h (by omega)
