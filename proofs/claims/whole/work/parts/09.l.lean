/-! ===== methods, links ===== -/
abbrev M_X0_init : pM := (cX0_init, 1, none, yX0_init, (1, 100))
abbrev M_X0_becomeAs : pM := (cX0_becomeAs, 2, none, yX0_becomeAs, (0, 0))
abbrev M_X0_has : pM := (cX0_has, 2, (some .boolean), yX0_has, (0, 0))
abbrev M_X0_read : pM := (cX0_read, 3, (some .int), yX0_read, (0, 0))
abbrev M_X0_write : pM := (cX0_write, 7, none, yX0_write, (0, 0))
abbrev M_X1_init : pM := (cX1_init, 1, none, yX1_init, (3, 194))
abbrev M_X1_readTape : pM := (cX1_readTape, 1, (some (.object "WornWeights$Text")), yX1_readTape, (3, 196))
abbrev M_X1_faultPlace : pM := (cX1_faultPlace, 1, (some .int), yX1_faultPlace, (0, 0))
abbrev M_X1_stop : pM := (cX1_stop, 1, none, yX1_stop, (0, 0))
abbrev M_X1_goOn : pM := (cX1_goOn, 5, none, yX1_goOn, (0, 0))
abbrev M_X1_endOfRow : pM := (cX1_endOfRow, 5, (some .int), yX1_endOfRow, (0, 0))
abbrev M_X1_isWord : pM := (cX1_isWord, 3, (some .boolean), yX1_isWord, (0, 0))
abbrev M_X1_readKey : pM := (cX1_readKey, 1, none, yX1_readKey, (0, 0))
abbrev M_X1_readLevel : pM := (cX1_readLevel, 7, none, yX1_readLevel, (0, 0))
abbrev M_X1_levelOf : pM := (cX1_levelOf, 1, (some .int), yX1_levelOf, (0, 0))
abbrev M_X1_readPiece : pM := (cX1_readPiece, 3, none, yX1_readPiece, (0, 0))
abbrev M_X1_readClose : pM := (cX1_readClose, 1, none, yX1_readClose, (0, 0))
abbrev M_X1_numberAhead : pM := (cX1_numberAhead, 3, (some .int), yX1_numberAhead, (0, 0))
abbrev M_X1_nameAhead : pM := (cX1_nameAhead, 3, (some .int), yX1_nameAhead, (0, 0))
abbrev M_X1_addPiece : pM := (cX1_addPiece, 2, none, yX1_addPiece, (0, 0))
abbrev M_X1_addStep : pM := (cX1_addStep, 2, none, yX1_addStep, (0, 0))
abbrev M_X2_init : pM := (cX2_init, 1, none, yX2_init, (1, 24))
abbrev M_X2_become : pM := (cX2_become, 3, none, yX2_become, (0, 0))
abbrev M_X2_becomeAs : pM := (cX2_becomeAs, 2, none, yX2_becomeAs, (0, 0))
abbrev M_X2_isMissing : pM := (cX2_isMissing, 1, (some .boolean), yX2_isMissing, (0, 0))
abbrev M_X2_has : pM := (cX2_has, 2, (some .boolean), yX2_has, (0, 0))
abbrev M_X2_hasNumber : pM := (cX2_hasNumber, 2, (some .boolean), yX2_hasNumber, (0, 0))
abbrev M_X2_hasRow : pM := (cX2_hasRow, 3, (some .boolean), yX2_hasRow, (0, 0))
abbrev M_X3_init : pM := (cX3_init, 1, none, yX3_init, (3, 31))
abbrev M_X4_init : pM := (cX4_init, 1, none, yX4_init, (1, 96))
abbrev M_X4_addNumber : pM := (cX4_addNumber, 3, none, yX4_addNumber, (0, 0))
abbrev M_X4_byteAt : pM := (cX4_byteAt, 2, (some .int), yX4_byteAt, (0, 0))
abbrev M_X5_init : pM := (cX5_init, 4, none, yX5_init, (1, 96))
abbrev M_X5_gives : pM := (cX5_gives, 7, (some .int), yX5_gives, (0, 0))
abbrev M_X5_valueOf : pM := (cX5_valueOf, 4, (some .int), yX5_valueOf, (0, 0))
abbrev M_X5_joined : pM := (cX5_joined, 3, (some .int), yX5_joined, (0, 0))
abbrev M_X6_init : pM := (cX6_init, 1, none, yX6_init, (0, 0))
abbrev M_X6_becomeAs : pM := (cX6_becomeAs, 2, none, yX6_becomeAs, (0, 0))
abbrev M_X6_stampAnew : pM := (cX6_stampAnew, 3, none, yX6_stampAnew, (0, 0))
abbrev M_X6_isOf : pM := (cX6_isOf, 4, (some .boolean), yX6_isOf, (0, 0))
abbrev M_X6_lossBy : pM := (cX6_lossBy, 2, (some .int), yX6_lossBy, (0, 0))
abbrev M_X6_worth : pM := (cX6_worth, 1, (some .int), yX6_worth, (0, 0))
abbrev M_X7_init : pM := (cX7_init, 2, none, yX7_init, (18, 191))
abbrev M_X7_becomeAs : pM := (cX7_becomeAs, 3, none, yX7_becomeAs, (0, 0))
abbrev M_X7_hasRoom : pM := (cX7_hasRoom, 1, (some .boolean), yX7_hasRoom, (0, 0))
abbrev M_X7_weightAt : pM := (cX7_weightAt, 2, (some (.object "WornWeights$Weight")), yX7_weightAt, (0, 0))
abbrev M_X7_addWeight : pM := (cX7_addWeight, 3, (some .int), yX7_addWeight, (0, 0))
abbrev M_X7_draw : pM := (cX7_draw, 1, (some .int), yX7_draw, (0, 0))
abbrev M_X7_drawWeight : pM := (cX7_drawWeight, 3, none, yX7_drawWeight, (0, 0))
abbrev M_X7_armAt : pM := (cX7_armAt, 4, (some .int), yX7_armAt, (0, 0))
abbrev M_X7_bendArm : pM := (cX7_bendArm, 5, none, yX7_bendArm, (0, 0))
abbrev M_X7_setCount : pM := (cX7_setCount, 1, (some .int), yX7_setCount, (0, 0))
abbrev M_X7_allSet : pM := (cX7_allSet, 1, (some .int), yX7_allSet, (0, 0))
abbrev M_X7_isSet : pM := (cX7_isSet, 2, (some .boolean), yX7_isSet, (0, 0))
abbrev M_X7_grainsOf : pM := (cX7_grainsOf, 4, (some .int), yX7_grainsOf, (0, 0))
abbrev M_X7_stampsOf : pM := (cX7_stampsOf, 4, (some .int), yX7_stampsOf, (0, 0))
abbrev M_X7_sayOf : pM := (cX7_sayOf, 7, (some .int), yX7_sayOf, (0, 0))
abbrev M_X7_fits : pM := (cX7_fits, 6, (some .boolean), yX7_fits, (0, 0))
abbrev M_X7_fitCount : pM := (cX7_fitCount, 4, (some .int), yX7_fitCount, (0, 0))
abbrev M_X7_weighingLoss : pM := (cX7_weighingLoss, 4, (some .int), yX7_weighingLoss, (0, 0))
abbrev M_X7_fallLoss : pM := (cX7_fallLoss, 2, (some .int), yX7_fallLoss, (0, 0))
abbrev M_X7_lawFor : pM := (cX7_lawFor, 3, (some .int), yX7_lawFor, (0, 0))
abbrev M_X7_fineOf : pM := (cX7_fineOf, 4, (some .int), yX7_fineOf, (0, 0))
abbrev M_X7_wearOnce : pM := (cX7_wearOnce, 2, none, yX7_wearOnce, (0, 0))
abbrev M_X7_wearAll : pM := (cX7_wearAll, 3, none, yX7_wearAll, (0, 0))
abbrev M_X7_letFall : pM := (cX7_letFall, 3, (some .int), yX7_letFall, (0, 0))
abbrev M_X7_giveShot : pM := (cX7_giveShot, 4, (some .int), yX7_giveShot, (0, 0))
abbrev M_X7_makeRight : pM := (cX7_makeRight, 4, (some .int), yX7_makeRight, (0, 0))
abbrev M_X7_passDay : pM := (cX7_passDay, 3, (some .int), yX7_passDay, (0, 0))
abbrev M_X7_spareOf : pM := (cX7_spareOf, 2, (some (.object "WornWeights$Weight")), yX7_spareOf, (0, 0))
abbrev M_X7_sortByGrains : pM := (cX7_sortByGrains, 3, none, yX7_sortByGrains, (0, 0))
abbrev M_X7_reachOf : pM := (cX7_reachOf, 5, (some .int), yX7_reachOf, (0, 0))
abbrev M_X7_lightestFor : pM := (cX7_lightestFor, 6, (some .int), yX7_lightestFor, (0, 0))
abbrev M_X7_textAt : pM := (cX7_textAt, 2, (some (.object "WornWeights$Text")), yX7_textAt, (0, 0))
abbrev M_X7_addText : pM := (cX7_addText, 2, (some .int), yX7_addText, (0, 0))
abbrev M_X7_countingText : pM := (cX7_countingText, 2, (some .int), yX7_countingText, (0, 0))
abbrev M_X8_init : pM := (cX8_init, 2, none, yX8_init, (92, 1164))
abbrev M_X8_weight : pM := (cX8_weight, 3, (some .int), yX8_weight, (0, 0))
abbrev M_X8_told : pM := (cX8_told, 4, (some .int), yX8_told, (0, 0))
abbrev M_X8_as : pM := (cX8_as, 4, (some .int), yX8_as, (0, 0))
abbrev M_X8_turns : pM := (cX8_turns, 5, (some .int), yX8_turns, (0, 0))
abbrev M_X8_file : pM := (cX8_file, 5, (some .int), yX8_file, (0, 0))
abbrev M_X8_arm : pM := (cX8_arm, 5, (some .int), yX8_arm, (0, 0))
abbrev M_X8_deal : pM := (cX8_deal, 3, (some .int), yX8_deal, (0, 0))
abbrev M_X8_seed : pM := (cX8_seed, 3, (some .int), yX8_seed, (0, 0))
abbrev M_X8_weigh : pM := (cX8_weigh, 5, (some .int), yX8_weigh, (0, 0))
abbrev M_X8_said : pM := (cX8_said, 4, (some .int), yX8_said, (0, 0))
abbrev M_X8_fall : pM := (cX8_fall, 3, (some .int), yX8_fall, (0, 0))
abbrev M_X8_shoot : pM := (cX8_shoot, 4, (some .int), yX8_shoot, (0, 0))
abbrev M_X8_monday : pM := (cX8_monday, 1, (some .int), yX8_monday, (0, 0))
abbrev M_X8_days : pM := (cX8_days, 4, (some .int), yX8_days, (0, 0))
abbrev M_X8_page : pM := (cX8_page, 3, (some .int), yX8_page, (0, 0))
abbrev M_X8_behind : pM := (cX8_behind, 6, (some .int), yX8_behind, (0, 0))
abbrev M_X8_lasts : pM := (cX8_lasts, 6, (some .int), yX8_lasts, (0, 0))
abbrev M_X8_canWeigh : pM := (cX8_canWeigh, 2, (some .int), yX8_canWeigh, (0, 0))
abbrev M_X8_smallest : pM := (cX8_smallest, 7, (some .int), yX8_smallest, (0, 0))
abbrev M_X8_gain : pM := (cX8_gain, 4, (some .int), yX8_gain, (0, 0))
abbrev M_X8_pound : pM := (cX8_pound, 5, (some .int), yX8_pound, (0, 0))
abbrev M_X8_falseOne : pM := (cX8_falseOne, 5, (some .int), yX8_falseOne, (0, 0))
abbrev M_X8_fine : pM := (cX8_fine, 3, (some .int), yX8_fine, (0, 0))
abbrev M_X8_feed : pM := (cX8_feed, 4, (some .int), yX8_feed, (0, 0))
abbrev M_X8_trim : pM := (cX8_trim, 2, (some .int), yX8_trim, (0, 0))
abbrev M_X8_text : pM := (cX8_text, 2, (some .int), yX8_text, (3, 196))
abbrev M_X8_textTold : pM := (cX8_textTold, 4, (some .int), yX8_textTold, (0, 0))
abbrev M_X8_why : pM := (cX8_why, 2, (some .int), yX8_why, (0, 0))
abbrev M_X8_sheet : pM := (cX8_sheet, 5, (some .int), yX8_sheet, (0, 0))
abbrev M_X8_mark : pM := (cX8_mark, 6, (some .int), yX8_mark, (0, 0))
abbrev M_X8_pour : pM := (cX8_pour, 7, (some .int), yX8_pour, (0, 0))
abbrev M_X8_reads : pM := (cX8_reads, 7, (some .int), yX8_reads, (0, 0))
abbrev M_X8_copy : pM := (cX8_copy, 8, (some .int), yX8_copy, (0, 0))
abbrev M_X8_lay : pM := (cX8_lay, 7, (some .int), yX8_lay, (0, 0))
abbrev M_X8_ask : pM := (cX8_ask, 4, (some .int), yX8_ask, (0, 0))
abbrev M_X8_item : pM := (cX8_item, 4, (some .int), yX8_item, (0, 0))
abbrev M_X8_rest : pM := (cX8_rest, 4, (some .int), yX8_rest, (0, 0))
abbrev M_X8_tell : pM := (cX8_tell, 2, (some .int), yX8_tell, (0, 0))
abbrev M_X8_check : pM := (cX8_check, 5, (some .int), yX8_check, (0, 0))
abbrev M_X8_keep : pM := (cX8_keep, 1, (some .int), yX8_keep, (0, 0))
abbrev M_X8_back : pM := (cX8_back, 1, (some .int), yX8_back, (0, 0))
abbrev M_X8_count : pM := (cX8_count, 2, (some .int), yX8_count, (0, 0))
abbrev M_X8_sayOrRefuse : pM := (cX8_sayOrRefuse, 4, (some .int), yX8_sayOrRefuse, (0, 0))
abbrev M_X8_sheetAt : pM := (cX8_sheetAt, 2, (some (.object "WornWeights$Sheet")), yX8_sheetAt, (0, 0))
abbrev M_X8_slotAt : pM := (cX8_slotAt, 2, (some (.object "WornWeights$Slot")), yX8_slotAt, (0, 0))
abbrev M_X8_stands : pM := (cX8_stands, 4, (some .boolean), yX8_stands, (0, 0))
abbrev M_X8_isKind : pM := (cX8_isKind, 1, (some .boolean), yX8_isKind, (0, 0))
abbrev M_X8_within : pM := (cX8_within, 3, (some .boolean), yX8_within, (0, 0))
abbrev M_X8_held : pM := (cX8_held, 3, (some .int), yX8_held, (0, 0))
abbrev M_X8_commonDivisor : pM := (cX8_commonDivisor, 6, (some .int), yX8_commonDivisor, (0, 0))
abbrev M_X9_init : pM := (cX9_init, 2, none, yX9_init, (17, 10174))
abbrev M_X9_isIn : pM := (cX9_isIn, 6, (some .boolean), yX9_isIn, (0, 0))
abbrev M_X9_orNone : pM := (cX9_orNone, 1, (some .int), yX9_orNone, (0, 0))
abbrev M_X9_within : pM := (cX9_within, 2, (some .int), yX9_within, (0, 0))
abbrev M_X9_becomes : pM := (cX9_becomes, 4, (some .int), yX9_becomes, (0, 0))
abbrev M_X9_textAt : pM := (cX9_textAt, 2, (some .int), yX9_textAt, (0, 0))
abbrev M_X9_of : pM := (cX9_of, 3, (some .int), yX9_of, (0, 0))
abbrev M_X9_sets : pM := (cX9_sets, 4, none, yX9_sets, (0, 0))
abbrev M_X9_isWeight : pM := (cX9_isWeight, 2, (some .boolean), yX9_isWeight, (0, 0))
abbrev M_X9_isSet : pM := (cX9_isSet, 2, (some .boolean), yX9_isSet, (0, 0))
abbrev M_X9_isText : pM := (cX9_isText, 2, (some .boolean), yX9_isText, (0, 0))
abbrev M_X9_drawn : pM := (cX9_drawn, 1, (some .int), yX9_drawn, (0, 0))
abbrev M_X9_ones : pM := (cX9_ones, 3, (some .int), yX9_ones, (0, 0))
abbrev M_X9_sumOf : pM := (cX9_sumOf, 5, (some .int), yX9_sumOf, (0, 0))
abbrev M_X9_allOf : pM := (cX9_allOf, 2, (some .int), yX9_allOf, (0, 0))
abbrev M_X9_comes : pM := (cX9_comes, 4, none, yX9_comes, (0, 0))
abbrev M_X9_weight : pM := (cX9_weight, 3, (some .int), yX9_weight, (0, 0))
abbrev M_X9_losesIf : pM := (cX9_losesIf, 6, (some .int), yX9_losesIf, (0, 0))
abbrev M_X9_loses : pM := (cX9_loses, 2, (some .int), yX9_loses, (0, 0))
abbrev M_X9_losesAtFall : pM := (cX9_losesAtFall, 2, (some .int), yX9_losesAtFall, (0, 0))
abbrev M_X9_worth : pM := (cX9_worth, 3, (some .int), yX9_worth, (0, 0))
abbrev M_X9_told : pM := (cX9_told, 3, (some .int), yX9_told, (0, 0))
abbrev M_X9_isOf : pM := (cX9_isOf, 2, (some .boolean), yX9_isOf, (0, 0))
abbrev M_X9_as : pM := (cX9_as, 3, (some .int), yX9_as, (0, 0))
abbrev M_X9_turns : pM := (cX9_turns, 3, (some .int), yX9_turns, (0, 0))
abbrev M_X9_file : pM := (cX9_file, 3, (some .int), yX9_file, (0, 0))
abbrev M_X9_isBalance : pM := (cX9_isBalance, 1, (some .boolean), yX9_isBalance, (0, 0))
abbrev M_X9_arm : pM := (cX9_arm, 4, (some .int), yX9_arm, (0, 0))
abbrev M_X9_deal : pM := (cX9_deal, 4, (some .int), yX9_deal, (0, 0))
abbrev M_X9_seed : pM := (cX9_seed, 2, (some .int), yX9_seed, (0, 0))
abbrev M_X9_saysBy : pM := (cX9_saysBy, 7, (some .int), yX9_saysBy, (0, 0))
abbrev M_X9_mayWeigh : pM := (cX9_mayWeigh, 4, (some .int), yX9_mayWeigh, (0, 0))
abbrev M_X9_said : pM := (cX9_said, 5, (some .int), yX9_said, (0, 0))
abbrev M_X9_writes : pM := (cX9_writes, 7, none, yX9_writes, (0, 0))
abbrev M_X9_weigh : pM := (cX9_weigh, 6, (some .int), yX9_weigh, (0, 0))
abbrev M_X9_falls : pM := (cX9_falls, 3, (some .int), yX9_falls, (0, 0))
abbrev M_X9_fall : pM := (cX9_fall, 2, (some .int), yX9_fall, (0, 0))
abbrev M_X9_takes : pM := (cX9_takes, 5, (some .int), yX9_takes, (0, 0))
abbrev M_X9_shoot : pM := (cX9_shoot, 3, (some .int), yX9_shoot, (0, 0))
abbrev M_X9_lawful : pM := (cX9_lawful, 4, (some .int), yX9_lawful, (0, 0))
abbrev M_X9_monday : pM := (cX9_monday, 4, (some .int), yX9_monday, (0, 0))
abbrev M_X9_day : pM := (cX9_day, 4, (some .int), yX9_day, (0, 0))
abbrev M_X9_days : pM := (cX9_days, 4, (some .int), yX9_days, (0, 0))
abbrev M_X9_fits : pM := (cX9_fits, 5, (some .boolean), yX9_fits, (0, 0))
abbrev M_X9_page : pM := (cX9_page, 3, (some .int), yX9_page, (0, 0))
abbrev M_X9_behindOf : pM := (cX9_behindOf, 6, (some .int), yX9_behindOf, (0, 0))
abbrev M_X9_behind : pM := (cX9_behind, 3, (some .int), yX9_behind, (0, 0))
abbrev M_X9_lasts : pM := (cX9_lasts, 6, (some .int), yX9_lasts, (0, 0))
abbrev M_X9_canBy : pM := (cX9_canBy, 6, (some .int), yX9_canBy, (0, 0))
abbrev M_X9_canWeigh : pM := (cX9_canWeigh, 2, (some .int), yX9_canWeigh, (0, 0))
abbrev M_X9_smallest : pM := (cX9_smallest, 4, (some .int), yX9_smallest, (0, 0))
abbrev M_X9_gain : pM := (cX9_gain, 7, (some .int), yX9_gain, (0, 0))
abbrev M_X9_pound : pM := (cX9_pound, 7, (some .int), yX9_pound, (0, 0))
abbrev M_X9_fitting : pM := (cX9_fitting, 4, (some .int), yX9_fitting, (0, 0))
abbrev M_X9_falseOne : pM := (cX9_falseOne, 5, (some .int), yX9_falseOne, (0, 0))
abbrev M_X9_fine : pM := (cX9_fine, 4, (some .int), yX9_fine, (0, 0))
abbrev M_X9_feed : pM := (cX9_feed, 6, (some .int), yX9_feed, (0, 0))
abbrev M_X9_trim : pM := (cX9_trim, 2, (some .int), yX9_trim, (0, 0))
abbrev M_X9_isLetter : pM := (cX9_isLetter, 2, (some .boolean), yX9_isLetter, (0, 0))
abbrev M_X9_isDigit : pM := (cX9_isDigit, 2, (some .boolean), yX9_isDigit, (0, 0))
abbrev M_X9_nextToken : pM := (cX9_nextToken, 3, none, yX9_nextToken, (0, 0))
abbrev M_X9_isSign : pM := (cX9_isSign, 2, (some .boolean), yX9_isSign, (0, 0))
abbrev M_X9_isWordAt : pM := (cX9_isWordAt, 6, (some .boolean), yX9_isWordAt, (0, 0))
abbrev M_X9_key : pM := (cX9_key, 1, (some .int), yX9_key, (0, 0))
abbrev M_X9_isName : pM := (cX9_isName, 2, (some .boolean), yX9_isName, (0, 0))
abbrev M_X9_step : pM := (cX9_step, 3, none, yX9_step, (0, 0))
abbrev M_X9_either : pM := (cX9_either, 2, (some .boolean), yX9_either, (0, 0))
abbrev M_X9_both : pM := (cX9_both, 2, (some .boolean), yX9_both, (0, 0))
abbrev M_X9_test : pM := (cX9_test, 3, (some .boolean), yX9_test, (0, 0))
abbrev M_X9_sum : pM := (cX9_sum, 3, (some .boolean), yX9_sum, (0, 0))
abbrev M_X9_term : pM := (cX9_term, 3, (some .boolean), yX9_term, (0, 0))
abbrev M_X9_part0 : pM := (cX9_part0, 2, (some .boolean), yX9_part0, (0, 0))
abbrev M_X9_parse : pM := (cX9_parse, 3, (some .int), yX9_parse, (0, 0))
abbrev M_X9_text : pM := (cX9_text, 3, (some .int), yX9_text, (0, 0))
abbrev M_X9_textTold : pM := (cX9_textTold, 3, (some .int), yX9_textTold, (0, 0))
abbrev M_X9_counts : pM := (cX9_counts, 4, (some .int), yX9_counts, (0, 0))
abbrev M_X9_why : pM := (cX9_why, 2, (some .int), yX9_why, (0, 0))
abbrev M_X9_joined : pM := (cX9_joined, 3, (some .int), yX9_joined, (0, 0))
abbrev M_X9_worked : pM := (cX9_worked, 6, (some .int), yX9_worked, (0, 0))
abbrev M_X9_isSheet : pM := (cX9_isSheet, 1, (some .boolean), yX9_isSheet, (0, 0))
abbrev M_X9_sheet : pM := (cX9_sheet, 5, (some .int), yX9_sheet, (0, 0))
abbrev M_X9_mark : pM := (cX9_mark, 4, (some .int), yX9_mark, (0, 0))
abbrev M_X9_pour : pM := (cX9_pour, 7, (some .int), yX9_pour, (0, 0))
abbrev M_X9_reads : pM := (cX9_reads, 5, (some .int), yX9_reads, (0, 0))
abbrev M_X9_copy : pM := (cX9_copy, 7, (some .int), yX9_copy, (0, 0))
abbrev M_X9_isSlot : pM := (cX9_isSlot, 1, (some .boolean), yX9_isSlot, (0, 0))
abbrev M_X9_lay : pM := (cX9_lay, 7, (some .int), yX9_lay, (0, 0))
abbrev M_X9_ask : pM := (cX9_ask, 3, (some .int), yX9_ask, (0, 0))
abbrev M_X9_item : pM := (cX9_item, 4, (some .int), yX9_item, (0, 0))
abbrev M_X9_rest : pM := (cX9_rest, 3, (some .int), yX9_rest, (0, 0))
abbrev M_X9_tell : pM := (cX9_tell, 2, (some .int), yX9_tell, (0, 0))
abbrev M_X9_setAside : pM := (cX9_setAside, 4, none, yX9_setAside, (0, 0))
abbrev M_X9_check : pM := (cX9_check, 6, (some .int), yX9_check, (0, 0))
abbrev M_X9_keep : pM := (cX9_keep, 1, (some .int), yX9_keep, (0, 0))
abbrev M_X9_back : pM := (cX9_back, 1, (some .int), yX9_back, (0, 0))
abbrev M_X9_count : pM := (cX9_count, 2, (some .int), yX9_count, (0, 0))
abbrev M_J11_isValidCodePoint_9a6ad : pM := (cJ11_isValidCodePoint_9a6ad, 2, (some .boolean), yJ11_isValidCodePoint_9a6ad, (0, 0))
abbrev M_J11_highSurrogate_5068e : pM := (cJ11_highSurrogate_5068e, 1, (some .char), yJ11_highSurrogate_5068e, (0, 0))
abbrev M_J11_lowSurrogate_5068e : pM := (cJ11_lowSurrogate_5068e, 1, (some .char), yJ11_lowSurrogate_5068e, (0, 0))
abbrev M_J6_bitCount_0f7a4 : pM := (cJ6_bitCount_0f7a4, 1, (some .int), yJ6_bitCount_0f7a4, (0, 0))
abbrev M_J9_max_7cf53 : pM := (cJ9_max_7cf53, 2, (some .int), yJ9_max_7cf53, (0, 0))
abbrev M_J9_min_7cf53 : pM := (cJ9_min_7cf53, 2, (some .int), yJ9_min_7cf53, (0, 0))
abbrev M_J0_length_8abf5 : pM := (cJ0_length_8abf5, 1, (some .int), yJ0_length_8abf5, (0, 0))
abbrev M_J0_charAt_5068e : pM := (cJ0_charAt_5068e, 2, (some .char), yJ0_charAt_5068e, (0, 0))
abbrev M_J0_indexOf_0f7a4 : pM := (cJ0_indexOf_0f7a4, 2, (some .int), yJ0_indexOf_0f7a4, (0, 0))
abbrev M_J0_indexOf_7cf53 : pM := (cJ0_indexOf_7cf53, 3, (some .int), yJ0_indexOf_7cf53, (0, 0))
abbrev M_J0_coder_7d493 : pM := (cJ0_coder_7d493, 1, (some .byte), yJ0_coder_7d493, (0, 0))
abbrev M_J0_isLatin1_aae02 : pM := (cJ0_isLatin1_aae02, 1, (some .boolean), yJ0_isLatin1_aae02, (0, 0))
abbrev M_J0_checkIndex_df160 : pM := (cJ0_checkIndex_df160, 2, none, yJ0_checkIndex_df160, (0, 0))
abbrev M_J0_checkBoundsBeginEnd_23922 : pM := (cJ0_checkBoundsBeginEnd_23922, 3, none, yJ0_checkBoundsBeginEnd_23922, (0, 0))
abbrev M_J1_charAt_3b067 : pM := (cJ1_charAt_3b067, 2, (some .char), yJ1_charAt_3b067, (0, 0))
abbrev M_J1_canEncode_9a6ad : pM := (cJ1_canEncode_9a6ad, 1, (some .boolean), yJ1_canEncode_9a6ad, (0, 0))
abbrev M_J1_indexOf_4cfef : pM := (cJ1_indexOf_4cfef, 4, (some .int), yJ1_indexOf_4cfef, (0, 0))
abbrev M_J1_indexOfChar_4cfef : pM := (cJ1_indexOfChar_4cfef, 6, (some .int), yJ1_indexOfChar_4cfef, (0, 0))
abbrev M_J2_getChar_3b067 : pM := (cJ2_getChar_3b067, 2, (some .char), yJ2_getChar_3b067, (0, 0))
abbrev M_J2_length_9d52b : pM := (cJ2_length_9d52b, 1, (some .int), yJ2_length_9d52b, (0, 0))
abbrev M_J2_indexOf_4cfef : pM := (cJ2_indexOf_4cfef, 4, (some .int), yJ2_indexOf_4cfef, (0, 0))
abbrev M_J2_indexOfChar_4cfef : pM := (cJ2_indexOfChar_4cfef, 4, (some .int), yJ2_indexOfChar_4cfef, (0, 0))
abbrev M_J2_indexOfCharUnsafe_4cfef : pM := (cJ2_indexOfCharUnsafe_4cfef, 5, (some .int), yJ2_indexOfCharUnsafe_4cfef, (0, 0))
abbrev M_J2_indexOfSupplementary_4cfef : pM := (cJ2_indexOfSupplementary_4cfef, 7, (some .int), yJ2_indexOfSupplementary_4cfef, (0, 0))
abbrev M_J2_charAt_3b067 : pM := (cJ2_charAt_3b067, 2, (some .char), yJ2_charAt_3b067, (0, 0))
abbrev M_J2_checkIndex_2214a : pM := (cJ2_checkIndex_2214a, 2, none, yJ2_checkIndex_2214a, (0, 0))
abbrev M_J2_checkBoundsBeginEnd_d044e : pM := (cJ2_checkBoundsBeginEnd_d044e, 3, none, yJ2_checkBoundsBeginEnd_d044e, (0, 0))
abbrev M_J7_fill_53178 : pM := (cJ7_fill_53178, 4, none, yJ7_fill_53178, (0, 0))
abbrev M_J7_copyOf_59c91 : pM := (cJ7_copyOf_59c91, 3, (some (.array .int)), yJ7_copyOf_59c91, (1, 96))
abbrev M_J3_checkIndex_8e157 : pM := (cJ3_checkIndex_8e157, 3, (some .int), yJ3_checkIndex_8e157, (0, 0))
abbrev M_J3_checkFromToIndex_8c36e : pM := (cJ3_checkFromToIndex_8c36e, 4, (some .int), yJ3_checkFromToIndex_8c36e, (0, 0))
abbrev M_L_law : pM := (cL_law, 4, (some .boolean), yL_law, (600000, 7302250))
theorem ok_X0_init : cOk M_X0_init 0 := ⟨gw 100 (by decide +kernel) rfl, by decide, gw 63 (by decide +kernel) rfl, by decide +kernel⟩
theorem ok_X0_becomeAs : cOk M_X0_becomeAs 1 := ⟨gw 971 (by decide +kernel) rfl, by decide, gw 63 (by decide +kernel) rfl, by decide +kernel⟩
theorem ok_X0_has : cOk M_X0_has 1 := ⟨gw 535 (by decide +kernel) rfl, by decide, gw 63 (by decide +kernel) rfl, by decide +kernel⟩
theorem ok_X0_read : cOk M_X0_read 2 := ⟨gw 544 (by decide +kernel) rfl, by decide, gw 63 (by decide +kernel) rfl, by decide +kernel⟩
theorem ok_X0_write : cOk M_X0_write 5 := ⟨gw 479 (by decide +kernel) rfl, by decide, gw 63 (by decide +kernel) rfl, by decide +kernel⟩
theorem ok_X1_init : cOk M_X1_init 0 := ⟨gw 190 (by decide +kernel) rfl, by decide, gw 66 (by decide +kernel) rfl, by decide +kernel⟩
theorem ok_X1_readTape : cOk M_X1_readTape 0 := ⟨gw 649 (by decide +kernel) rfl, by decide, gw 66 (by decide +kernel) rfl, by decide +kernel⟩
theorem ok_X1_faultPlace : cOk M_X1_faultPlace 0 := ⟨gw 854 (by decide +kernel) rfl, by decide, gw 66 (by decide +kernel) rfl, by decide +kernel⟩
theorem ok_X1_stop : cOk M_X1_stop 0 := ⟨gw 725 (by decide +kernel) rfl, by decide, gw 66 (by decide +kernel) rfl, by decide +kernel⟩
theorem ok_X1_goOn : cOk M_X1_goOn 0 := ⟨gw 653 (by decide +kernel) rfl, by decide, gw 66 (by decide +kernel) rfl, by decide +kernel⟩
theorem ok_X1_endOfRow : cOk M_X1_endOfRow 3 := ⟨gw 657 (by decide +kernel) rfl, by decide, gw 66 (by decide +kernel) rfl, by decide +kernel⟩
theorem ok_X1_isWord : cOk M_X1_isWord 1 := ⟨gw 671 (by decide +kernel) rfl, by decide, gw 66 (by decide +kernel) rfl, by decide +kernel⟩
theorem ok_X1_readKey : cOk M_X1_readKey 0 := ⟨gw 666 (by decide +kernel) rfl, by decide, gw 66 (by decide +kernel) rfl, by decide +kernel⟩
theorem ok_X1_readLevel : cOk M_X1_readLevel 3 := ⟨gw 729 (by decide +kernel) rfl, by decide, gw 66 (by decide +kernel) rfl, by decide +kernel⟩
theorem ok_X1_levelOf : cOk M_X1_levelOf 1 := ⟨gw 814 (by decide +kernel) rfl, by decide, gw 66 (by decide +kernel) rfl, by decide +kernel⟩
theorem ok_X1_readPiece : cOk M_X1_readPiece 2 := ⟨gw 733 (by decide +kernel) rfl, by decide, gw 66 (by decide +kernel) rfl, by decide +kernel⟩
theorem ok_X1_readClose : cOk M_X1_readClose 0 := ⟨gw 811 (by decide +kernel) rfl, by decide, gw 66 (by decide +kernel) rfl, by decide +kernel⟩
theorem ok_X1_numberAhead : cOk M_X1_numberAhead 0 := ⟨gw 737 (by decide +kernel) rfl, by decide, gw 66 (by decide +kernel) rfl, by decide +kernel⟩
theorem ok_X1_nameAhead : cOk M_X1_nameAhead 0 := ⟨gw 749 (by decide +kernel) rfl, by decide, gw 66 (by decide +kernel) rfl, by decide +kernel⟩
theorem ok_X1_addPiece : cOk M_X1_addPiece 1 := ⟨gw 741 (by decide +kernel) rfl, by decide, gw 66 (by decide +kernel) rfl, by decide +kernel⟩
theorem ok_X1_addStep : cOk M_X1_addStep 1 := ⟨gw 745 (by decide +kernel) rfl, by decide, gw 66 (by decide +kernel) rfl, by decide +kernel⟩
theorem ok_X2_init : cOk M_X2_init 0 := ⟨gw 243 (by decide +kernel) rfl, by decide, gw 68 (by decide +kernel) rfl, by decide +kernel⟩
theorem ok_X2_become : cOk M_X2_become 2 := ⟨gw 884 (by decide +kernel) rfl, by decide, gw 68 (by decide +kernel) rfl, by decide +kernel⟩
theorem ok_X2_becomeAs : cOk M_X2_becomeAs 1 := ⟨gw 941 (by decide +kernel) rfl, by decide, gw 68 (by decide +kernel) rfl, by decide +kernel⟩
theorem ok_X2_isMissing : cOk M_X2_isMissing 0 := ⟨gw 895 (by decide +kernel) rfl, by decide, gw 68 (by decide +kernel) rfl, by decide +kernel⟩
theorem ok_X2_has : cOk M_X2_has 1 := ⟨gw 900 (by decide +kernel) rfl, by decide, gw 68 (by decide +kernel) rfl, by decide +kernel⟩
theorem ok_X2_hasNumber : cOk M_X2_hasNumber 1 := ⟨gw 911 (by decide +kernel) rfl, by decide, gw 68 (by decide +kernel) rfl, by decide +kernel⟩
theorem ok_X2_hasRow : cOk M_X2_hasRow 2 := ⟨gw 926 (by decide +kernel) rfl, by decide, gw 68 (by decide +kernel) rfl, by decide +kernel⟩
theorem ok_X3_init : cOk M_X3_init 0 := ⟨gw 261 (by decide +kernel) rfl, by decide, gw 69 (by decide +kernel) rfl, by decide +kernel⟩
theorem ok_X4_init : cOk M_X4_init 0 := ⟨gw 196 (by decide +kernel) rfl, by decide, gw 67 (by decide +kernel) rfl, by decide +kernel⟩
theorem ok_X4_addNumber : cOk M_X4_addNumber 1 := ⟨gw 637 (by decide +kernel) rfl, by decide, gw 67 (by decide +kernel) rfl, by decide +kernel⟩
theorem ok_X4_byteAt : cOk M_X4_byteAt 1 := ⟨gw 661 (by decide +kernel) rfl, by decide, gw 67 (by decide +kernel) rfl, by decide +kernel⟩
theorem ok_X5_init : cOk M_X5_init 3 := ⟨gw 831 (by decide +kernel) rfl, by decide, gw 71 (by decide +kernel) rfl, by decide +kernel⟩
theorem ok_X5_gives : cOk M_X5_gives 3 := ⟨gw 359 (by decide +kernel) rfl, by decide, gw 71 (by decide +kernel) rfl, by decide +kernel⟩
theorem ok_X5_valueOf : cOk M_X5_valueOf 4 := ⟨gw 362 (by decide +kernel) rfl, by decide, gw 71 (by decide +kernel) rfl, by decide +kernel⟩
theorem ok_X5_joined : cOk M_X5_joined 3 := ⟨gw 365 (by decide +kernel) rfl, by decide, gw 71 (by decide +kernel) rfl, by decide +kernel⟩
theorem ok_X6_init : cOk M_X6_init 0 := ⟨gw 118 (by decide +kernel) rfl, by decide, gw 64 (by decide +kernel) rfl, by decide +kernel⟩
theorem ok_X6_becomeAs : cOk M_X6_becomeAs 1 := ⟨gw 561 (by decide +kernel) rfl, by decide, gw 64 (by decide +kernel) rfl, by decide +kernel⟩
theorem ok_X6_stampAnew : cOk M_X6_stampAnew 2 := ⟨gw 339 (by decide +kernel) rfl, by decide, gw 64 (by decide +kernel) rfl, by decide +kernel⟩
theorem ok_X6_isOf : cOk M_X6_isOf 1 := ⟨gw 396 (by decide +kernel) rfl, by decide, gw 64 (by decide +kernel) rfl, by decide +kernel⟩
theorem ok_X6_lossBy : cOk M_X6_lossBy 1 := ⟨gw 378 (by decide +kernel) rfl, by decide, gw 64 (by decide +kernel) rfl, by decide +kernel⟩
theorem ok_X6_worth : cOk M_X6_worth 0 := ⟨gw 388 (by decide +kernel) rfl, by decide, gw 64 (by decide +kernel) rfl, by decide +kernel⟩
theorem ok_X7_init : cOk M_X7_init 0 := ⟨gw 92 (by decide +kernel) rfl, by decide, gw 62 (by decide +kernel) rfl, by decide +kernel⟩
theorem ok_X7_becomeAs : cOk M_X7_becomeAs 1 := ⟨gw 966 (by decide +kernel) rfl, by decide, gw 62 (by decide +kernel) rfl, by decide +kernel⟩
theorem ok_X7_hasRoom : cOk M_X7_hasRoom 0 := ⟨gw 328 (by decide +kernel) rfl, by decide, gw 62 (by decide +kernel) rfl, by decide +kernel⟩
theorem ok_X7_weightAt : cOk M_X7_weightAt 1 := ⟨gw 347 (by decide +kernel) rfl, by decide, gw 62 (by decide +kernel) rfl, by decide +kernel⟩
theorem ok_X7_addWeight : cOk M_X7_addWeight 2 := ⟨gw 333 (by decide +kernel) rfl, by decide, gw 62 (by decide +kernel) rfl, by decide +kernel⟩
theorem ok_X7_draw : cOk M_X7_draw 0 := ⟨gw 431 (by decide +kernel) rfl, by decide, gw 62 (by decide +kernel) rfl, by decide +kernel⟩
theorem ok_X7_drawWeight : cOk M_X7_drawWeight 0 := ⟨gw 427 (by decide +kernel) rfl, by decide, gw 62 (by decide +kernel) rfl, by decide +kernel⟩
theorem ok_X7_armAt : cOk M_X7_armAt 2 := ⟨gw 415 (by decide +kernel) rfl, by decide, gw 62 (by decide +kernel) rfl, by decide +kernel⟩
theorem ok_X7_bendArm : cOk M_X7_bendArm 3 := ⟨gw 419 (by decide +kernel) rfl, by decide, gw 62 (by decide +kernel) rfl, by decide +kernel⟩
theorem ok_X7_setCount : cOk M_X7_setCount 0 := ⟨gw 457 (by decide +kernel) rfl, by decide, gw 62 (by decide +kernel) rfl, by decide +kernel⟩
theorem ok_X7_allSet : cOk M_X7_allSet 0 := ⟨gw 453 (by decide +kernel) rfl, by decide, gw 62 (by decide +kernel) rfl, by decide +kernel⟩
theorem ok_X7_isSet : cOk M_X7_isSet 1 := ⟨gw 449 (by decide +kernel) rfl, by decide, gw 62 (by decide +kernel) rfl, by decide +kernel⟩
theorem ok_X7_grainsOf : cOk M_X7_grainsOf 1 := ⟨gw 467 (by decide +kernel) rfl, by decide, gw 62 (by decide +kernel) rfl, by decide +kernel⟩
theorem ok_X7_stampsOf : cOk M_X7_stampsOf 1 := ⟨gw 601 (by decide +kernel) rfl, by decide, gw 62 (by decide +kernel) rfl, by decide +kernel⟩
theorem ok_X7_sayOf : cOk M_X7_sayOf 4 := ⟨gw 463 (by decide +kernel) rfl, by decide, gw 62 (by decide +kernel) rfl, by decide +kernel⟩
theorem ok_X7_fits : cOk M_X7_fits 2 := ⟨gw 540 (by decide +kernel) rfl, by decide, gw 62 (by decide +kernel) rfl, by decide +kernel⟩
theorem ok_X7_fitCount : cOk M_X7_fitCount 1 := ⟨gw 619 (by decide +kernel) rfl, by decide, gw 62 (by decide +kernel) rfl, by decide +kernel⟩
theorem ok_X7_weighingLoss : cOk M_X7_weighingLoss 1 := ⟨gw 351 (by decide +kernel) rfl, by decide, gw 62 (by decide +kernel) rfl, by decide +kernel⟩
theorem ok_X7_fallLoss : cOk M_X7_fallLoss 1 := ⟨gw 383 (by decide +kernel) rfl, by decide, gw 62 (by decide +kernel) rfl, by decide +kernel⟩
theorem ok_X7_lawFor : cOk M_X7_lawFor 1 := ⟨gw 516 (by decide +kernel) rfl, by decide, gw 62 (by decide +kernel) rfl, by decide +kernel⟩
theorem ok_X7_fineOf : cOk M_X7_fineOf 1 := ⟨gw 628 (by decide +kernel) rfl, by decide, gw 62 (by decide +kernel) rfl, by decide +kernel⟩
theorem ok_X7_wearOnce : cOk M_X7_wearOnce 1 := ⟨gw 475 (by decide +kernel) rfl, by decide, gw 62 (by decide +kernel) rfl, by decide +kernel⟩
theorem ok_X7_wearAll : cOk M_X7_wearAll 1 := ⟨gw 471 (by decide +kernel) rfl, by decide, gw 62 (by decide +kernel) rfl, by decide +kernel⟩
theorem ok_X7_letFall : cOk M_X7_letFall 1 := ⟨gw 494 (by decide +kernel) rfl, by decide, gw 62 (by decide +kernel) rfl, by decide +kernel⟩
theorem ok_X7_giveShot : cOk M_X7_giveShot 2 := ⟨gw 503 (by decide +kernel) rfl, by decide, gw 62 (by decide +kernel) rfl, by decide +kernel⟩
theorem ok_X7_makeRight : cOk M_X7_makeRight 0 := ⟨gw 512 (by decide +kernel) rfl, by decide, gw 62 (by decide +kernel) rfl, by decide +kernel⟩
theorem ok_X7_passDay : cOk M_X7_passDay 0 := ⟨gw 525 (by decide +kernel) rfl, by decide, gw 62 (by decide +kernel) rfl, by decide +kernel⟩
theorem ok_X7_spareOf : cOk M_X7_spareOf 1 := ⟨gw 557 (by decide +kernel) rfl, by decide, gw 62 (by decide +kernel) rfl, by decide +kernel⟩
theorem ok_X7_sortByGrains : cOk M_X7_sortByGrains 0 := ⟨gw 574 (by decide +kernel) rfl, by decide, gw 62 (by decide +kernel) rfl, by decide +kernel⟩
theorem ok_X7_reachOf : cOk M_X7_reachOf 1 := ⟨gw 578 (by decide +kernel) rfl, by decide, gw 62 (by decide +kernel) rfl, by decide +kernel⟩
theorem ok_X7_lightestFor : cOk M_X7_lightestFor 1 := ⟨gw 597 (by decide +kernel) rfl, by decide, gw 62 (by decide +kernel) rfl, by decide +kernel⟩
theorem ok_X7_textAt : cOk M_X7_textAt 1 := ⟨gw 355 (by decide +kernel) rfl, by decide, gw 62 (by decide +kernel) rfl, by decide +kernel⟩
theorem ok_X7_addText : cOk M_X7_addText 1 := ⟨gw 859 (by decide +kernel) rfl, by decide, gw 62 (by decide +kernel) rfl, by decide +kernel⟩
theorem ok_X7_countingText : cOk M_X7_countingText 1 := ⟨gw 872 (by decide +kernel) rfl, by decide, gw 62 (by decide +kernel) rfl, by decide +kernel⟩
theorem ok_X8_init : cOk M_X8_init 0 := ⟨gw 84 (by decide +kernel) rfl, by decide, gw 61 (by decide +kernel) rfl, by decide +kernel⟩
theorem ok_X8_weight : cOk M_X8_weight 2 := ⟨gw 317 (by decide +kernel) rfl, by decide, gw 61 (by decide +kernel) rfl, by decide +kernel⟩
theorem ok_X8_told : cOk M_X8_told 2 := ⟨gw 343 (by decide +kernel) rfl, by decide, gw 61 (by decide +kernel) rfl, by decide +kernel⟩
theorem ok_X8_as : cOk M_X8_as 2 := ⟨gw 392 (by decide +kernel) rfl, by decide, gw 61 (by decide +kernel) rfl, by decide +kernel⟩
theorem ok_X8_turns : cOk M_X8_turns 2 := ⟨gw 403 (by decide +kernel) rfl, by decide, gw 61 (by decide +kernel) rfl, by decide +kernel⟩
theorem ok_X8_file : cOk M_X8_file 2 := ⟨gw 407 (by decide +kernel) rfl, by decide, gw 61 (by decide +kernel) rfl, by decide +kernel⟩
theorem ok_X8_arm : cOk M_X8_arm 3 := ⟨gw 411 (by decide +kernel) rfl, by decide, gw 61 (by decide +kernel) rfl, by decide +kernel⟩
theorem ok_X8_deal : cOk M_X8_deal 1 := ⟨gw 423 (by decide +kernel) rfl, by decide, gw 61 (by decide +kernel) rfl, by decide +kernel⟩
theorem ok_X8_seed : cOk M_X8_seed 1 := ⟨gw 437 (by decide +kernel) rfl, by decide, gw 61 (by decide +kernel) rfl, by decide +kernel⟩
theorem ok_X8_weigh : cOk M_X8_weigh 3 := ⟨gw 441 (by decide +kernel) rfl, by decide, gw 61 (by decide +kernel) rfl, by decide +kernel⟩
theorem ok_X8_said : cOk M_X8_said 3 := ⟨gw 486 (by decide +kernel) rfl, by decide, gw 61 (by decide +kernel) rfl, by decide +kernel⟩
theorem ok_X8_fall : cOk M_X8_fall 1 := ⟨gw 490 (by decide +kernel) rfl, by decide, gw 61 (by decide +kernel) rfl, by decide +kernel⟩
theorem ok_X8_shoot : cOk M_X8_shoot 2 := ⟨gw 499 (by decide +kernel) rfl, by decide, gw 61 (by decide +kernel) rfl, by decide +kernel⟩
theorem ok_X8_monday : cOk M_X8_monday 0 := ⟨gw 508 (by decide +kernel) rfl, by decide, gw 61 (by decide +kernel) rfl, by decide +kernel⟩
theorem ok_X8_days : cOk M_X8_days 1 := ⟨gw 521 (by decide +kernel) rfl, by decide, gw 61 (by decide +kernel) rfl, by decide +kernel⟩
theorem ok_X8_page : cOk M_X8_page 2 := ⟨gw 531 (by decide +kernel) rfl, by decide, gw 61 (by decide +kernel) rfl, by decide +kernel⟩
theorem ok_X8_behind : cOk M_X8_behind 2 := ⟨gw 553 (by decide +kernel) rfl, by decide, gw 61 (by decide +kernel) rfl, by decide +kernel⟩
theorem ok_X8_lasts : cOk M_X8_lasts 2 := ⟨gw 566 (by decide +kernel) rfl, by decide, gw 61 (by decide +kernel) rfl, by decide +kernel⟩
theorem ok_X8_canWeigh : cOk M_X8_canWeigh 1 := ⟨gw 570 (by decide +kernel) rfl, by decide, gw 61 (by decide +kernel) rfl, by decide +kernel⟩
theorem ok_X8_smallest : cOk M_X8_smallest 1 := ⟨gw 582 (by decide +kernel) rfl, by decide, gw 61 (by decide +kernel) rfl, by decide +kernel⟩
theorem ok_X8_gain : cOk M_X8_gain 2 := ⟨gw 593 (by decide +kernel) rfl, by decide, gw 61 (by decide +kernel) rfl, by decide +kernel⟩
theorem ok_X8_pound : cOk M_X8_pound 1 := ⟨gw 606 (by decide +kernel) rfl, by decide, gw 61 (by decide +kernel) rfl, by decide +kernel⟩
theorem ok_X8_falseOne : cOk M_X8_falseOne 0 := ⟨gw 615 (by decide +kernel) rfl, by decide, gw 61 (by decide +kernel) rfl, by decide +kernel⟩
theorem ok_X8_fine : cOk M_X8_fine 1 := ⟨gw 624 (by decide +kernel) rfl, by decide, gw 61 (by decide +kernel) rfl, by decide +kernel⟩
theorem ok_X8_feed : cOk M_X8_feed 3 := ⟨gw 633 (by decide +kernel) rfl, by decide, gw 61 (by decide +kernel) rfl, by decide +kernel⟩
theorem ok_X8_trim : cOk M_X8_trim 1 := ⟨gw 641 (by decide +kernel) rfl, by decide, gw 61 (by decide +kernel) rfl, by decide +kernel⟩
theorem ok_X8_text : cOk M_X8_text 0 := ⟨gw 645 (by decide +kernel) rfl, by decide, gw 61 (by decide +kernel) rfl, by decide +kernel⟩
theorem ok_X8_textTold : cOk M_X8_textTold 2 := ⟨gw 863 (by decide +kernel) rfl, by decide, gw 61 (by decide +kernel) rfl, by decide +kernel⟩
theorem ok_X8_why : cOk M_X8_why 1 := ⟨gw 868 (by decide +kernel) rfl, by decide, gw 61 (by decide +kernel) rfl, by decide +kernel⟩
theorem ok_X8_sheet : cOk M_X8_sheet 3 := ⟨gw 876 (by decide +kernel) rfl, by decide, gw 61 (by decide +kernel) rfl, by decide +kernel⟩
theorem ok_X8_mark : cOk M_X8_mark 3 := ⟨gw 891 (by decide +kernel) rfl, by decide, gw 61 (by decide +kernel) rfl, by decide +kernel⟩
theorem ok_X8_pour : cOk M_X8_pour 1 := ⟨gw 907 (by decide +kernel) rfl, by decide, gw 61 (by decide +kernel) rfl, by decide +kernel⟩
theorem ok_X8_reads : cOk M_X8_reads 2 := ⟨gw 918 (by decide +kernel) rfl, by decide, gw 61 (by decide +kernel) rfl, by decide +kernel⟩
theorem ok_X8_copy : cOk M_X8_copy 5 := ⟨gw 922 (by decide +kernel) rfl, by decide, gw 61 (by decide +kernel) rfl, by decide +kernel⟩
theorem ok_X8_lay : cOk M_X8_lay 3 := ⟨gw 932 (by decide +kernel) rfl, by decide, gw 61 (by decide +kernel) rfl, by decide +kernel⟩
theorem ok_X8_ask : cOk M_X8_ask 2 := ⟨gw 946 (by decide +kernel) rfl, by decide, gw 61 (by decide +kernel) rfl, by decide +kernel⟩
theorem ok_X8_item : cOk M_X8_item 2 := ⟨gw 950 (by decide +kernel) rfl, by decide, gw 61 (by decide +kernel) rfl, by decide +kernel⟩
theorem ok_X8_rest : cOk M_X8_rest 2 := ⟨gw 954 (by decide +kernel) rfl, by decide, gw 61 (by decide +kernel) rfl, by decide +kernel⟩
theorem ok_X8_tell : cOk M_X8_tell 1 := ⟨gw 958 (by decide +kernel) rfl, by decide, gw 61 (by decide +kernel) rfl, by decide +kernel⟩
theorem ok_X8_check : cOk M_X8_check 1 := ⟨gw 962 (by decide +kernel) rfl, by decide, gw 61 (by decide +kernel) rfl, by decide +kernel⟩
theorem ok_X8_keep : cOk M_X8_keep 0 := ⟨gw 979 (by decide +kernel) rfl, by decide, gw 61 (by decide +kernel) rfl, by decide +kernel⟩
theorem ok_X8_back : cOk M_X8_back 0 := ⟨gw 983 (by decide +kernel) rfl, by decide, gw 61 (by decide +kernel) rfl, by decide +kernel⟩
theorem ok_X8_count : cOk M_X8_count 1 := ⟨gw 987 (by decide +kernel) rfl, by decide, gw 61 (by decide +kernel) rfl, by decide +kernel⟩
theorem ok_X8_sayOrRefuse : cOk M_X8_sayOrRefuse 3 := ⟨gw 445 (by decide +kernel) rfl, by decide, gw 61 (by decide +kernel) rfl, by decide +kernel⟩
theorem ok_X8_sheetAt : cOk M_X8_sheetAt 1 := ⟨gw 880 (by decide +kernel) rfl, by decide, gw 61 (by decide +kernel) rfl, by decide +kernel⟩
theorem ok_X8_slotAt : cOk M_X8_slotAt 1 := ⟨gw 936 (by decide +kernel) rfl, by decide, gw 61 (by decide +kernel) rfl, by decide +kernel⟩
theorem ok_X8_stands : cOk M_X8_stands 3 := ⟨gw 975 (by decide +kernel) rfl, by decide, gw 61 (by decide +kernel) rfl, by decide +kernel⟩
theorem ok_X8_isKind : cOk M_X8_isKind 1 := ⟨gw 320 (by decide +kernel) rfl, by decide, gw 61 (by decide +kernel) rfl, by decide +kernel⟩
theorem ok_X8_within : cOk M_X8_within 3 := ⟨gw 323 (by decide +kernel) rfl, by decide, gw 61 (by decide +kernel) rfl, by decide +kernel⟩
theorem ok_X8_held : cOk M_X8_held 3 := ⟨gw 368 (by decide +kernel) rfl, by decide, gw 61 (by decide +kernel) rfl, by decide +kernel⟩
theorem ok_X8_commonDivisor : cOk M_X8_commonDivisor 2 := ⟨gw 611 (by decide +kernel) rfl, by decide, gw 61 (by decide +kernel) rfl, by decide +kernel⟩
theorem ok_X9_init : cOk M_X9_init 0 := ⟨gw 992 (by decide +kernel) rfl, by decide, gw 70 (by decide +kernel) rfl, by decide +kernel⟩
theorem ok_X9_isIn : cOk M_X9_isIn 3 := ⟨gw 1092 (by decide +kernel) rfl, by decide, gw 70 (by decide +kernel) rfl, by decide +kernel⟩
theorem ok_X9_orNone : cOk M_X9_orNone 1 := ⟨gw 1298 (by decide +kernel) rfl, by decide, gw 70 (by decide +kernel) rfl, by decide +kernel⟩
theorem ok_X9_within : cOk M_X9_within 2 := ⟨gw 1141 (by decide +kernel) rfl, by decide, gw 70 (by decide +kernel) rfl, by decide +kernel⟩
theorem ok_X9_becomes : cOk M_X9_becomes 2 := ⟨gw 1165 (by decide +kernel) rfl, by decide, gw 70 (by decide +kernel) rfl, by decide +kernel⟩
theorem ok_X9_textAt : cOk M_X9_textAt 1 := ⟨gw 1131 (by decide +kernel) rfl, by decide, gw 70 (by decide +kernel) rfl, by decide +kernel⟩
theorem ok_X9_of : cOk M_X9_of 2 := ⟨gw 1115 (by decide +kernel) rfl, by decide, gw 70 (by decide +kernel) rfl, by decide +kernel⟩
theorem ok_X9_sets : cOk M_X9_sets 3 := ⟨gw 1103 (by decide +kernel) rfl, by decide, gw 70 (by decide +kernel) rfl, by decide +kernel⟩
theorem ok_X9_isWeight : cOk M_X9_isWeight 1 := ⟨gw 1111 (by decide +kernel) rfl, by decide, gw 70 (by decide +kernel) rfl, by decide +kernel⟩
theorem ok_X9_isSet : cOk M_X9_isSet 1 := ⟨gw 1204 (by decide +kernel) rfl, by decide, gw 70 (by decide +kernel) rfl, by decide +kernel⟩
theorem ok_X9_isText : cOk M_X9_isText 1 := ⟨gw 1406 (by decide +kernel) rfl, by decide, gw 70 (by decide +kernel) rfl, by decide +kernel⟩
theorem ok_X9_drawn : cOk M_X9_drawn 0 := ⟨gw 1187 (by decide +kernel) rfl, by decide, gw 70 (by decide +kernel) rfl, by decide +kernel⟩
theorem ok_X9_ones : cOk M_X9_ones 1 := ⟨gw 1295 (by decide +kernel) rfl, by decide, gw 70 (by decide +kernel) rfl, by decide +kernel⟩
theorem ok_X9_sumOf : cOk M_X9_sumOf 2 := ⟨gw 1213 (by decide +kernel) rfl, by decide, gw 70 (by decide +kernel) rfl, by decide +kernel⟩
theorem ok_X9_allOf : cOk M_X9_allOf 1 := ⟨gw 1311 (by decide +kernel) rfl, by decide, gw 70 (by decide +kernel) rfl, by decide +kernel⟩
theorem ok_X9_comes : cOk M_X9_comes 2 := ⟨gw 1099 (by decide +kernel) rfl, by decide, gw 70 (by decide +kernel) rfl, by decide +kernel⟩
theorem ok_X9_weight : cOk M_X9_weight 2 := ⟨gw 1088 (by decide +kernel) rfl, by decide, gw 70 (by decide +kernel) rfl, by decide +kernel⟩
theorem ok_X9_losesIf : cOk M_X9_losesIf 3 := ⟨gw 1123 (by decide +kernel) rfl, by decide, gw 70 (by decide +kernel) rfl, by decide +kernel⟩
theorem ok_X9_loses : cOk M_X9_loses 1 := ⟨gw 1119 (by decide +kernel) rfl, by decide, gw 70 (by decide +kernel) rfl, by decide +kernel⟩
theorem ok_X9_losesAtFall : cOk M_X9_losesAtFall 1 := ⟨gw 1145 (by decide +kernel) rfl, by decide, gw 70 (by decide +kernel) rfl, by decide +kernel⟩
theorem ok_X9_worth : cOk M_X9_worth 1 := ⟨gw 1149 (by decide +kernel) rfl, by decide, gw 70 (by decide +kernel) rfl, by decide +kernel⟩
theorem ok_X9_told : cOk M_X9_told 2 := ⟨gw 1107 (by decide +kernel) rfl, by decide, gw 70 (by decide +kernel) rfl, by decide +kernel⟩
theorem ok_X9_isOf : cOk M_X9_isOf 2 := ⟨gw 1156 (by decide +kernel) rfl, by decide, gw 70 (by decide +kernel) rfl, by decide +kernel⟩
theorem ok_X9_as : cOk M_X9_as 2 := ⟨gw 1153 (by decide +kernel) rfl, by decide, gw 70 (by decide +kernel) rfl, by decide +kernel⟩
theorem ok_X9_turns : cOk M_X9_turns 2 := ⟨gw 1161 (by decide +kernel) rfl, by decide, gw 70 (by decide +kernel) rfl, by decide +kernel⟩
theorem ok_X9_file : cOk M_X9_file 2 := ⟨gw 1169 (by decide +kernel) rfl, by decide, gw 70 (by decide +kernel) rfl, by decide +kernel⟩
theorem ok_X9_isBalance : cOk M_X9_isBalance 1 := ⟨gw 1176 (by decide +kernel) rfl, by decide, gw 70 (by decide +kernel) rfl, by decide +kernel⟩
theorem ok_X9_arm : cOk M_X9_arm 3 := ⟨gw 1173 (by decide +kernel) rfl, by decide, gw 70 (by decide +kernel) rfl, by decide +kernel⟩
theorem ok_X9_deal : cOk M_X9_deal 1 := ⟨gw 1182 (by decide +kernel) rfl, by decide, gw 70 (by decide +kernel) rfl, by decide +kernel⟩
theorem ok_X9_seed : cOk M_X9_seed 1 := ⟨gw 1192 (by decide +kernel) rfl, by decide, gw 70 (by decide +kernel) rfl, by decide +kernel⟩
theorem ok_X9_saysBy : cOk M_X9_saysBy 4 := ⟨gw 1209 (by decide +kernel) rfl, by decide, gw 70 (by decide +kernel) rfl, by decide +kernel⟩
theorem ok_X9_mayWeigh : cOk M_X9_mayWeigh 3 := ⟨gw 1200 (by decide +kernel) rfl, by decide, gw 70 (by decide +kernel) rfl, by decide +kernel⟩
theorem ok_X9_said : cOk M_X9_said 3 := ⟨gw 1196 (by decide +kernel) rfl, by decide, gw 70 (by decide +kernel) rfl, by decide +kernel⟩
theorem ok_X9_writes : cOk M_X9_writes 5 := ⟨gw 1222 (by decide +kernel) rfl, by decide, gw 70 (by decide +kernel) rfl, by decide +kernel⟩
theorem ok_X9_weigh : cOk M_X9_weigh 3 := ⟨gw 1217 (by decide +kernel) rfl, by decide, gw 70 (by decide +kernel) rfl, by decide +kernel⟩
theorem ok_X9_falls : cOk M_X9_falls 1 := ⟨gw 1230 (by decide +kernel) rfl, by decide, gw 70 (by decide +kernel) rfl, by decide +kernel⟩
theorem ok_X9_fall : cOk M_X9_fall 1 := ⟨gw 1226 (by decide +kernel) rfl, by decide, gw 70 (by decide +kernel) rfl, by decide +kernel⟩
theorem ok_X9_takes : cOk M_X9_takes 2 := ⟨gw 1238 (by decide +kernel) rfl, by decide, gw 70 (by decide +kernel) rfl, by decide +kernel⟩
theorem ok_X9_shoot : cOk M_X9_shoot 2 := ⟨gw 1234 (by decide +kernel) rfl, by decide, gw 70 (by decide +kernel) rfl, by decide +kernel⟩
theorem ok_X9_lawful : cOk M_X9_lawful 1 := ⟨gw 1247 (by decide +kernel) rfl, by decide, gw 70 (by decide +kernel) rfl, by decide +kernel⟩
theorem ok_X9_monday : cOk M_X9_monday 0 := ⟨gw 1243 (by decide +kernel) rfl, by decide, gw 70 (by decide +kernel) rfl, by decide +kernel⟩
theorem ok_X9_day : cOk M_X9_day 0 := ⟨gw 1256 (by decide +kernel) rfl, by decide, gw 70 (by decide +kernel) rfl, by decide +kernel⟩
theorem ok_X9_days : cOk M_X9_days 1 := ⟨gw 1251 (by decide +kernel) rfl, by decide, gw 70 (by decide +kernel) rfl, by decide +kernel⟩
theorem ok_X9_fits : cOk M_X9_fits 2 := ⟨gw 1267 (by decide +kernel) rfl, by decide, gw 70 (by decide +kernel) rfl, by decide +kernel⟩
theorem ok_X9_page : cOk M_X9_page 2 := ⟨gw 1261 (by decide +kernel) rfl, by decide, gw 70 (by decide +kernel) rfl, by decide +kernel⟩
theorem ok_X9_behindOf : cOk M_X9_behindOf 2 := ⟨gw 1276 (by decide +kernel) rfl, by decide, gw 70 (by decide +kernel) rfl, by decide +kernel⟩
theorem ok_X9_behind : cOk M_X9_behind 2 := ⟨gw 1271 (by decide +kernel) rfl, by decide, gw 70 (by decide +kernel) rfl, by decide +kernel⟩
theorem ok_X9_lasts : cOk M_X9_lasts 2 := ⟨gw 1280 (by decide +kernel) rfl, by decide, gw 70 (by decide +kernel) rfl, by decide +kernel⟩
theorem ok_X9_canBy : cOk M_X9_canBy 1 := ⟨gw 1288 (by decide +kernel) rfl, by decide, gw 70 (by decide +kernel) rfl, by decide +kernel⟩
theorem ok_X9_canWeigh : cOk M_X9_canWeigh 1 := ⟨gw 1284 (by decide +kernel) rfl, by decide, gw 70 (by decide +kernel) rfl, by decide +kernel⟩
theorem ok_X9_smallest : cOk M_X9_smallest 1 := ⟨gw 1292 (by decide +kernel) rfl, by decide, gw 70 (by decide +kernel) rfl, by decide +kernel⟩
theorem ok_X9_gain : cOk M_X9_gain 2 := ⟨gw 1302 (by decide +kernel) rfl, by decide, gw 70 (by decide +kernel) rfl, by decide +kernel⟩
theorem ok_X9_pound : cOk M_X9_pound 1 := ⟨gw 1307 (by decide +kernel) rfl, by decide, gw 70 (by decide +kernel) rfl, by decide +kernel⟩
theorem ok_X9_fitting : cOk M_X9_fitting 1 := ⟨gw 1319 (by decide +kernel) rfl, by decide, gw 70 (by decide +kernel) rfl, by decide +kernel⟩
theorem ok_X9_falseOne : cOk M_X9_falseOne 0 := ⟨gw 1315 (by decide +kernel) rfl, by decide, gw 70 (by decide +kernel) rfl, by decide +kernel⟩
theorem ok_X9_fine : cOk M_X9_fine 1 := ⟨gw 1323 (by decide +kernel) rfl, by decide, gw 70 (by decide +kernel) rfl, by decide +kernel⟩
theorem ok_X9_feed : cOk M_X9_feed 3 := ⟨gw 1327 (by decide +kernel) rfl, by decide, gw 70 (by decide +kernel) rfl, by decide +kernel⟩
theorem ok_X9_trim : cOk M_X9_trim 1 := ⟨gw 1331 (by decide +kernel) rfl, by decide, gw 70 (by decide +kernel) rfl, by decide +kernel⟩
theorem ok_X9_isLetter : cOk M_X9_isLetter 1 := ⟨gw 1347 (by decide +kernel) rfl, by decide, gw 70 (by decide +kernel) rfl, by decide +kernel⟩
theorem ok_X9_isDigit : cOk M_X9_isDigit 1 := ⟨gw 1353 (by decide +kernel) rfl, by decide, gw 70 (by decide +kernel) rfl, by decide +kernel⟩
theorem ok_X9_nextToken : cOk M_X9_nextToken 0 := ⟨gw 1343 (by decide +kernel) rfl, by decide, gw 70 (by decide +kernel) rfl, by decide +kernel⟩
theorem ok_X9_isSign : cOk M_X9_isSign 1 := ⟨gw 1398 (by decide +kernel) rfl, by decide, gw 70 (by decide +kernel) rfl, by decide +kernel⟩
theorem ok_X9_isWordAt : cOk M_X9_isWordAt 4 := ⟨gw 1363 (by decide +kernel) rfl, by decide, gw 70 (by decide +kernel) rfl, by decide +kernel⟩
theorem ok_X9_key : cOk M_X9_key 0 := ⟨gw 1359 (by decide +kernel) rfl, by decide, gw 70 (by decide +kernel) rfl, by decide +kernel⟩
theorem ok_X9_isName : cOk M_X9_isName 2 := ⟨gw 1394 (by decide +kernel) rfl, by decide, gw 70 (by decide +kernel) rfl, by decide +kernel⟩
theorem ok_X9_step : cOk M_X9_step 2 := ⟨gw 1391 (by decide +kernel) rfl, by decide, gw 70 (by decide +kernel) rfl, by decide +kernel⟩
theorem ok_X9_either : cOk M_X9_either 1 := ⟨gw 1367 (by decide +kernel) rfl, by decide, gw 70 (by decide +kernel) rfl, by decide +kernel⟩
theorem ok_X9_both : cOk M_X9_both 1 := ⟨gw 1371 (by decide +kernel) rfl, by decide, gw 70 (by decide +kernel) rfl, by decide +kernel⟩
theorem ok_X9_test : cOk M_X9_test 1 := ⟨gw 1375 (by decide +kernel) rfl, by decide, gw 70 (by decide +kernel) rfl, by decide +kernel⟩
theorem ok_X9_sum : cOk M_X9_sum 1 := ⟨gw 1379 (by decide +kernel) rfl, by decide, gw 70 (by decide +kernel) rfl, by decide +kernel⟩
theorem ok_X9_term : cOk M_X9_term 1 := ⟨gw 1383 (by decide +kernel) rfl, by decide, gw 70 (by decide +kernel) rfl, by decide +kernel⟩
theorem ok_X9_part0 : cOk M_X9_part0 1 := ⟨gw 1387 (by decide +kernel) rfl, by decide, gw 70 (by decide +kernel) rfl, by decide +kernel⟩
theorem ok_X9_parse : cOk M_X9_parse 0 := ⟨gw 1339 (by decide +kernel) rfl, by decide, gw 70 (by decide +kernel) rfl, by decide +kernel⟩
theorem ok_X9_text : cOk M_X9_text 0 := ⟨gw 1335 (by decide +kernel) rfl, by decide, gw 70 (by decide +kernel) rfl, by decide +kernel⟩
theorem ok_X9_textTold : cOk M_X9_textTold 2 := ⟨gw 1402 (by decide +kernel) rfl, by decide, gw 70 (by decide +kernel) rfl, by decide +kernel⟩
theorem ok_X9_counts : cOk M_X9_counts 1 := ⟨gw 1127 (by decide +kernel) rfl, by decide, gw 70 (by decide +kernel) rfl, by decide +kernel⟩
theorem ok_X9_why : cOk M_X9_why 1 := ⟨gw 1410 (by decide +kernel) rfl, by decide, gw 70 (by decide +kernel) rfl, by decide +kernel⟩
theorem ok_X9_joined : cOk M_X9_joined 3 := ⟨gw 1138 (by decide +kernel) rfl, by decide, gw 70 (by decide +kernel) rfl, by decide +kernel⟩
theorem ok_X9_worked : cOk M_X9_worked 1 := ⟨gw 1135 (by decide +kernel) rfl, by decide, gw 70 (by decide +kernel) rfl, by decide +kernel⟩
theorem ok_X9_isSheet : cOk M_X9_isSheet 1 := ⟨gw 1418 (by decide +kernel) rfl, by decide, gw 70 (by decide +kernel) rfl, by decide +kernel⟩
theorem ok_X9_sheet : cOk M_X9_sheet 3 := ⟨gw 1415 (by decide +kernel) rfl, by decide, gw 70 (by decide +kernel) rfl, by decide +kernel⟩
theorem ok_X9_mark : cOk M_X9_mark 3 := ⟨gw 1424 (by decide +kernel) rfl, by decide, gw 70 (by decide +kernel) rfl, by decide +kernel⟩
theorem ok_X9_pour : cOk M_X9_pour 1 := ⟨gw 1432 (by decide +kernel) rfl, by decide, gw 70 (by decide +kernel) rfl, by decide +kernel⟩
theorem ok_X9_reads : cOk M_X9_reads 2 := ⟨gw 1436 (by decide +kernel) rfl, by decide, gw 70 (by decide +kernel) rfl, by decide +kernel⟩
theorem ok_X9_copy : cOk M_X9_copy 5 := ⟨gw 1440 (by decide +kernel) rfl, by decide, gw 70 (by decide +kernel) rfl, by decide +kernel⟩
theorem ok_X9_isSlot : cOk M_X9_isSlot 1 := ⟨gw 1447 (by decide +kernel) rfl, by decide, gw 70 (by decide +kernel) rfl, by decide +kernel⟩
theorem ok_X9_lay : cOk M_X9_lay 3 := ⟨gw 1444 (by decide +kernel) rfl, by decide, gw 70 (by decide +kernel) rfl, by decide +kernel⟩
theorem ok_X9_ask : cOk M_X9_ask 2 := ⟨gw 1452 (by decide +kernel) rfl, by decide, gw 70 (by decide +kernel) rfl, by decide +kernel⟩
theorem ok_X9_item : cOk M_X9_item 2 := ⟨gw 1456 (by decide +kernel) rfl, by decide, gw 70 (by decide +kernel) rfl, by decide +kernel⟩
theorem ok_X9_rest : cOk M_X9_rest 2 := ⟨gw 1460 (by decide +kernel) rfl, by decide, gw 70 (by decide +kernel) rfl, by decide +kernel⟩
theorem ok_X9_tell : cOk M_X9_tell 1 := ⟨gw 1464 (by decide +kernel) rfl, by decide, gw 70 (by decide +kernel) rfl, by decide +kernel⟩
theorem ok_X9_setAside : cOk M_X9_setAside 2 := ⟨gw 1473 (by decide +kernel) rfl, by decide, gw 70 (by decide +kernel) rfl, by decide +kernel⟩
theorem ok_X9_check : cOk M_X9_check 1 := ⟨gw 1468 (by decide +kernel) rfl, by decide, gw 70 (by decide +kernel) rfl, by decide +kernel⟩
theorem ok_X9_keep : cOk M_X9_keep 0 := ⟨gw 1477 (by decide +kernel) rfl, by decide, gw 70 (by decide +kernel) rfl, by decide +kernel⟩
theorem ok_X9_back : cOk M_X9_back 0 := ⟨gw 1481 (by decide +kernel) rfl, by decide, gw 70 (by decide +kernel) rfl, by decide +kernel⟩
theorem ok_X9_count : cOk M_X9_count 1 := ⟨gw 1485 (by decide +kernel) rfl, by decide, gw 70 (by decide +kernel) rfl, by decide +kernel⟩
theorem ok_J11_isValidCodePoint_9a6ad : cOk M_J11_isValidCodePoint_9a6ad 1 := ⟨gw 799 (by decide +kernel) rfl, by decide, gw 79 (by decide +kernel) rfl, by decide +kernel⟩
theorem ok_J11_highSurrogate_5068e : cOk M_J11_highSurrogate_5068e 1 := ⟨gw 802 (by decide +kernel) rfl, by decide, gw 79 (by decide +kernel) rfl, by decide +kernel⟩
theorem ok_J11_lowSurrogate_5068e : cOk M_J11_lowSurrogate_5068e 1 := ⟨gw 806 (by decide +kernel) rfl, by decide, gw 79 (by decide +kernel) rfl, by decide +kernel⟩
theorem ok_J6_bitCount_0f7a4 : cOk M_J6_bitCount_0f7a4 1 := ⟨gw 586 (by decide +kernel) rfl, by decide, gw 74 (by decide +kernel) rfl, by decide +kernel⟩
theorem ok_J9_max_7cf53 : cOk M_J9_max_7cf53 2 := ⟨gw 374 (by decide +kernel) rfl, by decide, gw 72 (by decide +kernel) rfl, by decide +kernel⟩
theorem ok_J9_min_7cf53 : cOk M_J9_min_7cf53 2 := ⟨gw 371 (by decide +kernel) rfl, by decide, gw 72 (by decide +kernel) rfl, by decide +kernel⟩
theorem ok_J0_length_8abf5 : cOk M_J0_length_8abf5 0 := ⟨gw 675 (by decide +kernel) rfl, by decide, gw 75 (by decide +kernel) rfl, by decide +kernel⟩
theorem ok_J0_charAt_5068e : cOk M_J0_charAt_5068e 1 := ⟨gw 685 (by decide +kernel) rfl, by decide, gw 75 (by decide +kernel) rfl, by decide +kernel⟩
theorem ok_J0_indexOf_0f7a4 : cOk M_J0_indexOf_0f7a4 1 := ⟨gw 756 (by decide +kernel) rfl, by decide, gw 75 (by decide +kernel) rfl, by decide +kernel⟩
theorem ok_J0_indexOf_7cf53 : cOk M_J0_indexOf_7cf53 2 := ⟨gw 760 (by decide +kernel) rfl, by decide, gw 75 (by decide +kernel) rfl, by decide +kernel⟩
theorem ok_J0_coder_7d493 : cOk M_J0_coder_7d493 0 := ⟨gw 679 (by decide +kernel) rfl, by decide, gw 75 (by decide +kernel) rfl, by decide +kernel⟩
theorem ok_J0_isLatin1_aae02 : cOk M_J0_isLatin1_aae02 0 := ⟨gw 689 (by decide +kernel) rfl, by decide, gw 75 (by decide +kernel) rfl, by decide +kernel⟩
theorem ok_J0_checkIndex_df160 : cOk M_J0_checkIndex_df160 2 := ⟨gw 695 (by decide +kernel) rfl, by decide, gw 75 (by decide +kernel) rfl, by decide +kernel⟩
theorem ok_J0_checkBoundsBeginEnd_23922 : cOk M_J0_checkBoundsBeginEnd_23922 3 := ⟨gw 787 (by decide +kernel) rfl, by decide, gw 75 (by decide +kernel) rfl, by decide +kernel⟩
theorem ok_J1_charAt_3b067 : cOk M_J1_charAt_3b067 2 := ⟨gw 692 (by decide +kernel) rfl, by decide, gw 76 (by decide +kernel) rfl, by decide +kernel⟩
theorem ok_J1_canEncode_9a6ad : cOk M_J1_canEncode_9a6ad 1 := ⟨gw 767 (by decide +kernel) rfl, by decide, gw 76 (by decide +kernel) rfl, by decide +kernel⟩
theorem ok_J1_indexOf_4cfef : cOk M_J1_indexOf_4cfef 4 := ⟨gw 764 (by decide +kernel) rfl, by decide, gw 76 (by decide +kernel) rfl, by decide +kernel⟩
theorem ok_J1_indexOfChar_4cfef : cOk M_J1_indexOfChar_4cfef 4 := ⟨gw 772 (by decide +kernel) rfl, by decide, gw 76 (by decide +kernel) rfl, by decide +kernel⟩
theorem ok_J2_getChar_3b067 : cOk M_J2_getChar_3b067 2 := ⟨gw 713 (by decide +kernel) rfl, by decide, gw 78 (by decide +kernel) rfl, by decide +kernel⟩
theorem ok_J2_length_9d52b : cOk M_J2_length_9d52b 1 := ⟨gw 709 (by decide +kernel) rfl, by decide, gw 78 (by decide +kernel) rfl, by decide +kernel⟩
theorem ok_J2_indexOf_4cfef : cOk M_J2_indexOf_4cfef 4 := ⟨gw 775 (by decide +kernel) rfl, by decide, gw 78 (by decide +kernel) rfl, by decide +kernel⟩
theorem ok_J2_indexOfChar_4cfef : cOk M_J2_indexOfChar_4cfef 4 := ⟨gw 781 (by decide +kernel) rfl, by decide, gw 78 (by decide +kernel) rfl, by decide +kernel⟩
theorem ok_J2_indexOfCharUnsafe_4cfef : cOk M_J2_indexOfCharUnsafe_4cfef 4 := ⟨gw 793 (by decide +kernel) rfl, by decide, gw 78 (by decide +kernel) rfl, by decide +kernel⟩
theorem ok_J2_indexOfSupplementary_4cfef : cOk M_J2_indexOfSupplementary_4cfef 4 := ⟨gw 796 (by decide +kernel) rfl, by decide, gw 78 (by decide +kernel) rfl, by decide +kernel⟩
theorem ok_J2_charAt_3b067 : cOk M_J2_charAt_3b067 2 := ⟨gw 703 (by decide +kernel) rfl, by decide, gw 78 (by decide +kernel) rfl, by decide +kernel⟩
theorem ok_J2_checkIndex_2214a : cOk M_J2_checkIndex_2214a 2 := ⟨gw 706 (by decide +kernel) rfl, by decide, gw 78 (by decide +kernel) rfl, by decide +kernel⟩
theorem ok_J2_checkBoundsBeginEnd_d044e : cOk M_J2_checkBoundsBeginEnd_d044e 3 := ⟨gw 784 (by decide +kernel) rfl, by decide, gw 78 (by decide +kernel) rfl, by decide +kernel⟩
theorem ok_J7_fill_53178 : cOk M_J7_fill_53178 2 := ⟨gw 142 (by decide +kernel) rfl, by decide, gw 65 (by decide +kernel) rfl, by decide +kernel⟩
theorem ok_J7_copyOf_59c91 : cOk M_J7_copyOf_59c91 2 := ⟨gw 819 (by decide +kernel) rfl, by decide, gw 65 (by decide +kernel) rfl, by decide +kernel⟩
theorem ok_J3_checkIndex_8e157 : cOk M_J3_checkIndex_8e157 3 := ⟨gw 700 (by decide +kernel) rfl, by decide, gw 77 (by decide +kernel) rfl, by decide +kernel⟩
theorem ok_J3_checkFromToIndex_8c36e : cOk M_J3_checkFromToIndex_8c36e 4 := ⟨gw 790 (by decide +kernel) rfl, by decide, gw 77 (by decide +kernel) rfl, by decide +kernel⟩
theorem FL_X0_9 {M : pM} (h : (mY M).cls = RX0) : FL M 9 0 0 := ⟨by decide, by decide, by rw [h]; exact gw 102 (by decide +kernel) rfl⟩
theorem FL_X0_15 {M : pM} (h : (mY M).cls = RX0) : FL M 15 0 1 := ⟨by decide, by decide, by rw [h]; exact gw 103 (by decide +kernel) rfl⟩
theorem FL_X7_126 {M : pM} (h : (mY M).cls = RX7) : FL M 126 0 1 := ⟨by decide, by decide, by rw [h]; exact gw 104 (by decide +kernel) rfl⟩
theorem FL_X8_331 {M : pM} (h : (mY M).cls = RX8) : FL M 331 0 1 := ⟨by decide, by decide, by rw [h]; exact gw 105 (by decide +kernel) rfl⟩
theorem KC_X7_38 {M : pM} (h : (mY M).cls = RX7) : Cond.constant (mY M).cls 38 (-1000000005) ∈ GW := by rw [h]; exact gw 114 (by decide +kernel) rfl
theorem FL_X6_9 {M : pM} (h : (mY M).cls = RX6) : FL M 9 6 0 := ⟨by decide, by decide, by rw [h]; exact gw 120 (by decide +kernel) rfl⟩
theorem FL_X8_74 {M : pM} (h : (mY M).cls = RX8) : FL M 74 6 0 := ⟨by decide, by decide, by rw [h]; exact gw 121 (by decide +kernel) rfl⟩
theorem FL_X6_15 {M : pM} (h : (mY M).cls = RX6) : FL M 15 6 1 := ⟨by decide, by decide, by rw [h]; exact gw 122 (by decide +kernel) rfl⟩
theorem FL_X8_80 {M : pM} (h : (mY M).cls = RX8) : FL M 80 6 1 := ⟨by decide, by decide, by rw [h]; exact gw 123 (by decide +kernel) rfl⟩
theorem FL_X7_112 {M : pM} (h : (mY M).cls = RX7) : FL M 112 6 1 := ⟨by decide, by decide, by rw [h]; exact gw 124 (by decide +kernel) rfl⟩
theorem FL_X6_18 {M : pM} (h : (mY M).cls = RX6) : FL M 18 6 2 := ⟨by decide, by decide, by rw [h]; exact gw 125 (by decide +kernel) rfl⟩
theorem FL_X8_83 {M : pM} (h : (mY M).cls = RX8) : FL M 83 6 2 := ⟨by decide, by decide, by rw [h]; exact gw 126 (by decide +kernel) rfl⟩
theorem FL_X7_109 {M : pM} (h : (mY M).cls = RX7) : FL M 109 6 2 := ⟨by decide, by decide, by rw [h]; exact gw 127 (by decide +kernel) rfl⟩
theorem FL_X6_21 {M : pM} (h : (mY M).cls = RX6) : FL M 21 6 3 := ⟨by decide, by decide, by rw [h]; exact gw 128 (by decide +kernel) rfl⟩
theorem FL_X8_86 {M : pM} (h : (mY M).cls = RX8) : FL M 86 6 3 := ⟨by decide, by decide, by rw [h]; exact gw 129 (by decide +kernel) rfl⟩
theorem FL_X7_137 {M : pM} (h : (mY M).cls = RX7) : FL M 137 6 3 := ⟨by decide, by decide, by rw [h]; exact gw 130 (by decide +kernel) rfl⟩
theorem FL_X7_11 {M : pM} (h : (mY M).cls = RX7) : FL M 11 7 0 := ⟨by decide, by decide, by rw [h]; exact gw 143 (by decide +kernel) rfl⟩
theorem FL_X7_56 {M : pM} (h : (mY M).cls = RX7) : FL M 56 7 1 := ⟨by decide, by decide, by rw [h]; exact gw 144 (by decide +kernel) rfl⟩
theorem FL_X8_206 {M : pM} (h : (mY M).cls = RX8) : FL M 206 7 1 := ⟨by decide, by decide, by rw [h]; exact gw 145 (by decide +kernel) rfl⟩
theorem FL_X7_17 {M : pM} (h : (mY M).cls = RX7) : FL M 17 7 2 := ⟨by decide, by decide, by rw [h]; exact gw 146 (by decide +kernel) rfl⟩
theorem FL_X7_24 {M : pM} (h : (mY M).cls = RX7) : FL M 24 7 3 := ⟨by decide, by decide, by rw [h]; exact gw 147 (by decide +kernel) rfl⟩
theorem FL_X8_125 {M : pM} (h : (mY M).cls = RX8) : FL M 125 7 3 := ⟨by decide, by decide, by rw [h]; exact gw 148 (by decide +kernel) rfl⟩
theorem FL_X7_72 {M : pM} (h : (mY M).cls = RX7) : FL M 72 7 4 := ⟨by decide, by decide, by rw [h]; exact gw 149 (by decide +kernel) rfl⟩
theorem FL_X8_328 {M : pM} (h : (mY M).cls = RX8) : FL M 328 7 4 := ⟨by decide, by decide, by rw [h]; exact gw 150 (by decide +kernel) rfl⟩
theorem FL_X7_75 {M : pM} (h : (mY M).cls = RX7) : FL M 75 7 5 := ⟨by decide, by decide, by rw [h]; exact gw 151 (by decide +kernel) rfl⟩
theorem FL_X8_145 {M : pM} (h : (mY M).cls = RX8) : FL M 145 7 5 := ⟨by decide, by decide, by rw [h]; exact gw 152 (by decide +kernel) rfl⟩
theorem FL_X7_28 {M : pM} (h : (mY M).cls = RX7) : FL M 28 7 6 := ⟨by decide, by decide, by rw [h]; exact gw 153 (by decide +kernel) rfl⟩
theorem FL_X8_114 {M : pM} (h : (mY M).cls = RX8) : FL M 114 7 6 := ⟨by decide, by decide, by rw [h]; exact gw 154 (by decide +kernel) rfl⟩
theorem FL_X7_34 {M : pM} (h : (mY M).cls = RX7) : FL M 34 7 7 := ⟨by decide, by decide, by rw [h]; exact gw 155 (by decide +kernel) rfl⟩
theorem FL_X7_78 {M : pM} (h : (mY M).cls = RX7) : FL M 78 7 8 := ⟨by decide, by decide, by rw [h]; exact gw 156 (by decide +kernel) rfl⟩
theorem FL_X8_227 {M : pM} (h : (mY M).cls = RX8) : FL M 227 7 8 := ⟨by decide, by decide, by rw [h]; exact gw 157 (by decide +kernel) rfl⟩
theorem FL_X7_39 {M : pM} (h : (mY M).cls = RX7) : FL M 39 7 9 := ⟨by decide, by decide, by rw [h]; exact gw 158 (by decide +kernel) rfl⟩
theorem FL_X7_43 {M : pM} (h : (mY M).cls = RX7) : FL M 43 7 10 := ⟨by decide, by decide, by rw [h]; exact gw 159 (by decide +kernel) rfl⟩
theorem FL_X7_47 {M : pM} (h : (mY M).cls = RX7) : FL M 47 7 11 := ⟨by decide, by decide, by rw [h]; exact gw 160 (by decide +kernel) rfl⟩
theorem FL_X4_9 {M : pM} (h : (mY M).cls = RX4) : FL M 9 4 0 := ⟨by decide, by decide, by rw [h]; exact gw 198 (by decide +kernel) rfl⟩
theorem FL_X4_15 {M : pM} (h : (mY M).cls = RX4) : FL M 15 4 1 := ⟨by decide, by decide, by rw [h]; exact gw 199 (by decide +kernel) rfl⟩
theorem FL_X1_86 {M : pM} (h : (mY M).cls = RX1) : FL M 86 4 1 := ⟨by decide, by decide, by rw [h]; exact gw 200 (by decide +kernel) rfl⟩
theorem FL_X8_212 {M : pM} (h : (mY M).cls = RX8) : FL M 212 4 1 := ⟨by decide, by decide, by rw [h]; exact gw 201 (by decide +kernel) rfl⟩
theorem FL_X1_12 {M : pM} (h : (mY M).cls = RX1) : FL M 12 1 0 := ⟨by decide, by decide, by rw [h]; exact gw 207 (by decide +kernel) rfl⟩
theorem FL_X8_29 {M : pM} (h : (mY M).cls = RX8) : FL M 29 1 0 := ⟨by decide, by decide, by rw [h]; exact gw 208 (by decide +kernel) rfl⟩
theorem FL_X1_22 {M : pM} (h : (mY M).cls = RX1) : FL M 22 1 1 := ⟨by decide, by decide, by rw [h]; exact gw 209 (by decide +kernel) rfl⟩
theorem FL_X1_26 {M : pM} (h : (mY M).cls = RX1) : FL M 26 1 2 := ⟨by decide, by decide, by rw [h]; exact gw 210 (by decide +kernel) rfl⟩
theorem FL_X1_29 {M : pM} (h : (mY M).cls = RX1) : FL M 29 1 3 := ⟨by decide, by decide, by rw [h]; exact gw 211 (by decide +kernel) rfl⟩
theorem FL_X1_32 {M : pM} (h : (mY M).cls = RX1) : FL M 32 1 4 := ⟨by decide, by decide, by rw [h]; exact gw 212 (by decide +kernel) rfl⟩
theorem FL_X1_56 {M : pM} (h : (mY M).cls = RX1) : FL M 56 1 5 := ⟨by decide, by decide, by rw [h]; exact gw 213 (by decide +kernel) rfl⟩
theorem FL_X1_35 {M : pM} (h : (mY M).cls = RX1) : FL M 35 1 6 := ⟨by decide, by decide, by rw [h]; exact gw 214 (by decide +kernel) rfl⟩
theorem FL_X1_18 {M : pM} (h : (mY M).cls = RX1) : FL M 18 1 7 := ⟨by decide, by decide, by rw [h]; exact gw 215 (by decide +kernel) rfl⟩
theorem FL_X1_38 {M : pM} (h : (mY M).cls = RX1) : FL M 38 1 8 := ⟨by decide, by decide, by rw [h]; exact gw 216 (by decide +kernel) rfl⟩
theorem FL_X2_9 {M : pM} (h : (mY M).cls = RX2) : FL M 9 2 0 := ⟨by decide, by decide, by rw [h]; exact gw 245 (by decide +kernel) rfl⟩
theorem FL_X8_264 {M : pM} (h : (mY M).cls = RX8) : FL M 264 2 0 := ⟨by decide, by decide, by rw [h]; exact gw 246 (by decide +kernel) rfl⟩
theorem FL_X2_23 {M : pM} (h : (mY M).cls = RX2) : FL M 23 2 1 := ⟨by decide, by decide, by rw [h]; exact gw 247 (by decide +kernel) rfl⟩
theorem FL_X8_278 {M : pM} (h : (mY M).cls = RX8) : FL M 278 2 1 := ⟨by decide, by decide, by rw [h]; exact gw 248 (by decide +kernel) rfl⟩
theorem FL_X2_15 {M : pM} (h : (mY M).cls = RX2) : FL M 15 2 2 := ⟨by decide, by decide, by rw [h]; exact gw 249 (by decide +kernel) rfl⟩
theorem FL_X8_269 {M : pM} (h : (mY M).cls = RX8) : FL M 269 2 2 := ⟨by decide, by decide, by rw [h]; exact gw 250 (by decide +kernel) rfl⟩
theorem FL_X3_9 {M : pM} (h : (mY M).cls = RX3) : FL M 9 3 0 := ⟨by decide, by decide, by rw [h]; exact gw 267 (by decide +kernel) rfl⟩
theorem FL_X8_294 {M : pM} (h : (mY M).cls = RX8) : FL M 294 3 0 := ⟨by decide, by decide, by rw [h]; exact gw 268 (by decide +kernel) rfl⟩
theorem FL_X8_311 {M : pM} (h : (mY M).cls = RX8) : FL M 311 3 1 := ⟨by decide, by decide, by rw [h]; exact gw 269 (by decide +kernel) rfl⟩
theorem FL_X3_18 {M : pM} (h : (mY M).cls = RX3) : FL M 18 3 2 := ⟨by decide, by decide, by rw [h]; exact gw 270 (by decide +kernel) rfl⟩
theorem FL_X8_297 {M : pM} (h : (mY M).cls = RX8) : FL M 297 3 2 := ⟨by decide, by decide, by rw [h]; exact gw 271 (by decide +kernel) rfl⟩
theorem FL_X3_25 {M : pM} (h : (mY M).cls = RX3) : FL M 25 3 3 := ⟨by decide, by decide, by rw [h]; exact gw 272 (by decide +kernel) rfl⟩
theorem FL_X8_304 {M : pM} (h : (mY M).cls = RX8) : FL M 304 3 3 := ⟨by decide, by decide, by rw [h]; exact gw 273 (by decide +kernel) rfl⟩
theorem FL_X8_10 {M : pM} (h : (mY M).cls = RX8) : FL M 10 8 0 := ⟨by decide, by decide, by rw [h]; exact gw 283 (by decide +kernel) rfl⟩
theorem FL_X8_16 {M : pM} (h : (mY M).cls = RX8) : FL M 16 8 1 := ⟨by decide, by decide, by rw [h]; exact gw 284 (by decide +kernel) rfl⟩
theorem FL_X8_19 {M : pM} (h : (mY M).cls = RX8) : FL M 19 8 2 := ⟨by decide, by decide, by rw [h]; exact gw 285 (by decide +kernel) rfl⟩
theorem FL_X8_318 {M : pM} (h : (mY M).cls = RX8) : FL M 318 8 3 := ⟨by decide, by decide, by rw [h]; exact gw 286 (by decide +kernel) rfl⟩
theorem FL_X8_25 {M : pM} (h : (mY M).cls = RX8) : FL M 25 8 4 := ⟨by decide, by decide, by rw [h]; exact gw 287 (by decide +kernel) rfl⟩
theorem FL_X8_33 {M : pM} (h : (mY M).cls = RX8) : FL M 33 8 5 := ⟨by decide, by decide, by rw [h]; exact gw 288 (by decide +kernel) rfl⟩
theorem FL_X8_36 {M : pM} (h : (mY M).cls = RX8) : FL M 36 8 6 := ⟨by decide, by decide, by rw [h]; exact gw 289 (by decide +kernel) rfl⟩
theorem FL_X8_42 {M : pM} (h : (mY M).cls = RX8) : FL M 42 8 7 := ⟨by decide, by decide, by rw [h]; exact gw 290 (by decide +kernel) rfl⟩
theorem FL_X8_46 {M : pM} (h : (mY M).cls = RX8) : FL M 46 8 8 := ⟨by decide, by decide, by rw [h]; exact gw 291 (by decide +kernel) rfl⟩
theorem FL_X8_315 {M : pM} (h : (mY M).cls = RX8) : FL M 315 8 9 := ⟨by decide, by decide, by rw [h]; exact gw 292 (by decide +kernel) rfl⟩
theorem KC_X8_60 {M : pM} (h : (mY M).cls = RX8) : Cond.constant (mY M).cls 60 (-1000000001) ∈ GW := by rw [h]; exact gw 324 (by decide +kernel) rfl
theorem KC_X8_65 {M : pM} (h : (mY M).cls = RX8) : Cond.constant (mY M).cls 65 (-1000000003) ∈ GW := by rw [h]; exact gw 329 (by decide +kernel) rfl
theorem KC_X7_85 {M : pM} (h : (mY M).cls = RX7) : Cond.constant (mY M).cls 85 (-1000000003) ∈ GW := by rw [h]; exact gw 335 (by decide +kernel) rfl
theorem KC_X8_103 {M : pM} (h : (mY M).cls = RX8) : Cond.constant (mY M).cls 103 (-1000000012) ∈ GW := by rw [h]; exact gw 399 (by decide +kernel) rfl
theorem KC_X7_90 {M : pM} (h : (mY M).cls = RX7) : Cond.constant (mY M).cls 90 (1103515245) ∈ GW := by rw [h]; exact gw 432 (by decide +kernel) rfl
theorem KC_X8_314 {M : pM} (h : (mY M).cls = RX8) : Cond.constant (mY M).cls 314 (-1000000002) ∈ GW := by rw [h]; exact gw 459 (by decide +kernel) rfl
theorem KC_X7_168 {M : pM} (h : (mY M).cls = RX7) : Cond.constant (mY M).cls 168 (99999) ∈ GW := by rw [h]; exact gw 504 (by decide +kernel) rfl
theorem KC_X8_154 {M : pM} (h : (mY M).cls = RX8) : Cond.constant (mY M).cls 154 (-1000000005) ∈ GW := by rw [h]; exact gw 536 (by decide +kernel) rfl
theorem KC_X0_33 {M : pM} (h : (mY M).cls = RX0) : Cond.constant (mY M).cls 33 (-1000000005) ∈ GW := by rw [h]; exact gw 547 (by decide +kernel) rfl
theorem KC_J6_265 {M : pM} (h : (mY M).cls = RJ6) : Cond.constant (mY M).cls 265 (1431655765) ∈ GW := by rw [h]; exact gw 587 (by decide +kernel) rfl
theorem KC_J6_266 {M : pM} (h : (mY M).cls = RJ6) : Cond.constant (mY M).cls 266 (858993459) ∈ GW := by rw [h]; exact gw 588 (by decide +kernel) rfl
theorem KC_J6_267 {M : pM} (h : (mY M).cls = RJ6) : Cond.constant (mY M).cls 267 (252645135) ∈ GW := by rw [h]; exact gw 589 (by decide +kernel) rfl
theorem FX_J0_38 {M : pM} (h : (mY M).cls = RJ0) : Cond.fieldLink (mY M).cls 38 "java/lang/String" "COMPACT_STRINGS" "Z" ∈ GW := by rw [h]; exact gw 680 (by decide +kernel) rfl
theorem FX_J0_1053 {M : pM} (h : (mY M).cls = RJ0) : Cond.fieldLink (mY M).cls 1053 "jdk/internal/util/Preconditions" "SIOOBE_FORMATTER" "Ljava/util/function/BiFunction;" ∈ GW := by rw [h]; exact gw 696 (by decide +kernel) rfl
theorem FX_J2_44 {M : pM} (h : (mY M).cls = RJ2) : Cond.fieldLink (mY M).cls 44 "java/lang/StringUTF16" "$assertionsDisabled" "Z" ∈ GW := by rw [h]; exact gw 714 (by decide +kernel) rfl
theorem FX_J2_59 {M : pM} (h : (mY M).cls = RJ2) : Cond.fieldLink (mY M).cls 59 "java/lang/StringUTF16" "HI_BYTE_SHIFT" "I" ∈ GW := by rw [h]; exact gw 716 (by decide +kernel) rfl
theorem FX_J2_63 {M : pM} (h : (mY M).cls = RJ2) : Cond.fieldLink (mY M).cls 63 "java/lang/StringUTF16" "LO_BYTE_SHIFT" "I" ∈ GW := by rw [h]; exact gw 718 (by decide +kernel) rfl
theorem KC_J2_227 {M : pM} (h : (mY M).cls = RJ2) : Cond.constant (mY M).cls 227 (65536) ∈ GW := by rw [h]; exact gw 778 (by decide +kernel) rfl
theorem KC_J11_110 {M : pM} (h : (mY M).cls = RJ11) : Cond.constant (mY M).cls 110 (55232) ∈ GW := by rw [h]; exact gw 803 (by decide +kernel) rfl
theorem KC_J11_76 {M : pM} (h : (mY M).cls = RJ11) : Cond.constant (mY M).cls 76 (56320) ∈ GW := by rw [h]; exact gw 807 (by decide +kernel) rfl
theorem FL_X5_7 {M : pM} (h : (mY M).cls = RX5) : FL M 7 5 0 := ⟨by decide, by decide, by rw [h]; exact gw 834 (by decide +kernel) rfl⟩
theorem FL_X8_238 {M : pM} (h : (mY M).cls = RX8) : FL M 238 5 0 := ⟨by decide, by decide, by rw [h]; exact gw 835 (by decide +kernel) rfl⟩
theorem FL_X7_185 {M : pM} (h : (mY M).cls = RX7) : FL M 185 5 0 := ⟨by decide, by decide, by rw [h]; exact gw 836 (by decide +kernel) rfl⟩
theorem FL_X5_13 {M : pM} (h : (mY M).cls = RX5) : FL M 13 5 1 := ⟨by decide, by decide, by rw [h]; exact gw 837 (by decide +kernel) rfl⟩
theorem FL_X8_243 {M : pM} (h : (mY M).cls = RX8) : FL M 243 5 1 := ⟨by decide, by decide, by rw [h]; exact gw 838 (by decide +kernel) rfl⟩
theorem FL_X5_16 {M : pM} (h : (mY M).cls = RX5) : FL M 16 5 2 := ⟨by decide, by decide, by rw [h]; exact gw 839 (by decide +kernel) rfl⟩
theorem FL_X5_26 {M : pM} (h : (mY M).cls = RX5) : FL M 26 5 3 := ⟨by decide, by decide, by rw [h]; exact gw 840 (by decide +kernel) rfl⟩
theorem KC_X8_257 {M : pM} (h : (mY M).cls = RX8) : Cond.constant (mY M).cls 257 (-1000000014) ∈ GW := by rw [h]; exact gw 887 (by decide +kernel) rfl
theorem KC_X8_261 {M : pM} (h : (mY M).cls = RX8) : Cond.constant (mY M).cls 261 (-1000000011) ∈ GW := by rw [h]; exact gw 896 (by decide +kernel) rfl
theorem KC_X8_263 {M : pM} (h : (mY M).cls = RX8) : Cond.constant (mY M).cls 263 (-1000000013) ∈ GW := by rw [h]; exact gw 901 (by decide +kernel) rfl
theorem KC_X8_267 {M : pM} (h : (mY M).cls = RX8) : Cond.constant (mY M).cls 267 (-99999) ∈ GW := by rw [h]; exact gw 902 (by decide +kernel) rfl
theorem KC_X8_268 {M : pM} (h : (mY M).cls = RX8) : Cond.constant (mY M).cls 268 (99999) ∈ GW := by rw [h]; exact gw 903 (by decide +kernel) rfl
theorem KC_X2_42 {M : pM} (h : (mY M).cls = RX2) : Cond.constant (mY M).cls 42 (-1000000005) ∈ GW := by rw [h]; exact gw 913 (by decide +kernel) rfl
theorem FL_X9_7 {M : pM} (h : (mY M).cls = RX9) : FL M 7 9 0 := ⟨by decide, by decide, by rw [h]; exact gw 994 (by decide +kernel) rfl⟩
theorem FL_X9_13 {M : pM} (h : (mY M).cls = RX9) : FL M 13 9 1 := ⟨by decide, by decide, by rw [h]; exact gw 995 (by decide +kernel) rfl⟩
theorem FL_X9_16 {M : pM} (h : (mY M).cls = RX9) : FL M 16 9 2 := ⟨by decide, by decide, by rw [h]; exact gw 996 (by decide +kernel) rfl⟩
theorem FL_X9_319 {M : pM} (h : (mY M).cls = RX9) : FL M 319 9 3 := ⟨by decide, by decide, by rw [h]; exact gw 997 (by decide +kernel) rfl⟩
theorem FL_X9_19 {M : pM} (h : (mY M).cls = RX9) : FL M 19 9 4 := ⟨by decide, by decide, by rw [h]; exact gw 998 (by decide +kernel) rfl⟩
theorem FL_X9_22 {M : pM} (h : (mY M).cls = RX9) : FL M 22 9 5 := ⟨by decide, by decide, by rw [h]; exact gw 999 (by decide +kernel) rfl⟩
theorem FL_X9_25 {M : pM} (h : (mY M).cls = RX9) : FL M 25 9 6 := ⟨by decide, by decide, by rw [h]; exact gw 1000 (by decide +kernel) rfl⟩
theorem FL_X9_28 {M : pM} (h : (mY M).cls = RX9) : FL M 28 9 7 := ⟨by decide, by decide, by rw [h]; exact gw 1001 (by decide +kernel) rfl⟩
theorem FL_X9_31 {M : pM} (h : (mY M).cls = RX9) : FL M 31 9 8 := ⟨by decide, by decide, by rw [h]; exact gw 1002 (by decide +kernel) rfl⟩
theorem FL_X9_34 {M : pM} (h : (mY M).cls = RX9) : FL M 34 9 9 := ⟨by decide, by decide, by rw [h]; exact gw 1003 (by decide +kernel) rfl⟩
theorem FL_X9_37 {M : pM} (h : (mY M).cls = RX9) : FL M 37 9 10 := ⟨by decide, by decide, by rw [h]; exact gw 1004 (by decide +kernel) rfl⟩
theorem FL_X9_40 {M : pM} (h : (mY M).cls = RX9) : FL M 40 9 11 := ⟨by decide, by decide, by rw [h]; exact gw 1005 (by decide +kernel) rfl⟩
theorem FL_X9_43 {M : pM} (h : (mY M).cls = RX9) : FL M 43 9 12 := ⟨by decide, by decide, by rw [h]; exact gw 1006 (by decide +kernel) rfl⟩
theorem FL_X9_199 {M : pM} (h : (mY M).cls = RX9) : FL M 199 9 13 := ⟨by decide, by decide, by rw [h]; exact gw 1007 (by decide +kernel) rfl⟩
theorem FL_X9_217 {M : pM} (h : (mY M).cls = RX9) : FL M 217 9 14 := ⟨by decide, by decide, by rw [h]; exact gw 1008 (by decide +kernel) rfl⟩
theorem FL_X9_211 {M : pM} (h : (mY M).cls = RX9) : FL M 211 9 15 := ⟨by decide, by decide, by rw [h]; exact gw 1009 (by decide +kernel) rfl⟩
theorem FL_X9_214 {M : pM} (h : (mY M).cls = RX9) : FL M 214 9 16 := ⟨by decide, by decide, by rw [h]; exact gw 1010 (by decide +kernel) rfl⟩
theorem FL_X9_229 {M : pM} (h : (mY M).cls = RX9) : FL M 229 9 17 := ⟨by decide, by decide, by rw [h]; exact gw 1011 (by decide +kernel) rfl⟩
theorem FL_X9_223 {M : pM} (h : (mY M).cls = RX9) : FL M 223 9 18 := ⟨by decide, by decide, by rw [h]; exact gw 1012 (by decide +kernel) rfl⟩
theorem FL_X9_274 {M : pM} (h : (mY M).cls = RX9) : FL M 274 9 19 := ⟨by decide, by decide, by rw [h]; exact gw 1013 (by decide +kernel) rfl⟩
theorem FL_X9_271 {M : pM} (h : (mY M).cls = RX9) : FL M 271 9 20 := ⟨by decide, by decide, by rw [h]; exact gw 1014 (by decide +kernel) rfl⟩
theorem FL_X9_239 {M : pM} (h : (mY M).cls = RX9) : FL M 239 9 21 := ⟨by decide, by decide, by rw [h]; exact gw 1015 (by decide +kernel) rfl⟩
theorem FL_X9_236 {M : pM} (h : (mY M).cls = RX9) : FL M 236 9 22 := ⟨by decide, by decide, by rw [h]; exact gw 1016 (by decide +kernel) rfl⟩
theorem FL_X9_266 {M : pM} (h : (mY M).cls = RX9) : FL M 266 9 23 := ⟨by decide, by decide, by rw [h]; exact gw 1017 (by decide +kernel) rfl⟩
theorem FL_X9_46 {M : pM} (h : (mY M).cls = RX9) : FL M 46 9 24 := ⟨by decide, by decide, by rw [h]; exact gw 1018 (by decide +kernel) rfl⟩
theorem FL_X9_49 {M : pM} (h : (mY M).cls = RX9) : FL M 49 9 25 := ⟨by decide, by decide, by rw [h]; exact gw 1019 (by decide +kernel) rfl⟩
theorem FL_X9_52 {M : pM} (h : (mY M).cls = RX9) : FL M 52 9 26 := ⟨by decide, by decide, by rw [h]; exact gw 1020 (by decide +kernel) rfl⟩
theorem FL_X9_55 {M : pM} (h : (mY M).cls = RX9) : FL M 55 9 27 := ⟨by decide, by decide, by rw [h]; exact gw 1021 (by decide +kernel) rfl⟩
theorem FL_X9_314 {M : pM} (h : (mY M).cls = RX9) : FL M 314 9 28 := ⟨by decide, by decide, by rw [h]; exact gw 1022 (by decide +kernel) rfl⟩
theorem FL_X9_58 {M : pM} (h : (mY M).cls = RX9) : FL M 58 9 29 := ⟨by decide, by decide, by rw [h]; exact gw 1023 (by decide +kernel) rfl⟩
theorem KC_X9_78 {M : pM} (h : (mY M).cls = RX9) : Cond.constantLong (mY M).cls 78 (5) ∈ GW := by rw [h]; exact gw 1089 (by decide +kernel) rfl
theorem KC_X9_80 {M : pM} (h : (mY M).cls = RX9) : Cond.constantLong (mY M).cls 80 (999) ∈ GW := by rw [h]; exact gw 1093 (by decide +kernel) rfl
theorem KC_X9_82 {M : pM} (h : (mY M).cls = RX9) : Cond.constant (mY M).cls 82 (-1000000001) ∈ GW := by rw [h]; exact gw 1094 (by decide +kernel) rfl
theorem KC_X9_83 {M : pM} (h : (mY M).cls = RX9) : Cond.constant (mY M).cls 83 (-1000000003) ∈ GW := by rw [h]; exact gw 1095 (by decide +kernel) rfl
theorem KC_X9_119 {M : pM} (h : (mY M).cls = RX9) : Cond.constant (mY M).cls 119 (-1000000012) ∈ GW := by rw [h]; exact gw 1157 (by decide +kernel) rfl
theorem KC_X9_126 {M : pM} (h : (mY M).cls = RX9) : Cond.constantLong (mY M).cls 126 (90) ∈ GW := by rw [h]; exact gw 1177 (by decide +kernel) rfl
theorem KC_X9_128 {M : pM} (h : (mY M).cls = RX9) : Cond.constantLong (mY M).cls 128 (110) ∈ GW := by rw [h]; exact gw 1178 (by decide +kernel) rfl
theorem KC_X9_130 {M : pM} (h : (mY M).cls = RX9) : Cond.constantLong (mY M).cls 130 (10) ∈ GW := by rw [h]; exact gw 1183 (by decide +kernel) rfl
theorem KC_X9_66 {M : pM} (h : (mY M).cls = RX9) : Cond.constant (mY M).cls 66 (1103515245) ∈ GW := by rw [h]; exact gw 1188 (by decide +kernel) rfl
theorem KC_X9_139 {M : pM} (h : (mY M).cls = RX9) : Cond.constant (mY M).cls 139 (-1000000002) ∈ GW := by rw [h]; exact gw 1205 (by decide +kernel) rfl
theorem KC_X9_157 {M : pM} (h : (mY M).cls = RX9) : Cond.constant (mY M).cls 157 (99999) ∈ GW := by rw [h]; exact gw 1239 (by decide +kernel) rfl
theorem KC_X9_167 {M : pM} (h : (mY M).cls = RX9) : Cond.constantLong (mY M).cls 167 (60) ∈ GW := by rw [h]; exact gw 1252 (by decide +kernel) rfl
theorem KC_X9_172 {M : pM} (h : (mY M).cls = RX9) : Cond.constantLong (mY M).cls 172 (3) ∈ GW := by rw [h]; exact gw 1262 (by decide +kernel) rfl
theorem KC_X9_61 {M : pM} (h : (mY M).cls = RX9) : Cond.constant (mY M).cls 61 (-1000000005) ∈ GW := by rw [h]; exact gw 1263 (by decide +kernel) rfl
theorem KC_X9_177 {M : pM} (h : (mY M).cls = RX9) : Cond.constantLong (mY M).cls 177 (500) ∈ GW := by rw [h]; exact gw 1272 (by decide +kernel) rfl
theorem KC_X9_191 {M : pM} (h : (mY M).cls = RX9) : Cond.constantLong (mY M).cls 191 (9990) ∈ GW := by rw [h]; exact gw 1303 (by decide +kernel) rfl
theorem KC_X9_203 {M : pM} (h : (mY M).cls = RX9) : Cond.constantLong (mY M).cls 203 (97) ∈ GW := by rw [h]; exact gw 1348 (by decide +kernel) rfl
theorem KC_X9_205 {M : pM} (h : (mY M).cls = RX9) : Cond.constantLong (mY M).cls 205 (122) ∈ GW := by rw [h]; exact gw 1349 (by decide +kernel) rfl
theorem KC_X9_207 {M : pM} (h : (mY M).cls = RX9) : Cond.constantLong (mY M).cls 207 (48) ∈ GW := by rw [h]; exact gw 1354 (by decide +kernel) rfl
theorem KC_X9_209 {M : pM} (h : (mY M).cls = RX9) : Cond.constantLong (mY M).cls 209 (57) ∈ GW := by rw [h]; exact gw 1355 (by decide +kernel) rfl
theorem KC_X9_292 {M : pM} (h : (mY M).cls = RX9) : Cond.constantLong (mY M).cls 292 (2) ∈ GW := by rw [h]; exact gw 1411 (by decide +kernel) rfl
theorem KC_X9_300 {M : pM} (h : (mY M).cls = RX9) : Cond.constantLong (mY M).cls 300 (-1) ∈ GW := by rw [h]; exact gw 1419 (by decide +kernel) rfl
theorem KC_X9_302 {M : pM} (h : (mY M).cls = RX9) : Cond.constant (mY M).cls 302 (-1000000014) ∈ GW := by rw [h]; exact gw 1420 (by decide +kernel) rfl
theorem KC_X9_303 {M : pM} (h : (mY M).cls = RX9) : Cond.constant (mY M).cls 303 (-1000000011) ∈ GW := by rw [h]; exact gw 1425 (by decide +kernel) rfl
theorem KC_X9_304 {M : pM} (h : (mY M).cls = RX9) : Cond.constant (mY M).cls 304 (-1000000013) ∈ GW := by rw [h]; exact gw 1426 (by decide +kernel) rfl
theorem KC_X9_305 {M : pM} (h : (mY M).cls = RX9) : Cond.constantLong (mY M).cls 305 (-99999) ∈ GW := by rw [h]; exact gw 1427 (by decide +kernel) rfl
theorem KC_X9_307 {M : pM} (h : (mY M).cls = RX9) : Cond.constantLong (mY M).cls 307 (99999) ∈ GW := by rw [h]; exact gw 1428 (by decide +kernel) rfl
theorem KC_X9_309 {M : pM} (h : (mY M).cls = RX9) : Cond.constantLong (mY M).cls 309 (4) ∈ GW := by rw [h]; exact gw 1448 (by decide +kernel) rfl
theorem KC_X9_317 {M : pM} (h : (mY M).cls = RX9) : Cond.constantLong (mY M).cls 317 (30) ∈ GW := by rw [h]; exact gw 1469 (by decide +kernel) rfl
theorem FX_J0_9 {M : pM} (h : (mY M).cls = RJ0) : Cond.fieldLink (mY M).cls 9 "java/lang/String" "value" "[B" ∈ GW := by rw [h]; exact gw 1486 (by decide +kernel) rfl
theorem FX_J0_15 {M : pM} (h : (mY M).cls = RJ0) : Cond.fieldLink (mY M).cls 15 "java/lang/String" "coder" "B" ∈ GW := by rw [h]; exact gw 1487 (by decide +kernel) rfl
theorem jo_X0_3 {M : pM} {pc : Nat} (hd : decode (mB M) pc = .ok (.invokespecial 3, 3)) (h : (mY M).cls = RX0) : J M pc (pc + 3) tq_oi := J_oi hd (by rw [h]; exact gw 101 (by decide +kernel) rfl) (gw 86 (by decide +kernel) rfl) (gw 87 (by decide +kernel) rfl)
theorem ja_X0_19 {M : pM} {pc : Nat} (hd : decode (mB M) pc = .ok (.invokestatic 19, 3)) (h : (mY M).cls = RX0) : J M pc (pc + 3) tq_acp := J_acp hd (by rw [h]; exact gw 480 (by decide +kernel) rfl) (gw 482 (by decide +kernel) rfl) (gw 481 (by decide +kernel) rfl) (gw 73 (by decide +kernel) rfl)
theorem jc_X0_25 {M : pM} {pc : Nat} (hd : decode (mB M) pc = .ok (.invokevirtual 25, 3)) (h : (mY M).cls = RX0) : J M pc (pc + 3) (tq_cv M_X0_has 1 0) := J_cV hd ok_X0_has (by decide) rfl (by rw [h]; exact gw 545 (by decide +kernel) rfl) (gw 533 (by decide +kernel) rfl) (gw 534 (by decide +kernel) rfl)
theorem jc_X0_29 {M : pM} {pc : Nat} (hd : decode (mB M) pc = .ok (.invokestatic 29, 3)) (h : (mY M).cls = RX0) : J M pc (pc + 3) (tq_call M_X8_within 3) := J_cSN hd ok_X8_within (by rw [h]; decide +kernel) (gw 322 (by decide +kernel) rfl)
theorem jo_X1_3 {M : pM} {pc : Nat} (hd : decode (mB M) pc = .ok (.invokespecial 3, 3)) (h : (mY M).cls = RX1) : J M pc (pc + 3) tq_oi := J_oi hd (by rw [h]; exact gw 191 (by decide +kernel) rfl) (gw 86 (by decide +kernel) rfl) (gw 87 (by decide +kernel) rfl)
theorem jn_X1_9 {M : pM} {pc : Nat} (hd : decode (mB M) pc = .ok (.new 9, 3)) (h : (mY M).cls = RX1) : J M pc (pc + 3) (tq_new 4) := J_new hd (by decide) (by rw [h]; exact gw 192 (by decide +kernel) rfl) (gw 193 (by decide +kernel) rfl) (gw 67 (by decide +kernel) rfl) (by decide +kernel)
theorem jc_X1_11 {M : pM} {pc : Nat} (hd : decode (mB M) pc = .ok (.invokespecial 11, 3)) (h : (mY M).cls = RX1) : J M pc (pc + 3) (tq_ci2 M_X4_init 0) := J_cIN hd ok_X4_init rfl rfl (by rw [h]; decide +kernel) (gw 195 (by decide +kernel) rfl)
theorem jc_X1_41 {M : pM} {pc : Nat} (hd : decode (mB M) pc = .ok (.invokevirtual 41, 3)) (h : (mY M).cls = RX1) : J M pc (pc + 3) (tq_cv M_X1_goOn 0 1) := J_cV hd ok_X1_goOn (by decide) rfl (by rw [h]; exact gw 650 (by decide +kernel) rfl) (gw 652 (by decide +kernel) rfl) (gw 2 (by decide +kernel) rfl)
theorem jc_X1_44 {M : pM} {pc : Nat} (hd : decode (mB M) pc = .ok (.invokevirtual 44, 3)) (h : (mY M).cls = RX1) : J M pc (pc + 3) (tq_cv M_X1_readKey 0 1) := J_cV hd ok_X1_readKey (by decide) rfl (by rw [h]; exact gw 663 (by decide +kernel) rfl) (gw 665 (by decide +kernel) rfl) (gw 4 (by decide +kernel) rfl)
theorem jc_X1_47 {M : pM} {pc : Nat} (hd : decode (mB M) pc = .ok (.invokevirtual 47, 3)) (h : (mY M).cls = RX1) : J M pc (pc + 3) (tq_cv M_X1_readLevel 3 1) := J_cV hd ok_X1_readLevel (by decide) rfl (by rw [h]; exact gw 726 (by decide +kernel) rfl) (gw 728 (by decide +kernel) rfl) (gw 7 (by decide +kernel) rfl)
theorem jc_X1_51 {M : pM} {pc : Nat} (hd : decode (mB M) pc = .ok (.invokevirtual 51, 3)) (h : (mY M).cls = RX1) : J M pc (pc + 3) (tq_cv M_X1_stop 0 1) := J_cV hd ok_X1_stop (by decide) rfl (by rw [h]; exact gw 722 (by decide +kernel) rfl) (gw 724 (by decide +kernel) rfl) (gw 6 (by decide +kernel) rfl)
theorem jn_X1_54 {M : pM} {pc : Nat} (hd : decode (mB M) pc = .ok (.new 54, 3)) (h : (mY M).cls = RX1) : J M pc (pc + 3) (tq_new 5) := J_new hd (by decide) (by rw [h]; exact gw 815 (by decide +kernel) rfl) (gw 816 (by decide +kernel) rfl) (gw 71 (by decide +kernel) rfl) (by decide +kernel)
theorem jc_X1_59 {M : pM} {pc : Nat} (hd : decode (mB M) pc = .ok (.invokestatic 59, 3)) (h : (mY M).cls = RX1) : J M pc (pc + 3) (tq_call M_J7_copyOf_59c91 2) := J_cS hd ok_J7_copyOf_59c91 (by rw [h]; exact gw 817 (by decide +kernel) rfl) (gw 818 (by decide +kernel) rfl)
theorem jc_X1_65 {M : pM} {pc : Nat} (hd : decode (mB M) pc = .ok (.invokespecial 65, 3)) (h : (mY M).cls = RX1) : J M pc (pc + 3) (tq_ci2 M_X5_init 3) := J_cI hd ok_X5_init rfl rfl (by rw [h]; exact gw 829 (by decide +kernel) rfl) (gw 830 (by decide +kernel) rfl)
theorem jc_X1_68 {M : pM} {pc : Nat} (hd : decode (mB M) pc = .ok (.invokestatic 68, 3)) (h : (mY M).cls = RX1) : J M pc (pc + 3) (tq_call M_J9_max_7cf53 2) := J_cS hd ok_J9_max_7cf53 (by rw [h]; exact gw 855 (by decide +kernel) rfl) (gw 373 (by decide +kernel) rfl)
theorem jc_X1_74 {M : pM} {pc : Nat} (hd : decode (mB M) pc = .ok (.invokevirtual 74, 3)) (h : (mY M).cls = RX1) : J M pc (pc + 3) (tq_cv M_X1_endOfRow 3 1) := J_cV hd ok_X1_endOfRow (by decide) rfl (by rw [h]; exact gw 654 (by decide +kernel) rfl) (gw 656 (by decide +kernel) rfl) (gw 3 (by decide +kernel) rfl)
theorem jc_X1_78 {M : pM} {pc : Nat} (hd : decode (mB M) pc = .ok (.invokevirtual 78, 3)) (h : (mY M).cls = RX1) : J M pc (pc + 3) (tq_cv M_X4_byteAt 1 4) := J_cV hd ok_X4_byteAt (by decide) rfl (by rw [h]; exact gw 658 (by decide +kernel) rfl) (gw 659 (by decide +kernel) rfl) (gw 660 (by decide +kernel) rfl)
theorem jc_X1_82 {M : pM} {pc : Nat} (hd : decode (mB M) pc = .ok (.invokestatic 82, 3)) (h : (mY M).cls = RX1) : J M pc (pc + 3) (tq_call M_X8_within 3) := J_cSN hd ok_X8_within (by rw [h]; decide +kernel) (gw 322 (by decide +kernel) rfl)
theorem jc_X1_89 {M : pM} {pc : Nat} (hd : decode (mB M) pc = .ok (.invokevirtual 89, 3)) (h : (mY M).cls = RX1) : J M pc (pc + 3) (tq_cvx M_J0_length_8abf5 0 RJ0) := J_cVx hd ok_J0_length_8abf5 rfl (by rw [h]; exact gw 672 (by decide +kernel) rfl) (gw 673 (by decide +kernel) rfl) (gw 674 (by decide +kernel) rfl)
theorem jc_X1_94 {M : pM} {pc : Nat} (hd : decode (mB M) pc = .ok (.invokevirtual 94, 3)) (h : (mY M).cls = RX1) : J M pc (pc + 3) (tq_cvx M_J0_charAt_5068e 1 RJ0) := J_cVx hd ok_J0_charAt_5068e rfl (by rw [h]; exact gw 682 (by decide +kernel) rfl) (gw 683 (by decide +kernel) rfl) (gw 684 (by decide +kernel) rfl)
theorem jc_X1_100 {M : pM} {pc : Nat} (hd : decode (mB M) pc = .ok (.invokevirtual 100, 3)) (h : (mY M).cls = RX1) : J M pc (pc + 3) (tq_cv M_X1_isWord 1 1) := J_cV hd ok_X1_isWord (by decide) rfl (by rw [h]; exact gw 668 (by decide +kernel) rfl) (gw 670 (by decide +kernel) rfl) (gw 5 (by decide +kernel) rfl)
theorem jc_X1_108 {M : pM} {pc : Nat} (hd : decode (mB M) pc = .ok (.invokevirtual 108, 3)) (h : (mY M).cls = RX1) : J M pc (pc + 3) (tq_cv M_X1_readPiece 2 1) := J_cV hd ok_X1_readPiece (by decide) rfl (by rw [h]; exact gw 730 (by decide +kernel) rfl) (gw 732 (by decide +kernel) rfl) (gw 8 (by decide +kernel) rfl)
theorem jc_X1_112 {M : pM} {pc : Nat} (hd : decode (mB M) pc = .ok (.invokestatic 112, 3)) (h : (mY M).cls = RX1) : J M pc (pc + 3) (tq_call M_X1_levelOf 1) := J_cS hd ok_X1_levelOf (by rw [h]; exact gw 812 (by decide +kernel) rfl) (gw 813 (by decide +kernel) rfl)
theorem jc_X1_115 {M : pM} {pc : Nat} (hd : decode (mB M) pc = .ok (.invokevirtual 115, 3)) (h : (mY M).cls = RX1) : J M pc (pc + 3) (tq_cv M_X1_addStep 1 1) := J_cV hd ok_X1_addStep (by decide) rfl (by rw [h]; exact gw 742 (by decide +kernel) rfl) (gw 744 (by decide +kernel) rfl) (gw 11 (by decide +kernel) rfl)
theorem jc_X1_119 {M : pM} {pc : Nat} (hd : decode (mB M) pc = .ok (.invokevirtual 119, 3)) (h : (mY M).cls = RX1) : J M pc (pc + 3) (tq_cv M_X1_numberAhead 0 1) := J_cV hd ok_X1_numberAhead (by decide) rfl (by rw [h]; exact gw 734 (by decide +kernel) rfl) (gw 736 (by decide +kernel) rfl) (gw 9 (by decide +kernel) rfl)
theorem jc_X1_122 {M : pM} {pc : Nat} (hd : decode (mB M) pc = .ok (.invokevirtual 122, 3)) (h : (mY M).cls = RX1) : J M pc (pc + 3) (tq_cv M_X1_addPiece 1 1) := J_cV hd ok_X1_addPiece (by decide) rfl (by rw [h]; exact gw 738 (by decide +kernel) rfl) (gw 740 (by decide +kernel) rfl) (gw 10 (by decide +kernel) rfl)
theorem jc_X1_125 {M : pM} {pc : Nat} (hd : decode (mB M) pc = .ok (.invokevirtual 125, 3)) (h : (mY M).cls = RX1) : J M pc (pc + 3) (tq_cv M_X1_nameAhead 0 1) := J_cV hd ok_X1_nameAhead (by decide) rfl (by rw [h]; exact gw 746 (by decide +kernel) rfl) (gw 748 (by decide +kernel) rfl) (gw 12 (by decide +kernel) rfl)
theorem jc_X1_128 {M : pM} {pc : Nat} (hd : decode (mB M) pc = .ok (.invokevirtual 128, 3)) (h : (mY M).cls = RX1) : J M pc (pc + 3) (tq_cv M_X1_readClose 0 1) := J_cV hd ok_X1_readClose (by decide) rfl (by rw [h]; exact gw 808 (by decide +kernel) rfl) (gw 810 (by decide +kernel) rfl) (gw 13 (by decide +kernel) rfl)
theorem jc_X1_137 {M : pM} {pc : Nat} (hd : decode (mB M) pc = .ok (.invokevirtual 137, 3)) (h : (mY M).cls = RX1) : J M pc (pc + 3) (tq_cvx M_J0_indexOf_0f7a4 1 RJ0) := J_cVx hd ok_J0_indexOf_0f7a4 rfl (by rw [h]; exact gw 753 (by decide +kernel) rfl) (gw 754 (by decide +kernel) rfl) (gw 755 (by decide +kernel) rfl)
theorem jo_X2_3 {M : pM} {pc : Nat} (hd : decode (mB M) pc = .ok (.invokespecial 3, 3)) (h : (mY M).cls = RX2) : J M pc (pc + 3) tq_oi := J_oi hd (by rw [h]; exact gw 244 (by decide +kernel) rfl) (gw 86 (by decide +kernel) rfl) (gw 87 (by decide +kernel) rfl)
theorem jc_X2_19 {M : pM} {pc : Nat} (hd : decode (mB M) pc = .ok (.invokestatic 19, 3)) (h : (mY M).cls = RX2) : J M pc (pc + 3) (tq_call M_X8_held 3) := J_cSN hd ok_X8_held (by rw [h]; decide +kernel) (gw 367 (by decide +kernel) rfl)
theorem jc_X2_26 {M : pM} {pc : Nat} (hd : decode (mB M) pc = .ok (.invokestatic 26, 3)) (h : (mY M).cls = RX2) : J M pc (pc + 3) (tq_call M_J7_fill_53178 2) := J_cS hd ok_J7_fill_53178 (by rw [h]; exact gw 886 (by decide +kernel) rfl) (gw 141 (by decide +kernel) rfl)
theorem ja_X2_32 {M : pM} {pc : Nat} (hd : decode (mB M) pc = .ok (.invokestatic 32, 3)) (h : (mY M).cls = RX2) : J M pc (pc + 3) tq_acp := J_acp hd (by rw [h]; exact gw 942 (by decide +kernel) rfl) (gw 482 (by decide +kernel) rfl) (gw 481 (by decide +kernel) rfl) (gw 73 (by decide +kernel) rfl)
theorem jc_X2_38 {M : pM} {pc : Nat} (hd : decode (mB M) pc = .ok (.invokevirtual 38, 3)) (h : (mY M).cls = RX2) : J M pc (pc + 3) (tq_cv M_X2_has 1 2) := J_cV hd ok_X2_has (by decide) rfl (by rw [h]; exact gw 912 (by decide +kernel) rfl) (gw 898 (by decide +kernel) rfl) (gw 899 (by decide +kernel) rfl)
theorem jc_X2_43 {M : pM} {pc : Nat} (hd : decode (mB M) pc = .ok (.invokestatic 43, 3)) (h : (mY M).cls = RX2) : J M pc (pc + 3) (tq_call M_X8_within 3) := J_cSN hd ok_X8_within (by rw [h]; decide +kernel) (gw 322 (by decide +kernel) rfl)
theorem jo_X3_3 {M : pM} {pc : Nat} (hd : decode (mB M) pc = .ok (.invokespecial 3, 3)) (h : (mY M).cls = RX3) : J M pc (pc + 3) tq_oi := J_oi hd (by rw [h]; exact gw 262 (by decide +kernel) rfl) (gw 86 (by decide +kernel) rfl) (gw 87 (by decide +kernel) rfl)
theorem jn_X3_15 {M : pM} {pc : Nat} (hd : decode (mB M) pc = .ok (.new 15, 3)) (h : (mY M).cls = RX3) : J M pc (pc + 3) (tq_new 6) := J_new hd (by decide) (by rw [h]; exact gw 263 (by decide +kernel) rfl) (gw 115 (by decide +kernel) rfl) (gw 64 (by decide +kernel) rfl) (by decide +kernel)
theorem jc_X3_17 {M : pM} {pc : Nat} (hd : decode (mB M) pc = .ok (.invokespecial 17, 3)) (h : (mY M).cls = RX3) : J M pc (pc + 3) (tq_ci2 M_X6_init 0) := J_cIN hd ok_X6_init rfl rfl (by rw [h]; decide +kernel) (gw 117 (by decide +kernel) rfl)
theorem jn_X3_22 {M : pM} {pc : Nat} (hd : decode (mB M) pc = .ok (.new 22, 3)) (h : (mY M).cls = RX3) : J M pc (pc + 3) (tq_new 2) := J_new hd (by decide) (by rw [h]; exact gw 265 (by decide +kernel) rfl) (gw 240 (by decide +kernel) rfl) (gw 68 (by decide +kernel) rfl) (by decide +kernel)
theorem jc_X3_24 {M : pM} {pc : Nat} (hd : decode (mB M) pc = .ok (.invokespecial 24, 3)) (h : (mY M).cls = RX3) : J M pc (pc + 3) (tq_ci2 M_X2_init 0) := J_cIN hd ok_X2_init rfl rfl (by rw [h]; decide +kernel) (gw 242 (by decide +kernel) rfl)
theorem jo_X4_3 {M : pM} {pc : Nat} (hd : decode (mB M) pc = .ok (.invokespecial 3, 3)) (h : (mY M).cls = RX4) : J M pc (pc + 3) tq_oi := J_oi hd (by rw [h]; exact gw 197 (by decide +kernel) rfl) (gw 86 (by decide +kernel) rfl) (gw 87 (by decide +kernel) rfl)
theorem jo_X5_1 {M : pM} {pc : Nat} (hd : decode (mB M) pc = .ok (.invokespecial 1, 3)) (h : (mY M).cls = RX5) : J M pc (pc + 3) tq_oi := J_oi hd (by rw [h]; exact gw 832 (by decide +kernel) rfl) (gw 86 (by decide +kernel) rfl) (gw 87 (by decide +kernel) rfl)
theorem jc_X5_20 {M : pM} {pc : Nat} (hd : decode (mB M) pc = .ok (.invokestatic 20, 3)) (h : (mY M).cls = RX5) : J M pc (pc + 3) (tq_call M_J9_max_7cf53 2) := J_cS hd ok_J9_max_7cf53 (by rw [h]; exact gw 833 (by decide +kernel) rfl) (gw 373 (by decide +kernel) rfl)
theorem jc_X5_29 {M : pM} {pc : Nat} (hd : decode (mB M) pc = .ok (.invokestatic 29, 3)) (h : (mY M).cls = RX5) : J M pc (pc + 3) (tq_call M_X5_valueOf 4) := J_cS hd ok_X5_valueOf (by rw [h]; exact gw 360 (by decide +kernel) rfl) (gw 361 (by decide +kernel) rfl)
theorem jc_X5_33 {M : pM} {pc : Nat} (hd : decode (mB M) pc = .ok (.invokestatic 33, 3)) (h : (mY M).cls = RX5) : J M pc (pc + 3) (tq_call M_X5_joined 3) := J_cS hd ok_X5_joined (by rw [h]; exact gw 363 (by decide +kernel) rfl) (gw 364 (by decide +kernel) rfl)
theorem jo_X6_3 {M : pM} {pc : Nat} (hd : decode (mB M) pc = .ok (.invokespecial 3, 3)) (h : (mY M).cls = RX6) : J M pc (pc + 3) tq_oi := J_oi hd (by rw [h]; exact gw 119 (by decide +kernel) rfl) (gw 86 (by decide +kernel) rfl) (gw 87 (by decide +kernel) rfl)
theorem jo_X7_3 {M : pM} {pc : Nat} (hd : decode (mB M) pc = .ok (.invokespecial 3, 3)) (h : (mY M).cls = RX7) : J M pc (pc + 3) tq_oi := J_oi hd (by rw [h]; exact gw 93 (by decide +kernel) rfl) (gw 86 (by decide +kernel) rfl) (gw 87 (by decide +kernel) rfl)
theorem jq_X7_9 {M : pM} {pc : Nat} (hd : decode (mB M) pc = .ok (.anewarray 9, 3)) (h : (mY M).cls = RX7) : J M pc (pc + 3) (tq_nq 14) := J_nq hd (by decide) (by decide) (by rw [h]; exact gw 94 (by decide +kernel) rfl)
theorem jn_X7_21 {M : pM} {pc : Nat} (hd : decode (mB M) pc = .ok (.new 21, 3)) (h : (mY M).cls = RX7) : J M pc (pc + 3) (tq_new 0) := J_new hd (by decide) (by rw [h]; exact gw 96 (by decide +kernel) rfl) (gw 97 (by decide +kernel) rfl) (gw 63 (by decide +kernel) rfl) (by decide +kernel)
theorem jc_X7_23 {M : pM} {pc : Nat} (hd : decode (mB M) pc = .ok (.invokespecial 23, 3)) (h : (mY M).cls = RX7) : J M pc (pc + 3) (tq_ci2 M_X0_init 0) := J_cIN hd ok_X0_init rfl rfl (by rw [h]; decide +kernel) (gw 99 (by decide +kernel) rfl)
theorem jq_X7_32 {M : pM} {pc : Nat} (hd : decode (mB M) pc = .ok (.anewarray 32, 3)) (h : (mY M).cls = RX7) : J M pc (pc + 3) (tq_nq 13) := J_nq hd (by decide) (by decide) (by rw [h]; exact gw 112 (by decide +kernel) rfl)
theorem jn_X7_9 {M : pM} {pc : Nat} (hd : decode (mB M) pc = .ok (.new 9, 3)) (h : (mY M).cls = RX7) : J M pc (pc + 3) (tq_new 6) := J_new hd (by decide) (by rw [h]; exact gw 94 (by decide +kernel) rfl) (gw 115 (by decide +kernel) rfl) (gw 64 (by decide +kernel) rfl) (by decide +kernel)
theorem jc_X7_42 {M : pM} {pc : Nat} (hd : decode (mB M) pc = .ok (.invokespecial 42, 3)) (h : (mY M).cls = RX7) : J M pc (pc + 3) (tq_ci2 M_X6_init 0) := J_cIN hd ok_X6_init rfl rfl (by rw [h]; decide +kernel) (gw 117 (by decide +kernel) rfl)
theorem jc_X7_50 {M : pM} {pc : Nat} (hd : decode (mB M) pc = .ok (.invokestatic 50, 3)) (h : (mY M).cls = RX7) : J M pc (pc + 3) (tq_call M_J7_fill_53178 2) := J_cS hd ok_J7_fill_53178 (by rw [h]; exact gw 140 (by decide +kernel) rfl) (gw 141 (by decide +kernel) rfl)
theorem jc_X7_59 {M : pM} {pc : Nat} (hd : decode (mB M) pc = .ok (.invokevirtual 59, 3)) (h : (mY M).cls = RX7) : J M pc (pc + 3) (tq_cv M_X6_becomeAs 1 6) := J_cV hd ok_X6_becomeAs (by decide) rfl (by rw [h]; exact gw 558 (by decide +kernel) rfl) (gw 559 (by decide +kernel) rfl) (gw 560 (by decide +kernel) rfl)
theorem ja_X7_63 {M : pM} {pc : Nat} (hd : decode (mB M) pc = .ok (.invokestatic 63, 3)) (h : (mY M).cls = RX7) : J M pc (pc + 3) tq_acp := J_acp hd (by rw [h]; exact gw 967 (by decide +kernel) rfl) (gw 482 (by decide +kernel) rfl) (gw 481 (by decide +kernel) rfl) (gw 73 (by decide +kernel) rfl)
theorem jc_X7_69 {M : pM} {pc : Nat} (hd : decode (mB M) pc = .ok (.invokevirtual 69, 3)) (h : (mY M).cls = RX7) : J M pc (pc + 3) (tq_cv M_X0_becomeAs 1 0) := J_cV hd ok_X0_becomeAs (by decide) rfl (by rw [h]; exact gw 968 (by decide +kernel) rfl) (gw 969 (by decide +kernel) rfl) (gw 970 (by decide +kernel) rfl)
theorem jc_X7_81 {M : pM} {pc : Nat} (hd : decode (mB M) pc = .ok (.invokevirtual 81, 3)) (h : (mY M).cls = RX7) : J M pc (pc + 3) (tq_cv M_X7_hasRoom 0 7) := J_cV hd ok_X7_hasRoom (by decide) rfl (by rw [h]; exact gw 334 (by decide +kernel) rfl) (gw 326 (by decide +kernel) rfl) (gw 327 (by decide +kernel) rfl)
theorem jc_X7_86 {M : pM} {pc : Nat} (hd : decode (mB M) pc = .ok (.invokevirtual 86, 3)) (h : (mY M).cls = RX7) : J M pc (pc + 3) (tq_cv M_X6_stampAnew 2 6) := J_cV hd ok_X6_stampAnew (by decide) rfl (by rw [h]; exact gw 336 (by decide +kernel) rfl) (gw 337 (by decide +kernel) rfl) (gw 338 (by decide +kernel) rfl)
theorem jc_X7_91 {M : pM} {pc : Nat} (hd : decode (mB M) pc = .ok (.invokevirtual 91, 3)) (h : (mY M).cls = RX7) : J M pc (pc + 3) (tq_cv M_X7_draw 0 7) := J_cV hd ok_X7_draw (by decide) rfl (by rw [h]; exact gw 428 (by decide +kernel) rfl) (gw 430 (by decide +kernel) rfl) (gw 0 (by decide +kernel) rfl)
theorem jc_X7_95 {M : pM} {pc : Nat} (hd : decode (mB M) pc = .ok (.invokevirtual 95, 3)) (h : (mY M).cls = RX7) : J M pc (pc + 3) (tq_cv M_X7_addWeight 2 7) := J_cV hd ok_X7_addWeight (by decide) rfl (by rw [h]; exact gw 433 (by decide +kernel) rfl) (gw 331 (by decide +kernel) rfl) (gw 332 (by decide +kernel) rfl)
theorem jc_X7_99 {M : pM} {pc : Nat} (hd : decode (mB M) pc = .ok (.invokevirtual 99, 3)) (h : (mY M).cls = RX7) : J M pc (pc + 3) (tq_cv M_X7_setCount 0 7) := J_cV hd ok_X7_setCount (by decide) rfl (by rw [h]; exact gw 454 (by decide +kernel) rfl) (gw 455 (by decide +kernel) rfl) (gw 456 (by decide +kernel) rfl)
theorem jc_X7_102 {M : pM} {pc : Nat} (hd : decode (mB M) pc = .ok (.invokevirtual 102, 3)) (h : (mY M).cls = RX7) : J M pc (pc + 3) (tq_cv M_X7_allSet 0 7) := J_cV hd ok_X7_allSet (by decide) rfl (by rw [h]; exact gw 450 (by decide +kernel) rfl) (gw 451 (by decide +kernel) rfl) (gw 452 (by decide +kernel) rfl)
theorem jc_X7_105 {M : pM} {pc : Nat} (hd : decode (mB M) pc = .ok (.invokestatic 105, 3)) (h : (mY M).cls = RX7) : J M pc (pc + 3) (tq_call M_X8_within 3) := J_cSN hd ok_X8_within (by rw [h]; decide +kernel) (gw 322 (by decide +kernel) rfl)
theorem jc_X7_115 {M : pM} {pc : Nat} (hd : decode (mB M) pc = .ok (.invokevirtual 115, 3)) (h : (mY M).cls = RX7) : J M pc (pc + 3) (tq_cv M_X7_grainsOf 1 7) := J_cV hd ok_X7_grainsOf (by decide) rfl (by rw [h]; exact gw 464 (by decide +kernel) rfl) (gw 465 (by decide +kernel) rfl) (gw 466 (by decide +kernel) rfl)
theorem jc_X7_119 {M : pM} {pc : Nat} (hd : decode (mB M) pc = .ok (.invokevirtual 119, 3)) (h : (mY M).cls = RX7) : J M pc (pc + 3) (tq_cv M_X0_read 2 0) := J_cV hd ok_X0_read (by decide) rfl (by rw [h]; exact gw 541 (by decide +kernel) rfl) (gw 542 (by decide +kernel) rfl) (gw 543 (by decide +kernel) rfl)
theorem jc_X7_122 {M : pM} {pc : Nat} (hd : decode (mB M) pc = .ok (.invokevirtual 122, 3)) (h : (mY M).cls = RX7) : J M pc (pc + 3) (tq_cv M_X7_sayOf 4 7) := J_cV hd ok_X7_sayOf (by decide) rfl (by rw [h]; exact gw 548 (by decide +kernel) rfl) (gw 461 (by decide +kernel) rfl) (gw 462 (by decide +kernel) rfl)
theorem jc_X7_129 {M : pM} {pc : Nat} (hd : decode (mB M) pc = .ok (.invokevirtual 129, 3)) (h : (mY M).cls = RX7) : J M pc (pc + 3) (tq_cv M_X7_fits 2 7) := J_cV hd ok_X7_fits (by decide) rfl (by rw [h]; exact gw 620 (by decide +kernel) rfl) (gw 538 (by decide +kernel) rfl) (gw 539 (by decide +kernel) rfl)
theorem jc_X7_133 {M : pM} {pc : Nat} (hd : decode (mB M) pc = .ok (.invokevirtual 133, 3)) (h : (mY M).cls = RX7) : J M pc (pc + 3) (tq_cv M_X7_textAt 1 7) := J_cV hd ok_X7_textAt (by decide) rfl (by rw [h]; exact gw 352 (by decide +kernel) rfl) (gw 353 (by decide +kernel) rfl) (gw 354 (by decide +kernel) rfl)
theorem jc_X7_140 {M : pM} {pc : Nat} (hd : decode (mB M) pc = .ok (.invokevirtual 140, 3)) (h : (mY M).cls = RX7) : J M pc (pc + 3) (tq_cv M_X5_gives 3 5) := J_cV hd ok_X5_gives (by decide) rfl (by rw [h]; exact gw 356 (by decide +kernel) rfl) (gw 357 (by decide +kernel) rfl) (gw 358 (by decide +kernel) rfl)
theorem jc_X7_144 {M : pM} {pc : Nat} (hd : decode (mB M) pc = .ok (.invokestatic 144, 3)) (h : (mY M).cls = RX7) : J M pc (pc + 3) (tq_call M_X8_held 3) := J_cSN hd ok_X8_held (by rw [h]; decide +kernel) (gw 367 (by decide +kernel) rfl)
theorem jc_X7_147 {M : pM} {pc : Nat} (hd : decode (mB M) pc = .ok (.invokevirtual 147, 3)) (h : (mY M).cls = RX7) : J M pc (pc + 3) (tq_cv M_X6_lossBy 1 6) := J_cV hd ok_X6_lossBy (by decide) rfl (by rw [h]; exact gw 375 (by decide +kernel) rfl) (gw 376 (by decide +kernel) rfl) (gw 377 (by decide +kernel) rfl)
theorem jc_X7_150 {M : pM} {pc : Nat} (hd : decode (mB M) pc = .ok (.invokestatic 150, 3)) (h : (mY M).cls = RX7) : J M pc (pc + 3) (tq_call M_J9_min_7cf53 2) := J_cS hd ok_J9_min_7cf53 (by rw [h]; exact gw 379 (by decide +kernel) rfl) (gw 370 (by decide +kernel) rfl)
theorem jc_X7_155 {M : pM} {pc : Nat} (hd : decode (mB M) pc = .ok (.invokevirtual 155, 3)) (h : (mY M).cls = RX7) : J M pc (pc + 3) (tq_cv M_X7_weighingLoss 1 7) := J_cV hd ok_X7_weighingLoss (by decide) rfl (by rw [h]; exact gw 384 (by decide +kernel) rfl) (gw 349 (by decide +kernel) rfl) (gw 350 (by decide +kernel) rfl)
theorem jc_X7_159 {M : pM} {pc : Nat} (hd : decode (mB M) pc = .ok (.invokestatic 159, 3)) (h : (mY M).cls = RX7) : J M pc (pc + 3) (tq_call M_J9_max_7cf53 2) := J_cS hd ok_J9_max_7cf53 (by rw [h]; exact gw 629 (by decide +kernel) rfl) (gw 373 (by decide +kernel) rfl)
theorem jc_X7_162 {M : pM} {pc : Nat} (hd : decode (mB M) pc = .ok (.invokevirtual 162, 3)) (h : (mY M).cls = RX7) : J M pc (pc + 3) (tq_cv M_X7_wearOnce 1 7) := J_cV hd ok_X7_wearOnce (by decide) rfl (by rw [h]; exact gw 472 (by decide +kernel) rfl) (gw 473 (by decide +kernel) rfl) (gw 474 (by decide +kernel) rfl)
theorem jc_X7_165 {M : pM} {pc : Nat} (hd : decode (mB M) pc = .ok (.invokevirtual 165, 3)) (h : (mY M).cls = RX7) : J M pc (pc + 3) (tq_cv M_X7_fallLoss 1 7) := J_cV hd ok_X7_fallLoss (by decide) rfl (by rw [h]; exact gw 495 (by decide +kernel) rfl) (gw 381 (by decide +kernel) rfl) (gw 382 (by decide +kernel) rfl)
theorem jc_X7_169 {M : pM} {pc : Nat} (hd : decode (mB M) pc = .ok (.invokevirtual 169, 3)) (h : (mY M).cls = RX7) : J M pc (pc + 3) (tq_cv M_X7_lawFor 1 7) := J_cV hd ok_X7_lawFor (by decide) rfl (by rw [h]; exact gw 513 (by decide +kernel) rfl) (gw 514 (by decide +kernel) rfl) (gw 515 (by decide +kernel) rfl)
theorem jc_X7_172 {M : pM} {pc : Nat} (hd : decode (mB M) pc = .ok (.invokevirtual 172, 3)) (h : (mY M).cls = RX7) : J M pc (pc + 3) (tq_cv M_X7_giveShot 2 7) := J_cV hd ok_X7_giveShot (by decide) rfl (by rw [h]; exact gw 517 (by decide +kernel) rfl) (gw 501 (by decide +kernel) rfl) (gw 502 (by decide +kernel) rfl)
theorem jc_X7_176 {M : pM} {pc : Nat} (hd : decode (mB M) pc = .ok (.invokevirtual 176, 3)) (h : (mY M).cls = RX7) : J M pc (pc + 3) (tq_cv M_X7_letFall 1 7) := J_cV hd ok_X7_letFall (by decide) rfl (by rw [h]; exact gw 526 (by decide +kernel) rfl) (gw 492 (by decide +kernel) rfl) (gw 493 (by decide +kernel) rfl)
theorem jc_X7_179 {M : pM} {pc : Nat} (hd : decode (mB M) pc = .ok (.invokevirtual 179, 3)) (h : (mY M).cls = RX7) : J M pc (pc + 3) (tq_cv M_X7_makeRight 0 7) := J_cV hd ok_X7_makeRight (by decide) rfl (by rw [h]; exact gw 527 (by decide +kernel) rfl) (gw 510 (by decide +kernel) rfl) (gw 511 (by decide +kernel) rfl)
theorem jc_X7_182 {M : pM} {pc : Nat} (hd : decode (mB M) pc = .ok (.invokevirtual 182, 3)) (h : (mY M).cls = RX7) : J M pc (pc + 3) (tq_cv M_X7_stampsOf 1 7) := J_cV hd ok_X7_stampsOf (by decide) rfl (by rw [h]; exact gw 598 (by decide +kernel) rfl) (gw 599 (by decide +kernel) rfl) (gw 600 (by decide +kernel) rfl)
theorem jo_X8_1 {M : pM} {pc : Nat} (hd : decode (mB M) pc = .ok (.invokespecial 1, 3)) (h : (mY M).cls = RX8) : J M pc (pc + 3) tq_oi := J_oi hd (by rw [h]; exact gw 85 (by decide +kernel) rfl) (gw 86 (by decide +kernel) rfl) (gw 87 (by decide +kernel) rfl)
theorem jn_X8_7 {M : pM} {pc : Nat} (hd : decode (mB M) pc = .ok (.new 7, 3)) (h : (mY M).cls = RX8) : J M pc (pc + 3) (tq_new 7) := J_new hd (by decide) (by rw [h]; exact gw 88 (by decide +kernel) rfl) (gw 89 (by decide +kernel) rfl) (gw 62 (by decide +kernel) rfl) (by decide +kernel)
theorem jc_X8_9 {M : pM} {pc : Nat} (hd : decode (mB M) pc = .ok (.invokespecial 9, 3)) (h : (mY M).cls = RX8) : J M pc (pc + 3) (tq_ci2 M_X7_init 0) := J_cI hd ok_X7_init rfl rfl (by rw [h]; exact gw 90 (by decide +kernel) rfl) (gw 91 (by decide +kernel) rfl)
theorem jn_X8_22 {M : pM} {pc : Nat} (hd : decode (mB M) pc = .ok (.new 22, 3)) (h : (mY M).cls = RX8) : J M pc (pc + 3) (tq_new 1) := J_new hd (by decide) (by rw [h]; exact gw 186 (by decide +kernel) rfl) (gw 187 (by decide +kernel) rfl) (gw 66 (by decide +kernel) rfl) (by decide +kernel)
theorem jc_X8_24 {M : pM} {pc : Nat} (hd : decode (mB M) pc = .ok (.invokespecial 24, 3)) (h : (mY M).cls = RX8) : J M pc (pc + 3) (tq_ci2 M_X1_init 0) := J_cIN hd ok_X1_init rfl rfl (by rw [h]; decide +kernel) (gw 189 (by decide +kernel) rfl)
theorem jq_X8_34 {M : pM} {pc : Nat} (hd : decode (mB M) pc = .ok (.anewarray 34, 3)) (h : (mY M).cls = RX8) : J M pc (pc + 3) (tq_nq 11) := J_nq hd (by decide) (by decide) (by rw [h]; exact gw 236 (by decide +kernel) rfl)
theorem jq_X8_40 {M : pM} {pc : Nat} (hd : decode (mB M) pc = .ok (.anewarray 40, 3)) (h : (mY M).cls = RX8) : J M pc (pc + 3) (tq_nq 12) := J_nq hd (by decide) (by decide) (by rw [h]; exact gw 238 (by decide +kernel) rfl)
theorem jn_X8_34 {M : pM} {pc : Nat} (hd : decode (mB M) pc = .ok (.new 34, 3)) (h : (mY M).cls = RX8) : J M pc (pc + 3) (tq_new 2) := J_new hd (by decide) (by rw [h]; exact gw 236 (by decide +kernel) rfl) (gw 240 (by decide +kernel) rfl) (gw 68 (by decide +kernel) rfl) (by decide +kernel)
theorem jc_X8_50 {M : pM} {pc : Nat} (hd : decode (mB M) pc = .ok (.invokespecial 50, 3)) (h : (mY M).cls = RX8) : J M pc (pc + 3) (tq_ci2 M_X2_init 0) := J_cIN hd ok_X2_init rfl rfl (by rw [h]; decide +kernel) (gw 242 (by decide +kernel) rfl)
theorem jn_X8_40 {M : pM} {pc : Nat} (hd : decode (mB M) pc = .ok (.new 40, 3)) (h : (mY M).cls = RX8) : J M pc (pc + 3) (tq_new 3) := J_new hd (by decide) (by rw [h]; exact gw 238 (by decide +kernel) rfl) (gw 258 (by decide +kernel) rfl) (gw 69 (by decide +kernel) rfl) (by decide +kernel)
theorem jc_X8_51 {M : pM} {pc : Nat} (hd : decode (mB M) pc = .ok (.invokespecial 51, 3)) (h : (mY M).cls = RX8) : J M pc (pc + 3) (tq_ci2 M_X3_init 0) := J_cIN hd ok_X3_init rfl rfl (by rw [h]; decide +kernel) (gw 260 (by decide +kernel) rfl)
theorem jc_X8_52 {M : pM} {pc : Nat} (hd : decode (mB M) pc = .ok (.invokestatic 52, 3)) (h : (mY M).cls = RX8) : J M pc (pc + 3) (tq_call M_X8_isKind 1) := J_cS hd ok_X8_isKind (by rw [h]; exact gw 318 (by decide +kernel) rfl) (gw 319 (by decide +kernel) rfl)
theorem jc_X8_56 {M : pM} {pc : Nat} (hd : decode (mB M) pc = .ok (.invokestatic 56, 3)) (h : (mY M).cls = RX8) : J M pc (pc + 3) (tq_call M_X8_within 3) := J_cS hd ok_X8_within (by rw [h]; exact gw 321 (by decide +kernel) rfl) (gw 322 (by decide +kernel) rfl)
theorem jc_X8_61 {M : pM} {pc : Nat} (hd : decode (mB M) pc = .ok (.invokevirtual 61, 3)) (h : (mY M).cls = RX8) : J M pc (pc + 3) (tq_cv M_X7_hasRoom 0 7) := J_cV hd ok_X7_hasRoom (by decide) rfl (by rw [h]; exact gw 325 (by decide +kernel) rfl) (gw 326 (by decide +kernel) rfl) (gw 327 (by decide +kernel) rfl)
theorem jc_X8_66 {M : pM} {pc : Nat} (hd : decode (mB M) pc = .ok (.invokevirtual 66, 3)) (h : (mY M).cls = RX8) : J M pc (pc + 3) (tq_cv M_X7_addWeight 2 7) := J_cV hd ok_X7_addWeight (by decide) rfl (by rw [h]; exact gw 330 (by decide +kernel) rfl) (gw 331 (by decide +kernel) rfl) (gw 332 (by decide +kernel) rfl)
theorem jc_X8_70 {M : pM} {pc : Nat} (hd : decode (mB M) pc = .ok (.invokevirtual 70, 3)) (h : (mY M).cls = RX8) : J M pc (pc + 3) (tq_cv M_X7_weightAt 1 7) := J_cV hd ok_X7_weightAt (by decide) rfl (by rw [h]; exact gw 344 (by decide +kernel) rfl) (gw 345 (by decide +kernel) rfl) (gw 346 (by decide +kernel) rfl)
theorem jc_X8_89 {M : pM} {pc : Nat} (hd : decode (mB M) pc = .ok (.invokevirtual 89, 3)) (h : (mY M).cls = RX8) : J M pc (pc + 3) (tq_cv M_X7_weighingLoss 1 7) := J_cV hd ok_X7_weighingLoss (by decide) rfl (by rw [h]; exact gw 348 (by decide +kernel) rfl) (gw 349 (by decide +kernel) rfl) (gw 350 (by decide +kernel) rfl)
theorem jc_X8_93 {M : pM} {pc : Nat} (hd : decode (mB M) pc = .ok (.invokevirtual 93, 3)) (h : (mY M).cls = RX8) : J M pc (pc + 3) (tq_cv M_X7_fallLoss 1 7) := J_cV hd ok_X7_fallLoss (by decide) rfl (by rw [h]; exact gw 380 (by decide +kernel) rfl) (gw 381 (by decide +kernel) rfl) (gw 382 (by decide +kernel) rfl)
theorem jc_X8_96 {M : pM} {pc : Nat} (hd : decode (mB M) pc = .ok (.invokevirtual 96, 3)) (h : (mY M).cls = RX8) : J M pc (pc + 3) (tq_cv M_X6_worth 0 6) := J_cV hd ok_X6_worth (by decide) rfl (by rw [h]; exact gw 385 (by decide +kernel) rfl) (gw 386 (by decide +kernel) rfl) (gw 387 (by decide +kernel) rfl)
theorem jc_X8_100 {M : pM} {pc : Nat} (hd : decode (mB M) pc = .ok (.invokevirtual 100, 3)) (h : (mY M).cls = RX8) : J M pc (pc + 3) (tq_cv M_X6_isOf 1 6) := J_cV hd ok_X6_isOf (by decide) rfl (by rw [h]; exact gw 393 (by decide +kernel) rfl) (gw 394 (by decide +kernel) rfl) (gw 395 (by decide +kernel) rfl)
theorem jc_X8_104 {M : pM} {pc : Nat} (hd : decode (mB M) pc = .ok (.invokevirtual 104, 3)) (h : (mY M).cls = RX8) : J M pc (pc + 3) (tq_cv M_X7_armAt 2 7) := J_cV hd ok_X7_armAt (by decide) rfl (by rw [h]; exact gw 412 (by decide +kernel) rfl) (gw 413 (by decide +kernel) rfl) (gw 414 (by decide +kernel) rfl)
theorem jc_X8_107 {M : pM} {pc : Nat} (hd : decode (mB M) pc = .ok (.invokevirtual 107, 3)) (h : (mY M).cls = RX8) : J M pc (pc + 3) (tq_cv M_X7_bendArm 3 7) := J_cV hd ok_X7_bendArm (by decide) rfl (by rw [h]; exact gw 416 (by decide +kernel) rfl) (gw 417 (by decide +kernel) rfl) (gw 418 (by decide +kernel) rfl)
theorem jc_X8_111 {M : pM} {pc : Nat} (hd : decode (mB M) pc = .ok (.invokevirtual 111, 3)) (h : (mY M).cls = RX8) : J M pc (pc + 3) (tq_cv M_X7_drawWeight 0 7) := J_cV hd ok_X7_drawWeight (by decide) rfl (by rw [h]; exact gw 424 (by decide +kernel) rfl) (gw 425 (by decide +kernel) rfl) (gw 426 (by decide +kernel) rfl)
theorem jc_X8_117 {M : pM} {pc : Nat} (hd : decode (mB M) pc = .ok (.invokevirtual 117, 3)) (h : (mY M).cls = RX8) : J M pc (pc + 3) (tq_cv M_X8_sayOrRefuse 3 8) := J_cV hd ok_X8_sayOrRefuse (by decide) rfl (by rw [h]; exact gw 442 (by decide +kernel) rfl) (gw 444 (by decide +kernel) rfl) (gw 1 (by decide +kernel) rfl)
theorem jc_X8_121 {M : pM} {pc : Nat} (hd : decode (mB M) pc = .ok (.invokevirtual 121, 3)) (h : (mY M).cls = RX8) : J M pc (pc + 3) (tq_cv M_X7_wearAll 1 7) := J_cV hd ok_X7_wearAll (by decide) rfl (by rw [h]; exact gw 468 (by decide +kernel) rfl) (gw 469 (by decide +kernel) rfl) (gw 470 (by decide +kernel) rfl)
theorem jc_X8_129 {M : pM} {pc : Nat} (hd : decode (mB M) pc = .ok (.invokevirtual 129, 3)) (h : (mY M).cls = RX8) : J M pc (pc + 3) (tq_cv M_X0_write 5 0) := J_cV hd ok_X0_write (by decide) rfl (by rw [h]; exact gw 476 (by decide +kernel) rfl) (gw 477 (by decide +kernel) rfl) (gw 478 (by decide +kernel) rfl)
theorem jc_X8_135 {M : pM} {pc : Nat} (hd : decode (mB M) pc = .ok (.invokevirtual 135, 3)) (h : (mY M).cls = RX8) : J M pc (pc + 3) (tq_cv M_X7_letFall 1 7) := J_cV hd ok_X7_letFall (by decide) rfl (by rw [h]; exact gw 491 (by decide +kernel) rfl) (gw 492 (by decide +kernel) rfl) (gw 493 (by decide +kernel) rfl)
theorem jc_X8_138 {M : pM} {pc : Nat} (hd : decode (mB M) pc = .ok (.invokevirtual 138, 3)) (h : (mY M).cls = RX8) : J M pc (pc + 3) (tq_cv M_X7_giveShot 2 7) := J_cV hd ok_X7_giveShot (by decide) rfl (by rw [h]; exact gw 500 (by decide +kernel) rfl) (gw 501 (by decide +kernel) rfl) (gw 502 (by decide +kernel) rfl)
theorem jc_X8_142 {M : pM} {pc : Nat} (hd : decode (mB M) pc = .ok (.invokevirtual 142, 3)) (h : (mY M).cls = RX8) : J M pc (pc + 3) (tq_cv M_X7_makeRight 0 7) := J_cV hd ok_X7_makeRight (by decide) rfl (by rw [h]; exact gw 509 (by decide +kernel) rfl) (gw 510 (by decide +kernel) rfl) (gw 511 (by decide +kernel) rfl)
theorem jc_X8_148 {M : pM} {pc : Nat} (hd : decode (mB M) pc = .ok (.invokevirtual 148, 3)) (h : (mY M).cls = RX8) : J M pc (pc + 3) (tq_cv M_X7_passDay 0 7) := J_cV hd ok_X7_passDay (by decide) rfl (by rw [h]; exact gw 522 (by decide +kernel) rfl) (gw 523 (by decide +kernel) rfl) (gw 524 (by decide +kernel) rfl)
theorem jc_X8_151 {M : pM} {pc : Nat} (hd : decode (mB M) pc = .ok (.invokevirtual 151, 3)) (h : (mY M).cls = RX8) : J M pc (pc + 3) (tq_cv M_X0_has 1 0) := J_cV hd ok_X0_has (by decide) rfl (by rw [h]; exact gw 532 (by decide +kernel) rfl) (gw 533 (by decide +kernel) rfl) (gw 534 (by decide +kernel) rfl)
theorem jc_X8_155 {M : pM} {pc : Nat} (hd : decode (mB M) pc = .ok (.invokevirtual 155, 3)) (h : (mY M).cls = RX8) : J M pc (pc + 3) (tq_cv M_X7_fits 2 7) := J_cV hd ok_X7_fits (by decide) rfl (by rw [h]; exact gw 537 (by decide +kernel) rfl) (gw 538 (by decide +kernel) rfl) (gw 539 (by decide +kernel) rfl)
theorem jc_X8_159 {M : pM} {pc : Nat} (hd : decode (mB M) pc = .ok (.invokevirtual 159, 3)) (h : (mY M).cls = RX8) : J M pc (pc + 3) (tq_cv M_X0_read 2 0) := J_cV hd ok_X0_read (by decide) rfl (by rw [h]; exact gw 549 (by decide +kernel) rfl) (gw 542 (by decide +kernel) rfl) (gw 543 (by decide +kernel) rfl)
theorem jc_X8_162 {M : pM} {pc : Nat} (hd : decode (mB M) pc = .ok (.invokevirtual 162, 3)) (h : (mY M).cls = RX8) : J M pc (pc + 3) (tq_cv M_X7_spareOf 1 7) := J_cV hd ok_X7_spareOf (by decide) rfl (by rw [h]; exact gw 554 (by decide +kernel) rfl) (gw 555 (by decide +kernel) rfl) (gw 556 (by decide +kernel) rfl)
theorem jc_X8_166 {M : pM} {pc : Nat} (hd : decode (mB M) pc = .ok (.invokevirtual 166, 3)) (h : (mY M).cls = RX8) : J M pc (pc + 3) (tq_cv M_X7_wearOnce 1 7) := J_cV hd ok_X7_wearOnce (by decide) rfl (by rw [h]; exact gw 562 (by decide +kernel) rfl) (gw 473 (by decide +kernel) rfl) (gw 474 (by decide +kernel) rfl)
theorem jc_X8_170 {M : pM} {pc : Nat} (hd : decode (mB M) pc = .ok (.invokevirtual 170, 3)) (h : (mY M).cls = RX8) : J M pc (pc + 3) (tq_cv M_X7_isSet 1 7) := J_cV hd ok_X7_isSet (by decide) rfl (by rw [h]; exact gw 446 (by decide +kernel) rfl) (gw 447 (by decide +kernel) rfl) (gw 448 (by decide +kernel) rfl)
theorem jc_X8_173 {M : pM} {pc : Nat} (hd : decode (mB M) pc = .ok (.invokevirtual 173, 3)) (h : (mY M).cls = RX8) : J M pc (pc + 3) (tq_cv M_X7_sortByGrains 0 7) := J_cV hd ok_X7_sortByGrains (by decide) rfl (by rw [h]; exact gw 571 (by decide +kernel) rfl) (gw 572 (by decide +kernel) rfl) (gw 573 (by decide +kernel) rfl)
theorem jc_X8_176 {M : pM} {pc : Nat} (hd : decode (mB M) pc = .ok (.invokevirtual 176, 3)) (h : (mY M).cls = RX8) : J M pc (pc + 3) (tq_cv M_X7_reachOf 1 7) := J_cV hd ok_X7_reachOf (by decide) rfl (by rw [h]; exact gw 575 (by decide +kernel) rfl) (gw 576 (by decide +kernel) rfl) (gw 577 (by decide +kernel) rfl)
theorem jc_X8_180 {M : pM} {pc : Nat} (hd : decode (mB M) pc = .ok (.invokevirtual 180, 3)) (h : (mY M).cls = RX8) : J M pc (pc + 3) (tq_cv M_X7_setCount 0 7) := J_cV hd ok_X7_setCount (by decide) rfl (by rw [h]; exact gw 583 (by decide +kernel) rfl) (gw 455 (by decide +kernel) rfl) (gw 456 (by decide +kernel) rfl)
theorem jc_X8_183 {M : pM} {pc : Nat} (hd : decode (mB M) pc = .ok (.invokestatic 183, 3)) (h : (mY M).cls = RX8) : J M pc (pc + 3) (tq_call M_J6_bitCount_0f7a4 1) := J_cS hd ok_J6_bitCount_0f7a4 (by rw [h]; exact gw 584 (by decide +kernel) rfl) (gw 585 (by decide +kernel) rfl)
theorem jc_X8_188 {M : pM} {pc : Nat} (hd : decode (mB M) pc = .ok (.invokevirtual 188, 3)) (h : (mY M).cls = RX8) : J M pc (pc + 3) (tq_cv M_X7_lightestFor 1 7) := J_cV hd ok_X7_lightestFor (by decide) rfl (by rw [h]; exact gw 594 (by decide +kernel) rfl) (gw 595 (by decide +kernel) rfl) (gw 596 (by decide +kernel) rfl)
theorem jc_X8_191 {M : pM} {pc : Nat} (hd : decode (mB M) pc = .ok (.invokevirtual 191, 3)) (h : (mY M).cls = RX8) : J M pc (pc + 3) (tq_cv M_X7_grainsOf 1 7) := J_cV hd ok_X7_grainsOf (by decide) rfl (by rw [h]; exact gw 602 (by decide +kernel) rfl) (gw 465 (by decide +kernel) rfl) (gw 466 (by decide +kernel) rfl)
theorem jc_X8_194 {M : pM} {pc : Nat} (hd : decode (mB M) pc = .ok (.invokevirtual 194, 3)) (h : (mY M).cls = RX8) : J M pc (pc + 3) (tq_cv M_X7_allSet 0 7) := J_cV hd ok_X7_allSet (by decide) rfl (by rw [h]; exact gw 607 (by decide +kernel) rfl) (gw 451 (by decide +kernel) rfl) (gw 452 (by decide +kernel) rfl)
theorem jc_X8_197 {M : pM} {pc : Nat} (hd : decode (mB M) pc = .ok (.invokevirtual 197, 3)) (h : (mY M).cls = RX8) : J M pc (pc + 3) (tq_cv M_X7_stampsOf 1 7) := J_cV hd ok_X7_stampsOf (by decide) rfl (by rw [h]; exact gw 608 (by decide +kernel) rfl) (gw 599 (by decide +kernel) rfl) (gw 600 (by decide +kernel) rfl)
theorem jc_X8_200 {M : pM} {pc : Nat} (hd : decode (mB M) pc = .ok (.invokestatic 200, 3)) (h : (mY M).cls = RX8) : J M pc (pc + 3) (tq_call M_X8_commonDivisor 2) := J_cS hd ok_X8_commonDivisor (by rw [h]; exact gw 609 (by decide +kernel) rfl) (gw 610 (by decide +kernel) rfl)
theorem jc_X8_203 {M : pM} {pc : Nat} (hd : decode (mB M) pc = .ok (.invokevirtual 203, 3)) (h : (mY M).cls = RX8) : J M pc (pc + 3) (tq_cv M_X7_fitCount 1 7) := J_cV hd ok_X7_fitCount (by decide) rfl (by rw [h]; exact gw 616 (by decide +kernel) rfl) (gw 617 (by decide +kernel) rfl) (gw 618 (by decide +kernel) rfl)
theorem jc_X8_209 {M : pM} {pc : Nat} (hd : decode (mB M) pc = .ok (.invokevirtual 209, 3)) (h : (mY M).cls = RX8) : J M pc (pc + 3) (tq_cv M_X7_fineOf 1 7) := J_cV hd ok_X7_fineOf (by decide) rfl (by rw [h]; exact gw 625 (by decide +kernel) rfl) (gw 626 (by decide +kernel) rfl) (gw 627 (by decide +kernel) rfl)
theorem jc_X8_217 {M : pM} {pc : Nat} (hd : decode (mB M) pc = .ok (.invokevirtual 217, 3)) (h : (mY M).cls = RX8) : J M pc (pc + 3) (tq_cv M_X4_addNumber 1 4) := J_cV hd ok_X4_addNumber (by decide) rfl (by rw [h]; exact gw 634 (by decide +kernel) rfl) (gw 635 (by decide +kernel) rfl) (gw 636 (by decide +kernel) rfl)
theorem jc_X8_220 {M : pM} {pc : Nat} (hd : decode (mB M) pc = .ok (.invokevirtual 220, 3)) (h : (mY M).cls = RX8) : J M pc (pc + 3) (tq_cv M_X1_readTape 0 1) := J_cV hd ok_X1_readTape (by decide) rfl (by rw [h]; exact gw 646 (by decide +kernel) rfl) (gw 647 (by decide +kernel) rfl) (gw 648 (by decide +kernel) rfl)
theorem jc_X8_224 {M : pM} {pc : Nat} (hd : decode (mB M) pc = .ok (.invokevirtual 224, 3)) (h : (mY M).cls = RX8) : J M pc (pc + 3) (tq_cv M_X1_faultPlace 0 1) := J_cV hd ok_X1_faultPlace (by decide) rfl (by rw [h]; exact gw 851 (by decide +kernel) rfl) (gw 852 (by decide +kernel) rfl) (gw 853 (by decide +kernel) rfl)
theorem jc_X8_230 {M : pM} {pc : Nat} (hd : decode (mB M) pc = .ok (.invokevirtual 230, 3)) (h : (mY M).cls = RX8) : J M pc (pc + 3) (tq_cv M_X7_addText 1 7) := J_cV hd ok_X7_addText (by decide) rfl (by rw [h]; exact gw 856 (by decide +kernel) rfl) (gw 857 (by decide +kernel) rfl) (gw 858 (by decide +kernel) rfl)
theorem jc_X8_234 {M : pM} {pc : Nat} (hd : decode (mB M) pc = .ok (.invokevirtual 234, 3)) (h : (mY M).cls = RX8) : J M pc (pc + 3) (tq_cv M_X7_textAt 1 7) := J_cV hd ok_X7_textAt (by decide) rfl (by rw [h]; exact gw 864 (by decide +kernel) rfl) (gw 353 (by decide +kernel) rfl) (gw 354 (by decide +kernel) rfl)
theorem jc_X8_246 {M : pM} {pc : Nat} (hd : decode (mB M) pc = .ok (.invokevirtual 246, 3)) (h : (mY M).cls = RX8) : J M pc (pc + 3) (tq_cv M_X7_countingText 1 7) := J_cV hd ok_X7_countingText (by decide) rfl (by rw [h]; exact gw 869 (by decide +kernel) rfl) (gw 870 (by decide +kernel) rfl) (gw 871 (by decide +kernel) rfl)
theorem jc_X8_249 {M : pM} {pc : Nat} (hd : decode (mB M) pc = .ok (.invokevirtual 249, 3)) (h : (mY M).cls = RX8) : J M pc (pc + 3) (tq_cv M_X8_sheetAt 1 8) := J_cV hd ok_X8_sheetAt (by decide) rfl (by rw [h]; exact gw 877 (by decide +kernel) rfl) (gw 879 (by decide +kernel) rfl) (gw 14 (by decide +kernel) rfl)
theorem jc_X8_253 {M : pM} {pc : Nat} (hd : decode (mB M) pc = .ok (.invokevirtual 253, 3)) (h : (mY M).cls = RX8) : J M pc (pc + 3) (tq_cv M_X2_become 2 2) := J_cV hd ok_X2_become (by decide) rfl (by rw [h]; exact gw 881 (by decide +kernel) rfl) (gw 882 (by decide +kernel) rfl) (gw 883 (by decide +kernel) rfl)
theorem jc_X8_258 {M : pM} {pc : Nat} (hd : decode (mB M) pc = .ok (.invokevirtual 258, 3)) (h : (mY M).cls = RX8) : J M pc (pc + 3) (tq_cv M_X2_isMissing 0 2) := J_cV hd ok_X2_isMissing (by decide) rfl (by rw [h]; exact gw 892 (by decide +kernel) rfl) (gw 893 (by decide +kernel) rfl) (gw 894 (by decide +kernel) rfl)
theorem jc_X8_262 {M : pM} {pc : Nat} (hd : decode (mB M) pc = .ok (.invokevirtual 262, 3)) (h : (mY M).cls = RX8) : J M pc (pc + 3) (tq_cv M_X2_has 1 2) := J_cV hd ok_X2_has (by decide) rfl (by rw [h]; exact gw 897 (by decide +kernel) rfl) (gw 898 (by decide +kernel) rfl) (gw 899 (by decide +kernel) rfl)
theorem jc_X8_272 {M : pM} {pc : Nat} (hd : decode (mB M) pc = .ok (.invokevirtual 272, 3)) (h : (mY M).cls = RX8) : J M pc (pc + 3) (tq_cv M_X2_hasNumber 1 2) := J_cV hd ok_X2_hasNumber (by decide) rfl (by rw [h]; exact gw 908 (by decide +kernel) rfl) (gw 909 (by decide +kernel) rfl) (gw 910 (by decide +kernel) rfl)
theorem jc_X8_275 {M : pM} {pc : Nat} (hd : decode (mB M) pc = .ok (.invokestatic 275, 3)) (h : (mY M).cls = RX8) : J M pc (pc + 3) (tq_call M_X8_held 3) := J_cS hd ok_X8_held (by rw [h]; exact gw 914 (by decide +kernel) rfl) (gw 367 (by decide +kernel) rfl)
theorem jc_X8_281 {M : pM} {pc : Nat} (hd : decode (mB M) pc = .ok (.invokevirtual 281, 3)) (h : (mY M).cls = RX8) : J M pc (pc + 3) (tq_cv M_X2_hasRow 2 2) := J_cV hd ok_X2_hasRow (by decide) rfl (by rw [h]; exact gw 923 (by decide +kernel) rfl) (gw 924 (by decide +kernel) rfl) (gw 925 (by decide +kernel) rfl)
theorem ja_X8_284 {M : pM} {pc : Nat} (hd : decode (mB M) pc = .ok (.invokestatic 284, 3)) (h : (mY M).cls = RX8) : J M pc (pc + 3) tq_acp := J_acp hd (by rw [h]; exact gw 928 (by decide +kernel) rfl) (gw 482 (by decide +kernel) rfl) (gw 481 (by decide +kernel) rfl) (gw 73 (by decide +kernel) rfl)
theorem jc_X8_290 {M : pM} {pc : Nat} (hd : decode (mB M) pc = .ok (.invokevirtual 290, 3)) (h : (mY M).cls = RX8) : J M pc (pc + 3) (tq_cv M_X8_slotAt 1 8) := J_cV hd ok_X8_slotAt (by decide) rfl (by rw [h]; exact gw 933 (by decide +kernel) rfl) (gw 935 (by decide +kernel) rfl) (gw 15 (by decide +kernel) rfl)
theorem jc_X8_301 {M : pM} {pc : Nat} (hd : decode (mB M) pc = .ok (.invokevirtual 301, 3)) (h : (mY M).cls = RX8) : J M pc (pc + 3) (tq_cv M_X6_becomeAs 1 6) := J_cV hd ok_X6_becomeAs (by decide) rfl (by rw [h]; exact gw 937 (by decide +kernel) rfl) (gw 559 (by decide +kernel) rfl) (gw 560 (by decide +kernel) rfl)
theorem jc_X8_308 {M : pM} {pc : Nat} (hd : decode (mB M) pc = .ok (.invokevirtual 308, 3)) (h : (mY M).cls = RX8) : J M pc (pc + 3) (tq_cv M_X2_becomeAs 1 2) := J_cV hd ok_X2_becomeAs (by decide) rfl (by rw [h]; exact gw 938 (by decide +kernel) rfl) (gw 939 (by decide +kernel) rfl) (gw 940 (by decide +kernel) rfl)
theorem jc_X8_322 {M : pM} {pc : Nat} (hd : decode (mB M) pc = .ok (.invokevirtual 322, 3)) (h : (mY M).cls = RX8) : J M pc (pc + 3) (tq_cv M_X7_becomeAs 1 7) := J_cV hd ok_X7_becomeAs (by decide) rfl (by rw [h]; exact gw 963 (by decide +kernel) rfl) (gw 964 (by decide +kernel) rfl) (gw 965 (by decide +kernel) rfl)
theorem jc_X8_325 {M : pM} {pc : Nat} (hd : decode (mB M) pc = .ok (.invokevirtual 325, 3)) (h : (mY M).cls = RX8) : J M pc (pc + 3) (tq_cv M_X8_stands 3 8) := J_cV hd ok_X8_stands (by decide) rfl (by rw [h]; exact gw 972 (by decide +kernel) rfl) (gw 974 (by decide +kernel) rfl) (gw 16 (by decide +kernel) rfl)
theorem jc_X8_334 {M : pM} {pc : Nat} (hd : decode (mB M) pc = .ok (.invokevirtual 334, 3)) (h : (mY M).cls = RX8) : J M pc (pc + 3) (tq_cv M_X7_sayOf 4 7) := J_cV hd ok_X7_sayOf (by decide) rfl (by rw [h]; exact gw 460 (by decide +kernel) rfl) (gw 461 (by decide +kernel) rfl) (gw 462 (by decide +kernel) rfl)
theorem jc_X8_338 {M : pM} {pc : Nat} (hd : decode (mB M) pc = .ok (.invokestatic 338, 3)) (h : (mY M).cls = RX8) : J M pc (pc + 3) (tq_call M_J9_min_7cf53 2) := J_cS hd ok_J9_min_7cf53 (by rw [h]; exact gw 369 (by decide +kernel) rfl) (gw 370 (by decide +kernel) rfl)
theorem jc_X8_343 {M : pM} {pc : Nat} (hd : decode (mB M) pc = .ok (.invokestatic 343, 3)) (h : (mY M).cls = RX8) : J M pc (pc + 3) (tq_call M_J9_max_7cf53 2) := J_cS hd ok_J9_max_7cf53 (by rw [h]; exact gw 372 (by decide +kernel) rfl) (gw 373 (by decide +kernel) rfl)
theorem jo_X9_1 {M : pM} {pc : Nat} (hd : decode (mB M) pc = .ok (.invokespecial 1, 3)) (h : (mY M).cls = RX9) : J M pc (pc + 3) tq_oi := J_oi hd (by rw [h]; exact gw 993 (by decide +kernel) rfl) (gw 86 (by decide +kernel) rfl) (gw 87 (by decide +kernel) rfl)
theorem jc_X9_62 {M : pM} {pc : Nat} (hd : decode (mB M) pc = .ok (.invokestatic 62, 3)) (h : (mY M).cls = RX9) : J M pc (pc + 3) (tq_call M_X9_isIn 3) := J_cS hd ok_X9_isIn (by rw [h]; exact gw 1090 (by decide +kernel) rfl) (gw 1091 (by decide +kernel) rfl)
theorem jc_X9_67 {M : pM} {pc : Nat} (hd : decode (mB M) pc = .ok (.invokevirtual 67, 3)) (h : (mY M).cls = RX9) : J M pc (pc + 3) (tq_cv M_X9_of 2 9) := J_cV hd ok_X9_of (by decide) rfl (by rw [h]; exact gw 1112 (by decide +kernel) rfl) (gw 1114 (by decide +kernel) rfl) (gw 20 (by decide +kernel) rfl)
theorem jc_X9_71 {M : pM} {pc : Nat} (hd : decode (mB M) pc = .ok (.invokevirtual 71, 3)) (h : (mY M).cls = RX9) : J M pc (pc + 3) (tq_cv M_X9_sumOf 2 9) := J_cV hd ok_X9_sumOf (by decide) rfl (by rw [h]; exact gw 1210 (by decide +kernel) rfl) (gw 1212 (by decide +kernel) rfl) (gw 33 (by decide +kernel) rfl)
theorem jc_X9_74 {M : pM} {pc : Nat} (hd : decode (mB M) pc = .ok (.invokevirtual 74, 3)) (h : (mY M).cls = RX9) : J M pc (pc + 3) (tq_cv M_X9_sets 3 9) := J_cV hd ok_X9_sets (by decide) rfl (by rw [h]; exact gw 1100 (by decide +kernel) rfl) (gw 1102 (by decide +kernel) rfl) (gw 18 (by decide +kernel) rfl)
theorem jc_X9_84 {M : pM} {pc : Nat} (hd : decode (mB M) pc = .ok (.invokevirtual 84, 3)) (h : (mY M).cls = RX9) : J M pc (pc + 3) (tq_cv M_X9_comes 2 9) := J_cV hd ok_X9_comes (by decide) rfl (by rw [h]; exact gw 1096 (by decide +kernel) rfl) (gw 1098 (by decide +kernel) rfl) (gw 17 (by decide +kernel) rfl)
theorem jc_X9_88 {M : pM} {pc : Nat} (hd : decode (mB M) pc = .ok (.invokevirtual 88, 3)) (h : (mY M).cls = RX9) : J M pc (pc + 3) (tq_cv M_X9_counts 1 9) := J_cV hd ok_X9_counts (by decide) rfl (by rw [h]; exact gw 1124 (by decide +kernel) rfl) (gw 1126 (by decide +kernel) rfl) (gw 23 (by decide +kernel) rfl)
theorem jc_X9_92 {M : pM} {pc : Nat} (hd : decode (mB M) pc = .ok (.invokevirtual 92, 3)) (h : (mY M).cls = RX9) : J M pc (pc + 3) (tq_cv M_X9_worked 1 9) := J_cV hd ok_X9_worked (by decide) rfl (by rw [h]; exact gw 1132 (by decide +kernel) rfl) (gw 1134 (by decide +kernel) rfl) (gw 25 (by decide +kernel) rfl)
theorem jc_X9_95 {M : pM} {pc : Nat} (hd : decode (mB M) pc = .ok (.invokestatic 95, 3)) (h : (mY M).cls = RX9) : J M pc (pc + 3) (tq_call M_X9_within 2) := J_cS hd ok_X9_within (by rw [h]; exact gw 1139 (by decide +kernel) rfl) (gw 1140 (by decide +kernel) rfl)
theorem jc_X9_98 {M : pM} {pc : Nat} (hd : decode (mB M) pc = .ok (.invokevirtual 98, 3)) (h : (mY M).cls = RX9) : J M pc (pc + 3) (tq_cv M_X9_losesIf 3 9) := J_cV hd ok_X9_losesIf (by decide) rfl (by rw [h]; exact gw 1120 (by decide +kernel) rfl) (gw 1122 (by decide +kernel) rfl) (gw 22 (by decide +kernel) rfl)
theorem jc_X9_102 {M : pM} {pc : Nat} (hd : decode (mB M) pc = .ok (.invokevirtual 102, 3)) (h : (mY M).cls = RX9) : J M pc (pc + 3) (tq_cv M_X9_loses 1 9) := J_cV hd ok_X9_loses (by decide) rfl (by rw [h]; exact gw 1116 (by decide +kernel) rfl) (gw 1118 (by decide +kernel) rfl) (gw 21 (by decide +kernel) rfl)
theorem jc_X9_105 {M : pM} {pc : Nat} (hd : decode (mB M) pc = .ok (.invokevirtual 105, 3)) (h : (mY M).cls = RX9) : J M pc (pc + 3) (tq_cv M_X9_isWeight 1 9) := J_cV hd ok_X9_isWeight (by decide) rfl (by rw [h]; exact gw 1108 (by decide +kernel) rfl) (gw 1110 (by decide +kernel) rfl) (gw 19 (by decide +kernel) rfl)
theorem jc_X9_109 {M : pM} {pc : Nat} (hd : decode (mB M) pc = .ok (.invokevirtual 109, 3)) (h : (mY M).cls = RX9) : J M pc (pc + 3) (tq_cv M_X9_losesAtFall 1 9) := J_cV hd ok_X9_losesAtFall (by decide) rfl (by rw [h]; exact gw 1142 (by decide +kernel) rfl) (gw 1144 (by decide +kernel) rfl) (gw 26 (by decide +kernel) rfl)
theorem jc_X9_112 {M : pM} {pc : Nat} (hd : decode (mB M) pc = .ok (.invokevirtual 112, 3)) (h : (mY M).cls = RX9) : J M pc (pc + 3) (tq_cv M_X9_worth 1 9) := J_cV hd ok_X9_worth (by decide) rfl (by rw [h]; exact gw 1146 (by decide +kernel) rfl) (gw 1148 (by decide +kernel) rfl) (gw 27 (by decide +kernel) rfl)
theorem jc_X9_115 {M : pM} {pc : Nat} (hd : decode (mB M) pc = .ok (.invokestatic 115, 3)) (h : (mY M).cls = RX9) : J M pc (pc + 3) (tq_call M_X9_isOf 2) := J_cS hd ok_X9_isOf (by rw [h]; exact gw 1154 (by decide +kernel) rfl) (gw 1155 (by decide +kernel) rfl)
theorem jc_X9_120 {M : pM} {pc : Nat} (hd : decode (mB M) pc = .ok (.invokevirtual 120, 3)) (h : (mY M).cls = RX9) : J M pc (pc + 3) (tq_cv M_X9_becomes 2 9) := J_cV hd ok_X9_becomes (by decide) rfl (by rw [h]; exact gw 1162 (by decide +kernel) rfl) (gw 1164 (by decide +kernel) rfl) (gw 28 (by decide +kernel) rfl)
theorem jc_X9_123 {M : pM} {pc : Nat} (hd : decode (mB M) pc = .ok (.invokestatic 123, 3)) (h : (mY M).cls = RX9) : J M pc (pc + 3) (tq_call M_X9_isBalance 1) := J_cS hd ok_X9_isBalance (by rw [h]; exact gw 1174 (by decide +kernel) rfl) (gw 1175 (by decide +kernel) rfl)
theorem jc_X9_132 {M : pM} {pc : Nat} (hd : decode (mB M) pc = .ok (.invokevirtual 132, 3)) (h : (mY M).cls = RX9) : J M pc (pc + 3) (tq_cv M_X9_drawn 0 9) := J_cV hd ok_X9_drawn (by decide) rfl (by rw [h]; exact gw 1184 (by decide +kernel) rfl) (gw 1186 (by decide +kernel) rfl) (gw 29 (by decide +kernel) rfl)
theorem jc_X9_136 {M : pM} {pc : Nat} (hd : decode (mB M) pc = .ok (.invokevirtual 136, 3)) (h : (mY M).cls = RX9) : J M pc (pc + 3) (tq_cv M_X9_isSet 1 9) := J_cV hd ok_X9_isSet (by decide) rfl (by rw [h]; exact gw 1201 (by decide +kernel) rfl) (gw 1203 (by decide +kernel) rfl) (gw 31 (by decide +kernel) rfl)
theorem jc_X9_140 {M : pM} {pc : Nat} (hd : decode (mB M) pc = .ok (.invokevirtual 140, 3)) (h : (mY M).cls = RX9) : J M pc (pc + 3) (tq_cv M_X9_mayWeigh 3 9) := J_cV hd ok_X9_mayWeigh (by decide) rfl (by rw [h]; exact gw 1197 (by decide +kernel) rfl) (gw 1199 (by decide +kernel) rfl) (gw 30 (by decide +kernel) rfl)
theorem jc_X9_143 {M : pM} {pc : Nat} (hd : decode (mB M) pc = .ok (.invokevirtual 143, 3)) (h : (mY M).cls = RX9) : J M pc (pc + 3) (tq_cv M_X9_saysBy 4 9) := J_cV hd ok_X9_saysBy (by decide) rfl (by rw [h]; exact gw 1206 (by decide +kernel) rfl) (gw 1208 (by decide +kernel) rfl) (gw 32 (by decide +kernel) rfl)
theorem jc_X9_147 {M : pM} {pc : Nat} (hd : decode (mB M) pc = .ok (.invokevirtual 147, 3)) (h : (mY M).cls = RX9) : J M pc (pc + 3) (tq_cv M_X9_said 3 9) := J_cV hd ok_X9_said (by decide) rfl (by rw [h]; exact gw 1218 (by decide +kernel) rfl) (gw 1194 (by decide +kernel) rfl) (gw 1195 (by decide +kernel) rfl)
theorem jc_X9_150 {M : pM} {pc : Nat} (hd : decode (mB M) pc = .ok (.invokevirtual 150, 3)) (h : (mY M).cls = RX9) : J M pc (pc + 3) (tq_cv M_X9_writes 5 9) := J_cV hd ok_X9_writes (by decide) rfl (by rw [h]; exact gw 1219 (by decide +kernel) rfl) (gw 1221 (by decide +kernel) rfl) (gw 34 (by decide +kernel) rfl)
theorem jc_X9_154 {M : pM} {pc : Nat} (hd : decode (mB M) pc = .ok (.invokevirtual 154, 3)) (h : (mY M).cls = RX9) : J M pc (pc + 3) (tq_cv M_X9_falls 1 9) := J_cV hd ok_X9_falls (by decide) rfl (by rw [h]; exact gw 1227 (by decide +kernel) rfl) (gw 1229 (by decide +kernel) rfl) (gw 35 (by decide +kernel) rfl)
theorem jc_X9_158 {M : pM} {pc : Nat} (hd : decode (mB M) pc = .ok (.invokevirtual 158, 3)) (h : (mY M).cls = RX9) : J M pc (pc + 3) (tq_cv M_X9_takes 2 9) := J_cV hd ok_X9_takes (by decide) rfl (by rw [h]; exact gw 1235 (by decide +kernel) rfl) (gw 1237 (by decide +kernel) rfl) (gw 36 (by decide +kernel) rfl)
theorem jc_X9_161 {M : pM} {pc : Nat} (hd : decode (mB M) pc = .ok (.invokevirtual 161, 3)) (h : (mY M).cls = RX9) : J M pc (pc + 3) (tq_cv M_X9_lawful 1 9) := J_cV hd ok_X9_lawful (by decide) rfl (by rw [h]; exact gw 1244 (by decide +kernel) rfl) (gw 1246 (by decide +kernel) rfl) (gw 37 (by decide +kernel) rfl)
theorem jc_X9_164 {M : pM} {pc : Nat} (hd : decode (mB M) pc = .ok (.invokevirtual 164, 3)) (h : (mY M).cls = RX9) : J M pc (pc + 3) (tq_cv M_X9_monday 0 9) := J_cV hd ok_X9_monday (by decide) rfl (by rw [h]; exact gw 1257 (by decide +kernel) rfl) (gw 1241 (by decide +kernel) rfl) (gw 1242 (by decide +kernel) rfl)
theorem jc_X9_169 {M : pM} {pc : Nat} (hd : decode (mB M) pc = .ok (.invokevirtual 169, 3)) (h : (mY M).cls = RX9) : J M pc (pc + 3) (tq_cv M_X9_day 0 9) := J_cV hd ok_X9_day (by decide) rfl (by rw [h]; exact gw 1253 (by decide +kernel) rfl) (gw 1255 (by decide +kernel) rfl) (gw 38 (by decide +kernel) rfl)
theorem jc_X9_174 {M : pM} {pc : Nat} (hd : decode (mB M) pc = .ok (.invokevirtual 174, 3)) (h : (mY M).cls = RX9) : J M pc (pc + 3) (tq_cv M_X9_fits 2 9) := J_cV hd ok_X9_fits (by decide) rfl (by rw [h]; exact gw 1264 (by decide +kernel) rfl) (gw 1266 (by decide +kernel) rfl) (gw 39 (by decide +kernel) rfl)
theorem jc_X9_179 {M : pM} {pc : Nat} (hd : decode (mB M) pc = .ok (.invokevirtual 179, 3)) (h : (mY M).cls = RX9) : J M pc (pc + 3) (tq_cv M_X9_behindOf 2 9) := J_cV hd ok_X9_behindOf (by decide) rfl (by rw [h]; exact gw 1273 (by decide +kernel) rfl) (gw 1275 (by decide +kernel) rfl) (gw 40 (by decide +kernel) rfl)
theorem jc_X9_182 {M : pM} {pc : Nat} (hd : decode (mB M) pc = .ok (.invokevirtual 182, 3)) (h : (mY M).cls = RX9) : J M pc (pc + 3) (tq_cv M_X9_canBy 1 9) := J_cV hd ok_X9_canBy (by decide) rfl (by rw [h]; exact gw 1285 (by decide +kernel) rfl) (gw 1287 (by decide +kernel) rfl) (gw 41 (by decide +kernel) rfl)
theorem jc_X9_185 {M : pM} {pc : Nat} (hd : decode (mB M) pc = .ok (.invokestatic 185, 3)) (h : (mY M).cls = RX9) : J M pc (pc + 3) (tq_call M_X9_ones 1) := J_cS hd ok_X9_ones (by rw [h]; exact gw 1293 (by decide +kernel) rfl) (gw 1294 (by decide +kernel) rfl)
theorem jc_X9_188 {M : pM} {pc : Nat} (hd : decode (mB M) pc = .ok (.invokestatic 188, 3)) (h : (mY M).cls = RX9) : J M pc (pc + 3) (tq_call M_X9_orNone 1) := J_cS hd ok_X9_orNone (by rw [h]; exact gw 1296 (by decide +kernel) rfl) (gw 1297 (by decide +kernel) rfl)
theorem jc_X9_193 {M : pM} {pc : Nat} (hd : decode (mB M) pc = .ok (.invokevirtual 193, 3)) (h : (mY M).cls = RX9) : J M pc (pc + 3) (tq_cv M_X9_allOf 1 9) := J_cV hd ok_X9_allOf (by decide) rfl (by rw [h]; exact gw 1308 (by decide +kernel) rfl) (gw 1310 (by decide +kernel) rfl) (gw 42 (by decide +kernel) rfl)
theorem jc_X9_196 {M : pM} {pc : Nat} (hd : decode (mB M) pc = .ok (.invokevirtual 196, 3)) (h : (mY M).cls = RX9) : J M pc (pc + 3) (tq_cv M_X9_fitting 1 9) := J_cV hd ok_X9_fitting (by decide) rfl (by rw [h]; exact gw 1316 (by decide +kernel) rfl) (gw 1318 (by decide +kernel) rfl) (gw 43 (by decide +kernel) rfl)
theorem jc_X9_220 {M : pM} {pc : Nat} (hd : decode (mB M) pc = .ok (.invokevirtual 220, 3)) (h : (mY M).cls = RX9) : J M pc (pc + 3) (tq_cv M_X9_isLetter 1 9) := J_cV hd ok_X9_isLetter (by decide) rfl (by rw [h]; exact gw 1344 (by decide +kernel) rfl) (gw 1346 (by decide +kernel) rfl) (gw 46 (by decide +kernel) rfl)
theorem jc_X9_226 {M : pM} {pc : Nat} (hd : decode (mB M) pc = .ok (.invokevirtual 226, 3)) (h : (mY M).cls = RX9) : J M pc (pc + 3) (tq_cv M_X9_isDigit 1 9) := J_cV hd ok_X9_isDigit (by decide) rfl (by rw [h]; exact gw 1350 (by decide +kernel) rfl) (gw 1352 (by decide +kernel) rfl) (gw 47 (by decide +kernel) rfl)
theorem jc_X9_232 {M : pM} {pc : Nat} (hd : decode (mB M) pc = .ok (.invokevirtual 232, 3)) (h : (mY M).cls = RX9) : J M pc (pc + 3) (tq_cv M_X9_isWordAt 4 9) := J_cV hd ok_X9_isWordAt (by decide) rfl (by rw [h]; exact gw 1360 (by decide +kernel) rfl) (gw 1362 (by decide +kernel) rfl) (gw 49 (by decide +kernel) rfl)
theorem jc_X9_242 {M : pM} {pc : Nat} (hd : decode (mB M) pc = .ok (.invokevirtual 242, 3)) (h : (mY M).cls = RX9) : J M pc (pc + 3) (tq_cv M_X9_both 1 9) := J_cV hd ok_X9_both (by decide) rfl (by rw [h]; exact gw 1368 (by decide +kernel) rfl) (gw 1370 (by decide +kernel) rfl) (gw 51 (by decide +kernel) rfl)
theorem jc_X9_245 {M : pM} {pc : Nat} (hd : decode (mB M) pc = .ok (.invokevirtual 245, 3)) (h : (mY M).cls = RX9) : J M pc (pc + 3) (tq_cv M_X9_isSign 1 9) := J_cV hd ok_X9_isSign (by decide) rfl (by rw [h]; exact gw 1395 (by decide +kernel) rfl) (gw 1397 (by decide +kernel) rfl) (gw 57 (by decide +kernel) rfl)
theorem jc_X9_248 {M : pM} {pc : Nat} (hd : decode (mB M) pc = .ok (.invokevirtual 248, 3)) (h : (mY M).cls = RX9) : J M pc (pc + 3) (tq_cv M_X9_nextToken 0 9) := J_cV hd ok_X9_nextToken (by decide) rfl (by rw [h]; exact gw 1340 (by decide +kernel) rfl) (gw 1342 (by decide +kernel) rfl) (gw 45 (by decide +kernel) rfl)
theorem jc_X9_251 {M : pM} {pc : Nat} (hd : decode (mB M) pc = .ok (.invokevirtual 251, 3)) (h : (mY M).cls = RX9) : J M pc (pc + 3) (tq_cv M_X9_step 2 9) := J_cV hd ok_X9_step (by decide) rfl (by rw [h]; exact gw 1388 (by decide +kernel) rfl) (gw 1390 (by decide +kernel) rfl) (gw 56 (by decide +kernel) rfl)
theorem jc_X9_254 {M : pM} {pc : Nat} (hd : decode (mB M) pc = .ok (.invokevirtual 254, 3)) (h : (mY M).cls = RX9) : J M pc (pc + 3) (tq_cv M_X9_test 1 9) := J_cV hd ok_X9_test (by decide) rfl (by rw [h]; exact gw 1372 (by decide +kernel) rfl) (gw 1374 (by decide +kernel) rfl) (gw 52 (by decide +kernel) rfl)
theorem jc_X9_257 {M : pM} {pc : Nat} (hd : decode (mB M) pc = .ok (.invokevirtual 257, 3)) (h : (mY M).cls = RX9) : J M pc (pc + 3) (tq_cv M_X9_sum 1 9) := J_cV hd ok_X9_sum (by decide) rfl (by rw [h]; exact gw 1376 (by decide +kernel) rfl) (gw 1378 (by decide +kernel) rfl) (gw 53 (by decide +kernel) rfl)
theorem jc_X9_260 {M : pM} {pc : Nat} (hd : decode (mB M) pc = .ok (.invokevirtual 260, 3)) (h : (mY M).cls = RX9) : J M pc (pc + 3) (tq_cv M_X9_term 1 9) := J_cV hd ok_X9_term (by decide) rfl (by rw [h]; exact gw 1380 (by decide +kernel) rfl) (gw 1382 (by decide +kernel) rfl) (gw 54 (by decide +kernel) rfl)
theorem jc_X9_263 {M : pM} {pc : Nat} (hd : decode (mB M) pc = .ok (.invokevirtual 263, 3)) (h : (mY M).cls = RX9) : J M pc (pc + 3) (tq_cv M_X9_part0 1 9) := J_cV hd ok_X9_part0 (by decide) rfl (by rw [h]; exact gw 1384 (by decide +kernel) rfl) (gw 1386 (by decide +kernel) rfl) (gw 55 (by decide +kernel) rfl)
theorem jc_X9_268 {M : pM} {pc : Nat} (hd : decode (mB M) pc = .ok (.invokestatic 268, 3)) (h : (mY M).cls = RX9) : J M pc (pc + 3) (tq_call M_X9_isName 2) := J_cS hd ok_X9_isName (by rw [h]; exact gw 1392 (by decide +kernel) rfl) (gw 1393 (by decide +kernel) rfl)
theorem jc_X9_277 {M : pM} {pc : Nat} (hd : decode (mB M) pc = .ok (.invokevirtual 277, 3)) (h : (mY M).cls = RX9) : J M pc (pc + 3) (tq_cv M_X9_either 1 9) := J_cV hd ok_X9_either (by decide) rfl (by rw [h]; exact gw 1364 (by decide +kernel) rfl) (gw 1366 (by decide +kernel) rfl) (gw 50 (by decide +kernel) rfl)
theorem jc_X9_280 {M : pM} {pc : Nat} (hd : decode (mB M) pc = .ok (.invokevirtual 280, 3)) (h : (mY M).cls = RX9) : J M pc (pc + 3) (tq_cv M_X9_textAt 1 9) := J_cV hd ok_X9_textAt (by decide) rfl (by rw [h]; exact gw 1128 (by decide +kernel) rfl) (gw 1130 (by decide +kernel) rfl) (gw 24 (by decide +kernel) rfl)
theorem jc_X9_283 {M : pM} {pc : Nat} (hd : decode (mB M) pc = .ok (.invokevirtual 283, 3)) (h : (mY M).cls = RX9) : J M pc (pc + 3) (tq_cv M_X9_key 0 9) := J_cV hd ok_X9_key (by decide) rfl (by rw [h]; exact gw 1356 (by decide +kernel) rfl) (gw 1358 (by decide +kernel) rfl) (gw 48 (by decide +kernel) rfl)
theorem jc_X9_286 {M : pM} {pc : Nat} (hd : decode (mB M) pc = .ok (.invokevirtual 286, 3)) (h : (mY M).cls = RX9) : J M pc (pc + 3) (tq_cv M_X9_parse 0 9) := J_cV hd ok_X9_parse (by decide) rfl (by rw [h]; exact gw 1336 (by decide +kernel) rfl) (gw 1338 (by decide +kernel) rfl) (gw 44 (by decide +kernel) rfl)
theorem jc_X9_289 {M : pM} {pc : Nat} (hd : decode (mB M) pc = .ok (.invokevirtual 289, 3)) (h : (mY M).cls = RX9) : J M pc (pc + 3) (tq_cv M_X9_isText 1 9) := J_cV hd ok_X9_isText (by decide) rfl (by rw [h]; exact gw 1403 (by decide +kernel) rfl) (gw 1405 (by decide +kernel) rfl) (gw 58 (by decide +kernel) rfl)
theorem jc_X9_294 {M : pM} {pc : Nat} (hd : decode (mB M) pc = .ok (.invokestatic 294, 3)) (h : (mY M).cls = RX9) : J M pc (pc + 3) (tq_call M_X9_joined 3) := J_cS hd ok_X9_joined (by rw [h]; exact gw 1136 (by decide +kernel) rfl) (gw 1137 (by decide +kernel) rfl)
theorem jc_X9_297 {M : pM} {pc : Nat} (hd : decode (mB M) pc = .ok (.invokestatic 297, 3)) (h : (mY M).cls = RX9) : J M pc (pc + 3) (tq_call M_X9_isSheet 1) := J_cS hd ok_X9_isSheet (by rw [h]; exact gw 1416 (by decide +kernel) rfl) (gw 1417 (by decide +kernel) rfl)
theorem jc_X9_311 {M : pM} {pc : Nat} (hd : decode (mB M) pc = .ok (.invokestatic 311, 3)) (h : (mY M).cls = RX9) : J M pc (pc + 3) (tq_call M_X9_isSlot 1) := J_cS hd ok_X9_isSlot (by rw [h]; exact gw 1445 (by decide +kernel) rfl) (gw 1446 (by decide +kernel) rfl)
theorem jc_X9_323 {M : pM} {pc : Nat} (hd : decode (mB M) pc = .ok (.invokevirtual 323, 3)) (h : (mY M).cls = RX9) : J M pc (pc + 3) (tq_cv M_X9_setAside 2 9) := J_cV hd ok_X9_setAside (by decide) rfl (by rw [h]; exact gw 1470 (by decide +kernel) rfl) (gw 1472 (by decide +kernel) rfl) (gw 59 (by decide +kernel) rfl)
theorem jc_J0_335 {M : pM} {pc : Nat} (hd : decode (mB M) pc = .ok (.invokevirtual 335, 3)) (h : (mY M).cls = RJ0) : J M pc (pc + 3) (tq_cvx M_J0_coder_7d493 0 RJ0) := J_cVx hd ok_J0_coder_7d493 rfl (by rw [h]; exact gw 676 (by decide +kernel) rfl) (gw 677 (by decide +kernel) rfl) (gw 678 (by decide +kernel) rfl)
theorem jc_J0_492 {M : pM} {pc : Nat} (hd : decode (mB M) pc = .ok (.invokevirtual 492, 3)) (h : (mY M).cls = RJ0) : J M pc (pc + 3) (tq_cvx M_J0_isLatin1_aae02 0 RJ0) := J_cVx hd ok_J0_isLatin1_aae02 rfl (by rw [h]; exact gw 686 (by decide +kernel) rfl) (gw 687 (by decide +kernel) rfl) (gw 688 (by decide +kernel) rfl)
theorem jc_J0_495 {M : pM} {pc : Nat} (hd : decode (mB M) pc = .ok (.invokestatic 495, 3)) (h : (mY M).cls = RJ0) : J M pc (pc + 3) (tq_call M_J1_charAt_3b067 2) := J_cS hd ok_J1_charAt_3b067 (by rw [h]; exact gw 690 (by decide +kernel) rfl) (gw 691 (by decide +kernel) rfl)
theorem jc_J0_498 {M : pM} {pc : Nat} (hd : decode (mB M) pc = .ok (.invokestatic 498, 3)) (h : (mY M).cls = RJ0) : J M pc (pc + 3) (tq_call M_J2_charAt_3b067 2) := J_cS hd ok_J2_charAt_3b067 (by rw [h]; exact gw 701 (by decide +kernel) rfl) (gw 702 (by decide +kernel) rfl)
theorem jc_J0_633 {M : pM} {pc : Nat} (hd : decode (mB M) pc = .ok (.invokevirtual 633, 3)) (h : (mY M).cls = RJ0) : J M pc (pc + 3) (tq_cvx M_J0_indexOf_7cf53 2 RJ0) := J_cVx hd ok_J0_indexOf_7cf53 rfl (by rw [h]; exact gw 757 (by decide +kernel) rfl) (gw 758 (by decide +kernel) rfl) (gw 759 (by decide +kernel) rfl)
theorem jc_J0_505 {M : pM} {pc : Nat} (hd : decode (mB M) pc = .ok (.invokevirtual 505, 3)) (h : (mY M).cls = RJ0) : J M pc (pc + 3) (tq_cvx M_J0_length_8abf5 0 RJ0) := J_cVx hd ok_J0_length_8abf5 rfl (by rw [h]; exact gw 761 (by decide +kernel) rfl) (gw 673 (by decide +kernel) rfl) (gw 674 (by decide +kernel) rfl)
theorem jc_J0_637 {M : pM} {pc : Nat} (hd : decode (mB M) pc = .ok (.invokestatic 637, 3)) (h : (mY M).cls = RJ0) : J M pc (pc + 3) (tq_call M_J1_indexOf_4cfef 4) := J_cS hd ok_J1_indexOf_4cfef (by rw [h]; exact gw 762 (by decide +kernel) rfl) (gw 763 (by decide +kernel) rfl)
theorem jc_J0_640 {M : pM} {pc : Nat} (hd : decode (mB M) pc = .ok (.invokestatic 640, 3)) (h : (mY M).cls = RJ0) : J M pc (pc + 3) (tq_call M_J2_indexOf_4cfef 4) := J_cS hd ok_J2_indexOf_4cfef (by rw [h]; exact gw 773 (by decide +kernel) rfl) (gw 774 (by decide +kernel) rfl)
theorem jc_J0_1059 {M : pM} {pc : Nat} (hd : decode (mB M) pc = .ok (.invokestatic 1059, 3)) (h : (mY M).cls = RJ0) : J M pc (pc + 3) (tq_call M_J3_checkIndex_8e157 3) := J_cS hd ok_J3_checkIndex_8e157 (by rw [h]; exact gw 698 (by decide +kernel) rfl) (gw 699 (by decide +kernel) rfl)
theorem jc_J0_1062 {M : pM} {pc : Nat} (hd : decode (mB M) pc = .ok (.invokestatic 1062, 3)) (h : (mY M).cls = RJ0) : J M pc (pc + 3) (tq_call M_J3_checkFromToIndex_8c36e 4) := J_cS hd ok_J3_checkFromToIndex_8c36e (by rw [h]; exact gw 788 (by decide +kernel) rfl) (gw 789 (by decide +kernel) rfl)
theorem jc_J1_9 {M : pM} {pc : Nat} (hd : decode (mB M) pc = .ok (.invokestatic 9, 3)) (h : (mY M).cls = RJ1) : J M pc (pc + 3) (tq_call M_J0_checkIndex_df160 2) := J_cS hd ok_J0_checkIndex_df160 (by rw [h]; exact gw 693 (by decide +kernel) rfl) (gw 694 (by decide +kernel) rfl)
theorem jc_J1_88 {M : pM} {pc : Nat} (hd : decode (mB M) pc = .ok (.invokestatic 88, 3)) (h : (mY M).cls = RJ1) : J M pc (pc + 3) (tq_call M_J1_canEncode_9a6ad 1) := J_cS hd ok_J1_canEncode_9a6ad (by rw [h]; exact gw 765 (by decide +kernel) rfl) (gw 766 (by decide +kernel) rfl)
theorem jc_J1_92 {M : pM} {pc : Nat} (hd : decode (mB M) pc = .ok (.invokestatic 92, 3)) (h : (mY M).cls = RJ1) : J M pc (pc + 3) (tq_call M_J9_max_7cf53 2) := J_cS hd ok_J9_max_7cf53 (by rw [h]; exact gw 768 (by decide +kernel) rfl) (gw 373 (by decide +kernel) rfl)
theorem jc_J1_38 {M : pM} {pc : Nat} (hd : decode (mB M) pc = .ok (.invokestatic 38, 3)) (h : (mY M).cls = RJ1) : J M pc (pc + 3) (tq_call M_J9_min_7cf53 2) := J_cS hd ok_J9_min_7cf53 (by rw [h]; exact gw 769 (by decide +kernel) rfl) (gw 370 (by decide +kernel) rfl)
theorem jc_J1_95 {M : pM} {pc : Nat} (hd : decode (mB M) pc = .ok (.invokestatic 95, 3)) (h : (mY M).cls = RJ1) : J M pc (pc + 3) (tq_call M_J1_indexOfChar_4cfef 4) := J_cS hd ok_J1_indexOfChar_4cfef (by rw [h]; exact gw 770 (by decide +kernel) rfl) (gw 771 (by decide +kernel) rfl)
theorem jc_J2_48 {M : pM} {pc : Nat} (hd : decode (mB M) pc = .ok (.invokestatic 48, 3)) (h : (mY M).cls = RJ2) : J M pc (pc + 3) (tq_call M_J2_length_9d52b 1) := J_cS hd ok_J2_length_9d52b (by rw [h]; exact gw 707 (by decide +kernel) rfl) (gw 708 (by decide +kernel) rfl)
theorem jc_J2_224 {M : pM} {pc : Nat} (hd : decode (mB M) pc = .ok (.invokestatic 224, 3)) (h : (mY M).cls = RJ2) : J M pc (pc + 3) (tq_call M_J9_max_7cf53 2) := J_cS hd ok_J9_max_7cf53 (by rw [h]; exact gw 776 (by decide +kernel) rfl) (gw 373 (by decide +kernel) rfl)
theorem jc_J2_183 {M : pM} {pc : Nat} (hd : decode (mB M) pc = .ok (.invokestatic 183, 3)) (h : (mY M).cls = RJ2) : J M pc (pc + 3) (tq_call M_J9_min_7cf53 2) := J_cS hd ok_J9_min_7cf53 (by rw [h]; exact gw 777 (by decide +kernel) rfl) (gw 370 (by decide +kernel) rfl)
theorem jc_J2_228 {M : pM} {pc : Nat} (hd : decode (mB M) pc = .ok (.invokestatic 228, 3)) (h : (mY M).cls = RJ2) : J M pc (pc + 3) (tq_call M_J2_indexOfChar_4cfef 4) := J_cS hd ok_J2_indexOfChar_4cfef (by rw [h]; exact gw 779 (by decide +kernel) rfl) (gw 780 (by decide +kernel) rfl)
theorem jc_J2_232 {M : pM} {pc : Nat} (hd : decode (mB M) pc = .ok (.invokestatic 232, 3)) (h : (mY M).cls = RJ2) : J M pc (pc + 3) (tq_call M_J2_indexOfSupplementary_4cfef 4) := J_cS hd ok_J2_indexOfSupplementary_4cfef (by rw [h]; exact gw 794 (by decide +kernel) rfl) (gw 795 (by decide +kernel) rfl)
theorem jc_J2_96 {M : pM} {pc : Nat} (hd : decode (mB M) pc = .ok (.invokestatic 96, 3)) (h : (mY M).cls = RJ2) : J M pc (pc + 3) (tq_call M_J2_checkBoundsBeginEnd_d044e 3) := J_cS hd ok_J2_checkBoundsBeginEnd_d044e (by rw [h]; exact gw 782 (by decide +kernel) rfl) (gw 783 (by decide +kernel) rfl)
theorem jc_J2_244 {M : pM} {pc : Nat} (hd : decode (mB M) pc = .ok (.invokestatic 244, 3)) (h : (mY M).cls = RJ2) : J M pc (pc + 3) (tq_call M_J2_indexOfCharUnsafe_4cfef 4) := J_cS hd ok_J2_indexOfCharUnsafe_4cfef (by rw [h]; exact gw 791 (by decide +kernel) rfl) (gw 792 (by decide +kernel) rfl)
theorem jc_J2_71 {M : pM} {pc : Nat} (hd : decode (mB M) pc = .ok (.invokestatic 71, 3)) (h : (mY M).cls = RJ2) : J M pc (pc + 3) (tq_call M_J2_getChar_3b067 2) := J_cS hd ok_J2_getChar_3b067 (by rw [h]; exact gw 711 (by decide +kernel) rfl) (gw 712 (by decide +kernel) rfl)
theorem jc_J2_164 {M : pM} {pc : Nat} (hd : decode (mB M) pc = .ok (.invokestatic 164, 3)) (h : (mY M).cls = RJ2) : J M pc (pc + 3) (tq_call M_J11_isValidCodePoint_9a6ad 1) := J_cS hd ok_J11_isValidCodePoint_9a6ad (by rw [h]; exact gw 797 (by decide +kernel) rfl) (gw 798 (by decide +kernel) rfl)
theorem jc_J2_157 {M : pM} {pc : Nat} (hd : decode (mB M) pc = .ok (.invokestatic 157, 3)) (h : (mY M).cls = RJ2) : J M pc (pc + 3) (tq_call M_J11_highSurrogate_5068e 1) := J_cS hd ok_J11_highSurrogate_5068e (by rw [h]; exact gw 800 (by decide +kernel) rfl) (gw 801 (by decide +kernel) rfl)
theorem jc_J2_161 {M : pM} {pc : Nat} (hd : decode (mB M) pc = .ok (.invokestatic 161, 3)) (h : (mY M).cls = RJ2) : J M pc (pc + 3) (tq_call M_J11_lowSurrogate_5068e 1) := J_cS hd ok_J11_lowSurrogate_5068e (by rw [h]; exact gw 804 (by decide +kernel) rfl) (gw 805 (by decide +kernel) rfl)
theorem jc_J2_67 {M : pM} {pc : Nat} (hd : decode (mB M) pc = .ok (.invokestatic 67, 3)) (h : (mY M).cls = RJ2) : J M pc (pc + 3) (tq_call M_J2_checkIndex_2214a 2) := J_cS hd ok_J2_checkIndex_2214a (by rw [h]; exact gw 704 (by decide +kernel) rfl) (gw 705 (by decide +kernel) rfl)
theorem jc_J2_414 {M : pM} {pc : Nat} (hd : decode (mB M) pc = .ok (.invokestatic 414, 3)) (h : (mY M).cls = RJ2) : J M pc (pc + 3) (tq_call M_J0_checkIndex_df160 2) := J_cS hd ok_J0_checkIndex_df160 (by rw [h]; exact gw 710 (by decide +kernel) rfl) (gw 694 (by decide +kernel) rfl)
theorem jc_J2_241 {M : pM} {pc : Nat} (hd : decode (mB M) pc = .ok (.invokestatic 241, 3)) (h : (mY M).cls = RJ2) : J M pc (pc + 3) (tq_call M_J0_checkBoundsBeginEnd_23922 3) := J_cS hd ok_J0_checkBoundsBeginEnd_23922 (by rw [h]; exact gw 785 (by decide +kernel) rfl) (gw 786 (by decide +kernel) rfl)
theorem jc_J7_304 {M : pM} {pc : Nat} (hd : decode (mB M) pc = .ok (.invokestatic 304, 3)) (h : (mY M).cls = RJ7) : J M pc (pc + 3) (tq_call M_J9_min_7cf53 2) := J_cS hd ok_J9_min_7cf53 (by rw [h]; exact gw 827 (by decide +kernel) rfl) (gw 370 (by decide +kernel) rfl)
theorem ja_J7_150 {M : pM} {pc : Nat} (hd : decode (mB M) pc = .ok (.invokestatic 150, 3)) (h : (mY M).cls = RJ7) : J M pc (pc + 3) tq_acp := J_acp hd (by rw [h]; exact gw 828 (by decide +kernel) rfl) (gw 482 (by decide +kernel) rfl) (gw 481 (by decide +kernel) rfl) (gw 73 (by decide +kernel) rfl)
theorem jn_L_7 {M : pM} {pc : Nat} (hd : decode (mB M) pc = .ok (.new 7, 3)) (h : (mY M).cls = RL) : J M pc (pc + 3) (tq_new 8) := J_new hd (by decide) (by rw [h]; exact gw 80 (by decide +kernel) rfl) (gw 81 (by decide +kernel) rfl) (gw 61 (by decide +kernel) rfl) (by decide +kernel)
theorem jc_L_9 {M : pM} {pc : Nat} (hd : decode (mB M) pc = .ok (.invokespecial 9, 3)) (h : (mY M).cls = RL) : J M pc (pc + 3) (tq_ci2 M_X8_init 0) := J_cI hd ok_X8_init rfl rfl (by rw [h]; exact gw 82 (by decide +kernel) rfl) (gw 83 (by decide +kernel) rfl)
theorem jn_L_10 {M : pM} {pc : Nat} (hd : decode (mB M) pc = .ok (.new 10, 3)) (h : (mY M).cls = RL) : J M pc (pc + 3) (tq_new 9) := J_new hd (by decide) (by rw [h]; exact gw 988 (by decide +kernel) rfl) (gw 989 (by decide +kernel) rfl) (gw 70 (by decide +kernel) rfl) (by decide +kernel)
theorem jc_L_12 {M : pM} {pc : Nat} (hd : decode (mB M) pc = .ok (.invokespecial 12, 3)) (h : (mY M).cls = RL) : J M pc (pc + 3) (tq_ci2 M_X9_init 0) := J_cI hd ok_X9_init rfl rfl (by rw [h]; exact gw 990 (by decide +kernel) rfl) (gw 991 (by decide +kernel) rfl)
theorem jc_L_13 {M : pM} {pc : Nat} (hd : decode (mB M) pc = .ok (.invokevirtual 13, 3)) (h : (mY M).cls = RL) : J M pc (pc + 3) (tq_cv M_X8_weight 2 8) := J_cV hd ok_X8_weight (by decide) rfl (by rw [h]; exact gw 314 (by decide +kernel) rfl) (gw 315 (by decide +kernel) rfl) (gw 316 (by decide +kernel) rfl)
theorem jc_L_17 {M : pM} {pc : Nat} (hd : decode (mB M) pc = .ok (.invokevirtual 17, 3)) (h : (mY M).cls = RL) : J M pc (pc + 3) (tq_cv M_X9_weight 2 9) := J_cV hd ok_X9_weight (by decide) rfl (by rw [h]; exact gw 1085 (by decide +kernel) rfl) (gw 1086 (by decide +kernel) rfl) (gw 1087 (by decide +kernel) rfl)
theorem jc_L_18 {M : pM} {pc : Nat} (hd : decode (mB M) pc = .ok (.invokevirtual 18, 3)) (h : (mY M).cls = RL) : J M pc (pc + 3) (tq_cv M_X8_told 2 8) := J_cV hd ok_X8_told (by decide) rfl (by rw [h]; exact gw 340 (by decide +kernel) rfl) (gw 341 (by decide +kernel) rfl) (gw 342 (by decide +kernel) rfl)
theorem jc_L_21 {M : pM} {pc : Nat} (hd : decode (mB M) pc = .ok (.invokevirtual 21, 3)) (h : (mY M).cls = RL) : J M pc (pc + 3) (tq_cv M_X9_told 2 9) := J_cV hd ok_X9_told (by decide) rfl (by rw [h]; exact gw 1104 (by decide +kernel) rfl) (gw 1105 (by decide +kernel) rfl) (gw 1106 (by decide +kernel) rfl)
theorem jc_L_22 {M : pM} {pc : Nat} (hd : decode (mB M) pc = .ok (.invokevirtual 22, 3)) (h : (mY M).cls = RL) : J M pc (pc + 3) (tq_cv M_X8_as 2 8) := J_cV hd ok_X8_as (by decide) rfl (by rw [h]; exact gw 389 (by decide +kernel) rfl) (gw 390 (by decide +kernel) rfl) (gw 391 (by decide +kernel) rfl)
theorem jc_L_25 {M : pM} {pc : Nat} (hd : decode (mB M) pc = .ok (.invokevirtual 25, 3)) (h : (mY M).cls = RL) : J M pc (pc + 3) (tq_cv M_X9_as 2 9) := J_cV hd ok_X9_as (by decide) rfl (by rw [h]; exact gw 1150 (by decide +kernel) rfl) (gw 1151 (by decide +kernel) rfl) (gw 1152 (by decide +kernel) rfl)
theorem jc_L_26 {M : pM} {pc : Nat} (hd : decode (mB M) pc = .ok (.invokevirtual 26, 3)) (h : (mY M).cls = RL) : J M pc (pc + 3) (tq_cv M_X8_turns 2 8) := J_cV hd ok_X8_turns (by decide) rfl (by rw [h]; exact gw 400 (by decide +kernel) rfl) (gw 401 (by decide +kernel) rfl) (gw 402 (by decide +kernel) rfl)
theorem jc_L_29 {M : pM} {pc : Nat} (hd : decode (mB M) pc = .ok (.invokevirtual 29, 3)) (h : (mY M).cls = RL) : J M pc (pc + 3) (tq_cv M_X9_turns 2 9) := J_cV hd ok_X9_turns (by decide) rfl (by rw [h]; exact gw 1158 (by decide +kernel) rfl) (gw 1159 (by decide +kernel) rfl) (gw 1160 (by decide +kernel) rfl)
theorem jc_L_30 {M : pM} {pc : Nat} (hd : decode (mB M) pc = .ok (.invokevirtual 30, 3)) (h : (mY M).cls = RL) : J M pc (pc + 3) (tq_cv M_X8_file 2 8) := J_cV hd ok_X8_file (by decide) rfl (by rw [h]; exact gw 404 (by decide +kernel) rfl) (gw 405 (by decide +kernel) rfl) (gw 406 (by decide +kernel) rfl)
theorem jc_L_33 {M : pM} {pc : Nat} (hd : decode (mB M) pc = .ok (.invokevirtual 33, 3)) (h : (mY M).cls = RL) : J M pc (pc + 3) (tq_cv M_X9_file 2 9) := J_cV hd ok_X9_file (by decide) rfl (by rw [h]; exact gw 1166 (by decide +kernel) rfl) (gw 1167 (by decide +kernel) rfl) (gw 1168 (by decide +kernel) rfl)
theorem jc_L_34 {M : pM} {pc : Nat} (hd : decode (mB M) pc = .ok (.invokevirtual 34, 3)) (h : (mY M).cls = RL) : J M pc (pc + 3) (tq_cv M_X8_arm 3 8) := J_cV hd ok_X8_arm (by decide) rfl (by rw [h]; exact gw 408 (by decide +kernel) rfl) (gw 409 (by decide +kernel) rfl) (gw 410 (by decide +kernel) rfl)
theorem jc_L_38 {M : pM} {pc : Nat} (hd : decode (mB M) pc = .ok (.invokevirtual 38, 3)) (h : (mY M).cls = RL) : J M pc (pc + 3) (tq_cv M_X9_arm 3 9) := J_cV hd ok_X9_arm (by decide) rfl (by rw [h]; exact gw 1170 (by decide +kernel) rfl) (gw 1171 (by decide +kernel) rfl) (gw 1172 (by decide +kernel) rfl)
theorem jc_L_39 {M : pM} {pc : Nat} (hd : decode (mB M) pc = .ok (.invokevirtual 39, 3)) (h : (mY M).cls = RL) : J M pc (pc + 3) (tq_cv M_X8_deal 1 8) := J_cV hd ok_X8_deal (by decide) rfl (by rw [h]; exact gw 420 (by decide +kernel) rfl) (gw 421 (by decide +kernel) rfl) (gw 422 (by decide +kernel) rfl)
theorem jc_L_43 {M : pM} {pc : Nat} (hd : decode (mB M) pc = .ok (.invokevirtual 43, 3)) (h : (mY M).cls = RL) : J M pc (pc + 3) (tq_cv M_X9_deal 1 9) := J_cV hd ok_X9_deal (by decide) rfl (by rw [h]; exact gw 1179 (by decide +kernel) rfl) (gw 1180 (by decide +kernel) rfl) (gw 1181 (by decide +kernel) rfl)
theorem jc_L_44 {M : pM} {pc : Nat} (hd : decode (mB M) pc = .ok (.invokevirtual 44, 3)) (h : (mY M).cls = RL) : J M pc (pc + 3) (tq_cv M_X8_seed 1 8) := J_cV hd ok_X8_seed (by decide) rfl (by rw [h]; exact gw 434 (by decide +kernel) rfl) (gw 435 (by decide +kernel) rfl) (gw 436 (by decide +kernel) rfl)
theorem jc_L_47 {M : pM} {pc : Nat} (hd : decode (mB M) pc = .ok (.invokevirtual 47, 3)) (h : (mY M).cls = RL) : J M pc (pc + 3) (tq_cv M_X9_seed 1 9) := J_cV hd ok_X9_seed (by decide) rfl (by rw [h]; exact gw 1189 (by decide +kernel) rfl) (gw 1190 (by decide +kernel) rfl) (gw 1191 (by decide +kernel) rfl)
theorem jc_L_48 {M : pM} {pc : Nat} (hd : decode (mB M) pc = .ok (.invokevirtual 48, 3)) (h : (mY M).cls = RL) : J M pc (pc + 3) (tq_cv M_X8_weigh 3 8) := J_cV hd ok_X8_weigh (by decide) rfl (by rw [h]; exact gw 438 (by decide +kernel) rfl) (gw 439 (by decide +kernel) rfl) (gw 440 (by decide +kernel) rfl)
theorem jc_L_51 {M : pM} {pc : Nat} (hd : decode (mB M) pc = .ok (.invokevirtual 51, 3)) (h : (mY M).cls = RL) : J M pc (pc + 3) (tq_cv M_X9_weigh 3 9) := J_cV hd ok_X9_weigh (by decide) rfl (by rw [h]; exact gw 1214 (by decide +kernel) rfl) (gw 1215 (by decide +kernel) rfl) (gw 1216 (by decide +kernel) rfl)
theorem jc_L_52 {M : pM} {pc : Nat} (hd : decode (mB M) pc = .ok (.invokevirtual 52, 3)) (h : (mY M).cls = RL) : J M pc (pc + 3) (tq_cv M_X8_said 3 8) := J_cV hd ok_X8_said (by decide) rfl (by rw [h]; exact gw 483 (by decide +kernel) rfl) (gw 484 (by decide +kernel) rfl) (gw 485 (by decide +kernel) rfl)
theorem jc_L_55 {M : pM} {pc : Nat} (hd : decode (mB M) pc = .ok (.invokevirtual 55, 3)) (h : (mY M).cls = RL) : J M pc (pc + 3) (tq_cv M_X9_said 3 9) := J_cV hd ok_X9_said (by decide) rfl (by rw [h]; exact gw 1193 (by decide +kernel) rfl) (gw 1194 (by decide +kernel) rfl) (gw 1195 (by decide +kernel) rfl)
theorem jc_L_56 {M : pM} {pc : Nat} (hd : decode (mB M) pc = .ok (.invokevirtual 56, 3)) (h : (mY M).cls = RL) : J M pc (pc + 3) (tq_cv M_X8_fall 1 8) := J_cV hd ok_X8_fall (by decide) rfl (by rw [h]; exact gw 487 (by decide +kernel) rfl) (gw 488 (by decide +kernel) rfl) (gw 489 (by decide +kernel) rfl)
theorem jc_L_59 {M : pM} {pc : Nat} (hd : decode (mB M) pc = .ok (.invokevirtual 59, 3)) (h : (mY M).cls = RL) : J M pc (pc + 3) (tq_cv M_X9_fall 1 9) := J_cV hd ok_X9_fall (by decide) rfl (by rw [h]; exact gw 1223 (by decide +kernel) rfl) (gw 1224 (by decide +kernel) rfl) (gw 1225 (by decide +kernel) rfl)
theorem jc_L_60 {M : pM} {pc : Nat} (hd : decode (mB M) pc = .ok (.invokevirtual 60, 3)) (h : (mY M).cls = RL) : J M pc (pc + 3) (tq_cv M_X8_shoot 2 8) := J_cV hd ok_X8_shoot (by decide) rfl (by rw [h]; exact gw 496 (by decide +kernel) rfl) (gw 497 (by decide +kernel) rfl) (gw 498 (by decide +kernel) rfl)
theorem jc_L_63 {M : pM} {pc : Nat} (hd : decode (mB M) pc = .ok (.invokevirtual 63, 3)) (h : (mY M).cls = RL) : J M pc (pc + 3) (tq_cv M_X9_shoot 2 9) := J_cV hd ok_X9_shoot (by decide) rfl (by rw [h]; exact gw 1231 (by decide +kernel) rfl) (gw 1232 (by decide +kernel) rfl) (gw 1233 (by decide +kernel) rfl)
theorem jc_L_64 {M : pM} {pc : Nat} (hd : decode (mB M) pc = .ok (.invokevirtual 64, 3)) (h : (mY M).cls = RL) : J M pc (pc + 3) (tq_cv M_X8_monday 0 8) := J_cV hd ok_X8_monday (by decide) rfl (by rw [h]; exact gw 505 (by decide +kernel) rfl) (gw 506 (by decide +kernel) rfl) (gw 507 (by decide +kernel) rfl)
theorem jc_L_68 {M : pM} {pc : Nat} (hd : decode (mB M) pc = .ok (.invokevirtual 68, 3)) (h : (mY M).cls = RL) : J M pc (pc + 3) (tq_cv M_X9_monday 0 9) := J_cV hd ok_X9_monday (by decide) rfl (by rw [h]; exact gw 1240 (by decide +kernel) rfl) (gw 1241 (by decide +kernel) rfl) (gw 1242 (by decide +kernel) rfl)
theorem jc_L_69 {M : pM} {pc : Nat} (hd : decode (mB M) pc = .ok (.invokevirtual 69, 3)) (h : (mY M).cls = RL) : J M pc (pc + 3) (tq_cv M_X8_days 1 8) := J_cV hd ok_X8_days (by decide) rfl (by rw [h]; exact gw 518 (by decide +kernel) rfl) (gw 519 (by decide +kernel) rfl) (gw 520 (by decide +kernel) rfl)
theorem jc_L_72 {M : pM} {pc : Nat} (hd : decode (mB M) pc = .ok (.invokevirtual 72, 3)) (h : (mY M).cls = RL) : J M pc (pc + 3) (tq_cv M_X9_days 1 9) := J_cV hd ok_X9_days (by decide) rfl (by rw [h]; exact gw 1248 (by decide +kernel) rfl) (gw 1249 (by decide +kernel) rfl) (gw 1250 (by decide +kernel) rfl)
theorem jc_L_73 {M : pM} {pc : Nat} (hd : decode (mB M) pc = .ok (.invokevirtual 73, 3)) (h : (mY M).cls = RL) : J M pc (pc + 3) (tq_cv M_X8_page 2 8) := J_cV hd ok_X8_page (by decide) rfl (by rw [h]; exact gw 528 (by decide +kernel) rfl) (gw 529 (by decide +kernel) rfl) (gw 530 (by decide +kernel) rfl)
theorem jc_L_76 {M : pM} {pc : Nat} (hd : decode (mB M) pc = .ok (.invokevirtual 76, 3)) (h : (mY M).cls = RL) : J M pc (pc + 3) (tq_cv M_X9_page 2 9) := J_cV hd ok_X9_page (by decide) rfl (by rw [h]; exact gw 1258 (by decide +kernel) rfl) (gw 1259 (by decide +kernel) rfl) (gw 1260 (by decide +kernel) rfl)
theorem jc_L_77 {M : pM} {pc : Nat} (hd : decode (mB M) pc = .ok (.invokevirtual 77, 3)) (h : (mY M).cls = RL) : J M pc (pc + 3) (tq_cv M_X8_behind 2 8) := J_cV hd ok_X8_behind (by decide) rfl (by rw [h]; exact gw 550 (by decide +kernel) rfl) (gw 551 (by decide +kernel) rfl) (gw 552 (by decide +kernel) rfl)
theorem jc_L_80 {M : pM} {pc : Nat} (hd : decode (mB M) pc = .ok (.invokevirtual 80, 3)) (h : (mY M).cls = RL) : J M pc (pc + 3) (tq_cv M_X9_behind 2 9) := J_cV hd ok_X9_behind (by decide) rfl (by rw [h]; exact gw 1268 (by decide +kernel) rfl) (gw 1269 (by decide +kernel) rfl) (gw 1270 (by decide +kernel) rfl)
theorem jc_L_81 {M : pM} {pc : Nat} (hd : decode (mB M) pc = .ok (.invokevirtual 81, 3)) (h : (mY M).cls = RL) : J M pc (pc + 3) (tq_cv M_X8_lasts 2 8) := J_cV hd ok_X8_lasts (by decide) rfl (by rw [h]; exact gw 563 (by decide +kernel) rfl) (gw 564 (by decide +kernel) rfl) (gw 565 (by decide +kernel) rfl)
theorem jc_L_84 {M : pM} {pc : Nat} (hd : decode (mB M) pc = .ok (.invokevirtual 84, 3)) (h : (mY M).cls = RL) : J M pc (pc + 3) (tq_cv M_X9_lasts 2 9) := J_cV hd ok_X9_lasts (by decide) rfl (by rw [h]; exact gw 1277 (by decide +kernel) rfl) (gw 1278 (by decide +kernel) rfl) (gw 1279 (by decide +kernel) rfl)
theorem jc_L_85 {M : pM} {pc : Nat} (hd : decode (mB M) pc = .ok (.invokevirtual 85, 3)) (h : (mY M).cls = RL) : J M pc (pc + 3) (tq_cv M_X8_canWeigh 1 8) := J_cV hd ok_X8_canWeigh (by decide) rfl (by rw [h]; exact gw 567 (by decide +kernel) rfl) (gw 568 (by decide +kernel) rfl) (gw 569 (by decide +kernel) rfl)
theorem jc_L_88 {M : pM} {pc : Nat} (hd : decode (mB M) pc = .ok (.invokevirtual 88, 3)) (h : (mY M).cls = RL) : J M pc (pc + 3) (tq_cv M_X9_canWeigh 1 9) := J_cV hd ok_X9_canWeigh (by decide) rfl (by rw [h]; exact gw 1281 (by decide +kernel) rfl) (gw 1282 (by decide +kernel) rfl) (gw 1283 (by decide +kernel) rfl)
theorem jc_L_89 {M : pM} {pc : Nat} (hd : decode (mB M) pc = .ok (.invokevirtual 89, 3)) (h : (mY M).cls = RL) : J M pc (pc + 3) (tq_cv M_X8_smallest 1 8) := J_cV hd ok_X8_smallest (by decide) rfl (by rw [h]; exact gw 579 (by decide +kernel) rfl) (gw 580 (by decide +kernel) rfl) (gw 581 (by decide +kernel) rfl)
theorem jc_L_92 {M : pM} {pc : Nat} (hd : decode (mB M) pc = .ok (.invokevirtual 92, 3)) (h : (mY M).cls = RL) : J M pc (pc + 3) (tq_cv M_X9_smallest 1 9) := J_cV hd ok_X9_smallest (by decide) rfl (by rw [h]; exact gw 1289 (by decide +kernel) rfl) (gw 1290 (by decide +kernel) rfl) (gw 1291 (by decide +kernel) rfl)
theorem jc_L_93 {M : pM} {pc : Nat} (hd : decode (mB M) pc = .ok (.invokevirtual 93, 3)) (h : (mY M).cls = RL) : J M pc (pc + 3) (tq_cv M_X8_gain 2 8) := J_cV hd ok_X8_gain (by decide) rfl (by rw [h]; exact gw 590 (by decide +kernel) rfl) (gw 591 (by decide +kernel) rfl) (gw 592 (by decide +kernel) rfl)
theorem jc_L_96 {M : pM} {pc : Nat} (hd : decode (mB M) pc = .ok (.invokevirtual 96, 3)) (h : (mY M).cls = RL) : J M pc (pc + 3) (tq_cv M_X9_gain 2 9) := J_cV hd ok_X9_gain (by decide) rfl (by rw [h]; exact gw 1299 (by decide +kernel) rfl) (gw 1300 (by decide +kernel) rfl) (gw 1301 (by decide +kernel) rfl)
theorem jc_L_97 {M : pM} {pc : Nat} (hd : decode (mB M) pc = .ok (.invokevirtual 97, 3)) (h : (mY M).cls = RL) : J M pc (pc + 3) (tq_cv M_X8_pound 1 8) := J_cV hd ok_X8_pound (by decide) rfl (by rw [h]; exact gw 603 (by decide +kernel) rfl) (gw 604 (by decide +kernel) rfl) (gw 605 (by decide +kernel) rfl)
theorem jc_L_100 {M : pM} {pc : Nat} (hd : decode (mB M) pc = .ok (.invokevirtual 100, 3)) (h : (mY M).cls = RL) : J M pc (pc + 3) (tq_cv M_X9_pound 1 9) := J_cV hd ok_X9_pound (by decide) rfl (by rw [h]; exact gw 1304 (by decide +kernel) rfl) (gw 1305 (by decide +kernel) rfl) (gw 1306 (by decide +kernel) rfl)
theorem jc_L_101 {M : pM} {pc : Nat} (hd : decode (mB M) pc = .ok (.invokevirtual 101, 3)) (h : (mY M).cls = RL) : J M pc (pc + 3) (tq_cv M_X8_falseOne 0 8) := J_cV hd ok_X8_falseOne (by decide) rfl (by rw [h]; exact gw 612 (by decide +kernel) rfl) (gw 613 (by decide +kernel) rfl) (gw 614 (by decide +kernel) rfl)
theorem jc_L_104 {M : pM} {pc : Nat} (hd : decode (mB M) pc = .ok (.invokevirtual 104, 3)) (h : (mY M).cls = RL) : J M pc (pc + 3) (tq_cv M_X9_falseOne 0 9) := J_cV hd ok_X9_falseOne (by decide) rfl (by rw [h]; exact gw 1312 (by decide +kernel) rfl) (gw 1313 (by decide +kernel) rfl) (gw 1314 (by decide +kernel) rfl)
theorem jc_L_105 {M : pM} {pc : Nat} (hd : decode (mB M) pc = .ok (.invokevirtual 105, 3)) (h : (mY M).cls = RL) : J M pc (pc + 3) (tq_cv M_X8_fine 1 8) := J_cV hd ok_X8_fine (by decide) rfl (by rw [h]; exact gw 621 (by decide +kernel) rfl) (gw 622 (by decide +kernel) rfl) (gw 623 (by decide +kernel) rfl)
theorem jc_L_108 {M : pM} {pc : Nat} (hd : decode (mB M) pc = .ok (.invokevirtual 108, 3)) (h : (mY M).cls = RL) : J M pc (pc + 3) (tq_cv M_X9_fine 1 9) := J_cV hd ok_X9_fine (by decide) rfl (by rw [h]; exact gw 1320 (by decide +kernel) rfl) (gw 1321 (by decide +kernel) rfl) (gw 1322 (by decide +kernel) rfl)
theorem jc_L_109 {M : pM} {pc : Nat} (hd : decode (mB M) pc = .ok (.invokevirtual 109, 3)) (h : (mY M).cls = RL) : J M pc (pc + 3) (tq_cv M_X8_feed 3 8) := J_cV hd ok_X8_feed (by decide) rfl (by rw [h]; exact gw 630 (by decide +kernel) rfl) (gw 631 (by decide +kernel) rfl) (gw 632 (by decide +kernel) rfl)
theorem jc_L_112 {M : pM} {pc : Nat} (hd : decode (mB M) pc = .ok (.invokevirtual 112, 3)) (h : (mY M).cls = RL) : J M pc (pc + 3) (tq_cv M_X9_feed 3 9) := J_cV hd ok_X9_feed (by decide) rfl (by rw [h]; exact gw 1324 (by decide +kernel) rfl) (gw 1325 (by decide +kernel) rfl) (gw 1326 (by decide +kernel) rfl)
theorem jc_L_113 {M : pM} {pc : Nat} (hd : decode (mB M) pc = .ok (.invokevirtual 113, 3)) (h : (mY M).cls = RL) : J M pc (pc + 3) (tq_cv M_X8_trim 1 8) := J_cV hd ok_X8_trim (by decide) rfl (by rw [h]; exact gw 638 (by decide +kernel) rfl) (gw 639 (by decide +kernel) rfl) (gw 640 (by decide +kernel) rfl)
theorem jc_L_116 {M : pM} {pc : Nat} (hd : decode (mB M) pc = .ok (.invokevirtual 116, 3)) (h : (mY M).cls = RL) : J M pc (pc + 3) (tq_cv M_X9_trim 1 9) := J_cV hd ok_X9_trim (by decide) rfl (by rw [h]; exact gw 1328 (by decide +kernel) rfl) (gw 1329 (by decide +kernel) rfl) (gw 1330 (by decide +kernel) rfl)
theorem jc_L_117 {M : pM} {pc : Nat} (hd : decode (mB M) pc = .ok (.invokevirtual 117, 3)) (h : (mY M).cls = RL) : J M pc (pc + 3) (tq_cv M_X8_text 0 8) := J_cV hd ok_X8_text (by decide) rfl (by rw [h]; exact gw 642 (by decide +kernel) rfl) (gw 643 (by decide +kernel) rfl) (gw 644 (by decide +kernel) rfl)
theorem jc_L_120 {M : pM} {pc : Nat} (hd : decode (mB M) pc = .ok (.invokevirtual 120, 3)) (h : (mY M).cls = RL) : J M pc (pc + 3) (tq_cv M_X9_text 0 9) := J_cV hd ok_X9_text (by decide) rfl (by rw [h]; exact gw 1332 (by decide +kernel) rfl) (gw 1333 (by decide +kernel) rfl) (gw 1334 (by decide +kernel) rfl)
theorem jc_L_121 {M : pM} {pc : Nat} (hd : decode (mB M) pc = .ok (.invokevirtual 121, 3)) (h : (mY M).cls = RL) : J M pc (pc + 3) (tq_cv M_X8_textTold 2 8) := J_cV hd ok_X8_textTold (by decide) rfl (by rw [h]; exact gw 860 (by decide +kernel) rfl) (gw 861 (by decide +kernel) rfl) (gw 862 (by decide +kernel) rfl)
theorem jc_L_124 {M : pM} {pc : Nat} (hd : decode (mB M) pc = .ok (.invokevirtual 124, 3)) (h : (mY M).cls = RL) : J M pc (pc + 3) (tq_cv M_X9_textTold 2 9) := J_cV hd ok_X9_textTold (by decide) rfl (by rw [h]; exact gw 1399 (by decide +kernel) rfl) (gw 1400 (by decide +kernel) rfl) (gw 1401 (by decide +kernel) rfl)
theorem jc_L_125 {M : pM} {pc : Nat} (hd : decode (mB M) pc = .ok (.invokevirtual 125, 3)) (h : (mY M).cls = RL) : J M pc (pc + 3) (tq_cv M_X8_why 1 8) := J_cV hd ok_X8_why (by decide) rfl (by rw [h]; exact gw 865 (by decide +kernel) rfl) (gw 866 (by decide +kernel) rfl) (gw 867 (by decide +kernel) rfl)
theorem jc_L_128 {M : pM} {pc : Nat} (hd : decode (mB M) pc = .ok (.invokevirtual 128, 3)) (h : (mY M).cls = RL) : J M pc (pc + 3) (tq_cv M_X9_why 1 9) := J_cV hd ok_X9_why (by decide) rfl (by rw [h]; exact gw 1407 (by decide +kernel) rfl) (gw 1408 (by decide +kernel) rfl) (gw 1409 (by decide +kernel) rfl)
theorem jc_L_129 {M : pM} {pc : Nat} (hd : decode (mB M) pc = .ok (.invokevirtual 129, 3)) (h : (mY M).cls = RL) : J M pc (pc + 3) (tq_cv M_X8_sheet 3 8) := J_cV hd ok_X8_sheet (by decide) rfl (by rw [h]; exact gw 873 (by decide +kernel) rfl) (gw 874 (by decide +kernel) rfl) (gw 875 (by decide +kernel) rfl)
theorem jc_L_132 {M : pM} {pc : Nat} (hd : decode (mB M) pc = .ok (.invokevirtual 132, 3)) (h : (mY M).cls = RL) : J M pc (pc + 3) (tq_cv M_X9_sheet 3 9) := J_cV hd ok_X9_sheet (by decide) rfl (by rw [h]; exact gw 1412 (by decide +kernel) rfl) (gw 1413 (by decide +kernel) rfl) (gw 1414 (by decide +kernel) rfl)
theorem jc_L_133 {M : pM} {pc : Nat} (hd : decode (mB M) pc = .ok (.invokevirtual 133, 3)) (h : (mY M).cls = RL) : J M pc (pc + 3) (tq_cv M_X8_mark 3 8) := J_cV hd ok_X8_mark (by decide) rfl (by rw [h]; exact gw 888 (by decide +kernel) rfl) (gw 889 (by decide +kernel) rfl) (gw 890 (by decide +kernel) rfl)
theorem jc_L_136 {M : pM} {pc : Nat} (hd : decode (mB M) pc = .ok (.invokevirtual 136, 3)) (h : (mY M).cls = RL) : J M pc (pc + 3) (tq_cv M_X9_mark 3 9) := J_cV hd ok_X9_mark (by decide) rfl (by rw [h]; exact gw 1421 (by decide +kernel) rfl) (gw 1422 (by decide +kernel) rfl) (gw 1423 (by decide +kernel) rfl)
theorem jc_L_137 {M : pM} {pc : Nat} (hd : decode (mB M) pc = .ok (.invokevirtual 137, 3)) (h : (mY M).cls = RL) : J M pc (pc + 3) (tq_cv M_X8_pour 1 8) := J_cV hd ok_X8_pour (by decide) rfl (by rw [h]; exact gw 904 (by decide +kernel) rfl) (gw 905 (by decide +kernel) rfl) (gw 906 (by decide +kernel) rfl)
theorem jc_L_140 {M : pM} {pc : Nat} (hd : decode (mB M) pc = .ok (.invokevirtual 140, 3)) (h : (mY M).cls = RL) : J M pc (pc + 3) (tq_cv M_X9_pour 1 9) := J_cV hd ok_X9_pour (by decide) rfl (by rw [h]; exact gw 1429 (by decide +kernel) rfl) (gw 1430 (by decide +kernel) rfl) (gw 1431 (by decide +kernel) rfl)
theorem jc_L_141 {M : pM} {pc : Nat} (hd : decode (mB M) pc = .ok (.invokevirtual 141, 3)) (h : (mY M).cls = RL) : J M pc (pc + 3) (tq_cv M_X8_reads 2 8) := J_cV hd ok_X8_reads (by decide) rfl (by rw [h]; exact gw 915 (by decide +kernel) rfl) (gw 916 (by decide +kernel) rfl) (gw 917 (by decide +kernel) rfl)
theorem jc_L_144 {M : pM} {pc : Nat} (hd : decode (mB M) pc = .ok (.invokevirtual 144, 3)) (h : (mY M).cls = RL) : J M pc (pc + 3) (tq_cv M_X9_reads 2 9) := J_cV hd ok_X9_reads (by decide) rfl (by rw [h]; exact gw 1433 (by decide +kernel) rfl) (gw 1434 (by decide +kernel) rfl) (gw 1435 (by decide +kernel) rfl)
theorem jc_L_145 {M : pM} {pc : Nat} (hd : decode (mB M) pc = .ok (.invokevirtual 145, 3)) (h : (mY M).cls = RL) : J M pc (pc + 3) (tq_cv M_X8_copy 5 8) := J_cV hd ok_X8_copy (by decide) rfl (by rw [h]; exact gw 919 (by decide +kernel) rfl) (gw 920 (by decide +kernel) rfl) (gw 921 (by decide +kernel) rfl)
theorem jc_L_149 {M : pM} {pc : Nat} (hd : decode (mB M) pc = .ok (.invokevirtual 149, 3)) (h : (mY M).cls = RL) : J M pc (pc + 3) (tq_cv M_X9_copy 5 9) := J_cV hd ok_X9_copy (by decide) rfl (by rw [h]; exact gw 1437 (by decide +kernel) rfl) (gw 1438 (by decide +kernel) rfl) (gw 1439 (by decide +kernel) rfl)
theorem jc_L_150 {M : pM} {pc : Nat} (hd : decode (mB M) pc = .ok (.invokevirtual 150, 3)) (h : (mY M).cls = RL) : J M pc (pc + 3) (tq_cv M_X8_lay 3 8) := J_cV hd ok_X8_lay (by decide) rfl (by rw [h]; exact gw 929 (by decide +kernel) rfl) (gw 930 (by decide +kernel) rfl) (gw 931 (by decide +kernel) rfl)
theorem jc_L_153 {M : pM} {pc : Nat} (hd : decode (mB M) pc = .ok (.invokevirtual 153, 3)) (h : (mY M).cls = RL) : J M pc (pc + 3) (tq_cv M_X9_lay 3 9) := J_cV hd ok_X9_lay (by decide) rfl (by rw [h]; exact gw 1441 (by decide +kernel) rfl) (gw 1442 (by decide +kernel) rfl) (gw 1443 (by decide +kernel) rfl)
theorem jc_L_154 {M : pM} {pc : Nat} (hd : decode (mB M) pc = .ok (.invokevirtual 154, 3)) (h : (mY M).cls = RL) : J M pc (pc + 3) (tq_cv M_X8_ask 2 8) := J_cV hd ok_X8_ask (by decide) rfl (by rw [h]; exact gw 943 (by decide +kernel) rfl) (gw 944 (by decide +kernel) rfl) (gw 945 (by decide +kernel) rfl)
theorem jc_L_157 {M : pM} {pc : Nat} (hd : decode (mB M) pc = .ok (.invokevirtual 157, 3)) (h : (mY M).cls = RL) : J M pc (pc + 3) (tq_cv M_X9_ask 2 9) := J_cV hd ok_X9_ask (by decide) rfl (by rw [h]; exact gw 1449 (by decide +kernel) rfl) (gw 1450 (by decide +kernel) rfl) (gw 1451 (by decide +kernel) rfl)
theorem jc_L_158 {M : pM} {pc : Nat} (hd : decode (mB M) pc = .ok (.invokevirtual 158, 3)) (h : (mY M).cls = RL) : J M pc (pc + 3) (tq_cv M_X8_item 2 8) := J_cV hd ok_X8_item (by decide) rfl (by rw [h]; exact gw 947 (by decide +kernel) rfl) (gw 948 (by decide +kernel) rfl) (gw 949 (by decide +kernel) rfl)
theorem jc_L_161 {M : pM} {pc : Nat} (hd : decode (mB M) pc = .ok (.invokevirtual 161, 3)) (h : (mY M).cls = RL) : J M pc (pc + 3) (tq_cv M_X9_item 2 9) := J_cV hd ok_X9_item (by decide) rfl (by rw [h]; exact gw 1453 (by decide +kernel) rfl) (gw 1454 (by decide +kernel) rfl) (gw 1455 (by decide +kernel) rfl)
theorem jc_L_162 {M : pM} {pc : Nat} (hd : decode (mB M) pc = .ok (.invokevirtual 162, 3)) (h : (mY M).cls = RL) : J M pc (pc + 3) (tq_cv M_X8_rest 2 8) := J_cV hd ok_X8_rest (by decide) rfl (by rw [h]; exact gw 951 (by decide +kernel) rfl) (gw 952 (by decide +kernel) rfl) (gw 953 (by decide +kernel) rfl)
theorem jc_L_165 {M : pM} {pc : Nat} (hd : decode (mB M) pc = .ok (.invokevirtual 165, 3)) (h : (mY M).cls = RL) : J M pc (pc + 3) (tq_cv M_X9_rest 2 9) := J_cV hd ok_X9_rest (by decide) rfl (by rw [h]; exact gw 1457 (by decide +kernel) rfl) (gw 1458 (by decide +kernel) rfl) (gw 1459 (by decide +kernel) rfl)
theorem jc_L_166 {M : pM} {pc : Nat} (hd : decode (mB M) pc = .ok (.invokevirtual 166, 3)) (h : (mY M).cls = RL) : J M pc (pc + 3) (tq_cv M_X8_tell 1 8) := J_cV hd ok_X8_tell (by decide) rfl (by rw [h]; exact gw 955 (by decide +kernel) rfl) (gw 956 (by decide +kernel) rfl) (gw 957 (by decide +kernel) rfl)
theorem jc_L_169 {M : pM} {pc : Nat} (hd : decode (mB M) pc = .ok (.invokevirtual 169, 3)) (h : (mY M).cls = RL) : J M pc (pc + 3) (tq_cv M_X9_tell 1 9) := J_cV hd ok_X9_tell (by decide) rfl (by rw [h]; exact gw 1461 (by decide +kernel) rfl) (gw 1462 (by decide +kernel) rfl) (gw 1463 (by decide +kernel) rfl)
theorem jc_L_170 {M : pM} {pc : Nat} (hd : decode (mB M) pc = .ok (.invokevirtual 170, 3)) (h : (mY M).cls = RL) : J M pc (pc + 3) (tq_cv M_X8_check 1 8) := J_cV hd ok_X8_check (by decide) rfl (by rw [h]; exact gw 959 (by decide +kernel) rfl) (gw 960 (by decide +kernel) rfl) (gw 961 (by decide +kernel) rfl)
theorem jc_L_173 {M : pM} {pc : Nat} (hd : decode (mB M) pc = .ok (.invokevirtual 173, 3)) (h : (mY M).cls = RL) : J M pc (pc + 3) (tq_cv M_X9_check 1 9) := J_cV hd ok_X9_check (by decide) rfl (by rw [h]; exact gw 1465 (by decide +kernel) rfl) (gw 1466 (by decide +kernel) rfl) (gw 1467 (by decide +kernel) rfl)
theorem jc_L_174 {M : pM} {pc : Nat} (hd : decode (mB M) pc = .ok (.invokevirtual 174, 3)) (h : (mY M).cls = RL) : J M pc (pc + 3) (tq_cv M_X8_keep 0 8) := J_cV hd ok_X8_keep (by decide) rfl (by rw [h]; exact gw 976 (by decide +kernel) rfl) (gw 977 (by decide +kernel) rfl) (gw 978 (by decide +kernel) rfl)
theorem jc_L_177 {M : pM} {pc : Nat} (hd : decode (mB M) pc = .ok (.invokevirtual 177, 3)) (h : (mY M).cls = RL) : J M pc (pc + 3) (tq_cv M_X9_keep 0 9) := J_cV hd ok_X9_keep (by decide) rfl (by rw [h]; exact gw 1474 (by decide +kernel) rfl) (gw 1475 (by decide +kernel) rfl) (gw 1476 (by decide +kernel) rfl)
theorem jc_L_178 {M : pM} {pc : Nat} (hd : decode (mB M) pc = .ok (.invokevirtual 178, 3)) (h : (mY M).cls = RL) : J M pc (pc + 3) (tq_cv M_X8_back 0 8) := J_cV hd ok_X8_back (by decide) rfl (by rw [h]; exact gw 980 (by decide +kernel) rfl) (gw 981 (by decide +kernel) rfl) (gw 982 (by decide +kernel) rfl)
theorem jc_L_181 {M : pM} {pc : Nat} (hd : decode (mB M) pc = .ok (.invokevirtual 181, 3)) (h : (mY M).cls = RL) : J M pc (pc + 3) (tq_cv M_X9_back 0 9) := J_cV hd ok_X9_back (by decide) rfl (by rw [h]; exact gw 1478 (by decide +kernel) rfl) (gw 1479 (by decide +kernel) rfl) (gw 1480 (by decide +kernel) rfl)
theorem jc_L_182 {M : pM} {pc : Nat} (hd : decode (mB M) pc = .ok (.invokevirtual 182, 3)) (h : (mY M).cls = RL) : J M pc (pc + 3) (tq_cv M_X8_count 1 8) := J_cV hd ok_X8_count (by decide) rfl (by rw [h]; exact gw 984 (by decide +kernel) rfl) (gw 985 (by decide +kernel) rfl) (gw 986 (by decide +kernel) rfl)
theorem jc_L_185 {M : pM} {pc : Nat} (hd : decode (mB M) pc = .ok (.invokevirtual 185, 3)) (h : (mY M).cls = RL) : J M pc (pc + 3) (tq_cv M_X9_count 1 9) := J_cV hd ok_X9_count (by decide) rfl (by rw [h]; exact gw 1482 (by decide +kernel) rfl) (gw 1483 (by decide +kernel) rfl) (gw 1484 (by decide +kernel) rfl)
theorem ja_int {M : pM} {pc : Nat} (hd : decode (mB M) pc = .ok (.newarray .int, 2)) : J M pc (pc + 2) tq_na := J_na hd (gw 111 (by decide +kernel) rfl)
