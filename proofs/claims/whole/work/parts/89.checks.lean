/-! the tables of code are the code, checked -/
theorem om_X0_reaches : okM (C_X0_reaches, 9, yX0_reaches, cX0_reaches, (some .boolean), RX0) [894, 895, 33, 896] = true := by decide +kernel
theorem om_X0_neededTubes : okM (C_X0_neededTubes, 7, yX0_neededTubes, cX0_neededTubes, (some .int), RX0) [916, 917, 33, 918] = true := by decide +kernel
theorem om_X0_fewestTubes : okM (C_X0_fewestTubes, 7, yX0_fewestTubes, cX0_fewestTubes, (some .int), RX0) [898, 899, 33, 900] = true := by decide +kernel
theorem om_X0_findWay : okM (C_X0_findWay, 10, yX0_findWay, cX0_findWay, (some .boolean), RX0) [903, 904, 33, 905] = true := by decide +kernel
theorem om_X0_comeBy : okM (C_X0_comeBy, 3, yX0_comeBy, cX0_comeBy, (some .int), RX0) [907, 908, 33, 909] = true := by decide +kernel
theorem om_X0_takeWay : okM (C_X0_takeWay, 7, yX0_takeWay, cX0_takeWay, none, RX0) [911, 912, 33, 913] = true := by decide +kernel
theorem om_X1_findWrong : okM (C_X1_findWrong, 7, yX1_findWrong, cX1_findWrong, (some .int), RX1) [1065, 1066, 49, 1067] = true := by decide +kernel
theorem om_X1_takeToldLeg : okM (C_X1_takeToldLeg, 8, yX1_takeToldLeg, cX1_takeToldLeg, (some .boolean), RX1) [1070, 1071, 49, 1072] = true := by decide +kernel
theorem om_X1_takeDrawnLeg : okM (C_X1_takeDrawnLeg, 7, yX1_takeDrawnLeg, cX1_takeDrawnLeg, none, RX1) [1137, 1138, 49, 1139] = true := by decide +kernel
theorem om_X2_joinAll : okM (C_X2_joinAll, 5, yX2_joinAll, cX2_joinAll, (some .boolean), RX2) [1033, 1034, 41, 1035] = true := by decide +kernel
theorem om_X2_joins : okM (C_X2_joins, 6, yX2_joins, cX2_joins, (some .boolean), RX2) [1037, 1038, 41, 1039] = true := by decide +kernel
theorem om_X3_read : okM (C_X3_read, 5, yX3_read, cX3_read, none, RX3) [946, 947, 37, 948] = true := by decide +kernel
theorem om_X3_hear : okM (C_X3_hear, 5, yX3_hear, cX3_hear, none, RX3) [952, 953, 37, 954] = true := by decide +kernel
theorem om_X3_fittingTubes : okM (C_X3_fittingTubes, 4, yX3_fittingTubes, cX3_fittingTubes, (some .int), RX3) [963, 964, 37, 965] = true := by decide +kernel
theorem om_X3_fits : okM (C_X3_fits, 7, yX3_fits, cX3_fits, (some .boolean), RX3) [967, 968, 37, 969] = true := by decide +kernel
theorem om_X3_nextDesk : okM (C_X3_nextDesk, 9, yX3_nextDesk, cX3_nextDesk, (some .int), RX3) [998, 999, 37, 1000] = true := by decide +kernel
theorem om_X3_mostLeft : okM (C_X3_mostLeft, 9, yX3_mostLeft, cX3_mostLeft, (some .int), RX3) [1004, 1005, 37, 1006] = true := by decide +kernel
theorem om_X3_lateness : okM (C_X3_lateness, 4, yX3_lateness, cX3_lateness, (some .int), RX3) [1009, 1010, 37, 1011] = true := by decide +kernel
theorem om_X4_hasDesk : okM (C_X4_hasDesk, 2, yX4_hasDesk, cX4_hasDesk, (some .boolean), RX4) [369, 370, 15, 371] = true := by decide +kernel
theorem om_X4_hasTube : okM (C_X4_hasTube, 2, yX4_hasTube, cX4_hasTube, (some .boolean), RX4) [389, 390, 15, 391] = true := by decide +kernel
theorem om_X4_hasCapsule : okM (C_X4_hasCapsule, 2, yX4_hasCapsule, cX4_hasCapsule, (some .boolean), RX4) [291, 292, 15, 293] = true := by decide +kernel
theorem om_X4_hasRoomForDesk : okM (C_X4_hasRoomForDesk, 1, yX4_hasRoomForDesk, cX4_hasRoomForDesk, (some .boolean), RX4) [348, 349, 15, 350] = true := by decide +kernel
theorem om_X4_hasRoomForTube : okM (C_X4_hasRoomForTube, 1, yX4_hasRoomForTube, cX4_hasRoomForTube, (some .boolean), RX4) [376, 377, 15, 378] = true := by decide +kernel
theorem om_X4_hasRoomForCapsule : okM (C_X4_hasRoomForCapsule, 1, yX4_hasRoomForCapsule, cX4_hasRoomForCapsule, (some .boolean), RX4) [410, 411, 15, 412] = true := by decide +kernel
theorem om_X4_addDesk : okM (C_X4_addDesk, 1, yX4_addDesk, cX4_addDesk, none, RX4) [352, 353, 15, 354] = true := by decide +kernel
theorem om_X4_addTube : okM (C_X4_addTube, 5, yX4_addTube, cX4_addTube, none, RX4) [380, 381, 15, 382] = true := by decide +kernel
theorem om_X4_addCapsule : okM (C_X4_addCapsule, 5, yX4_addCapsule, cX4_addCapsule, none, RX4) [414, 415, 15, 416] = true := by decide +kernel
theorem om_X4_isShut : okM (C_X4_isShut, 2, yX4_isShut, cX4_isShut, (some .boolean), RX4) [432, 433, 15, 434] = true := by decide +kernel
theorem om_X4_putShut : okM (C_X4_putShut, 3, yX4_putShut, cX4_putShut, none, RX4) [385, 386, 15, 387] = true := by decide +kernel
theorem om_X4_takeOver : okM (C_X4_takeOver, 2, yX4_takeOver, cX4_takeOver, none, RX4) [482, 483, 15, 484] = true := by decide +kernel
theorem om_X4_minutesThrough : okM (C_X4_minutesThrough, 5, yX4_minutesThrough, cX4_minutesThrough, (some .int), RX4) [664, 665, 15, 666] = true := by decide +kernel
theorem om_X4_dividedUpward : okM (C_X4_dividedUpward, 2, yX4_dividedUpward, cX4_dividedUpward, (some .int), RX4) [672, 15, 673] = true := by decide +kernel
theorem om_X4_mayGo : okM (C_X4_mayGo, 4, yX4_mayGo, cX4_mayGo, (some .boolean), RX4) [706, 707, 15, 708] = true := by decide +kernel
theorem om_X4_goTo : okM (C_X4_goTo, 5, yX4_goTo, cX4_goTo, none, RX4) [1077, 1078, 15, 1079] = true := by decide +kernel
theorem om_X4_draw : okM (C_X4_draw, 2, yX4_draw, cX4_draw, (some .int), RX4) [1141, 1142, 15, 1143] = true := by decide +kernel
theorem om_X4_signedTogether : okM (C_X4_signedTogether, 3, yX4_signedTogether, cX4_signedTogether, (some .int), RX4) [1252, 1253, 15, 1254] = true := by decide +kernel
theorem om_X4_shutTubes : okM (C_X4_shutTubes, 1, yX4_shutTubes, cX4_shutTubes, (some .int), RX4) [1256, 1257, 15, 1258] = true := by decide +kernel
theorem om_X5_forget : okM (C_X5_forget, 1, yX5_forget, cX5_forget, none, RX5) [1167, 1168, 53, 1169] = true := by decide +kernel
theorem om_X5_bodyAt : okM (C_X5_bodyAt, 2, yX5_bodyAt, cX5_bodyAt, (some .int), RX5) [1219, 1220, 53, 1221] = true := by decide +kernel
theorem om_X5_run : okM (C_X5_run, 6, yX5_run, cX5_run, (some .int), RX5) [1171, 1172, 53, 1173] = true := by decide +kernel
theorem om_X5_begin : okM (C_X5_begin, 2, yX5_begin, cX5_begin, none, RX5) [1179, 1180, 53, 1181] = true := by decide +kernel
theorem om_X5_hissesFrom : okM (C_X5_hissesFrom, 3, yX5_hissesFrom, cX5_hissesFrom, (some .int), RX5) [1175, 1176, 53, 1177] = true := by decide +kernel
theorem om_X5_landsFrom : okM (C_X5_landsFrom, 3, yX5_landsFrom, cX5_landsFrom, (some .int), RX5) [1183, 1184, 53, 1185] = true := by decide +kernel
theorem om_X5_signsFrom : okM (C_X5_signsFrom, 3, yX5_signsFrom, cX5_signsFrom, (some .int), RX5) [1187, 1188, 53, 1189] = true := by decide +kernel
theorem om_X6_findFault : okM (C_X6_findFault, 5, yX6_findFault, cX6_findFault, (some .int), RX6) [487, 488, 45, 489] = true := by decide +kernel
theorem om_X6_failAt : okM (C_X6_failAt, 2, yX6_failAt, cX6_failAt, (some .boolean), RX6) [557, 558, 45, 559] = true := by decide +kernel
theorem om_X6_letterHere : okM (C_X6_letterHere, 1, yX6_letterHere, cX6_letterHere, (some .int), RX6) [553, 554, 45, 555] = true := by decide +kernel
theorem om_X6_isDigitHere : okM (C_X6_isDigitHere, 1, yX6_isDigitHere, cX6_isDigitHere, (some .boolean), RX6) [586, 587, 45, 588] = true := by decide +kernel
theorem om_X6_readSign : okM (C_X6_readSign, 2, yX6_readSign, cX6_readSign, (some .boolean), RX6) [569, 570, 45, 571] = true := by decide +kernel
theorem om_X6_readItem : okM (C_X6_readItem, 6, yX6_readItem, cX6_readItem, (some .boolean), RX6) [501, 502, 45, 503] = true := by decide +kernel
theorem om_X6_wordThatBeginsHere : okM (C_X6_wordThatBeginsHere, 2, yX6_wordThatBeginsHere, cX6_wordThatBeginsHere, (some .int), RX6) [505, 506, 45, 507] = true := by decide +kernel
theorem om_X6_textOf : okM (C_X6_textOf, 1, yX6_textOf, cX6_textOf, (some (.object "java/lang/String")), RX6) [509, 45, 510] = true := by decide +kernel
theorem om_X6_numbersOf : okM (C_X6_numbersOf, 1, yX6_numbersOf, cX6_numbersOf, (some .int), RX6) [579, 45, 580] = true := by decide +kernel
theorem om_X6_hasRoomFor : okM (C_X6_hasRoomFor, 2, yX6_hasRoomFor, cX6_hasRoomFor, (some .boolean), RX6) [573, 45, 574] = true := by decide +kernel
theorem om_X6_readNumber : okM (C_X6_readNumber, 6, yX6_readNumber, cX6_readNumber, (some .boolean), RX6) [582, 583, 45, 584] = true := by decide +kernel
theorem om_X6_mayStand : okM (C_X6_mayStand, 5, yX6_mayStand, cX6_mayStand, (some .boolean), RX6) [590, 591, 45, 592] = true := by decide +kernel
theorem om_X6_mayStandInTube : okM (C_X6_mayStandInTube, 4, yX6_mayStandInTube, cX6_mayStandInTube, (some .boolean), RX6) [594, 595, 45, 596] = true := by decide +kernel
theorem om_X6_mayStandInCapsule : okM (C_X6_mayStandInCapsule, 3, yX6_mayStandInCapsule, cX6_mayStandInCapsule, (some .boolean), RX6) [599, 45, 600] = true := by decide +kernel
theorem om_X6_tell : okM (C_X6_tell, 3, yX6_tell, cX6_tell, none, RX6) [603, 604, 45, 605] = true := by decide +kernel
theorem om_X7_leastMinutes : okM (C_X7_leastMinutes, 7, yX7_leastMinutes, cX7_leastMinutes, (some .int), RX7) [830, 831, 29, 832] = true := by decide +kernel
theorem om_X7_bestOf : okM (C_X7_bestOf, 4, yX7_bestOf, cX7_bestOf, (some .int), RX7) [844, 845, 29, 846] = true := by decide +kernel
theorem om_X7_leastFrom : okM (C_X7_leastFrom, 7, yX7_leastFrom, cX7_leastFrom, (some .int), RX7) [834, 835, 29, 836] = true := by decide +kernel
theorem om_X7_leastOver : okM (C_X7_leastOver, 8, yX7_leastOver, cX7_leastOver, (some .int), RX7) [839, 840, 29, 841] = true := by decide +kernel
theorem om_X7_deskOfOrder : okM (C_X7_deskOfOrder, 10, yX7_deskOfOrder, cX7_deskOfOrder, (some .int), RX7) [848, 849, 29, 850] = true := by decide +kernel
theorem om_X7_nextOfOrder : okM (C_X7_nextOfOrder, 6, yX7_nextOfOrder, cX7_nextOfOrder, (some .int), RX7) [852, 853, 29, 854] = true := by decide +kernel
theorem om_X8_hasShelf : okM (C_X8_hasShelf, 2, yX8_hasShelf, cX8_hasShelf, (some .boolean), RX8) [172, 173, 21, 174] = true := by decide +kernel
theorem om_X8_hasRow : okM (C_X8_hasRow, 2, yX8_hasRow, cX8_hasRow, (some .boolean), RX8) [261, 262, 21, 263] = true := by decide +kernel
theorem om_X8_heldAt : okM (C_X8_heldAt, 2, yX8_heldAt, cX8_heldAt, (some .int), RX8) [213, 214, 21, 215] = true := by decide +kernel
theorem om_X8_sizeOf : okM (C_X8_sizeOf, 2, yX8_sizeOf, cX8_sizeOf, (some .int), RX8) [217, 218, 21, 219] = true := by decide +kernel
theorem om_X8_putRow : okM (C_X8_putRow, 4, yX8_putRow, cX8_putRow, none, RX8) [180, 181, 21, 182] = true := by decide +kernel
theorem om_X8_putHeld : okM (C_X8_putHeld, 3, yX8_putHeld, cX8_putHeld, none, RX8) [295, 296, 21, 297] = true := by decide +kernel
theorem om_X8_hasElement : okM (C_X8_hasElement, 3, yX8_hasElement, cX8_hasElement, (some .boolean), RX8) [225, 226, 21, 227] = true := by decide +kernel
theorem om_X8_elementAt : okM (C_X8_elementAt, 3, yX8_elementAt, cX8_elementAt, (some .long), RX8) [279, 280, 21, 281] = true := by decide +kernel
theorem om_X8_intAt : okM (C_X8_intAt, 3, yX8_intAt, cX8_intAt, (some .int), RX8) [496, 497, 21, 498] = true := by decide +kernel
theorem om_X8_putElement : okM (C_X8_putElement, 5, yX8_putElement, cX8_putElement, none, RX8) [221, 222, 21, 223] = true := by decide +kernel
theorem om_X8_lowestBits : okM (C_X8_lowestBits, 3, yX8_lowestBits, cX8_lowestBits, (some .long), RX8) [230, 21, 231] = true := by decide +kernel
theorem om_X8_hasPart : okM (C_X8_hasPart, 4, yX8_hasPart, cX8_hasPart, (some .boolean), RX8) [249, 250, 21, 251] = true := by decide +kernel
theorem om_X8_copyPart : okM (C_X8_copyPart, 6, yX8_copyPart, cX8_copyPart, none, RX8) [253, 254, 21, 255] = true := by decide +kernel
theorem om_X8_dropCapsulesFrom : okM (C_X8_dropCapsulesFrom, 3, yX8_dropCapsulesFrom, cX8_dropCapsulesFrom, none, RX8) [1240, 1241, 21, 1242] = true := by decide +kernel
theorem om_X9_prepareFor : okM (C_X9_prepareFor, 5, yX9_prepareFor, cX9_prepareFor, none, RX9) [701, 702, 25, 703] = true := by decide +kernel
theorem om_X9_prepareForKnocks : okM (C_X9_prepareForKnocks, 3, yX9_prepareForKnocks, cX9_prepareForKnocks, none, RX9) [956, 957, 25, 958] = true := by decide +kernel
theorem om_X9_passableTubes : okM (C_X9_passableTubes, 4, yX9_passableTubes, cX9_passableTubes, (some .int), RX9) [803, 804, 25, 805] = true := by decide +kernel
theorem om_X9_spread : okM (C_X9_spread, 6, yX9_spread, cX9_spread, none, RX9) [710, 711, 25, 712] = true := by decide +kernel
theorem om_X9_comesNearer : okM (C_X9_comesNearer, 4, yX9_comesNearer, cX9_comesNearer, (some .boolean), RX9) [718, 719, 25, 720] = true := by decide +kernel
theorem om_X9_fillTable : okM (C_X9_fillTable, 3, yX9_fillTable, cX9_fillTable, none, RX9) [732, 733, 25, 734] = true := by decide +kernel
theorem om_X9_between : okM (C_X9_between, 3, yX9_between, cX9_between, (some .int), RX9) [737, 738, 25, 739] = true := by decide +kernel
theorem om_X9_minutesTo : okM (C_X9_minutesTo, 5, yX9_minutesTo, cX9_minutesTo, (some .int), RX9) [696, 697, 25, 698] = true := by decide +kernel
theorem om_X9_stepsTo : okM (C_X9_stepsTo, 4, yX9_stepsTo, cX9_stepsTo, (some .int), RX9) [741, 742, 25, 743] = true := by decide +kernel
theorem om_X9_reached : okM (C_X9_reached, 3, yX9_reached, cX9_reached, (some .int), RX9) [724, 725, 25, 726] = true := by decide +kernel
theorem om_X9_firstTubeTo : okM (C_X9_firstTubeTo, 7, yX9_firstTubeTo, cX9_firstTubeTo, (some .int), RX9) [728, 729, 25, 730] = true := by decide +kernel
theorem om_X9_desksWithin : okM (C_X9_desksWithin, 5, yX9_desksWithin, cX9_desksWithin, (some .int), RX9) [808, 809, 25, 810] = true := by decide +kernel
theorem om_X9_keepReach : okM (C_X9_keepReach, 1, yX9_keepReach, cX9_keepReach, none, RX9) [872, 873, 25, 874] = true := by decide +kernel
theorem om_X9_laterAt : okM (C_X9_laterAt, 2, yX9_laterAt, cX9_laterAt, (some .int), RX9) [880, 881, 25, 882] = true := by decide +kernel
theorem om_X9_deskToMeet : okM (C_X9_deskToMeet, 5, yX9_deskToMeet, cX9_deskToMeet, (some .int), RX9) [876, 877, 25, 878] = true := by decide +kernel
theorem om_X9_longestFrom : okM (C_X9_longestFrom, 5, yX9_longestFrom, cX9_longestFrom, (some .int), RX9) [1049, 1050, 25, 1051] = true := by decide +kernel
theorem om_X10_row : okM (C_X10_row, 4, yX10_row, cX10_row, (some .int), RX10) [168, 169, 2, 170] = true := by decide +kernel
theorem om_X10_set : okM (C_X10_set, 6, yX10_set, cX10_set, (some .int), RX10) [205, 206, 2, 207] = true := by decide +kernel
theorem om_X10_copy : okM (C_X10_copy, 7, yX10_copy, cX10_copy, (some .int), RX10) [241, 242, 2, 243] = true := by decide +kernel
theorem om_X10_element : okM (C_X10_element, 3, yX10_element, cX10_element, (some .long), RX10) [275, 276, 2, 277] = true := by decide +kernel
theorem om_X10_show : okM (C_X10_show, 3, yX10_show, cX10_show, (some .int), RX10) [287, 288, 2, 289] = true := by decide +kernel
theorem om_X10_holds : okM (C_X10_holds, 2, yX10_holds, cX10_holds, (some .int), RX10) [307, 308, 2, 309] = true := by decide +kernel
theorem om_X10_says : okM (C_X10_says, 4, yX10_says, cX10_says, (some .int), RX10) [315, 316, 2, 317] = true := by decide +kernel
theorem om_X10_desk : okM (C_X10_desk, 1, yX10_desk, cX10_desk, (some .int), RX10) [344, 345, 2, 346] = true := by decide +kernel
theorem om_X10_tube : okM (C_X10_tube, 5, yX10_tube, cX10_tube, (some .int), RX10) [365, 366, 2, 367] = true := by decide +kernel
theorem om_X10_capsule : okM (C_X10_capsule, 5, yX10_capsule, cX10_capsule, (some .int), RX10) [406, 407, 2, 408] = true := by decide +kernel
theorem om_X10_shut : okM (C_X10_shut, 4, yX10_shut, cX10_shut, (some .int), RX10) [427, 428, 2, 429] = true := by decide +kernel
theorem om_X10_ask : okM (C_X10_ask, 3, yX10_ask, cX10_ask, (some .int), RX10) [445, 446, 2, 447] = true := by decide +kernel
theorem om_X10_capsuleOf : okM (C_X10_capsuleOf, 3, yX10_capsuleOf, cX10_capsuleOf, (some .int), RX10) [453, 454, 2, 455] = true := by decide +kernel
theorem om_X10_tubeOf : okM (C_X10_tubeOf, 3, yX10_tubeOf, cX10_tubeOf, (some .int), RX10) [461, 462, 2, 463] = true := by decide +kernel
theorem om_X10_signed : okM (C_X10_signed, 2, yX10_signed, cX10_signed, (some .int), RX10) [470, 471, 2, 472] = true := by decide +kernel
theorem om_X10_plan : okM (C_X10_plan, 3, yX10_plan, cX10_plan, (some .int), RX10) [478, 479, 2, 480] = true := by decide +kernel
theorem om_X10_fault : okM (C_X10_fault, 1, yX10_fault, cX10_fault, (some .int), RX10) [652, 653, 2, 654] = true := by decide +kernel
theorem om_X10_time : okM (C_X10_time, 3, yX10_time, cX10_time, (some .int), RX10) [660, 661, 2, 662] = true := by decide +kernel
theorem om_X10_way : okM (C_X10_way, 4, yX10_way, cX10_way, (some .int), RX10) [692, 693, 2, 694] = true := by decide +kernel
theorem om_X10_within : okM (C_X10_within, 3, yX10_within, cX10_within, (some .int), RX10) [798, 799, 2, 800] = true := by decide +kernel
theorem om_X10_round : okM (C_X10_round, 8, yX10_round, cX10_round, (some .int), RX10) [818, 819, 2, 820] = true := by decide +kernel
theorem om_X10_meet : okM (C_X10_meet, 5, yX10_meet, cX10_meet, (some .int), RX10) [868, 869, 2, 870] = true := by decide +kernel
theorem om_X10_cut : okM (C_X10_cut, 5, yX10_cut, cX10_cut, (some .int), RX10) [890, 891, 2, 892] = true := by decide +kernel
theorem om_X10_stuck : okM (C_X10_stuck, 4, yX10_stuck, cX10_stuck, (some .int), RX10) [937, 938, 2, 939] = true := by decide +kernel
theorem om_X10_listen : okM (C_X10_listen, 4, yX10_listen, cX10_listen, (some .int), RX10) [994, 995, 2, 996] = true := by decide +kernel
theorem om_X10_enough : okM (C_X10_enough, 6, yX10_enough, cX10_enough, (some .int), RX10) [1021, 1022, 2, 1023] = true := by decide +kernel
theorem om_X10_tree : okM (C_X10_tree, 2, yX10_tree, cX10_tree, (some .int), RX10) [1029, 1030, 2, 1031] = true := by decide +kernel
theorem om_X10_seat : okM (C_X10_seat, 5, yX10_seat, cX10_seat, (some .int), RX10) [1045, 1046, 2, 1047] = true := by decide +kernel
theorem om_X10_judge : okM (C_X10_judge, 4, yX10_judge, cX10_judge, (some .int), RX10) [1057, 1058, 2, 1059] = true := by decide +kernel
theorem om_X10_behind : okM (C_X10_behind, 5, yX10_behind, cX10_behind, (some .int), RX10) [1100, 1101, 2, 1102] = true := by decide +kernel
theorem om_X10_done : okM (C_X10_done, 4, yX10_done, cX10_done, (some .int), RX10) [1116, 1117, 2, 1118] = true := by decide +kernel
theorem om_X10_send : okM (C_X10_send, 5, yX10_send, cX10_send, (some .int), RX10) [1124, 1125, 2, 1126] = true := by decide +kernel
theorem om_X10_months : okM (C_X10_months, 3, yX10_months, cX10_months, (some .int), RX10) [1133, 1134, 2, 1135] = true := by decide +kernel
theorem om_X10_seed : okM (C_X10_seed, 3, yX10_seed, cX10_seed, (some .int), RX10) [1155, 1156, 2, 1157] = true := by decide +kernel
theorem om_X10_act : okM (C_X10_act, 4, yX10_act, cX10_act, (some .int), RX10) [1163, 1164, 2, 1165] = true := by decide +kernel
theorem om_X10_trace : okM (C_X10_trace, 2, yX10_trace, cX10_trace, (some .int), RX10) [1215, 1216, 2, 1217] = true := by decide +kernel
theorem om_X10_image : okM (C_X10_image, 1, yX10_image, cX10_image, (some .int), RX10) [1227, 1228, 2, 1229] = true := by decide +kernel
theorem om_X10_restore : okM (C_X10_restore, 1, yX10_restore, cX10_restore, (some .int), RX10) [1236, 1237, 2, 1238] = true := by decide +kernel
theorem om_X10_status : okM (C_X10_status, 2, yX10_status, cX10_status, (some .int), RX10) [1248, 1249, 2, 1250] = true := by decide +kernel
theorem om_X10_refuse : okM (C_X10_refuse, 3, yX10_refuse, cX10_refuse, (some .int), RX10) [176, 177, 2, 178] = true := by decide +kernel
theorem om_X10_rowRefusal : okM (C_X10_rowRefusal, 3, yX10_rowRefusal, cX10_rowRefusal, (some .int), RX10) [209, 210, 2, 211] = true := by decide +kernel
theorem om_X10_copyRefusal : okM (C_X10_copyRefusal, 5, yX10_copyRefusal, cX10_copyRefusal, (some .int), RX10) [245, 246, 2, 247] = true := by decide +kernel
theorem om_X10_knocksRefusal : okM (C_X10_knocksRefusal, 6, yX10_knocksRefusal, cX10_knocksRefusal, (some .int), RX10) [941, 942, 2, 943] = true := by decide +kernel
theorem om_X10_legsRefusal : okM (C_X10_legsRefusal, 4, yX10_legsRefusal, cX10_legsRefusal, (some .int), RX10) [1061, 1062, 2, 1063] = true := by decide +kernel
theorem om_X10_standsOnDraft : okM (C_X10_standsOnDraft, 3, yX10_standsOnDraft, cX10_standsOnDraft, (some .boolean), RX10) [1104, 1105, 2, 1106] = true := by decide +kernel
theorem om_X10_isOneToNine : okM (C_X10_isOneToNine, 1, yX10_isOneToNine, cX10_isOneToNine, (some .boolean), RX10) [373, 2, 374] = true := by decide +kernel
theorem om_X10_isDeskNumber : okM (C_X10_isDeskNumber, 1, yX10_isDeskNumber, cX10_isDeskNumber, (some .boolean), RX10) [721, 2, 722] = true := by decide +kernel
theorem om_X10_isUnder : okM (C_X10_isUnder, 4, yX10_isUnder, cX10_isUnder, (some .boolean), RX10) [319, 2, 320] = true := by decide +kernel
theorem om_X11_isIn : okM (C_X11_isIn, 6, yX11_isIn, cX11_isIn, (some .boolean), RX11) [198, 5, 199] = true := by decide +kernel
theorem om_X11_refuse : okM (C_X11_refuse, 2, yX11_refuse, cX11_refuse, (some .int), RX11) [201, 202, 5, 203] = true := by decide +kernel
theorem om_X11_refuseBy10 : okM (C_X11_refuseBy10, 2, yX11_refuseBy10, cX11_refuseBy10, (some .int), RX11) [750, 751, 5, 752] = true := by decide +kernel
theorem om_X11_move : okM (C_X11_move, 3, yX11_move, cX11_move, none, RX11) [617, 5, 618] = true := by decide +kernel
theorem om_X11_isDesk : okM (C_X11_isDesk, 3, yX11_isDesk, cX11_isDesk, (some .boolean), RX11) [398, 399, 5, 400] = true := by decide +kernel
theorem om_X11_isTube : okM (C_X11_isTube, 2, yX11_isTube, cX11_isTube, (some .boolean), RX11) [441, 442, 5, 443] = true := by decide +kernel
theorem om_X11_isCapsule : okM (C_X11_isCapsule, 3, yX11_isCapsule, cX11_isCapsule, (some .boolean), RX11) [303, 304, 5, 305] = true := by decide +kernel
theorem om_X11_from : okM (C_X11_from, 2, yX11_from, cX11_from, (some .int), RX11) [770, 771, 5, 772] = true := by decide +kernel
theorem om_X11_to : okM (C_X11_to, 2, yX11_to, cX11_to, (some .int), RX11) [774, 775, 5, 776] = true := by decide +kernel
theorem om_X11_length : okM (C_X11_length, 2, yX11_length, cX11_length, (some .int), RX11) [684, 685, 5, 686] = true := by decide +kernel
theorem om_X11_bore : okM (C_X11_bore, 2, yX11_bore, cX11_bore, (some .int), RX11) [688, 689, 5, 690] = true := by decide +kernel
theorem om_X11_isShut : okM (C_X11_isShut, 2, yX11_isShut, cX11_isShut, (some .boolean), RX11) [766, 767, 5, 768] = true := by decide +kernel
theorem om_X11_kind : okM (C_X11_kind, 2, yX11_kind, cX11_kind, (some .int), RX11) [328, 329, 5, 330] = true := by decide +kernel
theorem om_X11_a : okM (C_X11_a, 2, yX11_a, cX11_a, (some .int), RX11) [336, 337, 5, 338] = true := by decide +kernel
theorem om_X11_weight : okM (C_X11_weight, 2, yX11_weight, cX11_weight, (some .int), RX11) [340, 341, 5, 342] = true := by decide +kernel
theorem om_X11_at : okM (C_X11_at, 2, yX11_at, cX11_at, (some .int), RX11) [332, 333, 5, 334] = true := by decide +kernel
theorem om_X11_addDesk : okM (C_X11_addDesk, 2, yX11_addDesk, cX11_addDesk, (some .int), RX11) [361, 362, 5, 363] = true := by decide +kernel
theorem om_X11_addTube : okM (C_X11_addTube, 6, yX11_addTube, cX11_addTube, (some .int), RX11) [402, 403, 5, 404] = true := by decide +kernel
theorem om_X11_addCapsule : okM (C_X11_addCapsule, 6, yX11_addCapsule, cX11_addCapsule, (some .int), RX11) [423, 424, 5, 425] = true := by decide +kernel
theorem om_X11_desk : okM (C_X11_desk, 1, yX11_desk, cX11_desk, (some .int), RX11) [357, 358, 5, 359] = true := by decide +kernel
theorem om_X11_tube : okM (C_X11_tube, 5, yX11_tube, cX11_tube, (some .int), RX11) [393, 394, 5, 395] = true := by decide +kernel
theorem om_X11_capsule : okM (C_X11_capsule, 5, yX11_capsule, cX11_capsule, (some .int), RX11) [419, 420, 5, 421] = true := by decide +kernel
theorem om_X11_shut : okM (C_X11_shut, 4, yX11_shut, cX11_shut, (some .int), RX11) [437, 438, 5, 439] = true := by decide +kernel
theorem om_X11_ask : okM (C_X11_ask, 3, yX11_ask, cX11_ask, (some .int), RX11) [449, 450, 5, 451] = true := by decide +kernel
theorem om_X11_capsuleOf : okM (C_X11_capsuleOf, 3, yX11_capsuleOf, cX11_capsuleOf, (some .int), RX11) [457, 458, 5, 459] = true := by decide +kernel
theorem om_X11_tubeOf : okM (C_X11_tubeOf, 3, yX11_tubeOf, cX11_tubeOf, (some .int), RX11) [465, 466, 5, 467] = true := by decide +kernel
theorem om_X11_signed : okM (C_X11_signed, 2, yX11_signed, cX11_signed, (some .int), RX11) [474, 475, 5, 476] = true := by decide +kernel
theorem om_X11_isShelf : okM (C_X11_isShelf, 1, yX11_isShelf, cX11_isShelf, (some .boolean), RX11) [194, 5, 195] = true := by decide +kernel
theorem om_X11_row : okM (C_X11_row, 5, yX11_row, cX11_row, (some .int), RX11) [189, 190, 5, 191] = true := by decide +kernel
theorem om_X11_rowIn : okM (C_X11_rowIn, 2, yX11_rowIn, cX11_rowIn, (some .int), RX11) [237, 238, 5, 239] = true := by decide +kernel
theorem om_X11_set : okM (C_X11_set, 6, yX11_set, cX11_set, (some .int), RX11) [233, 234, 5, 235] = true := by decide +kernel
theorem om_X11_isCapsuleIn : okM (C_X11_isCapsuleIn, 2, yX11_isCapsuleIn, cX11_isCapsuleIn, (some .boolean), RX11) [270, 271, 5, 272] = true := by decide +kernel
theorem om_X11_copy : okM (C_X11_copy, 8, yX11_copy, cX11_copy, (some .int), RX11) [266, 267, 5, 268] = true := by decide +kernel
theorem om_X11_element : okM (C_X11_element, 3, yX11_element, cX11_element, (some .long), RX11) [283, 284, 5, 285] = true := by decide +kernel
theorem om_X11_told : okM (C_X11_told, 3, yX11_told, cX11_told, (some .int), RX11) [633, 634, 5, 635] = true := by decide +kernel
theorem om_X11_show : okM (C_X11_show, 3, yX11_show, cX11_show, (some .int), RX11) [299, 300, 5, 301] = true := by decide +kernel
theorem om_X11_holds : okM (C_X11_holds, 2, yX11_holds, cX11_holds, (some .int), RX11) [311, 312, 5, 313] = true := by decide +kernel
theorem om_X11_says : okM (C_X11_says, 5, yX11_says, cX11_says, (some .int), RX11) [323, 324, 5, 325] = true := by decide +kernel
theorem om_X11_letter : okM (C_X11_letter, 1, yX11_letter, cX11_letter, (some .int), RX11) [629, 630, 5, 631] = true := by decide +kernel
theorem om_X11_isFault : okM (C_X11_isFault, 2, yX11_isFault, cX11_isFault, (some .boolean), RX11) [638, 639, 5, 640] = true := by decide +kernel
theorem om_X11_isLetter : okM (C_X11_isLetter, 2, yX11_isLetter, cX11_isLetter, (some .boolean), RX11) [648, 649, 5, 650] = true := by decide +kernel
theorem om_X11_word : okM (C_X11_word, 6, yX11_word, cX11_word, (some .int), RX11) [624, 625, 5, 626] = true := by decide +kernel
theorem om_X11_number : okM (C_X11_number, 7, yX11_number, cX11_number, (some .int), RX11) [642, 643, 5, 644] = true := by decide +kernel
theorem om_X11_isItem : okM (C_X11_isItem, 7, yX11_isItem, cX11_isItem, (some .boolean), RX11) [620, 621, 5, 622] = true := by decide +kernel
theorem om_X11_plan : okM (C_X11_plan, 4, yX11_plan, cX11_plan, (some .int), RX11) [611, 612, 5, 613] = true := by decide +kernel
theorem om_X11_fault : okM (C_X11_fault, 1, yX11_fault, cX11_fault, (some .int), RX11) [656, 657, 5, 658] = true := by decide +kernel
theorem om_X11_may : okM (C_X11_may, 5, yX11_may, cX11_may, (some .boolean), RX11) [762, 763, 5, 764] = true := by decide +kernel
theorem om_X11_timeOf : okM (C_X11_timeOf, 7, yX11_timeOf, cX11_timeOf, (some .int), RX11) [679, 680, 5, 681] = true := by decide +kernel
theorem om_X11_time : okM (C_X11_time, 3, yX11_time, cX11_time, (some .int), RX11) [675, 676, 5, 677] = true := by decide +kernel
theorem om_X11_clear : okM (C_X11_clear, 2, yX11_clear, cX11_clear, none, RX11) [758, 759, 5, 760] = true := by decide +kernel
theorem om_X11_nearer : okM (C_X11_nearer, 4, yX11_nearer, cX11_nearer, none, RX11) [778, 779, 5, 780] = true := by decide +kernel
theorem om_X11_close : okM (C_X11_close, 4, yX11_close, cX11_close, none, RX11) [783, 784, 5, 785] = true := by decide +kernel
theorem om_X11_fill : okM (C_X11_fill, 5, yX11_fill, cX11_fill, none, RX11) [754, 755, 5, 756] = true := by decide +kernel
theorem om_X11_way : okM (C_X11_way, 3, yX11_way, cX11_way, (some .int), RX11) [791, 792, 5, 793] = true := by decide +kernel
theorem om_X11_orNone : okM (C_X11_orNone, 1, yX11_orNone, cX11_orNone, (some .int), RX11) [795, 5, 796] = true := by decide +kernel
theorem om_X11_first : okM (C_X11_first, 8, yX11_first, cX11_first, (some .int), RX11) [787, 788, 5, 789] = true := by decide +kernel
theorem om_X11_way_ : okM (C_X11_way_, 4, yX11_way_, cX11_way_, (some .int), RX11) [745, 746, 5, 747] = true := by decide +kernel
theorem om_X11_within : okM (C_X11_within, 5, yX11_within, cX11_within, (some .int), RX11) [812, 813, 5, 814] = true := by decide +kernel
theorem om_X11_ones : okM (C_X11_ones, 3, yX11_ones, cX11_ones, (some .int), RX11) [861, 5, 862] = true := by decide +kernel
theorem om_X11_fillRounds : okM (C_X11_fillRounds, 5, yX11_fillRounds, cX11_fillRounds, none, RX11) [864, 865, 5, 866] = true := by decide +kernel
theorem om_X11_round : okM (C_X11_round, 13, yX11_round, cX11_round, (some .int), RX11) [856, 857, 5, 858] = true := by decide +kernel
theorem om_X11_meet : okM (C_X11_meet, 8, yX11_meet, cX11_meet, (some .int), RX11) [886, 887, 5, 888] = true := by decide +kernel
theorem om_X11_push : okM (C_X11_push, 11, yX11_push, cX11_push, (some .boolean), RX11) [933, 934, 5, 935] = true := by decide +kernel
theorem om_X11_pushes : okM (C_X11_pushes, 4, yX11_pushes, cX11_pushes, (some .boolean), RX11) [929, 930, 5, 931] = true := by decide +kernel
theorem om_X11_keep : okM (C_X11_keep, 6, yX11_keep, cX11_keep, (some .int), RX11) [925, 926, 5, 927] = true := by decide +kernel
theorem om_X11_cut : okM (C_X11_cut, 5, yX11_cut, cX11_cut, (some .int), RX11) [921, 922, 5, 923] = true := by decide +kernel
theorem om_X11_sound : okM (C_X11_sound, 2, yX11_sound, cX11_sound, none, RX11) [986, 987, 5, 988] = true := by decide +kernel
theorem om_X11_heard : okM (C_X11_heard, 3, yX11_heard, cX11_heard, (some .int), RX11) [990, 991, 5, 992] = true := by decide +kernel
theorem om_X11_knocks : okM (C_X11_knocks, 5, yX11_knocks, cX11_knocks, (some .int), RX11) [976, 977, 5, 978] = true := by decide +kernel
theorem om_X11_fit : okM (C_X11_fit, 9, yX11_fit, cX11_fit, (some .int), RX11) [982, 983, 5, 984] = true := by decide +kernel
theorem om_X11_stuck : okM (C_X11_stuck, 4, yX11_stuck, cX11_stuck, (some .int), RX11) [972, 973, 5, 974] = true := by decide +kernel
theorem om_X11_lag : okM (C_X11_lag, 5, yX11_lag, cX11_lag, (some .int), RX11) [1017, 1018, 5, 1019] = true := by decide +kernel
theorem om_X11_listen : okM (C_X11_listen, 14, yX11_listen, cX11_listen, (some .int), RX11) [1013, 1014, 5, 1015] = true := by decide +kernel
theorem om_X11_enough : okM (C_X11_enough, 7, yX11_enough, cX11_enough, (some .int), RX11) [1025, 1026, 5, 1027] = true := by decide +kernel
theorem om_X11_tree : okM (C_X11_tree, 6, yX11_tree, cX11_tree, (some .int), RX11) [1041, 1042, 5, 1043] = true := by decide +kernel
theorem om_X11_seat : okM (C_X11_seat, 8, yX11_seat, cX11_seat, (some .int), RX11) [1053, 1054, 5, 1055] = true := by decide +kernel
theorem om_X11_legs : okM (C_X11_legs, 3, yX11_legs, cX11_legs, (some .int), RX11) [1086, 1087, 5, 1088] = true := by decide +kernel
theorem om_X11_leg : okM (C_X11_leg, 5, yX11_leg, cX11_leg, (some .int), RX11) [1096, 1097, 5, 1098] = true := by decide +kernel
theorem om_X11_day : okM (C_X11_day, 6, yX11_day, cX11_day, (some .int), RX11) [1090, 1091, 5, 1092] = true := by decide +kernel
theorem om_X11_judge : okM (C_X11_judge, 5, yX11_judge, cX11_judge, (some .int), RX11) [1082, 1083, 5, 1084] = true := by decide +kernel
theorem om_X11_after : okM (C_X11_after, 6, yX11_after, cX11_after, (some .int), RX11) [1112, 1113, 5, 1114] = true := by decide +kernel
theorem om_X11_done : okM (C_X11_done, 4, yX11_done, cX11_done, (some .int), RX11) [1120, 1121, 5, 1122] = true := by decide +kernel
theorem om_X11_send : okM (C_X11_send, 5, yX11_send, cX11_send, (some .int), RX11) [1129, 1130, 5, 1131] = true := by decide +kernel
theorem om_X11_draw : okM (C_X11_draw, 2, yX11_draw, cX11_draw, (some .int), RX11) [1150, 1151, 5, 1152] = true := by decide +kernel
theorem om_X11_months : okM (C_X11_months, 5, yX11_months, cX11_months, (some .int), RX11) [1146, 1147, 5, 1148] = true := by decide +kernel
theorem om_X11_seed : okM (C_X11_seed, 3, yX11_seed, cX11_seed, (some .int), RX11) [1159, 1160, 5, 1161] = true := by decide +kernel
theorem om_X11_began : okM (C_X11_began, 2, yX11_began, cX11_began, none, RX11) [1203, 1204, 5, 1205] = true := by decide +kernel
theorem om_X11_hisses : okM (C_X11_hisses, 3, yX11_hisses, cX11_hisses, (some .int), RX11) [1199, 1200, 5, 1201] = true := by decide +kernel
theorem om_X11_lands : okM (C_X11_lands, 3, yX11_lands, cX11_lands, (some .int), RX11) [1207, 1208, 5, 1209] = true := by decide +kernel
theorem om_X11_signs : okM (C_X11_signs, 3, yX11_signs, cX11_signs, (some .int), RX11) [1211, 1212, 5, 1213] = true := by decide +kernel
theorem om_X11_act : okM (C_X11_act, 4, yX11_act, cX11_act, (some .int), RX11) [1191, 1192, 5, 1193] = true := by decide +kernel
theorem om_X11_trace : okM (C_X11_trace, 2, yX11_trace, cX11_trace, (some .int), RX11) [1223, 1224, 5, 1225] = true := by decide +kernel
theorem om_X11_behind : okM (C_X11_behind, 6, yX11_behind, cX11_behind, (some .int), RX11) [1108, 1109, 5, 1110] = true := by decide +kernel
theorem om_X11_image : okM (C_X11_image, 1, yX11_image, cX11_image, (some .int), RX11) [1231, 1232, 5, 1233] = true := by decide +kernel
theorem om_X11_restore : okM (C_X11_restore, 2, yX11_restore, cX11_restore, (some .int), RX11) [1244, 1245, 5, 1246] = true := by decide +kernel
theorem om_X11_status : okM (C_X11_status, 4, yX11_status, cX11_status, (some .int), RX11) [1261, 1262, 5, 1263] = true := by decide +kernel
theorem om_J6_bitCount_0f7a4 : okM (C_J6_bitCount_0f7a4, 1, yJ6_bitCount_0f7a4, cJ6_bitCount_0f7a4, (some .int), RJ6) [822, 823, 824] = true := by decide +kernel
theorem om_J7_fill_d0a16 : okM (C_J7_fill_d0a16, 5, yJ7_fill_d0a16, cJ7_fill_d0a16, none, RJ7) [185, 186, 187] = true := by decide +kernel
theorem om_J7_fill_53178 : okM (C_J7_fill_53178, 4, yJ7_fill_53178, cJ7_fill_53178, none, RJ7) [714, 186, 715] = true := by decide +kernel
theorem om_300 : okM e300 mp300 = true := by decide +kernel
theorem om_301 : okM e301 mp301 = true := by decide +kernel
theorem ok_X0_reaches_p0 : C_X0_reaches_p0.all (okI RX0 cX0_reaches 9 []) = true := by decide +kernel
theorem ok_X0_reaches_p1 : C_X0_reaches_p1.all (okI RX0 cX0_reaches 9 []) = true := by decide +kernel
theorem ok_X0_reaches : C_X0_reaches.all (okI RX0 cX0_reaches 9 []) = true := by simp only [C_X0_reaches, List.all_append, Bool.and_eq_true]; exact ⟨ok_X0_reaches_p0, ok_X0_reaches_p1⟩
theorem ok_X0_neededTubes : C_X0_neededTubes.all (okI RX0 cX0_neededTubes 7 []) = true := by decide +kernel
theorem ok_X0_fewestTubes : C_X0_fewestTubes.all (okI RX0 cX0_fewestTubes 7 []) = true := by decide +kernel
theorem ok_X0_findWay_p0 : C_X0_findWay_p0.all (okI RX0 cX0_findWay 10 []) = true := by decide +kernel
theorem ok_X0_findWay_p1 : C_X0_findWay_p1.all (okI RX0 cX0_findWay 10 []) = true := by decide +kernel
theorem ok_X0_findWay_p2 : C_X0_findWay_p2.all (okI RX0 cX0_findWay 10 []) = true := by decide +kernel
theorem ok_X0_findWay : C_X0_findWay.all (okI RX0 cX0_findWay 10 []) = true := by simp only [C_X0_findWay, List.all_append, Bool.and_eq_true]; exact ⟨ok_X0_findWay_p0, ok_X0_findWay_p1, ok_X0_findWay_p2⟩
theorem ok_X0_comeBy : C_X0_comeBy.all (okI RX0 cX0_comeBy 3 []) = true := by decide +kernel
theorem ok_X0_takeWay : C_X0_takeWay.all (okI RX0 cX0_takeWay 7 []) = true := by decide +kernel
theorem ok_X1_findWrong : C_X1_findWrong.all (okI RX1 cX1_findWrong 7 []) = true := by decide +kernel
theorem ok_X1_takeToldLeg_p0 : C_X1_takeToldLeg_p0.all (okI RX1 cX1_takeToldLeg 8 []) = true := by decide +kernel
theorem ok_X1_takeToldLeg_p1 : C_X1_takeToldLeg_p1.all (okI RX1 cX1_takeToldLeg 8 []) = true := by decide +kernel
theorem ok_X1_takeToldLeg : C_X1_takeToldLeg.all (okI RX1 cX1_takeToldLeg 8 []) = true := by simp only [C_X1_takeToldLeg, List.all_append, Bool.and_eq_true]; exact ⟨ok_X1_takeToldLeg_p0, ok_X1_takeToldLeg_p1⟩
theorem ok_X1_takeDrawnLeg : C_X1_takeDrawnLeg.all (okI RX1 cX1_takeDrawnLeg 7 []) = true := by decide +kernel
theorem ok_X2_joinAll_p0 : C_X2_joinAll_p0.all (okI RX2 cX2_joinAll 5 []) = true := by decide +kernel
theorem ok_X2_joinAll_p1 : C_X2_joinAll_p1.all (okI RX2 cX2_joinAll 5 []) = true := by decide +kernel
theorem ok_X2_joinAll : C_X2_joinAll.all (okI RX2 cX2_joinAll 5 []) = true := by simp only [C_X2_joinAll, List.all_append, Bool.and_eq_true]; exact ⟨ok_X2_joinAll_p0, ok_X2_joinAll_p1⟩
theorem ok_X2_joins : C_X2_joins.all (okI RX2 cX2_joins 6 []) = true := by decide +kernel
theorem ok_X3_read : C_X3_read.all (okI RX3 cX3_read 5 []) = true := by decide +kernel
theorem ok_X3_hear : C_X3_hear.all (okI RX3 cX3_hear 5 []) = true := by decide +kernel
theorem ok_X3_fittingTubes : C_X3_fittingTubes.all (okI RX3 cX3_fittingTubes 4 []) = true := by decide +kernel
theorem ok_X3_fits : C_X3_fits.all (okI RX3 cX3_fits 7 []) = true := by decide +kernel
theorem ok_X3_nextDesk_p0 : C_X3_nextDesk_p0.all (okI RX3 cX3_nextDesk 9 []) = true := by decide +kernel
theorem ok_X3_nextDesk_p1 : C_X3_nextDesk_p1.all (okI RX3 cX3_nextDesk 9 []) = true := by decide +kernel
theorem ok_X3_nextDesk : C_X3_nextDesk.all (okI RX3 cX3_nextDesk 9 []) = true := by simp only [C_X3_nextDesk, List.all_append, Bool.and_eq_true]; exact ⟨ok_X3_nextDesk_p0, ok_X3_nextDesk_p1⟩
theorem ok_X3_mostLeft : C_X3_mostLeft.all (okI RX3 cX3_mostLeft 9 []) = true := by decide +kernel
theorem ok_X3_lateness : C_X3_lateness.all (okI RX3 cX3_lateness 4 []) = true := by decide +kernel
theorem ok_X4_hasDesk : C_X4_hasDesk.all (okI RX4 cX4_hasDesk 2 []) = true := by decide +kernel
theorem ok_X4_hasTube : C_X4_hasTube.all (okI RX4 cX4_hasTube 2 []) = true := by decide +kernel
theorem ok_X4_hasCapsule : C_X4_hasCapsule.all (okI RX4 cX4_hasCapsule 2 []) = true := by decide +kernel
theorem ok_X4_hasRoomForDesk : C_X4_hasRoomForDesk.all (okI RX4 cX4_hasRoomForDesk 1 []) = true := by decide +kernel
theorem ok_X4_hasRoomForTube : C_X4_hasRoomForTube.all (okI RX4 cX4_hasRoomForTube 1 []) = true := by decide +kernel
theorem ok_X4_hasRoomForCapsule : C_X4_hasRoomForCapsule.all (okI RX4 cX4_hasRoomForCapsule 1 []) = true := by decide +kernel
theorem ok_X4_addDesk : C_X4_addDesk.all (okI RX4 cX4_addDesk 1 []) = true := by decide +kernel
theorem ok_X4_addTube : C_X4_addTube.all (okI RX4 cX4_addTube 5 []) = true := by decide +kernel
theorem ok_X4_addCapsule : C_X4_addCapsule.all (okI RX4 cX4_addCapsule 5 []) = true := by decide +kernel
theorem ok_X4_isShut : C_X4_isShut.all (okI RX4 cX4_isShut 2 []) = true := by decide +kernel
theorem ok_X4_putShut : C_X4_putShut.all (okI RX4 cX4_putShut 3 []) = true := by decide +kernel
theorem ok_X4_takeOver_p0 : C_X4_takeOver_p0.all (okI RX4 cX4_takeOver 2 []) = true := by decide +kernel
theorem ok_X4_takeOver_p1 : C_X4_takeOver_p1.all (okI RX4 cX4_takeOver 2 []) = true := by decide +kernel
theorem ok_X4_takeOver_p2 : C_X4_takeOver_p2.all (okI RX4 cX4_takeOver 2 []) = true := by decide +kernel
theorem ok_X4_takeOver : C_X4_takeOver.all (okI RX4 cX4_takeOver 2 []) = true := by simp only [C_X4_takeOver, List.all_append, Bool.and_eq_true]; exact ⟨ok_X4_takeOver_p0, ok_X4_takeOver_p1, ok_X4_takeOver_p2⟩
theorem ok_X4_minutesThrough_p0 : C_X4_minutesThrough_p0.all (okI RX4 cX4_minutesThrough 5 []) = true := by decide +kernel
theorem ok_X4_minutesThrough_p1 : C_X4_minutesThrough_p1.all (okI RX4 cX4_minutesThrough 5 []) = true := by decide +kernel
theorem ok_X4_minutesThrough : C_X4_minutesThrough.all (okI RX4 cX4_minutesThrough 5 []) = true := by simp only [C_X4_minutesThrough, List.all_append, Bool.and_eq_true]; exact ⟨ok_X4_minutesThrough_p0, ok_X4_minutesThrough_p1⟩
theorem ok_X4_dividedUpward : C_X4_dividedUpward.all (okI RX4 cX4_dividedUpward 2 []) = true := by decide +kernel
theorem ok_X4_mayGo : C_X4_mayGo.all (okI RX4 cX4_mayGo 4 []) = true := by decide +kernel
theorem ok_X4_goTo : C_X4_goTo.all (okI RX4 cX4_goTo 5 []) = true := by decide +kernel
theorem ok_X4_draw : C_X4_draw.all (okI RX4 cX4_draw 2 []) = true := by decide +kernel
theorem ok_X4_signedTogether : C_X4_signedTogether.all (okI RX4 cX4_signedTogether 3 []) = true := by decide +kernel
theorem ok_X4_shutTubes : C_X4_shutTubes.all (okI RX4 cX4_shutTubes 1 []) = true := by decide +kernel
theorem ok_X5_forget : C_X5_forget.all (okI RX5 cX5_forget 1 []) = true := by decide +kernel
theorem ok_X5_bodyAt : C_X5_bodyAt.all (okI RX5 cX5_bodyAt 2 []) = true := by decide +kernel
theorem ok_X5_run : C_X5_run.all (okI RX5 cX5_run 6 []) = true := by decide +kernel
theorem ok_X5_begin : C_X5_begin.all (okI RX5 cX5_begin 2 []) = true := by decide +kernel
theorem ok_X5_hissesFrom : C_X5_hissesFrom.all (okI RX5 cX5_hissesFrom 3 []) = true := by decide +kernel
theorem ok_X5_landsFrom : C_X5_landsFrom.all (okI RX5 cX5_landsFrom 3 []) = true := by decide +kernel
theorem ok_X5_signsFrom : C_X5_signsFrom.all (okI RX5 cX5_signsFrom 3 []) = true := by decide +kernel
theorem ok_X6_findFault_p0 : C_X6_findFault_p0.all (okI RX6 cX6_findFault 5 []) = true := by decide +kernel
theorem ok_X6_findFault_p1 : C_X6_findFault_p1.all (okI RX6 cX6_findFault 5 []) = true := by decide +kernel
theorem ok_X6_findFault : C_X6_findFault.all (okI RX6 cX6_findFault 5 []) = true := by simp only [C_X6_findFault, List.all_append, Bool.and_eq_true]; exact ⟨ok_X6_findFault_p0, ok_X6_findFault_p1⟩
theorem ok_X6_failAt : C_X6_failAt.all (okI RX6 cX6_failAt 2 []) = true := by decide +kernel
theorem ok_X6_letterHere : C_X6_letterHere.all (okI RX6 cX6_letterHere 1 []) = true := by decide +kernel
theorem ok_X6_isDigitHere : C_X6_isDigitHere.all (okI RX6 cX6_isDigitHere 1 []) = true := by decide +kernel
theorem ok_X6_readSign : C_X6_readSign.all (okI RX6 cX6_readSign 2 []) = true := by decide +kernel
theorem ok_X6_readItem_p0 : C_X6_readItem_p0.all (okI RX6 cX6_readItem 6 []) = true := by decide +kernel
theorem ok_X6_readItem_p1 : C_X6_readItem_p1.all (okI RX6 cX6_readItem 6 []) = true := by decide +kernel
theorem ok_X6_readItem : C_X6_readItem.all (okI RX6 cX6_readItem 6 []) = true := by simp only [C_X6_readItem, List.all_append, Bool.and_eq_true]; exact ⟨ok_X6_readItem_p0, ok_X6_readItem_p1⟩
theorem ok_X6_wordThatBeginsHere : C_X6_wordThatBeginsHere.all (okI RX6 cX6_wordThatBeginsHere 2 []) = true := by decide +kernel
theorem ok_X6_textOf : C_X6_textOf.all (okI RX6 cX6_textOf 1 []) = true := by decide +kernel
theorem ok_X6_numbersOf : C_X6_numbersOf.all (okI RX6 cX6_numbersOf 1 []) = true := by decide +kernel
theorem ok_X6_hasRoomFor : C_X6_hasRoomFor.all (okI RX6 cX6_hasRoomFor 2 []) = true := by decide +kernel
theorem ok_X6_readNumber : C_X6_readNumber.all (okI RX6 cX6_readNumber 6 []) = true := by decide +kernel
theorem ok_X6_mayStand : C_X6_mayStand.all (okI RX6 cX6_mayStand 5 []) = true := by decide +kernel
theorem ok_X6_mayStandInTube : C_X6_mayStandInTube.all (okI RX6 cX6_mayStandInTube 4 []) = true := by decide +kernel
theorem ok_X6_mayStandInCapsule : C_X6_mayStandInCapsule.all (okI RX6 cX6_mayStandInCapsule 3 []) = true := by decide +kernel
theorem ok_X6_tell_p0 : C_X6_tell_p0.all (okI RX6 cX6_tell 3 []) = true := by decide +kernel
theorem ok_X6_tell_p1 : C_X6_tell_p1.all (okI RX6 cX6_tell 3 []) = true := by decide +kernel
theorem ok_X6_tell : C_X6_tell.all (okI RX6 cX6_tell 3 []) = true := by simp only [C_X6_tell, List.all_append, Bool.and_eq_true]; exact ⟨ok_X6_tell_p0, ok_X6_tell_p1⟩
theorem ok_X7_leastMinutes : C_X7_leastMinutes.all (okI RX7 cX7_leastMinutes 7 []) = true := by decide +kernel
theorem ok_X7_bestOf : C_X7_bestOf.all (okI RX7 cX7_bestOf 4 []) = true := by decide +kernel
theorem ok_X7_leastFrom : C_X7_leastFrom.all (okI RX7 cX7_leastFrom 7 []) = true := by decide +kernel
theorem ok_X7_leastOver : C_X7_leastOver.all (okI RX7 cX7_leastOver 8 []) = true := by decide +kernel
theorem ok_X7_deskOfOrder : C_X7_deskOfOrder.all (okI RX7 cX7_deskOfOrder 10 []) = true := by decide +kernel
theorem ok_X7_nextOfOrder : C_X7_nextOfOrder.all (okI RX7 cX7_nextOfOrder 6 []) = true := by decide +kernel
theorem ok_X8_hasShelf : C_X8_hasShelf.all (okI RX8 cX8_hasShelf 2 []) = true := by decide +kernel
theorem ok_X8_hasRow : C_X8_hasRow.all (okI RX8 cX8_hasRow 2 []) = true := by decide +kernel
theorem ok_X8_heldAt : C_X8_heldAt.all (okI RX8 cX8_heldAt 2 []) = true := by decide +kernel
theorem ok_X8_sizeOf : C_X8_sizeOf.all (okI RX8 cX8_sizeOf 2 []) = true := by decide +kernel
theorem ok_X8_putRow : C_X8_putRow.all (okI RX8 cX8_putRow 4 []) = true := by decide +kernel
theorem ok_X8_putHeld : C_X8_putHeld.all (okI RX8 cX8_putHeld 3 []) = true := by decide +kernel
theorem ok_X8_hasElement : C_X8_hasElement.all (okI RX8 cX8_hasElement 3 []) = true := by decide +kernel
theorem ok_X8_elementAt : C_X8_elementAt.all (okI RX8 cX8_elementAt 3 []) = true := by decide +kernel
theorem ok_X8_intAt : C_X8_intAt.all (okI RX8 cX8_intAt 3 []) = true := by decide +kernel
theorem ok_X8_putElement : C_X8_putElement.all (okI RX8 cX8_putElement 5 [3]) = true := by decide +kernel
theorem ok_X8_lowestBits : C_X8_lowestBits.all (okI RX8 cX8_lowestBits 3 [0]) = true := by decide +kernel
theorem ok_X8_hasPart : C_X8_hasPart.all (okI RX8 cX8_hasPart 4 []) = true := by decide +kernel
theorem ok_X8_copyPart : C_X8_copyPart.all (okI RX8 cX8_copyPart 6 []) = true := by decide +kernel
theorem ok_X8_dropCapsulesFrom : C_X8_dropCapsulesFrom.all (okI RX8 cX8_dropCapsulesFrom 3 []) = true := by decide +kernel
theorem ok_X9_prepareFor : C_X9_prepareFor.all (okI RX9 cX9_prepareFor 5 []) = true := by decide +kernel
theorem ok_X9_prepareForKnocks : C_X9_prepareForKnocks.all (okI RX9 cX9_prepareForKnocks 3 []) = true := by decide +kernel
theorem ok_X9_passableTubes : C_X9_passableTubes.all (okI RX9 cX9_passableTubes 4 []) = true := by decide +kernel
theorem ok_X9_spread_p0 : C_X9_spread_p0.all (okI RX9 cX9_spread 6 []) = true := by decide +kernel
theorem ok_X9_spread_p1 : C_X9_spread_p1.all (okI RX9 cX9_spread 6 []) = true := by decide +kernel
theorem ok_X9_spread : C_X9_spread.all (okI RX9 cX9_spread 6 []) = true := by simp only [C_X9_spread, List.all_append, Bool.and_eq_true]; exact ⟨ok_X9_spread_p0, ok_X9_spread_p1⟩
theorem ok_X9_comesNearer : C_X9_comesNearer.all (okI RX9 cX9_comesNearer 4 []) = true := by decide +kernel
theorem ok_X9_fillTable : C_X9_fillTable.all (okI RX9 cX9_fillTable 3 []) = true := by decide +kernel
theorem ok_X9_between : C_X9_between.all (okI RX9 cX9_between 3 []) = true := by decide +kernel
theorem ok_X9_minutesTo : C_X9_minutesTo.all (okI RX9 cX9_minutesTo 5 []) = true := by decide +kernel
theorem ok_X9_stepsTo : C_X9_stepsTo.all (okI RX9 cX9_stepsTo 4 []) = true := by decide +kernel
theorem ok_X9_reached : C_X9_reached.all (okI RX9 cX9_reached 3 []) = true := by decide +kernel
theorem ok_X9_firstTubeTo_p0 : C_X9_firstTubeTo_p0.all (okI RX9 cX9_firstTubeTo 7 []) = true := by decide +kernel
theorem ok_X9_firstTubeTo_p1 : C_X9_firstTubeTo_p1.all (okI RX9 cX9_firstTubeTo 7 []) = true := by decide +kernel
theorem ok_X9_firstTubeTo_p2 : C_X9_firstTubeTo_p2.all (okI RX9 cX9_firstTubeTo 7 []) = true := by decide +kernel
theorem ok_X9_firstTubeTo : C_X9_firstTubeTo.all (okI RX9 cX9_firstTubeTo 7 []) = true := by simp only [C_X9_firstTubeTo, List.all_append, Bool.and_eq_true]; exact ⟨ok_X9_firstTubeTo_p0, ok_X9_firstTubeTo_p1, ok_X9_firstTubeTo_p2⟩
theorem ok_X9_desksWithin : C_X9_desksWithin.all (okI RX9 cX9_desksWithin 5 []) = true := by decide +kernel
theorem ok_X9_keepReach : C_X9_keepReach.all (okI RX9 cX9_keepReach 1 []) = true := by decide +kernel
theorem ok_X9_laterAt : C_X9_laterAt.all (okI RX9 cX9_laterAt 2 []) = true := by decide +kernel
theorem ok_X9_deskToMeet : C_X9_deskToMeet.all (okI RX9 cX9_deskToMeet 5 []) = true := by decide +kernel
theorem ok_X9_longestFrom : C_X9_longestFrom.all (okI RX9 cX9_longestFrom 5 []) = true := by decide +kernel
theorem ok_X10_row : C_X10_row.all (okI RX10 cX10_row 4 []) = true := by decide +kernel
theorem ok_X10_set : C_X10_set.all (okI RX10 cX10_set 6 [3]) = true := by decide +kernel
theorem ok_X10_copy : C_X10_copy.all (okI RX10 cX10_copy 7 []) = true := by decide +kernel
theorem ok_X10_element : C_X10_element.all (okI RX10 cX10_element 3 []) = true := by decide +kernel
theorem ok_X10_show : C_X10_show.all (okI RX10 cX10_show 3 []) = true := by decide +kernel
theorem ok_X10_holds : C_X10_holds.all (okI RX10 cX10_holds 2 []) = true := by decide +kernel
theorem ok_X10_says_p0 : C_X10_says_p0.all (okI RX10 cX10_says 4 []) = true := by decide +kernel
theorem ok_X10_says_p1 : C_X10_says_p1.all (okI RX10 cX10_says 4 []) = true := by decide +kernel
theorem ok_X10_says : C_X10_says.all (okI RX10 cX10_says 4 []) = true := by simp only [C_X10_says, List.all_append, Bool.and_eq_true]; exact ⟨ok_X10_says_p0, ok_X10_says_p1⟩
theorem ok_X10_desk : C_X10_desk.all (okI RX10 cX10_desk 1 []) = true := by decide +kernel
theorem ok_X10_tube : C_X10_tube.all (okI RX10 cX10_tube 5 []) = true := by decide +kernel
theorem ok_X10_capsule : C_X10_capsule.all (okI RX10 cX10_capsule 5 []) = true := by decide +kernel
theorem ok_X10_shut : C_X10_shut.all (okI RX10 cX10_shut 4 []) = true := by decide +kernel
theorem ok_X10_ask : C_X10_ask.all (okI RX10 cX10_ask 3 []) = true := by decide +kernel
theorem ok_X10_capsuleOf : C_X10_capsuleOf.all (okI RX10 cX10_capsuleOf 3 []) = true := by decide +kernel
theorem ok_X10_tubeOf : C_X10_tubeOf.all (okI RX10 cX10_tubeOf 3 []) = true := by decide +kernel
theorem ok_X10_signed : C_X10_signed.all (okI RX10 cX10_signed 2 []) = true := by decide +kernel
theorem ok_X10_plan : C_X10_plan.all (okI RX10 cX10_plan 3 []) = true := by decide +kernel
theorem ok_X10_fault : C_X10_fault.all (okI RX10 cX10_fault 1 []) = true := by decide +kernel
theorem ok_X10_time : C_X10_time.all (okI RX10 cX10_time 3 []) = true := by decide +kernel
theorem ok_X10_way : C_X10_way.all (okI RX10 cX10_way 4 []) = true := by decide +kernel
theorem ok_X10_within : C_X10_within.all (okI RX10 cX10_within 3 []) = true := by decide +kernel
theorem ok_X10_round_p0 : C_X10_round_p0.all (okI RX10 cX10_round 8 []) = true := by decide +kernel
theorem ok_X10_round_p1 : C_X10_round_p1.all (okI RX10 cX10_round 8 []) = true := by decide +kernel
theorem ok_X10_round : C_X10_round.all (okI RX10 cX10_round 8 []) = true := by simp only [C_X10_round, List.all_append, Bool.and_eq_true]; exact ⟨ok_X10_round_p0, ok_X10_round_p1⟩
theorem ok_X10_meet_p0 : C_X10_meet_p0.all (okI RX10 cX10_meet 5 []) = true := by decide +kernel
theorem ok_X10_meet_p1 : C_X10_meet_p1.all (okI RX10 cX10_meet 5 []) = true := by decide +kernel
theorem ok_X10_meet : C_X10_meet.all (okI RX10 cX10_meet 5 []) = true := by simp only [C_X10_meet, List.all_append, Bool.and_eq_true]; exact ⟨ok_X10_meet_p0, ok_X10_meet_p1⟩
theorem ok_X10_cut_p0 : C_X10_cut_p0.all (okI RX10 cX10_cut 5 []) = true := by decide +kernel
theorem ok_X10_cut_p1 : C_X10_cut_p1.all (okI RX10 cX10_cut 5 []) = true := by decide +kernel
theorem ok_X10_cut : C_X10_cut.all (okI RX10 cX10_cut 5 []) = true := by simp only [C_X10_cut, List.all_append, Bool.and_eq_true]; exact ⟨ok_X10_cut_p0, ok_X10_cut_p1⟩
theorem ok_X10_stuck : C_X10_stuck.all (okI RX10 cX10_stuck 4 []) = true := by decide +kernel
theorem ok_X10_listen : C_X10_listen.all (okI RX10 cX10_listen 4 []) = true := by decide +kernel
theorem ok_X10_enough : C_X10_enough.all (okI RX10 cX10_enough 6 []) = true := by decide +kernel
theorem ok_X10_tree : C_X10_tree.all (okI RX10 cX10_tree 2 []) = true := by decide +kernel
theorem ok_X10_seat_p0 : C_X10_seat_p0.all (okI RX10 cX10_seat 5 []) = true := by decide +kernel
theorem ok_X10_seat_p1 : C_X10_seat_p1.all (okI RX10 cX10_seat 5 []) = true := by decide +kernel
theorem ok_X10_seat : C_X10_seat.all (okI RX10 cX10_seat 5 []) = true := by simp only [C_X10_seat, List.all_append, Bool.and_eq_true]; exact ⟨ok_X10_seat_p0, ok_X10_seat_p1⟩
theorem ok_X10_judge : C_X10_judge.all (okI RX10 cX10_judge 4 []) = true := by decide +kernel
theorem ok_X10_behind : C_X10_behind.all (okI RX10 cX10_behind 5 []) = true := by decide +kernel
theorem ok_X10_done : C_X10_done.all (okI RX10 cX10_done 4 []) = true := by decide +kernel
theorem ok_X10_send : C_X10_send.all (okI RX10 cX10_send 5 []) = true := by decide +kernel
theorem ok_X10_months : C_X10_months.all (okI RX10 cX10_months 3 []) = true := by decide +kernel
theorem ok_X10_seed : C_X10_seed.all (okI RX10 cX10_seed 3 []) = true := by decide +kernel
theorem ok_X10_act : C_X10_act.all (okI RX10 cX10_act 4 []) = true := by decide +kernel
theorem ok_X10_trace : C_X10_trace.all (okI RX10 cX10_trace 2 []) = true := by decide +kernel
theorem ok_X10_image : C_X10_image.all (okI RX10 cX10_image 1 []) = true := by decide +kernel
theorem ok_X10_restore : C_X10_restore.all (okI RX10 cX10_restore 1 []) = true := by decide +kernel
theorem ok_X10_status : C_X10_status.all (okI RX10 cX10_status 2 []) = true := by decide +kernel
theorem ok_X10_refuse : C_X10_refuse.all (okI RX10 cX10_refuse 3 []) = true := by decide +kernel
theorem ok_X10_rowRefusal : C_X10_rowRefusal.all (okI RX10 cX10_rowRefusal 3 []) = true := by decide +kernel
theorem ok_X10_copyRefusal : C_X10_copyRefusal.all (okI RX10 cX10_copyRefusal 5 []) = true := by decide +kernel
theorem ok_X10_knocksRefusal_p0 : C_X10_knocksRefusal_p0.all (okI RX10 cX10_knocksRefusal 6 []) = true := by decide +kernel
theorem ok_X10_knocksRefusal_p1 : C_X10_knocksRefusal_p1.all (okI RX10 cX10_knocksRefusal 6 []) = true := by decide +kernel
theorem ok_X10_knocksRefusal : C_X10_knocksRefusal.all (okI RX10 cX10_knocksRefusal 6 []) = true := by simp only [C_X10_knocksRefusal, List.all_append, Bool.and_eq_true]; exact ⟨ok_X10_knocksRefusal_p0, ok_X10_knocksRefusal_p1⟩
theorem ok_X10_legsRefusal : C_X10_legsRefusal.all (okI RX10 cX10_legsRefusal 4 []) = true := by decide +kernel
theorem ok_X10_standsOnDraft : C_X10_standsOnDraft.all (okI RX10 cX10_standsOnDraft 3 []) = true := by decide +kernel
theorem ok_X10_isOneToNine : C_X10_isOneToNine.all (okI RX10 cX10_isOneToNine 1 []) = true := by decide +kernel
theorem ok_X10_isDeskNumber : C_X10_isDeskNumber.all (okI RX10 cX10_isDeskNumber 1 []) = true := by decide +kernel
theorem ok_X10_isUnder : C_X10_isUnder.all (okI RX10 cX10_isUnder 4 []) = true := by decide +kernel
theorem ok_X11_isIn : C_X11_isIn.all (okI RX11 cX11_isIn 6 [0, 2, 4]) = true := by decide +kernel
theorem ok_X11_refuse : C_X11_refuse.all (okI RX11 cX11_refuse 2 []) = true := by decide +kernel
theorem ok_X11_refuseBy10 : C_X11_refuseBy10.all (okI RX11 cX11_refuseBy10 2 []) = true := by decide +kernel
theorem ok_X11_move : C_X11_move.all (okI RX11 cX11_move 3 []) = true := by decide +kernel
theorem ok_X11_isDesk : C_X11_isDesk.all (okI RX11 cX11_isDesk 3 [1]) = true := by decide +kernel
theorem ok_X11_isTube : C_X11_isTube.all (okI RX11 cX11_isTube 2 []) = true := by decide +kernel
theorem ok_X11_isCapsule : C_X11_isCapsule.all (okI RX11 cX11_isCapsule 3 [1]) = true := by decide +kernel
theorem ok_X11_from : C_X11_from.all (okI RX11 cX11_from 2 []) = true := by decide +kernel
theorem ok_X11_to : C_X11_to.all (okI RX11 cX11_to 2 []) = true := by decide +kernel
theorem ok_X11_length : C_X11_length.all (okI RX11 cX11_length 2 []) = true := by decide +kernel
theorem ok_X11_bore : C_X11_bore.all (okI RX11 cX11_bore 2 []) = true := by decide +kernel
theorem ok_X11_isShut : C_X11_isShut.all (okI RX11 cX11_isShut 2 []) = true := by decide +kernel
theorem ok_X11_kind : C_X11_kind.all (okI RX11 cX11_kind 2 []) = true := by decide +kernel
theorem ok_X11_a : C_X11_a.all (okI RX11 cX11_a 2 []) = true := by decide +kernel
theorem ok_X11_weight : C_X11_weight.all (okI RX11 cX11_weight 2 []) = true := by decide +kernel
theorem ok_X11_at : C_X11_at.all (okI RX11 cX11_at 2 []) = true := by decide +kernel
theorem ok_X11_addDesk : C_X11_addDesk.all (okI RX11 cX11_addDesk 2 []) = true := by decide +kernel
theorem ok_X11_addTube : C_X11_addTube.all (okI RX11 cX11_addTube 6 []) = true := by decide +kernel
theorem ok_X11_addCapsule : C_X11_addCapsule.all (okI RX11 cX11_addCapsule 6 []) = true := by decide +kernel
theorem ok_X11_desk : C_X11_desk.all (okI RX11 cX11_desk 1 []) = true := by decide +kernel
theorem ok_X11_tube : C_X11_tube.all (okI RX11 cX11_tube 5 []) = true := by decide +kernel
theorem ok_X11_capsule : C_X11_capsule.all (okI RX11 cX11_capsule 5 []) = true := by decide +kernel
theorem ok_X11_shut : C_X11_shut.all (okI RX11 cX11_shut 4 []) = true := by decide +kernel
theorem ok_X11_ask : C_X11_ask.all (okI RX11 cX11_ask 3 []) = true := by decide +kernel
theorem ok_X11_capsuleOf : C_X11_capsuleOf.all (okI RX11 cX11_capsuleOf 3 []) = true := by decide +kernel
theorem ok_X11_tubeOf : C_X11_tubeOf.all (okI RX11 cX11_tubeOf 3 []) = true := by decide +kernel
theorem ok_X11_signed : C_X11_signed.all (okI RX11 cX11_signed 2 []) = true := by decide +kernel
theorem ok_X11_isShelf : C_X11_isShelf.all (okI RX11 cX11_isShelf 1 []) = true := by decide +kernel
theorem ok_X11_row : C_X11_row.all (okI RX11 cX11_row 5 []) = true := by decide +kernel
theorem ok_X11_rowIn : C_X11_rowIn.all (okI RX11 cX11_rowIn 2 []) = true := by decide +kernel
theorem ok_X11_set_p0 : C_X11_set_p0.all (okI RX11 cX11_set 6 [3]) = true := by decide +kernel
theorem ok_X11_set_p1 : C_X11_set_p1.all (okI RX11 cX11_set 6 [3]) = true := by decide +kernel
theorem ok_X11_set : C_X11_set.all (okI RX11 cX11_set 6 [3]) = true := by simp only [C_X11_set, List.all_append, Bool.and_eq_true]; exact ⟨ok_X11_set_p0, ok_X11_set_p1⟩
theorem ok_X11_isCapsuleIn : C_X11_isCapsuleIn.all (okI RX11 cX11_isCapsuleIn 2 []) = true := by decide +kernel
theorem ok_X11_copy_p0 : C_X11_copy_p0.all (okI RX11 cX11_copy 8 []) = true := by decide +kernel
theorem ok_X11_copy_p1 : C_X11_copy_p1.all (okI RX11 cX11_copy 8 []) = true := by decide +kernel
theorem ok_X11_copy_p2 : C_X11_copy_p2.all (okI RX11 cX11_copy 8 []) = true := by decide +kernel
theorem ok_X11_copy : C_X11_copy.all (okI RX11 cX11_copy 8 []) = true := by simp only [C_X11_copy, List.all_append, Bool.and_eq_true]; exact ⟨ok_X11_copy_p0, ok_X11_copy_p1, ok_X11_copy_p2⟩
theorem ok_X11_element : C_X11_element.all (okI RX11 cX11_element 3 []) = true := by decide +kernel
theorem ok_X11_told : C_X11_told.all (okI RX11 cX11_told 3 []) = true := by decide +kernel
theorem ok_X11_show : C_X11_show.all (okI RX11 cX11_show 3 []) = true := by decide +kernel
theorem ok_X11_holds : C_X11_holds.all (okI RX11 cX11_holds 2 []) = true := by decide +kernel
theorem ok_X11_says_p0 : C_X11_says_p0.all (okI RX11 cX11_says 5 []) = true := by decide +kernel
theorem ok_X11_says_p1 : C_X11_says_p1.all (okI RX11 cX11_says 5 []) = true := by decide +kernel
theorem ok_X11_says : C_X11_says.all (okI RX11 cX11_says 5 []) = true := by simp only [C_X11_says, List.all_append, Bool.and_eq_true]; exact ⟨ok_X11_says_p0, ok_X11_says_p1⟩
theorem ok_X11_letter : C_X11_letter.all (okI RX11 cX11_letter 1 []) = true := by decide +kernel
theorem ok_X11_isFault : C_X11_isFault.all (okI RX11 cX11_isFault 2 []) = true := by decide +kernel
theorem ok_X11_isLetter : C_X11_isLetter.all (okI RX11 cX11_isLetter 2 []) = true := by decide +kernel
theorem ok_X11_word_p0 : C_X11_word_p0.all (okI RX11 cX11_word 6 []) = true := by decide +kernel
theorem ok_X11_word_p1 : C_X11_word_p1.all (okI RX11 cX11_word 6 []) = true := by decide +kernel
theorem ok_X11_word : C_X11_word.all (okI RX11 cX11_word 6 []) = true := by simp only [C_X11_word, List.all_append, Bool.and_eq_true]; exact ⟨ok_X11_word_p0, ok_X11_word_p1⟩
theorem ok_X11_number_p0 : C_X11_number_p0.all (okI RX11 cX11_number 7 []) = true := by decide +kernel
theorem ok_X11_number_p1 : C_X11_number_p1.all (okI RX11 cX11_number 7 []) = true := by decide +kernel
theorem ok_X11_number : C_X11_number.all (okI RX11 cX11_number 7 []) = true := by simp only [C_X11_number, List.all_append, Bool.and_eq_true]; exact ⟨ok_X11_number_p0, ok_X11_number_p1⟩
theorem ok_X11_isItem_p0 : C_X11_isItem_p0.all (okI RX11 cX11_isItem 7 []) = true := by decide +kernel
theorem ok_X11_isItem_p1 : C_X11_isItem_p1.all (okI RX11 cX11_isItem 7 []) = true := by decide +kernel
theorem ok_X11_isItem_p2 : C_X11_isItem_p2.all (okI RX11 cX11_isItem 7 []) = true := by decide +kernel
theorem ok_X11_isItem_p3 : C_X11_isItem_p3.all (okI RX11 cX11_isItem 7 []) = true := by decide +kernel
theorem ok_X11_isItem_p4 : C_X11_isItem_p4.all (okI RX11 cX11_isItem 7 []) = true := by decide +kernel
theorem ok_X11_isItem : C_X11_isItem.all (okI RX11 cX11_isItem 7 []) = true := by simp only [C_X11_isItem, List.all_append, Bool.and_eq_true]; exact ⟨ok_X11_isItem_p0, ok_X11_isItem_p1, ok_X11_isItem_p2, ok_X11_isItem_p3, ok_X11_isItem_p4⟩
theorem ok_X11_plan_p0 : C_X11_plan_p0.all (okI RX11 cX11_plan 4 []) = true := by decide +kernel
theorem ok_X11_plan_p1 : C_X11_plan_p1.all (okI RX11 cX11_plan 4 []) = true := by decide +kernel
theorem ok_X11_plan : C_X11_plan.all (okI RX11 cX11_plan 4 []) = true := by simp only [C_X11_plan, List.all_append, Bool.and_eq_true]; exact ⟨ok_X11_plan_p0, ok_X11_plan_p1⟩
theorem ok_X11_fault : C_X11_fault.all (okI RX11 cX11_fault 1 []) = true := by decide +kernel
theorem ok_X11_may : C_X11_may.all (okI RX11 cX11_may 5 []) = true := by decide +kernel
theorem ok_X11_timeOf_p0 : C_X11_timeOf_p0.all (okI RX11 cX11_timeOf 7 []) = true := by decide +kernel
theorem ok_X11_timeOf_p1 : C_X11_timeOf_p1.all (okI RX11 cX11_timeOf 7 []) = true := by decide +kernel
theorem ok_X11_timeOf : C_X11_timeOf.all (okI RX11 cX11_timeOf 7 []) = true := by simp only [C_X11_timeOf, List.all_append, Bool.and_eq_true]; exact ⟨ok_X11_timeOf_p0, ok_X11_timeOf_p1⟩
theorem ok_X11_time : C_X11_time.all (okI RX11 cX11_time 3 []) = true := by decide +kernel
theorem ok_X11_clear : C_X11_clear.all (okI RX11 cX11_clear 2 []) = true := by decide +kernel
theorem ok_X11_nearer : C_X11_nearer.all (okI RX11 cX11_nearer 4 []) = true := by decide +kernel
theorem ok_X11_close : C_X11_close.all (okI RX11 cX11_close 4 []) = true := by decide +kernel
theorem ok_X11_fill : C_X11_fill.all (okI RX11 cX11_fill 5 []) = true := by decide +kernel
theorem ok_X11_way : C_X11_way.all (okI RX11 cX11_way 3 []) = true := by decide +kernel
theorem ok_X11_orNone : C_X11_orNone.all (okI RX11 cX11_orNone 1 []) = true := by decide +kernel
theorem ok_X11_first_p0 : C_X11_first_p0.all (okI RX11 cX11_first 8 []) = true := by decide +kernel
theorem ok_X11_first_p1 : C_X11_first_p1.all (okI RX11 cX11_first 8 []) = true := by decide +kernel
theorem ok_X11_first_p2 : C_X11_first_p2.all (okI RX11 cX11_first 8 []) = true := by decide +kernel
theorem ok_X11_first : C_X11_first.all (okI RX11 cX11_first 8 []) = true := by simp only [C_X11_first, List.all_append, Bool.and_eq_true]; exact ⟨ok_X11_first_p0, ok_X11_first_p1, ok_X11_first_p2⟩
theorem ok_X11_way_ : C_X11_way_.all (okI RX11 cX11_way_ 4 []) = true := by decide +kernel
theorem ok_X11_within_p0 : C_X11_within_p0.all (okI RX11 cX11_within 5 []) = true := by decide +kernel
theorem ok_X11_within_p1 : C_X11_within_p1.all (okI RX11 cX11_within 5 []) = true := by decide +kernel
theorem ok_X11_within : C_X11_within.all (okI RX11 cX11_within 5 []) = true := by simp only [C_X11_within, List.all_append, Bool.and_eq_true]; exact ⟨ok_X11_within_p0, ok_X11_within_p1⟩
theorem ok_X11_ones : C_X11_ones.all (okI RX11 cX11_ones 3 []) = true := by decide +kernel
theorem ok_X11_fillRounds_p0 : C_X11_fillRounds_p0.all (okI RX11 cX11_fillRounds 5 []) = true := by decide +kernel
theorem ok_X11_fillRounds_p1 : C_X11_fillRounds_p1.all (okI RX11 cX11_fillRounds 5 []) = true := by decide +kernel
theorem ok_X11_fillRounds : C_X11_fillRounds.all (okI RX11 cX11_fillRounds 5 []) = true := by simp only [C_X11_fillRounds, List.all_append, Bool.and_eq_true]; exact ⟨ok_X11_fillRounds_p0, ok_X11_fillRounds_p1⟩
theorem ok_X11_round_p0 : C_X11_round_p0.all (okI RX11 cX11_round 13 []) = true := by decide +kernel
theorem ok_X11_round_p1 : C_X11_round_p1.all (okI RX11 cX11_round 13 []) = true := by decide +kernel
theorem ok_X11_round_p2 : C_X11_round_p2.all (okI RX11 cX11_round 13 []) = true := by decide +kernel
theorem ok_X11_round_p3 : C_X11_round_p3.all (okI RX11 cX11_round 13 []) = true := by decide +kernel
theorem ok_X11_round : C_X11_round.all (okI RX11 cX11_round 13 []) = true := by simp only [C_X11_round, List.all_append, Bool.and_eq_true]; exact ⟨ok_X11_round_p0, ok_X11_round_p1, ok_X11_round_p2, ok_X11_round_p3⟩
theorem ok_X11_meet_p0 : C_X11_meet_p0.all (okI RX11 cX11_meet 8 []) = true := by decide +kernel
theorem ok_X11_meet_p1 : C_X11_meet_p1.all (okI RX11 cX11_meet 8 []) = true := by decide +kernel
theorem ok_X11_meet : C_X11_meet.all (okI RX11 cX11_meet 8 []) = true := by simp only [C_X11_meet, List.all_append, Bool.and_eq_true]; exact ⟨ok_X11_meet_p0, ok_X11_meet_p1⟩
theorem ok_X11_push_p0 : C_X11_push_p0.all (okI RX11 cX11_push 11 []) = true := by decide +kernel
theorem ok_X11_push_p1 : C_X11_push_p1.all (okI RX11 cX11_push 11 []) = true := by decide +kernel
theorem ok_X11_push_p2 : C_X11_push_p2.all (okI RX11 cX11_push 11 []) = true := by decide +kernel
theorem ok_X11_push : C_X11_push.all (okI RX11 cX11_push 11 []) = true := by simp only [C_X11_push, List.all_append, Bool.and_eq_true]; exact ⟨ok_X11_push_p0, ok_X11_push_p1, ok_X11_push_p2⟩
theorem ok_X11_pushes : C_X11_pushes.all (okI RX11 cX11_pushes 4 []) = true := by decide +kernel
theorem ok_X11_keep_p0 : C_X11_keep_p0.all (okI RX11 cX11_keep 6 []) = true := by decide +kernel
theorem ok_X11_keep_p1 : C_X11_keep_p1.all (okI RX11 cX11_keep 6 []) = true := by decide +kernel
theorem ok_X11_keep : C_X11_keep.all (okI RX11 cX11_keep 6 []) = true := by simp only [C_X11_keep, List.all_append, Bool.and_eq_true]; exact ⟨ok_X11_keep_p0, ok_X11_keep_p1⟩
theorem ok_X11_cut_p0 : C_X11_cut_p0.all (okI RX11 cX11_cut 5 []) = true := by decide +kernel
theorem ok_X11_cut_p1 : C_X11_cut_p1.all (okI RX11 cX11_cut 5 []) = true := by decide +kernel
theorem ok_X11_cut : C_X11_cut.all (okI RX11 cX11_cut 5 []) = true := by simp only [C_X11_cut, List.all_append, Bool.and_eq_true]; exact ⟨ok_X11_cut_p0, ok_X11_cut_p1⟩
theorem ok_X11_sound : C_X11_sound.all (okI RX11 cX11_sound 2 []) = true := by decide +kernel
theorem ok_X11_heard : C_X11_heard.all (okI RX11 cX11_heard 3 []) = true := by decide +kernel
theorem ok_X11_knocks_p0 : C_X11_knocks_p0.all (okI RX11 cX11_knocks 5 []) = true := by decide +kernel
theorem ok_X11_knocks_p1 : C_X11_knocks_p1.all (okI RX11 cX11_knocks 5 []) = true := by decide +kernel
theorem ok_X11_knocks : C_X11_knocks.all (okI RX11 cX11_knocks 5 []) = true := by simp only [C_X11_knocks, List.all_append, Bool.and_eq_true]; exact ⟨ok_X11_knocks_p0, ok_X11_knocks_p1⟩
theorem ok_X11_fit_p0 : C_X11_fit_p0.all (okI RX11 cX11_fit 9 []) = true := by decide +kernel
theorem ok_X11_fit_p1 : C_X11_fit_p1.all (okI RX11 cX11_fit 9 []) = true := by decide +kernel
theorem ok_X11_fit : C_X11_fit.all (okI RX11 cX11_fit 9 []) = true := by simp only [C_X11_fit, List.all_append, Bool.and_eq_true]; exact ⟨ok_X11_fit_p0, ok_X11_fit_p1⟩
theorem ok_X11_stuck : C_X11_stuck.all (okI RX11 cX11_stuck 4 []) = true := by decide +kernel
theorem ok_X11_lag : C_X11_lag.all (okI RX11 cX11_lag 5 []) = true := by decide +kernel
theorem ok_X11_listen_p0 : C_X11_listen_p0.all (okI RX11 cX11_listen 14 []) = true := by decide +kernel
theorem ok_X11_listen_p1 : C_X11_listen_p1.all (okI RX11 cX11_listen 14 []) = true := by decide +kernel
theorem ok_X11_listen_p2 : C_X11_listen_p2.all (okI RX11 cX11_listen 14 []) = true := by decide +kernel
theorem ok_X11_listen : C_X11_listen.all (okI RX11 cX11_listen 14 []) = true := by simp only [C_X11_listen, List.all_append, Bool.and_eq_true]; exact ⟨ok_X11_listen_p0, ok_X11_listen_p1, ok_X11_listen_p2⟩
theorem ok_X11_enough_p0 : C_X11_enough_p0.all (okI RX11 cX11_enough 7 []) = true := by decide +kernel
theorem ok_X11_enough_p1 : C_X11_enough_p1.all (okI RX11 cX11_enough 7 []) = true := by decide +kernel
theorem ok_X11_enough : C_X11_enough.all (okI RX11 cX11_enough 7 []) = true := by simp only [C_X11_enough, List.all_append, Bool.and_eq_true]; exact ⟨ok_X11_enough_p0, ok_X11_enough_p1⟩
theorem ok_X11_tree_p0 : C_X11_tree_p0.all (okI RX11 cX11_tree 6 []) = true := by decide +kernel
theorem ok_X11_tree_p1 : C_X11_tree_p1.all (okI RX11 cX11_tree 6 []) = true := by decide +kernel
theorem ok_X11_tree_p2 : C_X11_tree_p2.all (okI RX11 cX11_tree 6 []) = true := by decide +kernel
theorem ok_X11_tree : C_X11_tree.all (okI RX11 cX11_tree 6 []) = true := by simp only [C_X11_tree, List.all_append, Bool.and_eq_true]; exact ⟨ok_X11_tree_p0, ok_X11_tree_p1, ok_X11_tree_p2⟩
theorem ok_X11_seat_p0 : C_X11_seat_p0.all (okI RX11 cX11_seat 8 []) = true := by decide +kernel
theorem ok_X11_seat_p1 : C_X11_seat_p1.all (okI RX11 cX11_seat 8 []) = true := by decide +kernel
theorem ok_X11_seat : C_X11_seat.all (okI RX11 cX11_seat 8 []) = true := by simp only [C_X11_seat, List.all_append, Bool.and_eq_true]; exact ⟨ok_X11_seat_p0, ok_X11_seat_p1⟩
theorem ok_X11_legs : C_X11_legs.all (okI RX11 cX11_legs 3 []) = true := by decide +kernel
theorem ok_X11_leg_p0 : C_X11_leg_p0.all (okI RX11 cX11_leg 5 []) = true := by decide +kernel
theorem ok_X11_leg_p1 : C_X11_leg_p1.all (okI RX11 cX11_leg 5 []) = true := by decide +kernel
theorem ok_X11_leg : C_X11_leg.all (okI RX11 cX11_leg 5 []) = true := by simp only [C_X11_leg, List.all_append, Bool.and_eq_true]; exact ⟨ok_X11_leg_p0, ok_X11_leg_p1⟩
theorem ok_X11_day_p0 : C_X11_day_p0.all (okI RX11 cX11_day 6 []) = true := by decide +kernel
theorem ok_X11_day_p1 : C_X11_day_p1.all (okI RX11 cX11_day 6 []) = true := by decide +kernel
theorem ok_X11_day : C_X11_day.all (okI RX11 cX11_day 6 []) = true := by simp only [C_X11_day, List.all_append, Bool.and_eq_true]; exact ⟨ok_X11_day_p0, ok_X11_day_p1⟩
theorem ok_X11_judge : C_X11_judge.all (okI RX11 cX11_judge 5 []) = true := by decide +kernel
theorem ok_X11_after : C_X11_after.all (okI RX11 cX11_after 6 []) = true := by decide +kernel
theorem ok_X11_done : C_X11_done.all (okI RX11 cX11_done 4 []) = true := by decide +kernel
theorem ok_X11_send : C_X11_send.all (okI RX11 cX11_send 5 []) = true := by decide +kernel
theorem ok_X11_draw : C_X11_draw.all (okI RX11 cX11_draw 2 []) = true := by decide +kernel
theorem ok_X11_months : C_X11_months.all (okI RX11 cX11_months 5 []) = true := by decide +kernel
theorem ok_X11_seed : C_X11_seed.all (okI RX11 cX11_seed 3 []) = true := by decide +kernel
theorem ok_X11_began : C_X11_began.all (okI RX11 cX11_began 2 []) = true := by decide +kernel
theorem ok_X11_hisses : C_X11_hisses.all (okI RX11 cX11_hisses 3 []) = true := by decide +kernel
theorem ok_X11_lands : C_X11_lands.all (okI RX11 cX11_lands 3 []) = true := by decide +kernel
theorem ok_X11_signs : C_X11_signs.all (okI RX11 cX11_signs 3 []) = true := by decide +kernel
theorem ok_X11_act : C_X11_act.all (okI RX11 cX11_act 4 []) = true := by decide +kernel
theorem ok_X11_trace : C_X11_trace.all (okI RX11 cX11_trace 2 []) = true := by decide +kernel
theorem ok_X11_behind : C_X11_behind.all (okI RX11 cX11_behind 6 []) = true := by decide +kernel
theorem ok_X11_image : C_X11_image.all (okI RX11 cX11_image 1 []) = true := by decide +kernel
theorem ok_X11_restore : C_X11_restore.all (okI RX11 cX11_restore 2 []) = true := by decide +kernel
theorem ok_X11_status_p0 : C_X11_status_p0.all (okI RX11 cX11_status 4 []) = true := by decide +kernel
theorem ok_X11_status_p1 : C_X11_status_p1.all (okI RX11 cX11_status 4 []) = true := by decide +kernel
theorem ok_X11_status : C_X11_status.all (okI RX11 cX11_status 4 []) = true := by simp only [C_X11_status, List.all_append, Bool.and_eq_true]; exact ⟨ok_X11_status_p0, ok_X11_status_p1⟩
theorem ok_J6_bitCount_0f7a4 : C_J6_bitCount_0f7a4.all (okI RJ6 cJ6_bitCount_0f7a4 1 []) = true := by decide +kernel
theorem ok_J7_fill_d0a16 : C_J7_fill_d0a16.all (okI RJ7 cJ7_fill_d0a16 5 [1]) = true := by decide +kernel
theorem ok_J7_fill_53178 : C_J7_fill_53178.all (okI RJ7 cJ7_fill_53178 4 []) = true := by decide +kernel
theorem ok_L_law_p0 : C_L_law_p0.all (okI RL cL_law 4 []) = true := by decide +kernel
theorem ok_L_law_p1 : C_L_law_p1.all (okI RL cL_law 4 []) = true := by decide +kernel
theorem ok_L_law_p2 : C_L_law_p2.all (okI RL cL_law 4 []) = true := by decide +kernel
theorem ok_L_law_p3 : C_L_law_p3.all (okI RL cL_law 4 []) = true := by decide +kernel
theorem ok_L_law_p4 : C_L_law_p4.all (okI RL cL_law 4 []) = true := by decide +kernel
theorem ok_L_law_p5 : C_L_law_p5.all (okI RL cL_law 4 []) = true := by decide +kernel
theorem ok_L_law_p6 : C_L_law_p6.all (okI RL cL_law 4 []) = true := by decide +kernel
theorem ok_L_law_p7 : C_L_law_p7.all (okI RL cL_law 4 []) = true := by decide +kernel
theorem ok_L_law_p8 : C_L_law_p8.all (okI RL cL_law 4 []) = true := by decide +kernel
theorem ok_L_law_p9 : C_L_law_p9.all (okI RL cL_law 4 []) = true := by decide +kernel
theorem ok_L_law_p10 : C_L_law_p10.all (okI RL cL_law 4 []) = true := by decide +kernel
theorem ok_L_law_p11 : C_L_law_p11.all (okI RL cL_law 4 []) = true := by decide +kernel
theorem ok_L_law_p12 : C_L_law_p12.all (okI RL cL_law 4 []) = true := by decide +kernel
theorem ok_L_law_p13 : C_L_law_p13.all (okI RL cL_law 4 []) = true := by decide +kernel
theorem ok_L_law_p14 : C_L_law_p14.all (okI RL cL_law 4 []) = true := by decide +kernel
theorem ok_L_law_p15 : C_L_law_p15.all (okI RL cL_law 4 []) = true := by decide +kernel
theorem ok_L_law_p16 : C_L_law_p16.all (okI RL cL_law 4 []) = true := by decide +kernel
theorem ok_L_law_p17 : C_L_law_p17.all (okI RL cL_law 4 []) = true := by decide +kernel
theorem ok_L_law_p18 : C_L_law_p18.all (okI RL cL_law 4 []) = true := by decide +kernel
theorem ok_L_law_p19 : C_L_law_p19.all (okI RL cL_law 4 []) = true := by decide +kernel
theorem ok_L_law_p20 : C_L_law_p20.all (okI RL cL_law 4 []) = true := by decide +kernel
theorem ok_L_law_p21 : C_L_law_p21.all (okI RL cL_law 4 []) = true := by decide +kernel
theorem ok_L_law_p22 : C_L_law_p22.all (okI RL cL_law 4 []) = true := by decide +kernel
theorem ok_L_law : C_L_law.all (okI RL cL_law 4 []) = true := by simp only [C_L_law, List.all_append, Bool.and_eq_true]; exact ⟨ok_L_law_p0, ok_L_law_p1, ok_L_law_p2, ok_L_law_p3, ok_L_law_p4, ok_L_law_p5, ok_L_law_p6, ok_L_law_p7, ok_L_law_p8, ok_L_law_p9, ok_L_law_p10, ok_L_law_p11, ok_L_law_p12, ok_L_law_p13, ok_L_law_p14, ok_L_law_p15, ok_L_law_p16, ok_L_law_p17, ok_L_law_p18, ok_L_law_p19, ok_L_law_p20, ok_L_law_p21, ok_L_law_p22⟩
theorem okb_0 : ∀ (y : Nat) (e : tE) (h1 : 0 ≤ y) (h2 : y < 20) (h : mtl[y]? = some e), e.1.all (okI e.2.2.2.2.2 e.2.2.2.1 e.2.1 (lwl.getD y [])) = true ∧ (y ≠ 242 → okM e (mpl.getD y []) = true) := by
  intro y e h1 h2 h
  obtain ⟨k, rfl⟩ : ∃ k, y = 0 + k := ⟨y - 0, by omega⟩
  have hk : k < 20 := by omega
  clear h1 h2
  match k, hk, h with
  | 0, _, h => cases h; exact ⟨ok_X0_reaches, fun _ => om_X0_reaches⟩
  | 1, _, h => cases h; exact ⟨ok_X0_neededTubes, fun _ => om_X0_neededTubes⟩
  | 2, _, h => cases h; exact ⟨ok_X0_fewestTubes, fun _ => om_X0_fewestTubes⟩
  | 3, _, h => cases h; exact ⟨ok_X0_findWay, fun _ => om_X0_findWay⟩
  | 4, _, h => cases h; exact ⟨ok_X0_comeBy, fun _ => om_X0_comeBy⟩
  | 5, _, h => cases h; exact ⟨ok_X0_takeWay, fun _ => om_X0_takeWay⟩
  | 6, _, h => cases h; exact ⟨ok_X1_findWrong, fun _ => om_X1_findWrong⟩
  | 7, _, h => cases h; exact ⟨ok_X1_takeToldLeg, fun _ => om_X1_takeToldLeg⟩
  | 8, _, h => cases h; exact ⟨ok_X1_takeDrawnLeg, fun _ => om_X1_takeDrawnLeg⟩
  | 9, _, h => cases h; exact ⟨ok_X2_joinAll, fun _ => om_X2_joinAll⟩
  | 10, _, h => cases h; exact ⟨ok_X2_joins, fun _ => om_X2_joins⟩
  | 11, _, h => cases h; exact ⟨ok_X3_read, fun _ => om_X3_read⟩
  | 12, _, h => cases h; exact ⟨ok_X3_hear, fun _ => om_X3_hear⟩
  | 13, _, h => cases h; exact ⟨ok_X3_fittingTubes, fun _ => om_X3_fittingTubes⟩
  | 14, _, h => cases h; exact ⟨ok_X3_fits, fun _ => om_X3_fits⟩
  | 15, _, h => cases h; exact ⟨ok_X3_nextDesk, fun _ => om_X3_nextDesk⟩
  | 16, _, h => cases h; exact ⟨ok_X3_mostLeft, fun _ => om_X3_mostLeft⟩
  | 17, _, h => cases h; exact ⟨ok_X3_lateness, fun _ => om_X3_lateness⟩
  | 18, _, h => cases h; exact ⟨ok_X4_hasDesk, fun _ => om_X4_hasDesk⟩
  | 19, _, h => cases h; exact ⟨ok_X4_hasTube, fun _ => om_X4_hasTube⟩
  | _ + 20, hk, _ => exact absurd hk (by omega)
theorem okb_1 : ∀ (y : Nat) (e : tE) (h1 : 20 ≤ y) (h2 : y < 40) (h : mtl[y]? = some e), e.1.all (okI e.2.2.2.2.2 e.2.2.2.1 e.2.1 (lwl.getD y [])) = true ∧ (y ≠ 242 → okM e (mpl.getD y []) = true) := by
  intro y e h1 h2 h
  obtain ⟨k, rfl⟩ : ∃ k, y = 20 + k := ⟨y - 20, by omega⟩
  have hk : k < 20 := by omega
  clear h1 h2
  match k, hk, h with
  | 0, _, h => cases h; exact ⟨ok_X4_hasCapsule, fun _ => om_X4_hasCapsule⟩
  | 1, _, h => cases h; exact ⟨ok_X4_hasRoomForDesk, fun _ => om_X4_hasRoomForDesk⟩
  | 2, _, h => cases h; exact ⟨ok_X4_hasRoomForTube, fun _ => om_X4_hasRoomForTube⟩
  | 3, _, h => cases h; exact ⟨ok_X4_hasRoomForCapsule, fun _ => om_X4_hasRoomForCapsule⟩
  | 4, _, h => cases h; exact ⟨ok_X4_addDesk, fun _ => om_X4_addDesk⟩
  | 5, _, h => cases h; exact ⟨ok_X4_addTube, fun _ => om_X4_addTube⟩
  | 6, _, h => cases h; exact ⟨ok_X4_addCapsule, fun _ => om_X4_addCapsule⟩
  | 7, _, h => cases h; exact ⟨ok_X4_isShut, fun _ => om_X4_isShut⟩
  | 8, _, h => cases h; exact ⟨ok_X4_putShut, fun _ => om_X4_putShut⟩
  | 9, _, h => cases h; exact ⟨ok_X4_takeOver, fun _ => om_X4_takeOver⟩
  | 10, _, h => cases h; exact ⟨ok_X4_minutesThrough, fun _ => om_X4_minutesThrough⟩
  | 11, _, h => cases h; exact ⟨ok_X4_dividedUpward, fun _ => om_X4_dividedUpward⟩
  | 12, _, h => cases h; exact ⟨ok_X4_mayGo, fun _ => om_X4_mayGo⟩
  | 13, _, h => cases h; exact ⟨ok_X4_goTo, fun _ => om_X4_goTo⟩
  | 14, _, h => cases h; exact ⟨ok_X4_draw, fun _ => om_X4_draw⟩
  | 15, _, h => cases h; exact ⟨ok_X4_signedTogether, fun _ => om_X4_signedTogether⟩
  | 16, _, h => cases h; exact ⟨ok_X4_shutTubes, fun _ => om_X4_shutTubes⟩
  | 17, _, h => cases h; exact ⟨ok_X5_forget, fun _ => om_X5_forget⟩
  | 18, _, h => cases h; exact ⟨ok_X5_bodyAt, fun _ => om_X5_bodyAt⟩
  | 19, _, h => cases h; exact ⟨ok_X5_run, fun _ => om_X5_run⟩
  | _ + 20, hk, _ => exact absurd hk (by omega)
theorem okb_2 : ∀ (y : Nat) (e : tE) (h1 : 40 ≤ y) (h2 : y < 60) (h : mtl[y]? = some e), e.1.all (okI e.2.2.2.2.2 e.2.2.2.1 e.2.1 (lwl.getD y [])) = true ∧ (y ≠ 242 → okM e (mpl.getD y []) = true) := by
  intro y e h1 h2 h
  obtain ⟨k, rfl⟩ : ∃ k, y = 40 + k := ⟨y - 40, by omega⟩
  have hk : k < 20 := by omega
  clear h1 h2
  match k, hk, h with
  | 0, _, h => cases h; exact ⟨ok_X5_begin, fun _ => om_X5_begin⟩
  | 1, _, h => cases h; exact ⟨ok_X5_hissesFrom, fun _ => om_X5_hissesFrom⟩
  | 2, _, h => cases h; exact ⟨ok_X5_landsFrom, fun _ => om_X5_landsFrom⟩
  | 3, _, h => cases h; exact ⟨ok_X5_signsFrom, fun _ => om_X5_signsFrom⟩
  | 4, _, h => cases h; exact ⟨ok_X6_findFault, fun _ => om_X6_findFault⟩
  | 5, _, h => cases h; exact ⟨ok_X6_failAt, fun _ => om_X6_failAt⟩
  | 6, _, h => cases h; exact ⟨ok_X6_letterHere, fun _ => om_X6_letterHere⟩
  | 7, _, h => cases h; exact ⟨ok_X6_isDigitHere, fun _ => om_X6_isDigitHere⟩
  | 8, _, h => cases h; exact ⟨ok_X6_readSign, fun _ => om_X6_readSign⟩
  | 9, _, h => cases h; exact ⟨ok_X6_readItem, fun _ => om_X6_readItem⟩
  | 10, _, h => cases h; exact ⟨ok_X6_wordThatBeginsHere, fun _ => om_X6_wordThatBeginsHere⟩
  | 11, _, h => cases h; exact ⟨ok_X6_textOf, fun _ => om_X6_textOf⟩
  | 12, _, h => cases h; exact ⟨ok_X6_numbersOf, fun _ => om_X6_numbersOf⟩
  | 13, _, h => cases h; exact ⟨ok_X6_hasRoomFor, fun _ => om_X6_hasRoomFor⟩
  | 14, _, h => cases h; exact ⟨ok_X6_readNumber, fun _ => om_X6_readNumber⟩
  | 15, _, h => cases h; exact ⟨ok_X6_mayStand, fun _ => om_X6_mayStand⟩
  | 16, _, h => cases h; exact ⟨ok_X6_mayStandInTube, fun _ => om_X6_mayStandInTube⟩
  | 17, _, h => cases h; exact ⟨ok_X6_mayStandInCapsule, fun _ => om_X6_mayStandInCapsule⟩
  | 18, _, h => cases h; exact ⟨ok_X6_tell, fun _ => om_X6_tell⟩
  | 19, _, h => cases h; exact ⟨ok_X7_leastMinutes, fun _ => om_X7_leastMinutes⟩
  | _ + 20, hk, _ => exact absurd hk (by omega)
theorem okb_3 : ∀ (y : Nat) (e : tE) (h1 : 60 ≤ y) (h2 : y < 80) (h : mtl[y]? = some e), e.1.all (okI e.2.2.2.2.2 e.2.2.2.1 e.2.1 (lwl.getD y [])) = true ∧ (y ≠ 242 → okM e (mpl.getD y []) = true) := by
  intro y e h1 h2 h
  obtain ⟨k, rfl⟩ : ∃ k, y = 60 + k := ⟨y - 60, by omega⟩
  have hk : k < 20 := by omega
  clear h1 h2
  match k, hk, h with
  | 0, _, h => cases h; exact ⟨ok_X7_bestOf, fun _ => om_X7_bestOf⟩
  | 1, _, h => cases h; exact ⟨ok_X7_leastFrom, fun _ => om_X7_leastFrom⟩
  | 2, _, h => cases h; exact ⟨ok_X7_leastOver, fun _ => om_X7_leastOver⟩
  | 3, _, h => cases h; exact ⟨ok_X7_deskOfOrder, fun _ => om_X7_deskOfOrder⟩
  | 4, _, h => cases h; exact ⟨ok_X7_nextOfOrder, fun _ => om_X7_nextOfOrder⟩
  | 5, _, h => cases h; exact ⟨ok_X8_hasShelf, fun _ => om_X8_hasShelf⟩
  | 6, _, h => cases h; exact ⟨ok_X8_hasRow, fun _ => om_X8_hasRow⟩
  | 7, _, h => cases h; exact ⟨ok_X8_heldAt, fun _ => om_X8_heldAt⟩
  | 8, _, h => cases h; exact ⟨ok_X8_sizeOf, fun _ => om_X8_sizeOf⟩
  | 9, _, h => cases h; exact ⟨ok_X8_putRow, fun _ => om_X8_putRow⟩
  | 10, _, h => cases h; exact ⟨ok_X8_putHeld, fun _ => om_X8_putHeld⟩
  | 11, _, h => cases h; exact ⟨ok_X8_hasElement, fun _ => om_X8_hasElement⟩
  | 12, _, h => cases h; exact ⟨ok_X8_elementAt, fun _ => om_X8_elementAt⟩
  | 13, _, h => cases h; exact ⟨ok_X8_intAt, fun _ => om_X8_intAt⟩
  | 14, _, h => cases h; exact ⟨ok_X8_putElement, fun _ => om_X8_putElement⟩
  | 15, _, h => cases h; exact ⟨ok_X8_lowestBits, fun _ => om_X8_lowestBits⟩
  | 16, _, h => cases h; exact ⟨ok_X8_hasPart, fun _ => om_X8_hasPart⟩
  | 17, _, h => cases h; exact ⟨ok_X8_copyPart, fun _ => om_X8_copyPart⟩
  | 18, _, h => cases h; exact ⟨ok_X8_dropCapsulesFrom, fun _ => om_X8_dropCapsulesFrom⟩
  | 19, _, h => cases h; exact ⟨ok_X9_prepareFor, fun _ => om_X9_prepareFor⟩
  | _ + 20, hk, _ => exact absurd hk (by omega)
theorem okb_4 : ∀ (y : Nat) (e : tE) (h1 : 80 ≤ y) (h2 : y < 100) (h : mtl[y]? = some e), e.1.all (okI e.2.2.2.2.2 e.2.2.2.1 e.2.1 (lwl.getD y [])) = true ∧ (y ≠ 242 → okM e (mpl.getD y []) = true) := by
  intro y e h1 h2 h
  obtain ⟨k, rfl⟩ : ∃ k, y = 80 + k := ⟨y - 80, by omega⟩
  have hk : k < 20 := by omega
  clear h1 h2
  match k, hk, h with
  | 0, _, h => cases h; exact ⟨ok_X9_prepareForKnocks, fun _ => om_X9_prepareForKnocks⟩
  | 1, _, h => cases h; exact ⟨ok_X9_passableTubes, fun _ => om_X9_passableTubes⟩
  | 2, _, h => cases h; exact ⟨ok_X9_spread, fun _ => om_X9_spread⟩
  | 3, _, h => cases h; exact ⟨ok_X9_comesNearer, fun _ => om_X9_comesNearer⟩
  | 4, _, h => cases h; exact ⟨ok_X9_fillTable, fun _ => om_X9_fillTable⟩
  | 5, _, h => cases h; exact ⟨ok_X9_between, fun _ => om_X9_between⟩
  | 6, _, h => cases h; exact ⟨ok_X9_minutesTo, fun _ => om_X9_minutesTo⟩
  | 7, _, h => cases h; exact ⟨ok_X9_stepsTo, fun _ => om_X9_stepsTo⟩
  | 8, _, h => cases h; exact ⟨ok_X9_reached, fun _ => om_X9_reached⟩
  | 9, _, h => cases h; exact ⟨ok_X9_firstTubeTo, fun _ => om_X9_firstTubeTo⟩
  | 10, _, h => cases h; exact ⟨ok_X9_desksWithin, fun _ => om_X9_desksWithin⟩
  | 11, _, h => cases h; exact ⟨ok_X9_keepReach, fun _ => om_X9_keepReach⟩
  | 12, _, h => cases h; exact ⟨ok_X9_laterAt, fun _ => om_X9_laterAt⟩
  | 13, _, h => cases h; exact ⟨ok_X9_deskToMeet, fun _ => om_X9_deskToMeet⟩
  | 14, _, h => cases h; exact ⟨ok_X9_longestFrom, fun _ => om_X9_longestFrom⟩
  | 15, _, h => cases h; exact ⟨ok_X10_row, fun _ => om_X10_row⟩
  | 16, _, h => cases h; exact ⟨ok_X10_set, fun _ => om_X10_set⟩
  | 17, _, h => cases h; exact ⟨ok_X10_copy, fun _ => om_X10_copy⟩
  | 18, _, h => cases h; exact ⟨ok_X10_element, fun _ => om_X10_element⟩
  | 19, _, h => cases h; exact ⟨ok_X10_show, fun _ => om_X10_show⟩
  | _ + 20, hk, _ => exact absurd hk (by omega)
theorem okb_5 : ∀ (y : Nat) (e : tE) (h1 : 100 ≤ y) (h2 : y < 120) (h : mtl[y]? = some e), e.1.all (okI e.2.2.2.2.2 e.2.2.2.1 e.2.1 (lwl.getD y [])) = true ∧ (y ≠ 242 → okM e (mpl.getD y []) = true) := by
  intro y e h1 h2 h
  obtain ⟨k, rfl⟩ : ∃ k, y = 100 + k := ⟨y - 100, by omega⟩
  have hk : k < 20 := by omega
  clear h1 h2
  match k, hk, h with
  | 0, _, h => cases h; exact ⟨ok_X10_holds, fun _ => om_X10_holds⟩
  | 1, _, h => cases h; exact ⟨ok_X10_says, fun _ => om_X10_says⟩
  | 2, _, h => cases h; exact ⟨ok_X10_desk, fun _ => om_X10_desk⟩
  | 3, _, h => cases h; exact ⟨ok_X10_tube, fun _ => om_X10_tube⟩
  | 4, _, h => cases h; exact ⟨ok_X10_capsule, fun _ => om_X10_capsule⟩
  | 5, _, h => cases h; exact ⟨ok_X10_shut, fun _ => om_X10_shut⟩
  | 6, _, h => cases h; exact ⟨ok_X10_ask, fun _ => om_X10_ask⟩
  | 7, _, h => cases h; exact ⟨ok_X10_capsuleOf, fun _ => om_X10_capsuleOf⟩
  | 8, _, h => cases h; exact ⟨ok_X10_tubeOf, fun _ => om_X10_tubeOf⟩
  | 9, _, h => cases h; exact ⟨ok_X10_signed, fun _ => om_X10_signed⟩
  | 10, _, h => cases h; exact ⟨ok_X10_plan, fun _ => om_X10_plan⟩
  | 11, _, h => cases h; exact ⟨ok_X10_fault, fun _ => om_X10_fault⟩
  | 12, _, h => cases h; exact ⟨ok_X10_time, fun _ => om_X10_time⟩
  | 13, _, h => cases h; exact ⟨ok_X10_way, fun _ => om_X10_way⟩
  | 14, _, h => cases h; exact ⟨ok_X10_within, fun _ => om_X10_within⟩
  | 15, _, h => cases h; exact ⟨ok_X10_round, fun _ => om_X10_round⟩
  | 16, _, h => cases h; exact ⟨ok_X10_meet, fun _ => om_X10_meet⟩
  | 17, _, h => cases h; exact ⟨ok_X10_cut, fun _ => om_X10_cut⟩
  | 18, _, h => cases h; exact ⟨ok_X10_stuck, fun _ => om_X10_stuck⟩
  | 19, _, h => cases h; exact ⟨ok_X10_listen, fun _ => om_X10_listen⟩
  | _ + 20, hk, _ => exact absurd hk (by omega)
theorem okb_6 : ∀ (y : Nat) (e : tE) (h1 : 120 ≤ y) (h2 : y < 140) (h : mtl[y]? = some e), e.1.all (okI e.2.2.2.2.2 e.2.2.2.1 e.2.1 (lwl.getD y [])) = true ∧ (y ≠ 242 → okM e (mpl.getD y []) = true) := by
  intro y e h1 h2 h
  obtain ⟨k, rfl⟩ : ∃ k, y = 120 + k := ⟨y - 120, by omega⟩
  have hk : k < 20 := by omega
  clear h1 h2
  match k, hk, h with
  | 0, _, h => cases h; exact ⟨ok_X10_enough, fun _ => om_X10_enough⟩
  | 1, _, h => cases h; exact ⟨ok_X10_tree, fun _ => om_X10_tree⟩
  | 2, _, h => cases h; exact ⟨ok_X10_seat, fun _ => om_X10_seat⟩
  | 3, _, h => cases h; exact ⟨ok_X10_judge, fun _ => om_X10_judge⟩
  | 4, _, h => cases h; exact ⟨ok_X10_behind, fun _ => om_X10_behind⟩
  | 5, _, h => cases h; exact ⟨ok_X10_done, fun _ => om_X10_done⟩
  | 6, _, h => cases h; exact ⟨ok_X10_send, fun _ => om_X10_send⟩
  | 7, _, h => cases h; exact ⟨ok_X10_months, fun _ => om_X10_months⟩
  | 8, _, h => cases h; exact ⟨ok_X10_seed, fun _ => om_X10_seed⟩
  | 9, _, h => cases h; exact ⟨ok_X10_act, fun _ => om_X10_act⟩
  | 10, _, h => cases h; exact ⟨ok_X10_trace, fun _ => om_X10_trace⟩
  | 11, _, h => cases h; exact ⟨ok_X10_image, fun _ => om_X10_image⟩
  | 12, _, h => cases h; exact ⟨ok_X10_restore, fun _ => om_X10_restore⟩
  | 13, _, h => cases h; exact ⟨ok_X10_status, fun _ => om_X10_status⟩
  | 14, _, h => cases h; exact ⟨ok_X10_refuse, fun _ => om_X10_refuse⟩
  | 15, _, h => cases h; exact ⟨ok_X10_rowRefusal, fun _ => om_X10_rowRefusal⟩
  | 16, _, h => cases h; exact ⟨ok_X10_copyRefusal, fun _ => om_X10_copyRefusal⟩
  | 17, _, h => cases h; exact ⟨ok_X10_knocksRefusal, fun _ => om_X10_knocksRefusal⟩
  | 18, _, h => cases h; exact ⟨ok_X10_legsRefusal, fun _ => om_X10_legsRefusal⟩
  | 19, _, h => cases h; exact ⟨ok_X10_standsOnDraft, fun _ => om_X10_standsOnDraft⟩
  | _ + 20, hk, _ => exact absurd hk (by omega)
theorem okb_7 : ∀ (y : Nat) (e : tE) (h1 : 140 ≤ y) (h2 : y < 160) (h : mtl[y]? = some e), e.1.all (okI e.2.2.2.2.2 e.2.2.2.1 e.2.1 (lwl.getD y [])) = true ∧ (y ≠ 242 → okM e (mpl.getD y []) = true) := by
  intro y e h1 h2 h
  obtain ⟨k, rfl⟩ : ∃ k, y = 140 + k := ⟨y - 140, by omega⟩
  have hk : k < 20 := by omega
  clear h1 h2
  match k, hk, h with
  | 0, _, h => cases h; exact ⟨ok_X10_isOneToNine, fun _ => om_X10_isOneToNine⟩
  | 1, _, h => cases h; exact ⟨ok_X10_isDeskNumber, fun _ => om_X10_isDeskNumber⟩
  | 2, _, h => cases h; exact ⟨ok_X10_isUnder, fun _ => om_X10_isUnder⟩
  | 3, _, h => cases h; exact ⟨ok_X11_isIn, fun _ => om_X11_isIn⟩
  | 4, _, h => cases h; exact ⟨ok_X11_refuse, fun _ => om_X11_refuse⟩
  | 5, _, h => cases h; exact ⟨ok_X11_refuseBy10, fun _ => om_X11_refuseBy10⟩
  | 6, _, h => cases h; exact ⟨ok_X11_move, fun _ => om_X11_move⟩
  | 7, _, h => cases h; exact ⟨ok_X11_isDesk, fun _ => om_X11_isDesk⟩
  | 8, _, h => cases h; exact ⟨ok_X11_isTube, fun _ => om_X11_isTube⟩
  | 9, _, h => cases h; exact ⟨ok_X11_isCapsule, fun _ => om_X11_isCapsule⟩
  | 10, _, h => cases h; exact ⟨ok_X11_from, fun _ => om_X11_from⟩
  | 11, _, h => cases h; exact ⟨ok_X11_to, fun _ => om_X11_to⟩
  | 12, _, h => cases h; exact ⟨ok_X11_length, fun _ => om_X11_length⟩
  | 13, _, h => cases h; exact ⟨ok_X11_bore, fun _ => om_X11_bore⟩
  | 14, _, h => cases h; exact ⟨ok_X11_isShut, fun _ => om_X11_isShut⟩
  | 15, _, h => cases h; exact ⟨ok_X11_kind, fun _ => om_X11_kind⟩
  | 16, _, h => cases h; exact ⟨ok_X11_a, fun _ => om_X11_a⟩
  | 17, _, h => cases h; exact ⟨ok_X11_weight, fun _ => om_X11_weight⟩
  | 18, _, h => cases h; exact ⟨ok_X11_at, fun _ => om_X11_at⟩
  | 19, _, h => cases h; exact ⟨ok_X11_addDesk, fun _ => om_X11_addDesk⟩
  | _ + 20, hk, _ => exact absurd hk (by omega)
theorem okb_8 : ∀ (y : Nat) (e : tE) (h1 : 160 ≤ y) (h2 : y < 180) (h : mtl[y]? = some e), e.1.all (okI e.2.2.2.2.2 e.2.2.2.1 e.2.1 (lwl.getD y [])) = true ∧ (y ≠ 242 → okM e (mpl.getD y []) = true) := by
  intro y e h1 h2 h
  obtain ⟨k, rfl⟩ : ∃ k, y = 160 + k := ⟨y - 160, by omega⟩
  have hk : k < 20 := by omega
  clear h1 h2
  match k, hk, h with
  | 0, _, h => cases h; exact ⟨ok_X11_addTube, fun _ => om_X11_addTube⟩
  | 1, _, h => cases h; exact ⟨ok_X11_addCapsule, fun _ => om_X11_addCapsule⟩
  | 2, _, h => cases h; exact ⟨ok_X11_desk, fun _ => om_X11_desk⟩
  | 3, _, h => cases h; exact ⟨ok_X11_tube, fun _ => om_X11_tube⟩
  | 4, _, h => cases h; exact ⟨ok_X11_capsule, fun _ => om_X11_capsule⟩
  | 5, _, h => cases h; exact ⟨ok_X11_shut, fun _ => om_X11_shut⟩
  | 6, _, h => cases h; exact ⟨ok_X11_ask, fun _ => om_X11_ask⟩
  | 7, _, h => cases h; exact ⟨ok_X11_capsuleOf, fun _ => om_X11_capsuleOf⟩
  | 8, _, h => cases h; exact ⟨ok_X11_tubeOf, fun _ => om_X11_tubeOf⟩
  | 9, _, h => cases h; exact ⟨ok_X11_signed, fun _ => om_X11_signed⟩
  | 10, _, h => cases h; exact ⟨ok_X11_isShelf, fun _ => om_X11_isShelf⟩
  | 11, _, h => cases h; exact ⟨ok_X11_row, fun _ => om_X11_row⟩
  | 12, _, h => cases h; exact ⟨ok_X11_rowIn, fun _ => om_X11_rowIn⟩
  | 13, _, h => cases h; exact ⟨ok_X11_set, fun _ => om_X11_set⟩
  | 14, _, h => cases h; exact ⟨ok_X11_isCapsuleIn, fun _ => om_X11_isCapsuleIn⟩
  | 15, _, h => cases h; exact ⟨ok_X11_copy, fun _ => om_X11_copy⟩
  | 16, _, h => cases h; exact ⟨ok_X11_element, fun _ => om_X11_element⟩
  | 17, _, h => cases h; exact ⟨ok_X11_told, fun _ => om_X11_told⟩
  | 18, _, h => cases h; exact ⟨ok_X11_show, fun _ => om_X11_show⟩
  | 19, _, h => cases h; exact ⟨ok_X11_holds, fun _ => om_X11_holds⟩
  | _ + 20, hk, _ => exact absurd hk (by omega)
theorem okb_9 : ∀ (y : Nat) (e : tE) (h1 : 180 ≤ y) (h2 : y < 200) (h : mtl[y]? = some e), e.1.all (okI e.2.2.2.2.2 e.2.2.2.1 e.2.1 (lwl.getD y [])) = true ∧ (y ≠ 242 → okM e (mpl.getD y []) = true) := by
  intro y e h1 h2 h
  obtain ⟨k, rfl⟩ : ∃ k, y = 180 + k := ⟨y - 180, by omega⟩
  have hk : k < 20 := by omega
  clear h1 h2
  match k, hk, h with
  | 0, _, h => cases h; exact ⟨ok_X11_says, fun _ => om_X11_says⟩
  | 1, _, h => cases h; exact ⟨ok_X11_letter, fun _ => om_X11_letter⟩
  | 2, _, h => cases h; exact ⟨ok_X11_isFault, fun _ => om_X11_isFault⟩
  | 3, _, h => cases h; exact ⟨ok_X11_isLetter, fun _ => om_X11_isLetter⟩
  | 4, _, h => cases h; exact ⟨ok_X11_word, fun _ => om_X11_word⟩
  | 5, _, h => cases h; exact ⟨ok_X11_number, fun _ => om_X11_number⟩
  | 6, _, h => cases h; exact ⟨ok_X11_isItem, fun _ => om_X11_isItem⟩
  | 7, _, h => cases h; exact ⟨ok_X11_plan, fun _ => om_X11_plan⟩
  | 8, _, h => cases h; exact ⟨ok_X11_fault, fun _ => om_X11_fault⟩
  | 9, _, h => cases h; exact ⟨ok_X11_may, fun _ => om_X11_may⟩
  | 10, _, h => cases h; exact ⟨ok_X11_timeOf, fun _ => om_X11_timeOf⟩
  | 11, _, h => cases h; exact ⟨ok_X11_time, fun _ => om_X11_time⟩
  | 12, _, h => cases h; exact ⟨ok_X11_clear, fun _ => om_X11_clear⟩
  | 13, _, h => cases h; exact ⟨ok_X11_nearer, fun _ => om_X11_nearer⟩
  | 14, _, h => cases h; exact ⟨ok_X11_close, fun _ => om_X11_close⟩
  | 15, _, h => cases h; exact ⟨ok_X11_fill, fun _ => om_X11_fill⟩
  | 16, _, h => cases h; exact ⟨ok_X11_way, fun _ => om_X11_way⟩
  | 17, _, h => cases h; exact ⟨ok_X11_orNone, fun _ => om_X11_orNone⟩
  | 18, _, h => cases h; exact ⟨ok_X11_first, fun _ => om_X11_first⟩
  | 19, _, h => cases h; exact ⟨ok_X11_way_, fun _ => om_X11_way_⟩
  | _ + 20, hk, _ => exact absurd hk (by omega)
theorem okb_10 : ∀ (y : Nat) (e : tE) (h1 : 200 ≤ y) (h2 : y < 220) (h : mtl[y]? = some e), e.1.all (okI e.2.2.2.2.2 e.2.2.2.1 e.2.1 (lwl.getD y [])) = true ∧ (y ≠ 242 → okM e (mpl.getD y []) = true) := by
  intro y e h1 h2 h
  obtain ⟨k, rfl⟩ : ∃ k, y = 200 + k := ⟨y - 200, by omega⟩
  have hk : k < 20 := by omega
  clear h1 h2
  match k, hk, h with
  | 0, _, h => cases h; exact ⟨ok_X11_within, fun _ => om_X11_within⟩
  | 1, _, h => cases h; exact ⟨ok_X11_ones, fun _ => om_X11_ones⟩
  | 2, _, h => cases h; exact ⟨ok_X11_fillRounds, fun _ => om_X11_fillRounds⟩
  | 3, _, h => cases h; exact ⟨ok_X11_round, fun _ => om_X11_round⟩
  | 4, _, h => cases h; exact ⟨ok_X11_meet, fun _ => om_X11_meet⟩
  | 5, _, h => cases h; exact ⟨ok_X11_push, fun _ => om_X11_push⟩
  | 6, _, h => cases h; exact ⟨ok_X11_pushes, fun _ => om_X11_pushes⟩
  | 7, _, h => cases h; exact ⟨ok_X11_keep, fun _ => om_X11_keep⟩
  | 8, _, h => cases h; exact ⟨ok_X11_cut, fun _ => om_X11_cut⟩
  | 9, _, h => cases h; exact ⟨ok_X11_sound, fun _ => om_X11_sound⟩
  | 10, _, h => cases h; exact ⟨ok_X11_heard, fun _ => om_X11_heard⟩
  | 11, _, h => cases h; exact ⟨ok_X11_knocks, fun _ => om_X11_knocks⟩
  | 12, _, h => cases h; exact ⟨ok_X11_fit, fun _ => om_X11_fit⟩
  | 13, _, h => cases h; exact ⟨ok_X11_stuck, fun _ => om_X11_stuck⟩
  | 14, _, h => cases h; exact ⟨ok_X11_lag, fun _ => om_X11_lag⟩
  | 15, _, h => cases h; exact ⟨ok_X11_listen, fun _ => om_X11_listen⟩
  | 16, _, h => cases h; exact ⟨ok_X11_enough, fun _ => om_X11_enough⟩
  | 17, _, h => cases h; exact ⟨ok_X11_tree, fun _ => om_X11_tree⟩
  | 18, _, h => cases h; exact ⟨ok_X11_seat, fun _ => om_X11_seat⟩
  | 19, _, h => cases h; exact ⟨ok_X11_legs, fun _ => om_X11_legs⟩
  | _ + 20, hk, _ => exact absurd hk (by omega)
theorem okb_11 : ∀ (y : Nat) (e : tE) (h1 : 220 ≤ y) (h2 : y < 240) (h : mtl[y]? = some e), e.1.all (okI e.2.2.2.2.2 e.2.2.2.1 e.2.1 (lwl.getD y [])) = true ∧ (y ≠ 242 → okM e (mpl.getD y []) = true) := by
  intro y e h1 h2 h
  obtain ⟨k, rfl⟩ : ∃ k, y = 220 + k := ⟨y - 220, by omega⟩
  have hk : k < 20 := by omega
  clear h1 h2
  match k, hk, h with
  | 0, _, h => cases h; exact ⟨ok_X11_leg, fun _ => om_X11_leg⟩
  | 1, _, h => cases h; exact ⟨ok_X11_day, fun _ => om_X11_day⟩
  | 2, _, h => cases h; exact ⟨ok_X11_judge, fun _ => om_X11_judge⟩
  | 3, _, h => cases h; exact ⟨ok_X11_after, fun _ => om_X11_after⟩
  | 4, _, h => cases h; exact ⟨ok_X11_done, fun _ => om_X11_done⟩
  | 5, _, h => cases h; exact ⟨ok_X11_send, fun _ => om_X11_send⟩
  | 6, _, h => cases h; exact ⟨ok_X11_draw, fun _ => om_X11_draw⟩
  | 7, _, h => cases h; exact ⟨ok_X11_months, fun _ => om_X11_months⟩
  | 8, _, h => cases h; exact ⟨ok_X11_seed, fun _ => om_X11_seed⟩
  | 9, _, h => cases h; exact ⟨ok_X11_began, fun _ => om_X11_began⟩
  | 10, _, h => cases h; exact ⟨ok_X11_hisses, fun _ => om_X11_hisses⟩
  | 11, _, h => cases h; exact ⟨ok_X11_lands, fun _ => om_X11_lands⟩
  | 12, _, h => cases h; exact ⟨ok_X11_signs, fun _ => om_X11_signs⟩
  | 13, _, h => cases h; exact ⟨ok_X11_act, fun _ => om_X11_act⟩
  | 14, _, h => cases h; exact ⟨ok_X11_trace, fun _ => om_X11_trace⟩
  | 15, _, h => cases h; exact ⟨ok_X11_behind, fun _ => om_X11_behind⟩
  | 16, _, h => cases h; exact ⟨ok_X11_image, fun _ => om_X11_image⟩
  | 17, _, h => cases h; exact ⟨ok_X11_restore, fun _ => om_X11_restore⟩
  | 18, _, h => cases h; exact ⟨ok_X11_status, fun _ => om_X11_status⟩
  | 19, _, h => cases h; exact ⟨ok_J6_bitCount_0f7a4, fun _ => om_J6_bitCount_0f7a4⟩
  | _ + 20, hk, _ => exact absurd hk (by omega)
theorem okb_12 : ∀ (y : Nat) (e : tE) (h1 : 240 ≤ y) (h2 : y < 243) (h : mtl[y]? = some e), e.1.all (okI e.2.2.2.2.2 e.2.2.2.1 e.2.1 (lwl.getD y [])) = true ∧ (y ≠ 242 → okM e (mpl.getD y []) = true) := by
  intro y e h1 h2 h
  obtain ⟨k, rfl⟩ : ∃ k, y = 240 + k := ⟨y - 240, by omega⟩
  have hk : k < 3 := by omega
  clear h1 h2
  match k, hk, h with
  | 0, _, h => cases h; exact ⟨ok_J7_fill_d0a16, fun _ => om_J7_fill_d0a16⟩
  | 1, _, h => cases h; exact ⟨ok_J7_fill_53178, fun _ => om_J7_fill_53178⟩
  | 2, _, h => cases h; exact ⟨ok_L_law, fun z => absurd rfl z⟩
  | _ + 3, hk, _ => exact absurd hk (by omega)
theorem ok_all {y : Nat} {e : tE} (h : mtl[y]? = some e) : e.1.all (okI e.2.2.2.2.2 e.2.2.2.1 e.2.1 (lwl.getD y [])) = true ∧ (y ≠ 242 → okM e (mpl.getD y []) = true) := by
  have hy : y < 243 := (List.getElem?_eq_some_iff.mp h).1
  by_cases h0 : y < 20
  · exact okb_0 y e (by omega) h0 h
  by_cases h1 : y < 40
  · exact okb_1 y e (by omega) h1 h
  by_cases h2 : y < 60
  · exact okb_2 y e (by omega) h2 h
  by_cases h3 : y < 80
  · exact okb_3 y e (by omega) h3 h
  by_cases h4 : y < 100
  · exact okb_4 y e (by omega) h4 h
  by_cases h5 : y < 120
  · exact okb_5 y e (by omega) h5 h
  by_cases h6 : y < 140
  · exact okb_6 y e (by omega) h6 h
  by_cases h7 : y < 160
  · exact okb_7 y e (by omega) h7 h
  by_cases h8 : y < 180
  · exact okb_8 y e (by omega) h8 h
  by_cases h9 : y < 200
  · exact okb_9 y e (by omega) h9 h
  by_cases h10 : y < 220
  · exact okb_10 y e (by omega) h10 h
  by_cases h11 : y < 240
  · exact okb_11 y e (by omega) h11 h
  by_cases h12 : y < 243
  · exact okb_12 y e (by omega) h12 h
  omega
