/-! the methods: name, bytes, locals, return type, its class; the places of its words in lw_tbl -/
def gMs : List (MethodName × ByteArray × Nat × Option FieldType × Nat) := [
  (yX0_forget, cX0_forget, 1, none, 0),
  (yX0_bodyThatRan, cX0_bodyThatRan, 2, (some .int), 0),
  (yX0_perform, cX0_perform, 6, (some .int), 0),
  (yX0_begin, cX0_begin, 2, none, 0),
  (yX0_homeOf, cX0_homeOf, 4, (some .int), 0),
  (yX0_bodyAt, cX0_bodyAt, 3, (some .int), 0),
  (yX0_run, cX0_run, 9, (some .int), 0),
  (yX1_read, cX1_read, 3, (some .int), 1),
  (yX1_readItem, cX1_readItem, 1, none, 1),
  (yX1_readThing, cX1_readThing, 5, none, 1),
  (yX1_readMan, cX1_readMan, 2, none, 1),
  (yX1_readWant, cX1_readWant, 4, none, 1),
  (yX1_readLong, cX1_readLong, 2, none, 1),
  (yX1_readRiver, cX1_readRiver, 3, none, 1),
  (yX1_readWind, cX1_readWind, 2, none, 1),
  (yX1_expectWord, cX1_expectWord, 5, none, 1),
  (yX1_number, cX1_number, 3, (some .int), 1),
  (yX1_must, cX1_must, 2, none, 1),
  (yX1_expect, cX1_expect, 2, none, 1),
  (yX1_fail, cX1_fail, 2, none, 1),
  (yX1_letter, cX1_letter, 2, (some .int), 1),
  (yX1_isDigit, cX1_isDigit, 1, (some .boolean), 1),
  (yX2_endOf, cX2_endOf, 4, (some .int), 2),
  (yX2_endFound, cX2_endFound, 2, (some .int), 2),
  (yX2_leastSet, cX2_leastSet, 7, (some .int), 2),
  (yX2_placed, cX2_placed, 9, (some .int), 2),
  (yX2_firstThatDoes, cX2_firstThatDoes, 6, (some .int), 2),
  (yX2_fewestCarries, cX2_fewestCarries, 7, (some .int), 2),
  (yX2_farthestBut, cX2_farthestBut, 5, (some .int), 2),
  (yX2_equalsNeeded, cX2_equalsNeeded, 8, (some .int), 2),
  (yX2_leastMissed, cX2_leastMissed, 7, (some .int), 2),
  (yX2_strengthNeeded, cX2_strengthNeeded, 9, (some .int), 2),
  (yX2_doesWith, cX2_doesWith, 6, (some .boolean), 2),
  (yX2_measure, cX2_measure, 3, none, 2),
  (yX2_fill, cX2_fill, 5, (some .int), 2),
  (yX2_farthestEnd, cX2_farthestEnd, 5, (some .int), 2),
  (yX2_onward, cX2_onward, 5, (some .int), 2),
  (yX3_share, cX3_share, 4, none, 3),
  (yX3_worthMet, cX3_worthMet, 1, (some .int), 3),
  (yX3_wantFor, cX3_wantFor, 3, (some .int), 3),
  (yX3_findGains, cX3_findGains, 7, (some .boolean), 3),
  (yX3_digitsOf, cX3_digitsOf, 3, (some .int), 3),
  (yX3_shareOut, cX3_shareOut, 5, none, 3),
  (yX4_has, cX4_has, 2, (some .boolean), 4),
  (yX4_content, cX4_content, 2, (some .int), 4),
  (yX4_isRow, cX4_isRow, 2, (some .boolean), 4),
  (yX4_isThing, cX4_isThing, 2, (some .boolean), 4),
  (yX4_noRow, cX4_noRow, 2, (some .int), 4),
  (yX4_noTwoRows, cX4_noTwoRows, 4, (some .int), 4),
  (yX4_sizeOf, cX4_sizeOf, 2, (some .int), 4),
  (yX4_spans, cX4_spans, 4, (some .boolean), 4),
  (yX4_makeRow, cX4_makeRow, 5, none, 4),
  (yX4_hold, cX4_hold, 3, none, 4),
  (yX4_put, cX4_put, 5, none, 4),
  (yX4_lowest, cX4_lowest, 3, (some .long), 4),
  (yX4_longAt, cX4_longAt, 3, (some .long), 4),
  (yX4_intAt, cX4_intAt, 3, (some .int), 4),
  (yX4_bring, cX4_bring, 6, none, 4),
  (yX4_dropThingsFrom, cX4_dropThingsFrom, 3, none, 4),
  (yX5_has, cX5_has, 2, (some .boolean), 5),
  (yX5_isFull, cX5_isFull, 1, (some .boolean), 5),
  (yX5_hasCell, cX5_hasCell, 3, (some .boolean), 5),
  (yX5_cell, cX5_cell, 5, (some .int), 5),
  (yX5_put, cX5_put, 5, none, 5),
  (yX5_append, cX5_append, 1, (some .int), 5),
  (yX5_takeOver, cX5_takeOver, 2, none, 5),
  (yX6_takeOver, cX6_takeOver, 2, none, 6),
  (yX6_addThing, cX6_addThing, 6, (some .int), 6),
  (yX6_addMan, cX6_addMan, 3, (some .int), 6),
  (yX6_addWant, cX6_addWant, 5, (some .int), 6),
  (yX6_hasBoth, cX6_hasBoth, 3, (some .boolean), 6),
  (yX6_isSet, cX6_isSet, 2, (some .boolean), 6),
  (yX6_everybody, cX6_everybody, 1, (some .int), 6),
  (yX6_stepOf, cX6_stepOf, 2, (some .int), 6),
  (yX6_isThere, cX6_isThere, 2, (some .boolean), 6),
  (yX6_inRiver, cX6_inRiver, 2, (some .boolean), 6),
  (yX6_mayStand, cX6_mayStand, 2, (some .boolean), 6),
  (yX6_isOnward, cX6_isOnward, 3, (some .boolean), 6),
  (yX6_mayBeLong, cX6_mayBeLong, 2, (some .boolean), 6),
  (yX6_mayBeRiver, cX6_mayBeRiver, 3, (some .boolean), 6),
  (yX6_isTold, cX6_isTold, 4, (some .boolean), 6),
  (yX6_strengthLeft, cX6_strengthLeft, 3, (some .int), 6),
  (yX6_reachOf, cX6_reachOf, 3, (some .int), 6),
  (yX6_reach, cX6_reach, 7, (some .int), 6),
  (yX6_can, cX6_can, 2, (some .int), 6),
  (yX6_capped, cX6_capped, 1, (some .int), 6),
  (yX6_byRoundedUp, cX6_byRoundedUp, 2, (some .int), 6),
  (yX6_word, cX6_word, 3, (some .int), 6),
  (yX6_whyNot, cX6_whyNot, 6, (some .int), 6),
  (yX6_bring, cX6_bring, 4, none, 6),
  (yX6_moveOn, cX6_moveOn, 5, none, 6),
  (yX6_caughtTenths, cX6_caughtTenths, 4, (some .int), 6),
  (yX6_mayBeThrown, cX6_mayBeThrown, 4, (some .boolean), 6),
  (yX6_meanWorth, cX6_meanWorth, 6, (some .int), 6),
  (yX6_fling, cX6_fling, 5, (some .boolean), 6),
  (yX6_draw, cX6_draw, 2, (some .int), 6),
  (yX6_cutUp, cX6_cutUp, 6, none, 6),
  (yX6_sleep, cX6_sleep, 4, (some .int), 6),
  (yX7_row, cX7_row, 4, (some .int), 7),
  (yX7_set, cX7_set, 6, (some .int), 7),
  (yX7_copy, cX7_copy, 7, (some .int), 7),
  (yX7_element, cX7_element, 3, (some .long), 7),
  (yX7_show, cX7_show, 3, (some .int), 7),
  (yX7_holds, cX7_holds, 2, (some .int), 7),
  (yX7_says, cX7_says, 4, (some .int), 7),
  (yX7_thing, cX7_thing, 5, (some .int), 7),
  (yX7_man, cX7_man, 2, (some .int), 7),
  (yX7_men, cX7_men, 6, (some .int), 7),
  (yX7_want, cX7_want, 4, (some .int), 7),
  (yX7_ask, cX7_ask, 4, (some .int), 7),
  (yX7_river, cX7_river, 3, (some .int), 7),
  (yX7_thingOf, cX7_thingOf, 3, (some .int), 7),
  (yX7_manOf, cX7_manOf, 3, (some .int), 7),
  (yX7_wantOf, cX7_wantOf, 3, (some .int), 7),
  (yX7_valley, cX7_valley, 3, (some .int), 7),
  (yX7_fault, cX7_fault, 1, (some .int), 7),
  (yX7_far, cX7_far, 3, (some .int), 7),
  (yX7_wrong, cX7_wrong, 4, (some .int), 7),
  (yX7_carry, cX7_carry, 4, (some .int), 7),
  (yX7_judge, cX7_judge, 5, (some .int), 7),
  (yX7_firstThatCant, cX7_firstThatCant, 7, (some .int), 7),
  (yX7_end, cX7_end, 3, (some .int), 7),
  (yX7_does, cX7_does, 4, (some .int), 7),
  (yX7_fewest, cX7_fewest, 4, (some .int), 7),
  (yX7_order, cX7_order, 5, (some .int), 7),
  (yX7_handovers, cX7_handovers, 3, (some .int), 7),
  (yX7_shared, cX7_shared, 1, (some .int), 7),
  (yX7_given, cX7_given, 2, (some .int), 7),
  (yX7_mill, cX7_mill, 4, (some .int), 7),
  (yX7_weakest, cX7_weakest, 3, (some .int), 7),
  (yX7_helps, cX7_helps, 5, (some .int), 7),
  (yX7_caught, cX7_caught, 4, (some .int), 7),
  (yX7_mean, cX7_mean, 4, (some .int), 7),
  (yX7_cast, cX7_cast, 7, (some .int), 7),
  (yX7_toss, cX7_toss, 4, (some .int), 7),
  (yX7_part, cX7_part, 2, (some .int), 7),
  (yX7_night, cX7_night, 1, (some .int), 7),
  (yX7_seed, cX7_seed, 3, (some .int), 7),
  (yX7_act, cX7_act, 4, (some .int), 7),
  (yX7_trace, cX7_trace, 2, (some .int), 7),
  (yX7_image, cX7_image, 1, (some .int), 7),
  (yX7_restore, cX7_restore, 1, (some .int), 7),
  (yX7_status, cX7_status, 2, (some .int), 7),
  (yX7_refuse, cX7_refuse, 3, (some .int), 7),
  (yX7_refuseApart, cX7_refuseApart, 2, (some .int), 7),
  (yX7_isKind, cX7_isKind, 1, (some .boolean), 7),
  (yX7_isUnder, cX7_isUnder, 4, (some .boolean), 7),
  (yX7_isWeight, cX7_isWeight, 1, (some .boolean), 7),
  (yX7_isExtra, cX7_isExtra, 1, (some .boolean), 7),
  (yX7_isStrength, cX7_isStrength, 1, (some .boolean), 7),
  (yX7_isWorth, cX7_isWorth, 1, (some .boolean), 7),
  (yX7_isWind, cX7_isWind, 1, (some .boolean), 7),
  (yX7_isThrow, cX7_isThrow, 1, (some .boolean), 7),
  (yX8_no, cX8_no, 2, (some .int), 8),
  (yX8_noTen, cX8_noTen, 2, (some .int), 8),
  (yX8_isShelf, cX8_isShelf, 2, (some .boolean), 8),
  (yX8_isThing, cX8_isThing, 2, (some .boolean), 8),
  (yX8_isMan, cX8_isMan, 2, (some .boolean), 8),
  (yX8_isSet, cX8_isSet, 2, (some .boolean), 8),
  (yX8_isWet, cX8_isWet, 2, (some .boolean), 8),
  (yX8_isStep, cX8_isStep, 2, (some .boolean), 8),
  (yX8_row, cX8_row, 5, (some .int), 8),
  (yX8_set, cX8_set, 5, (some .int), 8),
  (yX8_copy, cX8_copy, 7, (some .int), 8),
  (yX8_element, cX8_element, 3, (some .long), 8),
  (yX8_show, cX8_show, 3, (some .int), 8),
  (yX8_holds, cX8_holds, 2, (some .int), 8),
  (yX8_says, cX8_says, 5, (some .int), 8),
  (yX8_wants, cX8_wants, 2, (some .int), 8),
  (yX8_intAt, cX8_intAt, 3, (some .int), 8),
  (yX8_things, cX8_things, 5, (some .int), 8),
  (yX8_thing, cX8_thing, 5, (some .int), 8),
  (yX8_men, cX8_men, 2, (some .int), 8),
  (yX8_man, cX8_man, 2, (some .int), 8),
  (yX8_men_, cX8_men_, 7, (some .int), 8),
  (yX8_wanted, cX8_wanted, 4, (some .int), 8),
  (yX8_want, cX8_want, 4, (some .int), 8),
  (yX8_isLong, cX8_isLong, 3, (some .boolean), 8),
  (yX8_isRiver, cX8_isRiver, 4, (some .boolean), 8),
  (yX8_ask, cX8_ask, 4, (some .int), 8),
  (yX8_river, cX8_river, 3, (some .int), 8),
  (yX8_thingOf, cX8_thingOf, 3, (some .int), 8),
  (yX8_manOf, cX8_manOf, 3, (some .int), 8),
  (yX8_wantOf, cX8_wantOf, 3, (some .int), 8),
  (yX8_wrong, cX8_wrong, 2, (some .boolean), 8),
  (yX8_word, cX8_word, 6, (some .int), 8),
  (yX8_isDigit, cX8_isDigit, 1, (some .boolean), 8),
  (yX8_number, cX8_number, 4, (some .boolean), 8),
  (yX8_isFit, cX8_isFit, 3, (some .boolean), 8),
  (yX8_isFull, cX8_isFull, 2, (some .boolean), 8),
  (yX8_isWordAt, cX8_isWordAt, 4, (some .boolean), 8),
  (yX8_item, cX8_item, 6, (some .boolean), 8),
  (yX8_keeps, cX8_keeps, 7, (some .int), 8),
  (yX8_all, cX8_all, 4, none, 8),
  (yX8_valley, cX8_valley, 5, (some .int), 8),
  (yX8_fault, cX8_fault, 1, (some .int), 8),
  (yX8_low, cX8_low, 3, (some .int), 8),
  (yX8_farBy, cX8_farBy, 6, (some .int), 8),
  (yX8_farOf, cX8_farOf, 3, (some .int), 8),
  (yX8_far, cX8_far, 3, (some .int), 8),
  (yX8_wrongBy, cX8_wrongBy, 5, (some .int), 8),
  (yX8_wrong_, cX8_wrong_, 4, (some .int), 8),
  (yX8_near, cX8_near, 2, (some .int), 8),
  (yX8_tires, cX8_tires, 3, none, 8),
  (yX8_carries, cX8_carries, 4, none, 8),
  (yX8_carry, cX8_carry, 4, (some .int), 8),
  (yX8_judge, cX8_judge, 9, (some .int), 8),
  (yX8_goes, cX8_goes, 5, (some .int), 8),
  (yX8_rows, cX8_rows, 8, none, 8),
  (yX8_rowsFor, cX8_rowsFor, 4, none, 8),
  (yX8_end, cX8_end, 3, (some .int), 8),
  (yX8_isOnward, cX8_isOnward, 3, (some .boolean), 8),
  (yX8_does, cX8_does, 4, (some .int), 8),
  (yX8_count, cX8_count, 4, (some .int), 8),
  (yX8_fewest, cX8_fewest, 5, (some .int), 8),
  (yX8_order, cX8_order, 10, (some .int), 8),
  (yX8_handovers, cX8_handovers, 7, (some .int), 8),
  (yX8_worthOf, cX8_worthOf, 3, (some .int), 8),
  (yX8_shares, cX8_shares, 4, none, 8),
  (yX8_shareAll, cX8_shareAll, 6, none, 8),
  (yX8_shared, cX8_shared, 1, (some .int), 8),
  (yX8_given, cX8_given, 2, (some .int), 8),
  (yX8_mill, cX8_mill, 8, (some .int), 8),
  (yX8_weakest, cX8_weakest, 7, (some .int), 8),
  (yX8_helps, cX8_helps, 8, (some .int), 8),
  (yX8_caughtBy, cX8_caughtBy, 5, (some .int), 8),
  (yX8_isThrow, cX8_isThrow, 4, (some .boolean), 8),
  (yX8_isFar, cX8_isFar, 2, (some .boolean), 8),
  (yX8_caught, cX8_caught, 4, (some .int), 8),
  (yX8_meanOf, cX8_meanOf, 6, (some .int), 8),
  (yX8_mean, cX8_mean, 4, (some .int), 8),
  (yX8_cast, cX8_cast, 7, (some .int), 8),
  (yX8_draw, cX8_draw, 2, (some .int), 8),
  (yX8_toss, cX8_toss, 5, (some .int), 8),
  (yX8_part, cX8_part, 6, (some .int), 8),
  (yX8_night, cX8_night, 3, (some .int), 8),
  (yX8_seed, cX8_seed, 3, (some .int), 8),
  (yX8_body, cX8_body, 2, none, 8),
  (yX8_going, cX8_going, 7, (some .int), 8),
  (yX8_resting, cX8_resting, 5, (some .int), 8),
  (yX8_falling, cX8_falling, 6, (some .int), 8),
  (yX8_act, cX8_act, 4, (some .int), 8),
  (yX8_trace, cX8_trace, 2, (some .int), 8),
  (yX8_image, cX8_image, 1, (some .int), 8),
  (yX8_restore, cX8_restore, 2, (some .int), 8),
  (yX8_status, cX8_status, 2, (some .int), 8),
  (yJ6_bitCount_0f7a4, cJ6_bitCount_0f7a4, 1, (some .int), 9)]
/-- of each: the place of its code word; 1 a static; the place of its static or instance word; of its selects word -/
def gMp : List (Nat × Nat × Nat × Nat) := [(1017, 0, 1015, 1016), (1047, 0, 1045, 1046), (1021, 0, 1019, 1020), (1039, 0, 1038, 30), (1028, 1, 1027, 0), (1032, 1, 1031, 0), (1025, 0, 1024, 29), (591, 0, 589, 590), (598, 0, 597, 3), (606, 0, 605, 5), (688, 0, 687, 11), (713, 0, 712, 15), (695, 0, 694, 12), (701, 0, 700, 13), (707, 0, 706, 14), (612, 0, 611, 6), (672, 0, 671, 9), (680, 0, 679, 10), (664, 0, 663, 7), (668, 0, 667, 8), (602, 0, 601, 4), (675, 1, 674, 0), (793, 0, 791, 792), (811, 0, 809, 810), (835, 0, 833, 834), (852, 0, 850, 851), (856, 0, 855, 22), (868, 0, 866, 867), (873, 0, 872, 24), (923, 0, 921, 922), (932, 0, 930, 931), (940, 0, 938, 939), (944, 0, 943, 27), (797, 0, 796, 18), (803, 0, 802, 19), (807, 0, 806, 20), (815, 0, 814, 21), (881, 0, 879, 880), (907, 0, 905, 906), (915, 0, 913, 914), (889, 0, 888, 25), (896, 1, 895, 0), (902, 0, 901, 26), (337, 0, 335, 336), (362, 0, 360, 361), (358, 0, 356, 357), (366, 0, 365, 1), (354, 0, 352, 353), (390, 0, 388, 389), (374, 0, 372, 373), (370, 0, 368, 369), (345, 0, 343, 344), (417, 0, 415, 416), (378, 0, 376, 377), (382, 1, 381, 0), (405, 0, 403, 404), (518, 0, 516, 517), (394, 0, 392, 393), (1059, 0, 1057, 1058), (413, 0, 411, 412), (482, 0, 480, 481), (498, 0, 496, 497), (434, 0, 432, 433), (494, 0, 492, 493), (490, 0, 488, 489), (586, 0, 584, 585), (582, 0, 580, 581), (486, 0, 484, 485), (510, 0, 508, 509), (530, 0, 528, 529), (730, 0, 728, 729), (785, 0, 783, 784), (789, 0, 787, 788), (546, 0, 544, 545), (574, 0, 572, 573), (478, 0, 476, 477), (474, 0, 472, 473), (826, 0, 824, 825), (538, 0, 536, 537), (557, 0, 555, 556), (542, 0, 541, 2), (739, 0, 737, 738), (735, 0, 733, 734), (448, 0, 446, 447), (451, 1, 450, 0), (454, 1, 453, 0), (460, 1, 459, 0), (443, 0, 441, 442), (750, 0, 748, 749), (762, 0, 760, 761), (766, 0, 765, 16), (956, 0, 954, 955), (968, 0, 966, 967), (964, 0, 962, 963), (982, 0, 980, 981), (986, 0, 985, 28), (995, 0, 993, 994), (1005, 0, 1003, 1004), (333, 0, 331, 332), (350, 0, 348, 349), (386, 0, 384, 385), (401, 0, 399, 400), (409, 0, 407, 408), (421, 0, 419, 420), (426, 0, 424, 425), (464, 0, 462, 463), (503, 0, 501, 502), (514, 0, 512, 513), (523, 0, 521, 522), (534, 0, 532, 533), (553, 0, 551, 552), (561, 0, 559, 560), (566, 0, 564, 565), (570, 0, 568, 569), (578, 0, 576, 577), (722, 0, 720, 721), (726, 0, 724, 725), (746, 0, 744, 745), (758, 0, 756, 757), (771, 0, 769, 770), (777, 0, 776, 17), (781, 0, 779, 780), (822, 0, 820, 821), (831, 0, 829, 830), (847, 0, 845, 846), (860, 0, 858, 859), (877, 0, 875, 876), (911, 0, 909, 910), (919, 0, 917, 918), (928, 0, 926, 927), (936, 0, 934, 935), (949, 0, 947, 948), (960, 0, 958, 959), (973, 0, 971, 972), (977, 0, 975, 976), (991, 0, 989, 990), (1001, 0, 999, 1000), (1009, 0, 1007, 1008), (1013, 0, 1011, 1012), (1043, 0, 1041, 1042), (1051, 0, 1049, 1050), (1055, 0, 1053, 1054), (1063, 0, 1061, 1062), (341, 0, 340, 0), (864, 0, 863, 23), (429, 1, 428, 0), (437, 1, 436, 0), (467, 1, 466, 0), (470, 1, 469, 0), (506, 1, 505, 0), (526, 1, 525, 0), (549, 1, 548, 0), (952, 1, 951, 0), (1232, 0, 1231, 32), (1476, 0, 1475, 67), (1228, 0, 1227, 31), (1252, 0, 1251, 33), (1340, 0, 1339, 45), (1436, 0, 1435, 61), (1280, 0, 1279, 37), (1276, 0, 1275, 36), (1224, 0, 1222, 1223), (1236, 0, 1234, 1235), (1240, 0, 1238, 1239), (1244, 0, 1242, 1243), (1248, 0, 1246, 1247), (1256, 0, 1254, 1255), (1260, 0, 1258, 1259), (1300, 0, 1299, 40), (1304, 0, 1303, 41), (1284, 0, 1283, 38), (1272, 0, 1270, 1271), (1292, 0, 1291, 39), (1288, 0, 1286, 1287), (1296, 0, 1294, 1295), (1312, 0, 1311, 42), (1308, 0, 1306, 1307), (1320, 0, 1319, 43), (1328, 0, 1327, 44), (1316, 0, 1314, 1315), (1324, 0, 1322, 1323), (1332, 0, 1330, 1331), (1336, 0, 1334, 1335), (1344, 0, 1342, 1343), (1372, 0, 1371, 51), (1376, 0, 1375, 52), (1384, 0, 1383, 54), (1380, 0, 1379, 53), (1388, 0, 1387, 55), (1368, 0, 1367, 50), (1364, 0, 1363, 49), (1360, 0, 1359, 48), (1356, 0, 1355, 47), (1352, 0, 1351, 46), (1348, 0, 1346, 1347), (1392, 0, 1390, 1391), (1268, 0, 1267, 35), (1264, 0, 1263, 34), (1400, 0, 1399, 56), (1396, 0, 1394, 1395), (1412, 0, 1411, 58), (1404, 0, 1402, 1403), (1408, 0, 1407, 57), (1424, 0, 1423, 60), (1420, 0, 1419, 59), (1416, 0, 1414, 1415), (1428, 0, 1426, 1427), (1448, 0, 1447, 64), (1444, 0, 1443, 63), (1440, 0, 1439, 62), (1432, 0, 1430, 1431), (1456, 0, 1455, 65), (1452, 0, 1450, 1451), (1464, 0, 1463, 66), (1460, 0, 1458, 1459), (1468, 0, 1466, 1467), (1472, 0, 1470, 1471), (1492, 0, 1491, 70), (1488, 0, 1487, 69), (1484, 0, 1483, 68), (1480, 0, 1478, 1479), (1496, 0, 1494, 1495), (1500, 0, 1498, 1499), (1504, 0, 1502, 1503), (1508, 0, 1506, 1507), (1520, 0, 1519, 72), (1532, 0, 1531, 74), (1516, 0, 1515, 71), (1512, 0, 1510, 1511), (1528, 0, 1527, 73), (1524, 0, 1522, 1523), (1536, 0, 1534, 1535), (1544, 0, 1543, 75), (1540, 0, 1538, 1539), (1549, 0, 1547, 1548), (1553, 0, 1551, 1552), (1557, 0, 1555, 1556), (1569, 0, 1568, 77), (1565, 0, 1564, 76), (1573, 0, 1572, 78), (1577, 0, 1576, 79), (1561, 0, 1559, 1560), (1581, 0, 1579, 1580), (1585, 0, 1583, 1584), (1589, 0, 1587, 1588), (1593, 0, 1591, 1592), (840, 1, 839, 0)]
def gM0 : MethodName × ByteArray × Nat × Option FieldType × Nat := (objectInit, ⟨#[]⟩, 0, none, 99)
def gY (k : Nat) : MethodName := (gMs.getD k gM0).1
def gCd (k : Nat) : ByteArray := (gMs.getD k gM0).2.1
def gML (k : Nat) : Nat := (gMs.getD k gM0).2.2.1
def gRt (k : Nat) : Option FieldType := (gMs.getD k gM0).2.2.2.1
def gOw (k : Nat) : Nat := (gMs.getD k gM0).2.2.2.2
def gCn (c : Nat) : String := [RX0, RX1, RX2, RX3, RX4, RX5, RX6, RX7, RX8, RJ6, RL].getD c ""
def gIn (c : Nat) : Nat := [88, 85, 86, 87, 84, 83, 82, 81, 89, 96, 80].getD c 0
/-- own class, entry, kind (0 virtual, 1 static, 3 static of a nest mate, 4.. Math.min, max, abs, arraycopy), method, arguments, place of the word (in lw_tbl; in gNest) -/
def gCalls : List (Nat × Nat × Nat × Nat × Nat × Nat) := [(10, 13, 0, 98, 3, 330), (7, 71, 0, 43, 1, 334), (7, 75, 0, 143, 1, 338), (7, 79, 0, 51, 3, 342), (4, 23, 0, 43, 1, 346), (10, 17, 0, 161, 3, 1221), (8, 133, 0, 155, 1, 1225), (8, 136, 0, 153, 1, 1229), (10, 20, 0, 99, 3, 347), (7, 83, 0, 47, 1, 351), (4, 31, 0, 45, 1, 355), (4, 27, 0, 44, 1, 359), (4, 34, 0, 46, 1, 363), (7, 86, 0, 50, 3, 367), (4, 37, 0, 49, 1, 371), (7, 90, 0, 53, 3, 375), (4, 40, 0, 50, 3, 379), (4, 44, 1, 54, 2, 380), (10, 24, 0, 162, 3, 1233), (10, 25, 0, 100, 5, 383), (7, 94, 0, 48, 2, 387), (7, 98, 0, 57, 5, 391), (4, 52, 7, 0, 0, 395), (10, 29, 0, 163, 5, 1237), (10, 30, 0, 101, 2, 398), (7, 102, 0, 55, 2, 402), (10, 34, 0, 164, 2, 1241), (10, 35, 0, 102, 2, 406), (7, 110, 0, 59, 1, 410), (7, 113, 0, 52, 2, 414), (10, 39, 0, 165, 2, 1245), (8, 140, 0, 156, 1, 1249), (10, 40, 0, 103, 1, 418), (7, 117, 0, 44, 1, 422), (10, 44, 0, 166, 1, 1253), (10, 45, 0, 104, 2, 423), (7, 120, 1, 145, 1, 427), (7, 123, 0, 45, 1, 430), (7, 126, 0, 62, 2, 431), (7, 129, 1, 146, 2, 435), (7, 133, 0, 87, 2, 440), (6, 67, 0, 62, 2, 444), (6, 93, 0, 83, 2, 445), (6, 105, 4, 0, 0, 455), (6, 96, 1, 84, 2, 449), (6, 99, 1, 85, 1, 452), (6, 102, 1, 86, 2, 458), (10, 48, 0, 167, 2, 1257), (8, 143, 0, 197, 2, 1261), (8, 233, 0, 196, 2, 1265), (10, 49, 0, 105, 4, 461), (7, 136, 1, 147, 1, 465), (7, 139, 1, 148, 1, 468), (7, 142, 0, 76, 1, 471), (6, 75, 0, 75, 1, 475), (7, 145, 0, 60, 0, 479), (7, 149, 0, 67, 4, 483), (6, 49, 0, 64, 0, 487), (6, 53, 0, 63, 3, 491), (5, 29, 0, 61, 2, 495), (5, 25, 0, 59, 1, 499), (10, 53, 0, 171, 4, 1269), (8, 147, 0, 160, 1, 1273), (8, 129, 0, 159, 1, 1277), (8, 150, 0, 170, 4, 1281), (10, 54, 0, 106, 1, 500), (7, 153, 1, 149, 1, 504), (7, 159, 0, 68, 1, 507), (10, 57, 0, 173, 1, 1285), (8, 153, 0, 172, 1, 1289), (10, 58, 0, 107, 3, 511), (7, 162, 0, 56, 2, 515), (4, 48, 0, 55, 2, 519), (10, 61, 0, 174, 3, 1293), (8, 156, 0, 168, 1, 1297), (8, 159, 0, 169, 2, 1301), (10, 62, 0, 108, 3, 520), (7, 165, 1, 150, 1, 524), (7, 171, 0, 69, 3, 527), (10, 65, 0, 176, 3, 1305), (8, 164, 0, 175, 3, 1309), (10, 66, 0, 109, 2, 531), (7, 175, 0, 78, 1, 535), (6, 81, 0, 80, 2, 539), (6, 71, 0, 73, 1, 543), (7, 181, 1, 151, 1, 547), (10, 69, 0, 179, 2, 1313), (8, 168, 0, 177, 1, 1317), (10, 70, 0, 110, 2, 550), (7, 187, 0, 79, 2, 554), (10, 73, 0, 180, 2, 1321), (8, 174, 0, 178, 2, 1325), (10, 74, 0, 111, 2, 558), (7, 196, 0, 61, 2, 562), (10, 77, 0, 181, 2, 1329), (10, 78, 0, 112, 2, 563), (10, 81, 0, 182, 2, 1333), (8, 178, 0, 157, 1, 1337), (10, 82, 0, 113, 2, 567), (7, 199, 0, 74, 1, 571), (10, 85, 0, 183, 2, 1341), (10, 86, 0, 114, 1, 575), (7, 202, 0, 66, 1, 579), (6, 33, 0, 65, 1, 583), (5, 33, 7, 0, 0, 587), (7, 205, 0, 7, 1, 588), (1, 29, 4, 0, 0, 593), (1, 25, 0, 49, 1, 592), (1, 39, 0, 56, 2, 594), (1, 48, 0, 8, 0, 595), (1, 58, 0, 20, 1, 599), (1, 61, 0, 9, 0, 603), (1, 91, 0, 60, 0, 608), (1, 97, 0, 15, 2, 609), (1, 179, 8, 0, 0, 613), (1, 183, 9, 0, 0, 623), (1, 54, 0, 18, 1, 661), (1, 79, 0, 19, 1, 665), (1, 101, 0, 16, 0, 669), (1, 190, 1, 21, 1, 673), (1, 109, 0, 17, 1, 677), (1, 119, 0, 76, 1, 683), (1, 122, 0, 67, 4, 684), (1, 64, 0, 10, 0, 685), (1, 134, 0, 68, 1, 691), (1, 67, 0, 12, 0, 692), (1, 154, 0, 78, 1, 697), (1, 70, 0, 13, 0, 698), (1, 162, 0, 79, 2, 703), (1, 73, 0, 14, 0, 704), (1, 76, 0, 11, 0, 710), (1, 142, 0, 59, 1, 715), (1, 148, 0, 69, 3, 717), (10, 89, 0, 194, 1, 1345), (8, 226, 0, 193, 2, 1349), (8, 219, 0, 192, 5, 1353), (8, 230, 0, 191, 0, 1357), (8, 203, 0, 190, 1, 1361), (8, 206, 0, 189, 1, 1365), (8, 197, 0, 184, 1, 1369), (8, 209, 0, 185, 0, 1373), (8, 213, 0, 187, 2, 1377), (8, 193, 0, 186, 0, 1381), (8, 216, 0, 188, 2, 1385), (10, 90, 0, 115, 0, 719), (10, 94, 0, 195, 0, 1389), (10, 95, 0, 116, 2, 723), (7, 211, 0, 70, 2, 727), (6, 57, 0, 59, 1, 731), (7, 214, 0, 82, 2, 732), (6, 90, 0, 81, 2, 736), (6, 85, 5, 0, 0, 740), (10, 98, 0, 199, 2, 1393), (8, 236, 0, 198, 2, 1397), (10, 99, 0, 117, 3, 743), (7, 217, 0, 88, 3, 747), (6, 108, 6, 0, 0, 751), (6, 111, 0, 82, 2, 754), (10, 102, 0, 201, 3, 1401), (8, 239, 0, 202, 1, 1405), (8, 242, 0, 200, 3, 1409), (10, 103, 0, 118, 3, 755), (7, 220, 0, 89, 3, 759), (6, 114, 0, 90, 3, 763), (7, 222, 0, 73, 1, 767), (10, 106, 0, 205, 3, 1413), (8, 249, 0, 204, 3, 1417), (8, 245, 0, 203, 2, 1421), (10, 107, 0, 119, 3, 768), (7, 227, 0, 49, 1, 773), (7, 230, 0, 120, 3, 774), (10, 110, 0, 206, 3, 1425), (10, 111, 0, 121, 2, 778), (7, 233, 0, 71, 1, 782), (6, 61, 0, 72, 0, 786), (7, 236, 0, 22, 3, 790), (2, 22, 0, 33, 1, 794), (2, 90, 0, 82, 2, 798), (2, 26, 0, 73, 1, 799), (2, 32, 0, 34, 3, 800), (2, 93, 0, 35, 2, 804), (2, 96, 5, 0, 0, 817), (2, 48, 0, 23, 1, 808), (2, 54, 0, 36, 3, 812), (2, 108, 4, 0, 0, 818), (2, 101, 0, 75, 1, 816), (10, 114, 0, 210, 2, 1429), (8, 259, 0, 158, 1, 1433), (8, 262, 0, 209, 2, 1437), (8, 256, 0, 208, 3, 1441), (8, 253, 0, 207, 3, 1445), (10, 115, 0, 122, 3, 819), (7, 239, 0, 77, 2, 823), (6, 78, 0, 76, 1, 827), (10, 118, 0, 212, 3, 1449), (8, 265, 0, 211, 2, 1453), (10, 119, 0, 123, 2, 828), (7, 242, 0, 24, 2, 832), (2, 36, 0, 72, 0, 836), (2, 40, 0, 22, 3, 837), (2, 43, 1, 246, 1, 838), (10, 122, 0, 214, 2, 1457), (8, 268, 0, 213, 1, 1461), (10, 123, 0, 124, 4, 844), (7, 245, 1, 246, 1, 848), (7, 250, 0, 25, 4, 849), (2, 51, 0, 26, 3, 853), (10, 126, 0, 215, 4, 1465), (10, 127, 0, 125, 2, 857), (7, 253, 0, 144, 1, 861), (7, 256, 0, 27, 2, 865), (2, 61, 0, 62, 2, 869), (2, 67, 0, 28, 1, 870), (10, 130, 0, 216, 2, 1469), (8, 271, 0, 154, 1, 1473), (10, 131, 0, 126, 0, 874), (7, 259, 0, 37, 0, 878), (3, 32, 4, 0, 0, 883), (3, 26, 0, 72, 0, 882), (3, 48, 0, 74, 1, 884), (3, 52, 0, 62, 2, 885), (3, 55, 0, 40, 2, 886), (3, 70, 0, 77, 2, 890), (3, 73, 0, 22, 3, 891), (3, 79, 0, 23, 1, 892), (3, 83, 1, 41, 1, 894), (3, 59, 0, 42, 1, 899), (3, 86, 5, 0, 0, 903), (7, 262, 0, 38, 0, 904), (10, 134, 0, 220, 0, 1477), (8, 284, 0, 219, 0, 1481), (8, 280, 0, 218, 1, 1485), (8, 274, 0, 217, 0, 1489), (10, 135, 0, 127, 1, 908), (7, 266, 0, 39, 1, 912), (10, 138, 0, 221, 1, 1493), (10, 139, 0, 128, 3, 916), (7, 269, 0, 29, 3, 920), (2, 77, 0, 83, 2, 924), (10, 142, 0, 222, 3, 1497), (10, 143, 0, 129, 2, 925), (7, 272, 0, 30, 2, 929), (10, 146, 0, 223, 2, 1501), (10, 147, 0, 130, 4, 933), (7, 275, 0, 31, 4, 937), (2, 83, 0, 32, 5, 941), (2, 87, 0, 81, 2, 945), (10, 150, 0, 224, 4, 1505), (10, 151, 0, 131, 3, 946), (7, 278, 1, 152, 1, 950), (7, 281, 0, 91, 3, 953), (10, 154, 0, 228, 3, 1509), (8, 287, 0, 227, 1, 1513), (8, 290, 0, 225, 3, 1517), (10, 155, 0, 132, 3, 957), (7, 284, 0, 93, 3, 961), (6, 117, 0, 92, 3, 965), (6, 121, 0, 91, 3, 969), (10, 158, 0, 230, 3, 1521), (8, 297, 0, 229, 3, 1525), (8, 293, 0, 226, 3, 1529), (10, 159, 0, 133, 2, 970), (10, 162, 0, 231, 2, 1533), (10, 163, 0, 134, 3, 974), (7, 287, 0, 92, 3, 978), (7, 290, 0, 94, 3, 979), (6, 125, 0, 95, 1, 983), (10, 166, 0, 233, 3, 1537), (8, 301, 0, 232, 1, 1541), (10, 167, 0, 135, 1, 988), (7, 296, 0, 96, 1, 992), (6, 129, 0, 60, 0, 996), (6, 133, 0, 67, 4, 997), (10, 170, 0, 234, 1, 1546), (10, 171, 0, 136, 0, 998), (7, 300, 0, 97, 0, 1002), (10, 174, 0, 235, 0, 1550), (10, 175, 0, 137, 1, 1006), (10, 178, 0, 236, 1, 1554), (10, 179, 0, 138, 3, 1010), (7, 306, 0, 0, 0, 1014), (7, 309, 0, 2, 5, 1018), (0, 28, 0, 6, 4, 1022), (0, 46, 1, 4, 2, 1026), (0, 36, 1, 5, 2, 1030), (0, 49, 0, 3, 1, 1036), (10, 182, 0, 241, 3, 1558), (8, 310, 0, 238, 2, 1562), (8, 307, 0, 237, 1, 1566), (8, 313, 0, 239, 2, 1570), (8, 316, 0, 240, 2, 1574), (10, 183, 0, 139, 1, 1040), (7, 313, 0, 1, 1, 1044), (10, 186, 0, 242, 1, 1578), (10, 187, 0, 140, 0, 1048), (10, 190, 0, 243, 0, 1582), (10, 191, 0, 141, 0, 1052), (7, 320, 0, 58, 1, 1056), (10, 194, 0, 244, 0, 1586), (10, 195, 0, 142, 1, 1060), (10, 198, 0, 245, 1, 1590), (1, 105, 3, 145, 1, 31), (1, 113, 3, 147, 1, 32), (1, 116, 3, 148, 1, 33), (1, 131, 3, 149, 1, 34), (1, 174, 3, 151, 1, 35), (1, 145, 3, 150, 1, 36), (0, 32, 3, 145, 1, 37)]
/-- own class, entry, class, number of the field, 1 of a nest mate, place of the word -/
def gFlds : List (Nat × Nat × Nat × Nat × Nat × Nat) := [(7, 7, 7, 0, 0, 296), (7, 16, 7, 1, 0, 297), (7, 20, 7, 2, 0, 298), (7, 23, 7, 3, 0, 299), (7, 29, 7, 4, 0, 300), (7, 38, 7, 5, 0, 301), (7, 47, 7, 6, 0, 302), (7, 56, 7, 7, 0, 303), (7, 63, 7, 8, 0, 304), (7, 67, 7, 10, 0, 306), (6, 14, 6, 0, 0, 135), (6, 20, 6, 1, 0, 139), (6, 23, 6, 2, 0, 143), (6, 26, 6, 3, 0, 147), (6, 30, 6, 7, 0, 161), (5, 9, 5, 0, 0, 117), (5, 15, 5, 1, 0, 118), (5, 19, 5, 2, 0, 119), (4, 9, 4, 0, 0, 192), (4, 15, 4, 1, 0, 193), (4, 20, 4, 2, 0, 194), (1, 11, 1, 2, 0, 211), (1, 17, 1, 0, 0, 209), (1, 21, 1, 1, 0, 210), (2, 9, 2, 1, 0, 242), (2, 15, 2, 2, 0, 243), (2, 18, 2, 0, 0, 241), (3, 9, 3, 2, 0, 259), (3, 15, 3, 3, 0, 260), (3, 18, 3, 0, 0, 257), (3, 22, 3, 1, 0, 258), (0, 11, 0, 0, 0, 279), (8, 7, 8, 3, 0, 1073), (8, 13, 8, 7, 0, 1077), (8, 16, 8, 9, 0, 1079), (8, 19, 8, 10, 0, 1080), (8, 23, 8, 11, 0, 1081), (8, 26, 8, 12, 0, 1082), (8, 29, 8, 13, 0, 1083), (8, 32, 8, 14, 0, 1084), (8, 35, 8, 15, 0, 1085), (8, 38, 8, 16, 0, 1086), (8, 41, 8, 17, 0, 1087), (8, 44, 8, 18, 0, 1088), (8, 47, 8, 19, 0, 1089), (8, 50, 8, 20, 0, 1090), (8, 53, 8, 21, 0, 1091), (8, 56, 8, 22, 0, 1092), (8, 59, 8, 23, 0, 1093), (8, 62, 8, 24, 0, 1094), (8, 65, 8, 25, 0, 1095), (8, 68, 8, 26, 0, 1096), (8, 72, 8, 27, 0, 1097), (8, 75, 8, 28, 0, 1098), (8, 78, 8, 29, 0, 1099), (8, 81, 8, 35, 0, 1105), (8, 84, 8, 36, 0, 1106), (8, 87, 8, 37, 0, 1107), (8, 90, 8, 38, 0, 1108), (8, 93, 8, 39, 0, 1109), (8, 96, 8, 40, 0, 1110), (8, 99, 8, 41, 0, 1111), (8, 102, 8, 42, 0, 1112), (8, 105, 8, 43, 0, 1113), (8, 108, 8, 44, 0, 1114), (8, 111, 8, 45, 0, 1115), (8, 114, 8, 47, 0, 1117), (5, 22, 5, 3, 0, 120), (8, 117, 8, 0, 0, 1070), (6, 43, 6, 6, 0, 158), (8, 171, 8, 6, 0, 1076), (6, 37, 6, 4, 0, 151), (6, 40, 6, 5, 0, 155), (8, 123, 8, 4, 0, 1074), (8, 126, 8, 5, 0, 1075), (8, 120, 8, 1, 0, 1071), (8, 162, 8, 2, 0, 1072), (6, 46, 6, 8, 0, 163), (1, 35, 1, 3, 0, 212), (1, 42, 1, 4, 0, 213), (1, 45, 1, 6, 0, 215), (1, 51, 1, 7, 0, 216), (1, 187, 1, 5, 0, 214), (8, 190, 8, 30, 0, 1100), (8, 184, 8, 31, 0, 1101), (8, 187, 8, 32, 0, 1102), (8, 181, 8, 34, 0, 1104), (8, 223, 8, 8, 0, 1078), (8, 200, 8, 33, 0, 1103), (3, 64, 3, 4, 0, 261), (8, 277, 8, 46, 0, 1116), (0, 15, 0, 1, 0, 280), (0, 19, 0, 2, 0, 282), (0, 22, 0, 3, 0, 283), (0, 25, 0, 4, 0, 284), (8, 304, 8, 48, 0, 1118), (7, 316, 7, 9, 0, 305), (8, 319, 8, 49, 0, 1119), (3, 42, 5, 3, 1, 0), (6, 64, 5, 3, 1, 1), (2, 73, 5, 3, 1, 2), (7, 293, 5, 3, 1, 3), (1, 85, 6, 0, 1, 4), (7, 106, 6, 0, 1, 5), (2, 57, 6, 0, 1, 6), (1, 128, 6, 1, 1, 7), (2, 70, 6, 1, 1, 8), (7, 156, 6, 1, 1, 9), (3, 38, 6, 2, 1, 10), (1, 139, 6, 2, 1, 11), (7, 168, 6, 2, 1, 12), (1, 157, 6, 3, 1, 13), (2, 80, 6, 3, 1, 14), (7, 178, 6, 3, 1, 15), (1, 166, 6, 4, 1, 16), (7, 190, 6, 4, 1, 17), (2, 105, 6, 4, 1, 18), (1, 169, 6, 5, 1, 19), (7, 193, 6, 5, 1, 20), (1, 177, 6, 6, 1, 21), (7, 184, 6, 6, 1, 22), (7, 303, 6, 7, 1, 23), (7, 326, 6, 8, 1, 24), (7, 208, 1, 7, 1, 25), (7, 323, 0, 1, 1, 26)]
def gStats : List (Nat × Nat × Nat × Nat × Nat) := [(7, 329, 100, 0, 438), (3, 67, 102, 0, 897), (0, 43, 101, 0, 1033), (0, 40, 100, 1, 27)]
def gCons : List (Nat × Nat × Int32 × Nat) := [(9, 265, 1431655765, 841), (9, 266, 858993459, 842), (9, 267, 252645135, 843), (3, 63, 390625, 893), (6, 128, 1103515245, 987), (8, 300, 1103515245, 1545)]
def gConL : List (Nat × Nat × Int64 × Nat) := [(10, 18, 4294967295, 1594), (7, 225, 2, 772)]
def gNest : List Cond := [
  Cond.fieldLinkNest RX3 42 RX5 "size" "I" RX7,
  Cond.fieldLinkNest RX6 64 RX5 "size" "I" RX7,
  Cond.fieldLinkNest RX2 73 RX5 "size" "I" RX7,
  Cond.fieldLinkNest RX7 293 RX5 "size" "I" RX7,
  Cond.fieldLinkNest RX1 85 RX6 "things" "LNoFartherThanAThrow$Table;" RX7,
  Cond.fieldLinkNest RX7 106 RX6 "things" "LNoFartherThanAThrow$Table;" RX7,
  Cond.fieldLinkNest RX2 57 RX6 "things" "LNoFartherThanAThrow$Table;" RX7,
  Cond.fieldLinkNest RX1 128 RX6 "people" "LNoFartherThanAThrow$Table;" RX7,
  Cond.fieldLinkNest RX2 70 RX6 "people" "LNoFartherThanAThrow$Table;" RX7,
  Cond.fieldLinkNest RX7 156 RX6 "people" "LNoFartherThanAThrow$Table;" RX7,
  Cond.fieldLinkNest RX3 38 RX6 "wants" "LNoFartherThanAThrow$Table;" RX7,
  Cond.fieldLinkNest RX1 139 RX6 "wants" "LNoFartherThanAThrow$Table;" RX7,
  Cond.fieldLinkNest RX7 168 RX6 "wants" "LNoFartherThanAThrow$Table;" RX7,
  Cond.fieldLinkNest RX1 157 RX6 "length" "I" RX7,
  Cond.fieldLinkNest RX2 80 RX6 "length" "I" RX7,
  Cond.fieldLinkNest RX7 178 RX6 "length" "I" RX7,
  Cond.fieldLinkNest RX1 166 RX6 "from" "I" RX7,
  Cond.fieldLinkNest RX7 190 RX6 "from" "I" RX7,
  Cond.fieldLinkNest RX2 105 RX6 "from" "I" RX7,
  Cond.fieldLinkNest RX1 169 RX6 "to" "I" RX7,
  Cond.fieldLinkNest RX7 193 RX6 "to" "I" RX7,
  Cond.fieldLinkNest RX1 177 RX6 "wind" "I" RX7,
  Cond.fieldLinkNest RX7 184 RX6 "wind" "I" RX7,
  Cond.fieldLinkNest RX7 303 RX6 "seed" "I" RX7,
  Cond.fieldLinkNest RX7 326 RX6 "moves" "I" RX7,
  Cond.fieldLinkNest RX7 208 RX1 "items" "I" RX7,
  Cond.fieldLinkNest RX7 323 RX0 "ran" "I" RX7,
  Cond.fieldLinkNest RX0 40 RX7 "ABOVE" "[I" RX7,
  Cond.methodLinkNest RX7 15 yX6_init RX7,
  Cond.methodLinkNest RX7 28 yX4_init RX7,
  Cond.methodLinkNest RX7 62 yX0_init RX7,
  Cond.methodLinkNest RX1 105 yX7_isKind RX7,
  Cond.methodLinkNest RX1 113 yX7_isWeight RX7,
  Cond.methodLinkNest RX1 116 yX7_isExtra RX7,
  Cond.methodLinkNest RX1 131 yX7_isStrength RX7,
  Cond.methodLinkNest RX1 174 yX7_isWind RX7,
  Cond.methodLinkNest RX1 145 yX7_isWorth RX7,
  Cond.methodLinkNest RX0 32 yX7_isKind RX7]
def gSta (p : Nat) : List Int32 := match p with
  | 100 => [-1, 0, 0, 2, 0, 1, 1]
  | 101 => [10, 11, 12, 20, 0, 0, 0, 50, 0, 0, 60, 0, 70, 0, 71, 0, 30, 0, 40, 0, 41]
  | 102 => [78125, 15625, 3125, 625, 125, 25, 5, 1]
  | _ => []
def gStN (p : Nat) : String × String := match p with
  | 100 => (RX7, "ABOVE")
  | 101 => (RX0, "BODIES")
  | _ => (RX3, "DIGITS")
/-- the shape of the world: (0, class, fields) an object; (1, n, _) ints; (2, n, _) longs; (3, n, places) references -/
def gSh : List (Nat × Nat × List (Option Nat)) := [
  (0, 7, [some 1, some 2, some 9, some 16, some 23, some 35, some 37, some 40, some 43, none, none]),
  (1, 8, []),
  (0, 6, [some 3, some 5, some 7, none, none, none, none, none, none]),
  (0, 5, [some 4, none, none, none]),
  (1, 48, []),
  (0, 5, [some 6, none, none, none]),
  (1, 48, []),
  (0, 5, [some 8, none, none, none]),
  (1, 48, []),
  (0, 6, [some 10, some 12, some 14, none, none, none, none, none, none]),
  (0, 5, [some 11, none, none, none]),
  (1, 48, []),
  (0, 5, [some 13, none, none, none]),
  (1, 48, []),
  (0, 5, [some 15, none, none, none]),
  (1, 48, []),
  (0, 6, [some 17, some 19, some 21, none, none, none, none, none, none]),
  (0, 5, [some 18, none, none, none]),
  (1, 48, []),
  (0, 5, [some 20, none, none, none]),
  (1, 48, []),
  (0, 5, [some 22, none, none, none]),
  (1, 48, []),
  (0, 4, [some 24, some 25, some 26]),
  (1, 8, []),
  (1, 8, []),
  (3, 8, [some 27, some 28, some 29, some 30, some 31, some 32, some 33, some 34]),
  (2, 160, []),
  (2, 160, []),
  (2, 160, []),
  (2, 160, []),
  (2, 160, []),
  (2, 160, []),
  (2, 160, []),
  (2, 160, []),
  (0, 1, [some 23, some 16, some 36, none, none, none, none, none]),
  (1, 160, []),
  (0, 2, [some 2, some 38, some 39]),
  (1, 8, []),
  (1, 256, []),
  (0, 3, [some 2, some 37, some 41, some 42, none]),
  (1, 256, []),
  (1, 256, []),
  (0, 0, [some 44, none, none, none, none]),
  (1, 20, []),
  (0, 8, [none, none, none, none, none, none, none, none, none, none, some 46, some 47, some 48, some 49, some 50, some 51, some 52, some 53, some 54, some 55, some 56, some 57, some 58, some 59, some 60, some 61, some 62, some 63, some 64, some 65, none, none, none, none, none, some 66, some 67, some 68, some 69, some 70, some 71, some 72, some 73, some 74, some 75, some 76, none, some 77, none, none]),
  (1, 8, []),
  (1, 8, []),
  (1, 8, []),
  (1, 8, []),
  (1, 8, []),
  (1, 8, []),
  (1, 8, []),
  (1, 8, []),
  (1, 8, []),
  (1, 4, []),
  (1, 4, []),
  (1, 4, []),
  (1, 8, []),
  (1, 8, []),
  (1, 8, []),
  (1, 8, []),
  (2, 1280, []),
  (2, 160, []),
  (1, 37, []),
  (1, 4, []),
  (1, 90, []),
  (1, 90, []),
  (1, 90, []),
  (1, 256, []),
  (1, 8, []),
  (1, 9, []),
  (1, 9, []),
  (1, 1024, []),
  (1, 4, []),
  (1, 8, []),
  (1, 8, []),
  (1, 20, [])]
def gT (c : Nat) : u_T := (vwCl.getD c (RX0, TX0, 5)).2.1
def gN (c : Nat) : Nat := (vwCl.getD c (RX0, TX0, 5)).2.2
/-! the words that every method's contract stands on: all of lw_tbl that a callee's may be -/
def gG (w : Cond) : Bool := k2_isCode w || goodWord w
def TW : List Cond := lw_tbl.filter gG
theorem TW_good : ∀ w ∈ TW, (w.onTables && w.keeps) = true ∨ ∃ ty, w = .arrayClass ty := by
  intro w hw
  have h := (List.mem_filter.mp hw).2
  unfold gG at h
  by_cases hc : k2_isCode w = true
  · cases w <;> first | (simp [k2_isCode] at hc; done) | exact Or.inl rfl
  · rw [Bool.or_eq_true] at h
    exact good_of_word (h.resolve_left hc)
def gIs (i : Nat) (w : Cond) : Bool := decide (lw_tbl[i]? = some w) && gG w
theorem gIs_in {i : Nat} {w : Cond} (h : gIs i w = true) : w ∈ TW := by
  unfold gIs at h
  rw [Bool.and_eq_true, decide_eq_true_eq] at h
  exact List.mem_filter.mpr ⟨List.mem_of_getElem? h.1, h.2⟩
def ckM (k : Nat) : Bool := match gMp.getD k (0, 0, 0, 0) with
  | (p, s, a, b) => gIs p (.code (gY k) (gCd k) (gML k) (gRt k)) && (if s = 1 then gIs a (.static (gY k)) else gIs a (.instanceMethod (gY k)) && gIs b (.selects (gCn (gOw k)) (gY k) (gY k)))
    && decide ((gY k).cls = gCn (gOw k)) && decide ((gY k).cls ≠ "java/lang/invoke/MethodHandle") && decide ((gY k).cls ≠ "java/lang/invoke/VarHandle") && plainName (gY k).cls && decide (gML k ≤ 20)
def ckI (c : Nat) : Bool := gIs (gIn c) (.initialized (gCn c))
def ckC (q : Nat × Nat × Nat × Nat × Nat × Nat) : Bool := match q with
  | (c, i, 0, k, na, p) => gIs p (.methodLink (gCn c) i (gY k)) && decide (k < gMs.length) && decide ((gMp.getD k (0, 0, 0, 0)).2.1 = 0) && decide ((parseMethodDescriptor (gY k).desc).map (fun d => d.parameters.length) = some na) && decide (gOw k < 9)
  | (c, i, 1, k, na, p) => gIs p (.methodLink (gCn c) i (gY k)) && decide (k < gMs.length) && decide ((gMp.getD k (0, 0, 0, 0)).2.1 = 1) && decide ((parseMethodDescriptor (gY k).desc).map (fun d => d.parameters.length) = some na)
  | (c, i, 3, k, na, p) => decide (gNest[p]? = some (.methodLinkNest (gCn c) i (gY k) RX7)) && decide (k < gMs.length) && decide ((gMp.getD k (0, 0, 0, 0)).2.1 = 1) && decide ((parseMethodDescriptor (gY k).desc).map (fun d => d.parameters.length) = some na)
  | (c, i, 4, _, _, p) => gIs p (.methodLink (gCn c) i Lib.Math.min.name)
  | (c, i, 5, _, _, p) => gIs p (.methodLink (gCn c) i Lib.Math.max.name)
  | (c, i, 6, _, _, p) => gIs p (.methodLink (gCn c) i Lib.Math.abs.name)
  | (c, i, 7, _, _, p) => gIs p (.methodLink (gCn c) i arraycopyName)
  | (c, i, 8, _, _, p) => gIs p (.methodLink (gCn c) i yJ0_length_8abf5)
  | (c, i, 9, _, _, p) => gIs p (.methodLink (gCn c) i yJ0_charAt_5068e)
  | _ => false
def ckF (q : Nat × Nat × Nat × Nat × Nat × Nat) : Bool := match q with
  | (c, i, ci, k, 0, p) => gIs p (.fieldLink (gCn c) i (gT ci k).1 (gT ci k).2.1 (gT ci k).2.2.1) && decide (ci < 9) && decide (k < gN ci)
  | (c, i, ci, k, 1, p) => decide (gNest[p]? = some (.fieldLinkNest (gCn c) i (gT ci k).1 (gT ci k).2.1 (gT ci k).2.2.1 RX7)) && decide (ci < 9) && decide (k < gN ci)
  | _ => false
def ckS (q : Nat × Nat × Nat × Nat × Nat) : Bool := match q with
  | (c, i, s, 0, p) => gIs p (.fieldLink (gCn c) i (gStN s).1 (gStN s).2 "[I") && decide (s = 100 ∨ s = 101 ∨ s = 102)
  | (c, i, s, 1, p) => decide (gNest[p]? = some (.fieldLinkNest (gCn c) i (gStN s).1 (gStN s).2 "[I" RX7)) && decide (s = 100 ∨ s = 101 ∨ s = 102)
  | _ => false
theorem TW_X0 : ∀ w ∈ u_ws RX0 TX0 5, w ∈ TW := by
  have e : (u_ws RX0 TX0 5).all (fun w => decide (w ∈ [285, 287, 289, 291, 293].filterMap (fun i => lw_tbl[i]?)) && gG w) = true := by decide +kernel
  intro w hw
  have h := List.all_eq_true.mp e w hw
  rw [Bool.and_eq_true, decide_eq_true_eq] at h
  obtain ⟨i, -, hi⟩ := List.mem_filterMap.mp h.1
  exact List.mem_filter.mpr ⟨List.mem_of_getElem? hi, h.2⟩
theorem TW_X1 : ∀ w ∈ u_ws RX1 TX1 8, w ∈ TW := by
  have e : (u_ws RX1 TX1 8).all (fun w => decide (w ∈ [218, 220, 222, 224, 226, 228, 230, 232].filterMap (fun i => lw_tbl[i]?)) && gG w) = true := by decide +kernel
  intro w hw
  have h := List.all_eq_true.mp e w hw
  rw [Bool.and_eq_true, decide_eq_true_eq] at h
  obtain ⟨i, -, hi⟩ := List.mem_filterMap.mp h.1
  exact List.mem_filter.mpr ⟨List.mem_of_getElem? hi, h.2⟩
theorem TW_X2 : ∀ w ∈ u_ws RX2 TX2 3, w ∈ TW := by
  have e : (u_ws RX2 TX2 3).all (fun w => decide (w ∈ [244, 246, 248].filterMap (fun i => lw_tbl[i]?)) && gG w) = true := by decide +kernel
  intro w hw
  have h := List.all_eq_true.mp e w hw
  rw [Bool.and_eq_true, decide_eq_true_eq] at h
  obtain ⟨i, -, hi⟩ := List.mem_filterMap.mp h.1
  exact List.mem_filter.mpr ⟨List.mem_of_getElem? hi, h.2⟩
theorem TW_X3 : ∀ w ∈ u_ws RX3 TX3 5, w ∈ TW := by
  have e : (u_ws RX3 TX3 5).all (fun w => decide (w ∈ [262, 264, 266, 268, 270].filterMap (fun i => lw_tbl[i]?)) && gG w) = true := by decide +kernel
  intro w hw
  have h := List.all_eq_true.mp e w hw
  rw [Bool.and_eq_true, decide_eq_true_eq] at h
  obtain ⟨i, -, hi⟩ := List.mem_filterMap.mp h.1
  exact List.mem_filter.mpr ⟨List.mem_of_getElem? hi, h.2⟩
theorem TW_X4 : ∀ w ∈ u_ws RX4 TX4 3, w ∈ TW := by
  have e : (u_ws RX4 TX4 3).all (fun w => decide (w ∈ [195, 197, 199].filterMap (fun i => lw_tbl[i]?)) && gG w) = true := by decide +kernel
  intro w hw
  have h := List.all_eq_true.mp e w hw
  rw [Bool.and_eq_true, decide_eq_true_eq] at h
  obtain ⟨i, -, hi⟩ := List.mem_filterMap.mp h.1
  exact List.mem_filter.mpr ⟨List.mem_of_getElem? hi, h.2⟩
theorem TW_X5 : ∀ w ∈ u_ws RX5 TX5 4, w ∈ TW := by
  have e : (u_ws RX5 TX5 4).all (fun w => decide (w ∈ [125, 127, 129, 131].filterMap (fun i => lw_tbl[i]?)) && gG w) = true := by decide +kernel
  intro w hw
  have h := List.all_eq_true.mp e w hw
  rw [Bool.and_eq_true, decide_eq_true_eq] at h
  obtain ⟨i, -, hi⟩ := List.mem_filterMap.mp h.1
  exact List.mem_filter.mpr ⟨List.mem_of_getElem? hi, h.2⟩
theorem TW_X6 : ∀ w ∈ u_ws RX6 TX6 9, w ∈ TW := by
  have e : (u_ws RX6 TX6 9).all (fun w => decide (w ∈ [165, 167, 169, 171, 173, 175, 177, 179, 181].filterMap (fun i => lw_tbl[i]?)) && gG w) = true := by decide +kernel
  intro w hw
  have h := List.all_eq_true.mp e w hw
  rw [Bool.and_eq_true, decide_eq_true_eq] at h
  obtain ⟨i, -, hi⟩ := List.mem_filterMap.mp h.1
  exact List.mem_filter.mpr ⟨List.mem_of_getElem? hi, h.2⟩
theorem TW_X7 : ∀ w ∈ u_ws RX7 TX7 11, w ∈ TW := by
  have e : (u_ws RX7 TX7 11).all (fun w => decide (w ∈ [307, 309, 311, 313, 315, 317, 319, 321, 323, 325, 327].filterMap (fun i => lw_tbl[i]?)) && gG w) = true := by decide +kernel
  intro w hw
  have h := List.all_eq_true.mp e w hw
  rw [Bool.and_eq_true, decide_eq_true_eq] at h
  obtain ⟨i, -, hi⟩ := List.mem_filterMap.mp h.1
  exact List.mem_filter.mpr ⟨List.mem_of_getElem? hi, h.2⟩
theorem TW_X8 : ∀ w ∈ u_ws RX8 TX8 50, w ∈ TW := by
  have e : (u_ws RX8 TX8 50).all (fun w => decide (w ∈ [1120, 1122, 1124, 1126, 1128, 1130, 1132, 1134, 1136, 1138, 1140, 1142, 1144, 1146, 1148, 1150, 1152, 1154, 1156, 1158, 1160, 1162, 1164, 1166, 1168, 1170, 1172, 1174, 1176, 1178, 1180, 1182, 1184, 1186, 1188, 1190, 1192, 1194, 1196, 1198, 1200, 1202, 1204, 1206, 1208, 1210, 1212, 1214, 1216, 1218].filterMap (fun i => lw_tbl[i]?)) && gG w) = true := by decide +kernel
  intro w hw
  have h := List.all_eq_true.mp e w hw
  rw [Bool.and_eq_true, decide_eq_true_eq] at h
  obtain ⟨i, -, hi⟩ := List.mem_filterMap.mp h.1
  exact List.mem_filter.mpr ⟨List.mem_of_getElem? hi, h.2⟩
theorem gM_ok_0 : ((List.range 8).drop 0).all ckM = true := by decide +kernel
theorem gM_ok_8 : ((List.range 16).drop 8).all ckM = true := by decide +kernel
theorem gM_ok_16 : ((List.range 24).drop 16).all ckM = true := by decide +kernel
theorem gM_ok_24 : ((List.range 32).drop 24).all ckM = true := by decide +kernel
theorem gM_ok_32 : ((List.range 40).drop 32).all ckM = true := by decide +kernel
theorem gM_ok_40 : ((List.range 48).drop 40).all ckM = true := by decide +kernel
theorem gM_ok_48 : ((List.range 56).drop 48).all ckM = true := by decide +kernel
theorem gM_ok_56 : ((List.range 64).drop 56).all ckM = true := by decide +kernel
theorem gM_ok_64 : ((List.range 72).drop 64).all ckM = true := by decide +kernel
theorem gM_ok_72 : ((List.range 80).drop 72).all ckM = true := by decide +kernel
theorem gM_ok_80 : ((List.range 88).drop 80).all ckM = true := by decide +kernel
theorem gM_ok_88 : ((List.range 96).drop 88).all ckM = true := by decide +kernel
theorem gM_ok_96 : ((List.range 104).drop 96).all ckM = true := by decide +kernel
theorem gM_ok_104 : ((List.range 112).drop 104).all ckM = true := by decide +kernel
theorem gM_ok_112 : ((List.range 120).drop 112).all ckM = true := by decide +kernel
theorem gM_ok_120 : ((List.range 128).drop 120).all ckM = true := by decide +kernel
theorem gM_ok_128 : ((List.range 136).drop 128).all ckM = true := by decide +kernel
theorem gM_ok_136 : ((List.range 144).drop 136).all ckM = true := by decide +kernel
theorem gM_ok_144 : ((List.range 152).drop 144).all ckM = true := by decide +kernel
theorem gM_ok_152 : ((List.range 160).drop 152).all ckM = true := by decide +kernel
theorem gM_ok_160 : ((List.range 168).drop 160).all ckM = true := by decide +kernel
theorem gM_ok_168 : ((List.range 176).drop 168).all ckM = true := by decide +kernel
theorem gM_ok_176 : ((List.range 184).drop 176).all ckM = true := by decide +kernel
theorem gM_ok_184 : ((List.range 192).drop 184).all ckM = true := by decide +kernel
theorem gM_ok_192 : ((List.range 200).drop 192).all ckM = true := by decide +kernel
theorem gM_ok_200 : ((List.range 208).drop 200).all ckM = true := by decide +kernel
theorem gM_ok_208 : ((List.range 216).drop 208).all ckM = true := by decide +kernel
theorem gM_ok_216 : ((List.range 224).drop 216).all ckM = true := by decide +kernel
theorem gM_ok_224 : ((List.range 232).drop 224).all ckM = true := by decide +kernel
theorem gM_ok_232 : ((List.range 240).drop 232).all ckM = true := by decide +kernel
theorem gM_ok_240 : ((List.range 247).drop 240).all ckM = true := by decide +kernel
theorem gI_ok : (List.range 10).all ckI = true := by decide +kernel
theorem gC_ok : gCalls.all ckC = true := by decide +kernel
theorem gF_ok : gFlds.all ckF = true := by decide +kernel
theorem gS_ok : gStats.all ckS = true := by decide +kernel
theorem gK_ok : gCons.all (fun q => gIs q.2.2.2 (.constant (gCn q.1) q.2.1 q.2.2.1)) = true := by decide +kernel
theorem gJ_ok : gConL.all (fun q => gIs q.2.2.2 (.constantLong (gCn q.1) q.2.1 q.2.2.1)) = true := by decide +kernel
theorem TW_smin : (.static Lib.Math.min.name : Cond) ∈ TW := gIs_in (i := 456) (by decide +kernel)
theorem TW_smax : (.static Lib.Math.max.name : Cond) ∈ TW := gIs_in (i := 741) (by decide +kernel)
theorem TW_sabs : (.static Lib.Math.abs.name : Cond) ∈ TW := gIs_in (i := 752) (by decide +kernel)
theorem TW_cmin : Cond.code Lib.Math.min.name Lib.Math.min.code 2 (some .int) ∈ TW := gIs_in (i := 457) (by decide +kernel)
theorem TW_cmax : Cond.code Lib.Math.max.name Lib.Math.max.code 2 (some .int) ∈ TW := gIs_in (i := 742) (by decide +kernel)
theorem TW_cabs : Cond.code Lib.Math.abs.name Lib.Math.abs.code 1 (some .int) ∈ TW := gIs_in (i := 753) (by decide +kernel)
theorem TW_imath : Cond.initialized "java/lang/Math" ∈ TW := gIs_in (i := 91) (by decide +kernel)
theorem TW_isys : Cond.initialized "java/lang/System" ∈ TW := gIs_in (i := 90) (by decide +kernel)
theorem TW_nac : Cond.native arraycopyName ∈ TW := gIs_in (i := 397) (by decide +kernel)
theorem TW_sac : Cond.static arraycopyName ∈ TW := gIs_in (i := 396) (by decide +kernel)
