def cn (k : Nat) : String := [RX0, RX1, RX2, RX3, RX4, RX5, RX6, RX7, RX8, RL, RJ0, RJ1, RJ3, RJ7, RJ9].getD k ""
abbrev mt_T : Type := MethodName × ByteArray × Nat × Option FieldType × Nat
def mtL_0 : List (mt_T × Nat × Nat) := [((yX0_init, cX0_init, 1, none, 0), 241, 82),
  ((yX0_forget, cX0_forget, 1, none, 0), 804, 82),
  ((yX0_kept, cX0_kept, 2, (some FieldType.int), 0), 830, 82),
  ((yX0_perform, cX0_perform, 5, (some FieldType.int), 0), 808, 82),
  ((yX0_begin, cX0_begin, 2, none, 0), 818, 82),
  ((yX0_run, cX0_run, 6, (some FieldType.int), 0), 812, 82),
  ((yX0_within, cX0_within, 4, (some FieldType.int), 0), 822, 82),
  ((yX1_init, cX1_init, 4, none, 1), 596, 92),
  ((yX1_code, cX1_code, 3, (some FieldType.int), 1), 577, 92),
  ((yX1_rain, cX1_rain, 8, (some FieldType.int), 1), 383, 92),
  ((yX2_init, cX2_init, 2, none, 2), 170, 80),
  ((yX2_empty, cX2_empty, 1, (some FieldType.int), 2), 711, 80),
  ((yX2_add, cX2_add, 3, (some FieldType.int), 2), 715, 80),
  ((yX2_become, cX2_become, 2, none, 2), 791, 80),
  ((yX3_init, cX3_init, 1, none, 3), 208, 81),
  ((yX3_append, cX3_append, 2, (some FieldType.int), 3), 415, 81),
  ((yX3_compile, cX3_compile, 3, (some (FieldType.object "LastAtPump$Evening")), 3), 423, 81),
  ((yX3_fault, cX3_fault, 1, (some FieldType.int), 3), 613, 81),
  ((yX3_clause, cX3_clause, 3, (some FieldType.boolean), 3), 427, 81),
  ((yX3_word, cX3_word, 4, (some FieldType.boolean), 3), 435, 81),
  ((yX3_number, cX3_number, 2, (some FieldType.boolean), 3), 495, 81),
  ((yX3_expression, cX3_expression, 4, (some FieldType.boolean), 3), 499, 81),
  ((yX3_factor, cX3_factor, 3, (some FieldType.boolean), 3), 503, 81),
  ((yX3_test, cX3_test, 3, (some FieldType.boolean), 3), 507, 81),
  ((yX3_ahead, cX3_ahead, 1, (some FieldType.int), 3), 431, 81),
  ((yX3_among, cX3_among, 2, (some FieldType.int), 3), 512, 81),
  ((yX3_take, cX3_take, 2, (some FieldType.boolean), 3), 491, 81),
  ((yX3_emit, cX3_emit, 4, none, 3), 574, 81),
  ((yX4_init, cX4_init, 1, none, 4), 106, 78),
  ((yX4_become, cX4_become, 2, none, 4), 786, 78),
  ((yX5_init, cX5_init, 1, none, 5), 112, 79),
  ((yX5_become, cX5_become, 2, none, 5), 654, 79),
  ((yX5_has, cX5_has, 2, (some FieldType.boolean), 5), 336, 79),
  ((yX5_join, cX5_join, 6, (some FieldType.int), 5), 328, 79),
  ((yX5_holder, cX5_holder, 1, (some FieldType.int), 5), 621, 79),
  ((yX5_hand, cX5_hand, 2, none, 5), 403, 79),
  ((yX5_isAtEnd, cX5_isAtEnd, 1, (some FieldType.boolean), 5), 638, 79),
  ((yX5_bucket, cX5_bucket, 2, (some FieldType.int), 5), 664, 79),
  ((yX5_far, cX5_far, 1, (some FieldType.int), 5), 344, 79),
  ((yX5_cost, cX5_cost, 1, (some FieldType.int), 5), 626, 79)]
def mtL_1 : List (mt_T × Nat × Nat) := [((yX5_rain, cX5_rain, 2, (some FieldType.int), 5), 379, 79),
  ((yX5_fact, cX5_fact, 3, (some FieldType.int), 5), 387, 79),
  ((yX5_reach, cX5_reach, 4, (some FieldType.int), 5), 340, 79),
  ((yX5_isDreadfulNow, cX5_isDreadfulNow, 3, (some FieldType.boolean), 5), 351, 79),
  ((yX5_way, cX5_way, 3, (some FieldType.int), 5), 364, 79),
  ((yX5_target, cX5_target, 3, (some FieldType.int), 5), 355, 79),
  ((yX5_nearest, cX5_nearest, 4, (some FieldType.int), 5), 371, 79),
  ((yX5_farthestWithin, cX5_farthestWithin, 5, (some FieldType.int), 5), 360, 79),
  ((yX5_mostHopeful, cX5_mostHopeful, 4, (some FieldType.int), 5), 375, 79),
  ((yX5_move, cX5_move, 3, (some FieldType.int), 5), 634, 79),
  ((yX5_carryOrTell, cX5_carryOrTell, 3, (some FieldType.int), 5), 643, 79),
  ((yX5_go, cX5_go, 3, none, 5), 659, 79),
  ((yX5_outlast, cX5_outlast, 2, (some FieldType.int), 5), 673, 79),
  ((yX5_play, cX5_play, 3, none, 5), 752, 79),
  ((yX6_init, cX6_init, 1, none, 6), 264, 83),
  ((yX6_has, cX6_has, 2, (some FieldType.boolean), 6), 769, 83),
  ((yX6_holds, cX6_holds, 2, (some FieldType.boolean), 6), 774, 83),
  ((yX6_hasPlace, cX6_hasPlace, 3, (some FieldType.boolean), 6), 778, 83),
  ((yX6_make, cX6_make, 5, (some FieldType.int), 6), 851, 83),
  ((yX6_put, cX6_put, 5, (some FieldType.int), 6), 863, 83),
  ((yX6_cut, cX6_cut, 3, (some FieldType.long), 6), 868, 83),
  ((yX6_bring, cX6_bring, 6, (some FieldType.int), 6), 880, 83),
  ((yX6_hasRun, cX6_hasRun, 4, (some FieldType.boolean), 6), 884, 83),
  ((yX7_init, cX7_init, 1, none, 7), 98, 77),
  ((yX7_person, cX7_person, 5, (some FieldType.int), 7), 315, 77),
  ((yX7_of, cX7_of, 3, (some FieldType.int), 7), 332, 77),
  ((yX7_set, cX7_set, 6, (some FieldType.int), 7), 391, 77),
  ((yX7_row, cX7_row, 6, (some FieldType.int), 7), 395, 77),
  ((yX7_with, cX7_with, 3, (some FieldType.int), 7), 399, 77),
  ((yX7_weight, cX7_weight, 3, (some FieldType.int), 7), 407, 77),
  ((yX7_feed, cX7_feed, 2, (some FieldType.int), 7), 411, 77),
  ((yX7_evening, cX7_evening, 2, (some FieldType.int), 7), 419, 77),
  ((yX7_told, cX7_told, 2, (some FieldType.int), 7), 617, 77),
  ((yX7_step, cX7_step, 1, (some FieldType.int), 7), 630, 77),
  ((yX7_on, cX7_on, 5, (some FieldType.int), 7), 650, 77),
  ((yX7_ends, cX7_ends, 2, (some FieldType.int), 7), 669, 77),
  ((yX7_longest, cX7_longest, 5, (some FieldType.int), 7), 677, 77),
  ((yX7_stand, cX7_stand, 8, (some FieldType.int), 7), 685, 77),
  ((yX7_needs, cX7_needs, 4, (some FieldType.int), 7), 690, 77),
  ((yX7_heavy, cX7_heavy, 4, (some FieldType.int), 7), 694, 77)]
def mtL_2 : List (mt_T × Nat × Nat) := [((yX7_change, cX7_change, 6, (some FieldType.int), 7), 699, 77),
  ((yX7_mute, cX7_mute, 5, (some FieldType.int), 7), 703, 77),
  ((yX7_see, cX7_see, 3, (some FieldType.int), 7), 707, 77),
  ((yX7_from, cX7_from, 3, (some FieldType.int), 7), 719, 77),
  ((yX7_had, cX7_had, 6, (some FieldType.int), 7), 727, 77),
  ((yX7_odds, cX7_odds, 5, (some FieldType.long), 7), 731, 77),
  ((yX7_mean, cX7_mean, 5, (some FieldType.long), 7), 740, 77),
  ((yX7_game, cX7_game, 3, (some FieldType.int), 7), 744, 77),
  ((yX7_gone, cX7_gone, 3, (some FieldType.int), 7), 748, 77),
  ((yX7_book, cX7_book, 3, (some FieldType.int), 7), 757, 77),
  ((yX7_looked, cX7_looked, 3, (some FieldType.int), 7), 761, 77),
  ((yX7_judge, cX7_judge, 4, (some FieldType.int), 7), 765, 77),
  ((yX7_image, cX7_image, 1, (some FieldType.int), 7), 782, 77),
  ((yX7_undo, cX7_undo, 1, (some FieldType.int), 7), 796, 77),
  ((yX7_act, cX7_act, 4, (some FieldType.int), 7), 800, 77),
  ((yX7_trace, cX7_trace, 2, (some FieldType.int), 7), 826, 77),
  ((yX7_taken, cX7_taken, 4, (some FieldType.int), 7), 834, 77),
  ((yX7_count, cX7_count, 2, (some FieldType.int), 7), 843, 77),
  ((yX7_tape, cX7_tape, 4, (some FieldType.int), 7), 847, 77),
  ((yX7_item, cX7_item, 5, (some FieldType.int), 7), 859, 77),
  ((yX7_read, cX7_read, 3, (some FieldType.long), 7), 872, 77),
  ((yX7_shift, cX7_shift, 6, (some FieldType.int), 7), 876, 77),
  ((yX7_isWithin, cX7_isWithin, 3, (some FieldType.boolean), 7), 318, 77),
  ((yX7_isDigit, cX7_isDigit, 1, (some FieldType.boolean), 7), 321, 77),
  ((yX7_isDoor, cX7_isDoor, 1, (some FieldType.boolean), 7), 324, 77),
  ((yX7_isOrIsUnder, cX7_isOrIsUnder, 4, (some FieldType.boolean), 7), 837, 77),
  ((yX7_startWith, cX7_startWith, 2, none, 7), 681, 77),
  ((yX7_isAllSeenSo, cX7_isAllSeenSo, 3, (some FieldType.boolean), 7), 723, 77),
  ((yX7_fraction, cX7_fraction, 5, (some FieldType.long), 7), 736, 77),
  ((yX8_init, cX8_init, 1, none, 8), 890, 85),
  ((yX8_in, cX8_in, 4, (some FieldType.boolean), 8), 1123, 85),
  ((yX8_held, cX8_held, 3, (some FieldType.int), 8), 1299, 85),
  ((yX8_orNone, cX8_orNone, 2, (some FieldType.int), 8), 1155, 85),
  ((yX8_isPerson, cX8_isPerson, 2, (some FieldType.boolean), 8), 1139, 85),
  ((yX8_isDoor, cX8_isDoor, 2, (some FieldType.boolean), 8), 1127, 85),
  ((yX8_isHopes, cX8_isHopes, 2, (some FieldType.boolean), 8), 1131, 85),
  ((yX8_isFew, cX8_isFew, 2, (some FieldType.boolean), 8), 1340, 85),
  ((yX8_person, cX8_person, 6, (some FieldType.int), 8), 1119, 85),
  ((yX8_set, cX8_set, 5, (some FieldType.int), 8), 1135, 85),
  ((yX8_row, cX8_row, 5, (some FieldType.int), 8), 1143, 85)]
def mtL_3 : List (mt_T × Nat × Nat) := [((yX8_gives, cX8_gives, 2, none, 8), 1151, 85),
  ((yX8_with, cX8_with, 3, (some FieldType.int), 8), 1147, 85),
  ((yX8_weight, cX8_weight, 3, (some FieldType.int), 8), 1159, 85),
  ((yX8_feed, cX8_feed, 2, (some FieldType.int), 8), 1163, 85),
  ((yX8_next, cX8_next, 1, (some FieldType.int), 8), 1183, 85),
  ((yX8_takes, cX8_takes, 2, (some FieldType.boolean), 8), 1191, 85),
  ((yX8_takesWord, cX8_takesWord, 4, (some FieldType.boolean), 8), 1187, 85),
  ((yX8_isDigit, cX8_isDigit, 1, (some FieldType.boolean), 8), 1199, 85),
  ((yX8_takesNumber, cX8_takesNumber, 2, (some FieldType.boolean), 8), 1195, 85),
  ((yX8_emits, cX8_emits, 2, none, 8), 1215, 85),
  ((yX8_whole, cX8_whole, 1, none, 8), 1219, 85),
  ((yX8_settle, cX8_settle, 2, none, 8), 1223, 85),
  ((yX8_place, cX8_place, 2, (some FieldType.int), 8), 1211, 85),
  ((yX8_takesTest, cX8_takesTest, 3, (some FieldType.boolean), 8), 1207, 85),
  ((yX8_takesE, cX8_takesE, 4, (some FieldType.boolean), 8), 1203, 85),
  ((yX8_takesHead, cX8_takesHead, 2, (some FieldType.boolean), 8), 1179, 85),
  ((yX8_takesClause, cX8_takesClause, 2, (some FieldType.boolean), 8), 1175, 85),
  ((yX8_goesText, cX8_goesText, 3, (some FieldType.boolean), 8), 1171, 85),
  ((yX8_evening, cX8_evening, 2, (some FieldType.int), 8), 1167, 85),
  ((yX8_begin, cX8_begin, 1, (some FieldType.int), 8), 1239, 85),
  ((yX8_behind, cX8_behind, 1, (some FieldType.int), 8), 1243, 85),
  ((yX8_lastOf, cX8_lastOf, 5, (some FieldType.int), 8), 1235, 85),
  ((yX8_factOf, cX8_factOf, 3, (some FieldType.int), 8), 1279, 85),
  ((yX8_holds, cX8_holds, 8, (some FieldType.boolean), 8), 1275, 85),
  ((yX8_rain, cX8_rain, 4, (some FieldType.int), 8), 1271, 85),
  ((yX8_least0, cX8_least0, 2, (some FieldType.int), 8), 1247, 85),
  ((yX8_reach, cX8_reach, 3, (some FieldType.int), 8), 1231, 85),
  ((yX8_way, cX8_way, 3, (some FieldType.int), 8), 1259, 85),
  ((yX8_nearest, cX8_nearest, 4, (some FieldType.int), 8), 1263, 85),
  ((yX8_farthest, cX8_farthest, 5, (some FieldType.int), 8), 1255, 85),
  ((yX8_hopeful, cX8_hopeful, 4, (some FieldType.int), 8), 1267, 85),
  ((yX8_toWhom, cX8_toWhom, 3, (some FieldType.int), 8), 1251, 85),
  ((yX8_of, cX8_of, 3, (some FieldType.int), 8), 1227, 85),
  ((yX8_told, cX8_told, 2, (some FieldType.int), 8), 1283, 85),
  ((yX8_canGo, cX8_canGo, 1, (some FieldType.boolean), 8), 1291, 85),
  ((yX8_goStep, cX8_goStep, 4, (some FieldType.int), 8), 1295, 85),
  ((yX8_step, cX8_step, 1, (some FieldType.int), 8), 1287, 85),
  ((yX8_save, cX8_save, 2, none, 8), 1307, 85),
  ((yX8_putBack, cX8_putBack, 2, none, 8), 1316, 85),
  ((yX8_goSteps, cX8_goSteps, 4, none, 8), 1312, 85)]
def mtL_4 : List (mt_T × Nat × Nat) := [((yX8_on, cX8_on, 4, (some FieldType.int), 8), 1303, 85),
  ((yX8_toEnd, cX8_toEnd, 3, (some FieldType.int), 8), 1328, 85),
  ((yX8_endsIn, cX8_endsIn, 2, (some FieldType.int), 8), 1324, 85),
  ((yX8_ends, cX8_ends, 2, (some FieldType.int), 8), 1320, 85),
  ((yX8_longest, cX8_longest, 5, (some FieldType.int), 8), 1332, 85),
  ((yX8_stand, cX8_stand, 8, (some FieldType.int), 8), 1336, 85),
  ((yX8_needs, cX8_needs, 5, (some FieldType.int), 8), 1344, 85),
  ((yX8_heavy, cX8_heavy, 5, (some FieldType.int), 8), 1348, 85),
  ((yX8_change, cX8_change, 6, (some FieldType.int), 8), 1352, 85),
  ((yX8_mute, cX8_mute, 5, (some FieldType.int), 8), 1356, 85),
  ((yX8_see, cX8_see, 3, (some FieldType.int), 8), 1360, 85),
  ((yX8_isSeen, cX8_isSeen, 4, (some FieldType.boolean), 8), 1368, 85),
  ((yX8_from, cX8_from, 3, (some FieldType.int), 8), 1364, 85),
  ((yX8_had, cX8_had, 7, (some FieldType.int), 8), 1372, 85),
  ((yX8_divisor, cX8_divisor, 6, (some FieldType.int), 8), 1385, 85),
  ((yX8_lowest, cX8_lowest, 5, (some FieldType.long), 8), 1381, 85),
  ((yX8_odds, cX8_odds, 5, (some FieldType.long), 8), 1376, 85),
  ((yX8_mean, cX8_mean, 5, (some FieldType.long), 8), 1389, 85),
  ((yX8_game, cX8_game, 3, (some FieldType.int), 8), 1393, 85),
  ((yX8_gone, cX8_gone, 3, (some FieldType.int), 8), 1397, 85),
  ((yX8_book, cX8_book, 3, (some FieldType.int), 8), 1401, 85),
  ((yX8_looked, cX8_looked, 2, (some FieldType.int), 8), 1405, 85),
  ((yX8_judge, cX8_judge, 4, (some FieldType.int), 8), 1409, 85),
  ((yX8_image, cX8_image, 2, (some FieldType.int), 8), 1417, 85),
  ((yX8_undo, cX8_undo, 2, (some FieldType.int), 8), 1421, 85),
  ((yX8_body, cX8_body, 2, none, 8), 1433, 85),
  ((yX8_personWaits, cX8_personWaits, 3, (some FieldType.int), 8), 1437, 85),
  ((yX8_waitsAct, cX8_waitsAct, 3, (some FieldType.int), 8), 1429, 85),
  ((yX8_personTells, cX8_personTells, 3, (some FieldType.int), 8), 1449, 85),
  ((yX8_oldTells, cX8_oldTells, 3, (some FieldType.int), 8), 1445, 85),
  ((yX8_tellsAct, cX8_tellsAct, 4, (some FieldType.int), 8), 1441, 85),
  ((yX8_personHopes, cX8_personHopes, 3, (some FieldType.int), 8), 1457, 85),
  ((yX8_hopesAct, cX8_hopesAct, 4, (some FieldType.int), 8), 1453, 85),
  ((yX8_act, cX8_act, 4, (some FieldType.int), 8), 1425, 85),
  ((yX8_trace, cX8_trace, 2, (some FieldType.int), 8), 1461, 85),
  ((yX8_taken, cX8_taken, 4, (some FieldType.int), 8), 1465, 85),
  ((yX8_count, cX8_count, 2, (some FieldType.int), 8), 1469, 85),
  ((yX8_isTape, cX8_isTape, 2, (some FieldType.boolean), 8), 1413, 85),
  ((yX8_tape, cX8_tape, 5, (some FieldType.int), 8), 1473, 85),
  ((yX8_narrow, cX8_narrow, 4, (some FieldType.long), 8), 1481, 85)]
def mtL_5 : List (mt_T × Nat × Nat) := [((yX8_item, cX8_item, 5, (some FieldType.int), 8), 1477, 85),
  ((yX8_read, cX8_read, 3, (some FieldType.long), 8), 1485, 85),
  ((yX8_shift, cX8_shift, 7, (some FieldType.int), 8), 1489, 85),
  ((yJ0_length_8abf5, cJ0_length_8abf5, 1, (some FieldType.int), 10), 443, 87),
  ((yJ0_charAt_5068e, cJ0_charAt_5068e, 2, (some FieldType.char), 10), 453, 87),
  ((yJ0_indexOf_0f7a4, cJ0_indexOf_0f7a4, 2, (some FieldType.int), 10), 516, 87),
  ((yJ0_indexOf_7cf53, cJ0_indexOf_7cf53, 3, (some FieldType.int), 10), 520, 87),
  ((yJ0_coder_7d493, cJ0_coder_7d493, 1, (some FieldType.byte), 10), 447, 87),
  ((yJ0_isLatin1_aae02, cJ0_isLatin1_aae02, 1, (some FieldType.boolean), 10), 457, 87),
  ((yJ0_checkIndex_df160, cJ0_checkIndex_df160, 2, none, 10), 463, 87),
  ((yJ1_charAt_3b067, cJ1_charAt_3b067, 2, (some FieldType.char), 11), 460, 88),
  ((yJ1_canEncode_9a6ad, cJ1_canEncode_9a6ad, 1, (some FieldType.boolean), 11), 527, 88),
  ((yJ1_indexOf_4cfef, cJ1_indexOf_4cfef, 4, (some FieldType.int), 11), 524, 88),
  ((yJ1_indexOfChar_4cfef, cJ1_indexOfChar_4cfef, 6, (some FieldType.int), 11), 534, 88),
  ((yJ3_checkIndex_8e157, cJ3_checkIndex_8e157, 3, (some FieldType.int), 12), 468, 89),
  ((yJ7_fill_d0a16, cJ7_fill_d0a16, 5, none, 13), 855, 84),
  ((yJ7_fill_53178, cJ7_fill_53178, 4, none, 13), 270, 84),
  ((yJ7_copyOf_59c91, cJ7_copyOf_59c91, 3, (some (FieldType.array FieldType.int)), 13), 582, 84)]
def mtL : List (mt_T × Nat × Nat) := mtL_0 ++ (mtL_1 ++ (mtL_2 ++ (mtL_3 ++ (mtL_4 ++ (mtL_5)))))
def mt_ok (q : mt_T × Nat × Nat) : Prop := lw_tbl[q.2.1]? = some (Cond.code q.1.1 q.1.2.1 q.1.2.2.1 q.1.2.2.2.1) ∧ lw_tbl[q.2.2]? = some (Cond.initialized q.1.1.cls) ∧ plainName q.1.1.cls = true ∧ q.1.1.cls = cn q.1.2.2.2.2 ∧ q.1.1.cls ≠ "java/lang/invoke/MethodHandle" ∧ q.1.1.cls ≠ "java/lang/invoke/VarHandle"
set_option maxRecDepth 100000 in
theorem mk_X0_init : mt_ok ((yX0_init, cX0_init, 1, none, 0), 241, 82) := ⟨rfl, by decide +kernel, by decide +kernel, by decide +kernel, by decide +kernel, by decide +kernel⟩
set_option maxRecDepth 100000 in
theorem mk_X0_forget : mt_ok ((yX0_forget, cX0_forget, 1, none, 0), 804, 82) := ⟨rfl, by decide +kernel, by decide +kernel, by decide +kernel, by decide +kernel, by decide +kernel⟩
set_option maxRecDepth 100000 in
theorem mk_X0_kept : mt_ok ((yX0_kept, cX0_kept, 2, (some FieldType.int), 0), 830, 82) := ⟨rfl, by decide +kernel, by decide +kernel, by decide +kernel, by decide +kernel, by decide +kernel⟩
set_option maxRecDepth 100000 in
theorem mk_X0_perform : mt_ok ((yX0_perform, cX0_perform, 5, (some FieldType.int), 0), 808, 82) := ⟨rfl, by decide +kernel, by decide +kernel, by decide +kernel, by decide +kernel, by decide +kernel⟩
set_option maxRecDepth 100000 in
theorem mk_X0_begin : mt_ok ((yX0_begin, cX0_begin, 2, none, 0), 818, 82) := ⟨rfl, by decide +kernel, by decide +kernel, by decide +kernel, by decide +kernel, by decide +kernel⟩
set_option maxRecDepth 100000 in
theorem mk_X0_run : mt_ok ((yX0_run, cX0_run, 6, (some FieldType.int), 0), 812, 82) := ⟨rfl, by decide +kernel, by decide +kernel, by decide +kernel, by decide +kernel, by decide +kernel⟩
set_option maxRecDepth 100000 in
theorem mk_X0_within : mt_ok ((yX0_within, cX0_within, 4, (some FieldType.int), 0), 822, 82) := ⟨rfl, by decide +kernel, by decide +kernel, by decide +kernel, by decide +kernel, by decide +kernel⟩
set_option maxRecDepth 100000 in
theorem mk_X1_init : mt_ok ((yX1_init, cX1_init, 4, none, 1), 596, 92) := ⟨rfl, by decide +kernel, by decide +kernel, by decide +kernel, by decide +kernel, by decide +kernel⟩
set_option maxRecDepth 100000 in
theorem mk_X1_code : mt_ok ((yX1_code, cX1_code, 3, (some FieldType.int), 1), 577, 92) := ⟨rfl, by decide +kernel, by decide +kernel, by decide +kernel, by decide +kernel, by decide +kernel⟩
set_option maxRecDepth 100000 in
theorem mk_X1_rain : mt_ok ((yX1_rain, cX1_rain, 8, (some FieldType.int), 1), 383, 92) := ⟨rfl, by decide +kernel, by decide +kernel, by decide +kernel, by decide +kernel, by decide +kernel⟩
set_option maxRecDepth 100000 in
theorem mk_X2_init : mt_ok ((yX2_init, cX2_init, 2, none, 2), 170, 80) := ⟨rfl, by decide +kernel, by decide +kernel, by decide +kernel, by decide +kernel, by decide +kernel⟩
set_option maxRecDepth 100000 in
theorem mk_X2_empty : mt_ok ((yX2_empty, cX2_empty, 1, (some FieldType.int), 2), 711, 80) := ⟨rfl, by decide +kernel, by decide +kernel, by decide +kernel, by decide +kernel, by decide +kernel⟩
set_option maxRecDepth 100000 in
theorem mk_X2_add : mt_ok ((yX2_add, cX2_add, 3, (some FieldType.int), 2), 715, 80) := ⟨rfl, by decide +kernel, by decide +kernel, by decide +kernel, by decide +kernel, by decide +kernel⟩
set_option maxRecDepth 100000 in
theorem mk_X2_become : mt_ok ((yX2_become, cX2_become, 2, none, 2), 791, 80) := ⟨rfl, by decide +kernel, by decide +kernel, by decide +kernel, by decide +kernel, by decide +kernel⟩
set_option maxRecDepth 100000 in
theorem mk_X3_init : mt_ok ((yX3_init, cX3_init, 1, none, 3), 208, 81) := ⟨rfl, by decide +kernel, by decide +kernel, by decide +kernel, by decide +kernel, by decide +kernel⟩
set_option maxRecDepth 100000 in
theorem mk_X3_append : mt_ok ((yX3_append, cX3_append, 2, (some FieldType.int), 3), 415, 81) := ⟨rfl, by decide +kernel, by decide +kernel, by decide +kernel, by decide +kernel, by decide +kernel⟩
set_option maxRecDepth 100000 in
theorem mk_X3_compile : mt_ok ((yX3_compile, cX3_compile, 3, (some (FieldType.object "LastAtPump$Evening")), 3), 423, 81) := ⟨rfl, by decide +kernel, by decide +kernel, by decide +kernel, by decide +kernel, by decide +kernel⟩
set_option maxRecDepth 100000 in
theorem mk_X3_fault : mt_ok ((yX3_fault, cX3_fault, 1, (some FieldType.int), 3), 613, 81) := ⟨rfl, by decide +kernel, by decide +kernel, by decide +kernel, by decide +kernel, by decide +kernel⟩
set_option maxRecDepth 100000 in
theorem mk_X3_clause : mt_ok ((yX3_clause, cX3_clause, 3, (some FieldType.boolean), 3), 427, 81) := ⟨rfl, by decide +kernel, by decide +kernel, by decide +kernel, by decide +kernel, by decide +kernel⟩
set_option maxRecDepth 100000 in
theorem mk_X3_word : mt_ok ((yX3_word, cX3_word, 4, (some FieldType.boolean), 3), 435, 81) := ⟨rfl, by decide +kernel, by decide +kernel, by decide +kernel, by decide +kernel, by decide +kernel⟩
set_option maxRecDepth 100000 in
theorem mk_X3_number : mt_ok ((yX3_number, cX3_number, 2, (some FieldType.boolean), 3), 495, 81) := ⟨rfl, by decide +kernel, by decide +kernel, by decide +kernel, by decide +kernel, by decide +kernel⟩
set_option maxRecDepth 100000 in
theorem mk_X3_expression : mt_ok ((yX3_expression, cX3_expression, 4, (some FieldType.boolean), 3), 499, 81) := ⟨rfl, by decide +kernel, by decide +kernel, by decide +kernel, by decide +kernel, by decide +kernel⟩
set_option maxRecDepth 100000 in
theorem mk_X3_factor : mt_ok ((yX3_factor, cX3_factor, 3, (some FieldType.boolean), 3), 503, 81) := ⟨rfl, by decide +kernel, by decide +kernel, by decide +kernel, by decide +kernel, by decide +kernel⟩
set_option maxRecDepth 100000 in
theorem mk_X3_test : mt_ok ((yX3_test, cX3_test, 3, (some FieldType.boolean), 3), 507, 81) := ⟨rfl, by decide +kernel, by decide +kernel, by decide +kernel, by decide +kernel, by decide +kernel⟩
set_option maxRecDepth 100000 in
theorem mk_X3_ahead : mt_ok ((yX3_ahead, cX3_ahead, 1, (some FieldType.int), 3), 431, 81) := ⟨rfl, by decide +kernel, by decide +kernel, by decide +kernel, by decide +kernel, by decide +kernel⟩
set_option maxRecDepth 100000 in
theorem mk_X3_among : mt_ok ((yX3_among, cX3_among, 2, (some FieldType.int), 3), 512, 81) := ⟨rfl, by decide +kernel, by decide +kernel, by decide +kernel, by decide +kernel, by decide +kernel⟩
set_option maxRecDepth 100000 in
theorem mk_X3_take : mt_ok ((yX3_take, cX3_take, 2, (some FieldType.boolean), 3), 491, 81) := ⟨rfl, by decide +kernel, by decide +kernel, by decide +kernel, by decide +kernel, by decide +kernel⟩
set_option maxRecDepth 100000 in
theorem mk_X3_emit : mt_ok ((yX3_emit, cX3_emit, 4, none, 3), 574, 81) := ⟨rfl, by decide +kernel, by decide +kernel, by decide +kernel, by decide +kernel, by decide +kernel⟩
set_option maxRecDepth 100000 in
theorem mk_X4_init : mt_ok ((yX4_init, cX4_init, 1, none, 4), 106, 78) := ⟨rfl, by decide +kernel, by decide +kernel, by decide +kernel, by decide +kernel, by decide +kernel⟩
set_option maxRecDepth 100000 in
theorem mk_X4_become : mt_ok ((yX4_become, cX4_become, 2, none, 4), 786, 78) := ⟨rfl, by decide +kernel, by decide +kernel, by decide +kernel, by decide +kernel, by decide +kernel⟩
set_option maxRecDepth 100000 in
theorem mk_X5_init : mt_ok ((yX5_init, cX5_init, 1, none, 5), 112, 79) := ⟨rfl, by decide +kernel, by decide +kernel, by decide +kernel, by decide +kernel, by decide +kernel⟩
set_option maxRecDepth 100000 in
theorem mk_X5_become : mt_ok ((yX5_become, cX5_become, 2, none, 5), 654, 79) := ⟨rfl, by decide +kernel, by decide +kernel, by decide +kernel, by decide +kernel, by decide +kernel⟩
set_option maxRecDepth 100000 in
theorem mk_X5_has : mt_ok ((yX5_has, cX5_has, 2, (some FieldType.boolean), 5), 336, 79) := ⟨rfl, by decide +kernel, by decide +kernel, by decide +kernel, by decide +kernel, by decide +kernel⟩
set_option maxRecDepth 100000 in
theorem mk_X5_join : mt_ok ((yX5_join, cX5_join, 6, (some FieldType.int), 5), 328, 79) := ⟨rfl, by decide +kernel, by decide +kernel, by decide +kernel, by decide +kernel, by decide +kernel⟩
set_option maxRecDepth 100000 in
theorem mk_X5_holder : mt_ok ((yX5_holder, cX5_holder, 1, (some FieldType.int), 5), 621, 79) := ⟨rfl, by decide +kernel, by decide +kernel, by decide +kernel, by decide +kernel, by decide +kernel⟩
set_option maxRecDepth 100000 in
theorem mk_X5_hand : mt_ok ((yX5_hand, cX5_hand, 2, none, 5), 403, 79) := ⟨rfl, by decide +kernel, by decide +kernel, by decide +kernel, by decide +kernel, by decide +kernel⟩
set_option maxRecDepth 100000 in
theorem mk_X5_isAtEnd : mt_ok ((yX5_isAtEnd, cX5_isAtEnd, 1, (some FieldType.boolean), 5), 638, 79) := ⟨rfl, by decide +kernel, by decide +kernel, by decide +kernel, by decide +kernel, by decide +kernel⟩
set_option maxRecDepth 100000 in
theorem mk_X5_bucket : mt_ok ((yX5_bucket, cX5_bucket, 2, (some FieldType.int), 5), 664, 79) := ⟨rfl, by decide +kernel, by decide +kernel, by decide +kernel, by decide +kernel, by decide +kernel⟩
set_option maxRecDepth 100000 in
theorem mk_X5_far : mt_ok ((yX5_far, cX5_far, 1, (some FieldType.int), 5), 344, 79) := ⟨rfl, by decide +kernel, by decide +kernel, by decide +kernel, by decide +kernel, by decide +kernel⟩
set_option maxRecDepth 100000 in
theorem mk_X5_cost : mt_ok ((yX5_cost, cX5_cost, 1, (some FieldType.int), 5), 626, 79) := ⟨rfl, by decide +kernel, by decide +kernel, by decide +kernel, by decide +kernel, by decide +kernel⟩
set_option maxRecDepth 100000 in
theorem mk_X5_rain : mt_ok ((yX5_rain, cX5_rain, 2, (some FieldType.int), 5), 379, 79) := ⟨rfl, by decide +kernel, by decide +kernel, by decide +kernel, by decide +kernel, by decide +kernel⟩
set_option maxRecDepth 100000 in
theorem mk_X5_fact : mt_ok ((yX5_fact, cX5_fact, 3, (some FieldType.int), 5), 387, 79) := ⟨rfl, by decide +kernel, by decide +kernel, by decide +kernel, by decide +kernel, by decide +kernel⟩
set_option maxRecDepth 100000 in
theorem mk_X5_reach : mt_ok ((yX5_reach, cX5_reach, 4, (some FieldType.int), 5), 340, 79) := ⟨rfl, by decide +kernel, by decide +kernel, by decide +kernel, by decide +kernel, by decide +kernel⟩
set_option maxRecDepth 100000 in
theorem mk_X5_isDreadfulNow : mt_ok ((yX5_isDreadfulNow, cX5_isDreadfulNow, 3, (some FieldType.boolean), 5), 351, 79) := ⟨rfl, by decide +kernel, by decide +kernel, by decide +kernel, by decide +kernel, by decide +kernel⟩
set_option maxRecDepth 100000 in
theorem mk_X5_way : mt_ok ((yX5_way, cX5_way, 3, (some FieldType.int), 5), 364, 79) := ⟨rfl, by decide +kernel, by decide +kernel, by decide +kernel, by decide +kernel, by decide +kernel⟩
set_option maxRecDepth 100000 in
theorem mk_X5_target : mt_ok ((yX5_target, cX5_target, 3, (some FieldType.int), 5), 355, 79) := ⟨rfl, by decide +kernel, by decide +kernel, by decide +kernel, by decide +kernel, by decide +kernel⟩
set_option maxRecDepth 100000 in
theorem mk_X5_nearest : mt_ok ((yX5_nearest, cX5_nearest, 4, (some FieldType.int), 5), 371, 79) := ⟨rfl, by decide +kernel, by decide +kernel, by decide +kernel, by decide +kernel, by decide +kernel⟩
set_option maxRecDepth 100000 in
theorem mk_X5_farthestWithin : mt_ok ((yX5_farthestWithin, cX5_farthestWithin, 5, (some FieldType.int), 5), 360, 79) := ⟨rfl, by decide +kernel, by decide +kernel, by decide +kernel, by decide +kernel, by decide +kernel⟩
set_option maxRecDepth 100000 in
theorem mk_X5_mostHopeful : mt_ok ((yX5_mostHopeful, cX5_mostHopeful, 4, (some FieldType.int), 5), 375, 79) := ⟨rfl, by decide +kernel, by decide +kernel, by decide +kernel, by decide +kernel, by decide +kernel⟩
set_option maxRecDepth 100000 in
theorem mk_X5_move : mt_ok ((yX5_move, cX5_move, 3, (some FieldType.int), 5), 634, 79) := ⟨rfl, by decide +kernel, by decide +kernel, by decide +kernel, by decide +kernel, by decide +kernel⟩
set_option maxRecDepth 100000 in
theorem mk_X5_carryOrTell : mt_ok ((yX5_carryOrTell, cX5_carryOrTell, 3, (some FieldType.int), 5), 643, 79) := ⟨rfl, by decide +kernel, by decide +kernel, by decide +kernel, by decide +kernel, by decide +kernel⟩
set_option maxRecDepth 100000 in
theorem mk_X5_go : mt_ok ((yX5_go, cX5_go, 3, none, 5), 659, 79) := ⟨rfl, by decide +kernel, by decide +kernel, by decide +kernel, by decide +kernel, by decide +kernel⟩
set_option maxRecDepth 100000 in
theorem mk_X5_outlast : mt_ok ((yX5_outlast, cX5_outlast, 2, (some FieldType.int), 5), 673, 79) := ⟨rfl, by decide +kernel, by decide +kernel, by decide +kernel, by decide +kernel, by decide +kernel⟩
set_option maxRecDepth 100000 in
theorem mk_X5_play : mt_ok ((yX5_play, cX5_play, 3, none, 5), 752, 79) := ⟨rfl, by decide +kernel, by decide +kernel, by decide +kernel, by decide +kernel, by decide +kernel⟩
set_option maxRecDepth 100000 in
theorem mk_X6_init : mt_ok ((yX6_init, cX6_init, 1, none, 6), 264, 83) := ⟨rfl, by decide +kernel, by decide +kernel, by decide +kernel, by decide +kernel, by decide +kernel⟩
set_option maxRecDepth 100000 in
theorem mk_X6_has : mt_ok ((yX6_has, cX6_has, 2, (some FieldType.boolean), 6), 769, 83) := ⟨rfl, by decide +kernel, by decide +kernel, by decide +kernel, by decide +kernel, by decide +kernel⟩
set_option maxRecDepth 100000 in
theorem mk_X6_holds : mt_ok ((yX6_holds, cX6_holds, 2, (some FieldType.boolean), 6), 774, 83) := ⟨rfl, by decide +kernel, by decide +kernel, by decide +kernel, by decide +kernel, by decide +kernel⟩
set_option maxRecDepth 100000 in
theorem mk_X6_hasPlace : mt_ok ((yX6_hasPlace, cX6_hasPlace, 3, (some FieldType.boolean), 6), 778, 83) := ⟨rfl, by decide +kernel, by decide +kernel, by decide +kernel, by decide +kernel, by decide +kernel⟩
set_option maxRecDepth 100000 in
theorem mk_X6_make : mt_ok ((yX6_make, cX6_make, 5, (some FieldType.int), 6), 851, 83) := ⟨rfl, by decide +kernel, by decide +kernel, by decide +kernel, by decide +kernel, by decide +kernel⟩
set_option maxRecDepth 100000 in
theorem mk_X6_put : mt_ok ((yX6_put, cX6_put, 5, (some FieldType.int), 6), 863, 83) := ⟨rfl, by decide +kernel, by decide +kernel, by decide +kernel, by decide +kernel, by decide +kernel⟩
set_option maxRecDepth 100000 in
theorem mk_X6_cut : mt_ok ((yX6_cut, cX6_cut, 3, (some FieldType.long), 6), 868, 83) := ⟨rfl, by decide +kernel, by decide +kernel, by decide +kernel, by decide +kernel, by decide +kernel⟩
set_option maxRecDepth 100000 in
theorem mk_X6_bring : mt_ok ((yX6_bring, cX6_bring, 6, (some FieldType.int), 6), 880, 83) := ⟨rfl, by decide +kernel, by decide +kernel, by decide +kernel, by decide +kernel, by decide +kernel⟩
set_option maxRecDepth 100000 in
theorem mk_X6_hasRun : mt_ok ((yX6_hasRun, cX6_hasRun, 4, (some FieldType.boolean), 6), 884, 83) := ⟨rfl, by decide +kernel, by decide +kernel, by decide +kernel, by decide +kernel, by decide +kernel⟩
set_option maxRecDepth 100000 in
theorem mk_X7_init : mt_ok ((yX7_init, cX7_init, 1, none, 7), 98, 77) := ⟨rfl, by decide +kernel, by decide +kernel, by decide +kernel, by decide +kernel, by decide +kernel⟩
set_option maxRecDepth 100000 in
theorem mk_X7_person : mt_ok ((yX7_person, cX7_person, 5, (some FieldType.int), 7), 315, 77) := ⟨rfl, by decide +kernel, by decide +kernel, by decide +kernel, by decide +kernel, by decide +kernel⟩
set_option maxRecDepth 100000 in
theorem mk_X7_of : mt_ok ((yX7_of, cX7_of, 3, (some FieldType.int), 7), 332, 77) := ⟨rfl, by decide +kernel, by decide +kernel, by decide +kernel, by decide +kernel, by decide +kernel⟩
set_option maxRecDepth 100000 in
theorem mk_X7_set : mt_ok ((yX7_set, cX7_set, 6, (some FieldType.int), 7), 391, 77) := ⟨rfl, by decide +kernel, by decide +kernel, by decide +kernel, by decide +kernel, by decide +kernel⟩
set_option maxRecDepth 100000 in
theorem mk_X7_row : mt_ok ((yX7_row, cX7_row, 6, (some FieldType.int), 7), 395, 77) := ⟨rfl, by decide +kernel, by decide +kernel, by decide +kernel, by decide +kernel, by decide +kernel⟩
set_option maxRecDepth 100000 in
theorem mk_X7_with : mt_ok ((yX7_with, cX7_with, 3, (some FieldType.int), 7), 399, 77) := ⟨rfl, by decide +kernel, by decide +kernel, by decide +kernel, by decide +kernel, by decide +kernel⟩
set_option maxRecDepth 100000 in
theorem mk_X7_weight : mt_ok ((yX7_weight, cX7_weight, 3, (some FieldType.int), 7), 407, 77) := ⟨rfl, by decide +kernel, by decide +kernel, by decide +kernel, by decide +kernel, by decide +kernel⟩
set_option maxRecDepth 100000 in
theorem mk_X7_feed : mt_ok ((yX7_feed, cX7_feed, 2, (some FieldType.int), 7), 411, 77) := ⟨rfl, by decide +kernel, by decide +kernel, by decide +kernel, by decide +kernel, by decide +kernel⟩
set_option maxRecDepth 100000 in
theorem mk_X7_evening : mt_ok ((yX7_evening, cX7_evening, 2, (some FieldType.int), 7), 419, 77) := ⟨rfl, by decide +kernel, by decide +kernel, by decide +kernel, by decide +kernel, by decide +kernel⟩
set_option maxRecDepth 100000 in
theorem mk_X7_told : mt_ok ((yX7_told, cX7_told, 2, (some FieldType.int), 7), 617, 77) := ⟨rfl, by decide +kernel, by decide +kernel, by decide +kernel, by decide +kernel, by decide +kernel⟩
set_option maxRecDepth 100000 in
theorem mk_X7_step : mt_ok ((yX7_step, cX7_step, 1, (some FieldType.int), 7), 630, 77) := ⟨rfl, by decide +kernel, by decide +kernel, by decide +kernel, by decide +kernel, by decide +kernel⟩
set_option maxRecDepth 100000 in
theorem mk_X7_on : mt_ok ((yX7_on, cX7_on, 5, (some FieldType.int), 7), 650, 77) := ⟨rfl, by decide +kernel, by decide +kernel, by decide +kernel, by decide +kernel, by decide +kernel⟩
set_option maxRecDepth 100000 in
theorem mk_X7_ends : mt_ok ((yX7_ends, cX7_ends, 2, (some FieldType.int), 7), 669, 77) := ⟨rfl, by decide +kernel, by decide +kernel, by decide +kernel, by decide +kernel, by decide +kernel⟩
set_option maxRecDepth 100000 in
theorem mk_X7_longest : mt_ok ((yX7_longest, cX7_longest, 5, (some FieldType.int), 7), 677, 77) := ⟨rfl, by decide +kernel, by decide +kernel, by decide +kernel, by decide +kernel, by decide +kernel⟩
set_option maxRecDepth 100000 in
theorem mk_X7_stand : mt_ok ((yX7_stand, cX7_stand, 8, (some FieldType.int), 7), 685, 77) := ⟨rfl, by decide +kernel, by decide +kernel, by decide +kernel, by decide +kernel, by decide +kernel⟩
set_option maxRecDepth 100000 in
theorem mk_X7_needs : mt_ok ((yX7_needs, cX7_needs, 4, (some FieldType.int), 7), 690, 77) := ⟨rfl, by decide +kernel, by decide +kernel, by decide +kernel, by decide +kernel, by decide +kernel⟩
set_option maxRecDepth 100000 in
theorem mk_X7_heavy : mt_ok ((yX7_heavy, cX7_heavy, 4, (some FieldType.int), 7), 694, 77) := ⟨rfl, by decide +kernel, by decide +kernel, by decide +kernel, by decide +kernel, by decide +kernel⟩
set_option maxRecDepth 100000 in
theorem mk_X7_change : mt_ok ((yX7_change, cX7_change, 6, (some FieldType.int), 7), 699, 77) := ⟨rfl, by decide +kernel, by decide +kernel, by decide +kernel, by decide +kernel, by decide +kernel⟩
set_option maxRecDepth 100000 in
theorem mk_X7_mute : mt_ok ((yX7_mute, cX7_mute, 5, (some FieldType.int), 7), 703, 77) := ⟨rfl, by decide +kernel, by decide +kernel, by decide +kernel, by decide +kernel, by decide +kernel⟩
set_option maxRecDepth 100000 in
theorem mk_X7_see : mt_ok ((yX7_see, cX7_see, 3, (some FieldType.int), 7), 707, 77) := ⟨rfl, by decide +kernel, by decide +kernel, by decide +kernel, by decide +kernel, by decide +kernel⟩
set_option maxRecDepth 100000 in
theorem mk_X7_from : mt_ok ((yX7_from, cX7_from, 3, (some FieldType.int), 7), 719, 77) := ⟨rfl, by decide +kernel, by decide +kernel, by decide +kernel, by decide +kernel, by decide +kernel⟩
set_option maxRecDepth 100000 in
theorem mk_X7_had : mt_ok ((yX7_had, cX7_had, 6, (some FieldType.int), 7), 727, 77) := ⟨rfl, by decide +kernel, by decide +kernel, by decide +kernel, by decide +kernel, by decide +kernel⟩
set_option maxRecDepth 100000 in
theorem mk_X7_odds : mt_ok ((yX7_odds, cX7_odds, 5, (some FieldType.long), 7), 731, 77) := ⟨rfl, by decide +kernel, by decide +kernel, by decide +kernel, by decide +kernel, by decide +kernel⟩
set_option maxRecDepth 100000 in
theorem mk_X7_mean : mt_ok ((yX7_mean, cX7_mean, 5, (some FieldType.long), 7), 740, 77) := ⟨rfl, by decide +kernel, by decide +kernel, by decide +kernel, by decide +kernel, by decide +kernel⟩
set_option maxRecDepth 100000 in
theorem mk_X7_game : mt_ok ((yX7_game, cX7_game, 3, (some FieldType.int), 7), 744, 77) := ⟨rfl, by decide +kernel, by decide +kernel, by decide +kernel, by decide +kernel, by decide +kernel⟩
set_option maxRecDepth 100000 in
theorem mk_X7_gone : mt_ok ((yX7_gone, cX7_gone, 3, (some FieldType.int), 7), 748, 77) := ⟨rfl, by decide +kernel, by decide +kernel, by decide +kernel, by decide +kernel, by decide +kernel⟩
set_option maxRecDepth 100000 in
theorem mk_X7_book : mt_ok ((yX7_book, cX7_book, 3, (some FieldType.int), 7), 757, 77) := ⟨rfl, by decide +kernel, by decide +kernel, by decide +kernel, by decide +kernel, by decide +kernel⟩
set_option maxRecDepth 100000 in
theorem mk_X7_looked : mt_ok ((yX7_looked, cX7_looked, 3, (some FieldType.int), 7), 761, 77) := ⟨rfl, by decide +kernel, by decide +kernel, by decide +kernel, by decide +kernel, by decide +kernel⟩
set_option maxRecDepth 100000 in
theorem mk_X7_judge : mt_ok ((yX7_judge, cX7_judge, 4, (some FieldType.int), 7), 765, 77) := ⟨rfl, by decide +kernel, by decide +kernel, by decide +kernel, by decide +kernel, by decide +kernel⟩
set_option maxRecDepth 100000 in
theorem mk_X7_image : mt_ok ((yX7_image, cX7_image, 1, (some FieldType.int), 7), 782, 77) := ⟨rfl, by decide +kernel, by decide +kernel, by decide +kernel, by decide +kernel, by decide +kernel⟩
set_option maxRecDepth 100000 in
theorem mk_X7_undo : mt_ok ((yX7_undo, cX7_undo, 1, (some FieldType.int), 7), 796, 77) := ⟨rfl, by decide +kernel, by decide +kernel, by decide +kernel, by decide +kernel, by decide +kernel⟩
set_option maxRecDepth 100000 in
theorem mk_X7_act : mt_ok ((yX7_act, cX7_act, 4, (some FieldType.int), 7), 800, 77) := ⟨rfl, by decide +kernel, by decide +kernel, by decide +kernel, by decide +kernel, by decide +kernel⟩
set_option maxRecDepth 100000 in
theorem mk_X7_trace : mt_ok ((yX7_trace, cX7_trace, 2, (some FieldType.int), 7), 826, 77) := ⟨rfl, by decide +kernel, by decide +kernel, by decide +kernel, by decide +kernel, by decide +kernel⟩
set_option maxRecDepth 100000 in
theorem mk_X7_taken : mt_ok ((yX7_taken, cX7_taken, 4, (some FieldType.int), 7), 834, 77) := ⟨rfl, by decide +kernel, by decide +kernel, by decide +kernel, by decide +kernel, by decide +kernel⟩
set_option maxRecDepth 100000 in
theorem mk_X7_count : mt_ok ((yX7_count, cX7_count, 2, (some FieldType.int), 7), 843, 77) := ⟨rfl, by decide +kernel, by decide +kernel, by decide +kernel, by decide +kernel, by decide +kernel⟩
set_option maxRecDepth 100000 in
theorem mk_X7_tape : mt_ok ((yX7_tape, cX7_tape, 4, (some FieldType.int), 7), 847, 77) := ⟨rfl, by decide +kernel, by decide +kernel, by decide +kernel, by decide +kernel, by decide +kernel⟩
set_option maxRecDepth 100000 in
theorem mk_X7_item : mt_ok ((yX7_item, cX7_item, 5, (some FieldType.int), 7), 859, 77) := ⟨rfl, by decide +kernel, by decide +kernel, by decide +kernel, by decide +kernel, by decide +kernel⟩
set_option maxRecDepth 100000 in
theorem mk_X7_read : mt_ok ((yX7_read, cX7_read, 3, (some FieldType.long), 7), 872, 77) := ⟨rfl, by decide +kernel, by decide +kernel, by decide +kernel, by decide +kernel, by decide +kernel⟩
set_option maxRecDepth 100000 in
theorem mk_X7_shift : mt_ok ((yX7_shift, cX7_shift, 6, (some FieldType.int), 7), 876, 77) := ⟨rfl, by decide +kernel, by decide +kernel, by decide +kernel, by decide +kernel, by decide +kernel⟩
set_option maxRecDepth 100000 in
theorem mk_X7_isWithin : mt_ok ((yX7_isWithin, cX7_isWithin, 3, (some FieldType.boolean), 7), 318, 77) := ⟨rfl, by decide +kernel, by decide +kernel, by decide +kernel, by decide +kernel, by decide +kernel⟩
set_option maxRecDepth 100000 in
theorem mk_X7_isDigit : mt_ok ((yX7_isDigit, cX7_isDigit, 1, (some FieldType.boolean), 7), 321, 77) := ⟨rfl, by decide +kernel, by decide +kernel, by decide +kernel, by decide +kernel, by decide +kernel⟩
set_option maxRecDepth 100000 in
theorem mk_X7_isDoor : mt_ok ((yX7_isDoor, cX7_isDoor, 1, (some FieldType.boolean), 7), 324, 77) := ⟨rfl, by decide +kernel, by decide +kernel, by decide +kernel, by decide +kernel, by decide +kernel⟩
set_option maxRecDepth 100000 in
theorem mk_X7_isOrIsUnder : mt_ok ((yX7_isOrIsUnder, cX7_isOrIsUnder, 4, (some FieldType.boolean), 7), 837, 77) := ⟨rfl, by decide +kernel, by decide +kernel, by decide +kernel, by decide +kernel, by decide +kernel⟩
set_option maxRecDepth 100000 in
theorem mk_X7_startWith : mt_ok ((yX7_startWith, cX7_startWith, 2, none, 7), 681, 77) := ⟨rfl, by decide +kernel, by decide +kernel, by decide +kernel, by decide +kernel, by decide +kernel⟩
set_option maxRecDepth 100000 in
theorem mk_X7_isAllSeenSo : mt_ok ((yX7_isAllSeenSo, cX7_isAllSeenSo, 3, (some FieldType.boolean), 7), 723, 77) := ⟨rfl, by decide +kernel, by decide +kernel, by decide +kernel, by decide +kernel, by decide +kernel⟩
set_option maxRecDepth 100000 in
theorem mk_X7_fraction : mt_ok ((yX7_fraction, cX7_fraction, 5, (some FieldType.long), 7), 736, 77) := ⟨rfl, by decide +kernel, by decide +kernel, by decide +kernel, by decide +kernel, by decide +kernel⟩
set_option maxRecDepth 100000 in
theorem mk_X8_init : mt_ok ((yX8_init, cX8_init, 1, none, 8), 890, 85) := ⟨rfl, by decide +kernel, by decide +kernel, by decide +kernel, by decide +kernel, by decide +kernel⟩
set_option maxRecDepth 100000 in
theorem mk_X8_in : mt_ok ((yX8_in, cX8_in, 4, (some FieldType.boolean), 8), 1123, 85) := ⟨rfl, by decide +kernel, by decide +kernel, by decide +kernel, by decide +kernel, by decide +kernel⟩
set_option maxRecDepth 100000 in
theorem mk_X8_held : mt_ok ((yX8_held, cX8_held, 3, (some FieldType.int), 8), 1299, 85) := ⟨rfl, by decide +kernel, by decide +kernel, by decide +kernel, by decide +kernel, by decide +kernel⟩
set_option maxRecDepth 100000 in
theorem mk_X8_orNone : mt_ok ((yX8_orNone, cX8_orNone, 2, (some FieldType.int), 8), 1155, 85) := ⟨rfl, by decide +kernel, by decide +kernel, by decide +kernel, by decide +kernel, by decide +kernel⟩
set_option maxRecDepth 100000 in
theorem mk_X8_isPerson : mt_ok ((yX8_isPerson, cX8_isPerson, 2, (some FieldType.boolean), 8), 1139, 85) := ⟨rfl, by decide +kernel, by decide +kernel, by decide +kernel, by decide +kernel, by decide +kernel⟩
set_option maxRecDepth 100000 in
theorem mk_X8_isDoor : mt_ok ((yX8_isDoor, cX8_isDoor, 2, (some FieldType.boolean), 8), 1127, 85) := ⟨rfl, by decide +kernel, by decide +kernel, by decide +kernel, by decide +kernel, by decide +kernel⟩
set_option maxRecDepth 100000 in
theorem mk_X8_isHopes : mt_ok ((yX8_isHopes, cX8_isHopes, 2, (some FieldType.boolean), 8), 1131, 85) := ⟨rfl, by decide +kernel, by decide +kernel, by decide +kernel, by decide +kernel, by decide +kernel⟩
set_option maxRecDepth 100000 in
theorem mk_X8_isFew : mt_ok ((yX8_isFew, cX8_isFew, 2, (some FieldType.boolean), 8), 1340, 85) := ⟨rfl, by decide +kernel, by decide +kernel, by decide +kernel, by decide +kernel, by decide +kernel⟩
set_option maxRecDepth 100000 in
theorem mk_X8_person : mt_ok ((yX8_person, cX8_person, 6, (some FieldType.int), 8), 1119, 85) := ⟨rfl, by decide +kernel, by decide +kernel, by decide +kernel, by decide +kernel, by decide +kernel⟩
set_option maxRecDepth 100000 in
theorem mk_X8_set : mt_ok ((yX8_set, cX8_set, 5, (some FieldType.int), 8), 1135, 85) := ⟨rfl, by decide +kernel, by decide +kernel, by decide +kernel, by decide +kernel, by decide +kernel⟩
set_option maxRecDepth 100000 in
theorem mk_X8_row : mt_ok ((yX8_row, cX8_row, 5, (some FieldType.int), 8), 1143, 85) := ⟨rfl, by decide +kernel, by decide +kernel, by decide +kernel, by decide +kernel, by decide +kernel⟩
set_option maxRecDepth 100000 in
theorem mk_X8_gives : mt_ok ((yX8_gives, cX8_gives, 2, none, 8), 1151, 85) := ⟨rfl, by decide +kernel, by decide +kernel, by decide +kernel, by decide +kernel, by decide +kernel⟩
set_option maxRecDepth 100000 in
theorem mk_X8_with : mt_ok ((yX8_with, cX8_with, 3, (some FieldType.int), 8), 1147, 85) := ⟨rfl, by decide +kernel, by decide +kernel, by decide +kernel, by decide +kernel, by decide +kernel⟩
set_option maxRecDepth 100000 in
theorem mk_X8_weight : mt_ok ((yX8_weight, cX8_weight, 3, (some FieldType.int), 8), 1159, 85) := ⟨rfl, by decide +kernel, by decide +kernel, by decide +kernel, by decide +kernel, by decide +kernel⟩
set_option maxRecDepth 100000 in
theorem mk_X8_feed : mt_ok ((yX8_feed, cX8_feed, 2, (some FieldType.int), 8), 1163, 85) := ⟨rfl, by decide +kernel, by decide +kernel, by decide +kernel, by decide +kernel, by decide +kernel⟩
set_option maxRecDepth 100000 in
theorem mk_X8_next : mt_ok ((yX8_next, cX8_next, 1, (some FieldType.int), 8), 1183, 85) := ⟨rfl, by decide +kernel, by decide +kernel, by decide +kernel, by decide +kernel, by decide +kernel⟩
set_option maxRecDepth 100000 in
theorem mk_X8_takes : mt_ok ((yX8_takes, cX8_takes, 2, (some FieldType.boolean), 8), 1191, 85) := ⟨rfl, by decide +kernel, by decide +kernel, by decide +kernel, by decide +kernel, by decide +kernel⟩
set_option maxRecDepth 100000 in
theorem mk_X8_takesWord : mt_ok ((yX8_takesWord, cX8_takesWord, 4, (some FieldType.boolean), 8), 1187, 85) := ⟨rfl, by decide +kernel, by decide +kernel, by decide +kernel, by decide +kernel, by decide +kernel⟩
set_option maxRecDepth 100000 in
theorem mk_X8_isDigit : mt_ok ((yX8_isDigit, cX8_isDigit, 1, (some FieldType.boolean), 8), 1199, 85) := ⟨rfl, by decide +kernel, by decide +kernel, by decide +kernel, by decide +kernel, by decide +kernel⟩
set_option maxRecDepth 100000 in
theorem mk_X8_takesNumber : mt_ok ((yX8_takesNumber, cX8_takesNumber, 2, (some FieldType.boolean), 8), 1195, 85) := ⟨rfl, by decide +kernel, by decide +kernel, by decide +kernel, by decide +kernel, by decide +kernel⟩
set_option maxRecDepth 100000 in
theorem mk_X8_emits : mt_ok ((yX8_emits, cX8_emits, 2, none, 8), 1215, 85) := ⟨rfl, by decide +kernel, by decide +kernel, by decide +kernel, by decide +kernel, by decide +kernel⟩
set_option maxRecDepth 100000 in
theorem mk_X8_whole : mt_ok ((yX8_whole, cX8_whole, 1, none, 8), 1219, 85) := ⟨rfl, by decide +kernel, by decide +kernel, by decide +kernel, by decide +kernel, by decide +kernel⟩
set_option maxRecDepth 100000 in
theorem mk_X8_settle : mt_ok ((yX8_settle, cX8_settle, 2, none, 8), 1223, 85) := ⟨rfl, by decide +kernel, by decide +kernel, by decide +kernel, by decide +kernel, by decide +kernel⟩
set_option maxRecDepth 100000 in
theorem mk_X8_place : mt_ok ((yX8_place, cX8_place, 2, (some FieldType.int), 8), 1211, 85) := ⟨rfl, by decide +kernel, by decide +kernel, by decide +kernel, by decide +kernel, by decide +kernel⟩
set_option maxRecDepth 100000 in
theorem mk_X8_takesTest : mt_ok ((yX8_takesTest, cX8_takesTest, 3, (some FieldType.boolean), 8), 1207, 85) := ⟨rfl, by decide +kernel, by decide +kernel, by decide +kernel, by decide +kernel, by decide +kernel⟩
set_option maxRecDepth 100000 in
theorem mk_X8_takesE : mt_ok ((yX8_takesE, cX8_takesE, 4, (some FieldType.boolean), 8), 1203, 85) := ⟨rfl, by decide +kernel, by decide +kernel, by decide +kernel, by decide +kernel, by decide +kernel⟩
set_option maxRecDepth 100000 in
theorem mk_X8_takesHead : mt_ok ((yX8_takesHead, cX8_takesHead, 2, (some FieldType.boolean), 8), 1179, 85) := ⟨rfl, by decide +kernel, by decide +kernel, by decide +kernel, by decide +kernel, by decide +kernel⟩
set_option maxRecDepth 100000 in
theorem mk_X8_takesClause : mt_ok ((yX8_takesClause, cX8_takesClause, 2, (some FieldType.boolean), 8), 1175, 85) := ⟨rfl, by decide +kernel, by decide +kernel, by decide +kernel, by decide +kernel, by decide +kernel⟩
set_option maxRecDepth 100000 in
theorem mk_X8_goesText : mt_ok ((yX8_goesText, cX8_goesText, 3, (some FieldType.boolean), 8), 1171, 85) := ⟨rfl, by decide +kernel, by decide +kernel, by decide +kernel, by decide +kernel, by decide +kernel⟩
set_option maxRecDepth 100000 in
theorem mk_X8_evening : mt_ok ((yX8_evening, cX8_evening, 2, (some FieldType.int), 8), 1167, 85) := ⟨rfl, by decide +kernel, by decide +kernel, by decide +kernel, by decide +kernel, by decide +kernel⟩
set_option maxRecDepth 100000 in
theorem mk_X8_begin : mt_ok ((yX8_begin, cX8_begin, 1, (some FieldType.int), 8), 1239, 85) := ⟨rfl, by decide +kernel, by decide +kernel, by decide +kernel, by decide +kernel, by decide +kernel⟩
set_option maxRecDepth 100000 in
theorem mk_X8_behind : mt_ok ((yX8_behind, cX8_behind, 1, (some FieldType.int), 8), 1243, 85) := ⟨rfl, by decide +kernel, by decide +kernel, by decide +kernel, by decide +kernel, by decide +kernel⟩
set_option maxRecDepth 100000 in
theorem mk_X8_lastOf : mt_ok ((yX8_lastOf, cX8_lastOf, 5, (some FieldType.int), 8), 1235, 85) := ⟨rfl, by decide +kernel, by decide +kernel, by decide +kernel, by decide +kernel, by decide +kernel⟩
set_option maxRecDepth 100000 in
theorem mk_X8_factOf : mt_ok ((yX8_factOf, cX8_factOf, 3, (some FieldType.int), 8), 1279, 85) := ⟨rfl, by decide +kernel, by decide +kernel, by decide +kernel, by decide +kernel, by decide +kernel⟩
set_option maxRecDepth 100000 in
theorem mk_X8_holds : mt_ok ((yX8_holds, cX8_holds, 8, (some FieldType.boolean), 8), 1275, 85) := ⟨rfl, by decide +kernel, by decide +kernel, by decide +kernel, by decide +kernel, by decide +kernel⟩
set_option maxRecDepth 100000 in
theorem mk_X8_rain : mt_ok ((yX8_rain, cX8_rain, 4, (some FieldType.int), 8), 1271, 85) := ⟨rfl, by decide +kernel, by decide +kernel, by decide +kernel, by decide +kernel, by decide +kernel⟩
set_option maxRecDepth 100000 in
theorem mk_X8_least0 : mt_ok ((yX8_least0, cX8_least0, 2, (some FieldType.int), 8), 1247, 85) := ⟨rfl, by decide +kernel, by decide +kernel, by decide +kernel, by decide +kernel, by decide +kernel⟩
set_option maxRecDepth 100000 in
theorem mk_X8_reach : mt_ok ((yX8_reach, cX8_reach, 3, (some FieldType.int), 8), 1231, 85) := ⟨rfl, by decide +kernel, by decide +kernel, by decide +kernel, by decide +kernel, by decide +kernel⟩
set_option maxRecDepth 100000 in
theorem mk_X8_way : mt_ok ((yX8_way, cX8_way, 3, (some FieldType.int), 8), 1259, 85) := ⟨rfl, by decide +kernel, by decide +kernel, by decide +kernel, by decide +kernel, by decide +kernel⟩
set_option maxRecDepth 100000 in
theorem mk_X8_nearest : mt_ok ((yX8_nearest, cX8_nearest, 4, (some FieldType.int), 8), 1263, 85) := ⟨rfl, by decide +kernel, by decide +kernel, by decide +kernel, by decide +kernel, by decide +kernel⟩
set_option maxRecDepth 100000 in
theorem mk_X8_farthest : mt_ok ((yX8_farthest, cX8_farthest, 5, (some FieldType.int), 8), 1255, 85) := ⟨rfl, by decide +kernel, by decide +kernel, by decide +kernel, by decide +kernel, by decide +kernel⟩
set_option maxRecDepth 100000 in
theorem mk_X8_hopeful : mt_ok ((yX8_hopeful, cX8_hopeful, 4, (some FieldType.int), 8), 1267, 85) := ⟨rfl, by decide +kernel, by decide +kernel, by decide +kernel, by decide +kernel, by decide +kernel⟩
set_option maxRecDepth 100000 in
theorem mk_X8_toWhom : mt_ok ((yX8_toWhom, cX8_toWhom, 3, (some FieldType.int), 8), 1251, 85) := ⟨rfl, by decide +kernel, by decide +kernel, by decide +kernel, by decide +kernel, by decide +kernel⟩
set_option maxRecDepth 100000 in
theorem mk_X8_of : mt_ok ((yX8_of, cX8_of, 3, (some FieldType.int), 8), 1227, 85) := ⟨rfl, by decide +kernel, by decide +kernel, by decide +kernel, by decide +kernel, by decide +kernel⟩
set_option maxRecDepth 100000 in
theorem mk_X8_told : mt_ok ((yX8_told, cX8_told, 2, (some FieldType.int), 8), 1283, 85) := ⟨rfl, by decide +kernel, by decide +kernel, by decide +kernel, by decide +kernel, by decide +kernel⟩
set_option maxRecDepth 100000 in
theorem mk_X8_canGo : mt_ok ((yX8_canGo, cX8_canGo, 1, (some FieldType.boolean), 8), 1291, 85) := ⟨rfl, by decide +kernel, by decide +kernel, by decide +kernel, by decide +kernel, by decide +kernel⟩
set_option maxRecDepth 100000 in
theorem mk_X8_goStep : mt_ok ((yX8_goStep, cX8_goStep, 4, (some FieldType.int), 8), 1295, 85) := ⟨rfl, by decide +kernel, by decide +kernel, by decide +kernel, by decide +kernel, by decide +kernel⟩
set_option maxRecDepth 100000 in
theorem mk_X8_step : mt_ok ((yX8_step, cX8_step, 1, (some FieldType.int), 8), 1287, 85) := ⟨rfl, by decide +kernel, by decide +kernel, by decide +kernel, by decide +kernel, by decide +kernel⟩
set_option maxRecDepth 100000 in
theorem mk_X8_save : mt_ok ((yX8_save, cX8_save, 2, none, 8), 1307, 85) := ⟨rfl, by decide +kernel, by decide +kernel, by decide +kernel, by decide +kernel, by decide +kernel⟩
set_option maxRecDepth 100000 in
theorem mk_X8_putBack : mt_ok ((yX8_putBack, cX8_putBack, 2, none, 8), 1316, 85) := ⟨rfl, by decide +kernel, by decide +kernel, by decide +kernel, by decide +kernel, by decide +kernel⟩
set_option maxRecDepth 100000 in
theorem mk_X8_goSteps : mt_ok ((yX8_goSteps, cX8_goSteps, 4, none, 8), 1312, 85) := ⟨rfl, by decide +kernel, by decide +kernel, by decide +kernel, by decide +kernel, by decide +kernel⟩
set_option maxRecDepth 100000 in
theorem mk_X8_on : mt_ok ((yX8_on, cX8_on, 4, (some FieldType.int), 8), 1303, 85) := ⟨rfl, by decide +kernel, by decide +kernel, by decide +kernel, by decide +kernel, by decide +kernel⟩
set_option maxRecDepth 100000 in
theorem mk_X8_toEnd : mt_ok ((yX8_toEnd, cX8_toEnd, 3, (some FieldType.int), 8), 1328, 85) := ⟨rfl, by decide +kernel, by decide +kernel, by decide +kernel, by decide +kernel, by decide +kernel⟩
set_option maxRecDepth 100000 in
theorem mk_X8_endsIn : mt_ok ((yX8_endsIn, cX8_endsIn, 2, (some FieldType.int), 8), 1324, 85) := ⟨rfl, by decide +kernel, by decide +kernel, by decide +kernel, by decide +kernel, by decide +kernel⟩
set_option maxRecDepth 100000 in
theorem mk_X8_ends : mt_ok ((yX8_ends, cX8_ends, 2, (some FieldType.int), 8), 1320, 85) := ⟨rfl, by decide +kernel, by decide +kernel, by decide +kernel, by decide +kernel, by decide +kernel⟩
set_option maxRecDepth 100000 in
theorem mk_X8_longest : mt_ok ((yX8_longest, cX8_longest, 5, (some FieldType.int), 8), 1332, 85) := ⟨rfl, by decide +kernel, by decide +kernel, by decide +kernel, by decide +kernel, by decide +kernel⟩
set_option maxRecDepth 100000 in
theorem mk_X8_stand : mt_ok ((yX8_stand, cX8_stand, 8, (some FieldType.int), 8), 1336, 85) := ⟨rfl, by decide +kernel, by decide +kernel, by decide +kernel, by decide +kernel, by decide +kernel⟩
set_option maxRecDepth 100000 in
theorem mk_X8_needs : mt_ok ((yX8_needs, cX8_needs, 5, (some FieldType.int), 8), 1344, 85) := ⟨rfl, by decide +kernel, by decide +kernel, by decide +kernel, by decide +kernel, by decide +kernel⟩
set_option maxRecDepth 100000 in
theorem mk_X8_heavy : mt_ok ((yX8_heavy, cX8_heavy, 5, (some FieldType.int), 8), 1348, 85) := ⟨rfl, by decide +kernel, by decide +kernel, by decide +kernel, by decide +kernel, by decide +kernel⟩
set_option maxRecDepth 100000 in
theorem mk_X8_change : mt_ok ((yX8_change, cX8_change, 6, (some FieldType.int), 8), 1352, 85) := ⟨rfl, by decide +kernel, by decide +kernel, by decide +kernel, by decide +kernel, by decide +kernel⟩
set_option maxRecDepth 100000 in
theorem mk_X8_mute : mt_ok ((yX8_mute, cX8_mute, 5, (some FieldType.int), 8), 1356, 85) := ⟨rfl, by decide +kernel, by decide +kernel, by decide +kernel, by decide +kernel, by decide +kernel⟩
set_option maxRecDepth 100000 in
theorem mk_X8_see : mt_ok ((yX8_see, cX8_see, 3, (some FieldType.int), 8), 1360, 85) := ⟨rfl, by decide +kernel, by decide +kernel, by decide +kernel, by decide +kernel, by decide +kernel⟩
set_option maxRecDepth 100000 in
theorem mk_X8_isSeen : mt_ok ((yX8_isSeen, cX8_isSeen, 4, (some FieldType.boolean), 8), 1368, 85) := ⟨rfl, by decide +kernel, by decide +kernel, by decide +kernel, by decide +kernel, by decide +kernel⟩
set_option maxRecDepth 100000 in
theorem mk_X8_from : mt_ok ((yX8_from, cX8_from, 3, (some FieldType.int), 8), 1364, 85) := ⟨rfl, by decide +kernel, by decide +kernel, by decide +kernel, by decide +kernel, by decide +kernel⟩
set_option maxRecDepth 100000 in
theorem mk_X8_had : mt_ok ((yX8_had, cX8_had, 7, (some FieldType.int), 8), 1372, 85) := ⟨rfl, by decide +kernel, by decide +kernel, by decide +kernel, by decide +kernel, by decide +kernel⟩
set_option maxRecDepth 100000 in
theorem mk_X8_divisor : mt_ok ((yX8_divisor, cX8_divisor, 6, (some FieldType.int), 8), 1385, 85) := ⟨rfl, by decide +kernel, by decide +kernel, by decide +kernel, by decide +kernel, by decide +kernel⟩
set_option maxRecDepth 100000 in
theorem mk_X8_lowest : mt_ok ((yX8_lowest, cX8_lowest, 5, (some FieldType.long), 8), 1381, 85) := ⟨rfl, by decide +kernel, by decide +kernel, by decide +kernel, by decide +kernel, by decide +kernel⟩
set_option maxRecDepth 100000 in
theorem mk_X8_odds : mt_ok ((yX8_odds, cX8_odds, 5, (some FieldType.long), 8), 1376, 85) := ⟨rfl, by decide +kernel, by decide +kernel, by decide +kernel, by decide +kernel, by decide +kernel⟩
set_option maxRecDepth 100000 in
theorem mk_X8_mean : mt_ok ((yX8_mean, cX8_mean, 5, (some FieldType.long), 8), 1389, 85) := ⟨rfl, by decide +kernel, by decide +kernel, by decide +kernel, by decide +kernel, by decide +kernel⟩
set_option maxRecDepth 100000 in
theorem mk_X8_game : mt_ok ((yX8_game, cX8_game, 3, (some FieldType.int), 8), 1393, 85) := ⟨rfl, by decide +kernel, by decide +kernel, by decide +kernel, by decide +kernel, by decide +kernel⟩
set_option maxRecDepth 100000 in
theorem mk_X8_gone : mt_ok ((yX8_gone, cX8_gone, 3, (some FieldType.int), 8), 1397, 85) := ⟨rfl, by decide +kernel, by decide +kernel, by decide +kernel, by decide +kernel, by decide +kernel⟩
set_option maxRecDepth 100000 in
theorem mk_X8_book : mt_ok ((yX8_book, cX8_book, 3, (some FieldType.int), 8), 1401, 85) := ⟨rfl, by decide +kernel, by decide +kernel, by decide +kernel, by decide +kernel, by decide +kernel⟩
set_option maxRecDepth 100000 in
theorem mk_X8_looked : mt_ok ((yX8_looked, cX8_looked, 2, (some FieldType.int), 8), 1405, 85) := ⟨rfl, by decide +kernel, by decide +kernel, by decide +kernel, by decide +kernel, by decide +kernel⟩
set_option maxRecDepth 100000 in
theorem mk_X8_judge : mt_ok ((yX8_judge, cX8_judge, 4, (some FieldType.int), 8), 1409, 85) := ⟨rfl, by decide +kernel, by decide +kernel, by decide +kernel, by decide +kernel, by decide +kernel⟩
set_option maxRecDepth 100000 in
theorem mk_X8_image : mt_ok ((yX8_image, cX8_image, 2, (some FieldType.int), 8), 1417, 85) := ⟨rfl, by decide +kernel, by decide +kernel, by decide +kernel, by decide +kernel, by decide +kernel⟩
set_option maxRecDepth 100000 in
theorem mk_X8_undo : mt_ok ((yX8_undo, cX8_undo, 2, (some FieldType.int), 8), 1421, 85) := ⟨rfl, by decide +kernel, by decide +kernel, by decide +kernel, by decide +kernel, by decide +kernel⟩
set_option maxRecDepth 100000 in
theorem mk_X8_body : mt_ok ((yX8_body, cX8_body, 2, none, 8), 1433, 85) := ⟨rfl, by decide +kernel, by decide +kernel, by decide +kernel, by decide +kernel, by decide +kernel⟩
set_option maxRecDepth 100000 in
theorem mk_X8_personWaits : mt_ok ((yX8_personWaits, cX8_personWaits, 3, (some FieldType.int), 8), 1437, 85) := ⟨rfl, by decide +kernel, by decide +kernel, by decide +kernel, by decide +kernel, by decide +kernel⟩
set_option maxRecDepth 100000 in
theorem mk_X8_waitsAct : mt_ok ((yX8_waitsAct, cX8_waitsAct, 3, (some FieldType.int), 8), 1429, 85) := ⟨rfl, by decide +kernel, by decide +kernel, by decide +kernel, by decide +kernel, by decide +kernel⟩
set_option maxRecDepth 100000 in
theorem mk_X8_personTells : mt_ok ((yX8_personTells, cX8_personTells, 3, (some FieldType.int), 8), 1449, 85) := ⟨rfl, by decide +kernel, by decide +kernel, by decide +kernel, by decide +kernel, by decide +kernel⟩
set_option maxRecDepth 100000 in
theorem mk_X8_oldTells : mt_ok ((yX8_oldTells, cX8_oldTells, 3, (some FieldType.int), 8), 1445, 85) := ⟨rfl, by decide +kernel, by decide +kernel, by decide +kernel, by decide +kernel, by decide +kernel⟩
set_option maxRecDepth 100000 in
theorem mk_X8_tellsAct : mt_ok ((yX8_tellsAct, cX8_tellsAct, 4, (some FieldType.int), 8), 1441, 85) := ⟨rfl, by decide +kernel, by decide +kernel, by decide +kernel, by decide +kernel, by decide +kernel⟩
set_option maxRecDepth 100000 in
theorem mk_X8_personHopes : mt_ok ((yX8_personHopes, cX8_personHopes, 3, (some FieldType.int), 8), 1457, 85) := ⟨rfl, by decide +kernel, by decide +kernel, by decide +kernel, by decide +kernel, by decide +kernel⟩
set_option maxRecDepth 100000 in
theorem mk_X8_hopesAct : mt_ok ((yX8_hopesAct, cX8_hopesAct, 4, (some FieldType.int), 8), 1453, 85) := ⟨rfl, by decide +kernel, by decide +kernel, by decide +kernel, by decide +kernel, by decide +kernel⟩
set_option maxRecDepth 100000 in
theorem mk_X8_act : mt_ok ((yX8_act, cX8_act, 4, (some FieldType.int), 8), 1425, 85) := ⟨rfl, by decide +kernel, by decide +kernel, by decide +kernel, by decide +kernel, by decide +kernel⟩
set_option maxRecDepth 100000 in
theorem mk_X8_trace : mt_ok ((yX8_trace, cX8_trace, 2, (some FieldType.int), 8), 1461, 85) := ⟨rfl, by decide +kernel, by decide +kernel, by decide +kernel, by decide +kernel, by decide +kernel⟩
set_option maxRecDepth 100000 in
theorem mk_X8_taken : mt_ok ((yX8_taken, cX8_taken, 4, (some FieldType.int), 8), 1465, 85) := ⟨rfl, by decide +kernel, by decide +kernel, by decide +kernel, by decide +kernel, by decide +kernel⟩
set_option maxRecDepth 100000 in
theorem mk_X8_count : mt_ok ((yX8_count, cX8_count, 2, (some FieldType.int), 8), 1469, 85) := ⟨rfl, by decide +kernel, by decide +kernel, by decide +kernel, by decide +kernel, by decide +kernel⟩
set_option maxRecDepth 100000 in
theorem mk_X8_isTape : mt_ok ((yX8_isTape, cX8_isTape, 2, (some FieldType.boolean), 8), 1413, 85) := ⟨rfl, by decide +kernel, by decide +kernel, by decide +kernel, by decide +kernel, by decide +kernel⟩
set_option maxRecDepth 100000 in
theorem mk_X8_tape : mt_ok ((yX8_tape, cX8_tape, 5, (some FieldType.int), 8), 1473, 85) := ⟨rfl, by decide +kernel, by decide +kernel, by decide +kernel, by decide +kernel, by decide +kernel⟩
set_option maxRecDepth 100000 in
theorem mk_X8_narrow : mt_ok ((yX8_narrow, cX8_narrow, 4, (some FieldType.long), 8), 1481, 85) := ⟨rfl, by decide +kernel, by decide +kernel, by decide +kernel, by decide +kernel, by decide +kernel⟩
set_option maxRecDepth 100000 in
theorem mk_X8_item : mt_ok ((yX8_item, cX8_item, 5, (some FieldType.int), 8), 1477, 85) := ⟨rfl, by decide +kernel, by decide +kernel, by decide +kernel, by decide +kernel, by decide +kernel⟩
set_option maxRecDepth 100000 in
theorem mk_X8_read : mt_ok ((yX8_read, cX8_read, 3, (some FieldType.long), 8), 1485, 85) := ⟨rfl, by decide +kernel, by decide +kernel, by decide +kernel, by decide +kernel, by decide +kernel⟩
set_option maxRecDepth 100000 in
theorem mk_X8_shift : mt_ok ((yX8_shift, cX8_shift, 7, (some FieldType.int), 8), 1489, 85) := ⟨rfl, by decide +kernel, by decide +kernel, by decide +kernel, by decide +kernel, by decide +kernel⟩
set_option maxRecDepth 100000 in
theorem mk_J0_length_8abf5 : mt_ok ((yJ0_length_8abf5, cJ0_length_8abf5, 1, (some FieldType.int), 10), 443, 87) := ⟨rfl, by decide +kernel, by decide +kernel, by decide +kernel, by decide +kernel, by decide +kernel⟩
set_option maxRecDepth 100000 in
theorem mk_J0_charAt_5068e : mt_ok ((yJ0_charAt_5068e, cJ0_charAt_5068e, 2, (some FieldType.char), 10), 453, 87) := ⟨rfl, by decide +kernel, by decide +kernel, by decide +kernel, by decide +kernel, by decide +kernel⟩
set_option maxRecDepth 100000 in
theorem mk_J0_indexOf_0f7a4 : mt_ok ((yJ0_indexOf_0f7a4, cJ0_indexOf_0f7a4, 2, (some FieldType.int), 10), 516, 87) := ⟨rfl, by decide +kernel, by decide +kernel, by decide +kernel, by decide +kernel, by decide +kernel⟩
set_option maxRecDepth 100000 in
theorem mk_J0_indexOf_7cf53 : mt_ok ((yJ0_indexOf_7cf53, cJ0_indexOf_7cf53, 3, (some FieldType.int), 10), 520, 87) := ⟨rfl, by decide +kernel, by decide +kernel, by decide +kernel, by decide +kernel, by decide +kernel⟩
set_option maxRecDepth 100000 in
theorem mk_J0_coder_7d493 : mt_ok ((yJ0_coder_7d493, cJ0_coder_7d493, 1, (some FieldType.byte), 10), 447, 87) := ⟨rfl, by decide +kernel, by decide +kernel, by decide +kernel, by decide +kernel, by decide +kernel⟩
set_option maxRecDepth 100000 in
theorem mk_J0_isLatin1_aae02 : mt_ok ((yJ0_isLatin1_aae02, cJ0_isLatin1_aae02, 1, (some FieldType.boolean), 10), 457, 87) := ⟨rfl, by decide +kernel, by decide +kernel, by decide +kernel, by decide +kernel, by decide +kernel⟩
set_option maxRecDepth 100000 in
theorem mk_J0_checkIndex_df160 : mt_ok ((yJ0_checkIndex_df160, cJ0_checkIndex_df160, 2, none, 10), 463, 87) := ⟨rfl, by decide +kernel, by decide +kernel, by decide +kernel, by decide +kernel, by decide +kernel⟩
set_option maxRecDepth 100000 in
theorem mk_J1_charAt_3b067 : mt_ok ((yJ1_charAt_3b067, cJ1_charAt_3b067, 2, (some FieldType.char), 11), 460, 88) := ⟨rfl, by decide +kernel, by decide +kernel, by decide +kernel, by decide +kernel, by decide +kernel⟩
set_option maxRecDepth 100000 in
theorem mk_J1_canEncode_9a6ad : mt_ok ((yJ1_canEncode_9a6ad, cJ1_canEncode_9a6ad, 1, (some FieldType.boolean), 11), 527, 88) := ⟨rfl, by decide +kernel, by decide +kernel, by decide +kernel, by decide +kernel, by decide +kernel⟩
set_option maxRecDepth 100000 in
theorem mk_J1_indexOf_4cfef : mt_ok ((yJ1_indexOf_4cfef, cJ1_indexOf_4cfef, 4, (some FieldType.int), 11), 524, 88) := ⟨rfl, by decide +kernel, by decide +kernel, by decide +kernel, by decide +kernel, by decide +kernel⟩
set_option maxRecDepth 100000 in
theorem mk_J1_indexOfChar_4cfef : mt_ok ((yJ1_indexOfChar_4cfef, cJ1_indexOfChar_4cfef, 6, (some FieldType.int), 11), 534, 88) := ⟨rfl, by decide +kernel, by decide +kernel, by decide +kernel, by decide +kernel, by decide +kernel⟩
set_option maxRecDepth 100000 in
theorem mk_J3_checkIndex_8e157 : mt_ok ((yJ3_checkIndex_8e157, cJ3_checkIndex_8e157, 3, (some FieldType.int), 12), 468, 89) := ⟨rfl, by decide +kernel, by decide +kernel, by decide +kernel, by decide +kernel, by decide +kernel⟩
set_option maxRecDepth 100000 in
theorem mk_J7_fill_d0a16 : mt_ok ((yJ7_fill_d0a16, cJ7_fill_d0a16, 5, none, 13), 855, 84) := ⟨rfl, by decide +kernel, by decide +kernel, by decide +kernel, by decide +kernel, by decide +kernel⟩
set_option maxRecDepth 100000 in
theorem mk_J7_fill_53178 : mt_ok ((yJ7_fill_53178, cJ7_fill_53178, 4, none, 13), 270, 84) := ⟨rfl, by decide +kernel, by decide +kernel, by decide +kernel, by decide +kernel, by decide +kernel⟩
set_option maxRecDepth 100000 in
theorem mk_J7_copyOf_59c91 : mt_ok ((yJ7_copyOf_59c91, cJ7_copyOf_59c91, 3, (some (FieldType.array FieldType.int)), 13), 582, 84) := ⟨rfl, by decide +kernel, by decide +kernel, by decide +kernel, by decide +kernel, by decide +kernel⟩
theorem mt_okb_0 : ∀ q ∈ mtL_0, mt_ok q := List.forall_mem_cons.mpr ⟨mk_X0_init, List.forall_mem_cons.mpr ⟨mk_X0_forget, List.forall_mem_cons.mpr ⟨mk_X0_kept, List.forall_mem_cons.mpr ⟨mk_X0_perform, List.forall_mem_cons.mpr ⟨mk_X0_begin, List.forall_mem_cons.mpr ⟨mk_X0_run, List.forall_mem_cons.mpr ⟨mk_X0_within, List.forall_mem_cons.mpr ⟨mk_X1_init, List.forall_mem_cons.mpr ⟨mk_X1_code, List.forall_mem_cons.mpr ⟨mk_X1_rain, List.forall_mem_cons.mpr ⟨mk_X2_init, List.forall_mem_cons.mpr ⟨mk_X2_empty, List.forall_mem_cons.mpr ⟨mk_X2_add, List.forall_mem_cons.mpr ⟨mk_X2_become, List.forall_mem_cons.mpr ⟨mk_X3_init, List.forall_mem_cons.mpr ⟨mk_X3_append, List.forall_mem_cons.mpr ⟨mk_X3_compile, List.forall_mem_cons.mpr ⟨mk_X3_fault, List.forall_mem_cons.mpr ⟨mk_X3_clause, List.forall_mem_cons.mpr ⟨mk_X3_word, List.forall_mem_cons.mpr ⟨mk_X3_number, List.forall_mem_cons.mpr ⟨mk_X3_expression, List.forall_mem_cons.mpr ⟨mk_X3_factor, List.forall_mem_cons.mpr ⟨mk_X3_test, List.forall_mem_cons.mpr ⟨mk_X3_ahead, List.forall_mem_cons.mpr ⟨mk_X3_among, List.forall_mem_cons.mpr ⟨mk_X3_take, List.forall_mem_cons.mpr ⟨mk_X3_emit, List.forall_mem_cons.mpr ⟨mk_X4_init, List.forall_mem_cons.mpr ⟨mk_X4_become, List.forall_mem_cons.mpr ⟨mk_X5_init, List.forall_mem_cons.mpr ⟨mk_X5_become, List.forall_mem_cons.mpr ⟨mk_X5_has, List.forall_mem_cons.mpr ⟨mk_X5_join, List.forall_mem_cons.mpr ⟨mk_X5_holder, List.forall_mem_cons.mpr ⟨mk_X5_hand, List.forall_mem_cons.mpr ⟨mk_X5_isAtEnd, List.forall_mem_cons.mpr ⟨mk_X5_bucket, List.forall_mem_cons.mpr ⟨mk_X5_far, List.forall_mem_cons.mpr ⟨mk_X5_cost, fun _ h => absurd h List.not_mem_nil⟩⟩⟩⟩⟩⟩⟩⟩⟩⟩⟩⟩⟩⟩⟩⟩⟩⟩⟩⟩⟩⟩⟩⟩⟩⟩⟩⟩⟩⟩⟩⟩⟩⟩⟩⟩⟩⟩⟩⟩
theorem mt_okb_1 : ∀ q ∈ mtL_1, mt_ok q := List.forall_mem_cons.mpr ⟨mk_X5_rain, List.forall_mem_cons.mpr ⟨mk_X5_fact, List.forall_mem_cons.mpr ⟨mk_X5_reach, List.forall_mem_cons.mpr ⟨mk_X5_isDreadfulNow, List.forall_mem_cons.mpr ⟨mk_X5_way, List.forall_mem_cons.mpr ⟨mk_X5_target, List.forall_mem_cons.mpr ⟨mk_X5_nearest, List.forall_mem_cons.mpr ⟨mk_X5_farthestWithin, List.forall_mem_cons.mpr ⟨mk_X5_mostHopeful, List.forall_mem_cons.mpr ⟨mk_X5_move, List.forall_mem_cons.mpr ⟨mk_X5_carryOrTell, List.forall_mem_cons.mpr ⟨mk_X5_go, List.forall_mem_cons.mpr ⟨mk_X5_outlast, List.forall_mem_cons.mpr ⟨mk_X5_play, List.forall_mem_cons.mpr ⟨mk_X6_init, List.forall_mem_cons.mpr ⟨mk_X6_has, List.forall_mem_cons.mpr ⟨mk_X6_holds, List.forall_mem_cons.mpr ⟨mk_X6_hasPlace, List.forall_mem_cons.mpr ⟨mk_X6_make, List.forall_mem_cons.mpr ⟨mk_X6_put, List.forall_mem_cons.mpr ⟨mk_X6_cut, List.forall_mem_cons.mpr ⟨mk_X6_bring, List.forall_mem_cons.mpr ⟨mk_X6_hasRun, List.forall_mem_cons.mpr ⟨mk_X7_init, List.forall_mem_cons.mpr ⟨mk_X7_person, List.forall_mem_cons.mpr ⟨mk_X7_of, List.forall_mem_cons.mpr ⟨mk_X7_set, List.forall_mem_cons.mpr ⟨mk_X7_row, List.forall_mem_cons.mpr ⟨mk_X7_with, List.forall_mem_cons.mpr ⟨mk_X7_weight, List.forall_mem_cons.mpr ⟨mk_X7_feed, List.forall_mem_cons.mpr ⟨mk_X7_evening, List.forall_mem_cons.mpr ⟨mk_X7_told, List.forall_mem_cons.mpr ⟨mk_X7_step, List.forall_mem_cons.mpr ⟨mk_X7_on, List.forall_mem_cons.mpr ⟨mk_X7_ends, List.forall_mem_cons.mpr ⟨mk_X7_longest, List.forall_mem_cons.mpr ⟨mk_X7_stand, List.forall_mem_cons.mpr ⟨mk_X7_needs, List.forall_mem_cons.mpr ⟨mk_X7_heavy, fun _ h => absurd h List.not_mem_nil⟩⟩⟩⟩⟩⟩⟩⟩⟩⟩⟩⟩⟩⟩⟩⟩⟩⟩⟩⟩⟩⟩⟩⟩⟩⟩⟩⟩⟩⟩⟩⟩⟩⟩⟩⟩⟩⟩⟩⟩
theorem mt_okb_2 : ∀ q ∈ mtL_2, mt_ok q := List.forall_mem_cons.mpr ⟨mk_X7_change, List.forall_mem_cons.mpr ⟨mk_X7_mute, List.forall_mem_cons.mpr ⟨mk_X7_see, List.forall_mem_cons.mpr ⟨mk_X7_from, List.forall_mem_cons.mpr ⟨mk_X7_had, List.forall_mem_cons.mpr ⟨mk_X7_odds, List.forall_mem_cons.mpr ⟨mk_X7_mean, List.forall_mem_cons.mpr ⟨mk_X7_game, List.forall_mem_cons.mpr ⟨mk_X7_gone, List.forall_mem_cons.mpr ⟨mk_X7_book, List.forall_mem_cons.mpr ⟨mk_X7_looked, List.forall_mem_cons.mpr ⟨mk_X7_judge, List.forall_mem_cons.mpr ⟨mk_X7_image, List.forall_mem_cons.mpr ⟨mk_X7_undo, List.forall_mem_cons.mpr ⟨mk_X7_act, List.forall_mem_cons.mpr ⟨mk_X7_trace, List.forall_mem_cons.mpr ⟨mk_X7_taken, List.forall_mem_cons.mpr ⟨mk_X7_count, List.forall_mem_cons.mpr ⟨mk_X7_tape, List.forall_mem_cons.mpr ⟨mk_X7_item, List.forall_mem_cons.mpr ⟨mk_X7_read, List.forall_mem_cons.mpr ⟨mk_X7_shift, List.forall_mem_cons.mpr ⟨mk_X7_isWithin, List.forall_mem_cons.mpr ⟨mk_X7_isDigit, List.forall_mem_cons.mpr ⟨mk_X7_isDoor, List.forall_mem_cons.mpr ⟨mk_X7_isOrIsUnder, List.forall_mem_cons.mpr ⟨mk_X7_startWith, List.forall_mem_cons.mpr ⟨mk_X7_isAllSeenSo, List.forall_mem_cons.mpr ⟨mk_X7_fraction, List.forall_mem_cons.mpr ⟨mk_X8_init, List.forall_mem_cons.mpr ⟨mk_X8_in, List.forall_mem_cons.mpr ⟨mk_X8_held, List.forall_mem_cons.mpr ⟨mk_X8_orNone, List.forall_mem_cons.mpr ⟨mk_X8_isPerson, List.forall_mem_cons.mpr ⟨mk_X8_isDoor, List.forall_mem_cons.mpr ⟨mk_X8_isHopes, List.forall_mem_cons.mpr ⟨mk_X8_isFew, List.forall_mem_cons.mpr ⟨mk_X8_person, List.forall_mem_cons.mpr ⟨mk_X8_set, List.forall_mem_cons.mpr ⟨mk_X8_row, fun _ h => absurd h List.not_mem_nil⟩⟩⟩⟩⟩⟩⟩⟩⟩⟩⟩⟩⟩⟩⟩⟩⟩⟩⟩⟩⟩⟩⟩⟩⟩⟩⟩⟩⟩⟩⟩⟩⟩⟩⟩⟩⟩⟩⟩⟩
theorem mt_okb_3 : ∀ q ∈ mtL_3, mt_ok q := List.forall_mem_cons.mpr ⟨mk_X8_gives, List.forall_mem_cons.mpr ⟨mk_X8_with, List.forall_mem_cons.mpr ⟨mk_X8_weight, List.forall_mem_cons.mpr ⟨mk_X8_feed, List.forall_mem_cons.mpr ⟨mk_X8_next, List.forall_mem_cons.mpr ⟨mk_X8_takes, List.forall_mem_cons.mpr ⟨mk_X8_takesWord, List.forall_mem_cons.mpr ⟨mk_X8_isDigit, List.forall_mem_cons.mpr ⟨mk_X8_takesNumber, List.forall_mem_cons.mpr ⟨mk_X8_emits, List.forall_mem_cons.mpr ⟨mk_X8_whole, List.forall_mem_cons.mpr ⟨mk_X8_settle, List.forall_mem_cons.mpr ⟨mk_X8_place, List.forall_mem_cons.mpr ⟨mk_X8_takesTest, List.forall_mem_cons.mpr ⟨mk_X8_takesE, List.forall_mem_cons.mpr ⟨mk_X8_takesHead, List.forall_mem_cons.mpr ⟨mk_X8_takesClause, List.forall_mem_cons.mpr ⟨mk_X8_goesText, List.forall_mem_cons.mpr ⟨mk_X8_evening, List.forall_mem_cons.mpr ⟨mk_X8_begin, List.forall_mem_cons.mpr ⟨mk_X8_behind, List.forall_mem_cons.mpr ⟨mk_X8_lastOf, List.forall_mem_cons.mpr ⟨mk_X8_factOf, List.forall_mem_cons.mpr ⟨mk_X8_holds, List.forall_mem_cons.mpr ⟨mk_X8_rain, List.forall_mem_cons.mpr ⟨mk_X8_least0, List.forall_mem_cons.mpr ⟨mk_X8_reach, List.forall_mem_cons.mpr ⟨mk_X8_way, List.forall_mem_cons.mpr ⟨mk_X8_nearest, List.forall_mem_cons.mpr ⟨mk_X8_farthest, List.forall_mem_cons.mpr ⟨mk_X8_hopeful, List.forall_mem_cons.mpr ⟨mk_X8_toWhom, List.forall_mem_cons.mpr ⟨mk_X8_of, List.forall_mem_cons.mpr ⟨mk_X8_told, List.forall_mem_cons.mpr ⟨mk_X8_canGo, List.forall_mem_cons.mpr ⟨mk_X8_goStep, List.forall_mem_cons.mpr ⟨mk_X8_step, List.forall_mem_cons.mpr ⟨mk_X8_save, List.forall_mem_cons.mpr ⟨mk_X8_putBack, List.forall_mem_cons.mpr ⟨mk_X8_goSteps, fun _ h => absurd h List.not_mem_nil⟩⟩⟩⟩⟩⟩⟩⟩⟩⟩⟩⟩⟩⟩⟩⟩⟩⟩⟩⟩⟩⟩⟩⟩⟩⟩⟩⟩⟩⟩⟩⟩⟩⟩⟩⟩⟩⟩⟩⟩
theorem mt_okb_4 : ∀ q ∈ mtL_4, mt_ok q := List.forall_mem_cons.mpr ⟨mk_X8_on, List.forall_mem_cons.mpr ⟨mk_X8_toEnd, List.forall_mem_cons.mpr ⟨mk_X8_endsIn, List.forall_mem_cons.mpr ⟨mk_X8_ends, List.forall_mem_cons.mpr ⟨mk_X8_longest, List.forall_mem_cons.mpr ⟨mk_X8_stand, List.forall_mem_cons.mpr ⟨mk_X8_needs, List.forall_mem_cons.mpr ⟨mk_X8_heavy, List.forall_mem_cons.mpr ⟨mk_X8_change, List.forall_mem_cons.mpr ⟨mk_X8_mute, List.forall_mem_cons.mpr ⟨mk_X8_see, List.forall_mem_cons.mpr ⟨mk_X8_isSeen, List.forall_mem_cons.mpr ⟨mk_X8_from, List.forall_mem_cons.mpr ⟨mk_X8_had, List.forall_mem_cons.mpr ⟨mk_X8_divisor, List.forall_mem_cons.mpr ⟨mk_X8_lowest, List.forall_mem_cons.mpr ⟨mk_X8_odds, List.forall_mem_cons.mpr ⟨mk_X8_mean, List.forall_mem_cons.mpr ⟨mk_X8_game, List.forall_mem_cons.mpr ⟨mk_X8_gone, List.forall_mem_cons.mpr ⟨mk_X8_book, List.forall_mem_cons.mpr ⟨mk_X8_looked, List.forall_mem_cons.mpr ⟨mk_X8_judge, List.forall_mem_cons.mpr ⟨mk_X8_image, List.forall_mem_cons.mpr ⟨mk_X8_undo, List.forall_mem_cons.mpr ⟨mk_X8_body, List.forall_mem_cons.mpr ⟨mk_X8_personWaits, List.forall_mem_cons.mpr ⟨mk_X8_waitsAct, List.forall_mem_cons.mpr ⟨mk_X8_personTells, List.forall_mem_cons.mpr ⟨mk_X8_oldTells, List.forall_mem_cons.mpr ⟨mk_X8_tellsAct, List.forall_mem_cons.mpr ⟨mk_X8_personHopes, List.forall_mem_cons.mpr ⟨mk_X8_hopesAct, List.forall_mem_cons.mpr ⟨mk_X8_act, List.forall_mem_cons.mpr ⟨mk_X8_trace, List.forall_mem_cons.mpr ⟨mk_X8_taken, List.forall_mem_cons.mpr ⟨mk_X8_count, List.forall_mem_cons.mpr ⟨mk_X8_isTape, List.forall_mem_cons.mpr ⟨mk_X8_tape, List.forall_mem_cons.mpr ⟨mk_X8_narrow, fun _ h => absurd h List.not_mem_nil⟩⟩⟩⟩⟩⟩⟩⟩⟩⟩⟩⟩⟩⟩⟩⟩⟩⟩⟩⟩⟩⟩⟩⟩⟩⟩⟩⟩⟩⟩⟩⟩⟩⟩⟩⟩⟩⟩⟩⟩
theorem mt_okb_5 : ∀ q ∈ mtL_5, mt_ok q := List.forall_mem_cons.mpr ⟨mk_X8_item, List.forall_mem_cons.mpr ⟨mk_X8_read, List.forall_mem_cons.mpr ⟨mk_X8_shift, List.forall_mem_cons.mpr ⟨mk_J0_length_8abf5, List.forall_mem_cons.mpr ⟨mk_J0_charAt_5068e, List.forall_mem_cons.mpr ⟨mk_J0_indexOf_0f7a4, List.forall_mem_cons.mpr ⟨mk_J0_indexOf_7cf53, List.forall_mem_cons.mpr ⟨mk_J0_coder_7d493, List.forall_mem_cons.mpr ⟨mk_J0_isLatin1_aae02, List.forall_mem_cons.mpr ⟨mk_J0_checkIndex_df160, List.forall_mem_cons.mpr ⟨mk_J1_charAt_3b067, List.forall_mem_cons.mpr ⟨mk_J1_canEncode_9a6ad, List.forall_mem_cons.mpr ⟨mk_J1_indexOf_4cfef, List.forall_mem_cons.mpr ⟨mk_J1_indexOfChar_4cfef, List.forall_mem_cons.mpr ⟨mk_J3_checkIndex_8e157, List.forall_mem_cons.mpr ⟨mk_J7_fill_d0a16, List.forall_mem_cons.mpr ⟨mk_J7_fill_53178, List.forall_mem_cons.mpr ⟨mk_J7_copyOf_59c91, fun _ h => absurd h List.not_mem_nil⟩⟩⟩⟩⟩⟩⟩⟩⟩⟩⟩⟩⟩⟩⟩⟩⟩⟩
theorem mt_okA : ∀ q ∈ mtL, mt_ok q :=
  List.forall_mem_append.mpr ⟨mt_okb_0, List.forall_mem_append.mpr ⟨mt_okb_1, List.forall_mem_append.mpr ⟨mt_okb_2, List.forall_mem_append.mpr ⟨mt_okb_3, List.forall_mem_append.mpr ⟨mt_okb_4, mt_okb_5⟩⟩⟩⟩⟩
/-- method n of the table -/
def mt_at (n : Nat) (x : mt_T) : Prop := ∃ a b, mtL[n]? = some (x, a, b)
theorem mm_X0_init : mt_at 0 (yX0_init, cX0_init, 1, none, 0) := ⟨241, 82, by rfl⟩
abbrev nX0_init : Nat := 0
theorem mm_X0_forget : mt_at 1 (yX0_forget, cX0_forget, 1, none, 0) := ⟨804, 82, by rfl⟩
abbrev nX0_forget : Nat := 1
theorem mm_X0_kept : mt_at 2 (yX0_kept, cX0_kept, 2, (some FieldType.int), 0) := ⟨830, 82, by rfl⟩
abbrev nX0_kept : Nat := 2
theorem mm_X0_perform : mt_at 3 (yX0_perform, cX0_perform, 5, (some FieldType.int), 0) := ⟨808, 82, by rfl⟩
abbrev nX0_perform : Nat := 3
theorem mm_X0_begin : mt_at 4 (yX0_begin, cX0_begin, 2, none, 0) := ⟨818, 82, by rfl⟩
abbrev nX0_begin : Nat := 4
theorem mm_X0_run : mt_at 5 (yX0_run, cX0_run, 6, (some FieldType.int), 0) := ⟨812, 82, by rfl⟩
abbrev nX0_run : Nat := 5
theorem mm_X0_within : mt_at 6 (yX0_within, cX0_within, 4, (some FieldType.int), 0) := ⟨822, 82, by rfl⟩
abbrev nX0_within : Nat := 6
theorem mm_X1_init : mt_at 7 (yX1_init, cX1_init, 4, none, 1) := ⟨596, 92, by rfl⟩
abbrev nX1_init : Nat := 7
theorem mm_X1_code : mt_at 8 (yX1_code, cX1_code, 3, (some FieldType.int), 1) := ⟨577, 92, by rfl⟩
abbrev nX1_code : Nat := 8
theorem mm_X1_rain : mt_at 9 (yX1_rain, cX1_rain, 8, (some FieldType.int), 1) := ⟨383, 92, by rfl⟩
abbrev nX1_rain : Nat := 9
theorem mm_X2_init : mt_at 10 (yX2_init, cX2_init, 2, none, 2) := ⟨170, 80, by rfl⟩
abbrev nX2_init : Nat := 10
theorem mm_X2_empty : mt_at 11 (yX2_empty, cX2_empty, 1, (some FieldType.int), 2) := ⟨711, 80, by rfl⟩
abbrev nX2_empty : Nat := 11
theorem mm_X2_add : mt_at 12 (yX2_add, cX2_add, 3, (some FieldType.int), 2) := ⟨715, 80, by rfl⟩
abbrev nX2_add : Nat := 12
theorem mm_X2_become : mt_at 13 (yX2_become, cX2_become, 2, none, 2) := ⟨791, 80, by rfl⟩
abbrev nX2_become : Nat := 13
theorem mm_X3_init : mt_at 14 (yX3_init, cX3_init, 1, none, 3) := ⟨208, 81, by rfl⟩
abbrev nX3_init : Nat := 14
theorem mm_X3_append : mt_at 15 (yX3_append, cX3_append, 2, (some FieldType.int), 3) := ⟨415, 81, by rfl⟩
abbrev nX3_append : Nat := 15
theorem mm_X3_compile : mt_at 16 (yX3_compile, cX3_compile, 3, (some (FieldType.object "LastAtPump$Evening")), 3) := ⟨423, 81, by rfl⟩
abbrev nX3_compile : Nat := 16
theorem mm_X3_fault : mt_at 17 (yX3_fault, cX3_fault, 1, (some FieldType.int), 3) := ⟨613, 81, by rfl⟩
abbrev nX3_fault : Nat := 17
theorem mm_X3_clause : mt_at 18 (yX3_clause, cX3_clause, 3, (some FieldType.boolean), 3) := ⟨427, 81, by rfl⟩
abbrev nX3_clause : Nat := 18
theorem mm_X3_word : mt_at 19 (yX3_word, cX3_word, 4, (some FieldType.boolean), 3) := ⟨435, 81, by rfl⟩
abbrev nX3_word : Nat := 19
theorem mm_X3_number : mt_at 20 (yX3_number, cX3_number, 2, (some FieldType.boolean), 3) := ⟨495, 81, by rfl⟩
abbrev nX3_number : Nat := 20
theorem mm_X3_expression : mt_at 21 (yX3_expression, cX3_expression, 4, (some FieldType.boolean), 3) := ⟨499, 81, by rfl⟩
abbrev nX3_expression : Nat := 21
theorem mm_X3_factor : mt_at 22 (yX3_factor, cX3_factor, 3, (some FieldType.boolean), 3) := ⟨503, 81, by rfl⟩
abbrev nX3_factor : Nat := 22
theorem mm_X3_test : mt_at 23 (yX3_test, cX3_test, 3, (some FieldType.boolean), 3) := ⟨507, 81, by rfl⟩
abbrev nX3_test : Nat := 23
theorem mm_X3_ahead : mt_at 24 (yX3_ahead, cX3_ahead, 1, (some FieldType.int), 3) := ⟨431, 81, by rfl⟩
abbrev nX3_ahead : Nat := 24
theorem mm_X3_among : mt_at 25 (yX3_among, cX3_among, 2, (some FieldType.int), 3) := ⟨512, 81, by rfl⟩
abbrev nX3_among : Nat := 25
theorem mm_X3_take : mt_at 26 (yX3_take, cX3_take, 2, (some FieldType.boolean), 3) := ⟨491, 81, by rfl⟩
abbrev nX3_take : Nat := 26
theorem mm_X3_emit : mt_at 27 (yX3_emit, cX3_emit, 4, none, 3) := ⟨574, 81, by rfl⟩
abbrev nX3_emit : Nat := 27
theorem mm_X4_init : mt_at 28 (yX4_init, cX4_init, 1, none, 4) := ⟨106, 78, by rfl⟩
abbrev nX4_init : Nat := 28
theorem mm_X4_become : mt_at 29 (yX4_become, cX4_become, 2, none, 4) := ⟨786, 78, by rfl⟩
abbrev nX4_become : Nat := 29
theorem mm_X5_init : mt_at 30 (yX5_init, cX5_init, 1, none, 5) := ⟨112, 79, by rfl⟩
abbrev nX5_init : Nat := 30
theorem mm_X5_become : mt_at 31 (yX5_become, cX5_become, 2, none, 5) := ⟨654, 79, by rfl⟩
abbrev nX5_become : Nat := 31
theorem mm_X5_has : mt_at 32 (yX5_has, cX5_has, 2, (some FieldType.boolean), 5) := ⟨336, 79, by rfl⟩
abbrev nX5_has : Nat := 32
theorem mm_X5_join : mt_at 33 (yX5_join, cX5_join, 6, (some FieldType.int), 5) := ⟨328, 79, by rfl⟩
abbrev nX5_join : Nat := 33
theorem mm_X5_holder : mt_at 34 (yX5_holder, cX5_holder, 1, (some FieldType.int), 5) := ⟨621, 79, by rfl⟩
abbrev nX5_holder : Nat := 34
theorem mm_X5_hand : mt_at 35 (yX5_hand, cX5_hand, 2, none, 5) := ⟨403, 79, by rfl⟩
abbrev nX5_hand : Nat := 35
theorem mm_X5_isAtEnd : mt_at 36 (yX5_isAtEnd, cX5_isAtEnd, 1, (some FieldType.boolean), 5) := ⟨638, 79, by rfl⟩
abbrev nX5_isAtEnd : Nat := 36
theorem mm_X5_bucket : mt_at 37 (yX5_bucket, cX5_bucket, 2, (some FieldType.int), 5) := ⟨664, 79, by rfl⟩
abbrev nX5_bucket : Nat := 37
theorem mm_X5_far : mt_at 38 (yX5_far, cX5_far, 1, (some FieldType.int), 5) := ⟨344, 79, by rfl⟩
abbrev nX5_far : Nat := 38
theorem mm_X5_cost : mt_at 39 (yX5_cost, cX5_cost, 1, (some FieldType.int), 5) := ⟨626, 79, by rfl⟩
abbrev nX5_cost : Nat := 39
theorem mm_X5_rain : mt_at 40 (yX5_rain, cX5_rain, 2, (some FieldType.int), 5) := ⟨379, 79, by rfl⟩
abbrev nX5_rain : Nat := 40
theorem mm_X5_fact : mt_at 41 (yX5_fact, cX5_fact, 3, (some FieldType.int), 5) := ⟨387, 79, by rfl⟩
abbrev nX5_fact : Nat := 41
theorem mm_X5_reach : mt_at 42 (yX5_reach, cX5_reach, 4, (some FieldType.int), 5) := ⟨340, 79, by rfl⟩
abbrev nX5_reach : Nat := 42
theorem mm_X5_isDreadfulNow : mt_at 43 (yX5_isDreadfulNow, cX5_isDreadfulNow, 3, (some FieldType.boolean), 5) := ⟨351, 79, by rfl⟩
abbrev nX5_isDreadfulNow : Nat := 43
theorem mm_X5_way : mt_at 44 (yX5_way, cX5_way, 3, (some FieldType.int), 5) := ⟨364, 79, by rfl⟩
abbrev nX5_way : Nat := 44
theorem mm_X5_target : mt_at 45 (yX5_target, cX5_target, 3, (some FieldType.int), 5) := ⟨355, 79, by rfl⟩
abbrev nX5_target : Nat := 45
theorem mm_X5_nearest : mt_at 46 (yX5_nearest, cX5_nearest, 4, (some FieldType.int), 5) := ⟨371, 79, by rfl⟩
abbrev nX5_nearest : Nat := 46
theorem mm_X5_farthestWithin : mt_at 47 (yX5_farthestWithin, cX5_farthestWithin, 5, (some FieldType.int), 5) := ⟨360, 79, by rfl⟩
abbrev nX5_farthestWithin : Nat := 47
theorem mm_X5_mostHopeful : mt_at 48 (yX5_mostHopeful, cX5_mostHopeful, 4, (some FieldType.int), 5) := ⟨375, 79, by rfl⟩
abbrev nX5_mostHopeful : Nat := 48
theorem mm_X5_move : mt_at 49 (yX5_move, cX5_move, 3, (some FieldType.int), 5) := ⟨634, 79, by rfl⟩
abbrev nX5_move : Nat := 49
theorem mm_X5_carryOrTell : mt_at 50 (yX5_carryOrTell, cX5_carryOrTell, 3, (some FieldType.int), 5) := ⟨643, 79, by rfl⟩
abbrev nX5_carryOrTell : Nat := 50
theorem mm_X5_go : mt_at 51 (yX5_go, cX5_go, 3, none, 5) := ⟨659, 79, by rfl⟩
abbrev nX5_go : Nat := 51
theorem mm_X5_outlast : mt_at 52 (yX5_outlast, cX5_outlast, 2, (some FieldType.int), 5) := ⟨673, 79, by rfl⟩
abbrev nX5_outlast : Nat := 52
theorem mm_X5_play : mt_at 53 (yX5_play, cX5_play, 3, none, 5) := ⟨752, 79, by rfl⟩
abbrev nX5_play : Nat := 53
theorem mm_X6_init : mt_at 54 (yX6_init, cX6_init, 1, none, 6) := ⟨264, 83, by rfl⟩
abbrev nX6_init : Nat := 54
theorem mm_X6_has : mt_at 55 (yX6_has, cX6_has, 2, (some FieldType.boolean), 6) := ⟨769, 83, by rfl⟩
abbrev nX6_has : Nat := 55
theorem mm_X6_holds : mt_at 56 (yX6_holds, cX6_holds, 2, (some FieldType.boolean), 6) := ⟨774, 83, by rfl⟩
abbrev nX6_holds : Nat := 56
theorem mm_X6_hasPlace : mt_at 57 (yX6_hasPlace, cX6_hasPlace, 3, (some FieldType.boolean), 6) := ⟨778, 83, by rfl⟩
abbrev nX6_hasPlace : Nat := 57
theorem mm_X6_make : mt_at 58 (yX6_make, cX6_make, 5, (some FieldType.int), 6) := ⟨851, 83, by rfl⟩
abbrev nX6_make : Nat := 58
theorem mm_X6_put : mt_at 59 (yX6_put, cX6_put, 5, (some FieldType.int), 6) := ⟨863, 83, by rfl⟩
abbrev nX6_put : Nat := 59
theorem mm_X6_cut : mt_at 60 (yX6_cut, cX6_cut, 3, (some FieldType.long), 6) := ⟨868, 83, by rfl⟩
abbrev nX6_cut : Nat := 60
theorem mm_X6_bring : mt_at 61 (yX6_bring, cX6_bring, 6, (some FieldType.int), 6) := ⟨880, 83, by rfl⟩
abbrev nX6_bring : Nat := 61
theorem mm_X6_hasRun : mt_at 62 (yX6_hasRun, cX6_hasRun, 4, (some FieldType.boolean), 6) := ⟨884, 83, by rfl⟩
abbrev nX6_hasRun : Nat := 62
theorem mm_X7_init : mt_at 63 (yX7_init, cX7_init, 1, none, 7) := ⟨98, 77, by rfl⟩
abbrev nX7_init : Nat := 63
theorem mm_X7_person : mt_at 64 (yX7_person, cX7_person, 5, (some FieldType.int), 7) := ⟨315, 77, by rfl⟩
abbrev nX7_person : Nat := 64
theorem mm_X7_of : mt_at 65 (yX7_of, cX7_of, 3, (some FieldType.int), 7) := ⟨332, 77, by rfl⟩
abbrev nX7_of : Nat := 65
theorem mm_X7_set : mt_at 66 (yX7_set, cX7_set, 6, (some FieldType.int), 7) := ⟨391, 77, by rfl⟩
abbrev nX7_set : Nat := 66
theorem mm_X7_row : mt_at 67 (yX7_row, cX7_row, 6, (some FieldType.int), 7) := ⟨395, 77, by rfl⟩
abbrev nX7_row : Nat := 67
theorem mm_X7_with : mt_at 68 (yX7_with, cX7_with, 3, (some FieldType.int), 7) := ⟨399, 77, by rfl⟩
abbrev nX7_with : Nat := 68
theorem mm_X7_weight : mt_at 69 (yX7_weight, cX7_weight, 3, (some FieldType.int), 7) := ⟨407, 77, by rfl⟩
abbrev nX7_weight : Nat := 69
theorem mm_X7_feed : mt_at 70 (yX7_feed, cX7_feed, 2, (some FieldType.int), 7) := ⟨411, 77, by rfl⟩
abbrev nX7_feed : Nat := 70
theorem mm_X7_evening : mt_at 71 (yX7_evening, cX7_evening, 2, (some FieldType.int), 7) := ⟨419, 77, by rfl⟩
abbrev nX7_evening : Nat := 71
theorem mm_X7_told : mt_at 72 (yX7_told, cX7_told, 2, (some FieldType.int), 7) := ⟨617, 77, by rfl⟩
abbrev nX7_told : Nat := 72
theorem mm_X7_step : mt_at 73 (yX7_step, cX7_step, 1, (some FieldType.int), 7) := ⟨630, 77, by rfl⟩
abbrev nX7_step : Nat := 73
theorem mm_X7_on : mt_at 74 (yX7_on, cX7_on, 5, (some FieldType.int), 7) := ⟨650, 77, by rfl⟩
abbrev nX7_on : Nat := 74
theorem mm_X7_ends : mt_at 75 (yX7_ends, cX7_ends, 2, (some FieldType.int), 7) := ⟨669, 77, by rfl⟩
abbrev nX7_ends : Nat := 75
theorem mm_X7_longest : mt_at 76 (yX7_longest, cX7_longest, 5, (some FieldType.int), 7) := ⟨677, 77, by rfl⟩
abbrev nX7_longest : Nat := 76
theorem mm_X7_stand : mt_at 77 (yX7_stand, cX7_stand, 8, (some FieldType.int), 7) := ⟨685, 77, by rfl⟩
abbrev nX7_stand : Nat := 77
theorem mm_X7_needs : mt_at 78 (yX7_needs, cX7_needs, 4, (some FieldType.int), 7) := ⟨690, 77, by rfl⟩
abbrev nX7_needs : Nat := 78
theorem mm_X7_heavy : mt_at 79 (yX7_heavy, cX7_heavy, 4, (some FieldType.int), 7) := ⟨694, 77, by rfl⟩
abbrev nX7_heavy : Nat := 79
theorem mm_X7_change : mt_at 80 (yX7_change, cX7_change, 6, (some FieldType.int), 7) := ⟨699, 77, by rfl⟩
abbrev nX7_change : Nat := 80
theorem mm_X7_mute : mt_at 81 (yX7_mute, cX7_mute, 5, (some FieldType.int), 7) := ⟨703, 77, by rfl⟩
abbrev nX7_mute : Nat := 81
theorem mm_X7_see : mt_at 82 (yX7_see, cX7_see, 3, (some FieldType.int), 7) := ⟨707, 77, by rfl⟩
abbrev nX7_see : Nat := 82
theorem mm_X7_from : mt_at 83 (yX7_from, cX7_from, 3, (some FieldType.int), 7) := ⟨719, 77, by rfl⟩
abbrev nX7_from : Nat := 83
theorem mm_X7_had : mt_at 84 (yX7_had, cX7_had, 6, (some FieldType.int), 7) := ⟨727, 77, by rfl⟩
abbrev nX7_had : Nat := 84
theorem mm_X7_odds : mt_at 85 (yX7_odds, cX7_odds, 5, (some FieldType.long), 7) := ⟨731, 77, by rfl⟩
abbrev nX7_odds : Nat := 85
theorem mm_X7_mean : mt_at 86 (yX7_mean, cX7_mean, 5, (some FieldType.long), 7) := ⟨740, 77, by rfl⟩
abbrev nX7_mean : Nat := 86
theorem mm_X7_game : mt_at 87 (yX7_game, cX7_game, 3, (some FieldType.int), 7) := ⟨744, 77, by rfl⟩
abbrev nX7_game : Nat := 87
theorem mm_X7_gone : mt_at 88 (yX7_gone, cX7_gone, 3, (some FieldType.int), 7) := ⟨748, 77, by rfl⟩
abbrev nX7_gone : Nat := 88
theorem mm_X7_book : mt_at 89 (yX7_book, cX7_book, 3, (some FieldType.int), 7) := ⟨757, 77, by rfl⟩
abbrev nX7_book : Nat := 89
theorem mm_X7_looked : mt_at 90 (yX7_looked, cX7_looked, 3, (some FieldType.int), 7) := ⟨761, 77, by rfl⟩
abbrev nX7_looked : Nat := 90
theorem mm_X7_judge : mt_at 91 (yX7_judge, cX7_judge, 4, (some FieldType.int), 7) := ⟨765, 77, by rfl⟩
abbrev nX7_judge : Nat := 91
theorem mm_X7_image : mt_at 92 (yX7_image, cX7_image, 1, (some FieldType.int), 7) := ⟨782, 77, by rfl⟩
abbrev nX7_image : Nat := 92
theorem mm_X7_undo : mt_at 93 (yX7_undo, cX7_undo, 1, (some FieldType.int), 7) := ⟨796, 77, by rfl⟩
abbrev nX7_undo : Nat := 93
theorem mm_X7_act : mt_at 94 (yX7_act, cX7_act, 4, (some FieldType.int), 7) := ⟨800, 77, by rfl⟩
abbrev nX7_act : Nat := 94
theorem mm_X7_trace : mt_at 95 (yX7_trace, cX7_trace, 2, (some FieldType.int), 7) := ⟨826, 77, by rfl⟩
abbrev nX7_trace : Nat := 95
theorem mm_X7_taken : mt_at 96 (yX7_taken, cX7_taken, 4, (some FieldType.int), 7) := ⟨834, 77, by rfl⟩
abbrev nX7_taken : Nat := 96
theorem mm_X7_count : mt_at 97 (yX7_count, cX7_count, 2, (some FieldType.int), 7) := ⟨843, 77, by rfl⟩
abbrev nX7_count : Nat := 97
theorem mm_X7_tape : mt_at 98 (yX7_tape, cX7_tape, 4, (some FieldType.int), 7) := ⟨847, 77, by rfl⟩
abbrev nX7_tape : Nat := 98
theorem mm_X7_item : mt_at 99 (yX7_item, cX7_item, 5, (some FieldType.int), 7) := ⟨859, 77, by rfl⟩
abbrev nX7_item : Nat := 99
theorem mm_X7_read : mt_at 100 (yX7_read, cX7_read, 3, (some FieldType.long), 7) := ⟨872, 77, by rfl⟩
abbrev nX7_read : Nat := 100
theorem mm_X7_shift : mt_at 101 (yX7_shift, cX7_shift, 6, (some FieldType.int), 7) := ⟨876, 77, by rfl⟩
abbrev nX7_shift : Nat := 101
theorem mm_X7_isWithin : mt_at 102 (yX7_isWithin, cX7_isWithin, 3, (some FieldType.boolean), 7) := ⟨318, 77, by rfl⟩
abbrev nX7_isWithin : Nat := 102
theorem mm_X7_isDigit : mt_at 103 (yX7_isDigit, cX7_isDigit, 1, (some FieldType.boolean), 7) := ⟨321, 77, by rfl⟩
abbrev nX7_isDigit : Nat := 103
theorem mm_X7_isDoor : mt_at 104 (yX7_isDoor, cX7_isDoor, 1, (some FieldType.boolean), 7) := ⟨324, 77, by rfl⟩
abbrev nX7_isDoor : Nat := 104
theorem mm_X7_isOrIsUnder : mt_at 105 (yX7_isOrIsUnder, cX7_isOrIsUnder, 4, (some FieldType.boolean), 7) := ⟨837, 77, by rfl⟩
abbrev nX7_isOrIsUnder : Nat := 105
theorem mm_X7_startWith : mt_at 106 (yX7_startWith, cX7_startWith, 2, none, 7) := ⟨681, 77, by rfl⟩
abbrev nX7_startWith : Nat := 106
theorem mm_X7_isAllSeenSo : mt_at 107 (yX7_isAllSeenSo, cX7_isAllSeenSo, 3, (some FieldType.boolean), 7) := ⟨723, 77, by rfl⟩
abbrev nX7_isAllSeenSo : Nat := 107
theorem mm_X7_fraction : mt_at 108 (yX7_fraction, cX7_fraction, 5, (some FieldType.long), 7) := ⟨736, 77, by rfl⟩
abbrev nX7_fraction : Nat := 108
theorem mm_X8_init : mt_at 109 (yX8_init, cX8_init, 1, none, 8) := ⟨890, 85, by rfl⟩
abbrev nX8_init : Nat := 109
theorem mm_X8_in : mt_at 110 (yX8_in, cX8_in, 4, (some FieldType.boolean), 8) := ⟨1123, 85, by rfl⟩
abbrev nX8_in : Nat := 110
theorem mm_X8_held : mt_at 111 (yX8_held, cX8_held, 3, (some FieldType.int), 8) := ⟨1299, 85, by rfl⟩
abbrev nX8_held : Nat := 111
theorem mm_X8_orNone : mt_at 112 (yX8_orNone, cX8_orNone, 2, (some FieldType.int), 8) := ⟨1155, 85, by rfl⟩
abbrev nX8_orNone : Nat := 112
theorem mm_X8_isPerson : mt_at 113 (yX8_isPerson, cX8_isPerson, 2, (some FieldType.boolean), 8) := ⟨1139, 85, by rfl⟩
abbrev nX8_isPerson : Nat := 113
theorem mm_X8_isDoor : mt_at 114 (yX8_isDoor, cX8_isDoor, 2, (some FieldType.boolean), 8) := ⟨1127, 85, by rfl⟩
abbrev nX8_isDoor : Nat := 114
theorem mm_X8_isHopes : mt_at 115 (yX8_isHopes, cX8_isHopes, 2, (some FieldType.boolean), 8) := ⟨1131, 85, by rfl⟩
abbrev nX8_isHopes : Nat := 115
theorem mm_X8_isFew : mt_at 116 (yX8_isFew, cX8_isFew, 2, (some FieldType.boolean), 8) := ⟨1340, 85, by rfl⟩
abbrev nX8_isFew : Nat := 116
theorem mm_X8_person : mt_at 117 (yX8_person, cX8_person, 6, (some FieldType.int), 8) := ⟨1119, 85, by rfl⟩
abbrev nX8_person : Nat := 117
theorem mm_X8_set : mt_at 118 (yX8_set, cX8_set, 5, (some FieldType.int), 8) := ⟨1135, 85, by rfl⟩
abbrev nX8_set : Nat := 118
theorem mm_X8_row : mt_at 119 (yX8_row, cX8_row, 5, (some FieldType.int), 8) := ⟨1143, 85, by rfl⟩
abbrev nX8_row : Nat := 119
theorem mm_X8_gives : mt_at 120 (yX8_gives, cX8_gives, 2, none, 8) := ⟨1151, 85, by rfl⟩
abbrev nX8_gives : Nat := 120
theorem mm_X8_with : mt_at 121 (yX8_with, cX8_with, 3, (some FieldType.int), 8) := ⟨1147, 85, by rfl⟩
abbrev nX8_with : Nat := 121
theorem mm_X8_weight : mt_at 122 (yX8_weight, cX8_weight, 3, (some FieldType.int), 8) := ⟨1159, 85, by rfl⟩
abbrev nX8_weight : Nat := 122
theorem mm_X8_feed : mt_at 123 (yX8_feed, cX8_feed, 2, (some FieldType.int), 8) := ⟨1163, 85, by rfl⟩
abbrev nX8_feed : Nat := 123
theorem mm_X8_next : mt_at 124 (yX8_next, cX8_next, 1, (some FieldType.int), 8) := ⟨1183, 85, by rfl⟩
abbrev nX8_next : Nat := 124
theorem mm_X8_takes : mt_at 125 (yX8_takes, cX8_takes, 2, (some FieldType.boolean), 8) := ⟨1191, 85, by rfl⟩
abbrev nX8_takes : Nat := 125
theorem mm_X8_takesWord : mt_at 126 (yX8_takesWord, cX8_takesWord, 4, (some FieldType.boolean), 8) := ⟨1187, 85, by rfl⟩
abbrev nX8_takesWord : Nat := 126
theorem mm_X8_isDigit : mt_at 127 (yX8_isDigit, cX8_isDigit, 1, (some FieldType.boolean), 8) := ⟨1199, 85, by rfl⟩
abbrev nX8_isDigit : Nat := 127
theorem mm_X8_takesNumber : mt_at 128 (yX8_takesNumber, cX8_takesNumber, 2, (some FieldType.boolean), 8) := ⟨1195, 85, by rfl⟩
abbrev nX8_takesNumber : Nat := 128
theorem mm_X8_emits : mt_at 129 (yX8_emits, cX8_emits, 2, none, 8) := ⟨1215, 85, by rfl⟩
abbrev nX8_emits : Nat := 129
theorem mm_X8_whole : mt_at 130 (yX8_whole, cX8_whole, 1, none, 8) := ⟨1219, 85, by rfl⟩
abbrev nX8_whole : Nat := 130
theorem mm_X8_settle : mt_at 131 (yX8_settle, cX8_settle, 2, none, 8) := ⟨1223, 85, by rfl⟩
abbrev nX8_settle : Nat := 131
theorem mm_X8_place : mt_at 132 (yX8_place, cX8_place, 2, (some FieldType.int), 8) := ⟨1211, 85, by rfl⟩
abbrev nX8_place : Nat := 132
theorem mm_X8_takesTest : mt_at 133 (yX8_takesTest, cX8_takesTest, 3, (some FieldType.boolean), 8) := ⟨1207, 85, by rfl⟩
abbrev nX8_takesTest : Nat := 133
theorem mm_X8_takesE : mt_at 134 (yX8_takesE, cX8_takesE, 4, (some FieldType.boolean), 8) := ⟨1203, 85, by rfl⟩
abbrev nX8_takesE : Nat := 134
theorem mm_X8_takesHead : mt_at 135 (yX8_takesHead, cX8_takesHead, 2, (some FieldType.boolean), 8) := ⟨1179, 85, by rfl⟩
abbrev nX8_takesHead : Nat := 135
theorem mm_X8_takesClause : mt_at 136 (yX8_takesClause, cX8_takesClause, 2, (some FieldType.boolean), 8) := ⟨1175, 85, by rfl⟩
abbrev nX8_takesClause : Nat := 136
theorem mm_X8_goesText : mt_at 137 (yX8_goesText, cX8_goesText, 3, (some FieldType.boolean), 8) := ⟨1171, 85, by rfl⟩
abbrev nX8_goesText : Nat := 137
theorem mm_X8_evening : mt_at 138 (yX8_evening, cX8_evening, 2, (some FieldType.int), 8) := ⟨1167, 85, by rfl⟩
abbrev nX8_evening : Nat := 138
theorem mm_X8_begin : mt_at 139 (yX8_begin, cX8_begin, 1, (some FieldType.int), 8) := ⟨1239, 85, by rfl⟩
abbrev nX8_begin : Nat := 139
theorem mm_X8_behind : mt_at 140 (yX8_behind, cX8_behind, 1, (some FieldType.int), 8) := ⟨1243, 85, by rfl⟩
abbrev nX8_behind : Nat := 140
theorem mm_X8_lastOf : mt_at 141 (yX8_lastOf, cX8_lastOf, 5, (some FieldType.int), 8) := ⟨1235, 85, by rfl⟩
abbrev nX8_lastOf : Nat := 141
theorem mm_X8_factOf : mt_at 142 (yX8_factOf, cX8_factOf, 3, (some FieldType.int), 8) := ⟨1279, 85, by rfl⟩
abbrev nX8_factOf : Nat := 142
theorem mm_X8_holds : mt_at 143 (yX8_holds, cX8_holds, 8, (some FieldType.boolean), 8) := ⟨1275, 85, by rfl⟩
abbrev nX8_holds : Nat := 143
theorem mm_X8_rain : mt_at 144 (yX8_rain, cX8_rain, 4, (some FieldType.int), 8) := ⟨1271, 85, by rfl⟩
abbrev nX8_rain : Nat := 144
theorem mm_X8_least0 : mt_at 145 (yX8_least0, cX8_least0, 2, (some FieldType.int), 8) := ⟨1247, 85, by rfl⟩
abbrev nX8_least0 : Nat := 145
theorem mm_X8_reach : mt_at 146 (yX8_reach, cX8_reach, 3, (some FieldType.int), 8) := ⟨1231, 85, by rfl⟩
abbrev nX8_reach : Nat := 146
theorem mm_X8_way : mt_at 147 (yX8_way, cX8_way, 3, (some FieldType.int), 8) := ⟨1259, 85, by rfl⟩
abbrev nX8_way : Nat := 147
theorem mm_X8_nearest : mt_at 148 (yX8_nearest, cX8_nearest, 4, (some FieldType.int), 8) := ⟨1263, 85, by rfl⟩
abbrev nX8_nearest : Nat := 148
theorem mm_X8_farthest : mt_at 149 (yX8_farthest, cX8_farthest, 5, (some FieldType.int), 8) := ⟨1255, 85, by rfl⟩
abbrev nX8_farthest : Nat := 149
theorem mm_X8_hopeful : mt_at 150 (yX8_hopeful, cX8_hopeful, 4, (some FieldType.int), 8) := ⟨1267, 85, by rfl⟩
abbrev nX8_hopeful : Nat := 150
theorem mm_X8_toWhom : mt_at 151 (yX8_toWhom, cX8_toWhom, 3, (some FieldType.int), 8) := ⟨1251, 85, by rfl⟩
abbrev nX8_toWhom : Nat := 151
theorem mm_X8_of : mt_at 152 (yX8_of, cX8_of, 3, (some FieldType.int), 8) := ⟨1227, 85, by rfl⟩
abbrev nX8_of : Nat := 152
theorem mm_X8_told : mt_at 153 (yX8_told, cX8_told, 2, (some FieldType.int), 8) := ⟨1283, 85, by rfl⟩
abbrev nX8_told : Nat := 153
theorem mm_X8_canGo : mt_at 154 (yX8_canGo, cX8_canGo, 1, (some FieldType.boolean), 8) := ⟨1291, 85, by rfl⟩
abbrev nX8_canGo : Nat := 154
theorem mm_X8_goStep : mt_at 155 (yX8_goStep, cX8_goStep, 4, (some FieldType.int), 8) := ⟨1295, 85, by rfl⟩
abbrev nX8_goStep : Nat := 155
theorem mm_X8_step : mt_at 156 (yX8_step, cX8_step, 1, (some FieldType.int), 8) := ⟨1287, 85, by rfl⟩
abbrev nX8_step : Nat := 156
theorem mm_X8_save : mt_at 157 (yX8_save, cX8_save, 2, none, 8) := ⟨1307, 85, by rfl⟩
abbrev nX8_save : Nat := 157
theorem mm_X8_putBack : mt_at 158 (yX8_putBack, cX8_putBack, 2, none, 8) := ⟨1316, 85, by rfl⟩
abbrev nX8_putBack : Nat := 158
theorem mm_X8_goSteps : mt_at 159 (yX8_goSteps, cX8_goSteps, 4, none, 8) := ⟨1312, 85, by rfl⟩
abbrev nX8_goSteps : Nat := 159
theorem mm_X8_on : mt_at 160 (yX8_on, cX8_on, 4, (some FieldType.int), 8) := ⟨1303, 85, by rfl⟩
abbrev nX8_on : Nat := 160
theorem mm_X8_toEnd : mt_at 161 (yX8_toEnd, cX8_toEnd, 3, (some FieldType.int), 8) := ⟨1328, 85, by rfl⟩
abbrev nX8_toEnd : Nat := 161
theorem mm_X8_endsIn : mt_at 162 (yX8_endsIn, cX8_endsIn, 2, (some FieldType.int), 8) := ⟨1324, 85, by rfl⟩
abbrev nX8_endsIn : Nat := 162
theorem mm_X8_ends : mt_at 163 (yX8_ends, cX8_ends, 2, (some FieldType.int), 8) := ⟨1320, 85, by rfl⟩
abbrev nX8_ends : Nat := 163
theorem mm_X8_longest : mt_at 164 (yX8_longest, cX8_longest, 5, (some FieldType.int), 8) := ⟨1332, 85, by rfl⟩
abbrev nX8_longest : Nat := 164
theorem mm_X8_stand : mt_at 165 (yX8_stand, cX8_stand, 8, (some FieldType.int), 8) := ⟨1336, 85, by rfl⟩
abbrev nX8_stand : Nat := 165
theorem mm_X8_needs : mt_at 166 (yX8_needs, cX8_needs, 5, (some FieldType.int), 8) := ⟨1344, 85, by rfl⟩
abbrev nX8_needs : Nat := 166
theorem mm_X8_heavy : mt_at 167 (yX8_heavy, cX8_heavy, 5, (some FieldType.int), 8) := ⟨1348, 85, by rfl⟩
abbrev nX8_heavy : Nat := 167
theorem mm_X8_change : mt_at 168 (yX8_change, cX8_change, 6, (some FieldType.int), 8) := ⟨1352, 85, by rfl⟩
abbrev nX8_change : Nat := 168
theorem mm_X8_mute : mt_at 169 (yX8_mute, cX8_mute, 5, (some FieldType.int), 8) := ⟨1356, 85, by rfl⟩
abbrev nX8_mute : Nat := 169
theorem mm_X8_see : mt_at 170 (yX8_see, cX8_see, 3, (some FieldType.int), 8) := ⟨1360, 85, by rfl⟩
abbrev nX8_see : Nat := 170
theorem mm_X8_isSeen : mt_at 171 (yX8_isSeen, cX8_isSeen, 4, (some FieldType.boolean), 8) := ⟨1368, 85, by rfl⟩
abbrev nX8_isSeen : Nat := 171
theorem mm_X8_from : mt_at 172 (yX8_from, cX8_from, 3, (some FieldType.int), 8) := ⟨1364, 85, by rfl⟩
abbrev nX8_from : Nat := 172
theorem mm_X8_had : mt_at 173 (yX8_had, cX8_had, 7, (some FieldType.int), 8) := ⟨1372, 85, by rfl⟩
abbrev nX8_had : Nat := 173
theorem mm_X8_divisor : mt_at 174 (yX8_divisor, cX8_divisor, 6, (some FieldType.int), 8) := ⟨1385, 85, by rfl⟩
abbrev nX8_divisor : Nat := 174
theorem mm_X8_lowest : mt_at 175 (yX8_lowest, cX8_lowest, 5, (some FieldType.long), 8) := ⟨1381, 85, by rfl⟩
abbrev nX8_lowest : Nat := 175
theorem mm_X8_odds : mt_at 176 (yX8_odds, cX8_odds, 5, (some FieldType.long), 8) := ⟨1376, 85, by rfl⟩
abbrev nX8_odds : Nat := 176
theorem mm_X8_mean : mt_at 177 (yX8_mean, cX8_mean, 5, (some FieldType.long), 8) := ⟨1389, 85, by rfl⟩
abbrev nX8_mean : Nat := 177
theorem mm_X8_game : mt_at 178 (yX8_game, cX8_game, 3, (some FieldType.int), 8) := ⟨1393, 85, by rfl⟩
abbrev nX8_game : Nat := 178
theorem mm_X8_gone : mt_at 179 (yX8_gone, cX8_gone, 3, (some FieldType.int), 8) := ⟨1397, 85, by rfl⟩
abbrev nX8_gone : Nat := 179
theorem mm_X8_book : mt_at 180 (yX8_book, cX8_book, 3, (some FieldType.int), 8) := ⟨1401, 85, by rfl⟩
abbrev nX8_book : Nat := 180
theorem mm_X8_looked : mt_at 181 (yX8_looked, cX8_looked, 2, (some FieldType.int), 8) := ⟨1405, 85, by rfl⟩
abbrev nX8_looked : Nat := 181
theorem mm_X8_judge : mt_at 182 (yX8_judge, cX8_judge, 4, (some FieldType.int), 8) := ⟨1409, 85, by rfl⟩
abbrev nX8_judge : Nat := 182
theorem mm_X8_image : mt_at 183 (yX8_image, cX8_image, 2, (some FieldType.int), 8) := ⟨1417, 85, by rfl⟩
abbrev nX8_image : Nat := 183
theorem mm_X8_undo : mt_at 184 (yX8_undo, cX8_undo, 2, (some FieldType.int), 8) := ⟨1421, 85, by rfl⟩
abbrev nX8_undo : Nat := 184
theorem mm_X8_body : mt_at 185 (yX8_body, cX8_body, 2, none, 8) := ⟨1433, 85, by rfl⟩
abbrev nX8_body : Nat := 185
theorem mm_X8_personWaits : mt_at 186 (yX8_personWaits, cX8_personWaits, 3, (some FieldType.int), 8) := ⟨1437, 85, by rfl⟩
abbrev nX8_personWaits : Nat := 186
theorem mm_X8_waitsAct : mt_at 187 (yX8_waitsAct, cX8_waitsAct, 3, (some FieldType.int), 8) := ⟨1429, 85, by rfl⟩
abbrev nX8_waitsAct : Nat := 187
theorem mm_X8_personTells : mt_at 188 (yX8_personTells, cX8_personTells, 3, (some FieldType.int), 8) := ⟨1449, 85, by rfl⟩
abbrev nX8_personTells : Nat := 188
theorem mm_X8_oldTells : mt_at 189 (yX8_oldTells, cX8_oldTells, 3, (some FieldType.int), 8) := ⟨1445, 85, by rfl⟩
abbrev nX8_oldTells : Nat := 189
theorem mm_X8_tellsAct : mt_at 190 (yX8_tellsAct, cX8_tellsAct, 4, (some FieldType.int), 8) := ⟨1441, 85, by rfl⟩
abbrev nX8_tellsAct : Nat := 190
theorem mm_X8_personHopes : mt_at 191 (yX8_personHopes, cX8_personHopes, 3, (some FieldType.int), 8) := ⟨1457, 85, by rfl⟩
abbrev nX8_personHopes : Nat := 191
theorem mm_X8_hopesAct : mt_at 192 (yX8_hopesAct, cX8_hopesAct, 4, (some FieldType.int), 8) := ⟨1453, 85, by rfl⟩
abbrev nX8_hopesAct : Nat := 192
theorem mm_X8_act : mt_at 193 (yX8_act, cX8_act, 4, (some FieldType.int), 8) := ⟨1425, 85, by rfl⟩
abbrev nX8_act : Nat := 193
theorem mm_X8_trace : mt_at 194 (yX8_trace, cX8_trace, 2, (some FieldType.int), 8) := ⟨1461, 85, by rfl⟩
abbrev nX8_trace : Nat := 194
theorem mm_X8_taken : mt_at 195 (yX8_taken, cX8_taken, 4, (some FieldType.int), 8) := ⟨1465, 85, by rfl⟩
abbrev nX8_taken : Nat := 195
theorem mm_X8_count : mt_at 196 (yX8_count, cX8_count, 2, (some FieldType.int), 8) := ⟨1469, 85, by rfl⟩
abbrev nX8_count : Nat := 196
theorem mm_X8_isTape : mt_at 197 (yX8_isTape, cX8_isTape, 2, (some FieldType.boolean), 8) := ⟨1413, 85, by rfl⟩
abbrev nX8_isTape : Nat := 197
theorem mm_X8_tape : mt_at 198 (yX8_tape, cX8_tape, 5, (some FieldType.int), 8) := ⟨1473, 85, by rfl⟩
abbrev nX8_tape : Nat := 198
theorem mm_X8_narrow : mt_at 199 (yX8_narrow, cX8_narrow, 4, (some FieldType.long), 8) := ⟨1481, 85, by rfl⟩
abbrev nX8_narrow : Nat := 199
theorem mm_X8_item : mt_at 200 (yX8_item, cX8_item, 5, (some FieldType.int), 8) := ⟨1477, 85, by rfl⟩
abbrev nX8_item : Nat := 200
theorem mm_X8_read : mt_at 201 (yX8_read, cX8_read, 3, (some FieldType.long), 8) := ⟨1485, 85, by rfl⟩
abbrev nX8_read : Nat := 201
theorem mm_X8_shift : mt_at 202 (yX8_shift, cX8_shift, 7, (some FieldType.int), 8) := ⟨1489, 85, by rfl⟩
abbrev nX8_shift : Nat := 202
theorem mm_J0_length_8abf5 : mt_at 203 (yJ0_length_8abf5, cJ0_length_8abf5, 1, (some FieldType.int), 10) := ⟨443, 87, by rfl⟩
abbrev nJ0_length_8abf5 : Nat := 203
theorem mm_J0_charAt_5068e : mt_at 204 (yJ0_charAt_5068e, cJ0_charAt_5068e, 2, (some FieldType.char), 10) := ⟨453, 87, by rfl⟩
abbrev nJ0_charAt_5068e : Nat := 204
theorem mm_J0_indexOf_0f7a4 : mt_at 205 (yJ0_indexOf_0f7a4, cJ0_indexOf_0f7a4, 2, (some FieldType.int), 10) := ⟨516, 87, by rfl⟩
abbrev nJ0_indexOf_0f7a4 : Nat := 205
theorem mm_J0_indexOf_7cf53 : mt_at 206 (yJ0_indexOf_7cf53, cJ0_indexOf_7cf53, 3, (some FieldType.int), 10) := ⟨520, 87, by rfl⟩
abbrev nJ0_indexOf_7cf53 : Nat := 206
theorem mm_J0_coder_7d493 : mt_at 207 (yJ0_coder_7d493, cJ0_coder_7d493, 1, (some FieldType.byte), 10) := ⟨447, 87, by rfl⟩
abbrev nJ0_coder_7d493 : Nat := 207
theorem mm_J0_isLatin1_aae02 : mt_at 208 (yJ0_isLatin1_aae02, cJ0_isLatin1_aae02, 1, (some FieldType.boolean), 10) := ⟨457, 87, by rfl⟩
abbrev nJ0_isLatin1_aae02 : Nat := 208
theorem mm_J0_checkIndex_df160 : mt_at 209 (yJ0_checkIndex_df160, cJ0_checkIndex_df160, 2, none, 10) := ⟨463, 87, by rfl⟩
abbrev nJ0_checkIndex_df160 : Nat := 209
theorem mm_J1_charAt_3b067 : mt_at 210 (yJ1_charAt_3b067, cJ1_charAt_3b067, 2, (some FieldType.char), 11) := ⟨460, 88, by rfl⟩
abbrev nJ1_charAt_3b067 : Nat := 210
theorem mm_J1_canEncode_9a6ad : mt_at 211 (yJ1_canEncode_9a6ad, cJ1_canEncode_9a6ad, 1, (some FieldType.boolean), 11) := ⟨527, 88, by rfl⟩
abbrev nJ1_canEncode_9a6ad : Nat := 211
theorem mm_J1_indexOf_4cfef : mt_at 212 (yJ1_indexOf_4cfef, cJ1_indexOf_4cfef, 4, (some FieldType.int), 11) := ⟨524, 88, by rfl⟩
abbrev nJ1_indexOf_4cfef : Nat := 212
theorem mm_J1_indexOfChar_4cfef : mt_at 213 (yJ1_indexOfChar_4cfef, cJ1_indexOfChar_4cfef, 6, (some FieldType.int), 11) := ⟨534, 88, by rfl⟩
abbrev nJ1_indexOfChar_4cfef : Nat := 213
theorem mm_J3_checkIndex_8e157 : mt_at 214 (yJ3_checkIndex_8e157, cJ3_checkIndex_8e157, 3, (some FieldType.int), 12) := ⟨468, 89, by rfl⟩
abbrev nJ3_checkIndex_8e157 : Nat := 214
theorem mm_J7_fill_d0a16 : mt_at 215 (yJ7_fill_d0a16, cJ7_fill_d0a16, 5, none, 13) := ⟨855, 84, by rfl⟩
abbrev nJ7_fill_d0a16 : Nat := 215
theorem mm_J7_fill_53178 : mt_at 216 (yJ7_fill_53178, cJ7_fill_53178, 4, none, 13) := ⟨270, 84, by rfl⟩
abbrev nJ7_fill_53178 : Nat := 216
theorem mm_J7_copyOf_59c91 : mt_at 217 (yJ7_copyOf_59c91, cJ7_copyOf_59c91, 3, (some (FieldType.array FieldType.int)), 13) := ⟨582, 84, by rfl⟩
abbrev nJ7_copyOf_59c91 : Nat := 217
abbrev fl_T : Type := Nat × Nat × Nat × Nat × Nat
def flL_0 : List fl_T := [(0, 11, 0, 0, 243), (0, 15, 0, 1, 244), (0, 19, 5, 0, 116), (0, 24, 0, 2, 246), (0, 27, 5, 1, 119), (0, 30, 0, 3, 247), (0, 32, 0, 4, 248), (1, 7, 1, 0, 598), (1, 13, 1, 1, 599), (1, 17, 1, 2, 601), (2, 9, 2, 0, 172), (2, 15, 2, 1, 174), (2, 18, 2, 2, 176), (3, 11, 3, 0, 210), (3, 15, 3, 4, 215), (3, 19, 3, 1, 211), (3, 23, 3, 2, 213), (3, 26, 3, 5, 216), (3, 31, 3, 6, 217), (3, 34, 3, 7, 218), (3, 66, 3, 3, 214), (4, 12, 4, 0, 185), (4, 23, 4, 1, 187), (4, 27, 4, 2, 189), (4, 30, 4, 3, 191), (5, 9, 5, 0, 114), (5, 15, 5, 1, 117), (5, 18, 5, 2, 120), (5, 21, 5, 3, 122), (5, 24, 5, 4, 124), (5, 27, 5, 5, 126), (5, 30, 5, 10, 136), (5, 40, 5, 6, 128), (5, 43, 5, 7, 130), (5, 46, 5, 8, 132), (5, 49, 5, 9, 134), (5, 52, 5, 11, 138), (5, 60, 1, 1, 600), (5, 65, 1, 2, 602), (6, 11, 6, 0, 271), (6, 15, 6, 1, 273), (6, 20, 6, 2, 274), (7, 12, 7, 0, 284), (7, 18, 7, 1, 285), (7, 21, 4, 0, 186), (7, 25, 7, 3, 287), (7, 29, 7, 4, 288), (7, 35, 7, 5, 289), (7, 42, 7, 7, 291), (7, 49, 7, 8, 292), (7, 71, 5, 0, 115), (7, 75, 5, 1, 118), (7, 78, 5, 2, 121), (7, 81, 5, 3, 123), (7, 84, 5, 4, 125), (7, 97, 5, 5, 127), (7, 100, 5, 7, 131), (7, 108, 5, 8, 133), (7, 114, 7, 6, 290), (7, 125, 5, 11, 139)]
set_option maxRecDepth 100000 in
theorem fl_chk_0 : flL_0.all (fun e => match vwCl[e.2.2.1]? with | some r => decide (e.2.2.2.1 < r.2.2) && decide (lw_tbl[e.2.2.2.2]? = some (Cond.fieldLink (cn e.1) e.2.1 (r.2.1 e.2.2.2.1).1 (r.2.1 e.2.2.2.1).2.1 (r.2.1 e.2.2.2.1).2.2.1)) | none => false) = true := by decide +kernel
def flL_1 : List fl_T := [(7, 129, 5, 9, 135), (7, 135, 5, 10, 137), (7, 160, 5, 6, 129), (7, 173, 4, 1, 188), (7, 198, 4, 2, 190), (7, 201, 2, 2, 177), (7, 204, 2, 0, 173), (7, 207, 2, 1, 175), (7, 214, 4, 3, 192), (7, 221, 6, 0, 272), (7, 228, 6, 2, 275), (7, 234, 7, 2, 286), (7, 250, 3, 1, 212), (7, 253, 0, 1, 245), (8, 7, 8, 0, 892), (8, 13, 8, 1, 893), (8, 16, 8, 2, 894), (8, 19, 8, 3, 895), (8, 22, 8, 4, 896), (8, 25, 8, 5, 897), (8, 29, 8, 6, 898), (8, 32, 8, 7, 899), (8, 35, 8, 8, 900), (8, 38, 8, 9, 901), (8, 41, 8, 10, 902), (8, 44, 8, 11, 903), (8, 47, 8, 12, 904), (8, 50, 8, 13, 905), (8, 53, 8, 14, 906), (8, 56, 8, 15, 907), (8, 59, 8, 16, 908), (8, 62, 8, 17, 909), (8, 65, 8, 18, 910), (8, 68, 8, 19, 911), (8, 71, 8, 20, 912), (8, 74, 8, 21, 913), (8, 77, 8, 22, 914), (8, 80, 8, 23, 915), (8, 83, 8, 24, 916), (8, 86, 8, 25, 917), (8, 89, 8, 26, 918), (8, 92, 8, 27, 919), (8, 95, 8, 28, 920), (8, 99, 8, 29, 921), (8, 102, 8, 30, 922), (8, 105, 8, 31, 923), (8, 108, 8, 32, 924), (8, 111, 8, 33, 925), (8, 114, 8, 34, 926), (8, 117, 8, 35, 927), (8, 120, 8, 36, 928), (8, 123, 8, 37, 929), (8, 126, 8, 38, 930), (8, 129, 8, 39, 931), (8, 132, 8, 40, 932), (8, 135, 8, 41, 933), (8, 138, 8, 42, 934), (8, 141, 8, 43, 935), (8, 144, 8, 44, 936), (8, 147, 8, 45, 937)]
set_option maxRecDepth 100000 in
theorem fl_chk_1 : flL_1.all (fun e => match vwCl[e.2.2.1]? with | some r => decide (e.2.2.2.1 < r.2.2) && decide (lw_tbl[e.2.2.2.2]? = some (Cond.fieldLink (cn e.1) e.2.1 (r.2.1 e.2.2.2.1).1 (r.2.1 e.2.2.2.1).2.1 (r.2.1 e.2.2.2.1).2.2.1)) | none => false) = true := by decide +kernel
def flL_2 : List fl_T := [(8, 150, 8, 46, 938), (8, 154, 8, 47, 939), (8, 157, 8, 48, 940), (8, 160, 8, 49, 941), (8, 163, 8, 50, 942), (8, 166, 8, 51, 943), (8, 169, 8, 52, 944), (8, 172, 8, 53, 945), (8, 175, 8, 54, 946), (8, 178, 8, 55, 947), (8, 181, 8, 56, 948), (8, 184, 8, 57, 949), (8, 187, 8, 58, 950), (8, 190, 8, 59, 951), (8, 193, 8, 60, 952), (8, 196, 8, 61, 953), (8, 199, 8, 62, 954), (8, 202, 8, 63, 955), (8, 205, 8, 64, 956), (8, 208, 8, 65, 957), (8, 211, 8, 66, 958), (8, 214, 8, 67, 959), (8, 217, 8, 68, 960), (8, 220, 8, 69, 961), (8, 223, 8, 70, 962), (8, 226, 8, 71, 963), (8, 229, 8, 72, 964), (8, 233, 8, 73, 965)]
set_option maxRecDepth 100000 in
theorem fl_chk_2 : flL_2.all (fun e => match vwCl[e.2.2.1]? with | some r => decide (e.2.2.2.1 < r.2.2) && decide (lw_tbl[e.2.2.2.2]? = some (Cond.fieldLink (cn e.1) e.2.1 (r.2.1 e.2.2.2.1).1 (r.2.1 e.2.2.2.1).2.1 (r.2.1 e.2.2.2.1).2.2.1)) | none => false) = true := by decide +kernel
def flL : List fl_T := flL_0 ++ (flL_1 ++ (flL_2))
def fl_ok (e : fl_T) : Prop := ∃ r : vw_C, vwCl[e.2.2.1]? = some r ∧ e.2.2.2.1 < r.2.2 ∧ lw_tbl[e.2.2.2.2]? = some (Cond.fieldLink (cn e.1) e.2.1 (r.2.1 e.2.2.2.1).1 (r.2.1 e.2.2.2.1).2.1 (r.2.1 e.2.2.2.1).2.2.1)
theorem fl_okb {l : List fl_T} (h : l.all (fun e => match vwCl[e.2.2.1]? with | some r => decide (e.2.2.2.1 < r.2.2) && decide (lw_tbl[e.2.2.2.2]? = some (Cond.fieldLink (cn e.1) e.2.1 (r.2.1 e.2.2.2.1).1 (r.2.1 e.2.2.2.1).2.1 (r.2.1 e.2.2.2.1).2.2.1)) | none => false) = true) : ∀ e ∈ l, fl_ok e := by
  intro e he
  have h1 := List.all_eq_true.mp h e he
  unfold fl_ok
  cases hr : vwCl[e.2.2.1]? with
  | none => simp [hr] at h1
  | some r =>
    simp only [hr, Bool.and_eq_true, decide_eq_true_eq] at h1
    exact ⟨r, rfl, h1⟩
theorem fl_okA : ∀ e ∈ flL, fl_ok e :=
  List.forall_mem_append.mpr ⟨fl_okb fl_chk_0, List.forall_mem_append.mpr ⟨fl_okb fl_chk_1, fl_okb fl_chk_2⟩⟩
/-- the field that a getfield or putfield of class own with that index names: class, place -/
def tf (own idx ci k : Nat) : Prop := ∃ p, (own, idx, ci, k, p) ∈ flL
theorem tf_0_11 : tf 0 11 0 0 := ⟨243, List.mem_of_getElem? (i := 0) rfl⟩
theorem tf_0_15 : tf 0 15 0 1 := ⟨244, List.mem_of_getElem? (i := 1) rfl⟩
theorem tf_0_19 : tf 0 19 5 0 := ⟨116, List.mem_of_getElem? (i := 2) rfl⟩
theorem tf_0_24 : tf 0 24 0 2 := ⟨246, List.mem_of_getElem? (i := 3) rfl⟩
theorem tf_0_27 : tf 0 27 5 1 := ⟨119, List.mem_of_getElem? (i := 4) rfl⟩
theorem tf_0_30 : tf 0 30 0 3 := ⟨247, List.mem_of_getElem? (i := 5) rfl⟩
theorem tf_0_32 : tf 0 32 0 4 := ⟨248, List.mem_of_getElem? (i := 6) rfl⟩
theorem tf_1_7 : tf 1 7 1 0 := ⟨598, List.mem_of_getElem? (i := 7) rfl⟩
theorem tf_1_13 : tf 1 13 1 1 := ⟨599, List.mem_of_getElem? (i := 8) rfl⟩
theorem tf_1_17 : tf 1 17 1 2 := ⟨601, List.mem_of_getElem? (i := 9) rfl⟩
theorem tf_2_9 : tf 2 9 2 0 := ⟨172, List.mem_of_getElem? (i := 10) rfl⟩
theorem tf_2_15 : tf 2 15 2 1 := ⟨174, List.mem_of_getElem? (i := 11) rfl⟩
theorem tf_2_18 : tf 2 18 2 2 := ⟨176, List.mem_of_getElem? (i := 12) rfl⟩
theorem tf_3_11 : tf 3 11 3 0 := ⟨210, List.mem_of_getElem? (i := 13) rfl⟩
theorem tf_3_15 : tf 3 15 3 4 := ⟨215, List.mem_of_getElem? (i := 14) rfl⟩
theorem tf_3_19 : tf 3 19 3 1 := ⟨211, List.mem_of_getElem? (i := 15) rfl⟩
theorem tf_3_23 : tf 3 23 3 2 := ⟨213, List.mem_of_getElem? (i := 16) rfl⟩
theorem tf_3_26 : tf 3 26 3 5 := ⟨216, List.mem_of_getElem? (i := 17) rfl⟩
theorem tf_3_31 : tf 3 31 3 6 := ⟨217, List.mem_of_getElem? (i := 18) rfl⟩
theorem tf_3_34 : tf 3 34 3 7 := ⟨218, List.mem_of_getElem? (i := 19) rfl⟩
theorem tf_3_66 : tf 3 66 3 3 := ⟨214, List.mem_of_getElem? (i := 20) rfl⟩
theorem tf_4_12 : tf 4 12 4 0 := ⟨185, List.mem_of_getElem? (i := 21) rfl⟩
theorem tf_4_23 : tf 4 23 4 1 := ⟨187, List.mem_of_getElem? (i := 22) rfl⟩
theorem tf_4_27 : tf 4 27 4 2 := ⟨189, List.mem_of_getElem? (i := 23) rfl⟩
theorem tf_4_30 : tf 4 30 4 3 := ⟨191, List.mem_of_getElem? (i := 24) rfl⟩
theorem tf_5_9 : tf 5 9 5 0 := ⟨114, List.mem_of_getElem? (i := 25) rfl⟩
theorem tf_5_15 : tf 5 15 5 1 := ⟨117, List.mem_of_getElem? (i := 26) rfl⟩
theorem tf_5_18 : tf 5 18 5 2 := ⟨120, List.mem_of_getElem? (i := 27) rfl⟩
theorem tf_5_21 : tf 5 21 5 3 := ⟨122, List.mem_of_getElem? (i := 28) rfl⟩
theorem tf_5_24 : tf 5 24 5 4 := ⟨124, List.mem_of_getElem? (i := 29) rfl⟩
theorem tf_5_27 : tf 5 27 5 5 := ⟨126, List.mem_of_getElem? (i := 30) rfl⟩
theorem tf_5_30 : tf 5 30 5 10 := ⟨136, List.mem_of_getElem? (i := 31) rfl⟩
theorem tf_5_40 : tf 5 40 5 6 := ⟨128, List.mem_of_getElem? (i := 32) rfl⟩
theorem tf_5_43 : tf 5 43 5 7 := ⟨130, List.mem_of_getElem? (i := 33) rfl⟩
theorem tf_5_46 : tf 5 46 5 8 := ⟨132, List.mem_of_getElem? (i := 34) rfl⟩
theorem tf_5_49 : tf 5 49 5 9 := ⟨134, List.mem_of_getElem? (i := 35) rfl⟩
theorem tf_5_52 : tf 5 52 5 11 := ⟨138, List.mem_of_getElem? (i := 36) rfl⟩
theorem tf_5_60 : tf 5 60 1 1 := ⟨600, List.mem_of_getElem? (i := 37) rfl⟩
theorem tf_5_65 : tf 5 65 1 2 := ⟨602, List.mem_of_getElem? (i := 38) rfl⟩
theorem tf_6_11 : tf 6 11 6 0 := ⟨271, List.mem_of_getElem? (i := 39) rfl⟩
theorem tf_6_15 : tf 6 15 6 1 := ⟨273, List.mem_of_getElem? (i := 40) rfl⟩
theorem tf_6_20 : tf 6 20 6 2 := ⟨274, List.mem_of_getElem? (i := 41) rfl⟩
theorem tf_7_12 : tf 7 12 7 0 := ⟨284, List.mem_of_getElem? (i := 42) rfl⟩
theorem tf_7_18 : tf 7 18 7 1 := ⟨285, List.mem_of_getElem? (i := 43) rfl⟩
theorem tf_7_21 : tf 7 21 4 0 := ⟨186, List.mem_of_getElem? (i := 44) rfl⟩
theorem tf_7_25 : tf 7 25 7 3 := ⟨287, List.mem_of_getElem? (i := 45) rfl⟩
theorem tf_7_29 : tf 7 29 7 4 := ⟨288, List.mem_of_getElem? (i := 46) rfl⟩
theorem tf_7_35 : tf 7 35 7 5 := ⟨289, List.mem_of_getElem? (i := 47) rfl⟩
theorem tf_7_42 : tf 7 42 7 7 := ⟨291, List.mem_of_getElem? (i := 48) rfl⟩
theorem tf_7_49 : tf 7 49 7 8 := ⟨292, List.mem_of_getElem? (i := 49) rfl⟩
theorem tf_7_71 : tf 7 71 5 0 := ⟨115, List.mem_of_getElem? (i := 50) rfl⟩
theorem tf_7_75 : tf 7 75 5 1 := ⟨118, List.mem_of_getElem? (i := 51) rfl⟩
theorem tf_7_78 : tf 7 78 5 2 := ⟨121, List.mem_of_getElem? (i := 52) rfl⟩
theorem tf_7_81 : tf 7 81 5 3 := ⟨123, List.mem_of_getElem? (i := 53) rfl⟩
theorem tf_7_84 : tf 7 84 5 4 := ⟨125, List.mem_of_getElem? (i := 54) rfl⟩
theorem tf_7_97 : tf 7 97 5 5 := ⟨127, List.mem_of_getElem? (i := 55) rfl⟩
theorem tf_7_100 : tf 7 100 5 7 := ⟨131, List.mem_of_getElem? (i := 56) rfl⟩
theorem tf_7_108 : tf 7 108 5 8 := ⟨133, List.mem_of_getElem? (i := 57) rfl⟩
theorem tf_7_114 : tf 7 114 7 6 := ⟨290, List.mem_of_getElem? (i := 58) rfl⟩
theorem tf_7_125 : tf 7 125 5 11 := ⟨139, List.mem_of_getElem? (i := 59) rfl⟩
theorem tf_7_129 : tf 7 129 5 9 := ⟨135, List.mem_of_getElem? (i := 60) rfl⟩
theorem tf_7_135 : tf 7 135 5 10 := ⟨137, List.mem_of_getElem? (i := 61) rfl⟩
theorem tf_7_160 : tf 7 160 5 6 := ⟨129, List.mem_of_getElem? (i := 62) rfl⟩
theorem tf_7_173 : tf 7 173 4 1 := ⟨188, List.mem_of_getElem? (i := 63) rfl⟩
theorem tf_7_198 : tf 7 198 4 2 := ⟨190, List.mem_of_getElem? (i := 64) rfl⟩
theorem tf_7_201 : tf 7 201 2 2 := ⟨177, List.mem_of_getElem? (i := 65) rfl⟩
theorem tf_7_204 : tf 7 204 2 0 := ⟨173, List.mem_of_getElem? (i := 66) rfl⟩
theorem tf_7_207 : tf 7 207 2 1 := ⟨175, List.mem_of_getElem? (i := 67) rfl⟩
theorem tf_7_214 : tf 7 214 4 3 := ⟨192, List.mem_of_getElem? (i := 68) rfl⟩
theorem tf_7_221 : tf 7 221 6 0 := ⟨272, List.mem_of_getElem? (i := 69) rfl⟩
theorem tf_7_228 : tf 7 228 6 2 := ⟨275, List.mem_of_getElem? (i := 70) rfl⟩
theorem tf_7_234 : tf 7 234 7 2 := ⟨286, List.mem_of_getElem? (i := 71) rfl⟩
theorem tf_7_250 : tf 7 250 3 1 := ⟨212, List.mem_of_getElem? (i := 72) rfl⟩
theorem tf_7_253 : tf 7 253 0 1 := ⟨245, List.mem_of_getElem? (i := 73) rfl⟩
theorem tf_8_7 : tf 8 7 8 0 := ⟨892, List.mem_of_getElem? (i := 74) rfl⟩
theorem tf_8_13 : tf 8 13 8 1 := ⟨893, List.mem_of_getElem? (i := 75) rfl⟩
theorem tf_8_16 : tf 8 16 8 2 := ⟨894, List.mem_of_getElem? (i := 76) rfl⟩
theorem tf_8_19 : tf 8 19 8 3 := ⟨895, List.mem_of_getElem? (i := 77) rfl⟩
theorem tf_8_22 : tf 8 22 8 4 := ⟨896, List.mem_of_getElem? (i := 78) rfl⟩
theorem tf_8_25 : tf 8 25 8 5 := ⟨897, List.mem_of_getElem? (i := 79) rfl⟩
theorem tf_8_29 : tf 8 29 8 6 := ⟨898, List.mem_of_getElem? (i := 80) rfl⟩
theorem tf_8_32 : tf 8 32 8 7 := ⟨899, List.mem_of_getElem? (i := 81) rfl⟩
theorem tf_8_35 : tf 8 35 8 8 := ⟨900, List.mem_of_getElem? (i := 82) rfl⟩
theorem tf_8_38 : tf 8 38 8 9 := ⟨901, List.mem_of_getElem? (i := 83) rfl⟩
theorem tf_8_41 : tf 8 41 8 10 := ⟨902, List.mem_of_getElem? (i := 84) rfl⟩
theorem tf_8_44 : tf 8 44 8 11 := ⟨903, List.mem_of_getElem? (i := 85) rfl⟩
theorem tf_8_47 : tf 8 47 8 12 := ⟨904, List.mem_of_getElem? (i := 86) rfl⟩
theorem tf_8_50 : tf 8 50 8 13 := ⟨905, List.mem_of_getElem? (i := 87) rfl⟩
theorem tf_8_53 : tf 8 53 8 14 := ⟨906, List.mem_of_getElem? (i := 88) rfl⟩
theorem tf_8_56 : tf 8 56 8 15 := ⟨907, List.mem_of_getElem? (i := 89) rfl⟩
theorem tf_8_59 : tf 8 59 8 16 := ⟨908, List.mem_of_getElem? (i := 90) rfl⟩
theorem tf_8_62 : tf 8 62 8 17 := ⟨909, List.mem_of_getElem? (i := 91) rfl⟩
theorem tf_8_65 : tf 8 65 8 18 := ⟨910, List.mem_of_getElem? (i := 92) rfl⟩
theorem tf_8_68 : tf 8 68 8 19 := ⟨911, List.mem_of_getElem? (i := 93) rfl⟩
theorem tf_8_71 : tf 8 71 8 20 := ⟨912, List.mem_of_getElem? (i := 94) rfl⟩
theorem tf_8_74 : tf 8 74 8 21 := ⟨913, List.mem_of_getElem? (i := 95) rfl⟩
theorem tf_8_77 : tf 8 77 8 22 := ⟨914, List.mem_of_getElem? (i := 96) rfl⟩
theorem tf_8_80 : tf 8 80 8 23 := ⟨915, List.mem_of_getElem? (i := 97) rfl⟩
theorem tf_8_83 : tf 8 83 8 24 := ⟨916, List.mem_of_getElem? (i := 98) rfl⟩
theorem tf_8_86 : tf 8 86 8 25 := ⟨917, List.mem_of_getElem? (i := 99) rfl⟩
theorem tf_8_89 : tf 8 89 8 26 := ⟨918, List.mem_of_getElem? (i := 100) rfl⟩
theorem tf_8_92 : tf 8 92 8 27 := ⟨919, List.mem_of_getElem? (i := 101) rfl⟩
theorem tf_8_95 : tf 8 95 8 28 := ⟨920, List.mem_of_getElem? (i := 102) rfl⟩
theorem tf_8_99 : tf 8 99 8 29 := ⟨921, List.mem_of_getElem? (i := 103) rfl⟩
theorem tf_8_102 : tf 8 102 8 30 := ⟨922, List.mem_of_getElem? (i := 104) rfl⟩
theorem tf_8_105 : tf 8 105 8 31 := ⟨923, List.mem_of_getElem? (i := 105) rfl⟩
theorem tf_8_108 : tf 8 108 8 32 := ⟨924, List.mem_of_getElem? (i := 106) rfl⟩
theorem tf_8_111 : tf 8 111 8 33 := ⟨925, List.mem_of_getElem? (i := 107) rfl⟩
theorem tf_8_114 : tf 8 114 8 34 := ⟨926, List.mem_of_getElem? (i := 108) rfl⟩
theorem tf_8_117 : tf 8 117 8 35 := ⟨927, List.mem_of_getElem? (i := 109) rfl⟩
theorem tf_8_120 : tf 8 120 8 36 := ⟨928, List.mem_of_getElem? (i := 110) rfl⟩
theorem tf_8_123 : tf 8 123 8 37 := ⟨929, List.mem_of_getElem? (i := 111) rfl⟩
theorem tf_8_126 : tf 8 126 8 38 := ⟨930, List.mem_of_getElem? (i := 112) rfl⟩
theorem tf_8_129 : tf 8 129 8 39 := ⟨931, List.mem_of_getElem? (i := 113) rfl⟩
theorem tf_8_132 : tf 8 132 8 40 := ⟨932, List.mem_of_getElem? (i := 114) rfl⟩
theorem tf_8_135 : tf 8 135 8 41 := ⟨933, List.mem_of_getElem? (i := 115) rfl⟩
theorem tf_8_138 : tf 8 138 8 42 := ⟨934, List.mem_of_getElem? (i := 116) rfl⟩
theorem tf_8_141 : tf 8 141 8 43 := ⟨935, List.mem_of_getElem? (i := 117) rfl⟩
theorem tf_8_144 : tf 8 144 8 44 := ⟨936, List.mem_of_getElem? (i := 118) rfl⟩
theorem tf_8_147 : tf 8 147 8 45 := ⟨937, List.mem_of_getElem? (i := 119) rfl⟩
theorem tf_8_150 : tf 8 150 8 46 := ⟨938, List.mem_of_getElem? (i := 120) rfl⟩
theorem tf_8_154 : tf 8 154 8 47 := ⟨939, List.mem_of_getElem? (i := 121) rfl⟩
theorem tf_8_157 : tf 8 157 8 48 := ⟨940, List.mem_of_getElem? (i := 122) rfl⟩
theorem tf_8_160 : tf 8 160 8 49 := ⟨941, List.mem_of_getElem? (i := 123) rfl⟩
theorem tf_8_163 : tf 8 163 8 50 := ⟨942, List.mem_of_getElem? (i := 124) rfl⟩
theorem tf_8_166 : tf 8 166 8 51 := ⟨943, List.mem_of_getElem? (i := 125) rfl⟩
theorem tf_8_169 : tf 8 169 8 52 := ⟨944, List.mem_of_getElem? (i := 126) rfl⟩
theorem tf_8_172 : tf 8 172 8 53 := ⟨945, List.mem_of_getElem? (i := 127) rfl⟩
theorem tf_8_175 : tf 8 175 8 54 := ⟨946, List.mem_of_getElem? (i := 128) rfl⟩
theorem tf_8_178 : tf 8 178 8 55 := ⟨947, List.mem_of_getElem? (i := 129) rfl⟩
theorem tf_8_181 : tf 8 181 8 56 := ⟨948, List.mem_of_getElem? (i := 130) rfl⟩
theorem tf_8_184 : tf 8 184 8 57 := ⟨949, List.mem_of_getElem? (i := 131) rfl⟩
theorem tf_8_187 : tf 8 187 8 58 := ⟨950, List.mem_of_getElem? (i := 132) rfl⟩
theorem tf_8_190 : tf 8 190 8 59 := ⟨951, List.mem_of_getElem? (i := 133) rfl⟩
theorem tf_8_193 : tf 8 193 8 60 := ⟨952, List.mem_of_getElem? (i := 134) rfl⟩
theorem tf_8_196 : tf 8 196 8 61 := ⟨953, List.mem_of_getElem? (i := 135) rfl⟩
theorem tf_8_199 : tf 8 199 8 62 := ⟨954, List.mem_of_getElem? (i := 136) rfl⟩
theorem tf_8_202 : tf 8 202 8 63 := ⟨955, List.mem_of_getElem? (i := 137) rfl⟩
theorem tf_8_205 : tf 8 205 8 64 := ⟨956, List.mem_of_getElem? (i := 138) rfl⟩
theorem tf_8_208 : tf 8 208 8 65 := ⟨957, List.mem_of_getElem? (i := 139) rfl⟩
theorem tf_8_211 : tf 8 211 8 66 := ⟨958, List.mem_of_getElem? (i := 140) rfl⟩
theorem tf_8_214 : tf 8 214 8 67 := ⟨959, List.mem_of_getElem? (i := 141) rfl⟩
theorem tf_8_217 : tf 8 217 8 68 := ⟨960, List.mem_of_getElem? (i := 142) rfl⟩
theorem tf_8_220 : tf 8 220 8 69 := ⟨961, List.mem_of_getElem? (i := 143) rfl⟩
theorem tf_8_223 : tf 8 223 8 70 := ⟨962, List.mem_of_getElem? (i := 144) rfl⟩
theorem tf_8_226 : tf 8 226 8 71 := ⟨963, List.mem_of_getElem? (i := 145) rfl⟩
theorem tf_8_229 : tf 8 229 8 72 := ⟨964, List.mem_of_getElem? (i := 146) rfl⟩
theorem tf_8_233 : tf 8 233 8 73 := ⟨965, List.mem_of_getElem? (i := 147) rfl⟩
abbrev cl_T : Type := Nat × Nat × Nat × Nat × Nat × Nat × Nat × Nat
def clL_0 : List cl_T := [(0, 35, 5, 0, 4, 809, 811, 17), (0, 42, 4, 0, 1, 815, 817, 18), (0, 46, 6, 0, 3, 819, 821, 19), (1, 20, 41, 0, 2, 384, 385, 386), (3, 37, 18, 0, 0, 424, 426, 4), (3, 41, 26, 0, 1, 488, 490, 7), (3, 47, 217, 1, 2, 580, 581, 0), (3, 53, 7, 2, 3, 594, 595, 0), (3, 56, 24, 0, 0, 428, 430, 5), (3, 60, 19, 0, 1, 432, 434, 6), (3, 63, 20, 0, 0, 492, 494, 8), (3, 68, 21, 0, 1, 496, 498, 9), (3, 71, 27, 0, 3, 571, 573, 13), (3, 83, 203, 0, 0, 440, 441, 442), (3, 87, 204, 0, 1, 450, 451, 452), (3, 91, 22, 0, 1, 500, 502, 10), (3, 94, 23, 0, 0, 504, 506, 11), (3, 99, 25, 0, 1, 509, 511, 12), (3, 105, 205, 0, 1, 513, 514, 515), (3, 109, 8, 1, 3, 575, 576, 0), (4, 11, 30, 3, 0, 110, 111, 0), (4, 20, 10, 2, 1, 168, 169, 0), (4, 33, 31, 0, 1, 787, 652, 653), (4, 37, 13, 0, 1, 788, 789, 790), (5, 56, 34, 0, 0, 665, 619, 620), (5, 68, 9, 0, 2, 380, 381, 382), (5, 72, 38, 0, 0, 341, 342, 343), (5, 80, 43, 0, 1, 348, 350, 0), (5, 88, 42, 0, 1, 356, 338, 339), (5, 91, 47, 0, 2, 357, 359, 1), (5, 94, 46, 0, 1, 368, 370, 2), (5, 97, 48, 0, 1, 372, 374, 3), (5, 100, 44, 0, 2, 361, 362, 363), (5, 103, 36, 0, 0, 635, 636, 637), (5, 107, 45, 0, 1, 639, 353, 354), (5, 110, 50, 0, 2, 640, 642, 14), (5, 113, 40, 0, 1, 644, 377, 378), (5, 118, 39, 0, 0, 646, 624, 625), (5, 120, 49, 0, 0, 660, 632, 633), (5, 123, 35, 0, 1, 753, 401, 402), (6, 23, 216, 1, 2, 268, 269, 0), (6, 29, 102, 4, 3, 770, 317, 0), (6, 33, 55, 0, 1, 852, 767, 768), (6, 37, 215, 1, 2, 853, 854, 0), (6, 40, 56, 0, 1, 864, 772, 773), (6, 43, 57, 0, 2, 865, 776, 777), (6, 47, 60, 1, 2, 866, 867, 0), (6, 51, 62, 0, 3, 881, 883, 20), (7, 11, 28, 3, 0, 104, 105, 0), (7, 28, 30, 3, 0, 203, 111, 0), (7, 34, 14, 3, 0, 206, 207, 0), (7, 41, 0, 3, 0, 239, 240, 0), (7, 48, 54, 2, 0, 262, 263, 0), (7, 53, 102, 1, 3, 316, 317, 0), (7, 57, 103, 1, 1, 319, 320, 0), (7, 61, 104, 1, 1, 322, 323, 0), (7, 64, 33, 0, 4, 325, 326, 327), (7, 68, 32, 0, 1, 333, 334, 335), (7, 87, 42, 0, 1, 337, 338, 339), (7, 91, 45, 0, 1, 352, 353, 354)]
set_option maxRecDepth 100000 in
theorem cl_chk_0 : clL_0.all (fun e => match mtL[e.2.2.1]? with | some r => (match e.2.2.2.1 with | 0 => decide (lw_tbl[e.2.2.2.2.2.1]? = some (Cond.methodLink (cn e.1) e.2.1 r.1.1)) && (decide (lw_tbl[e.2.2.2.2.2.2.1]? = some (Cond.instanceMethod r.1.1)) && decide (lw_tbl[e.2.2.2.2.2.2.2]? = some (Cond.selects r.1.1.cls r.1.1 r.1.1))) | 1 => decide (lw_tbl[e.2.2.2.2.2.1]? = some (Cond.methodLink (cn e.1) e.2.1 r.1.1)) && decide (lw_tbl[e.2.2.2.2.2.2.1]? = some (Cond.static r.1.1)) | 2 => decide (lw_tbl[e.2.2.2.2.2.1]? = some (Cond.methodLink (cn e.1) e.2.1 r.1.1)) && (decide (lw_tbl[e.2.2.2.2.2.2.1]? = some (Cond.instanceMethod r.1.1)) && decide (r.1.1.name = "<init>")) | 3 => decide (lw_tbl[e.2.2.2.2.2.1]? = some (Cond.methodLinkNest (cn e.1) e.2.1 r.1.1 RX7)) && (decide (lw_tbl[e.2.2.2.2.2.2.1]? = some (Cond.instanceMethod r.1.1)) && decide (r.1.1.name = "<init>")) | _ => decide (lw_tbl[e.2.2.2.2.2.1]? = some (Cond.methodLinkNest (cn e.1) e.2.1 r.1.1 RX7)) && decide (lw_tbl[e.2.2.2.2.2.2.1]? = some (Cond.static r.1.1))) && decide ((parseMethodDescriptor r.1.1.desc).map (fun d => d.parameters.length) = some e.2.2.2.2.1) | none => false) = true := by decide +kernel
def clL_1 : List cl_T := [(7, 94, 40, 0, 1, 376, 377, 378), (7, 104, 35, 0, 1, 400, 401, 402), (7, 111, 15, 0, 1, 412, 413, 414), (7, 117, 16, 0, 0, 420, 421, 422), (7, 121, 17, 0, 0, 610, 611, 612), (7, 132, 34, 0, 0, 618, 619, 620), (7, 138, 38, 0, 0, 622, 342, 343), (7, 141, 39, 0, 0, 623, 624, 625), (7, 144, 49, 0, 0, 631, 632, 633), (7, 147, 31, 0, 1, 651, 652, 653), (7, 151, 51, 0, 1, 656, 657, 658), (7, 154, 37, 0, 1, 661, 662, 663), (7, 157, 52, 0, 0, 670, 671, 672), (7, 163, 106, 0, 1, 678, 680, 15), (7, 169, 44, 0, 2, 695, 362, 363), (7, 177, 11, 0, 0, 708, 709, 710), (7, 182, 12, 0, 2, 712, 713, 714), (7, 185, 107, 0, 0, 720, 722, 16), (7, 191, 36, 0, 0, 733, 636, 637), (7, 194, 108, 1, 3, 734, 735, 0), (7, 210, 53, 0, 2, 749, 750, 751), (7, 217, 55, 0, 1, 766, 767, 768), (7, 218, 56, 0, 1, 771, 772, 773), (7, 224, 57, 0, 2, 775, 776, 777), (7, 231, 29, 0, 1, 783, 784, 785), (7, 238, 1, 0, 0, 801, 802, 803), (7, 241, 3, 0, 4, 805, 806, 807), (7, 245, 2, 0, 1, 827, 828, 829), (7, 247, 105, 1, 2, 835, 836, 0), (7, 256, 58, 0, 3, 848, 849, 850), (7, 260, 59, 0, 3, 860, 861, 862), (7, 264, 61, 0, 5, 877, 878, 879), (8, 236, 110, 0, 3, 1120, 1122, 21), (8, 240, 114, 0, 1, 1124, 1126, 22), (8, 244, 115, 0, 1, 1128, 1130, 23), (8, 247, 113, 0, 1, 1136, 1138, 24), (8, 250, 120, 0, 1, 1148, 1150, 25), (8, 254, 112, 0, 1, 1152, 1154, 26), (8, 258, 124, 0, 0, 1180, 1182, 30), (8, 262, 125, 0, 1, 1188, 1190, 32), (8, 265, 127, 0, 0, 1196, 1198, 34), (8, 269, 129, 0, 1, 1212, 1214, 38), (8, 272, 132, 0, 1, 1208, 1210, 37), (8, 275, 128, 0, 0, 1192, 1194, 33), (8, 278, 130, 0, 0, 1216, 1218, 39), (8, 281, 133, 0, 0, 1204, 1206, 36), (8, 284, 131, 0, 1, 1220, 1222, 40), (8, 287, 126, 0, 2, 1184, 1186, 31), (8, 291, 135, 0, 1, 1176, 1178, 29), (8, 294, 134, 0, 1, 1200, 1202, 35), (8, 297, 136, 0, 1, 1172, 1174, 28), (8, 300, 137, 0, 1, 1168, 1170, 27), (8, 303, 139, 0, 0, 1236, 1238, 43), (8, 306, 140, 0, 0, 1240, 1242, 44), (8, 309, 142, 0, 2, 1276, 1278, 53), (8, 313, 143, 0, 2, 1272, 1274, 52), (8, 316, 141, 0, 2, 1232, 1234, 42), (8, 319, 145, 0, 1, 1244, 1246, 45), (8, 322, 147, 0, 2, 1256, 1258, 48), (8, 325, 146, 0, 1, 1228, 1230, 41)]
set_option maxRecDepth 100000 in
theorem cl_chk_1 : clL_1.all (fun e => match mtL[e.2.2.1]? with | some r => (match e.2.2.2.1 with | 0 => decide (lw_tbl[e.2.2.2.2.2.1]? = some (Cond.methodLink (cn e.1) e.2.1 r.1.1)) && (decide (lw_tbl[e.2.2.2.2.2.2.1]? = some (Cond.instanceMethod r.1.1)) && decide (lw_tbl[e.2.2.2.2.2.2.2]? = some (Cond.selects r.1.1.cls r.1.1 r.1.1))) | 1 => decide (lw_tbl[e.2.2.2.2.2.1]? = some (Cond.methodLink (cn e.1) e.2.1 r.1.1)) && decide (lw_tbl[e.2.2.2.2.2.2.1]? = some (Cond.static r.1.1)) | 2 => decide (lw_tbl[e.2.2.2.2.2.1]? = some (Cond.methodLink (cn e.1) e.2.1 r.1.1)) && (decide (lw_tbl[e.2.2.2.2.2.2.1]? = some (Cond.instanceMethod r.1.1)) && decide (r.1.1.name = "<init>")) | 3 => decide (lw_tbl[e.2.2.2.2.2.1]? = some (Cond.methodLinkNest (cn e.1) e.2.1 r.1.1 RX7)) && (decide (lw_tbl[e.2.2.2.2.2.2.1]? = some (Cond.instanceMethod r.1.1)) && decide (r.1.1.name = "<init>")) | _ => decide (lw_tbl[e.2.2.2.2.2.1]? = some (Cond.methodLinkNest (cn e.1) e.2.1 r.1.1 RX7)) && decide (lw_tbl[e.2.2.2.2.2.2.1]? = some (Cond.static r.1.1))) && decide ((parseMethodDescriptor r.1.1.desc).map (fun d => d.parameters.length) = some e.2.2.2.2.1) | none => false) = true := by decide +kernel
def clL_2 : List cl_T := [(8, 328, 149, 0, 1, 1252, 1254, 47), (8, 331, 148, 0, 1, 1260, 1262, 49), (8, 334, 150, 0, 1, 1264, 1266, 50), (8, 337, 151, 0, 1, 1248, 1250, 46), (8, 340, 144, 0, 1, 1268, 1270, 51), (8, 343, 111, 0, 2, 1296, 1298, 56), (8, 346, 154, 0, 0, 1288, 1290, 54), (8, 349, 155, 0, 0, 1292, 1294, 55), (8, 353, 157, 0, 0, 1304, 1306, 57), (8, 356, 159, 0, 1, 1309, 1311, 58), (8, 359, 158, 0, 0, 1313, 1315, 59), (8, 362, 161, 0, 0, 1325, 1327, 61), (8, 365, 162, 0, 0, 1321, 1323, 60), (8, 368, 116, 0, 1, 1337, 1339, 62), (8, 371, 171, 0, 1, 1365, 1367, 63), (8, 374, 174, 0, 2, 1382, 1384, 65), (8, 379, 175, 0, 3, 1378, 1380, 64), (8, 383, 197, 0, 1, 1410, 1412, 66), (8, 386, 185, 0, 1, 1430, 1432, 68), (8, 389, 186, 0, 2, 1434, 1436, 69), (8, 392, 187, 0, 2, 1426, 1428, 67), (8, 395, 188, 0, 2, 1446, 1448, 72), (8, 398, 189, 0, 2, 1442, 1444, 71), (8, 401, 190, 0, 2, 1438, 1440, 70), (8, 404, 191, 0, 2, 1454, 1456, 74), (8, 407, 192, 0, 2, 1450, 1452, 73), (8, 410, 199, 0, 2, 1478, 1480, 75), (9, 9, 63, 2, 0, 96, 97, 0), (9, 12, 109, 2, 0, 888, 889, 0), (9, 13, 64, 0, 4, 312, 313, 314), (9, 17, 117, 0, 4, 1116, 1117, 1118), (9, 18, 65, 0, 2, 329, 330, 331), (9, 22, 152, 0, 2, 1224, 1225, 1226), (9, 23, 66, 0, 3, 388, 389, 390), (9, 27, 118, 0, 3, 1132, 1133, 1134), (9, 28, 67, 0, 3, 392, 393, 394), (9, 31, 119, 0, 3, 1140, 1141, 1142), (9, 32, 68, 0, 1, 396, 397, 398), (9, 36, 121, 0, 1, 1144, 1145, 1146), (9, 37, 69, 0, 1, 404, 405, 406), (9, 40, 122, 0, 1, 1156, 1157, 1158), (9, 41, 70, 0, 1, 408, 409, 410), (9, 44, 123, 0, 1, 1160, 1161, 1162), (9, 45, 71, 0, 0, 416, 417, 418), (9, 49, 138, 0, 0, 1164, 1165, 1166), (9, 50, 72, 0, 1, 614, 615, 616), (9, 53, 153, 0, 1, 1280, 1281, 1282), (9, 54, 73, 0, 0, 627, 628, 629), (9, 57, 156, 0, 0, 1284, 1285, 1286), (9, 58, 74, 0, 2, 647, 648, 649), (9, 61, 160, 0, 2, 1300, 1301, 1302), (9, 62, 75, 0, 0, 666, 667, 668), (9, 65, 163, 0, 0, 1317, 1318, 1319), (9, 66, 76, 0, 0, 674, 675, 676), (9, 69, 164, 0, 0, 1329, 1330, 1331), (9, 70, 77, 0, 3, 682, 683, 684), (9, 73, 165, 0, 3, 1333, 1334, 1335), (9, 74, 78, 0, 2, 687, 688, 689), (9, 77, 166, 0, 2, 1341, 1342, 1343), (9, 78, 79, 0, 1, 691, 692, 693)]
set_option maxRecDepth 100000 in
theorem cl_chk_2 : clL_2.all (fun e => match mtL[e.2.2.1]? with | some r => (match e.2.2.2.1 with | 0 => decide (lw_tbl[e.2.2.2.2.2.1]? = some (Cond.methodLink (cn e.1) e.2.1 r.1.1)) && (decide (lw_tbl[e.2.2.2.2.2.2.1]? = some (Cond.instanceMethod r.1.1)) && decide (lw_tbl[e.2.2.2.2.2.2.2]? = some (Cond.selects r.1.1.cls r.1.1 r.1.1))) | 1 => decide (lw_tbl[e.2.2.2.2.2.1]? = some (Cond.methodLink (cn e.1) e.2.1 r.1.1)) && decide (lw_tbl[e.2.2.2.2.2.2.1]? = some (Cond.static r.1.1)) | 2 => decide (lw_tbl[e.2.2.2.2.2.1]? = some (Cond.methodLink (cn e.1) e.2.1 r.1.1)) && (decide (lw_tbl[e.2.2.2.2.2.2.1]? = some (Cond.instanceMethod r.1.1)) && decide (r.1.1.name = "<init>")) | 3 => decide (lw_tbl[e.2.2.2.2.2.1]? = some (Cond.methodLinkNest (cn e.1) e.2.1 r.1.1 RX7)) && (decide (lw_tbl[e.2.2.2.2.2.2.1]? = some (Cond.instanceMethod r.1.1)) && decide (r.1.1.name = "<init>")) | _ => decide (lw_tbl[e.2.2.2.2.2.1]? = some (Cond.methodLinkNest (cn e.1) e.2.1 r.1.1 RX7)) && decide (lw_tbl[e.2.2.2.2.2.2.1]? = some (Cond.static r.1.1))) && decide ((parseMethodDescriptor r.1.1.desc).map (fun d => d.parameters.length) = some e.2.2.2.2.1) | none => false) = true := by decide +kernel
def clL_3 : List cl_T := [(9, 81, 167, 0, 1, 1345, 1346, 1347), (9, 82, 80, 0, 0, 696, 697, 698), (9, 85, 168, 0, 0, 1349, 1350, 1351), (9, 86, 81, 0, 1, 700, 701, 702), (9, 89, 169, 0, 1, 1353, 1354, 1355), (9, 90, 82, 0, 2, 704, 705, 706), (9, 93, 170, 0, 2, 1357, 1358, 1359), (9, 94, 83, 0, 0, 716, 717, 718), (9, 97, 172, 0, 0, 1361, 1362, 1363), (9, 98, 84, 0, 2, 724, 725, 726), (9, 101, 173, 0, 2, 1369, 1370, 1371), (9, 102, 85, 0, 2, 728, 729, 730), (9, 106, 176, 0, 2, 1373, 1374, 1375), (9, 107, 86, 0, 2, 737, 738, 739), (9, 110, 177, 0, 2, 1386, 1387, 1388), (9, 111, 87, 0, 2, 741, 742, 743), (9, 114, 178, 0, 2, 1390, 1391, 1392), (9, 115, 88, 0, 1, 745, 746, 747), (9, 118, 179, 0, 1, 1394, 1395, 1396), (9, 119, 89, 0, 2, 754, 755, 756), (9, 122, 180, 0, 2, 1398, 1399, 1400), (9, 123, 90, 0, 0, 758, 759, 760), (9, 126, 181, 0, 0, 1402, 1403, 1404), (9, 127, 91, 0, 2, 762, 763, 764), (9, 130, 182, 0, 2, 1406, 1407, 1408), (9, 131, 92, 0, 0, 779, 780, 781), (9, 134, 183, 0, 0, 1414, 1415, 1416), (9, 135, 93, 0, 0, 793, 794, 795), (9, 138, 184, 0, 0, 1418, 1419, 1420), (9, 139, 94, 0, 3, 797, 798, 799), (9, 142, 193, 0, 3, 1422, 1423, 1424), (9, 143, 95, 0, 1, 823, 824, 825), (9, 146, 194, 0, 1, 1458, 1459, 1460), (9, 147, 96, 0, 2, 831, 832, 833), (9, 150, 195, 0, 2, 1462, 1463, 1464), (9, 151, 97, 0, 1, 840, 841, 842), (9, 154, 196, 0, 1, 1466, 1467, 1468), (9, 155, 98, 0, 3, 844, 845, 846), (9, 158, 198, 0, 3, 1470, 1471, 1472), (9, 161, 99, 0, 3, 856, 857, 858), (9, 165, 200, 0, 3, 1474, 1475, 1476), (9, 166, 100, 0, 2, 869, 870, 871), (9, 169, 201, 0, 2, 1482, 1483, 1484), (9, 170, 101, 0, 5, 873, 874, 875), (9, 174, 202, 0, 5, 1486, 1487, 1488), (10, 335, 207, 0, 0, 444, 445, 446), (10, 492, 208, 0, 0, 454, 455, 456), (10, 495, 210, 1, 2, 458, 459, 0), (10, 505, 203, 0, 0, 521, 441, 442), (10, 633, 206, 0, 2, 517, 518, 519), (10, 637, 212, 1, 4, 522, 523, 0), (10, 1059, 214, 1, 3, 466, 467, 0), (11, 9, 209, 1, 2, 461, 462, 0), (11, 88, 211, 1, 1, 525, 526, 0), (11, 95, 213, 1, 4, 532, 533, 0)]
set_option maxRecDepth 100000 in
theorem cl_chk_3 : clL_3.all (fun e => match mtL[e.2.2.1]? with | some r => (match e.2.2.2.1 with | 0 => decide (lw_tbl[e.2.2.2.2.2.1]? = some (Cond.methodLink (cn e.1) e.2.1 r.1.1)) && (decide (lw_tbl[e.2.2.2.2.2.2.1]? = some (Cond.instanceMethod r.1.1)) && decide (lw_tbl[e.2.2.2.2.2.2.2]? = some (Cond.selects r.1.1.cls r.1.1 r.1.1))) | 1 => decide (lw_tbl[e.2.2.2.2.2.1]? = some (Cond.methodLink (cn e.1) e.2.1 r.1.1)) && decide (lw_tbl[e.2.2.2.2.2.2.1]? = some (Cond.static r.1.1)) | 2 => decide (lw_tbl[e.2.2.2.2.2.1]? = some (Cond.methodLink (cn e.1) e.2.1 r.1.1)) && (decide (lw_tbl[e.2.2.2.2.2.2.1]? = some (Cond.instanceMethod r.1.1)) && decide (r.1.1.name = "<init>")) | 3 => decide (lw_tbl[e.2.2.2.2.2.1]? = some (Cond.methodLinkNest (cn e.1) e.2.1 r.1.1 RX7)) && (decide (lw_tbl[e.2.2.2.2.2.2.1]? = some (Cond.instanceMethod r.1.1)) && decide (r.1.1.name = "<init>")) | _ => decide (lw_tbl[e.2.2.2.2.2.1]? = some (Cond.methodLinkNest (cn e.1) e.2.1 r.1.1 RX7)) && decide (lw_tbl[e.2.2.2.2.2.2.1]? = some (Cond.static r.1.1))) && decide ((parseMethodDescriptor r.1.1.desc).map (fun d => d.parameters.length) = some e.2.2.2.2.1) | none => false) = true := by decide +kernel
def clL : List cl_T := clL_0 ++ (clL_1 ++ (clL_2 ++ (clL_3)))
def cl_ok (e : cl_T) : Prop := ∃ r : mt_T × Nat × Nat, mtL[e.2.2.1]? = some r ∧ (parseMethodDescriptor r.1.1.desc).map (fun d => d.parameters.length) = some e.2.2.2.2.1 ∧
  (e.2.2.2.1 = 0 → Cond.methodLink (cn e.1) e.2.1 r.1.1 ∈ lw_tbl ∧ Cond.instanceMethod r.1.1 ∈ lw_tbl ∧ Cond.selects r.1.1.cls r.1.1 r.1.1 ∈ lw_tbl) ∧
  (e.2.2.2.1 = 1 → Cond.methodLink (cn e.1) e.2.1 r.1.1 ∈ lw_tbl ∧ Cond.static r.1.1 ∈ lw_tbl) ∧
  (e.2.2.2.1 = 2 → Cond.methodLink (cn e.1) e.2.1 r.1.1 ∈ lw_tbl ∧ Cond.instanceMethod r.1.1 ∈ lw_tbl ∧ r.1.1.name = "<init>") ∧
  (e.2.2.2.1 = 3 → Cond.methodLinkNest (cn e.1) e.2.1 r.1.1 RX7 ∈ lw_tbl ∧ Cond.instanceMethod r.1.1 ∈ lw_tbl ∧ r.1.1.name = "<init>") ∧
  (e.2.2.2.1 = 4 → Cond.methodLinkNest (cn e.1) e.2.1 r.1.1 RX7 ∈ lw_tbl ∧ Cond.static r.1.1 ∈ lw_tbl)
theorem cl_okb {l : List cl_T} (h : l.all (fun e => match mtL[e.2.2.1]? with | some r => (match e.2.2.2.1 with | 0 => decide (lw_tbl[e.2.2.2.2.2.1]? = some (Cond.methodLink (cn e.1) e.2.1 r.1.1)) && (decide (lw_tbl[e.2.2.2.2.2.2.1]? = some (Cond.instanceMethod r.1.1)) && decide (lw_tbl[e.2.2.2.2.2.2.2]? = some (Cond.selects r.1.1.cls r.1.1 r.1.1))) | 1 => decide (lw_tbl[e.2.2.2.2.2.1]? = some (Cond.methodLink (cn e.1) e.2.1 r.1.1)) && decide (lw_tbl[e.2.2.2.2.2.2.1]? = some (Cond.static r.1.1)) | 2 => decide (lw_tbl[e.2.2.2.2.2.1]? = some (Cond.methodLink (cn e.1) e.2.1 r.1.1)) && (decide (lw_tbl[e.2.2.2.2.2.2.1]? = some (Cond.instanceMethod r.1.1)) && decide (r.1.1.name = "<init>")) | 3 => decide (lw_tbl[e.2.2.2.2.2.1]? = some (Cond.methodLinkNest (cn e.1) e.2.1 r.1.1 RX7)) && (decide (lw_tbl[e.2.2.2.2.2.2.1]? = some (Cond.instanceMethod r.1.1)) && decide (r.1.1.name = "<init>")) | _ => decide (lw_tbl[e.2.2.2.2.2.1]? = some (Cond.methodLinkNest (cn e.1) e.2.1 r.1.1 RX7)) && decide (lw_tbl[e.2.2.2.2.2.2.1]? = some (Cond.static r.1.1))) && decide ((parseMethodDescriptor r.1.1.desc).map (fun d => d.parameters.length) = some e.2.2.2.2.1) | none => false) = true) : ∀ e ∈ l, cl_ok e := by
  intro e he
  have h1 := List.all_eq_true.mp h e he
  obtain ⟨a, b, n, k, q, x, y, z⟩ := e
  cases hr : mtL[n]? with
  | none => simp [hr] at h1
  | some r =>
    refine ⟨r, hr, ?_⟩
    rcases k with _ | _ | _ | _ | _ | k
    all_goals (simp only [hr, Bool.and_eq_true, decide_eq_true_eq] at h1; refine ⟨h1.2, ?_, ?_, ?_, ?_, ?_⟩)
    all_goals first | (intro h; dsimp only at h; exact absurd h (by omega)) | (intro _; obtain ⟨⟨g1, g2, g3⟩, -⟩ := h1; first | exact ⟨List.mem_of_getElem? g1, List.mem_of_getElem? g2, List.mem_of_getElem? g3⟩ | exact ⟨List.mem_of_getElem? g1, List.mem_of_getElem? g2, g3⟩) | (intro _; obtain ⟨⟨g1, g2⟩, -⟩ := h1; exact ⟨List.mem_of_getElem? g1, List.mem_of_getElem? g2⟩)
theorem cl_okA : ∀ e ∈ clL, cl_ok e :=
  List.forall_mem_append.mpr ⟨cl_okb cl_chk_0, List.forall_mem_append.mpr ⟨cl_okb cl_chk_1, List.forall_mem_append.mpr ⟨cl_okb cl_chk_2, cl_okb cl_chk_3⟩⟩⟩
/-- the method that a call of class own with that index names: number, kind of call (0 virtual, 1 static, 2 special, 3 special of a nest mate), parameters -/
def tc (own idx n kind np : Nat) : Prop := ∃ x y z, (own, idx, n, kind, np, x, y, z) ∈ clL
theorem tc_0_35 : tc 0 35 5 0 4 := ⟨809, 811, 17, List.mem_of_getElem? (i := 0) rfl⟩
theorem tc_0_42 : tc 0 42 4 0 1 := ⟨815, 817, 18, List.mem_of_getElem? (i := 1) rfl⟩
theorem tc_0_46 : tc 0 46 6 0 3 := ⟨819, 821, 19, List.mem_of_getElem? (i := 2) rfl⟩
theorem tc_1_20 : tc 1 20 41 0 2 := ⟨384, 385, 386, List.mem_of_getElem? (i := 3) rfl⟩
theorem tc_3_37 : tc 3 37 18 0 0 := ⟨424, 426, 4, List.mem_of_getElem? (i := 4) rfl⟩
theorem tc_3_41 : tc 3 41 26 0 1 := ⟨488, 490, 7, List.mem_of_getElem? (i := 5) rfl⟩
theorem tc_3_47 : tc 3 47 217 1 2 := ⟨580, 581, 0, List.mem_of_getElem? (i := 6) rfl⟩
theorem tc_3_53 : tc 3 53 7 2 3 := ⟨594, 595, 0, List.mem_of_getElem? (i := 7) rfl⟩
theorem tc_3_56 : tc 3 56 24 0 0 := ⟨428, 430, 5, List.mem_of_getElem? (i := 8) rfl⟩
theorem tc_3_60 : tc 3 60 19 0 1 := ⟨432, 434, 6, List.mem_of_getElem? (i := 9) rfl⟩
theorem tc_3_63 : tc 3 63 20 0 0 := ⟨492, 494, 8, List.mem_of_getElem? (i := 10) rfl⟩
theorem tc_3_68 : tc 3 68 21 0 1 := ⟨496, 498, 9, List.mem_of_getElem? (i := 11) rfl⟩
theorem tc_3_71 : tc 3 71 27 0 3 := ⟨571, 573, 13, List.mem_of_getElem? (i := 12) rfl⟩
theorem tc_3_83 : tc 3 83 203 0 0 := ⟨440, 441, 442, List.mem_of_getElem? (i := 13) rfl⟩
theorem tc_3_87 : tc 3 87 204 0 1 := ⟨450, 451, 452, List.mem_of_getElem? (i := 14) rfl⟩
theorem tc_3_91 : tc 3 91 22 0 1 := ⟨500, 502, 10, List.mem_of_getElem? (i := 15) rfl⟩
theorem tc_3_94 : tc 3 94 23 0 0 := ⟨504, 506, 11, List.mem_of_getElem? (i := 16) rfl⟩
theorem tc_3_99 : tc 3 99 25 0 1 := ⟨509, 511, 12, List.mem_of_getElem? (i := 17) rfl⟩
theorem tc_3_105 : tc 3 105 205 0 1 := ⟨513, 514, 515, List.mem_of_getElem? (i := 18) rfl⟩
theorem tc_3_109 : tc 3 109 8 1 3 := ⟨575, 576, 0, List.mem_of_getElem? (i := 19) rfl⟩
theorem tc_4_11 : tc 4 11 30 3 0 := ⟨110, 111, 0, List.mem_of_getElem? (i := 20) rfl⟩
theorem tc_4_20 : tc 4 20 10 2 1 := ⟨168, 169, 0, List.mem_of_getElem? (i := 21) rfl⟩
theorem tc_4_33 : tc 4 33 31 0 1 := ⟨787, 652, 653, List.mem_of_getElem? (i := 22) rfl⟩
theorem tc_4_37 : tc 4 37 13 0 1 := ⟨788, 789, 790, List.mem_of_getElem? (i := 23) rfl⟩
theorem tc_5_56 : tc 5 56 34 0 0 := ⟨665, 619, 620, List.mem_of_getElem? (i := 24) rfl⟩
theorem tc_5_68 : tc 5 68 9 0 2 := ⟨380, 381, 382, List.mem_of_getElem? (i := 25) rfl⟩
theorem tc_5_72 : tc 5 72 38 0 0 := ⟨341, 342, 343, List.mem_of_getElem? (i := 26) rfl⟩
theorem tc_5_80 : tc 5 80 43 0 1 := ⟨348, 350, 0, List.mem_of_getElem? (i := 27) rfl⟩
theorem tc_5_88 : tc 5 88 42 0 1 := ⟨356, 338, 339, List.mem_of_getElem? (i := 28) rfl⟩
theorem tc_5_91 : tc 5 91 47 0 2 := ⟨357, 359, 1, List.mem_of_getElem? (i := 29) rfl⟩
theorem tc_5_94 : tc 5 94 46 0 1 := ⟨368, 370, 2, List.mem_of_getElem? (i := 30) rfl⟩
theorem tc_5_97 : tc 5 97 48 0 1 := ⟨372, 374, 3, List.mem_of_getElem? (i := 31) rfl⟩
theorem tc_5_100 : tc 5 100 44 0 2 := ⟨361, 362, 363, List.mem_of_getElem? (i := 32) rfl⟩
theorem tc_5_103 : tc 5 103 36 0 0 := ⟨635, 636, 637, List.mem_of_getElem? (i := 33) rfl⟩
theorem tc_5_107 : tc 5 107 45 0 1 := ⟨639, 353, 354, List.mem_of_getElem? (i := 34) rfl⟩
theorem tc_5_110 : tc 5 110 50 0 2 := ⟨640, 642, 14, List.mem_of_getElem? (i := 35) rfl⟩
theorem tc_5_113 : tc 5 113 40 0 1 := ⟨644, 377, 378, List.mem_of_getElem? (i := 36) rfl⟩
theorem tc_5_118 : tc 5 118 39 0 0 := ⟨646, 624, 625, List.mem_of_getElem? (i := 37) rfl⟩
theorem tc_5_120 : tc 5 120 49 0 0 := ⟨660, 632, 633, List.mem_of_getElem? (i := 38) rfl⟩
theorem tc_5_123 : tc 5 123 35 0 1 := ⟨753, 401, 402, List.mem_of_getElem? (i := 39) rfl⟩
theorem tc_6_23 : tc 6 23 216 1 2 := ⟨268, 269, 0, List.mem_of_getElem? (i := 40) rfl⟩
theorem tc_6_29 : tc 6 29 102 4 3 := ⟨770, 317, 0, List.mem_of_getElem? (i := 41) rfl⟩
theorem tc_6_33 : tc 6 33 55 0 1 := ⟨852, 767, 768, List.mem_of_getElem? (i := 42) rfl⟩
theorem tc_6_37 : tc 6 37 215 1 2 := ⟨853, 854, 0, List.mem_of_getElem? (i := 43) rfl⟩
theorem tc_6_40 : tc 6 40 56 0 1 := ⟨864, 772, 773, List.mem_of_getElem? (i := 44) rfl⟩
theorem tc_6_43 : tc 6 43 57 0 2 := ⟨865, 776, 777, List.mem_of_getElem? (i := 45) rfl⟩
theorem tc_6_47 : tc 6 47 60 1 2 := ⟨866, 867, 0, List.mem_of_getElem? (i := 46) rfl⟩
theorem tc_6_51 : tc 6 51 62 0 3 := ⟨881, 883, 20, List.mem_of_getElem? (i := 47) rfl⟩
theorem tc_7_11 : tc 7 11 28 3 0 := ⟨104, 105, 0, List.mem_of_getElem? (i := 48) rfl⟩
theorem tc_7_28 : tc 7 28 30 3 0 := ⟨203, 111, 0, List.mem_of_getElem? (i := 49) rfl⟩
theorem tc_7_34 : tc 7 34 14 3 0 := ⟨206, 207, 0, List.mem_of_getElem? (i := 50) rfl⟩
theorem tc_7_41 : tc 7 41 0 3 0 := ⟨239, 240, 0, List.mem_of_getElem? (i := 51) rfl⟩
theorem tc_7_48 : tc 7 48 54 2 0 := ⟨262, 263, 0, List.mem_of_getElem? (i := 52) rfl⟩
theorem tc_7_53 : tc 7 53 102 1 3 := ⟨316, 317, 0, List.mem_of_getElem? (i := 53) rfl⟩
theorem tc_7_57 : tc 7 57 103 1 1 := ⟨319, 320, 0, List.mem_of_getElem? (i := 54) rfl⟩
theorem tc_7_61 : tc 7 61 104 1 1 := ⟨322, 323, 0, List.mem_of_getElem? (i := 55) rfl⟩
theorem tc_7_64 : tc 7 64 33 0 4 := ⟨325, 326, 327, List.mem_of_getElem? (i := 56) rfl⟩
theorem tc_7_68 : tc 7 68 32 0 1 := ⟨333, 334, 335, List.mem_of_getElem? (i := 57) rfl⟩
theorem tc_7_87 : tc 7 87 42 0 1 := ⟨337, 338, 339, List.mem_of_getElem? (i := 58) rfl⟩
theorem tc_7_91 : tc 7 91 45 0 1 := ⟨352, 353, 354, List.mem_of_getElem? (i := 59) rfl⟩
theorem tc_7_94 : tc 7 94 40 0 1 := ⟨376, 377, 378, List.mem_of_getElem? (i := 60) rfl⟩
theorem tc_7_104 : tc 7 104 35 0 1 := ⟨400, 401, 402, List.mem_of_getElem? (i := 61) rfl⟩
theorem tc_7_111 : tc 7 111 15 0 1 := ⟨412, 413, 414, List.mem_of_getElem? (i := 62) rfl⟩
theorem tc_7_117 : tc 7 117 16 0 0 := ⟨420, 421, 422, List.mem_of_getElem? (i := 63) rfl⟩
theorem tc_7_121 : tc 7 121 17 0 0 := ⟨610, 611, 612, List.mem_of_getElem? (i := 64) rfl⟩
theorem tc_7_132 : tc 7 132 34 0 0 := ⟨618, 619, 620, List.mem_of_getElem? (i := 65) rfl⟩
theorem tc_7_138 : tc 7 138 38 0 0 := ⟨622, 342, 343, List.mem_of_getElem? (i := 66) rfl⟩
theorem tc_7_141 : tc 7 141 39 0 0 := ⟨623, 624, 625, List.mem_of_getElem? (i := 67) rfl⟩
theorem tc_7_144 : tc 7 144 49 0 0 := ⟨631, 632, 633, List.mem_of_getElem? (i := 68) rfl⟩
theorem tc_7_147 : tc 7 147 31 0 1 := ⟨651, 652, 653, List.mem_of_getElem? (i := 69) rfl⟩
theorem tc_7_151 : tc 7 151 51 0 1 := ⟨656, 657, 658, List.mem_of_getElem? (i := 70) rfl⟩
theorem tc_7_154 : tc 7 154 37 0 1 := ⟨661, 662, 663, List.mem_of_getElem? (i := 71) rfl⟩
theorem tc_7_157 : tc 7 157 52 0 0 := ⟨670, 671, 672, List.mem_of_getElem? (i := 72) rfl⟩
theorem tc_7_163 : tc 7 163 106 0 1 := ⟨678, 680, 15, List.mem_of_getElem? (i := 73) rfl⟩
theorem tc_7_169 : tc 7 169 44 0 2 := ⟨695, 362, 363, List.mem_of_getElem? (i := 74) rfl⟩
theorem tc_7_177 : tc 7 177 11 0 0 := ⟨708, 709, 710, List.mem_of_getElem? (i := 75) rfl⟩
theorem tc_7_182 : tc 7 182 12 0 2 := ⟨712, 713, 714, List.mem_of_getElem? (i := 76) rfl⟩
theorem tc_7_185 : tc 7 185 107 0 0 := ⟨720, 722, 16, List.mem_of_getElem? (i := 77) rfl⟩
theorem tc_7_191 : tc 7 191 36 0 0 := ⟨733, 636, 637, List.mem_of_getElem? (i := 78) rfl⟩
theorem tc_7_194 : tc 7 194 108 1 3 := ⟨734, 735, 0, List.mem_of_getElem? (i := 79) rfl⟩
theorem tc_7_210 : tc 7 210 53 0 2 := ⟨749, 750, 751, List.mem_of_getElem? (i := 80) rfl⟩
theorem tc_7_217 : tc 7 217 55 0 1 := ⟨766, 767, 768, List.mem_of_getElem? (i := 81) rfl⟩
theorem tc_7_218 : tc 7 218 56 0 1 := ⟨771, 772, 773, List.mem_of_getElem? (i := 82) rfl⟩
theorem tc_7_224 : tc 7 224 57 0 2 := ⟨775, 776, 777, List.mem_of_getElem? (i := 83) rfl⟩
theorem tc_7_231 : tc 7 231 29 0 1 := ⟨783, 784, 785, List.mem_of_getElem? (i := 84) rfl⟩
theorem tc_7_238 : tc 7 238 1 0 0 := ⟨801, 802, 803, List.mem_of_getElem? (i := 85) rfl⟩
theorem tc_7_241 : tc 7 241 3 0 4 := ⟨805, 806, 807, List.mem_of_getElem? (i := 86) rfl⟩
theorem tc_7_245 : tc 7 245 2 0 1 := ⟨827, 828, 829, List.mem_of_getElem? (i := 87) rfl⟩
theorem tc_7_247 : tc 7 247 105 1 2 := ⟨835, 836, 0, List.mem_of_getElem? (i := 88) rfl⟩
theorem tc_7_256 : tc 7 256 58 0 3 := ⟨848, 849, 850, List.mem_of_getElem? (i := 89) rfl⟩
theorem tc_7_260 : tc 7 260 59 0 3 := ⟨860, 861, 862, List.mem_of_getElem? (i := 90) rfl⟩
theorem tc_7_264 : tc 7 264 61 0 5 := ⟨877, 878, 879, List.mem_of_getElem? (i := 91) rfl⟩
theorem tc_8_236 : tc 8 236 110 0 3 := ⟨1120, 1122, 21, List.mem_of_getElem? (i := 92) rfl⟩
theorem tc_8_240 : tc 8 240 114 0 1 := ⟨1124, 1126, 22, List.mem_of_getElem? (i := 93) rfl⟩
theorem tc_8_244 : tc 8 244 115 0 1 := ⟨1128, 1130, 23, List.mem_of_getElem? (i := 94) rfl⟩
theorem tc_8_247 : tc 8 247 113 0 1 := ⟨1136, 1138, 24, List.mem_of_getElem? (i := 95) rfl⟩
theorem tc_8_250 : tc 8 250 120 0 1 := ⟨1148, 1150, 25, List.mem_of_getElem? (i := 96) rfl⟩
theorem tc_8_254 : tc 8 254 112 0 1 := ⟨1152, 1154, 26, List.mem_of_getElem? (i := 97) rfl⟩
theorem tc_8_258 : tc 8 258 124 0 0 := ⟨1180, 1182, 30, List.mem_of_getElem? (i := 98) rfl⟩
theorem tc_8_262 : tc 8 262 125 0 1 := ⟨1188, 1190, 32, List.mem_of_getElem? (i := 99) rfl⟩
theorem tc_8_265 : tc 8 265 127 0 0 := ⟨1196, 1198, 34, List.mem_of_getElem? (i := 100) rfl⟩
theorem tc_8_269 : tc 8 269 129 0 1 := ⟨1212, 1214, 38, List.mem_of_getElem? (i := 101) rfl⟩
theorem tc_8_272 : tc 8 272 132 0 1 := ⟨1208, 1210, 37, List.mem_of_getElem? (i := 102) rfl⟩
theorem tc_8_275 : tc 8 275 128 0 0 := ⟨1192, 1194, 33, List.mem_of_getElem? (i := 103) rfl⟩
theorem tc_8_278 : tc 8 278 130 0 0 := ⟨1216, 1218, 39, List.mem_of_getElem? (i := 104) rfl⟩
theorem tc_8_281 : tc 8 281 133 0 0 := ⟨1204, 1206, 36, List.mem_of_getElem? (i := 105) rfl⟩
theorem tc_8_284 : tc 8 284 131 0 1 := ⟨1220, 1222, 40, List.mem_of_getElem? (i := 106) rfl⟩
theorem tc_8_287 : tc 8 287 126 0 2 := ⟨1184, 1186, 31, List.mem_of_getElem? (i := 107) rfl⟩
theorem tc_8_291 : tc 8 291 135 0 1 := ⟨1176, 1178, 29, List.mem_of_getElem? (i := 108) rfl⟩
theorem tc_8_294 : tc 8 294 134 0 1 := ⟨1200, 1202, 35, List.mem_of_getElem? (i := 109) rfl⟩
theorem tc_8_297 : tc 8 297 136 0 1 := ⟨1172, 1174, 28, List.mem_of_getElem? (i := 110) rfl⟩
theorem tc_8_300 : tc 8 300 137 0 1 := ⟨1168, 1170, 27, List.mem_of_getElem? (i := 111) rfl⟩
theorem tc_8_303 : tc 8 303 139 0 0 := ⟨1236, 1238, 43, List.mem_of_getElem? (i := 112) rfl⟩
theorem tc_8_306 : tc 8 306 140 0 0 := ⟨1240, 1242, 44, List.mem_of_getElem? (i := 113) rfl⟩
theorem tc_8_309 : tc 8 309 142 0 2 := ⟨1276, 1278, 53, List.mem_of_getElem? (i := 114) rfl⟩
theorem tc_8_313 : tc 8 313 143 0 2 := ⟨1272, 1274, 52, List.mem_of_getElem? (i := 115) rfl⟩
theorem tc_8_316 : tc 8 316 141 0 2 := ⟨1232, 1234, 42, List.mem_of_getElem? (i := 116) rfl⟩
theorem tc_8_319 : tc 8 319 145 0 1 := ⟨1244, 1246, 45, List.mem_of_getElem? (i := 117) rfl⟩
theorem tc_8_322 : tc 8 322 147 0 2 := ⟨1256, 1258, 48, List.mem_of_getElem? (i := 118) rfl⟩
theorem tc_8_325 : tc 8 325 146 0 1 := ⟨1228, 1230, 41, List.mem_of_getElem? (i := 119) rfl⟩
theorem tc_8_328 : tc 8 328 149 0 1 := ⟨1252, 1254, 47, List.mem_of_getElem? (i := 120) rfl⟩
theorem tc_8_331 : tc 8 331 148 0 1 := ⟨1260, 1262, 49, List.mem_of_getElem? (i := 121) rfl⟩
theorem tc_8_334 : tc 8 334 150 0 1 := ⟨1264, 1266, 50, List.mem_of_getElem? (i := 122) rfl⟩
theorem tc_8_337 : tc 8 337 151 0 1 := ⟨1248, 1250, 46, List.mem_of_getElem? (i := 123) rfl⟩
theorem tc_8_340 : tc 8 340 144 0 1 := ⟨1268, 1270, 51, List.mem_of_getElem? (i := 124) rfl⟩
theorem tc_8_343 : tc 8 343 111 0 2 := ⟨1296, 1298, 56, List.mem_of_getElem? (i := 125) rfl⟩
theorem tc_8_346 : tc 8 346 154 0 0 := ⟨1288, 1290, 54, List.mem_of_getElem? (i := 126) rfl⟩
theorem tc_8_349 : tc 8 349 155 0 0 := ⟨1292, 1294, 55, List.mem_of_getElem? (i := 127) rfl⟩
theorem tc_8_353 : tc 8 353 157 0 0 := ⟨1304, 1306, 57, List.mem_of_getElem? (i := 128) rfl⟩
theorem tc_8_356 : tc 8 356 159 0 1 := ⟨1309, 1311, 58, List.mem_of_getElem? (i := 129) rfl⟩
theorem tc_8_359 : tc 8 359 158 0 0 := ⟨1313, 1315, 59, List.mem_of_getElem? (i := 130) rfl⟩
theorem tc_8_362 : tc 8 362 161 0 0 := ⟨1325, 1327, 61, List.mem_of_getElem? (i := 131) rfl⟩
theorem tc_8_365 : tc 8 365 162 0 0 := ⟨1321, 1323, 60, List.mem_of_getElem? (i := 132) rfl⟩
theorem tc_8_368 : tc 8 368 116 0 1 := ⟨1337, 1339, 62, List.mem_of_getElem? (i := 133) rfl⟩
theorem tc_8_371 : tc 8 371 171 0 1 := ⟨1365, 1367, 63, List.mem_of_getElem? (i := 134) rfl⟩
theorem tc_8_374 : tc 8 374 174 0 2 := ⟨1382, 1384, 65, List.mem_of_getElem? (i := 135) rfl⟩
theorem tc_8_379 : tc 8 379 175 0 3 := ⟨1378, 1380, 64, List.mem_of_getElem? (i := 136) rfl⟩
theorem tc_8_383 : tc 8 383 197 0 1 := ⟨1410, 1412, 66, List.mem_of_getElem? (i := 137) rfl⟩
theorem tc_8_386 : tc 8 386 185 0 1 := ⟨1430, 1432, 68, List.mem_of_getElem? (i := 138) rfl⟩
theorem tc_8_389 : tc 8 389 186 0 2 := ⟨1434, 1436, 69, List.mem_of_getElem? (i := 139) rfl⟩
theorem tc_8_392 : tc 8 392 187 0 2 := ⟨1426, 1428, 67, List.mem_of_getElem? (i := 140) rfl⟩
theorem tc_8_395 : tc 8 395 188 0 2 := ⟨1446, 1448, 72, List.mem_of_getElem? (i := 141) rfl⟩
theorem tc_8_398 : tc 8 398 189 0 2 := ⟨1442, 1444, 71, List.mem_of_getElem? (i := 142) rfl⟩
theorem tc_8_401 : tc 8 401 190 0 2 := ⟨1438, 1440, 70, List.mem_of_getElem? (i := 143) rfl⟩
theorem tc_8_404 : tc 8 404 191 0 2 := ⟨1454, 1456, 74, List.mem_of_getElem? (i := 144) rfl⟩
theorem tc_8_407 : tc 8 407 192 0 2 := ⟨1450, 1452, 73, List.mem_of_getElem? (i := 145) rfl⟩
theorem tc_8_410 : tc 8 410 199 0 2 := ⟨1478, 1480, 75, List.mem_of_getElem? (i := 146) rfl⟩
theorem tc_9_9 : tc 9 9 63 2 0 := ⟨96, 97, 0, List.mem_of_getElem? (i := 147) rfl⟩
theorem tc_9_12 : tc 9 12 109 2 0 := ⟨888, 889, 0, List.mem_of_getElem? (i := 148) rfl⟩
theorem tc_9_13 : tc 9 13 64 0 4 := ⟨312, 313, 314, List.mem_of_getElem? (i := 149) rfl⟩
theorem tc_9_17 : tc 9 17 117 0 4 := ⟨1116, 1117, 1118, List.mem_of_getElem? (i := 150) rfl⟩
theorem tc_9_18 : tc 9 18 65 0 2 := ⟨329, 330, 331, List.mem_of_getElem? (i := 151) rfl⟩
theorem tc_9_22 : tc 9 22 152 0 2 := ⟨1224, 1225, 1226, List.mem_of_getElem? (i := 152) rfl⟩
theorem tc_9_23 : tc 9 23 66 0 3 := ⟨388, 389, 390, List.mem_of_getElem? (i := 153) rfl⟩
theorem tc_9_27 : tc 9 27 118 0 3 := ⟨1132, 1133, 1134, List.mem_of_getElem? (i := 154) rfl⟩
theorem tc_9_28 : tc 9 28 67 0 3 := ⟨392, 393, 394, List.mem_of_getElem? (i := 155) rfl⟩
theorem tc_9_31 : tc 9 31 119 0 3 := ⟨1140, 1141, 1142, List.mem_of_getElem? (i := 156) rfl⟩
theorem tc_9_32 : tc 9 32 68 0 1 := ⟨396, 397, 398, List.mem_of_getElem? (i := 157) rfl⟩
theorem tc_9_36 : tc 9 36 121 0 1 := ⟨1144, 1145, 1146, List.mem_of_getElem? (i := 158) rfl⟩
theorem tc_9_37 : tc 9 37 69 0 1 := ⟨404, 405, 406, List.mem_of_getElem? (i := 159) rfl⟩
theorem tc_9_40 : tc 9 40 122 0 1 := ⟨1156, 1157, 1158, List.mem_of_getElem? (i := 160) rfl⟩
theorem tc_9_41 : tc 9 41 70 0 1 := ⟨408, 409, 410, List.mem_of_getElem? (i := 161) rfl⟩
theorem tc_9_44 : tc 9 44 123 0 1 := ⟨1160, 1161, 1162, List.mem_of_getElem? (i := 162) rfl⟩
theorem tc_9_45 : tc 9 45 71 0 0 := ⟨416, 417, 418, List.mem_of_getElem? (i := 163) rfl⟩
theorem tc_9_49 : tc 9 49 138 0 0 := ⟨1164, 1165, 1166, List.mem_of_getElem? (i := 164) rfl⟩
theorem tc_9_50 : tc 9 50 72 0 1 := ⟨614, 615, 616, List.mem_of_getElem? (i := 165) rfl⟩
theorem tc_9_53 : tc 9 53 153 0 1 := ⟨1280, 1281, 1282, List.mem_of_getElem? (i := 166) rfl⟩
theorem tc_9_54 : tc 9 54 73 0 0 := ⟨627, 628, 629, List.mem_of_getElem? (i := 167) rfl⟩
theorem tc_9_57 : tc 9 57 156 0 0 := ⟨1284, 1285, 1286, List.mem_of_getElem? (i := 168) rfl⟩
theorem tc_9_58 : tc 9 58 74 0 2 := ⟨647, 648, 649, List.mem_of_getElem? (i := 169) rfl⟩
theorem tc_9_61 : tc 9 61 160 0 2 := ⟨1300, 1301, 1302, List.mem_of_getElem? (i := 170) rfl⟩
theorem tc_9_62 : tc 9 62 75 0 0 := ⟨666, 667, 668, List.mem_of_getElem? (i := 171) rfl⟩
theorem tc_9_65 : tc 9 65 163 0 0 := ⟨1317, 1318, 1319, List.mem_of_getElem? (i := 172) rfl⟩
theorem tc_9_66 : tc 9 66 76 0 0 := ⟨674, 675, 676, List.mem_of_getElem? (i := 173) rfl⟩
theorem tc_9_69 : tc 9 69 164 0 0 := ⟨1329, 1330, 1331, List.mem_of_getElem? (i := 174) rfl⟩
theorem tc_9_70 : tc 9 70 77 0 3 := ⟨682, 683, 684, List.mem_of_getElem? (i := 175) rfl⟩
theorem tc_9_73 : tc 9 73 165 0 3 := ⟨1333, 1334, 1335, List.mem_of_getElem? (i := 176) rfl⟩
theorem tc_9_74 : tc 9 74 78 0 2 := ⟨687, 688, 689, List.mem_of_getElem? (i := 177) rfl⟩
theorem tc_9_77 : tc 9 77 166 0 2 := ⟨1341, 1342, 1343, List.mem_of_getElem? (i := 178) rfl⟩
theorem tc_9_78 : tc 9 78 79 0 1 := ⟨691, 692, 693, List.mem_of_getElem? (i := 179) rfl⟩
theorem tc_9_81 : tc 9 81 167 0 1 := ⟨1345, 1346, 1347, List.mem_of_getElem? (i := 180) rfl⟩
theorem tc_9_82 : tc 9 82 80 0 0 := ⟨696, 697, 698, List.mem_of_getElem? (i := 181) rfl⟩
theorem tc_9_85 : tc 9 85 168 0 0 := ⟨1349, 1350, 1351, List.mem_of_getElem? (i := 182) rfl⟩
theorem tc_9_86 : tc 9 86 81 0 1 := ⟨700, 701, 702, List.mem_of_getElem? (i := 183) rfl⟩
theorem tc_9_89 : tc 9 89 169 0 1 := ⟨1353, 1354, 1355, List.mem_of_getElem? (i := 184) rfl⟩
theorem tc_9_90 : tc 9 90 82 0 2 := ⟨704, 705, 706, List.mem_of_getElem? (i := 185) rfl⟩
theorem tc_9_93 : tc 9 93 170 0 2 := ⟨1357, 1358, 1359, List.mem_of_getElem? (i := 186) rfl⟩
theorem tc_9_94 : tc 9 94 83 0 0 := ⟨716, 717, 718, List.mem_of_getElem? (i := 187) rfl⟩
theorem tc_9_97 : tc 9 97 172 0 0 := ⟨1361, 1362, 1363, List.mem_of_getElem? (i := 188) rfl⟩
theorem tc_9_98 : tc 9 98 84 0 2 := ⟨724, 725, 726, List.mem_of_getElem? (i := 189) rfl⟩
theorem tc_9_101 : tc 9 101 173 0 2 := ⟨1369, 1370, 1371, List.mem_of_getElem? (i := 190) rfl⟩
theorem tc_9_102 : tc 9 102 85 0 2 := ⟨728, 729, 730, List.mem_of_getElem? (i := 191) rfl⟩
theorem tc_9_106 : tc 9 106 176 0 2 := ⟨1373, 1374, 1375, List.mem_of_getElem? (i := 192) rfl⟩
theorem tc_9_107 : tc 9 107 86 0 2 := ⟨737, 738, 739, List.mem_of_getElem? (i := 193) rfl⟩
theorem tc_9_110 : tc 9 110 177 0 2 := ⟨1386, 1387, 1388, List.mem_of_getElem? (i := 194) rfl⟩
theorem tc_9_111 : tc 9 111 87 0 2 := ⟨741, 742, 743, List.mem_of_getElem? (i := 195) rfl⟩
theorem tc_9_114 : tc 9 114 178 0 2 := ⟨1390, 1391, 1392, List.mem_of_getElem? (i := 196) rfl⟩
theorem tc_9_115 : tc 9 115 88 0 1 := ⟨745, 746, 747, List.mem_of_getElem? (i := 197) rfl⟩
theorem tc_9_118 : tc 9 118 179 0 1 := ⟨1394, 1395, 1396, List.mem_of_getElem? (i := 198) rfl⟩
theorem tc_9_119 : tc 9 119 89 0 2 := ⟨754, 755, 756, List.mem_of_getElem? (i := 199) rfl⟩
theorem tc_9_122 : tc 9 122 180 0 2 := ⟨1398, 1399, 1400, List.mem_of_getElem? (i := 200) rfl⟩
theorem tc_9_123 : tc 9 123 90 0 0 := ⟨758, 759, 760, List.mem_of_getElem? (i := 201) rfl⟩
theorem tc_9_126 : tc 9 126 181 0 0 := ⟨1402, 1403, 1404, List.mem_of_getElem? (i := 202) rfl⟩
theorem tc_9_127 : tc 9 127 91 0 2 := ⟨762, 763, 764, List.mem_of_getElem? (i := 203) rfl⟩
theorem tc_9_130 : tc 9 130 182 0 2 := ⟨1406, 1407, 1408, List.mem_of_getElem? (i := 204) rfl⟩
theorem tc_9_131 : tc 9 131 92 0 0 := ⟨779, 780, 781, List.mem_of_getElem? (i := 205) rfl⟩
theorem tc_9_134 : tc 9 134 183 0 0 := ⟨1414, 1415, 1416, List.mem_of_getElem? (i := 206) rfl⟩
theorem tc_9_135 : tc 9 135 93 0 0 := ⟨793, 794, 795, List.mem_of_getElem? (i := 207) rfl⟩
theorem tc_9_138 : tc 9 138 184 0 0 := ⟨1418, 1419, 1420, List.mem_of_getElem? (i := 208) rfl⟩
theorem tc_9_139 : tc 9 139 94 0 3 := ⟨797, 798, 799, List.mem_of_getElem? (i := 209) rfl⟩
theorem tc_9_142 : tc 9 142 193 0 3 := ⟨1422, 1423, 1424, List.mem_of_getElem? (i := 210) rfl⟩
theorem tc_9_143 : tc 9 143 95 0 1 := ⟨823, 824, 825, List.mem_of_getElem? (i := 211) rfl⟩
theorem tc_9_146 : tc 9 146 194 0 1 := ⟨1458, 1459, 1460, List.mem_of_getElem? (i := 212) rfl⟩
theorem tc_9_147 : tc 9 147 96 0 2 := ⟨831, 832, 833, List.mem_of_getElem? (i := 213) rfl⟩
theorem tc_9_150 : tc 9 150 195 0 2 := ⟨1462, 1463, 1464, List.mem_of_getElem? (i := 214) rfl⟩
theorem tc_9_151 : tc 9 151 97 0 1 := ⟨840, 841, 842, List.mem_of_getElem? (i := 215) rfl⟩
theorem tc_9_154 : tc 9 154 196 0 1 := ⟨1466, 1467, 1468, List.mem_of_getElem? (i := 216) rfl⟩
theorem tc_9_155 : tc 9 155 98 0 3 := ⟨844, 845, 846, List.mem_of_getElem? (i := 217) rfl⟩
theorem tc_9_158 : tc 9 158 198 0 3 := ⟨1470, 1471, 1472, List.mem_of_getElem? (i := 218) rfl⟩
theorem tc_9_161 : tc 9 161 99 0 3 := ⟨856, 857, 858, List.mem_of_getElem? (i := 219) rfl⟩
theorem tc_9_165 : tc 9 165 200 0 3 := ⟨1474, 1475, 1476, List.mem_of_getElem? (i := 220) rfl⟩
theorem tc_9_166 : tc 9 166 100 0 2 := ⟨869, 870, 871, List.mem_of_getElem? (i := 221) rfl⟩
theorem tc_9_169 : tc 9 169 201 0 2 := ⟨1482, 1483, 1484, List.mem_of_getElem? (i := 222) rfl⟩
theorem tc_9_170 : tc 9 170 101 0 5 := ⟨873, 874, 875, List.mem_of_getElem? (i := 223) rfl⟩
theorem tc_9_174 : tc 9 174 202 0 5 := ⟨1486, 1487, 1488, List.mem_of_getElem? (i := 224) rfl⟩
theorem tc_10_335 : tc 10 335 207 0 0 := ⟨444, 445, 446, List.mem_of_getElem? (i := 225) rfl⟩
theorem tc_10_492 : tc 10 492 208 0 0 := ⟨454, 455, 456, List.mem_of_getElem? (i := 226) rfl⟩
theorem tc_10_495 : tc 10 495 210 1 2 := ⟨458, 459, 0, List.mem_of_getElem? (i := 227) rfl⟩
theorem tc_10_505 : tc 10 505 203 0 0 := ⟨521, 441, 442, List.mem_of_getElem? (i := 228) rfl⟩
theorem tc_10_633 : tc 10 633 206 0 2 := ⟨517, 518, 519, List.mem_of_getElem? (i := 229) rfl⟩
theorem tc_10_637 : tc 10 637 212 1 4 := ⟨522, 523, 0, List.mem_of_getElem? (i := 230) rfl⟩
theorem tc_10_1059 : tc 10 1059 214 1 3 := ⟨466, 467, 0, List.mem_of_getElem? (i := 231) rfl⟩
theorem tc_11_9 : tc 11 9 209 1 2 := ⟨461, 462, 0, List.mem_of_getElem? (i := 232) rfl⟩
theorem tc_11_88 : tc 11 88 211 1 1 := ⟨525, 526, 0, List.mem_of_getElem? (i := 233) rfl⟩
theorem tc_11_95 : tc 11 95 213 1 4 := ⟨532, 533, 0, List.mem_of_getElem? (i := 234) rfl⟩
def tn (own idx ci : Nat) : Prop := ∃ r : vw_C, vwCl[ci]? = some r ∧ Cond.classLink (cn own) idx r.1 ∈ lw_tbl ∧ Cond.instantiable r.1 r.2.2 ∈ lw_tbl ∧ Cond.initialized r.1 ∈ lw_tbl
set_option maxRecDepth 100000 in
theorem tn_3_45 : tn 3 45 1 := ⟨_, rfl, List.mem_of_getElem? (i := 578) (by decide +kernel), List.mem_of_getElem? (i := 579) (by decide +kernel), List.mem_of_getElem? (i := 92) (by decide +kernel)⟩
set_option maxRecDepth 100000 in
theorem tn_4_9 : tn 4 9 5 := ⟨_, rfl, List.mem_of_getElem? (i := 108) (by decide +kernel), List.mem_of_getElem? (i := 109) (by decide +kernel), List.mem_of_getElem? (i := 79) (by decide +kernel)⟩
set_option maxRecDepth 100000 in
theorem tn_4_18 : tn 4 18 2 := ⟨_, rfl, List.mem_of_getElem? (i := 166) (by decide +kernel), List.mem_of_getElem? (i := 167) (by decide +kernel), List.mem_of_getElem? (i := 80) (by decide +kernel)⟩
set_option maxRecDepth 100000 in
theorem tn_7_9 : tn 7 9 4 := ⟨_, rfl, List.mem_of_getElem? (i := 102) (by decide +kernel), List.mem_of_getElem? (i := 103) (by decide +kernel), List.mem_of_getElem? (i := 78) (by decide +kernel)⟩
set_option maxRecDepth 100000 in
theorem tn_7_26 : tn 7 26 5 := ⟨_, rfl, List.mem_of_getElem? (i := 202) (by decide +kernel), List.mem_of_getElem? (i := 109) (by decide +kernel), List.mem_of_getElem? (i := 79) (by decide +kernel)⟩
set_option maxRecDepth 100000 in
theorem tn_7_32 : tn 7 32 3 := ⟨_, rfl, List.mem_of_getElem? (i := 204) (by decide +kernel), List.mem_of_getElem? (i := 205) (by decide +kernel), List.mem_of_getElem? (i := 81) (by decide +kernel)⟩
set_option maxRecDepth 100000 in
theorem tn_7_39 : tn 7 39 0 := ⟨_, rfl, List.mem_of_getElem? (i := 237) (by decide +kernel), List.mem_of_getElem? (i := 238) (by decide +kernel), List.mem_of_getElem? (i := 82) (by decide +kernel)⟩
set_option maxRecDepth 100000 in
theorem tn_7_46 : tn 7 46 6 := ⟨_, rfl, List.mem_of_getElem? (i := 260) (by decide +kernel), List.mem_of_getElem? (i := 261) (by decide +kernel), List.mem_of_getElem? (i := 83) (by decide +kernel)⟩
set_option maxRecDepth 100000 in
theorem tn_9_7 : tn 9 7 7 := ⟨_, rfl, List.mem_of_getElem? (i := 94) (by decide +kernel), List.mem_of_getElem? (i := 95) (by decide +kernel), List.mem_of_getElem? (i := 77) (by decide +kernel)⟩
set_option maxRecDepth 100000 in
theorem tn_9_10 : tn 9 10 8 := ⟨_, rfl, List.mem_of_getElem? (i := 886) (by decide +kernel), List.mem_of_getElem? (i := 887) (by decide +kernel), List.mem_of_getElem? (i := 85) (by decide +kernel)⟩
set_option maxRecDepth 100000 in
theorem iw_X0 : u_ws RX0 TX0 5 = [249, 251, 253, 255, 257].filterMap (fun i => lw_tbl[i]?) := by decide +kernel
set_option maxRecDepth 100000 in
theorem iw_X1 : u_ws RX1 TX1 3 = [603, 605, 607].filterMap (fun i => lw_tbl[i]?) := by decide +kernel
set_option maxRecDepth 100000 in
theorem iw_X2 : u_ws RX2 TX2 3 = [178, 180, 182].filterMap (fun i => lw_tbl[i]?) := by decide +kernel
set_option maxRecDepth 100000 in
theorem iw_X3 : u_ws RX3 TX3 8 = [219, 221, 223, 225, 227, 229, 231, 233].filterMap (fun i => lw_tbl[i]?) := by decide +kernel
set_option maxRecDepth 100000 in
theorem iw_X4 : u_ws RX4 TX4 4 = [193, 195, 197, 199].filterMap (fun i => lw_tbl[i]?) := by decide +kernel
set_option maxRecDepth 100000 in
theorem iw_X5 : u_ws RX5 TX5 12 = [140, 142, 144, 146, 148, 150, 152, 154, 156, 158, 160, 162].filterMap (fun i => lw_tbl[i]?) := by decide +kernel
set_option maxRecDepth 100000 in
theorem iw_X6 : u_ws RX6 TX6 3 = [276, 278, 280].filterMap (fun i => lw_tbl[i]?) := by decide +kernel
set_option maxRecDepth 100000 in
theorem iw_X7 : u_ws RX7 TX7 9 = [293, 295, 297, 299, 301, 303, 305, 307, 309].filterMap (fun i => lw_tbl[i]?) := by decide +kernel
set_option maxRecDepth 100000 in
theorem iw_X8 : u_ws RX8 TX8 74 = [966, 968, 970, 972, 974, 976, 978, 980, 982, 984, 986, 988, 990, 992, 994, 996, 998, 1000, 1002, 1004, 1006, 1008, 1010, 1012, 1014, 1016, 1018, 1020, 1022, 1024, 1026, 1028, 1030, 1032, 1034, 1036, 1038, 1040, 1042, 1044, 1046, 1048, 1050, 1052, 1054, 1056, 1058, 1060, 1062, 1064, 1066, 1068, 1070, 1072, 1074, 1076, 1078, 1080, 1082, 1084, 1086, 1088, 1090, 1092, 1094, 1096, 1098, 1100, 1102, 1104, 1106, 1108, 1110, 1112].filterMap (fun i => lw_tbl[i]?) := by decide +kernel
set_option maxRecDepth 100000 in
theorem tx_i : Cond.initialized "java/lang/Math" ∈ lw_tbl := List.mem_of_getElem? (i := 86) (by decide +kernel)
set_option maxRecDepth 100000 in
theorem tq_ini : Cond.initialized "java/lang/System" ∈ lw_tbl := List.mem_of_getElem? (i := 93) (by decide +kernel)
set_option maxRecDepth 100000 in
theorem to_7_3 : Cond.methodLink (cn 7) 3 Lib.objectInit ∈ lw_tbl := List.mem_of_getElem? (i := 99) (by decide +kernel)
set_option maxRecDepth 100000 in
theorem to_inst : Cond.instanceMethod Lib.objectInit ∈ lw_tbl := List.mem_of_getElem? (i := 100) (by decide +kernel)
set_option maxRecDepth 100000 in
theorem to_code : Cond.code Lib.objectInit ⟨#[0xb1]⟩ 1 none ∈ lw_tbl := List.mem_of_getElem? (i := 101) (by decide +kernel)
set_option maxRecDepth 100000 in
theorem to_4_3 : Cond.methodLink (cn 4) 3 Lib.objectInit ∈ lw_tbl := List.mem_of_getElem? (i := 107) (by decide +kernel)
set_option maxRecDepth 100000 in
theorem to_5_3 : Cond.methodLink (cn 5) 3 Lib.objectInit ∈ lw_tbl := List.mem_of_getElem? (i := 113) (by decide +kernel)
set_option maxRecDepth 100000 in
theorem ta_int : Cond.arrayClass .int ∈ lw_tbl := List.mem_of_getElem? (i := 165) (by decide +kernel)
set_option maxRecDepth 100000 in
theorem to_2_3 : Cond.methodLink (cn 2) 3 Lib.objectInit ∈ lw_tbl := List.mem_of_getElem? (i := 171) (by decide +kernel)
set_option maxRecDepth 100000 in
theorem to_3_3 : Cond.methodLink (cn 3) 3 Lib.objectInit ∈ lw_tbl := List.mem_of_getElem? (i := 209) (by decide +kernel)
set_option maxRecDepth 100000 in
theorem ta_byte : Cond.arrayClass .byte ∈ lw_tbl := List.mem_of_getElem? (i := 236) (by decide +kernel)
set_option maxRecDepth 100000 in
theorem to_0_3 : Cond.methodLink (cn 0) 3 Lib.objectInit ∈ lw_tbl := List.mem_of_getElem? (i := 242) (by decide +kernel)
set_option maxRecDepth 100000 in
theorem to_6_3 : Cond.methodLink (cn 6) 3 Lib.objectInit ∈ lw_tbl := List.mem_of_getElem? (i := 265) (by decide +kernel)
set_option maxRecDepth 100000 in
theorem tw_6_18 : Cond.classLink (cn 6) 18 "[[J" ∈ lw_tbl := List.mem_of_getElem? (i := 266) (by decide +kernel)
set_option maxRecDepth 100000 in
theorem ta_over : Cond.arrayOver (.array .long) ∈ lw_tbl := List.mem_of_getElem? (i := 267) (by decide +kernel)
set_option maxRecDepth 100000 in
theorem ta_long : Cond.arrayClass .long ∈ lw_tbl := List.mem_of_getElem? (i := 283) (by decide +kernel)
set_option maxRecDepth 100000 in
theorem tx_5_74 : Cond.methodLink (cn 5) 74 Lib.Math.max.name ∈ lw_tbl := List.mem_of_getElem? (i := 345) (by decide +kernel)
set_option maxRecDepth 100000 in
theorem tx_s_max : Cond.static Lib.Math.max.name ∈ lw_tbl := List.mem_of_getElem? (i := 346) (by decide +kernel)
set_option maxRecDepth 100000 in
theorem tx_c_max : Cond.code Lib.Math.max.name Lib.Math.max.code 2 (some .int) ∈ lw_tbl := List.mem_of_getElem? (i := 347) (by decide +kernel)
set_option maxRecDepth 100000 in
theorem tx_5_84 : Cond.methodLink (cn 5) 84 Lib.Math.abs.name ∈ lw_tbl := List.mem_of_getElem? (i := 365) (by decide +kernel)
set_option maxRecDepth 100000 in
theorem tx_s_abs : Cond.static Lib.Math.abs.name ∈ lw_tbl := List.mem_of_getElem? (i := 366) (by decide +kernel)
set_option maxRecDepth 100000 in
theorem tx_c_abs : Cond.code Lib.Math.abs.name Lib.Math.abs.code 1 (some .int) ∈ lw_tbl := List.mem_of_getElem? (i := 367) (by decide +kernel)
set_option maxRecDepth 100000 in
theorem tr_3_75 : Cond.stringRef (cn 3) 75 "rain " ∈ lw_tbl := List.mem_of_getElem? (i := 436) (by decide +kernel)
set_option maxRecDepth 100000 in
theorem tr_3_77 : Cond.stringRef (cn 3) 77 "dry " ∈ lw_tbl := List.mem_of_getElem? (i := 437) (by decide +kernel)
set_option maxRecDepth 100000 in
theorem tr_3_79 : Cond.stringRef (cn 3) 79 "far " ∈ lw_tbl := List.mem_of_getElem? (i := 438) (by decide +kernel)
set_option maxRecDepth 100000 in
theorem tr_3_81 : Cond.stringRef (cn 3) 81 "cost " ∈ lw_tbl := List.mem_of_getElem? (i := 439) (by decide +kernel)
set_option maxRecDepth 100000 in
theorem ts_10_38 : Cond.fieldLink (cn 10) 38 "java/lang/String" "COMPACT_STRINGS" "Z" ∈ lw_tbl := List.mem_of_getElem? (i := 448) (by decide +kernel)
set_option maxRecDepth 100000 in
theorem ts_10_1053 : Cond.fieldLink (cn 10) 1053 "jdk/internal/util/Preconditions" "SIOOBE_FORMATTER" "Ljava/util/function/BiFunction;" ∈ lw_tbl := List.mem_of_getElem? (i := 464) (by decide +kernel)
set_option maxRecDepth 100000 in
theorem tr_3_97 : Cond.stringRef (cn 3) 97 "pkdhws" ∈ lw_tbl := List.mem_of_getElem? (i := 508) (by decide +kernel)
set_option maxRecDepth 100000 in
theorem tx_11_92 : Cond.methodLink (cn 11) 92 Lib.Math.max.name ∈ lw_tbl := List.mem_of_getElem? (i := 528) (by decide +kernel)
set_option maxRecDepth 100000 in
theorem tx_11_38 : Cond.methodLink (cn 11) 38 Lib.Math.min.name ∈ lw_tbl := List.mem_of_getElem? (i := 529) (by decide +kernel)
set_option maxRecDepth 100000 in
theorem tx_s_min : Cond.static Lib.Math.min.name ∈ lw_tbl := List.mem_of_getElem? (i := 530) (by decide +kernel)
set_option maxRecDepth 100000 in
theorem tx_c_min : Cond.code Lib.Math.min.name Lib.Math.min.code 2 (some .int) ∈ lw_tbl := List.mem_of_getElem? (i := 531) (by decide +kernel)
set_option maxRecDepth 100000 in
theorem tr_3_103 : Cond.stringRef (cn 3) 103 "<=>" ∈ lw_tbl := List.mem_of_getElem? (i := 570) (by decide +kernel)
set_option maxRecDepth 100000 in
theorem tcl_link : Cond.methodLink (cn 13) 316 ⟨"[I", "clone", "()Ljava/lang/Object;"⟩ ∈ lw_tbl := List.mem_of_getElem? (i := 583) (by decide +kernel)
set_option maxRecDepth 100000 in
theorem ta_same : Cond.sameMethod "[I" "java/lang/Object" "clone" "()Ljava/lang/Object;" ∈ lw_tbl := List.mem_of_getElem? (i := 584) (by decide +kernel)
set_option maxRecDepth 100000 in
theorem ta_nat_clone : Cond.native ⟨"java/lang/Object", "clone", "()Ljava/lang/Object;"⟩ ∈ lw_tbl := List.mem_of_getElem? (i := 585) (by decide +kernel)
set_option maxRecDepth 100000 in
theorem tcl_inst : Cond.instanceMethod ⟨"java/lang/Object", "clone", "()Ljava/lang/Object;"⟩ ∈ lw_tbl := List.mem_of_getElem? (i := 586) (by decide +kernel)
set_option maxRecDepth 100000 in
theorem tcl_sel : Cond.selects "[I" ⟨"[I", "clone", "()Ljava/lang/Object;"⟩ ⟨"java/lang/Object", "clone", "()Ljava/lang/Object;"⟩ ∈ lw_tbl := List.mem_of_getElem? (i := 587) (by decide +kernel)
set_option maxRecDepth 100000 in
theorem ta_cast : Cond.castable "[I" "java/lang/Cloneable" ∈ lw_tbl := List.mem_of_getElem? (i := 588) (by decide +kernel)
set_option maxRecDepth 100000 in
theorem tw_13_317 : Cond.classLink (cn 13) 317 "[I" ∈ lw_tbl := List.mem_of_getElem? (i := 589) (by decide +kernel)
set_option maxRecDepth 100000 in
theorem tx_13_304 : Cond.methodLink (cn 13) 304 Lib.Math.min.name ∈ lw_tbl := List.mem_of_getElem? (i := 590) (by decide +kernel)
set_option maxRecDepth 100000 in
theorem tq_13_150 : Cond.methodLink (cn 13) 150 arraycopyName ∈ lw_tbl := List.mem_of_getElem? (i := 591) (by decide +kernel)
set_option maxRecDepth 100000 in
theorem tq_stat : Cond.static arraycopyName ∈ lw_tbl := List.mem_of_getElem? (i := 592) (by decide +kernel)
set_option maxRecDepth 100000 in
theorem ta_nat_arraycopy : Cond.native ⟨"java/lang/System", "arraycopy", "(Ljava/lang/Object;ILjava/lang/Object;II)V"⟩ ∈ lw_tbl := List.mem_of_getElem? (i := 593) (by decide +kernel)
set_option maxRecDepth 100000 in
theorem to_1_1 : Cond.methodLink (cn 1) 1 Lib.objectInit ∈ lw_tbl := List.mem_of_getElem? (i := 597) (by decide +kernel)
set_option maxRecDepth 100000 in
theorem tx_5_115 : Cond.methodLink (cn 5) 115 Lib.Math.min.name ∈ lw_tbl := List.mem_of_getElem? (i := 645) (by decide +kernel)
set_option maxRecDepth 100000 in
theorem tq_5_34 : Cond.methodLink (cn 5) 34 arraycopyName ∈ lw_tbl := List.mem_of_getElem? (i := 655) (by decide +kernel)
set_option maxRecDepth 100000 in
theorem tk_7_168 : Cond.constant (cn 7) 168 (2147483647) ∈ lw_tbl := List.mem_of_getElem? (i := 686) (by decide +kernel)
set_option maxRecDepth 100000 in
theorem tk_7_189 : Cond.constantLong (cn 7) 189 (-9223372036854775808) ∈ lw_tbl := List.mem_of_getElem? (i := 732) (by decide +kernel)
set_option maxRecDepth 100000 in
theorem tq_2_22 : Cond.methodLink (cn 2) 22 arraycopyName ∈ lw_tbl := List.mem_of_getElem? (i := 792) (by decide +kernel)
set_option maxRecDepth 100000 in
theorem ts_0_39 : Cond.fieldLink (cn 0) 39 "LastAtPump$Acts" "BODIES" "[I" ∈ lw_tbl := List.mem_of_getElem? (i := 813) (by decide +kernel)
set_option maxRecDepth 100000 in
theorem ts_7_268 : Cond.fieldLink (cn 7) 268 "LastAtPump" "ABOVE" "[I" ∈ lw_tbl := List.mem_of_getElem? (i := 838) (by decide +kernel)
set_option maxRecDepth 100000 in
theorem tq_6_54 : Cond.methodLink (cn 6) 54 arraycopyName ∈ lw_tbl := List.mem_of_getElem? (i := 885) (by decide +kernel)
set_option maxRecDepth 100000 in
theorem to_8_1 : Cond.methodLink (cn 8) 1 Lib.objectInit ∈ lw_tbl := List.mem_of_getElem? (i := 891) (by decide +kernel)
set_option maxRecDepth 100000 in
theorem ta_boolean : Cond.arrayClass .boolean ∈ lw_tbl := List.mem_of_getElem? (i := 1115) (by decide +kernel)
set_option maxRecDepth 100000 in
theorem tk_8_352 : Cond.constant (cn 8) 352 (2000000000) ∈ lw_tbl := List.mem_of_getElem? (i := 1308) (by decide +kernel)
set_option maxRecDepth 100000 in
theorem tk_8_377 : Cond.constantLong (cn 8) 377 (-9223372036854775808) ∈ lw_tbl := List.mem_of_getElem? (i := 1377) (by decide +kernel)
set_option maxRecDepth 100000 in
theorem tk_9_159 : Cond.constantLong (cn 9) 159 (4294967295) ∈ lw_tbl := List.mem_of_getElem? (i := 1490) (by decide +kernel)
set_option maxRecDepth 100000 in
theorem ts_10_9 : Cond.fieldLink (cn 10) 9 "java/lang/String" "value" "[B" ∈ lw_tbl := List.mem_of_getElem? (i := 1491) (by decide +kernel)
set_option maxRecDepth 100000 in
theorem ts_10_15 : Cond.fieldLink (cn 10) 15 "java/lang/String" "coder" "B" ∈ lw_tbl := List.mem_of_getElem? (i := 1492) (by decide +kernel)
