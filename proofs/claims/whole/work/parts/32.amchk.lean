/-! ===== links, and the check that the blocks are the code: printed by program ===== -/
def am_frL : List Nat := [0, 0, 1, 0, 3, 0, 2, 1, 0, 2, 0, 0, 1, 2, 1, 0, 1, 0, 0, 3, 2, 1, 0, 0, 0, 7, 6, 5, 1, 0, 4, 3, 2, 0, 2, 2, 0, 2, 1, 0, 2, 1, 1, 3, 1, 0, 1, 0, 2, 7, 1, 
  1, 3, 2, 0, 3, 2, 3, 1, 0, 4, 3, 5, 4, 3, 0, 9, 8, 7, 2, 4, 3, 0, 0, 0, 8, 7, 7, 7, 2, 4, 1, 10, 1, 9, 0, 1, 4, 10, 4, 8, 1, 4, 0, 8, 1, 4, 8, 7, 4, 8, 5, 4, 11, 2, 10, 5, 11, 
  5, 11, 5, 11, 3, 8, 7, 4, 3, 9, 8, 0, 4, 9, 8, 5, 4, 10, 9, 6, 5, 1, 0, 4, 10, 2, 1, 9, 8, 6, 10, 4, 0, 8, 0, 3, 0, 8, 0, 1, 2, 0, 1, 0, 0, 9, 8, 2, 1, 0, 0, 7, 4, 2, 0, 5, 0, 
  6, 5, 0, 7, 1, 0, 6, 5, 4, 2, 5, 3, 0, 2, 2, 1, 2, 1, 3, 2, 2, 1, 0, 2, 1, 2, 2, 0, 0, 2, 0, 2, 2, 2, 3, 3, 7, 2, 1, 2, 1, 0, 0, 4, 0, 8, 2, 1, 14]
def am_loL : List Nat := [0, 0, 20, 0, 64, 0, 43, 22, 0, 44, 0, 0, 22, 42, 22, 0, 22, 0, 0, 109, 87, 60, 0, 0, 0, 157, 136, 112, 21, 0, 88, 66, 43, 0, 43, 60, 0, 44, 22, 0, 46, 
  22, 21, 109, 22, 0, 21, 0, 43, 157, 22, 23, 65, 42, 0, 66, 43, 109, 60, 0, 88, 109, 112, 132, 109, 0, 201, 179, 157, 43, 109, 66, 0, 0, 0, 179, 157, 157, 157, 43, 132, 60, 223, 
  22, 201, 0, 22, 132, 223, 132, 179, 21, 132, 0, 179, 21, 132, 179, 157, 132, 179, 158, 132, 253, 43, 223, 158, 253, 158, 253, 158, 253, 109, 178, 157, 132, 109, 201, 178, 0, 
  132, 200, 179, 155, 132, 225, 201, 183, 158, 22, 0, 132, 231, 42, 22, 204, 179, 183, 231, 132, 0, 179, 0, 109, 0, 179, 0, 23, 44, 0, 22, 0, 0, 194, 174, 41, 20, 0, 0, 152, 85, 
  41, 0, 107, 0, 131, 107, 0, 171, 60, 0, 148, 108, 85, 81, 125, 102, 0, 46, 44, 22, 43, 22, 65, 42, 43, 20, 0, 45, 23, 42, 44, 0, 0, 42, 0, 60, 42, 44, 63, 109, 157, 81, 22, 81, 
  22, 0, 0, 109, 0, 179, 44, 22, 552]
noncomputable def am_yL : List MethodName := [yJ7_fill_53178, yJ6_bitCount_0f7a4, yJ0_length_8abf5, yJ0_coder_7d493, yJ0_charAt_5068e, yJ0_isLatin1_aae02, yJ1_charAt_3b067, 
  yJ0_checkIndex_df160, yJ3_checkIndex_8e157, yX4_prize, yX4_isPlace, yX4_isWithin, yX4_found, yX5_prize, yX5_isPlace, yX5_within, yX5_isPrize, yX5_become, yX5_finding, yX4_place, 
  yX3_settle, yX3_bestPlaceFor, yX3_wishAt, yX3_plannersOf, yX3_choosersOf, yX5_place, yX5_looksAt, yX5_choiceOf, yX5_personIs, yX5_at, yX5_wishAt, yX5_seenAt, yX5_planners, 
  yX5_bits, yX5_loverWish, yX5_canSee, yX5_comers, yX4_person, yX4_isKind, yX3_addOne, yX5_person, yX5_isKind, yX5_comes, yX4_of, yX4_isThere, yX3_traitOf, yX3_getsNow, 
  yX4_shareOf, yX3_regretsNow, yX5_of, yX5_isPerson, yX5_doesRegret, yX4_change, yX3_mayBecome, yX3_setTrait, yX5_change, yX5_mayBe, yX4_seen, yX3_canSee, yX3_seenBy, yX5_seen, 
  yX4_wishes, yX5_wishes, yX4_go, yX3_passTuesdays, yX3_goodsOfAll, yX5_go, yX5_goesOn, yX5_goes, yX5_goodsAll, yX4_now, yX3_regretters, yX3_visitedPlaces, yX3_movers, 
  yX3_richest, yX5_now, yX5_whoRegrets, yX5_comePlaces, yX5_whoMoves, yX5_richest, yX4_ahead, yX3_become, yX5_ahead, yX5_isAhead, yX5_behind, yX5_copyRow, yX5_putBack, yX4_plan, 
  yX5_plan, yX4_rests, yX5_rests, yX5_orNone, yX4_round, yX3_hasPlansOf, yX5_round, yX5_arePlansAside, yX4_meet, yX5_meet, yX5_doMeet, yX4_crowd, yX5_crowd, yX4_planFor, 
  yX4_richestWith, yX5_planFor, yX5_isTried, yX5_bestFor, yX4_kindFor, yX5_kindFor, yX4_looksFor, yX5_looksFor, yX4_loveFor, yX5_loveFor, yX4_prizeFor, yX5_prizeFor, yX5_manyNow, 
  yX4_tell, yX4_comersIfTold, yX5_tell, yX5_manyIfTold, yX5_has, yX4_away, yX5_away, yX5_goodsWithout, yX4_swapFor, yX4_goodsIfSwapped, yX5_swapFor, yX5_goodsSwapped, yX4_fits, 
  yX4_fittingTraits, yX4_isSheet, yX0_isMissing, yX4_fitsWith, yX5_fits, yX5_lacks, yX5_isSheet, yX5_fitting, yX5_wentSo, yX4_kinds, yX5_kinds, yX4_weather, yX3_nextDraw, 
  yX5_weather, yX5_drawn, yX4_odds, yX4_powerOf, yX5_odds, yX4_seed, yX5_seed, yX4_feed, yX1_append, yX5_feed, yX4_wipe, yX5_wipe, yX4_text, yX2_readItems, yX1_rewind, yX1_step, 
  yX1_skipWord, yX1_skipNumber, yX2_readItem, yX1_isWord, yX2_readPrize, yX2_isNumberHere, yX2_kindHere, yX2_nameOf, yX2_readTraits, yX2_readTrait, yX2_failHere, yX5_text, 
  yX5_next, yX5_byteAt, yX5_readItem, yX5_kindTold, yX5_isWord, yX5_must, yX5_afterWord, yX5_number, yX5_addItem, yX5_isToldSo, yX4_hold, yX4_isSpot, yX5_hold, yX5_isSpot, yX4_as, 
  yX4_isUnder, yX5_as, yX5_isUnder, yX5_above, yX4_sheet, yX0_begin, yX5_sheet, yX4_write, yX0_hasNumbers, yX0_put, yX5_write, yX5_cutTo, yX4_copy, yX5_copy, yX4_load, yX5_load, 
  yX4_judge, yX5_judge, yX4_image, yX5_image, yX4_undo, yX5_undo, yX4_tear, yX5_tear, yX4_count, yX3_fullSpots, yX5_count, yX4_status, yX5_status, yL_law]
noncomputable def am_ccL : List ByteArray := [cJ7_fill_53178, cJ6_bitCount_0f7a4, cJ0_length_8abf5, cJ0_coder_7d493, cJ0_charAt_5068e, cJ0_isLatin1_aae02, cJ1_charAt_3b067, 
  cJ0_checkIndex_df160, cJ3_checkIndex_8e157, cX4_prize, cX4_isPlace, cX4_isWithin, cX4_found, cX5_prize, cX5_isPlace, cX5_within, cX5_isPrize, cX5_become, cX5_finding, cX4_place, 
  cX3_settle, cX3_bestPlaceFor, cX3_wishAt, cX3_plannersOf, cX3_choosersOf, cX5_place, cX5_looksAt, cX5_choiceOf, cX5_personIs, cX5_at, cX5_wishAt, cX5_seenAt, cX5_planners, 
  cX5_bits, cX5_loverWish, cX5_canSee, cX5_comers, cX4_person, cX4_isKind, cX3_addOne, cX5_person, cX5_isKind, cX5_comes, cX4_of, cX4_isThere, cX3_traitOf, cX3_getsNow, 
  cX4_shareOf, cX3_regretsNow, cX5_of, cX5_isPerson, cX5_doesRegret, cX4_change, cX3_mayBecome, cX3_setTrait, cX5_change, cX5_mayBe, cX4_seen, cX3_canSee, cX3_seenBy, cX5_seen, 
  cX4_wishes, cX5_wishes, cX4_go, cX3_passTuesdays, cX3_goodsOfAll, cX5_go, cX5_goesOn, cX5_goes, cX5_goodsAll, cX4_now, cX3_regretters, cX3_visitedPlaces, cX3_movers, 
  cX3_richest, cX5_now, cX5_whoRegrets, cX5_comePlaces, cX5_whoMoves, cX5_richest, cX4_ahead, cX3_become, cX5_ahead, cX5_isAhead, cX5_behind, cX5_copyRow, cX5_putBack, cX4_plan, 
  cX5_plan, cX4_rests, cX5_rests, cX5_orNone, cX4_round, cX3_hasPlansOf, cX5_round, cX5_arePlansAside, cX4_meet, cX5_meet, cX5_doMeet, cX4_crowd, cX5_crowd, cX4_planFor, 
  cX4_richestWith, cX5_planFor, cX5_isTried, cX5_bestFor, cX4_kindFor, cX5_kindFor, cX4_looksFor, cX5_looksFor, cX4_loveFor, cX5_loveFor, cX4_prizeFor, cX5_prizeFor, cX5_manyNow, 
  cX4_tell, cX4_comersIfTold, cX5_tell, cX5_manyIfTold, cX5_has, cX4_away, cX5_away, cX5_goodsWithout, cX4_swapFor, cX4_goodsIfSwapped, cX5_swapFor, cX5_goodsSwapped, cX4_fits, 
  cX4_fittingTraits, cX4_isSheet, cX0_isMissing, cX4_fitsWith, cX5_fits, cX5_lacks, cX5_isSheet, cX5_fitting, cX5_wentSo, cX4_kinds, cX5_kinds, cX4_weather, cX3_nextDraw, 
  cX5_weather, cX5_drawn, cX4_odds, cX4_powerOf, cX5_odds, cX4_seed, cX5_seed, cX4_feed, cX1_append, cX5_feed, cX4_wipe, cX5_wipe, cX4_text, cX2_readItems, cX1_rewind, cX1_step, 
  cX1_skipWord, cX1_skipNumber, cX2_readItem, cX1_isWord, cX2_readPrize, cX2_isNumberHere, cX2_kindHere, cX2_nameOf, cX2_readTraits, cX2_readTrait, cX2_failHere, cX5_text, 
  cX5_next, cX5_byteAt, cX5_readItem, cX5_kindTold, cX5_isWord, cX5_must, cX5_afterWord, cX5_number, cX5_addItem, cX5_isToldSo, cX4_hold, cX4_isSpot, cX5_hold, cX5_isSpot, cX4_as, 
  cX4_isUnder, cX5_as, cX5_isUnder, cX5_above, cX4_sheet, cX0_begin, cX5_sheet, cX4_write, cX0_hasNumbers, cX0_put, cX5_write, cX5_cutTo, cX4_copy, cX5_copy, cX4_load, cX5_load, 
  cX4_judge, cX5_judge, cX4_image, cX5_image, cX4_undo, cX5_undo, cX4_tear, cX5_tear, cX4_count, cX3_fullSpots, cX5_count, cX4_status, cX5_status, cL_law]
def am_rtL : List (Option FieldType) := [none, (some .int), (some .int), (some .byte), (some .char), (some .boolean), (some .char), none, (some .int), (some .int), 
  (some .boolean), (some .boolean), (some .int), (some .int), (some .boolean), (some .boolean), (some .boolean), (some .int), (some .int), (some .int), none, (some .int), 
  (some .int), (some .int), (some .int), (some .int), none, (some .int), (some .int), (some .int), (some .int), (some .int), (some .int), (some .int), (some .int), 
  (some .boolean), (some .int), (some .int), (some .boolean), (some .int), (some .int), (some .boolean), (some .int), (some .int), (some .boolean), (some .int), (some .int), 
  (some .int), (some .boolean), (some .int), (some .boolean), (some .boolean), (some .int), (some .boolean), none, (some .int), (some .boolean), (some .int), (some .boolean), 
  (some .int), (some .int), (some .int), (some .int), (some .int), none, (some .int), (some .int), none, none, (some .int), (some .int), (some .int), (some .int), (some .int), 
  (some .int), (some .int), (some .int), (some .int), (some .int), (some .int), (some .int), none, (some .int), (some .boolean), (some .int), none, (some .int), (some .int), 
  (some .int), (some .int), (some .int), (some .int), (some .int), (some .boolean), (some .int), (some .boolean), (some .int), (some .int), (some .boolean), (some .int), 
  (some .int), (some .int), (some .int), (some .int), (some .boolean), (some .int), (some .int), (some .int), (some .int), (some .int), (some .int), (some .int), (some .int), 
  (some .int), (some .int), (some .int), (some .int), (some .int), (some .int), (some .boolean), (some .int), (some .int), (some .int), (some .int), (some .int), (some .int), 
  (some .int), (some .int), (some .int), (some .boolean), (some .boolean), (some .boolean), (some .int), (some .int), (some .boolean), (some .int), (some .boolean), (some .int), 
  (some .int), (some .int), (some .int), (some .int), (some .int), (some .long), (some .long), (some .long), (some .int), (some .int), (some .int), none, (some .int), (some .int), 
  (some .int), (some .int), (some .boolean), none, none, none, none, (some .boolean), (some .boolean), (some .boolean), (some .boolean), (some .int), 
  (some (.object "java/lang/String")), (some .boolean), (some .boolean), (some .boolean), (some .int), none, (some .int), none, (some .int), (some .boolean), none, (some .int), 
  (some .int), none, (some .int), (some .int), (some .boolean), (some .int), (some .boolean), (some .int), (some .boolean), (some .int), (some .boolean), (some .int), (some .int), 
  none, (some .int), (some .int), (some .boolean), none, (some .int), (some .int), (some .int), (some .int), (some .int), (some .int), (some .int), (some .int), (some .int), 
  (some .int), (some .int), (some .int), (some .int), (some .int), (some .int), (some .int), (some .int), (some .int), (some .int), (some .boolean)]
def am_cnL : List String := [RX0, RX1, RX2, RX3, RX4, RX5, RJ0, RJ1, RJ2, RJ3, RJ6, RJ7, RJ9, RJ10, RL]
def am_fr (k : Nat) : Nat := am_frL.getD k 0
def am_lo (k : Nat) : Nat := am_loL.getD k 0
def am_na (k : Nat) : Nat := am_naL.getD k 99
noncomputable def am_y (k : Nat) : MethodName := am_yL.getD k yL_law
noncomputable def am_cc (k : Nat) : ByteArray := am_ccL.getD k cL_law
def am_rt (k : Nat) : Option FieldType := am_rtL.getD k none
def am_cn (c : Nat) : String := am_cnL.getD c RL
def am_fl : List ((Nat × Nat) × (Nat × Nat)) := [((6, 9), (1000, 752)), ((6, 15), (1001, 758)), ((0, 9), (0, 67)), ((0, 15), (1, 609)), ((0, 19), (2, 928)), ((1, 9), (32, 62)), 
  ((1, 15), (33, 692)), ((1, 19), (37, 723)), ((1, 25), (35, 728)), ((1, 28), (34, 729)), ((1, 37), (36, 738)), ((2, 12), (64, 56)), ((2, 21), (65, 58)), ((2, 25), (66, 717)), 
  ((2, 39), (34, 718)), ((2, 45), (35, 828)), ((2, 48), (67, 829)), ((2, 82), (36, 801)), ((2, 85), (96, 802)), ((3, 9), (96, 33)), ((3, 15), (97, 34)), ((3, 18), (98, 35)), 
  ((3, 21), (99, 36)), ((3, 24), (100, 37)), ((3, 27), (101, 38)), ((3, 30), (102, 39)), ((3, 33), (106, 40)), ((3, 36), (107, 41)), ((3, 39), (108, 42)), ((3, 48), (103, 43)), 
  ((3, 52), (104, 44)), ((3, 55), (105, 45)), ((4, 12), (128, 15)), ((4, 16), (129, 16)), ((4, 19), (130, 17)), ((4, 25), (131, 21)), ((4, 31), (132, 23)), ((4, 36), (133, 27)), 
  ((4, 40), (134, 28)), ((4, 57), (96, 92)), ((4, 83), (107, 233)), ((4, 110), (104, 320)), ((4, 140), (101, 395)), ((4, 143), (98, 426)), ((4, 150), (108, 475)), 
  ((4, 165), (103, 238)), ((4, 189), (105, 677)), ((4, 192), (64, 686)), ((4, 196), (33, 687)), ((4, 204), (65, 710)), ((4, 211), (67, 711)), ((4, 214), (66, 712)), 
  ((4, 220), (102, 887)), ((4, 224), (97, 902)), ((4, 239), (2, 614)), ((4, 251), (1, 958)), ((4, 254), (0, 615)), ((5, 9), (160, 72)), ((5, 13), (161, 73)), ((5, 16), (162, 74)), 
  ((5, 19), (164, 75)), ((5, 22), (165, 76)), ((5, 25), (166, 77)), ((5, 28), (167, 78)), ((5, 32), (168, 79)), ((5, 51), (175, 81)), ((5, 55), (176, 82)), ((5, 58), (179, 83)), 
  ((5, 61), (180, 84)), ((5, 64), (181, 85)), ((5, 67), (182, 86)), ((5, 241), (169, 697)), ((5, 244), (171, 834)), ((5, 247), (170, 839)), ((5, 253), (173, 844)), 
  ((5, 256), (172, 838)), ((5, 266), (174, 835)), ((5, 277), (177, 836)), ((5, 290), (178, 837)), ((5, 328), (163, 988))]
def am_mlk : List ((Nat × Nat) × (Nat × Nat)) := [((6, 335), (3, 753)), ((6, 492), (5, 763)), ((6, 495), (6, 767)), ((6, 1059), (8, 775)), ((7, 9), (7, 771)), ((14, 13), (9, 87)), 
  ((14, 17), (13, 103)), ((14, 18), (19, 125)), ((14, 21), (25, 156)), ((14, 22), (37, 205)), ((14, 25), (40, 217)), ((14, 26), (43, 229)), ((14, 29), (49, 254)), 
  ((14, 30), (52, 266)), ((14, 34), (55, 279)), ((14, 35), (57, 288)), ((14, 38), (60, 302)), ((14, 39), (61, 307)), ((14, 42), (62, 312)), ((14, 43), (63, 316)), 
  ((14, 47), (66, 332)), ((14, 48), (70, 350)), ((14, 51), (75, 371)), ((14, 52), (80, 391)), ((14, 55), (82, 404)), ((14, 56), (87, 422)), ((14, 59), (88, 427)), 
  ((14, 60), (89, 431)), ((14, 64), (90, 435)), ((14, 65), (92, 443)), ((14, 68), (94, 451)), ((14, 69), (96, 459)), ((14, 72), (97, 463)), ((14, 73), (99, 471)), 
  ((14, 76), (100, 478)), ((14, 77), (101, 483)), ((14, 80), (103, 491)), ((14, 81), (106, 503)), ((14, 84), (107, 507)), ((14, 85), (108, 511)), ((14, 88), (109, 515)), 
  ((14, 89), (110, 519)), ((14, 92), (111, 523)), ((14, 93), (112, 527)), ((14, 96), (113, 531)), ((14, 97), (115, 539)), ((14, 100), (117, 554)), ((14, 101), (120, 565)), 
  ((14, 104), (121, 569)), ((14, 105), (123, 577)), ((14, 108), (125, 585)), ((14, 109), (127, 593)), ((14, 112), (132, 616)), ((14, 113), (137, 636)), ((14, 116), (138, 640)), 
  ((14, 117), (139, 644)), ((14, 120), (141, 653)), ((14, 121), (143, 662)), ((14, 125), (145, 669)), ((14, 126), (146, 673)), ((14, 129), (147, 678)), ((14, 130), (148, 682)), 
  ((14, 133), (150, 693)), ((14, 134), (151, 698)), ((14, 137), (152, 702)), ((14, 138), (153, 706)), ((14, 141), (168, 830)), ((14, 142), (179, 883)), ((14, 145), (181, 891)), 
  ((14, 146), (183, 898)), ((14, 149), (185, 908)), ((14, 150), (188, 919)), ((14, 153), (190, 930)), ((14, 154), (191, 935)), ((14, 157), (194, 947)), ((14, 158), (196, 954)), 
  ((14, 162), (197, 960)), ((14, 163), (198, 964)), ((14, 166), (199, 968)), ((14, 167), (200, 972)), ((14, 170), (201, 976)), ((14, 171), (202, 980)), ((14, 174), (203, 984)), 
  ((14, 175), (204, 989)), ((14, 178), (205, 993)), ((14, 179), (206, 997)), ((14, 182), (207, 1001)), ((14, 183), (208, 1005)), ((14, 186), (210, 1013)), 
  ((14, 187), (211, 1017)), ((14, 190), (212, 1021)), ((0, 22), (0, 929)), ((1, 22), (156, 724)), ((1, 31), (157, 730)), ((1, 34), (158, 734)), ((1, 40), (2, 747)), 
  ((1, 45), (4, 759)), ((2, 29), (155, 719)), ((2, 32), (159, 739)), ((2, 36), (167, 824)), ((2, 42), (156, 796)), ((2, 53), (160, 743)), ((2, 57), (161, 797)), 
  ((2, 60), (163, 807)), ((2, 68), (39, 814)), ((2, 72), (165, 815)), ((2, 75), (164, 811)), ((2, 79), (162, 803)), ((2, 91), (166, 819)), ((2, 99), (54, 823)), 
  ((3, 42), (0, 46)), ((3, 76), (21, 133)), ((3, 80), (22, 144)), ((3, 95), (20, 327)), ((3, 98), (46, 253)), ((3, 104), (48, 358)), ((4, 44), (10, 93)), ((4, 48), (11, 96)), 
  ((4, 53), (12, 99)), ((4, 60), (20, 129)), ((4, 63), (23, 148)), ((4, 66), (24, 152)), ((4, 69), (38, 210)), ((4, 72), (39, 213)), ((4, 77), (44, 234)), ((4, 80), (45, 239)), 
  ((4, 86), (46, 243)), ((4, 89), (48, 249)), ((4, 92), (53, 270)), ((4, 95), (54, 275)), ((4, 99), (58, 293)), ((4, 104), (59, 298)), ((4, 107), (22, 311)), 
  ((4, 116), (64, 323)), ((4, 120), (65, 328)), ((4, 124), (71, 354)), ((4, 127), (72, 359)), ((4, 130), (73, 363)), ((4, 133), (74, 367)), ((4, 136), (81, 396)), 
  ((4, 146), (93, 447)), ((4, 161), (102, 487)), ((4, 168), (1, 543)), ((4, 173), (116, 550)), ((4, 176), (124, 581)), ((4, 179), (128, 597)), ((4, 182), (140, 648)), 
  ((4, 185), (144, 666)), ((4, 201), (149, 688)), ((4, 207), (154, 713)), ((4, 217), (180, 888)), ((4, 227), (184, 904)), ((4, 231), (129, 602)), ((4, 235), (189, 924)), 
  ((4, 242), (130, 605)), ((4, 245), (192, 939)), ((4, 248), (193, 943)), ((4, 263), (209, 1009)), ((4, 266), (131, 610)), ((5, 71), (85, 415)), ((5, 76), (18, 121)), 
  ((5, 80), (15, 111)), ((5, 84), (29, 172)), ((5, 88), (14, 108)), ((5, 92), (16, 114)), ((5, 95), (17, 117)), ((5, 98), (41, 222)), ((5, 102), (42, 225)), ((5, 106), (28, 168)), 
  ((5, 109), (32, 183)), ((5, 112), (33, 187)), ((5, 120), (31, 179)), ((5, 123), (34, 190)), ((5, 127), (30, 175)), ((5, 130), (35, 194)), ((5, 134), (27, 164)), 
  ((5, 137), (36, 201)), ((5, 140), (26, 160)), ((5, 143), (50, 258)), ((5, 146), (51, 262)), ((5, 150), (56, 283)), ((5, 156), (68, 341)), ((5, 160), (67, 337)), 
  ((5, 164), (69, 346)), ((5, 168), (76, 375)), ((5, 171), (77, 379)), ((5, 174), (78, 383)), ((5, 177), (79, 387)), ((5, 180), (86, 418)), ((5, 183), (83, 408)), 
  ((5, 186), (84, 411)), ((5, 189), (91, 439)), ((5, 192), (95, 455)), ((5, 196), (98, 467)), ((5, 202), (104, 495)), ((5, 205), (105, 499)), ((5, 209), (114, 535)), 
  ((5, 212), (119, 562)), ((5, 215), (118, 558)), ((5, 218), (122, 573)), ((5, 221), (126, 589)), ((5, 224), (134, 625)), ((5, 228), (136, 632)), ((5, 231), (133, 620)), 
  ((5, 234), (135, 628)), ((5, 238), (142, 657)), ((5, 250), (170, 845)), ((5, 259), (2, 861)), ((5, 262), (4, 862)), ((5, 270), (169, 840)), ((5, 273), (174, 863)), 
  ((5, 280), (173, 857)), ((5, 284), (176, 871)), ((5, 287), (172, 853)), ((5, 294), (175, 867)), ((5, 302), (177, 875)), ((5, 308), (171, 849)), ((5, 311), (178, 879)), 
  ((5, 314), (182, 895)), ((5, 317), (186, 913)), ((5, 322), (195, 951)), ((5, 325), (187, 916))]
def am_nlk : List ((Nat × Nat) × (Nat × Nat)) := [((2, 64), (38, 3)), ((3, 64), (38, 5)), ((3, 68), (10, 6)), ((3, 71), (11, 7)), ((3, 101), (47, 4))]
def am_alk : List ((Nat × Nat) × (Nat × Nat)) := [((3, 58), (400, 999)), ((4, 257), (959, 999)), ((3, 84), (137, 996)), ((3, 89), (141, 997)), ((3, 92), (297, 998)), 
  ((4, 153), (476, 996)), ((4, 158), (477, 997)), ((5, 115), (198, 998)), ((5, 153), (345, 996)), ((5, 199), (482, 997))]
def am_clk : List ((Nat × Nat) × (Int × Nat)) := [((10, 265), ((1431655765 : Int), 547)), ((10, 266), ((858993459 : Int), 548)), ((10, 267), ((252645135 : Int), 549)), 
  ((3, 75), ((99999 : Int), 274)), ((3, 107), ((1103515245 : Int), 652)), ((4, 52), ((-1000001 : Int), 91)), ((4, 76), ((-1000002 : Int), 209)), 
  ((4, 103), ((-1000004 : Int), 292)), ((4, 114), ((99999 : Int), 321)), ((4, 115), ((-1000005 : Int), 322)), ((4, 223), ((-1000006 : Int), 601)), 
  ((4, 230), ((-1000003 : Int), 903)), ((4, 234), ((-1000007 : Int), 923)), ((5, 70), ((-1000001 : Int), 107)), ((5, 75), ((-1000004 : Int), 306)), 
  ((5, 101), ((-1000002 : Int), 221)), ((5, 149), ((99999 : Int), 287)), ((5, 159), ((-1000005 : Int), 336)), ((5, 227), ((-1000006 : Int), 624)), 
  ((5, 237), ((1103515245 : Int), 661)), ((5, 320), ((-1000003 : Int), 912)), ((5, 321), ((-1000007 : Int), 934))]
def am_slk : List ((Nat × Nat) × (Nat × Nat)) := [((6, 38), (1, 757)), ((6, 1053), (2, 774)), ((4, 270), (0, 907))]
def am_rlk : List ((Nat × Nat) × (Nat × Nat)) := [((2, 103), (0, 0)), ((2, 105), (1, 1)), ((2, 107), (2, 2)), ((2, 109), (3, 3)), ((2, 111), (4, 4)), ((2, 113), (5, 5)), 
  ((2, 115), (6, 6)), ((2, 51), (7, 7)), ((2, 89), (8, 8)), ((2, 95), (9, 9)), ((2, 97), (10, 10)), ((5, 37), (0, 11)), ((5, 39), (1, 12)), ((5, 41), (2, 13)), ((5, 43), (3, 14)), 
  ((5, 45), (4, 15)), ((5, 47), (5, 16)), ((5, 49), (6, 17)), ((5, 306), (7, 18)), ((5, 293), (8, 19)), ((5, 298), (9, 20)), ((5, 300), (10, 21))]
def am_p1 : List Nat := [49, 546, 751, 756, 762, 766, 770, 773, 778, 90, 95, 98, 102, 106, 110, 113, 116, 120, 124, 128, 132, 136, 147, 151, 155, 159, 163, 167, 171, 174, 178, 
  182, 186, 189, 193, 197, 204, 208, 212, 216, 220, 224, 228, 232, 237, 242, 246, 248, 252, 257, 261, 265, 269, 273, 278, 282, 286, 291, 296, 301, 305, 310, 315, 319, 326, 331, 
  335, 340, 344, 349, 353, 357, 362, 366, 370, 374, 378, 382, 386, 390, 394, 399, 407, 410, 414, 417, 421, 425, 430, 434, 438, 442, 446, 450, 454, 458, 462, 466, 470, 474, 481, 
  486, 490, 494, 498, 502, 506, 510, 514, 518, 522, 526, 530, 534, 538, 542, 553, 557, 561, 564, 568, 572, 576, 580, 584, 588, 592, 596, 600, 604, 608, 613, 619, 623, 627, 631, 
  635, 639, 643, 647, 651, 656, 660, 665, 668, 672, 676, 681, 685, 691, 696, 701, 705, 709, 716, 722, 727, 733, 737, 742, 746, 800, 806, 810, 813, 818, 822, 827, 833, 843, 848, 
  852, 856, 860, 866, 870, 874, 878, 882, 886, 890, 894, 897, 901, 906, 911, 915, 918, 922, 927, 933, 938, 942, 946, 950, 953, 957, 963, 967, 971, 975, 979, 983, 987, 992, 996, 
  1000, 1004, 1008, 1012, 1016, 1020, 1024]
def am_p2 : List Nat := [47, 544, 748, 754, 760, 764, 768, 772, 776, 88, 94, 97, 100, 104, 109, 112, 115, 118, 122, 126, 130, 134, 145, 149, 153, 157, 161, 165, 169, 173, 176, 
  180, 184, 188, 191, 195, 202, 206, 211, 214, 218, 223, 226, 230, 235, 240, 244, 247, 250, 255, 259, 263, 267, 271, 276, 280, 284, 289, 294, 299, 303, 308, 313, 317, 324, 329, 
  333, 338, 342, 347, 351, 355, 360, 364, 368, 372, 376, 380, 384, 388, 392, 397, 405, 409, 412, 416, 419, 423, 428, 432, 436, 440, 444, 448, 452, 456, 460, 464, 468, 472, 479, 
  484, 488, 492, 496, 500, 504, 508, 512, 516, 520, 524, 528, 532, 536, 540, 551, 555, 559, 563, 566, 570, 574, 578, 582, 586, 590, 594, 598, 603, 606, 611, 617, 621, 626, 629, 
  633, 637, 641, 645, 649, 654, 658, 663, 667, 670, 674, 679, 683, 689, 694, 699, 703, 707, 714, 720, 725, 731, 735, 740, 744, 798, 804, 808, 812, 816, 820, 825, 831, 841, 846, 
  850, 854, 858, 864, 868, 872, 876, 880, 884, 889, 892, 896, 899, 905, 909, 914, 917, 920, 925, 931, 936, 940, 944, 948, 952, 955, 961, 965, 969, 973, 977, 981, 985, 990, 994, 
  998, 1002, 1006, 1010, 1014, 1018, 1022]
def am_p3 : List Nat := [0, 0, 749, 755, 761, 765, 0, 0, 0, 89, 0, 0, 101, 105, 0, 0, 0, 119, 123, 127, 131, 135, 146, 150, 154, 158, 162, 166, 170, 0, 177, 181, 185, 0, 192, 196, 
  203, 207, 0, 215, 219, 0, 227, 231, 236, 241, 245, 0, 251, 256, 260, 264, 268, 272, 277, 281, 285, 290, 295, 300, 304, 309, 314, 318, 325, 330, 334, 339, 343, 348, 352, 356, 
  361, 365, 369, 373, 377, 381, 385, 389, 393, 398, 406, 0, 413, 0, 420, 424, 429, 433, 437, 441, 445, 449, 453, 457, 461, 465, 469, 473, 480, 485, 489, 493, 497, 501, 505, 509, 
  513, 517, 521, 525, 529, 533, 537, 541, 552, 556, 560, 0, 567, 571, 575, 579, 583, 587, 591, 595, 599, 0, 607, 612, 618, 622, 0, 630, 634, 638, 642, 646, 650, 655, 659, 664, 0, 
  671, 675, 680, 684, 690, 695, 700, 704, 708, 715, 721, 726, 732, 736, 741, 745, 799, 805, 809, 0, 817, 821, 826, 832, 842, 847, 851, 855, 859, 865, 869, 873, 877, 881, 885, 0, 
  893, 0, 900, 0, 910, 0, 0, 921, 926, 932, 937, 941, 945, 949, 0, 956, 962, 966, 970, 974, 978, 982, 986, 991, 995, 999, 1003, 1007, 1011, 1015, 1019, 1023]
def am_p4 : List Nat := [48, 545, 750, 750, 750, 750, 769, 750, 777, 2, 2, 2, 2, 5, 5, 5, 5, 5, 5, 2, 14, 14, 14, 14, 14, 5, 5, 5, 5, 5, 5, 5, 5, 5, 5, 5, 5, 2, 2, 14, 5, 5, 5, 2, 
  2, 14, 14, 2, 14, 5, 5, 5, 2, 14, 14, 5, 5, 2, 14, 14, 5, 2, 5, 2, 14, 14, 5, 5, 5, 5, 2, 14, 14, 14, 14, 5, 5, 5, 5, 5, 2, 14, 5, 5, 5, 5, 5, 2, 5, 2, 5, 5, 2, 14, 5, 5, 2, 5, 
  5, 2, 5, 2, 2, 5, 5, 5, 2, 5, 2, 5, 2, 5, 2, 5, 5, 2, 2, 5, 5, 5, 2, 5, 5, 2, 2, 5, 5, 2, 2, 2, 25, 2, 5, 5, 5, 5, 5, 2, 5, 2, 14, 5, 5, 2, 2, 5, 2, 5, 2, 55, 5, 2, 5, 2, 20, 
  55, 55, 55, 55, 20, 55, 20, 20, 20, 20, 20, 20, 20, 5, 5, 5, 5, 5, 5, 5, 5, 5, 5, 5, 2, 2, 5, 5, 2, 2, 5, 5, 5, 2, 25, 5, 2, 25, 25, 5, 5, 2, 5, 2, 5, 2, 5, 2, 5, 2, 5, 2, 5, 2, 
  14, 5, 2, 5]
def am_pnat : Nat := 401
def am_pstat : Nat := 402
def am_pini : Nat := 403
def am_cst (n : Int) : Instr := match n with
  | .ofNat n => .ldc n
  | .negSucc n => .sipush (.negSucc n)
/-- a real instruction, resolved -/
def am_res (k pc : Nat) (i : Instr) : Option Instr := match i with
  | .iload_n j => some (.iload j.val)
  | .aload_n j => some (.aload j.val)
  | .lload_n j => some (.lload j.val)
  | .istore_n j => some (.istore j.val)
  | .astore_n j => some (.astore j.val)
  | .lstore_n j => some (.lstore j.val)
  | .iload j => some (.iload j)
  | .aload j => some (.aload j)
  | .lload j => some (.lload j)
  | .istore j => some (.istore j)
  | .astore j => some (.astore j)
  | .lstore j => some (.lstore j)
  | .iconst n => some (am_cst n)
  | .bipush n => if -128 ≤ n ∧ n < 128 then some (am_cst n) else none
  | .sipush n => if -32768 ≤ n ∧ n < 32768 then some (am_cst n) else none
  | .lconst n => some (.lconst n)
  | .ldc j => (match am_clk.lookup (am_own k, j) with
    | some q => some (am_cst q.1)
    | none => (match am_rlk.lookup (am_own k, j) with
      | some q => some (.ldc_w q.1)
      | none => none))
  | .ldc_w j => (match am_clk.lookup (am_own k, j) with
    | some q => some (am_cst q.1)
    | none => (match am_rlk.lookup (am_own k, j) with
      | some q => some (.ldc_w q.1)
      | none => none))
  | .iinc j n => some (.iinc j n)
  | .iadd => some .iadd
  | .isub => some .isub
  | .imul => some .imul
  | .iand => some .iand
  | .ior => some .ior
  | .ixor => some .ixor
  | .ishl => some .ishl
  | .ishr => some .ishr
  | .iushr => some .iushr
  | .idiv => some .idiv
  | .irem => some .irem
  | .ineg => some .ineg
  | .i2b => some .i2b
  | .i2s => some .i2s
  | .i2c => some .i2c
  | .i2l => some .i2l
  | .ladd => some .ladd
  | .lmul => some .lmul
  | .lcmp => some .lcmp
  | .dup => some .dup
  | .dup2 => some .dup2
  | .pop => some .pop
  | .iaload => some .iaload
  | .baload => some .baload
  | .aaload => some .aaload
  | .iastore => some .iastore
  | .arraylength => some .arraylength
  | .getfield j => (match am_fl.lookup (am_own k, j) with
    | some q => some (.getfield q.1)
    | none => none)
  | .putfield j => (match am_fl.lookup (am_own k, j) with
    | some q => some (.putfield q.1)
    | none => none)
  | .getstatic j => (match am_slk.lookup (am_own k, j) with
    | some q => some (.getstatic q.1)
    | none => none)
  | .invokevirtual j => (match am_mlk.lookup (am_own k, j) with
    | some q => if am_stat q.1 = true then none else some (.invokeinterface q.1 (am_na q.1))
    | none => none)
  | .invokestatic j => (match am_mlk.lookup (am_own k, j) with
    | some q => if am_stat q.1 = true then some (.invokeinterface q.1 (am_na q.1)) else none
    | none => (match am_nlk.lookup (am_own k, j) with
      | some q => if am_stat q.1 = true then some (.invokeinterface q.1 (am_na q.1)) else none
      | none => (match am_alk.lookup (am_own k, j) with
        | some q => (if q.2 = 999 then some (.invokeinterface 999 5) else if q.2 = 996 then some (.invokeinterface 996 2) else if q.2 = 997 then some (.invokeinterface 997 2) else if q.2 = 998 then some (.invokeinterface 998 1) else none)
        | none => none)))
  | .ifCond c t => some (.ifCond c (pc + t))
  | .if_icmp c t => some (.if_icmp c (pc + t))
  | .goto t => some (.goto (pc + t))
  | .tableswitch d lo hi offs => some (.tableswitch (pc + d) lo hi (offs.map fun t => pc + t))
  | .ireturn => (match am_rt k with
    | some .int => some (.ret 0)
    | some .boolean => some (.ret 1)
    | some .byte => some (.ret 2)
    | some .char => some (.ret 3)
    | _ => none)
  | .lreturn => (match am_rt k with
    | some .long => some (.ret 4)
    | _ => none)
  | .areturn => (match am_rt k with
    | some (.object _) => some (.ret 5)
    | _ => none)
  | .return_ => (match am_rt k with
    | none => some .return_
    | _ => none)
  | _ => none
def am_ln (i : Instr) (n : Nat) : Bool := match i with
  | .iload _ => n == 2
  | .aload _ => n == 2
  | .lload _ => n == 2
  | .istore _ => n == 2
  | .astore _ => n == 2
  | .lstore _ => n == 2
  | .bipush _ => n == 2
  | .ldc _ => n == 2
  | .sipush _ => n == 3
  | .ldc_w _ => n == 3
  | .iinc _ _ => n == 3
  | .getfield _ => n == 3
  | .putfield _ => n == 3
  | .getstatic _ => n == 3
  | .invokevirtual _ => n == 3
  | .invokestatic _ => n == 3
  | .ifCond _ _ => n == 3
  | .if_icmp _ _ => n == 3
  | .goto _ => n == 3
  | .tableswitch _ _ _ _ => true
  | _ => n == 1
def am_nM : Nat := 213
def am_ctl (k : Nat) (i : Instr) : Bool := match i with
  | .goto t => decide (0 ≤ t)
  | .ifCond _ t => decide (0 ≤ t)
  | .if_icmp _ t => decide (0 ≤ t)
  | .tableswitch d lo hi offs => decide (0 ≤ d) && (offs.toList.all fun t => decide (0 ≤ t)) && decide (hi - lo < (offs.size : Int))
  | .invokeinterface m _ => if 996 ≤ m then decide (1 ≤ am_fr k ∧ 60 ≤ am_lo k) else decide (m < am_nM ∧ am_fr m + 1 ≤ am_fr k ∧ 8 + (am_mx m + 11) + am_lo m ≤ am_lo k)
  | _ => true
def am_term (i : Instr) : Bool := match i with
  | .goto _ => true
  | .tableswitch _ _ _ _ => true
  | .ret _ => true
  | .return_ => true
  | _ => false
noncomputable def am_at (k : Nat) : Nat → List Instr → Bool
  | _, [] => false
  | pc, i :: r => match i with
    | .goto_w t => decide (t = (pc : Int))
    | _ => match decode (am_cc k) pc with
      | .ok (real, len) => decide (am_res k pc real = some i) && am_ln real len && am_ctl k i && (am_term i || am_at k (pc + len) r)
      | .error _ => false
noncomputable def am_okm (k : Nat) : Bool := (am_tL.getD k []).all fun q => am_at k q.1 q.2
