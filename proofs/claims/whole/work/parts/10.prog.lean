/-! THE PROGRAM AS TABLES: methods by number, pools by class (printed by wip/whole/gen10.py out of the Statement's words) -/
/-- a method: class, name, code, locals, answer, kind (0 static, 1 virtual, 2 constructor), parameters -/
abbrev xM : Type := Nat × MethodName × ByteArray × Nat × Option FieldType × Nat × Nat
def xMs_0 : List xM := [(0, yX0_init, cX0_init, 1, none, 2, 0), (0, yX0_isLit, cX0_isLit, 2, (some .boolean), 1, 1), (0, yX0_become, cX0_become, 2, none, 1, 1), (5, yX5_init, cX5_init, 1, none, 2, 0), (5, yX5_become, cX5_become, 2, none, 1, 1), (3, yX3_init, cX3_init, 1, none, 2, 0), (3, yX3_keep, cX3_keep, 2, none, 1, 1), (3, yX3_giveBack, cX3_giveBack, 2, none, 1, 1), (3, yX3_become, cX3_become, 2, none, 1, 1), (3, yX3_dropOldest, cX3_dropOldest, 2, none, 1, 0), (2, yX2_init, cX2_init, 2, none, 2, 0), (2, yX2_become, cX2_become, 3, none, 1, 1), (2, yX2_setUp, cX2_setUp, 3, (some .int), 1, 2), (2, yX2_putShelf, cX2_putShelf, 3, (some .int), 1, 2), (2, yX2_addReader, cX2_addReader, 6, (some .int), 1, 4), (2, yX2_putLamp, cX2_putLamp, 3, (some .int), 1, 1), (2, yX2_pourOil, cX2_pourOil, 3, (some .int), 1, 1), (2, yX2_tieString, cX2_tieString, 4, (some .int), 1, 2), (2, yX2_tellPages, cX2_tellPages, 4, (some .int), 1, 2), (2, yX2_burnMinute, cX2_burnMinute, 3, (some .int), 1, 1), (2, yX2_takeBackMinute, cX2_takeBackMinute, 1, (some .int), 1, 0), (2, yX2_hasSquare, cX2_hasSquare, 2, (some .boolean), 1, 1)]
def xMs_1 : List xM := [(2, yX2_hasReader, cX2_hasReader, 2, (some .boolean), 1, 1), (2, yX2_hasShelf, cX2_hasShelf, 2, (some .boolean), 1, 1), (2, yX2_isOpen, cX2_isOpen, 2, (some .boolean), 1, 1), (2, yX2_isFree, cX2_isFree, 2, (some .boolean), 1, 1), (2, yX2_readerAt, cX2_readerAt, 3, (some .int), 1, 1), (2, yX2_column, cX2_column, 2, (some .int), 1, 1), (2, yX2_row, cX2_row, 2, (some .int), 1, 1), (2, yX2_stepsBetween, cX2_stepsBetween, 3, (some .int), 1, 2), (2, yX2_squareBeside, cX2_squareBeside, 6, (some .int), 1, 2), (2, yX2_lightAt, cX2_lightAt, 6, (some .int), 1, 2), (2, yX2_shelvesBetween, cX2_shelvesBetween, 7, (some .int), 1, 3), (2, yX2_fillLights, cX2_fillLights, 5, none, 1, 1), (2, yX2_squareAfterRound, cX2_squareAfterRound, 6, (some .int), 1, 1), (6, yX6_init, cX6_init, 2, none, 2, 0), (6, yX6_findBest, cX6_findBest, 4, none, 1, 3), (6, yX6_findBeen, cX6_findBeen, 5, none, 1, 3), (6, yX6_goForWorth, cX6_goForWorth, 8, none, 1, 4), (6, yX6_goForTold, cX6_goForTold, 6, none, 1, 3), (6, yX6_goMinute, cX6_goMinute, 4, none, 1, 3), (6, yX6_mayBeBest, cX6_mayBeBest, 7, (some .boolean), 1, 3), (6, yX6_mayBeAsTold, cX6_mayBeAsTold, 6, (some .boolean), 1, 2), (6, yX6_pagesToCome, cX6_pagesToCome, 5, (some .int), 1, 3)]
def xMs_2 : List xM := [(4, yX4_init, cX4_init, 1, none, 2, 0), (4, yX4_findStand, cX4_findStand, 3, none, 1, 1), (4, yX4_findTwo, cX4_findTwo, 4, none, 1, 1), (4, yX4_bestSeats, cX4_bestSeats, 5, (some .int), 1, 2), (4, yX4_bestShelf, cX4_bestShelf, 5, (some .int), 1, 2), (4, yX4_forget, cX4_forget, 1, none, 1, 0), (4, yX4_beginChanges, cX4_beginChanges, 3, none, 1, 2), (4, yX4_weighChange, cX4_weighChange, 3, none, 1, 2), (4, yX4_weigh, cX4_weigh, 7, none, 1, 5), (4, yX4_joinLights, cX4_joinLights, 6, none, 1, 3), (1, yX1_init, cX1_init, 1, none, 2, 0), (1, yX1_addBytes, cX1_addBytes, 5, (some .int), 1, 2), (1, yX1_empty, cX1_empty, 2, (some .int), 1, 0), (1, yX1_findItems, cX1_findItems, 3, (some .int), 1, 0), (1, yX1_tellItems, cX1_tellItems, 3, (some .int), 1, 1), (1, yX1_tellItem, cX1_tellItem, 6, (some .int), 1, 3), (1, yX1_findItem, cX1_findItem, 3, (some .int), 1, 0), (1, yX1_isAtEnd, cX1_isAtEnd, 1, (some .boolean), 1, 0), (1, yX1_skipBlanks, cX1_skipBlanks, 3, (some .int), 1, 1), (1, yX1_nextToken, cX1_nextToken, 1, (some .int), 1, 0), (1, yX1_wordOfToken, cX1_wordOfToken, 2, (some .int), 1, 0), (1, yX1_isToken, cX1_isToken, 3, (some .boolean), 1, 1)]
def xMs_3 : List xM := [(1, yX1_numberOfToken, cX1_numberOfToken, 3, (some .int), 1, 0), (1, yX1_nameOf, cX1_nameOf, 1, (some (.object "java/lang/String")), 0, 1), (1, yX1_numbersOf, cX1_numbersOf, 1, (some .int), 0, 1), (1, yX1_isLetter, cX1_isLetter, 1, (some .boolean), 0, 1), (1, yX1_isFigure, cX1_isFigure, 1, (some .boolean), 0, 1), (7, yX7_init, cX7_init, 2, none, 2, 0), (7, yX7_hall, cX7_hall, 3, (some .int), 1, 2), (7, yX7_shelf, cX7_shelf, 3, (some .int), 1, 2), (7, yX7_reader, cX7_reader, 5, (some .int), 1, 4), (7, yX7_lamp, cX7_lamp, 2, (some .int), 1, 1), (7, yX7_oil, cX7_oil, 2, (some .int), 1, 1), (7, yX7_string, cX7_string, 3, (some .int), 1, 2), (7, yX7_light, cX7_light, 3, (some .int), 1, 2), (7, yX7_type, cX7_type, 4, (some .int), 1, 2), (7, yX7_clear, cX7_clear, 1, (some .int), 1, 0), (7, yX7_read, cX7_read, 3, (some .int), 1, 0), (7, yX7_burn, cX7_burn, 2, (some .int), 1, 1), (7, yX7_undo, cX7_undo, 1, (some .int), 1, 0), (7, yX7_left, cX7_left, 2, (some .int), 1, 1), (7, yX7_way, cX7_way, 3, (some .int), 1, 2), (7, yX7_done, cX7_done, 4, (some .int), 1, 3), (7, yX7_stand, cX7_stand, 2, (some .int), 1, 1)]
def xMs_4 : List xM := [(7, yX7_two, cX7_two, 2, (some .int), 1, 1), (7, yX7_seats, cX7_seats, 1, (some .int), 1, 0), (7, yX7_moved, cX7_moved, 1, (some .int), 1, 0), (7, yX7_rest, cX7_rest, 5, (some .int), 1, 1), (7, yX7_told, cX7_told, 3, (some .int), 1, 2), (7, yX7_been, cX7_been, 4, (some .int), 1, 3), (7, yX7_image, cX7_image, 2, (some .int), 1, 1), (7, yX7_from, cX7_from, 2, (some .int), 1, 1), (7, yX7_status, cX7_status, 2, (some .int), 1, 1), (7, yX7_count, cX7_count, 2, (some .int), 1, 1), (7, yX7_digest, cX7_digest, 5, (some .long), 1, 0), (7, yX7_sizeOf, cX7_sizeOf, 2, (some .int), 1, 1), (7, yX7_bestWay, cX7_bestWay, 4, (some .int), 1, 3), (7, yX7_counted, cX7_counted, 2, (some .int), 1, 1), (7, yX7_asTens, cX7_asTens, 1, (some .int), 0, 1), (7, yX7_isZeroOrOne, cX7_isZeroOrOne, 1, (some .boolean), 0, 1), (7, yX7_pagesByLight, cX7_pagesByLight, 5, (some .int), 0, 2), (7, yX7_readMinute, cX7_readMinute, 13, (some .int), 0, 5), (7, yX7_worthBetween, cX7_worthBetween, 5, (some .int), 0, 3), (8, yX8_init, cX8_init, 1, none, 2, 0), (8, yX8_in, cX8_in, 6, (some .boolean), 0, 3), (8, yX8_has, cX8_has, 2, (some .boolean), 0, 2)]
def xMs_5 : List xM := [(8, yX8_sizeOf, cX8_sizeOf, 1, (some .int), 0, 1), (8, yX8_lesser, cX8_lesser, 2, (some .int), 0, 2), (8, yX8_greater, cX8_greater, 2, (some .int), 0, 2), (8, yX8_met, cX8_met, 2, (some .int), 1, 1), (8, yX8_metElse, cX8_metElse, 2, (some .int), 1, 1), (8, yX8_copy, cX8_copy, 4, none, 1, 2), (8, yX8_makeAnew, cX8_makeAnew, 5, none, 1, 3), (8, yX8_setHall, cX8_setHall, 4, (some .int), 1, 3), (8, yX8_squaresOf, cX8_squaresOf, 2, (some .int), 1, 1), (8, yX8_isSquare, cX8_isSquare, 3, (some .boolean), 1, 2), (8, yX8_sitsAt, cX8_sitsAt, 5, (some .int), 1, 2), (8, yX8_setShelf, cX8_setShelf, 4, (some .int), 1, 3), (8, yX8_addReader, cX8_addReader, 7, (some .int), 1, 5), (8, yX8_setLamp, cX8_setLamp, 4, (some .int), 1, 2), (8, yX8_setOil, cX8_setOil, 4, (some .int), 1, 2), (8, yX8_setString, cX8_setString, 5, (some .int), 1, 3), (8, yX8_hall, cX8_hall, 3, (some .int), 1, 2), (8, yX8_shelf, cX8_shelf, 3, (some .int), 1, 2), (8, yX8_reader, cX8_reader, 5, (some .int), 1, 4), (8, yX8_lamp, cX8_lamp, 3, (some .int), 1, 1), (8, yX8_oil, cX8_oil, 2, (some .int), 1, 1), (8, yX8_string, cX8_string, 3, (some .int), 1, 2)]
def xMs_6 : List xM := [(8, yX8_isOne, cX8_isOne, 2, (some .boolean), 1, 1), (8, yX8_lightOf, cX8_lightOf, 10, (some .int), 1, 2), (8, yX8_light, cX8_light, 3, (some .int), 1, 2), (8, yX8_type, cX8_type, 5, (some .int), 1, 2), (8, yX8_clear, cX8_clear, 2, (some .int), 1, 0), (8, yX8_isEnd, cX8_isEnd, 1, (some .boolean), 1, 0), (8, yX8_wordOf, cX8_wordOf, 2, (some .int), 0, 1), (8, yX8_numbersOf, cX8_numbersOf, 1, (some .int), 0, 1), (8, yX8_takeNumber, cX8_takeNumber, 3, (some .int), 1, 0), (8, yX8_takeItem, cX8_takeItem, 6, none, 1, 0), (8, yX8_tellItem, cX8_tellItem, 4, (some .int), 1, 1), (8, yX8_read, cX8_read, 2, (some .int), 1, 0), (8, yX8_beginNow, cX8_beginNow, 2, none, 1, 0), (8, yX8_readsBy, cX8_readsBy, 7, (some .int), 1, 3), (8, yX8_minute, cX8_minute, 8, (some .int), 1, 3), (8, yX8_isBeside, cX8_isBeside, 3, (some .boolean), 1, 2), (8, yX8_minds, cX8_minds, 3, none, 1, 0), (8, yX8_burn, cX8_burn, 3, (some .int), 1, 1), (8, yX8_undo, cX8_undo, 3, (some .int), 1, 0), (8, yX8_left, cX8_left, 2, (some .int), 1, 1), (8, yX8_besideBehind, cX8_besideBehind, 4, (some .int), 1, 2), (8, yX8_end, cX8_end, 7, none, 1, 3)]
def xMs_7 : List xM := [(8, yX8_goAll, cX8_goAll, 8, none, 1, 4), (8, yX8_way, cX8_way, 3, (some .int), 1, 2), (8, yX8_done, cX8_done, 4, (some .int), 1, 3), (8, yX8_findStand, cX8_findStand, 4, (some .int), 1, 0), (8, yX8_stand, cX8_stand, 3, (some .int), 1, 1), (8, yX8_two, cX8_two, 7, (some .int), 1, 1), (8, yX8_seats, cX8_seats, 8, (some .int), 1, 0), (8, yX8_moved, cX8_moved, 7, (some .int), 1, 0), (8, yX8_pulled, cX8_pulled, 8, (some .int), 1, 1), (8, yX8_rest, cX8_rest, 5, (some .int), 1, 1), (8, yX8_told, cX8_told, 4, (some .int), 1, 2), (8, yX8_been, cX8_been, 5, (some .int), 1, 3), (8, yX8_image, cX8_image, 2, (some .int), 1, 1), (8, yX8_from, cX8_from, 2, (some .int), 1, 1), (8, yX8_status, cX8_status, 2, (some .int), 1, 1), (8, yX8_countOf, cX8_countOf, 4, (some .int), 1, 1), (8, yX8_count, cX8_count, 2, (some .int), 1, 1), (8, yX8_mix, cX8_mix, 3, none, 1, 1), (8, yX8_digest, cX8_digest, 2, (some .long), 1, 0), (9, yJ6_compare_7cf53, cJ6_compare_7cf53, 2, (some .int), 0, 2), (9, yJ6_bitCount_0f7a4, cJ6_bitCount_0f7a4, 1, (some .int), 0, 1), (9, yJ6_signum_0f7a4, cJ6_signum_0f7a4, 1, (some .int), 0, 1)]
def xMs : List xM := xMs_0 ++ (xMs_1 ++ (xMs_2 ++ (xMs_3 ++ (xMs_4 ++ (xMs_5 ++ (xMs_6 ++ (xMs_7)))))))
def xm (k : Nat) : xM := xMs.getD k (0, yX0_init, cX0_init, 1, none, 2, 0)
def xR (c : Nat) : String := [RX0, RX1, RX2, RX3, RX4, RX5, RX6, RX7, RX8, RJ6].getD c RX0
def xFl_0 : List (Nat × Nat × Nat) := [(9, 0, 0), (15, 0, 1)]
def xMl_0 : List (Nat × Nat × Nat) := [(3, 2, 0), (19, 6, 0)]
def xLl_0 : List (Nat × Int64) := []
def xIl_0 : List (Nat × Int32) := []
def xNl_0 : List (Nat × Nat) := []
def xSl_0 : List (Nat × Nat) := []
def xFl_1 : List (Nat × Nat × Nat) := [(21, 1, 0), (25, 1, 1), (9, 1, 2), (15, 1, 3), (18, 1, 4), (70, 1, 5), (28, 1, 6)]
def xMl_1 : List (Nat × Nat × Nat) := [(3, 2, 0), (31, 0, 61), (82, 0, 62), (35, 0, 60), (67, 0, 63), (85, 0, 69), (89, 0, 70), (73, 0, 64), (92, 0, 67), (96, 0, 65), (100, 7, 0), (104, 8, 0), (76, 0, 68), (79, 0, 66), (39, 0, 59), (43, 0, 12), (49, 0, 13), (53, 0, 14), (57, 0, 15), (61, 0, 16), (64, 0, 17)]
def xLl_1 : List (Nat × Int64) := []
def xIl_1 : List (Nat × Int32) := []
def xNl_1 : List (Nat × Nat) := []
def xSl_1 : List (Nat × Nat) := [(108, 0), (110, 1), (112, 2), (114, 3), (116, 4), (118, 5)]
def xFl_2 : List (Nat × Nat × Nat) := [(110, 0, 0), (72, 0, 1), (75, 3, 4), (92, 5, 0), (95, 5, 1), (98, 5, 2), (101, 5, 3), (104, 5, 4), (107, 5, 5), (11, 2, 0), (20, 2, 1), (27, 2, 2), (31, 2, 3), (40, 2, 4), (44, 2, 5), (47, 2, 6), (50, 2, 7), (53, 2, 8), (56, 2, 9), (59, 2, 10)]
def xMl_2 : List (Nat × Nat × Nat) := [(3, 2, 0), (19, 1, 0), (26, 1, 5), (35, 1, 3), (36, 0, 12), (78, 0, 21), (82, 0, 23), (85, 0, 26), (89, 0, 25), (138, 0, 24), (113, 0, 22), (141, 0, 27), (144, 5, 0), (147, 0, 28), (150, 0, 32), (126, 3, 0), (154, 4, 0), (62, 0, 4), (66, 0, 2), (69, 0, 8), (116, 0, 29), (119, 0, 6), (123, 0, 31), (131, 1, 105), (135, 0, 7), (157, 0, 173), (162, 0, 175)]
def xLl_2 : List (Nat × Int64) := []
def xIl_2 : List (Nat × Int32) := []
def xNl_2 : List (Nat × Nat) := [(9, 5), (17, 0), (24, 3)]
def xSl_2 : List (Nat × Nat) := []
def xFl_3 : List (Nat × Nat × Nat) := [(45, 0, 0), (41, 0, 1), (9, 3, 0), (15, 3, 1), (18, 3, 2), (21, 3, 3), (24, 3, 4), (37, 2, 1), (31, 2, 7), (35, 2, 8)]
def xMl_3 : List (Nat × Nat × Nat) := [(3, 2, 0), (46, 6, 0), (28, 0, 9)]
def xLl_3 : List (Nat × Int64) := []
def xIl_3 : List (Nat × Int32) := []
def xNl_3 : List (Nat × Nat) := []
def xSl_3 : List (Nat × Nat) := []
def xFl_4 : List (Nat × Nat × Nat) := [(61, 5, 0), (57, 2, 0), (104, 2, 1), (34, 2, 6), (79, 2, 7), (54, 2, 9), (82, 2, 10), (88, 4, 0), (91, 4, 1), (85, 4, 2), (9, 4, 3), (15, 4, 4), (21, 4, 5), (101, 4, 6), (73, 4, 7)]
def xMl_4 : List (Nat × Nat × Nat) := [(3, 2, 0), (20, 1, 0), (25, 0, 33), (31, 0, 49), (38, 0, 24), (42, 0, 52), (107, 1, 105), (111, 1, 106), (46, 0, 53), (115, 4, 0), (50, 0, 50), (94, 0, 11), (98, 0, 45), (66, 0, 51), (70, 0, 25), (76, 0, 23)]
def xLl_4 : List (Nat × Int64) := []
def xIl_4 : List (Nat × Int32) := []
def xNl_4 : List (Nat × Nat) := [(18, 0)]
def xSl_4 : List (Nat × Nat) := []
def xFl_5 : List (Nat × Nat × Nat) := [(7, 5, 0), (13, 5, 1), (16, 5, 2), (19, 5, 3), (22, 5, 4), (25, 5, 5)]
def xMl_5 : List (Nat × Nat × Nat) := [(1, 2, 0)]
def xLl_5 : List (Nat × Int64) := []
def xIl_5 : List (Nat × Int32) := []
def xNl_5 : List (Nat × Nat) := []
def xSl_5 : List (Nat × Nat) := []
def xFl_6 : List (Nat × Nat × Nat) := [(67, 0, 0), (79, 0, 1), (130, 5, 1), (74, 5, 2), (124, 5, 3), (127, 5, 5), (70, 2, 0), (34, 2, 1), (57, 2, 7), (64, 2, 9), (9, 6, 0), (54, 6, 1), (82, 6, 2), (85, 6, 3), (17, 6, 4), (21, 6, 5), (24, 6, 6), (47, 6, 7), (51, 6, 8)]
def xMl_6 : List (Nat × Nat × Nat) := [(3, 2, 0), (27, 1, 0), (28, 0, 33), (37, 0, 2), (41, 4, 0), (60, 0, 38), (92, 0, 41), (120, 0, 43), (133, 1, 104), (96, 6, 0), (102, 0, 30), (105, 0, 40), (116, 1, 105), (108, 1, 106), (88, 0, 39), (112, 0, 42)]
def xLl_6 : List (Nat × Int64) := []
def xIl_6 : List (Nat × Int32) := []
def xNl_6 : List (Nat × Nat) := [(15, 0)]
def xSl_6 : List (Nat × Nat) := []
def xFl_7 : List (Nat × Nat × Nat) := [(119, 0, 0), (268, 0, 1), (244, 3, 4), (213, 5, 0), (218, 5, 1), (221, 5, 2), (224, 5, 3), (225, 5, 4), (231, 5, 5), (209, 2, 0), (115, 2, 1), (240, 2, 2), (203, 2, 4), (141, 2, 6), (165, 2, 7), (237, 2, 8), (206, 2, 9), (144, 2, 10), (248, 1, 0), (102, 1, 1), (257, 6, 0), (254, 6, 1), (181, 6, 2), (184, 6, 3), (135, 4, 0), (155, 4, 1), (138, 4, 2), (10, 7, 0), (16, 7, 1), (19, 7, 2), (23, 7, 3), (30, 7, 4), (37, 7, 5), (44, 7, 6), (187, 7, 7), (190, 7, 8), (193, 7, 9)]
def xMl_7 : List (Nat × Nat × Nat) := [(1, 2, 0), (9, 0, 10), (29, 1, 54), (36, 0, 35), (43, 1, 44), (48, 0, 12), (52, 0, 101), (56, 0, 13), (60, 0, 14), (64, 0, 15), (67, 0, 102), (70, 0, 16), (73, 0, 17), (76, 0, 21), (80, 0, 31), (83, 0, 55), (87, 0, 56), (91, 0, 57), (94, 0, 58), (98, 0, 11), (106, 0, 19), (260, 0, 104), (228, 0, 1), (263, 4, 0), (109, 0, 20), (112, 0, 22), (125, 0, 100), (251, 0, 36), (129, 0, 103), (132, 0, 45), (147, 0, 174), (152, 0, 46), (158, 0, 47), (162, 0, 48), (168, 0, 34), (171, 0, 18), (174, 0, 24), (177, 0, 37), (196, 0, 99), (234, 0, 23)]
def xLl_7 : List (Nat × Int64) := [(199, 769), (201, 31)]
def xIl_7 : List (Nat × Int32) := []
def xNl_7 : List (Nat × Nat) := [(7, 2), (27, 1), (34, 6), (41, 4)]
def xSl_7 : List (Nat × Nat) := []
def xFl_8 : List (Nat × Nat × Nat) := [(7, 8, 0), (13, 8, 1), (17, 8, 2), (118, 8, 3), (20, 8, 4), (23, 8, 5), (26, 8, 6), (162, 8, 7), (124, 8, 8), (143, 8, 9), (29, 8, 10), (32, 8, 11), (182, 8, 12), (35, 8, 13), (38, 8, 14), (41, 8, 15), (210, 8, 16), (204, 8, 17), (207, 8, 18), (226, 8, 19), (240, 8, 20)]
def xMl_8 : List (Nat × Nat × Nat) := [(1, 2, 0), (44, 0, 116), (77, 0, 117), (52, 0, 108), (81, 0, 113), (84, 0, 121), (60, 0, 119), (56, 0, 118), (64, 0, 109), (67, 0, 120), (88, 0, 122), (92, 0, 123), (95, 0, 114), (98, 0, 124), (101, 0, 125), (113, 0, 133), (104, 0, 110), (107, 0, 112), (110, 0, 111), (139, 0, 137), (172, 0, 141), (158, 0, 138), (165, 0, 139), (168, 0, 140), (175, 0, 142), (178, 0, 115), (188, 0, 147), (191, 0, 148), (194, 0, 144), (197, 0, 146), (185, 0, 145), (200, 0, 132), (222, 0, 154), (213, 0, 152), (216, 0, 153), (229, 0, 157), (232, 0, 162), (235, 0, 169), (246, 0, 171)]
def xLl_8 : List (Nat × Int64) := [(48, 2), (50, 5), (71, 20), (73, 9), (75, 12), (116, 8), (122, 255), (150, 97), (152, 122), (154, 32), (156, 96), (127, 263564), (129, 20190598), (131, 609259698), (133, 394672), (135, 15660), (137, 659105223), (146, 48), (148, 57), (220, 6), (244, 769), (238, 31)]
def xIl_8 : List (Nat × Int32) := []
def xNl_8 : List (Nat × Nat) := []
def xSl_8 : List (Nat × Nat) := []
def xFl_9 : List (Nat × Nat × Nat) := []
def xMl_9 : List (Nat × Nat × Nat) := []
def xLl_9 : List (Nat × Int64) := []
def xIl_9 : List (Nat × Int32) := [(265, 1431655765), (266, 858993459), (267, 252645135)]
def xNl_9 : List (Nat × Nat) := []
def xSl_9 : List (Nat × Nat) := []
def xFl (c : Nat) : List (Nat × Nat × Nat) := [xFl_0, xFl_1, xFl_2, xFl_3, xFl_4, xFl_5, xFl_6, xFl_7, xFl_8, xFl_9].getD c []
def xMl (c : Nat) : List (Nat × Nat × Nat) := [xMl_0, xMl_1, xMl_2, xMl_3, xMl_4, xMl_5, xMl_6, xMl_7, xMl_8, xMl_9].getD c []
def xLl (c : Nat) : List (Nat × Int64) := [xLl_0, xLl_1, xLl_2, xLl_3, xLl_4, xLl_5, xLl_6, xLl_7, xLl_8, xLl_9].getD c []
def xIl (c : Nat) : List (Nat × Int32) := [xIl_0, xIl_1, xIl_2, xIl_3, xIl_4, xIl_5, xIl_6, xIl_7, xIl_8, xIl_9].getD c []
def xNl (c : Nat) : List (Nat × Nat) := [xNl_0, xNl_1, xNl_2, xNl_3, xNl_4, xNl_5, xNl_6, xNl_7, xNl_8, xNl_9].getD c []
def xSl (c : Nat) : List (Nat × Nat) := [xSl_0, xSl_1, xSl_2, xSl_3, xSl_4, xSl_5, xSl_6, xSl_7, xSl_8, xSl_9].getD c []
def x_find {α : Type} (l : List (Nat × α)) (i : Nat) : Option α := match l with
  | [] => none
  | q :: r => if q.1 = i then some q.2 else x_find r i
theorem x_find_mem {α : Type} {l : List (Nat × α)} {i : Nat} {a : α} (h : x_find l i = some a) : (i, a) ∈ l := by
  induction l with
  | nil => cases h
  | cons q r ih =>
    unfold x_find at h
    by_cases hq : q.1 = i
    · rw [if_pos hq] at h
      cases h
      subst hq
      exact List.mem_cons_self
    · rw [if_neg hq] at h
      exact List.mem_cons_of_mem _ (ih h)
def xf (c i : Nat) : Option (Nat × Nat) := x_find (xFl c) i
def xmt (c i : Nat) : Option (Nat × Nat) := x_find (xMl c) i
def xlg (c i : Nat) : Option Int64 := x_find (xLl c) i
def xit (c i : Nat) : Option Int32 := x_find (xIl c) i
def xnw (c i : Nat) : Option Nat := x_find (xNl c) i
def xst (c i : Nat) : Option Nat := x_find (xSl c) i
theorem xc_0 : (xm 0).2.2.1 = cX0_init := rfl
theorem xc_1 : (xm 1).2.2.1 = cX0_isLit := rfl
theorem xc_2 : (xm 2).2.2.1 = cX0_become := rfl
theorem xc_3 : (xm 3).2.2.1 = cX5_init := rfl
theorem xc_4 : (xm 4).2.2.1 = cX5_become := rfl
theorem xc_5 : (xm 5).2.2.1 = cX3_init := rfl
theorem xc_6 : (xm 6).2.2.1 = cX3_keep := rfl
theorem xc_7 : (xm 7).2.2.1 = cX3_giveBack := rfl
theorem xc_8 : (xm 8).2.2.1 = cX3_become := rfl
theorem xc_9 : (xm 9).2.2.1 = cX3_dropOldest := rfl
theorem xc_10 : (xm 10).2.2.1 = cX2_init := rfl
theorem xc_11 : (xm 11).2.2.1 = cX2_become := rfl
theorem xc_12 : (xm 12).2.2.1 = cX2_setUp := rfl
theorem xc_13 : (xm 13).2.2.1 = cX2_putShelf := rfl
theorem xc_14 : (xm 14).2.2.1 = cX2_addReader := rfl
theorem xc_15 : (xm 15).2.2.1 = cX2_putLamp := rfl
theorem xc_16 : (xm 16).2.2.1 = cX2_pourOil := rfl
theorem xc_17 : (xm 17).2.2.1 = cX2_tieString := rfl
theorem xc_18 : (xm 18).2.2.1 = cX2_tellPages := rfl
theorem xc_19 : (xm 19).2.2.1 = cX2_burnMinute := rfl
theorem xc_20 : (xm 20).2.2.1 = cX2_takeBackMinute := rfl
theorem xc_21 : (xm 21).2.2.1 = cX2_hasSquare := rfl
theorem xc_22 : (xm 22).2.2.1 = cX2_hasReader := rfl
theorem xc_23 : (xm 23).2.2.1 = cX2_hasShelf := rfl
theorem xc_24 : (xm 24).2.2.1 = cX2_isOpen := rfl
theorem xc_25 : (xm 25).2.2.1 = cX2_isFree := rfl
theorem xc_26 : (xm 26).2.2.1 = cX2_readerAt := rfl
theorem xc_27 : (xm 27).2.2.1 = cX2_column := rfl
theorem xc_28 : (xm 28).2.2.1 = cX2_row := rfl
theorem xc_29 : (xm 29).2.2.1 = cX2_stepsBetween := rfl
theorem xc_30 : (xm 30).2.2.1 = cX2_squareBeside := rfl
theorem xc_31 : (xm 31).2.2.1 = cX2_lightAt := rfl
theorem xc_32 : (xm 32).2.2.1 = cX2_shelvesBetween := rfl
theorem xc_33 : (xm 33).2.2.1 = cX2_fillLights := rfl
theorem xc_34 : (xm 34).2.2.1 = cX2_squareAfterRound := rfl
theorem xc_35 : (xm 35).2.2.1 = cX6_init := rfl
theorem xc_36 : (xm 36).2.2.1 = cX6_findBest := rfl
theorem xc_37 : (xm 37).2.2.1 = cX6_findBeen := rfl
theorem xc_38 : (xm 38).2.2.1 = cX6_goForWorth := rfl
theorem xc_39 : (xm 39).2.2.1 = cX6_goForTold := rfl
theorem xc_40 : (xm 40).2.2.1 = cX6_goMinute := rfl
theorem xc_41 : (xm 41).2.2.1 = cX6_mayBeBest := rfl
theorem xc_42 : (xm 42).2.2.1 = cX6_mayBeAsTold := rfl
theorem xc_43 : (xm 43).2.2.1 = cX6_pagesToCome := rfl
theorem xc_44 : (xm 44).2.2.1 = cX4_init := rfl
theorem xc_45 : (xm 45).2.2.1 = cX4_findStand := rfl
theorem xc_46 : (xm 46).2.2.1 = cX4_findTwo := rfl
theorem xc_47 : (xm 47).2.2.1 = cX4_bestSeats := rfl
theorem xc_48 : (xm 48).2.2.1 = cX4_bestShelf := rfl
theorem xc_49 : (xm 49).2.2.1 = cX4_forget := rfl
theorem xc_50 : (xm 50).2.2.1 = cX4_beginChanges := rfl
theorem xc_51 : (xm 51).2.2.1 = cX4_weighChange := rfl
theorem xc_52 : (xm 52).2.2.1 = cX4_weigh := rfl
theorem xc_53 : (xm 53).2.2.1 = cX4_joinLights := rfl
theorem xc_54 : (xm 54).2.2.1 = cX1_init := rfl
theorem xc_55 : (xm 55).2.2.1 = cX1_addBytes := rfl
theorem xc_56 : (xm 56).2.2.1 = cX1_empty := rfl
theorem xc_57 : (xm 57).2.2.1 = cX1_findItems := rfl
theorem xc_58 : (xm 58).2.2.1 = cX1_tellItems := rfl
theorem xc_59 : (xm 59).2.2.1 = cX1_tellItem := rfl
theorem xc_60 : (xm 60).2.2.1 = cX1_findItem := rfl
theorem xc_61 : (xm 61).2.2.1 = cX1_isAtEnd := rfl
theorem xc_62 : (xm 62).2.2.1 = cX1_skipBlanks := rfl
theorem xc_63 : (xm 63).2.2.1 = cX1_nextToken := rfl
theorem xc_64 : (xm 64).2.2.1 = cX1_wordOfToken := rfl
theorem xc_65 : (xm 65).2.2.1 = cX1_isToken := rfl
theorem xc_66 : (xm 66).2.2.1 = cX1_numberOfToken := rfl
theorem xc_67 : (xm 67).2.2.1 = cX1_nameOf := rfl
theorem xc_68 : (xm 68).2.2.1 = cX1_numbersOf := rfl
theorem xc_69 : (xm 69).2.2.1 = cX1_isLetter := rfl
theorem xc_70 : (xm 70).2.2.1 = cX1_isFigure := rfl
theorem xc_71 : (xm 71).2.2.1 = cX7_init := rfl
theorem xc_72 : (xm 72).2.2.1 = cX7_hall := rfl
theorem xc_73 : (xm 73).2.2.1 = cX7_shelf := rfl
theorem xc_74 : (xm 74).2.2.1 = cX7_reader := rfl
theorem xc_75 : (xm 75).2.2.1 = cX7_lamp := rfl
theorem xc_76 : (xm 76).2.2.1 = cX7_oil := rfl
theorem xc_77 : (xm 77).2.2.1 = cX7_string := rfl
theorem xc_78 : (xm 78).2.2.1 = cX7_light := rfl
theorem xc_79 : (xm 79).2.2.1 = cX7_type := rfl
theorem xc_80 : (xm 80).2.2.1 = cX7_clear := rfl
theorem xc_81 : (xm 81).2.2.1 = cX7_read := rfl
theorem xc_82 : (xm 82).2.2.1 = cX7_burn := rfl
theorem xc_83 : (xm 83).2.2.1 = cX7_undo := rfl
theorem xc_84 : (xm 84).2.2.1 = cX7_left := rfl
theorem xc_85 : (xm 85).2.2.1 = cX7_way := rfl
theorem xc_86 : (xm 86).2.2.1 = cX7_done := rfl
theorem xc_87 : (xm 87).2.2.1 = cX7_stand := rfl
theorem xc_88 : (xm 88).2.2.1 = cX7_two := rfl
theorem xc_89 : (xm 89).2.2.1 = cX7_seats := rfl
theorem xc_90 : (xm 90).2.2.1 = cX7_moved := rfl
theorem xc_91 : (xm 91).2.2.1 = cX7_rest := rfl
theorem xc_92 : (xm 92).2.2.1 = cX7_told := rfl
theorem xc_93 : (xm 93).2.2.1 = cX7_been := rfl
theorem xc_94 : (xm 94).2.2.1 = cX7_image := rfl
theorem xc_95 : (xm 95).2.2.1 = cX7_from := rfl
theorem xc_96 : (xm 96).2.2.1 = cX7_status := rfl
theorem xc_97 : (xm 97).2.2.1 = cX7_count := rfl
theorem xc_98 : (xm 98).2.2.1 = cX7_digest := rfl
theorem xc_99 : (xm 99).2.2.1 = cX7_sizeOf := rfl
theorem xc_100 : (xm 100).2.2.1 = cX7_bestWay := rfl
theorem xc_101 : (xm 101).2.2.1 = cX7_counted := rfl
theorem xc_102 : (xm 102).2.2.1 = cX7_asTens := rfl
theorem xc_103 : (xm 103).2.2.1 = cX7_isZeroOrOne := rfl
theorem xc_104 : (xm 104).2.2.1 = cX7_pagesByLight := rfl
theorem xc_105 : (xm 105).2.2.1 = cX7_readMinute := rfl
theorem xc_106 : (xm 106).2.2.1 = cX7_worthBetween := rfl
theorem xc_107 : (xm 107).2.2.1 = cX8_init := rfl
theorem xc_108 : (xm 108).2.2.1 = cX8_in := rfl
theorem xc_109 : (xm 109).2.2.1 = cX8_has := rfl
theorem xc_110 : (xm 110).2.2.1 = cX8_sizeOf := rfl
theorem xc_111 : (xm 111).2.2.1 = cX8_lesser := rfl
theorem xc_112 : (xm 112).2.2.1 = cX8_greater := rfl
theorem xc_113 : (xm 113).2.2.1 = cX8_met := rfl
theorem xc_114 : (xm 114).2.2.1 = cX8_metElse := rfl
theorem xc_115 : (xm 115).2.2.1 = cX8_copy := rfl
theorem xc_116 : (xm 116).2.2.1 = cX8_makeAnew := rfl
theorem xc_117 : (xm 117).2.2.1 = cX8_setHall := rfl
theorem xc_118 : (xm 118).2.2.1 = cX8_squaresOf := rfl
theorem xc_119 : (xm 119).2.2.1 = cX8_isSquare := rfl
theorem xc_120 : (xm 120).2.2.1 = cX8_sitsAt := rfl
theorem xc_121 : (xm 121).2.2.1 = cX8_setShelf := rfl
theorem xc_122 : (xm 122).2.2.1 = cX8_addReader := rfl
theorem xc_123 : (xm 123).2.2.1 = cX8_setLamp := rfl
theorem xc_124 : (xm 124).2.2.1 = cX8_setOil := rfl
theorem xc_125 : (xm 125).2.2.1 = cX8_setString := rfl
theorem xc_126 : (xm 126).2.2.1 = cX8_hall := rfl
theorem xc_127 : (xm 127).2.2.1 = cX8_shelf := rfl
theorem xc_128 : (xm 128).2.2.1 = cX8_reader := rfl
theorem xc_129 : (xm 129).2.2.1 = cX8_lamp := rfl
theorem xc_130 : (xm 130).2.2.1 = cX8_oil := rfl
theorem xc_131 : (xm 131).2.2.1 = cX8_string := rfl
theorem xc_132 : (xm 132).2.2.1 = cX8_isOne := rfl
theorem xc_133 : (xm 133).2.2.1 = cX8_lightOf := rfl
theorem xc_134 : (xm 134).2.2.1 = cX8_light := rfl
theorem xc_135 : (xm 135).2.2.1 = cX8_type := rfl
theorem xc_136 : (xm 136).2.2.1 = cX8_clear := rfl
theorem xc_137 : (xm 137).2.2.1 = cX8_isEnd := rfl
theorem xc_138 : (xm 138).2.2.1 = cX8_wordOf := rfl
theorem xc_139 : (xm 139).2.2.1 = cX8_numbersOf := rfl
theorem xc_140 : (xm 140).2.2.1 = cX8_takeNumber := rfl
theorem xc_141 : (xm 141).2.2.1 = cX8_takeItem := rfl
theorem xc_142 : (xm 142).2.2.1 = cX8_tellItem := rfl
theorem xc_143 : (xm 143).2.2.1 = cX8_read := rfl
theorem xc_144 : (xm 144).2.2.1 = cX8_beginNow := rfl
theorem xc_145 : (xm 145).2.2.1 = cX8_readsBy := rfl
theorem xc_146 : (xm 146).2.2.1 = cX8_minute := rfl
theorem xc_147 : (xm 147).2.2.1 = cX8_isBeside := rfl
theorem xc_148 : (xm 148).2.2.1 = cX8_minds := rfl
theorem xc_149 : (xm 149).2.2.1 = cX8_burn := rfl
theorem xc_150 : (xm 150).2.2.1 = cX8_undo := rfl
theorem xc_151 : (xm 151).2.2.1 = cX8_left := rfl
theorem xc_152 : (xm 152).2.2.1 = cX8_besideBehind := rfl
theorem xc_153 : (xm 153).2.2.1 = cX8_end := rfl
theorem xc_154 : (xm 154).2.2.1 = cX8_goAll := rfl
theorem xc_155 : (xm 155).2.2.1 = cX8_way := rfl
theorem xc_156 : (xm 156).2.2.1 = cX8_done := rfl
theorem xc_157 : (xm 157).2.2.1 = cX8_findStand := rfl
theorem xc_158 : (xm 158).2.2.1 = cX8_stand := rfl
theorem xc_159 : (xm 159).2.2.1 = cX8_two := rfl
theorem xc_160 : (xm 160).2.2.1 = cX8_seats := rfl
theorem xc_161 : (xm 161).2.2.1 = cX8_moved := rfl
theorem xc_162 : (xm 162).2.2.1 = cX8_pulled := rfl
theorem xc_163 : (xm 163).2.2.1 = cX8_rest := rfl
theorem xc_164 : (xm 164).2.2.1 = cX8_told := rfl
theorem xc_165 : (xm 165).2.2.1 = cX8_been := rfl
theorem xc_166 : (xm 166).2.2.1 = cX8_image := rfl
theorem xc_167 : (xm 167).2.2.1 = cX8_from := rfl
theorem xc_168 : (xm 168).2.2.1 = cX8_status := rfl
theorem xc_169 : (xm 169).2.2.1 = cX8_countOf := rfl
theorem xc_170 : (xm 170).2.2.1 = cX8_count := rfl
theorem xc_171 : (xm 171).2.2.1 = cX8_mix := rfl
theorem xc_172 : (xm 172).2.2.1 = cX8_digest := rfl
theorem xc_173 : (xm 173).2.2.1 = cJ6_compare_7cf53 := rfl
theorem xc_174 : (xm 174).2.2.1 = cJ6_bitCount_0f7a4 := rfl
theorem xc_175 : (xm 175).2.2.1 = cJ6_signum_0f7a4 := rfl
