set_option maxRecDepth 20000 in
theorem ggX0_addPart_X0_has : GoodIn wsX0_addPart wsX0_has := goodIn_r _ [9, 10, 11, 12, 13, 14, 15, 16, 17, 18, 19, 20, 21, 22, 23] rfl (by decide +kernel)
set_option maxRecDepth 20000 in
theorem ggX0_arrange_X0_dependsOn : GoodIn wsX0_arrange wsX0_dependsOn := goodIn_r _ [10, 5, 19, 20, 21, 22, 23, 24, 25, 26, 27, 28, 29, 30, 31] rfl (by decide +kernel)
set_option maxRecDepth 20000 in
theorem ggX0_arrange_X0_levelAbove : GoodIn wsX0_arrange wsX0_levelAbove := goodIn_r _ [14, 1, 4, 15, 16, 17, 18, 19, 20, 21, 22, 23, 24, 25, 26, 27, 28, 29, 30, 31] rfl (by decide +kernel)
set_option maxRecDepth 20000 in
theorem ggX0_beginDriver_X0_has : GoodIn wsX0_beginDriver wsX0_has := goodIn_r _ [6, 7, 14, 15, 16, 17, 18, 19, 20, 21, 22, 23, 24, 25, 26] rfl (by decide +kernel)
set_option maxRecDepth 20000 in
theorem ggX0_beginDriver_X0_size : GoodIn wsX0_beginDriver wsX0_size := goodIn_r _ [11, 12, 13, 14, 15, 16, 17, 18, 19, 20, 21, 22, 23, 24, 25, 26] rfl (by decide +kernel)
set_option maxRecDepth 20000 in
theorem ggX0_isKind_X0_has : GoodIn wsX0_isKind wsX0_has := goodIn_r _ [6, 7, 8, 9, 10, 11, 12, 13, 14, 15, 16, 17, 18, 19, 20] rfl (by decide +kernel)
set_option maxRecDepth 20000 in
theorem ggX0_isSource_X0_isKind : GoodIn wsX0_isSource wsX0_isKind := goodIn_r _ [5, 6, 7, 8, 9, 4, 10, 11, 12, 13, 14, 15, 16, 17, 18, 19, 20, 21, 22, 23, 24] rfl (by decide +kernel)
set_option maxRecDepth 20000 in
theorem ggX1_advance_X1_isBlank : GoodIn wsX1_advance wsX1_isBlank := goodIn_r _ [9] rfl (by decide +kernel)
set_option maxRecDepth 20000 in
theorem ggX1_advance_X1_isDigit : GoodIn wsX1_advance wsX1_isDigit := goodIn_r _ [23] rfl (by decide +kernel)
set_option maxRecDepth 20000 in
theorem ggX1_advance_X1_isLetter : GoodIn wsX1_advance wsX1_isLetter := goodIn_r _ [12] rfl (by decide +kernel)
set_option maxRecDepth 20000 in
theorem ggX1_advance_X1_isSign : GoodIn wsX1_advance wsX1_isSign := goodIn_r _ [31] rfl (by decide +kernel)
set_option maxRecDepth 20000 in
theorem ggX1_advance_X1_takeDigit : GoodIn wsX1_advance wsX1_takeDigit := goodIn_r _ [27, 3, 1, 28, 2, 5, 18, 19, 8, 20, 10, 11, 12, 21, 22, 23, 32, 33, 34, 35, 36, 37, 38] rfl (by decide +kernel)
set_option maxRecDepth 20000 in
theorem ggX1_advance_X1_takeWord : GoodIn wsX1_advance wsX1_takeWord := goodIn_r _ [16, 17, 1, 2, 3, 4, 5, 18, 19, 8, 20, 10, 11, 12, 21, 22, 23, 32, 33, 34, 35, 36, 37, 38] rfl (by decide +kernel)
set_option maxRecDepth 20000 in
theorem ggX1_isLetterOrDigit_X1_isDigit : GoodIn wsX1_isLetterOrDigit wsX1_isDigit := goodIn_r _ [7] rfl (by decide +kernel)
set_option maxRecDepth 20000 in
theorem ggX1_isLetterOrDigit_X1_isLetter : GoodIn wsX1_isLetterOrDigit wsX1_isLetter := goodIn_r _ [4] rfl (by decide +kernel)
set_option maxRecDepth 20000 in
theorem ggX1_takeDigit_X1_isLetterOrDigit : GoodIn wsX1_takeDigit wsX1_isLetterOrDigit := goodIn_r _ [9, 10, 11, 8, 12, 13, 14, 15] rfl (by decide +kernel)
set_option maxRecDepth 20000 in
theorem ggX1_takeWord_X1_isLetterOrDigit : GoodIn wsX1_takeWord wsX1_isLetterOrDigit := goodIn_r _ [10, 11, 12, 9, 13, 14, 15, 16] rfl (by decide +kernel)
set_option maxRecDepth 20000 in
theorem ggX2_afterTick_X0_part : GoodIn wsX2_afterTick wsX0_part := goodIn_r _ [5, 6, 17, 18, 19, 20, 21, 22, 23, 24, 25, 26, 27, 28, 29] rfl (by decide +kernel)
set_option maxRecDepth 20000 in
theorem ggX2_afterTick_X0_size : GoodIn wsX2_afterTick wsX0_size := goodIn_r _ [14, 15, 16, 17, 18, 19, 20, 21, 22, 23, 24, 25, 26, 27, 28, 29] rfl (by decide +kernel)
set_option maxRecDepth 20000 in
theorem ggX2_afterTick_X2_takenIn : GoodIn wsX2_afterTick wsX2_takenIn := goodIn_r _ [10] rfl (by decide +kernel)
set_option maxRecDepth 20000 in
theorem ggX2_busValue_X0_size : GoodIn wsX2_busValue wsX0_size := goodIn_r _ [5, 6, 7, 25, 26, 27, 28, 29, 30, 31, 32, 33, 34, 35, 36, 37] rfl (by decide +kernel)
set_option maxRecDepth 20000 in
theorem ggX2_busValue_X2_driverValue : GoodIn wsX2_busValue wsX2_driverValue := goodIn_r _ [11, 12, 13, 14, 4, 15, 16, 17, 18, 19, 20, 21, 22, 23, 10, 24, 25, 26, 27, 28, 29, 30, 31, 32, 33, 34, 35, 36, 37] rfl (by decide +kernel)
set_option maxRecDepth 20000 in
theorem ggX2_driverValue_X0_isLow : GoodIn wsX2_driverValue wsX0_isLow := goodIn_r _ [10, 11, 16, 17, 18, 19, 20, 21, 22, 23, 24, 25, 26, 27, 28] rfl (by decide +kernel)
set_option maxRecDepth 20000 in
theorem ggX2_driverValue_X0_part : GoodIn wsX2_driverValue wsX0_part := goodIn_r _ [5, 6, 16, 17, 18, 19, 20, 21, 22, 23, 24, 25, 26, 27, 28] rfl (by decide +kernel)
set_option maxRecDepth 20000 in
theorem ggX2_driverValue_X2_takenIn : GoodIn wsX2_driverValue wsX2_takenIn := goodIn_r _ [15] rfl (by decide +kernel)
set_option maxRecDepth 20000 in
theorem ggX2_gateValue_X0_part : GoodIn wsX2_gateValue wsX0_part := goodIn_r _ [10, 11, 27, 28, 29, 30, 31, 32, 33, 34, 35, 36, 37, 38, 39] rfl (by decide +kernel)
set_option maxRecDepth 20000 in
theorem ggX2_gateValue_X0_size : GoodIn wsX2_gateValue wsX0_size := goodIn_r _ [18, 19, 20, 27, 28, 29, 30, 31, 32, 33, 34, 35, 36, 37, 38, 39] rfl (by decide +kernel)
set_option maxRecDepth 20000 in
theorem ggX2_gateValue_X2_isTurned : GoodIn wsX2_gateValue wsX2_isTurned := goodIn_r _ [26] rfl (by decide +kernel)
set_option maxRecDepth 20000 in
theorem ggX2_gateValue_X2_muxValue : GoodIn wsX2_gateValue wsX2_muxValue := goodIn_r _ [5, 6, 7, 8, 9, 10, 11, 12, 13, 4, 14, 27, 28, 29, 30, 31, 32, 33, 34, 35, 36, 37, 38, 39] rfl (by decide +kernel)
set_option maxRecDepth 20000 in
theorem ggX2_gateValue_X2_plainValue : GoodIn wsX2_gateValue wsX2_plainValue := goodIn_r _ [23] rfl (by decide +kernel)
set_option maxRecDepth 20000 in
theorem ggX2_muxValue_X0_part : GoodIn wsX2_muxValue wsX0_part := goodIn_r _ [5, 6, 11, 12, 13, 14, 15, 16, 17, 18, 19, 20, 21, 22, 23] rfl (by decide +kernel)
set_option maxRecDepth 20000 in
theorem ggX2_muxValue_X2_takenIn : GoodIn wsX2_muxValue wsX2_takenIn := goodIn_r _ [10] rfl (by decide +kernel)
set_option maxRecDepth 20000 in
theorem ggX2_settle_X2_busValue : GoodIn wsX2_settle wsX2_busValue := goodIn_r _ [35, 21, 22, 23, 15, 24, 25, 26, 36, 37, 6, 38, 12, 13, 14, 16, 17, 39, 40, 41, 42, 43, 18, 19, 20, 44, 45, 46, 47, 48, 49, 50, 51, 52, 53, 54, 55, 56] rfl (by decide +kernel)
set_option maxRecDepth 20000 in
theorem ggX2_settle_X2_gateValue : GoodIn wsX2_settle wsX2_gateValue := goodIn_r _ [7, 8, 9, 10, 6, 11, 12, 13, 14, 15, 16, 17, 18, 19, 20, 21, 22, 23, 24, 25, 26, 27, 28, 29, 30, 31, 32, 44, 45, 46, 47, 48, 49, 50, 51, 52, 53, 54, 55, 56] rfl (by decide +kernel)
set_option maxRecDepth 20000 in
theorem ggX4_arrive_X4_change : GoodIn wsX4_arrive wsX4_change := goodIn_r _ [16, 17, 18, 19, 20, 2, 34, 35, 36, 37, 38, 39, 40, 41] rfl (by decide +kernel)
set_option maxRecDepth 20000 in
theorem ggX4_arrive_X4_slotAt : GoodIn wsX4_arrive wsX4_slotAt := goodIn_r _ [8, 9, 10, 11, 12] rfl (by decide +kernel)
set_option maxRecDepth 20000 in
theorem ggX4_changeBuses_X2_busValue : GoodIn wsX4_changeBuses wsX2_busValue := goodIn_r _ [8, 9, 10, 11, 12, 13, 14, 15, 16, 17, 7, 18, 19, 20, 21, 22, 23, 24, 25, 26, 27, 28, 29, 30, 31, 41, 42, 43, 44, 45, 46, 47, 48, 49, 50, 51, 52, 53] rfl (by decide +kernel)
set_option maxRecDepth 20000 in
theorem ggX4_changeBuses_X4_change : GoodIn wsX4_changeBuses wsX4_change := goodIn_r _ [36, 4, 37, 38, 39, 40, 54, 55, 56, 57, 58, 59, 60, 61] rfl (by decide +kernel)
set_option maxRecDepth 20000 in
theorem ggX4_follow_X0_dependsOn : GoodIn wsX4_follow wsX0_dependsOn := goodIn_r _ [48, 49, 86, 87, 88, 89, 90, 91, 92, 93, 94, 95, 96, 97, 98] rfl (by decide +kernel)
set_option maxRecDepth 20000 in
theorem ggX4_follow_X4_changeBuses : GoodIn wsX4_follow wsX4_changeBuses := goodIn_r _ [8, 2, 9, 3, 10, 11, 12, 13, 14, 15, 16, 17, 18, 19, 20, 21, 22, 23, 24, 25, 26, 27, 28, 29, 30, 31, 32, 33, 34, 35, 36, 37, 38, 39, 40, 7, 41, 1, 42, 43, 44, 86, 87, 88, 89, 90, 91, 92, 93, 94, 95, 96, 97, 98, 78, 79, 80, 81, 82, 83, 84, 85] rfl (by decide +kernel)
set_option maxRecDepth 20000 in
theorem ggX4_follow_X4_lookAt : GoodIn wsX4_follow wsX4_lookAt := goodIn_r _ [53, 10, 54, 44, 55, 56, 57, 58, 59, 13, 60, 61, 62, 63, 64, 25, 26, 27, 18, 28, 29, 35, 36, 37, 15, 16, 17, 19, 20, 21, 65, 66, 67, 68, 69, 70, 71, 72, 7, 73, 74, 75, 76, 77, 78, 79, 80, 81, 82, 83, 84, 85, 86, 87, 88, 89, 90, 91, 92, 93, 94, 95, 96, 97, 98] rfl (by decide +kernel)
set_option maxRecDepth 20000 in
theorem ggX4_lookAt_X2_gateValue : GoodIn wsX4_lookAt wsX2_gateValue := goodIn_r _ [10, 11, 12, 13, 9, 14, 15, 16, 17, 18, 19, 20, 21, 22, 23, 24, 25, 26, 27, 28, 29, 30, 31, 32, 33, 34, 35, 52, 53, 54, 55, 56, 57, 58, 59, 60, 61, 62, 63, 64] rfl (by decide +kernel)
set_option maxRecDepth 20000 in
theorem ggX4_lookAt_X4_slotAt : GoodIn wsX4_lookAt wsX4_slotAt := goodIn_r _ [39, 40, 41, 42, 43] rfl (by decide +kernel)
set_option maxRecDepth 20000 in
theorem ggX4_slotAt_J9_floorMod_7cf53 : GoodIn wsX4_slotAt wsJ9_floorMod_7cf53 := goodIn_r _ [4] rfl (by decide +kernel)
set_option maxRecDepth 20000 in
theorem ggX4_turn_X4_arrive : GoodIn wsX4_turn wsX4_arrive := goodIn_r _ [85, 9, 1, 61, 2, 75, 76, 6, 77, 78, 79, 80, 81, 44, 45, 46, 47, 16, 8, 48, 49, 94, 95, 96, 97, 98, 99, 100, 101, 102, 103, 104, 105, 106, 86, 87, 88, 89, 90, 91, 92, 93] rfl (by decide +kernel)
set_option maxRecDepth 20000 in
theorem ggX4_turn_X4_follow : GoodIn wsX4_turn wsX4_follow := goodIn_r _ [7, 8, 9, 10, 11, 12, 13, 6, 14, 15, 16, 17, 18, 19, 20, 21, 22, 23, 24, 25, 26, 27, 28, 29, 30, 31, 32, 33, 34, 35, 36, 37, 38, 39, 40, 41, 42, 43, 44, 45, 46, 47, 48, 49, 1, 50, 51, 52, 53, 54, 55, 56, 57, 58, 59, 60, 61, 2, 62, 63, 64, 65, 66, 67, 68, 69, 70, 71, 72, 73, 74, 75, 76, 77, 78, 79, 80, 81, 86, 87, 88, 89, 90, 91, 92, 93, 94, 95, 96, 97, 98, 99, 100, 101, 102, 103, 104, 105, 106] rfl (by decide +kernel)
set_option maxRecDepth 20000 in
theorem ggX5_busRow_X0_isLow : GoodIn wsX5_busRow wsX0_isLow := goodIn_r _ [19, 20, 26, 27, 28, 29, 30, 31, 32, 33, 34, 35, 36, 37, 38] rfl (by decide +kernel)
set_option maxRecDepth 20000 in
theorem ggX5_busRow_X0_part : GoodIn wsX5_busRow wsX0_part := goodIn_r _ [14, 15, 26, 27, 28, 29, 30, 31, 32, 33, 34, 35, 36, 37, 38] rfl (by decide +kernel)
set_option maxRecDepth 20000 in
theorem ggX5_busRow_X0_size : GoodIn wsX5_busRow wsX0_size := goodIn_r _ [8, 9, 10, 26, 27, 28, 29, 30, 31, 32, 33, 34, 35, 36, 37, 38] rfl (by decide +kernel)
set_option maxRecDepth 20000 in
theorem ggX5_collect_J13_bitCount_95d88 : GoodIn wsX5_collect wsJ13_bitCount_95d88 := goodIn_r _ [11, 12, 13, 14] rfl (by decide +kernel)
set_option maxRecDepth 20000 in
theorem ggX5_fillSources_X0_isSource : GoodIn wsX5_fillSources wsX0_isSource := goodIn_r _ [8, 9, 10, 11, 7, 12, 13, 14, 15, 16, 17, 18, 24, 25, 26, 27, 28, 29, 30, 31, 32, 33, 34, 35, 36] rfl (by decide +kernel)
set_option maxRecDepth 20000 in
theorem ggX5_fillSources_X5_freeRow : GoodIn wsX5_fillSources wsX5_freeRow := goodIn_r _ [22, 23, 3] rfl (by decide +kernel)
set_option maxRecDepth 20000 in
theorem ggX5_followOthers_X5_busRow : GoodIn wsX5_followOthers wsX5_busRow := goodIn_r _ [34, 4, 11, 35, 18, 19, 20, 15, 21, 22, 23, 12, 13, 14, 16, 17, 36, 37, 38, 39, 40, 54, 55, 56, 57, 58, 41, 42, 43, 44, 45, 46, 47, 48, 49, 50, 51, 52, 53] rfl (by decide +kernel)
set_option maxRecDepth 20000 in
theorem ggX5_followOthers_X5_gateRow : GoodIn wsX5_followOthers wsX5_gateRow := goodIn_r _ [9, 10, 4, 11, 12, 13, 14, 15, 16, 17, 18, 19, 20, 21, 22, 23, 24, 25, 8, 26, 27, 28, 29, 30, 41, 42, 43, 44, 45, 46, 47, 48, 49, 50, 51, 52, 53, 54, 55, 56, 57, 58] rfl (by decide +kernel)
set_option maxRecDepth 20000 in
theorem ggX5_gateRow_X0_part : GoodIn wsX5_gateRow wsX0_part := goodIn_r _ [8, 9, 24, 25, 26, 27, 28, 29, 30, 31, 32, 33, 34, 35, 36] rfl (by decide +kernel)
set_option maxRecDepth 20000 in
theorem ggX5_gateRow_X0_size : GoodIn wsX5_gateRow wsX0_size := goodIn_r _ [13, 14, 15, 24, 25, 26, 27, 28, 29, 30, 31, 32, 33, 34, 35, 36] rfl (by decide +kernel)
set_option maxRecDepth 20000 in
theorem ggX5_gateRow_X2_isTurned : GoodIn wsX5_gateRow wsX2_isTurned := goodIn_r _ [23] rfl (by decide +kernel)
set_option maxRecDepth 20000 in
theorem ggX5_gateRow_X5_join : GoodIn wsX5_gateRow wsX5_join := goodIn_r _ [19] rfl (by decide +kernel)
set_option maxRecDepth 20000 in
theorem ggX5_goThrough_X5_collect : GoodIn wsX5_goThrough wsX5_collect := goodIn_r _ [72, 1, 5, 11, 12, 3, 4, 2, 73, 74, 75, 76, 77, 78, 79, 80, 81, 82, 83, 84, 85, 86, 87, 88, 89, 90, 91, 92, 93, 94, 95, 96, 97] rfl (by decide +kernel)
set_option maxRecDepth 20000 in
theorem ggX5_goThrough_X5_fillSources : GoodIn wsX5_goThrough wsX5_fillSources := goodIn_r _ [10, 11, 12, 4, 13, 14, 15, 16, 17, 18, 19, 20, 21, 22, 23, 24, 25, 26, 27, 28, 29, 9, 30, 31, 85, 86, 87, 88, 89, 90, 91, 92, 93, 94, 95, 96, 97, 80, 81, 82, 83, 84] rfl (by decide +kernel)
set_option maxRecDepth 20000 in
theorem ggX5_goThrough_X5_followOthers : GoodIn wsX5_goThrough wsX5_followOthers := goodIn_r _ [35, 11, 36, 37, 12, 38, 39, 40, 9, 41, 42, 4, 43, 44, 45, 16, 46, 47, 48, 49, 50, 51, 22, 52, 53, 54, 55, 56, 57, 58, 59, 60, 61, 62, 63, 5, 64, 65, 66, 67, 68, 85, 86, 87, 88, 89, 90, 91, 92, 93, 94, 95, 96, 97, 80, 81, 82, 83, 84] rfl (by decide +kernel)
set_option maxRecDepth 20000 in
theorem ggX5_sharpValue_X5_isEver : GoodIn wsX5_sharpValue wsX5_isEver := goodIn_r _ [6, 7, 8, 9, 10, 11, 12, 13] rfl (by decide +kernel)
