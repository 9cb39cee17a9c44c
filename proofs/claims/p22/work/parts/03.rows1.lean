set_option maxRecDepth 20000 in
theorem ggX0_addPart_X0_has : GoodIn wsX0_addPart wsX0_has := goodIn_r _ [9, 10, 11, 12, 13, 14, 15, 16, 17, 18, 19, 20, 21, 22, 23] rfl (by decide +kernel)
set_option maxRecDepth 20000 in
theorem ggX0_arrange_X0_dependsOn : GoodIn wsX0_arrange wsX0_dependsOn := goodIn_r _ [10, 5, 19, 20, 21, 22, 23, 24, 25, 26, 27, 28, 29, 30, 31] rfl (by decide +kernel)
set_option maxRecDepth 20000 in
theorem ggX0_arrange_X0_levelAbove : GoodIn wsX0_arrange wsX0_levelAbove := goodIn_r _ [14, 1, 4, 15, 16, 17, 18, 19, 20, 21, 22, 23, 24, 25, 26, 27, 28, 29, 30, 31] rfl (by decide +kernel)
set_option maxRecDepth 20000 in
theorem ggX0_beginDriver_X0_has : GoodIn wsX0_beginDriver wsX0_has := goodIn_r _ [6, 7, 14, 15, 16, 17, 18, 19, 20, 21, 22, 23, 24, 25, 26] rfl (by decide +kernel)
set_option maxRecDepth 20000 in
theorem ggX0_beginDriver_X0_size : GoodIn wsX0_beginDriver wsX0_size := goodIn_r _ [11, 12, 13, 14, 15, 16, 17, 18, 19, 20, 21, 22, 23, 24, 25, 26] rfl (by decide +kernel)
set_option maxRecDepth 20000 in
theorem ggX0_isKind_X0_has : GoodIn wsX0_isKind wsX0_has := goodIn_r _ [6, 7, 8, 9, 10, 11, 12, 13, 14, 15, 16, 17, 18, 19, 20] rfl (by decide +kernel)
set_option maxRecDepth 20000 in
theorem ggX0_isSource_X0_isKind : GoodIn wsX0_isSource wsX0_isKind := goodIn_r _ [5, 6, 7, 8, 9, 4, 10, 11, 12, 13, 14, 15, 16, 17, 18, 19, 20, 21, 22, 23, 24] rfl (by decide +kernel)
set_option maxRecDepth 20000 in
theorem ggX1_advance_X1_isBlank : GoodIn wsX1_advance wsX1_isBlank := goodIn_r _ [9] rfl (by decide +kernel)
set_option maxRecDepth 20000 in
theorem ggX1_advance_X1_isDigit : GoodIn wsX1_advance wsX1_isDigit := goodIn_r _ [23] rfl (by decide +kernel)
set_option maxRecDepth 20000 in
theorem ggX1_advance_X1_isLetter : GoodIn wsX1_advance wsX1_isLetter := goodIn_r _ [12] rfl (by decide +kernel)
set_option maxRecDepth 20000 in
theorem ggX1_advance_X1_isSign : GoodIn wsX1_advance wsX1_isSign := goodIn_r _ [31] rfl (by decide +kernel)
set_option maxRecDepth 20000 in
theorem ggX1_advance_X1_takeDigit : GoodIn wsX1_advance wsX1_takeDigit := goodIn_r _ [27, 3, 1, 28, 2, 5, 18, 19, 8, 20, 10, 11, 12, 21, 22, 23, 32, 33, 34, 35, 36, 37, 38] rfl (by decide +kernel)
set_option maxRecDepth 20000 in
theorem ggX1_advance_X1_takeWord : GoodIn wsX1_advance wsX1_takeWord := goodIn_r _ [16, 17, 1, 2, 3, 4, 5, 18, 19, 8, 20, 10, 11, 12, 21, 22, 23, 32, 33, 34, 35, 36, 37, 38] rfl (by decide +kernel)
set_option maxRecDepth 20000 in
theorem ggX1_isLetterOrDigit_X1_isDigit : GoodIn wsX1_isLetterOrDigit wsX1_isDigit := goodIn_r _ [7] rfl (by decide +kernel)
set_option maxRecDepth 20000 in
theorem ggX1_isLetterOrDigit_X1_isLetter : GoodIn wsX1_isLetterOrDigit wsX1_isLetter := goodIn_r _ [4] rfl (by decide +kernel)
set_option maxRecDepth 20000 in
theorem ggX1_takeDigit_X1_isLetterOrDigit : GoodIn wsX1_takeDigit wsX1_isLetterOrDigit := goodIn_r _ [9, 10, 11, 8, 12, 13, 14, 15] rfl (by decide +kernel)
set_option maxRecDepth 20000 in
theorem ggX1_takeWord_X1_isLetterOrDigit : GoodIn wsX1_takeWord wsX1_isLetterOrDigit := goodIn_r _ [10, 11, 12, 9, 13, 14, 15, 16] rfl (by decide +kernel)
set_option maxRecDepth 20000 in
theorem ggX2_afterTick_X0_part : GoodIn wsX2_afterTick wsX0_part := goodIn_r _ [5, 6, 17, 18, 19, 20, 21, 22, 23, 24, 25, 26, 27, 28, 29] rfl (by decide +kernel)
set_option maxRecDepth 20000 in
theorem ggX2_afterTick_X0_size : GoodIn wsX2_afterTick wsX0_size := goodIn_r _ [14, 15, 16, 17, 18, 19, 20, 21, 22, 23, 24, 25, 26, 27, 28, 29] rfl (by decide +kernel)
set_option maxRecDepth 20000 in
theorem ggX2_afterTick_X2_takenIn : GoodIn wsX2_afterTick wsX2_takenIn := goodIn_r _ [10] rfl (by decide +kernel)
set_option maxRecDepth 20000 in
theorem ggX2_busValue_X0_size : GoodIn wsX2_busValue wsX0_size := goodIn_r _ [5, 6, 7, 25, 26, 27, 28, 29, 30, 31, 32, 33, 34, 35, 36, 37] rfl (by decide +kernel)
set_option maxRecDepth 20000 in
theorem ggX2_busValue_X2_driverValue : GoodIn wsX2_busValue wsX2_driverValue := goodIn_r _ [11, 12, 13, 14, 4, 15, 16, 17, 18, 19, 20, 21, 22, 23, 10, 24, 25, 26, 27, 28, 29, 30, 31, 32, 33, 34, 35, 36, 37] rfl (by decide +kernel)
set_option maxRecDepth 20000 in
theorem ggX2_driverValue_X0_isLow : GoodIn wsX2_driverValue wsX0_isLow := goodIn_r _ [10, 11, 16, 17, 18, 19, 20, 21, 22, 23, 24, 25, 26, 27, 28] rfl (by decide +kernel)
set_option maxRecDepth 20000 in
theorem ggX2_driverValue_X0_part : GoodIn wsX2_driverValue wsX0_part := goodIn_r _ [5, 6, 16, 17, 18, 19, 20, 21, 22, 23, 24, 25, 26, 27, 28] rfl (by decide +kernel)
set_option maxRecDepth 20000 in
theorem ggX2_driverValue_X2_takenIn : GoodIn wsX2_driverValue wsX2_takenIn := goodIn_r _ [15] rfl (by decide +kernel)
set_option maxRecDepth 20000 in
theorem ggX2_gateValue_X0_part : GoodIn wsX2_gateValue wsX0_part := goodIn_r _ [10, 11, 27, 28, 29, 30, 31, 32, 33, 34, 35, 36, 37, 38, 39] rfl (by decide +kernel)
set_option maxRecDepth 20000 in
theorem ggX2_gateValue_X0_size : GoodIn wsX2_gateValue wsX0_size := goodIn_r _ [18, 19, 20, 27, 28, 29, 30, 31, 32, 33, 34, 35, 36, 37, 38, 39] rfl (by decide +kernel)
set_option maxRecDepth 20000 in
theorem ggX2_gateValue_X2_isTurned : GoodIn wsX2_gateValue wsX2_isTurned := goodIn_r _ [26] rfl (by decide +kernel)
set_option maxRecDepth 20000 in
theorem ggX2_gateValue_X2_muxValue : GoodIn wsX2_gateValue wsX2_muxValue := goodIn_r _ [5, 6, 7, 8, 9, 10, 11, 12, 13, 4, 14, 27, 28, 29, 30, 31, 32, 33, 34, 35, 36, 37, 38, 39] rfl (by decide +kernel)
set_option maxRecDepth 20000 in
theorem ggX2_gateValue_X2_plainValue : GoodIn wsX2_gateValue wsX2_plainValue := goodIn_r _ [23] rfl (by decide +kernel)
set_option maxRecDepth 20000 in
theorem ggX2_muxValue_X0_part : GoodIn wsX2_muxValue wsX0_part := goodIn_r _ [5, 6, 11, 12, 13, 14, 15, 16, 17, 18, 19, 20, 21, 22, 23] rfl (by decide +kernel)
set_option maxRecDepth 20000 in
theorem ggX2_muxValue_X2_takenIn : GoodIn wsX2_muxValue wsX2_takenIn := goodIn_r _ [10] rfl (by decide +kernel)
set_option maxRecDepth 20000 in
theorem ggX2_settle_X2_busValue : GoodIn wsX2_settle wsX2_busValue := goodIn_r _ [35, 21, 22, 23, 15, 24, 25, 26, 36, 37, 6, 38, 12, 13, 14, 16, 17, 39, 40, 41, 42, 43, 18, 19, 20, 44, 45, 46, 47, 48, 49, 50, 51, 52, 53, 54, 55, 56] rfl (by decide +kernel)
set_option maxRecDepth 20000 in
theorem ggX2_settle_X2_gateValue : GoodIn wsX2_settle wsX2_gateValue := goodIn_r _ [7, 8, 9, 10, 6, 11, 12, 13, 14, 15, 16, 17, 18, 19, 20, 21, 22, 23, 24, 25, 26, 27, 28, 29, 30, 31, 32, 44, 45, 46, 47, 48, 49, 50, 51, 52, 53, 54, 55, 56] rfl (by decide +kernel)
set_option maxRecDepth 20000 in
theorem ggX3_beginLine_X3_beginTelling : GoodIn wsX3_beginLine wsX3_beginTelling := goodIn_r _ [18, 19, 20, 21, 22, 12, 23, 24, 46, 47, 48, 49, 50, 51, 52, 53, 54, 55, 56, 57, 58, 59, 60, 61, 62] rfl (by decide +kernel)
set_option maxRecDepth 20000 in
theorem ggX3_beginLine_X3_go : GoodIn wsX3_beginLine wsX3_go := goodIn_r _ [23, 24, 46, 47, 48, 49, 50, 51, 52, 53, 54, 55, 56, 57, 58, 59, 60, 61, 62] rfl (by decide +kernel)
set_option maxRecDepth 20000 in
theorem ggX3_beginLine_X3_isName : GoodIn wsX3_beginLine wsX3_isName := goodIn_r _ [28, 4, 14, 5, 1, 2, 3, 29, 30, 31, 32, 33, 12, 34, 35, 46, 47, 48, 49, 50, 51, 52, 53, 54, 55, 56, 57, 58, 59, 60, 61, 62, 63, 64, 65, 66, 67, 68, 69] rfl (by decide +kernel)
set_option maxRecDepth 20000 in
theorem ggX3_beginLine_X3_isWord : GoodIn wsX3_beginLine wsX3_isWord := goodIn_r _ [13, 4, 14, 5, 46, 47, 48, 49, 50, 51, 52, 53, 54, 55, 56, 57, 58, 59, 60, 61, 62, 63, 64, 65, 66, 67, 68, 69] rfl (by decide +kernel)
set_option maxRecDepth 20000 in
theorem ggX3_beginLine_X3_refuse : GoodIn wsX3_beginLine wsX3_refuse := goodIn_r _ [39, 4, 14, 7, 40, 41, 42, 12, 43, 44, 45, 46, 47, 48, 49, 50, 51, 52, 53, 54, 55, 56, 57, 58, 59, 60, 61, 62, 63, 64, 65, 66, 67, 68, 69] rfl (by decide +kernel)
set_option maxRecDepth 20000 in
theorem ggX3_beginParts_X3_go : GoodIn wsX3_beginParts wsX3_go := goodIn_r _ [9, 10, 11, 12, 13, 14, 15, 16, 17, 18, 19, 20, 21, 22, 23, 24, 25, 26, 27] rfl (by decide +kernel)
set_option maxRecDepth 20000 in
theorem ggX3_beginTelling_X3_go : GoodIn wsX3_beginTelling wsX3_go := goodIn_r _ [6, 7, 8, 9, 10, 11, 12, 13, 14, 15, 16, 17, 18, 19, 20, 21, 22, 23, 24] rfl (by decide +kernel)
set_option maxRecDepth 20000 in
theorem ggX3_behindPart_X3_go : GoodIn wsX3_behindPart wsX3_go := goodIn_r _ [11, 12, 24, 25, 26, 27, 28, 29, 30, 31, 32, 33, 34, 35, 36, 37, 38, 39, 40] rfl (by decide +kernel)
set_option maxRecDepth 20000 in
theorem ggX3_behindPart_X3_refuse : GoodIn wsX3_behindPart wsX3_refuse := goodIn_r _ [16, 1, 2, 17, 18, 19, 20, 10, 21, 22, 23, 24, 25, 26, 27, 28, 29, 30, 31, 32, 33, 34, 35, 36, 37, 38, 39, 40, 41, 42, 43, 44, 45, 46, 47] rfl (by decide +kernel)
set_option maxRecDepth 20000 in
theorem ggX3_checkDrivers_X3_failAt : GoodIn wsX3_checkDrivers wsX3_failAt := goodIn_r _ [13, 14, 15, 16, 17, 18, 19, 20, 21, 22, 23, 24, 25, 26, 27, 28, 29, 30, 31, 32] rfl (by decide +kernel)
set_option maxRecDepth 20000 in
theorem ggX3_checkDrivers_X3_isHead : GoodIn wsX3_checkDrivers wsX3_isHead := goodIn_r _ [9] rfl (by decide +kernel)
set_option maxRecDepth 20000 in
theorem ggX3_checkLoops_X3_failAt : GoodIn wsX3_checkLoops wsX3_failAt := goodIn_r _ [14, 15, 16, 17, 18, 19, 20, 21, 22, 23, 24, 25, 26, 27, 28, 29, 30, 31, 32, 33] rfl (by decide +kernel)
set_option maxRecDepth 20000 in
theorem ggX3_endLine_X3_go : GoodIn wsX3_endLine wsX3_go := goodIn_r _ [7, 8, 20, 21, 22, 23, 24, 25, 26, 27, 28, 29, 30, 31, 32, 33, 34, 35, 36] rfl (by decide +kernel)
set_option maxRecDepth 20000 in
theorem ggX3_endLine_X3_refuse : GoodIn wsX3_endLine wsX3_refuse := goodIn_r _ [12, 1, 2, 13, 14, 15, 16, 6, 17, 18, 19, 20, 21, 22, 23, 24, 25, 26, 27, 28, 29, 30, 31, 32, 33, 34, 35, 36, 37, 38, 39, 40, 41, 42, 43] rfl (by decide +kernel)
set_option maxRecDepth 20000 in
theorem ggX3_isName_X3_gateHere : GoodIn wsX3_isName wsX3_gateHere := goodIn_r _ [13, 14, 1, 2, 3, 15, 16, 17, 18, 19, 20, 21, 22, 23, 24, 25, 26, 27, 28, 29, 30, 31, 32, 33, 34, 35, 36, 37, 38] rfl (by decide +kernel)
set_option maxRecDepth 20000 in
theorem ggX3_linkUses_X0_addPart : GoodIn wsX3_linkUses wsX0_addPart := goodIn_r _ [45, 41, 46, 21, 47, 22, 23, 24, 9, 25, 11, 65, 66, 67, 68, 69, 70, 71, 72, 73, 74, 75, 76, 77] rfl (by decide +kernel)
set_option maxRecDepth 20000 in
theorem ggX3_linkUses_X0_beginDriver : GoodIn wsX3_linkUses wsX0_beginDriver := goodIn_r _ [35, 36, 22, 23, 24, 9, 25, 11, 37, 38, 39, 40, 21, 41, 65, 66, 67, 68, 69, 70, 71, 72, 73, 74, 75, 76, 77] rfl (by decide +kernel)
set_option maxRecDepth 20000 in
theorem ggX3_linkUses_X0_find : GoodIn wsX3_linkUses wsX0_find := goodIn_r _ [10, 11, 12, 65, 66, 67, 68, 69, 70, 71, 72, 73, 74, 75, 76, 77] rfl (by decide +kernel)
set_option maxRecDepth 20000 in
theorem ggX3_linkUses_X0_isKind : GoodIn wsX3_linkUses wsX0_isKind := goodIn_r _ [20, 21, 22, 23, 24, 9, 25, 11, 65, 66, 67, 68, 69, 70, 71, 72, 73, 74, 75, 76, 77] rfl (by decide +kernel)
set_option maxRecDepth 20000 in
theorem ggX3_linkUses_X3_failAt : GoodIn wsX3_linkUses wsX3_failAt := goodIn_r _ [29, 30, 31, 48, 49, 50, 51, 52, 53, 54, 55, 56, 57, 58, 59, 60, 61, 62, 63, 64] rfl (by decide +kernel)
set_option maxRecDepth 20000 in
theorem ggX3_linkUses_X3_isHead : GoodIn wsX3_linkUses wsX3_isHead := goodIn_r _ [16] rfl (by decide +kernel)
set_option maxRecDepth 20000 in
theorem ggX3_readInto_X0_arrange : GoodIn wsX3_readInto wsX0_arrange := goodIn_r _ [231, 11, 232, 233, 135, 134, 234, 235, 236, 9, 237, 238, 239, 240, 241, 242, 243, 21, 244, 262, 263, 264, 265, 266, 267, 268, 269, 270, 271, 272, 273, 274] rfl (by decide +kernel)
set_option maxRecDepth 20000 in
theorem ggX3_readInto_X0_clear : GoodIn wsX3_readInto wsX0_clear := goodIn_r _ [10, 11, 12, 262, 263, 264, 265, 266, 267, 268, 269, 270, 271, 272, 273, 274] rfl (by decide +kernel)
set_option maxRecDepth 20000 in
theorem ggX3_readInto_X1_begin : GoodIn wsX3_readInto wsX1_begin := goodIn_r _ [17, 18, 19, 20, 21, 22, 23, 24, 275, 276, 277, 278, 279, 280, 281] rfl (by decide +kernel)
set_option maxRecDepth 20000 in
theorem ggX3_readInto_X3_checkLoops : GoodIn wsX3_readInto wsX3_checkLoops := goodIn_r _ [220, 1, 114, 221, 222, 223, 224, 225, 226, 227, 106, 107, 108, 28, 109, 2, 3, 245, 246, 247, 248, 249, 250, 251, 252, 253, 254, 255, 256, 257, 258, 259, 260, 261, 262, 263, 264, 265, 266, 267, 268, 269, 270, 271, 272, 273, 274] rfl (by decide +kernel)
set_option maxRecDepth 20000 in
theorem ggX3_readInto_X3_linkUses : GoodIn wsX3_readInto wsX3_linkUses := goodIn_r _ [198, 4, 1, 157, 156, 180, 119, 120, 121, 9, 122, 11, 123, 158, 159, 28, 160, 199, 200, 201, 202, 129, 203, 169, 170, 171, 106, 107, 108, 109, 2, 3, 204, 205, 206, 207, 133, 208, 209, 210, 211, 132, 212, 213, 214, 215, 216, 134, 245, 246, 247, 248, 249, 250, 251, 252, 253, 254, 255, 256, 257, 258, 259, 260, 261, 262, 263, 264, 265, 266, 267, 268, 269, 270, 271, 272, 273, 274] rfl (by decide +kernel)
set_option maxRecDepth 20000 in
theorem ggX3_readInto_X3_takeTokens : GoodIn wsX3_readInto wsX3_takeTokens := goodIn_r _ [29, 30, 5, 31, 32, 33, 34, 16, 35, 24, 23, 18, 36, 37, 38, 39, 40, 41, 42, 43, 44, 45, 46, 47, 48, 49, 50, 51, 52, 53, 54, 55, 56, 57, 58, 59, 60, 61, 62, 63, 64, 65, 28, 66, 67, 68, 69, 70, 71, 72, 73, 74, 75, 76, 77, 78, 79, 80, 81, 82, 83, 84, 85, 86, 87, 88, 89, 90, 91, 92, 93, 94, 95, 96, 97, 98, 99, 100, 101, 102, 103, 104, 105, 106, 107, 108, 109, 2, 3, 110, 111, 112, 113, 1, 114, 115, 116, 117, 118, 119, 120, 121, 9, 122, 11, 123, 124, 125, 126, 127, 128, 129, 130, 131, 132, 133, 134, 135, 12, 136, 137, 138, 139, 140, 141, 142, 143, 144, 145, 146, 147, 148, 149, 150, 151, 152, 153, 154, 155, 4, 156, 157, 158, 159, 160, 161, 162, 163, 164, 165, 166, 167, 168, 169, 170, 171, 172, 173, 174, 175, 176, 177, 178, 179, 180, 181, 182, 183, 184, 185, 186, 187, 188, 189, 190, 191, 192, 193, 194, 245, 246, 247, 248, 249, 250, 251, 252, 253, 254, 255, 256, 257, 258, 259, 260, 261, 275, 276, 277, 278, 279, 280, 281, 262, 263, 264, 265, 266, 267, 268, 269, 270, 271, 272, 273, 274] rfl (by decide +kernel)
set_option maxRecDepth 20000 in
theorem ggX3_refuse_X3_failAt : GoodIn wsX3_refuse wsX3_failAt := goodIn_r _ [8, 9, 10, 11, 12, 13, 14, 15, 16, 17, 18, 19, 20, 21, 22, 23, 24, 25, 26, 27] rfl (by decide +kernel)
set_option maxRecDepth 20000 in
theorem ggX3_step_X3_beginLine : GoodIn wsX3_step wsX3_beginLine := goodIn_r _ [8, 9, 10, 11, 2, 12, 13, 14, 15, 16, 17, 18, 7, 19, 3, 20, 21, 22, 23, 24, 25, 26, 27, 28, 1, 29, 30, 31, 32, 33, 34, 35, 36, 37, 38, 39, 40, 41, 42, 43, 44, 45, 46, 47, 48, 49, 140, 141, 142, 143, 144, 145, 146, 147, 148, 149, 150, 151, 152, 153, 154, 155, 156, 157, 158, 159, 160, 161, 162, 163] rfl (by decide +kernel)
set_option maxRecDepth 20000 in
theorem ggX3_step_X3_behindPart : GoodIn wsX3_step wsX3_behindPart := goodIn_r _ [133, 2, 3, 24, 87, 86, 85, 25, 26, 27, 7, 28, 1, 40, 41, 42, 43, 14, 44, 45, 46, 47, 48, 49, 140, 141, 142, 143, 144, 145, 146, 147, 148, 149, 150, 151, 152, 153, 154, 155, 156, 157, 158, 159, 160, 161, 162, 163] rfl (by decide +kernel)
set_option maxRecDepth 20000 in
theorem ggX3_step_X3_endLine : GoodIn wsX3_step wsX3_endLine := goodIn_r _ [91, 2, 3, 25, 26, 27, 7, 28, 1, 40, 41, 42, 43, 14, 44, 45, 46, 47, 48, 49, 140, 141, 142, 143, 144, 145, 146, 147, 148, 149, 150, 151, 152, 153, 154, 155, 156, 157, 158, 159, 160, 161, 162, 163] rfl (by decide +kernel)
set_option maxRecDepth 20000 in
theorem ggX3_step_X3_go : GoodIn wsX3_step wsX3_go := goodIn_r _ [28, 1, 140, 141, 142, 143, 144, 145, 146, 147, 148, 149, 150, 151, 152, 153, 154, 155, 156] rfl (by decide +kernel)
set_option maxRecDepth 20000 in
theorem ggX3_step_X3_refuse : GoodIn wsX3_step wsX3_refuse := goodIn_r _ [43, 2, 3, 14, 44, 45, 46, 7, 47, 48, 49, 140, 141, 142, 143, 144, 145, 146, 147, 148, 149, 150, 151, 152, 153, 154, 155, 156, 157, 158, 159, 160, 161, 162, 163] rfl (by decide +kernel)
set_option maxRecDepth 20000 in
theorem ggX3_step_X3_takeDelay : GoodIn wsX3_step wsX3_takeDelay := goodIn_r _ [137, 54, 84, 138, 2, 139, 113, 114, 115, 63, 116, 65, 25, 26, 27, 7, 28, 1, 140, 141, 142, 143, 144, 145, 146, 147, 148, 149, 150, 151, 152, 153, 154, 155, 156, 164, 165, 166, 167, 168, 169, 170, 171, 172, 173, 174, 175, 176, 157, 158, 159, 160, 161, 162, 163] rfl (by decide +kernel)
set_option maxRecDepth 20000 in
theorem ggX3_step_X3_takeDriver : GoodIn wsX3_step wsX3_takeDriver := goodIn_r _ [120, 33, 34, 13, 15, 16, 17, 18, 7, 19, 2, 3, 12, 40, 41, 42, 43, 14, 44, 45, 46, 47, 48, 49, 121, 122, 123, 124, 100, 102, 125, 101, 80, 81, 82, 83, 84, 85, 86, 87, 25, 26, 27, 28, 1, 140, 141, 142, 143, 144, 145, 146, 147, 148, 149, 150, 151, 152, 153, 154, 155, 156, 157, 158, 159, 160, 161, 162, 163] rfl (by decide +kernel)
set_option maxRecDepth 20000 in
theorem ggX3_step_X3_takeGate : GoodIn wsX3_step wsX3_takeGate := goodIn_r _ [109, 54, 55, 110, 111, 112, 35, 36, 37, 7, 38, 39, 2, 3, 12, 113, 114, 115, 63, 116, 65, 40, 41, 42, 43, 14, 44, 45, 46, 47, 48, 49, 80, 81, 82, 83, 84, 85, 86, 87, 25, 26, 27, 28, 1, 140, 141, 142, 143, 144, 145, 146, 147, 148, 149, 150, 151, 152, 153, 154, 155, 156, 164, 165, 166, 167, 168, 169, 170, 171, 172, 173, 174, 175, 176, 157, 158, 159, 160, 161, 162, 163] rfl (by decide +kernel)
set_option maxRecDepth 20000 in
theorem ggX3_step_X3_takePart : GoodIn wsX3_step wsX3_takePart := goodIn_r _ [129, 87, 86, 2, 12, 14, 84, 29, 30, 31, 7, 32, 3, 9, 10, 11, 33, 34, 35, 36, 37, 38, 39, 40, 41, 42, 43, 44, 45, 46, 47, 48, 49, 121, 122, 123, 124, 100, 102, 125, 101, 25, 26, 27, 28, 1, 140, 141, 142, 143, 144, 145, 146, 147, 148, 149, 150, 151, 152, 153, 154, 155, 156, 157, 158, 159, 160, 161, 162, 163] rfl (by decide +kernel)
set_option maxRecDepth 20000 in
theorem ggX3_step_X3_tellHere : GoodIn wsX3_step wsX3_tellHere := goodIn_r _ [53, 2, 12, 14, 24, 54, 55, 29, 30, 31, 7, 32, 3, 9, 10, 11, 33, 34, 35, 36, 37, 38, 39, 40, 41, 42, 43, 44, 45, 46, 47, 48, 49, 56, 57, 58, 59, 60, 61, 62, 63, 64, 65, 66, 67, 68, 69, 70, 71, 72, 73, 74, 75, 76, 77, 78, 79, 80, 81, 82, 83, 84, 85, 86, 87, 25, 26, 27, 28, 1, 140, 141, 142, 143, 144, 145, 146, 147, 148, 149, 150, 151, 152, 153, 154, 155, 156, 157, 158, 159, 160, 161, 162, 163, 164, 165, 166, 167, 168, 169, 170, 171, 172, 173, 174, 175, 176] rfl (by decide +kernel)
set_option maxRecDepth 20000 in
theorem ggX3_step_X3_tellOrDrive : GoodIn wsX3_step wsX3_tellOrDrive := goodIn_r _ [95, 2, 3, 24, 13, 15, 56, 57, 58, 7, 59, 54, 55, 44, 45, 46, 47, 48, 49, 60, 61, 62, 63, 64, 65, 66, 67, 68, 69, 70, 71, 72, 73, 74, 75, 76, 77, 78, 79, 25, 26, 27, 28, 1, 96, 97, 98, 99, 100, 101, 102, 103, 104, 105, 40, 41, 42, 43, 14, 140, 141, 142, 143, 144, 145, 146, 147, 148, 149, 150, 151, 152, 153, 154, 155, 156, 157, 158, 159, 160, 161, 162, 163, 164, 165, 166, 167, 168, 169, 170, 171, 172, 173, 174, 175, 176] rfl (by decide +kernel)
set_option maxRecDepth 20000 in
theorem ggX3_takeDelay_X0_has : GoodIn wsX3_takeDelay wsX0_has := goodIn_r _ [10, 11, 35, 36, 37, 38, 39, 40, 41, 42, 43, 44, 45, 46, 47] rfl (by decide +kernel)
set_option maxRecDepth 20000 in
theorem ggX3_takeDelay_X3_go : GoodIn wsX3_takeDelay wsX3_go := goodIn_r _ [16, 17, 18, 19, 20, 21, 22, 23, 24, 25, 26, 27, 28, 29, 30, 31, 32, 33, 34] rfl (by decide +kernel)
set_option maxRecDepth 20000 in
theorem ggX3_takeDriver_X3_addUse : GoodIn wsX3_takeDriver wsX3_addUse := goodIn_r _ [27, 28, 29, 30, 31, 45, 46, 47, 48, 49, 50, 51, 52, 53, 54, 55, 56, 57, 58, 59, 60, 61] rfl (by decide +kernel)
set_option maxRecDepth 20000 in
theorem ggX3_takeDriver_X3_beginParts : GoodIn wsX3_takeDriver wsX3_beginParts := goodIn_r _ [35, 36, 37, 38, 39, 40, 41, 42, 8, 43, 44, 45, 46, 47, 48, 49, 50, 51, 52, 53, 54, 55, 56, 57, 58, 59, 60, 61] rfl (by decide +kernel)
set_option maxRecDepth 20000 in
theorem ggX3_takeDriver_X3_isWord : GoodIn wsX3_takeDriver wsX3_isWord := goodIn_r _ [9, 10, 11, 12, 45, 46, 47, 48, 49, 50, 51, 52, 53, 54, 55, 56, 57, 58, 59, 60, 61, 62, 63, 64, 65, 66, 67, 68] rfl (by decide +kernel)
set_option maxRecDepth 20000 in
theorem ggX3_takeDriver_X3_refuse : GoodIn wsX3_takeDriver wsX3_refuse := goodIn_r _ [16, 10, 11, 17, 18, 19, 20, 8, 21, 22, 23, 45, 46, 47, 48, 49, 50, 51, 52, 53, 54, 55, 56, 57, 58, 59, 60, 61, 62, 63, 64, 65, 66, 67, 68] rfl (by decide +kernel)
set_option maxRecDepth 20000 in
theorem ggX3_takeGate_X0_has : GoodIn wsX3_takeGate wsX0_has := goodIn_r _ [19, 20, 62, 63, 64, 65, 66, 67, 68, 69, 70, 71, 72, 73, 74] rfl (by decide +kernel)
set_option maxRecDepth 20000 in
theorem ggX3_takeGate_X3_beginParts : GoodIn wsX3_takeGate wsX3_beginParts := goodIn_r _ [35, 36, 37, 38, 39, 40, 41, 42, 9, 43, 44, 45, 46, 47, 48, 49, 50, 51, 52, 53, 54, 55, 56, 57, 58, 59, 60, 61] rfl (by decide +kernel)
set_option maxRecDepth 20000 in
theorem ggX3_takeGate_X3_gateHere : GoodIn wsX3_takeGate wsX3_gateHere := goodIn_r _ [10, 11, 12, 13, 14, 45, 46, 47, 48, 49, 50, 51, 52, 53, 54, 55, 56, 57, 58, 59, 60, 61, 75, 76, 77, 78, 79, 80, 81] rfl (by decide +kernel)
set_option maxRecDepth 20000 in
theorem ggX3_takeGate_X3_refuse : GoodIn wsX3_takeGate wsX3_refuse := goodIn_r _ [24, 12, 13, 25, 26, 27, 28, 9, 29, 30, 31, 45, 46, 47, 48, 49, 50, 51, 52, 53, 54, 55, 56, 57, 58, 59, 60, 61, 75, 76, 77, 78, 79, 80, 81] rfl (by decide +kernel)
set_option maxRecDepth 20000 in
theorem ggX3_takePart_X3_addUse : GoodIn wsX3_takePart wsX3_addUse := goodIn_r _ [36, 37, 38, 39, 40, 46, 47, 48, 49, 50, 51, 52, 53, 54, 55, 56, 57, 58, 59, 60, 61, 62] rfl (by decide +kernel)
set_option maxRecDepth 20000 in
theorem ggX3_takePart_X3_go : GoodIn wsX3_takePart wsX3_go := goodIn_r _ [44, 45, 46, 47, 48, 49, 50, 51, 52, 53, 54, 55, 56, 57, 58, 59, 60, 61, 62] rfl (by decide +kernel)
set_option maxRecDepth 20000 in
theorem ggX3_takePart_X3_isName : GoodIn wsX3_takePart wsX3_isName := goodIn_r _ [11, 3, 12, 4, 13, 14, 15, 16, 17, 18, 19, 20, 10, 21, 22, 46, 47, 48, 49, 50, 51, 52, 53, 54, 55, 56, 57, 58, 59, 60, 61, 62, 63, 64, 65, 66, 67, 68, 69] rfl (by decide +kernel)
set_option maxRecDepth 20000 in
theorem ggX3_takePart_X3_refuse : GoodIn wsX3_takePart wsX3_refuse := goodIn_r _ [26, 3, 12, 5, 27, 28, 29, 10, 30, 31, 32, 46, 47, 48, 49, 50, 51, 52, 53, 54, 55, 56, 57, 58, 59, 60, 61, 62, 63, 64, 65, 66, 67, 68, 69] rfl (by decide +kernel)
set_option maxRecDepth 20000 in
theorem ggX3_takeTokens_X1_advance : GoodIn wsX3_takeTokens wsX1_advance := goodIn_r _ [8, 9, 10, 11, 12, 13, 14, 15, 7, 16, 17, 18, 19, 20, 21, 22, 23, 24, 25, 26, 27, 28, 29, 30, 31, 32, 33, 34, 35, 36, 37, 38, 196, 197, 198, 199, 200, 201, 202] rfl (by decide +kernel)
set_option maxRecDepth 20000 in
theorem ggX3_takeTokens_X3_refuse : GoodIn wsX3_takeTokens wsX3_refuse := goodIn_r _ [82, 2, 3, 53, 83, 84, 85, 42, 86, 87, 88, 179, 180, 181, 182, 183, 184, 185, 186, 187, 188, 189, 190, 191, 192, 193, 194, 195, 196, 197, 198, 199, 200, 201, 202] rfl (by decide +kernel)
set_option maxRecDepth 20000 in
theorem ggX3_takeTokens_X3_step : GoodIn wsX3_takeTokens wsX3_step := goodIn_r _ [43, 1, 2, 3, 44, 45, 46, 42, 47, 48, 49, 50, 51, 52, 53, 54, 55, 56, 57, 58, 59, 60, 61, 62, 63, 64, 65, 66, 67, 68, 69, 70, 71, 72, 73, 74, 75, 76, 77, 78, 79, 80, 81, 82, 83, 84, 85, 86, 87, 88, 89, 90, 91, 92, 93, 94, 95, 96, 97, 98, 99, 100, 101, 102, 103, 104, 105, 106, 107, 108, 109, 110, 111, 112, 113, 114, 115, 116, 117, 118, 119, 120, 121, 122, 123, 124, 125, 126, 127, 128, 129, 130, 131, 132, 133, 134, 135, 136, 137, 138, 139, 140, 141, 142, 143, 144, 145, 146, 147, 148, 149, 150, 151, 152, 153, 154, 155, 156, 157, 158, 159, 160, 161, 162, 163, 164, 165, 166, 167, 168, 169, 170, 171, 172, 173, 174, 175, 176, 177, 178, 179, 180, 181, 182, 183, 184, 185, 186, 187, 188, 189, 190, 191, 192, 193, 194, 195, 196, 197, 198, 199, 200, 201, 202, 203, 204, 205, 206, 207, 208, 209, 210, 211, 212, 213, 214, 215] rfl (by decide +kernel)
set_option maxRecDepth 20000 in
theorem ggX3_tellHere_X3_beginParts : GoodIn wsX3_tellHere wsX3_beginParts := goodIn_r _ [60, 61, 62, 63, 64, 65, 66, 67, 10, 68, 69, 70, 71, 72, 73, 74, 75, 76, 77, 78, 79, 80, 81, 82, 83, 84, 85, 86] rfl (by decide +kernel)
set_option maxRecDepth 20000 in
theorem ggX3_tellHere_X3_go : GoodIn wsX3_tellHere wsX3_go := goodIn_r _ [68, 69, 70, 71, 72, 73, 74, 75, 76, 77, 78, 79, 80, 81, 82, 83, 84, 85, 86] rfl (by decide +kernel)
set_option maxRecDepth 20000 in
theorem ggX3_tellHere_X3_isName : GoodIn wsX3_tellHere wsX3_isName := goodIn_r _ [11, 1, 12, 2, 13, 14, 15, 16, 17, 18, 19, 20, 10, 21, 22, 70, 71, 72, 73, 74, 75, 76, 77, 78, 79, 80, 81, 82, 83, 84, 85, 86, 87, 88, 89, 90, 91, 92, 93] rfl (by decide +kernel)
set_option maxRecDepth 20000 in
theorem ggX3_tellHere_X3_refuse : GoodIn wsX3_tellHere wsX3_refuse := goodIn_r _ [26, 1, 12, 3, 27, 28, 29, 10, 30, 31, 32, 70, 71, 72, 73, 74, 75, 76, 77, 78, 79, 80, 81, 82, 83, 84, 85, 86, 87, 88, 89, 90, 91, 92, 93] rfl (by decide +kernel)
set_option maxRecDepth 20000 in
theorem ggX3_tellHere_X3_tell : GoodIn wsX3_tellHere wsX3_tell := goodIn_r _ [36, 5, 6, 27, 28, 29, 10, 30, 31, 32, 37, 38, 39, 40, 41, 42, 43, 44, 45, 46, 47, 48, 49, 50, 51, 52, 53, 54, 55, 56, 70, 71, 72, 73, 74, 75, 76, 77, 78, 79, 80, 81, 82, 83, 84, 85, 86, 94, 95, 96, 97, 98, 99, 100, 101, 102, 103, 104, 105, 106] rfl (by decide +kernel)
set_option maxRecDepth 20000 in
theorem ggX3_tellOrDrive_X3_checkDrivers : GoodIn wsX3_tellOrDrive wsX3_checkDrivers := goodIn_r _ [47, 48, 49, 50, 4, 5, 51, 52, 9, 53, 13, 14, 15, 16, 17, 18, 59, 60, 61, 62, 63, 64, 65, 66, 67, 68, 69, 70, 71, 72, 73, 74, 75] rfl (by decide +kernel)
set_option maxRecDepth 20000 in
theorem ggX3_tellOrDrive_X3_go : GoodIn wsX3_tellOrDrive wsX3_go := goodIn_r _ [42, 43, 59, 60, 61, 62, 63, 64, 65, 66, 67, 68, 69, 70, 71, 72, 73, 74, 75] rfl (by decide +kernel)
set_option maxRecDepth 20000 in
theorem ggX3_tellOrDrive_X3_refuse : GoodIn wsX3_tellOrDrive wsX3_refuse := goodIn_r _ [57, 1, 2, 58, 13, 14, 15, 9, 16, 17, 18, 59, 60, 61, 62, 63, 64, 65, 66, 67, 68, 69, 70, 71, 72, 73, 74, 75, 76, 77, 78, 79, 80, 81, 82] rfl (by decide +kernel)
set_option maxRecDepth 20000 in
theorem ggX3_tellOrDrive_X3_tell : GoodIn wsX3_tellOrDrive wsX3_tell := goodIn_r _ [10, 11, 12, 13, 14, 15, 9, 16, 17, 18, 19, 20, 21, 22, 23, 24, 25, 26, 27, 28, 29, 30, 31, 32, 33, 34, 35, 36, 37, 38, 59, 60, 61, 62, 63, 64, 65, 66, 67, 68, 69, 70, 71, 72, 73, 74, 75, 83, 84, 85, 86, 87, 88, 89, 90, 91, 92, 93, 94, 95] rfl (by decide +kernel)
set_option maxRecDepth 20000 in
theorem ggX3_tell_X0_add : GoodIn wsX3_tell wsX0_add := goodIn_r _ [20, 15, 16, 21, 22, 23, 24, 25, 26, 27, 28, 29, 47, 48, 49, 50, 51, 52, 53, 54, 55, 56, 57, 58, 59] rfl (by decide +kernel)
set_option maxRecDepth 20000 in
theorem ggX3_tell_X0_find : GoodIn wsX3_tell wsX0_find := goodIn_r _ [14, 15, 16, 47, 48, 49, 50, 51, 52, 53, 54, 55, 56, 57, 58, 59] rfl (by decide +kernel)
set_option maxRecDepth 20000 in
theorem ggX3_tell_X3_failAt : GoodIn wsX3_tell wsX3_failAt := goodIn_r _ [7, 8, 9, 30, 31, 32, 33, 34, 35, 36, 37, 38, 39, 40, 41, 42, 43, 44, 45, 46] rfl (by decide +kernel)
set_option maxRecDepth 20000 in
theorem ggX4_arrive_X4_change : GoodIn wsX4_arrive wsX4_change := goodIn_r _ [16, 17, 18, 19, 20, 2, 34, 35, 36, 37, 38, 39, 40, 41] rfl (by decide +kernel)
set_option maxRecDepth 20000 in
theorem ggX4_arrive_X4_slotAt : GoodIn wsX4_arrive wsX4_slotAt := goodIn_r _ [8, 9, 10, 11, 12] rfl (by decide +kernel)
set_option maxRecDepth 20000 in
theorem ggX4_changeBuses_X2_busValue : GoodIn wsX4_changeBuses wsX2_busValue := goodIn_r _ [8, 9, 10, 11, 12, 13, 14, 15, 16, 17, 7, 18, 19, 20, 21, 22, 23, 24, 25, 26, 27, 28, 29, 30, 31, 41, 42, 43, 44, 45, 46, 47, 48, 49, 50, 51, 52, 53] rfl (by decide +kernel)
set_option maxRecDepth 20000 in
theorem ggX4_changeBuses_X4_change : GoodIn wsX4_changeBuses wsX4_change := goodIn_r _ [36, 4, 37, 38, 39, 40, 54, 55, 56, 57, 58, 59, 60, 61] rfl (by decide +kernel)
set_option maxRecDepth 20000 in
theorem ggX4_follow_X0_dependsOn : GoodIn wsX4_follow wsX0_dependsOn := goodIn_r _ [48, 49, 86, 87, 88, 89, 90, 91, 92, 93, 94, 95, 96, 97, 98] rfl (by decide +kernel)
set_option maxRecDepth 20000 in
theorem ggX4_follow_X4_changeBuses : GoodIn wsX4_follow wsX4_changeBuses := goodIn_r _ [8, 2, 9, 3, 10, 11, 12, 13, 14, 15, 16, 17, 18, 19, 20, 21, 22, 23, 24, 25, 26, 27, 28, 29, 30, 31, 32, 33, 34, 35, 36, 37, 38, 39, 40, 7, 41, 1, 42, 43, 44, 86, 87, 88, 89, 90, 91, 92, 93, 94, 95, 96, 97, 98, 78, 79, 80, 81, 82, 83, 84, 85] rfl (by decide +kernel)
set_option maxRecDepth 20000 in
theorem ggX4_follow_X4_lookAt : GoodIn wsX4_follow wsX4_lookAt := goodIn_r _ [53, 10, 54, 44, 55, 56, 57, 58, 59, 13, 60, 61, 62, 63, 64, 25, 26, 27, 18, 28, 29, 35, 36, 37, 15, 16, 17, 19, 20, 21, 65, 66, 67, 68, 69, 70, 71, 72, 7, 73, 74, 75, 76, 77, 78, 79, 80, 81, 82, 83, 84, 85, 86, 87, 88, 89, 90, 91, 92, 93, 94, 95, 96, 97, 98] rfl (by decide +kernel)
set_option maxRecDepth 20000 in
theorem ggX4_lookAt_X2_gateValue : GoodIn wsX4_lookAt wsX2_gateValue := goodIn_r _ [10, 11, 12, 13, 9, 14, 15, 16, 17, 18, 19, 20, 21, 22, 23, 24, 25, 26, 27, 28, 29, 30, 31, 32, 33, 34, 35, 52, 53, 54, 55, 56, 57, 58, 59, 60, 61, 62, 63, 64] rfl (by decide +kernel)
set_option maxRecDepth 20000 in
theorem ggX4_lookAt_X4_slotAt : GoodIn wsX4_lookAt wsX4_slotAt := goodIn_r _ [39, 40, 41, 42, 43] rfl (by decide +kernel)
set_option maxRecDepth 20000 in
theorem ggX4_slotAt_J9_floorMod_7cf53 : GoodIn wsX4_slotAt wsJ9_floorMod_7cf53 := goodIn_r _ [4] rfl (by decide +kernel)
set_option maxRecDepth 20000 in
theorem ggX4_turn_X4_arrive : GoodIn wsX4_turn wsX4_arrive := goodIn_r _ [85, 9, 1, 61, 2, 75, 76, 6, 77, 78, 79, 80, 81, 44, 45, 46, 47, 16, 8, 48, 49, 94, 95, 96, 97, 98, 99, 100, 101, 102, 103, 104, 105, 106, 86, 87, 88, 89, 90, 91, 92, 93] rfl (by decide +kernel)
set_option maxRecDepth 20000 in
theorem ggX4_turn_X4_follow : GoodIn wsX4_turn wsX4_follow := goodIn_r _ [7, 8, 9, 10, 11, 12, 13, 6, 14, 15, 16, 17, 18, 19, 20, 21, 22, 23, 24, 25, 26, 27, 28, 29, 30, 31, 32, 33, 34, 35, 36, 37, 38, 39, 40, 41, 42, 43, 44, 45, 46, 47, 48, 49, 1, 50, 51, 52, 53, 54, 55, 56, 57, 58, 59, 60, 61, 2, 62, 63, 64, 65, 66, 67, 68, 69, 70, 71, 72, 73, 74, 75, 76, 77, 78, 79, 80, 81, 86, 87, 88, 89, 90, 91, 92, 93, 94, 95, 96, 97, 98, 99, 100, 101, 102, 103, 104, 105, 106] rfl (by decide +kernel)
set_option maxRecDepth 20000 in
theorem ggX5_busRow_X0_isLow : GoodIn wsX5_busRow wsX0_isLow := goodIn_r _ [19, 20, 26, 27, 28, 29, 30, 31, 32, 33, 34, 35, 36, 37, 38] rfl (by decide +kernel)
set_option maxRecDepth 20000 in
theorem ggX5_busRow_X0_part : GoodIn wsX5_busRow wsX0_part := goodIn_r _ [14, 15, 26, 27, 28, 29, 30, 31, 32, 33, 34, 35, 36, 37, 38] rfl (by decide +kernel)
set_option maxRecDepth 20000 in
theorem ggX5_busRow_X0_size : GoodIn wsX5_busRow wsX0_size := goodIn_r _ [8, 9, 10, 26, 27, 28, 29, 30, 31, 32, 33, 34, 35, 36, 37, 38] rfl (by decide +kernel)
set_option maxRecDepth 20000 in
theorem ggX5_collect_J13_bitCount_95d88 : GoodIn wsX5_collect wsJ13_bitCount_95d88 := goodIn_r _ [11, 12, 13, 14] rfl (by decide +kernel)
set_option maxRecDepth 20000 in
theorem ggX5_fillSources_X0_isSource : GoodIn wsX5_fillSources wsX0_isSource := goodIn_r _ [8, 9, 10, 11, 7, 12, 13, 14, 15, 16, 17, 18, 24, 25, 26, 27, 28, 29, 30, 31, 32, 33, 34, 35, 36] rfl (by decide +kernel)
set_option maxRecDepth 20000 in
theorem ggX5_fillSources_X5_freeRow : GoodIn wsX5_fillSources wsX5_freeRow := goodIn_r _ [22, 23, 3] rfl (by decide +kernel)
set_option maxRecDepth 20000 in
theorem ggX5_followOthers_X5_busRow : GoodIn wsX5_followOthers wsX5_busRow := goodIn_r _ [34, 4, 11, 35, 18, 19, 20, 15, 21, 22, 23, 12, 13, 14, 16, 17, 36, 37, 38, 39, 40, 54, 55, 56, 57, 58, 41, 42, 43, 44, 45, 46, 47, 48, 49, 50, 51, 52, 53] rfl (by decide +kernel)
set_option maxRecDepth 20000 in
theorem ggX5_followOthers_X5_gateRow : GoodIn wsX5_followOthers wsX5_gateRow := goodIn_r _ [9, 10, 4, 11, 12, 13, 14, 15, 16, 17, 18, 19, 20, 21, 22, 23, 24, 25, 8, 26, 27, 28, 29, 30, 41, 42, 43, 44, 45, 46, 47, 48, 49, 50, 51, 52, 53, 54, 55, 56, 57, 58] rfl (by decide +kernel)
set_option maxRecDepth 20000 in
theorem ggX5_gateRow_X0_part : GoodIn wsX5_gateRow wsX0_part := goodIn_r _ [8, 9, 24, 25, 26, 27, 28, 29, 30, 31, 32, 33, 34, 35, 36] rfl (by decide +kernel)
set_option maxRecDepth 20000 in
theorem ggX5_gateRow_X0_size : GoodIn wsX5_gateRow wsX0_size := goodIn_r _ [13, 14, 15, 24, 25, 26, 27, 28, 29, 30, 31, 32, 33, 34, 35, 36] rfl (by decide +kernel)
set_option maxRecDepth 20000 in
theorem ggX5_gateRow_X2_isTurned : GoodIn wsX5_gateRow wsX2_isTurned := goodIn_r _ [23] rfl (by decide +kernel)
set_option maxRecDepth 20000 in
theorem ggX5_gateRow_X5_join : GoodIn wsX5_gateRow wsX5_join := goodIn_r _ [19] rfl (by decide +kernel)
set_option maxRecDepth 20000 in
theorem ggX5_goThrough_X5_collect : GoodIn wsX5_goThrough wsX5_collect := goodIn_r _ [72, 1, 5, 11, 12, 3, 4, 2, 73, 74, 75, 76, 77, 78, 79, 80, 81, 82, 83, 84, 85, 86, 87, 88, 89, 90, 91, 92, 93, 94, 95, 96, 97] rfl (by decide +kernel)
set_option maxRecDepth 20000 in
theorem ggX5_goThrough_X5_fillSources : GoodIn wsX5_goThrough wsX5_fillSources := goodIn_r _ [10, 11, 12, 4, 13, 14, 15, 16, 17, 18, 19, 20, 21, 22, 23, 24, 25, 26, 27, 28, 29, 9, 30, 31, 85, 86, 87, 88, 89, 90, 91, 92, 93, 94, 95, 96, 97, 80, 81, 82, 83, 84] rfl (by decide +kernel)
set_option maxRecDepth 20000 in
theorem ggX5_goThrough_X5_followOthers : GoodIn wsX5_goThrough wsX5_followOthers := goodIn_r _ [35, 11, 36, 37, 12, 38, 39, 40, 9, 41, 42, 4, 43, 44, 45, 16, 46, 47, 48, 49, 50, 51, 22, 52, 53, 54, 55, 56, 57, 58, 59, 60, 61, 62, 63, 5, 64, 65, 66, 67, 68, 85, 86, 87, 88, 89, 90, 91, 92, 93, 94, 95, 96, 97, 80, 81, 82, 83, 84] rfl (by decide +kernel)
set_option maxRecDepth 20000 in
theorem ggX5_sharpValue_X5_isEver : GoodIn wsX5_sharpValue wsX5_isEver := goodIn_r _ [6, 7, 8, 9, 10, 11, 12, 13] rfl (by decide +kernel)
set_option maxRecDepth 20000 in
theorem ggX6_about_X4_quiet : GoodIn wsX6_about wsX4_quiet := goodIn_r _ [12, 13, 14, 61, 62, 63, 64, 65, 66, 67, 68] rfl (by decide +kernel)
set_option maxRecDepth 20000 in
theorem ggX6_about_X6_countFree : GoodIn wsX6_about wsX6_countFree := goodIn_r _ [19, 1, 2, 20, 21, 22, 23, 24, 25, 26, 27, 28, 29, 30, 31, 32, 33, 34, 35, 36, 37, 38, 39, 40, 41, 42, 43, 44, 45, 46, 47, 48, 49, 50, 51, 52, 53, 54, 55, 56, 57, 58, 59, 60] rfl (by decide +kernel)
set_option maxRecDepth 20000 in
theorem ggX6_countFree_X0_isSource : GoodIn wsX6_countFree wsX0_isSource := goodIn_r _ [8, 9, 10, 11, 7, 12, 13, 14, 15, 16, 17, 18, 31, 32, 33, 34, 35, 36, 37, 38, 39, 40, 41, 42, 43] rfl (by decide +kernel)
set_option maxRecDepth 20000 in
theorem ggX6_feed_X6_addToTape : GoodIn wsX6_feed wsX6_addToTape := goodIn_r _ [6, 1, 7, 8, 9, 10, 11, 12, 13, 14, 15, 16, 17, 18, 19] rfl (by decide +kernel)
set_option maxRecDepth 20000 in
theorem ggX6_flicker_X0_isKind : GoodIn wsX6_flicker wsX0_isKind := goodIn_r _ [10, 11, 12, 13, 14, 9, 15, 16, 82, 83, 84, 85, 86, 87, 88, 89, 90, 91, 92, 93, 94] rfl (by decide +kernel)
set_option maxRecDepth 20000 in
theorem ggX6_flicker_X6_settleWith : GoodIn wsX6_flicker wsX6_settleWith := goodIn_r _ [21, 2, 22, 23, 24, 25, 1, 26, 27, 28, 29, 30, 31, 32, 33, 34, 35, 36, 37, 38, 39, 40, 41, 42, 9, 43, 44, 45, 46, 47, 48, 49, 50, 51, 11, 52, 53, 54, 55, 56, 57, 58, 59, 60, 61, 62, 63, 64, 65, 66, 67, 68, 69, 70, 71, 72, 73, 74, 75, 76, 77, 78, 79, 80, 81, 82, 83, 84, 85, 86, 87, 88, 89, 90, 91, 92, 93, 94] rfl (by decide +kernel)
set_option maxRecDepth 20000 in
theorem ggX6_gainsaid_X5_isEver : GoodIn wsX6_gainsaid wsX5_isEver := goodIn_r _ [102, 36, 37, 128, 129, 130, 131, 132] rfl (by decide +kernel)
set_option maxRecDepth 20000 in
theorem ggX6_gainsaid_X6_goThroughWorlds : GoodIn wsX6_gainsaid wsX6_goThroughWorlds := goodIn_r _ [9, 10, 4, 1, 3, 11, 12, 13, 8, 14, 2, 15, 16, 17, 18, 19, 20, 21, 22, 23, 24, 25, 26, 27, 28, 29, 30, 31, 32, 33, 34, 35, 36, 37, 38, 39, 40, 41, 42, 43, 44, 45, 46, 47, 48, 49, 50, 51, 52, 53, 54, 55, 56, 57, 58, 59, 60, 61, 62, 63, 64, 65, 66, 67, 68, 69, 70, 71, 72, 73, 74, 75, 76, 77, 78, 79, 80, 81, 82, 83, 84, 85, 86, 87, 88, 89, 90, 91, 92, 93, 94, 95, 96, 97, 98, 103, 104, 105, 106, 107, 108, 109, 110, 111, 112, 113, 114, 115, 116, 117, 118, 119, 120, 121, 122, 123, 124, 125, 126, 127, 128, 129, 130, 131, 132] rfl (by decide +kernel)
set_option maxRecDepth 20000 in
theorem ggX6_goThroughWorlds_X5_goThrough : GoodIn wsX6_goThroughWorlds wsX5_goThrough := goodIn_r _ [30, 31, 32, 33, 34, 35, 36, 37, 38, 29, 39, 40, 41, 42, 12, 13, 14, 15, 16, 17, 18, 19, 20, 21, 22, 23, 24, 25, 43, 44, 45, 46, 47, 48, 49, 50, 51, 52, 53, 54, 55, 56, 57, 58, 59, 60, 61, 62, 63, 64, 65, 66, 67, 68, 69, 70, 71, 72, 73, 74, 75, 76, 77, 78, 79, 80, 81, 82, 83, 84, 85, 86, 87, 88, 89, 90, 91, 92, 93, 94, 120, 121, 122, 123, 124, 107, 108, 109, 110, 111, 112, 113, 114, 115, 116, 117, 118, 119] rfl (by decide +kernel)
set_option maxRecDepth 20000 in
theorem ggX6_goThroughWorlds_X6_countFree : GoodIn wsX6_goThroughWorlds wsX6_countFree := goodIn_r _ [9, 3, 10, 4, 11, 12, 13, 14, 15, 16, 17, 18, 19, 20, 21, 22, 23, 24, 25, 95, 96, 97, 98, 99, 100, 101, 102, 103, 104, 105, 106, 107, 108, 109, 110, 111, 112, 113, 114, 115, 116, 117, 118, 119] rfl (by decide +kernel)
set_option maxRecDepth 20000 in
theorem ggX6_legal_X6_goThroughWorlds : GoodIn wsX6_legal wsX6_goThroughWorlds := goodIn_r _ [7, 8, 1, 9, 10, 11, 12, 13, 6, 14, 15, 16, 17, 18, 19, 20, 21, 22, 23, 24, 25, 26, 27, 28, 29, 30, 31, 32, 33, 34, 35, 36, 37, 38, 39, 40, 41, 42, 43, 44, 45, 46, 47, 48, 49, 50, 51, 52, 53, 54, 55, 56, 57, 58, 59, 60, 61, 62, 63, 64, 65, 66, 67, 68, 69, 70, 71, 72, 73, 74, 75, 76, 77, 78, 79, 80, 81, 82, 83, 84, 85, 86, 87, 88, 89, 90, 91, 92, 93, 94, 95, 96, 97, 98, 99, 100, 101, 102, 103, 104, 105, 106, 107, 108, 109, 110, 111, 117, 118, 119, 120, 121, 122, 123, 124, 125, 126, 127, 128, 129, 112, 113, 114, 115, 116] rfl (by decide +kernel)
set_option maxRecDepth 20000 in
theorem ggX6_load_X0_isKind : GoodIn wsX6_load wsX0_isKind := goodIn_r _ [7, 8, 9, 10, 11, 6, 12, 13, 76, 77, 78, 79, 80, 81, 82, 83, 84, 85, 86, 87, 88] rfl (by decide +kernel)
set_option maxRecDepth 20000 in
theorem ggX6_load_X6_settleValues : GoodIn wsX6_load wsX6_settleValues := goodIn_r _ [18, 1, 2, 19, 20, 21, 22, 23, 24, 25, 26, 27, 28, 29, 30, 31, 32, 33, 34, 35, 36, 6, 37, 38, 39, 40, 41, 42, 43, 44, 45, 8, 46, 47, 48, 49, 50, 51, 52, 53, 54, 55, 56, 57, 58, 59, 60, 61, 62, 63, 64, 65, 66, 67, 68, 69, 70, 71, 72, 73, 74, 75, 76, 77, 78, 79, 80, 81, 82, 83, 84, 85, 86, 87, 88] rfl (by decide +kernel)
set_option maxRecDepth 20000 in
theorem ggX6_named_X0_find : GoodIn wsX6_named wsX0_find := goodIn_r _ [7, 8, 9, 22, 23, 24, 25, 26, 27, 28, 29, 30, 31, 32, 33, 34] rfl (by decide +kernel)
set_option maxRecDepth 20000 in
theorem ggX6_node_X0_has : GoodIn wsX6_node wsX0_has := goodIn_r _ [9, 10, 29, 30, 31, 32, 33, 34, 35, 36, 37, 38, 39, 40, 41] rfl (by decide +kernel)
set_option maxRecDepth 20000 in
theorem ggX6_node_X0_size : GoodIn wsX6_node wsX0_size := goodIn_r _ [14, 15, 16, 29, 30, 31, 32, 33, 34, 35, 36, 37, 38, 39, 40, 41] rfl (by decide +kernel)
set_option maxRecDepth 20000 in
theorem ggX6_on_X0_has : GoodIn wsX6_on wsX0_has := goodIn_r _ [9, 10, 31, 32, 33, 34, 35, 36, 37, 38, 39, 40, 41, 42, 43] rfl (by decide +kernel)
set_option maxRecDepth 20000 in
theorem ggX6_put_X0_isKind : GoodIn wsX6_put wsX0_isKind := goodIn_r _ [8, 9, 10, 11, 12, 7, 13, 14, 37, 38, 39, 40, 41, 42, 43, 44, 45, 46, 47, 48, 49] rfl (by decide +kernel)
set_option maxRecDepth 20000 in
theorem ggX6_put_X4_change : GoodIn wsX6_put wsX4_change := goodIn_r _ [19, 20, 21, 22, 23, 24, 50, 51, 52, 53, 54, 55, 56, 57] rfl (by decide +kernel)
set_option maxRecDepth 20000 in
theorem ggX6_read_X3_readInto : GoodIn wsX6_read wsX3_readInto := goodIn_r _ [13, 14, 15, 16, 17, 18, 19, 20, 21, 22, 23, 24, 25, 26, 27, 28, 29, 30, 31, 32, 33, 34, 35, 36, 37, 38, 39, 40, 12, 41, 42, 43, 44, 45, 46, 47, 48, 49, 50, 51, 52, 53, 54, 55, 56, 57, 58, 59, 60, 61, 62, 63, 64, 65, 66, 67, 68, 69, 70, 71, 72, 73, 74, 75, 76, 77, 78, 79, 80, 81, 82, 83, 84, 85, 86, 87, 88, 89, 90, 91, 92, 93, 94, 95, 96, 97, 98, 99, 100, 101, 102, 103, 104, 105, 106, 107, 108, 109, 110, 111, 112, 113, 114, 115, 116, 117, 118, 119, 120, 121, 122, 123, 124, 125, 126, 127, 128, 129, 130, 131, 132, 133, 134, 135, 136, 137, 138, 139, 140, 141, 142, 143, 144, 145, 146, 147, 148, 149, 150, 151, 152, 153, 154, 155, 156, 157, 158, 159, 160, 161, 162, 163, 164, 165, 166, 167, 168, 169, 170, 171, 172, 173, 174, 175, 176, 177, 178, 179, 180, 181, 182, 183, 184, 185, 186, 187, 188, 189, 190, 191, 192, 193, 194, 195, 196, 197, 198, 199, 200, 201, 202, 203, 204, 205, 206, 207, 208, 209, 210, 211, 212, 213, 214, 215, 216, 217, 218, 219, 220, 221, 222, 223, 224, 225, 226, 227, 228, 229, 230, 231, 232, 233, 234, 235, 236, 237, 238, 239, 240, 241, 242, 243, 244, 245, 246, 247, 248, 249, 250, 251, 252, 253, 254, 255, 256, 326, 327, 328, 329, 330, 331, 332, 333, 334, 335, 336, 337, 338, 339, 340, 341, 342, 313, 314, 315, 316, 317, 318, 319, 320, 321, 322, 323, 324, 325, 343, 344, 345, 346, 347, 348, 349] rfl (by decide +kernel)
set_option maxRecDepth 20000 in
theorem ggX6_read_X6_settleValues : GoodIn wsX6_read wsX6_settleValues := goodIn_r _ [261, 5, 7, 262, 263, 264, 265, 266, 267, 268, 269, 270, 271, 272, 273, 274, 275, 276, 277, 278, 279, 22, 280, 228, 281, 282, 283, 284, 221, 222, 223, 141, 144, 285, 286, 287, 288, 289, 290, 291, 292, 293, 294, 295, 296, 297, 298, 299, 300, 145, 301, 302, 303, 304, 305, 306, 307, 308, 309, 310, 311, 312, 313, 314, 315, 316, 317, 318, 319, 320, 321, 322, 323, 324, 325] rfl (by decide +kernel)
set_option maxRecDepth 20000 in
theorem ggX6_run_X4_turn : GoodIn wsX6_run wsX4_turn := goodIn_r _ [8, 9, 10, 11, 12, 13, 7, 14, 15, 16, 17, 18, 19, 20, 21, 22, 23, 24, 25, 26, 27, 28, 29, 30, 31, 32, 33, 34, 35, 36, 37, 38, 39, 40, 41, 42, 43, 44, 45, 46, 47, 48, 49, 50, 51, 52, 53, 54, 55, 56, 57, 58, 59, 60, 61, 62, 63, 64, 65, 66, 67, 68, 69, 70, 71, 72, 73, 74, 75, 76, 77, 78, 79, 80, 81, 82, 83, 84, 85, 86, 87, 88, 89, 90, 91, 92, 105, 106, 107, 108, 109, 110, 111, 112, 113, 114, 115, 116, 117, 118, 119, 120, 121, 122, 123, 124, 125] rfl (by decide +kernel)
set_option maxRecDepth 20000 in
theorem ggX6_set_X0_isKind : GoodIn wsX6_set wsX0_isKind := goodIn_r _ [7, 8, 9, 10, 11, 6, 12, 13, 76, 77, 78, 79, 80, 81, 82, 83, 84, 85, 86, 87, 88] rfl (by decide +kernel)
set_option maxRecDepth 20000 in
theorem ggX6_set_X6_settleValues : GoodIn wsX6_set wsX6_settleValues := goodIn_r _ [18, 1, 2, 19, 20, 21, 22, 23, 24, 25, 26, 27, 28, 29, 30, 31, 32, 33, 34, 35, 36, 6, 37, 38, 39, 40, 41, 42, 43, 44, 45, 8, 46, 47, 48, 49, 50, 51, 52, 53, 54, 55, 56, 57, 58, 59, 60, 61, 62, 63, 64, 65, 66, 67, 68, 69, 70, 71, 72, 73, 74, 75, 76, 77, 78, 79, 80, 81, 82, 83, 84, 85, 86, 87, 88] rfl (by decide +kernel)
set_option maxRecDepth 20000 in
theorem ggX6_settleValues_X2_settle : GoodIn wsX6_settleValues wsX2_settle := goodIn_r _ [7, 8, 9, 10, 11, 12, 6, 13, 14, 15, 16, 17, 18, 19, 20, 21, 22, 23, 24, 25, 26, 27, 28, 29, 30, 31, 32, 33, 34, 35, 36, 37, 38, 39, 40, 41, 42, 43, 44, 45, 46, 47, 48, 49, 62, 63, 64, 65, 66, 67, 68, 69, 70, 71, 72, 73, 74] rfl (by decide +kernel)
set_option maxRecDepth 20000 in
theorem ggX6_settleWith_X2_settle : GoodIn wsX6_settleWith wsX2_settle := goodIn_r _ [10, 11, 12, 13, 14, 15, 9, 16, 17, 18, 19, 20, 21, 22, 23, 24, 25, 26, 27, 28, 29, 30, 31, 32, 33, 34, 35, 36, 37, 38, 39, 40, 41, 42, 43, 44, 45, 46, 47, 48, 49, 50, 51, 52, 65, 66, 67, 68, 69, 70, 71, 72, 73, 74, 75, 76, 77] rfl (by decide +kernel)
set_option maxRecDepth 20000 in
theorem ggX6_sharp_X0_has : GoodIn wsX6_sharp wsX0_has := goodIn_r _ [28, 29, 120, 121, 122, 123, 124, 125, 126, 127, 128, 129, 130, 131, 132] rfl (by decide +kernel)
set_option maxRecDepth 20000 in
theorem ggX6_sharp_X5_sharpValue : GoodIn wsX6_sharp wsX5_sharpValue := goodIn_r _ [103, 35, 104, 105, 106, 33, 107, 36, 37, 133, 134, 135, 136, 137] rfl (by decide +kernel)
set_option maxRecDepth 20000 in
theorem ggX6_sharp_X6_goThroughWorlds : GoodIn wsX6_sharp wsX6_goThroughWorlds := goodIn_r _ [7, 8, 2, 1, 9, 10, 11, 12, 6, 13, 14, 15, 16, 17, 18, 19, 20, 21, 22, 23, 24, 25, 26, 27, 28, 29, 30, 31, 32, 33, 34, 35, 36, 37, 38, 39, 40, 41, 42, 43, 44, 45, 46, 47, 48, 49, 50, 51, 52, 53, 54, 55, 56, 57, 58, 59, 60, 61, 62, 63, 64, 65, 66, 67, 68, 69, 70, 71, 72, 73, 74, 75, 76, 77, 78, 79, 80, 81, 82, 83, 84, 85, 86, 87, 88, 89, 90, 91, 92, 93, 94, 95, 96, 97, 98, 108, 109, 110, 111, 112, 113, 114, 115, 116, 117, 118, 119, 120, 121, 122, 123, 124, 125, 126, 127, 128, 129, 130, 131, 132, 133, 134, 135, 136, 137] rfl (by decide +kernel)
set_option maxRecDepth 20000 in
theorem ggX6_tick_X2_afterTick : GoodIn wsX6_tick wsX2_afterTick := goodIn_r _ [9, 10, 11, 12, 13, 14, 15, 16, 17, 8, 18, 19, 20, 21, 22, 23, 24, 73, 74, 75, 76, 77, 78, 79, 80, 81, 82, 83, 84, 85] rfl (by decide +kernel)
set_option maxRecDepth 20000 in
theorem ggX6_tick_X6_settleValues : GoodIn wsX6_tick wsX6_settleValues := goodIn_r _ [29, 1, 5, 30, 31, 32, 8, 33, 34, 35, 36, 37, 38, 39, 40, 41, 42, 43, 10, 11, 12, 13, 14, 15, 16, 17, 18, 19, 20, 21, 22, 23, 24, 44, 45, 46, 47, 48, 49, 50, 51, 52, 53, 54, 55, 56, 57, 58, 59, 60, 61, 62, 63, 64, 65, 66, 67, 68, 69, 70, 71, 72, 73, 74, 75, 76, 77, 78, 79, 80, 81, 82, 83, 84, 85] rfl (by decide +kernel)
set_option maxRecDepth 20000 in
theorem ggX6_value_X0_has : GoodIn wsX6_value wsX0_has := goodIn_r _ [7, 8, 21, 22, 23, 24, 25, 26, 27, 28, 29, 30, 31, 32, 33] rfl (by decide +kernel)
set_option maxRecDepth 20000 in
theorem ggX6_wave_X0_has : GoodIn wsX6_wave wsX0_has := goodIn_r _ [8, 9, 29, 30, 31, 32, 33, 34, 35, 36, 37, 38, 39, 40, 41] rfl (by decide +kernel)
set_option maxRecDepth 20000 in
theorem ggX6_wave_X4_changeOf : GoodIn wsX6_wave wsX4_changeOf := goodIn_r _ [14, 15, 16, 42, 43, 44, 45, 46, 47, 48, 49] rfl (by decide +kernel)
set_option maxRecDepth 20000 in
theorem ggX6_wheel_X4_begin : GoodIn wsX6_wheel wsX4_begin := goodIn_r _ [9, 10, 11, 12, 13, 14, 15, 16, 17, 30, 31, 32, 33, 34, 35, 36, 37, 38, 39, 40, 41, 42, 43, 44, 45, 46, 47, 48, 49, 50] rfl (by decide +kernel)
set_option maxRecDepth 20000 in
theorem ggX6_worlds_X6_countFree : GoodIn wsX6_worlds wsX6_countFree := goodIn_r _ [5, 6, 7, 8, 9, 10, 11, 12, 13, 14, 15, 16, 17, 18, 19, 20, 21, 22, 23, 24, 25, 26, 27, 28, 29, 30, 31, 32, 33, 34, 35, 36, 37, 38, 39, 40, 41, 42, 43, 44, 45, 46, 47, 48] rfl (by decide +kernel)
