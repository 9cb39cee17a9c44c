set_option maxRecDepth 20000 in
theorem ggX0_addPart_X0_has : GoodIn wsX0_addPart wsX0_has := goodIn_r _ [9, 10, 11, 12, 13, 14, 15, 16, 17, 18, 19, 20, 21, 22, 23] rfl (by decide +kernel)
set_option maxRecDepth 20000 in
theorem ggX0_arrange_X0_dependsOn : GoodIn wsX0_arrange wsX0_dependsOn := goodIn_r _ [10, 5, 19, 20, 21, 22, 23, 24, 25, 26, 27, 28, 29, 30, 31] rfl (by decide +kernel)
set_option maxRecDepth 20000 in
theorem ggX0_arrange_X0_levelAbove : GoodIn wsX0_arrange wsX0_levelAbove := goodIn_r _ [14, 1, 4, 15, 16, 17, 18, 19, 20, 21, 22, 23, 24, 25, 26, 27, 28, 29, 30, 31] rfl (by decide +kernel)
set_option maxRecDepth 20000 in
theorem ggX0_beginDriver_X0_has : GoodIn wsX0_beginDriver wsX0_has := goodIn_r _ [6, 7, 14, 15, 16, 17, 18, 19, 20, 21, 22, 23, 24, 25, 26] rfl (by decide +kernel)
set_option maxRecDepth 20000 in
theorem ggX0_beginDriver_X0_size : GoodIn wsX0_beginDriver wsX0_size := goodIn_r _ [11, 12, 13, 14, 15, 16, 17, 18, 19, 20, 21, 22, 23, 24, 25, 26] rfl (by decide +kernel)
set_option maxRecDepth 20000 in
theorem ggX0_isKind_X0_has : GoodIn wsX0_isKind wsX0_has := goodIn_r _ [6, 7, 8, 9, 10, 11, 12, 13, 14, 15, 16, 17, 18, 19, 20] rfl (by decide +kernel)
set_option maxRecDepth 20000 in
theorem ggX0_isSource_X0_isKind : GoodIn wsX0_isSource wsX0_isKind := goodIn_r _ [5, 6, 7, 8, 9, 4, 10, 11, 12, 13, 14, 15, 16, 17, 18, 19, 20, 21, 22, 23, 24] rfl (by decide +kernel)
set_option maxRecDepth 20000 in
theorem ggX1_advance_X1_isBlank : GoodIn wsX1_advance wsX1_isBlank := goodIn_r _ [9] rfl (by decide +kernel)
set_option maxRecDepth 20000 in
theorem ggX1_advance_X1_isDigit : GoodIn wsX1_advance wsX1_isDigit := goodIn_r _ [23] rfl (by decide +kernel)
set_option maxRecDepth 20000 in
theorem ggX1_advance_X1_isLetter : GoodIn wsX1_advance wsX1_isLetter := goodIn_r _ [12] rfl (by decide +kernel)
set_option maxRecDepth 20000 in
theorem ggX1_advance_X1_isSign : GoodIn wsX1_advance wsX1_isSign := goodIn_r _ [31] rfl (by decide +kernel)
set_option maxRecDepth 20000 in
theorem ggX1_advance_X1_takeDigit : GoodIn wsX1_advance wsX1_takeDigit := goodIn_r _ [27, 3, 1, 28, 2, 5, 18, 19, 8, 20, 10, 11, 12, 21, 22, 23, 32, 33, 34, 35, 36, 37, 38] rfl (by decide +kernel)
set_option maxRecDepth 20000 in
theorem ggX1_advance_X1_takeWord : GoodIn wsX1_advance wsX1_takeWord := goodIn_r _ [16, 17, 1, 2, 3, 4, 5, 18, 19, 8, 20, 10, 11, 12, 21, 22, 23, 32, 33, 34, 35, 36, 37, 38] rfl (by decide +kernel)
set_option maxRecDepth 20000 in
theorem ggX1_isLetterOrDigit_X1_isDigit : GoodIn wsX1_isLetterOrDigit wsX1_isDigit := goodIn_r _ [7] rfl (by decide +kernel)
set_option maxRecDepth 20000 in
theorem ggX1_isLetterOrDigit_X1_isLetter : GoodIn wsX1_isLetterOrDigit wsX1_isLetter := goodIn_r _ [4] rfl (by decide +kernel)
set_option maxRecDepth 20000 in
theorem ggX1_takeDigit_X1_isLetterOrDigit : GoodIn wsX1_takeDigit wsX1_isLetterOrDigit := goodIn_r _ [9, 10, 11, 8, 12, 13, 14, 15] rfl (by decide +kernel)
set_option maxRecDepth 20000 in
theorem ggX1_takeWord_X1_isLetterOrDigit : GoodIn wsX1_takeWord wsX1_isLetterOrDigit := goodIn_r _ [10, 11, 12, 9, 13, 14, 15, 16] rfl (by decide +kernel)
set_option maxRecDepth 20000 in
theorem ggX2_afterTick_X0_part : GoodIn wsX2_afterTick wsX0_part := goodIn_r _ [5, 6, 17, 18, 19, 20, 21, 22, 23, 24, 25, 26, 27, 28, 29] rfl (by decide +kernel)
set_option maxRecDepth 20000 in
theorem ggX2_afterTick_X0_size : GoodIn wsX2_afterTick wsX0_size := goodIn_r _ [14, 15, 16, 17, 18, 19, 20, 21, 22, 23, 24, 25, 26, 27, 28, 29] rfl (by decide +kernel)
set_option maxRecDepth 20000 in
theorem ggX2_afterTick_X2_takenIn : GoodIn wsX2_afterTick wsX2_takenIn := goodIn_r _ [10] rfl (by decide +kernel)
set_option maxRecDepth 20000 in
theorem ggX2_busValue_X0_size : GoodIn wsX2_busValue wsX0_size := goodIn_r _ [5, 6, 7, 25, 26, 27, 28, 29, 30, 31, 32, 33, 34, 35, 36, 37] rfl (by decide +kernel)
set_option maxRecDepth 20000 in
theorem ggX2_busValue_X2_driverValue : GoodIn wsX2_busValue wsX2_driverValue := goodIn_r _ [11, 12, 13, 14, 4, 15, 16, 17, 18, 19, 20, 21, 22, 23, 10, 24, 25, 26, 27, 28, 29, 30, 31, 32, 33, 34, 35, 36, 37] rfl (by decide +kernel)
set_option maxRecDepth 20000 in
theorem ggX2_driverValue_X0_isLow : GoodIn wsX2_driverValue wsX0_isLow := goodIn_r _ [10, 11, 16, 17, 18, 19, 20, 21, 22, 23, 24, 25, 26, 27, 28] rfl (by decide +kernel)
set_option maxRecDepth 20000 in
theorem ggX2_driverValue_X0_part : GoodIn wsX2_driverValue wsX0_part := goodIn_r _ [5, 6, 16, 17, 18, 19, 20, 21, 22, 23, 24, 25, 26, 27, 28] rfl (by decide +kernel)
set_option maxRecDepth 20000 in
theorem ggX2_driverValue_X2_takenIn : GoodIn wsX2_driverValue wsX2_takenIn := goodIn_r _ [15] rfl (by decide +kernel)
set_option maxRecDepth 20000 in
theorem ggX2_gateValue_X0_part : GoodIn wsX2_gateValue wsX0_part := goodIn_r _ [10, 11, 27, 28, 29, 30, 31, 32, 33, 34, 35, 36, 37, 38, 39] rfl (by decide +kernel)
set_option maxRecDepth 20000 in
theorem ggX2_gateValue_X0_size : GoodIn wsX2_gateValue wsX0_size := goodIn_r _ [18, 19, 20, 27, 28, 29, 30, 31, 32, 33, 34, 35, 36, 37, 38, 39] rfl (by decide +kernel)
set_option maxRecDepth 20000 in
theorem ggX2_gateValue_X2_isTurned : GoodIn wsX2_gateValue wsX2_isTurned := goodIn_r _ [26] rfl (by decide +kernel)
set_option maxRecDepth 20000 in
theorem ggX2_gateValue_X2_muxValue : GoodIn wsX2_gateValue wsX2_muxValue := goodIn_r _ [5, 6, 7, 8, 9, 10, 11, 12, 13, 4, 14, 27, 28, 29, 30, 31, 32, 33, 34, 35, 36, 37, 38, 39] rfl (by decide +kernel)
set_option maxRecDepth 20000 in
theorem ggX2_gateValue_X2_plainValue : GoodIn wsX2_gateValue wsX2_plainValue := goodIn_r _ [23] rfl (by decide +kernel)
set_option maxRecDepth 20000 in
theorem ggX2_muxValue_X0_part : GoodIn wsX2_muxValue wsX0_part := goodIn_r _ [5, 6, 11, 12, 13, 14, 15, 16, 17, 18, 19, 20, 21, 22, 23] rfl (by decide +kernel)
set_option maxRecDepth 20000 in
theorem ggX2_muxValue_X2_takenIn : GoodIn wsX2_muxValue wsX2_takenIn := goodIn_r _ [10] rfl (by decide +kernel)
set_option maxRecDepth 20000 in
theorem ggX2_settle_X2_busValue : GoodIn wsX2_settle wsX2_busValue := goodIn_r _ [35, 21, 22, 23, 15, 24, 25, 26, 36, 37, 6, 38, 12, 13, 14, 16, 17, 39, 40, 41, 42, 43, 18, 19, 20, 44, 45, 46, 47, 48, 49, 50, 51, 52, 53, 54, 55, 56] rfl (by decide +kernel)
set_option maxRecDepth 20000 in
theorem ggX2_settle_X2_gateValue : GoodIn wsX2_settle wsX2_gateValue := goodIn_r _ [7, 8, 9, 10, 6, 11, 12, 13, 14, 15, 16, 17, 18, 19, 20, 21, 22, 23, 24, 25, 26, 27, 28, 29, 30, 31, 32, 44, 45, 46, 47, 48, 49, 50, 51, 52, 53, 54, 55, 56] rfl (by decide +kernel)
