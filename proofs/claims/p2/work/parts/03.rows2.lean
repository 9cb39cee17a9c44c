set_option maxRecDepth 20000 in
theorem gX0_addPart_X0_has : GoodIn wsX0_addPart (wsV RX0 53 RX0 yX0_has wsX0_has) := goodIn_app (goodIn_r _ [5, 6, 7, 8] rfl (by decide +kernel)) ggX0_addPart_X0_has
set_option maxRecDepth 20000 in
theorem gX0_arrange_X0_dependsOn : GoodIn wsX0_arrange (wsV RX0 67 RX0 yX0_dependsOn wsX0_dependsOn) := goodIn_app (goodIn_r _ [6, 7, 8, 9] rfl (by decide +kernel)) ggX0_arrange_X0_dependsOn
set_option maxRecDepth 20000 in
theorem gX0_arrange_X0_levelAbove : GoodIn wsX0_arrange (wsV RX0 71 RX0 yX0_levelAbove wsX0_levelAbove) := goodIn_app (goodIn_r _ [11, 12, 13, 9] rfl (by decide +kernel)) ggX0_arrange_X0_levelAbove
set_option maxRecDepth 20000 in
theorem gX0_beginDriver_X0_has : GoodIn wsX0_beginDriver (wsV RX0 53 RX0 yX0_has wsX0_has) := goodIn_app (goodIn_r _ [2, 3, 4, 5] rfl (by decide +kernel)) ggX0_beginDriver_X0_has
set_option maxRecDepth 20000 in
theorem gX0_beginDriver_X0_size : GoodIn wsX0_beginDriver (wsV RX0 61 RX0 yX0_size wsX0_size) := goodIn_app (goodIn_r _ [8, 9, 10, 5] rfl (by decide +kernel)) ggX0_beginDriver_X0_size
set_option maxRecDepth 20000 in
theorem gX0_isKind_X0_has : GoodIn wsX0_isKind (wsV RX0 53 RX0 yX0_has wsX0_has) := goodIn_app (goodIn_r _ [2, 3, 4, 5] rfl (by decide +kernel)) ggX0_isKind_X0_has
set_option maxRecDepth 20000 in
theorem gX0_isSource_X0_isKind : GoodIn wsX0_isSource (wsV RX0 57 RX0 yX0_isKind wsX0_isKind) := goodIn_app (goodIn_r _ [1, 2, 3, 4] rfl (by decide +kernel)) ggX0_isSource_X0_isKind
set_option maxRecDepth 20000 in
theorem gX1_advance_X1_isBlank : GoodIn wsX1_advance (va_wsS RX1 26 yX1_isBlank wsX1_isBlank) := goodIn_app (goodIn_r _ [6, 7, 8] rfl (by decide +kernel)) ggX1_advance_X1_isBlank
set_option maxRecDepth 20000 in
theorem gX1_advance_X1_isDigit : GoodIn wsX1_advance (va_wsS RX1 42 yX1_isDigit wsX1_isDigit) := goodIn_app (goodIn_r _ [21, 22, 8] rfl (by decide +kernel)) ggX1_advance_X1_isDigit
set_option maxRecDepth 20000 in
theorem gX1_advance_X1_isLetter : GoodIn wsX1_advance (va_wsS RX1 36 yX1_isLetter wsX1_isLetter) := goodIn_app (goodIn_r _ [10, 11, 8] rfl (by decide +kernel)) ggX1_advance_X1_isLetter
set_option maxRecDepth 20000 in
theorem gX1_advance_X1_isSign : GoodIn wsX1_advance (va_wsS RX1 48 yX1_isSign wsX1_isSign) := goodIn_app (goodIn_r _ [29, 30, 8] rfl (by decide +kernel)) ggX1_advance_X1_isSign
set_option maxRecDepth 20000 in
theorem gX1_advance_X1_takeDigit : GoodIn wsX1_advance (wsV RX1 45 RX1 yX1_takeDigit wsX1_takeDigit) := goodIn_app (goodIn_r _ [24, 25, 26, 8] rfl (by decide +kernel)) ggX1_advance_X1_takeDigit
set_option maxRecDepth 20000 in
theorem gX1_advance_X1_takeWord : GoodIn wsX1_advance (wsV RX1 39 RX1 yX1_takeWord wsX1_takeWord) := goodIn_app (goodIn_r _ [13, 14, 15, 8] rfl (by decide +kernel)) ggX1_advance_X1_takeWord
set_option maxRecDepth 20000 in
theorem gX1_isLetterOrDigit_X1_isDigit : GoodIn wsX1_isLetterOrDigit (va_wsS RX1 42 yX1_isDigit wsX1_isDigit) := goodIn_app (goodIn_r _ [5, 6, 3] rfl (by decide +kernel)) ggX1_isLetterOrDigit_X1_isDigit
set_option maxRecDepth 20000 in
theorem gX1_isLetterOrDigit_X1_isLetter : GoodIn wsX1_isLetterOrDigit (va_wsS RX1 36 yX1_isLetter wsX1_isLetter) := goodIn_app (goodIn_r _ [1, 2, 3] rfl (by decide +kernel)) ggX1_isLetterOrDigit_X1_isLetter
set_option maxRecDepth 20000 in
theorem gX1_takeDigit_X1_isLetterOrDigit : GoodIn wsX1_takeDigit (va_wsS RX1 55 yX1_isLetterOrDigit wsX1_isLetterOrDigit) := goodIn_app (goodIn_r _ [6, 7, 8] rfl (by decide +kernel)) ggX1_takeDigit_X1_isLetterOrDigit
set_option maxRecDepth 20000 in
theorem gX1_takeWord_X1_isLetterOrDigit : GoodIn wsX1_takeWord (va_wsS RX1 55 yX1_isLetterOrDigit wsX1_isLetterOrDigit) := goodIn_app (goodIn_r _ [7, 8, 9] rfl (by decide +kernel)) ggX1_takeWord_X1_isLetterOrDigit
set_option maxRecDepth 20000 in
theorem gX2_afterTick_X0_part : GoodIn wsX2_afterTick (wsV RX2 41 RX0 yX0_part wsX0_part) := goodIn_app (goodIn_r _ [1, 2, 3, 4] rfl (by decide +kernel)) ggX2_afterTick_X0_part
set_option maxRecDepth 20000 in
theorem gX2_afterTick_X0_size : GoodIn wsX2_afterTick (wsV RX2 37 RX0 yX0_size wsX0_size) := goodIn_app (goodIn_r _ [11, 12, 13, 4] rfl (by decide +kernel)) ggX2_afterTick_X0_size
set_option maxRecDepth 20000 in
theorem gX2_afterTick_X2_takenIn : GoodIn wsX2_afterTick (va_wsS RX2 53 yX2_takenIn wsX2_takenIn) := goodIn_app (goodIn_r _ [7, 8, 9] rfl (by decide +kernel)) ggX2_afterTick_X2_takenIn
set_option maxRecDepth 20000 in
theorem gX2_busValue_X0_size : GoodIn wsX2_busValue (wsV RX2 37 RX0 yX0_size wsX0_size) := goodIn_app (goodIn_r _ [1, 2, 3, 4] rfl (by decide +kernel)) ggX2_busValue_X0_size
set_option maxRecDepth 20000 in
theorem gX2_busValue_X2_driverValue : GoodIn wsX2_busValue (va_wsS RX2 56 yX2_driverValue wsX2_driverValue) := goodIn_app (goodIn_r _ [8, 9, 10] rfl (by decide +kernel)) ggX2_busValue_X2_driverValue
set_option maxRecDepth 20000 in
theorem gX2_driverValue_X0_isLow : GoodIn wsX2_driverValue (wsV RX2 60 RX0 yX0_isLow wsX0_isLow) := goodIn_app (goodIn_r _ [7, 8, 9, 4] rfl (by decide +kernel)) ggX2_driverValue_X0_isLow
set_option maxRecDepth 20000 in
theorem gX2_driverValue_X0_part : GoodIn wsX2_driverValue (wsV RX2 41 RX0 yX0_part wsX0_part) := goodIn_app (goodIn_r _ [1, 2, 3, 4] rfl (by decide +kernel)) ggX2_driverValue_X0_part
set_option maxRecDepth 20000 in
theorem gX2_driverValue_X2_takenIn : GoodIn wsX2_driverValue (va_wsS RX2 53 yX2_takenIn wsX2_takenIn) := goodIn_app (goodIn_r _ [12, 13, 14] rfl (by decide +kernel)) ggX2_driverValue_X2_takenIn
set_option maxRecDepth 20000 in
theorem gX2_gateValue_X0_part : GoodIn wsX2_gateValue (wsV RX2 41 RX0 yX0_part wsX0_part) := goodIn_app (goodIn_r _ [6, 7, 8, 9] rfl (by decide +kernel)) ggX2_gateValue_X0_part
set_option maxRecDepth 20000 in
theorem gX2_gateValue_X0_size : GoodIn wsX2_gateValue (wsV RX2 37 RX0 yX0_size wsX0_size) := goodIn_app (goodIn_r _ [15, 16, 17, 9] rfl (by decide +kernel)) ggX2_gateValue_X0_size
set_option maxRecDepth 20000 in
theorem gX2_gateValue_X2_isTurned : GoodIn wsX2_gateValue (va_wsS RX2 49 yX2_isTurned wsX2_isTurned) := goodIn_app (goodIn_r _ [24, 25, 4] rfl (by decide +kernel)) ggX2_gateValue_X2_isTurned
set_option maxRecDepth 20000 in
theorem gX2_gateValue_X2_muxValue : GoodIn wsX2_gateValue (va_wsS RX2 34 yX2_muxValue wsX2_muxValue) := goodIn_app (goodIn_r _ [2, 3, 4] rfl (by decide +kernel)) ggX2_gateValue_X2_muxValue
set_option maxRecDepth 20000 in
theorem gX2_gateValue_X2_plainValue : GoodIn wsX2_gateValue (va_wsS RX2 45 yX2_plainValue wsX2_plainValue) := goodIn_app (goodIn_r _ [21, 22, 4] rfl (by decide +kernel)) ggX2_gateValue_X2_plainValue
set_option maxRecDepth 20000 in
theorem gX2_muxValue_X0_part : GoodIn wsX2_muxValue (wsV RX2 41 RX0 yX0_part wsX0_part) := goodIn_app (goodIn_r _ [1, 2, 3, 4] rfl (by decide +kernel)) ggX2_muxValue_X0_part
set_option maxRecDepth 20000 in
theorem gX2_muxValue_X2_takenIn : GoodIn wsX2_muxValue (va_wsS RX2 53 yX2_takenIn wsX2_takenIn) := goodIn_app (goodIn_r _ [7, 8, 9] rfl (by decide +kernel)) ggX2_muxValue_X2_takenIn
set_option maxRecDepth 20000 in
theorem gX2_settle_X2_busValue : GoodIn wsX2_settle (va_wsS RX2 28 yX2_busValue wsX2_busValue) := goodIn_app (goodIn_r _ [33, 34, 6] rfl (by decide +kernel)) ggX2_settle_X2_busValue
set_option maxRecDepth 20000 in
theorem gX2_settle_X2_gateValue : GoodIn wsX2_settle (va_wsS RX2 22 yX2_gateValue wsX2_gateValue) := goodIn_app (goodIn_r _ [4, 5, 6] rfl (by decide +kernel)) ggX2_settle_X2_gateValue
set_option maxRecDepth 20000 in
theorem gX4_arrive_X4_change : GoodIn wsX4_arrive (wsV RX4 59 RX4 yX4_change wsX4_change) := goodIn_app (goodIn_r _ [13, 14, 15, 7] rfl (by decide +kernel)) ggX4_arrive_X4_change
set_option maxRecDepth 20000 in
theorem gX4_arrive_X4_slotAt : GoodIn wsX4_arrive (va_wsS RX4 56 yX4_slotAt wsX4_slotAt) := goodIn_app (goodIn_r _ [5, 6, 7] rfl (by decide +kernel)) ggX4_arrive_X4_slotAt
set_option maxRecDepth 20000 in
theorem gX4_changeBuses_X2_busValue : GoodIn wsX4_changeBuses (va_wsS RX4 79 yX2_busValue wsX2_busValue) := goodIn_app (goodIn_r _ [5, 6, 7] rfl (by decide +kernel)) ggX4_changeBuses_X2_busValue
set_option maxRecDepth 20000 in
theorem gX4_changeBuses_X4_change : GoodIn wsX4_changeBuses (wsV RX4 59 RX4 yX4_change wsX4_change) := goodIn_app (goodIn_r _ [32, 33, 34, 35] rfl (by decide +kernel)) ggX4_changeBuses_X4_change
set_option maxRecDepth 20000 in
theorem gX4_follow_X0_dependsOn : GoodIn wsX4_follow (wsV RX4 68 RX0 yX0_dependsOn wsX0_dependsOn) := goodIn_app (goodIn_r _ [45, 46, 47, 18] rfl (by decide +kernel)) ggX4_follow_X0_dependsOn
set_option maxRecDepth 20000 in
theorem gX4_follow_X4_changeBuses : GoodIn wsX4_follow (wsV RX4 62 RX4 yX4_changeBuses wsX4_changeBuses) := goodIn_app (goodIn_r _ [4, 5, 6, 7] rfl (by decide +kernel)) ggX4_follow_X4_changeBuses
set_option maxRecDepth 20000 in
theorem gX4_follow_X4_lookAt : GoodIn wsX4_follow (wsV RX4 72 RX4 yX4_lookAt wsX4_lookAt) := goodIn_app (goodIn_r _ [50, 51, 52, 7] rfl (by decide +kernel)) ggX4_follow_X4_lookAt
set_option maxRecDepth 20000 in
theorem gX4_lookAt_X2_gateValue : GoodIn wsX4_lookAt (va_wsS RX4 85 yX2_gateValue wsX2_gateValue) := goodIn_app (goodIn_r _ [7, 8, 9] rfl (by decide +kernel)) ggX4_lookAt_X2_gateValue
set_option maxRecDepth 20000 in
theorem gX4_lookAt_X4_slotAt : GoodIn wsX4_lookAt (va_wsS RX4 56 yX4_slotAt wsX4_slotAt) := goodIn_app (goodIn_r _ [36, 37, 38] rfl (by decide +kernel)) ggX4_lookAt_X4_slotAt
set_option maxRecDepth 20000 in
theorem gX4_slotAt_J9_floorMod_7cf53 : GoodIn wsX4_slotAt (va_wsS RX4 50 yJ9_floorMod_7cf53 wsJ9_floorMod_7cf53) := goodIn_app (goodIn_r _ [1, 2, 3] rfl (by decide +kernel)) ggX4_slotAt_J9_floorMod_7cf53
set_option maxRecDepth 20000 in
theorem gX4_turn_X4_arrive : GoodIn wsX4_turn (wsV RX4 47 RX4 yX4_arrive wsX4_arrive) := goodIn_app (goodIn_r _ [82, 83, 84, 6] rfl (by decide +kernel)) ggX4_turn_X4_arrive
set_option maxRecDepth 20000 in
theorem gX4_turn_X4_follow : GoodIn wsX4_turn (wsV RX4 43 RX4 yX4_follow wsX4_follow) := goodIn_app (goodIn_r _ [3, 4, 5, 6] rfl (by decide +kernel)) ggX4_turn_X4_follow
set_option maxRecDepth 20000 in
theorem gX5_busRow_X0_isLow : GoodIn wsX5_busRow (wsV RX5 96 RX0 yX0_isLow wsX0_isLow) := goodIn_app (goodIn_r _ [16, 17, 18, 7] rfl (by decide +kernel)) ggX5_busRow_X0_isLow
set_option maxRecDepth 20000 in
theorem gX5_busRow_X0_part : GoodIn wsX5_busRow (wsV RX5 79 RX0 yX0_part wsX0_part) := goodIn_app (goodIn_r _ [11, 12, 13, 7] rfl (by decide +kernel)) ggX5_busRow_X0_part
set_option maxRecDepth 20000 in
theorem gX5_busRow_X0_size : GoodIn wsX5_busRow (wsV RX5 85 RX0 yX0_size wsX0_size) := goodIn_app (goodIn_r _ [4, 5, 6, 7] rfl (by decide +kernel)) ggX5_busRow_X0_size
set_option maxRecDepth 20000 in
theorem gX5_collect_J13_bitCount_95d88 : GoodIn wsX5_collect (va_wsS RX5 99 yJ13_bitCount_95d88 wsJ13_bitCount_95d88) := goodIn_app (goodIn_r _ [8, 9, 10] rfl (by decide +kernel)) ggX5_collect_J13_bitCount_95d88
set_option maxRecDepth 20000 in
theorem gX5_fillSources_X0_isSource : GoodIn wsX5_fillSources (wsV RX5 51 RX0 yX0_isSource wsX0_isSource) := goodIn_app (goodIn_r _ [4, 5, 6, 7] rfl (by decide +kernel)) ggX5_fillSources_X0_isSource
set_option maxRecDepth 20000 in
theorem gX5_fillSources_X5_freeRow : GoodIn wsX5_fillSources (va_wsS RX5 55 yX5_freeRow wsX5_freeRow) := goodIn_app (goodIn_r _ [19, 20, 21] rfl (by decide +kernel)) ggX5_fillSources_X5_freeRow
set_option maxRecDepth 20000 in
theorem gX5_followOthers_X5_busRow : GoodIn wsX5_followOthers (wsV RX5 73 RX5 yX5_busRow wsX5_busRow) := goodIn_app (goodIn_r _ [31, 32, 33, 8] rfl (by decide +kernel)) ggX5_followOthers_X5_busRow
set_option maxRecDepth 20000 in
theorem gX5_followOthers_X5_gateRow : GoodIn wsX5_followOthers (wsV RX5 69 RX5 yX5_gateRow wsX5_gateRow) := goodIn_app (goodIn_r _ [5, 6, 7, 8] rfl (by decide +kernel)) ggX5_followOthers_X5_gateRow
set_option maxRecDepth 20000 in
theorem gX5_gateRow_X0_part : GoodIn wsX5_gateRow (wsV RX5 79 RX0 yX0_part wsX0_part) := goodIn_app (goodIn_r _ [4, 5, 6, 7] rfl (by decide +kernel)) ggX5_gateRow_X0_part
set_option maxRecDepth 20000 in
theorem gX5_gateRow_X0_size : GoodIn wsX5_gateRow (wsV RX5 85 RX0 yX0_size wsX0_size) := goodIn_app (goodIn_r _ [10, 11, 12, 7] rfl (by decide +kernel)) ggX5_gateRow_X0_size
set_option maxRecDepth 20000 in
theorem gX5_gateRow_X2_isTurned : GoodIn wsX5_gateRow (va_wsS RX5 93 yX2_isTurned wsX2_isTurned) := goodIn_app (goodIn_r _ [20, 21, 22] rfl (by decide +kernel)) ggX5_gateRow_X2_isTurned
set_option maxRecDepth 20000 in
theorem gX5_gateRow_X5_join : GoodIn wsX5_gateRow (va_wsS RX5 89 yX5_join wsX5_join) := goodIn_app (goodIn_r _ [16, 17, 18] rfl (by decide +kernel)) ggX5_gateRow_X5_join
set_option maxRecDepth 20000 in
theorem gX5_goThrough_X5_collect : GoodIn wsX5_goThrough (wsV RX5 39 RX5 yX5_collect wsX5_collect) := goodIn_app (goodIn_r _ [69, 70, 71, 9] rfl (by decide +kernel)) ggX5_goThrough_X5_collect
set_option maxRecDepth 20000 in
theorem gX5_goThrough_X5_fillSources : GoodIn wsX5_goThrough (wsV RX5 31 RX5 yX5_fillSources wsX5_fillSources) := goodIn_app (goodIn_r _ [6, 7, 8, 9] rfl (by decide +kernel)) ggX5_goThrough_X5_fillSources
set_option maxRecDepth 20000 in
theorem gX5_goThrough_X5_followOthers : GoodIn wsX5_goThrough (wsV RX5 35 RX5 yX5_followOthers wsX5_followOthers) := goodIn_app (goodIn_r _ [32, 33, 34, 9] rfl (by decide +kernel)) ggX5_goThrough_X5_followOthers
set_option maxRecDepth 20000 in
theorem gX5_sharpValue_X5_isEver : GoodIn wsX5_sharpValue (wsV RX5 42 RX5 yX5_isEver wsX5_isEver) := goodIn_app (goodIn_r _ [2, 3, 4, 5] rfl (by decide +kernel)) ggX5_sharpValue_X5_isEver
