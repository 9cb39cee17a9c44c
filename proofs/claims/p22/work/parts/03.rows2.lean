set_option maxRecDepth 20000 in
theorem gX0_addPart_X0_has : GoodIn wsX0_addPart (wsV RX0 53 RX0 yX0_has wsX0_has) := goodIn_app (goodIn_r _ [5, 6, 7, 8] rfl (by decide +kernel)) ggX0_addPart_X0_has
set_option maxRecDepth 20000 in
theorem gX0_arrange_X0_dependsOn : GoodIn wsX0_arrange (wsV RX0 67 RX0 yX0_dependsOn wsX0_dependsOn) := goodIn_app (goodIn_r _ [6, 7, 8, 9] rfl (by decide +kernel)) ggX0_arrange_X0_dependsOn
set_option maxRecDepth 20000 in
theorem gX0_arrange_X0_levelAbove : GoodIn wsX0_arrange (wsV RX0 71 RX0 yX0_levelAbove wsX0_levelAbove) := goodIn_app (goodIn_r _ [11, 12, 13, 9] rfl (by decide +kernel)) ggX0_arrange_X0_levelAbove
set_option maxRecDepth 20000 in
theorem gX0_beginDriver_X0_has : GoodIn wsX0_beginDriver (wsV RX0 53 RX0 yX0_has wsX0_has) := goodIn_app (goodIn_r _ [2, 3, 4, 5] rfl (by decide +kernel)) ggX0_beginDriver_X0_has
set_option maxRecDepth 20000 in
theorem gX0_beginDriver_X0_size : GoodIn wsX0_beginDriver (wsV RX0 61 RX0 yX0_size wsX0_size) := goodIn_app (goodIn_r _ [8, 9, 10, 5] rfl (by decide +kernel)) ggX0_beginDriver_X0_size
set_option maxRecDepth 20000 in
theorem gX0_isKind_X0_has : GoodIn wsX0_isKind (wsV RX0 53 RX0 yX0_has wsX0_has) := goodIn_app (goodIn_r _ [2, 3, 4, 5] rfl (by decide +kernel)) ggX0_isKind_X0_has
set_option maxRecDepth 20000 in
theorem gX0_isSource_X0_isKind : GoodIn wsX0_isSource (wsV RX0 57 RX0 yX0_isKind wsX0_isKind) := goodIn_app (goodIn_r _ [1, 2, 3, 4] rfl (by decide +kernel)) ggX0_isSource_X0_isKind
set_option maxRecDepth 20000 in
theorem gX1_advance_X1_isBlank : GoodIn wsX1_advance (va_wsS RX1 26 yX1_isBlank wsX1_isBlank) := goodIn_app (goodIn_r _ [6, 7, 8] rfl (by decide +kernel)) ggX1_advance_X1_isBlank
set_option maxRecDepth 20000 in
theorem gX1_advance_X1_isDigit : GoodIn wsX1_advance (va_wsS RX1 42 yX1_isDigit wsX1_isDigit) := goodIn_app (goodIn_r _ [21, 22, 8] rfl (by decide +kernel)) ggX1_advance_X1_isDigit
set_option maxRecDepth 20000 in
theorem gX1_advance_X1_isLetter : GoodIn wsX1_advance (va_wsS RX1 36 yX1_isLetter wsX1_isLetter) := goodIn_app (goodIn_r _ [10, 11, 8] rfl (by decide +kernel)) ggX1_advance_X1_isLetter
set_option maxRecDepth 20000 in
theorem gX1_advance_X1_isSign : GoodIn wsX1_advance (va_wsS RX1 48 yX1_isSign wsX1_isSign) := goodIn_app (goodIn_r _ [29, 30, 8] rfl (by decide +kernel)) ggX1_advance_X1_isSign
set_option maxRecDepth 20000 in
theorem gX1_advance_X1_takeDigit : GoodIn wsX1_advance (wsV RX1 45 RX1 yX1_takeDigit wsX1_takeDigit) := goodIn_app (goodIn_r _ [24, 25, 26, 8] rfl (by decide +kernel)) ggX1_advance_X1_takeDigit
set_option maxRecDepth 20000 in
theorem gX1_advance_X1_takeWord : GoodIn wsX1_advance (wsV RX1 39 RX1 yX1_takeWord wsX1_takeWord) := goodIn_app (goodIn_r _ [13, 14, 15, 8] rfl (by decide +kernel)) ggX1_advance_X1_takeWord
set_option maxRecDepth 20000 in
theorem gX1_isLetterOrDigit_X1_isDigit : GoodIn wsX1_isLetterOrDigit (va_wsS RX1 42 yX1_isDigit wsX1_isDigit) := goodIn_app (goodIn_r _ [5, 6, 3] rfl (by decide +kernel)) ggX1_isLetterOrDigit_X1_isDigit
set_option maxRecDepth 20000 in
theorem gX1_isLetterOrDigit_X1_isLetter : GoodIn wsX1_isLetterOrDigit (va_wsS RX1 36 yX1_isLetter wsX1_isLetter) := goodIn_app (goodIn_r _ [1, 2, 3] rfl (by decide +kernel)) ggX1_isLetterOrDigit_X1_isLetter
set_option maxRecDepth 20000 in
theorem gX1_takeDigit_X1_isLetterOrDigit : GoodIn wsX1_takeDigit (va_wsS RX1 55 yX1_isLetterOrDigit wsX1_isLetterOrDigit) := goodIn_app (goodIn_r _ [6, 7, 8] rfl (by decide +kernel)) ggX1_takeDigit_X1_isLetterOrDigit
set_option maxRecDepth 20000 in
theorem gX1_takeWord_X1_isLetterOrDigit : GoodIn wsX1_takeWord (va_wsS RX1 55 yX1_isLetterOrDigit wsX1_isLetterOrDigit) := goodIn_app (goodIn_r _ [7, 8, 9] rfl (by decide +kernel)) ggX1_takeWord_X1_isLetterOrDigit
set_option maxRecDepth 20000 in
theorem gX2_afterTick_X0_part : GoodIn wsX2_afterTick (wsV RX2 41 RX0 yX0_part wsX0_part) := goodIn_app (goodIn_r _ [1, 2, 3, 4] rfl (by decide +kernel)) ggX2_afterTick_X0_part
set_option maxRecDepth 20000 in
theorem gX2_afterTick_X0_size : GoodIn wsX2_afterTick (wsV RX2 37 RX0 yX0_size wsX0_size) := goodIn_app (goodIn_r _ [11, 12, 13, 4] rfl (by decide +kernel)) ggX2_afterTick_X0_size
set_option maxRecDepth 20000 in
theorem gX2_afterTick_X2_takenIn : GoodIn wsX2_afterTick (va_wsS RX2 53 yX2_takenIn wsX2_takenIn) := goodIn_app (goodIn_r _ [7, 8, 9] rfl (by decide +kernel)) ggX2_afterTick_X2_takenIn
set_option maxRecDepth 20000 in
theorem gX2_busValue_X0_size : GoodIn wsX2_busValue (wsV RX2 37 RX0 yX0_size wsX0_size) := goodIn_app (goodIn_r _ [1, 2, 3, 4] rfl (by decide +kernel)) ggX2_busValue_X0_size
set_option maxRecDepth 20000 in
theorem gX2_busValue_X2_driverValue : GoodIn wsX2_busValue (va_wsS RX2 56 yX2_driverValue wsX2_driverValue) := goodIn_app (goodIn_r _ [8, 9, 10] rfl (by decide +kernel)) ggX2_busValue_X2_driverValue
set_option maxRecDepth 20000 in
theorem gX2_driverValue_X0_isLow : GoodIn wsX2_driverValue (wsV RX2 60 RX0 yX0_isLow wsX0_isLow) := goodIn_app (goodIn_r _ [7, 8, 9, 4] rfl (by decide +kernel)) ggX2_driverValue_X0_isLow
set_option maxRecDepth 20000 in
theorem gX2_driverValue_X0_part : GoodIn wsX2_driverValue (wsV RX2 41 RX0 yX0_part wsX0_part) := goodIn_app (goodIn_r _ [1, 2, 3, 4] rfl (by decide +kernel)) ggX2_driverValue_X0_part
set_option maxRecDepth 20000 in
theorem gX2_driverValue_X2_takenIn : GoodIn wsX2_driverValue (va_wsS RX2 53 yX2_takenIn wsX2_takenIn) := goodIn_app (goodIn_r _ [12, 13, 14] rfl (by decide +kernel)) ggX2_driverValue_X2_takenIn
set_option maxRecDepth 20000 in
theorem gX2_gateValue_X0_part : GoodIn wsX2_gateValue (wsV RX2 41 RX0 yX0_part wsX0_part) := goodIn_app (goodIn_r _ [6, 7, 8, 9] rfl (by decide +kernel)) ggX2_gateValue_X0_part
set_option maxRecDepth 20000 in
theorem gX2_gateValue_X0_size : GoodIn wsX2_gateValue (wsV RX2 37 RX0 yX0_size wsX0_size) := goodIn_app (goodIn_r _ [15, 16, 17, 9] rfl (by decide +kernel)) ggX2_gateValue_X0_size
set_option maxRecDepth 20000 in
theorem gX2_gateValue_X2_isTurned : GoodIn wsX2_gateValue (va_wsS RX2 49 yX2_isTurned wsX2_isTurned) := goodIn_app (goodIn_r _ [24, 25, 4] rfl (by decide +kernel)) ggX2_gateValue_X2_isTurned
set_option maxRecDepth 20000 in
theorem gX2_gateValue_X2_muxValue : GoodIn wsX2_gateValue (va_wsS RX2 34 yX2_muxValue wsX2_muxValue) := goodIn_app (goodIn_r _ [2, 3, 4] rfl (by decide +kernel)) ggX2_gateValue_X2_muxValue
set_option maxRecDepth 20000 in
theorem gX2_gateValue_X2_plainValue : GoodIn wsX2_gateValue (va_wsS RX2 45 yX2_plainValue wsX2_plainValue) := goodIn_app (goodIn_r _ [21, 22, 4] rfl (by decide +kernel)) ggX2_gateValue_X2_plainValue
set_option maxRecDepth 20000 in
theorem gX2_muxValue_X0_part : GoodIn wsX2_muxValue (wsV RX2 41 RX0 yX0_part wsX0_part) := goodIn_app (goodIn_r _ [1, 2, 3, 4] rfl (by decide +kernel)) ggX2_muxValue_X0_part
set_option maxRecDepth 20000 in
theorem gX2_muxValue_X2_takenIn : GoodIn wsX2_muxValue (va_wsS RX2 53 yX2_takenIn wsX2_takenIn) := goodIn_app (goodIn_r _ [7, 8, 9] rfl (by decide +kernel)) ggX2_muxValue_X2_takenIn
set_option maxRecDepth 20000 in
theorem gX2_settle_X2_busValue : GoodIn wsX2_settle (va_wsS RX2 28 yX2_busValue wsX2_busValue) := goodIn_app (goodIn_r _ [33, 34, 6] rfl (by decide +kernel)) ggX2_settle_X2_busValue
set_option maxRecDepth 20000 in
theorem gX2_settle_X2_gateValue : GoodIn wsX2_settle (va_wsS RX2 22 yX2_gateValue wsX2_gateValue) := goodIn_app (goodIn_r _ [4, 5, 6] rfl (by decide +kernel)) ggX2_settle_X2_gateValue
set_option maxRecDepth 20000 in
theorem gX3_beginLine_X3_beginTelling : GoodIn wsX3_beginLine (wsV RX3 127 RX3 yX3_beginTelling wsX3_beginTelling) := goodIn_app (goodIn_r _ [15, 16, 17, 12] rfl (by decide +kernel)) ggX3_beginLine_X3_beginTelling
set_option maxRecDepth 20000 in
theorem gX3_beginLine_X3_go : GoodIn wsX3_beginLine (wsV RX3 89 RX3 yX3_go wsX3_go) := goodIn_app (goodIn_r _ [20, 21, 22, 12] rfl (by decide +kernel)) ggX3_beginLine_X3_go
set_option maxRecDepth 20000 in
theorem gX3_beginLine_X3_isName : GoodIn wsX3_beginLine (wsV RX3 134 RX3 yX3_isName wsX3_isName) := goodIn_app (goodIn_r _ [25, 26, 27, 12] rfl (by decide +kernel)) ggX3_beginLine_X3_isName
set_option maxRecDepth 20000 in
theorem gX3_beginLine_X3_isWord : GoodIn wsX3_beginLine (wsV RX3 123 RX3 yX3_isWord wsX3_isWord) := goodIn_app (goodIn_r _ [9, 10, 11, 12] rfl (by decide +kernel)) ggX3_beginLine_X3_isWord
set_option maxRecDepth 20000 in
theorem gX3_beginLine_X3_refuse : GoodIn wsX3_beginLine (wsV RX3 80 RX3 yX3_refuse wsX3_refuse) := goodIn_app (goodIn_r _ [36, 37, 38, 12] rfl (by decide +kernel)) ggX3_beginLine_X3_refuse
set_option maxRecDepth 20000 in
theorem gX3_beginParts_X3_go : GoodIn wsX3_beginParts (wsV RX3 89 RX3 yX3_go wsX3_go) := goodIn_app (goodIn_r _ [5, 6, 7, 8] rfl (by decide +kernel)) ggX3_beginParts_X3_go
set_option maxRecDepth 20000 in
theorem gX3_beginTelling_X3_go : GoodIn wsX3_beginTelling (wsV RX3 89 RX3 yX3_go wsX3_go) := goodIn_app (goodIn_r _ [2, 3, 4, 5] rfl (by decide +kernel)) ggX3_beginTelling_X3_go
set_option maxRecDepth 20000 in
theorem gX3_behindPart_X3_go : GoodIn wsX3_behindPart (wsV RX3 89 RX3 yX3_go wsX3_go) := goodIn_app (goodIn_r _ [7, 8, 9, 10] rfl (by decide +kernel)) ggX3_behindPart_X3_go
set_option maxRecDepth 20000 in
theorem gX3_behindPart_X3_refuse : GoodIn wsX3_behindPart (wsV RX3 80 RX3 yX3_refuse wsX3_refuse) := goodIn_app (goodIn_r _ [13, 14, 15, 10] rfl (by decide +kernel)) ggX3_behindPart_X3_refuse
set_option maxRecDepth 20000 in
theorem gX3_checkDrivers_X3_failAt : GoodIn wsX3_checkDrivers (wsV RX3 117 RX3 yX3_failAt wsX3_failAt) := goodIn_app (goodIn_r _ [10, 11, 12, 8] rfl (by decide +kernel)) ggX3_checkDrivers_X3_failAt
set_option maxRecDepth 20000 in
theorem gX3_checkDrivers_X3_isHead : GoodIn wsX3_checkDrivers (va_wsS RX3 172 yX3_isHead wsX3_isHead) := goodIn_app (goodIn_r _ [6, 7, 8] rfl (by decide +kernel)) ggX3_checkDrivers_X3_isHead
set_option maxRecDepth 20000 in
theorem gX3_checkLoops_X3_failAt : GoodIn wsX3_checkLoops (wsV RX3 117 RX3 yX3_failAt wsX3_failAt) := goodIn_app (goodIn_r _ [10, 11, 12, 13] rfl (by decide +kernel)) ggX3_checkLoops_X3_failAt
set_option maxRecDepth 20000 in
theorem gX3_endLine_X3_go : GoodIn wsX3_endLine (wsV RX3 89 RX3 yX3_go wsX3_go) := goodIn_app (goodIn_r _ [3, 4, 5, 6] rfl (by decide +kernel)) ggX3_endLine_X3_go
set_option maxRecDepth 20000 in
theorem gX3_endLine_X3_refuse : GoodIn wsX3_endLine (wsV RX3 80 RX3 yX3_refuse wsX3_refuse) := goodIn_app (goodIn_r _ [9, 10, 11, 6] rfl (by decide +kernel)) ggX3_endLine_X3_refuse
set_option maxRecDepth 20000 in
theorem gX3_isName_X3_gateHere : GoodIn wsX3_isName (wsV RX3 175 RX3 yX3_gateHere wsX3_gateHere) := goodIn_app (goodIn_r _ [9, 10, 11, 12] rfl (by decide +kernel)) ggX3_isName_X3_gateHere
set_option maxRecDepth 20000 in
theorem gX3_linkUses_X0_addPart : GoodIn wsX3_linkUses (wsV RX3 226 RX0 yX0_addPart wsX0_addPart) := goodIn_app (goodIn_r _ [42, 43, 44, 9] rfl (by decide +kernel)) ggX3_linkUses_X0_addPart
set_option maxRecDepth 20000 in
theorem gX3_linkUses_X0_beginDriver : GoodIn wsX3_linkUses (wsV RX3 222 RX0 yX0_beginDriver wsX0_beginDriver) := goodIn_app (goodIn_r _ [32, 33, 34, 9] rfl (by decide +kernel)) ggX3_linkUses_X0_beginDriver
set_option maxRecDepth 20000 in
theorem gX3_linkUses_X0_find : GoodIn wsX3_linkUses (wsV RX3 164 RX0 yX0_find wsX0_find) := goodIn_app (goodIn_r _ [6, 7, 8, 9] rfl (by decide +kernel)) ggX3_linkUses_X0_find
set_option maxRecDepth 20000 in
theorem gX3_linkUses_X0_isKind : GoodIn wsX3_linkUses (wsV RX3 219 RX0 yX0_isKind wsX0_isKind) := goodIn_app (goodIn_r _ [17, 18, 19, 9] rfl (by decide +kernel)) ggX3_linkUses_X0_isKind
set_option maxRecDepth 20000 in
theorem gX3_linkUses_X3_failAt : GoodIn wsX3_linkUses (wsV RX3 117 RX3 yX3_failAt wsX3_failAt) := goodIn_app (goodIn_r _ [26, 27, 28, 15] rfl (by decide +kernel)) ggX3_linkUses_X3_failAt
set_option maxRecDepth 20000 in
theorem gX3_linkUses_X3_isHead : GoodIn wsX3_linkUses (va_wsS RX3 172 yX3_isHead wsX3_isHead) := goodIn_app (goodIn_r _ [13, 14, 15] rfl (by decide +kernel)) ggX3_linkUses_X3_isHead
set_option maxRecDepth 20000 in
theorem gX3_readInto_X0_arrange : GoodIn wsX3_readInto (wsV RX3 65 RX0 yX0_arrange wsX0_arrange) := goodIn_app (goodIn_r _ [228, 229, 230, 9] rfl (by decide +kernel)) ggX3_readInto_X0_arrange
set_option maxRecDepth 20000 in
theorem gX3_readInto_X0_clear : GoodIn wsX3_readInto (wsV RX3 40 RX0 yX0_clear wsX0_clear) := goodIn_app (goodIn_r _ [6, 7, 8, 9] rfl (by decide +kernel)) ggX3_readInto_X0_clear
set_option maxRecDepth 20000 in
theorem gX3_readInto_X1_begin : GoodIn wsX3_readInto (wsV RX3 51 RX1 yX1_begin wsX1_begin) := goodIn_app (goodIn_r _ [13, 14, 15, 16] rfl (by decide +kernel)) ggX3_readInto_X1_begin
set_option maxRecDepth 20000 in
theorem gX3_readInto_X3_checkLoops : GoodIn wsX3_readInto (wsV RX3 62 RX3 yX3_checkLoops wsX3_checkLoops) := goodIn_app (goodIn_r _ [217, 218, 219, 28] rfl (by decide +kernel)) ggX3_readInto_X3_checkLoops
set_option maxRecDepth 20000 in
theorem gX3_readInto_X3_linkUses : GoodIn wsX3_readInto (wsV RX3 59 RX3 yX3_linkUses wsX3_linkUses) := goodIn_app (goodIn_r _ [195, 196, 197, 28] rfl (by decide +kernel)) ggX3_readInto_X3_linkUses
set_option maxRecDepth 20000 in
theorem gX3_readInto_X3_takeTokens : GoodIn wsX3_readInto (wsV RX3 55 RX3 yX3_takeTokens wsX3_takeTokens) := goodIn_app (goodIn_r _ [25, 26, 27, 28] rfl (by decide +kernel)) ggX3_readInto_X3_takeTokens
set_option maxRecDepth 20000 in
theorem gX3_refuse_X3_failAt : GoodIn wsX3_refuse (wsV RX3 117 RX3 yX3_failAt wsX3_failAt) := goodIn_app (goodIn_r _ [4, 5, 6, 7] rfl (by decide +kernel)) ggX3_refuse_X3_failAt
set_option maxRecDepth 20000 in
theorem gX3_step_X3_beginLine : GoodIn wsX3_step (wsV RX3 83 RX3 yX3_beginLine wsX3_beginLine) := goodIn_app (goodIn_r _ [4, 5, 6, 7] rfl (by decide +kernel)) ggX3_step_X3_beginLine
set_option maxRecDepth 20000 in
theorem gX3_step_X3_behindPart : GoodIn wsX3_step (wsV RX3 108 RX3 yX3_behindPart wsX3_behindPart) := goodIn_app (goodIn_r _ [130, 131, 132, 7] rfl (by decide +kernel)) ggX3_step_X3_behindPart
set_option maxRecDepth 20000 in
theorem gX3_step_X3_endLine : GoodIn wsX3_step (wsV RX3 93 RX3 yX3_endLine wsX3_endLine) := goodIn_app (goodIn_r _ [88, 89, 90, 7] rfl (by decide +kernel)) ggX3_step_X3_endLine
set_option maxRecDepth 20000 in
theorem gX3_step_X3_go : GoodIn wsX3_step (wsV RX3 89 RX3 yX3_go wsX3_go) := goodIn_app (goodIn_r _ [25, 26, 27, 7] rfl (by decide +kernel)) ggX3_step_X3_go
set_option maxRecDepth 20000 in
theorem gX3_step_X3_refuse : GoodIn wsX3_step (wsV RX3 80 RX3 yX3_refuse wsX3_refuse) := goodIn_app (goodIn_r _ [40, 41, 42, 7] rfl (by decide +kernel)) ggX3_step_X3_refuse
set_option maxRecDepth 20000 in
theorem gX3_step_X3_takeDelay : GoodIn wsX3_step (wsV RX3 111 RX3 yX3_takeDelay wsX3_takeDelay) := goodIn_app (goodIn_r _ [134, 135, 136, 7] rfl (by decide +kernel)) ggX3_step_X3_takeDelay
set_option maxRecDepth 20000 in
theorem gX3_step_X3_takeDriver : GoodIn wsX3_step (wsV RX3 102 RX3 yX3_takeDriver wsX3_takeDriver) := goodIn_app (goodIn_r _ [117, 118, 119, 7] rfl (by decide +kernel)) ggX3_step_X3_takeDriver
set_option maxRecDepth 20000 in
theorem gX3_step_X3_takeGate : GoodIn wsX3_step (wsV RX3 99 RX3 yX3_takeGate wsX3_takeGate) := goodIn_app (goodIn_r _ [106, 107, 108, 7] rfl (by decide +kernel)) ggX3_step_X3_takeGate
set_option maxRecDepth 20000 in
theorem gX3_step_X3_takePart : GoodIn wsX3_step (wsV RX3 105 RX3 yX3_takePart wsX3_takePart) := goodIn_app (goodIn_r _ [126, 127, 128, 7] rfl (by decide +kernel)) ggX3_step_X3_takePart
set_option maxRecDepth 20000 in
theorem gX3_step_X3_tellHere : GoodIn wsX3_step (wsV RX3 86 RX3 yX3_tellHere wsX3_tellHere) := goodIn_app (goodIn_r _ [50, 51, 52, 7] rfl (by decide +kernel)) ggX3_step_X3_tellHere
set_option maxRecDepth 20000 in
theorem gX3_step_X3_tellOrDrive : GoodIn wsX3_step (wsV RX3 96 RX3 yX3_tellOrDrive wsX3_tellOrDrive) := goodIn_app (goodIn_r _ [92, 93, 94, 7] rfl (by decide +kernel)) ggX3_step_X3_tellOrDrive
set_option maxRecDepth 20000 in
theorem gX3_takeDelay_X0_has : GoodIn wsX3_takeDelay (wsV RX3 179 RX0 yX0_has wsX0_has) := goodIn_app (goodIn_r _ [6, 7, 8, 9] rfl (by decide +kernel)) ggX3_takeDelay_X0_has
set_option maxRecDepth 20000 in
theorem gX3_takeDelay_X3_go : GoodIn wsX3_takeDelay (wsV RX3 89 RX3 yX3_go wsX3_go) := goodIn_app (goodIn_r _ [12, 13, 14, 15] rfl (by decide +kernel)) ggX3_takeDelay_X3_go
set_option maxRecDepth 20000 in
theorem gX3_takeDriver_X3_addUse : GoodIn wsX3_takeDriver (wsV RX3 195 RX3 yX3_addUse wsX3_addUse) := goodIn_app (goodIn_r _ [24, 25, 26, 8] rfl (by decide +kernel)) ggX3_takeDriver_X3_addUse
set_option maxRecDepth 20000 in
theorem gX3_takeDriver_X3_beginParts : GoodIn wsX3_takeDriver (wsV RX3 157 RX3 yX3_beginParts wsX3_beginParts) := goodIn_app (goodIn_r _ [32, 33, 34, 8] rfl (by decide +kernel)) ggX3_takeDriver_X3_beginParts
set_option maxRecDepth 20000 in
theorem gX3_takeDriver_X3_isWord : GoodIn wsX3_takeDriver (wsV RX3 123 RX3 yX3_isWord wsX3_isWord) := goodIn_app (goodIn_r _ [5, 6, 7, 8] rfl (by decide +kernel)) ggX3_takeDriver_X3_isWord
set_option maxRecDepth 20000 in
theorem gX3_takeDriver_X3_refuse : GoodIn wsX3_takeDriver (wsV RX3 80 RX3 yX3_refuse wsX3_refuse) := goodIn_app (goodIn_r _ [13, 14, 15, 8] rfl (by decide +kernel)) ggX3_takeDriver_X3_refuse
set_option maxRecDepth 20000 in
theorem gX3_takeGate_X0_has : GoodIn wsX3_takeGate (wsV RX3 179 RX0 yX0_has wsX0_has) := goodIn_app (goodIn_r _ [15, 16, 17, 18] rfl (by decide +kernel)) ggX3_takeGate_X0_has
set_option maxRecDepth 20000 in
theorem gX3_takeGate_X3_beginParts : GoodIn wsX3_takeGate (wsV RX3 157 RX3 yX3_beginParts wsX3_beginParts) := goodIn_app (goodIn_r _ [32, 33, 34, 9] rfl (by decide +kernel)) ggX3_takeGate_X3_beginParts
set_option maxRecDepth 20000 in
theorem gX3_takeGate_X3_gateHere : GoodIn wsX3_takeGate (wsV RX3 175 RX3 yX3_gateHere wsX3_gateHere) := goodIn_app (goodIn_r _ [6, 7, 8, 9] rfl (by decide +kernel)) ggX3_takeGate_X3_gateHere
set_option maxRecDepth 20000 in
theorem gX3_takeGate_X3_refuse : GoodIn wsX3_takeGate (wsV RX3 80 RX3 yX3_refuse wsX3_refuse) := goodIn_app (goodIn_r _ [21, 22, 23, 9] rfl (by decide +kernel)) ggX3_takeGate_X3_refuse
set_option maxRecDepth 20000 in
theorem gX3_takePart_X3_addUse : GoodIn wsX3_takePart (wsV RX3 195 RX3 yX3_addUse wsX3_addUse) := goodIn_app (goodIn_r _ [33, 34, 35, 10] rfl (by decide +kernel)) ggX3_takePart_X3_addUse
set_option maxRecDepth 20000 in
theorem gX3_takePart_X3_go : GoodIn wsX3_takePart (wsV RX3 89 RX3 yX3_go wsX3_go) := goodIn_app (goodIn_r _ [41, 42, 43, 10] rfl (by decide +kernel)) ggX3_takePart_X3_go
set_option maxRecDepth 20000 in
theorem gX3_takePart_X3_isName : GoodIn wsX3_takePart (wsV RX3 134 RX3 yX3_isName wsX3_isName) := goodIn_app (goodIn_r _ [7, 8, 9, 10] rfl (by decide +kernel)) ggX3_takePart_X3_isName
set_option maxRecDepth 20000 in
theorem gX3_takePart_X3_refuse : GoodIn wsX3_takePart (wsV RX3 80 RX3 yX3_refuse wsX3_refuse) := goodIn_app (goodIn_r _ [23, 24, 25, 10] rfl (by decide +kernel)) ggX3_takePart_X3_refuse
set_option maxRecDepth 20000 in
theorem gX3_takeTokens_X1_advance : GoodIn wsX3_takeTokens (wsV RX3 71 RX1 yX1_advance wsX1_advance) := goodIn_app (goodIn_r _ [4, 5, 6, 7] rfl (by decide +kernel)) ggX3_takeTokens_X1_advance
set_option maxRecDepth 20000 in
theorem gX3_takeTokens_X3_refuse : GoodIn wsX3_takeTokens (wsV RX3 80 RX3 yX3_refuse wsX3_refuse) := goodIn_app (goodIn_r _ [79, 80, 81, 42] rfl (by decide +kernel)) ggX3_takeTokens_X3_refuse
set_option maxRecDepth 20000 in
theorem gX3_takeTokens_X3_step : GoodIn wsX3_takeTokens (wsV RX3 77 RX3 yX3_step wsX3_step) := goodIn_app (goodIn_r _ [39, 40, 41, 42] rfl (by decide +kernel)) ggX3_takeTokens_X3_step
set_option maxRecDepth 20000 in
theorem gX3_tellHere_X3_beginParts : GoodIn wsX3_tellHere (wsV RX3 157 RX3 yX3_beginParts wsX3_beginParts) := goodIn_app (goodIn_r _ [57, 58, 59, 10] rfl (by decide +kernel)) ggX3_tellHere_X3_beginParts
set_option maxRecDepth 20000 in
theorem gX3_tellHere_X3_go : GoodIn wsX3_tellHere (wsV RX3 89 RX3 yX3_go wsX3_go) := goodIn_app (goodIn_r _ [65, 66, 67, 10] rfl (by decide +kernel)) ggX3_tellHere_X3_go
set_option maxRecDepth 20000 in
theorem gX3_tellHere_X3_isName : GoodIn wsX3_tellHere (wsV RX3 134 RX3 yX3_isName wsX3_isName) := goodIn_app (goodIn_r _ [7, 8, 9, 10] rfl (by decide +kernel)) ggX3_tellHere_X3_isName
set_option maxRecDepth 20000 in
theorem gX3_tellHere_X3_refuse : GoodIn wsX3_tellHere (wsV RX3 80 RX3 yX3_refuse wsX3_refuse) := goodIn_app (goodIn_r _ [23, 24, 25, 10] rfl (by decide +kernel)) ggX3_tellHere_X3_refuse
set_option maxRecDepth 20000 in
theorem gX3_tellHere_X3_tell : GoodIn wsX3_tellHere (wsV RX3 150 RX3 yX3_tell wsX3_tell) := goodIn_app (goodIn_r _ [33, 34, 35, 10] rfl (by decide +kernel)) ggX3_tellHere_X3_tell
set_option maxRecDepth 20000 in
theorem gX3_tellOrDrive_X3_checkDrivers : GoodIn wsX3_tellOrDrive (wsV RX3 161 RX3 yX3_checkDrivers wsX3_checkDrivers) := goodIn_app (goodIn_r _ [44, 45, 46, 9] rfl (by decide +kernel)) ggX3_tellOrDrive_X3_checkDrivers
set_option maxRecDepth 20000 in
theorem gX3_tellOrDrive_X3_go : GoodIn wsX3_tellOrDrive (wsV RX3 89 RX3 yX3_go wsX3_go) := goodIn_app (goodIn_r _ [39, 40, 41, 9] rfl (by decide +kernel)) ggX3_tellOrDrive_X3_go
set_option maxRecDepth 20000 in
theorem gX3_tellOrDrive_X3_refuse : GoodIn wsX3_tellOrDrive (wsV RX3 80 RX3 yX3_refuse wsX3_refuse) := goodIn_app (goodIn_r _ [54, 55, 56, 9] rfl (by decide +kernel)) ggX3_tellOrDrive_X3_refuse
set_option maxRecDepth 20000 in
theorem gX3_tellOrDrive_X3_tell : GoodIn wsX3_tellOrDrive (wsV RX3 150 RX3 yX3_tell wsX3_tell) := goodIn_app (goodIn_r _ [6, 7, 8, 9] rfl (by decide +kernel)) ggX3_tellOrDrive_X3_tell
set_option maxRecDepth 20000 in
theorem gX3_tell_X0_add : GoodIn wsX3_tell (wsV RX3 168 RX0 yX0_add wsX0_add) := goodIn_app (goodIn_r _ [17, 18, 19, 13] rfl (by decide +kernel)) ggX3_tell_X0_add
set_option maxRecDepth 20000 in
theorem gX3_tell_X0_find : GoodIn wsX3_tell (wsV RX3 164 RX0 yX0_find wsX0_find) := goodIn_app (goodIn_r _ [10, 11, 12, 13] rfl (by decide +kernel)) ggX3_tell_X0_find
set_option maxRecDepth 20000 in
theorem gX3_tell_X3_failAt : GoodIn wsX3_tell (wsV RX3 117 RX3 yX3_failAt wsX3_failAt) := goodIn_app (goodIn_r _ [3, 4, 5, 6] rfl (by decide +kernel)) ggX3_tell_X3_failAt
set_option maxRecDepth 20000 in
theorem gX4_arrive_X4_change : GoodIn wsX4_arrive (wsV RX4 59 RX4 yX4_change wsX4_change) := goodIn_app (goodIn_r _ [13, 14, 15, 7] rfl (by decide +kernel)) ggX4_arrive_X4_change
set_option maxRecDepth 20000 in
theorem gX4_arrive_X4_slotAt : GoodIn wsX4_arrive (va_wsS RX4 56 yX4_slotAt wsX4_slotAt) := goodIn_app (goodIn_r _ [5, 6, 7] rfl (by decide +kernel)) ggX4_arrive_X4_slotAt
set_option maxRecDepth 20000 in
theorem gX4_changeBuses_X2_busValue : GoodIn wsX4_changeBuses (va_wsS RX4 79 yX2_busValue wsX2_busValue) := goodIn_app (goodIn_r _ [5, 6, 7] rfl (by decide +kernel)) ggX4_changeBuses_X2_busValue
set_option maxRecDepth 20000 in
theorem gX4_changeBuses_X4_change : GoodIn wsX4_changeBuses (wsV RX4 59 RX4 yX4_change wsX4_change) := goodIn_app (goodIn_r _ [32, 33, 34, 35] rfl (by decide +kernel)) ggX4_changeBuses_X4_change
set_option maxRecDepth 20000 in
theorem gX4_follow_X0_dependsOn : GoodIn wsX4_follow (wsV RX4 68 RX0 yX0_dependsOn wsX0_dependsOn) := goodIn_app (goodIn_r _ [45, 46, 47, 18] rfl (by decide +kernel)) ggX4_follow_X0_dependsOn
set_option maxRecDepth 20000 in
theorem gX4_follow_X4_changeBuses : GoodIn wsX4_follow (wsV RX4 62 RX4 yX4_changeBuses wsX4_changeBuses) := goodIn_app (goodIn_r _ [4, 5, 6, 7] rfl (by decide +kernel)) ggX4_follow_X4_changeBuses
set_option maxRecDepth 20000 in
theorem gX4_follow_X4_lookAt : GoodIn wsX4_follow (wsV RX4 72 RX4 yX4_lookAt wsX4_lookAt) := goodIn_app (goodIn_r _ [50, 51, 52, 7] rfl (by decide +kernel)) ggX4_follow_X4_lookAt
set_option maxRecDepth 20000 in
theorem gX4_lookAt_X2_gateValue : GoodIn wsX4_lookAt (va_wsS RX4 85 yX2_gateValue wsX2_gateValue) := goodIn_app (goodIn_r _ [7, 8, 9] rfl (by decide +kernel)) ggX4_lookAt_X2_gateValue
set_option maxRecDepth 20000 in
theorem gX4_lookAt_X4_slotAt : GoodIn wsX4_lookAt (va_wsS RX4 56 yX4_slotAt wsX4_slotAt) := goodIn_app (goodIn_r _ [36, 37, 38] rfl (by decide +kernel)) ggX4_lookAt_X4_slotAt
set_option maxRecDepth 20000 in
theorem gX4_slotAt_J9_floorMod_7cf53 : GoodIn wsX4_slotAt (va_wsS RX4 50 yJ9_floorMod_7cf53 wsJ9_floorMod_7cf53) := goodIn_app (goodIn_r _ [1, 2, 3] rfl (by decide +kernel)) ggX4_slotAt_J9_floorMod_7cf53
set_option maxRecDepth 20000 in
theorem gX4_turn_X4_arrive : GoodIn wsX4_turn (wsV RX4 47 RX4 yX4_arrive wsX4_arrive) := goodIn_app (goodIn_r _ [82, 83, 84, 6] rfl (by decide +kernel)) ggX4_turn_X4_arrive
set_option maxRecDepth 20000 in
theorem gX4_turn_X4_follow : GoodIn wsX4_turn (wsV RX4 43 RX4 yX4_follow wsX4_follow) := goodIn_app (goodIn_r _ [3, 4, 5, 6] rfl (by decide +kernel)) ggX4_turn_X4_follow
set_option maxRecDepth 20000 in
theorem gX5_busRow_X0_isLow : GoodIn wsX5_busRow (wsV RX5 96 RX0 yX0_isLow wsX0_isLow) := goodIn_app (goodIn_r _ [16, 17, 18, 7] rfl (by decide +kernel)) ggX5_busRow_X0_isLow
set_option maxRecDepth 20000 in
theorem gX5_busRow_X0_part : GoodIn wsX5_busRow (wsV RX5 79 RX0 yX0_part wsX0_part) := goodIn_app (goodIn_r _ [11, 12, 13, 7] rfl (by decide +kernel)) ggX5_busRow_X0_part
set_option maxRecDepth 20000 in
theorem gX5_busRow_X0_size : GoodIn wsX5_busRow (wsV RX5 85 RX0 yX0_size wsX0_size) := goodIn_app (goodIn_r _ [4, 5, 6, 7] rfl (by decide +kernel)) ggX5_busRow_X0_size
set_option maxRecDepth 20000 in
theorem gX5_collect_J13_bitCount_95d88 : GoodIn wsX5_collect (va_wsS RX5 99 yJ13_bitCount_95d88 wsJ13_bitCount_95d88) := goodIn_app (goodIn_r _ [8, 9, 10] rfl (by decide +kernel)) ggX5_collect_J13_bitCount_95d88
set_option maxRecDepth 20000 in
theorem gX5_fillSources_X0_isSource : GoodIn wsX5_fillSources (wsV RX5 51 RX0 yX0_isSource wsX0_isSource) := goodIn_app (goodIn_r _ [4, 5, 6, 7] rfl (by decide +kernel)) ggX5_fillSources_X0_isSource
set_option maxRecDepth 20000 in
theorem gX5_fillSources_X5_freeRow : GoodIn wsX5_fillSources (va_wsS RX5 55 yX5_freeRow wsX5_freeRow) := goodIn_app (goodIn_r _ [19, 20, 21] rfl (by decide +kernel)) ggX5_fillSources_X5_freeRow
set_option maxRecDepth 20000 in
theorem gX5_followOthers_X5_busRow : GoodIn wsX5_followOthers (wsV RX5 73 RX5 yX5_busRow wsX5_busRow) := goodIn_app (goodIn_r _ [31, 32, 33, 8] rfl (by decide +kernel)) ggX5_followOthers_X5_busRow
set_option maxRecDepth 20000 in
theorem gX5_followOthers_X5_gateRow : GoodIn wsX5_followOthers (wsV RX5 69 RX5 yX5_gateRow wsX5_gateRow) := goodIn_app (goodIn_r _ [5, 6, 7, 8] rfl (by decide +kernel)) ggX5_followOthers_X5_gateRow
set_option maxRecDepth 20000 in
theorem gX5_gateRow_X0_part : GoodIn wsX5_gateRow (wsV RX5 79 RX0 yX0_part wsX0_part) := goodIn_app (goodIn_r _ [4, 5, 6, 7] rfl (by decide +kernel)) ggX5_gateRow_X0_part
set_option maxRecDepth 20000 in
theorem gX5_gateRow_X0_size : GoodIn wsX5_gateRow (wsV RX5 85 RX0 yX0_size wsX0_size) := goodIn_app (goodIn_r _ [10, 11, 12, 7] rfl (by decide +kernel)) ggX5_gateRow_X0_size
set_option maxRecDepth 20000 in
theorem gX5_gateRow_X2_isTurned : GoodIn wsX5_gateRow (va_wsS RX5 93 yX2_isTurned wsX2_isTurned) := goodIn_app (goodIn_r _ [20, 21, 22] rfl (by decide +kernel)) ggX5_gateRow_X2_isTurned
set_option maxRecDepth 20000 in
theorem gX5_gateRow_X5_join : GoodIn wsX5_gateRow (va_wsS RX5 89 yX5_join wsX5_join) := goodIn_app (goodIn_r _ [16, 17, 18] rfl (by decide +kernel)) ggX5_gateRow_X5_join
set_option maxRecDepth 20000 in
theorem gX5_goThrough_X5_collect : GoodIn wsX5_goThrough (wsV RX5 39 RX5 yX5_collect wsX5_collect) := goodIn_app (goodIn_r _ [69, 70, 71, 9] rfl (by decide +kernel)) ggX5_goThrough_X5_collect
set_option maxRecDepth 20000 in
theorem gX5_goThrough_X5_fillSources : GoodIn wsX5_goThrough (wsV RX5 31 RX5 yX5_fillSources wsX5_fillSources) := goodIn_app (goodIn_r _ [6, 7, 8, 9] rfl (by decide +kernel)) ggX5_goThrough_X5_fillSources
set_option maxRecDepth 20000 in
theorem gX5_goThrough_X5_followOthers : GoodIn wsX5_goThrough (wsV RX5 35 RX5 yX5_followOthers wsX5_followOthers) := goodIn_app (goodIn_r _ [32, 33, 34, 9] rfl (by decide +kernel)) ggX5_goThrough_X5_followOthers
set_option maxRecDepth 20000 in
theorem gX5_sharpValue_X5_isEver : GoodIn wsX5_sharpValue (wsV RX5 42 RX5 yX5_isEver wsX5_isEver) := goodIn_app (goodIn_r _ [2, 3, 4, 5] rfl (by decide +kernel)) ggX5_sharpValue_X5_isEver
set_option maxRecDepth 20000 in
theorem gX6_about_X4_quiet : GoodIn wsX6_about (wsV RX6 158 RX4 yX4_quiet wsX4_quiet) := goodIn_app (goodIn_r _ [8, 9, 10, 11] rfl (by decide +kernel)) ggX6_about_X4_quiet
set_option maxRecDepth 20000 in
theorem gX6_about_X6_countFree : GoodIn wsX6_about (wsV RX6 115 RX6 yX6_countFree wsX6_countFree) := goodIn_app (goodIn_r _ [15, 16, 17, 18] rfl (by decide +kernel)) ggX6_about_X6_countFree
set_option maxRecDepth 20000 in
theorem gX6_countFree_X0_isSource : GoodIn wsX6_countFree (wsV RX6 176 RX0 yX0_isSource wsX0_isSource) := goodIn_app (goodIn_r _ [4, 5, 6, 7] rfl (by decide +kernel)) ggX6_countFree_X0_isSource
set_option maxRecDepth 20000 in
theorem gX6_feed_X6_addToTape : GoodIn wsX6_feed (wsV RX6 58 RX6 yX6_addToTape wsX6_addToTape) := goodIn_app (goodIn_r _ [2, 3, 4, 5] rfl (by decide +kernel)) ggX6_feed_X6_addToTape
set_option maxRecDepth 20000 in
theorem gX6_flicker_X0_isKind : GoodIn wsX6_flicker (wsV RX6 105 RX0 yX0_isKind wsX0_isKind) := goodIn_app (goodIn_r _ [6, 7, 8, 9] rfl (by decide +kernel)) ggX6_flicker_X0_isKind
set_option maxRecDepth 20000 in
theorem gX6_flicker_X6_settleWith : GoodIn wsX6_flicker (wsV RX6 132 RX6 yX6_settleWith wsX6_settleWith) := goodIn_app (goodIn_r _ [17, 18, 19, 20] rfl (by decide +kernel)) ggX6_flicker_X6_settleWith
set_option maxRecDepth 20000 in
theorem gX6_gainsaid_X5_isEver : GoodIn wsX6_gainsaid (wsV RX6 129 RX5 yX5_isEver wsX5_isEver) := goodIn_app (goodIn_r _ [99, 100, 101, 33] rfl (by decide +kernel)) ggX6_gainsaid_X5_isEver
set_option maxRecDepth 20000 in
theorem gX6_gainsaid_X6_goThroughWorlds : GoodIn wsX6_gainsaid (wsV RX6 119 RX6 yX6_goThroughWorlds wsX6_goThroughWorlds) := goodIn_app (goodIn_r _ [5, 6, 7, 8] rfl (by decide +kernel)) ggX6_gainsaid_X6_goThroughWorlds
set_option maxRecDepth 20000 in
theorem gX6_goThroughWorlds_X5_goThrough : GoodIn wsX6_goThroughWorlds (wsV RX6 179 RX5 yX5_goThrough wsX5_goThrough) := goodIn_app (goodIn_r _ [26, 27, 28, 29] rfl (by decide +kernel)) ggX6_goThroughWorlds_X5_goThrough
set_option maxRecDepth 20000 in
theorem gX6_goThroughWorlds_X6_countFree : GoodIn wsX6_goThroughWorlds (wsV RX6 115 RX6 yX6_countFree wsX6_countFree) := goodIn_app (goodIn_r _ [5, 6, 7, 8] rfl (by decide +kernel)) ggX6_goThroughWorlds_X6_countFree
set_option maxRecDepth 20000 in
theorem gX6_legal_X6_goThroughWorlds : GoodIn wsX6_legal (wsV RX6 119 RX6 yX6_goThroughWorlds wsX6_goThroughWorlds) := goodIn_app (goodIn_r _ [3, 4, 5, 6] rfl (by decide +kernel)) ggX6_legal_X6_goThroughWorlds
set_option maxRecDepth 20000 in
theorem gX6_load_X0_isKind : GoodIn wsX6_load (wsV RX6 105 RX0 yX0_isKind wsX0_isKind) := goodIn_app (goodIn_r _ [3, 4, 5, 6] rfl (by decide +kernel)) ggX6_load_X0_isKind
set_option maxRecDepth 20000 in
theorem gX6_load_X6_settleValues : GoodIn wsX6_load (wsV RX6 73 RX6 yX6_settleValues wsX6_settleValues) := goodIn_app (goodIn_r _ [14, 15, 16, 17] rfl (by decide +kernel)) ggX6_load_X6_settleValues
set_option maxRecDepth 20000 in
theorem gX6_named_X0_find : GoodIn wsX6_named (wsV RX6 84 RX0 yX0_find wsX0_find) := goodIn_app (goodIn_r _ [3, 4, 5, 6] rfl (by decide +kernel)) ggX6_named_X0_find
set_option maxRecDepth 20000 in
theorem gX6_node_X0_has : GoodIn wsX6_node (wsV RX6 88 RX0 yX0_has wsX0_has) := goodIn_app (goodIn_r _ [5, 6, 7, 8] rfl (by decide +kernel)) ggX6_node_X0_has
set_option maxRecDepth 20000 in
theorem gX6_node_X0_size : GoodIn wsX6_node (wsV RX6 95 RX0 yX0_size wsX0_size) := goodIn_app (goodIn_r _ [11, 12, 13, 8] rfl (by decide +kernel)) ggX6_node_X0_size
set_option maxRecDepth 20000 in
theorem gX6_on_X0_has : GoodIn wsX6_on (wsV RX6 88 RX0 yX0_has wsX0_has) := goodIn_app (goodIn_r _ [5, 6, 7, 8] rfl (by decide +kernel)) ggX6_on_X0_has
set_option maxRecDepth 20000 in
theorem gX6_put_X0_isKind : GoodIn wsX6_put (wsV RX6 105 RX0 yX0_isKind wsX0_isKind) := goodIn_app (goodIn_r _ [4, 5, 6, 7] rfl (by decide +kernel)) ggX6_put_X0_isKind
set_option maxRecDepth 20000 in
theorem gX6_put_X4_change : GoodIn wsX6_put (wsV RX6 140 RX4 yX4_change wsX4_change) := goodIn_app (goodIn_r _ [15, 16, 17, 18] rfl (by decide +kernel)) ggX6_put_X4_change
set_option maxRecDepth 20000 in
theorem gX6_read_X3_readInto : GoodIn wsX6_read (wsV RX6 62 RX3 yX3_readInto wsX3_readInto) := goodIn_app (goodIn_r _ [9, 10, 11, 12] rfl (by decide +kernel)) ggX6_read_X3_readInto
set_option maxRecDepth 20000 in
theorem gX6_read_X6_settleValues : GoodIn wsX6_read (wsV RX6 73 RX6 yX6_settleValues wsX6_settleValues) := goodIn_app (goodIn_r _ [257, 258, 259, 260] rfl (by decide +kernel)) ggX6_read_X6_settleValues
set_option maxRecDepth 20000 in
theorem gX6_run_X4_turn : GoodIn wsX6_run (wsV RX6 144 RX4 yX4_turn wsX4_turn) := goodIn_app (goodIn_r _ [4, 5, 6, 7] rfl (by decide +kernel)) ggX6_run_X4_turn
set_option maxRecDepth 20000 in
theorem gX6_set_X0_isKind : GoodIn wsX6_set (wsV RX6 105 RX0 yX0_isKind wsX0_isKind) := goodIn_app (goodIn_r _ [3, 4, 5, 6] rfl (by decide +kernel)) ggX6_set_X0_isKind
set_option maxRecDepth 20000 in
theorem gX6_set_X6_settleValues : GoodIn wsX6_set (wsV RX6 73 RX6 yX6_settleValues wsX6_settleValues) := goodIn_app (goodIn_r _ [14, 15, 16, 17] rfl (by decide +kernel)) ggX6_set_X6_settleValues
set_option maxRecDepth 20000 in
theorem gX6_settleValues_X2_settle : GoodIn wsX6_settleValues (va_wsS RX6 164 yX2_settle wsX2_settle) := goodIn_app (goodIn_r _ [4, 5, 6] rfl (by decide +kernel)) ggX6_settleValues_X2_settle
set_option maxRecDepth 20000 in
theorem gX6_settleWith_X2_settle : GoodIn wsX6_settleWith (va_wsS RX6 164 yX2_settle wsX2_settle) := goodIn_app (goodIn_r _ [7, 8, 9] rfl (by decide +kernel)) ggX6_settleWith_X2_settle
set_option maxRecDepth 20000 in
theorem gX6_sharp_X0_has : GoodIn wsX6_sharp (wsV RX6 88 RX0 yX0_has wsX0_has) := goodIn_app (goodIn_r _ [99, 26, 27, 18] rfl (by decide +kernel)) ggX6_sharp_X0_has
set_option maxRecDepth 20000 in
theorem gX6_sharp_X5_sharpValue : GoodIn wsX6_sharp (wsV RX6 126 RX5 yX5_sharpValue wsX5_sharpValue) := goodIn_app (goodIn_r _ [100, 101, 102, 33] rfl (by decide +kernel)) ggX6_sharp_X5_sharpValue
set_option maxRecDepth 20000 in
theorem gX6_sharp_X6_goThroughWorlds : GoodIn wsX6_sharp (wsV RX6 119 RX6 yX6_goThroughWorlds wsX6_goThroughWorlds) := goodIn_app (goodIn_r _ [3, 4, 5, 6] rfl (by decide +kernel)) ggX6_sharp_X6_goThroughWorlds
set_option maxRecDepth 20000 in
theorem gX6_tick_X2_afterTick : GoodIn wsX6_tick (va_wsS RX6 109 yX2_afterTick wsX2_afterTick) := goodIn_app (goodIn_r _ [6, 7, 8] rfl (by decide +kernel)) ggX6_tick_X2_afterTick
set_option maxRecDepth 20000 in
theorem gX6_tick_X6_settleValues : GoodIn wsX6_tick (wsV RX6 73 RX6 yX6_settleValues wsX6_settleValues) := goodIn_app (goodIn_r _ [25, 26, 27, 28] rfl (by decide +kernel)) ggX6_tick_X6_settleValues
set_option maxRecDepth 20000 in
theorem gX6_value_X0_has : GoodIn wsX6_value (wsV RX6 88 RX0 yX0_has wsX0_has) := goodIn_app (goodIn_r _ [3, 4, 5, 6] rfl (by decide +kernel)) ggX6_value_X0_has
set_option maxRecDepth 20000 in
theorem gX6_wave_X0_has : GoodIn wsX6_wave (wsV RX6 88 RX0 yX0_has wsX0_has) := goodIn_app (goodIn_r _ [4, 5, 6, 7] rfl (by decide +kernel)) ggX6_wave_X0_has
set_option maxRecDepth 20000 in
theorem gX6_wave_X4_changeOf : GoodIn wsX6_wave (wsV RX6 149 RX4 yX4_changeOf wsX4_changeOf) := goodIn_app (goodIn_r _ [10, 11, 12, 13] rfl (by decide +kernel)) ggX6_wave_X4_changeOf
set_option maxRecDepth 20000 in
theorem gX6_wheel_X4_begin : GoodIn wsX6_wheel (wsV RX6 136 RX4 yX4_begin wsX4_begin) := goodIn_app (goodIn_r _ [5, 6, 7, 8] rfl (by decide +kernel)) ggX6_wheel_X4_begin
set_option maxRecDepth 20000 in
theorem gX6_worlds_X6_countFree : GoodIn wsX6_worlds (wsV RX6 115 RX6 yX6_countFree wsX6_countFree) := goodIn_app (goodIn_r _ [1, 2, 3, 4] rfl (by decide +kernel)) ggX6_worlds_X6_countFree
