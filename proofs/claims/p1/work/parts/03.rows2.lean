set_option maxRecDepth 20000 in
theorem gX0_isKind_X0_has : GoodIn wsX0_isKind (wsV RX0 53 RX0 yX0_has wsX0_has) := goodIn_app (goodIn_r _ [2, 3, 4, 5] rfl (by decide +kernel)) ggX0_isKind_X0_has
theorem gX3_init_X1_init_n17 : GoodIn wsX3_init (wsX1_init) := ggX3_init_X1_init
set_option maxRecDepth 20000 in
theorem gX3_readInto_X0_arrange : GoodIn wsX3_readInto (wsV RX3 65 RX0 yX0_arrange wsX0_arrange) := goodIn_app (goodIn_r _ [228, 229, 230, 9] rfl (by decide +kernel)) ggX3_readInto_X0_arrange
set_option maxRecDepth 20000 in
theorem gX3_readInto_X0_clear : GoodIn wsX3_readInto (wsV RX3 40 RX0 yX0_clear wsX0_clear) := goodIn_app (goodIn_r _ [6, 7, 8, 9] rfl (by decide +kernel)) ggX3_readInto_X0_clear
set_option maxRecDepth 20000 in
theorem gX3_readInto_X1_begin : GoodIn wsX3_readInto (wsV RX3 51 RX1 yX1_begin wsX1_begin) := goodIn_app (goodIn_r _ [13, 14, 15, 16] rfl (by decide +kernel)) ggX3_readInto_X1_begin
set_option maxRecDepth 20000 in
theorem gX3_readInto_X3_checkLoops : GoodIn wsX3_readInto (wsV RX3 62 RX3 yX3_checkLoops wsX3_checkLoops) := goodIn_app (goodIn_r _ [217, 218, 219, 28] rfl (by decide +kernel)) ggX3_readInto_X3_checkLoops
set_option maxRecDepth 20000 in
theorem gX3_readInto_X3_linkUses : GoodIn wsX3_readInto (wsV RX3 59 RX3 yX3_linkUses wsX3_linkUses) := goodIn_app (goodIn_r _ [195, 196, 197, 28] rfl (by decide +kernel)) ggX3_readInto_X3_linkUses
set_option maxRecDepth 20000 in
theorem gX3_readInto_X3_takeTokens : GoodIn wsX3_readInto (wsV RX3 55 RX3 yX3_takeTokens wsX3_takeTokens) := goodIn_app (goodIn_r _ [25, 26, 27, 28] rfl (by decide +kernel)) ggX3_readInto_X3_takeTokens
set_option maxRecDepth 20000 in
theorem gX3_takeTokens_X1_advance : GoodIn wsX3_takeTokens (wsV RX3 71 RX1 yX1_advance wsX1_advance) := goodIn_app (goodIn_r _ [4, 5, 6, 7] rfl (by decide +kernel)) ggX3_takeTokens_X1_advance
set_option maxRecDepth 20000 in
theorem gX5_collect_J13_bitCount_95d88 : GoodIn wsX5_collect (va_wsS RX5 99 yJ13_bitCount_95d88 wsJ13_bitCount_95d88) := goodIn_app (goodIn_r _ [8, 9, 10] rfl (by decide +kernel)) ggX5_collect_J13_bitCount_95d88
set_option maxRecDepth 20000 in
theorem gX5_goThrough_X5_collect : GoodIn wsX5_goThrough (wsV RX5 39 RX5 yX5_collect wsX5_collect) := goodIn_app (goodIn_r _ [69, 70, 71, 9] rfl (by decide +kernel)) ggX5_goThrough_X5_collect
set_option maxRecDepth 20000 in
theorem gX5_goThrough_X5_fillSources : GoodIn wsX5_goThrough (wsV RX5 31 RX5 yX5_fillSources wsX5_fillSources) := goodIn_app (goodIn_r _ [6, 7, 8, 9] rfl (by decide +kernel)) ggX5_goThrough_X5_fillSources
set_option maxRecDepth 20000 in
theorem gX5_goThrough_X5_followOthers : GoodIn wsX5_goThrough (wsV RX5 35 RX5 yX5_followOthers wsX5_followOthers) := goodIn_app (goodIn_r _ [32, 33, 34, 9] rfl (by decide +kernel)) ggX5_goThrough_X5_followOthers
set_option maxRecDepth 20000 in
theorem gX6_about_X6_countFree : GoodIn wsX6_about (wsV RX6 115 RX6 yX6_countFree wsX6_countFree) := goodIn_app (goodIn_r _ [15, 16, 17, 18] rfl (by decide +kernel)) ggX6_about_X6_countFree
set_option maxRecDepth 20000 in
theorem gX6_feed_X6_addToTape : GoodIn wsX6_feed (wsV RX6 58 RX6 yX6_addToTape wsX6_addToTape) := goodIn_app (goodIn_r _ [2, 3, 4, 5] rfl (by decide +kernel)) ggX6_feed_X6_addToTape
set_option maxRecDepth 20000 in
theorem gX6_flicker_X0_isKind : GoodIn wsX6_flicker (wsV RX6 105 RX0 yX0_isKind wsX0_isKind) := goodIn_app (goodIn_r _ [6, 7, 8, 9] rfl (by decide +kernel)) ggX6_flicker_X0_isKind
set_option maxRecDepth 20000 in
theorem gX6_gainsaid_X6_goThroughWorlds : GoodIn wsX6_gainsaid (wsV RX6 119 RX6 yX6_goThroughWorlds wsX6_goThroughWorlds) := goodIn_app (goodIn_r _ [5, 6, 7, 8] rfl (by decide +kernel)) ggX6_gainsaid_X6_goThroughWorlds
set_option maxRecDepth 20000 in
theorem gX6_goThroughWorlds_X5_goThrough : GoodIn wsX6_goThroughWorlds (wsV RX6 179 RX5 yX5_goThrough wsX5_goThrough) := goodIn_app (goodIn_r _ [26, 27, 28, 29] rfl (by decide +kernel)) ggX6_goThroughWorlds_X5_goThrough
set_option maxRecDepth 20000 in
theorem gX6_goThroughWorlds_X6_countFree : GoodIn wsX6_goThroughWorlds (wsV RX6 115 RX6 yX6_countFree wsX6_countFree) := goodIn_app (goodIn_r _ [5, 6, 7, 8] rfl (by decide +kernel)) ggX6_goThroughWorlds_X6_countFree
theorem gX6_init_X0_init_n22 : GoodIn wsX6_init (wsX0_init) := ggX6_init_X0_init
theorem gX6_init_X3_init_n15 : GoodIn wsX6_init (wsX3_init) := ggX6_init_X3_init
theorem gX6_init_X4_init_n49 : GoodIn wsX6_init (wsX4_init) := ggX6_init_X4_init
theorem gX6_init_X5_init_n42 : GoodIn wsX6_init (wsX5_init) := ggX6_init_X5_init
set_option maxRecDepth 20000 in
theorem gX6_legal_X6_goThroughWorlds : GoodIn wsX6_legal (wsV RX6 119 RX6 yX6_goThroughWorlds wsX6_goThroughWorlds) := goodIn_app (goodIn_r _ [3, 4, 5, 6] rfl (by decide +kernel)) ggX6_legal_X6_goThroughWorlds
set_option maxRecDepth 20000 in
theorem gX6_load_X0_isKind : GoodIn wsX6_load (wsV RX6 105 RX0 yX0_isKind wsX0_isKind) := goodIn_app (goodIn_r _ [3, 4, 5, 6] rfl (by decide +kernel)) ggX6_load_X0_isKind
set_option maxRecDepth 20000 in
theorem gX6_named_X0_find : GoodIn wsX6_named (wsV RX6 84 RX0 yX0_find wsX0_find) := goodIn_app (goodIn_r _ [3, 4, 5, 6] rfl (by decide +kernel)) ggX6_named_X0_find
set_option maxRecDepth 20000 in
theorem gX6_node_X0_has : GoodIn wsX6_node (wsV RX6 88 RX0 yX0_has wsX0_has) := goodIn_app (goodIn_r _ [5, 6, 7, 8] rfl (by decide +kernel)) ggX6_node_X0_has
set_option maxRecDepth 20000 in
theorem gX6_read_X3_readInto : GoodIn wsX6_read (wsV RX6 62 RX3 yX3_readInto wsX3_readInto) := goodIn_app (goodIn_r _ [9, 10, 11, 12] rfl (by decide +kernel)) ggX6_read_X3_readInto
set_option maxRecDepth 20000 in
theorem gX6_read_X6_settleValues : GoodIn wsX6_read (wsV RX6 73 RX6 yX6_settleValues wsX6_settleValues) := goodIn_app (goodIn_r _ [257, 258, 259, 260] rfl (by decide +kernel)) ggX6_read_X6_settleValues
set_option maxRecDepth 20000 in
theorem gX6_set_X0_isKind : GoodIn wsX6_set (wsV RX6 105 RX0 yX0_isKind wsX0_isKind) := goodIn_app (goodIn_r _ [3, 4, 5, 6] rfl (by decide +kernel)) ggX6_set_X0_isKind
set_option maxRecDepth 20000 in
theorem gX6_settleValues_X2_settle : GoodIn wsX6_settleValues (va_wsS RX6 164 yX2_settle wsX2_settle) := goodIn_app (goodIn_r _ [4, 5, 6] rfl (by decide +kernel)) ggX6_settleValues_X2_settle
set_option maxRecDepth 20000 in
theorem gX6_sharp_X0_has : GoodIn wsX6_sharp (wsV RX6 88 RX0 yX0_has wsX0_has) := goodIn_app (goodIn_r _ [99, 26, 27, 18] rfl (by decide +kernel)) ggX6_sharp_X0_has
set_option maxRecDepth 20000 in
theorem gX6_sharp_X6_goThroughWorlds : GoodIn wsX6_sharp (wsV RX6 119 RX6 yX6_goThroughWorlds wsX6_goThroughWorlds) := goodIn_app (goodIn_r _ [3, 4, 5, 6] rfl (by decide +kernel)) ggX6_sharp_X6_goThroughWorlds
set_option maxRecDepth 20000 in
theorem gX6_tick_X6_settleValues : GoodIn wsX6_tick (wsV RX6 73 RX6 yX6_settleValues wsX6_settleValues) := goodIn_app (goodIn_r _ [25, 26, 27, 28] rfl (by decide +kernel)) ggX6_tick_X6_settleValues
set_option maxRecDepth 20000 in
theorem gX6_value_X0_has : GoodIn wsX6_value (wsV RX6 88 RX0 yX0_has wsX0_has) := goodIn_app (goodIn_r _ [3, 4, 5, 6] rfl (by decide +kernel)) ggX6_value_X0_has
set_option maxRecDepth 20000 in
theorem gX6_wheel_X4_begin : GoodIn wsX6_wheel (wsV RX6 136 RX4 yX4_begin wsX4_begin) := goodIn_app (goodIn_r _ [5, 6, 7, 8] rfl (by decide +kernel)) ggX6_wheel_X4_begin
set_option maxRecDepth 20000 in
theorem gX6_worlds_X6_countFree : GoodIn wsX6_worlds (wsV RX6 115 RX6 yX6_countFree wsX6_countFree) := goodIn_app (goodIn_r _ [1, 2, 3, 4] rfl (by decide +kernel)) ggX6_worlds_X6_countFree
set_option maxRecDepth 20000 in
theorem gX7_about_X7_find : GoodIn wsX7_about (wsV RX7 310 RX7 yX7_find wsX7_find) := goodIn_app (goodIn_r _ [7, 8, 9, 10] rfl (by decide +kernel)) ggX7_about_X7_find
set_option maxRecDepth 20000 in
theorem gX7_flicker_X7_isNode : GoodIn wsX7_flicker (wsV RX7 301 RX7 yX7_isNode wsX7_isNode) := goodIn_app (goodIn_r _ [6, 7, 8, 9] rfl (by decide +kernel)) ggX7_flicker_X7_isNode
set_option maxRecDepth 20000 in
theorem gX7_gainsaid_X7_find : GoodIn wsX7_gainsaid (wsV RX7 310 RX7 yX7_find wsX7_find) := goodIn_app (goodIn_r _ [5, 6, 7, 8] rfl (by decide +kernel)) ggX7_gainsaid_X7_find
set_option maxRecDepth 20000 in
theorem gX7_gainsaid_X7_goes : GoodIn wsX7_gainsaid (wsV RX7 313 RX7 yX7_goes wsX7_goes) := goodIn_app (goodIn_r _ [18, 19, 20, 8] rfl (by decide +kernel)) ggX7_gainsaid_X7_goes
set_option maxRecDepth 20000 in
theorem gX7_legal_X7_find : GoodIn wsX7_legal (wsV RX7 310 RX7 yX7_find wsX7_find) := goodIn_app (goodIn_r _ [2, 3, 4, 5] rfl (by decide +kernel)) ggX7_legal_X7_find
set_option maxRecDepth 20000 in
theorem gX7_legal_X7_goes : GoodIn wsX7_legal (wsV RX7 313 RX7 yX7_goes wsX7_goes) := goodIn_app (goodIn_r _ [16, 17, 18, 5] rfl (by decide +kernel)) ggX7_legal_X7_goes
set_option maxRecDepth 20000 in
theorem gX7_load_X7_isNode : GoodIn wsX7_load (wsV RX7 301 RX7 yX7_isNode wsX7_isNode) := goodIn_app (goodIn_r _ [2, 3, 4, 5] rfl (by decide +kernel)) ggX7_load_X7_isNode
set_option maxRecDepth 20000 in
theorem gX7_named_X7_plain : GoodIn wsX7_named (va_wsS RX7 297 yX7_plain wsX7_plain) := goodIn_app (goodIn_r _ [4, 5, 6] rfl (by decide +kernel)) ggX7_named_X7_plain
set_option maxRecDepth 20000 in
theorem gX7_next_X7_sign : GoodIn wsX7_next (wsV RX7 137 RX7 yX7_sign wsX7_sign) := goodIn_app (goodIn_r _ [12, 13, 14, 15] rfl (by decide +kernel)) ggX7_next_X7_sign
set_option maxRecDepth 20000 in
theorem gX7_node_X7_isNode : GoodIn wsX7_node (wsV RX7 301 RX7 yX7_isNode wsX7_isNode) := goodIn_app (goodIn_r _ [6, 7, 8, 9] rfl (by decide +kernel)) ggX7_node_X7_isNode
set_option maxRecDepth 20000 in
theorem gX7_read_X7_isGood : GoodIn wsX7_read (wsV RX7 191 RX7 yX7_isGood wsX7_isGood) := goodIn_app (goodIn_r _ [52, 53, 54, 20] rfl (by decide +kernel)) ggX7_read_X7_isGood
set_option maxRecDepth 20000 in
theorem gX7_read_X7_levels : GoodIn wsX7_read (wsV RX7 258 RX7 yX7_levels wsX7_levels) := goodIn_app (goodIn_r _ [136, 137, 138, 20] rfl (by decide +kernel)) ggX7_read_X7_levels
set_option maxRecDepth 20000 in
theorem gX7_read_X7_next : GoodIn wsX7_read (wsV RX7 179 RX7 yX7_next wsX7_next) := goodIn_app (goodIn_r _ [17, 18, 19, 20] rfl (by decide +kernel)) ggX7_read_X7_next
set_option maxRecDepth 20000 in
theorem gX7_read_X7_resolve : GoodIn wsX7_read (wsV RX7 255 RX7 yX7_resolve wsX7_resolve) := goodIn_app (goodIn_r _ [126, 127, 128, 20] rfl (by decide +kernel)) ggX7_read_X7_resolve
set_option maxRecDepth 20000 in
theorem gX7_read_X7_settle : GoodIn wsX7_read (wsV RX7 274 RX7 yX7_settle wsX7_settle) := goodIn_app (goodIn_r _ [158, 159, 160, 20] rfl (by decide +kernel)) ggX7_read_X7_settle
set_option maxRecDepth 20000 in
theorem gX7_resolve_X7_isGood : GoodIn wsX7_resolve (wsV RX7 191 RX7 yX7_isGood wsX7_isGood) := goodIn_app (goodIn_r _ [14, 15, 16, 17] rfl (by decide +kernel)) ggX7_resolve_X7_isGood
set_option maxRecDepth 20000 in
theorem gX7_set_X7_isNode : GoodIn wsX7_set (wsV RX7 301 RX7 yX7_isNode wsX7_isNode) := goodIn_app (goodIn_r _ [2, 3, 4, 5] rfl (by decide +kernel)) ggX7_set_X7_isNode
set_option maxRecDepth 20000 in
theorem gX7_settle_X7_follow : GoodIn wsX7_settle (wsV RX7 291 RX7 yX7_follow wsX7_follow) := goodIn_app (goodIn_r _ [4, 5, 6, 7] rfl (by decide +kernel)) ggX7_settle_X7_follow
set_option maxRecDepth 20000 in
theorem gX7_sharp_X7_isNode : GoodIn wsX7_sharp (wsV RX7 301 RX7 yX7_isNode wsX7_isNode) := goodIn_app (goodIn_r _ [3, 4, 5, 6] rfl (by decide +kernel)) ggX7_sharp_X7_isNode
set_option maxRecDepth 20000 in
theorem gX7_tick_X7_settle : GoodIn wsX7_tick (wsV RX7 274 RX7 yX7_settle wsX7_settle) := goodIn_app (goodIn_r _ [20, 21, 22, 9] rfl (by decide +kernel)) ggX7_tick_X7_settle
set_option maxRecDepth 20000 in
theorem gX7_value_X7_isNode : GoodIn wsX7_value (wsV RX7 301 RX7 yX7_isNode wsX7_isNode) := goodIn_app (goodIn_r _ [2, 3, 4, 5] rfl (by decide +kernel)) ggX7_value_X7_isNode
set_option maxRecDepth 20000 in
theorem gX7_worlds_X7_find : GoodIn wsX7_worlds (wsV RX7 310 RX7 yX7_find wsX7_find) := goodIn_app (goodIn_r _ [2, 3, 4, 5] rfl (by decide +kernel)) ggX7_worlds_X7_find
