set_option maxRecDepth 20000 in
theorem gX6_feed_X6_addToTape : GoodIn wsX6_feed (wsV RX6 58 RX6 yX6_addToTape wsX6_addToTape) := goodIn_app (goodIn_r _ [2, 3, 4, 5] rfl (by decide +kernel)) ggX6_feed_X6_addToTape
set_option maxRecDepth 20000 in
theorem gX7_hangsOnItself_X7_lead : GoodIn wsX7_hangsOnItself (wsV RX7 246 RX7 yX7_lead wsX7_lead) := goodIn_app (goodIn_r _ [3, 4, 5, 6] rfl (by decide +kernel)) ggX7_hangsOnItself_X7_lead
set_option maxRecDepth 20000 in
theorem gX7_lead_X7_hangs : GoodIn wsX7_lead (wsV RX7 240 RX7 yX7_hangs wsX7_hangs) := goodIn_app (goodIn_r _ [4, 5, 6, 7] rfl (by decide +kernel)) ggX7_lead_X7_hangs
set_option maxRecDepth 20000 in
theorem gX7_levels_X7_fails : GoodIn wsX7_levels (wsV RX7 172 RX7 yX7_fails wsX7_fails) := goodIn_app (goodIn_r _ [27, 28, 29, 9] rfl (by decide +kernel)) ggX7_levels_X7_fails
set_option maxRecDepth 20000 in
theorem gX7_levels_X7_hangs : GoodIn wsX7_levels (wsV RX7 240 RX7 yX7_hangs wsX7_hangs) := goodIn_app (goodIn_r _ [6, 7, 8, 9] rfl (by decide +kernel)) ggX7_levels_X7_hangs
set_option maxRecDepth 20000 in
theorem gX7_levels_X7_hangsOnItself : GoodIn wsX7_levels (wsV RX7 243 RX7 yX7_hangsOnItself wsX7_hangsOnItself) := goodIn_app (goodIn_r _ [18, 19, 20, 9] rfl (by decide +kernel)) ggX7_levels_X7_hangsOnItself
set_option maxRecDepth 20000 in
theorem gX7_levels_X7_isGood : GoodIn wsX7_levels (wsV RX7 191 RX7 yX7_isGood wsX7_isGood) := goodIn_app (goodIn_r _ [13, 14, 15, 9] rfl (by decide +kernel)) ggX7_levels_X7_isGood
