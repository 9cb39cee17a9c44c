set_option maxRecDepth 20000 in
theorem gX7_about_X7_find : GoodIn wsX7_about (wsV RX7 310 RX7 yX7_find wsX7_find) := goodIn_app (goodIn_r _ [7, 8, 9, 10] rfl (by decide +kernel)) ggX7_about_X7_find
set_option maxRecDepth 20000 in
theorem gX7_about_X7_isQuiet : GoodIn wsX7_about (wsV RX7 332 RX7 yX7_isQuiet wsX7_isQuiet) := goodIn_app (goodIn_r _ [20, 21, 22, 10] rfl (by decide +kernel)) ggX7_about_X7_isQuiet
set_option maxRecDepth 20000 in
theorem gX7_ask_X7_isGood : GoodIn wsX7_ask (wsV RX7 191 RX7 yX7_isGood wsX7_isGood) := goodIn_app (goodIn_r _ [19, 20, 21, 11] rfl (by decide +kernel)) ggX7_ask_X7_isGood
set_option maxRecDepth 20000 in
theorem gX7_ask_X7_next : GoodIn wsX7_ask (wsV RX7 179 RX7 yX7_next wsX7_next) := goodIn_app (goodIn_r _ [23, 24, 25, 11] rfl (by decide +kernel)) ggX7_ask_X7_next
set_option maxRecDepth 20000 in
theorem gX7_ask_X7_wrong : GoodIn wsX7_ask (wsV RX7 182 RX7 yX7_wrong wsX7_wrong) := goodIn_app (goodIn_r _ [8, 9, 10, 11] rfl (by decide +kernel)) ggX7_ask_X7_wrong
set_option maxRecDepth 20000 in
theorem gX7_bus_X7_in : GoodIn wsX7_bus (wsV RX7 277 RX7 yX7_in wsX7_in) := goodIn_app (goodIn_r _ [4, 5, 6, 7] rfl (by decide +kernel)) ggX7_bus_X7_in
set_option maxRecDepth 20000 in
theorem gX7_bus_X7_taken : GoodIn wsX7_bus (va_wsS RX7 281 yX7_taken wsX7_taken) := goodIn_app (goodIn_r _ [10, 11, 7] rfl (by decide +kernel)) ggX7_bus_X7_taken
set_option maxRecDepth 20000 in
theorem gX7_drives_X7_in : GoodIn wsX7_drives (wsV RX7 277 RX7 yX7_in wsX7_in) := goodIn_app (goodIn_r _ [5, 6, 7, 8] rfl (by decide +kernel)) ggX7_drives_X7_in
set_option maxRecDepth 20000 in
theorem gX7_find_X7_kind : GoodIn wsX7_find (wsV RX7 271 RX7 yX7_kind wsX7_kind) := goodIn_app (goodIn_r _ [5, 6, 7, 8] rfl (by decide +kernel)) ggX7_find_X7_kind
set_option maxRecDepth 20000 in
theorem gX7_flicker_X7_follow : GoodIn wsX7_flicker (wsV RX7 291 RX7 yX7_follow wsX7_follow) := goodIn_app (goodIn_r _ [17, 18, 19, 9] rfl (by decide +kernel)) ggX7_flicker_X7_follow
set_option maxRecDepth 20000 in
theorem gX7_flicker_X7_isNode : GoodIn wsX7_flicker (wsV RX7 301 RX7 yX7_isNode wsX7_isNode) := goodIn_app (goodIn_r _ [6, 7, 8, 9] rfl (by decide +kernel)) ggX7_flicker_X7_isNode
set_option maxRecDepth 20000 in
theorem gX7_flicker_X7_kind : GoodIn wsX7_flicker (wsV RX7 271 RX7 yX7_kind wsX7_kind) := goodIn_app (goodIn_r _ [11, 12, 13, 9] rfl (by decide +kernel)) ggX7_flicker_X7_kind
set_option maxRecDepth 20000 in
theorem gX7_follow_X7_bus : GoodIn wsX7_follow (wsV RX7 288 RX7 yX7_bus wsX7_bus) := goodIn_app (goodIn_r _ [24, 25, 26, 7] rfl (by decide +kernel)) ggX7_follow_X7_bus
set_option maxRecDepth 20000 in
theorem gX7_follow_X7_gate : GoodIn wsX7_follow (wsV RX7 284 RX7 yX7_gate wsX7_gate) := goodIn_app (goodIn_r _ [10, 11, 12, 7] rfl (by decide +kernel)) ggX7_follow_X7_gate
set_option maxRecDepth 20000 in
theorem gX7_follow_X7_kind : GoodIn wsX7_follow (wsV RX7 271 RX7 yX7_kind wsX7_kind) := goodIn_app (goodIn_r _ [4, 5, 6, 7] rfl (by decide +kernel)) ggX7_follow_X7_kind
set_option maxRecDepth 20000 in
theorem gX7_gainsaid_X7_find : GoodIn wsX7_gainsaid (wsV RX7 310 RX7 yX7_find wsX7_find) := goodIn_app (goodIn_r _ [5, 6, 7, 8] rfl (by decide +kernel)) ggX7_gainsaid_X7_find
set_option maxRecDepth 20000 in
theorem gX7_gainsaid_X7_goes : GoodIn wsX7_gainsaid (wsV RX7 313 RX7 yX7_goes wsX7_goes) := goodIn_app (goodIn_r _ [18, 19, 20, 8] rfl (by decide +kernel)) ggX7_gainsaid_X7_goes
set_option maxRecDepth 20000 in
theorem gX7_gate_X7_in : GoodIn wsX7_gate (wsV RX7 277 RX7 yX7_in wsX7_in) := goodIn_app (goodIn_r _ [4, 5, 6, 7] rfl (by decide +kernel)) ggX7_gate_X7_in
set_option maxRecDepth 20000 in
theorem gX7_gate_X7_taken : GoodIn wsX7_gate (va_wsS RX7 281 yX7_taken wsX7_taken) := goodIn_app (goodIn_r _ [10, 11, 7] rfl (by decide +kernel)) ggX7_gate_X7_taken
set_option maxRecDepth 20000 in
theorem gX7_goes_X7_drives : GoodIn wsX7_goes (wsV RX7 307 RX7 yX7_drives wsX7_drives) := goodIn_app (goodIn_r _ [28, 29, 30, 11] rfl (by decide +kernel)) ggX7_goes_X7_drives
set_option maxRecDepth 20000 in
theorem gX7_goes_X7_gate : GoodIn wsX7_goes (wsV RX7 284 RX7 yX7_gate wsX7_gate) := goodIn_app (goodIn_r _ [14, 15, 16, 11] rfl (by decide +kernel)) ggX7_goes_X7_gate
set_option maxRecDepth 20000 in
theorem gX7_goes_X7_kind : GoodIn wsX7_goes (wsV RX7 271 RX7 yX7_kind wsX7_kind) := goodIn_app (goodIn_r _ [8, 9, 10, 11] rfl (by decide +kernel)) ggX7_goes_X7_kind
set_option maxRecDepth 20000 in
theorem gX7_hangsOnItself_X7_lead : GoodIn wsX7_hangsOnItself (wsV RX7 246 RX7 yX7_lead wsX7_lead) := goodIn_app (goodIn_r _ [3, 4, 5, 6] rfl (by decide +kernel)) ggX7_hangsOnItself_X7_lead
set_option maxRecDepth 20000 in
theorem gX7_hasChanged_X7_hangs : GoodIn wsX7_hasChanged (wsV RX7 240 RX7 yX7_hangs wsX7_hangs) := goodIn_app (goodIn_r _ [3, 4, 5, 6] rfl (by decide +kernel)) ggX7_hasChanged_X7_hangs
set_option maxRecDepth 20000 in
theorem gX7_hasChanged_X7_in : GoodIn wsX7_hasChanged (wsV RX7 277 RX7 yX7_in wsX7_in) := goodIn_app (goodIn_r _ [10, 11, 12, 6] rfl (by decide +kernel)) ggX7_hasChanged_X7_in
set_option maxRecDepth 20000 in
theorem gX7_is_X7_sign : GoodIn wsX7_is (wsV RX7 137 RX7 yX7_sign wsX7_sign) := goodIn_app (goodIn_r _ [3, 4, 5, 6] rfl (by decide +kernel)) ggX7_is_X7_sign
set_option maxRecDepth 20000 in
theorem gX7_lead_X7_hangs : GoodIn wsX7_lead (wsV RX7 240 RX7 yX7_hangs wsX7_hangs) := goodIn_app (goodIn_r _ [4, 5, 6, 7] rfl (by decide +kernel)) ggX7_lead_X7_hangs
set_option maxRecDepth 20000 in
theorem gX7_legal_X7_find : GoodIn wsX7_legal (wsV RX7 310 RX7 yX7_find wsX7_find) := goodIn_app (goodIn_r _ [2, 3, 4, 5] rfl (by decide +kernel)) ggX7_legal_X7_find
set_option maxRecDepth 20000 in
theorem gX7_legal_X7_goes : GoodIn wsX7_legal (wsV RX7 313 RX7 yX7_goes wsX7_goes) := goodIn_app (goodIn_r _ [16, 17, 18, 5] rfl (by decide +kernel)) ggX7_legal_X7_goes
set_option maxRecDepth 20000 in
theorem gX7_levels_X7_fails : GoodIn wsX7_levels (wsV RX7 172 RX7 yX7_fails wsX7_fails) := goodIn_app (goodIn_r _ [27, 28, 29, 9] rfl (by decide +kernel)) ggX7_levels_X7_fails
set_option maxRecDepth 20000 in
theorem gX7_levels_X7_hangs : GoodIn wsX7_levels (wsV RX7 240 RX7 yX7_hangs wsX7_hangs) := goodIn_app (goodIn_r _ [6, 7, 8, 9] rfl (by decide +kernel)) ggX7_levels_X7_hangs
set_option maxRecDepth 20000 in
theorem gX7_levels_X7_hangsOnItself : GoodIn wsX7_levels (wsV RX7 243 RX7 yX7_hangsOnItself wsX7_hangsOnItself) := goodIn_app (goodIn_r _ [18, 19, 20, 9] rfl (by decide +kernel)) ggX7_levels_X7_hangsOnItself
set_option maxRecDepth 20000 in
theorem gX7_levels_X7_isGood : GoodIn wsX7_levels (wsV RX7 191 RX7 yX7_isGood wsX7_isGood) := goodIn_app (goodIn_r _ [13, 14, 15, 9] rfl (by decide +kernel)) ggX7_levels_X7_isGood
set_option maxRecDepth 20000 in
theorem gX7_load_X7_isNode : GoodIn wsX7_load (wsV RX7 301 RX7 yX7_isNode wsX7_isNode) := goodIn_app (goodIn_r _ [2, 3, 4, 5] rfl (by decide +kernel)) ggX7_load_X7_isNode
set_option maxRecDepth 20000 in
theorem gX7_load_X7_kind : GoodIn wsX7_load (wsV RX7 271 RX7 yX7_kind wsX7_kind) := goodIn_app (goodIn_r _ [8, 9, 10, 5] rfl (by decide +kernel)) ggX7_load_X7_kind
set_option maxRecDepth 20000 in
theorem gX7_load_X7_settle : GoodIn wsX7_load (wsV RX7 274 RX7 yX7_settle wsX7_settle) := goodIn_app (goodIn_r _ [14, 15, 16, 5] rfl (by decide +kernel)) ggX7_load_X7_settle
set_option maxRecDepth 20000 in
theorem gX7_looks_X7_bus : GoodIn wsX7_looks (wsV RX7 288 RX7 yX7_bus wsX7_bus) := goodIn_app (goodIn_r _ [17, 18, 19, 14] rfl (by decide +kernel)) ggX7_looks_X7_bus
set_option maxRecDepth 20000 in
theorem gX7_looks_X7_change : GoodIn wsX7_looks (wsV RX7 322 RX7 yX7_change wsX7_change) := goodIn_app (goodIn_r _ [39, 40, 41, 14] rfl (by decide +kernel)) ggX7_looks_X7_change
set_option maxRecDepth 20000 in
theorem gX7_looks_X7_gate : GoodIn wsX7_looks (wsV RX7 284 RX7 yX7_gate wsX7_gate) := goodIn_app (goodIn_r _ [45, 46, 47, 14] rfl (by decide +kernel)) ggX7_looks_X7_gate
set_option maxRecDepth 20000 in
theorem gX7_looks_X7_hasChanged : GoodIn wsX7_looks (wsV RX7 325 RX7 yX7_hasChanged wsX7_hasChanged) := goodIn_app (goodIn_r _ [31, 32, 33, 14] rfl (by decide +kernel)) ggX7_looks_X7_hasChanged
set_option maxRecDepth 20000 in
theorem gX7_looks_X7_kind : GoodIn wsX7_looks (wsV RX7 271 RX7 yX7_kind wsX7_kind) := goodIn_app (goodIn_r _ [11, 12, 13, 14] rfl (by decide +kernel)) ggX7_looks_X7_kind
set_option maxRecDepth 20000 in
theorem gX7_must_X7_is : GoodIn wsX7_must (wsV RX7 176 RX7 yX7_is wsX7_is) := goodIn_app (goodIn_r _ [1, 2, 3, 4] rfl (by decide +kernel)) ggX7_must_X7_is
set_option maxRecDepth 20000 in
theorem gX7_must_X7_next : GoodIn wsX7_must (wsV RX7 179 RX7 yX7_next wsX7_next) := goodIn_app (goodIn_r _ [14, 15, 16, 4] rfl (by decide +kernel)) ggX7_must_X7_next
set_option maxRecDepth 20000 in
theorem gX7_must_X7_wrong : GoodIn wsX7_must (wsV RX7 182 RX7 yX7_wrong wsX7_wrong) := goodIn_app (goodIn_r _ [44, 45, 46, 4] rfl (by decide +kernel)) ggX7_must_X7_wrong
set_option maxRecDepth 20000 in
theorem gX7_named_X7_plain : GoodIn wsX7_named (va_wsS RX7 297 yX7_plain wsX7_plain) := goodIn_app (goodIn_r _ [4, 5, 6] rfl (by decide +kernel)) ggX7_named_X7_plain
set_option maxRecDepth 20000 in
theorem gX7_next_X7_gateOf : GoodIn wsX7_next (va_wsS RX7 155 yX7_gateOf wsX7_gateOf) := goodIn_app (goodIn_r _ [24, 25, 15] rfl (by decide +kernel)) ggX7_next_X7_gateOf
set_option maxRecDepth 20000 in
theorem gX7_next_X7_isDigit : GoodIn wsX7_next (va_wsS RX7 148 yX7_isDigit wsX7_isDigit) := goodIn_app (goodIn_r _ [21, 22, 15] rfl (by decide +kernel)) ggX7_next_X7_isDigit
set_option maxRecDepth 20000 in
theorem gX7_next_X7_isLetter : GoodIn wsX7_next (va_wsS RX7 144 yX7_isLetter wsX7_isLetter) := goodIn_app (goodIn_r _ [18, 19, 15] rfl (by decide +kernel)) ggX7_next_X7_isLetter
set_option maxRecDepth 20000 in
theorem gX7_next_X7_sign : GoodIn wsX7_next (wsV RX7 137 RX7 yX7_sign wsX7_sign) := goodIn_app (goodIn_r _ [12, 13, 14, 15] rfl (by decide +kernel)) ggX7_next_X7_sign
set_option maxRecDepth 20000 in
theorem gX7_node_X7_isNode : GoodIn wsX7_node (wsV RX7 301 RX7 yX7_isNode wsX7_isNode) := goodIn_app (goodIn_r _ [6, 7, 8, 9] rfl (by decide +kernel)) ggX7_node_X7_isNode
set_option maxRecDepth 20000 in
theorem gX7_on_X7_isNode : GoodIn wsX7_on (wsV RX7 301 RX7 yX7_isNode wsX7_isNode) := goodIn_app (goodIn_r _ [3, 4, 5, 6] rfl (by decide +kernel)) ggX7_on_X7_isNode
set_option maxRecDepth 20000 in
theorem gX7_put_X7_change : GoodIn wsX7_put (wsV RX7 322 RX7 yX7_change wsX7_change) := goodIn_app (goodIn_r _ [15, 16, 17, 6] rfl (by decide +kernel)) ggX7_put_X7_change
set_option maxRecDepth 20000 in
theorem gX7_put_X7_isNode : GoodIn wsX7_put (wsV RX7 301 RX7 yX7_isNode wsX7_isNode) := goodIn_app (goodIn_r _ [3, 4, 5, 6] rfl (by decide +kernel)) ggX7_put_X7_isNode
set_option maxRecDepth 20000 in
theorem gX7_put_X7_kind : GoodIn wsX7_put (wsV RX7 271 RX7 yX7_kind wsX7_kind) := goodIn_app (goodIn_r _ [9, 10, 11, 6] rfl (by decide +kernel)) ggX7_put_X7_kind
set_option maxRecDepth 20000 in
theorem gX7_readDriver_X7_ask : GoodIn wsX7_readDriver (wsV RX7 208 RX7 yX7_ask wsX7_ask) := goodIn_app (goodIn_r _ [74, 75, 76, 14] rfl (by decide +kernel)) ggX7_readDriver_X7_ask
set_option maxRecDepth 20000 in
theorem gX7_readDriver_X7_fails : GoodIn wsX7_readDriver (wsV RX7 172 RX7 yX7_fails wsX7_fails) := goodIn_app (goodIn_r _ [11, 12, 13, 14] rfl (by decide +kernel)) ggX7_readDriver_X7_fails
set_option maxRecDepth 20000 in
theorem gX7_readDriver_X7_isGood : GoodIn wsX7_readDriver (wsV RX7 191 RX7 yX7_isGood wsX7_isGood) := goodIn_app (goodIn_r _ [18, 19, 20, 14] rfl (by decide +kernel)) ggX7_readDriver_X7_isGood
set_option maxRecDepth 20000 in
theorem gX7_readDriver_X7_isWord : GoodIn wsX7_readDriver (wsV RX7 220 RX7 yX7_isWord wsX7_isWord) := goodIn_app (goodIn_r _ [58, 59, 60, 14] rfl (by decide +kernel)) ggX7_readDriver_X7_isWord
set_option maxRecDepth 20000 in
theorem gX7_readDriver_X7_must : GoodIn wsX7_readDriver (wsV RX7 204 RX7 yX7_must wsX7_must) := goodIn_app (goodIn_r _ [66, 67, 68, 14] rfl (by decide +kernel)) ggX7_readDriver_X7_must
set_option maxRecDepth 20000 in
theorem gX7_readDriver_X7_next : GoodIn wsX7_readDriver (wsV RX7 179 RX7 yX7_next wsX7_next) := goodIn_app (goodIn_r _ [22, 23, 24, 14] rfl (by decide +kernel)) ggX7_readDriver_X7_next
set_option maxRecDepth 20000 in
theorem gX7_readDriver_X7_wrong : GoodIn wsX7_readDriver (wsV RX7 182 RX7 yX7_wrong wsX7_wrong) := goodIn_app (goodIn_r _ [62, 63, 64, 14] rfl (by decide +kernel)) ggX7_readDriver_X7_wrong
set_option maxRecDepth 20000 in
theorem gX7_readGate_X7_ask : GoodIn wsX7_readGate (wsV RX7 208 RX7 yX7_ask wsX7_ask) := goodIn_app (goodIn_r _ [73, 74, 75, 15] rfl (by decide +kernel)) ggX7_readGate_X7_ask
set_option maxRecDepth 20000 in
theorem gX7_readGate_X7_fails : GoodIn wsX7_readGate (wsV RX7 172 RX7 yX7_fails wsX7_fails) := goodIn_app (goodIn_r _ [12, 13, 14, 15] rfl (by decide +kernel)) ggX7_readGate_X7_fails
set_option maxRecDepth 20000 in
theorem gX7_readGate_X7_gateOf : GoodIn wsX7_readGate (va_wsS RX7 155 yX7_gateOf wsX7_gateOf) := goodIn_app (goodIn_r _ [50, 51, 15] rfl (by decide +kernel)) ggX7_readGate_X7_gateOf
set_option maxRecDepth 20000 in
theorem gX7_readGate_X7_is : GoodIn wsX7_readGate (wsV RX7 176 RX7 yX7_is wsX7_is) := goodIn_app (goodIn_r _ [66, 67, 68, 15] rfl (by decide +kernel)) ggX7_readGate_X7_is
set_option maxRecDepth 20000 in
theorem gX7_readGate_X7_isGood : GoodIn wsX7_readGate (wsV RX7 191 RX7 yX7_isGood wsX7_isGood) := goodIn_app (goodIn_r _ [23, 24, 25, 15] rfl (by decide +kernel)) ggX7_readGate_X7_isGood
set_option maxRecDepth 20000 in
theorem gX7_readGate_X7_leastOf : GoodIn wsX7_readGate (va_wsS RX7 214 yX7_leastOf wsX7_leastOf) := goodIn_app (goodIn_r _ [81, 82, 15] rfl (by decide +kernel)) ggX7_readGate_X7_leastOf
set_option maxRecDepth 20000 in
theorem gX7_readGate_X7_mostOf : GoodIn wsX7_readGate (va_wsS RX7 211 yX7_mostOf wsX7_mostOf) := goodIn_app (goodIn_r _ [70, 71, 15] rfl (by decide +kernel)) ggX7_readGate_X7_mostOf
set_option maxRecDepth 20000 in
theorem gX7_readGate_X7_must : GoodIn wsX7_readGate (wsV RX7 204 RX7 yX7_must wsX7_must) := goodIn_app (goodIn_r _ [84, 85, 86, 15] rfl (by decide +kernel)) ggX7_readGate_X7_must
set_option maxRecDepth 20000 in
theorem gX7_readGate_X7_newOf : GoodIn wsX7_readGate (wsV RX7 195 RX7 yX7_newOf wsX7_newOf) := goodIn_app (goodIn_r _ [19, 20, 21, 15] rfl (by decide +kernel)) ggX7_readGate_X7_newOf
set_option maxRecDepth 20000 in
theorem gX7_readGate_X7_next : GoodIn wsX7_readGate (wsV RX7 179 RX7 yX7_next wsX7_next) := goodIn_app (goodIn_r _ [27, 28, 29, 15] rfl (by decide +kernel)) ggX7_readGate_X7_next
set_option maxRecDepth 20000 in
theorem gX7_readGate_X7_wrong : GoodIn wsX7_readGate (wsV RX7 182 RX7 yX7_wrong wsX7_wrong) := goodIn_app (goodIn_r _ [62, 63, 64, 15] rfl (by decide +kernel)) ggX7_readGate_X7_wrong
set_option maxRecDepth 20000 in
theorem gX7_readLine_X7_is : GoodIn wsX7_readLine (wsV RX7 176 RX7 yX7_is wsX7_is) := goodIn_app (goodIn_r _ [78, 79, 80, 10] rfl (by decide +kernel)) ggX7_readLine_X7_is
set_option maxRecDepth 20000 in
theorem gX7_readLine_X7_isWord : GoodIn wsX7_readLine (wsV RX7 220 RX7 yX7_isWord wsX7_isWord) := goodIn_app (goodIn_r _ [7, 8, 9, 10] rfl (by decide +kernel)) ggX7_readLine_X7_isWord
set_option maxRecDepth 20000 in
theorem gX7_readLine_X7_next : GoodIn wsX7_readLine (wsV RX7 179 RX7 yX7_next wsX7_next) := goodIn_app (goodIn_r _ [21, 22, 23, 10] rfl (by decide +kernel)) ggX7_readLine_X7_next
set_option maxRecDepth 20000 in
theorem gX7_readLine_X7_readDriver : GoodIn wsX7_readLine (wsV RX7 234 RX7 yX7_readDriver wsX7_readDriver) := goodIn_app (goodIn_r _ [108, 109, 110, 10] rfl (by decide +kernel)) ggX7_readLine_X7_readDriver
set_option maxRecDepth 20000 in
theorem gX7_readLine_X7_readGate : GoodIn wsX7_readLine (wsV RX7 230 RX7 yX7_readGate wsX7_readGate) := goodIn_app (goodIn_r _ [98, 99, 100, 10] rfl (by decide +kernel)) ggX7_readLine_X7_readGate
set_option maxRecDepth 20000 in
theorem gX7_readLine_X7_readRegister : GoodIn wsX7_readLine (wsV RX7 227 RX7 yX7_readRegister wsX7_readRegister) := goodIn_app (goodIn_r _ [86, 87, 88, 10] rfl (by decide +kernel)) ggX7_readLine_X7_readRegister
set_option maxRecDepth 20000 in
theorem gX7_readLine_X7_tellAll : GoodIn wsX7_readLine (wsV RX7 224 RX7 yX7_tellAll wsX7_tellAll) := goodIn_app (goodIn_r _ [12, 13, 14, 10] rfl (by decide +kernel)) ggX7_readLine_X7_tellAll
set_option maxRecDepth 20000 in
theorem gX7_readLine_X7_wrong : GoodIn wsX7_readLine (wsV RX7 182 RX7 yX7_wrong wsX7_wrong) := goodIn_app (goodIn_r _ [65, 66, 67, 10] rfl (by decide +kernel)) ggX7_readLine_X7_wrong
set_option maxRecDepth 20000 in
theorem gX7_readRegister_X7_ask : GoodIn wsX7_readRegister (wsV RX7 208 RX7 yX7_ask wsX7_ask) := goodIn_app (goodIn_r _ [78, 79, 80, 5] rfl (by decide +kernel)) ggX7_readRegister_X7_ask
set_option maxRecDepth 20000 in
theorem gX7_readRegister_X7_is : GoodIn wsX7_readRegister (wsV RX7 176 RX7 yX7_is wsX7_is) := goodIn_app (goodIn_r _ [74, 75, 76, 5] rfl (by decide +kernel)) ggX7_readRegister_X7_is
set_option maxRecDepth 20000 in
theorem gX7_readRegister_X7_isGood : GoodIn wsX7_readRegister (wsV RX7 191 RX7 yX7_isGood wsX7_isGood) := goodIn_app (goodIn_r _ [62, 63, 64, 5] rfl (by decide +kernel)) ggX7_readRegister_X7_isGood
set_option maxRecDepth 20000 in
theorem gX7_readRegister_X7_must : GoodIn wsX7_readRegister (wsV RX7 204 RX7 yX7_must wsX7_must) := goodIn_app (goodIn_r _ [70, 71, 72, 5] rfl (by decide +kernel)) ggX7_readRegister_X7_must
set_option maxRecDepth 20000 in
theorem gX7_readRegister_X7_next : GoodIn wsX7_readRegister (wsV RX7 179 RX7 yX7_next wsX7_next) := goodIn_app (goodIn_r _ [2, 3, 4, 5] rfl (by decide +kernel)) ggX7_readRegister_X7_next
set_option maxRecDepth 20000 in
theorem gX7_readRegister_X7_tell : GoodIn wsX7_readRegister (wsV RX7 201 RX7 yX7_tell wsX7_tell) := goodIn_app (goodIn_r _ [41, 42, 43, 5] rfl (by decide +kernel)) ggX7_readRegister_X7_tell
set_option maxRecDepth 20000 in
theorem gX7_read_X7_isGood : GoodIn wsX7_read (wsV RX7 191 RX7 yX7_isGood wsX7_isGood) := goodIn_app (goodIn_r _ [52, 53, 54, 20] rfl (by decide +kernel)) ggX7_read_X7_isGood
set_option maxRecDepth 20000 in
theorem gX7_read_X7_kind : GoodIn wsX7_read (wsV RX7 271 RX7 yX7_kind wsX7_kind) := goodIn_app (goodIn_r _ [154, 155, 156, 20] rfl (by decide +kernel)) ggX7_read_X7_kind
set_option maxRecDepth 20000 in
theorem gX7_read_X7_levels : GoodIn wsX7_read (wsV RX7 258 RX7 yX7_levels wsX7_levels) := goodIn_app (goodIn_r _ [136, 137, 138, 20] rfl (by decide +kernel)) ggX7_read_X7_levels
set_option maxRecDepth 20000 in
theorem gX7_read_X7_next : GoodIn wsX7_read (wsV RX7 179 RX7 yX7_next wsX7_next) := goodIn_app (goodIn_r _ [17, 18, 19, 20] rfl (by decide +kernel)) ggX7_read_X7_next
set_option maxRecDepth 20000 in
theorem gX7_read_X7_readLine : GoodIn wsX7_read (wsV RX7 252 RX7 yX7_readLine wsX7_readLine) := goodIn_app (goodIn_r _ [56, 57, 58, 20] rfl (by decide +kernel)) ggX7_read_X7_readLine
set_option maxRecDepth 20000 in
theorem gX7_read_X7_resolve : GoodIn wsX7_read (wsV RX7 255 RX7 yX7_resolve wsX7_resolve) := goodIn_app (goodIn_r _ [126, 127, 128, 20] rfl (by decide +kernel)) ggX7_read_X7_resolve
set_option maxRecDepth 20000 in
theorem gX7_read_X7_settle : GoodIn wsX7_read (wsV RX7 274 RX7 yX7_settle wsX7_settle) := goodIn_app (goodIn_r _ [158, 159, 160, 20] rfl (by decide +kernel)) ggX7_read_X7_settle
set_option maxRecDepth 20000 in
theorem gX7_resolve_X7_fails : GoodIn wsX7_resolve (wsV RX7 172 RX7 yX7_fails wsX7_fails) := goodIn_app (goodIn_r _ [26, 27, 28, 17] rfl (by decide +kernel)) ggX7_resolve_X7_fails
set_option maxRecDepth 20000 in
theorem gX7_resolve_X7_isGood : GoodIn wsX7_resolve (wsV RX7 191 RX7 yX7_isGood wsX7_isGood) := goodIn_app (goodIn_r _ [14, 15, 16, 17] rfl (by decide +kernel)) ggX7_resolve_X7_isGood
set_option maxRecDepth 20000 in
theorem gX7_resolve_X7_isOfDriver : GoodIn wsX7_resolve (wsV RX7 237 RX7 yX7_isOfDriver wsX7_isOfDriver) := goodIn_app (goodIn_r _ [31, 32, 33, 17] rfl (by decide +kernel)) ggX7_resolve_X7_isOfDriver
set_option maxRecDepth 20000 in
theorem gX7_resolve_X7_newOf : GoodIn wsX7_resolve (wsV RX7 195 RX7 yX7_newOf wsX7_newOf) := goodIn_app (goodIn_r _ [20, 21, 22, 17] rfl (by decide +kernel)) ggX7_resolve_X7_newOf
set_option maxRecDepth 20000 in
theorem gX7_run_X7_change : GoodIn wsX7_run (wsV RX7 322 RX7 yX7_change wsX7_change) := goodIn_app (goodIn_r _ [44, 45, 46, 10] rfl (by decide +kernel)) ggX7_run_X7_change
set_option maxRecDepth 20000 in
theorem gX7_run_X7_looks : GoodIn wsX7_run (wsV RX7 328 RX7 yX7_looks wsX7_looks) := goodIn_app (goodIn_r _ [7, 8, 9, 10] rfl (by decide +kernel)) ggX7_run_X7_looks
set_option maxRecDepth 20000 in
theorem gX7_set_X7_isNode : GoodIn wsX7_set (wsV RX7 301 RX7 yX7_isNode wsX7_isNode) := goodIn_app (goodIn_r _ [2, 3, 4, 5] rfl (by decide +kernel)) ggX7_set_X7_isNode
set_option maxRecDepth 20000 in
theorem gX7_set_X7_kind : GoodIn wsX7_set (wsV RX7 271 RX7 yX7_kind wsX7_kind) := goodIn_app (goodIn_r _ [8, 9, 10, 5] rfl (by decide +kernel)) ggX7_set_X7_kind
set_option maxRecDepth 20000 in
theorem gX7_set_X7_settle : GoodIn wsX7_set (wsV RX7 274 RX7 yX7_settle wsX7_settle) := goodIn_app (goodIn_r _ [14, 15, 16, 5] rfl (by decide +kernel)) ggX7_set_X7_settle
set_option maxRecDepth 20000 in
theorem gX7_settle_X7_follow : GoodIn wsX7_settle (wsV RX7 291 RX7 yX7_follow wsX7_follow) := goodIn_app (goodIn_r _ [4, 5, 6, 7] rfl (by decide +kernel)) ggX7_settle_X7_follow
set_option maxRecDepth 20000 in
theorem gX7_sharp_X7_find : GoodIn wsX7_sharp (wsV RX7 310 RX7 yX7_find wsX7_find) := goodIn_app (goodIn_r _ [9, 10, 11, 6] rfl (by decide +kernel)) ggX7_sharp_X7_find
set_option maxRecDepth 20000 in
theorem gX7_sharp_X7_goes : GoodIn wsX7_sharp (wsV RX7 313 RX7 yX7_goes wsX7_goes) := goodIn_app (goodIn_r _ [21, 22, 23, 6] rfl (by decide +kernel)) ggX7_sharp_X7_goes
set_option maxRecDepth 20000 in
theorem gX7_sharp_X7_isNode : GoodIn wsX7_sharp (wsV RX7 301 RX7 yX7_isNode wsX7_isNode) := goodIn_app (goodIn_r _ [3, 4, 5, 6] rfl (by decide +kernel)) ggX7_sharp_X7_isNode
set_option maxRecDepth 20000 in
theorem gX7_tellAll_X7_is : GoodIn wsX7_tellAll (wsV RX7 176 RX7 yX7_is wsX7_is) := goodIn_app (goodIn_r _ [70, 71, 72, 4] rfl (by decide +kernel)) ggX7_tellAll_X7_is
set_option maxRecDepth 20000 in
theorem gX7_tellAll_X7_isGood : GoodIn wsX7_tellAll (wsV RX7 191 RX7 yX7_isGood wsX7_isGood) := goodIn_app (goodIn_r _ [1, 2, 3, 4] rfl (by decide +kernel)) ggX7_tellAll_X7_isGood
set_option maxRecDepth 20000 in
theorem gX7_tellAll_X7_must : GoodIn wsX7_tellAll (wsV RX7 204 RX7 yX7_must wsX7_must) := goodIn_app (goodIn_r _ [74, 75, 76, 4] rfl (by decide +kernel)) ggX7_tellAll_X7_must
set_option maxRecDepth 20000 in
theorem gX7_tellAll_X7_next : GoodIn wsX7_tellAll (wsV RX7 179 RX7 yX7_next wsX7_next) := goodIn_app (goodIn_r _ [7, 8, 9, 4] rfl (by decide +kernel)) ggX7_tellAll_X7_next
set_option maxRecDepth 20000 in
theorem gX7_tellAll_X7_tell : GoodIn wsX7_tellAll (wsV RX7 201 RX7 yX7_tell wsX7_tell) := goodIn_app (goodIn_r _ [45, 46, 47, 4] rfl (by decide +kernel)) ggX7_tellAll_X7_tell
set_option maxRecDepth 20000 in
theorem gX7_tell_X7_fails : GoodIn wsX7_tell (wsV RX7 172 RX7 yX7_fails wsX7_fails) := goodIn_app (goodIn_r _ [17, 18, 19, 15] rfl (by decide +kernel)) ggX7_tell_X7_fails
set_option maxRecDepth 20000 in
theorem gX7_tell_X7_isGood : GoodIn wsX7_tell (wsV RX7 191 RX7 yX7_isGood wsX7_isGood) := goodIn_app (goodIn_r _ [23, 24, 25, 15] rfl (by decide +kernel)) ggX7_tell_X7_isGood
set_option maxRecDepth 20000 in
theorem gX7_tell_X7_newOf : GoodIn wsX7_tell (wsV RX7 195 RX7 yX7_newOf wsX7_newOf) := goodIn_app (goodIn_r _ [27, 28, 29, 15] rfl (by decide +kernel)) ggX7_tell_X7_newOf
set_option maxRecDepth 20000 in
theorem gX7_tell_X7_next : GoodIn wsX7_tell (wsV RX7 179 RX7 yX7_next wsX7_next) := goodIn_app (goodIn_r _ [31, 32, 33, 15] rfl (by decide +kernel)) ggX7_tell_X7_next
set_option maxRecDepth 20000 in
theorem gX7_tell_X7_wrong : GoodIn wsX7_tell (wsV RX7 182 RX7 yX7_wrong wsX7_wrong) := goodIn_app (goodIn_r _ [12, 13, 14, 15] rfl (by decide +kernel)) ggX7_tell_X7_wrong
set_option maxRecDepth 20000 in
theorem gX7_tick_X7_in : GoodIn wsX7_tick (wsV RX7 277 RX7 yX7_in wsX7_in) := goodIn_app (goodIn_r _ [12, 13, 14, 9] rfl (by decide +kernel)) ggX7_tick_X7_in
set_option maxRecDepth 20000 in
theorem gX7_tick_X7_kind : GoodIn wsX7_tick (wsV RX7 271 RX7 yX7_kind wsX7_kind) := goodIn_app (goodIn_r _ [6, 7, 8, 9] rfl (by decide +kernel)) ggX7_tick_X7_kind
set_option maxRecDepth 20000 in
theorem gX7_tick_X7_settle : GoodIn wsX7_tick (wsV RX7 274 RX7 yX7_settle wsX7_settle) := goodIn_app (goodIn_r _ [20, 21, 22, 9] rfl (by decide +kernel)) ggX7_tick_X7_settle
set_option maxRecDepth 20000 in
theorem gX7_tick_X7_taken : GoodIn wsX7_tick (va_wsS RX7 281 yX7_taken wsX7_taken) := goodIn_app (goodIn_r _ [17, 18, 9] rfl (by decide +kernel)) ggX7_tick_X7_taken
set_option maxRecDepth 20000 in
theorem gX7_value_X7_isNode : GoodIn wsX7_value (wsV RX7 301 RX7 yX7_isNode wsX7_isNode) := goodIn_app (goodIn_r _ [2, 3, 4, 5] rfl (by decide +kernel)) ggX7_value_X7_isNode
set_option maxRecDepth 20000 in
theorem gX7_wave_X7_isNode : GoodIn wsX7_wave (wsV RX7 301 RX7 yX7_isNode wsX7_isNode) := goodIn_app (goodIn_r _ [4, 5, 6, 7] rfl (by decide +kernel)) ggX7_wave_X7_isNode
set_option maxRecDepth 20000 in
theorem gX7_worlds_X7_find : GoodIn wsX7_worlds (wsV RX7 310 RX7 yX7_find wsX7_find) := goodIn_app (goodIn_r _ [2, 3, 4, 5] rfl (by decide +kernel)) ggX7_worlds_X7_find
set_option maxRecDepth 20000 in
theorem gX7_wrong_X7_fails : GoodIn wsX7_wrong (wsV RX7 172 RX7 yX7_fails wsX7_fails) := goodIn_app (goodIn_r _ [3, 4, 5, 6] rfl (by decide +kernel)) ggX7_wrong_X7_fails
