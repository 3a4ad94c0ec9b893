set_option maxRecDepth 20000 in
theorem ggX12_board_X12_hoursIn : GoodIn wsX12_board wsX12_hoursIn := goodIn_r _ [43] rfl (by decide +kernel)
set_option maxRecDepth 20000 in
theorem gX12_board_X12_hoursIn : GoodIn wsX12_board (va_wsS RX12 185 yX12_hoursIn wsX12_hoursIn) := goodIn_app (goodIn_of _ (by decide +kernel)) ggX12_board_X12_hoursIn
set_option maxRecDepth 20000 in
theorem ggX12_board_X12_spelt : GoodIn wsX12_board wsX12_spelt := goodIn_r _ [25, 17, 26] rfl (by decide +kernel)
set_option maxRecDepth 20000 in
theorem gX12_board_X12_spelt : GoodIn wsX12_board (va_wsS RX12 58 yX12_spelt wsX12_spelt) := goodIn_app (goodIn_of _ (by decide +kernel)) ggX12_board_X12_spelt
set_option maxRecDepth 20000 in
theorem ggX12_layPerils_X12_isFenced : GoodIn wsX12_layPerils wsX12_isFenced := goodIn_r _ [10, 3, 11, 12, 9, 13, 40, 41, 42, 43, 44, 45, 46, 47, 48, 49, 50, 51, 52, 53, 54, 55, 56, 57, 58, 59, 60, 61, 62, 63, 64, 65, 66, 67, 68, 69, 70, 71, 72, 73, 74, 75, 76, 77, 78, 79, 80, 81, 82, 83, 84, 85, 86] rfl (by decide +kernel)
set_option maxRecDepth 20000 in
theorem gX12_layPerils_X12_isFenced : GoodIn wsX12_layPerils (wsV RX12 229 RX12 yX12_isFenced wsX12_isFenced) := goodIn_app (goodIn_of _ (by decide +kernel)) ggX12_layPerils_X12_isFenced
set_option maxRecDepth 20000 in
theorem ggX12_layPerils_X12_hoursOf : GoodIn wsX12_layPerils wsX12_hoursOf := goodIn_r _ [17, 3, 18, 19, 9, 20, 40, 41, 42, 43, 44, 45, 46, 47, 48, 49, 50, 51, 52, 53, 54, 55, 56, 57, 58, 59, 60, 61, 62, 63, 64, 65, 66, 67, 68, 69, 70, 71, 72, 73, 74, 75, 76, 77, 78, 79, 80, 81, 82, 83, 84, 85, 86] rfl (by decide +kernel)
set_option maxRecDepth 20000 in
theorem gX12_layPerils_X12_hoursOf : GoodIn wsX12_layPerils (wsV RX12 220 RX12 yX12_hoursOf wsX12_hoursOf) := goodIn_app (goodIn_of _ (by decide +kernel)) ggX12_layPerils_X12_hoursOf
set_option maxRecDepth 20000 in
theorem ggX12_layPerils_X12_has : GoodIn wsX12_layPerils wsX12_has := goodIn_r _ [13] rfl (by decide +kernel)
set_option maxRecDepth 20000 in
theorem gX12_layPerils_X12_has : GoodIn wsX12_layPerils (va_wsS RX12 217 yX12_has wsX12_has) := goodIn_app (goodIn_of _ (by decide +kernel)) ggX12_layPerils_X12_has
set_option maxRecDepth 20000 in
theorem ggX12_layPerils_X12_firstThere : GoodIn wsX12_layPerils wsX12_firstThere := goodIn_r _ [24, 3, 4, 25, 26, 27, 9, 28, 11, 12, 13, 29, 30, 31, 32, 33, 34, 35, 36, 14, 15, 16, 17, 18, 19, 20, 40, 41, 42, 43, 44, 45, 46, 47, 48, 49, 50, 51, 52, 53, 54, 55, 56, 57, 58, 59, 60, 61, 62, 63, 64, 65, 66, 67, 68, 69, 70, 71, 72, 73, 74, 75, 76, 77, 78, 79, 80, 81, 82, 83, 84, 85, 86] rfl (by decide +kernel)
set_option maxRecDepth 20000 in
theorem gX12_layPerils_X12_firstThere : GoodIn wsX12_layPerils (wsV RX12 290 RX12 yX12_firstThere wsX12_firstThere) := goodIn_app (goodIn_of _ (by decide +kernel)) ggX12_layPerils_X12_firstThere
set_option maxRecDepth 20000 in
theorem ggX12_layPerils_X12_isAway : GoodIn wsX12_layPerils wsX12_isAway := goodIn_r _ [28, 3, 40, 41, 42, 43, 44, 45, 46, 47, 48, 49, 50, 51, 52, 53, 54, 55, 56, 57, 58, 59, 60, 61, 62, 63, 64, 65, 66, 67, 68, 69, 70, 71, 72, 73, 74, 75, 76, 77, 78, 79, 80, 81, 82, 83, 84, 85, 86] rfl (by decide +kernel)
set_option maxRecDepth 20000 in
theorem gX12_layPerils_X12_isAway : GoodIn wsX12_layPerils (wsV RX12 235 RX12 yX12_isAway wsX12_isAway) := goodIn_app (goodIn_of _ (by decide +kernel)) ggX12_layPerils_X12_isAway
set_option maxRecDepth 20000 in
theorem ggX12_layPerils_X12_comesIn : GoodIn wsX12_layPerils wsX12_comesIn := goodIn_r _ [36, 3, 14, 15, 16, 9, 17, 18, 19, 20, 11, 12, 13, 40, 41, 42, 43, 44, 45, 46, 47, 48, 49, 50, 51, 52, 53, 54, 55, 56, 57, 58, 59, 60, 61, 62, 63, 64, 65, 66, 67, 68, 69, 70, 71, 72, 73, 74, 75, 76, 77, 78, 79, 80, 81, 82, 83, 84, 85, 86] rfl (by decide +kernel)
set_option maxRecDepth 20000 in
theorem gX12_layPerils_X12_comesIn : GoodIn wsX12_layPerils (wsV RX12 284 RX12 yX12_comesIn wsX12_comesIn) := goodIn_app (goodIn_of _ (by decide +kernel)) ggX12_layPerils_X12_comesIn
