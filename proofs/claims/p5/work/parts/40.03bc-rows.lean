set_option maxRecDepth 20000 in
theorem ggX12_why_X12_hoursIn : GoodIn wsX12_why wsX12_hoursIn := goodIn_r _ [5] rfl (by decide +kernel)
set_option maxRecDepth 20000 in
theorem gX12_why_X12_hoursIn : GoodIn wsX12_why (va_wsS RX12 185 yX12_hoursIn wsX12_hoursIn) := goodIn_app (goodIn_of _ (by decide +kernel)) ggX12_why_X12_hoursIn
set_option maxRecDepth 20000 in
theorem ggX12_why_X12_has : GoodIn wsX12_why wsX12_has := goodIn_r _ [8] rfl (by decide +kernel)
set_option maxRecDepth 20000 in
theorem gX12_why_X12_has : GoodIn wsX12_why (va_wsS RX12 217 yX12_has wsX12_has) := goodIn_app (goodIn_of _ (by decide +kernel)) ggX12_why_X12_has
set_option maxRecDepth 20000 in
theorem ggX12_live_X12_hoursIn : GoodIn wsX12_live wsX12_hoursIn := goodIn_r _ [5] rfl (by decide +kernel)
set_option maxRecDepth 20000 in
theorem gX12_live_X12_hoursIn : GoodIn wsX12_live (va_wsS RX12 185 yX12_hoursIn wsX12_hoursIn) := goodIn_app (goodIn_of _ (by decide +kernel)) ggX12_live_X12_hoursIn
set_option maxRecDepth 20000 in
theorem ggX12_act_X12_why : GoodIn wsX12_act wsX12_why := goodIn_r _ [5, 6, 7, 8, 4, 9, 10, 11, 12, 23, 24, 25, 26, 27, 28, 29, 30, 31, 32, 33, 34, 35, 36, 37, 38, 39, 40, 41, 42, 43, 44, 45, 46, 47, 48, 49, 50, 51, 52, 53, 54, 55, 56, 57, 58, 59, 60, 61, 62, 63, 64, 65, 66, 67, 68, 69] rfl (by decide +kernel)
set_option maxRecDepth 20000 in
theorem gX12_act_X12_why : GoodIn wsX12_act (wsV RX12 260 RX12 yX12_why wsX12_why) := goodIn_app (goodIn_of _ (by decide +kernel)) ggX12_act_X12_why
set_option maxRecDepth 20000 in
theorem ggX12_act_X12_snap : GoodIn wsX12_act wsX12_snap := goodIn_r _ [16, 17, 18, 6, 23, 24, 25, 26, 27, 28, 29, 30, 31, 32, 33, 34, 35, 36, 37, 38, 39, 40, 41, 42, 43, 44, 45, 46, 47, 48, 49, 50, 51, 52, 53, 54, 55, 56, 57, 58, 59, 60, 61, 62, 63, 64, 65, 66, 67, 68, 69] rfl (by decide +kernel)
set_option maxRecDepth 20000 in
theorem gX12_act_X12_snap : GoodIn wsX12_act (wsV RX12 264 RX12 yX12_snap wsX12_snap) := goodIn_app (goodIn_of _ (by decide +kernel)) ggX12_act_X12_snap
set_option maxRecDepth 20000 in
theorem ggX12_act_X12_live : GoodIn wsX12_act wsX12_live := goodIn_r _ [22, 6, 7, 8, 4, 9, 23, 24, 25, 26, 27, 28, 29, 30, 31, 32, 33, 34, 35, 36, 37, 38, 39, 40, 41, 42, 43, 44, 45, 46, 47, 48, 49, 50, 51, 52, 53, 54, 55, 56, 57, 58, 59, 60, 61, 62, 63, 64, 65, 66, 67, 68, 69] rfl (by decide +kernel)
set_option maxRecDepth 20000 in
theorem gX12_act_X12_live : GoodIn wsX12_act (wsV RX12 267 RX12 yX12_live wsX12_live) := goodIn_app (goodIn_of _ (by decide +kernel)) ggX12_act_X12_live
set_option maxRecDepth 20000 in
theorem ggX12_allow_X12_isPlace : GoodIn wsX12_allow wsX12_isPlace := goodIn_r _ [6, 7, 8, 9, 5, 10, 38, 39, 40, 41, 42, 43, 44, 45, 46, 47, 48, 49, 50, 51, 52, 53, 54, 55, 56, 57, 58, 59, 60, 61, 62, 63, 64, 65, 66, 67, 68, 69, 70, 71, 72, 73, 74, 75, 76, 77, 78, 79, 80, 81, 82, 83, 84] rfl (by decide +kernel)
set_option maxRecDepth 20000 in
theorem gX12_allow_X12_isPlace : GoodIn wsX12_allow (wsV RX12 250 RX12 yX12_isPlace wsX12_isPlace) := goodIn_app (goodIn_of _ (by decide +kernel)) ggX12_allow_X12_isPlace
set_option maxRecDepth 20000 in
theorem ggX12_allow_X12_areHours : GoodIn wsX12_allow wsX12_areHours := goodIn_r _ [13, 8, 9, 5, 10] rfl (by decide +kernel)
set_option maxRecDepth 20000 in
theorem gX12_allow_X12_areHours : GoodIn wsX12_allow (va_wsS RX12 271 yX12_areHours wsX12_areHours) := goodIn_app (goodIn_of _ (by decide +kernel)) ggX12_allow_X12_areHours
