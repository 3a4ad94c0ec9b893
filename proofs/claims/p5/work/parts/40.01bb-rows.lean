set_option maxRecDepth 20000 in
theorem ggX12_isPlace_X12_isIn : GoodIn wsX12_isPlace wsX12_isIn := goodIn_r _ [5] rfl (by decide +kernel)
set_option maxRecDepth 20000 in
theorem gX12_isPlace_X12_isIn : GoodIn wsX12_isPlace (va_wsS RX12 75 yX12_isIn wsX12_isIn) := goodIn_app (goodIn_of _ (by decide +kernel)) ggX12_isPlace_X12_isIn
set_option maxRecDepth 20000 in
theorem ggX12_isPerson_X12_isIn : GoodIn wsX12_isPerson wsX12_isIn := goodIn_r _ [5] rfl (by decide +kernel)
set_option maxRecDepth 20000 in
theorem gX12_isPerson_X12_isIn : GoodIn wsX12_isPerson (va_wsS RX12 75 yX12_isIn wsX12_isIn) := goodIn_app (goodIn_of _ (by decide +kernel)) ggX12_isPerson_X12_isIn
set_option maxRecDepth 20000 in
theorem ggX12_isDog_X12_isIn : GoodIn wsX12_isDog wsX12_isIn := goodIn_r _ [5] rfl (by decide +kernel)
set_option maxRecDepth 20000 in
theorem gX12_isDog_X12_isIn : GoodIn wsX12_isDog (va_wsS RX12 75 yX12_isIn wsX12_isIn) := goodIn_app (goodIn_of _ (by decide +kernel)) ggX12_isDog_X12_isIn
set_option maxRecDepth 20000 in
theorem ggX12_isFenced_X12_has : GoodIn wsX12_isFenced wsX12_has := goodIn_r _ [5] rfl (by decide +kernel)
set_option maxRecDepth 20000 in
theorem gX12_isFenced_X12_has : GoodIn wsX12_isFenced (va_wsS RX12 217 yX12_has wsX12_has) := goodIn_app (goodIn_of _ (by decide +kernel)) ggX12_isFenced_X12_has
set_option maxRecDepth 20000 in
theorem ggX12_hoursOf_X12_hoursIn : GoodIn wsX12_hoursOf wsX12_hoursIn := goodIn_r _ [5] rfl (by decide +kernel)
set_option maxRecDepth 20000 in
theorem gX12_hoursOf_X12_hoursIn : GoodIn wsX12_hoursOf (va_wsS RX12 185 yX12_hoursIn wsX12_hoursIn) := goodIn_app (goodIn_of _ (by decide +kernel)) ggX12_hoursOf_X12_hoursIn
set_option maxRecDepth 20000 in
theorem ggX12_comesIn_X12_hoursOf : GoodIn wsX12_comesIn wsX12_hoursOf := goodIn_r _ [6, 1, 7, 8, 5, 9, 13, 14, 15, 16, 17, 18, 19, 20, 21, 22, 23, 24, 25, 26, 27, 28, 29, 30, 31, 32, 33, 34, 35, 36, 37, 38, 39, 40, 41, 42, 43, 44, 45, 46, 47, 48, 49, 50, 51, 52, 53, 54, 55, 56, 57, 58, 59] rfl (by decide +kernel)
set_option maxRecDepth 20000 in
theorem gX12_comesIn_X12_hoursOf : GoodIn wsX12_comesIn (wsV RX12 220 RX12 yX12_hoursOf wsX12_hoursOf) := goodIn_app (goodIn_of _ (by decide +kernel)) ggX12_comesIn_X12_hoursOf
set_option maxRecDepth 20000 in
theorem ggX12_comesIn_X12_has : GoodIn wsX12_comesIn wsX12_has := goodIn_r _ [12] rfl (by decide +kernel)
set_option maxRecDepth 20000 in
theorem gX12_comesIn_X12_has : GoodIn wsX12_comesIn (va_wsS RX12 217 yX12_has wsX12_has) := goodIn_app (goodIn_of _ (by decide +kernel)) ggX12_comesIn_X12_has
