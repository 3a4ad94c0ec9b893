set_option maxRecDepth 20000 in
theorem ggX12_sign_X12_act : GoodIn wsX12_sign wsX12_act := goodIn_r _ [9, 10, 11, 12, 4, 13, 14, 15, 16, 17, 18, 19, 20, 21, 22, 23, 24, 25, 26, 27, 28, 29, 30, 31, 32, 33, 34, 35, 36, 37, 38, 39, 40, 41, 42, 43, 44, 45, 46, 47, 48, 49, 50, 51, 52, 53, 54, 55, 56, 57, 58, 59, 60, 61, 62, 63, 64, 65, 66, 67, 68, 69, 70, 71, 72, 73, 74, 75, 76, 77] rfl (by decide +kernel)
set_option maxRecDepth 20000 in
theorem gX12_sign_X12_act : GoodIn wsX12_sign (wsV RX12 274 RX12 yX12_act wsX12_act) := goodIn_app (goodIn_of _ (by decide +kernel)) ggX12_sign_X12_act
set_option maxRecDepth 20000 in
theorem ggX12_hold_X12_isDog : GoodIn wsX12_hold wsX12_isDog := goodIn_r _ [6, 7, 8, 9, 5, 10, 35, 36, 37, 38, 39, 40, 41, 42, 43, 44, 45, 46, 47, 48, 49, 50, 51, 52, 53, 54, 55, 56, 57, 58, 59, 60, 61, 62, 63, 64, 65, 66, 67, 68, 69, 70, 71, 72, 73, 74, 75, 76, 77, 78, 79, 80, 81] rfl (by decide +kernel)
set_option maxRecDepth 20000 in
theorem gX12_hold_X12_isDog : GoodIn wsX12_hold (wsV RX12 247 RX12 yX12_isDog wsX12_isDog) := goodIn_app (goodIn_of _ (by decide +kernel)) ggX12_hold_X12_isDog
set_option maxRecDepth 20000 in
theorem ggX12_hold_X12_isIn : GoodIn wsX12_hold wsX12_isIn := goodIn_r _ [10] rfl (by decide +kernel)
set_option maxRecDepth 20000 in
theorem gX12_hold_X12_isIn : GoodIn wsX12_hold (va_wsS RX12 75 yX12_isIn wsX12_isIn) := goodIn_app (goodIn_of _ (by decide +kernel)) ggX12_hold_X12_isIn
set_option maxRecDepth 20000 in
theorem ggX12_hold_X12_act : GoodIn wsX12_hold wsX12_act := goodIn_r _ [14, 15, 16, 17, 5, 18, 7, 19, 20, 21, 22, 23, 24, 25, 26, 27, 28, 29, 30, 31, 32, 33, 34, 35, 36, 37, 38, 39, 40, 41, 42, 43, 44, 45, 46, 47, 48, 49, 50, 51, 52, 53, 54, 55, 56, 57, 58, 59, 60, 61, 62, 63, 64, 65, 66, 67, 68, 69, 70, 71, 72, 73, 74, 75, 76, 77, 78, 79, 80, 81] rfl (by decide +kernel)
set_option maxRecDepth 20000 in
theorem gX12_hold_X12_act : GoodIn wsX12_hold (wsV RX12 274 RX12 yX12_act wsX12_act) := goodIn_app (goodIn_of _ (by decide +kernel)) ggX12_hold_X12_act
set_option maxRecDepth 20000 in
theorem ggX12_come__X12_isPerson : GoodIn wsX12_come_ wsX12_isPerson := goodIn_r _ [6, 7, 8, 9, 5, 10, 42, 43, 44, 45, 46, 47, 48, 49, 50, 51, 52, 53, 54, 55, 56, 57, 58, 59, 60, 61, 62, 63, 64, 65, 66, 67, 68, 69, 70, 71, 72, 73, 74, 75, 76, 77, 78, 79, 80, 81, 82, 83, 84, 85, 86, 87, 88] rfl (by decide +kernel)
set_option maxRecDepth 20000 in
theorem gX12_come__X12_isPerson : GoodIn wsX12_come_ (wsV RX12 241 RX12 yX12_isPerson wsX12_isPerson) := goodIn_app (goodIn_of _ (by decide +kernel)) ggX12_come__X12_isPerson
set_option maxRecDepth 20000 in
theorem ggX12_come__X12_isPlace : GoodIn wsX12_come_ wsX12_isPlace := goodIn_r _ [14, 7, 8, 9, 5, 10, 42, 43, 44, 45, 46, 47, 48, 49, 50, 51, 52, 53, 54, 55, 56, 57, 58, 59, 60, 61, 62, 63, 64, 65, 66, 67, 68, 69, 70, 71, 72, 73, 74, 75, 76, 77, 78, 79, 80, 81, 82, 83, 84, 85, 86, 87, 88] rfl (by decide +kernel)
set_option maxRecDepth 20000 in
theorem gX12_come__X12_isPlace : GoodIn wsX12_come_ (wsV RX12 250 RX12 yX12_isPlace wsX12_isPlace) := goodIn_app (goodIn_of _ (by decide +kernel)) ggX12_come__X12_isPlace
set_option maxRecDepth 20000 in
theorem ggX12_come__X12_areHours : GoodIn wsX12_come_ wsX12_areHours := goodIn_r _ [17, 8, 9, 5, 10] rfl (by decide +kernel)
set_option maxRecDepth 20000 in
theorem gX12_come__X12_areHours : GoodIn wsX12_come_ (va_wsS RX12 271 yX12_areHours wsX12_areHours) := goodIn_app (goodIn_of _ (by decide +kernel)) ggX12_come__X12_areHours
set_option maxRecDepth 20000 in
theorem ggX12_come__X12_act : GoodIn wsX12_come_ wsX12_act := goodIn_r _ [21, 22, 23, 24, 5, 25, 7, 26, 27, 28, 29, 30, 31, 32, 33, 34, 35, 36, 37, 38, 39, 40, 41, 42, 43, 44, 45, 46, 47, 48, 49, 50, 51, 52, 53, 54, 55, 56, 57, 58, 59, 60, 61, 62, 63, 64, 65, 66, 67, 68, 69, 70, 71, 72, 73, 74, 75, 76, 77, 78, 79, 80, 81, 82, 83, 84, 85, 86, 87, 88] rfl (by decide +kernel)
set_option maxRecDepth 20000 in
theorem gX12_come__X12_act : GoodIn wsX12_come_ (wsV RX12 274 RX12 yX12_act wsX12_act) := goodIn_app (goodIn_of _ (by decide +kernel)) ggX12_come__X12_act
