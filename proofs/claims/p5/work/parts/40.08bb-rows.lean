set_option maxRecDepth 20000 in
theorem ggX12_holds_X12_isAway : GoodIn wsX12_holds wsX12_isAway := goodIn_r _ [9, 1, 43, 44, 45, 46, 47, 48, 49, 50, 51, 52, 53, 54, 55, 56, 57, 58, 59, 60, 61, 62, 63, 64, 65, 66, 67, 68, 69, 70, 71, 72, 73, 74, 75, 76, 77, 78, 79, 80, 81, 82, 83, 84, 85, 86, 87, 88, 89] rfl (by decide +kernel)
set_option maxRecDepth 20000 in
theorem gX12_holds_X12_isAway : GoodIn wsX12_holds (wsV RX12 235 RX12 yX12_isAway wsX12_isAway) := goodIn_app (goodIn_of _ (by decide +kernel)) ggX12_holds_X12_isAway
set_option maxRecDepth 20000 in
theorem ggX12_holds_X12_dogsOf : GoodIn wsX12_holds wsX12_dogsOf := goodIn_r _ [13, 1, 43, 44, 45, 46, 47, 48, 49, 50, 51, 52, 53, 54, 55, 56, 57, 58, 59, 60, 61, 62, 63, 64, 65, 66, 67, 68, 69, 70, 71, 72, 73, 74, 75, 76, 77, 78, 79, 80, 81, 82, 83, 84, 85, 86, 87, 88, 89] rfl (by decide +kernel)
set_option maxRecDepth 20000 in
theorem gX12_holds_X12_dogsOf : GoodIn wsX12_holds (wsV RX12 223 RX12 yX12_dogsOf wsX12_dogsOf) := goodIn_app (goodIn_of _ (by decide +kernel)) ggX12_holds_X12_dogsOf
set_option maxRecDepth 20000 in
theorem ggX12_holds_X12_meetsIn : GoodIn wsX12_holds wsX12_meetsIn := goodIn_r _ [17, 1, 18, 19, 20, 5, 21, 22, 23, 24, 43, 44, 45, 46, 47, 48, 49, 50, 51, 52, 53, 54, 55, 56, 57, 58, 59, 60, 61, 62, 63, 64, 65, 66, 67, 68, 69, 70, 71, 72, 73, 74, 75, 76, 77, 78, 79, 80, 81, 82, 83, 84, 85, 86, 87, 88, 89] rfl (by decide +kernel)
set_option maxRecDepth 20000 in
theorem gX12_holds_X12_meetsIn : GoodIn wsX12_holds (wsV RX12 306 RX12 yX12_meetsIn wsX12_meetsIn) := goodIn_app (goodIn_of _ (by decide +kernel)) ggX12_holds_X12_meetsIn
set_option maxRecDepth 20000 in
theorem ggX12_holds_X12_goodOf : GoodIn wsX12_holds wsX12_goodOf := goodIn_r _ [28, 1, 10, 11, 12, 5, 13, 18, 19, 20, 21, 22, 23, 24, 29, 30, 31, 32, 33, 34, 35, 36, 37, 38, 39, 40, 41, 42, 43, 44, 45, 46, 47, 48, 49, 50, 51, 52, 53, 54, 55, 56, 57, 58, 59, 60, 61, 62, 63, 64, 65, 66, 67, 68, 69, 70, 71, 72, 73, 74, 75, 76, 77, 78, 79, 80, 81, 82, 83, 84, 85, 86, 87, 88, 89] rfl (by decide +kernel)
set_option maxRecDepth 20000 in
theorem gX12_holds_X12_goodOf : GoodIn wsX12_holds (wsV RX12 238 RX12 yX12_goodOf wsX12_goodOf) := goodIn_app (goodIn_of _ (by decide +kernel)) ggX12_holds_X12_goodOf
set_option maxRecDepth 20000 in
theorem ggX12_holds_X12_holds : GoodIn wsX12_holds wsX12_holds := goodIn_r _ [0, 1, 2, 3, 4, 5, 6, 7, 8, 9, 10, 11, 12, 13, 14, 15, 16, 17, 18, 19, 20, 21, 22, 23, 24, 25, 26, 27, 28, 29, 30, 31, 32, 33, 34, 35, 36, 37, 38, 39, 40, 41, 42, 43, 44, 45, 46, 47, 48, 49, 50, 51, 52, 53, 54, 55, 56, 57, 58, 59, 60, 61, 62, 63, 64, 65, 66, 67, 68, 69, 70, 71, 72, 73, 74, 75, 76, 77, 78, 79, 80, 81, 82, 83, 84, 85, 86, 87, 88, 89] rfl (by decide +kernel)
set_option maxRecDepth 20000 in
theorem gX12_holds_X12_holds : GoodIn wsX12_holds (wsV RX12 436 RX12 yX12_holds wsX12_holds) := goodIn_app (goodIn_of _ (by decide +kernel)) ggX12_holds_X12_holds
set_option maxRecDepth 20000 in
theorem ggX12_said_X12_holds : GoodIn wsX12_said wsX12_holds := goodIn_r _ [7, 2, 3, 4, 5, 6, 8, 9, 10, 11, 12, 13, 14, 15, 16, 17, 18, 19, 20, 21, 22, 23, 24, 25, 26, 27, 28, 29, 30, 31, 32, 33, 34, 35, 36, 37, 38, 39, 40, 41, 42, 43, 44, 45, 46, 47, 48, 49, 50, 51, 52, 53, 54, 55, 56, 57, 58, 59, 60, 61, 62, 63, 64, 65, 66, 67, 68, 69, 70, 71, 72, 73, 74, 75, 76, 77, 78, 79, 80, 81, 82, 83, 84, 85, 86, 87, 88, 89, 90, 91] rfl (by decide +kernel)
set_option maxRecDepth 20000 in
theorem gX12_said_X12_holds : GoodIn wsX12_said (wsV RX12 436 RX12 yX12_holds wsX12_holds) := goodIn_app (goodIn_of _ (by decide +kernel)) ggX12_said_X12_holds
set_option maxRecDepth 20000 in
theorem ggX12_image_X12_isIn : GoodIn wsX12_image wsX12_isIn := goodIn_r _ [10] rfl (by decide +kernel)
set_option maxRecDepth 20000 in
theorem gX12_image_X12_isIn : GoodIn wsX12_image (va_wsS RX12 75 yX12_isIn wsX12_isIn) := goodIn_app (goodIn_of _ (by decide +kernel)) ggX12_image_X12_isIn
set_option maxRecDepth 20000 in
theorem ggX12_restore_X12_isIn : GoodIn wsX12_restore wsX12_isIn := goodIn_r _ [11] rfl (by decide +kernel)
set_option maxRecDepth 20000 in
theorem gX12_restore_X12_isIn : GoodIn wsX12_restore (va_wsS RX12 75 yX12_isIn wsX12_isIn) := goodIn_app (goodIn_of _ (by decide +kernel)) ggX12_restore_X12_isIn
