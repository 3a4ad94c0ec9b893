set_option maxRecDepth 20000 in
theorem ggX12_allow_X12_act : GoodIn wsX12_allow wsX12_act := goodIn_r _ [17, 18, 19, 20, 5, 21, 7, 22, 23, 24, 25, 26, 27, 28, 29, 30, 31, 32, 33, 34, 35, 36, 37, 38, 39, 40, 41, 42, 43, 44, 45, 46, 47, 48, 49, 50, 51, 52, 53, 54, 55, 56, 57, 58, 59, 60, 61, 62, 63, 64, 65, 66, 67, 68, 69, 70, 71, 72, 73, 74, 75, 76, 77, 78, 79, 80, 81, 82, 83, 84] rfl (by decide +kernel)
set_option maxRecDepth 20000 in
theorem gX12_allow_X12_act : GoodIn wsX12_allow (wsV RX12 274 RX12 yX12_act wsX12_act) := goodIn_app (goodIn_of _ (by decide +kernel)) ggX12_allow_X12_act
set_option maxRecDepth 20000 in
theorem ggX12_forbid_X12_isPlace : GoodIn wsX12_forbid wsX12_isPlace := goodIn_r _ [6, 7, 8, 9, 5, 10, 38, 39, 40, 41, 42, 43, 44, 45, 46, 47, 48, 49, 50, 51, 52, 53, 54, 55, 56, 57, 58, 59, 60, 61, 62, 63, 64, 65, 66, 67, 68, 69, 70, 71, 72, 73, 74, 75, 76, 77, 78, 79, 80, 81, 82, 83, 84] rfl (by decide +kernel)
set_option maxRecDepth 20000 in
theorem gX12_forbid_X12_isPlace : GoodIn wsX12_forbid (wsV RX12 250 RX12 yX12_isPlace wsX12_isPlace) := goodIn_app (goodIn_of _ (by decide +kernel)) ggX12_forbid_X12_isPlace
set_option maxRecDepth 20000 in
theorem ggX12_forbid_X12_areHours : GoodIn wsX12_forbid wsX12_areHours := goodIn_r _ [13, 8, 9, 5, 10] rfl (by decide +kernel)
set_option maxRecDepth 20000 in
theorem gX12_forbid_X12_areHours : GoodIn wsX12_forbid (va_wsS RX12 271 yX12_areHours wsX12_areHours) := goodIn_app (goodIn_of _ (by decide +kernel)) ggX12_forbid_X12_areHours
set_option maxRecDepth 20000 in
theorem ggX12_forbid_X12_act : GoodIn wsX12_forbid wsX12_act := goodIn_r _ [17, 18, 19, 20, 5, 21, 7, 22, 23, 24, 25, 26, 27, 28, 29, 30, 31, 32, 33, 34, 35, 36, 37, 38, 39, 40, 41, 42, 43, 44, 45, 46, 47, 48, 49, 50, 51, 52, 53, 54, 55, 56, 57, 58, 59, 60, 61, 62, 63, 64, 65, 66, 67, 68, 69, 70, 71, 72, 73, 74, 75, 76, 77, 78, 79, 80, 81, 82, 83, 84] rfl (by decide +kernel)
set_option maxRecDepth 20000 in
theorem gX12_forbid_X12_act : GoodIn wsX12_forbid (wsV RX12 274 RX12 yX12_act wsX12_act) := goodIn_app (goodIn_of _ (by decide +kernel)) ggX12_forbid_X12_act
set_option maxRecDepth 20000 in
theorem ggX12_fence_X12_isPlace : GoodIn wsX12_fence wsX12_isPlace := goodIn_r _ [6, 7, 8, 9, 5, 10, 39, 40, 41, 42, 43, 44, 45, 46, 47, 48, 49, 50, 51, 52, 53, 54, 55, 56, 57, 58, 59, 60, 61, 62, 63, 64, 65, 66, 67, 68, 69, 70, 71, 72, 73, 74, 75, 76, 77, 78, 79, 80, 81, 82, 83, 84, 85] rfl (by decide +kernel)
set_option maxRecDepth 20000 in
theorem gX12_fence_X12_isPlace : GoodIn wsX12_fence (wsV RX12 250 RX12 yX12_isPlace wsX12_isPlace) := goodIn_app (goodIn_of _ (by decide +kernel)) ggX12_fence_X12_isPlace
set_option maxRecDepth 20000 in
theorem ggX12_fence_X12_act : GoodIn wsX12_fence wsX12_act := goodIn_r _ [14, 15, 16, 17, 5, 18, 7, 19, 20, 21, 22, 23, 24, 25, 26, 27, 28, 29, 30, 31, 32, 33, 34, 39, 40, 41, 42, 43, 44, 45, 46, 47, 48, 49, 50, 51, 52, 53, 54, 55, 56, 57, 58, 59, 60, 61, 62, 63, 64, 65, 66, 67, 68, 69, 70, 71, 72, 73, 74, 75, 76, 77, 78, 79, 80, 81, 82, 83, 84, 85] rfl (by decide +kernel)
set_option maxRecDepth 20000 in
theorem gX12_fence_X12_act : GoodIn wsX12_fence (wsV RX12 274 RX12 yX12_act wsX12_act) := goodIn_app (goodIn_of _ (by decide +kernel)) ggX12_fence_X12_act
set_option maxRecDepth 20000 in
theorem ggX12_fence_X12_isFenced : GoodIn wsX12_fence wsX12_isFenced := goodIn_r _ [38, 7, 22, 23, 5, 24, 39, 40, 41, 42, 43, 44, 45, 46, 47, 48, 49, 50, 51, 52, 53, 54, 55, 56, 57, 58, 59, 60, 61, 62, 63, 64, 65, 66, 67, 68, 69, 70, 71, 72, 73, 74, 75, 76, 77, 78, 79, 80, 81, 82, 83, 84, 85] rfl (by decide +kernel)
set_option maxRecDepth 20000 in
theorem gX12_fence_X12_isFenced : GoodIn wsX12_fence (wsV RX12 229 RX12 yX12_isFenced wsX12_isFenced) := goodIn_app (goodIn_of _ (by decide +kernel)) ggX12_fence_X12_isFenced
set_option maxRecDepth 20000 in
theorem ggX12_sign_X12_isIn : GoodIn wsX12_sign wsX12_isIn := goodIn_r _ [5] rfl (by decide +kernel)
set_option maxRecDepth 20000 in
theorem gX12_sign_X12_isIn : GoodIn wsX12_sign (va_wsS RX12 75 yX12_isIn wsX12_isIn) := goodIn_app (goodIn_of _ (by decide +kernel)) ggX12_sign_X12_isIn
