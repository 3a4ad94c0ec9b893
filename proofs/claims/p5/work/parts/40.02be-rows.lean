set_option maxRecDepth 20000 in
theorem ggX12_dog_X12_refuse : GoodIn wsX12_dog wsX12_refuse := goodIn_r _ [14, 1, 18, 19, 20, 21, 22, 23, 24, 25, 26, 27, 28, 29, 30, 31, 32, 33, 34, 35, 36, 37, 38, 39, 40, 41, 42, 43, 44, 45, 46, 47, 48, 49, 50, 51, 52, 53, 54, 55, 56, 57, 58, 59, 60, 61, 62, 63, 64] rfl (by decide +kernel)
set_option maxRecDepth 20000 in
theorem gX12_dog_X12_refuse : GoodIn wsX12_dog (wsV RX12 244 RX12 yX12_refuse wsX12_refuse) := goodIn_app (goodIn_of _ (by decide +kernel)) ggX12_dog_X12_refuse
set_option maxRecDepth 20000 in
theorem ggX12_place_X12_isPlace : GoodIn wsX12_place wsX12_isPlace := goodIn_r _ [7, 2, 8, 9, 6, 10, 18, 19, 20, 21, 22, 23, 24, 25, 26, 27, 28, 29, 30, 31, 32, 33, 34, 35, 36, 37, 38, 39, 40, 41, 42, 43, 44, 45, 46, 47, 48, 49, 50, 51, 52, 53, 54, 55, 56, 57, 58, 59, 60, 61, 62, 63, 64] rfl (by decide +kernel)
set_option maxRecDepth 20000 in
theorem gX12_place_X12_isPlace : GoodIn wsX12_place (wsV RX12 250 RX12 yX12_isPlace wsX12_isPlace) := goodIn_app (goodIn_of _ (by decide +kernel)) ggX12_place_X12_isPlace
set_option maxRecDepth 20000 in
theorem ggX12_place_X12_isFenced : GoodIn wsX12_place wsX12_isFenced := goodIn_r _ [14, 2, 15, 16, 6, 17, 18, 19, 20, 21, 22, 23, 24, 25, 26, 27, 28, 29, 30, 31, 32, 33, 34, 35, 36, 37, 38, 39, 40, 41, 42, 43, 44, 45, 46, 47, 48, 49, 50, 51, 52, 53, 54, 55, 56, 57, 58, 59, 60, 61, 62, 63, 64] rfl (by decide +kernel)
set_option maxRecDepth 20000 in
theorem gX12_place_X12_isFenced : GoodIn wsX12_place (wsV RX12 229 RX12 yX12_isFenced wsX12_isFenced) := goodIn_app (goodIn_of _ (by decide +kernel)) ggX12_place_X12_isFenced
set_option maxRecDepth 20000 in
theorem ggX12_now_X12_awaySet : GoodIn wsX12_now wsX12_awaySet := goodIn_r _ [7, 2, 8, 9, 10, 6, 11, 45, 46, 47, 48, 49, 50, 51, 52, 53, 54, 55, 56, 57, 58, 59, 60, 61, 62, 63, 64, 65, 66, 67, 68, 69, 70, 71, 72, 73, 74, 75, 76, 77, 78, 79, 80, 81, 82, 83, 84, 85, 86, 87, 88, 89, 90, 91] rfl (by decide +kernel)
set_option maxRecDepth 20000 in
theorem gX12_now_X12_awaySet : GoodIn wsX12_now (wsV RX12 253 RX12 yX12_awaySet wsX12_awaySet) := goodIn_app (goodIn_of _ (by decide +kernel)) ggX12_now_X12_awaySet
set_option maxRecDepth 20000 in
theorem ggX12_now_X12_goodAll : GoodIn wsX12_now wsX12_goodAll := goodIn_r _ [15, 2, 8, 9, 10, 6, 11, 16, 17, 18, 19, 20, 21, 22, 23, 24, 25, 26, 27, 28, 29, 30, 31, 32, 33, 34, 35, 36, 37, 38, 39, 40, 41, 42, 43, 44, 45, 46, 47, 48, 49, 50, 51, 52, 53, 54, 55, 56, 57, 58, 59, 60, 61, 62, 63, 64, 65, 66, 67, 68, 69, 70, 71, 72, 73, 74, 75, 76, 77, 78, 79, 80, 81, 82, 83, 84, 85, 86, 87, 88, 89, 90, 91] rfl (by decide +kernel)
set_option maxRecDepth 20000 in
theorem gX12_now_X12_goodAll : GoodIn wsX12_now (wsV RX12 256 RX12 yX12_goodAll wsX12_goodAll) := goodIn_app (goodIn_of _ (by decide +kernel)) ggX12_now_X12_goodAll
set_option maxRecDepth 20000 in
theorem ggX12_there_X12_isPlace : GoodIn wsX12_there wsX12_isPlace := goodIn_r _ [7, 2, 8, 9, 6, 10, 29, 30, 31, 32, 33, 34, 35, 36, 37, 38, 39, 40, 41, 42, 43, 44, 45, 46, 47, 48, 49, 50, 51, 52, 53, 54, 55, 56, 57, 58, 59, 60, 61, 62, 63, 64, 65, 66, 67, 68, 69, 70, 71, 72, 73, 74, 75] rfl (by decide +kernel)
set_option maxRecDepth 20000 in
theorem gX12_there_X12_isPlace : GoodIn wsX12_there (wsV RX12 250 RX12 yX12_isPlace wsX12_isPlace) := goodIn_app (goodIn_of _ (by decide +kernel)) ggX12_there_X12_isPlace
set_option maxRecDepth 20000 in
theorem ggX12_there_X12_isIn : GoodIn wsX12_there wsX12_isIn := goodIn_r _ [10] rfl (by decide +kernel)
set_option maxRecDepth 20000 in
theorem gX12_there_X12_isIn : GoodIn wsX12_there (va_wsS RX12 75 yX12_isIn wsX12_isIn) := goodIn_app (goodIn_of _ (by decide +kernel)) ggX12_there_X12_isIn
set_option maxRecDepth 20000 in
theorem ggX12_there_X12_isAway : GoodIn wsX12_there wsX12_isAway := goodIn_r _ [14, 2, 29, 30, 31, 32, 33, 34, 35, 36, 37, 38, 39, 40, 41, 42, 43, 44, 45, 46, 47, 48, 49, 50, 51, 52, 53, 54, 55, 56, 57, 58, 59, 60, 61, 62, 63, 64, 65, 66, 67, 68, 69, 70, 71, 72, 73, 74, 75] rfl (by decide +kernel)
set_option maxRecDepth 20000 in
theorem gX12_there_X12_isAway : GoodIn wsX12_there (wsV RX12 235 RX12 yX12_isAway wsX12_isAway) := goodIn_app (goodIn_of _ (by decide +kernel)) ggX12_there_X12_isAway
