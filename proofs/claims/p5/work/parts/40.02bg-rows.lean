set_option maxRecDepth 20000 in
theorem ggX12_against_X12_isPlace : GoodIn wsX12_against wsX12_isPlace := goodIn_r _ [6, 7, 8, 9, 5, 10, 23, 24, 25, 26, 27, 28, 29, 30, 31, 32, 33, 34, 35, 36, 37, 38, 39, 40, 41, 42, 43, 44, 45, 46, 47, 48, 49, 50, 51, 52, 53, 54, 55, 56, 57, 58, 59, 60, 61, 62, 63, 64, 65, 66, 67, 68, 69] rfl (by decide +kernel)
set_option maxRecDepth 20000 in
theorem gX12_against_X12_isPlace : GoodIn wsX12_against (wsV RX12 250 RX12 yX12_isPlace wsX12_isPlace) := goodIn_app (goodIn_of _ (by decide +kernel)) ggX12_against_X12_isPlace
set_option maxRecDepth 20000 in
theorem ggX12_against_X12_manyOf : GoodIn wsX12_against wsX12_manyOf := goodIn_r _ [14, 7, 15, 16, 17, 5, 18, 19, 20, 21, 22, 23, 24, 25, 26, 27, 28, 29, 30, 31, 32, 33, 34, 35, 36, 37, 38, 39, 40, 41, 42, 43, 44, 45, 46, 47, 48, 49, 50, 51, 52, 53, 54, 55, 56, 57, 58, 59, 60, 61, 62, 63, 64, 65, 66, 67, 68, 69] rfl (by decide +kernel)
set_option maxRecDepth 20000 in
theorem gX12_against_X12_manyOf : GoodIn wsX12_against (wsV RX12 333 RX12 yX12_manyOf wsX12_manyOf) := goodIn_app (goodIn_of _ (by decide +kernel)) ggX12_against_X12_manyOf
set_option maxRecDepth 20000 in
theorem ggX12_missed_X12_isPlace : GoodIn wsX12_missed wsX12_isPlace := goodIn_r _ [6, 7, 8, 9, 5, 10, 23, 24, 25, 26, 27, 28, 29, 30, 31, 32, 33, 34, 35, 36, 37, 38, 39, 40, 41, 42, 43, 44, 45, 46, 47, 48, 49, 50, 51, 52, 53, 54, 55, 56, 57, 58, 59, 60, 61, 62, 63, 64, 65, 66, 67, 68, 69] rfl (by decide +kernel)
set_option maxRecDepth 20000 in
theorem gX12_missed_X12_isPlace : GoodIn wsX12_missed (wsV RX12 250 RX12 yX12_isPlace wsX12_isPlace) := goodIn_app (goodIn_of _ (by decide +kernel)) ggX12_missed_X12_isPlace
set_option maxRecDepth 20000 in
theorem ggX12_missed_X12_manyOf : GoodIn wsX12_missed wsX12_manyOf := goodIn_r _ [14, 7, 15, 16, 17, 5, 18, 19, 20, 21, 22, 23, 24, 25, 26, 27, 28, 29, 30, 31, 32, 33, 34, 35, 36, 37, 38, 39, 40, 41, 42, 43, 44, 45, 46, 47, 48, 49, 50, 51, 52, 53, 54, 55, 56, 57, 58, 59, 60, 61, 62, 63, 64, 65, 66, 67, 68, 69] rfl (by decide +kernel)
set_option maxRecDepth 20000 in
theorem gX12_missed_X12_manyOf : GoodIn wsX12_missed (wsV RX12 333 RX12 yX12_manyOf wsX12_manyOf) := goodIn_app (goodIn_of _ (by decide +kernel)) ggX12_missed_X12_manyOf
set_option maxRecDepth 20000 in
theorem ggX12_told_X12_isIn : GoodIn wsX12_told wsX12_isIn := goodIn_r _ [7] rfl (by decide +kernel)
set_option maxRecDepth 20000 in
theorem gX12_told_X12_isIn : GoodIn wsX12_told (va_wsS RX12 75 yX12_isIn wsX12_isIn) := goodIn_app (goodIn_of _ (by decide +kernel)) ggX12_told_X12_isIn
set_option maxRecDepth 20000 in
theorem ggX12_areHours_X12_isIn : GoodIn wsX12_areHours wsX12_isIn := goodIn_r _ [4] rfl (by decide +kernel)
set_option maxRecDepth 20000 in
theorem gX12_areHours_X12_isIn : GoodIn wsX12_areHours (va_wsS RX12 75 yX12_isIn wsX12_isIn) := goodIn_app (goodIn_of _ (by decide +kernel)) ggX12_areHours_X12_isIn
