set_option maxRecDepth 20000 in
theorem ggX12_best_X12_isPlace : GoodIn wsX12_best wsX12_isPlace := goodIn_r _ [9, 2, 10, 11, 8, 12, 50, 51, 52, 53, 54, 55, 56, 57, 58, 59, 60, 61, 62, 63, 64, 65, 66, 67, 68, 69, 70, 71, 72, 73, 74, 75, 76, 77, 78, 79, 80, 81, 82, 83, 84, 85, 86, 87, 88, 89, 90, 91, 92, 93, 94, 95, 96] rfl (by decide +kernel)
set_option maxRecDepth 20000 in
theorem gX12_best_X12_isPlace : GoodIn wsX12_best (wsV RX12 250 RX12 yX12_isPlace wsX12_isPlace) := goodIn_app (goodIn_of _ (by decide +kernel)) ggX12_best_X12_isPlace
set_option maxRecDepth 20000 in
theorem ggX12_best_X12_isIn : GoodIn wsX12_best wsX12_isIn := goodIn_r _ [12] rfl (by decide +kernel)
set_option maxRecDepth 20000 in
theorem gX12_best_X12_isIn : GoodIn wsX12_best (va_wsS RX12 75 yX12_isIn wsX12_isIn) := goodIn_app (goodIn_of _ (by decide +kernel)) ggX12_best_X12_isIn
set_option maxRecDepth 20000 in
theorem ggX12_best_X12_goodAll : GoodIn wsX12_best wsX12_goodAll := goodIn_r _ [16, 2, 17, 18, 19, 8, 20, 21, 22, 23, 24, 25, 26, 27, 28, 29, 30, 31, 32, 33, 34, 35, 36, 37, 38, 39, 40, 41, 42, 43, 44, 45, 46, 47, 48, 49, 50, 51, 52, 53, 54, 55, 56, 57, 58, 59, 60, 61, 62, 63, 64, 65, 66, 67, 68, 69, 70, 71, 72, 73, 74, 75, 76, 77, 78, 79, 80, 81, 82, 83, 84, 85, 86, 87, 88, 89, 90, 91, 92, 93, 94, 95, 96] rfl (by decide +kernel)
set_option maxRecDepth 20000 in
theorem gX12_best_X12_goodAll : GoodIn wsX12_best (wsV RX12 256 RX12 yX12_goodAll wsX12_goodAll) := goodIn_app (goodIn_of _ (by decide +kernel)) ggX12_best_X12_goodAll
set_option maxRecDepth 20000 in
theorem ggX12_best_X12_hoursIn : GoodIn wsX12_best wsX12_hoursIn := goodIn_r _ [35] rfl (by decide +kernel)
set_option maxRecDepth 20000 in
theorem gX12_best_X12_hoursIn : GoodIn wsX12_best (va_wsS RX12 185 yX12_hoursIn wsX12_hoursIn) := goodIn_app (goodIn_of _ (by decide +kernel)) ggX12_best_X12_hoursIn
set_option maxRecDepth 20000 in
theorem ggX12_fences_X12_goodAll : GoodIn wsX12_fences wsX12_goodAll := goodIn_r _ [7, 2, 8, 9, 10, 6, 11, 12, 13, 14, 15, 16, 17, 18, 19, 20, 21, 22, 23, 24, 25, 26, 27, 28, 29, 30, 31, 32, 33, 34, 35, 36, 37, 38, 39, 40, 41, 42, 43, 44, 45, 46, 47, 48, 49, 50, 51, 52, 53, 54, 55, 56, 57, 58, 59, 60, 61, 62, 63, 64, 65, 66, 67, 68, 69, 70, 71, 72, 73, 74, 75, 76, 77, 78, 79, 80, 81, 82, 83, 84, 85, 86, 87] rfl (by decide +kernel)
set_option maxRecDepth 20000 in
theorem gX12_fences_X12_goodAll : GoodIn wsX12_fences (wsV RX12 256 RX12 yX12_goodAll wsX12_goodAll) := goodIn_app (goodIn_of _ (by decide +kernel)) ggX12_fences_X12_goodAll
set_option maxRecDepth 20000 in
theorem ggX12_goesElsewhere_X12_goodOf : GoodIn wsX12_goesElsewhere wsX12_goodOf := goodIn_r _ [6, 1, 7, 8, 9, 5, 10, 11, 12, 13, 14, 15, 16, 17, 18, 19, 20, 21, 22, 23, 24, 25, 26, 27, 28, 29, 30, 31, 32, 33, 34, 35, 36, 37, 38, 39, 40, 41, 42, 43, 44, 45, 46, 47, 48, 49, 50, 51, 52, 53, 54, 55, 56, 57, 58, 59, 60, 61, 62, 63, 64, 65, 66, 67, 68, 69, 70, 71, 72, 73, 74, 75, 76, 77, 78] rfl (by decide +kernel)
set_option maxRecDepth 20000 in
theorem gX12_goesElsewhere_X12_goodOf : GoodIn wsX12_goesElsewhere (wsV RX12 238 RX12 yX12_goodOf wsX12_goodOf) := goodIn_app (goodIn_of _ (by decide +kernel)) ggX12_goesElsewhere_X12_goodOf
set_option maxRecDepth 20000 in
theorem ggX12_rounds_X12_goodAll : GoodIn wsX12_rounds wsX12_goodAll := goodIn_r _ [45, 3, 46, 47, 48, 11, 49, 13, 14, 15, 16, 17, 18, 19, 20, 21, 22, 23, 24, 25, 26, 27, 28, 29, 30, 31, 32, 33, 34, 35, 36, 37, 38, 39, 40, 41, 50, 51, 52, 53, 54, 55, 56, 57, 58, 59, 60, 61, 62, 63, 64, 65, 66, 67, 68, 69, 70, 71, 72, 73, 74, 75, 76, 77, 78, 79, 80, 81, 82, 83, 84, 85, 86, 87, 88, 89, 90, 91, 92, 93, 94, 95, 96] rfl (by decide +kernel)
set_option maxRecDepth 20000 in
theorem gX12_rounds_X12_goodAll : GoodIn wsX12_rounds (wsV RX12 256 RX12 yX12_goodAll wsX12_goodAll) := goodIn_app (goodIn_of _ (by decide +kernel)) ggX12_rounds_X12_goodAll
set_option maxRecDepth 20000 in
theorem ggX12_rounds_X12_goesElsewhere : GoodIn wsX12_rounds wsX12_goesElsewhere := goodIn_r _ [12, 3, 13, 14, 15, 11, 16, 17, 18, 19, 20, 21, 22, 23, 24, 25, 26, 27, 28, 29, 30, 31, 32, 33, 34, 35, 36, 37, 38, 39, 40, 41, 50, 51, 52, 53, 54, 55, 56, 57, 58, 59, 60, 61, 62, 63, 64, 65, 66, 67, 68, 69, 70, 71, 72, 73, 74, 75, 76, 77, 78, 79, 80, 81, 82, 83, 84, 85, 86, 87, 88, 89, 90, 91, 92, 93, 94, 95, 96] rfl (by decide +kernel)
set_option maxRecDepth 20000 in
theorem gX12_rounds_X12_goesElsewhere : GoodIn wsX12_rounds (wsV RX12 324 RX12 yX12_goesElsewhere wsX12_goesElsewhere) := goodIn_app (goodIn_of _ (by decide +kernel)) ggX12_rounds_X12_goesElsewhere
