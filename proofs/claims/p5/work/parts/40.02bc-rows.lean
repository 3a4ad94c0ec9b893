set_option maxRecDepth 20000 in
theorem ggX12_dogHours_X12_has : GoodIn wsX12_dogHours wsX12_has := goodIn_r _ [5] rfl (by decide +kernel)
set_option maxRecDepth 20000 in
theorem gX12_dogHours_X12_has : GoodIn wsX12_dogHours (va_wsS RX12 217 yX12_has wsX12_has) := goodIn_app (goodIn_of _ (by decide +kernel)) ggX12_dogHours_X12_has
set_option maxRecDepth 20000 in
theorem ggX12_dogHours_X12_hoursOf : GoodIn wsX12_dogHours wsX12_hoursOf := goodIn_r _ [9, 1, 10, 11, 4, 12, 13, 14, 15, 16, 17, 18, 19, 20, 21, 22, 23, 24, 25, 26, 27, 28, 29, 30, 31, 32, 33, 34, 35, 36, 37, 38, 39, 40, 41, 42, 43, 44, 45, 46, 47, 48, 49, 50, 51, 52, 53, 54, 55, 56, 57, 58, 59] rfl (by decide +kernel)
set_option maxRecDepth 20000 in
theorem gX12_dogHours_X12_hoursOf : GoodIn wsX12_dogHours (wsV RX12 220 RX12 yX12_hoursOf wsX12_hoursOf) := goodIn_app (goodIn_of _ (by decide +kernel)) ggX12_dogHours_X12_hoursOf
set_option maxRecDepth 20000 in
theorem ggX12_goodOf_X12_dogsOf : GoodIn wsX12_goodOf wsX12_dogsOf := goodIn_r _ [6, 1, 28, 29, 30, 31, 32, 33, 34, 35, 36, 37, 38, 39, 40, 41, 42, 43, 44, 45, 46, 47, 48, 49, 50, 51, 52, 53, 54, 55, 56, 57, 58, 59, 60, 61, 62, 63, 64, 65, 66, 67, 68, 69, 70, 71, 72, 73, 74] rfl (by decide +kernel)
set_option maxRecDepth 20000 in
theorem gX12_goodOf_X12_dogsOf : GoodIn wsX12_goodOf (wsV RX12 223 RX12 yX12_dogsOf wsX12_dogsOf) := goodIn_app (goodIn_of _ (by decide +kernel)) ggX12_goodOf_X12_dogsOf
set_option maxRecDepth 20000 in
theorem ggX12_goodOf_X12_isFenced : GoodIn wsX12_goodOf wsX12_isFenced := goodIn_r _ [20, 1, 21, 22, 5, 23, 28, 29, 30, 31, 32, 33, 34, 35, 36, 37, 38, 39, 40, 41, 42, 43, 44, 45, 46, 47, 48, 49, 50, 51, 52, 53, 54, 55, 56, 57, 58, 59, 60, 61, 62, 63, 64, 65, 66, 67, 68, 69, 70, 71, 72, 73, 74] rfl (by decide +kernel)
set_option maxRecDepth 20000 in
theorem gX12_goodOf_X12_isFenced : GoodIn wsX12_goodOf (wsV RX12 229 RX12 yX12_isFenced wsX12_isFenced) := goodIn_app (goodIn_of _ (by decide +kernel)) ggX12_goodOf_X12_isFenced
set_option maxRecDepth 20000 in
theorem ggX12_goodOf_X12_hoursOf : GoodIn wsX12_goodOf wsX12_hoursOf := goodIn_r _ [10, 1, 11, 12, 5, 13, 28, 29, 30, 31, 32, 33, 34, 35, 36, 37, 38, 39, 40, 41, 42, 43, 44, 45, 46, 47, 48, 49, 50, 51, 52, 53, 54, 55, 56, 57, 58, 59, 60, 61, 62, 63, 64, 65, 66, 67, 68, 69, 70, 71, 72, 73, 74] rfl (by decide +kernel)
set_option maxRecDepth 20000 in
theorem gX12_goodOf_X12_hoursOf : GoodIn wsX12_goodOf (wsV RX12 220 RX12 yX12_hoursOf wsX12_hoursOf) := goodIn_app (goodIn_of _ (by decide +kernel)) ggX12_goodOf_X12_hoursOf
set_option maxRecDepth 20000 in
theorem ggX12_goodOf_X12_bits : GoodIn wsX12_goodOf wsX12_bits := goodIn_r _ [16] rfl (by decide +kernel)
set_option maxRecDepth 20000 in
theorem gX12_goodOf_X12_bits : GoodIn wsX12_goodOf (va_wsS RX12 226 yX12_bits wsX12_bits) := goodIn_app (goodIn_of _ (by decide +kernel)) ggX12_goodOf_X12_bits
set_option maxRecDepth 20000 in
theorem ggX12_goodOf_X12_dogHours : GoodIn wsX12_goodOf wsX12_dogHours := goodIn_r _ [27, 1, 21, 22, 5, 23, 7, 8, 9, 10, 11, 12, 13, 28, 29, 30, 31, 32, 33, 34, 35, 36, 37, 38, 39, 40, 41, 42, 43, 44, 45, 46, 47, 48, 49, 50, 51, 52, 53, 54, 55, 56, 57, 58, 59, 60, 61, 62, 63, 64, 65, 66, 67, 68, 69, 70, 71, 72, 73, 74] rfl (by decide +kernel)
set_option maxRecDepth 20000 in
theorem gX12_goodOf_X12_dogHours : GoodIn wsX12_goodOf (wsV RX12 232 RX12 yX12_dogHours wsX12_dogHours) := goodIn_app (goodIn_of _ (by decide +kernel)) ggX12_goodOf_X12_dogHours
set_option maxRecDepth 20000 in
theorem ggX12_goodAll_X12_goodOf : GoodIn wsX12_goodAll wsX12_goodOf := goodIn_r _ [10, 1, 11, 12, 13, 5, 14, 15, 16, 17, 18, 19, 20, 21, 22, 23, 24, 25, 26, 27, 28, 29, 30, 31, 32, 33, 34, 35, 36, 37, 38, 39, 40, 41, 42, 43, 44, 45, 46, 47, 48, 49, 50, 51, 52, 53, 54, 55, 56, 57, 58, 59, 60, 61, 62, 63, 64, 65, 66, 67, 68, 69, 70, 71, 72, 73, 74, 75, 76, 77, 78, 79, 80, 81, 82] rfl (by decide +kernel)
set_option maxRecDepth 20000 in
theorem gX12_goodAll_X12_goodOf : GoodIn wsX12_goodAll (wsV RX12 238 RX12 yX12_goodOf wsX12_goodOf) := goodIn_app (goodIn_of _ (by decide +kernel)) ggX12_goodAll_X12_goodOf
