set_option maxRecDepth 20000 in
theorem ggX4_goodOf_X4_goodIf : GoodIn wsX4_goodOf wsX4_goodIf := goodIn_r _ [24, 9, 11, 12, 13, 14, 15, 16, 17, 18, 19, 20, 25, 26, 27, 28, 29, 30, 31, 32, 33, 34, 35, 36, 37, 38, 39, 40, 41, 42, 43, 51, 52, 53, 54, 55, 56, 57, 58, 59] rfl (by decide +kernel)
set_option maxRecDepth 20000 in
theorem gX4_goodOf_X4_goodIf : GoodIn wsX4_goodOf (wsV RX4 118 RX4 yX4_goodIf wsX4_goodIf) := goodIn_app (goodIn_of _ (by decide +kernel)) ggX4_goodOf_X4_goodIf
set_option maxRecDepth 20000 in
theorem ggX4_goodOfAll_X4_goodOf : GoodIn wsX4_goodOfAll wsX4_goodOf := goodIn_r _ [7, 8, 9, 10, 11, 6, 12, 13, 14, 2, 15, 16, 17, 18, 19, 20, 21, 22, 23, 24, 25, 26, 27, 28, 29, 30, 31, 32, 33, 34, 35, 36, 37, 38, 39, 40, 41, 42, 43, 44, 45, 46, 47, 48, 58, 59, 60, 61, 62, 63, 64, 49, 50, 51, 52, 53, 54, 55, 56, 57] rfl (by decide +kernel)
set_option maxRecDepth 20000 in
theorem gX4_goodOfAll_X4_goodOf : GoodIn wsX4_goodOfAll (wsV RX4 127 RX4 yX4_goodOf wsX4_goodOf) := goodIn_app (goodIn_of _ (by decide +kernel)) ggX4_goodOfAll_X4_goodOf
