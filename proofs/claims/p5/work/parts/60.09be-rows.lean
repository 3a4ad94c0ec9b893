set_option maxRecDepth 20000 in
theorem ggX11_place_X4_comersTo : GoodIn wsX11_place wsX4_comersTo := goodIn_r _ [11, 12, 13, 33, 34, 35, 36, 37, 38, 39, 40, 41, 42, 43, 44, 45, 46, 47, 48, 49, 50, 51, 52, 53] rfl (by decide +kernel)
set_option maxRecDepth 20000 in
theorem gX11_place_X4_comersTo : GoodIn wsX11_place (wsV RX11 208 RX4 yX4_comersTo wsX4_comersTo) := goodIn_app (goodIn_of _ (by decide +kernel)) ggX11_place_X4_comersTo
set_option maxRecDepth 20000 in
theorem ggX11_now_X4_awayBits : GoodIn wsX11_now wsX4_awayBits := goodIn_r _ [6, 7, 8, 69, 70, 71, 72, 73, 74, 75, 76, 77, 78, 79, 80, 81, 82, 83, 84, 85, 86, 87, 88, 89] rfl (by decide +kernel)
set_option maxRecDepth 20000 in
theorem gX11_now_X4_awayBits : GoodIn wsX11_now (wsV RX11 215 RX4 yX4_awayBits wsX4_awayBits) := goodIn_app (goodIn_of _ (by decide +kernel)) ggX11_now_X4_awayBits
set_option maxRecDepth 20000 in
theorem ggX11_now_X4_goodOfAll : GoodIn wsX11_now wsX4_goodOfAll := goodIn_r _ [12, 7, 8, 13, 14, 15, 5, 16, 17, 18, 19, 20, 21, 22, 23, 24, 25, 26, 27, 28, 29, 30, 31, 32, 33, 34, 35, 36, 37, 38, 39, 40, 41, 42, 43, 44, 45, 69, 70, 71, 72, 73, 74, 75, 76, 77, 78, 79, 80, 81, 82, 83, 84, 85, 86, 87, 88, 89, 90, 91, 92, 93, 94, 95, 96] rfl (by decide +kernel)
set_option maxRecDepth 20000 in
theorem gX11_now_X4_goodOfAll : GoodIn wsX11_now (wsV RX11 226 RX4 yX4_goodOfAll wsX4_goodOfAll) := goodIn_app (goodIn_of _ (by decide +kernel)) ggX11_now_X4_goodOfAll
set_option maxRecDepth 20000 in
theorem ggX11_now_X4_heldBits : GoodIn wsX11_now wsX4_heldBits := goodIn_r _ [49, 22, 24, 69, 70, 71, 72, 73, 74, 75, 76, 77, 78, 79, 80, 90, 91, 92, 93, 94, 95, 96] rfl (by decide +kernel)
set_option maxRecDepth 20000 in
theorem gX11_now_X4_heldBits : GoodIn wsX11_now (wsV RX11 230 RX4 yX4_heldBits wsX4_heldBits) := goodIn_app (goodIn_of _ (by decide +kernel)) ggX11_now_X4_heldBits
set_option maxRecDepth 20000 in
theorem ggX11_allow_X4_hasPlace : GoodIn wsX11_allow wsX4_hasPlace := goodIn_r _ [7, 8, 99, 100, 101, 102, 103, 104, 105, 106, 107, 108, 109, 110] rfl (by decide +kernel)
set_option maxRecDepth 20000 in
theorem gX11_allow_X4_hasPlace : GoodIn wsX11_allow (wsV RX11 199 RX4 yX4_hasPlace wsX4_hasPlace) := goodIn_app (goodIn_of _ (by decide +kernel)) ggX11_allow_X4_hasPlace
set_option maxRecDepth 20000 in
theorem ggX11_allow_X11_areHours : GoodIn wsX11_allow wsX11_areHours := goodIn_r _ [12] rfl (by decide +kernel)
set_option maxRecDepth 20000 in
theorem gX11_allow_X11_areHours : GoodIn wsX11_allow (va_wsS RX11 233 yX11_areHours wsX11_areHours) := goodIn_app (goodIn_of _ (by decide +kernel)) ggX11_allow_X11_areHours
set_option maxRecDepth 20000 in
theorem ggX11_allow_X3_mark : GoodIn wsX11_allow wsX3_mark := goodIn_r _ [17, 18, 19, 20, 21, 22, 6, 23, 8, 24, 25, 26, 27, 28, 29, 30, 31, 32, 33, 34, 35, 36, 37, 38, 39, 40, 41, 42, 43, 44, 45, 46, 47, 48, 49, 50, 51, 52, 53, 54, 55, 56, 57, 58, 59, 60, 111, 112, 113, 99, 100, 101, 102, 103, 104, 105, 106, 107, 108, 109, 110, 114, 115, 116, 117, 118, 119, 120, 121, 122, 123, 124, 125, 126, 127, 128, 129] rfl (by decide +kernel)
set_option maxRecDepth 20000 in
theorem gX11_allow_X3_mark : GoodIn wsX11_allow (wsV RX11 237 RX3 yX3_mark wsX3_mark) := goodIn_app (goodIn_of _ (by decide +kernel)) ggX11_allow_X3_mark
set_option maxRecDepth 20000 in
theorem ggX11_allow_X4_allowHours : GoodIn wsX11_allow wsX4_allowHours := goodIn_r _ [64, 31, 65, 11, 66, 99, 100, 101, 102, 103, 104, 105, 106, 107, 108, 109, 110] rfl (by decide +kernel)
set_option maxRecDepth 20000 in
theorem gX11_allow_X4_allowHours : GoodIn wsX11_allow (wsV RX11 240 RX4 yX4_allowHours wsX4_allowHours) := goodIn_app (goodIn_of _ (by decide +kernel)) ggX11_allow_X4_allowHours
