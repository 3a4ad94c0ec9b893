set_option maxRecDepth 20000 in
theorem ggX11_allow_X11_keepIfDone : GoodIn wsX11_allow wsX11_keepIfDone := goodIn_r _ [70, 2, 71, 72, 73, 16, 74, 19, 75, 76, 77, 78, 79, 80, 81, 82, 83, 84, 85, 86, 87, 88, 89, 90, 91, 92, 93, 94, 95, 96, 97, 98, 111, 112, 113] rfl (by decide +kernel)
set_option maxRecDepth 20000 in
theorem gX11_allow_X11_keepIfDone : GoodIn wsX11_allow (wsV RX11 244 RX11 yX11_keepIfDone wsX11_keepIfDone) := goodIn_app (goodIn_of _ (by decide +kernel)) ggX11_allow_X11_keepIfDone
set_option maxRecDepth 20000 in
theorem ggX11_forbid_X4_hasPlace : GoodIn wsX11_forbid wsX4_hasPlace := goodIn_r _ [7, 8, 99, 100, 101, 102, 103, 104, 105, 106, 107, 108, 109, 110] rfl (by decide +kernel)
set_option maxRecDepth 20000 in
theorem gX11_forbid_X4_hasPlace : GoodIn wsX11_forbid (wsV RX11 199 RX4 yX4_hasPlace wsX4_hasPlace) := goodIn_app (goodIn_of _ (by decide +kernel)) ggX11_forbid_X4_hasPlace
set_option maxRecDepth 20000 in
theorem ggX11_forbid_X11_areHours : GoodIn wsX11_forbid wsX11_areHours := goodIn_r _ [12] rfl (by decide +kernel)
set_option maxRecDepth 20000 in
theorem gX11_forbid_X11_areHours : GoodIn wsX11_forbid (va_wsS RX11 233 yX11_areHours wsX11_areHours) := goodIn_app (goodIn_of _ (by decide +kernel)) ggX11_forbid_X11_areHours
set_option maxRecDepth 20000 in
theorem ggX11_forbid_X3_mark : GoodIn wsX11_forbid wsX3_mark := goodIn_r _ [17, 18, 19, 20, 21, 22, 6, 23, 8, 24, 25, 26, 27, 28, 29, 30, 31, 32, 33, 34, 35, 36, 37, 38, 39, 40, 41, 42, 43, 44, 45, 46, 47, 48, 49, 50, 51, 52, 53, 54, 55, 56, 57, 58, 59, 60, 111, 112, 113, 99, 100, 101, 102, 103, 104, 105, 106, 107, 108, 109, 110, 114, 115, 116, 117, 118, 119, 120, 121, 122, 123, 124, 125, 126, 127, 128, 129] rfl (by decide +kernel)
set_option maxRecDepth 20000 in
theorem gX11_forbid_X3_mark : GoodIn wsX11_forbid (wsV RX11 237 RX3 yX3_mark wsX3_mark) := goodIn_app (goodIn_of _ (by decide +kernel)) ggX11_forbid_X3_mark
set_option maxRecDepth 20000 in
theorem ggX11_forbid_X4_forbidHours : GoodIn wsX11_forbid wsX4_forbidHours := goodIn_r _ [64, 31, 65, 11, 66, 99, 100, 101, 102, 103, 104, 105, 106, 107, 108, 109, 110] rfl (by decide +kernel)
set_option maxRecDepth 20000 in
theorem gX11_forbid_X4_forbidHours : GoodIn wsX11_forbid (wsV RX11 247 RX4 yX4_forbidHours wsX4_forbidHours) := goodIn_app (goodIn_of _ (by decide +kernel)) ggX11_forbid_X4_forbidHours
set_option maxRecDepth 20000 in
theorem ggX11_forbid_X11_keepIfDone : GoodIn wsX11_forbid wsX11_keepIfDone := goodIn_r _ [70, 2, 71, 72, 73, 16, 74, 19, 75, 76, 77, 78, 79, 80, 81, 82, 83, 84, 85, 86, 87, 88, 89, 90, 91, 92, 93, 94, 95, 96, 97, 98, 111, 112, 113] rfl (by decide +kernel)
set_option maxRecDepth 20000 in
theorem gX11_forbid_X11_keepIfDone : GoodIn wsX11_forbid (wsV RX11 244 RX11 yX11_keepIfDone wsX11_keepIfDone) := goodIn_app (goodIn_of _ (by decide +kernel)) ggX11_forbid_X11_keepIfDone
set_option maxRecDepth 20000 in
theorem ggX11_fence_X4_hasPlace : GoodIn wsX11_fence wsX4_hasPlace := goodIn_r _ [7, 8, 94, 95, 96, 97, 98, 99, 100, 101, 102, 103, 104, 105] rfl (by decide +kernel)
set_option maxRecDepth 20000 in
theorem gX11_fence_X4_hasPlace : GoodIn wsX11_fence (wsV RX11 199 RX4 yX4_hasPlace wsX4_hasPlace) := goodIn_app (goodIn_of _ (by decide +kernel)) ggX11_fence_X4_hasPlace
set_option maxRecDepth 20000 in
theorem ggX11_fence_X3_mark : GoodIn wsX11_fence wsX3_mark := goodIn_r _ [13, 14, 15, 16, 17, 18, 6, 19, 8, 20, 21, 22, 23, 24, 25, 26, 27, 28, 29, 30, 31, 32, 33, 34, 35, 36, 37, 38, 39, 40, 41, 42, 43, 44, 45, 46, 47, 48, 49, 50, 51, 52, 53, 54, 55, 56, 106, 107, 108, 94, 95, 96, 97, 98, 99, 100, 101, 102, 103, 104, 105, 109, 110, 111, 112, 113, 114, 115, 116, 117, 118, 119, 120, 121, 122, 123, 124] rfl (by decide +kernel)
set_option maxRecDepth 20000 in
theorem gX11_fence_X3_mark : GoodIn wsX11_fence (wsV RX11 237 RX3 yX3_mark wsX3_mark) := goodIn_app (goodIn_of _ (by decide +kernel)) ggX11_fence_X3_mark
