set_option maxRecDepth 20000 in
theorem ggX11_hold_X11_keepIfDone : GoodIn wsX11_hold wsX11_keepIfDone := goodIn_r _ [65, 2, 66, 67, 68, 12, 69, 15, 70, 71, 72, 73, 74, 75, 76, 77, 78, 79, 80, 81, 82, 83, 84, 85, 86, 87, 88, 89, 90, 91, 92, 93, 106, 107, 108] rfl (by decide +kernel)
set_option maxRecDepth 20000 in
theorem gX11_hold_X11_keepIfDone : GoodIn wsX11_hold (wsV RX11 244 RX11 yX11_keepIfDone wsX11_keepIfDone) := goodIn_app (goodIn_of _ (by decide +kernel)) ggX11_hold_X11_keepIfDone
set_option maxRecDepth 20000 in
theorem ggX11_come_X4_hasPerson : GoodIn wsX11_come wsX4_hasPerson := goodIn_r _ [7, 8, 101, 102, 103, 104, 105, 106, 107, 108, 109, 110, 111, 112] rfl (by decide +kernel)
set_option maxRecDepth 20000 in
theorem gX11_come_X4_hasPerson : GoodIn wsX11_come (wsV RX11 133 RX4 yX4_hasPerson wsX4_hasPerson) := goodIn_app (goodIn_of _ (by decide +kernel)) ggX11_come_X4_hasPerson
set_option maxRecDepth 20000 in
theorem ggX11_come_X4_hasPlace : GoodIn wsX11_come wsX4_hasPlace := goodIn_r _ [12, 13, 101, 102, 103, 104, 105, 106, 107, 108, 109, 110, 111, 112] rfl (by decide +kernel)
set_option maxRecDepth 20000 in
theorem gX11_come_X4_hasPlace : GoodIn wsX11_come (wsV RX11 199 RX4 yX4_hasPlace wsX4_hasPlace) := goodIn_app (goodIn_of _ (by decide +kernel)) ggX11_come_X4_hasPlace
set_option maxRecDepth 20000 in
theorem ggX11_come_X11_areHours : GoodIn wsX11_come wsX11_areHours := goodIn_r _ [17] rfl (by decide +kernel)
set_option maxRecDepth 20000 in
theorem gX11_come_X11_areHours : GoodIn wsX11_come (va_wsS RX11 233 yX11_areHours wsX11_areHours) := goodIn_app (goodIn_of _ (by decide +kernel)) ggX11_come_X11_areHours
set_option maxRecDepth 20000 in
theorem ggX11_come_X3_mark : GoodIn wsX11_come wsX3_mark := goodIn_r _ [22, 23, 24, 25, 26, 27, 6, 28, 13, 8, 29, 30, 31, 32, 33, 34, 35, 36, 37, 38, 39, 40, 41, 42, 43, 44, 45, 46, 47, 48, 49, 50, 51, 52, 53, 54, 55, 56, 57, 58, 59, 60, 61, 62, 63, 64, 113, 114, 115, 101, 102, 103, 104, 105, 106, 107, 108, 109, 110, 111, 112, 116, 117, 118, 119, 120, 121, 122, 123, 124, 125, 126, 127, 128, 129, 130, 131] rfl (by decide +kernel)
set_option maxRecDepth 20000 in
theorem gX11_come_X3_mark : GoodIn wsX11_come (wsV RX11 237 RX3 yX3_mark wsX3_mark) := goodIn_app (goodIn_of _ (by decide +kernel)) ggX11_come_X3_mark
set_option maxRecDepth 20000 in
theorem ggX11_come_X4_bring : GoodIn wsX11_come wsX4_bring := goodIn_r _ [68, 37, 101, 102, 103, 104, 105, 106, 107, 108, 109, 110, 111, 112, 116, 117, 118, 119, 120, 121, 122, 123, 124] rfl (by decide +kernel)
set_option maxRecDepth 20000 in
theorem gX11_come_X4_bring : GoodIn wsX11_come (wsV RX11 260 RX4 yX4_bring wsX4_bring) := goodIn_app (goodIn_of _ (by decide +kernel)) ggX11_come_X4_bring
set_option maxRecDepth 20000 in
theorem ggX11_come_X11_keepIfDone : GoodIn wsX11_come wsX11_keepIfDone := goodIn_r _ [72, 2, 73, 74, 75, 21, 76, 24, 77, 78, 79, 80, 81, 82, 83, 84, 85, 86, 87, 88, 89, 90, 91, 92, 93, 94, 95, 96, 97, 98, 99, 100, 113, 114, 115] rfl (by decide +kernel)
set_option maxRecDepth 20000 in
theorem gX11_come_X11_keepIfDone : GoodIn wsX11_come (wsV RX11 244 RX11 yX11_keepIfDone wsX11_keepIfDone) := goodIn_app (goodIn_of _ (by decide +kernel)) ggX11_come_X11_keepIfDone
set_option maxRecDepth 20000 in
theorem ggX11_days_X3_mark : GoodIn wsX11_days wsX3_mark := goodIn_r _ [8, 9, 10, 11, 12, 13, 14, 15, 16, 17, 18, 19, 20, 21, 22, 23, 24, 25, 26, 27, 28, 29, 30, 31, 32, 33, 34, 35, 36, 37, 38, 39, 40, 41, 42, 43, 44, 45, 46, 47, 48, 49, 50, 51, 52, 53, 108, 109, 110, 111, 112, 113, 114, 115, 116, 117, 118, 119, 120, 121, 122, 123, 124, 125, 126, 127, 128, 129, 130, 131, 132, 133, 134, 135, 136, 137, 138] rfl (by decide +kernel)
set_option maxRecDepth 20000 in
theorem gX11_days_X3_mark : GoodIn wsX11_days (wsV RX11 237 RX3 yX3_mark wsX3_mark) := goodIn_app (goodIn_of _ (by decide +kernel)) ggX11_days_X3_mark
