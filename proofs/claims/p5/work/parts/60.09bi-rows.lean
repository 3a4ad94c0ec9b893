set_option maxRecDepth 20000 in
theorem ggX11_days_X1_live : GoodIn wsX11_days wsX1_live := goodIn_r _ [58, 59, 60, 61, 62, 57, 63, 64, 65, 66, 67, 68, 69, 70, 31, 71, 34, 35, 36, 72, 73, 74, 75, 76, 77, 78, 79, 139, 111, 112, 113, 114, 115, 116, 117, 118, 119, 120, 121, 122, 123, 124, 125, 126, 127, 128, 129, 130, 131, 132, 133, 134, 135, 136, 137, 138] rfl (by decide +kernel)
set_option maxRecDepth 20000 in
theorem gX11_days_X1_live : GoodIn wsX11_days (wsV RX11 264 RX1 yX1_live wsX1_live) := goodIn_app (goodIn_of _ (by decide +kernel)) ggX11_days_X1_live
set_option maxRecDepth 20000 in
theorem ggX11_days_X3_keepMarked : GoodIn wsX11_days wsX3_keepMarked := goodIn_r _ [83, 10, 84, 85, 86, 87, 88, 108, 109, 110] rfl (by decide +kernel)
set_option maxRecDepth 20000 in
theorem gX11_days_X3_keepMarked : GoodIn wsX11_days (wsV RX11 268 RX3 yX3_keepMarked wsX3_keepMarked) := goodIn_app (goodIn_of _ (by decide +kernel)) ggX11_days_X3_keepMarked
set_option maxRecDepth 20000 in
theorem ggX11_undo_X3_takeBack : GoodIn wsX11_undo wsX3_takeBack := goodIn_r _ [7, 8, 9, 10, 11, 12, 13, 14, 15, 16, 17, 18, 19, 20, 21, 22, 23, 24, 25, 26, 27, 28, 29, 30, 31, 32, 33, 34, 35, 36, 37, 38, 39, 40, 41, 42, 43, 44, 45, 46, 47, 48, 49, 50, 51, 52, 53, 73, 74, 75, 76, 77, 78, 79, 80, 81, 82, 83, 84, 85, 86, 87, 88, 89, 90, 91, 92, 93, 94, 95, 96, 97, 98, 99, 100, 101, 102, 103] rfl (by decide +kernel)
set_option maxRecDepth 20000 in
theorem gX11_undo_X3_takeBack : GoodIn wsX11_undo (wsV RX11 271 RX3 yX3_takeBack wsX3_takeBack) := goodIn_app (goodIn_of _ (by decide +kernel)) ggX11_undo_X3_takeBack
set_option maxRecDepth 20000 in
theorem ggX11_there_X4_hasPlace : GoodIn wsX11_there wsX4_hasPlace := goodIn_r _ [6, 7, 45, 46, 47, 48, 49, 50, 51, 52, 53, 54, 55, 56] rfl (by decide +kernel)
set_option maxRecDepth 20000 in
theorem gX11_there_X4_hasPlace : GoodIn wsX11_there (wsV RX11 199 RX4 yX4_hasPlace wsX4_hasPlace) := goodIn_app (goodIn_of _ (by decide +kernel)) ggX11_there_X4_hasPlace
set_option maxRecDepth 20000 in
theorem ggX11_there_X11_areHours : GoodIn wsX11_there wsX11_areHours := goodIn_r _ [11] rfl (by decide +kernel)
set_option maxRecDepth 20000 in
theorem gX11_there_X11_areHours : GoodIn wsX11_there (va_wsS RX11 233 yX11_areHours wsX11_areHours) := goodIn_app (goodIn_of _ (by decide +kernel)) ggX11_there_X11_areHours
set_option maxRecDepth 20000 in
theorem ggX11_there_X4_thoseThere : GoodIn wsX11_there wsX4_thoseThere := goodIn_r _ [15, 16, 17, 18, 19, 20, 21, 22, 23, 24, 25, 45, 46, 47, 48, 49, 50, 51, 52, 53, 54, 55, 56, 57, 58, 59, 60, 61, 62, 63, 64, 65] rfl (by decide +kernel)
set_option maxRecDepth 20000 in
theorem gX11_there_X4_thoseThere : GoodIn wsX11_there (wsV RX11 276 RX4 yX4_thoseThere wsX4_thoseThere) := goodIn_app (goodIn_of _ (by decide +kernel)) ggX11_there_X4_thoseThere
set_option maxRecDepth 20000 in
theorem ggX11_meets_X4_hasPerson : GoodIn wsX11_meets wsX4_hasPerson := goodIn_r _ [6, 7, 42, 43, 44, 45, 46, 47, 48, 49, 50, 51, 52, 53] rfl (by decide +kernel)
set_option maxRecDepth 20000 in
theorem gX11_meets_X4_hasPerson : GoodIn wsX11_meets (wsV RX11 133 RX4 yX4_hasPerson wsX4_hasPerson) := goodIn_app (goodIn_of _ (by decide +kernel)) ggX11_meets_X4_hasPerson
set_option maxRecDepth 20000 in
theorem ggX11_meets_X4_meetingHours : GoodIn wsX11_meets wsX4_meetingHours := goodIn_r _ [11, 12, 13, 14, 15, 16, 17, 18, 19, 20, 21, 22, 42, 43, 44, 45, 46, 47, 48, 49, 50, 51, 52, 53, 54, 55, 56, 57, 58, 59, 60, 61, 62] rfl (by decide +kernel)
set_option maxRecDepth 20000 in
theorem gX11_meets_X4_meetingHours : GoodIn wsX11_meets (wsV RX11 279 RX4 yX4_meetingHours wsX4_meetingHours) := goodIn_app (goodIn_of _ (by decide +kernel)) ggX11_meets_X4_meetingHours
