set_option maxRecDepth 20000 in
theorem ggX6_hours_X11_hoursOf : GoodIn wsX6_hours wsX11_hoursOf := goodIn_r _ [5] rfl (by decide +kernel)
set_option maxRecDepth 20000 in
theorem gX6_hours_X11_hoursOf_n38 : GoodIn wsX6_hours (wsX11_hoursOf) := ggX6_hours_X11_hoursOf
set_option maxRecDepth 20000 in
theorem ggX4_thoseThere_X6_isDue : GoodIn wsX4_thoseThere wsX6_isDue := goodIn_r _ [7, 8, 9, 10, 23, 24, 25, 26, 27, 28, 29, 30, 31] rfl (by decide +kernel)
set_option maxRecDepth 20000 in
theorem gX4_thoseThere_X6_isDue : GoodIn wsX4_thoseThere (wsV RX4 106 RX6 yX6_isDue wsX6_isDue) := goodIn_app (goodIn_of _ (by decide +kernel)) ggX4_thoseThere_X6_isDue
set_option maxRecDepth 20000 in
theorem ggX4_dogsComing_X6_isDue : GoodIn wsX4_dogsComing wsX6_isDue := goodIn_r _ [8, 9, 10, 11, 31, 32, 33, 34, 35, 36, 37, 38, 39] rfl (by decide +kernel)
set_option maxRecDepth 20000 in
theorem gX4_dogsComing_X6_isDue : GoodIn wsX4_dogsComing (wsV RX4 106 RX6 yX6_isDue wsX6_isDue) := goodIn_app (goodIn_of _ (by decide +kernel)) ggX4_dogsComing_X6_isDue
set_option maxRecDepth 20000 in
theorem ggX4_meetingHours_X6_hours : GoodIn wsX4_meetingHours wsX6_hours := goodIn_r _ [6, 7, 8, 9, 10, 11, 24, 25, 26, 27, 28, 29, 30, 31, 32] rfl (by decide +kernel)
set_option maxRecDepth 20000 in
theorem gX4_meetingHours_X6_hours : GoodIn wsX4_meetingHours (wsV RX4 110 RX6 yX6_hours wsX6_hours) := goodIn_app (goodIn_of _ (by decide +kernel)) ggX4_meetingHours_X6_hours
set_option maxRecDepth 20000 in
theorem ggX4_troubledHours_X6_hours : GoodIn wsX4_troubledHours wsX6_hours := goodIn_r _ [9, 10, 11, 12, 13, 14, 34, 35, 36, 37, 38, 39, 40, 41, 42] rfl (by decide +kernel)
set_option maxRecDepth 20000 in
theorem gX4_troubledHours_X6_hours : GoodIn wsX4_troubledHours (wsV RX4 110 RX6 yX6_hours wsX6_hours) := goodIn_app (goodIn_of _ (by decide +kernel)) ggX4_troubledHours_X6_hours
set_option maxRecDepth 20000 in
theorem ggX4_goodIf_X6_hours : GoodIn wsX4_goodIf wsX6_hours := goodIn_r _ [6, 7, 8, 9, 10, 11, 31, 32, 33, 34, 35, 36, 37, 38, 39] rfl (by decide +kernel)
set_option maxRecDepth 20000 in
theorem gX4_goodIf_X6_hours : GoodIn wsX4_goodIf (wsV RX4 110 RX6 yX6_hours wsX6_hours) := goodIn_app (goodIn_of _ (by decide +kernel)) ggX4_goodIf_X6_hours
set_option maxRecDepth 20000 in
theorem ggX4_goodIf_J6_bitCount_0f7a4 : GoodIn wsX4_goodIf wsJ6_bitCount_0f7a4 := goodIn_r _ [15, 16, 17, 18] rfl (by decide +kernel)
set_option maxRecDepth 20000 in
theorem gX4_goodIf_J6_bitCount_0f7a4 : GoodIn wsX4_goodIf (va_wsS RX4 122 yJ6_bitCount_0f7a4 wsJ6_bitCount_0f7a4) := goodIn_app (goodIn_of _ (by decide +kernel)) ggX4_goodIf_J6_bitCount_0f7a4
set_option maxRecDepth 20000 in
theorem ggX4_goodOf_X4_troubledHours : GoodIn wsX4_goodOf wsX4_troubledHours := goodIn_r _ [6, 7, 8, 9, 10, 11, 12, 13, 14, 15, 16, 17, 18, 19, 20, 32, 33, 34, 35, 36, 37, 38, 39, 40, 41, 42, 43, 44, 45, 46, 47, 48, 49, 50, 51, 52, 53, 54, 55, 56, 57, 58, 59] rfl (by decide +kernel)
set_option maxRecDepth 20000 in
theorem gX4_goodOf_X4_troubledHours : GoodIn wsX4_goodOf (wsV RX4 114 RX4 yX4_troubledHours wsX4_troubledHours) := goodIn_app (goodIn_of _ (by decide +kernel)) ggX4_goodOf_X4_troubledHours
