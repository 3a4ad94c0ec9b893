set_option maxRecDepth 20000 in
theorem ggX0_liveLine_X4_bring : GoodIn wsX0_liveLine wsX4_bring := goodIn_r _ [48, 49, 87, 88, 89, 90, 91, 92, 93, 94, 95, 96, 97, 98, 106, 107, 108, 109, 110, 111, 112, 113, 114] rfl (by decide +kernel)
set_option maxRecDepth 20000 in
theorem gX0_liveLine_X4_bring : GoodIn wsX0_liveLine (wsV RX0 154 RX4 yX4_bring wsX4_bring) := goodIn_app (goodIn_of _ (by decide +kernel)) ggX0_liveLine_X4_bring
set_option maxRecDepth 20000 in
theorem ggX0_liveLine_X4_writeSign : GoodIn wsX0_liveLine wsX4_writeSign := goodIn_r _ [38, 39, 87, 88, 89, 90, 91, 92, 93, 94, 95, 96, 97, 98] rfl (by decide +kernel)
set_option maxRecDepth 20000 in
theorem gX0_liveLine_X4_writeSign : GoodIn wsX0_liveLine (wsV RX0 147 RX4 yX4_writeSign wsX4_writeSign) := goodIn_app (goodIn_of _ (by decide +kernel)) ggX0_liveLine_X4_writeSign
set_option maxRecDepth 20000 in
theorem ggX0_liveLine_X4_turnFence : GoodIn wsX0_liveLine wsX4_turnFence := goodIn_r _ [33, 34, 87, 88, 89, 90, 91, 92, 93, 94, 95, 96, 97, 98] rfl (by decide +kernel)
set_option maxRecDepth 20000 in
theorem gX0_liveLine_X4_turnFence : GoodIn wsX0_liveLine (wsV RX0 143 RX4 yX4_turnFence wsX4_turnFence) := goodIn_app (goodIn_of _ (by decide +kernel)) ggX0_liveLine_X4_turnFence
set_option maxRecDepth 20000 in
theorem ggX0_liveLine_X4_forbidHours : GoodIn wsX0_liveLine wsX4_forbidHours := goodIn_r _ [29, 18, 19, 20, 21, 87, 88, 89, 90, 91, 92, 93, 94, 95, 96, 97, 98] rfl (by decide +kernel)
set_option maxRecDepth 20000 in
theorem gX0_liveLine_X4_forbidHours : GoodIn wsX0_liveLine (wsV RX0 140 RX4 yX4_forbidHours wsX4_forbidHours) := goodIn_app (goodIn_of _ (by decide +kernel)) ggX0_liveLine_X4_forbidHours
set_option maxRecDepth 20000 in
theorem ggX0_liveLine_X4_allowHours : GoodIn wsX0_liveLine wsX4_allowHours := goodIn_r _ [17, 18, 19, 20, 21, 87, 88, 89, 90, 91, 92, 93, 94, 95, 96, 97, 98] rfl (by decide +kernel)
set_option maxRecDepth 20000 in
theorem gX0_liveLine_X4_allowHours : GoodIn wsX0_liveLine (wsV RX0 132 RX4 yX4_allowHours wsX4_allowHours) := goodIn_app (goodIn_of _ (by decide +kernel)) ggX0_liveLine_X4_allowHours
set_option maxRecDepth 20000 in
theorem ggX0_liveAll_X0_liveLine : GoodIn wsX0_liveAll wsX0_liveLine := goodIn_r _ [7, 8, 9, 10, 11, 12, 13, 14, 15, 16, 17, 18, 19, 20, 21, 22, 23, 24, 25, 26, 27, 28, 29, 30, 6, 31, 32, 33, 34, 35, 36, 37, 38, 39, 40, 41, 42, 43, 44, 45, 46, 47, 48, 49, 50, 51, 52, 53, 54, 55, 56, 57, 58, 59, 60, 61, 62, 63, 64, 65, 66, 67, 68, 69, 70, 71, 72, 73, 74, 75, 76, 77, 78, 79, 80, 81, 82, 83, 84, 85, 86, 87, 88, 89, 90, 91, 92, 93, 94, 95, 96, 97, 98, 99, 100, 101, 102, 103, 104, 105, 106, 107, 108, 109, 110, 111, 112, 113, 114, 115, 116, 117, 118, 119, 120, 121] rfl (by decide +kernel)
set_option maxRecDepth 20000 in
theorem gX0_liveAll_X0_liveLine : GoodIn wsX0_liveAll (wsV RX0 128 RX0 yX0_liveLine wsX0_liveLine) := goodIn_app (goodIn_of _ (by decide +kernel)) ggX0_liveAll_X0_liveLine
