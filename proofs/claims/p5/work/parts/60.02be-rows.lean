set_option maxRecDepth 20000 in
theorem ggX1_liveDay_X1_frightBy : GoodIn wsX1_liveDay wsX1_frightBy := goodIn_r _ [5, 6, 7, 8, 9, 10, 11, 12, 13, 14, 15, 16, 4, 17, 18, 19, 20, 21, 22, 23, 24, 25, 26, 27, 28, 29, 30, 31, 32, 33, 34, 44, 45, 46, 47, 48, 49, 50, 35, 36, 37, 38, 39, 40, 41, 42, 43, 51] rfl (by decide +kernel)
set_option maxRecDepth 20000 in
theorem gX1_liveDay_X1_frightBy : GoodIn wsX1_liveDay (wsV RX1 28 RX1 yX1_frightBy wsX1_frightBy) := goodIn_app (goodIn_of _ (by decide +kernel)) ggX1_liveDay_X1_frightBy
set_option maxRecDepth 20000 in
theorem ggX1_live_X1_liveDay : GoodIn wsX1_live wsX1_liveDay := goodIn_r _ [6, 7, 8, 9, 5, 10, 11, 12, 13, 14, 15, 16, 17, 18, 19, 20, 21, 22, 1, 23, 24, 25, 26, 28, 29, 30, 31, 32, 33, 34, 35, 36, 37, 38, 39, 40, 41, 42, 43, 44, 45, 46, 47, 48, 49, 50, 51, 52, 53, 54, 55, 27] rfl (by decide +kernel)
set_option maxRecDepth 20000 in
theorem gX1_live_X1_liveDay : GoodIn wsX1_live (wsV RX1 20 RX1 yX1_liveDay wsX1_liveDay) := goodIn_app (goodIn_of _ (by decide +kernel)) ggX1_live_X1_liveDay
set_option maxRecDepth 20000 in
theorem ggX9_goodHere_X4_troubledHours : GoodIn wsX9_goodHere wsX4_troubledHours := goodIn_r _ [5, 6, 7, 8, 9, 10, 11, 12, 13, 14, 15, 16, 17, 18, 19, 31, 32, 33, 34, 35, 36, 37, 38, 39, 40, 41, 42, 52, 53, 54, 55, 56, 57, 58, 43, 44, 45, 46, 47, 48, 49, 50, 51] rfl (by decide +kernel)
set_option maxRecDepth 20000 in
theorem gX9_goodHere_X4_troubledHours : GoodIn wsX9_goodHere (wsV RX9 11 RX4 yX4_troubledHours wsX4_troubledHours) := goodIn_app (goodIn_of _ (by decide +kernel)) ggX9_goodHere_X4_troubledHours
set_option maxRecDepth 20000 in
theorem ggX9_goodHere_X4_goodIf : GoodIn wsX9_goodHere wsX4_goodIf := goodIn_r _ [23, 8, 10, 11, 12, 13, 14, 15, 16, 17, 18, 19, 24, 25, 26, 27, 28, 29, 30, 31, 32, 33, 34, 35, 36, 37, 38, 39, 40, 41, 42, 43, 44, 45, 46, 47, 48, 49, 50, 51] rfl (by decide +kernel)
set_option maxRecDepth 20000 in
theorem gX9_goodHere_X4_goodIf : GoodIn wsX9_goodHere (wsV RX9 33 RX4 yX4_goodIf wsX4_goodIf) := goodIn_app (goodIn_of _ (by decide +kernel)) ggX9_goodHere_X4_goodIf
set_option maxRecDepth 20000 in
theorem ggX9_bestFence_X4_goodOfAll : GoodIn wsX9_bestFence wsX4_goodOfAll := goodIn_r _ [5, 6, 7, 8, 9, 10, 4, 11, 12, 13, 14, 15, 16, 17, 18, 19, 20, 21, 22, 23, 24, 25, 26, 27, 28, 29, 30, 31, 32, 33, 34, 35, 36, 37, 38, 39, 40, 41, 42, 43, 44, 45, 46, 47, 48, 49, 50, 51, 52, 53, 54, 55, 56, 57, 58, 59, 60, 61, 62, 63, 64, 65, 66, 67, 68] rfl (by decide +kernel)
set_option maxRecDepth 20000 in
theorem gX9_bestFence_X4_goodOfAll : GoodIn wsX9_bestFence (wsV RX9 44 RX4 yX4_goodOfAll wsX4_goodOfAll) := goodIn_app (goodIn_of _ (by decide +kernel)) ggX9_bestFence_X4_goodOfAll
set_option maxRecDepth 20000 in
theorem ggX9_goRound_X4_goodOf : GoodIn wsX9_goRound wsX4_goodOf := goodIn_r _ [5, 6, 7, 8, 9, 4, 10, 11, 12, 13, 14, 15, 16, 17, 18, 19, 20, 21, 22, 23, 24, 25, 26, 27, 28, 29, 30, 31, 32, 33, 34, 35, 36, 37, 38, 39, 40, 41, 42, 43, 44, 45, 46, 47, 57, 58, 59, 60, 61, 62, 63, 48, 49, 50, 51, 52, 53, 54, 55, 56] rfl (by decide +kernel)
set_option maxRecDepth 20000 in
theorem gX9_goRound_X4_goodOf : GoodIn wsX9_goRound (wsV RX9 54 RX4 yX4_goodOf wsX4_goodOf) := goodIn_app (goodIn_of _ (by decide +kernel)) ggX9_goRound_X4_goodOf
set_option maxRecDepth 20000 in
theorem ggX9_part_X9_goRound : GoodIn wsX9_part wsX9_goRound := goodIn_r _ [4, 5, 6, 7, 8, 9, 10, 11, 12, 13, 14, 15, 16, 17, 18, 19, 20, 21, 22, 23, 24, 25, 26, 27, 28, 29, 30, 31, 32, 33, 34, 35, 36, 37, 38, 39, 40, 41, 42, 43, 44, 45, 46, 47, 48, 49, 50, 51, 52, 53, 54, 55, 56, 57, 58, 59, 60, 61, 62, 63, 64, 65, 66, 67] rfl (by decide +kernel)
set_option maxRecDepth 20000 in
theorem gX9_part_X9_goRound : GoodIn wsX9_part (va_wsS RX9 50 yX9_goRound wsX9_goRound) := goodIn_app (goodIn_of _ (by decide +kernel)) ggX9_part_X9_goRound
set_option maxRecDepth 20000 in
theorem ggX9_isFirst_X6_isDue : GoodIn wsX9_isFirst wsX6_isDue := goodIn_r _ [5, 6, 7, 8, 21, 22, 23, 24, 25, 26, 27, 28, 29] rfl (by decide +kernel)
set_option maxRecDepth 20000 in
theorem gX9_isFirst_X6_isDue : GoodIn wsX9_isFirst (wsV RX9 96 RX6 yX6_isDue wsX6_isDue) := goodIn_app (goodIn_of _ (by decide +kernel)) ggX9_isFirst_X6_isDue
