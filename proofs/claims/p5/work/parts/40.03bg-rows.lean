set_option maxRecDepth 20000 in
theorem ggX12_runs_X12_firstThere : GoodIn wsX12_runs wsX12_firstThere := goodIn_r _ [35, 1, 2, 7, 8, 9, 5, 10, 3, 4, 6, 36, 37, 38, 39, 11, 12, 13, 14, 15, 16, 17, 18, 19, 20, 21, 40, 41, 42, 43, 44, 45, 46, 47, 48, 49, 50, 51, 52, 53, 54, 55, 56, 57, 58, 59, 60, 61, 62, 63, 64, 65, 66, 67, 68, 69, 70, 71, 72, 73, 74, 75, 76, 77, 78, 79, 80, 81, 82, 83, 84, 85, 86] rfl (by decide +kernel)
set_option maxRecDepth 20000 in
theorem gX12_runs_X12_firstThere : GoodIn wsX12_runs (wsV RX12 290 RX12 yX12_firstThere wsX12_firstThere) := goodIn_app (goodIn_of _ (by decide +kernel)) ggX12_runs_X12_firstThere
set_option maxRecDepth 20000 in
theorem ggX12_runs_X12_draw : GoodIn wsX12_runs wsX12_draw := goodIn_r _ [25, 26, 27, 40, 41, 42, 43, 44, 45, 46, 47, 48, 49, 50, 51, 52, 53, 54, 55, 56, 57, 58, 59, 60, 61, 62, 63, 64, 65, 66, 67, 68, 69, 70, 71, 72, 73, 74, 75, 76, 77, 78, 79, 80, 81, 82, 83, 84, 85, 86] rfl (by decide +kernel)
set_option maxRecDepth 20000 in
theorem gX12_runs_X12_draw : GoodIn wsX12_runs (wsV RX12 287 RX12 yX12_draw wsX12_draw) := goodIn_app (goodIn_of _ (by decide +kernel)) ggX12_runs_X12_draw
set_option maxRecDepth 20000 in
theorem ggX12_oneDay_X12_has : GoodIn wsX12_oneDay wsX12_has := goodIn_r _ [10] rfl (by decide +kernel)
set_option maxRecDepth 20000 in
theorem gX12_oneDay_X12_has : GoodIn wsX12_oneDay (va_wsS RX12 217 yX12_has wsX12_has) := goodIn_app (goodIn_of _ (by decide +kernel)) ggX12_oneDay_X12_has
set_option maxRecDepth 20000 in
theorem ggX12_oneDay_X12_isAway : GoodIn wsX12_oneDay wsX12_isAway := goodIn_r _ [14, 2, 44, 45, 46, 47, 48, 49, 50, 51, 52, 53, 54, 55, 56, 57, 58, 59, 60, 61, 62, 63, 64, 65, 66, 67, 68, 69, 70, 71, 72, 73, 74, 75, 76, 77, 78, 79, 80, 81, 82, 83, 84, 85, 86, 87, 88, 89, 90] rfl (by decide +kernel)
set_option maxRecDepth 20000 in
theorem gX12_oneDay_X12_isAway : GoodIn wsX12_oneDay (wsV RX12 235 RX12 yX12_isAway wsX12_isAway) := goodIn_app (goodIn_of _ (by decide +kernel)) ggX12_oneDay_X12_isAway
set_option maxRecDepth 20000 in
theorem ggX12_oneDay_X12_runs : GoodIn wsX12_oneDay wsX12_runs := goodIn_r _ [7, 2, 1, 8, 9, 6, 10, 11, 12, 13, 14, 15, 16, 17, 18, 19, 20, 21, 22, 23, 24, 25, 26, 27, 28, 29, 30, 31, 32, 33, 34, 35, 36, 37, 38, 39, 40, 41, 42, 43, 44, 45, 46, 47, 48, 49, 50, 51, 52, 53, 54, 55, 56, 57, 58, 59, 60, 61, 62, 63, 64, 65, 66, 67, 68, 69, 70, 71, 72, 73, 74, 75, 76, 77, 78, 79, 80, 81, 82, 83, 84, 85, 86, 87, 88, 89, 90] rfl (by decide +kernel)
set_option maxRecDepth 20000 in
theorem gX12_oneDay_X12_runs : GoodIn wsX12_oneDay (wsV RX12 293 RX12 yX12_runs wsX12_runs) := goodIn_app (goodIn_of _ (by decide +kernel)) ggX12_oneDay_X12_runs
set_option maxRecDepth 20000 in
theorem ggX12_passDays_X12_least : GoodIn wsX12_passDays wsX12_least := goodIn_r _ [6] rfl (by decide +kernel)
set_option maxRecDepth 20000 in
theorem gX12_passDays_X12_least : GoodIn wsX12_passDays (va_wsS RX12 297 yX12_least wsX12_least) := goodIn_app (goodIn_of _ (by decide +kernel)) ggX12_passDays_X12_least
set_option maxRecDepth 20000 in
theorem ggX12_passDays_X12_oneDay : GoodIn wsX12_passDays wsX12_oneDay := goodIn_r _ [10, 11, 2, 12, 13, 14, 5, 15, 16, 17, 18, 19, 20, 21, 22, 23, 24, 25, 26, 27, 28, 29, 30, 31, 32, 33, 34, 35, 36, 37, 1, 38, 39, 40, 41, 42, 43, 44, 45, 46, 47, 48, 49, 50, 51, 52, 53, 54, 55, 56, 57, 58, 59, 60, 61, 62, 63, 64, 65, 66, 67, 68, 69, 70, 71, 72, 73, 74, 75, 76, 77, 78, 79, 80, 81, 82, 83, 84, 85, 86, 87, 88, 89, 90, 91, 92, 93, 94, 95, 96, 97] rfl (by decide +kernel)
set_option maxRecDepth 20000 in
theorem gX12_passDays_X12_oneDay : GoodIn wsX12_passDays (wsV RX12 300 RX12 yX12_oneDay wsX12_oneDay) := goodIn_app (goodIn_of _ (by decide +kernel)) ggX12_passDays_X12_oneDay
set_option maxRecDepth 20000 in
theorem ggX12_days_X12_isIn : GoodIn wsX12_days wsX12_isIn := goodIn_r _ [6] rfl (by decide +kernel)
set_option maxRecDepth 20000 in
theorem gX12_days_X12_isIn : GoodIn wsX12_days (va_wsS RX12 75 yX12_isIn wsX12_isIn) := goodIn_app (goodIn_of _ (by decide +kernel)) ggX12_days_X12_isIn
