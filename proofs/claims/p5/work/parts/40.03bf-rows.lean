set_option maxRecDepth 20000 in
theorem ggX12_firstThere_X12_isAway : GoodIn wsX12_firstThere wsX12_isAway := goodIn_r _ [7, 1, 26, 27, 28, 29, 30, 31, 32, 33, 34, 35, 36, 37, 38, 39, 40, 41, 42, 43, 44, 45, 46, 47, 48, 49, 50, 51, 52, 53, 54, 55, 56, 57, 58, 59, 60, 61, 62, 63, 64, 65, 66, 67, 68, 69, 70, 71, 72] rfl (by decide +kernel)
set_option maxRecDepth 20000 in
theorem gX12_firstThere_X12_isAway : GoodIn wsX12_firstThere (wsV RX12 235 RX12 yX12_isAway wsX12_isAway) := goodIn_app (goodIn_of _ (by decide +kernel)) ggX12_firstThere_X12_isAway
set_option maxRecDepth 20000 in
theorem ggX12_firstThere_X12_has : GoodIn wsX12_firstThere wsX12_has := goodIn_r _ [10] rfl (by decide +kernel)
set_option maxRecDepth 20000 in
theorem gX12_firstThere_X12_has : GoodIn wsX12_firstThere (va_wsS RX12 217 yX12_has wsX12_has) := goodIn_app (goodIn_of _ (by decide +kernel)) ggX12_firstThere_X12_has
set_option maxRecDepth 20000 in
theorem ggX12_firstThere_X12_dogsOf : GoodIn wsX12_firstThere wsX12_dogsOf := goodIn_r _ [14, 1, 26, 27, 28, 29, 30, 31, 32, 33, 34, 35, 36, 37, 38, 39, 40, 41, 42, 43, 44, 45, 46, 47, 48, 49, 50, 51, 52, 53, 54, 55, 56, 57, 58, 59, 60, 61, 62, 63, 64, 65, 66, 67, 68, 69, 70, 71, 72] rfl (by decide +kernel)
set_option maxRecDepth 20000 in
theorem gX12_firstThere_X12_dogsOf : GoodIn wsX12_firstThere (wsV RX12 223 RX12 yX12_dogsOf wsX12_dogsOf) := goodIn_app (goodIn_of _ (by decide +kernel)) ggX12_firstThere_X12_dogsOf
set_option maxRecDepth 20000 in
theorem ggX12_firstThere_X12_comesIn : GoodIn wsX12_firstThere wsX12_comesIn := goodIn_r _ [18, 1, 19, 20, 21, 6, 22, 23, 24, 25, 8, 9, 10, 26, 27, 28, 29, 30, 31, 32, 33, 34, 35, 36, 37, 38, 39, 40, 41, 42, 43, 44, 45, 46, 47, 48, 49, 50, 51, 52, 53, 54, 55, 56, 57, 58, 59, 60, 61, 62, 63, 64, 65, 66, 67, 68, 69, 70, 71, 72] rfl (by decide +kernel)
set_option maxRecDepth 20000 in
theorem gX12_firstThere_X12_comesIn : GoodIn wsX12_firstThere (wsV RX12 284 RX12 yX12_comesIn wsX12_comesIn) := goodIn_app (goodIn_of _ (by decide +kernel)) ggX12_firstThere_X12_comesIn
set_option maxRecDepth 20000 in
theorem ggX12_runs_X12_has : GoodIn wsX12_runs wsX12_has := goodIn_r _ [6] rfl (by decide +kernel)
set_option maxRecDepth 20000 in
theorem gX12_runs_X12_has : GoodIn wsX12_runs (va_wsS RX12 217 yX12_has wsX12_has) := goodIn_app (goodIn_of _ (by decide +kernel)) ggX12_runs_X12_has
set_option maxRecDepth 20000 in
theorem ggX12_runs_X12_isAway : GoodIn wsX12_runs wsX12_isAway := goodIn_r _ [10, 1, 40, 41, 42, 43, 44, 45, 46, 47, 48, 49, 50, 51, 52, 53, 54, 55, 56, 57, 58, 59, 60, 61, 62, 63, 64, 65, 66, 67, 68, 69, 70, 71, 72, 73, 74, 75, 76, 77, 78, 79, 80, 81, 82, 83, 84, 85, 86] rfl (by decide +kernel)
set_option maxRecDepth 20000 in
theorem gX12_runs_X12_isAway : GoodIn wsX12_runs (wsV RX12 235 RX12 yX12_isAway wsX12_isAway) := goodIn_app (goodIn_of _ (by decide +kernel)) ggX12_runs_X12_isAway
set_option maxRecDepth 20000 in
theorem ggX12_runs_X12_comesIn : GoodIn wsX12_runs wsX12_comesIn := goodIn_r _ [14, 1, 15, 16, 17, 5, 18, 19, 20, 21, 3, 4, 6, 40, 41, 42, 43, 44, 45, 46, 47, 48, 49, 50, 51, 52, 53, 54, 55, 56, 57, 58, 59, 60, 61, 62, 63, 64, 65, 66, 67, 68, 69, 70, 71, 72, 73, 74, 75, 76, 77, 78, 79, 80, 81, 82, 83, 84, 85, 86] rfl (by decide +kernel)
set_option maxRecDepth 20000 in
theorem gX12_runs_X12_comesIn : GoodIn wsX12_runs (wsV RX12 284 RX12 yX12_comesIn wsX12_comesIn) := goodIn_app (goodIn_of _ (by decide +kernel)) ggX12_runs_X12_comesIn
set_option maxRecDepth 20000 in
theorem ggX12_runs_X12_isFenced : GoodIn wsX12_runs wsX12_isFenced := goodIn_r _ [31, 1, 3, 4, 5, 6, 40, 41, 42, 43, 44, 45, 46, 47, 48, 49, 50, 51, 52, 53, 54, 55, 56, 57, 58, 59, 60, 61, 62, 63, 64, 65, 66, 67, 68, 69, 70, 71, 72, 73, 74, 75, 76, 77, 78, 79, 80, 81, 82, 83, 84, 85, 86] rfl (by decide +kernel)
set_option maxRecDepth 20000 in
theorem gX12_runs_X12_isFenced : GoodIn wsX12_runs (wsV RX12 229 RX12 yX12_isFenced wsX12_isFenced) := goodIn_app (goodIn_of _ (by decide +kernel)) ggX12_runs_X12_isFenced
