set_option maxRecDepth 20000 in
theorem ggX8_stepOverRun_X8_isDigit : GoodIn wsX8_stepOverRun wsX8_isDigit := goodIn_r _ [14] rfl (by decide +kernel)
set_option maxRecDepth 20000 in
theorem gX8_stepOverRun_X8_isDigit : GoodIn wsX8_stepOverRun (va_wsS RX8 53 yX8_isDigit wsX8_isDigit) := goodIn_app (goodIn_of _ (by decide +kernel)) ggX8_stepOverRun_X8_isDigit
set_option maxRecDepth 20000 in
theorem ggX8_step_X8_isLetter : GoodIn wsX8_step wsX8_isLetter := goodIn_r _ [13] rfl (by decide +kernel)
set_option maxRecDepth 20000 in
theorem gX8_step_X8_isLetter : GoodIn wsX8_step (va_wsS RX8 49 yX8_isLetter wsX8_isLetter) := goodIn_app (goodIn_of _ (by decide +kernel)) ggX8_step_X8_isLetter
set_option maxRecDepth 20000 in
theorem ggX8_step_X8_stepOverRun : GoodIn wsX8_step wsX8_stepOverRun := goodIn_r _ [20, 21, 9, 3, 4, 5, 6, 8, 10, 11, 12, 13, 14, 15, 16, 81, 82, 83, 84, 85, 86, 87, 88, 89, 90, 91, 92, 93, 94, 95] rfl (by decide +kernel)
set_option maxRecDepth 20000 in
theorem gX8_step_X8_stepOverRun : GoodIn wsX8_step (wsV RX8 56 RX8 yX8_stepOverRun wsX8_stepOverRun) := goodIn_app (goodIn_of _ (by decide +kernel)) ggX8_step_X8_stepOverRun
set_option maxRecDepth 20000 in
theorem ggX8_step_X10_of : GoodIn wsX8_step wsX10_of := goodIn_r _ [25, 26, 27, 28, 29, 30, 31, 32, 33, 34, 35, 36, 37, 38, 39, 40, 41, 42, 43, 44, 45, 46, 47, 48, 49, 50, 51, 52, 53, 54, 55, 56, 57, 58, 59, 60, 61, 62, 63, 64, 65, 66, 67, 68, 69, 70, 71, 72, 73, 74, 75, 76, 77] rfl (by decide +kernel)
set_option maxRecDepth 20000 in
theorem gX8_step_X10_of : GoodIn wsX8_step (va_wsS RX8 59 yX10_of wsX10_of) := goodIn_app (goodIn_of _ (by decide +kernel)) ggX8_step_X10_of
set_option maxRecDepth 20000 in
theorem ggX8_step_X8_isDigit : GoodIn wsX8_step wsX8_isDigit := goodIn_r _ [16] rfl (by decide +kernel)
set_option maxRecDepth 20000 in
theorem gX8_step_X8_isDigit : GoodIn wsX8_step (va_wsS RX8 53 yX8_isDigit wsX8_isDigit) := goodIn_app (goodIn_of _ (by decide +kernel)) ggX8_step_X8_isDigit
set_option maxRecDepth 20000 in
theorem ggX8_step_X8_isMark : GoodIn wsX8_step wsX8_isMark := goodIn_r _ [80] rfl (by decide +kernel)
set_option maxRecDepth 20000 in
theorem gX8_step_X8_isMark : GoodIn wsX8_step (va_wsS RX8 66 yX8_isMark wsX8_isMark) := goodIn_app (goodIn_of _ (by decide +kernel)) ggX8_step_X8_isMark
set_option maxRecDepth 20000 in
theorem ggX8_open_X8_step : GoodIn wsX8_open wsX8_step := goodIn_r _ [9, 10, 11, 2, 12, 13, 14, 1, 15, 16, 17, 18, 8, 19, 20, 21, 22, 23, 24, 25, 26, 27, 28, 29, 30, 31, 32, 33, 34, 35, 36, 37, 38, 39, 40, 41, 42, 43, 44, 45, 46, 47, 48, 49, 50, 51, 52, 53, 54, 55, 56, 57, 58, 59, 60, 61, 62, 63, 64, 65, 66, 67, 68, 69, 70, 71, 72, 73, 74, 75, 76, 77, 78, 79, 80, 81, 82, 83, 84, 85, 86, 87, 88, 89, 90, 91, 92, 93, 94, 95, 96, 97, 98, 99, 100, 101] rfl (by decide +kernel)
set_option maxRecDepth 20000 in
theorem gX8_open_X8_step : GoodIn wsX8_open (wsV RX8 40 RX8 yX8_step wsX8_step) := goodIn_app (goodIn_of _ (by decide +kernel)) ggX8_open_X8_step
set_option maxRecDepth 20000 in
theorem ggX8_takeMark_X8_looksAtMark : GoodIn wsX8_takeMark wsX8_looksAtMark := goodIn_r _ [5, 6, 7, 95, 96, 97, 98, 99, 100, 101, 102, 103, 104, 105, 106, 107, 108, 109] rfl (by decide +kernel)
set_option maxRecDepth 20000 in
theorem gX8_takeMark_X8_looksAtMark : GoodIn wsX8_takeMark (wsV RX8 73 RX8 yX8_looksAtMark wsX8_looksAtMark) := goodIn_app (goodIn_of _ (by decide +kernel)) ggX8_takeMark_X8_looksAtMark
