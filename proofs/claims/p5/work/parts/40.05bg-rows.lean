set_option maxRecDepth 20000 in
theorem ggX12_writeNext_X12_writeWord : GoodIn wsX12_writeNext wsX12_writeWord := goodIn_r _ [11, 12, 8, 9, 10, 4, 1, 2, 3, 5, 6, 7, 13, 14, 15, 16, 17, 18, 19, 20, 21, 22, 23, 24, 25, 26, 27, 28, 29, 30, 31, 32, 33, 34, 35, 36, 37, 38, 39, 40, 41, 42, 43, 44, 45, 46, 47, 48, 49, 50, 51, 52, 53, 54, 55, 56, 57, 58, 59] rfl (by decide +kernel)
set_option maxRecDepth 20000 in
theorem gX12_writeNext_X12_writeWord : GoodIn wsX12_writeNext (wsV RX12 340 RX12 yX12_writeWord wsX12_writeWord) := goodIn_app (goodIn_of _ (by decide +kernel)) ggX12_writeNext_X12_writeWord
set_option maxRecDepth 20000 in
theorem ggX12_board_X12_isPlace : GoodIn wsX12_board wsX12_isPlace := goodIn_r _ [9, 4, 10, 11, 8, 12, 44, 45, 46, 47, 48, 49, 50, 51, 52, 53, 54, 55, 56, 57, 58, 59, 60, 61, 62, 63, 64, 65, 66, 67, 68, 69, 70, 71, 72, 73, 74, 75, 76, 77, 78, 79, 80, 81, 82, 83, 84, 85, 86, 87, 88, 89, 90] rfl (by decide +kernel)
set_option maxRecDepth 20000 in
theorem gX12_board_X12_isPlace : GoodIn wsX12_board (wsV RX12 250 RX12 yX12_isPlace wsX12_isPlace) := goodIn_app (goodIn_of _ (by decide +kernel)) ggX12_board_X12_isPlace
set_option maxRecDepth 20000 in
theorem ggX12_board_X12_writeWord : GoodIn wsX12_board wsX12_writeWord := goodIn_r _ [16, 17, 13, 14, 15, 8, 18, 19, 20, 21, 22, 2, 44, 45, 46, 47, 48, 49, 50, 51, 52, 53, 54, 55, 56, 57, 58, 59, 60, 61, 62, 63, 64, 65, 66, 67, 68, 69, 70, 71, 72, 73, 74, 75, 76, 77, 78, 79, 80, 81, 82, 83, 84, 85, 86, 87, 88, 89, 90] rfl (by decide +kernel)
set_option maxRecDepth 20000 in
theorem gX12_board_X12_writeWord : GoodIn wsX12_board (wsV RX12 340 RX12 yX12_writeWord wsX12_writeWord) := goodIn_app (goodIn_of _ (by decide +kernel)) ggX12_board_X12_writeWord
set_option maxRecDepth 20000 in
theorem ggX12_board_X12_wordOf : GoodIn wsX12_board wsX12_wordOf := goodIn_r _ [33, 23, 24, 8, 25, 17, 26] rfl (by decide +kernel)
set_option maxRecDepth 20000 in
theorem gX12_board_X12_wordOf : GoodIn wsX12_board (va_wsS RX12 62 yX12_wordOf wsX12_wordOf) := goodIn_app (goodIn_of _ (by decide +kernel)) ggX12_board_X12_wordOf
set_option maxRecDepth 20000 in
theorem ggX12_board_X12_writeNext : GoodIn wsX12_board wsX12_writeNext := goodIn_r _ [30, 18, 19, 20, 8, 21, 22, 2, 13, 14, 15, 16, 17, 44, 45, 46, 47, 48, 49, 50, 51, 52, 53, 54, 55, 56, 57, 58, 59, 60, 61, 62, 63, 64, 65, 66, 67, 68, 69, 70, 71, 72, 73, 74, 75, 76, 77, 78, 79, 80, 81, 82, 83, 84, 85, 86, 87, 88, 89, 90] rfl (by decide +kernel)
set_option maxRecDepth 20000 in
theorem gX12_board_X12_writeNext : GoodIn wsX12_board (wsV RX12 350 RX12 yX12_writeNext wsX12_writeNext) := goodIn_app (goodIn_of _ (by decide +kernel)) ggX12_board_X12_writeNext
set_option maxRecDepth 20000 in
theorem ggX12_board_X12_write : GoodIn wsX12_board wsX12_write := goodIn_r _ [21, 22, 2, 44, 45, 46, 47, 48, 49, 50, 51, 52, 53, 54, 55, 56, 57, 58, 59, 60, 61, 62, 63, 64, 65, 66, 67, 68, 69, 70, 71, 72, 73, 74, 75, 76, 77, 78, 79, 80, 81, 82, 83, 84, 85, 86, 87, 88, 89, 90] rfl (by decide +kernel)
set_option maxRecDepth 20000 in
theorem gX12_board_X12_write : GoodIn wsX12_board (wsV RX12 344 RX12 yX12_write wsX12_write) := goodIn_app (goodIn_of _ (by decide +kernel)) ggX12_board_X12_write
set_option maxRecDepth 20000 in
theorem ggX12_board_X12_has : GoodIn wsX12_board wsX12_has := goodIn_r _ [36] rfl (by decide +kernel)
set_option maxRecDepth 20000 in
theorem gX12_board_X12_has : GoodIn wsX12_board (va_wsS RX12 217 yX12_has wsX12_has) := goodIn_app (goodIn_of _ (by decide +kernel)) ggX12_board_X12_has
set_option maxRecDepth 20000 in
theorem ggX12_board_X12_writeNumber : GoodIn wsX12_board wsX12_writeNumber := goodIn_r _ [40, 37, 38, 39, 8, 18, 19, 20, 21, 22, 2, 44, 45, 46, 47, 48, 49, 50, 51, 52, 53, 54, 55, 56, 57, 58, 59, 60, 61, 62, 63, 64, 65, 66, 67, 68, 69, 70, 71, 72, 73, 74, 75, 76, 77, 78, 79, 80, 81, 82, 83, 84, 85, 86, 87, 88, 89, 90] rfl (by decide +kernel)
set_option maxRecDepth 20000 in
theorem gX12_board_X12_writeNumber : GoodIn wsX12_board (wsV RX12 347 RX12 yX12_writeNumber wsX12_writeNumber) := goodIn_app (goodIn_of _ (by decide +kernel)) ggX12_board_X12_writeNumber
