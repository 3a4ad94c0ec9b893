set_option maxRecDepth 20000 in
theorem ggX12_tracks_X12_comesIn : GoodIn wsX12_tracks wsX12_comesIn := goodIn_r _ [20, 3, 21, 22, 23, 7, 24, 25, 26, 27, 28, 29, 30, 31, 32, 33, 34, 35, 36, 37, 38, 39, 40, 41, 42, 43, 44, 45, 46, 47, 48, 49, 50, 51, 52, 53, 54, 55, 56, 57, 58, 59, 60, 61, 62, 63, 64, 65, 66, 67, 68, 69, 70, 71, 72, 73, 74, 75, 76, 77] rfl (by decide +kernel)
set_option maxRecDepth 20000 in
theorem gX12_tracks_X12_comesIn : GoodIn wsX12_tracks (wsV RX12 284 RX12 yX12_comesIn wsX12_comesIn) := goodIn_app (goodIn_of _ (by decide +kernel)) ggX12_tracks_X12_comesIn
set_option maxRecDepth 20000 in
theorem ggX12_tracks_X12_isPlace : GoodIn wsX12_tracks wsX12_isPlace := goodIn_r _ [16, 3, 10, 11, 7, 12, 31, 32, 33, 34, 35, 36, 37, 38, 39, 40, 41, 42, 43, 44, 45, 46, 47, 48, 49, 50, 51, 52, 53, 54, 55, 56, 57, 58, 59, 60, 61, 62, 63, 64, 65, 66, 67, 68, 69, 70, 71, 72, 73, 74, 75, 76, 77] rfl (by decide +kernel)
set_option maxRecDepth 20000 in
theorem gX12_tracks_X12_isPlace : GoodIn wsX12_tracks (wsV RX12 250 RX12 yX12_isPlace wsX12_isPlace) := goodIn_app (goodIn_of _ (by decide +kernel)) ggX12_tracks_X12_isPlace
set_option maxRecDepth 20000 in
theorem ggX12_byteAt_X12_isIn : GoodIn wsX12_byteAt wsX12_isIn := goodIn_r _ [7] rfl (by decide +kernel)
set_option maxRecDepth 20000 in
theorem gX12_byteAt_X12_isIn : GoodIn wsX12_byteAt (va_wsS RX12 75 yX12_isIn wsX12_isIn) := goodIn_app (goodIn_of _ (by decide +kernel)) ggX12_byteAt_X12_isIn
set_option maxRecDepth 20000 in
theorem ggX12_writeWord_X12_write : GoodIn wsX12_writeWord wsX12_write := goodIn_r _ [9, 10, 11, 12, 13, 14, 15, 16, 17, 18, 19, 20, 21, 22, 23, 24, 25, 26, 27, 28, 29, 30, 31, 32, 33, 34, 35, 36, 37, 38, 39, 40, 41, 42, 43, 44, 45, 46, 47, 48, 49, 50, 51, 52, 53, 54, 55, 56, 57, 58] rfl (by decide +kernel)
set_option maxRecDepth 20000 in
theorem gX12_writeWord_X12_write : GoodIn wsX12_writeWord (wsV RX12 344 RX12 yX12_write wsX12_write) := goodIn_app (goodIn_of _ (by decide +kernel)) ggX12_writeWord_X12_write
set_option maxRecDepth 20000 in
theorem ggX12_writeWord_X12_writeWord : GoodIn wsX12_writeWord wsX12_writeWord := goodIn_r _ [0, 1, 2, 3, 4, 5, 6, 7, 8, 9, 10, 11, 12, 13, 14, 15, 16, 17, 18, 19, 20, 21, 22, 23, 24, 25, 26, 27, 28, 29, 30, 31, 32, 33, 34, 35, 36, 37, 38, 39, 40, 41, 42, 43, 44, 45, 46, 47, 48, 49, 50, 51, 52, 53, 54, 55, 56, 57, 58] rfl (by decide +kernel)
set_option maxRecDepth 20000 in
theorem gX12_writeWord_X12_writeWord : GoodIn wsX12_writeWord (wsV RX12 340 RX12 yX12_writeWord wsX12_writeWord) := goodIn_app (goodIn_of _ (by decide +kernel)) ggX12_writeWord_X12_writeWord
set_option maxRecDepth 20000 in
theorem ggX12_writeNumber_X12_write : GoodIn wsX12_writeNumber wsX12_write := goodIn_r _ [8, 9, 10, 11, 12, 13, 14, 15, 16, 17, 18, 19, 20, 21, 22, 23, 24, 25, 26, 27, 28, 29, 30, 31, 32, 33, 34, 35, 36, 37, 38, 39, 40, 41, 42, 43, 44, 45, 46, 47, 48, 49, 50, 51, 52, 53, 54, 55, 56, 57] rfl (by decide +kernel)
set_option maxRecDepth 20000 in
theorem gX12_writeNumber_X12_write : GoodIn wsX12_writeNumber (wsV RX12 344 RX12 yX12_write wsX12_write) := goodIn_app (goodIn_of _ (by decide +kernel)) ggX12_writeNumber_X12_write
set_option maxRecDepth 20000 in
theorem ggX12_writeNumber_X12_writeNumber : GoodIn wsX12_writeNumber wsX12_writeNumber := goodIn_r _ [0, 1, 2, 3, 4, 5, 6, 7, 8, 9, 10, 11, 12, 13, 14, 15, 16, 17, 18, 19, 20, 21, 22, 23, 24, 25, 26, 27, 28, 29, 30, 31, 32, 33, 34, 35, 36, 37, 38, 39, 40, 41, 42, 43, 44, 45, 46, 47, 48, 49, 50, 51, 52, 53, 54, 55, 56, 57] rfl (by decide +kernel)
set_option maxRecDepth 20000 in
theorem gX12_writeNumber_X12_writeNumber : GoodIn wsX12_writeNumber (wsV RX12 347 RX12 yX12_writeNumber wsX12_writeNumber) := goodIn_app (goodIn_of _ (by decide +kernel)) ggX12_writeNumber_X12_writeNumber
set_option maxRecDepth 20000 in
theorem ggX12_writeNext_X12_write : GoodIn wsX12_writeNext wsX12_write := goodIn_r _ [5, 6, 7, 13, 14, 15, 16, 17, 18, 19, 20, 21, 22, 23, 24, 25, 26, 27, 28, 29, 30, 31, 32, 33, 34, 35, 36, 37, 38, 39, 40, 41, 42, 43, 44, 45, 46, 47, 48, 49, 50, 51, 52, 53, 54, 55, 56, 57, 58, 59] rfl (by decide +kernel)
set_option maxRecDepth 20000 in
theorem gX12_writeNext_X12_write : GoodIn wsX12_writeNext (wsV RX12 344 RX12 yX12_write wsX12_write) := goodIn_app (goodIn_of _ (by decide +kernel)) ggX12_writeNext_X12_write
