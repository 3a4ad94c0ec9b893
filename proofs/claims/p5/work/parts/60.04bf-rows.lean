set_option maxRecDepth 20000 in
theorem ggX5_readFree_X8_takeMark : GoodIn wsX5_readFree wsX8_takeMark := goodIn_r _ [127, 128, 129, 130, 5, 131, 20, 21, 98, 3, 4, 6, 7, 8, 9, 110, 11, 12, 13, 14, 15, 16, 17, 18, 19, 22, 23, 24, 25, 26, 27, 28, 29, 30, 31, 32, 33, 34, 35, 36, 37, 38, 39, 40, 41, 42, 43, 44, 45, 46, 47, 48, 49, 50, 51, 52, 53, 54, 55, 56, 57, 58, 59, 60, 61, 62, 63, 64, 65, 66, 67, 68, 69, 70, 71, 72, 73, 74, 75, 76, 77, 78, 79, 80, 81, 82, 83, 84, 85, 86, 87, 88, 89, 90, 91, 134, 135, 136, 137, 138, 139, 140, 141, 142, 143, 144, 145, 146, 147, 148] rfl (by decide +kernel)
set_option maxRecDepth 20000 in
theorem gX5_readFree_X8_takeMark : GoodIn wsX5_readFree (wsV RX5 91 RX8 yX8_takeMark wsX8_takeMark) := goodIn_app (goodIn_of _ (by decide +kernel)) ggX5_readFree_X8_takeMark
set_option maxRecDepth 20000 in
theorem ggX5_readFree_X8_refuse : GoodIn wsX5_readFree wsX8_refuse := goodIn_r _ [6, 7, 8, 9, 134, 135, 136, 137, 138, 139, 140, 141, 142, 143, 144, 145, 146, 147, 148] rfl (by decide +kernel)
set_option maxRecDepth 20000 in
theorem gX5_readFree_X8_refuse : GoodIn wsX5_readFree (wsV RX5 66 RX8 yX8_refuse wsX8_refuse) := goodIn_app (goodIn_of _ (by decide +kernel)) ggX5_readFree_X8_refuse
set_option maxRecDepth 20000 in
theorem ggX5_readSign_X8_step : GoodIn wsX5_readSign wsX8_step := goodIn_r _ [13, 14, 15, 16, 17, 18, 8, 19, 20, 21, 22, 23, 5, 24, 25, 26, 27, 28, 29, 30, 31, 32, 33, 34, 35, 36, 37, 38, 39, 40, 41, 42, 43, 44, 45, 46, 47, 48, 49, 50, 51, 52, 53, 54, 55, 56, 57, 58, 59, 60, 61, 62, 63, 64, 65, 66, 67, 68, 69, 70, 71, 72, 73, 74, 75, 76, 77, 78, 79, 80, 81, 82, 83, 84, 85, 86, 87, 88, 89, 90, 91, 109, 110, 111, 112, 113, 114, 115, 116, 117, 118, 119, 120, 121, 122, 123] rfl (by decide +kernel)
set_option maxRecDepth 20000 in
theorem gX5_readSign_X8_step : GoodIn wsX5_readSign (wsV RX5 73 RX8 yX8_step wsX8_step) := goodIn_app (goodIn_of _ (by decide +kernel)) ggX5_readSign_X8_step
set_option maxRecDepth 20000 in
theorem ggX5_readSign_X8_takeNumber : GoodIn wsX5_readSign wsX8_takeNumber := goodIn_r _ [95, 20, 21, 96, 97, 3, 4, 5, 6, 7, 8, 9, 98, 11, 12, 13, 14, 15, 16, 17, 18, 19, 22, 23, 24, 25, 26, 27, 28, 29, 30, 31, 32, 33, 34, 35, 36, 37, 38, 39, 40, 41, 42, 43, 44, 45, 46, 47, 48, 49, 50, 51, 52, 53, 54, 55, 56, 57, 58, 59, 60, 61, 62, 63, 64, 65, 66, 67, 68, 69, 70, 71, 72, 73, 74, 75, 76, 77, 78, 79, 80, 81, 82, 83, 84, 85, 86, 87, 88, 89, 90, 91, 109, 110, 111, 112, 113, 114, 115, 116, 117, 118, 119, 120, 121, 122, 123] rfl (by decide +kernel)
set_option maxRecDepth 20000 in
theorem gX5_readSign_X8_takeNumber : GoodIn wsX5_readSign (wsV RX5 108 RX8 yX8_takeNumber wsX8_takeNumber) := goodIn_app (goodIn_of _ (by decide +kernel)) ggX5_readSign_X8_takeNumber
set_option maxRecDepth 20000 in
theorem ggX5_readSign_X8_takeMark : GoodIn wsX5_readSign wsX8_takeMark := goodIn_r _ [102, 103, 104, 105, 5, 106, 20, 21, 97, 3, 4, 6, 7, 8, 9, 98, 11, 12, 13, 14, 15, 16, 17, 18, 19, 22, 23, 24, 25, 26, 27, 28, 29, 30, 31, 32, 33, 34, 35, 36, 37, 38, 39, 40, 41, 42, 43, 44, 45, 46, 47, 48, 49, 50, 51, 52, 53, 54, 55, 56, 57, 58, 59, 60, 61, 62, 63, 64, 65, 66, 67, 68, 69, 70, 71, 72, 73, 74, 75, 76, 77, 78, 79, 80, 81, 82, 83, 84, 85, 86, 87, 88, 89, 90, 91, 109, 110, 111, 112, 113, 114, 115, 116, 117, 118, 119, 120, 121, 122, 123] rfl (by decide +kernel)
set_option maxRecDepth 20000 in
theorem gX5_readSign_X8_takeMark : GoodIn wsX5_readSign (wsV RX5 91 RX8 yX8_takeMark wsX8_takeMark) := goodIn_app (goodIn_of _ (by decide +kernel)) ggX5_readSign_X8_takeMark
set_option maxRecDepth 20000 in
theorem ggX5_readSign_X8_refuse : GoodIn wsX5_readSign wsX8_refuse := goodIn_r _ [6, 7, 8, 9, 109, 110, 111, 112, 113, 114, 115, 116, 117, 118, 119, 120, 121, 122, 123] rfl (by decide +kernel)
set_option maxRecDepth 20000 in
theorem gX5_readSign_X8_refuse : GoodIn wsX5_readSign (wsV RX5 66 RX8 yX8_refuse wsX8_refuse) := goodIn_app (goodIn_of _ (by decide +kernel)) ggX5_readSign_X8_refuse
set_option maxRecDepth 20000 in
theorem ggX5_readAll_X4_clear : GoodIn wsX5_readAll wsX4_clear := goodIn_r _ [12, 13, 14, 15, 16, 17, 18, 19, 205, 206, 207, 208, 209, 210, 211, 212, 213, 214, 215, 216] rfl (by decide +kernel)
set_option maxRecDepth 20000 in
theorem gX5_readAll_X4_clear : GoodIn wsX5_readAll (wsV RX5 9 RX4 yX4_clear wsX4_clear) := goodIn_app (goodIn_of _ (by decide +kernel)) ggX5_readAll_X4_clear
set_option maxRecDepth 20000 in
theorem ggX5_readAll_X8_refuse : GoodIn wsX5_readAll wsX8_refuse := goodIn_r _ [30, 31, 32, 33, 190, 191, 192, 193, 194, 195, 196, 197, 198, 199, 200, 201, 202, 203, 204] rfl (by decide +kernel)
set_option maxRecDepth 20000 in
theorem gX5_readAll_X8_refuse : GoodIn wsX5_readAll (wsV RX5 66 RX8 yX8_refuse wsX8_refuse) := goodIn_app (goodIn_of _ (by decide +kernel)) ggX5_readAll_X8_refuse
