set_option maxRecDepth 20000 in
theorem ggX7_readOne_X8_looksAtMark : GoodIn wsX7_readOne wsX8_looksAtMark := goodIn_r _ [7, 8, 9, 158, 159, 160, 161, 162, 163, 164, 165, 166, 167, 168, 169, 170, 171, 172] rfl (by decide +kernel)
set_option maxRecDepth 20000 in
theorem gX7_readOne_X8_looksAtMark : GoodIn wsX7_readOne (wsV RX7 61 RX8 yX8_looksAtMark wsX8_looksAtMark) := goodIn_app (goodIn_of _ (by decide +kernel)) ggX7_readOne_X8_looksAtMark
set_option maxRecDepth 20000 in
theorem ggX7_readOne_X8_refuse : GoodIn wsX7_readOne wsX8_refuse := goodIn_r _ [25, 26, 27, 28, 158, 159, 160, 161, 162, 163, 164, 165, 166, 167, 168, 169, 170, 171, 172] rfl (by decide +kernel)
set_option maxRecDepth 20000 in
theorem gX7_readOne_X8_refuse : GoodIn wsX7_readOne (wsV RX7 57 RX8 yX8_refuse wsX8_refuse) := goodIn_app (goodIn_of _ (by decide +kernel)) ggX7_readOne_X8_refuse
set_option maxRecDepth 20000 in
theorem ggX7_readOne_X7_beginsOne : GoodIn wsX7_readOne wsX7_beginsOne := goodIn_r _ [13, 2, 14, 15, 16, 17, 18, 19, 20, 21] rfl (by decide +kernel)
set_option maxRecDepth 20000 in
theorem gX7_readOne_X7_beginsOne : GoodIn wsX7_readOne (va_wsS RX7 64 yX7_beginsOne wsX7_beginsOne) := goodIn_app (goodIn_of _ (by decide +kernel)) ggX7_readOne_X7_beginsOne
set_option maxRecDepth 20000 in
theorem ggX7_readCond_X7_readOne : GoodIn wsX7_readCond wsX7_readOne := goodIn_r _ [105, 106, 107, 108, 109, 110, 10, 111, 19, 20, 112, 113, 6, 114, 115, 116, 117, 118, 119, 120, 121, 122, 99, 100, 101, 102, 103, 17, 104, 7, 8, 9, 11, 12, 13, 14, 15, 16, 18, 21, 22, 23, 24, 25, 26, 27, 28, 29, 30, 31, 32, 33, 34, 35, 36, 37, 38, 39, 40, 41, 42, 43, 44, 45, 46, 47, 48, 49, 50, 51, 52, 53, 54, 55, 56, 57, 58, 59, 60, 61, 62, 63, 64, 65, 66, 67, 68, 69, 70, 71, 72, 73, 74, 75, 76, 77, 78, 79, 80, 81, 82, 83, 84, 85, 86, 87, 88, 89, 90, 123, 124, 125, 126, 127, 128, 129, 130, 131, 132, 3, 4, 5, 91, 92, 93, 94, 95, 96, 97, 98, 133, 134, 135, 136, 137, 138, 139, 140, 141, 142, 143, 144, 145, 146, 147, 148, 149, 150, 151, 152, 153, 154, 155, 156, 157, 0, 1, 2, 158, 159, 160, 161, 162, 163, 164, 165, 166, 167, 168, 169, 170, 171, 172, 173, 174, 175, 176, 177, 178, 179, 180, 181, 182, 183, 184, 185, 186, 187, 188, 189, 190, 191, 192, 193, 194, 195, 196, 197, 198, 199, 200, 201, 202, 203, 204, 205] rfl (by decide +kernel)
set_option maxRecDepth 20000 in
theorem gX7_readCond_X7_readOne : GoodIn wsX7_readCond (wsV RX7 31 RX7 yX7_readOne wsX7_readOne) := goodIn_app (goodIn_of _ (by decide +kernel)) ggX7_readCond_X7_readOne
set_option maxRecDepth 20000 in
theorem ggX7_readCond_X7_add : GoodIn wsX7_readCond wsX7_add := goodIn_r _ [94, 95, 96, 97, 98, 173, 174, 175, 176, 177] rfl (by decide +kernel)
set_option maxRecDepth 20000 in
theorem gX7_readCond_X7_add : GoodIn wsX7_readCond (wsV RX7 47 RX7 yX7_add wsX7_add) := goodIn_app (goodIn_of _ (by decide +kernel)) ggX7_readCond_X7_add
set_option maxRecDepth 20000 in
theorem ggX7_readCond_X8_step : GoodIn wsX7_readCond wsX8_step := goodIn_r _ [11, 12, 13, 14, 15, 16, 17, 18, 19, 20, 21, 22, 10, 23, 24, 25, 26, 27, 28, 29, 30, 31, 32, 33, 34, 35, 36, 37, 38, 39, 40, 41, 42, 43, 44, 45, 46, 47, 48, 49, 50, 51, 52, 53, 54, 55, 56, 57, 58, 59, 60, 61, 62, 63, 64, 65, 66, 67, 68, 69, 70, 71, 72, 73, 74, 75, 76, 77, 78, 79, 80, 81, 82, 83, 84, 85, 86, 87, 88, 89, 90, 158, 159, 160, 161, 162, 163, 164, 165, 166, 167, 168, 169, 170, 171, 172] rfl (by decide +kernel)
set_option maxRecDepth 20000 in
theorem gX7_readCond_X8_step : GoodIn wsX7_readCond (wsV RX7 44 RX8 yX8_step wsX8_step) := goodIn_app (goodIn_of _ (by decide +kernel)) ggX7_readCond_X8_step
set_option maxRecDepth 20000 in
theorem ggX7_readOne_X8_step : GoodIn wsX7_readOne wsX8_step := goodIn_r _ [32, 33, 34, 35, 36, 37, 27, 38, 8, 9, 39, 40, 6, 41, 42, 43, 44, 45, 46, 47, 48, 49, 50, 51, 52, 53, 54, 55, 56, 57, 58, 59, 60, 61, 62, 63, 64, 65, 66, 67, 68, 69, 70, 71, 72, 73, 74, 75, 76, 77, 78, 79, 80, 81, 82, 83, 84, 85, 86, 87, 88, 89, 90, 91, 92, 93, 94, 95, 96, 97, 98, 99, 100, 101, 102, 103, 104, 105, 106, 107, 108, 158, 159, 160, 161, 162, 163, 164, 165, 166, 167, 168, 169, 170, 171, 172] rfl (by decide +kernel)
set_option maxRecDepth 20000 in
theorem gX7_readOne_X8_step : GoodIn wsX7_readOne (wsV RX7 44 RX8 yX8_step wsX8_step) := goodIn_app (goodIn_of _ (by decide +kernel)) ggX7_readOne_X8_step
set_option maxRecDepth 20000 in
theorem ggX7_readOne_X7_readCond : GoodIn wsX7_readOne wsX7_readCond := goodIn_r _ [155, 156, 157, 119, 120, 121, 12, 29, 30, 31, 6, 32, 33, 34, 35, 36, 37, 27, 38, 8, 9, 39, 40, 41, 42, 43, 44, 45, 46, 47, 48, 49, 50, 51, 52, 53, 54, 55, 56, 57, 58, 59, 60, 61, 62, 63, 64, 65, 66, 67, 68, 69, 70, 71, 72, 73, 74, 75, 76, 77, 78, 79, 80, 81, 82, 83, 84, 85, 86, 87, 88, 89, 90, 91, 92, 93, 94, 95, 96, 97, 98, 99, 100, 101, 102, 103, 104, 105, 106, 107, 108, 122, 123, 124, 125, 126, 127, 128, 129, 22, 23, 24, 25, 26, 28, 0, 1, 2, 3, 4, 5, 7, 10, 11, 13, 14, 15, 16, 17, 18, 19, 20, 21, 109, 110, 111, 112, 113, 114, 115, 116, 117, 118, 130, 131, 132, 133, 134, 135, 136, 137, 138, 139, 140, 141, 142, 143, 144, 145, 146, 147, 148, 149, 150, 151, 152, 153, 154, 158, 159, 160, 161, 162, 163, 164, 165, 166, 167, 168, 169, 170, 171, 172, 173, 174, 175, 176, 177, 178, 179, 180, 181, 182, 183, 184, 185, 186, 187, 188, 189, 190, 191, 192, 193, 194, 195, 196, 197, 198, 199, 200, 201, 202, 203, 204, 205] rfl (by decide +kernel)
set_option maxRecDepth 20000 in
theorem gX7_readOne_X7_readCond : GoodIn wsX7_readOne (wsV RX7 68 RX7 yX7_readCond wsX7_readCond) := goodIn_app (goodIn_of _ (by decide +kernel)) ggX7_readOne_X7_readCond
