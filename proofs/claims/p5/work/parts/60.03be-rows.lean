set_option maxRecDepth 20000 in
theorem ggX8_takeMark_X8_step : GoodIn wsX8_takeMark wsX8_step := goodIn_r _ [18, 19, 20, 21, 22, 23, 13, 24, 6, 7, 25, 26, 4, 27, 28, 29, 30, 31, 32, 33, 34, 35, 36, 37, 38, 39, 40, 41, 42, 43, 44, 45, 46, 47, 48, 49, 50, 51, 52, 53, 54, 55, 56, 57, 58, 59, 60, 61, 62, 63, 64, 65, 66, 67, 68, 69, 70, 71, 72, 73, 74, 75, 76, 77, 78, 79, 80, 81, 82, 83, 84, 85, 86, 87, 88, 89, 90, 91, 92, 93, 94, 95, 96, 97, 98, 99, 100, 101, 102, 103, 104, 105, 106, 107, 108, 109] rfl (by decide +kernel)
set_option maxRecDepth 20000 in
theorem gX8_takeMark_X8_step : GoodIn wsX8_takeMark (wsV RX8 40 RX8 yX8_step wsX8_step) := goodIn_app (goodIn_of _ (by decide +kernel)) ggX8_takeMark_X8_step
set_option maxRecDepth 20000 in
theorem ggX8_takeMark_X8_refuse : GoodIn wsX8_takeMark wsX8_refuse := goodIn_r _ [11, 12, 13, 14, 95, 96, 97, 98, 99, 100, 101, 102, 103, 104, 105, 106, 107, 108, 109] rfl (by decide +kernel)
set_option maxRecDepth 20000 in
theorem gX8_takeMark_X8_refuse : GoodIn wsX8_takeMark (wsV RX8 76 RX8 yX8_refuse wsX8_refuse) := goodIn_app (goodIn_of _ (by decide +kernel)) ggX8_takeMark_X8_refuse
set_option maxRecDepth 20000 in
theorem ggX8_takeNumber_X8_refuse : GoodIn wsX8_takeNumber wsX8_refuse := goodIn_r _ [8, 9, 10, 11, 92, 93, 94, 95, 96, 97, 98, 99, 100, 101, 102, 103, 104, 105, 106] rfl (by decide +kernel)
set_option maxRecDepth 20000 in
theorem gX8_takeNumber_X8_refuse : GoodIn wsX8_takeNumber (wsV RX8 76 RX8 yX8_refuse wsX8_refuse) := goodIn_app (goodIn_of _ (by decide +kernel)) ggX8_takeNumber_X8_refuse
set_option maxRecDepth 20000 in
theorem ggX8_takeNumber_X8_step : GoodIn wsX8_takeNumber wsX8_step := goodIn_r _ [15, 16, 17, 18, 19, 20, 10, 21, 1, 2, 22, 23, 7, 24, 25, 26, 27, 28, 29, 30, 31, 32, 33, 34, 35, 36, 37, 38, 39, 40, 41, 42, 43, 44, 45, 46, 47, 48, 49, 50, 51, 52, 53, 54, 55, 56, 57, 58, 59, 60, 61, 62, 63, 64, 65, 66, 67, 68, 69, 70, 71, 72, 73, 74, 75, 76, 77, 78, 79, 80, 81, 82, 83, 84, 85, 86, 87, 88, 89, 90, 91, 92, 93, 94, 95, 96, 97, 98, 99, 100, 101, 102, 103, 104, 105, 106] rfl (by decide +kernel)
set_option maxRecDepth 20000 in
theorem gX8_takeNumber_X8_step : GoodIn wsX8_takeNumber (wsV RX8 40 RX8 yX8_step wsX8_step) := goodIn_app (goodIn_of _ (by decide +kernel)) ggX8_takeNumber_X8_step
set_option maxRecDepth 20000 in
theorem ggX8_takeHours_X8_takeNumber : GoodIn wsX8_takeHours wsX8_takeNumber := goodIn_r _ [8, 9, 10, 1, 11, 12, 13, 7, 14, 15, 16, 17, 18, 19, 20, 21, 22, 23, 24, 25, 26, 27, 28, 29, 30, 31, 32, 33, 34, 35, 36, 37, 38, 39, 40, 41, 42, 43, 44, 45, 46, 47, 48, 49, 50, 51, 52, 53, 54, 55, 56, 57, 58, 59, 60, 61, 62, 63, 64, 65, 66, 67, 68, 69, 70, 71, 72, 73, 74, 75, 76, 77, 78, 79, 80, 81, 82, 83, 84, 85, 86, 87, 88, 89, 90, 91, 92, 93, 94, 95, 96, 97, 98, 99, 100, 101, 102, 103, 104, 105, 106, 107, 108, 109, 110, 111, 112] rfl (by decide +kernel)
set_option maxRecDepth 20000 in
theorem gX8_takeHours_X8_takeNumber : GoodIn wsX8_takeHours (wsV RX8 82 RX8 yX8_takeNumber wsX8_takeNumber) := goodIn_app (goodIn_of _ (by decide +kernel)) ggX8_takeHours_X8_takeNumber
set_option maxRecDepth 20000 in
theorem ggX8_takeNamed_X4_numberOf : GoodIn wsX8_takeNamed wsX4_numberOf := goodIn_r _ [17, 18, 19, 20, 21, 22, 23, 119, 120, 121, 122, 123, 124, 125, 126, 127, 128, 129, 130, 131, 132, 133, 134, 135, 136, 137, 138, 139, 140, 141, 142, 143, 144, 145, 146] rfl (by decide +kernel)
set_option maxRecDepth 20000 in
theorem gX8_takeNamed_X4_numberOf : GoodIn wsX8_takeNamed (wsV RX8 95 RX4 yX4_numberOf wsX4_numberOf) := goodIn_app (goodIn_of _ (by decide +kernel)) ggX8_takeNamed_X4_numberOf
set_option maxRecDepth 20000 in
theorem ggX8_takeNamed_X8_refuse : GoodIn wsX8_takeNamed wsX8_refuse := goodIn_r _ [9, 10, 11, 12, 104, 105, 106, 107, 108, 109, 110, 111, 112, 113, 114, 115, 116, 117, 118] rfl (by decide +kernel)
set_option maxRecDepth 20000 in
theorem gX8_takeNamed_X8_refuse : GoodIn wsX8_takeNamed (wsV RX8 76 RX8 yX8_refuse wsX8_refuse) := goodIn_app (goodIn_of _ (by decide +kernel)) ggX8_takeNamed_X8_refuse
set_option maxRecDepth 20000 in
theorem ggX8_takeNamed_X8_step : GoodIn wsX8_takeNamed wsX8_step := goodIn_r _ [27, 28, 1, 29, 30, 31, 11, 32, 33, 34, 35, 36, 8, 37, 38, 39, 40, 41, 42, 43, 44, 3, 45, 46, 47, 48, 49, 50, 51, 52, 53, 54, 55, 56, 57, 58, 59, 60, 61, 62, 63, 64, 65, 66, 67, 68, 69, 70, 71, 72, 73, 74, 75, 76, 77, 78, 79, 80, 81, 82, 83, 84, 85, 86, 87, 88, 89, 90, 91, 92, 93, 94, 95, 96, 97, 98, 99, 100, 101, 102, 103, 104, 105, 106, 107, 108, 109, 110, 111, 112, 113, 114, 115, 116, 117, 118] rfl (by decide +kernel)
set_option maxRecDepth 20000 in
theorem gX8_takeNamed_X8_step : GoodIn wsX8_takeNamed (wsV RX8 40 RX8 yX8_step wsX8_step) := goodIn_app (goodIn_of _ (by decide +kernel)) ggX8_takeNamed_X8_step
