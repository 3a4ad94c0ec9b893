set_option maxRecDepth 20000 in
theorem ggX0_mayBegin_X8_refuse : GoodIn wsX0_mayBegin wsX8_refuse := goodIn_r _ [23, 24, 25, 26, 27, 28, 29, 30, 31, 32, 33, 34, 35, 36, 37, 38, 39, 40, 41] rfl (by decide +kernel)
set_option maxRecDepth 20000 in
theorem gX0_mayBegin_X8_refuse : GoodIn wsX0_mayBegin (wsV RX0 67 RX8 yX8_refuse wsX8_refuse) := goodIn_app (goodIn_of _ (by decide +kernel)) ggX0_mayBegin_X8_refuse
set_option maxRecDepth 20000 in
theorem ggX0_mayBegin_X4_numberOf : GoodIn wsX0_mayBegin wsX4_numberOf := goodIn_r _ [12, 13, 14, 15, 16, 17, 18, 49, 50, 51, 52, 53, 54, 55, 56, 57, 58, 59, 60, 61, 62, 63, 64, 65, 66, 67, 68, 69, 70, 71, 72, 73, 74, 75, 76] rfl (by decide +kernel)
set_option maxRecDepth 20000 in
theorem gX0_mayBegin_X4_numberOf : GoodIn wsX0_mayBegin (wsV RX0 61 RX4 yX4_numberOf wsX4_numberOf) := goodIn_app (goodIn_of _ (by decide +kernel)) ggX0_mayBegin_X4_numberOf
set_option maxRecDepth 20000 in
theorem ggX0_readAct_X4_numberOf : GoodIn wsX0_readAct wsX4_numberOf := goodIn_r _ [96, 97, 98, 99, 100, 101, 102, 140, 141, 142, 143, 144, 145, 146, 147, 148, 149, 150, 151, 152, 153, 154, 155, 156, 157, 158, 159, 160, 161, 162, 163, 164, 165, 166, 167] rfl (by decide +kernel)
set_option maxRecDepth 20000 in
theorem gX0_readAct_X4_numberOf : GoodIn wsX0_readAct (wsV RX0 61 RX4 yX4_numberOf wsX4_numberOf) := goodIn_app (goodIn_of _ (by decide +kernel)) ggX0_readAct_X4_numberOf
set_option maxRecDepth 20000 in
theorem ggX0_readAct_X8_takeNamed : GoodIn wsX0_readAct wsX8_takeNamed := goodIn_r _ [106, 14, 107, 32, 108, 109, 110, 111, 11, 112, 113, 18, 114, 115, 93, 94, 95, 96, 97, 98, 99, 100, 101, 102, 116, 9, 10, 12, 13, 15, 16, 17, 19, 20, 21, 22, 23, 24, 25, 26, 27, 28, 29, 30, 31, 33, 34, 35, 36, 37, 38, 39, 40, 41, 42, 43, 44, 45, 46, 47, 48, 49, 50, 51, 52, 53, 54, 55, 56, 57, 58, 59, 60, 61, 62, 63, 64, 65, 66, 67, 68, 69, 70, 71, 72, 73, 74, 75, 76, 77, 78, 79, 80, 81, 82, 83, 84, 85, 86, 87, 88, 89, 90, 91, 118, 119, 120, 121, 122, 123, 124, 125, 126, 127, 128, 129, 130, 131, 132, 140, 141, 142, 143, 144, 145, 146, 147, 148, 149, 150, 151, 152, 153, 154, 155, 156, 157, 158, 159, 160, 161, 162, 163, 164, 165, 166, 167] rfl (by decide +kernel)
set_option maxRecDepth 20000 in
theorem gX0_readAct_X8_takeNamed : GoodIn wsX0_readAct (wsV RX0 105 RX8 yX8_takeNamed wsX8_takeNamed) := goodIn_app (goodIn_of _ (by decide +kernel)) ggX0_readAct_X8_takeNamed
set_option maxRecDepth 20000 in
theorem ggX0_readAct_X8_refuse : GoodIn wsX0_readAct wsX8_refuse := goodIn_r _ [112, 113, 18, 114, 118, 119, 120, 121, 122, 123, 124, 125, 126, 127, 128, 129, 130, 131, 132] rfl (by decide +kernel)
set_option maxRecDepth 20000 in
theorem gX0_readAct_X8_refuse : GoodIn wsX0_readAct (wsV RX0 67 RX8 yX8_refuse wsX8_refuse) := goodIn_app (goodIn_of _ (by decide +kernel)) ggX0_readAct_X8_refuse
set_option maxRecDepth 20000 in
theorem ggX0_readAct_X8_step : GoodIn wsX0_readAct wsX8_step := goodIn_r _ [12, 13, 14, 15, 16, 17, 18, 19, 20, 21, 22, 23, 11, 24, 25, 26, 27, 28, 29, 30, 31, 32, 33, 34, 35, 36, 37, 38, 39, 40, 41, 42, 43, 44, 45, 46, 47, 48, 49, 50, 51, 52, 53, 54, 55, 56, 57, 58, 59, 60, 61, 62, 63, 64, 65, 66, 67, 68, 69, 70, 71, 72, 73, 74, 75, 76, 77, 78, 79, 80, 81, 82, 83, 84, 85, 86, 87, 88, 89, 90, 91, 118, 119, 120, 121, 122, 123, 124, 125, 126, 127, 128, 129, 130, 131, 132] rfl (by decide +kernel)
set_option maxRecDepth 20000 in
theorem gX0_readAct_X8_step : GoodIn wsX0_readAct (wsV RX0 119 RX8 yX8_step wsX8_step) := goodIn_app (goodIn_of _ (by decide +kernel)) ggX0_readAct_X8_step
set_option maxRecDepth 20000 in
theorem ggX0_readLine_X0_readAct : GoodIn wsX0_readLine wsX0_readAct := goodIn_r _ [17, 18, 3, 8, 2, 4, 5, 19, 20, 21, 22, 23, 24, 25, 26, 27, 28, 29, 30, 31, 32, 33, 34, 35, 36, 37, 38, 39, 40, 41, 42, 43, 44, 45, 46, 47, 48, 49, 50, 51, 52, 53, 54, 55, 56, 57, 58, 59, 60, 61, 62, 63, 64, 65, 66, 67, 68, 69, 70, 71, 72, 73, 74, 75, 76, 77, 78, 79, 80, 81, 82, 83, 84, 85, 86, 87, 88, 89, 90, 91, 92, 93, 94, 95, 96, 97, 98, 99, 100, 101, 102, 103, 104, 105, 106, 107, 108, 109, 110, 111, 112, 113, 114, 115, 116, 117, 118, 119, 120, 121, 122, 123, 124, 125, 126, 127, 128, 129, 148, 149, 150, 151, 152, 153, 154, 155, 156, 157, 158, 159, 160, 161, 162, 141, 142, 143, 144, 145, 146, 147, 163, 164, 165, 166, 167, 168, 169, 170, 171, 172, 173, 174, 175, 176, 177, 178, 179, 180, 181, 182, 183, 184, 185, 186, 187, 188, 189, 190] rfl (by decide +kernel)
set_option maxRecDepth 20000 in
theorem gX0_readLine_X0_readAct : GoodIn wsX0_readLine (wsV RX0 85 RX0 yX0_readAct wsX0_readAct) := goodIn_app (goodIn_of _ (by decide +kernel)) ggX0_readLine_X0_readAct
set_option maxRecDepth 20000 in
theorem ggX0_readLine_X8_takeNumber : GoodIn wsX0_readLine wsX8_takeNumber := goodIn_r _ [133, 32, 33, 120, 121, 122, 123, 23, 124, 125, 30, 126, 128, 21, 22, 24, 25, 26, 27, 28, 29, 31, 34, 35, 36, 37, 38, 39, 40, 41, 42, 43, 44, 45, 46, 47, 48, 49, 50, 51, 52, 53, 54, 55, 56, 57, 58, 59, 60, 61, 62, 63, 64, 65, 66, 67, 68, 69, 70, 71, 72, 73, 74, 75, 76, 77, 78, 79, 80, 81, 82, 83, 84, 85, 86, 87, 88, 89, 90, 91, 92, 93, 94, 95, 96, 97, 98, 99, 100, 101, 102, 103, 148, 149, 150, 151, 152, 153, 154, 155, 156, 157, 158, 159, 160, 161, 162] rfl (by decide +kernel)
set_option maxRecDepth 20000 in
theorem gX0_readLine_X8_takeNumber : GoodIn wsX0_readLine (wsV RX0 98 RX8 yX8_takeNumber wsX8_takeNumber) := goodIn_app (goodIn_of _ (by decide +kernel)) ggX0_readLine_X8_takeNumber
