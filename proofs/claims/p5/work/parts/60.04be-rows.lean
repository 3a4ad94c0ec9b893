set_option maxRecDepth 20000 in
theorem ggX5_readDog_X8_takeNumber : GoodIn wsX5_readDog wsX8_takeNumber := goodIn_r _ [118, 19, 20, 114, 97, 2, 3, 4, 5, 6, 7, 8, 109, 10, 11, 12, 13, 14, 15, 16, 17, 18, 21, 22, 23, 24, 25, 26, 27, 28, 29, 30, 31, 32, 33, 34, 35, 36, 37, 38, 39, 40, 41, 42, 43, 44, 45, 46, 47, 48, 49, 50, 51, 52, 53, 54, 55, 56, 57, 58, 59, 60, 61, 62, 63, 64, 65, 66, 67, 68, 69, 70, 71, 72, 73, 74, 75, 76, 77, 78, 79, 80, 81, 82, 83, 84, 85, 86, 87, 88, 89, 90, 143, 144, 145, 146, 147, 148, 149, 150, 151, 152, 153, 154, 155, 156, 157] rfl (by decide +kernel)
set_option maxRecDepth 20000 in
theorem gX5_readDog_X8_takeNumber : GoodIn wsX5_readDog (wsV RX5 108 RX8 yX8_takeNumber wsX8_takeNumber) := goodIn_app (goodIn_of _ (by decide +kernel)) ggX5_readDog_X8_takeNumber
set_option maxRecDepth 20000 in
theorem ggX5_readDog_X4_addDog : GoodIn wsX5_readDog wsX4_addDog := goodIn_r _ [122, 108, 105, 107, 131, 132, 133, 134, 135, 136, 137, 138, 139, 140, 141, 142, 158, 159, 160, 161, 162, 163, 164, 165, 166, 167, 168, 169, 170, 171, 172, 173] rfl (by decide +kernel)
set_option maxRecDepth 20000 in
theorem gX5_readDog_X4_addDog : GoodIn wsX5_readDog (wsV RX5 135 RX4 yX4_addDog wsX4_addDog) := goodIn_app (goodIn_of _ (by decide +kernel)) ggX5_readDog_X4_addDog
set_option maxRecDepth 20000 in
theorem ggX5_readDog_X8_takeMark : GoodIn wsX5_readDog wsX8_takeMark := goodIn_r _ [126, 127, 128, 129, 4, 130, 19, 20, 97, 2, 3, 5, 6, 7, 8, 109, 10, 11, 12, 13, 14, 15, 16, 17, 18, 21, 22, 23, 24, 25, 26, 27, 28, 29, 30, 31, 32, 33, 34, 35, 36, 37, 38, 39, 40, 41, 42, 43, 44, 45, 46, 47, 48, 49, 50, 51, 52, 53, 54, 55, 56, 57, 58, 59, 60, 61, 62, 63, 64, 65, 66, 67, 68, 69, 70, 71, 72, 73, 74, 75, 76, 77, 78, 79, 80, 81, 82, 83, 84, 85, 86, 87, 88, 89, 90, 143, 144, 145, 146, 147, 148, 149, 150, 151, 152, 153, 154, 155, 156, 157] rfl (by decide +kernel)
set_option maxRecDepth 20000 in
theorem gX5_readDog_X8_takeMark : GoodIn wsX5_readDog (wsV RX5 91 RX8 yX8_takeMark wsX8_takeMark) := goodIn_app (goodIn_of _ (by decide +kernel)) ggX5_readDog_X8_takeMark
set_option maxRecDepth 20000 in
theorem ggX5_readDog_X8_refuse : GoodIn wsX5_readDog wsX8_refuse := goodIn_r _ [5, 6, 7, 8, 143, 144, 145, 146, 147, 148, 149, 150, 151, 152, 153, 154, 155, 156, 157] rfl (by decide +kernel)
set_option maxRecDepth 20000 in
theorem gX5_readDog_X8_refuse : GoodIn wsX5_readDog (wsV RX5 66 RX8 yX8_refuse wsX8_refuse) := goodIn_app (goodIn_of _ (by decide +kernel)) ggX5_readDog_X8_refuse
set_option maxRecDepth 20000 in
theorem ggX5_readFree_X8_step : GoodIn wsX5_readFree wsX8_step := goodIn_r _ [13, 14, 15, 16, 17, 18, 8, 19, 20, 21, 22, 23, 5, 24, 25, 26, 27, 28, 29, 30, 31, 32, 33, 34, 35, 36, 37, 38, 39, 40, 41, 42, 43, 44, 45, 46, 47, 48, 49, 50, 51, 52, 53, 54, 55, 56, 57, 58, 59, 60, 61, 62, 63, 64, 65, 66, 67, 68, 69, 70, 71, 72, 73, 74, 75, 76, 77, 78, 79, 80, 81, 82, 83, 84, 85, 86, 87, 88, 89, 90, 91, 134, 135, 136, 137, 138, 139, 140, 141, 142, 143, 144, 145, 146, 147, 148] rfl (by decide +kernel)
set_option maxRecDepth 20000 in
theorem gX5_readFree_X8_step : GoodIn wsX5_readFree (wsV RX5 73 RX8 yX8_step wsX8_step) := goodIn_app (goodIn_of _ (by decide +kernel)) ggX5_readFree_X8_step
set_option maxRecDepth 20000 in
theorem ggX5_readFree_X8_takeNamed : GoodIn wsX5_readFree wsX8_takeNamed := goodIn_r _ [95, 15, 96, 32, 97, 98, 3, 4, 5, 6, 7, 8, 9, 99, 100, 101, 102, 103, 104, 105, 106, 107, 108, 109, 110, 11, 12, 13, 14, 16, 17, 18, 19, 20, 21, 22, 23, 24, 25, 26, 27, 28, 29, 30, 31, 33, 34, 35, 36, 37, 38, 39, 40, 41, 42, 43, 44, 45, 46, 47, 48, 49, 50, 51, 52, 53, 54, 55, 56, 57, 58, 59, 60, 61, 62, 63, 64, 65, 66, 67, 68, 69, 70, 71, 72, 73, 74, 75, 76, 77, 78, 79, 80, 81, 82, 83, 84, 85, 86, 87, 88, 89, 90, 91, 134, 135, 136, 137, 138, 139, 140, 141, 142, 143, 144, 145, 146, 147, 148, 149, 150, 151, 152, 153, 154, 155, 156, 157, 158, 159, 160, 161, 162, 163, 164, 165, 166, 167, 168, 169, 170, 171, 172, 173, 174, 175, 176] rfl (by decide +kernel)
set_option maxRecDepth 20000 in
theorem gX5_readFree_X8_takeNamed : GoodIn wsX5_readFree (wsV RX5 97 RX8 yX8_takeNamed wsX8_takeNamed) := goodIn_app (goodIn_of _ (by decide +kernel)) ggX5_readFree_X8_takeNamed
set_option maxRecDepth 20000 in
theorem ggX5_readFree_X8_takeHours : GoodIn wsX5_readFree wsX8_takeHours := goodIn_r _ [114, 97, 115, 116, 117, 118, 119, 5, 120, 20, 21, 98, 3, 4, 6, 7, 8, 9, 110, 11, 12, 13, 14, 15, 16, 17, 18, 19, 22, 23, 24, 25, 26, 27, 28, 29, 30, 31, 32, 33, 34, 35, 36, 37, 38, 39, 40, 41, 42, 43, 44, 45, 46, 47, 48, 49, 50, 51, 52, 53, 54, 55, 56, 57, 58, 59, 60, 61, 62, 63, 64, 65, 66, 67, 68, 69, 70, 71, 72, 73, 74, 75, 76, 77, 78, 79, 80, 81, 82, 83, 84, 85, 86, 87, 88, 89, 90, 91, 134, 135, 136, 137, 138, 139, 140, 141, 142, 143, 144, 145, 146, 147, 148] rfl (by decide +kernel)
set_option maxRecDepth 20000 in
theorem gX5_readFree_X8_takeHours : GoodIn wsX5_readFree (wsV RX5 104 RX8 yX8_takeHours wsX8_takeHours) := goodIn_app (goodIn_of _ (by decide +kernel)) ggX5_readFree_X8_takeHours
set_option maxRecDepth 20000 in
theorem ggX5_readFree_X11_hoursOf : GoodIn wsX5_readFree wsX11_hoursOf := goodIn_r _ [123] rfl (by decide +kernel)
set_option maxRecDepth 20000 in
theorem gX5_readFree_X11_hoursOf_n151 : GoodIn wsX5_readFree (wsX11_hoursOf) := ggX5_readFree_X11_hoursOf
