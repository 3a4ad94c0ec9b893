set_option maxRecDepth 20000 in
theorem ggX5_readPerson_X8_takeHours : GoodIn wsX5_readPerson wsX8_takeHours := goodIn_r _ [118, 114, 119, 120, 121, 122, 123, 4, 124, 19, 20, 97, 2, 3, 5, 6, 7, 8, 109, 10, 11, 12, 13, 14, 15, 16, 17, 18, 21, 22, 23, 24, 25, 26, 27, 28, 29, 30, 31, 32, 33, 34, 35, 36, 37, 38, 39, 40, 41, 42, 43, 44, 45, 46, 47, 48, 49, 50, 51, 52, 53, 54, 55, 56, 57, 58, 59, 60, 61, 62, 63, 64, 65, 66, 67, 68, 69, 70, 71, 72, 73, 74, 75, 76, 77, 78, 79, 80, 81, 82, 83, 84, 85, 86, 87, 88, 89, 90, 150, 151, 152, 153, 154, 155, 156, 157, 158, 159, 160, 161, 162, 163, 164] rfl (by decide +kernel)
set_option maxRecDepth 20000 in
theorem gX5_readPerson_X8_takeHours : GoodIn wsX5_readPerson (wsV RX5 104 RX8 yX8_takeHours wsX8_takeHours) := goodIn_app (goodIn_of _ (by decide +kernel)) ggX5_readPerson_X8_takeHours
set_option maxRecDepth 20000 in
theorem ggX5_readPerson_X8_takeNumber : GoodIn wsX5_readPerson wsX8_takeNumber := goodIn_r _ [124, 19, 20, 114, 97, 2, 3, 4, 5, 6, 7, 8, 109, 10, 11, 12, 13, 14, 15, 16, 17, 18, 21, 22, 23, 24, 25, 26, 27, 28, 29, 30, 31, 32, 33, 34, 35, 36, 37, 38, 39, 40, 41, 42, 43, 44, 45, 46, 47, 48, 49, 50, 51, 52, 53, 54, 55, 56, 57, 58, 59, 60, 61, 62, 63, 64, 65, 66, 67, 68, 69, 70, 71, 72, 73, 74, 75, 76, 77, 78, 79, 80, 81, 82, 83, 84, 85, 86, 87, 88, 89, 90, 150, 151, 152, 153, 154, 155, 156, 157, 158, 159, 160, 161, 162, 163, 164] rfl (by decide +kernel)
set_option maxRecDepth 20000 in
theorem gX5_readPerson_X8_takeNumber : GoodIn wsX5_readPerson (wsV RX5 108 RX8 yX8_takeNumber wsX8_takeNumber) := goodIn_app (goodIn_of _ (by decide +kernel)) ggX5_readPerson_X8_takeNumber
set_option maxRecDepth 20000 in
theorem ggX5_readPerson_X4_addPerson : GoodIn wsX5_readPerson wsX4_addPerson := goodIn_r _ [129, 107, 104, 138, 139, 140, 141, 142, 143, 144, 145, 146, 147, 148, 149, 165, 166, 167, 168, 169, 170, 171, 172, 173] rfl (by decide +kernel)
set_option maxRecDepth 20000 in
theorem gX5_readPerson_X4_addPerson : GoodIn wsX5_readPerson (wsV RX5 112 RX4 yX4_addPerson wsX4_addPerson) := goodIn_app (goodIn_of _ (by decide +kernel)) ggX5_readPerson_X4_addPerson
set_option maxRecDepth 20000 in
theorem ggX5_readPerson_X8_takeMark : GoodIn wsX5_readPerson wsX8_takeMark := goodIn_r _ [133, 134, 135, 136, 4, 137, 19, 20, 97, 2, 3, 5, 6, 7, 8, 109, 10, 11, 12, 13, 14, 15, 16, 17, 18, 21, 22, 23, 24, 25, 26, 27, 28, 29, 30, 31, 32, 33, 34, 35, 36, 37, 38, 39, 40, 41, 42, 43, 44, 45, 46, 47, 48, 49, 50, 51, 52, 53, 54, 55, 56, 57, 58, 59, 60, 61, 62, 63, 64, 65, 66, 67, 68, 69, 70, 71, 72, 73, 74, 75, 76, 77, 78, 79, 80, 81, 82, 83, 84, 85, 86, 87, 88, 89, 90, 150, 151, 152, 153, 154, 155, 156, 157, 158, 159, 160, 161, 162, 163, 164] rfl (by decide +kernel)
set_option maxRecDepth 20000 in
theorem gX5_readPerson_X8_takeMark : GoodIn wsX5_readPerson (wsV RX5 91 RX8 yX8_takeMark wsX8_takeMark) := goodIn_app (goodIn_of _ (by decide +kernel)) ggX5_readPerson_X8_takeMark
set_option maxRecDepth 20000 in
theorem ggX5_readPerson_X8_refuse : GoodIn wsX5_readPerson wsX8_refuse := goodIn_r _ [5, 6, 7, 8, 150, 151, 152, 153, 154, 155, 156, 157, 158, 159, 160, 161, 162, 163, 164] rfl (by decide +kernel)
set_option maxRecDepth 20000 in
theorem gX5_readPerson_X8_refuse : GoodIn wsX5_readPerson (wsV RX5 66 RX8 yX8_refuse wsX8_refuse) := goodIn_app (goodIn_of _ (by decide +kernel)) ggX5_readPerson_X8_refuse
set_option maxRecDepth 20000 in
theorem ggX5_readDog_X8_step : GoodIn wsX5_readDog wsX8_step := goodIn_r _ [12, 13, 14, 15, 16, 17, 7, 18, 19, 20, 21, 22, 4, 23, 24, 25, 26, 27, 28, 29, 30, 31, 32, 33, 34, 35, 36, 37, 38, 39, 40, 41, 42, 43, 44, 45, 46, 47, 48, 49, 50, 51, 52, 53, 54, 55, 56, 57, 58, 59, 60, 61, 62, 63, 64, 65, 66, 67, 68, 69, 70, 71, 72, 73, 74, 75, 76, 77, 78, 79, 80, 81, 82, 83, 84, 85, 86, 87, 88, 89, 90, 143, 144, 145, 146, 147, 148, 149, 150, 151, 152, 153, 154, 155, 156, 157] rfl (by decide +kernel)
set_option maxRecDepth 20000 in
theorem gX5_readDog_X8_step : GoodIn wsX5_readDog (wsV RX5 73 RX8 yX8_step wsX8_step) := goodIn_app (goodIn_of _ (by decide +kernel)) ggX5_readDog_X8_step
set_option maxRecDepth 20000 in
theorem ggX5_readDog_X8_takeNewName : GoodIn wsX5_readDog wsX8_takeNewName := goodIn_r _ [94, 14, 95, 31, 96, 97, 2, 3, 4, 5, 6, 7, 8, 98, 99, 100, 101, 102, 103, 104, 105, 106, 107, 108, 109, 10, 11, 12, 13, 15, 16, 17, 18, 19, 20, 21, 22, 23, 24, 25, 26, 27, 28, 29, 30, 32, 33, 34, 35, 36, 37, 38, 39, 40, 41, 42, 43, 44, 45, 46, 47, 48, 49, 50, 51, 52, 53, 54, 55, 56, 57, 58, 59, 60, 61, 62, 63, 64, 65, 66, 67, 68, 69, 70, 71, 72, 73, 74, 75, 76, 77, 78, 79, 80, 81, 82, 83, 84, 85, 86, 87, 88, 89, 90, 143, 144, 145, 146, 147, 148, 149, 150, 151, 152, 153, 154, 155, 156, 157, 131, 132, 133, 134, 135, 136, 137, 138, 139, 140, 141, 142, 165, 166, 167, 168, 169, 170, 171, 172, 173, 158, 159, 160, 161, 162, 163, 164] rfl (by decide +kernel)
set_option maxRecDepth 20000 in
theorem gX5_readDog_X8_takeNewName : GoodIn wsX5_readDog (wsV RX5 76 RX8 yX8_takeNewName wsX8_takeNewName) := goodIn_app (goodIn_of _ (by decide +kernel)) ggX5_readDog_X8_takeNewName
set_option maxRecDepth 20000 in
theorem ggX5_readDog_X8_takeNamed : GoodIn wsX5_readDog wsX8_takeNamed := goodIn_r _ [113, 14, 95, 31, 114, 97, 2, 3, 4, 5, 6, 7, 8, 98, 99, 100, 101, 102, 103, 104, 105, 106, 107, 108, 109, 10, 11, 12, 13, 15, 16, 17, 18, 19, 20, 21, 22, 23, 24, 25, 26, 27, 28, 29, 30, 32, 33, 34, 35, 36, 37, 38, 39, 40, 41, 42, 43, 44, 45, 46, 47, 48, 49, 50, 51, 52, 53, 54, 55, 56, 57, 58, 59, 60, 61, 62, 63, 64, 65, 66, 67, 68, 69, 70, 71, 72, 73, 74, 75, 76, 77, 78, 79, 80, 81, 82, 83, 84, 85, 86, 87, 88, 89, 90, 143, 144, 145, 146, 147, 148, 149, 150, 151, 152, 153, 154, 155, 156, 157, 131, 132, 133, 134, 135, 136, 137, 138, 139, 140, 141, 142, 165, 166, 167, 168, 169, 170, 171, 172, 173, 158, 159, 160, 161, 162, 163, 164] rfl (by decide +kernel)
set_option maxRecDepth 20000 in
theorem gX5_readDog_X8_takeNamed : GoodIn wsX5_readDog (wsV RX5 97 RX8 yX8_takeNamed wsX8_takeNamed) := goodIn_app (goodIn_of _ (by decide +kernel)) ggX5_readDog_X8_takeNamed
