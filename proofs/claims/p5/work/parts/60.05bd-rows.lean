set_option maxRecDepth 20000 in
theorem ggX0_readLine_X8_takeNamed : GoodIn wsX0_readLine wsX8_takeNamed := goodIn_r _ [118, 26, 119, 44, 120, 121, 122, 123, 23, 124, 125, 30, 126, 127, 105, 106, 107, 108, 109, 110, 111, 112, 113, 114, 128, 21, 22, 24, 25, 27, 28, 29, 31, 32, 33, 34, 35, 36, 37, 38, 39, 40, 41, 42, 43, 45, 46, 47, 48, 49, 50, 51, 52, 53, 54, 55, 56, 57, 58, 59, 60, 61, 62, 63, 64, 65, 66, 67, 68, 69, 70, 71, 72, 73, 74, 75, 76, 77, 78, 79, 80, 81, 82, 83, 84, 85, 86, 87, 88, 89, 90, 91, 92, 93, 94, 95, 96, 97, 98, 99, 100, 101, 102, 103, 148, 149, 150, 151, 152, 153, 154, 155, 156, 157, 158, 159, 160, 161, 162, 163, 164, 165, 166, 167, 168, 169, 170, 171, 172, 173, 174, 175, 176, 177, 178, 179, 180, 181, 182, 183, 184, 185, 186, 187, 188, 189, 190] rfl (by decide +kernel)
set_option maxRecDepth 20000 in
theorem gX0_readLine_X8_takeNamed : GoodIn wsX0_readLine (wsV RX0 105 RX8 yX8_takeNamed wsX8_takeNamed) := goodIn_app (goodIn_of _ (by decide +kernel)) ggX0_readLine_X8_takeNamed
set_option maxRecDepth 20000 in
theorem ggX0_readLine_X8_takeHours : GoodIn wsX0_readLine wsX8_takeHours := goodIn_r _ [137, 120, 138, 139, 140, 131, 132, 23, 133, 32, 33, 121, 122, 123, 124, 125, 30, 126, 128, 21, 22, 24, 25, 26, 27, 28, 29, 31, 34, 35, 36, 37, 38, 39, 40, 41, 42, 43, 44, 45, 46, 47, 48, 49, 50, 51, 52, 53, 54, 55, 56, 57, 58, 59, 60, 61, 62, 63, 64, 65, 66, 67, 68, 69, 70, 71, 72, 73, 74, 75, 76, 77, 78, 79, 80, 81, 82, 83, 84, 85, 86, 87, 88, 89, 90, 91, 92, 93, 94, 95, 96, 97, 98, 99, 100, 101, 102, 103, 148, 149, 150, 151, 152, 153, 154, 155, 156, 157, 158, 159, 160, 161, 162] rfl (by decide +kernel)
set_option maxRecDepth 20000 in
theorem gX0_readLine_X8_takeHours : GoodIn wsX0_readLine (wsV RX0 109 RX8 yX8_takeHours wsX8_takeHours) := goodIn_app (goodIn_of _ (by decide +kernel)) ggX0_readLine_X8_takeHours
set_option maxRecDepth 20000 in
theorem ggX0_readAll_X0_mayBegin : GoodIn wsX0_readAll wsX0_mayBegin := goodIn_r _ [6, 7, 8, 9, 10, 11, 12, 1, 13, 14, 15, 16, 17, 18, 19, 20, 21, 22, 23, 24, 25, 26, 27, 28, 29, 30, 31, 166, 167, 168, 169, 170, 171, 172, 173, 174, 175, 176, 177, 178, 179, 180, 159, 160, 161, 162, 163, 164, 165, 181, 182, 183, 184, 185, 186, 187, 188, 189, 190, 191, 192, 193, 194, 195, 196, 197, 198, 199, 200, 201, 202, 203, 204, 205, 206, 207, 208] rfl (by decide +kernel)
set_option maxRecDepth 20000 in
theorem gX0_readAll_X0_mayBegin : GoodIn wsX0_readAll (wsV RX0 39 RX0 yX0_mayBegin wsX0_mayBegin) := goodIn_app (goodIn_of _ (by decide +kernel)) ggX0_readAll_X0_mayBegin
set_option maxRecDepth 20000 in
theorem ggX0_readAll_X0_readLine : GoodIn wsX0_readAll wsX0_readLine := goodIn_r _ [35, 36, 1, 37, 38, 39, 11, 12, 40, 41, 10, 42, 43, 44, 45, 46, 5, 47, 7, 48, 49, 50, 51, 27, 52, 53, 54, 55, 56, 57, 30, 58, 59, 60, 61, 62, 63, 64, 65, 66, 67, 68, 69, 70, 71, 72, 73, 74, 75, 76, 77, 78, 79, 80, 81, 82, 83, 84, 85, 86, 87, 88, 89, 90, 91, 92, 93, 94, 95, 96, 97, 98, 99, 100, 101, 102, 103, 104, 105, 106, 107, 108, 109, 110, 111, 112, 113, 114, 115, 116, 117, 118, 119, 120, 121, 122, 123, 124, 125, 126, 127, 128, 129, 130, 13, 14, 15, 16, 17, 18, 19, 20, 21, 22, 23, 131, 132, 133, 134, 135, 136, 137, 25, 26, 28, 29, 31, 138, 139, 24, 140, 141, 142, 143, 144, 145, 146, 147, 148, 149, 150, 159, 160, 161, 162, 163, 164, 165, 166, 167, 168, 169, 170, 171, 172, 173, 174, 175, 176, 177, 178, 179, 180, 181, 182, 183, 184, 185, 186, 187, 188, 189, 190, 191, 192, 193, 194, 195, 196, 197, 198, 199, 200, 201, 202, 203, 204, 205, 206, 207, 208] rfl (by decide +kernel)
set_option maxRecDepth 20000 in
theorem gX0_readAll_X0_readLine : GoodIn wsX0_readAll (wsV RX0 43 RX0 yX0_readLine wsX0_readLine) := goodIn_app (goodIn_of _ (by decide +kernel)) ggX0_readAll_X0_readLine
set_option maxRecDepth 20000 in
theorem ggX0_readAll_X8_takeMark : GoodIn wsX0_readAll wsX8_takeMark := goodIn_r _ [154, 155, 156, 157, 27, 158, 59, 60, 137, 25, 26, 28, 29, 30, 31, 139, 50, 51, 52, 53, 54, 55, 56, 57, 58, 61, 62, 63, 64, 65, 66, 67, 68, 69, 70, 71, 72, 73, 74, 75, 76, 77, 78, 79, 80, 81, 82, 83, 84, 85, 86, 87, 88, 89, 90, 91, 92, 93, 94, 95, 96, 97, 98, 99, 100, 101, 102, 103, 104, 105, 106, 107, 108, 109, 110, 111, 112, 113, 114, 115, 116, 117, 118, 119, 120, 121, 122, 123, 124, 125, 126, 127, 128, 129, 130, 166, 167, 168, 169, 170, 171, 172, 173, 174, 175, 176, 177, 178, 179, 180] rfl (by decide +kernel)
set_option maxRecDepth 20000 in
theorem gX0_readAll_X8_takeMark : GoodIn wsX0_readAll (wsV RX0 46 RX8 yX8_takeMark wsX8_takeMark) := goodIn_app (goodIn_of _ (by decide +kernel)) ggX0_readAll_X8_takeMark
set_option maxRecDepth 20000 in
theorem ggX0_liveLine_X1_live : GoodIn wsX0_liveLine wsX1_live := goodIn_r _ [54, 55, 56, 57, 58, 53, 59, 60, 61, 62, 63, 64, 65, 66, 67, 68, 69, 70, 71, 72, 73, 74, 75, 76, 77, 78, 79, 115, 87, 88, 89, 90, 91, 92, 93, 94, 95, 96, 97, 98, 106, 107, 108, 109, 110, 111, 112, 113, 114, 99, 100, 101, 102, 103, 104, 105] rfl (by decide +kernel)
set_option maxRecDepth 20000 in
theorem gX0_liveLine_X1_live : GoodIn wsX0_liveLine (wsV RX0 163 RX1 yX1_live wsX1_live) := goodIn_app (goodIn_of _ (by decide +kernel)) ggX0_liveLine_X1_live
set_option maxRecDepth 20000 in
theorem ggX0_liveLine_X4_holdDog : GoodIn wsX0_liveLine wsX4_holdDog := goodIn_r _ [43, 44, 87, 88, 89, 90, 91, 92, 93, 94, 95, 96, 97, 98, 99, 100, 101, 102, 103, 104, 105] rfl (by decide +kernel)
set_option maxRecDepth 20000 in
theorem gX0_liveLine_X4_holdDog : GoodIn wsX0_liveLine (wsV RX0 150 RX4 yX4_holdDog wsX4_holdDog) := goodIn_app (goodIn_of _ (by decide +kernel)) ggX0_liveLine_X4_holdDog
set_option maxRecDepth 20000 in
theorem ggX0_liveLine_X0_whyNot : GoodIn wsX0_liveLine wsX0_whyNot := goodIn_r _ [25] rfl (by decide +kernel)
set_option maxRecDepth 20000 in
theorem gX0_liveLine_X0_whyNot : GoodIn wsX0_liveLine (va_wsS RX0 136 yX0_whyNot wsX0_whyNot) := goodIn_app (goodIn_of _ (by decide +kernel)) ggX0_liveLine_X0_whyNot
