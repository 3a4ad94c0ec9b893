set_option maxRecDepth 20000 in
theorem ggX11_book_X3_keepMarked : GoodIn wsX11_book wsX3_keepMarked := goodIn_r _ [226, 186, 227, 228, 229, 230, 231, 370, 371, 372] rfl (by decide +kernel)
set_option maxRecDepth 20000 in
theorem gX11_book_X3_keepMarked : GoodIn wsX11_book (wsV RX11 268 RX3 yX3_keepMarked wsX3_keepMarked) := goodIn_app (goodIn_of _ (by decide +kernel)) ggX11_book_X3_keepMarked
set_option maxRecDepth 20000 in
theorem ggX11_sentence_X8_open : GoodIn wsX11_sentence wsX8_open := goodIn_r _ [10, 11, 12, 13, 14, 15, 16, 17, 9, 18, 19, 20, 21, 22, 23, 24, 25, 26, 27, 28, 29, 30, 31, 32, 33, 34, 35, 36, 37, 38, 39, 40, 41, 42, 43, 44, 45, 46, 47, 48, 49, 50, 51, 52, 53, 54, 55, 56, 57, 58, 59, 60, 61, 62, 63, 64, 65, 66, 67, 68, 69, 70, 71, 72, 73, 74, 75, 76, 77, 78, 79, 80, 81, 82, 83, 84, 85, 86, 87, 88, 89, 90, 91, 92, 93, 94, 95, 200, 201, 202, 203, 204, 205, 206, 207, 208, 209, 210, 211, 212, 213, 214] rfl (by decide +kernel)
set_option maxRecDepth 20000 in
theorem gX11_sentence_X8_open : GoodIn wsX11_sentence (wsV RX11 107 RX8 yX8_open wsX8_open) := goodIn_app (goodIn_of _ (by decide +kernel)) ggX11_sentence_X8_open
set_option maxRecDepth 20000 in
theorem ggX11_sentence_X7_clear : GoodIn wsX11_sentence wsX7_clear := goodIn_r _ [100, 101, 102, 215, 216, 217, 218, 219] rfl (by decide +kernel)
set_option maxRecDepth 20000 in
theorem gX11_sentence_X7_clear : GoodIn wsX11_sentence (wsV RX11 127 RX7 yX7_clear wsX7_clear) := goodIn_app (goodIn_of _ (by decide +kernel)) ggX11_sentence_X7_clear
set_option maxRecDepth 20000 in
theorem ggX11_sentence_X7_readCond : GoodIn wsX11_sentence wsX7_readCond := goodIn_r _ [105, 106, 107, 108, 109, 110, 99, 111, 16, 17, 9, 18, 19, 20, 12, 21, 22, 23, 11, 24, 25, 26, 27, 28, 29, 30, 31, 32, 33, 34, 35, 36, 37, 38, 39, 40, 41, 42, 43, 44, 45, 46, 47, 48, 49, 50, 51, 52, 53, 54, 55, 56, 57, 58, 59, 60, 61, 62, 63, 64, 65, 66, 67, 68, 69, 70, 71, 72, 73, 74, 75, 76, 77, 78, 79, 80, 81, 82, 83, 84, 85, 86, 87, 88, 89, 90, 91, 92, 93, 94, 95, 112, 113, 114, 115, 101, 116, 117, 118, 119, 120, 121, 122, 13, 14, 123, 102, 124, 125, 126, 127, 128, 129, 130, 131, 132, 133, 134, 135, 136, 137, 138, 139, 140, 103, 104, 141, 142, 143, 144, 145, 146, 15, 147, 148, 149, 150, 151, 152, 153, 154, 155, 156, 157, 158, 159, 160, 161, 162, 163, 164, 165, 166, 167, 168, 169, 170, 171, 200, 201, 202, 203, 204, 205, 206, 207, 208, 209, 210, 211, 212, 213, 214, 215, 216, 217, 218, 219, 220, 221, 222, 223, 224, 225, 226, 227, 228, 229, 230, 231, 232, 233, 234, 235, 236, 237, 238, 239, 240, 241, 242, 243, 244, 245, 246, 247] rfl (by decide +kernel)
set_option maxRecDepth 20000 in
theorem gX11_sentence_X7_readCond_n357 : GoodIn wsX11_sentence (wsX7_readCond) := ggX11_sentence_X7_readCond
set_option maxRecDepth 20000 in
theorem ggX11_sentence_X11_closeTape : GoodIn wsX11_sentence wsX11_closeTape := goodIn_r _ [176, 1, 4, 181, 182, 183, 184, 185, 186, 187, 188, 189, 190, 191, 192, 193, 194, 195, 196, 197, 198, 199, 200, 201, 202, 203, 204, 205, 206, 207, 208, 209, 210, 211, 212, 213, 214] rfl (by decide +kernel)
set_option maxRecDepth 20000 in
theorem gX11_sentence_X11_closeTape : GoodIn wsX11_sentence (wsV RX11 114 RX11 yX11_closeTape wsX11_closeTape) := goodIn_app (goodIn_of _ (by decide +kernel)) ggX11_sentence_X11_closeTape
set_option maxRecDepth 20000 in
theorem ggX11_sentence_X7_copyFrom : GoodIn wsX11_sentence wsX7_copyFrom := goodIn_r _ [180, 101, 102, 116, 117, 118, 215, 216, 217, 218, 219] rfl (by decide +kernel)
set_option maxRecDepth 20000 in
theorem gX11_sentence_X7_copyFrom : GoodIn wsX11_sentence (wsV RX11 361 RX7 yX7_copyFrom wsX7_copyFrom) := goodIn_app (goodIn_of _ (by decide +kernel)) ggX11_sentence_X7_copyFrom
set_option maxRecDepth 20000 in
theorem ggX11_said_X7_fits : GoodIn wsX11_said wsX7_fits := goodIn_r _ [7, 8, 9, 10, 11, 12, 13, 14, 15, 6, 16, 17, 18, 19, 20, 21, 22, 23, 24, 25, 26, 27, 28, 29, 30, 31, 32, 33, 34, 35, 36, 37, 38, 39, 40, 41, 42, 43, 44, 45, 46, 47, 48, 49, 50, 51, 52, 53, 54, 55, 56, 57, 58, 59, 60, 61, 62, 63, 64, 65, 66, 67, 87, 88, 89, 90, 91, 92, 93, 94, 95, 96, 97, 98, 99, 100, 101, 102, 103, 104, 105, 106, 107, 108, 109, 110, 111, 112, 113, 114, 115, 116, 117, 118, 119] rfl (by decide +kernel)
set_option maxRecDepth 20000 in
theorem gX11_said_X7_fits : GoodIn wsX11_said (wsV RX11 370 RX7 yX7_fits wsX7_fits) := goodIn_app (goodIn_of _ (by decide +kernel)) ggX11_said_X7_fits
set_option maxRecDepth 20000 in
theorem ggX11_image_X4_copyFrom : GoodIn wsX11_image wsX4_copyFrom := goodIn_r _ [10, 11, 12, 13, 14, 15, 16, 17, 18, 19, 20, 21, 22, 23, 24, 25, 26, 27, 28, 29, 30, 31, 32, 33, 34, 35, 36, 37, 38, 39, 40, 41, 42, 43, 44, 45, 46, 47, 48, 78, 79, 80, 81, 82, 83, 84, 85, 86, 87, 88, 89, 90, 91, 92, 93, 94, 95, 96, 97, 98, 99, 100, 101, 102, 103, 104, 105] rfl (by decide +kernel)
set_option maxRecDepth 20000 in
theorem gX11_image_X4_copyFrom : GoodIn wsX11_image (wsV RX11 123 RX4 yX4_copyFrom wsX4_copyFrom) := goodIn_app (goodIn_of _ (by decide +kernel)) ggX11_image_X4_copyFrom
