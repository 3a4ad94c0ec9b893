set_option maxRecDepth 20000 in
theorem ggX11_odds_X1_live : GoodIn wsX11_odds wsX1_live := goodIn_r _ [55, 56, 57, 58, 59, 54, 60, 61, 62, 63, 64, 65, 66, 67, 28, 68, 31, 32, 33, 69, 70, 71, 72, 73, 74, 75, 76, 124, 96, 97, 98, 99, 100, 101, 102, 103, 104, 105, 106, 107, 108, 109, 110, 111, 112, 113, 114, 115, 116, 117, 118, 119, 120, 121, 122, 123] rfl (by decide +kernel)
set_option maxRecDepth 20000 in
theorem gX11_odds_X1_live : GoodIn wsX11_odds (wsV RX11 264 RX1 yX1_live wsX1_live) := goodIn_app (goodIn_of _ (by decide +kernel)) ggX11_odds_X1_live
set_option maxRecDepth 20000 in
theorem ggX11_book_X8_open : GoodIn wsX11_book wsX8_open := goodIn_r _ [13, 14, 15, 16, 17, 18, 19, 20, 12, 21, 22, 23, 24, 25, 26, 27, 28, 29, 30, 31, 32, 33, 34, 35, 36, 37, 38, 39, 40, 41, 42, 43, 44, 45, 46, 47, 48, 49, 50, 51, 52, 53, 54, 55, 56, 57, 58, 59, 60, 61, 62, 63, 64, 65, 66, 67, 68, 69, 70, 71, 72, 73, 74, 75, 76, 77, 78, 79, 80, 81, 82, 83, 84, 85, 86, 87, 88, 89, 90, 91, 92, 93, 94, 95, 96, 97, 98, 320, 321, 322, 323, 324, 325, 326, 327, 328, 329, 330, 331, 332, 333, 334] rfl (by decide +kernel)
set_option maxRecDepth 20000 in
theorem gX11_book_X8_open : GoodIn wsX11_book (wsV RX11 107 RX8 yX8_open wsX8_open) := goodIn_app (goodIn_of _ (by decide +kernel)) ggX11_book_X8_open
set_option maxRecDepth 20000 in
theorem ggX11_book_X0_readAll : GoodIn wsX11_book wsX0_readAll := goodIn_r _ [103, 104, 105, 106, 107, 102, 108, 109, 110, 111, 112, 113, 114, 115, 116, 117, 118, 119, 120, 121, 122, 123, 124, 125, 126, 127, 128, 12, 129, 16, 26, 17, 130, 131, 132, 133, 134, 135, 136, 137, 138, 139, 140, 141, 142, 143, 144, 145, 146, 147, 19, 20, 21, 22, 23, 15, 24, 25, 14, 27, 28, 29, 30, 31, 32, 33, 34, 35, 36, 37, 38, 39, 40, 41, 42, 43, 44, 45, 46, 47, 48, 49, 50, 51, 52, 53, 54, 55, 56, 57, 58, 59, 60, 61, 62, 63, 64, 65, 66, 67, 68, 69, 70, 71, 72, 73, 74, 75, 76, 77, 78, 79, 80, 81, 82, 83, 84, 85, 86, 87, 88, 89, 90, 91, 92, 93, 94, 95, 96, 97, 98, 148, 149, 150, 151, 152, 153, 154, 155, 18, 156, 157, 158, 159, 160, 161, 162, 163, 164, 165, 166, 167, 168, 169, 170, 171, 172, 173, 174, 335, 336, 337, 338, 339, 340, 341, 320, 321, 322, 323, 324, 325, 326, 327, 328, 329, 330, 331, 332, 333, 334, 342, 343, 344, 345, 346, 347, 348, 349, 350, 351, 352, 353, 354, 355, 356, 357, 358, 359, 360, 361, 362, 363, 364, 365, 366, 367, 368, 369] rfl (by decide +kernel)
set_option maxRecDepth 20000 in
theorem gX11_book_X0_readAll : GoodIn wsX11_book (wsV RX11 347 RX0 yX0_readAll wsX0_readAll) := goodIn_app (goodIn_of _ (by decide +kernel)) ggX11_book_X0_readAll
set_option maxRecDepth 20000 in
theorem ggX11_book_X11_closeTape : GoodIn wsX11_book wsX11_closeTape := goodIn_r _ [179, 1, 4, 301, 302, 303, 304, 305, 306, 307, 308, 309, 310, 311, 312, 313, 314, 315, 316, 317, 318, 319, 320, 321, 322, 323, 324, 325, 326, 327, 328, 329, 330, 331, 332, 333, 334] rfl (by decide +kernel)
set_option maxRecDepth 20000 in
theorem gX11_book_X11_closeTape : GoodIn wsX11_book (wsV RX11 114 RX11 yX11_closeTape wsX11_closeTape) := goodIn_app (goodIn_of _ (by decide +kernel)) ggX11_book_X11_closeTape
set_option maxRecDepth 20000 in
theorem ggX11_book_X4_copyFrom : GoodIn wsX11_book wsX4_copyFrom := goodIn_r _ [190, 120, 121, 122, 191, 192, 193, 194, 123, 195, 196, 124, 125, 197, 198, 199, 200, 201, 202, 203, 204, 205, 206, 207, 208, 209, 210, 211, 212, 213, 214, 215, 216, 217, 218, 219, 220, 221, 222, 342, 343, 344, 345, 346, 347, 348, 349, 350, 351, 352, 353, 354, 355, 356, 357, 358, 359, 360, 361, 362, 363, 364, 365, 366, 367, 368, 369] rfl (by decide +kernel)
set_option maxRecDepth 20000 in
theorem gX11_book_X4_copyFrom : GoodIn wsX11_book (wsV RX11 123 RX4 yX4_copyFrom wsX4_copyFrom) := goodIn_app (goodIn_of _ (by decide +kernel)) ggX11_book_X4_copyFrom
set_option maxRecDepth 20000 in
theorem ggX11_book_X0_liveAll : GoodIn wsX11_book wsX0_liveAll := goodIn_r _ [236, 237, 104, 238, 239, 240, 102, 241, 134, 110, 139, 140, 141, 111, 112, 113, 138, 136, 137, 146, 242, 243, 244, 118, 245, 195, 246, 178, 247, 248, 249, 250, 251, 252, 253, 254, 255, 256, 257, 258, 196, 259, 260, 261, 262, 191, 263, 264, 265, 266, 125, 267, 268, 269, 270, 124, 271, 272, 273, 274, 275, 276, 277, 278, 279, 280, 281, 282, 283, 284, 285, 286, 287, 200, 288, 203, 204, 205, 289, 290, 291, 292, 293, 294, 295, 296, 335, 336, 337, 338, 339, 340, 341, 342, 343, 344, 345, 346, 347, 348, 349, 350, 351, 352, 353, 363, 364, 365, 366, 367, 368, 369, 354, 355, 356, 357, 358, 359, 360, 361, 362, 373] rfl (by decide +kernel)
set_option maxRecDepth 20000 in
theorem gX11_book_X0_liveAll : GoodIn wsX11_book (wsV RX11 350 RX0 yX0_liveAll wsX0_liveAll) := goodIn_app (goodIn_of _ (by decide +kernel)) ggX11_book_X0_liveAll
set_option maxRecDepth 20000 in
theorem ggX11_book_X4_awayBits : GoodIn wsX11_book wsX4_awayBits := goodIn_r _ [300, 121, 124, 342, 343, 344, 345, 346, 347, 348, 349, 350, 351, 352, 353, 354, 355, 356, 357, 358, 359, 360, 361, 362] rfl (by decide +kernel)
set_option maxRecDepth 20000 in
theorem gX11_book_X4_awayBits : GoodIn wsX11_book (wsV RX11 215 RX4 yX4_awayBits wsX4_awayBits) := goodIn_app (goodIn_of _ (by decide +kernel)) ggX11_book_X4_awayBits
set_option maxRecDepth 20000 in
theorem ggX11_book_X3_mark : GoodIn wsX11_book wsX3_mark := goodIn_r _ [184, 185, 186, 187, 188, 189, 118, 190, 120, 121, 122, 191, 192, 193, 194, 123, 195, 196, 124, 125, 197, 198, 199, 200, 201, 202, 203, 204, 205, 206, 207, 208, 209, 210, 211, 212, 213, 214, 215, 216, 217, 218, 219, 220, 221, 222, 370, 371, 372, 342, 343, 344, 345, 346, 347, 348, 349, 350, 351, 352, 353, 354, 355, 356, 357, 358, 359, 360, 361, 362, 363, 364, 365, 366, 367, 368, 369] rfl (by decide +kernel)
set_option maxRecDepth 20000 in
theorem gX11_book_X3_mark : GoodIn wsX11_book (wsV RX11 237 RX3 yX3_mark wsX3_mark) := goodIn_app (goodIn_of _ (by decide +kernel)) ggX11_book_X3_mark
