set_option maxRecDepth 20000 in
theorem ggX11_feed_X8_append : GoodIn wsX11_feed wsX8_append := goodIn_r _ [6, 7, 8, 28, 29, 30, 31, 32, 33, 34, 35, 36, 37, 38, 39, 40, 41, 42] rfl (by decide +kernel)
set_option maxRecDepth 20000 in
theorem gX11_feed_X8_append : GoodIn wsX11_feed (wsV RX11 103 RX8 yX8_append wsX8_append) := goodIn_app (goodIn_of _ (by decide +kernel)) ggX11_feed_X8_append
set_option maxRecDepth 20000 in
theorem ggX11_park_X8_open : GoodIn wsX11_park wsX8_open := goodIn_r _ [12, 13, 14, 15, 16, 17, 18, 19, 11, 20, 21, 22, 23, 24, 25, 26, 27, 28, 29, 30, 31, 32, 33, 34, 35, 36, 37, 38, 39, 40, 41, 42, 43, 44, 45, 46, 47, 48, 49, 50, 51, 52, 53, 54, 55, 56, 57, 58, 59, 60, 61, 62, 63, 64, 65, 66, 67, 68, 69, 70, 71, 72, 73, 74, 75, 76, 77, 78, 79, 80, 81, 82, 83, 84, 85, 86, 87, 88, 89, 90, 91, 92, 93, 94, 95, 96, 97, 269, 270, 271, 272, 273, 274, 275, 276, 277, 278, 279, 280, 281, 282, 283] rfl (by decide +kernel)
set_option maxRecDepth 20000 in
theorem gX11_park_X8_open : GoodIn wsX11_park (wsV RX11 107 RX8 yX8_open wsX8_open) := goodIn_app (goodIn_of _ (by decide +kernel)) ggX11_park_X8_open
set_option maxRecDepth 20000 in
theorem ggX11_park_X5_readAll : GoodIn wsX11_park wsX5_readAll := goodIn_r _ [102, 103, 104, 105, 106, 107, 108, 109, 110, 111, 112, 113, 114, 115, 116, 117, 118, 119, 120, 121, 122, 123, 124, 101, 125, 126, 127, 128, 129, 11, 130, 15, 25, 16, 131, 18, 19, 20, 21, 22, 14, 23, 24, 13, 26, 27, 28, 29, 30, 31, 32, 33, 34, 35, 36, 37, 38, 39, 40, 41, 42, 43, 44, 45, 46, 47, 48, 49, 50, 51, 52, 53, 54, 55, 56, 57, 58, 59, 60, 61, 62, 63, 64, 65, 66, 67, 68, 69, 70, 71, 72, 73, 74, 75, 76, 77, 78, 79, 80, 81, 82, 83, 84, 85, 86, 87, 88, 89, 90, 91, 92, 93, 94, 95, 96, 97, 132, 133, 134, 135, 136, 137, 138, 139, 140, 141, 142, 143, 144, 145, 17, 146, 147, 148, 149, 150, 151, 152, 153, 154, 155, 156, 157, 158, 159, 160, 161, 162, 163, 164, 165, 166, 167, 168, 169, 170, 171, 172, 173, 174, 175, 176, 177, 178, 179, 180, 181, 182, 183, 184, 185, 186, 187, 188, 189, 190, 191, 192, 193, 194, 195, 196, 197, 198, 199, 200, 201, 202, 284, 285, 269, 270, 271, 272, 273, 274, 275, 276, 277, 278, 279, 280, 281, 282, 283, 286, 287, 288, 289, 290, 291, 292, 293, 294, 295, 296, 297, 298, 299, 300, 301, 302, 303, 304, 305, 306, 307, 308, 309, 310, 311, 312, 313] rfl (by decide +kernel)
set_option maxRecDepth 20000 in
theorem gX11_park_X5_readAll : GoodIn wsX11_park (wsV RX11 110 RX5 yX5_readAll wsX5_readAll) := goodIn_app (goodIn_of _ (by decide +kernel)) ggX11_park_X5_readAll
set_option maxRecDepth 20000 in
theorem ggX11_park_X11_closeTape : GoodIn wsX11_park wsX11_closeTape := goodIn_r _ [206, 1, 4, 250, 251, 252, 253, 254, 255, 256, 257, 258, 259, 260, 261, 262, 263, 264, 265, 266, 267, 268, 269, 270, 271, 272, 273, 274, 275, 276, 277, 278, 279, 280, 281, 282, 283] rfl (by decide +kernel)
set_option maxRecDepth 20000 in
theorem gX11_park_X11_closeTape : GoodIn wsX11_park (wsV RX11 114 RX11 yX11_closeTape wsX11_closeTape) := goodIn_app (goodIn_of _ (by decide +kernel)) ggX11_park_X11_closeTape
set_option maxRecDepth 20000 in
theorem ggX11_park_X4_copyFrom : GoodIn wsX11_park wsX4_copyFrom := goodIn_r _ [210, 115, 116, 117, 118, 119, 120, 121, 143, 150, 151, 144, 145, 211, 212, 213, 214, 215, 216, 217, 218, 219, 220, 221, 222, 223, 224, 225, 226, 227, 228, 229, 230, 231, 232, 233, 234, 235, 236, 286, 287, 288, 289, 290, 291, 292, 293, 294, 295, 296, 297, 298, 299, 300, 301, 302, 303, 304, 305, 306, 307, 308, 309, 310, 311, 312, 313] rfl (by decide +kernel)
set_option maxRecDepth 20000 in
theorem gX11_park_X4_copyFrom : GoodIn wsX11_park (wsV RX11 123 RX4 yX4_copyFrom wsX4_copyFrom) := goodIn_app (goodIn_of _ (by decide +kernel)) ggX11_park_X4_copyFrom
set_option maxRecDepth 20000 in
theorem ggX11_park_X7_clear : GoodIn wsX11_park wsX7_clear := goodIn_r _ [241, 242, 243, 314, 315, 316, 317, 318] rfl (by decide +kernel)
set_option maxRecDepth 20000 in
theorem gX11_park_X7_clear : GoodIn wsX11_park (wsV RX11 127 RX7 yX7_clear wsX7_clear) := goodIn_app (goodIn_of _ (by decide +kernel)) ggX11_park_X7_clear
set_option maxRecDepth 20000 in
theorem ggX11_park_X3_forget : GoodIn wsX11_park wsX3_forget := goodIn_r _ [248, 249, 319, 320, 321] rfl (by decide +kernel)
set_option maxRecDepth 20000 in
theorem gX11_park_X3_forget : GoodIn wsX11_park (wsV RX11 130 RX3 yX3_forget wsX3_forget) := goodIn_app (goodIn_of _ (by decide +kernel)) ggX11_park_X3_forget
set_option maxRecDepth 20000 in
theorem ggX11_place_X4_hasPlace : GoodIn wsX11_place wsX4_hasPlace := goodIn_r _ [6, 7, 33, 34, 35, 36, 37, 38, 39, 40, 41, 42, 43, 44] rfl (by decide +kernel)
set_option maxRecDepth 20000 in
theorem gX11_place_X4_hasPlace : GoodIn wsX11_place (wsV RX11 199 RX4 yX4_hasPlace wsX4_hasPlace) := goodIn_app (goodIn_of _ (by decide +kernel)) ggX11_place_X4_hasPlace
