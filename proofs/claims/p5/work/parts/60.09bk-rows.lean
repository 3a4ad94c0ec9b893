set_option maxRecDepth 20000 in
theorem ggX11_rounds_X4_copyFrom : GoodIn wsX11_rounds wsX4_copyFrom := goodIn_r _ [9, 10, 11, 12, 13, 14, 15, 16, 17, 18, 19, 20, 21, 22, 23, 24, 25, 26, 27, 28, 29, 30, 31, 32, 33, 34, 35, 36, 37, 38, 39, 40, 41, 42, 43, 44, 45, 46, 47, 109, 110, 111, 112, 113, 114, 115, 116, 117, 118, 119, 120, 121, 122, 123, 124, 125, 126, 127, 128, 129, 130, 131, 132, 133, 134, 135, 136] rfl (by decide +kernel)
set_option maxRecDepth 20000 in
theorem gX11_rounds_X4_copyFrom : GoodIn wsX11_rounds (wsV RX11 123 RX4 yX4_copyFrom wsX4_copyFrom) := goodIn_app (goodIn_of _ (by decide +kernel)) ggX11_rounds_X4_copyFrom
set_option maxRecDepth 20000 in
theorem ggX11_rounds_X9_part : GoodIn wsX11_rounds wsX9_part := goodIn_r _ [51, 52, 53, 50, 54, 55, 56, 57, 8, 58, 18, 59, 60, 61, 62, 12, 19, 20, 21, 63, 64, 65, 25, 66, 29, 30, 67, 68, 69, 70, 71, 72, 73, 74, 75, 76, 77, 78, 79, 80, 109, 110, 111, 112, 113, 114, 115, 116, 117, 118, 119, 120, 121, 122, 123, 124, 125, 126, 127, 128, 129, 130, 131, 132, 133, 134, 135, 136] rfl (by decide +kernel)
set_option maxRecDepth 20000 in
theorem gX11_rounds_X9_part : GoodIn wsX11_rounds (va_wsS RX11 310 yX9_part wsX9_part) := goodIn_app (goodIn_of _ (by decide +kernel)) ggX11_rounds_X9_part
set_option maxRecDepth 20000 in
theorem ggX11_rounds_X4_goodOfAll : GoodIn wsX11_rounds wsX4_goodOfAll := goodIn_r _ [88, 11, 20, 89, 56, 57, 8, 58, 18, 59, 60, 61, 62, 12, 19, 21, 63, 64, 65, 25, 66, 29, 30, 67, 68, 69, 70, 71, 72, 73, 74, 75, 76, 77, 78, 79, 80, 109, 110, 111, 112, 113, 114, 115, 116, 117, 118, 119, 120, 121, 122, 123, 124, 125, 126, 127, 128, 129, 130, 131, 132, 133, 134, 135, 136] rfl (by decide +kernel)
set_option maxRecDepth 20000 in
theorem gX11_rounds_X4_goodOfAll : GoodIn wsX11_rounds (wsV RX11 226 RX4 yX4_goodOfAll wsX4_goodOfAll) := goodIn_app (goodIn_of _ (by decide +kernel)) ggX11_rounds_X4_goodOfAll
set_option maxRecDepth 20000 in
theorem ggX11_rounds_X4_hasPerson : GoodIn wsX11_rounds wsX4_hasPerson := goodIn_r _ [84, 11, 109, 110, 111, 112, 113, 114, 115, 116, 117, 118, 119, 120] rfl (by decide +kernel)
set_option maxRecDepth 20000 in
theorem gX11_rounds_X4_hasPerson : GoodIn wsX11_rounds (wsV RX11 133 RX4 yX4_hasPerson wsX4_hasPerson) := goodIn_app (goodIn_of _ (by decide +kernel)) ggX11_rounds_X4_hasPerson
set_option maxRecDepth 20000 in
theorem ggX11_tracks_X8_byteOf : GoodIn wsX11_tracks wsX8_byteOf := goodIn_r _ [13, 14, 15, 54, 55, 56, 57, 58, 59, 60, 61, 62, 63, 64, 65, 66, 67, 68] rfl (by decide +kernel)
set_option maxRecDepth 20000 in
theorem gX11_tracks_X8_byteOf : GoodIn wsX11_tracks (wsV RX11 316 RX8 yX8_byteOf wsX8_byteOf) := goodIn_app (goodIn_of _ (by decide +kernel)) ggX11_tracks_X8_byteOf
set_option maxRecDepth 20000 in
theorem ggX11_tracks_X4_hasPlace : GoodIn wsX11_tracks wsX4_hasPlace := goodIn_r _ [19, 20, 69, 70, 71, 72, 73, 74, 75, 76, 77, 78, 79, 80] rfl (by decide +kernel)
set_option maxRecDepth 20000 in
theorem gX11_tracks_X4_hasPlace : GoodIn wsX11_tracks (wsV RX11 199 RX4 yX4_hasPlace wsX4_hasPlace) := goodIn_app (goodIn_of _ (by decide +kernel)) ggX11_tracks_X4_hasPlace
set_option maxRecDepth 20000 in
theorem ggX11_tracks_X4_dogsComing : GoodIn wsX11_tracks wsX4_dogsComing := goodIn_r _ [24, 8, 25, 26, 27, 28, 29, 30, 31, 32, 33, 34, 69, 70, 71, 72, 73, 74, 75, 76, 77, 78, 79, 80, 81, 82, 83, 84, 85, 86, 87, 88, 89, 90, 91, 92, 93, 94, 95, 96] rfl (by decide +kernel)
set_option maxRecDepth 20000 in
theorem gX11_tracks_X4_dogsComing : GoodIn wsX11_tracks (wsV RX11 319 RX4 yX4_dogsComing wsX4_dogsComing) := goodIn_app (goodIn_of _ (by decide +kernel)) ggX11_tracks_X4_dogsComing
set_option maxRecDepth 20000 in
theorem ggX11_tracks_X4_dogBits : GoodIn wsX11_tracks wsX4_dogBits := goodIn_r _ [7, 8, 69, 70, 71, 72, 73, 74, 75, 76, 77, 78, 79, 80] rfl (by decide +kernel)
set_option maxRecDepth 20000 in
theorem gX11_tracks_X4_dogBits : GoodIn wsX11_tracks (wsV RX11 313 RX4 yX4_dogBits wsX4_dogBits) := goodIn_app (goodIn_of _ (by decide +kernel)) ggX11_tracks_X4_dogBits
