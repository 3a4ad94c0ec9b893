set_option maxRecDepth 20000 in
theorem ggX3_mark_X4_copyFrom : GoodIn wsX3_mark wsX4_copyFrom := goodIn_r _ [7, 8, 9, 10, 11, 12, 13, 14, 15, 16, 17, 18, 19, 20, 21, 22, 23, 24, 25, 26, 27, 28, 29, 30, 31, 32, 33, 34, 35, 36, 37, 38, 39, 40, 41, 42, 43, 44, 45, 49, 50, 51, 52, 53, 54, 55, 56, 57, 58, 59, 60, 61, 62, 63, 64, 65, 66, 67, 68, 69, 70, 71, 72, 73, 74, 75, 76] rfl (by decide +kernel)
set_option maxRecDepth 20000 in
theorem gX3_mark_X4_copyFrom : GoodIn wsX3_mark (wsV RX3 20 RX4 yX4_copyFrom wsX4_copyFrom) := goodIn_app (goodIn_of _ (by decide +kernel)) ggX3_mark_X4_copyFrom
set_option maxRecDepth 20000 in
theorem ggX3_takeBack_X4_copyFrom : GoodIn wsX3_takeBack wsX4_copyFrom := goodIn_r _ [8, 9, 10, 11, 12, 13, 14, 15, 16, 17, 18, 19, 20, 21, 22, 23, 24, 25, 26, 27, 28, 29, 30, 31, 32, 33, 34, 35, 36, 37, 38, 39, 40, 41, 42, 43, 44, 45, 46, 50, 51, 52, 53, 54, 55, 56, 57, 58, 59, 60, 61, 62, 63, 64, 65, 66, 67, 68, 69, 70, 71, 72, 73, 74, 75, 76, 77] rfl (by decide +kernel)
set_option maxRecDepth 20000 in
theorem gX3_takeBack_X4_copyFrom : GoodIn wsX3_takeBack (wsV RX3 20 RX4 yX4_copyFrom wsX4_copyFrom) := goodIn_app (goodIn_of _ (by decide +kernel)) ggX3_takeBack_X4_copyFrom
set_option maxRecDepth 20000 in
theorem ggX11_keepIfDone_X3_keepMarked : GoodIn wsX11_keepIfDone wsX3_keepMarked := goodIn_r _ [6, 7, 8, 9, 10, 11, 12, 32, 33, 34] rfl (by decide +kernel)
set_option maxRecDepth 20000 in
theorem gX11_keepIfDone_X3_keepMarked : GoodIn wsX11_keepIfDone (wsV RX11 268 RX3 yX3_keepMarked wsX3_keepMarked) := goodIn_app (goodIn_of _ (by decide +kernel)) ggX11_keepIfDone_X3_keepMarked
