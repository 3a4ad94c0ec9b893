set_option maxRecDepth 20000 in
theorem ggX11_fence_X4_turnFence : GoodIn wsX11_fence wsX4_turnFence := goodIn_r _ [60, 28, 94, 95, 96, 97, 98, 99, 100, 101, 102, 103, 104, 105] rfl (by decide +kernel)
set_option maxRecDepth 20000 in
theorem gX11_fence_X4_turnFence : GoodIn wsX11_fence (wsV RX11 250 RX4 yX4_turnFence wsX4_turnFence) := goodIn_app (goodIn_of _ (by decide +kernel)) ggX11_fence_X4_turnFence
set_option maxRecDepth 20000 in
theorem ggX11_fence_X11_keepIfDone : GoodIn wsX11_fence wsX11_keepIfDone := goodIn_r _ [65, 2, 66, 67, 68, 12, 69, 15, 70, 71, 72, 73, 74, 75, 76, 77, 78, 79, 80, 81, 82, 83, 84, 85, 86, 87, 88, 89, 90, 91, 92, 93, 106, 107, 108] rfl (by decide +kernel)
set_option maxRecDepth 20000 in
theorem gX11_fence_X11_keepIfDone : GoodIn wsX11_fence (wsV RX11 244 RX11 yX11_keepIfDone wsX11_keepIfDone) := goodIn_app (goodIn_of _ (by decide +kernel)) ggX11_fence_X11_keepIfDone
set_option maxRecDepth 20000 in
theorem ggX11_sign_X3_mark : GoodIn wsX11_sign wsX3_mark := goodIn_r _ [7, 8, 9, 10, 11, 12, 13, 14, 15, 16, 17, 18, 19, 20, 21, 22, 23, 24, 25, 26, 27, 28, 29, 30, 31, 32, 33, 34, 35, 36, 37, 38, 39, 40, 41, 42, 43, 44, 45, 46, 47, 48, 49, 50, 51, 52, 90, 91, 92, 93, 94, 95, 96, 97, 98, 99, 100, 101, 102, 103, 104, 105, 106, 107, 108, 109, 110, 111, 112, 113, 114, 115, 116, 117, 118, 119, 120] rfl (by decide +kernel)
set_option maxRecDepth 20000 in
theorem gX11_sign_X3_mark : GoodIn wsX11_sign (wsV RX11 237 RX3 yX3_mark wsX3_mark) := goodIn_app (goodIn_of _ (by decide +kernel)) ggX11_sign_X3_mark
set_option maxRecDepth 20000 in
theorem ggX11_sign_X4_writeSign : GoodIn wsX11_sign wsX4_writeSign := goodIn_r _ [56, 18, 93, 94, 95, 96, 97, 98, 99, 100, 101, 102, 103, 104] rfl (by decide +kernel)
set_option maxRecDepth 20000 in
theorem gX11_sign_X4_writeSign : GoodIn wsX11_sign (wsV RX11 253 RX4 yX4_writeSign wsX4_writeSign) := goodIn_app (goodIn_of _ (by decide +kernel)) ggX11_sign_X4_writeSign
set_option maxRecDepth 20000 in
theorem ggX11_sign_X11_keepIfDone : GoodIn wsX11_sign wsX11_keepIfDone := goodIn_r _ [61, 1, 62, 63, 64, 6, 65, 9, 66, 67, 68, 69, 70, 71, 72, 73, 74, 75, 76, 77, 78, 79, 80, 81, 82, 83, 84, 85, 86, 87, 88, 89, 90, 91, 92] rfl (by decide +kernel)
set_option maxRecDepth 20000 in
theorem gX11_sign_X11_keepIfDone : GoodIn wsX11_sign (wsV RX11 244 RX11 yX11_keepIfDone wsX11_keepIfDone) := goodIn_app (goodIn_of _ (by decide +kernel)) ggX11_sign_X11_keepIfDone
set_option maxRecDepth 20000 in
theorem ggX11_hold_X4_hasDog : GoodIn wsX11_hold wsX4_hasDog := goodIn_r _ [7, 8, 94, 95, 96, 97, 98, 99, 100, 101, 102, 103, 104, 105] rfl (by decide +kernel)
set_option maxRecDepth 20000 in
theorem gX11_hold_X4_hasDog : GoodIn wsX11_hold (wsV RX11 174 RX4 yX4_hasDog wsX4_hasDog) := goodIn_app (goodIn_of _ (by decide +kernel)) ggX11_hold_X4_hasDog
set_option maxRecDepth 20000 in
theorem ggX11_hold_X3_mark : GoodIn wsX11_hold wsX3_mark := goodIn_r _ [13, 14, 15, 16, 17, 18, 6, 19, 20, 21, 8, 22, 23, 24, 25, 26, 27, 28, 29, 30, 31, 32, 33, 34, 35, 36, 37, 38, 39, 40, 41, 42, 43, 44, 45, 46, 47, 48, 49, 50, 51, 52, 53, 54, 55, 56, 106, 107, 108, 94, 95, 96, 97, 98, 99, 100, 101, 102, 103, 104, 105, 109, 110, 111, 112, 113, 114, 115, 116, 117, 118, 119, 120, 121, 122, 123, 124] rfl (by decide +kernel)
set_option maxRecDepth 20000 in
theorem gX11_hold_X3_mark : GoodIn wsX11_hold (wsV RX11 237 RX3 yX3_mark wsX3_mark) := goodIn_app (goodIn_of _ (by decide +kernel)) ggX11_hold_X3_mark
set_option maxRecDepth 20000 in
theorem ggX11_hold_X4_holdDog : GoodIn wsX11_hold wsX4_holdDog := goodIn_r _ [60, 30, 94, 95, 96, 97, 98, 99, 100, 101, 102, 103, 104, 105, 118, 119, 120, 121, 122, 123, 124] rfl (by decide +kernel)
set_option maxRecDepth 20000 in
theorem gX11_hold_X4_holdDog : GoodIn wsX11_hold (wsV RX11 256 RX4 yX4_holdDog wsX4_holdDog) := goodIn_app (goodIn_of _ (by decide +kernel)) ggX11_hold_X4_holdDog
