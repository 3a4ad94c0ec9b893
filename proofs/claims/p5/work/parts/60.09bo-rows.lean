set_option maxRecDepth 20000 in
theorem ggX11_image_X7_copyFrom : GoodIn wsX11_image wsX7_copyFrom := goodIn_r _ [53, 54, 55, 56, 57, 58, 106, 107, 108, 109, 110] rfl (by decide +kernel)
set_option maxRecDepth 20000 in
theorem gX11_image_X7_copyFrom : GoodIn wsX11_image (wsV RX11 361 RX7 yX7_copyFrom wsX7_copyFrom) := goodIn_app (goodIn_of _ (by decide +kernel)) ggX11_image_X7_copyFrom
set_option maxRecDepth 20000 in
theorem ggX11_restore_X4_copyFrom : GoodIn wsX11_restore wsX4_copyFrom := goodIn_r _ [11, 12, 13, 14, 15, 16, 17, 18, 19, 20, 21, 22, 23, 24, 25, 26, 27, 28, 29, 30, 31, 32, 33, 34, 35, 36, 37, 38, 39, 40, 41, 42, 43, 44, 45, 46, 47, 48, 49, 85, 86, 87, 88, 89, 90, 91, 92, 93, 94, 95, 96, 97, 98, 99, 100, 101, 102, 103, 104, 105, 106, 107, 108, 109, 110, 111, 112] rfl (by decide +kernel)
set_option maxRecDepth 20000 in
theorem gX11_restore_X4_copyFrom : GoodIn wsX11_restore (wsV RX11 123 RX4 yX4_copyFrom wsX4_copyFrom) := goodIn_app (goodIn_of _ (by decide +kernel)) ggX11_restore_X4_copyFrom
set_option maxRecDepth 20000 in
theorem ggX11_restore_X7_copyFrom : GoodIn wsX11_restore wsX7_copyFrom := goodIn_r _ [54, 55, 56, 57, 58, 59, 113, 114, 115, 116, 117] rfl (by decide +kernel)
set_option maxRecDepth 20000 in
theorem gX11_restore_X7_copyFrom : GoodIn wsX11_restore (wsV RX11 361 RX7 yX7_copyFrom wsX7_copyFrom) := goodIn_app (goodIn_of _ (by decide +kernel)) ggX11_restore_X7_copyFrom
set_option maxRecDepth 20000 in
theorem ggX11_restore_X3_forget : GoodIn wsX11_restore wsX3_forget := goodIn_r _ [64, 65, 118, 119, 120] rfl (by decide +kernel)
set_option maxRecDepth 20000 in
theorem gX11_restore_X3_forget : GoodIn wsX11_restore (wsV RX11 130 RX3 yX3_forget wsX3_forget) := goodIn_app (goodIn_of _ (by decide +kernel)) ggX11_restore_X3_forget
