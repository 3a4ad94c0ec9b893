set_option maxRecDepth 20000 in
theorem ggX11_board_J4_length_8abf5 : GoodIn wsX11_board wsJ4_length_8abf5 := goodIn_r _ [241, 242, 243, 16, 244, 18, 245, 20, 277, 278, 279, 280] rfl (by decide +kernel)
set_option maxRecDepth 20000 in
theorem gX11_board_J4_length_8abf5 : GoodIn wsX11_board (wsV RX11 340 RJ4 yJ4_length_8abf5 wsJ4_length_8abf5) := goodIn_app (goodIn_of _ (by decide +kernel)) ggX11_board_J4_length_8abf5
set_option maxRecDepth 20000 in
theorem ggX11_byteAt_J4_length_8abf5 : GoodIn wsX11_byteAt wsJ4_length_8abf5 := goodIn_r _ [6, 7, 8, 9, 10, 11, 12, 13, 66, 67, 68, 69] rfl (by decide +kernel)
set_option maxRecDepth 20000 in
theorem gX11_byteAt_J4_length_8abf5 : GoodIn wsX11_byteAt (wsV RX11 340 RJ4 yJ4_length_8abf5 wsJ4_length_8abf5) := goodIn_app (goodIn_of _ (by decide +kernel)) ggX11_byteAt_J4_length_8abf5
set_option maxRecDepth 20000 in
theorem ggX11_byteAt_J4_charAt_5068e : GoodIn wsX11_byteAt wsJ4_charAt_5068e := goodIn_r _ [17, 18, 19, 9, 20, 11, 21, 22, 23, 13, 24, 25, 26, 27, 28, 29, 30, 31, 32, 33, 34, 35, 36, 37, 38, 39, 40, 41, 42, 43, 44, 45, 46, 66, 67, 68, 69] rfl (by decide +kernel)
set_option maxRecDepth 20000 in
theorem gX11_byteAt_J4_charAt_5068e : GoodIn wsX11_byteAt (wsV RX11 343 RJ4 yJ4_charAt_5068e wsJ4_charAt_5068e) := goodIn_app (goodIn_of _ (by decide +kernel)) ggX11_byteAt_J4_charAt_5068e
