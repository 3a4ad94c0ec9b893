set_option maxRecDepth 20000 in
theorem ggX11_appendName_J4_append_cf468 : GoodIn wsX11_appendName wsJ4_append_cf468 := goodIn_r _ [6, 7, 8, 9, 10, 11, 12, 13, 14, 15, 16, 17, 18, 19, 20, 21, 22, 23, 24, 25, 26, 27, 28, 29, 30, 31, 32, 33, 34, 35, 36, 37, 38, 39, 40, 41, 42, 43, 44, 45, 46, 47, 48, 49, 50, 51, 52, 53, 54, 55, 56, 57, 58, 59, 60, 61, 62, 63, 64, 65, 66, 67, 68, 69, 70, 71, 72, 73, 74, 75, 76, 77, 78, 79, 80, 81, 82, 83, 84, 85, 86, 87, 88, 89, 90, 91, 92, 93, 94, 95, 96, 97, 98, 99, 100, 101, 102, 103, 104, 105, 106, 107, 108, 109, 110, 111, 112, 113, 114, 115, 116, 117, 118, 138, 139, 140, 141] rfl (by decide +kernel)
set_option maxRecDepth 20000 in
theorem gX11_appendName_J4_append_cf468 : GoodIn wsX11_appendName (wsV RX11 383 RJ4 yJ4_append_cf468 wsJ4_append_cf468) := goodIn_app (goodIn_of _ (by decide +kernel)) ggX11_appendName_J4_append_cf468
set_option maxRecDepth 20000 in
theorem ggX11_byteAt_J4_length_8abf5 : GoodIn wsX11_byteAt wsJ4_length_8abf5 := goodIn_r _ [6, 7, 8, 9, 10, 11, 12, 13, 66, 67, 68, 69] rfl (by decide +kernel)
set_option maxRecDepth 20000 in
theorem gX11_byteAt_J4_length_8abf5 : GoodIn wsX11_byteAt (wsV RX11 340 RJ4 yJ4_length_8abf5 wsJ4_length_8abf5) := goodIn_app (goodIn_of _ (by decide +kernel)) ggX11_byteAt_J4_length_8abf5
set_option maxRecDepth 20000 in
theorem ggX11_byteAt_J4_charAt_5068e : GoodIn wsX11_byteAt wsJ4_charAt_5068e := goodIn_r _ [17, 18, 19, 9, 20, 11, 21, 22, 23, 13, 24, 25, 26, 27, 28, 29, 30, 31, 32, 33, 34, 35, 36, 37, 38, 39, 40, 41, 42, 43, 44, 45, 46, 66, 67, 68, 69] rfl (by decide +kernel)
set_option maxRecDepth 20000 in
theorem gX11_byteAt_J4_charAt_5068e : GoodIn wsX11_byteAt (wsV RX11 343 RJ4 yJ4_charAt_5068e wsJ4_charAt_5068e) := goodIn_app (goodIn_of _ (by decide +kernel)) ggX11_byteAt_J4_charAt_5068e
