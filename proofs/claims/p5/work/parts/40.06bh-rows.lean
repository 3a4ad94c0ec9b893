set_option maxRecDepth 20000 in
theorem ggX12_book_X12_awaySet : GoodIn wsX12_book wsX12_awaySet := goodIn_r _ [190, 6, 147, 148, 149, 10, 150, 205, 206, 207, 208, 209, 210, 211, 212, 213, 214, 215, 216, 217, 218, 219, 220, 221, 222, 223, 224, 225, 226, 227, 228, 229, 230, 231, 232, 233, 234, 235, 236, 237, 238, 239, 240, 241, 242, 243, 244, 245, 246, 247, 248, 249, 250, 251] rfl (by decide +kernel)
set_option maxRecDepth 20000 in
theorem gX12_book_X12_awaySet : GoodIn wsX12_book (wsV RX12 253 RX12 yX12_awaySet wsX12_awaySet) := goodIn_app (goodIn_of _ (by decide +kernel)) ggX12_book_X12_awaySet
set_option maxRecDepth 20000 in
theorem ggX12_book_X12_stay : GoodIn wsX12_book wsX12_stay := goodIn_r _ [194, 6, 122, 195, 196, 197, 10, 198, 199, 200, 201, 202, 203, 204, 205, 206, 207, 208, 209, 210, 211, 212, 213, 214, 215, 216, 217, 218, 219, 220, 221, 222, 223, 224, 225, 226, 227, 228, 229, 230, 231, 232, 233, 234, 235, 236, 237, 238, 239, 240, 241, 242, 243, 244, 245, 246, 247, 248, 249, 250, 251] rfl (by decide +kernel)
set_option maxRecDepth 20000 in
theorem gX12_book_X12_stay : GoodIn wsX12_book (wsV RX12 395 RX12 yX12_stay wsX12_stay) := goodIn_app (goodIn_of _ (by decide +kernel)) ggX12_book_X12_stay
set_option maxRecDepth 20000 in
theorem ggX12_book_X12_goBy : GoodIn wsX12_book wsX12_goBy := goodIn_r _ [126, 51, 6, 127, 128, 129, 10, 130, 131, 132, 133, 134, 135, 136, 137, 138, 139, 140, 141, 142, 143, 144, 145, 146, 147, 148, 149, 150, 151, 152, 153, 154, 155, 156, 157, 158, 159, 160, 161, 162, 163, 164, 165, 166, 167, 168, 169, 170, 171, 172, 173, 174, 175, 176, 177, 178, 179, 180, 181, 182, 183, 184, 185, 186, 205, 206, 207, 208, 209, 210, 211, 212, 213, 214, 215, 216, 217, 218, 219, 220, 221, 222, 223, 224, 225, 226, 227, 228, 229, 230, 231, 232, 233, 234, 235, 236, 237, 238, 239, 240, 241, 242, 243, 244, 245, 246, 247, 248, 249, 250, 251] rfl (by decide +kernel)
set_option maxRecDepth 20000 in
theorem gX12_book_X12_goBy : GoodIn wsX12_book (wsV RX12 389 RX12 yX12_goBy wsX12_goBy) := goodIn_app (goodIn_of _ (by decide +kernel)) ggX12_book_X12_goBy
set_option maxRecDepth 20000 in
theorem ggX12_book_X12_readBookLine : GoodIn wsX12_book wsX12_readBookLine := goodIn_r _ [49, 50, 6, 32, 2, 51, 52, 53, 54, 10, 55, 56, 57, 58, 59, 3, 60, 61, 62, 63, 64, 65, 34, 35, 66, 67, 68, 69, 70, 71, 72, 73, 18, 30, 4, 74, 75, 76, 77, 78, 79, 80, 25, 26, 27, 28, 19, 16, 29, 17, 31, 33, 36, 37, 38, 39, 40, 41, 42, 43, 44, 45, 81, 82, 83, 84, 85, 86, 87, 88, 89, 90, 91, 92, 93, 94, 95, 96, 97, 98, 99, 100, 101, 8, 9, 11, 102, 103, 104, 105, 106, 107, 108, 109, 110, 111, 112, 113, 114, 115, 116, 117, 205, 206, 207, 208, 209, 210, 211, 212, 213, 214, 215, 216, 217, 218, 219, 220, 221, 222, 223, 224, 225, 226, 227, 228, 229, 230, 231, 232, 233, 234, 235, 236, 237, 238, 239, 240, 241, 242, 243, 244, 245, 246, 247, 248, 249, 250, 251] rfl (by decide +kernel)
set_option maxRecDepth 20000 in
theorem gX12_book_X12_readBookLine : GoodIn wsX12_book (wsV RX12 386 RX12 yX12_readBookLine wsX12_readBookLine) := goodIn_app (goodIn_of _ (by decide +kernel)) ggX12_book_X12_readBookLine
