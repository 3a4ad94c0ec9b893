set_option maxRecDepth 20000 in
theorem ggX12_byteAt_X12_isIn : GoodIn wsX12_byteAt wsX12_isIn := goodIn_r _ [7] (by decide +kernel) (by decide +kernel)
set_option maxRecDepth 20000 in
theorem gX12_byteAt_X12_isIn : GoodIn wsX12_byteAt (va_wsS RX12 75 yX12_isIn wsX12_isIn) := goodIn_app (goodIn_of _ (by decide +kernel)) ggX12_byteAt_X12_isIn
set_option maxRecDepth 20000 in
theorem ggX12_odds_X12_isPerson : GoodIn wsX12_odds wsX12_isPerson := goodIn_r _ [7, 2, 8, 9, 6, 10, 72, 73, 74, 75, 76, 77, 78, 79, 80, 81, 82, 83, 84, 85, 86, 87, 88, 89, 90, 91, 92, 93, 94, 95, 96, 97, 98, 99, 100, 101, 102, 103, 104, 105, 106, 107, 108, 109, 110, 111, 112, 113, 114, 115, 116, 117, 118] (by decide +kernel) (by decide +kernel)
set_option maxRecDepth 20000 in
theorem gX12_odds_X12_isPerson : GoodIn wsX12_odds (wsV RX12 241 RX12 yX12_isPerson wsX12_isPerson) := goodIn_app (goodIn_of _ (by decide +kernel)) ggX12_odds_X12_isPerson
set_option maxRecDepth 20000 in
theorem ggX12_book_X12_isIn : GoodIn wsX12_book wsX12_isIn := goodIn_r _ [11] (by decide +kernel) (by decide +kernel)
set_option maxRecDepth 20000 in
theorem gX12_book_X12_isIn : GoodIn wsX12_book (va_wsS RX12 75 yX12_isIn wsX12_isIn) := goodIn_app (goodIn_of _ (by decide +kernel)) ggX12_book_X12_isIn
set_option maxRecDepth 20000 in
theorem ggX12_book_X12_begin : GoodIn wsX12_book wsX12_begin := goodIn_r _ [15, 1, 16, 17, 18, 19, 20, 21, 22, 10, 23, 24, 25, 26, 27, 28, 29, 30, 3, 31, 32, 33, 34, 35, 36, 37, 38, 39, 40, 41, 42, 43, 44, 45, 205, 206, 207, 208, 209, 210, 211, 212, 213, 214, 215, 216, 217, 218, 219, 220, 221, 222, 223, 224, 225, 226, 227, 228, 229, 230, 231, 232, 233, 234, 235, 236, 237, 238, 239, 240, 241, 242, 243, 244, 245, 246, 247, 248, 249, 250, 251] (by decide +kernel) (by decide +kernel)
set_option maxRecDepth 20000 in
theorem gX12_book_X12_begin : GoodIn wsX12_book (wsV RX12 205 RX12 yX12_begin wsX12_begin) := goodIn_app (goodIn_of _ (by decide +kernel)) ggX12_book_X12_begin
set_option maxRecDepth 20000 in
theorem ggX12_book_X12_layAside : GoodIn wsX12_book wsX12_layAside := goodIn_r _ [121, 122, 6, 205, 206, 207, 208, 209, 210, 211, 212, 213, 214, 215, 216, 217, 218, 219, 220, 221, 222, 223, 224, 225, 226, 227, 228, 229, 230, 231, 232, 233, 234, 235, 236, 237, 238, 239, 240, 241, 242, 243, 244, 245, 246, 247, 248, 249, 250, 251] (by decide +kernel) (by decide +kernel)
set_option maxRecDepth 20000 in
theorem gX12_book_X12_layAside : GoodIn wsX12_book (wsV RX12 353 RX12 yX12_layAside wsX12_layAside) := goodIn_app (goodIn_of _ (by decide +kernel)) ggX12_book_X12_layAside
set_option maxRecDepth 20000 in
theorem ggX12_book_X12_awaySet : GoodIn wsX12_book wsX12_awaySet := goodIn_r _ [190, 6, 147, 148, 149, 10, 150, 205, 206, 207, 208, 209, 210, 211, 212, 213, 214, 215, 216, 217, 218, 219, 220, 221, 222, 223, 224, 225, 226, 227, 228, 229, 230, 231, 232, 233, 234, 235, 236, 237, 238, 239, 240, 241, 242, 243, 244, 245, 246, 247, 248, 249, 250, 251] (by decide +kernel) (by decide +kernel)
set_option maxRecDepth 20000 in
theorem gX12_book_X12_awaySet : GoodIn wsX12_book (wsV RX12 253 RX12 yX12_awaySet wsX12_awaySet) := goodIn_app (goodIn_of _ (by decide +kernel)) ggX12_book_X12_awaySet
set_option maxRecDepth 20000 in
theorem ggX12_book_X12_stay : GoodIn wsX12_book wsX12_stay := goodIn_r _ [194, 6, 122, 195, 196, 197, 10, 198, 199, 200, 201, 202, 203, 204, 205, 206, 207, 208, 209, 210, 211, 212, 213, 214, 215, 216, 217, 218, 219, 220, 221, 222, 223, 224, 225, 226, 227, 228, 229, 230, 231, 232, 233, 234, 235, 236, 237, 238, 239, 240, 241, 242, 243, 244, 245, 246, 247, 248, 249, 250, 251] (by decide +kernel) (by decide +kernel)
set_option maxRecDepth 20000 in
theorem gX12_book_X12_stay : GoodIn wsX12_book (wsV RX12 395 RX12 yX12_stay wsX12_stay) := goodIn_app (goodIn_of _ (by decide +kernel)) ggX12_book_X12_stay
set_option maxRecDepth 20000 in
theorem ggX12_readSaid_X12_isSign : GoodIn wsX12_readSaid wsX12_isSign := goodIn_r _ [8, 9, 10, 104, 105, 106, 107, 108, 109, 110, 111, 112, 113, 114, 115, 116, 117, 118, 119, 120, 121, 122, 123, 124, 125, 126, 127, 128, 129, 130, 131, 132, 133, 134, 135, 136, 137, 138, 139, 140, 141, 142, 143, 144, 145, 146, 147, 148, 149, 150] (by decide +kernel) (by decide +kernel)
set_option maxRecDepth 20000 in
theorem gX12_readSaid_X12_isSign : GoodIn wsX12_readSaid (wsV RX12 86 RX12 yX12_isSign wsX12_isSign) := goodIn_app (goodIn_of _ (by decide +kernel)) ggX12_readSaid_X12_isSign
