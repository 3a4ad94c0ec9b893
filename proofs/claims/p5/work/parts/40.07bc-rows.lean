set_option maxRecDepth 20000 in
theorem ggX12_readOr_X12_isWord : GoodIn wsX12_readOr wsX12_isWord := goodIn_r _ [9, 10, 11, 12, 13, 5, 14, 15, 16, 17, 18, 19, 104, 105, 106, 107, 108, 109, 110, 111, 112, 113, 114, 115, 116, 117, 118, 119, 120, 121, 122, 123, 124, 125, 126, 127, 128, 129, 130, 131, 132, 133, 134, 135, 136, 137, 138, 139, 140, 141, 142, 143, 144, 145, 146, 147, 148, 149, 150] rfl (by decide +kernel)
set_option maxRecDepth 20000 in
theorem gX12_readOr_X12_isWord : GoodIn wsX12_readOr (wsV RX12 172 RX12 yX12_isWord wsX12_isWord) := goodIn_app (goodIn_of _ (by decide +kernel)) ggX12_readOr_X12_isWord
set_option maxRecDepth 20000 in
theorem ggX12_readOr_X12_go : GoodIn wsX12_readOr wsX12_go := goodIn_r _ [23, 24, 25, 26, 27, 28, 10, 29, 11, 30, 18, 19, 31, 32, 5, 33, 34, 35, 36, 37, 38, 39, 40, 104, 105, 106, 107, 108, 109, 110, 111, 112, 113, 114, 115, 116, 117, 118, 119, 120, 121, 122, 123, 124, 125, 126, 127, 128, 129, 130, 131, 132, 133, 134, 135, 136, 137, 138, 139, 140, 141, 142, 143, 144, 145, 146, 147, 148, 149, 150] rfl (by decide +kernel)
set_option maxRecDepth 20000 in
theorem gX12_readOr_X12_go : GoodIn wsX12_readOr (wsV RX12 82 RX12 yX12_go wsX12_go) := goodIn_app (goodIn_of _ (by decide +kernel)) ggX12_readOr_X12_go
set_option maxRecDepth 20000 in
theorem ggX12_readOr_X12_saysOne : GoodIn wsX12_readOr wsX12_saysOne := goodIn_r _ [44, 45, 46, 104, 105, 106, 107, 108, 109, 110, 111, 112, 113, 114, 115, 116, 117, 118, 119, 120, 121, 122, 123, 124, 125, 126, 127, 128, 129, 130, 131, 132, 133, 134, 135, 136, 137, 138, 139, 140, 141, 142, 143, 144, 145, 146, 147, 148, 149, 150] rfl (by decide +kernel)
set_option maxRecDepth 20000 in
theorem gX12_readOr_X12_saysOne : GoodIn wsX12_readOr (wsV RX12 408 RX12 yX12_saysOne wsX12_saysOne) := goodIn_app (goodIn_of _ (by decide +kernel)) ggX12_readOr_X12_saysOne
set_option maxRecDepth 20000 in
theorem ggX12_readBracket_X12_readOr : GoodIn wsX12_readBracket wsX12_readOr := goodIn_r _ [62, 41, 63, 64, 65, 4, 45, 46, 47, 48, 9, 26, 49, 50, 51, 52, 53, 54, 28, 29, 18, 19, 20, 21, 22, 23, 24, 16, 25, 10, 27, 30, 31, 32, 33, 34, 35, 36, 37, 38, 39, 55, 56, 57, 58, 59, 60, 40, 42, 43, 44, 0, 1, 2, 3, 5, 6, 7, 8, 11, 12, 13, 14, 15, 17, 61, 66, 67, 68, 69, 70, 71, 72, 73, 74, 75, 76, 77, 78, 79, 80, 81, 82, 83, 84, 85, 86, 87, 88, 89, 90, 91, 92, 93, 94, 95, 96, 97, 98, 99, 100, 101, 102, 103, 104, 105, 106, 107, 108, 109, 110, 111, 112, 113, 114, 115, 116, 117, 118, 119, 120, 121, 122, 123, 124, 125, 126, 127, 128, 129, 130, 131, 132, 133, 134, 135, 136, 137, 138, 139, 140, 141, 142, 143, 144, 145, 146, 147, 148, 149, 150] rfl (by decide +kernel)
set_option maxRecDepth 20000 in
theorem gX12_readBracket_X12_readOr : GoodIn wsX12_readBracket (wsV RX12 433 RX12 yX12_readOr wsX12_readOr) := goodIn_app (goodIn_of _ (by decide +kernel)) ggX12_readBracket_X12_readOr
set_option maxRecDepth 20000 in
theorem ggX12_readBracket_X12_isSign : GoodIn wsX12_readBracket wsX12_isSign := goodIn_r _ [8, 9, 10, 104, 105, 106, 107, 108, 109, 110, 111, 112, 113, 114, 115, 116, 117, 118, 119, 120, 121, 122, 123, 124, 125, 126, 127, 128, 129, 130, 131, 132, 133, 134, 135, 136, 137, 138, 139, 140, 141, 142, 143, 144, 145, 146, 147, 148, 149, 150] rfl (by decide +kernel)
set_option maxRecDepth 20000 in
theorem gX12_readBracket_X12_isSign : GoodIn wsX12_readBracket (wsV RX12 86 RX12 yX12_isSign wsX12_isSign) := goodIn_app (goodIn_of _ (by decide +kernel)) ggX12_readBracket_X12_isSign
set_option maxRecDepth 20000 in
theorem ggX12_readBracket_X12_go : GoodIn wsX12_readBracket wsX12_go := goodIn_r _ [21, 22, 23, 24, 16, 25, 9, 10, 26, 27, 28, 29, 30, 31, 4, 32, 33, 34, 35, 36, 37, 38, 39, 104, 105, 106, 107, 108, 109, 110, 111, 112, 113, 114, 115, 116, 117, 118, 119, 120, 121, 122, 123, 124, 125, 126, 127, 128, 129, 130, 131, 132, 133, 134, 135, 136, 137, 138, 139, 140, 141, 142, 143, 144, 145, 146, 147, 148, 149, 150] rfl (by decide +kernel)
set_option maxRecDepth 20000 in
theorem gX12_readBracket_X12_go : GoodIn wsX12_readBracket (wsV RX12 82 RX12 yX12_go wsX12_go) := goodIn_app (goodIn_of _ (by decide +kernel)) ggX12_readBracket_X12_go
set_option maxRecDepth 20000 in
theorem ggX12_readBracket_X12_bad : GoodIn wsX12_readBracket wsX12_bad := goodIn_r _ [14, 9, 15, 16, 17, 104, 105, 106, 107, 108, 109, 110, 111, 112, 113, 114, 115, 116, 117, 118, 119, 120, 121, 122, 123, 124, 125, 126, 127, 128, 129, 130, 131, 132, 133, 134, 135, 136, 137, 138, 139, 140, 141, 142, 143, 144, 145, 146, 147, 148, 149, 150] rfl (by decide +kernel)
set_option maxRecDepth 20000 in
theorem gX12_readBracket_X12_bad : GoodIn wsX12_readBracket (wsV RX12 72 RX12 yX12_bad wsX12_bad) := goodIn_app (goodIn_of _ (by decide +kernel)) ggX12_readBracket_X12_bad
set_option maxRecDepth 20000 in
theorem ggX12_readNot_X12_readSaid : GoodIn wsX12_readNot wsX12_readSaid := goodIn_r _ [66, 67, 68, 1, 52, 53, 54, 5, 55, 17, 36, 13, 14, 15, 16, 18, 19, 20, 21, 22, 23, 24, 25, 26, 56, 57, 58, 59, 60, 34, 61, 27, 28, 29, 30, 31, 32, 33, 35, 37, 38, 39, 40, 41, 42, 43, 44, 45, 46, 47, 69, 70, 71, 72, 73, 74, 6, 7, 8, 9, 10, 11, 75, 76, 77, 78, 79, 80, 81, 82, 83, 84, 85, 86, 87, 88, 89, 90, 91, 92, 93, 94, 95, 96, 97, 98, 99, 100, 101, 102, 103, 12, 2, 3, 4, 48, 49, 50, 51, 0, 62, 63, 64, 65, 104, 105, 106, 107, 108, 109, 110, 111, 112, 113, 114, 115, 116, 117, 118, 119, 120, 121, 122, 123, 124, 125, 126, 127, 128, 129, 130, 131, 132, 133, 134, 135, 136, 137, 138, 139, 140, 141, 142, 143, 144, 145, 146, 147, 148, 149, 150] rfl (by decide +kernel)
set_option maxRecDepth 20000 in
theorem gX12_readNot_X12_readSaid : GoodIn wsX12_readNot (wsV RX12 412 RX12 yX12_readSaid wsX12_readSaid) := goodIn_app (goodIn_of _ (by decide +kernel)) ggX12_readNot_X12_readSaid
