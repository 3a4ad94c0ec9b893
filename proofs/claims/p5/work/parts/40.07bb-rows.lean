set_option maxRecDepth 20000 in
theorem ggX12_readSaid_X12_isSign : GoodIn wsX12_readSaid wsX12_isSign := goodIn_r _ [8, 9, 10, 104, 105, 106, 107, 108, 109, 110, 111, 112, 113, 114, 115, 116, 117, 118, 119, 120, 121, 122, 123, 124, 125, 126, 127, 128, 129, 130, 131, 132, 133, 134, 135, 136, 137, 138, 139, 140, 141, 142, 143, 144, 145, 146, 147, 148, 149, 150] rfl (by decide +kernel)
set_option maxRecDepth 20000 in
theorem gX12_readSaid_X12_isSign : GoodIn wsX12_readSaid (wsV RX12 86 RX12 yX12_isSign wsX12_isSign) := goodIn_app (goodIn_of _ (by decide +kernel)) ggX12_readSaid_X12_isSign
set_option maxRecDepth 20000 in
theorem ggX12_readSaid_X12_bad : GoodIn wsX12_readSaid wsX12_bad := goodIn_r _ [27, 9, 28, 29, 30, 104, 105, 106, 107, 108, 109, 110, 111, 112, 113, 114, 115, 116, 117, 118, 119, 120, 121, 122, 123, 124, 125, 126, 127, 128, 129, 130, 131, 132, 133, 134, 135, 136, 137, 138, 139, 140, 141, 142, 143, 144, 145, 146, 147, 148, 149, 150] rfl (by decide +kernel)
set_option maxRecDepth 20000 in
theorem gX12_readSaid_X12_bad : GoodIn wsX12_readSaid (wsV RX12 72 RX12 yX12_bad wsX12_bad) := goodIn_app (goodIn_of _ (by decide +kernel)) ggX12_readSaid_X12_bad
set_option maxRecDepth 20000 in
theorem ggX12_readSaid_X12_isWord : GoodIn wsX12_readSaid wsX12_isWord := goodIn_r _ [14, 9, 15, 16, 17, 7, 18, 19, 20, 21, 22, 23, 104, 105, 106, 107, 108, 109, 110, 111, 112, 113, 114, 115, 116, 117, 118, 119, 120, 121, 122, 123, 124, 125, 126, 127, 128, 129, 130, 131, 132, 133, 134, 135, 136, 137, 138, 139, 140, 141, 142, 143, 144, 145, 146, 147, 148, 149, 150] rfl (by decide +kernel)
set_option maxRecDepth 20000 in
theorem gX12_readSaid_X12_isWord : GoodIn wsX12_readSaid (wsV RX12 172 RX12 yX12_isWord wsX12_isWord) := goodIn_app (goodIn_of _ (by decide +kernel)) ggX12_readSaid_X12_isWord
set_option maxRecDepth 20000 in
theorem ggX12_readAnd_X12_readSaid : GoodIn wsX12_readAnd wsX12_readSaid := goodIn_r _ [66, 67, 68, 1, 51, 52, 53, 5, 54, 10, 29, 6, 7, 8, 9, 11, 12, 13, 14, 15, 16, 17, 18, 19, 55, 56, 57, 58, 59, 27, 60, 20, 21, 22, 23, 24, 25, 26, 28, 30, 31, 32, 33, 34, 35, 36, 37, 38, 39, 40, 69, 70, 71, 72, 73, 74, 41, 42, 43, 44, 45, 46, 75, 76, 77, 78, 79, 80, 81, 82, 83, 84, 85, 86, 87, 88, 89, 90, 91, 92, 93, 94, 95, 96, 97, 98, 99, 100, 101, 102, 103, 0, 2, 3, 4, 47, 48, 49, 50, 61, 62, 63, 64, 65, 104, 105, 106, 107, 108, 109, 110, 111, 112, 113, 114, 115, 116, 117, 118, 119, 120, 121, 122, 123, 124, 125, 126, 127, 128, 129, 130, 131, 132, 133, 134, 135, 136, 137, 138, 139, 140, 141, 142, 143, 144, 145, 146, 147, 148, 149, 150] rfl (by decide +kernel)
set_option maxRecDepth 20000 in
theorem gX12_readAnd_X12_readSaid : GoodIn wsX12_readAnd (wsV RX12 412 RX12 yX12_readSaid wsX12_readSaid) := goodIn_app (goodIn_of _ (by decide +kernel)) ggX12_readAnd_X12_readSaid
set_option maxRecDepth 20000 in
theorem ggX12_readAnd_X12_isWord : GoodIn wsX12_readAnd wsX12_isWord := goodIn_r _ [9, 10, 11, 12, 13, 5, 14, 15, 16, 17, 18, 19, 104, 105, 106, 107, 108, 109, 110, 111, 112, 113, 114, 115, 116, 117, 118, 119, 120, 121, 122, 123, 124, 125, 126, 127, 128, 129, 130, 131, 132, 133, 134, 135, 136, 137, 138, 139, 140, 141, 142, 143, 144, 145, 146, 147, 148, 149, 150] rfl (by decide +kernel)
set_option maxRecDepth 20000 in
theorem gX12_readAnd_X12_isWord : GoodIn wsX12_readAnd (wsV RX12 172 RX12 yX12_isWord wsX12_isWord) := goodIn_app (goodIn_of _ (by decide +kernel)) ggX12_readAnd_X12_isWord
set_option maxRecDepth 20000 in
theorem ggX12_readAnd_X12_go : GoodIn wsX12_readAnd wsX12_go := goodIn_r _ [23, 24, 25, 26, 27, 28, 10, 29, 11, 30, 18, 19, 31, 32, 5, 33, 34, 35, 36, 37, 38, 39, 40, 104, 105, 106, 107, 108, 109, 110, 111, 112, 113, 114, 115, 116, 117, 118, 119, 120, 121, 122, 123, 124, 125, 126, 127, 128, 129, 130, 131, 132, 133, 134, 135, 136, 137, 138, 139, 140, 141, 142, 143, 144, 145, 146, 147, 148, 149, 150] rfl (by decide +kernel)
set_option maxRecDepth 20000 in
theorem gX12_readAnd_X12_go : GoodIn wsX12_readAnd (wsV RX12 82 RX12 yX12_go wsX12_go) := goodIn_app (goodIn_of _ (by decide +kernel)) ggX12_readAnd_X12_go
set_option maxRecDepth 20000 in
theorem ggX12_readAnd_X12_saysOne : GoodIn wsX12_readAnd wsX12_saysOne := goodIn_r _ [44, 45, 46, 104, 105, 106, 107, 108, 109, 110, 111, 112, 113, 114, 115, 116, 117, 118, 119, 120, 121, 122, 123, 124, 125, 126, 127, 128, 129, 130, 131, 132, 133, 134, 135, 136, 137, 138, 139, 140, 141, 142, 143, 144, 145, 146, 147, 148, 149, 150] rfl (by decide +kernel)
set_option maxRecDepth 20000 in
theorem gX12_readAnd_X12_saysOne : GoodIn wsX12_readAnd (wsV RX12 408 RX12 yX12_saysOne wsX12_saysOne) := goodIn_app (goodIn_of _ (by decide +kernel)) ggX12_readAnd_X12_saysOne
set_option maxRecDepth 20000 in
theorem ggX12_readOr_X12_readAnd : GoodIn wsX12_readOr wsX12_readAnd := goodIn_r _ [47, 1, 48, 49, 50, 5, 6, 7, 8, 9, 10, 11, 12, 13, 14, 15, 16, 17, 18, 19, 20, 21, 22, 23, 24, 25, 26, 27, 28, 29, 30, 31, 32, 33, 34, 35, 36, 37, 38, 39, 40, 41, 42, 43, 44, 45, 46, 51, 52, 53, 54, 55, 56, 57, 58, 59, 60, 61, 62, 63, 64, 65, 0, 2, 3, 4, 66, 67, 68, 69, 70, 71, 72, 73, 74, 75, 76, 77, 78, 79, 80, 81, 82, 83, 84, 85, 86, 87, 88, 89, 90, 91, 92, 93, 94, 95, 96, 97, 98, 99, 100, 101, 102, 103, 104, 105, 106, 107, 108, 109, 110, 111, 112, 113, 114, 115, 116, 117, 118, 119, 120, 121, 122, 123, 124, 125, 126, 127, 128, 129, 130, 131, 132, 133, 134, 135, 136, 137, 138, 139, 140, 141, 142, 143, 144, 145, 146, 147, 148, 149, 150] rfl (by decide +kernel)
set_option maxRecDepth 20000 in
theorem gX12_readOr_X12_readAnd : GoodIn wsX12_readOr (wsV RX12 402 RX12 yX12_readAnd wsX12_readAnd) := goodIn_app (goodIn_of _ (by decide +kernel)) ggX12_readOr_X12_readAnd
