set_option maxRecDepth 20000 in
theorem ggX12_readNot_X12_saysOne : GoodIn wsX12_readNot wsX12_saysOne := goodIn_r _ [9, 10, 11, 104, 105, 106, 107, 108, 109, 110, 111, 112, 113, 114, 115, 116, 117, 118, 119, 120, 121, 122, 123, 124, 125, 126, 127, 128, 129, 130, 131, 132, 133, 134, 135, 136, 137, 138, 139, 140, 141, 142, 143, 144, 145, 146, 147, 148, 149, 150] rfl (by decide +kernel)
set_option maxRecDepth 20000 in
theorem gX12_readNot_X12_saysOne : GoodIn wsX12_readNot (wsV RX12 408 RX12 yX12_saysOne wsX12_saysOne) := goodIn_app (goodIn_of _ (by decide +kernel)) ggX12_readNot_X12_saysOne
set_option maxRecDepth 20000 in
theorem ggX12_readOf_X12_readNamed : GoodIn wsX12_readOf wsX12_readNamed := goodIn_r _ [8, 9, 10, 2, 11, 12, 13, 7, 14, 15, 16, 17, 18, 19, 20, 21, 22, 23, 24, 25, 26, 27, 28, 29, 30, 31, 32, 33, 34, 35, 36, 37, 38, 39, 40, 41, 42, 43, 44, 45, 46, 47, 48, 49, 50, 51, 52, 53, 60, 61, 62, 63, 64, 65, 66, 67, 68, 69, 70, 71, 72, 73, 74, 75, 76, 77, 78, 79, 80, 81, 82, 83, 84, 85, 86, 87, 88, 89, 90, 91, 92, 93, 94, 95, 96, 97, 98, 99, 100, 101, 102, 103, 104, 105, 106] rfl (by decide +kernel)
set_option maxRecDepth 20000 in
theorem gX12_readOf_X12_readNamed : GoodIn wsX12_readOf (wsV RX12 359 RX12 yX12_readNamed wsX12_readNamed) := goodIn_app (goodIn_of _ (by decide +kernel)) ggX12_readOf_X12_readNamed
set_option maxRecDepth 20000 in
theorem ggX12_readOf_X12_saysOne : GoodIn wsX12_readOf wsX12_saysOne := goodIn_r _ [57, 58, 59, 60, 61, 62, 63, 64, 65, 66, 67, 68, 69, 70, 71, 72, 73, 74, 75, 76, 77, 78, 79, 80, 81, 82, 83, 84, 85, 86, 87, 88, 89, 90, 91, 92, 93, 94, 95, 96, 97, 98, 99, 100, 101, 102, 103, 104, 105, 106] rfl (by decide +kernel)
set_option maxRecDepth 20000 in
theorem gX12_readOf_X12_saysOne : GoodIn wsX12_readOf (wsV RX12 408 RX12 yX12_saysOne wsX12_saysOne) := goodIn_app (goodIn_of _ (by decide +kernel)) ggX12_readOf_X12_saysOne
set_option maxRecDepth 20000 in
theorem ggX12_readCompare_X12_isSign : GoodIn wsX12_readCompare wsX12_isSign := goodIn_r _ [8, 9, 1, 52, 53, 54, 55, 56, 57, 58, 59, 60, 61, 62, 63, 64, 65, 66, 67, 68, 69, 70, 71, 72, 73, 74, 75, 76, 77, 78, 79, 80, 81, 82, 83, 84, 85, 86, 87, 88, 89, 90, 91, 92, 93, 94, 95, 96, 97, 98] rfl (by decide +kernel)
set_option maxRecDepth 20000 in
theorem gX12_readCompare_X12_isSign : GoodIn wsX12_readCompare (wsV RX12 86 RX12 yX12_isSign wsX12_isSign) := goodIn_app (goodIn_of _ (by decide +kernel)) ggX12_readCompare_X12_isSign
set_option maxRecDepth 20000 in
theorem ggX12_readCompare_X12_go : GoodIn wsX12_readCompare wsX12_go := goodIn_r _ [20, 21, 22, 23, 15, 24, 9, 1, 25, 26, 27, 28, 29, 30, 7, 31, 32, 33, 34, 35, 36, 37, 38, 52, 53, 54, 55, 56, 57, 58, 59, 60, 61, 62, 63, 64, 65, 66, 67, 68, 69, 70, 71, 72, 73, 74, 75, 76, 77, 78, 79, 80, 81, 82, 83, 84, 85, 86, 87, 88, 89, 90, 91, 92, 93, 94, 95, 96, 97, 98] rfl (by decide +kernel)
set_option maxRecDepth 20000 in
theorem gX12_readCompare_X12_go : GoodIn wsX12_readCompare (wsV RX12 82 RX12 yX12_go wsX12_go) := goodIn_app (goodIn_of _ (by decide +kernel)) ggX12_readCompare_X12_go
set_option maxRecDepth 20000 in
theorem ggX12_readCompare_X12_readNumber : GoodIn wsX12_readCompare wsX12_readNumber := goodIn_r _ [42, 9, 26, 2, 10, 11, 12, 7, 13, 14, 15, 16, 43, 44, 45, 17, 18, 19, 20, 21, 22, 23, 24, 1, 25, 27, 28, 29, 30, 31, 32, 33, 34, 35, 36, 37, 38, 52, 53, 54, 55, 56, 57, 58, 59, 60, 61, 62, 63, 64, 65, 66, 67, 68, 69, 70, 71, 72, 73, 74, 75, 76, 77, 78, 79, 80, 81, 82, 83, 84, 85, 86, 87, 88, 89, 90, 91, 92, 93, 94, 95, 96, 97, 98] rfl (by decide +kernel)
set_option maxRecDepth 20000 in
theorem gX12_readCompare_X12_readNumber : GoodIn wsX12_readCompare (wsV RX12 182 RX12 yX12_readNumber wsX12_readNumber) := goodIn_app (goodIn_of _ (by decide +kernel)) ggX12_readCompare_X12_readNumber
set_option maxRecDepth 20000 in
theorem ggX12_readCompare_X12_saysOne : GoodIn wsX12_readCompare wsX12_saysOne := goodIn_r _ [49, 50, 51, 52, 53, 54, 55, 56, 57, 58, 59, 60, 61, 62, 63, 64, 65, 66, 67, 68, 69, 70, 71, 72, 73, 74, 75, 76, 77, 78, 79, 80, 81, 82, 83, 84, 85, 86, 87, 88, 89, 90, 91, 92, 93, 94, 95, 96, 97, 98] rfl (by decide +kernel)
set_option maxRecDepth 20000 in
theorem gX12_readCompare_X12_saysOne : GoodIn wsX12_readCompare (wsV RX12 408 RX12 yX12_saysOne wsX12_saysOne) := goodIn_app (goodIn_of _ (by decide +kernel)) ggX12_readCompare_X12_saysOne
set_option maxRecDepth 20000 in
theorem ggX12_readCompare_X12_bad : GoodIn wsX12_readCompare wsX12_bad := goodIn_r _ [13, 9, 14, 15, 16, 52, 53, 54, 55, 56, 57, 58, 59, 60, 61, 62, 63, 64, 65, 66, 67, 68, 69, 70, 71, 72, 73, 74, 75, 76, 77, 78, 79, 80, 81, 82, 83, 84, 85, 86, 87, 88, 89, 90, 91, 92, 93, 94, 95, 96, 97, 98] rfl (by decide +kernel)
set_option maxRecDepth 20000 in
theorem gX12_readCompare_X12_bad : GoodIn wsX12_readCompare (wsV RX12 72 RX12 yX12_bad wsX12_bad) := goodIn_app (goodIn_of _ (by decide +kernel)) ggX12_readCompare_X12_bad
