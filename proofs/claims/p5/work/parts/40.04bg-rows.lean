set_option maxRecDepth 20000 in
theorem ggX12_readNew_X12_go : GoodIn wsX12_readNew wsX12_go := goodIn_r _ [31, 32, 33, 34, 23, 35, 9, 36, 3, 37, 16, 17, 38, 39, 7, 40, 41, 42, 43, 44, 45, 46, 47, 48, 49, 50, 51, 52, 53, 54, 55, 56, 57, 58, 59, 60, 61, 62, 63, 64, 65, 66, 67, 68, 69, 70, 71, 72, 73, 74, 75, 76, 77, 78, 79, 80, 81, 82, 83, 84, 85, 86, 87, 88, 89, 90, 91, 92, 93, 94] rfl (by decide +kernel)
set_option maxRecDepth 20000 in
theorem gX12_readNew_X12_go : GoodIn wsX12_readNew (wsV RX12 82 RX12 yX12_go wsX12_go) := goodIn_app (goodIn_of _ (by decide +kernel)) ggX12_readNew_X12_go
set_option maxRecDepth 20000 in
theorem ggX12_readNew_X12_bad : GoodIn wsX12_readNew wsX12_bad := goodIn_r _ [21, 9, 22, 23, 24, 48, 49, 50, 51, 52, 53, 54, 55, 56, 57, 58, 59, 60, 61, 62, 63, 64, 65, 66, 67, 68, 69, 70, 71, 72, 73, 74, 75, 76, 77, 78, 79, 80, 81, 82, 83, 84, 85, 86, 87, 88, 89, 90, 91, 92, 93, 94] rfl (by decide +kernel)
set_option maxRecDepth 20000 in
theorem gX12_readNew_X12_bad : GoodIn wsX12_readNew (wsV RX12 72 RX12 yX12_bad wsX12_bad) := goodIn_app (goodIn_of _ (by decide +kernel)) ggX12_readNew_X12_bad
set_option maxRecDepth 20000 in
theorem ggX12_readOne_X12_isName : GoodIn wsX12_readOne wsX12_isName := goodIn_r _ [8, 9, 2, 10, 11, 7, 12, 13, 14, 15, 16, 17, 48, 49, 50, 51, 52, 53, 54, 55, 56, 57, 58, 59, 60, 61, 62, 63, 64, 65, 66, 67, 68, 69, 70, 71, 72, 73, 74, 75, 76, 77, 78, 79, 80, 81, 82, 83, 84, 85, 86, 87, 88, 89, 90, 91, 92, 93, 94] rfl (by decide +kernel)
set_option maxRecDepth 20000 in
theorem gX12_readOne_X12_isName : GoodIn wsX12_readOne (wsV RX12 157 RX12 yX12_isName wsX12_isName) := goodIn_app (goodIn_of _ (by decide +kernel)) ggX12_readOne_X12_isName
set_option maxRecDepth 20000 in
theorem ggX12_readOne_X12_findIn : GoodIn wsX12_readOne wsX12_findIn := goodIn_r _ [27] rfl (by decide +kernel)
set_option maxRecDepth 20000 in
theorem gX12_readOne_X12_findIn : GoodIn wsX12_readOne (va_wsS RX12 161 yX12_findIn wsX12_findIn) := goodIn_app (goodIn_of _ (by decide +kernel)) ggX12_readOne_X12_findIn
set_option maxRecDepth 20000 in
theorem ggX12_readOne_X12_bad : GoodIn wsX12_readOne wsX12_bad := goodIn_r _ [21, 9, 22, 23, 24, 48, 49, 50, 51, 52, 53, 54, 55, 56, 57, 58, 59, 60, 61, 62, 63, 64, 65, 66, 67, 68, 69, 70, 71, 72, 73, 74, 75, 76, 77, 78, 79, 80, 81, 82, 83, 84, 85, 86, 87, 88, 89, 90, 91, 92, 93, 94] rfl (by decide +kernel)
set_option maxRecDepth 20000 in
theorem gX12_readOne_X12_bad : GoodIn wsX12_readOne (wsV RX12 72 RX12 yX12_bad wsX12_bad) := goodIn_app (goodIn_of _ (by decide +kernel)) ggX12_readOne_X12_bad
set_option maxRecDepth 20000 in
theorem ggX12_readOne_X12_go : GoodIn wsX12_readOne wsX12_go := goodIn_r _ [31, 32, 33, 34, 23, 35, 9, 36, 2, 37, 16, 17, 38, 39, 7, 40, 41, 42, 43, 44, 45, 46, 47, 48, 49, 50, 51, 52, 53, 54, 55, 56, 57, 58, 59, 60, 61, 62, 63, 64, 65, 66, 67, 68, 69, 70, 71, 72, 73, 74, 75, 76, 77, 78, 79, 80, 81, 82, 83, 84, 85, 86, 87, 88, 89, 90, 91, 92, 93, 94] rfl (by decide +kernel)
set_option maxRecDepth 20000 in
theorem gX12_readOne_X12_go : GoodIn wsX12_readOne (wsV RX12 82 RX12 yX12_go wsX12_go) := goodIn_app (goodIn_of _ (by decide +kernel)) ggX12_readOne_X12_go
set_option maxRecDepth 20000 in
theorem ggX12_readFirst_X12_go : GoodIn wsX12_readFirst wsX12_go := goodIn_r _ [14, 15, 16, 17, 9, 18, 7, 19, 20, 21, 22, 23, 24, 25, 5, 26, 27, 28, 29, 30, 31, 32, 33, 34, 35, 36, 37, 38, 39, 40, 41, 42, 43, 44, 45, 46, 47, 48, 49, 50, 51, 52, 53, 54, 55, 56, 57, 58, 59, 60, 61, 62, 63, 64, 65, 66, 67, 68, 69, 70, 71, 72, 73, 74, 75, 76, 77, 78, 79, 80] rfl (by decide +kernel)
set_option maxRecDepth 20000 in
theorem gX12_readFirst_X12_go : GoodIn wsX12_readFirst (wsV RX12 82 RX12 yX12_go wsX12_go) := goodIn_app (goodIn_of _ (by decide +kernel)) ggX12_readFirst_X12_go
set_option maxRecDepth 20000 in
theorem ggX12_readFirst_X12_bad : GoodIn wsX12_readFirst wsX12_bad := goodIn_r _ [6, 7, 8, 9, 10, 34, 35, 36, 37, 38, 39, 40, 41, 42, 43, 44, 45, 46, 47, 48, 49, 50, 51, 52, 53, 54, 55, 56, 57, 58, 59, 60, 61, 62, 63, 64, 65, 66, 67, 68, 69, 70, 71, 72, 73, 74, 75, 76, 77, 78, 79, 80] rfl (by decide +kernel)
set_option maxRecDepth 20000 in
theorem gX12_readFirst_X12_bad : GoodIn wsX12_readFirst (wsV RX12 72 RX12 yX12_bad wsX12_bad) := goodIn_app (goodIn_of _ (by decide +kernel)) ggX12_readFirst_X12_bad
