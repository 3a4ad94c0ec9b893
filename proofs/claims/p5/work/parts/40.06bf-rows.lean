set_option maxRecDepth 20000 in
theorem ggX12_readBookLine_X12_readOfAll : GoodIn wsX12_readBookLine wsX12_readOfAll := goodIn_r _ [41, 5, 11, 12, 13, 9, 14, 15, 3, 16, 17, 18, 19, 20, 21, 22, 23, 42, 43, 44, 45, 46, 47, 48, 33, 49, 50, 51, 52, 53, 54, 55, 56, 57, 58, 59, 60, 61, 62, 63, 64, 65, 2, 66, 67, 68, 69, 1, 70, 24, 25, 26, 27, 28, 29, 30, 31, 32, 34, 35, 36, 37, 71, 72, 73, 74, 75, 76, 77, 78, 79, 80, 81, 82, 83, 84, 85, 102, 103, 104, 105, 106, 107, 108, 109, 110, 111, 112, 113, 114, 115, 116, 117, 118, 119, 120, 121, 122, 123, 124, 125, 126, 127, 128, 129, 130, 131, 132, 133, 134, 135, 136, 137, 138, 139, 140, 141, 142, 143, 144, 145, 146, 147, 148] rfl (by decide +kernel)
set_option maxRecDepth 20000 in
theorem gX12_readBookLine_X12_readOfAll : GoodIn wsX12_readBookLine (wsV RX12 377 RX12 yX12_readOfAll wsX12_readOfAll) := goodIn_app (goodIn_of _ (by decide +kernel)) ggX12_readBookLine_X12_readOfAll
set_option maxRecDepth 20000 in
theorem ggX12_readBookLine_X12_readEnd : GoodIn wsX12_readBookLine wsX12_readEnd := goodIn_r _ [89, 90, 91, 92, 9, 93, 15, 50, 28, 29, 30, 31, 32, 33, 34, 42, 43, 44, 45, 46, 47, 48, 49, 3, 51, 22, 23, 52, 53, 54, 55, 56, 57, 58, 59, 60, 61, 102, 103, 104, 105, 106, 107, 108, 109, 110, 111, 112, 113, 114, 115, 116, 117, 118, 119, 120, 121, 122, 123, 124, 125, 126, 127, 128, 129, 130, 131, 132, 133, 134, 135, 136, 137, 138, 139, 140, 141, 142, 143, 144, 145, 146, 147, 148] rfl (by decide +kernel)
set_option maxRecDepth 20000 in
theorem gX12_readBookLine_X12_readEnd : GoodIn wsX12_readBookLine (wsV RX12 211 RX12 yX12_readEnd wsX12_readEnd) := goodIn_app (goodIn_of _ (by decide +kernel)) ggX12_readBookLine_X12_readEnd
set_option maxRecDepth 20000 in
theorem ggX12_readBookLine_X12_bad : GoodIn wsX12_readBookLine wsX12_bad := goodIn_r _ [31, 15, 32, 33, 34, 102, 103, 104, 105, 106, 107, 108, 109, 110, 111, 112, 113, 114, 115, 116, 117, 118, 119, 120, 121, 122, 123, 124, 125, 126, 127, 128, 129, 130, 131, 132, 133, 134, 135, 136, 137, 138, 139, 140, 141, 142, 143, 144, 145, 146, 147, 148] rfl (by decide +kernel)
set_option maxRecDepth 20000 in
theorem gX12_readBookLine_X12_bad : GoodIn wsX12_readBookLine (wsV RX12 72 RX12 yX12_bad wsX12_bad) := goodIn_app (goodIn_of _ (by decide +kernel)) ggX12_readBookLine_X12_bad
set_option maxRecDepth 20000 in
theorem ggX12_readBookLine_X12_isName : GoodIn wsX12_readBookLine wsX12_isName := goodIn_r _ [27, 15, 3, 16, 17, 9, 18, 19, 20, 21, 22, 23, 102, 103, 104, 105, 106, 107, 108, 109, 110, 111, 112, 113, 114, 115, 116, 117, 118, 119, 120, 121, 122, 123, 124, 125, 126, 127, 128, 129, 130, 131, 132, 133, 134, 135, 136, 137, 138, 139, 140, 141, 142, 143, 144, 145, 146, 147, 148] rfl (by decide +kernel)
set_option maxRecDepth 20000 in
theorem gX12_readBookLine_X12_isName : GoodIn wsX12_readBookLine (wsV RX12 157 RX12 yX12_isName wsX12_isName) := goodIn_app (goodIn_of _ (by decide +kernel)) ggX12_readBookLine_X12_isName
set_option maxRecDepth 20000 in
theorem ggX12_readBookLine_X12_findIn : GoodIn wsX12_readBookLine wsX12_findIn := goodIn_r _ [37] rfl (by decide +kernel)
set_option maxRecDepth 20000 in
theorem gX12_readBookLine_X12_findIn : GoodIn wsX12_readBookLine (va_wsS RX12 161 yX12_findIn wsX12_findIn) := goodIn_app (goodIn_of _ (by decide +kernel)) ggX12_readBookLine_X12_findIn
set_option maxRecDepth 20000 in
theorem ggX12_readBookLine_X12_go : GoodIn wsX12_readBookLine wsX12_go := goodIn_r _ [45, 46, 47, 48, 33, 49, 15, 50, 3, 51, 22, 23, 52, 53, 9, 54, 55, 56, 57, 58, 59, 60, 61, 102, 103, 104, 105, 106, 107, 108, 109, 110, 111, 112, 113, 114, 115, 116, 117, 118, 119, 120, 121, 122, 123, 124, 125, 126, 127, 128, 129, 130, 131, 132, 133, 134, 135, 136, 137, 138, 139, 140, 141, 142, 143, 144, 145, 146, 147, 148] rfl (by decide +kernel)
set_option maxRecDepth 20000 in
theorem gX12_readBookLine_X12_go : GoodIn wsX12_readBookLine (wsV RX12 82 RX12 yX12_go wsX12_go) := goodIn_app (goodIn_of _ (by decide +kernel)) ggX12_readBookLine_X12_go
set_option maxRecDepth 20000 in
theorem ggX12_readBookLine_X12_readPersonDoes : GoodIn wsX12_readBookLine wsX12_readPersonDoes := goodIn_r _ [97, 5, 11, 12, 13, 9, 14, 15, 3, 16, 17, 18, 19, 20, 21, 22, 23, 28, 29, 30, 31, 32, 33, 34, 42, 43, 44, 45, 46, 47, 48, 49, 50, 51, 52, 53, 54, 55, 56, 57, 58, 59, 60, 61, 62, 63, 64, 65, 2, 66, 67, 68, 69, 1, 70, 24, 25, 26, 27, 35, 36, 37, 71, 72, 73, 74, 75, 76, 77, 78, 79, 80, 81, 82, 83, 84, 85, 102, 103, 104, 105, 106, 107, 108, 109, 110, 111, 112, 113, 114, 115, 116, 117, 118, 119, 120, 121, 122, 123, 124, 125, 126, 127, 128, 129, 130, 131, 132, 133, 134, 135, 136, 137, 138, 139, 140, 141, 142, 143, 144, 145, 146, 147, 148] rfl (by decide +kernel)
set_option maxRecDepth 20000 in
theorem gX12_readBookLine_X12_readPersonDoes : GoodIn wsX12_readBookLine (wsV RX12 380 RX12 yX12_readPersonDoes wsX12_readPersonDoes) := goodIn_app (goodIn_of _ (by decide +kernel)) ggX12_readBookLine_X12_readPersonDoes
set_option maxRecDepth 20000 in
theorem ggX12_readBookLine_X12_readDogDoes : GoodIn wsX12_readBookLine wsX12_readDogDoes := goodIn_r _ [101, 5, 11, 12, 13, 9, 14, 15, 3, 16, 17, 18, 19, 20, 21, 22, 23, 28, 29, 30, 31, 32, 33, 34, 42, 43, 44, 45, 46, 47, 48, 49, 50, 51, 52, 53, 54, 55, 56, 57, 58, 59, 60, 61, 102, 103, 104, 105, 106, 107, 108, 109, 110, 111, 112, 113, 114, 115, 116, 117, 118, 119, 120, 121, 122, 123, 124, 125, 126, 127, 128, 129, 130, 131, 132, 133, 134, 135, 136, 137, 138, 139, 140, 141, 142, 143, 144, 145, 146, 147, 148] rfl (by decide +kernel)
set_option maxRecDepth 20000 in
theorem gX12_readBookLine_X12_readDogDoes : GoodIn wsX12_readBookLine (wsV RX12 383 RX12 yX12_readDogDoes wsX12_readDogDoes) := goodIn_app (goodIn_of _ (by decide +kernel)) ggX12_readBookLine_X12_readDogDoes
