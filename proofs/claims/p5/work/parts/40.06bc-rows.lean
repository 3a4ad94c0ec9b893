set_option maxRecDepth 20000 in
theorem ggX12_readNamed_X12_isName : GoodIn wsX12_readNamed wsX12_isName := goodIn_r _ [8, 9, 2, 10, 11, 7, 12, 13, 14, 15, 16, 17, 48, 49, 50, 51, 52, 53, 54, 55, 56, 57, 58, 59, 60, 61, 62, 63, 64, 65, 66, 67, 68, 69, 70, 71, 72, 73, 74, 75, 76, 77, 78, 79, 80, 81, 82, 83, 84, 85, 86, 87, 88, 89, 90, 91, 92, 93, 94] rfl (by decide +kernel)
set_option maxRecDepth 20000 in
theorem gX12_readNamed_X12_isName : GoodIn wsX12_readNamed (wsV RX12 157 RX12 yX12_isName wsX12_isName) := goodIn_app (goodIn_of _ (by decide +kernel)) ggX12_readNamed_X12_isName
set_option maxRecDepth 20000 in
theorem ggX12_readNamed_X12_findIn : GoodIn wsX12_readNamed wsX12_findIn := goodIn_r _ [27] rfl (by decide +kernel)
set_option maxRecDepth 20000 in
theorem gX12_readNamed_X12_findIn : GoodIn wsX12_readNamed (va_wsS RX12 161 yX12_findIn wsX12_findIn) := goodIn_app (goodIn_of _ (by decide +kernel)) ggX12_readNamed_X12_findIn
set_option maxRecDepth 20000 in
theorem ggX12_readNamed_X12_bad : GoodIn wsX12_readNamed wsX12_bad := goodIn_r _ [21, 9, 22, 23, 24, 48, 49, 50, 51, 52, 53, 54, 55, 56, 57, 58, 59, 60, 61, 62, 63, 64, 65, 66, 67, 68, 69, 70, 71, 72, 73, 74, 75, 76, 77, 78, 79, 80, 81, 82, 83, 84, 85, 86, 87, 88, 89, 90, 91, 92, 93, 94] rfl (by decide +kernel)
set_option maxRecDepth 20000 in
theorem gX12_readNamed_X12_bad : GoodIn wsX12_readNamed (wsV RX12 72 RX12 yX12_bad wsX12_bad) := goodIn_app (goodIn_of _ (by decide +kernel)) ggX12_readNamed_X12_bad
set_option maxRecDepth 20000 in
theorem ggX12_readNamed_X12_go : GoodIn wsX12_readNamed wsX12_go := goodIn_r _ [31, 32, 33, 34, 23, 35, 9, 36, 2, 37, 16, 17, 38, 39, 7, 40, 41, 42, 43, 44, 45, 46, 47, 48, 49, 50, 51, 52, 53, 54, 55, 56, 57, 58, 59, 60, 61, 62, 63, 64, 65, 66, 67, 68, 69, 70, 71, 72, 73, 74, 75, 76, 77, 78, 79, 80, 81, 82, 83, 84, 85, 86, 87, 88, 89, 90, 91, 92, 93, 94] rfl (by decide +kernel)
set_option maxRecDepth 20000 in
theorem gX12_readNamed_X12_go : GoodIn wsX12_readNamed (wsV RX12 82 RX12 yX12_go wsX12_go) := goodIn_app (goodIn_of _ (by decide +kernel)) ggX12_readNamed_X12_go
set_option maxRecDepth 20000 in
theorem ggX12_readPlaceName_X12_readNamed : GoodIn wsX12_readPlaceName wsX12_readNamed := goodIn_r _ [6, 7, 8, 9, 10, 11, 12, 5, 13, 14, 15, 16, 17, 18, 19, 20, 21, 22, 23, 24, 25, 26, 27, 28, 29, 30, 31, 32, 33, 34, 35, 36, 37, 38, 39, 40, 41, 42, 43, 44, 45, 46, 47, 48, 49, 50, 51, 52, 53, 54, 55, 56, 57, 58, 59, 60, 61, 62, 63, 64, 65, 66, 67, 68, 69, 70, 71, 72, 73, 74, 75, 76, 77, 78, 79, 80, 81, 82, 83, 84, 85, 86, 87, 88, 89, 90, 91, 92, 93, 94, 95, 96, 97, 98, 99] rfl (by decide +kernel)
set_option maxRecDepth 20000 in
theorem gX12_readPlaceName_X12_readNamed : GoodIn wsX12_readPlaceName (wsV RX12 359 RX12 yX12_readNamed wsX12_readNamed) := goodIn_app (goodIn_of _ (by decide +kernel)) ggX12_readPlaceName_X12_readNamed
set_option maxRecDepth 20000 in
theorem ggX12_readHours_X12_readNumber : GoodIn wsX12_readHours wsX12_readNumber := goodIn_r _ [6, 7, 8, 9, 10, 11, 12, 5, 13, 14, 15, 16, 17, 18, 19, 20, 21, 22, 23, 24, 25, 26, 27, 28, 29, 30, 31, 32, 33, 34, 35, 36, 37, 38, 39, 40, 41, 46, 47, 48, 49, 50, 51, 52, 53, 54, 55, 56, 57, 58, 59, 60, 61, 62, 63, 64, 65, 66, 67, 68, 69, 70, 71, 72, 73, 74, 75, 76, 77, 78, 79, 80, 81, 82, 83, 84, 85, 86, 87, 88, 89, 90, 91, 92] rfl (by decide +kernel)
set_option maxRecDepth 20000 in
theorem gX12_readHours_X12_readNumber : GoodIn wsX12_readHours (wsV RX12 182 RX12 yX12_readNumber wsX12_readNumber) := goodIn_app (goodIn_of _ (by decide +kernel)) ggX12_readHours_X12_readNumber
set_option maxRecDepth 20000 in
theorem ggX12_readHours_X12_keep : GoodIn wsX12_readHours wsX12_keep := goodIn_r _ [45, 1, 9, 46, 47, 48, 49, 50, 51, 52, 53, 54, 55, 56, 57, 58, 59, 60, 61, 62, 63, 64, 65, 66, 67, 68, 69, 70, 71, 72, 73, 74, 75, 76, 77, 78, 79, 80, 81, 82, 83, 84, 85, 86, 87, 88, 89, 90, 91, 92] rfl (by decide +kernel)
set_option maxRecDepth 20000 in
theorem gX12_readHours_X12_keep : GoodIn wsX12_readHours (wsV RX12 362 RX12 yX12_keep wsX12_keep) := goodIn_app (goodIn_of _ (by decide +kernel)) ggX12_readHours_X12_keep
set_option maxRecDepth 20000 in
theorem ggX12_readDogDoes_X12_isWord : GoodIn wsX12_readDogDoes wsX12_isWord := goodIn_r _ [6, 7, 8, 9, 10, 5, 11, 12, 13, 14, 15, 16, 44, 45, 46, 47, 48, 49, 50, 51, 52, 53, 54, 55, 56, 57, 58, 59, 60, 61, 62, 63, 64, 65, 66, 67, 68, 69, 70, 71, 72, 73, 74, 75, 76, 77, 78, 79, 80, 81, 82, 83, 84, 85, 86, 87, 88, 89, 90] rfl (by decide +kernel)
set_option maxRecDepth 20000 in
theorem gX12_readDogDoes_X12_isWord : GoodIn wsX12_readDogDoes (wsV RX12 172 RX12 yX12_isWord wsX12_isWord) := goodIn_app (goodIn_of _ (by decide +kernel)) ggX12_readDogDoes_X12_isWord
