set_option maxRecDepth 20000 in
theorem ggX12_readDogDoes_X12_go : GoodIn wsX12_readDogDoes wsX12_go := goodIn_r _ [27, 28, 29, 30, 22, 31, 7, 32, 8, 33, 15, 16, 34, 35, 5, 36, 37, 38, 39, 40, 41, 42, 43, 44, 45, 46, 47, 48, 49, 50, 51, 52, 53, 54, 55, 56, 57, 58, 59, 60, 61, 62, 63, 64, 65, 66, 67, 68, 69, 70, 71, 72, 73, 74, 75, 76, 77, 78, 79, 80, 81, 82, 83, 84, 85, 86, 87, 88, 89, 90] rfl (by decide +kernel)
set_option maxRecDepth 20000 in
theorem gX12_readDogDoes_X12_go : GoodIn wsX12_readDogDoes (wsV RX12 82 RX12 yX12_go wsX12_go) := goodIn_app (goodIn_of _ (by decide +kernel)) ggX12_readDogDoes_X12_go
set_option maxRecDepth 20000 in
theorem ggX12_readDogDoes_X12_bad : GoodIn wsX12_readDogDoes wsX12_bad := goodIn_r _ [20, 7, 21, 22, 23, 44, 45, 46, 47, 48, 49, 50, 51, 52, 53, 54, 55, 56, 57, 58, 59, 60, 61, 62, 63, 64, 65, 66, 67, 68, 69, 70, 71, 72, 73, 74, 75, 76, 77, 78, 79, 80, 81, 82, 83, 84, 85, 86, 87, 88, 89, 90] rfl (by decide +kernel)
set_option maxRecDepth 20000 in
theorem gX12_readDogDoes_X12_bad : GoodIn wsX12_readDogDoes (wsV RX12 72 RX12 yX12_bad wsX12_bad) := goodIn_app (goodIn_of _ (by decide +kernel)) ggX12_readDogDoes_X12_bad
set_option maxRecDepth 20000 in
theorem ggX12_readPersonDoes_X12_isWord : GoodIn wsX12_readPersonDoes wsX12_isWord := goodIn_r _ [6, 7, 8, 9, 10, 5, 11, 12, 13, 14, 15, 16, 77, 78, 79, 80, 81, 82, 83, 84, 85, 86, 87, 88, 89, 90, 91, 92, 93, 94, 95, 96, 97, 98, 99, 100, 101, 102, 103, 104, 105, 106, 107, 108, 109, 110, 111, 112, 113, 114, 115, 116, 117, 118, 119, 120, 121, 122, 123] rfl (by decide +kernel)
set_option maxRecDepth 20000 in
theorem gX12_readPersonDoes_X12_isWord : GoodIn wsX12_readPersonDoes (wsV RX12 172 RX12 yX12_isWord wsX12_isWord) := goodIn_app (goodIn_of _ (by decide +kernel)) ggX12_readPersonDoes_X12_isWord
set_option maxRecDepth 20000 in
theorem ggX12_readPersonDoes_X12_go : GoodIn wsX12_readPersonDoes wsX12_go := goodIn_r _ [27, 28, 29, 30, 22, 31, 7, 32, 8, 33, 15, 16, 34, 35, 5, 36, 37, 38, 39, 40, 41, 42, 43, 77, 78, 79, 80, 81, 82, 83, 84, 85, 86, 87, 88, 89, 90, 91, 92, 93, 94, 95, 96, 97, 98, 99, 100, 101, 102, 103, 104, 105, 106, 107, 108, 109, 110, 111, 112, 113, 114, 115, 116, 117, 118, 119, 120, 121, 122, 123] rfl (by decide +kernel)
set_option maxRecDepth 20000 in
theorem gX12_readPersonDoes_X12_go : GoodIn wsX12_readPersonDoes (wsV RX12 82 RX12 yX12_go wsX12_go) := goodIn_app (goodIn_of _ (by decide +kernel)) ggX12_readPersonDoes_X12_go
set_option maxRecDepth 20000 in
theorem ggX12_readPersonDoes_X12_readPlaceName : GoodIn wsX12_readPersonDoes wsX12_readPlaceName := goodIn_r _ [47, 48, 49, 50, 51, 5, 52, 53, 8, 54, 55, 56, 57, 58, 7, 9, 10, 11, 12, 13, 14, 15, 16, 17, 18, 19, 20, 21, 22, 23, 59, 60, 61, 24, 25, 26, 27, 28, 29, 30, 31, 32, 33, 34, 35, 36, 37, 38, 39, 40, 41, 42, 43, 77, 78, 79, 80, 81, 82, 83, 84, 85, 86, 87, 88, 89, 90, 91, 92, 93, 94, 95, 96, 97, 98, 99, 100, 101, 102, 103, 104, 105, 106, 107, 108, 109, 110, 111, 112, 113, 114, 115, 116, 117, 118, 119, 120, 121, 122, 123] rfl (by decide +kernel)
set_option maxRecDepth 20000 in
theorem gX12_readPersonDoes_X12_readPlaceName : GoodIn wsX12_readPersonDoes (wsV RX12 365 RX12 yX12_readPlaceName wsX12_readPlaceName) := goodIn_app (goodIn_of _ (by decide +kernel)) ggX12_readPersonDoes_X12_readPlaceName
set_option maxRecDepth 20000 in
theorem ggX12_readPersonDoes_X12_keep : GoodIn wsX12_readPersonDoes wsX12_keep := goodIn_r _ [65, 1, 54, 77, 78, 79, 80, 81, 82, 83, 84, 85, 86, 87, 88, 89, 90, 91, 92, 93, 94, 95, 96, 97, 98, 99, 100, 101, 102, 103, 104, 105, 106, 107, 108, 109, 110, 111, 112, 113, 114, 115, 116, 117, 118, 119, 120, 121, 122, 123] rfl (by decide +kernel)
set_option maxRecDepth 20000 in
theorem gX12_readPersonDoes_X12_keep : GoodIn wsX12_readPersonDoes (wsV RX12 362 RX12 yX12_keep wsX12_keep) := goodIn_app (goodIn_of _ (by decide +kernel)) ggX12_readPersonDoes_X12_keep
set_option maxRecDepth 20000 in
theorem ggX12_readPersonDoes_X12_readHours : GoodIn wsX12_readPersonDoes wsX12_readHours := goodIn_r _ [69, 1, 70, 71, 72, 5, 73, 7, 33, 54, 17, 18, 19, 20, 21, 22, 23, 74, 75, 76, 24, 25, 26, 27, 28, 29, 30, 31, 32, 8, 15, 16, 34, 35, 36, 37, 38, 39, 40, 41, 42, 43, 62, 63, 64, 65, 77, 78, 79, 80, 81, 82, 83, 84, 85, 86, 87, 88, 89, 90, 91, 92, 93, 94, 95, 96, 97, 98, 99, 100, 101, 102, 103, 104, 105, 106, 107, 108, 109, 110, 111, 112, 113, 114, 115, 116, 117, 118, 119, 120, 121, 122, 123] rfl (by decide +kernel)
set_option maxRecDepth 20000 in
theorem gX12_readPersonDoes_X12_readHours : GoodIn wsX12_readPersonDoes (wsV RX12 368 RX12 yX12_readHours wsX12_readHours) := goodIn_app (goodIn_of _ (by decide +kernel)) ggX12_readPersonDoes_X12_readHours
set_option maxRecDepth 20000 in
theorem ggX12_readPersonDoes_X12_bad : GoodIn wsX12_readPersonDoes wsX12_bad := goodIn_r _ [20, 7, 21, 22, 23, 77, 78, 79, 80, 81, 82, 83, 84, 85, 86, 87, 88, 89, 90, 91, 92, 93, 94, 95, 96, 97, 98, 99, 100, 101, 102, 103, 104, 105, 106, 107, 108, 109, 110, 111, 112, 113, 114, 115, 116, 117, 118, 119, 120, 121, 122, 123] rfl (by decide +kernel)
set_option maxRecDepth 20000 in
theorem gX12_readPersonDoes_X12_bad : GoodIn wsX12_readPersonDoes (wsV RX12 72 RX12 yX12_bad wsX12_bad) := goodIn_app (goodIn_of _ (by decide +kernel)) ggX12_readPersonDoes_X12_bad
