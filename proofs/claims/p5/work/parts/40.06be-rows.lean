set_option maxRecDepth 20000 in
theorem ggX12_isOfAll_X12_isWord : GoodIn wsX12_isOfAll wsX12_isWord := goodIn_r _ [5, 6, 7, 8, 9, 4, 10, 11, 12, 13, 14, 15, 16, 17, 18, 19, 20, 21, 22, 23, 24, 25, 26, 27, 28, 29, 30, 31, 32, 33, 34, 35, 36, 37, 38, 39, 40, 41, 42, 43, 44, 45, 46, 47, 48, 49, 50, 51, 52, 53, 54, 55, 56, 57, 58, 59, 60, 61, 62] rfl (by decide +kernel)
set_option maxRecDepth 20000 in
theorem gX12_isOfAll_X12_isWord : GoodIn wsX12_isOfAll (wsV RX12 172 RX12 yX12_isWord wsX12_isWord) := goodIn_app (goodIn_of _ (by decide +kernel)) ggX12_isOfAll_X12_isWord
set_option maxRecDepth 20000 in
theorem ggX12_readOfAll_X12_isWord : GoodIn wsX12_readOfAll wsX12_isWord := goodIn_r _ [6, 7, 8, 9, 10, 5, 11, 12, 13, 14, 15, 16, 77, 78, 79, 80, 81, 82, 83, 84, 85, 86, 87, 88, 89, 90, 91, 92, 93, 94, 95, 96, 97, 98, 99, 100, 101, 102, 103, 104, 105, 106, 107, 108, 109, 110, 111, 112, 113, 114, 115, 116, 117, 118, 119, 120, 121, 122, 123] rfl (by decide +kernel)
set_option maxRecDepth 20000 in
theorem gX12_readOfAll_X12_isWord : GoodIn wsX12_readOfAll (wsV RX12 172 RX12 yX12_isWord wsX12_isWord) := goodIn_app (goodIn_of _ (by decide +kernel)) ggX12_readOfAll_X12_isWord
set_option maxRecDepth 20000 in
theorem ggX12_readOfAll_X12_go : GoodIn wsX12_readOfAll wsX12_go := goodIn_r _ [20, 21, 22, 23, 24, 25, 7, 26, 8, 27, 15, 16, 28, 29, 5, 30, 31, 32, 33, 34, 35, 36, 37, 77, 78, 79, 80, 81, 82, 83, 84, 85, 86, 87, 88, 89, 90, 91, 92, 93, 94, 95, 96, 97, 98, 99, 100, 101, 102, 103, 104, 105, 106, 107, 108, 109, 110, 111, 112, 113, 114, 115, 116, 117, 118, 119, 120, 121, 122, 123] rfl (by decide +kernel)
set_option maxRecDepth 20000 in
theorem gX12_readOfAll_X12_go : GoodIn wsX12_readOfAll (wsV RX12 82 RX12 yX12_go wsX12_go) := goodIn_app (goodIn_of _ (by decide +kernel)) ggX12_readOfAll_X12_go
set_option maxRecDepth 20000 in
theorem ggX12_readOfAll_X12_readPlaceName : GoodIn wsX12_readOfAll wsX12_readPlaceName := goodIn_r _ [41, 42, 43, 44, 45, 5, 46, 47, 8, 48, 49, 50, 51, 52, 7, 9, 10, 11, 12, 13, 14, 15, 16, 53, 54, 55, 56, 57, 24, 58, 59, 60, 61, 17, 18, 19, 20, 21, 22, 23, 25, 26, 27, 28, 29, 30, 31, 32, 33, 34, 35, 36, 37, 77, 78, 79, 80, 81, 82, 83, 84, 85, 86, 87, 88, 89, 90, 91, 92, 93, 94, 95, 96, 97, 98, 99, 100, 101, 102, 103, 104, 105, 106, 107, 108, 109, 110, 111, 112, 113, 114, 115, 116, 117, 118, 119, 120, 121, 122, 123] rfl (by decide +kernel)
set_option maxRecDepth 20000 in
theorem gX12_readOfAll_X12_readPlaceName : GoodIn wsX12_readOfAll (wsV RX12 365 RX12 yX12_readPlaceName wsX12_readPlaceName) := goodIn_app (goodIn_of _ (by decide +kernel)) ggX12_readOfAll_X12_readPlaceName
set_option maxRecDepth 20000 in
theorem ggX12_readOfAll_X12_keep : GoodIn wsX12_readOfAll wsX12_keep := goodIn_r _ [65, 1, 48, 77, 78, 79, 80, 81, 82, 83, 84, 85, 86, 87, 88, 89, 90, 91, 92, 93, 94, 95, 96, 97, 98, 99, 100, 101, 102, 103, 104, 105, 106, 107, 108, 109, 110, 111, 112, 113, 114, 115, 116, 117, 118, 119, 120, 121, 122, 123] rfl (by decide +kernel)
set_option maxRecDepth 20000 in
theorem gX12_readOfAll_X12_keep : GoodIn wsX12_readOfAll (wsV RX12 362 RX12 yX12_keep wsX12_keep) := goodIn_app (goodIn_of _ (by decide +kernel)) ggX12_readOfAll_X12_keep
set_option maxRecDepth 20000 in
theorem ggX12_readOfAll_X12_readHours : GoodIn wsX12_readOfAll wsX12_readHours := goodIn_r _ [69, 1, 70, 71, 72, 5, 73, 7, 27, 48, 53, 54, 55, 56, 57, 24, 58, 74, 75, 76, 17, 18, 19, 20, 21, 22, 23, 25, 26, 8, 15, 16, 28, 29, 30, 31, 32, 33, 34, 35, 36, 37, 62, 63, 64, 65, 77, 78, 79, 80, 81, 82, 83, 84, 85, 86, 87, 88, 89, 90, 91, 92, 93, 94, 95, 96, 97, 98, 99, 100, 101, 102, 103, 104, 105, 106, 107, 108, 109, 110, 111, 112, 113, 114, 115, 116, 117, 118, 119, 120, 121, 122, 123] rfl (by decide +kernel)
set_option maxRecDepth 20000 in
theorem gX12_readOfAll_X12_readHours : GoodIn wsX12_readOfAll (wsV RX12 368 RX12 yX12_readHours wsX12_readHours) := goodIn_app (goodIn_of _ (by decide +kernel)) ggX12_readOfAll_X12_readHours
set_option maxRecDepth 20000 in
theorem ggX12_readOfAll_X12_readNumber : GoodIn wsX12_readOfAll wsX12_readNumber := goodIn_r _ [73, 7, 27, 48, 53, 54, 55, 5, 56, 57, 24, 58, 74, 75, 76, 17, 18, 19, 20, 21, 22, 23, 25, 26, 8, 15, 16, 28, 29, 30, 31, 32, 33, 34, 35, 36, 37, 77, 78, 79, 80, 81, 82, 83, 84, 85, 86, 87, 88, 89, 90, 91, 92, 93, 94, 95, 96, 97, 98, 99, 100, 101, 102, 103, 104, 105, 106, 107, 108, 109, 110, 111, 112, 113, 114, 115, 116, 117, 118, 119, 120, 121, 122, 123] rfl (by decide +kernel)
set_option maxRecDepth 20000 in
theorem gX12_readOfAll_X12_readNumber : GoodIn wsX12_readOfAll (wsV RX12 182 RX12 yX12_readNumber wsX12_readNumber) := goodIn_app (goodIn_of _ (by decide +kernel)) ggX12_readOfAll_X12_readNumber
set_option maxRecDepth 20000 in
theorem ggX12_readBookLine_X12_isOfAll : GoodIn wsX12_readBookLine wsX12_isOfAll := goodIn_r _ [10, 11, 12, 13, 9, 14, 15, 3, 16, 17, 18, 19, 20, 21, 22, 23, 102, 103, 104, 105, 106, 107, 108, 109, 110, 111, 112, 113, 114, 115, 116, 117, 118, 119, 120, 121, 122, 123, 124, 125, 126, 127, 128, 129, 130, 131, 132, 133, 134, 135, 136, 137, 138, 139, 140, 141, 142, 143, 144, 145, 146, 147, 148] rfl (by decide +kernel)
set_option maxRecDepth 20000 in
theorem gX12_readBookLine_X12_isOfAll : GoodIn wsX12_readBookLine (wsV RX12 371 RX12 yX12_isOfAll wsX12_isOfAll) := goodIn_app (goodIn_of _ (by decide +kernel)) ggX12_readBookLine_X12_isOfAll
