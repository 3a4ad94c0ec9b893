set_option maxRecDepth 20000 in
theorem ggX12_readLine_X12_readNumber : GoodIn wsX12_readLine wsX12_readNumber := goodIn_r _ [81, 7, 42, 73, 26, 27, 28, 5, 29, 30, 31, 32, 82, 83, 84, 33, 34, 35, 36, 37, 38, 39, 40, 41, 8, 15, 16, 43, 44, 45, 46, 47, 48, 49, 50, 51, 52, 96, 97, 98, 99, 100, 101, 102, 103, 104, 105, 106, 107, 108, 109, 110, 111, 112, 113, 114, 115, 116, 117, 118, 119, 120, 121, 122, 123, 124, 125, 126, 127, 128, 129, 130, 131, 132, 133, 134, 135, 136, 137, 138, 139, 140, 141, 142] rfl (by decide +kernel)
set_option maxRecDepth 20000 in
theorem gX12_readLine_X12_readNumber : GoodIn wsX12_readLine (wsV RX12 182 RX12 yX12_readNumber wsX12_readNumber) := goodIn_app (goodIn_of _ (by decide +kernel)) ggX12_readLine_X12_readNumber
set_option maxRecDepth 20000 in
theorem ggX12_readLine_X12_put : GoodIn wsX12_readLine wsX12_put := goodIn_r _ [77, 21, 73, 96, 97, 98, 99, 100, 101, 102, 103, 104, 105, 106, 107, 108, 109, 110, 111, 112, 113, 114, 115, 116, 117, 118, 119, 120, 121, 122, 123, 124, 125, 126, 127, 128, 129, 130, 131, 132, 133, 134, 135, 136, 137, 138, 139, 140, 141, 142] rfl (by decide +kernel)
set_option maxRecDepth 20000 in
theorem gX12_readLine_X12_put : GoodIn wsX12_readLine (wsV RX12 178 RX12 yX12_put wsX12_put) := goodIn_app (goodIn_of _ (by decide +kernel)) ggX12_readLine_X12_put
set_option maxRecDepth 20000 in
theorem ggX12_readLine_X12_bad : GoodIn wsX12_readLine wsX12_bad := goodIn_r _ [29, 7, 30, 31, 32, 96, 97, 98, 99, 100, 101, 102, 103, 104, 105, 106, 107, 108, 109, 110, 111, 112, 113, 114, 115, 116, 117, 118, 119, 120, 121, 122, 123, 124, 125, 126, 127, 128, 129, 130, 131, 132, 133, 134, 135, 136, 137, 138, 139, 140, 141, 142] rfl (by decide +kernel)
set_option maxRecDepth 20000 in
theorem gX12_readLine_X12_bad : GoodIn wsX12_readLine (wsV RX12 72 RX12 yX12_bad wsX12_bad) := goodIn_app (goodIn_of _ (by decide +kernel)) ggX12_readLine_X12_bad
set_option maxRecDepth 20000 in
theorem ggX12_park_X12_begin : GoodIn wsX12_park wsX12_begin := goodIn_r _ [13, 14, 15, 16, 17, 18, 19, 20, 21, 12, 22, 23, 24, 25, 26, 27, 28, 29, 3, 30, 31, 32, 33, 34, 35, 36, 37, 38, 39, 40, 41, 42, 43, 44, 125, 126, 127, 128, 129, 130, 131, 132, 133, 134, 135, 136, 137, 138, 139, 140, 141, 142, 143, 144, 145, 146, 147, 148, 149, 150, 151, 152, 153, 154, 155, 156, 157, 158, 159, 160, 161, 162, 163, 164, 165, 166, 167, 168, 169, 170, 171] rfl (by decide +kernel)
set_option maxRecDepth 20000 in
theorem gX12_park_X12_begin : GoodIn wsX12_park (wsV RX12 205 RX12 yX12_begin wsX12_begin) := goodIn_app (goodIn_of _ (by decide +kernel)) ggX12_park_X12_begin
set_option maxRecDepth 20000 in
theorem ggX12_park_X12_startSo : GoodIn wsX12_park wsX12_startSo := goodIn_r _ [124, 5, 125, 126, 127, 128, 129, 130, 131, 132, 133, 134, 135, 136, 137, 138, 139, 140, 141, 142, 143, 144, 145, 146, 147, 148, 149, 150, 151, 152, 153, 154, 155, 156, 157, 158, 159, 160, 161, 162, 163, 164, 165, 166, 167, 168, 169, 170, 171] rfl (by decide +kernel)
set_option maxRecDepth 20000 in
theorem gX12_park_X12_startSo : GoodIn wsX12_park (wsV RX12 154 RX12 yX12_startSo wsX12_startSo) := goodIn_app (goodIn_of _ (by decide +kernel)) ggX12_park_X12_startSo
set_option maxRecDepth 20000 in
theorem ggX12_park_X12_readLine : GoodIn wsX12_park wsX12_readLine := goodIn_r _ [48, 2, 49, 50, 51, 12, 52, 3, 31, 53, 54, 55, 56, 57, 58, 33, 34, 59, 60, 61, 62, 1, 63, 64, 65, 66, 67, 68, 69, 70, 17, 29, 4, 24, 25, 26, 27, 18, 15, 28, 16, 30, 32, 35, 36, 37, 38, 39, 40, 41, 42, 43, 44, 71, 72, 73, 74, 7, 75, 76, 77, 78, 79, 80, 81, 82, 83, 84, 85, 86, 87, 88, 89, 90, 91, 92, 93, 94, 95, 96, 97, 98, 99, 100, 101, 102, 103, 104, 105, 106, 107, 108, 109, 110, 111, 112, 125, 126, 127, 128, 129, 130, 131, 132, 133, 134, 135, 136, 137, 138, 139, 140, 141, 142, 143, 144, 145, 146, 147, 148, 149, 150, 151, 152, 153, 154, 155, 156, 157, 158, 159, 160, 161, 162, 163, 164, 165, 166, 167, 168, 169, 170, 171] rfl (by decide +kernel)
set_option maxRecDepth 20000 in
theorem gX12_park_X12_readLine : GoodIn wsX12_park (wsV RX12 208 RX12 yX12_readLine wsX12_readLine) := goodIn_app (goodIn_of _ (by decide +kernel)) ggX12_park_X12_readLine
set_option maxRecDepth 20000 in
theorem ggX12_park_X12_readEnd : GoodIn wsX12_park wsX12_readEnd := goodIn_r _ [116, 117, 118, 119, 12, 120, 3, 30, 67, 68, 69, 70, 17, 29, 4, 24, 25, 26, 27, 18, 15, 28, 16, 31, 32, 33, 34, 35, 36, 37, 38, 39, 40, 41, 42, 43, 44, 125, 126, 127, 128, 129, 130, 131, 132, 133, 134, 135, 136, 137, 138, 139, 140, 141, 142, 143, 144, 145, 146, 147, 148, 149, 150, 151, 152, 153, 154, 155, 156, 157, 158, 159, 160, 161, 162, 163, 164, 165, 166, 167, 168, 169, 170, 171] rfl (by decide +kernel)
set_option maxRecDepth 20000 in
theorem gX12_park_X12_readEnd : GoodIn wsX12_park (wsV RX12 211 RX12 yX12_readEnd wsX12_readEnd) := goodIn_app (goodIn_of _ (by decide +kernel)) ggX12_park_X12_readEnd
