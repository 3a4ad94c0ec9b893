set_option maxRecDepth 20000 in
theorem ggX12_readFree_X12_readNumber : GoodIn wsX12_readFree wsX12_readNumber := goodIn_r _ [60, 12, 26, 2, 8, 9, 10, 6, 11, 13, 14, 15, 61, 62, 63, 16, 17, 18, 19, 20, 21, 22, 23, 24, 25, 27, 28, 29, 30, 31, 32, 33, 34, 35, 36, 37, 38, 67, 68, 69, 70, 71, 72, 73, 74, 75, 76, 77, 78, 79, 80, 81, 82, 83, 84, 85, 86, 87, 88, 89, 90, 91, 92, 93, 94, 95, 96, 97, 98, 99, 100, 101, 102, 103, 104, 105, 106, 107, 108, 109, 110, 111, 112, 113] rfl (by decide +kernel)
set_option maxRecDepth 20000 in
theorem gX12_readFree_X12_readNumber : GoodIn wsX12_readFree (wsV RX12 182 RX12 yX12_readNumber wsX12_readNumber) := goodIn_app (goodIn_of _ (by decide +kernel)) ggX12_readFree_X12_readNumber
set_option maxRecDepth 20000 in
theorem ggX12_readFree_X12_hoursIn : GoodIn wsX12_readFree wsX12_hoursIn := goodIn_r _ [66] rfl (by decide +kernel)
set_option maxRecDepth 20000 in
theorem gX12_readFree_X12_hoursIn : GoodIn wsX12_readFree (va_wsS RX12 185 yX12_hoursIn wsX12_hoursIn) := goodIn_app (goodIn_of _ (by decide +kernel)) ggX12_readFree_X12_hoursIn
set_option maxRecDepth 20000 in
theorem ggX12_readLine_X12_isWord : GoodIn wsX12_readLine wsX12_isWord := goodIn_r _ [6, 7, 8, 9, 10, 5, 11, 12, 13, 14, 15, 16, 96, 97, 98, 99, 100, 101, 102, 103, 104, 105, 106, 107, 108, 109, 110, 111, 112, 113, 114, 115, 116, 117, 118, 119, 120, 121, 122, 123, 124, 125, 126, 127, 128, 129, 130, 131, 132, 133, 134, 135, 136, 137, 138, 139, 140, 141, 142] rfl (by decide +kernel)
set_option maxRecDepth 20000 in
theorem gX12_readLine_X12_isWord : GoodIn wsX12_readLine (wsV RX12 172 RX12 yX12_isWord wsX12_isWord) := goodIn_app (goodIn_of _ (by decide +kernel)) ggX12_readLine_X12_isWord
set_option maxRecDepth 20000 in
theorem ggX12_readLine_X12_readPlace : GoodIn wsX12_readLine wsX12_readPlace := goodIn_r _ [20, 21, 22, 23, 24, 5, 25, 26, 27, 28, 29, 7, 30, 31, 32, 33, 34, 35, 36, 37, 38, 39, 40, 41, 8, 42, 15, 16, 43, 44, 45, 46, 47, 48, 49, 50, 51, 52, 53, 54, 55, 56, 57, 58, 59, 60, 61, 9, 10, 11, 12, 13, 14, 62, 63, 64, 2, 3, 4, 6, 96, 97, 98, 99, 100, 101, 102, 103, 104, 105, 106, 107, 108, 109, 110, 111, 112, 113, 114, 115, 116, 117, 118, 119, 120, 121, 122, 123, 124, 125, 126, 127, 128, 129, 130, 131, 132, 133, 134, 135, 136, 137, 138, 139, 140, 141, 142] rfl (by decide +kernel)
set_option maxRecDepth 20000 in
theorem gX12_readLine_X12_readPlace : GoodIn wsX12_readLine (wsV RX12 189 RX12 yX12_readPlace wsX12_readPlace) := goodIn_app (goodIn_of _ (by decide +kernel)) ggX12_readLine_X12_readPlace
set_option maxRecDepth 20000 in
theorem ggX12_readLine_X12_readPerson : GoodIn wsX12_readLine wsX12_readPerson := goodIn_r _ [68, 21, 22, 23, 24, 5, 25, 26, 27, 28, 29, 7, 30, 31, 32, 33, 34, 35, 36, 37, 38, 39, 40, 41, 8, 42, 15, 16, 43, 44, 45, 46, 47, 48, 49, 50, 51, 52, 53, 54, 55, 56, 57, 58, 59, 60, 61, 9, 10, 11, 12, 13, 14, 62, 63, 64, 69, 70, 71, 72, 73, 74, 75, 76, 77, 78, 79, 80, 81, 82, 83, 84, 96, 97, 98, 99, 100, 101, 102, 103, 104, 105, 106, 107, 108, 109, 110, 111, 112, 113, 114, 115, 116, 117, 118, 119, 120, 121, 122, 123, 124, 125, 126, 127, 128, 129, 130, 131, 132, 133, 134, 135, 136, 137, 138, 139, 140, 141, 142] rfl (by decide +kernel)
set_option maxRecDepth 20000 in
theorem gX12_readLine_X12_readPerson : GoodIn wsX12_readLine (wsV RX12 192 RX12 yX12_readPerson wsX12_readPerson) := goodIn_app (goodIn_of _ (by decide +kernel)) ggX12_readLine_X12_readPerson
set_option maxRecDepth 20000 in
theorem ggX12_readLine_X12_readDog : GoodIn wsX12_readLine wsX12_readDog := goodIn_r _ [88, 21, 22, 23, 24, 5, 25, 26, 27, 28, 29, 7, 30, 31, 32, 33, 34, 35, 36, 37, 38, 39, 40, 41, 8, 42, 15, 16, 43, 44, 45, 46, 47, 48, 49, 50, 51, 52, 53, 54, 55, 56, 57, 58, 59, 60, 61, 9, 10, 11, 12, 13, 14, 62, 63, 64, 69, 70, 71, 72, 73, 74, 75, 76, 77, 78, 79, 80, 81, 82, 83, 84, 96, 97, 98, 99, 100, 101, 102, 103, 104, 105, 106, 107, 108, 109, 110, 111, 112, 113, 114, 115, 116, 117, 118, 119, 120, 121, 122, 123, 124, 125, 126, 127, 128, 129, 130, 131, 132, 133, 134, 135, 136, 137, 138, 139, 140, 141, 142] rfl (by decide +kernel)
set_option maxRecDepth 20000 in
theorem gX12_readLine_X12_readDog : GoodIn wsX12_readLine (wsV RX12 195 RX12 yX12_readDog wsX12_readDog) := goodIn_app (goodIn_of _ (by decide +kernel)) ggX12_readLine_X12_readDog
set_option maxRecDepth 20000 in
theorem ggX12_readLine_X12_readFree : GoodIn wsX12_readLine wsX12_readFree := goodIn_r _ [92, 21, 73, 22, 23, 24, 5, 25, 26, 27, 28, 29, 7, 30, 31, 32, 33, 34, 35, 36, 37, 38, 39, 40, 41, 8, 42, 15, 16, 43, 44, 45, 46, 47, 48, 49, 50, 51, 52, 69, 70, 71, 72, 57, 58, 59, 60, 61, 9, 10, 11, 12, 13, 14, 62, 63, 64, 78, 79, 80, 81, 82, 83, 84, 93, 94, 95, 96, 97, 98, 99, 100, 101, 102, 103, 104, 105, 106, 107, 108, 109, 110, 111, 112, 113, 114, 115, 116, 117, 118, 119, 120, 121, 122, 123, 124, 125, 126, 127, 128, 129, 130, 131, 132, 133, 134, 135, 136, 137, 138, 139, 140, 141, 142] rfl (by decide +kernel)
set_option maxRecDepth 20000 in
theorem gX12_readLine_X12_readFree : GoodIn wsX12_readLine (wsV RX12 198 RX12 yX12_readFree wsX12_readFree) := goodIn_app (goodIn_of _ (by decide +kernel)) ggX12_readLine_X12_readFree
set_option maxRecDepth 20000 in
theorem ggX12_readLine_X12_go : GoodIn wsX12_readLine wsX12_go := goodIn_r _ [36, 37, 38, 39, 31, 40, 7, 41, 8, 42, 15, 16, 43, 44, 5, 45, 46, 47, 48, 49, 50, 51, 52, 96, 97, 98, 99, 100, 101, 102, 103, 104, 105, 106, 107, 108, 109, 110, 111, 112, 113, 114, 115, 116, 117, 118, 119, 120, 121, 122, 123, 124, 125, 126, 127, 128, 129, 130, 131, 132, 133, 134, 135, 136, 137, 138, 139, 140, 141, 142] rfl (by decide +kernel)
set_option maxRecDepth 20000 in
theorem gX12_readLine_X12_go : GoodIn wsX12_readLine (wsV RX12 82 RX12 yX12_go wsX12_go) := goodIn_app (goodIn_of _ (by decide +kernel)) ggX12_readLine_X12_go
