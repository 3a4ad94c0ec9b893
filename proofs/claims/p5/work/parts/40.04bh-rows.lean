set_option maxRecDepth 20000 in
theorem ggX12_readPlace_X12_readFirst : GoodIn wsX12_readPlace wsX12_readFirst := goodIn_r _ [6, 1, 7, 8, 9, 5, 10, 11, 12, 13, 14, 15, 16, 17, 18, 19, 20, 21, 22, 23, 24, 25, 26, 27, 28, 29, 30, 31, 32, 33, 34, 35, 36, 37, 60, 61, 62, 63, 64, 65, 66, 67, 68, 69, 70, 71, 72, 73, 74, 75, 76, 77, 78, 79, 80, 81, 82, 83, 84, 85, 86, 87, 88, 89, 90, 91, 92, 93, 94, 95, 96, 97, 98, 99, 100, 101, 102, 103, 104, 105, 106] rfl (by decide +kernel)
set_option maxRecDepth 20000 in
theorem gX12_readPlace_X12_readFirst : GoodIn wsX12_readPlace (wsV RX12 165 RX12 yX12_readFirst wsX12_readFirst) := goodIn_app (goodIn_of _ (by decide +kernel)) ggX12_readPlace_X12_readFirst
set_option maxRecDepth 20000 in
theorem ggX12_readPlace_X12_readNew : GoodIn wsX12_readPlace wsX12_readNew := goodIn_r _ [41, 42, 1, 24, 43, 44, 45, 5, 46, 11, 47, 48, 49, 50, 51, 52, 26, 27, 7, 8, 9, 10, 12, 13, 14, 53, 54, 55, 15, 16, 17, 18, 19, 20, 21, 22, 23, 25, 28, 29, 30, 31, 32, 33, 34, 35, 36, 37, 60, 61, 62, 63, 64, 65, 66, 67, 68, 69, 70, 71, 72, 73, 74, 75, 76, 77, 78, 79, 80, 81, 82, 83, 84, 85, 86, 87, 88, 89, 90, 91, 92, 93, 94, 95, 96, 97, 98, 99, 100, 101, 102, 103, 104, 105, 106] rfl (by decide +kernel)
set_option maxRecDepth 20000 in
theorem gX12_readPlace_X12_readNew : GoodIn wsX12_readPlace (wsV RX12 169 RX12 yX12_readNew wsX12_readNew) := goodIn_app (goodIn_of _ (by decide +kernel)) ggX12_readPlace_X12_readNew
set_option maxRecDepth 20000 in
theorem ggX12_readPlace_X12_isWord : GoodIn wsX12_readPlace wsX12_isWord := goodIn_r _ [59, 11, 24, 47, 48, 5, 49, 50, 51, 52, 26, 27, 60, 61, 62, 63, 64, 65, 66, 67, 68, 69, 70, 71, 72, 73, 74, 75, 76, 77, 78, 79, 80, 81, 82, 83, 84, 85, 86, 87, 88, 89, 90, 91, 92, 93, 94, 95, 96, 97, 98, 99, 100, 101, 102, 103, 104, 105, 106] rfl (by decide +kernel)
set_option maxRecDepth 20000 in
theorem gX12_readPlace_X12_isWord : GoodIn wsX12_readPlace (wsV RX12 172 RX12 yX12_isWord wsX12_isWord) := goodIn_app (goodIn_of _ (by decide +kernel)) ggX12_readPlace_X12_isWord
set_option maxRecDepth 20000 in
theorem ggX12_readPlace_X12_go : GoodIn wsX12_readPlace wsX12_go := goodIn_r _ [18, 19, 20, 21, 13, 22, 11, 23, 24, 25, 26, 27, 28, 29, 5, 30, 31, 32, 33, 34, 35, 36, 37, 60, 61, 62, 63, 64, 65, 66, 67, 68, 69, 70, 71, 72, 73, 74, 75, 76, 77, 78, 79, 80, 81, 82, 83, 84, 85, 86, 87, 88, 89, 90, 91, 92, 93, 94, 95, 96, 97, 98, 99, 100, 101, 102, 103, 104, 105, 106] rfl (by decide +kernel)
set_option maxRecDepth 20000 in
theorem gX12_readPlace_X12_go : GoodIn wsX12_readPlace (wsV RX12 82 RX12 yX12_go wsX12_go) := goodIn_app (goodIn_of _ (by decide +kernel)) ggX12_readPlace_X12_go
set_option maxRecDepth 20000 in
theorem ggX12_readPerson_X12_readFirst : GoodIn wsX12_readPerson wsX12_readFirst := goodIn_r _ [6, 1, 7, 8, 9, 5, 10, 11, 12, 13, 14, 15, 16, 17, 18, 19, 20, 21, 22, 23, 24, 25, 26, 27, 28, 29, 30, 31, 32, 33, 34, 35, 36, 37, 72, 73, 74, 75, 76, 77, 78, 79, 80, 81, 82, 83, 84, 85, 86, 87, 88, 89, 90, 91, 92, 93, 94, 95, 96, 97, 98, 99, 100, 101, 102, 103, 104, 105, 106, 107, 108, 109, 110, 111, 112, 113, 114, 115, 116, 117, 118] rfl (by decide +kernel)
set_option maxRecDepth 20000 in
theorem gX12_readPerson_X12_readFirst : GoodIn wsX12_readPerson (wsV RX12 165 RX12 yX12_readFirst wsX12_readFirst) := goodIn_app (goodIn_of _ (by decide +kernel)) ggX12_readPerson_X12_readFirst
set_option maxRecDepth 20000 in
theorem ggX12_readPerson_X12_readNew : GoodIn wsX12_readPerson wsX12_readNew := goodIn_r _ [41, 42, 1, 24, 43, 44, 45, 5, 46, 11, 47, 48, 49, 50, 51, 52, 26, 27, 7, 8, 9, 10, 12, 13, 14, 53, 54, 55, 15, 16, 17, 18, 19, 20, 21, 22, 23, 25, 28, 29, 30, 31, 32, 33, 34, 35, 36, 37, 72, 73, 74, 75, 76, 77, 78, 79, 80, 81, 82, 83, 84, 85, 86, 87, 88, 89, 90, 91, 92, 93, 94, 95, 96, 97, 98, 99, 100, 101, 102, 103, 104, 105, 106, 107, 108, 109, 110, 111, 112, 113, 114, 115, 116, 117, 118] rfl (by decide +kernel)
set_option maxRecDepth 20000 in
theorem gX12_readPerson_X12_readNew : GoodIn wsX12_readPerson (wsV RX12 169 RX12 yX12_readNew wsX12_readNew) := goodIn_app (goodIn_of _ (by decide +kernel)) ggX12_readPerson_X12_readNew
set_option maxRecDepth 20000 in
theorem ggX12_readPerson_X12_readOne : GoodIn wsX12_readPerson wsX12_readOne := goodIn_r _ [59, 42, 24, 60, 43, 44, 45, 5, 46, 11, 47, 48, 49, 50, 51, 52, 26, 27, 7, 8, 9, 10, 12, 13, 14, 53, 54, 55, 15, 16, 17, 18, 19, 20, 21, 22, 23, 25, 28, 29, 30, 31, 32, 33, 34, 35, 36, 37, 72, 73, 74, 75, 76, 77, 78, 79, 80, 81, 82, 83, 84, 85, 86, 87, 88, 89, 90, 91, 92, 93, 94, 95, 96, 97, 98, 99, 100, 101, 102, 103, 104, 105, 106, 107, 108, 109, 110, 111, 112, 113, 114, 115, 116, 117, 118] rfl (by decide +kernel)
set_option maxRecDepth 20000 in
theorem gX12_readPerson_X12_readOne : GoodIn wsX12_readPerson (wsV RX12 175 RX12 yX12_readOne wsX12_readOne) := goodIn_app (goodIn_of _ (by decide +kernel)) ggX12_readPerson_X12_readOne
set_option maxRecDepth 20000 in
theorem ggX12_readPerson_X12_put : GoodIn wsX12_readPerson wsX12_put := goodIn_r _ [64, 1, 60, 72, 73, 74, 75, 76, 77, 78, 79, 80, 81, 82, 83, 84, 85, 86, 87, 88, 89, 90, 91, 92, 93, 94, 95, 96, 97, 98, 99, 100, 101, 102, 103, 104, 105, 106, 107, 108, 109, 110, 111, 112, 113, 114, 115, 116, 117, 118] rfl (by decide +kernel)
set_option maxRecDepth 20000 in
theorem gX12_readPerson_X12_put : GoodIn wsX12_readPerson (wsV RX12 178 RX12 yX12_put wsX12_put) := goodIn_app (goodIn_of _ (by decide +kernel)) ggX12_readPerson_X12_put
