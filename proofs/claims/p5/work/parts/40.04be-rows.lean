set_option maxRecDepth 20000 in
theorem ggX12_go_X12_isLetter : GoodIn wsX12_go wsX12_isLetter := goodIn_r _ [15] rfl (by decide +kernel)
set_option maxRecDepth 20000 in
theorem gX12_go_X12_isLetter : GoodIn wsX12_go (va_wsS RX12 33 yX12_isLetter wsX12_isLetter) := goodIn_app (goodIn_of _ (by decide +kernel)) ggX12_go_X12_isLetter
set_option maxRecDepth 20000 in
theorem ggX12_go_X12_tapeAt : GoodIn wsX12_go wsX12_tapeAt := goodIn_r _ [22, 2, 3, 23, 24, 25, 26, 27, 28, 29, 30, 31, 32, 33, 34, 35, 36, 37, 38, 39, 40, 41, 42, 43, 44, 45, 46, 47, 48, 49, 50, 51, 52, 53, 54, 55, 56, 57, 58, 59, 60, 61, 62, 63, 64, 65, 66, 67, 68, 69] rfl (by decide +kernel)
set_option maxRecDepth 20000 in
theorem gX12_go_X12_tapeAt : GoodIn wsX12_go (wsV RX12 50 RX12 yX12_tapeAt wsX12_tapeAt) := goodIn_app (goodIn_of _ (by decide +kernel)) ggX12_go_X12_tapeAt
set_option maxRecDepth 20000 in
theorem ggX12_go_X12_isDigit : GoodIn wsX12_go wsX12_isDigit := goodIn_r _ [18] rfl (by decide +kernel)
set_option maxRecDepth 20000 in
theorem gX12_go_X12_isDigit : GoodIn wsX12_go (va_wsS RX12 37 yX12_isDigit wsX12_isDigit) := goodIn_app (goodIn_of _ (by decide +kernel)) ggX12_go_X12_isDigit
set_option maxRecDepth 20000 in
theorem ggX12_wordOf_X12_spelt : GoodIn wsX12_wordOf wsX12_spelt := goodIn_r _ [4, 5, 6] rfl (by decide +kernel)
set_option maxRecDepth 20000 in
theorem gX12_wordOf_X12_spelt : GoodIn wsX12_wordOf (va_wsS RX12 58 yX12_spelt wsX12_spelt) := goodIn_app (goodIn_of _ (by decide +kernel)) ggX12_wordOf_X12_spelt
set_option maxRecDepth 20000 in
theorem ggX12_isWord_X12_wordOf : GoodIn wsX12_isWord wsX12_wordOf := goodIn_r _ [6, 7, 8, 5, 9, 10, 11] rfl (by decide +kernel)
set_option maxRecDepth 20000 in
theorem gX12_isWord_X12_wordOf : GoodIn wsX12_isWord (va_wsS RX12 62 yX12_wordOf wsX12_wordOf) := goodIn_app (goodIn_of _ (by decide +kernel)) ggX12_isWord_X12_wordOf
set_option maxRecDepth 20000 in
theorem ggX12_isName_X12_wordOf : GoodIn wsX12_isName wsX12_wordOf := goodIn_r _ [6, 7, 8, 5, 9, 10, 11] rfl (by decide +kernel)
set_option maxRecDepth 20000 in
theorem gX12_isName_X12_wordOf : GoodIn wsX12_isName (va_wsS RX12 62 yX12_wordOf wsX12_wordOf) := goodIn_app (goodIn_of _ (by decide +kernel)) ggX12_isName_X12_wordOf
set_option maxRecDepth 20000 in
theorem ggX12_readNumber_X12_isIn : GoodIn wsX12_readNumber wsX12_isIn := goodIn_r _ [14] rfl (by decide +kernel)
set_option maxRecDepth 20000 in
theorem gX12_readNumber_X12_isIn : GoodIn wsX12_readNumber (va_wsS RX12 75 yX12_isIn wsX12_isIn) := goodIn_app (goodIn_of _ (by decide +kernel)) ggX12_readNumber_X12_isIn
set_option maxRecDepth 20000 in
theorem ggX12_readNumber_X12_go : GoodIn wsX12_readNumber wsX12_go := goodIn_r _ [18, 19, 20, 21, 10, 22, 1, 23, 24, 2, 25, 26, 27, 28, 7, 29, 30, 31, 32, 33, 34, 35, 36, 37, 38, 39, 40, 41, 42, 43, 44, 45, 46, 47, 48, 49, 50, 51, 52, 53, 54, 55, 56, 57, 58, 59, 60, 61, 62, 63, 64, 65, 66, 67, 68, 69, 70, 71, 72, 73, 74, 75, 76, 77, 78, 79, 80, 81, 82, 83] rfl (by decide +kernel)
set_option maxRecDepth 20000 in
theorem gX12_readNumber_X12_go : GoodIn wsX12_readNumber (wsV RX12 82 RX12 yX12_go wsX12_go) := goodIn_app (goodIn_of _ (by decide +kernel)) ggX12_readNumber_X12_go
