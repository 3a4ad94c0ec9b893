set_option maxRecDepth 20000 in
theorem ggX12_there_X12_comesIn : GoodIn wsX12_there wsX12_comesIn := goodIn_r _ [18, 2, 19, 20, 21, 6, 22, 23, 24, 25, 26, 27, 28, 29, 30, 31, 32, 33, 34, 35, 36, 37, 38, 39, 40, 41, 42, 43, 44, 45, 46, 47, 48, 49, 50, 51, 52, 53, 54, 55, 56, 57, 58, 59, 60, 61, 62, 63, 64, 65, 66, 67, 68, 69, 70, 71, 72, 73, 74, 75] rfl (by decide +kernel)
set_option maxRecDepth 20000 in
theorem gX12_there_X12_comesIn : GoodIn wsX12_there (wsV RX12 284 RX12 yX12_comesIn wsX12_comesIn) := goodIn_app (goodIn_of _ (by decide +kernel)) ggX12_there_X12_comesIn
set_option maxRecDepth 20000 in
theorem ggX12_meetsIn_X12_hoursOf : GoodIn wsX12_meetsIn wsX12_hoursOf := goodIn_r _ [6, 1, 7, 8, 5, 9, 10, 11, 12, 13, 14, 15, 16, 17, 18, 19, 20, 21, 22, 23, 24, 25, 26, 27, 28, 29, 30, 31, 32, 33, 34, 35, 36, 37, 38, 39, 40, 41, 42, 43, 44, 45, 46, 47, 48, 49, 50, 51, 52, 53, 54, 55, 56] rfl (by decide +kernel)
set_option maxRecDepth 20000 in
theorem gX12_meetsIn_X12_hoursOf : GoodIn wsX12_meetsIn (wsV RX12 220 RX12 yX12_hoursOf wsX12_hoursOf) := goodIn_app (goodIn_of _ (by decide +kernel)) ggX12_meetsIn_X12_hoursOf
set_option maxRecDepth 20000 in
theorem ggX12_meets_X12_isPerson : GoodIn wsX12_meets wsX12_isPerson := goodIn_r _ [6, 7, 8, 9, 5, 10, 22, 23, 24, 25, 26, 27, 28, 29, 30, 31, 32, 33, 34, 35, 36, 37, 38, 39, 40, 41, 42, 43, 44, 45, 46, 47, 48, 49, 50, 51, 52, 53, 54, 55, 56, 57, 58, 59, 60, 61, 62, 63, 64, 65, 66, 67, 68] rfl (by decide +kernel)
set_option maxRecDepth 20000 in
theorem gX12_meets_X12_isPerson : GoodIn wsX12_meets (wsV RX12 241 RX12 yX12_isPerson wsX12_isPerson) := goodIn_app (goodIn_of _ (by decide +kernel)) ggX12_meets_X12_isPerson
set_option maxRecDepth 20000 in
theorem ggX12_meets_X12_meetsIn : GoodIn wsX12_meets wsX12_meetsIn := goodIn_r _ [14, 7, 15, 16, 17, 5, 18, 19, 20, 21, 22, 23, 24, 25, 26, 27, 28, 29, 30, 31, 32, 33, 34, 35, 36, 37, 38, 39, 40, 41, 42, 43, 44, 45, 46, 47, 48, 49, 50, 51, 52, 53, 54, 55, 56, 57, 58, 59, 60, 61, 62, 63, 64, 65, 66, 67, 68] rfl (by decide +kernel)
set_option maxRecDepth 20000 in
theorem gX12_meets_X12_meetsIn : GoodIn wsX12_meets (wsV RX12 306 RX12 yX12_meetsIn wsX12_meetsIn) := goodIn_app (goodIn_of _ (by decide +kernel)) ggX12_meets_X12_meetsIn
set_option maxRecDepth 20000 in
theorem ggX12_manyOf_X12_dogsOf : GoodIn wsX12_manyOf wsX12_dogsOf := goodIn_r _ [6, 1, 11, 12, 13, 14, 15, 16, 17, 18, 19, 20, 21, 22, 23, 24, 25, 26, 27, 28, 29, 30, 31, 32, 33, 34, 35, 36, 37, 38, 39, 40, 41, 42, 43, 44, 45, 46, 47, 48, 49, 50, 51, 52, 53, 54, 55, 56, 57] rfl (by decide +kernel)
set_option maxRecDepth 20000 in
theorem gX12_manyOf_X12_dogsOf : GoodIn wsX12_manyOf (wsV RX12 223 RX12 yX12_dogsOf wsX12_dogsOf) := goodIn_app (goodIn_of _ (by decide +kernel)) ggX12_manyOf_X12_dogsOf
set_option maxRecDepth 20000 in
theorem ggX12_manyOf_X12_isAway : GoodIn wsX12_manyOf wsX12_isAway := goodIn_r _ [10, 1, 11, 12, 13, 14, 15, 16, 17, 18, 19, 20, 21, 22, 23, 24, 25, 26, 27, 28, 29, 30, 31, 32, 33, 34, 35, 36, 37, 38, 39, 40, 41, 42, 43, 44, 45, 46, 47, 48, 49, 50, 51, 52, 53, 54, 55, 56, 57] rfl (by decide +kernel)
set_option maxRecDepth 20000 in
theorem gX12_manyOf_X12_isAway : GoodIn wsX12_manyOf (wsV RX12 235 RX12 yX12_isAway wsX12_isAway) := goodIn_app (goodIn_of _ (by decide +kernel)) ggX12_manyOf_X12_isAway
set_option maxRecDepth 20000 in
theorem ggX12_votes_X12_isPlace : GoodIn wsX12_votes wsX12_isPlace := goodIn_r _ [6, 7, 8, 9, 5, 10, 23, 24, 25, 26, 27, 28, 29, 30, 31, 32, 33, 34, 35, 36, 37, 38, 39, 40, 41, 42, 43, 44, 45, 46, 47, 48, 49, 50, 51, 52, 53, 54, 55, 56, 57, 58, 59, 60, 61, 62, 63, 64, 65, 66, 67, 68, 69] rfl (by decide +kernel)
set_option maxRecDepth 20000 in
theorem gX12_votes_X12_isPlace : GoodIn wsX12_votes (wsV RX12 250 RX12 yX12_isPlace wsX12_isPlace) := goodIn_app (goodIn_of _ (by decide +kernel)) ggX12_votes_X12_isPlace
set_option maxRecDepth 20000 in
theorem ggX12_votes_X12_manyOf : GoodIn wsX12_votes wsX12_manyOf := goodIn_r _ [14, 7, 15, 16, 17, 5, 18, 19, 20, 21, 22, 23, 24, 25, 26, 27, 28, 29, 30, 31, 32, 33, 34, 35, 36, 37, 38, 39, 40, 41, 42, 43, 44, 45, 46, 47, 48, 49, 50, 51, 52, 53, 54, 55, 56, 57, 58, 59, 60, 61, 62, 63, 64, 65, 66, 67, 68, 69] rfl (by decide +kernel)
set_option maxRecDepth 20000 in
theorem gX12_votes_X12_manyOf : GoodIn wsX12_votes (wsV RX12 333 RX12 yX12_manyOf wsX12_manyOf) := goodIn_app (goodIn_of _ (by decide +kernel)) ggX12_votes_X12_manyOf
