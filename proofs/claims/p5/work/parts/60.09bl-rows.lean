set_option maxRecDepth 20000 in
theorem ggX11_votes_X4_hasPlace : GoodIn wsX11_votes wsX4_hasPlace := goodIn_r _ [6, 7, 33, 34, 35, 36, 37, 38, 39, 40, 41, 42, 43, 44] rfl (by decide +kernel)
set_option maxRecDepth 20000 in
theorem gX11_votes_X4_hasPlace : GoodIn wsX11_votes (wsV RX11 199 RX4 yX4_hasPlace wsX4_hasPlace) := goodIn_app (goodIn_of _ (by decide +kernel)) ggX11_votes_X4_hasPlace
set_option maxRecDepth 20000 in
theorem ggX11_votes_X4_countComers : GoodIn wsX11_votes wsX4_countComers := goodIn_r _ [11, 12, 13, 33, 34, 35, 36, 37, 38, 39, 40, 41, 42, 43, 44, 45, 46, 47, 48, 49, 50, 51, 52, 53] rfl (by decide +kernel)
set_option maxRecDepth 20000 in
theorem gX11_votes_X4_countComers : GoodIn wsX11_votes (wsV RX11 322 RX4 yX4_countComers wsX4_countComers) := goodIn_app (goodIn_of _ (by decide +kernel)) ggX11_votes_X4_countComers
set_option maxRecDepth 20000 in
theorem ggX11_against_X4_hasPlace : GoodIn wsX11_against wsX4_hasPlace := goodIn_r _ [6, 7, 33, 34, 35, 36, 37, 38, 39, 40, 41, 42, 43, 44] rfl (by decide +kernel)
set_option maxRecDepth 20000 in
theorem gX11_against_X4_hasPlace : GoodIn wsX11_against (wsV RX11 199 RX4 yX4_hasPlace wsX4_hasPlace) := goodIn_app (goodIn_of _ (by decide +kernel)) ggX11_against_X4_hasPlace
set_option maxRecDepth 20000 in
theorem ggX11_against_X4_countComers : GoodIn wsX11_against wsX4_countComers := goodIn_r _ [11, 12, 13, 33, 34, 35, 36, 37, 38, 39, 40, 41, 42, 43, 44, 45, 46, 47, 48, 49, 50, 51, 52, 53] rfl (by decide +kernel)
set_option maxRecDepth 20000 in
theorem gX11_against_X4_countComers : GoodIn wsX11_against (wsV RX11 322 RX4 yX4_countComers wsX4_countComers) := goodIn_app (goodIn_of _ (by decide +kernel)) ggX11_against_X4_countComers
set_option maxRecDepth 20000 in
theorem ggX11_missed_X4_hasPlace : GoodIn wsX11_missed wsX4_hasPlace := goodIn_r _ [6, 7, 33, 34, 35, 36, 37, 38, 39, 40, 41, 42, 43, 44] rfl (by decide +kernel)
set_option maxRecDepth 20000 in
theorem gX11_missed_X4_hasPlace : GoodIn wsX11_missed (wsV RX11 199 RX4 yX4_hasPlace wsX4_hasPlace) := goodIn_app (goodIn_of _ (by decide +kernel)) ggX11_missed_X4_hasPlace
set_option maxRecDepth 20000 in
theorem ggX11_missed_X4_countComers : GoodIn wsX11_missed wsX4_countComers := goodIn_r _ [11, 12, 13, 33, 34, 35, 36, 37, 38, 39, 40, 41, 42, 43, 44, 45, 46, 47, 48, 49, 50, 51, 52, 53] rfl (by decide +kernel)
set_option maxRecDepth 20000 in
theorem gX11_missed_X4_countComers : GoodIn wsX11_missed (wsV RX11 322 RX4 yX4_countComers wsX4_countComers) := goodIn_app (goodIn_of _ (by decide +kernel)) ggX11_missed_X4_countComers
set_option maxRecDepth 20000 in
theorem ggX11_odds_X4_hasPerson : GoodIn wsX11_odds wsX4_hasPerson := goodIn_r _ [8, 9, 96, 97, 98, 99, 100, 101, 102, 103, 104, 105, 106, 107] rfl (by decide +kernel)
set_option maxRecDepth 20000 in
theorem gX11_odds_X4_hasPerson : GoodIn wsX11_odds (wsV RX11 133 RX4 yX4_hasPerson wsX4_hasPerson) := goodIn_app (goodIn_of _ (by decide +kernel)) ggX11_odds_X4_hasPerson
set_option maxRecDepth 20000 in
theorem ggX11_odds_X4_copyFrom : GoodIn wsX11_odds wsX4_copyFrom := goodIn_r _ [13, 14, 9, 15, 16, 17, 18, 19, 20, 21, 22, 23, 24, 25, 26, 27, 28, 29, 30, 31, 32, 33, 34, 35, 36, 37, 38, 39, 40, 41, 42, 43, 44, 45, 46, 47, 48, 49, 50, 96, 97, 98, 99, 100, 101, 102, 103, 104, 105, 106, 107, 108, 109, 110, 111, 112, 113, 114, 115, 116, 117, 118, 119, 120, 121, 122, 123] rfl (by decide +kernel)
set_option maxRecDepth 20000 in
theorem gX11_odds_X4_copyFrom : GoodIn wsX11_odds (wsV RX11 123 RX4 yX4_copyFrom wsX4_copyFrom) := goodIn_app (goodIn_of _ (by decide +kernel)) ggX11_odds_X4_copyFrom
