set_option maxRecDepth 20000 in
theorem ggX12_parted_X12_isIn : GoodIn wsX12_parted wsX12_isIn := goodIn_r _ [8] rfl (by decide +kernel)
set_option maxRecDepth 20000 in
theorem gX12_parted_X12_isIn : GoodIn wsX12_parted (va_wsS RX12 75 yX12_isIn wsX12_isIn) := goodIn_app (goodIn_of _ (by decide +kernel)) ggX12_parted_X12_isIn
set_option maxRecDepth 20000 in
theorem ggX12_odds_X12_isPerson : GoodIn wsX12_odds wsX12_isPerson := goodIn_r _ [7, 2, 8, 9, 6, 10, 72, 73, 74, 75, 76, 77, 78, 79, 80, 81, 82, 83, 84, 85, 86, 87, 88, 89, 90, 91, 92, 93, 94, 95, 96, 97, 98, 99, 100, 101, 102, 103, 104, 105, 106, 107, 108, 109, 110, 111, 112, 113, 114, 115, 116, 117, 118] rfl (by decide +kernel)
set_option maxRecDepth 20000 in
theorem gX12_odds_X12_isPerson : GoodIn wsX12_odds (wsV RX12 241 RX12 yX12_isPerson wsX12_isPerson) := goodIn_app (goodIn_of _ (by decide +kernel)) ggX12_odds_X12_isPerson
set_option maxRecDepth 20000 in
theorem ggX12_odds_X12_isIn : GoodIn wsX12_odds wsX12_isIn := goodIn_r _ [10] rfl (by decide +kernel)
set_option maxRecDepth 20000 in
theorem gX12_odds_X12_isIn : GoodIn wsX12_odds (va_wsS RX12 75 yX12_isIn wsX12_isIn) := goodIn_app (goodIn_of _ (by decide +kernel)) ggX12_odds_X12_isIn
set_option maxRecDepth 20000 in
theorem ggX12_odds_X12_layAside : GoodIn wsX12_odds wsX12_layAside := goodIn_r _ [14, 15, 2, 72, 73, 74, 75, 76, 77, 78, 79, 80, 81, 82, 83, 84, 85, 86, 87, 88, 89, 90, 91, 92, 93, 94, 95, 96, 97, 98, 99, 100, 101, 102, 103, 104, 105, 106, 107, 108, 109, 110, 111, 112, 113, 114, 115, 116, 117, 118] rfl (by decide +kernel)
set_option maxRecDepth 20000 in
theorem gX12_odds_X12_layAside : GoodIn wsX12_odds (wsV RX12 353 RX12 yX12_layAside wsX12_layAside) := goodIn_app (goodIn_of _ (by decide +kernel)) ggX12_odds_X12_layAside
set_option maxRecDepth 20000 in
theorem ggX12_odds_X12_passDays : GoodIn wsX12_odds wsX12_passDays := goodIn_r _ [19, 20, 2, 21, 22, 6, 23, 24, 25, 26, 27, 28, 29, 30, 31, 32, 33, 34, 35, 36, 37, 38, 39, 40, 41, 42, 43, 44, 45, 46, 47, 48, 49, 50, 51, 52, 53, 54, 55, 56, 57, 58, 59, 60, 61, 62, 63, 64, 65, 66, 67, 72, 73, 74, 75, 76, 77, 78, 79, 80, 81, 82, 83, 84, 85, 86, 87, 88, 89, 90, 91, 92, 93, 94, 95, 96, 97, 98, 99, 100, 101, 102, 103, 104, 105, 106, 107, 108, 109, 110, 111, 112, 113, 114, 115, 116, 117, 118] rfl (by decide +kernel)
set_option maxRecDepth 20000 in
theorem gX12_odds_X12_passDays : GoodIn wsX12_odds (wsV RX12 303 RX12 yX12_passDays wsX12_passDays) := goodIn_app (goodIn_of _ (by decide +kernel)) ggX12_odds_X12_passDays
set_option maxRecDepth 20000 in
theorem ggX12_odds_X12_takeBack : GoodIn wsX12_odds wsX12_takeBack := goodIn_r _ [71, 2, 15, 72, 73, 74, 75, 76, 77, 78, 79, 80, 81, 82, 83, 84, 85, 86, 87, 88, 89, 90, 91, 92, 93, 94, 95, 96, 97, 98, 99, 100, 101, 102, 103, 104, 105, 106, 107, 108, 109, 110, 111, 112, 113, 114, 115, 116, 117, 118] rfl (by decide +kernel)
set_option maxRecDepth 20000 in
theorem gX12_odds_X12_takeBack : GoodIn wsX12_odds (wsV RX12 356 RX12 yX12_takeBack wsX12_takeBack) := goodIn_app (goodIn_of _ (by decide +kernel)) ggX12_odds_X12_takeBack
set_option maxRecDepth 20000 in
theorem ggX12_tracks_X12_take : GoodIn wsX12_tracks wsX12_take := goodIn_r _ [8, 9, 31, 32, 33, 34, 35, 36, 37, 38, 39, 40, 41, 42, 43, 44, 45, 46, 47, 48, 49, 50, 51, 52, 53, 54, 55, 56, 57, 58, 59, 60, 61, 62, 63, 64, 65, 66, 67, 68, 69, 70, 71, 72, 73, 74, 75, 76, 77] rfl (by decide +kernel)
set_option maxRecDepth 20000 in
theorem gX12_tracks_X12_take : GoodIn wsX12_tracks (wsV RX12 89 RX12 yX12_take wsX12_take) := goodIn_app (goodIn_of _ (by decide +kernel)) ggX12_tracks_X12_take
set_option maxRecDepth 20000 in
theorem ggX12_tracks_X12_isIn : GoodIn wsX12_tracks wsX12_isIn := goodIn_r _ [12] rfl (by decide +kernel)
set_option maxRecDepth 20000 in
theorem gX12_tracks_X12_isIn : GoodIn wsX12_tracks (va_wsS RX12 75 yX12_isIn wsX12_isIn) := goodIn_app (goodIn_of _ (by decide +kernel)) ggX12_tracks_X12_isIn
