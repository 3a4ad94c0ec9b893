set_option maxRecDepth 20000 in
theorem ggX12_feed_X12_come : GoodIn wsX12_feed wsX12_come := goodIn_r _ [7, 8, 2, 9, 10, 11, 12, 13, 14, 15, 16, 17, 18, 19, 20, 21, 22, 23, 24, 25, 26, 27, 28, 29, 30, 31, 32, 33, 34, 35, 36, 37, 38, 39, 40, 41, 42, 43, 44, 45, 46, 47, 48, 49, 50, 51, 52, 53, 54, 55] rfl (by decide +kernel)
set_option maxRecDepth 20000 in
theorem gX12_feed_X12_come : GoodIn wsX12_feed (wsV RX12 14 RX12 yX12_come wsX12_come) := goodIn_app (goodIn_of _ (by decide +kernel)) ggX12_feed_X12_come
