set_option maxRecDepth 20000 in
theorem ggX12_init_X12_startSo : GoodIn wsX12_init wsX12_startSo := goodIn_r _ [30, 6, 31, 32, 33, 34, 35, 36, 37, 38, 39, 40, 41, 42, 43, 44, 45, 46, 47, 48, 49, 50, 51, 52, 53, 54, 55, 56, 57, 58, 59, 60, 61, 62, 63, 64, 65, 66, 67, 68, 69, 70, 71, 72, 73, 74, 75, 76, 77] rfl (by decide +kernel)
set_option maxRecDepth 20000 in
theorem gX12_init_X12_startSo : GoodIn wsX12_init (wsV RX12 154 RX12 yX12_startSo wsX12_startSo) := goodIn_app (goodIn_of _ (by decide +kernel)) ggX12_init_X12_startSo
