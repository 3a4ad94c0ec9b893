set_option maxRecDepth 20000 in
theorem ggX12_perils_X12_dogsOf : GoodIn wsX12_perils wsX12_dogsOf := goodIn_r _ [14, 7, 52, 53, 54, 55, 56, 57, 58, 59, 60, 61, 62, 63, 64, 65, 66, 67, 68, 69, 70, 71, 72, 73, 74, 75, 76, 77, 78, 79, 80, 81, 82, 83, 84, 85, 86, 87, 88, 89, 90, 91, 92, 93, 94, 95, 96, 97, 98] rfl (by decide +kernel)
set_option maxRecDepth 20000 in
theorem gX12_perils_X12_dogsOf : GoodIn wsX12_perils (wsV RX12 223 RX12 yX12_dogsOf wsX12_dogsOf) := goodIn_app (goodIn_of _ (by decide +kernel)) ggX12_perils_X12_dogsOf
set_option maxRecDepth 20000 in
theorem ggX12_perils_X12_layPerils : GoodIn wsX12_perils wsX12_layPerils := goodIn_r _ [18, 19, 20, 7, 21, 22, 23, 24, 25, 5, 26, 27, 28, 29, 30, 31, 32, 33, 34, 35, 36, 37, 38, 39, 40, 41, 42, 43, 44, 11, 12, 13, 14, 45, 46, 47, 48, 49, 50, 51, 52, 53, 54, 55, 56, 57, 58, 59, 60, 61, 62, 63, 64, 65, 66, 67, 68, 69, 70, 71, 72, 73, 74, 75, 76, 77, 78, 79, 80, 81, 82, 83, 84, 85, 86, 87, 88, 89, 90, 91, 92, 93, 94, 95, 96, 97, 98] rfl (by decide +kernel)
set_option maxRecDepth 20000 in
theorem gX12_perils_X12_layPerils : GoodIn wsX12_perils (wsV RX12 321 RX12 yX12_layPerils wsX12_layPerils) := goodIn_app (goodIn_of _ (by decide +kernel)) ggX12_perils_X12_layPerils
