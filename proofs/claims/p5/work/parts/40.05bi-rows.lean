set_option maxRecDepth 20000 in
theorem ggX12_layPerils_X12_commonLong : GoodIn wsX12_layPerils wsX12_commonLong := goodIn_r _ [39] rfl (by decide +kernel)
set_option maxRecDepth 20000 in
theorem gX12_layPerils_X12_commonLong : GoodIn wsX12_layPerils (va_wsS RX12 317 yX12_commonLong wsX12_commonLong) := goodIn_app (goodIn_of _ (by decide +kernel)) ggX12_layPerils_X12_commonLong
set_option maxRecDepth 20000 in
theorem ggX12_risk_X12_isPerson : GoodIn wsX12_risk wsX12_isPerson := goodIn_r _ [8, 9, 10, 11, 7, 12, 56, 57, 58, 59, 60, 61, 62, 63, 64, 65, 66, 67, 68, 69, 70, 71, 72, 73, 74, 75, 76, 77, 78, 79, 80, 81, 82, 83, 84, 85, 86, 87, 88, 89, 90, 91, 92, 93, 94, 95, 96, 97, 98, 99, 100, 101, 102] rfl (by decide +kernel)
set_option maxRecDepth 20000 in
theorem gX12_risk_X12_isPerson : GoodIn wsX12_risk (wsV RX12 241 RX12 yX12_isPerson wsX12_isPerson) := goodIn_app (goodIn_of _ (by decide +kernel)) ggX12_risk_X12_isPerson
set_option maxRecDepth 20000 in
theorem ggX12_risk_X12_isIn : GoodIn wsX12_risk wsX12_isIn := goodIn_r _ [12] rfl (by decide +kernel)
set_option maxRecDepth 20000 in
theorem gX12_risk_X12_isIn : GoodIn wsX12_risk (va_wsS RX12 75 yX12_isIn wsX12_isIn) := goodIn_app (goodIn_of _ (by decide +kernel)) ggX12_risk_X12_isIn
set_option maxRecDepth 20000 in
theorem ggX12_risk_X12_dogsOf : GoodIn wsX12_risk wsX12_dogsOf := goodIn_r _ [16, 9, 56, 57, 58, 59, 60, 61, 62, 63, 64, 65, 66, 67, 68, 69, 70, 71, 72, 73, 74, 75, 76, 77, 78, 79, 80, 81, 82, 83, 84, 85, 86, 87, 88, 89, 90, 91, 92, 93, 94, 95, 96, 97, 98, 99, 100, 101, 102] rfl (by decide +kernel)
set_option maxRecDepth 20000 in
theorem gX12_risk_X12_dogsOf : GoodIn wsX12_risk (wsV RX12 223 RX12 yX12_dogsOf wsX12_dogsOf) := goodIn_app (goodIn_of _ (by decide +kernel)) ggX12_risk_X12_dogsOf
set_option maxRecDepth 20000 in
theorem ggX12_risk_X12_refuse : GoodIn wsX12_risk wsX12_refuse := goodIn_r _ [55, 1, 56, 57, 58, 59, 60, 61, 62, 63, 64, 65, 66, 67, 68, 69, 70, 71, 72, 73, 74, 75, 76, 77, 78, 79, 80, 81, 82, 83, 84, 85, 86, 87, 88, 89, 90, 91, 92, 93, 94, 95, 96, 97, 98, 99, 100, 101, 102] rfl (by decide +kernel)
set_option maxRecDepth 20000 in
theorem gX12_risk_X12_refuse : GoodIn wsX12_risk (wsV RX12 244 RX12 yX12_refuse wsX12_refuse) := goodIn_app (goodIn_of _ (by decide +kernel)) ggX12_risk_X12_refuse
set_option maxRecDepth 20000 in
theorem ggX12_risk_X12_layPerils : GoodIn wsX12_risk wsX12_layPerils := goodIn_r _ [20, 3, 2, 9, 21, 22, 23, 24, 25, 7, 26, 27, 28, 29, 30, 31, 32, 33, 34, 35, 36, 37, 38, 39, 40, 41, 42, 43, 44, 13, 14, 15, 16, 45, 46, 47, 48, 49, 50, 51, 56, 57, 58, 59, 60, 61, 62, 63, 64, 65, 66, 67, 68, 69, 70, 71, 72, 73, 74, 75, 76, 77, 78, 79, 80, 81, 82, 83, 84, 85, 86, 87, 88, 89, 90, 91, 92, 93, 94, 95, 96, 97, 98, 99, 100, 101, 102] rfl (by decide +kernel)
set_option maxRecDepth 20000 in
theorem gX12_risk_X12_layPerils : GoodIn wsX12_risk (wsV RX12 321 RX12 yX12_layPerils wsX12_layPerils) := goodIn_app (goodIn_of _ (by decide +kernel)) ggX12_risk_X12_layPerils
set_option maxRecDepth 20000 in
theorem ggX12_risk_X12_commonLong : GoodIn wsX12_risk wsX12_commonLong := goodIn_r _ [51] rfl (by decide +kernel)
set_option maxRecDepth 20000 in
theorem gX12_risk_X12_commonLong : GoodIn wsX12_risk (va_wsS RX12 317 yX12_commonLong wsX12_commonLong) := goodIn_app (goodIn_of _ (by decide +kernel)) ggX12_risk_X12_commonLong
set_option maxRecDepth 20000 in
theorem ggX12_perils_X12_isPerson : GoodIn wsX12_perils wsX12_isPerson := goodIn_r _ [6, 7, 8, 9, 5, 10, 52, 53, 54, 55, 56, 57, 58, 59, 60, 61, 62, 63, 64, 65, 66, 67, 68, 69, 70, 71, 72, 73, 74, 75, 76, 77, 78, 79, 80, 81, 82, 83, 84, 85, 86, 87, 88, 89, 90, 91, 92, 93, 94, 95, 96, 97, 98] rfl (by decide +kernel)
set_option maxRecDepth 20000 in
theorem gX12_perils_X12_isPerson : GoodIn wsX12_perils (wsV RX12 241 RX12 yX12_isPerson wsX12_isPerson) := goodIn_app (goodIn_of _ (by decide +kernel)) ggX12_perils_X12_isPerson
