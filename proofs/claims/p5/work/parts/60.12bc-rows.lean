set_option maxRecDepth 20000 in
theorem ggX11_risk_X9_waysUnharmed : GoodIn wsX11_risk wsX9_waysUnharmed := goodIn_r _ [39, 14, 15, 12, 16, 17, 18, 19, 20, 21, 22, 23, 24, 25, 26, 27, 62, 63, 64, 65, 66, 67, 68, 69, 70, 71, 72, 73, 74, 75, 76, 77, 78, 79, 80, 81, 82, 83, 84, 85, 86, 87, 88, 89] rfl (by decide +kernel)
set_option maxRecDepth 20000 in
theorem gX11_risk_X9_waysUnharmed : GoodIn wsX11_risk (va_wsS RX11 303 yX9_waysUnharmed wsX9_waysUnharmed) := goodIn_app (goodIn_of _ (by decide +kernel)) ggX11_risk_X9_waysUnharmed
set_option maxRecDepth 20000 in
theorem ggX11_risk_X9_sharedDivisor : GoodIn wsX11_risk wsX9_sharedDivisor := goodIn_r _ [42] rfl (by decide +kernel)
set_option maxRecDepth 20000 in
theorem gX11_risk_X9_sharedDivisor : GoodIn wsX11_risk (va_wsS RX11 306 yX9_sharedDivisor wsX9_sharedDivisor) := goodIn_app (goodIn_of _ (by decide +kernel)) ggX11_risk_X9_sharedDivisor
set_option maxRecDepth 20000 in
theorem ggL_risk_X11_risk : GoodIn wsL_risk wsX11_risk := goodIn_ca (goodIn_r _ [6, 7, 8, 9, 10, 11, 12, 13, 14, 15, 16, 17, 18, 19, 20, 21, 22, 23, 24, 25, 26, 27, 28, 29, 30, 31, 32, 33, 34, 35, 36, 37, 38, 39, 40, 41, 42, 43, 44, 45, 46, 47, 48, 49, 50, 51, 52, 53, 54, 55, 56, 57, 58, 59, 60, 61, 62, 63, 64, 65, 66, 67, 68, 69, 70, 71, 72, 73, 74, 75, 76, 77, 78, 79, 80, 81, 82, 83, 84, 85, 86, 87, 88, 89, 90, 91, 92, 93, 94, 95] rfl (by decide +kernel)) (goodIn_sub (fun _ h => List.mem_cons_of_mem _ (List.mem_append_right _ h)) (by decide +kernel))
set_option maxRecDepth 20000 in
theorem gL_risk_X11_risk : GoodIn wsL_risk (wsV RL 18 RX11 yX11_risk wsX11_risk) := goodIn_app (goodIn_of _ (by decide +kernel)) ggL_risk_X11_risk
