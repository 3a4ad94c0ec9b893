set_option maxRecDepth 20000 in
theorem ggX9_mayReach_X6_isDue : GoodIn wsX9_mayReach wsX6_isDue := goodIn_r _ [5, 6, 7, 8, 21, 22, 23, 24, 25, 26, 27, 28, 29] rfl (by decide +kernel)
set_option maxRecDepth 20000 in
theorem gX9_mayReach_X6_isDue : GoodIn wsX9_mayReach (wsV RX9 96 RX6 yX6_isDue wsX6_isDue) := goodIn_app (goodIn_of _ (by decide +kernel)) ggX9_mayReach_X6_isDue
set_option maxRecDepth 20000 in
theorem ggX9_perilsOf_X9_isFirst : GoodIn wsX9_perilsOf wsX9_isFirst := goodIn_r _ [4, 5, 6, 7, 8, 9, 10, 11, 12, 16, 17, 18, 19, 20, 21, 22, 23, 24, 25, 26, 27, 28, 29, 30, 31, 32, 33, 34, 35, 36] rfl (by decide +kernel)
set_option maxRecDepth 20000 in
theorem gX9_perilsOf_X9_isFirst : GoodIn wsX9_perilsOf (va_wsS RX9 58 yX9_isFirst wsX9_isFirst) := goodIn_app (goodIn_of _ (by decide +kernel)) ggX9_perilsOf_X9_isFirst
set_option maxRecDepth 20000 in
theorem ggX9_perilsOf_X9_mayReach : GoodIn wsX9_perilsOf wsX9_mayReach := goodIn_r _ [15, 5, 6, 7, 8, 9, 10, 11, 12, 16, 17, 18, 19, 20, 21, 22, 23, 24, 25, 26, 27, 28, 29, 30, 31, 32, 33, 34, 35, 36, 37, 38, 39, 40, 41, 42, 43] rfl (by decide +kernel)
set_option maxRecDepth 20000 in
theorem gX9_perilsOf_X9_mayReach : GoodIn wsX9_perilsOf (va_wsS RX9 65 yX9_mayReach wsX9_mayReach) := goodIn_app (goodIn_of _ (by decide +kernel)) ggX9_perilsOf_X9_mayReach
set_option maxRecDepth 20000 in
theorem ggX9_waysOfPerils_X9_perilsOf : GoodIn wsX9_waysOfPerils wsX9_perilsOf := goodIn_r _ [9, 10, 11, 8, 12, 13, 14, 15, 16, 17, 18, 19, 20, 21, 22, 23, 24, 25, 26, 27, 28, 29, 30, 31, 32, 33, 34, 35, 36, 37, 38, 39, 40, 41, 42, 43, 44, 45, 46, 47, 48, 49, 50, 51] rfl (by decide +kernel)
set_option maxRecDepth 20000 in
theorem gX9_waysOfPerils_X9_perilsOf : GoodIn wsX9_waysOfPerils (va_wsS RX9 69 yX9_perilsOf wsX9_perilsOf) := goodIn_app (goodIn_of _ (by decide +kernel)) ggX9_waysOfPerils_X9_perilsOf
set_option maxRecDepth 20000 in
theorem ggX9_waysUnharmed_X9_isFirst : GoodIn wsX9_waysUnharmed wsX9_isFirst := goodIn_r _ [4, 5, 6, 7, 8, 9, 10, 11, 12, 16, 17, 18, 19, 20, 21, 22, 23, 24, 25, 26, 27, 28, 29, 30, 31, 32, 33, 34, 35, 36] rfl (by decide +kernel)
set_option maxRecDepth 20000 in
theorem gX9_waysUnharmed_X9_isFirst : GoodIn wsX9_waysUnharmed (va_wsS RX9 58 yX9_isFirst wsX9_isFirst) := goodIn_app (goodIn_of _ (by decide +kernel)) ggX9_waysUnharmed_X9_isFirst
set_option maxRecDepth 20000 in
theorem ggX9_waysUnharmed_X9_mayReach : GoodIn wsX9_waysUnharmed wsX9_mayReach := goodIn_r _ [15, 5, 6, 7, 8, 9, 10, 11, 12, 16, 17, 18, 19, 20, 21, 22, 23, 24, 25, 26, 27, 28, 29, 30, 31, 32, 33, 34, 35, 36, 37, 38, 39, 40, 41, 42, 43] rfl (by decide +kernel)
set_option maxRecDepth 20000 in
theorem gX9_waysUnharmed_X9_mayReach : GoodIn wsX9_waysUnharmed (va_wsS RX9 65 yX9_mayReach wsX9_mayReach) := goodIn_app (goodIn_of _ (by decide +kernel)) ggX9_waysUnharmed_X9_mayReach
