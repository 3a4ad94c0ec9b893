set_option maxRecDepth 20000 in
theorem ggX7_readPlain_X7_add : GoodIn wsX7_readPlain wsX7_add := goodIn_r _ [9, 10, 11, 12, 13, 146, 147, 148, 149, 150] rfl (by decide +kernel)
set_option maxRecDepth 20000 in
theorem gX7_readPlain_X7_add : GoodIn wsX7_readPlain (wsV RX7 47 RX7 yX7_add wsX7_add) := goodIn_app (goodIn_of _ (by decide +kernel)) ggX7_readPlain_X7_add
set_option maxRecDepth 20000 in
theorem ggX7_readPlain_X8_takeNamed : GoodIn wsX7_readPlain wsX8_takeNamed := goodIn_r _ [18, 19, 20, 21, 22, 23, 24, 25, 17, 26, 27, 28, 29, 30, 31, 32, 33, 34, 35, 36, 37, 38, 39, 40, 41, 42, 43, 44, 45, 46, 47, 48, 49, 50, 51, 52, 53, 54, 55, 56, 57, 58, 59, 60, 61, 62, 63, 64, 65, 66, 67, 68, 69, 70, 71, 72, 73, 74, 75, 76, 77, 78, 79, 80, 81, 82, 83, 84, 85, 86, 87, 88, 89, 90, 91, 92, 93, 94, 95, 96, 97, 98, 99, 100, 101, 102, 103, 104, 105, 106, 107, 108, 109, 110, 111, 112, 113, 114, 115, 116, 117, 118, 119, 120, 131, 132, 133, 134, 135, 136, 137, 138, 139, 140, 141, 142, 143, 144, 145, 151, 152, 153, 154, 155, 156, 157, 158, 159, 160, 161, 162, 163, 164, 165, 166, 167, 168, 169, 170, 171, 172, 173, 174, 175, 176, 177, 178] rfl (by decide +kernel)
set_option maxRecDepth 20000 in
theorem gX7_readPlain_X8_takeNamed : GoodIn wsX7_readPlain (wsV RX7 93 RX8 yX8_takeNamed wsX8_takeNamed) := goodIn_app (goodIn_of _ (by decide +kernel)) ggX7_readPlain_X8_takeNamed
set_option maxRecDepth 20000 in
theorem ggX7_readPlain_X8_looksAtMark : GoodIn wsX7_readPlain wsX8_looksAtMark := goodIn_r _ [124, 50, 51, 131, 132, 133, 134, 135, 136, 137, 138, 139, 140, 141, 142, 143, 144, 145] rfl (by decide +kernel)
set_option maxRecDepth 20000 in
theorem gX7_readPlain_X8_looksAtMark : GoodIn wsX7_readPlain (wsV RX7 61 RX8 yX8_looksAtMark wsX8_looksAtMark) := goodIn_app (goodIn_of _ (by decide +kernel)) ggX7_readPlain_X8_looksAtMark
set_option maxRecDepth 20000 in
theorem ggX7_readPlain_X8_step : GoodIn wsX7_readPlain wsX8_step := goodIn_r _ [44, 45, 19, 46, 47, 48, 28, 49, 50, 51, 52, 53, 17, 54, 55, 56, 57, 58, 59, 60, 61, 21, 62, 63, 64, 65, 66, 67, 68, 69, 70, 71, 72, 73, 74, 75, 76, 77, 78, 79, 80, 81, 82, 83, 84, 85, 86, 87, 88, 89, 90, 91, 92, 93, 94, 95, 96, 97, 98, 99, 100, 101, 102, 103, 104, 105, 106, 107, 108, 109, 110, 111, 112, 113, 114, 115, 116, 117, 118, 119, 120, 131, 132, 133, 134, 135, 136, 137, 138, 139, 140, 141, 142, 143, 144, 145] rfl (by decide +kernel)
set_option maxRecDepth 20000 in
theorem gX7_readPlain_X8_step : GoodIn wsX7_readPlain (wsV RX7 44 RX8 yX8_step wsX8_step) := goodIn_app (goodIn_of _ (by decide +kernel)) ggX7_readPlain_X8_step
set_option maxRecDepth 20000 in
theorem ggX7_readPlain_X8_takeNumber : GoodIn wsX7_readPlain wsX8_takeNumber := goodIn_r _ [130, 50, 51, 22, 23, 24, 25, 17, 26, 27, 28, 29, 41, 42, 43, 44, 45, 19, 46, 47, 48, 49, 52, 53, 54, 55, 56, 57, 58, 59, 60, 61, 21, 62, 63, 64, 65, 66, 67, 68, 69, 70, 71, 72, 73, 74, 75, 76, 77, 78, 79, 80, 81, 82, 83, 84, 85, 86, 87, 88, 89, 90, 91, 92, 93, 94, 95, 96, 97, 98, 99, 100, 101, 102, 103, 104, 105, 106, 107, 108, 109, 110, 111, 112, 113, 114, 115, 116, 117, 118, 119, 120, 131, 132, 133, 134, 135, 136, 137, 138, 139, 140, 141, 142, 143, 144, 145] rfl (by decide +kernel)
set_option maxRecDepth 20000 in
theorem gX7_readPlain_X8_takeNumber : GoodIn wsX7_readPlain (wsV RX7 103 RX8 yX8_takeNumber wsX8_takeNumber) := goodIn_app (goodIn_of _ (by decide +kernel)) ggX7_readPlain_X8_takeNumber
set_option maxRecDepth 20000 in
theorem ggX7_readPlain_X8_refuse : GoodIn wsX7_readPlain wsX8_refuse := goodIn_r _ [26, 27, 28, 29, 131, 132, 133, 134, 135, 136, 137, 138, 139, 140, 141, 142, 143, 144, 145] rfl (by decide +kernel)
set_option maxRecDepth 20000 in
theorem gX7_readPlain_X8_refuse : GoodIn wsX7_readPlain (wsV RX7 57 RX8 yX8_refuse wsX8_refuse) := goodIn_app (goodIn_of _ (by decide +kernel)) ggX7_readPlain_X8_refuse
set_option maxRecDepth 20000 in
theorem ggX7_plainFits_X7_compares : GoodIn wsX7_plainFits wsX7_compares := goodIn_r _ [30] rfl (by decide +kernel)
set_option maxRecDepth 20000 in
theorem gX7_plainFits_X7_compares : GoodIn wsX7_plainFits (va_wsS RX7 147 yX7_compares wsX7_compares) := goodIn_app (goodIn_of _ (by decide +kernel)) ggX7_plainFits_X7_compares
set_option maxRecDepth 20000 in
theorem ggX7_plainFits_X4_goodOf : GoodIn wsX7_plainFits wsX4_goodOf := goodIn_r _ [34, 35, 36, 37, 38, 14, 39, 40, 41, 16, 42, 17, 18, 19, 20, 21, 22, 23, 24, 25, 26, 43, 44, 45, 46, 47, 48, 49, 50, 51, 52, 53, 59, 60, 61, 62, 63, 64, 65, 66, 67, 68, 69, 70, 80, 81, 82, 83, 84, 85, 86, 71, 72, 73, 74, 75, 76, 77, 78, 79] rfl (by decide +kernel)
set_option maxRecDepth 20000 in
theorem gX7_plainFits_X4_goodOf : GoodIn wsX7_plainFits (wsV RX7 154 RX4 yX4_goodOf wsX4_goodOf) := goodIn_app (goodIn_of _ (by decide +kernel)) ggX7_plainFits_X4_goodOf
