set_option maxRecDepth 20000 in
theorem ggX11_best_X4_hasPlace : GoodIn wsX11_best wsX4_hasPlace := goodIn_r _ [8, 9, 75, 76, 77, 78, 79, 80, 81, 82, 83, 84, 85, 86] rfl (by decide +kernel)
set_option maxRecDepth 20000 in
theorem gX11_best_X4_hasPlace : GoodIn wsX11_best (wsV RX11 199 RX4 yX4_hasPlace wsX4_hasPlace) := goodIn_app (goodIn_of _ (by decide +kernel)) ggX11_best_X4_hasPlace
set_option maxRecDepth 20000 in
theorem ggX11_best_X4_goodOfAll : GoodIn wsX11_best wsX4_goodOfAll := goodIn_r _ [13, 14, 15, 16, 17, 18, 7, 19, 20, 21, 22, 23, 24, 25, 26, 27, 28, 29, 30, 31, 32, 33, 34, 35, 36, 37, 38, 39, 40, 41, 42, 43, 44, 45, 46, 47, 48, 75, 76, 77, 78, 79, 80, 81, 82, 83, 84, 85, 86, 87, 88, 89, 90, 91, 92, 93, 94, 95, 96, 97, 98, 99, 100, 101, 102] rfl (by decide +kernel)
set_option maxRecDepth 20000 in
theorem gX11_best_X4_goodOfAll : GoodIn wsX11_best (wsV RX11 226 RX4 yX4_goodOfAll wsX4_goodOfAll) := goodIn_app (goodIn_of _ (by decide +kernel)) ggX11_best_X4_goodOfAll
set_option maxRecDepth 20000 in
theorem ggX11_best_X9_goodHere : GoodIn wsX11_best wsX9_goodHere := goodIn_r _ [52, 53, 22, 23, 7, 24, 25, 26, 15, 27, 28, 29, 30, 31, 32, 33, 34, 35, 36, 37, 54, 39, 40, 41, 42, 43, 44, 45, 46, 47, 48, 75, 76, 77, 78, 79, 80, 81, 82, 83, 84, 85, 86, 87, 88, 89, 90, 91, 92, 93, 94, 95, 96, 97, 98, 99, 100, 101, 102] rfl (by decide +kernel)
set_option maxRecDepth 20000 in
theorem gX11_best_X9_goodHere : GoodIn wsX11_best (va_wsS RX11 282 yX9_goodHere wsX9_goodHere) := goodIn_app (goodIn_of _ (by decide +kernel)) ggX11_best_X9_goodHere
set_option maxRecDepth 20000 in
theorem ggX11_best_X11_hoursOf : GoodIn wsX11_best wsX11_hoursOf := goodIn_r _ [37] rfl (by decide +kernel)
set_option maxRecDepth 20000 in
theorem gX11_best_X11_hoursOf : GoodIn wsX11_best (va_wsS RX11 288 yX11_hoursOf wsX11_hoursOf) := goodIn_app (goodIn_of _ (by decide +kernel)) ggX11_best_X11_hoursOf
set_option maxRecDepth 20000 in
theorem ggX11_fences_X4_copyFrom : GoodIn wsX11_fences wsX4_copyFrom := goodIn_r _ [7, 8, 9, 10, 11, 12, 13, 14, 15, 16, 17, 18, 19, 20, 21, 22, 23, 24, 25, 26, 27, 28, 29, 30, 31, 32, 33, 34, 35, 36, 37, 38, 39, 40, 41, 42, 43, 44, 45, 99, 100, 101, 102, 103, 104, 105, 106, 107, 108, 109, 110, 111, 112, 113, 114, 115, 116, 117, 118, 119, 120, 121, 122, 123, 124, 125, 126] rfl (by decide +kernel)
set_option maxRecDepth 20000 in
theorem gX11_fences_X4_copyFrom : GoodIn wsX11_fences (wsV RX11 123 RX4 yX4_copyFrom wsX4_copyFrom) := goodIn_app (goodIn_of _ (by decide +kernel)) ggX11_fences_X4_copyFrom
set_option maxRecDepth 20000 in
theorem ggX11_fences_X9_bestFence : GoodIn wsX11_fences wsX9_bestFence := goodIn_r _ [49, 50, 51, 52, 6, 53, 9, 18, 54, 55, 56, 57, 16, 58, 59, 60, 61, 10, 17, 19, 62, 63, 64, 23, 65, 27, 28, 66, 67, 68, 69, 70, 71, 72, 73, 74, 75, 76, 77, 78, 79, 99, 100, 101, 102, 103, 104, 105, 106, 107, 108, 109, 110, 111, 112, 113, 114, 115, 116, 117, 118, 119, 120, 121, 122, 123, 124, 125, 126] rfl (by decide +kernel)
set_option maxRecDepth 20000 in
theorem gX11_fences_X9_bestFence : GoodIn wsX11_fences (va_wsS RX11 291 yX9_bestFence wsX9_bestFence) := goodIn_app (goodIn_of _ (by decide +kernel)) ggX11_fences_X9_bestFence
set_option maxRecDepth 20000 in
theorem ggX11_perils_X4_hasPerson : GoodIn wsX11_perils wsX4_hasPerson := goodIn_r _ [6, 7, 45, 46, 47, 48, 49, 50, 51, 52, 53, 54, 55, 56] rfl (by decide +kernel)
set_option maxRecDepth 20000 in
theorem gX11_perils_X4_hasPerson : GoodIn wsX11_perils (wsV RX11 133 RX4 yX4_hasPerson wsX4_hasPerson) := goodIn_app (goodIn_of _ (by decide +kernel)) ggX11_perils_X4_hasPerson
set_option maxRecDepth 20000 in
theorem ggX11_perils_X9_perilsOf : GoodIn wsX11_perils wsX9_perilsOf := goodIn_r _ [11, 12, 13, 10, 14, 15, 16, 17, 18, 19, 20, 21, 22, 23, 24, 25, 45, 46, 47, 48, 49, 50, 51, 52, 53, 54, 55, 56, 57, 58, 59, 60, 61, 62, 63, 64, 65, 66, 67, 68, 69, 70, 71, 72] rfl (by decide +kernel)
set_option maxRecDepth 20000 in
theorem gX11_perils_X9_perilsOf : GoodIn wsX11_perils (va_wsS RX11 295 yX9_perilsOf wsX9_perilsOf) := goodIn_app (goodIn_of _ (by decide +kernel)) ggX11_perils_X9_perilsOf
