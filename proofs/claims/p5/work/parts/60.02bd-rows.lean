set_option maxRecDepth 20000 in
theorem ggX4_copyFrom_X2_copyFrom : GoodIn wsX4_copyFrom wsX2_copyFrom := goodIn_r _ [31, 32, 33, 34, 35, 36, 37, 38, 60, 61, 62, 63, 64, 65, 66] rfl (by decide +kernel)
set_option maxRecDepth 20000 in
theorem gX4_copyFrom_X2_copyFrom : GoodIn wsX4_copyFrom (wsV RX4 63 RX2 yX2_copyFrom wsX2_copyFrom) := goodIn_app (goodIn_of _ (by decide +kernel)) ggX4_copyFrom_X2_copyFrom
set_option maxRecDepth 20000 in
theorem ggX4_copyFrom_X6_copyFrom : GoodIn wsX4_copyFrom wsX6_copyFrom := goodIn_r _ [17, 18, 19, 20, 21, 22, 23, 24, 25, 26, 51, 52, 53, 54, 55, 56, 57, 58, 59] rfl (by decide +kernel)
set_option maxRecDepth 20000 in
theorem gX4_copyFrom_X6_copyFrom : GoodIn wsX4_copyFrom (wsV RX4 59 RX6 yX6_copyFrom wsX6_copyFrom) := goodIn_app (goodIn_of _ (by decide +kernel)) ggX4_copyFrom_X6_copyFrom
set_option maxRecDepth 20000 in
theorem ggX4_allowHours_X11_hoursOf : GoodIn wsX4_allowHours wsX11_hoursOf := goodIn_r _ [4] rfl (by decide +kernel)
set_option maxRecDepth 20000 in
theorem gX4_allowHours_X11_hoursOf_n93 : GoodIn wsX4_allowHours (wsX11_hoursOf) := ggX4_allowHours_X11_hoursOf
set_option maxRecDepth 20000 in
theorem ggX4_forbidHours_X11_hoursOf : GoodIn wsX4_forbidHours wsX11_hoursOf := goodIn_r _ [4] rfl (by decide +kernel)
set_option maxRecDepth 20000 in
theorem gX4_forbidHours_X11_hoursOf_n93 : GoodIn wsX4_forbidHours (wsX11_hoursOf) := ggX4_forbidHours_X11_hoursOf
set_option maxRecDepth 20000 in
theorem ggX1_firstThere_X6_isDue : GoodIn wsX1_firstThere wsX6_isDue := goodIn_r _ [5, 6, 7, 8, 21, 22, 23, 24, 25, 26, 27, 28, 29] rfl (by decide +kernel)
set_option maxRecDepth 20000 in
theorem gX1_firstThere_X6_isDue : GoodIn wsX1_firstThere (wsV RX1 63 RX6 yX6_isDue wsX6_isDue) := goodIn_app (goodIn_of _ (by decide +kernel)) ggX1_firstThere_X6_isDue
set_option maxRecDepth 20000 in
theorem ggX1_frightBy_X6_isDue : GoodIn wsX1_frightBy wsX6_isDue := goodIn_r _ [5, 6, 7, 8, 38, 39, 40, 41, 42, 43, 44, 45, 46] rfl (by decide +kernel)
set_option maxRecDepth 20000 in
theorem gX1_frightBy_X6_isDue : GoodIn wsX1_frightBy (wsV RX1 63 RX6 yX6_isDue wsX6_isDue) := goodIn_app (goodIn_of _ (by decide +kernel)) ggX1_frightBy_X6_isDue
set_option maxRecDepth 20000 in
theorem ggX1_frightBy_X1_firstThere : GoodIn wsX1_frightBy wsX1_firstThere := goodIn_r _ [18, 1, 2, 3, 4, 5, 6, 7, 8, 19, 20, 21, 22, 23, 24, 25, 26, 27, 28, 29, 30, 38, 39, 40, 41, 42, 43, 44, 45, 46] rfl (by decide +kernel)
set_option maxRecDepth 20000 in
theorem gX1_frightBy_X1_firstThere : GoodIn wsX1_frightBy (va_wsS RX1 82 yX1_firstThere wsX1_firstThere) := goodIn_app (goodIn_of _ (by decide +kernel)) ggX1_frightBy_X1_firstThere
set_option maxRecDepth 20000 in
theorem ggX1_frightBy_X1_draw : GoodIn wsX1_frightBy wsX1_draw := goodIn_r _ [13, 14, 15, 47] rfl (by decide +kernel)
set_option maxRecDepth 20000 in
theorem gX1_frightBy_X1_draw : GoodIn wsX1_frightBy (wsV RX1 71 RX1 yX1_draw wsX1_draw) := goodIn_app (goodIn_of _ (by decide +kernel)) ggX1_frightBy_X1_draw
