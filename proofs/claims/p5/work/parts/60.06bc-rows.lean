set_option maxRecDepth 20000 in
theorem ggX7_plainFits_X4_meetingHours : GoodIn wsX7_plainFits wsX4_meetingHours := goodIn_r _ [15, 16, 17, 18, 19, 20, 21, 22, 23, 24, 25, 26, 59, 60, 61, 62, 63, 64, 65, 66, 67, 68, 69, 70, 71, 72, 73, 74, 75, 76, 77, 78, 79] rfl (by decide +kernel)
set_option maxRecDepth 20000 in
theorem gX7_plainFits_X4_meetingHours : GoodIn wsX7_plainFits (wsV RX7 137 RX4 yX4_meetingHours wsX4_meetingHours) := goodIn_app (goodIn_of _ (by decide +kernel)) ggX7_plainFits_X4_meetingHours
set_option maxRecDepth 20000 in
theorem ggX7_fits_X7_plainFits : GoodIn wsX7_fits wsX7_plainFits := goodIn_r _ [10, 2, 11, 12, 13, 14, 15, 16, 17, 18, 19, 20, 21, 22, 23, 24, 25, 26, 27, 28, 29, 30, 31, 32, 33, 34, 35, 36, 37, 9, 38, 39, 40, 41, 42, 43, 44, 45, 46, 47, 48, 49, 50, 51, 52, 53, 54, 55, 56, 57, 58, 59, 60, 61, 62, 63, 64, 65, 66, 67, 68, 69, 70, 71, 72, 73, 74, 75, 76, 77, 78, 79, 80, 81, 82, 83, 84, 85, 86, 87, 88, 89, 90, 91, 92, 93, 94] rfl (by decide +kernel)
set_option maxRecDepth 20000 in
theorem gX7_fits_X7_plainFits : GoodIn wsX7_fits (wsV RX7 119 RX7 yX7_plainFits wsX7_plainFits) := goodIn_app (goodIn_of _ (by decide +kernel)) ggX7_fits_X7_plainFits
