set_option maxRecDepth 20000 in
theorem ggX12_goodAll_X12_isAway : GoodIn wsX12_goodAll wsX12_isAway := goodIn_r _ [6, 1, 36, 37, 38, 39, 40, 41, 42, 43, 44, 45, 46, 47, 48, 49, 50, 51, 52, 53, 54, 55, 56, 57, 58, 59, 60, 61, 62, 63, 64, 65, 66, 67, 68, 69, 70, 71, 72, 73, 74, 75, 76, 77, 78, 79, 80, 81, 82] rfl (by decide +kernel)
set_option maxRecDepth 20000 in
theorem gX12_goodAll_X12_isAway : GoodIn wsX12_goodAll (wsV RX12 235 RX12 yX12_isAway wsX12_isAway) := goodIn_app (goodIn_of _ (by decide +kernel)) ggX12_goodAll_X12_isAway
set_option maxRecDepth 20000 in
theorem ggX12_awaySet_X12_isAway : GoodIn wsX12_awaySet wsX12_isAway := goodIn_r _ [6, 1, 7, 8, 9, 10, 11, 12, 13, 14, 15, 16, 17, 18, 19, 20, 21, 22, 23, 24, 25, 26, 27, 28, 29, 30, 31, 32, 33, 34, 35, 36, 37, 38, 39, 40, 41, 42, 43, 44, 45, 46, 47, 48, 49, 50, 51, 52, 53] rfl (by decide +kernel)
set_option maxRecDepth 20000 in
theorem gX12_awaySet_X12_isAway : GoodIn wsX12_awaySet (wsV RX12 235 RX12 yX12_isAway wsX12_isAway) := goodIn_app (goodIn_of _ (by decide +kernel)) ggX12_awaySet_X12_isAway
set_option maxRecDepth 20000 in
theorem ggX12_person_X12_isPerson : GoodIn wsX12_person wsX12_isPerson := goodIn_r _ [7, 2, 8, 9, 6, 10, 44, 45, 46, 47, 48, 49, 50, 51, 52, 53, 54, 55, 56, 57, 58, 59, 60, 61, 62, 63, 64, 65, 66, 67, 68, 69, 70, 71, 72, 73, 74, 75, 76, 77, 78, 79, 80, 81, 82, 83, 84, 85, 86, 87, 88, 89, 90] rfl (by decide +kernel)
set_option maxRecDepth 20000 in
theorem gX12_person_X12_isPerson : GoodIn wsX12_person (wsV RX12 241 RX12 yX12_isPerson wsX12_isPerson) := goodIn_app (goodIn_of _ (by decide +kernel)) ggX12_person_X12_isPerson
set_option maxRecDepth 20000 in
theorem ggX12_person_X12_dogsOf : GoodIn wsX12_person wsX12_dogsOf := goodIn_r _ [18, 2, 44, 45, 46, 47, 48, 49, 50, 51, 52, 53, 54, 55, 56, 57, 58, 59, 60, 61, 62, 63, 64, 65, 66, 67, 68, 69, 70, 71, 72, 73, 74, 75, 76, 77, 78, 79, 80, 81, 82, 83, 84, 85, 86, 87, 88, 89, 90] rfl (by decide +kernel)
set_option maxRecDepth 20000 in
theorem gX12_person_X12_dogsOf : GoodIn wsX12_person (wsV RX12 223 RX12 yX12_dogsOf wsX12_dogsOf) := goodIn_app (goodIn_of _ (by decide +kernel)) ggX12_person_X12_dogsOf
set_option maxRecDepth 20000 in
theorem ggX12_person_X12_goodOf : GoodIn wsX12_person wsX12_goodOf := goodIn_r _ [22, 2, 15, 16, 17, 6, 18, 23, 24, 25, 26, 27, 28, 29, 30, 31, 32, 33, 34, 35, 36, 37, 38, 39, 40, 41, 42, 43, 44, 45, 46, 47, 48, 49, 50, 51, 52, 53, 54, 55, 56, 57, 58, 59, 60, 61, 62, 63, 64, 65, 66, 67, 68, 69, 70, 71, 72, 73, 74, 75, 76, 77, 78, 79, 80, 81, 82, 83, 84, 85, 86, 87, 88, 89, 90] rfl (by decide +kernel)
set_option maxRecDepth 20000 in
theorem gX12_person_X12_goodOf : GoodIn wsX12_person (wsV RX12 238 RX12 yX12_goodOf wsX12_goodOf) := goodIn_app (goodIn_of _ (by decide +kernel)) ggX12_person_X12_goodOf
set_option maxRecDepth 20000 in
theorem ggX12_person_X12_refuse : GoodIn wsX12_person wsX12_refuse := goodIn_r _ [14, 1, 44, 45, 46, 47, 48, 49, 50, 51, 52, 53, 54, 55, 56, 57, 58, 59, 60, 61, 62, 63, 64, 65, 66, 67, 68, 69, 70, 71, 72, 73, 74, 75, 76, 77, 78, 79, 80, 81, 82, 83, 84, 85, 86, 87, 88, 89, 90] rfl (by decide +kernel)
set_option maxRecDepth 20000 in
theorem gX12_person_X12_refuse : GoodIn wsX12_person (wsV RX12 244 RX12 yX12_refuse wsX12_refuse) := goodIn_app (goodIn_of _ (by decide +kernel)) ggX12_person_X12_refuse
set_option maxRecDepth 20000 in
theorem ggX12_dog_X12_isDog : GoodIn wsX12_dog wsX12_isDog := goodIn_r _ [7, 2, 8, 9, 6, 10, 18, 19, 20, 21, 22, 23, 24, 25, 26, 27, 28, 29, 30, 31, 32, 33, 34, 35, 36, 37, 38, 39, 40, 41, 42, 43, 44, 45, 46, 47, 48, 49, 50, 51, 52, 53, 54, 55, 56, 57, 58, 59, 60, 61, 62, 63, 64] rfl (by decide +kernel)
set_option maxRecDepth 20000 in
theorem gX12_dog_X12_isDog : GoodIn wsX12_dog (wsV RX12 247 RX12 yX12_isDog wsX12_isDog) := goodIn_app (goodIn_of _ (by decide +kernel)) ggX12_dog_X12_isDog
set_option maxRecDepth 20000 in
theorem ggX12_dog_X12_has : GoodIn wsX12_dog wsX12_has := goodIn_r _ [17] rfl (by decide +kernel)
set_option maxRecDepth 20000 in
theorem gX12_dog_X12_has : GoodIn wsX12_dog (va_wsS RX12 217 yX12_has wsX12_has) := goodIn_app (goodIn_of _ (by decide +kernel)) ggX12_dog_X12_has
