set_option maxRecDepth 20000 in
theorem ggX11_person_X4_hasPerson : GoodIn wsX11_person wsX4_hasPerson := goodIn_r _ [8, 9, 63, 64, 65, 66, 67, 68, 69, 70, 71, 72, 73, 74] rfl (by decide +kernel)
set_option maxRecDepth 20000 in
theorem gX11_person_X4_hasPerson : GoodIn wsX11_person (wsV RX11 133 RX4 yX4_hasPerson wsX4_hasPerson) := goodIn_app (goodIn_of _ (by decide +kernel)) ggX11_person_X4_hasPerson
set_option maxRecDepth 20000 in
theorem ggX11_person_X4_goodOf : GoodIn wsX11_person wsX4_goodOf := goodIn_r _ [13, 14, 15, 16, 17, 7, 18, 19, 20, 21, 22, 23, 24, 25, 26, 27, 28, 29, 30, 31, 32, 33, 34, 35, 36, 37, 38, 39, 40, 41, 42, 43, 63, 64, 65, 66, 67, 68, 69, 70, 71, 72, 73, 74, 84, 85, 86, 87, 88, 89, 90, 75, 76, 77, 78, 79, 80, 81, 82, 83] rfl (by decide +kernel)
set_option maxRecDepth 20000 in
theorem gX11_person_X4_goodOf : GoodIn wsX11_person (wsV RX11 170 RX4 yX4_goodOf wsX4_goodOf) := goodIn_app (goodIn_of _ (by decide +kernel)) ggX11_person_X4_goodOf
set_option maxRecDepth 20000 in
theorem ggL_person_X11_person : GoodIn wsL_person wsX11_person := goodIn_ca (goodIn_r _ [6, 7, 8, 9, 10, 11, 12, 13, 14, 15, 16, 17, 18, 19, 20, 21, 22, 23, 24, 25, 26, 27, 28, 29, 30, 31, 32, 33, 34, 35, 36, 5, 37, 38, 39, 40, 41, 42, 43, 44, 45, 46, 47, 48, 49, 50, 51, 52, 53, 54, 55, 56, 57, 58, 59, 60, 61, 62, 63, 64, 65, 66, 67, 68, 69, 70, 71, 72, 73, 74, 75, 76, 77, 78, 79, 80, 81, 82, 83, 84, 85, 86, 87, 88, 89, 90, 91, 92, 93, 94, 95] rfl (by decide +kernel)) (goodIn_sub (fun _ h => List.mem_cons_of_mem _ (List.mem_append_right _ h)) (by decide +kernel))
set_option maxRecDepth 20000 in
theorem gL_person_X11_person : GoodIn wsL_person (wsV RL 7 RX11 yX11_person wsX11_person) := goodIn_app (goodIn_of _ (by decide +kernel)) ggL_person_X11_person
set_option maxRecDepth 20000 in
theorem ggX11_dog_X4_hasDog : GoodIn wsX11_dog wsX4_hasDog := goodIn_r _ [8, 9, 29, 30, 31, 32, 33, 34, 35, 36, 37, 38, 39, 40] rfl (by decide +kernel)
set_option maxRecDepth 20000 in
theorem gX11_dog_X4_hasDog : GoodIn wsX11_dog (wsV RX11 174 RX4 yX4_hasDog wsX4_hasDog) := goodIn_app (goodIn_of _ (by decide +kernel)) ggX11_dog_X4_hasDog
set_option maxRecDepth 20000 in
theorem ggL_dog_X11_dog : GoodIn wsL_dog wsX11_dog := goodIn_ca (goodIn_r _ [6, 7, 8, 9, 10, 11, 12, 13, 14, 15, 16, 17, 18, 19, 20, 21, 22, 23, 24, 25, 26, 27, 28, 29, 30, 31, 32, 33, 34, 35, 36, 37, 38, 39, 40, 41, 42, 43, 44, 45, 46, 47, 48, 49, 50, 51, 52, 53] rfl (by decide +kernel)) (goodIn_sub (fun _ h => List.mem_cons_of_mem _ (List.mem_append_right _ h)) (by decide +kernel))
set_option maxRecDepth 20000 in
theorem gL_dog_X11_dog : GoodIn wsL_dog (wsV RL 15 RX11 yX11_dog wsX11_dog) := goodIn_app (goodIn_of _ (by decide +kernel)) ggL_dog_X11_dog
set_option maxRecDepth 20000 in
theorem ggX11_risk_X4_hasPerson : GoodIn wsX11_risk wsX4_hasPerson := goodIn_r _ [8, 9, 62, 63, 64, 65, 66, 67, 68, 69, 70, 71, 72, 73] rfl (by decide +kernel)
set_option maxRecDepth 20000 in
theorem gX11_risk_X4_hasPerson : GoodIn wsX11_risk (wsV RX11 133 RX4 yX4_hasPerson wsX4_hasPerson) := goodIn_app (goodIn_of _ (by decide +kernel)) ggX11_risk_X4_hasPerson
set_option maxRecDepth 20000 in
theorem ggX11_risk_X9_perilsOf : GoodIn wsX11_risk wsX9_perilsOf := goodIn_r _ [13, 14, 15, 12, 16, 17, 18, 19, 20, 21, 22, 23, 24, 25, 26, 27, 62, 63, 64, 65, 66, 67, 68, 69, 70, 71, 72, 73, 74, 75, 76, 77, 78, 79, 80, 81, 82, 83, 84, 85, 86, 87, 88, 89] rfl (by decide +kernel)
set_option maxRecDepth 20000 in
theorem gX11_risk_X9_perilsOf : GoodIn wsX11_risk (va_wsS RX11 295 yX9_perilsOf wsX9_perilsOf) := goodIn_app (goodIn_of _ (by decide +kernel)) ggX11_risk_X9_perilsOf
set_option maxRecDepth 20000 in
theorem ggX11_risk_X9_waysOfPerils : GoodIn wsX11_risk wsX9_waysOfPerils := goodIn_r _ [30, 31, 32, 33, 34, 35, 36, 11, 12, 13, 14, 15, 16, 17, 18, 19, 20, 21, 22, 23, 24, 25, 26, 27, 62, 63, 64, 65, 66, 67, 68, 69, 70, 71, 72, 73, 74, 75, 76, 77, 78, 79, 80, 81, 82, 83, 84, 85, 86, 87, 88, 89] rfl (by decide +kernel)
set_option maxRecDepth 20000 in
theorem gX11_risk_X9_waysOfPerils : GoodIn wsX11_risk (va_wsS RX11 299 yX9_waysOfPerils wsX9_waysOfPerils) := goodIn_app (goodIn_of _ (by decide +kernel)) ggX11_risk_X9_waysOfPerils
