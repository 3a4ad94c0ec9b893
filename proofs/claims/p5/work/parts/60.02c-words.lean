theorem mm_X6_copyFrom_1 : (.fieldLink RX6 7 "OffTheLead$Person" "name" "J" : Cond) ∈ wsX6_copyFrom := by decide +kernel
theorem ii_X6_copyFrom_X6 : ∀ w ∈ wsX60, w ∈ wsX6_copyFrom := fun w h => List.mem_cons_of_mem _ (List.mem_append_right _ (h))
theorem mm_X6_copyFrom_2 : (.fieldLink RX6 13 "OffTheLead$Person" "place" "I" : Cond) ∈ wsX6_copyFrom := by decide +kernel
theorem mm_X6_copyFrom_3 : (.fieldLink RX6 17 "OffTheLead$Person" "from" "I" : Cond) ∈ wsX6_copyFrom := by decide +kernel
theorem mm_X6_copyFrom_4 : (.fieldLink RX6 20 "OffTheLead$Person" "to" "I" : Cond) ∈ wsX6_copyFrom := by decide +kernel
theorem mm_X6_copyFrom_5 : (.fieldLink RX6 23 "OffTheLead$Person" "fear" "I" : Cond) ∈ wsX6_copyFrom := by decide +kernel
theorem mm_X6_copyFrom_6 : (.fieldLink RX6 26 "OffTheLead$Person" "away" "I" : Cond) ∈ wsX6_copyFrom := by decide +kernel
theorem mm_X6_copyFrom_7 : (.fieldLink RX6 29 "OffTheLead$Person" "frights" "I" : Cond) ∈ wsX6_copyFrom := by decide +kernel
theorem mm_X6_copyFrom_8 : (.fieldLink RX6 32 "OffTheLead$Person" "bites" "I" : Cond) ∈ wsX6_copyFrom := by decide +kernel
theorem mm_X6_copyFrom_9 : (.fieldLink RX6 35 "OffTheLead$Person" "dogs" "I" : Cond) ∈ wsX6_copyFrom := by decide +kernel
theorem mm_X2_copyFrom_1 : (.fieldLink RX2 7 "OffTheLead$Dog" "name" "J" : Cond) ∈ wsX2_copyFrom := by decide +kernel
theorem ii_X2_copyFrom_X2 : ∀ w ∈ wsX20, w ∈ wsX2_copyFrom := fun w h => List.mem_cons_of_mem _ (List.mem_append_right _ (h))
theorem mm_X2_copyFrom_2 : (.fieldLink RX2 13 "OffTheLead$Dog" "person" "I" : Cond) ∈ wsX2_copyFrom := by decide +kernel
theorem mm_X2_copyFrom_3 : (.fieldLink RX2 17 "OffTheLead$Dog" "obeys" "I" : Cond) ∈ wsX2_copyFrom := by decide +kernel
theorem mm_X2_copyFrom_4 : (.fieldLink RX2 20 "OffTheLead$Dog" "bites" "I" : Cond) ∈ wsX2_copyFrom := by decide +kernel
theorem mm_X2_copyFrom_5 : (.fieldLink RX2 23 "OffTheLead$Dog" "held" "Z" : Cond) ∈ wsX2_copyFrom := by decide +kernel
theorem mm_X2_copyFrom_6 : (.fieldLink RX2 27 "OffTheLead$Dog" "ran" "I" : Cond) ∈ wsX2_copyFrom := by decide +kernel
theorem mm_X2_copyFrom_7 : (.fieldLink RX2 30 "OffTheLead$Dog" "bit" "I" : Cond) ∈ wsX2_copyFrom := by decide +kernel
theorem mm_X4_copyFrom_1 : (.fieldLink RX4 41 "OffTheLead$Park" "placeCount" "I" : Cond) ∈ wsX4_copyFrom := by decide +kernel
theorem ii_X4_copyFrom_X4 : ∀ w ∈ wsX40, w ∈ wsX4_copyFrom := fun w h => List.mem_cons_of_mem _ (List.mem_append_left _ (List.mem_append_left _ (List.mem_append_right _ (h))))
theorem mm_X4_copyFrom_2 : (.fieldLink RX4 44 "OffTheLead$Park" "personCount" "I" : Cond) ∈ wsX4_copyFrom := by decide +kernel
theorem mm_X4_copyFrom_3 : (.fieldLink RX4 47 "OffTheLead$Park" "dogCount" "I" : Cond) ∈ wsX4_copyFrom := by decide +kernel
theorem mm_X4_copyFrom_4 : (.fieldLink RX4 37 "OffTheLead$Park" "sign" "I" : Cond) ∈ wsX4_copyFrom := by decide +kernel
theorem mm_X4_copyFrom_5 : (.fieldLink RX4 50 "OffTheLead$Park" "day" "I" : Cond) ∈ wsX4_copyFrom := by decide +kernel
theorem mm_X4_copyFrom_6 : (.fieldLink RX4 53 "OffTheLead$Park" "complaints" "I" : Cond) ∈ wsX4_copyFrom := by decide +kernel
theorem mm_X4_copyFrom_7 : (.fieldLink RX4 56 "OffTheLead$Park" "bites" "I" : Cond) ∈ wsX4_copyFrom := by decide +kernel
theorem mm_X4_copyFrom_12 : (.fieldLink RX4 31 "OffTheLead$Park" "dogs" "[LOffTheLead$Dog;" : Cond) ∈ wsX4_copyFrom := by decide +kernel
theorem mm_X4_copyFrom_11 : (.fieldLink RX4 25 "OffTheLead$Park" "persons" "[LOffTheLead$Person;" : Cond) ∈ wsX4_copyFrom := by decide +kernel
theorem mm_X4_copyFrom_8 : (.fieldLink RX4 9 "OffTheLead$Park" "placeNames" "[J" : Cond) ∈ wsX4_copyFrom := by decide +kernel
theorem mm_X4_copyFrom_9 : (.fieldLink RX4 15 "OffTheLead$Park" "free" "[I" : Cond) ∈ wsX4_copyFrom := by decide +kernel
theorem mm_X4_copyFrom_10 : (.fieldLink RX4 19 "OffTheLead$Park" "fenced" "[Z" : Cond) ∈ wsX4_copyFrom := by decide +kernel
theorem mm_X4_clear_1 : (.fieldLink RX4 41 "OffTheLead$Park" "placeCount" "I" : Cond) ∈ wsX4_clear := by decide +kernel
theorem ii_X4_clear_X4 : ∀ w ∈ wsX40, w ∈ wsX4_clear := fun w h => List.mem_cons_of_mem _ (List.mem_append_right _ (h))
theorem mm_X4_clear_2 : (.fieldLink RX4 44 "OffTheLead$Park" "personCount" "I" : Cond) ∈ wsX4_clear := by decide +kernel
theorem mm_X4_clear_3 : (.fieldLink RX4 47 "OffTheLead$Park" "dogCount" "I" : Cond) ∈ wsX4_clear := by decide +kernel
theorem mm_X4_clear_4 : (.fieldLink RX4 37 "OffTheLead$Park" "sign" "I" : Cond) ∈ wsX4_clear := by decide +kernel
theorem mm_X4_clear_5 : (.fieldLink RX4 50 "OffTheLead$Park" "day" "I" : Cond) ∈ wsX4_clear := by decide +kernel
theorem mm_X4_clear_6 : (.fieldLink RX4 53 "OffTheLead$Park" "complaints" "I" : Cond) ∈ wsX4_clear := by decide +kernel
theorem mm_X4_clear_7 : (.fieldLink RX4 56 "OffTheLead$Park" "bites" "I" : Cond) ∈ wsX4_clear := by decide +kernel
theorem mm_X4_allowHours_3 : (.initialized RX11 : Cond) ∈ wsX4_allowHours := by decide +kernel
theorem mm_X4_allowHours_2 : (.static yX11_hoursOf : Cond) ∈ wsX4_allowHours := by decide +kernel
theorem mm_X4_allowHours_1 : (.fieldLink RX4 15 "OffTheLead$Park" "free" "[I" : Cond) ∈ wsX4_allowHours := by decide +kernel
theorem ii_X4_allowHours_X4 : ∀ w ∈ wsX40, w ∈ wsX4_allowHours := fun w h => List.mem_cons_of_mem _ (List.mem_append_right _ (h))
theorem mm_X4_forbidHours_3 : (.initialized RX11 : Cond) ∈ wsX4_forbidHours := by decide +kernel
theorem mm_X4_forbidHours_2 : (.static yX11_hoursOf : Cond) ∈ wsX4_forbidHours := by decide +kernel
theorem mm_X4_forbidHours_1 : (.fieldLink RX4 15 "OffTheLead$Park" "free" "[I" : Cond) ∈ wsX4_forbidHours := by decide +kernel
theorem ii_X4_forbidHours_X4 : ∀ w ∈ wsX40, w ∈ wsX4_forbidHours := fun w h => List.mem_cons_of_mem _ (List.mem_append_right _ (h))
theorem mm_X4_turnFence_1 : (.fieldLink RX4 19 "OffTheLead$Park" "fenced" "[Z" : Cond) ∈ wsX4_turnFence := by decide +kernel
theorem ii_X4_turnFence_X4 : ∀ w ∈ wsX40, w ∈ wsX4_turnFence := fun w h => List.mem_cons_of_mem _ (List.mem_append_right _ (h))
theorem mm_X4_writeSign_1 : (.fieldLink RX4 37 "OffTheLead$Park" "sign" "I" : Cond) ∈ wsX4_writeSign := by decide +kernel
theorem ii_X4_writeSign_X4 : ∀ w ∈ wsX40, w ∈ wsX4_writeSign := fun w h => List.mem_cons_of_mem _ (List.mem_append_right _ (h))
theorem mm_X4_holdDog_1 : (.fieldLink RX4 31 "OffTheLead$Park" "dogs" "[LOffTheLead$Dog;" : Cond) ∈ wsX4_holdDog := by decide +kernel
theorem ii_X4_holdDog_X4 : ∀ w ∈ wsX40, w ∈ wsX4_holdDog := fun w h => List.mem_cons_of_mem _ (List.mem_append_left _ (List.mem_append_right _ (h)))
theorem ii_X4_holdDog_X2 : ∀ w ∈ wsX20, w ∈ wsX4_holdDog := fun w h => List.mem_cons_of_mem _ (List.mem_append_right _ (h))
theorem mm_X4_bring_1 : (.fieldLink RX4 25 "OffTheLead$Park" "persons" "[LOffTheLead$Person;" : Cond) ∈ wsX4_bring := by decide +kernel
theorem ii_X4_bring_X4 : ∀ w ∈ wsX40, w ∈ wsX4_bring := fun w h => List.mem_cons_of_mem _ (List.mem_append_left _ (List.mem_append_right _ (h)))
theorem ii_X4_bring_X6 : ∀ w ∈ wsX60, w ∈ wsX4_bring := fun w h => List.mem_cons_of_mem _ (List.mem_append_right _ (h))
theorem mm_X4_numberOf_1 : (.fieldLink RX4 41 "OffTheLead$Park" "placeCount" "I" : Cond) ∈ wsX4_numberOf := by decide +kernel
theorem ii_X4_numberOf_X4 : ∀ w ∈ wsX40, w ∈ wsX4_numberOf := fun w h => List.mem_cons_of_mem _ (List.mem_append_left _ (List.mem_append_left _ (List.mem_append_right _ (h))))
theorem mm_X4_numberOf_4 : (.fieldLink RX4 9 "OffTheLead$Park" "placeNames" "[J" : Cond) ∈ wsX4_numberOf := by decide +kernel
theorem mm_X4_numberOf_2 : (.fieldLink RX4 44 "OffTheLead$Park" "personCount" "I" : Cond) ∈ wsX4_numberOf := by decide +kernel
theorem mm_X4_numberOf_5 : (.fieldLink RX4 25 "OffTheLead$Park" "persons" "[LOffTheLead$Person;" : Cond) ∈ wsX4_numberOf := by decide +kernel
theorem ii_X4_numberOf_X6 : ∀ w ∈ wsX60, w ∈ wsX4_numberOf := fun w h => List.mem_cons_of_mem _ (List.mem_append_left _ (List.mem_append_right _ (h)))
theorem mm_X4_numberOf_3 : (.fieldLink RX4 47 "OffTheLead$Park" "dogCount" "I" : Cond) ∈ wsX4_numberOf := by decide +kernel
theorem mm_X4_numberOf_6 : (.fieldLink RX4 31 "OffTheLead$Park" "dogs" "[LOffTheLead$Dog;" : Cond) ∈ wsX4_numberOf := by decide +kernel
theorem ii_X4_numberOf_X2 : ∀ w ∈ wsX20, w ∈ wsX4_numberOf := fun w h => List.mem_cons_of_mem _ (List.mem_append_right _ (h))
theorem mm_X1_draw_1 : (.fieldLink RX1 9 "OffTheLead$Days" "x" "I" : Cond) ∈ wsX1_draw := by decide +kernel
theorem ii_X1_draw_X1 : ∀ w ∈ wsX10, w ∈ wsX1_draw := fun w h => List.mem_cons_of_mem _ (List.mem_append_right _ (h))
theorem mm_X1_draw_2 : (.constant RX1 24 (1103515245) : Cond) ∈ wsX1_draw := by decide +kernel
theorem ii_X1_firstThere_X4 : ∀ w ∈ wsX40, w ∈ wsX1_firstThere := fun w h => List.mem_cons_of_mem _ (List.mem_append_left _ (List.mem_append_right _ (h)))
theorem ii_X1_firstThere_X6 : ∀ w ∈ wsX60, w ∈ wsX1_firstThere := fun w h => List.mem_cons_of_mem _ (List.mem_append_right _ (h))
theorem ii_X1_frightBy_X4 : ∀ w ∈ wsX40, w ∈ wsX1_frightBy := fun w h => List.mem_cons_of_mem _ (List.mem_append_left _ (List.mem_append_left _ (List.mem_append_left _ (List.mem_append_right _ (h)))))
theorem ii_X1_frightBy_X2 : ∀ w ∈ wsX20, w ∈ wsX1_frightBy := fun w h => List.mem_cons_of_mem _ (List.mem_append_left _ (List.mem_append_left _ (List.mem_append_right _ (h))))
theorem ii_X1_frightBy_X6 : ∀ w ∈ wsX60, w ∈ wsX1_frightBy := fun w h => List.mem_cons_of_mem _ (List.mem_append_left _ (List.mem_append_right _ (h)))
theorem ii_X1_liveDay_X4 : ∀ w ∈ wsX40, w ∈ wsX1_liveDay := fun w h => List.mem_cons_of_mem _ (List.mem_append_left _ (List.mem_append_left _ (List.mem_append_left _ (List.mem_append_right _ (h)))))
theorem ii_X1_liveDay_X6 : ∀ w ∈ wsX60, w ∈ wsX1_liveDay := fun w h => List.mem_cons_of_mem _ (List.mem_append_left _ (List.mem_append_left _ (List.mem_append_right _ (h))))
theorem mm_X1_live_1 : (.fieldLink RX1 9 "OffTheLead$Days" "x" "I" : Cond) ∈ wsX1_live := by decide +kernel
theorem ii_X1_live_X1 : ∀ w ∈ wsX10, w ∈ wsX1_live := fun w h => List.mem_cons_of_mem _ (List.mem_append_left _ (List.mem_append_left _ (List.mem_append_left _ (List.mem_append_right _ (h)))))
theorem ii_X1_live_X4 : ∀ w ∈ wsX40, w ∈ wsX1_live := fun w h => List.mem_cons_of_mem _ (List.mem_append_left _ (List.mem_append_left _ (List.mem_append_right _ (h))))
theorem ii_X9_goodHere_X4 : ∀ w ∈ wsX40, w ∈ wsX9_goodHere := fun w h => List.mem_cons_of_mem _ (List.mem_append_left _ (List.mem_append_left _ (List.mem_append_right _ (h))))
theorem ii_X9_goodHere_X6 : ∀ w ∈ wsX60, w ∈ wsX9_goodHere := fun w h => List.mem_cons_of_mem _ (List.mem_append_left _ (List.mem_append_right _ (h)))
theorem ii_X9_bestFence_X4 : ∀ w ∈ wsX40, w ∈ wsX9_bestFence := fun w h => List.mem_cons_of_mem _ (List.mem_append_left _ (List.mem_append_left _ (List.mem_append_right _ (h))))
theorem ii_X9_goRound_X4 : ∀ w ∈ wsX40, w ∈ wsX9_goRound := fun w h => List.mem_cons_of_mem _ (List.mem_append_left _ (List.mem_append_left _ (List.mem_append_right _ (h))))
theorem ii_X9_goRound_X6 : ∀ w ∈ wsX60, w ∈ wsX9_goRound := fun w h => List.mem_cons_of_mem _ (List.mem_append_left _ (List.mem_append_right _ (h)))
theorem ii_X9_isFirst_X4 : ∀ w ∈ wsX40, w ∈ wsX9_isFirst := fun w h => List.mem_cons_of_mem _ (List.mem_append_left _ (List.mem_append_right _ (h)))
theorem ii_X9_isFirst_X6 : ∀ w ∈ wsX60, w ∈ wsX9_isFirst := fun w h => List.mem_cons_of_mem _ (List.mem_append_right _ (h))
theorem ii_X9_mayReach_X4 : ∀ w ∈ wsX40, w ∈ wsX9_mayReach := fun w h => List.mem_cons_of_mem _ (List.mem_append_left _ (List.mem_append_left _ (List.mem_append_right _ (h))))
theorem ii_X9_mayReach_X6 : ∀ w ∈ wsX60, w ∈ wsX9_mayReach := fun w h => List.mem_cons_of_mem _ (List.mem_append_left _ (List.mem_append_right _ (h)))
theorem ii_X9_mayReach_X2 : ∀ w ∈ wsX20, w ∈ wsX9_mayReach := fun w h => List.mem_cons_of_mem _ (List.mem_append_right _ (h))
theorem ii_X9_perilsOf_X4 : ∀ w ∈ wsX40, w ∈ wsX9_perilsOf := fun w h => List.mem_cons_of_mem _ (List.mem_append_left _ (List.mem_append_left _ (List.mem_append_right _ (h))))
theorem mm_X9_waysOfPerils_1 : (.methodLink RX9 73 Lib.Math.min.name : Cond) ∈ wsX9_waysOfPerils := by decide +kernel
theorem mm_X9_waysOfPerils_2 : (.static Lib.Math.min.name : Cond) ∈ wsX9_waysOfPerils := by decide +kernel
theorem mm_X9_waysOfPerils_3 : (.initialized "java/lang/Math" : Cond) ∈ wsX9_waysOfPerils := by decide +kernel
theorem mm_X9_waysOfPerils_4 : (.code Lib.Math.min.name Lib.Math.min.code 2 (some .int) : Cond) ∈ wsX9_waysOfPerils := by decide +kernel
theorem mm_X9_waysOfPerils_5 : (.constantLong RX9 78 (144) : Cond) ∈ wsX9_waysOfPerils := by decide +kernel
theorem ii_X9_waysUnharmed_X4 : ∀ w ∈ wsX40, w ∈ wsX9_waysUnharmed := fun w h => List.mem_cons_of_mem _ (List.mem_append_left _ (List.mem_append_left _ (List.mem_append_right _ (h))))
theorem ii_X9_waysUnharmed_X6 : ∀ w ∈ wsX60, w ∈ wsX9_waysUnharmed := fun w h => List.mem_cons_of_mem _ (List.mem_append_left _ (List.mem_append_right _ (h)))
theorem ii_X9_waysUnharmed_X2 : ∀ w ∈ wsX20, w ∈ wsX9_waysUnharmed := fun w h => List.mem_cons_of_mem _ (List.mem_append_right _ (h))
