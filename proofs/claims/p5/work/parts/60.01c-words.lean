theorem mm_J6_bitCount_0f7a4_1 : (.constant RJ6 265 (1431655765) : Cond) ∈ wsJ6_bitCount_0f7a4 := by decide +kernel
theorem mm_J6_bitCount_0f7a4_2 : (.constant RJ6 266 (858993459) : Cond) ∈ wsJ6_bitCount_0f7a4 := by decide +kernel
theorem mm_J6_bitCount_0f7a4_3 : (.constant RJ6 267 (252645135) : Cond) ∈ wsJ6_bitCount_0f7a4 := by decide +kernel
theorem mm_X6_hours_1 : (.fieldLink RX6 17 "OffTheLead$Person" "from" "I" : Cond) ∈ wsX6_hours := by decide +kernel
theorem ii_X6_hours_X6 : ∀ w ∈ wsX60, w ∈ wsX6_hours := fun w h => List.mem_cons_of_mem _ (List.mem_append_right _ (h))
theorem mm_X6_hours_2 : (.fieldLink RX6 20 "OffTheLead$Person" "to" "I" : Cond) ∈ wsX6_hours := by decide +kernel
theorem mm_X6_hours_4 : (.initialized RX11 : Cond) ∈ wsX6_hours := by decide +kernel
theorem mm_X6_hours_3 : (.static yX11_hoursOf : Cond) ∈ wsX6_hours := by decide +kernel
theorem mm_X6_isDue_1 : (.fieldLink RX6 13 "OffTheLead$Person" "place" "I" : Cond) ∈ wsX6_isDue := by decide +kernel
theorem ii_X6_isDue_X6 : ∀ w ∈ wsX60, w ∈ wsX6_isDue := fun w h => List.mem_cons_of_mem _ (List.mem_append_right _ (h))
theorem mm_X6_isDue_2 : (.fieldLink RX6 17 "OffTheLead$Person" "from" "I" : Cond) ∈ wsX6_isDue := by decide +kernel
theorem mm_X6_isDue_3 : (.fieldLink RX6 20 "OffTheLead$Person" "to" "I" : Cond) ∈ wsX6_isDue := by decide +kernel
theorem mm_X4_hasPlace_1 : (.fieldLink RX4 41 "OffTheLead$Park" "placeCount" "I" : Cond) ∈ wsX4_hasPlace := by decide +kernel
theorem ii_X4_hasPlace_X4 : ∀ w ∈ wsX40, w ∈ wsX4_hasPlace := fun w h => List.mem_cons_of_mem _ (List.mem_append_right _ (h))
theorem mm_X4_hasPerson_1 : (.fieldLink RX4 44 "OffTheLead$Park" "personCount" "I" : Cond) ∈ wsX4_hasPerson := by decide +kernel
theorem ii_X4_hasPerson_X4 : ∀ w ∈ wsX40, w ∈ wsX4_hasPerson := fun w h => List.mem_cons_of_mem _ (List.mem_append_right _ (h))
theorem mm_X4_hasDog_1 : (.fieldLink RX4 47 "OffTheLead$Park" "dogCount" "I" : Cond) ∈ wsX4_hasDog := by decide +kernel
theorem ii_X4_hasDog_X4 : ∀ w ∈ wsX40, w ∈ wsX4_hasDog := fun w h => List.mem_cons_of_mem _ (List.mem_append_right _ (h))
theorem mm_X4_comersTo_1 : (.fieldLink RX4 44 "OffTheLead$Park" "personCount" "I" : Cond) ∈ wsX4_comersTo := by decide +kernel
theorem ii_X4_comersTo_X4 : ∀ w ∈ wsX40, w ∈ wsX4_comersTo := fun w h => List.mem_cons_of_mem _ (List.mem_append_left _ (List.mem_append_right _ (h)))
theorem mm_X4_comersTo_2 : (.fieldLink RX4 25 "OffTheLead$Park" "persons" "[LOffTheLead$Person;" : Cond) ∈ wsX4_comersTo := by decide +kernel
theorem ii_X4_comersTo_X6 : ∀ w ∈ wsX60, w ∈ wsX4_comersTo := fun w h => List.mem_cons_of_mem _ (List.mem_append_right _ (h))
theorem mm_X4_thoseThere_1 : (.fieldLink RX4 44 "OffTheLead$Park" "personCount" "I" : Cond) ∈ wsX4_thoseThere := by decide +kernel
theorem ii_X4_thoseThere_X4 : ∀ w ∈ wsX40, w ∈ wsX4_thoseThere := fun w h => List.mem_cons_of_mem _ (List.mem_append_left _ (List.mem_append_right _ (h)))
theorem mm_X4_thoseThere_2 : (.fieldLink RX4 25 "OffTheLead$Park" "persons" "[LOffTheLead$Person;" : Cond) ∈ wsX4_thoseThere := by decide +kernel
theorem ii_X4_thoseThere_X6 : ∀ w ∈ wsX60, w ∈ wsX4_thoseThere := fun w h => List.mem_cons_of_mem _ (List.mem_append_right _ (h))
theorem mm_X4_countComers_1 : (.fieldLink RX4 44 "OffTheLead$Park" "personCount" "I" : Cond) ∈ wsX4_countComers := by decide +kernel
theorem ii_X4_countComers_X4 : ∀ w ∈ wsX40, w ∈ wsX4_countComers := fun w h => List.mem_cons_of_mem _ (List.mem_append_left _ (List.mem_append_right _ (h)))
theorem mm_X4_countComers_2 : (.fieldLink RX4 25 "OffTheLead$Park" "persons" "[LOffTheLead$Person;" : Cond) ∈ wsX4_countComers := by decide +kernel
theorem ii_X4_countComers_X6 : ∀ w ∈ wsX60, w ∈ wsX4_countComers := fun w h => List.mem_cons_of_mem _ (List.mem_append_right _ (h))
theorem mm_X4_awayBits_1 : (.fieldLink RX4 44 "OffTheLead$Park" "personCount" "I" : Cond) ∈ wsX4_awayBits := by decide +kernel
theorem ii_X4_awayBits_X4 : ∀ w ∈ wsX40, w ∈ wsX4_awayBits := fun w h => List.mem_cons_of_mem _ (List.mem_append_left _ (List.mem_append_right _ (h)))
theorem mm_X4_awayBits_2 : (.fieldLink RX4 25 "OffTheLead$Park" "persons" "[LOffTheLead$Person;" : Cond) ∈ wsX4_awayBits := by decide +kernel
theorem ii_X4_awayBits_X6 : ∀ w ∈ wsX60, w ∈ wsX4_awayBits := fun w h => List.mem_cons_of_mem _ (List.mem_append_right _ (h))
theorem mm_X4_heldBits_1 : (.fieldLink RX4 47 "OffTheLead$Park" "dogCount" "I" : Cond) ∈ wsX4_heldBits := by decide +kernel
theorem ii_X4_heldBits_X4 : ∀ w ∈ wsX40, w ∈ wsX4_heldBits := fun w h => List.mem_cons_of_mem _ (List.mem_append_left _ (List.mem_append_right _ (h)))
theorem mm_X4_heldBits_2 : (.fieldLink RX4 31 "OffTheLead$Park" "dogs" "[LOffTheLead$Dog;" : Cond) ∈ wsX4_heldBits := by decide +kernel
theorem ii_X4_heldBits_X2 : ∀ w ∈ wsX20, w ∈ wsX4_heldBits := fun w h => List.mem_cons_of_mem _ (List.mem_append_right _ (h))
theorem mm_X4_dogBits_1 : (.fieldLink RX4 47 "OffTheLead$Park" "dogCount" "I" : Cond) ∈ wsX4_dogBits := by decide +kernel
theorem ii_X4_dogBits_X4 : ∀ w ∈ wsX40, w ∈ wsX4_dogBits := fun w h => List.mem_cons_of_mem _ (List.mem_append_right _ (h))
theorem mm_X4_dogsComing_1 : (.fieldLink RX4 47 "OffTheLead$Park" "dogCount" "I" : Cond) ∈ wsX4_dogsComing := by decide +kernel
theorem ii_X4_dogsComing_X4 : ∀ w ∈ wsX40, w ∈ wsX4_dogsComing := fun w h => List.mem_cons_of_mem _ (List.mem_append_left _ (List.mem_append_left _ (List.mem_append_right _ (h))))
theorem mm_X4_dogsComing_2 : (.fieldLink RX4 25 "OffTheLead$Park" "persons" "[LOffTheLead$Person;" : Cond) ∈ wsX4_dogsComing := by decide +kernel
theorem mm_X4_dogsComing_3 : (.fieldLink RX4 31 "OffTheLead$Park" "dogs" "[LOffTheLead$Dog;" : Cond) ∈ wsX4_dogsComing := by decide +kernel
theorem ii_X4_dogsComing_X2 : ∀ w ∈ wsX20, w ∈ wsX4_dogsComing := fun w h => List.mem_cons_of_mem _ (List.mem_append_left _ (List.mem_append_right _ (h)))
theorem mm_X4_meetingHours_1 : (.fieldLink RX4 25 "OffTheLead$Park" "persons" "[LOffTheLead$Person;" : Cond) ∈ wsX4_meetingHours := by decide +kernel
theorem ii_X4_meetingHours_X4 : ∀ w ∈ wsX40, w ∈ wsX4_meetingHours := fun w h => List.mem_cons_of_mem _ (List.mem_append_left _ (List.mem_append_right _ (h)))
theorem ii_X4_meetingHours_X6 : ∀ w ∈ wsX60, w ∈ wsX4_meetingHours := fun w h => List.mem_cons_of_mem _ (List.mem_append_right _ (h))
theorem mm_X4_troubledHours_1 : (.fieldLink RX4 47 "OffTheLead$Park" "dogCount" "I" : Cond) ∈ wsX4_troubledHours := by decide +kernel
theorem ii_X4_troubledHours_X4 : ∀ w ∈ wsX40, w ∈ wsX4_troubledHours := fun w h => List.mem_cons_of_mem _ (List.mem_append_left _ (List.mem_append_left _ (List.mem_append_right _ (h))))
theorem mm_X4_troubledHours_2 : (.fieldLink RX4 19 "OffTheLead$Park" "fenced" "[Z" : Cond) ∈ wsX4_troubledHours := by decide +kernel
theorem mm_X4_troubledHours_3 : (.fieldLink RX4 25 "OffTheLead$Park" "persons" "[LOffTheLead$Person;" : Cond) ∈ wsX4_troubledHours := by decide +kernel
theorem mm_X4_troubledHours_4 : (.fieldLink RX4 31 "OffTheLead$Park" "dogs" "[LOffTheLead$Dog;" : Cond) ∈ wsX4_troubledHours := by decide +kernel
theorem ii_X4_troubledHours_X2 : ∀ w ∈ wsX20, w ∈ wsX4_troubledHours := fun w h => List.mem_cons_of_mem _ (List.mem_append_left _ (List.mem_append_right _ (h)))
theorem ii_X4_troubledHours_X6 : ∀ w ∈ wsX60, w ∈ wsX4_troubledHours := fun w h => List.mem_cons_of_mem _ (List.mem_append_right _ (h))
theorem mm_X4_goodIf_1 : (.fieldLink RX4 25 "OffTheLead$Park" "persons" "[LOffTheLead$Person;" : Cond) ∈ wsX4_goodIf := by decide +kernel
theorem ii_X4_goodIf_X4 : ∀ w ∈ wsX40, w ∈ wsX4_goodIf := fun w h => List.mem_cons_of_mem _ (List.mem_append_left _ (List.mem_append_right _ (h)))
theorem ii_X4_goodIf_X6 : ∀ w ∈ wsX60, w ∈ wsX4_goodIf := fun w h => List.mem_cons_of_mem _ (List.mem_append_right _ (h))
theorem mm_X4_goodOf_1 : (.fieldLink RX4 15 "OffTheLead$Park" "free" "[I" : Cond) ∈ wsX4_goodOf := by decide +kernel
theorem ii_X4_goodOf_X4 : ∀ w ∈ wsX40, w ∈ wsX4_goodOf := fun w h => List.mem_cons_of_mem _ (List.mem_append_left _ (List.mem_append_left _ (List.mem_append_right _ (h))))
theorem mm_X4_goodOfAll_1 : (.fieldLink RX4 44 "OffTheLead$Park" "personCount" "I" : Cond) ∈ wsX4_goodOfAll := by decide +kernel
theorem ii_X4_goodOfAll_X4 : ∀ w ∈ wsX40, w ∈ wsX4_goodOfAll := fun w h => List.mem_cons_of_mem _ (List.mem_append_left _ (List.mem_append_left _ (List.mem_append_right _ (h))))
theorem mm_X4_goodOfAll_2 : (.fieldLink RX4 25 "OffTheLead$Park" "persons" "[LOffTheLead$Person;" : Cond) ∈ wsX4_goodOfAll := by decide +kernel
theorem ii_X4_goodOfAll_X6 : ∀ w ∈ wsX60, w ∈ wsX4_goodOfAll := fun w h => List.mem_cons_of_mem _ (List.mem_append_left _ (List.mem_append_right _ (h)))
