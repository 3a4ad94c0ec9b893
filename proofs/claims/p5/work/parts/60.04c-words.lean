theorem mm_X4_addPlace_1 : (.fieldLink RX4 9 "OffTheLead$Park" "placeNames" "[J" : Cond) ∈ wsX4_addPlace := by decide +kernel
theorem ii_X4_addPlace_X4 : ∀ w ∈ wsX40, w ∈ wsX4_addPlace := fun w h => List.mem_cons_of_mem _ (List.mem_append_right _ (h))
theorem mm_X4_addPlace_2 : (.fieldLink RX4 41 "OffTheLead$Park" "placeCount" "I" : Cond) ∈ wsX4_addPlace := by decide +kernel
theorem mm_X4_addPlace_3 : (.fieldLink RX4 15 "OffTheLead$Park" "free" "[I" : Cond) ∈ wsX4_addPlace := by decide +kernel
theorem mm_X4_addPlace_4 : (.fieldLink RX4 19 "OffTheLead$Park" "fenced" "[Z" : Cond) ∈ wsX4_addPlace := by decide +kernel
theorem mm_X4_addPerson_1 : (.fieldLink RX4 25 "OffTheLead$Park" "persons" "[LOffTheLead$Person;" : Cond) ∈ wsX4_addPerson := by decide +kernel
theorem ii_X4_addPerson_X4 : ∀ w ∈ wsX40, w ∈ wsX4_addPerson := fun w h => List.mem_cons_of_mem _ (List.mem_append_left _ (List.mem_append_right _ (h)))
theorem mm_X4_addPerson_2 : (.fieldLink RX4 44 "OffTheLead$Park" "personCount" "I" : Cond) ∈ wsX4_addPerson := by decide +kernel
theorem ii_X4_addPerson_X6 : ∀ w ∈ wsX60, w ∈ wsX4_addPerson := fun w h => List.mem_cons_of_mem _ (List.mem_append_right _ (h))
theorem mm_X4_addDog_1 : (.fieldLink RX4 31 "OffTheLead$Park" "dogs" "[LOffTheLead$Dog;" : Cond) ∈ wsX4_addDog := by decide +kernel
theorem ii_X4_addDog_X4 : ∀ w ∈ wsX40, w ∈ wsX4_addDog := fun w h => List.mem_cons_of_mem _ (List.mem_append_left _ (List.mem_append_left _ (List.mem_append_right _ (h))))
theorem mm_X4_addDog_2 : (.fieldLink RX4 47 "OffTheLead$Park" "dogCount" "I" : Cond) ∈ wsX4_addDog := by decide +kernel
theorem ii_X4_addDog_X2 : ∀ w ∈ wsX20, w ∈ wsX4_addDog := fun w h => List.mem_cons_of_mem _ (List.mem_append_left _ (List.mem_append_right _ (h)))
theorem mm_X4_addDog_3 : (.fieldLink RX4 25 "OffTheLead$Park" "persons" "[LOffTheLead$Person;" : Cond) ∈ wsX4_addDog := by decide +kernel
theorem ii_X4_addDog_X6 : ∀ w ∈ wsX60, w ∈ wsX4_addDog := fun w h => List.mem_cons_of_mem _ (List.mem_append_right _ (h))
theorem ii_X5_readPlace_X4 : ∀ w ∈ wsX40, w ∈ wsX5_readPlace := fun w h => List.mem_cons_of_mem _ (List.mem_append_left _ (List.mem_append_left _ (List.mem_append_left _ (List.mem_append_right _ (h)))))
theorem ii_X5_readPlace_X8 : ∀ w ∈ wsX80, w ∈ wsX5_readPlace := fun w h => List.mem_cons_of_mem _ (List.mem_append_left _ (List.mem_append_left _ (List.mem_append_right _ (h))))
theorem mm_X5_readPlace_1 : (.fieldLink RX5 80 "OffTheLead$Word" "FENCED" "LOffTheLead$Word;" : Cond) ∈ wsX5_readPlace := by decide +kernel
theorem ii_X5_readPerson_X4 : ∀ w ∈ wsX40, w ∈ wsX5_readPerson := fun w h => List.mem_cons_of_mem _ (List.mem_append_left _ (List.mem_append_left _ (List.mem_append_left _ (List.mem_append_right _ (h)))))
theorem ii_X5_readPerson_X8 : ∀ w ∈ wsX80, w ∈ wsX5_readPerson := fun w h => List.mem_cons_of_mem _ (List.mem_append_left _ (List.mem_append_left _ (List.mem_append_right _ (h))))
theorem ii_X5_readPerson_X6 : ∀ w ∈ wsX60, w ∈ wsX5_readPerson := fun w h => List.mem_cons_of_mem _ (List.mem_append_left _ (List.mem_append_right _ (h)))
theorem ii_X5_readDog_X4 : ∀ w ∈ wsX40, w ∈ wsX5_readDog := fun w h => List.mem_cons_of_mem _ (List.mem_append_left _ (List.mem_append_left _ (List.mem_append_left _ (List.mem_append_right _ (h)))))
theorem ii_X5_readDog_X8 : ∀ w ∈ wsX80, w ∈ wsX5_readDog := fun w h => List.mem_cons_of_mem _ (List.mem_append_left _ (List.mem_append_left _ (List.mem_append_right _ (h))))
theorem ii_X5_readDog_X2 : ∀ w ∈ wsX20, w ∈ wsX5_readDog := fun w h => List.mem_cons_of_mem _ (List.mem_append_left _ (List.mem_append_right _ (h)))
theorem mm_X5_readFree_1 : (.fieldLink RX5 14 "OffTheLead$ParkReader" "freeLines" "I" : Cond) ∈ wsX5_readFree := by decide +kernel
theorem ii_X5_readFree_X5 : ∀ w ∈ wsX50, w ∈ wsX5_readFree := fun w h => List.mem_cons_of_mem _ (List.mem_append_left _ (List.mem_append_left _ (List.mem_append_left _ (List.mem_append_left _ (List.mem_append_right _ (h))))))
theorem ii_X5_readFree_X8 : ∀ w ∈ wsX80, w ∈ wsX5_readFree := fun w h => List.mem_cons_of_mem _ (List.mem_append_left _ (List.mem_append_left _ (List.mem_append_left _ (List.mem_append_right _ (h)))))
theorem ii_X5_readFree_X4 : ∀ w ∈ wsX40, w ∈ wsX5_readFree := fun w h => List.mem_cons_of_mem _ (List.mem_append_left _ (List.mem_append_left _ (List.mem_append_right _ (h))))
theorem mm_X5_readFree_122 : (.initialized RX11 : Cond) ∈ wsX5_readFree := by decide +kernel
theorem mm_X5_readFree_121 : (.static yX11_hoursOf : Cond) ∈ wsX5_readFree := by decide +kernel
theorem mm_X5_readSign_1 : (.fieldLink RX5 20 "OffTheLead$ParkReader" "signTold" "Z" : Cond) ∈ wsX5_readSign := by decide +kernel
theorem ii_X5_readSign_X5 : ∀ w ∈ wsX50, w ∈ wsX5_readSign := fun w h => List.mem_cons_of_mem _ (List.mem_append_left _ (List.mem_append_left _ (List.mem_append_right _ (h))))
theorem ii_X5_readSign_X8 : ∀ w ∈ wsX80, w ∈ wsX5_readSign := fun w h => List.mem_cons_of_mem _ (List.mem_append_left _ (List.mem_append_right _ (h)))
theorem ii_X5_readSign_X4 : ∀ w ∈ wsX40, w ∈ wsX5_readSign := fun w h => List.mem_cons_of_mem _ (List.mem_append_right _ (h))
theorem mm_X5_readAll_1 : (.fieldLink RX5 14 "OffTheLead$ParkReader" "freeLines" "I" : Cond) ∈ wsX5_readAll := by decide +kernel
theorem ii_X5_readAll_X5 : ∀ w ∈ wsX50, w ∈ wsX5_readAll := fun w h => List.mem_cons_of_mem _ (List.mem_append_left _ (List.mem_append_left _ (List.mem_append_left _ (List.mem_append_left _ (List.mem_append_right _ (h))))))
theorem mm_X5_readAll_2 : (.fieldLink RX5 20 "OffTheLead$ParkReader" "signTold" "Z" : Cond) ∈ wsX5_readAll := by decide +kernel
theorem ii_X5_readAll_X8 : ∀ w ∈ wsX80, w ∈ wsX5_readAll := fun w h => List.mem_cons_of_mem _ (List.mem_append_left _ (List.mem_append_left _ (List.mem_append_left _ (List.mem_append_right _ (h)))))
theorem mm_X5_readAll_3 : (.fieldLink RX5 33 "OffTheLead$Word" "PLACE" "LOffTheLead$Word;" : Cond) ∈ wsX5_readAll := by decide +kernel
theorem mm_X5_readAll_4 : (.fieldLink RX5 42 "OffTheLead$Word" "PERSON" "LOffTheLead$Word;" : Cond) ∈ wsX5_readAll := by decide +kernel
theorem mm_X5_readAll_5 : (.fieldLink RX5 48 "OffTheLead$Word" "DOG" "LOffTheLead$Word;" : Cond) ∈ wsX5_readAll := by decide +kernel
theorem mm_X5_readAll_6 : (.fieldLink RX5 54 "OffTheLead$Word" "FREE" "LOffTheLead$Word;" : Cond) ∈ wsX5_readAll := by decide +kernel
theorem mm_X5_readAll_7 : (.fieldLink RX5 60 "OffTheLead$Word" "SIGN" "LOffTheLead$Word;" : Cond) ∈ wsX5_readAll := by decide +kernel
