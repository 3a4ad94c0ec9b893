theorem ii_X7_readOne_X8 : ∀ w ∈ wsX80, w ∈ wsX7_readOne := fun w h => List.mem_cons_of_mem _ (List.mem_append_left _ (List.mem_append_left _ (List.mem_append_left _ (List.mem_append_left _ (List.mem_append_right _ (h))))))
theorem mm_X7_readOne_1 : (.fieldLink RX7 28 "OffTheLead$Sentence" "ones" "I" : Cond) ∈ wsX7_readOne := by decide +kernel
theorem ii_X7_readOne_X7 : ∀ w ∈ wsX70, w ∈ wsX7_readOne := fun w h => List.mem_cons_of_mem _ (List.mem_append_left _ (List.mem_append_left _ (List.mem_append_left _ (List.mem_append_right _ (h)))))
theorem mm_X7_readCond_2 : (.fieldLink RX7 51 "OffTheLead$Word" "OR" "LOffTheLead$Word;" : Cond) ∈ wsX7_readCond := by decide +kernel
theorem ii_X7_readCond_X8 : ∀ w ∈ wsX80, w ∈ wsX7_readCond := fun w h => List.mem_cons_of_mem _ (List.mem_append_left _ (List.mem_append_left _ (List.mem_append_left _ (List.mem_append_left _ (List.mem_append_right _ (h))))))
theorem mm_X7_readCond_1 : (.fieldLink RX7 41 "OffTheLead$Word" "AND" "LOffTheLead$Word;" : Cond) ∈ wsX7_readCond := by decide +kernel
theorem mm_X7_readOne_2 : (.fieldLink RX7 74 "OffTheLead$Word" "NOT" "LOffTheLead$Word;" : Cond) ∈ wsX7_readOne := by decide +kernel
