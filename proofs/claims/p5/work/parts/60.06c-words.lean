theorem mm_X7_clear_1 : (.fieldLink RX7 24 "OffTheLead$Sentence" "size" "I" : Cond) ∈ wsX7_clear := by decide +kernel
theorem ii_X7_clear_X7 : ∀ w ∈ wsX70, w ∈ wsX7_clear := fun w h => List.mem_cons_of_mem _ (List.mem_append_right _ (h))
theorem mm_X7_clear_2 : (.fieldLink RX7 28 "OffTheLead$Sentence" "ones" "I" : Cond) ∈ wsX7_clear := by decide +kernel
theorem mm_X7_add_1 : (.fieldLink RX7 24 "OffTheLead$Sentence" "size" "I" : Cond) ∈ wsX7_add := by decide +kernel
theorem ii_X7_add_X7 : ∀ w ∈ wsX70, w ∈ wsX7_add := fun w h => List.mem_cons_of_mem _ (List.mem_append_right _ (h))
theorem mm_X7_add_2 : (.fieldLink RX7 13 "OffTheLead$Sentence" "steps" "[LOffTheLead$Word;" : Cond) ∈ wsX7_add := by decide +kernel
theorem mm_X7_add_3 : (.fieldLink RX7 17 "OffTheLead$Sentence" "signs" "[I" : Cond) ∈ wsX7_add := by decide +kernel
theorem mm_X7_add_4 : (.fieldLink RX7 21 "OffTheLead$Sentence" "numbers" "[I" : Cond) ∈ wsX7_add := by decide +kernel
theorem mm_X7_beginsOne_1 : (.fieldLink RX7 74 "OffTheLead$Word" "NOT" "LOffTheLead$Word;" : Cond) ∈ wsX7_beginsOne := by decide +kernel
theorem mm_X7_beginsOne_2 : (.fieldLink RX7 81 "OffTheLead$Word" "AWAY" "LOffTheLead$Word;" : Cond) ∈ wsX7_beginsOne := by decide +kernel
theorem mm_X7_beginsOne_3 : (.fieldLink RX7 84 "OffTheLead$Word" "OWNER" "LOffTheLead$Word;" : Cond) ∈ wsX7_beginsOne := by decide +kernel
theorem mm_X7_beginsOne_4 : (.fieldLink RX7 87 "OffTheLead$Word" "MEETS" "LOffTheLead$Word;" : Cond) ∈ wsX7_beginsOne := by decide +kernel
theorem mm_X7_beginsOne_5 : (.fieldLink RX7 90 "OffTheLead$Word" "AT" "LOffTheLead$Word;" : Cond) ∈ wsX7_beginsOne := by decide +kernel
theorem mm_X7_beginsOne_6 : (.fieldLink RX7 107 "OffTheLead$Word" "FRIGHTS" "LOffTheLead$Word;" : Cond) ∈ wsX7_beginsOne := by decide +kernel
theorem mm_X7_beginsOne_7 : (.fieldLink RX7 110 "OffTheLead$Word" "BITES" "LOffTheLead$Word;" : Cond) ∈ wsX7_beginsOne := by decide +kernel
theorem mm_X7_beginsOne_8 : (.fieldLink RX7 113 "OffTheLead$Word" "GOOD" "LOffTheLead$Word;" : Cond) ∈ wsX7_beginsOne := by decide +kernel
theorem mm_X7_beginsOne_9 : (.fieldLink RX7 116 "OffTheLead$Word" "NUMBER" "LOffTheLead$Word;" : Cond) ∈ wsX7_beginsOne := by decide +kernel
theorem mm_X7_readPlain_1 : (.fieldLink RX7 81 "OffTheLead$Word" "AWAY" "LOffTheLead$Word;" : Cond) ∈ wsX7_readPlain := by decide +kernel
theorem mm_X7_readPlain_2 : (.fieldLink RX7 84 "OffTheLead$Word" "OWNER" "LOffTheLead$Word;" : Cond) ∈ wsX7_readPlain := by decide +kernel
theorem mm_X7_readPlain_3 : (.fieldLink RX7 87 "OffTheLead$Word" "MEETS" "LOffTheLead$Word;" : Cond) ∈ wsX7_readPlain := by decide +kernel
theorem mm_X7_readPlain_4 : (.fieldLink RX7 90 "OffTheLead$Word" "AT" "LOffTheLead$Word;" : Cond) ∈ wsX7_readPlain := by decide +kernel
theorem ii_X7_readPlain_X8 : ∀ w ∈ wsX80, w ∈ wsX7_readPlain := fun w h => List.mem_cons_of_mem _ (List.mem_append_left _ (List.mem_append_left _ (List.mem_append_left _ (List.mem_append_left _ (List.mem_append_right _ (h))))))
theorem mm_X7_copyFrom_1 : (.fieldLink RX7 24 "OffTheLead$Sentence" "size" "I" : Cond) ∈ wsX7_copyFrom := by decide +kernel
theorem ii_X7_copyFrom_X7 : ∀ w ∈ wsX70, w ∈ wsX7_copyFrom := fun w h => List.mem_cons_of_mem _ (List.mem_append_right _ (h))
theorem mm_X7_copyFrom_2 : (.fieldLink RX7 28 "OffTheLead$Sentence" "ones" "I" : Cond) ∈ wsX7_copyFrom := by decide +kernel
theorem mm_X7_copyFrom_3 : (.fieldLink RX7 13 "OffTheLead$Sentence" "steps" "[LOffTheLead$Word;" : Cond) ∈ wsX7_copyFrom := by decide +kernel
theorem mm_X7_copyFrom_4 : (.fieldLink RX7 17 "OffTheLead$Sentence" "signs" "[I" : Cond) ∈ wsX7_copyFrom := by decide +kernel
theorem mm_X7_copyFrom_5 : (.fieldLink RX7 21 "OffTheLead$Sentence" "numbers" "[I" : Cond) ∈ wsX7_copyFrom := by decide +kernel
theorem mm_X7_plainFits_1 : (.fieldLink RX7 13 "OffTheLead$Sentence" "steps" "[LOffTheLead$Word;" : Cond) ∈ wsX7_plainFits := by decide +kernel
theorem ii_X7_plainFits_X7 : ∀ w ∈ wsX70, w ∈ wsX7_plainFits := fun w h => List.mem_cons_of_mem _ (List.mem_append_left _ (List.mem_append_left _ (List.mem_append_left _ (List.mem_append_right _ (h)))))
theorem ii_X7_plainFits_X4 : ∀ w ∈ wsX40, w ∈ wsX7_plainFits := fun w h => List.mem_cons_of_mem _ (List.mem_append_left _ (List.mem_append_left _ (List.mem_append_right _ (h))))
theorem mm_X7_plainFits_2 : (.fieldLink RX7 21 "OffTheLead$Sentence" "numbers" "[I" : Cond) ∈ wsX7_plainFits := by decide +kernel
theorem mm_X7_plainFits_3 : (.fieldLink RX7 81 "OffTheLead$Word" "AWAY" "LOffTheLead$Word;" : Cond) ∈ wsX7_plainFits := by decide +kernel
theorem mm_X7_plainFits_4 : (.fieldLink RX7 84 "OffTheLead$Word" "OWNER" "LOffTheLead$Word;" : Cond) ∈ wsX7_plainFits := by decide +kernel
theorem mm_X7_plainFits_5 : (.fieldLink RX7 87 "OffTheLead$Word" "MEETS" "LOffTheLead$Word;" : Cond) ∈ wsX7_plainFits := by decide +kernel
theorem mm_X7_plainFits_6 : (.fieldLink RX7 90 "OffTheLead$Word" "AT" "LOffTheLead$Word;" : Cond) ∈ wsX7_plainFits := by decide +kernel
theorem mm_X7_plainFits_7 : (.fieldLink RX7 107 "OffTheLead$Word" "FRIGHTS" "LOffTheLead$Word;" : Cond) ∈ wsX7_plainFits := by decide +kernel
theorem mm_X7_plainFits_9 : (.fieldLink RX7 110 "OffTheLead$Word" "BITES" "LOffTheLead$Word;" : Cond) ∈ wsX7_plainFits := by decide +kernel
theorem mm_X7_plainFits_10 : (.fieldLink RX7 113 "OffTheLead$Word" "GOOD" "LOffTheLead$Word;" : Cond) ∈ wsX7_plainFits := by decide +kernel
theorem mm_X7_plainFits_8 : (.fieldLink RX7 17 "OffTheLead$Sentence" "signs" "[I" : Cond) ∈ wsX7_plainFits := by decide +kernel
theorem ii_X7_plainFits_X6 : ∀ w ∈ wsX60, w ∈ wsX7_plainFits := fun w h => List.mem_cons_of_mem _ (List.mem_append_left _ (List.mem_append_right _ (h)))
theorem mm_X7_fits_1 : (.fieldLink RX7 24 "OffTheLead$Sentence" "size" "I" : Cond) ∈ wsX7_fits := by decide +kernel
theorem ii_X7_fits_X7 : ∀ w ∈ wsX70, w ∈ wsX7_fits := fun w h => List.mem_cons_of_mem _ (List.mem_append_left _ (List.mem_append_left _ (List.mem_append_left _ (List.mem_append_right _ (h)))))
theorem mm_X7_fits_2 : (.fieldLink RX7 13 "OffTheLead$Sentence" "steps" "[LOffTheLead$Word;" : Cond) ∈ wsX7_fits := by decide +kernel
theorem mm_X7_fits_3 : (.fieldLink RX7 74 "OffTheLead$Word" "NOT" "LOffTheLead$Word;" : Cond) ∈ wsX7_fits := by decide +kernel
theorem mm_X7_fits_4 : (.fieldLink RX7 41 "OffTheLead$Word" "AND" "LOffTheLead$Word;" : Cond) ∈ wsX7_fits := by decide +kernel
theorem mm_X7_fits_5 : (.fieldLink RX7 51 "OffTheLead$Word" "OR" "LOffTheLead$Word;" : Cond) ∈ wsX7_fits := by decide +kernel
