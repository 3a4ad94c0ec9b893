theorem mm_J0_coder_7d493_1 : (.fieldLink RJ0 38 "java/lang/String" "COMPACT_STRINGS" "Z" : Cond) ∈ wsJ0_coder_7d493 := by decide +kernel
theorem mm_J0_coder_7d493_2 : (.fieldLink RJ0 15 "java/lang/String" "coder" "B" : Cond) ∈ wsJ0_coder_7d493 := by decide +kernel
theorem mm_J0_isLatin1_aae02_1 : (.fieldLink RJ0 38 "java/lang/String" "COMPACT_STRINGS" "Z" : Cond) ∈ wsJ0_isLatin1_aae02 := by decide +kernel
theorem mm_J0_isLatin1_aae02_2 : (.fieldLink RJ0 15 "java/lang/String" "coder" "B" : Cond) ∈ wsJ0_isLatin1_aae02 := by decide +kernel
theorem mm_J0_length_8abf5_1 : (.fieldLink RJ0 9 "java/lang/String" "value" "[B" : Cond) ∈ wsJ0_length_8abf5 := by decide +kernel
theorem mm_J0_checkIndex_df160_1 : (.fieldLink RJ0 1053 "jdk/internal/util/Preconditions" "SIOOBE_FORMATTER" "Ljava/util/function/BiFunction;" : Cond) ∈ wsJ0_checkIndex_df160 := by decide +kernel
theorem mm_J0_charAt_5068e_1 : (.fieldLink RJ0 9 "java/lang/String" "value" "[B" : Cond) ∈ wsJ0_charAt_5068e := by decide +kernel
theorem mm_X10_of_1 : (.fieldLink RX10 105 "OffTheLead$Word" "ALL" "[LOffTheLead$Word;" : Cond) ∈ wsX10_of := by decide +kernel
theorem mm_X10_of_3 : (.fieldLink RX10 76 "OffTheLead$Word" "NAME" "LOffTheLead$Word;" : Cond) ∈ wsX10_of := by decide +kernel
theorem mm_X10_of_2 : (.fieldLink RX10 101 "OffTheLead$Word" "text" "Ljava/lang/String;" : Cond) ∈ wsX10_of := by decide +kernel
theorem mm_X8_looksAtMark_1 : (.fieldLink RX8 46 "OffTheLead$Tape" "sort" "I" : Cond) ∈ wsX8_looksAtMark := by decide +kernel
theorem ii_X8_looksAtMark_X8 : ∀ w ∈ wsX80, w ∈ wsX8_looksAtMark := fun w h => List.mem_cons_of_mem _ (List.mem_append_right _ (h))
theorem mm_X8_looksAtMark_2 : (.fieldLink RX8 63 "OffTheLead$Tape" "value" "I" : Cond) ∈ wsX8_looksAtMark := by decide +kernel
theorem mm_X8_byteOf_1 : (.fieldLink RX8 24 "OffTheLead$Tape" "size" "I" : Cond) ∈ wsX8_byteOf := by decide +kernel
theorem ii_X8_byteOf_X8 : ∀ w ∈ wsX80, w ∈ wsX8_byteOf := fun w h => List.mem_cons_of_mem _ (List.mem_append_right _ (h))
theorem mm_X8_byteOf_2 : (.fieldLink RX8 9 "OffTheLead$Tape" "bytes" "[B" : Cond) ∈ wsX8_byteOf := by decide +kernel
theorem mm_X8_refuse_1 : (.fieldLink RX8 34 "OffTheLead$Tape" "fault" "I" : Cond) ∈ wsX8_refuse := by decide +kernel
theorem ii_X8_refuse_X8 : ∀ w ∈ wsX80, w ∈ wsX8_refuse := fun w h => List.mem_cons_of_mem _ (List.mem_append_right _ (h))
theorem mm_X8_refuse_2 : (.fieldLink RX8 43 "OffTheLead$Tape" "at" "I" : Cond) ∈ wsX8_refuse := by decide +kernel
theorem mm_X8_refuse_3 : (.fieldLink RX8 37 "OffTheLead$Tape" "faultAt" "I" : Cond) ∈ wsX8_refuse := by decide +kernel
theorem mm_X8_stepOverRun_1 : (.fieldLink RX8 69 "OffTheLead$Tape" "name" "J" : Cond) ∈ wsX8_stepOverRun := by decide +kernel
theorem ii_X8_stepOverRun_X8 : ∀ w ∈ wsX80, w ∈ wsX8_stepOverRun := fun w h => List.mem_cons_of_mem _ (List.mem_append_right _ (h))
theorem mm_X8_stepOverRun_2 : (.fieldLink RX8 63 "OffTheLead$Tape" "value" "I" : Cond) ∈ wsX8_stepOverRun := by decide +kernel
theorem mm_X8_stepOverRun_3 : (.fieldLink RX8 31 "OffTheLead$Tape" "next" "I" : Cond) ∈ wsX8_stepOverRun := by decide +kernel
theorem mm_X8_stepOverRun_4 : (.fieldLink RX8 24 "OffTheLead$Tape" "size" "I" : Cond) ∈ wsX8_stepOverRun := by decide +kernel
theorem mm_X8_stepOverRun_6 : (.fieldLink RX8 43 "OffTheLead$Tape" "at" "I" : Cond) ∈ wsX8_stepOverRun := by decide +kernel
theorem mm_X8_stepOverRun_7 : (.fieldLink RX8 46 "OffTheLead$Tape" "sort" "I" : Cond) ∈ wsX8_stepOverRun := by decide +kernel
theorem mm_X8_stepOverRun_5 : (.fieldLink RX8 9 "OffTheLead$Tape" "bytes" "[B" : Cond) ∈ wsX8_stepOverRun := by decide +kernel
theorem mm_X8_step_1 : (.fieldLink RX8 15 "OffTheLead$Word" "NO_WORD" "LOffTheLead$Word;" : Cond) ∈ wsX8_step := by decide +kernel
theorem mm_X8_step_2 : (.fieldLink RX8 21 "OffTheLead$Tape" "word" "LOffTheLead$Word;" : Cond) ∈ wsX8_step := by decide +kernel
theorem ii_X8_step_X8 : ∀ w ∈ wsX80, w ∈ wsX8_step := fun w h => List.mem_cons_of_mem _ (List.mem_append_right _ (h))
theorem mm_X8_step_3 : (.fieldLink RX8 31 "OffTheLead$Tape" "next" "I" : Cond) ∈ wsX8_step := by decide +kernel
theorem mm_X8_step_4 : (.fieldLink RX8 24 "OffTheLead$Tape" "size" "I" : Cond) ∈ wsX8_step := by decide +kernel
theorem mm_X8_step_6 : (.fieldLink RX8 43 "OffTheLead$Tape" "at" "I" : Cond) ∈ wsX8_step := by decide +kernel
theorem mm_X8_step_7 : (.fieldLink RX8 28 "OffTheLead$Tape" "most" "I" : Cond) ∈ wsX8_step := by decide +kernel
theorem mm_X8_step_5 : (.fieldLink RX8 9 "OffTheLead$Tape" "bytes" "[B" : Cond) ∈ wsX8_step := by decide +kernel
theorem mm_X8_step_8 : (.fieldLink RX8 46 "OffTheLead$Tape" "sort" "I" : Cond) ∈ wsX8_step := by decide +kernel
theorem mm_X8_step_9 : (.fieldLink RX8 63 "OffTheLead$Tape" "value" "I" : Cond) ∈ wsX8_step := by decide +kernel
theorem mm_X8_open_1 : (.fieldLink RX8 28 "OffTheLead$Tape" "most" "I" : Cond) ∈ wsX8_open := by decide +kernel
theorem ii_X8_open_X8 : ∀ w ∈ wsX80, w ∈ wsX8_open := fun w h => List.mem_cons_of_mem _ (List.mem_append_right _ (h))
theorem mm_X8_open_2 : (.fieldLink RX8 31 "OffTheLead$Tape" "next" "I" : Cond) ∈ wsX8_open := by decide +kernel
theorem mm_X8_open_3 : (.fieldLink RX8 34 "OffTheLead$Tape" "fault" "I" : Cond) ∈ wsX8_open := by decide +kernel
theorem mm_X8_open_4 : (.fieldLink RX8 37 "OffTheLead$Tape" "faultAt" "I" : Cond) ∈ wsX8_open := by decide +kernel
theorem mm_X8_takeNumber_1 : (.fieldLink RX8 46 "OffTheLead$Tape" "sort" "I" : Cond) ∈ wsX8_takeNumber := by decide +kernel
theorem ii_X8_takeNumber_X8 : ∀ w ∈ wsX80, w ∈ wsX8_takeNumber := fun w h => List.mem_cons_of_mem _ (List.mem_append_right _ (h))
theorem mm_X8_takeNumber_2 : (.fieldLink RX8 63 "OffTheLead$Tape" "value" "I" : Cond) ∈ wsX8_takeNumber := by decide +kernel
theorem mm_X8_takeNumber_3 : (.fieldLink RX8 79 "OffTheLead$Tape" "taken" "I" : Cond) ∈ wsX8_takeNumber := by decide +kernel
theorem mm_X8_takeHours_1 : (.fieldLink RX8 79 "OffTheLead$Tape" "taken" "I" : Cond) ∈ wsX8_takeHours := by decide +kernel
theorem ii_X8_takeHours_X8 : ∀ w ∈ wsX80, w ∈ wsX8_takeHours := fun w h => List.mem_cons_of_mem _ (List.mem_append_right _ (h))
theorem mm_X8_takeHours_2 : (.fieldLink RX8 86 "OffTheLead$Tape" "from" "I" : Cond) ∈ wsX8_takeHours := by decide +kernel
theorem mm_X8_takeHours_3 : (.fieldLink RX8 89 "OffTheLead$Tape" "to" "I" : Cond) ∈ wsX8_takeHours := by decide +kernel
theorem mm_X8_takeNamed_1 : (.fieldLink RX8 21 "OffTheLead$Tape" "word" "LOffTheLead$Word;" : Cond) ∈ wsX8_takeNamed := by decide +kernel
theorem ii_X8_takeNamed_X8 : ∀ w ∈ wsX80, w ∈ wsX8_takeNamed := fun w h => List.mem_cons_of_mem _ (List.mem_append_left _ (List.mem_append_left _ (List.mem_append_left _ (List.mem_append_right _ (h)))))
theorem mm_X8_takeNamed_2 : (.fieldLink RX8 92 "OffTheLead$Word" "NAME" "LOffTheLead$Word;" : Cond) ∈ wsX8_takeNamed := by decide +kernel
theorem mm_X8_takeNamed_3 : (.fieldLink RX8 69 "OffTheLead$Tape" "name" "J" : Cond) ∈ wsX8_takeNamed := by decide +kernel
theorem mm_X8_takeNamed_4 : (.fieldLink RX8 79 "OffTheLead$Tape" "taken" "I" : Cond) ∈ wsX8_takeNamed := by decide +kernel
theorem mm_X8_takeNewName_1 : (.fieldLink RX8 21 "OffTheLead$Tape" "word" "LOffTheLead$Word;" : Cond) ∈ wsX8_takeNewName := by decide +kernel
theorem ii_X8_takeNewName_X8 : ∀ w ∈ wsX80, w ∈ wsX8_takeNewName := fun w h => List.mem_cons_of_mem _ (List.mem_append_left _ (List.mem_append_left _ (List.mem_append_left _ (List.mem_append_right _ (h)))))
theorem mm_X8_takeNewName_2 : (.fieldLink RX8 92 "OffTheLead$Word" "NAME" "LOffTheLead$Word;" : Cond) ∈ wsX8_takeNewName := by decide +kernel
theorem mm_X8_takeNewName_3 : (.fieldLink RX8 69 "OffTheLead$Tape" "name" "J" : Cond) ∈ wsX8_takeNewName := by decide +kernel
theorem mm_X8_takeNewName_4 : (.fieldLink RX8 101 "OffTheLead$Tape" "takenName" "J" : Cond) ∈ wsX8_takeNewName := by decide +kernel
theorem mm_X8_append_1 : (.fieldLink RX8 24 "OffTheLead$Tape" "size" "I" : Cond) ∈ wsX8_append := by decide +kernel
theorem ii_X8_append_X8 : ∀ w ∈ wsX80, w ∈ wsX8_append := fun w h => List.mem_cons_of_mem _ (List.mem_append_right _ (h))
theorem mm_X8_append_2 : (.fieldLink RX8 9 "OffTheLead$Tape" "bytes" "[B" : Cond) ∈ wsX8_append := by decide +kernel
