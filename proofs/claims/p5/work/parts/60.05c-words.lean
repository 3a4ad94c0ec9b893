theorem ii_X0_mayBegin_X8 : ∀ w ∈ wsX80, w ∈ wsX0_mayBegin := fun w h => List.mem_cons_of_mem _ (List.mem_append_left _ (List.mem_append_left _ (List.mem_append_left _ (List.mem_append_left _ (List.mem_append_right _ (h))))))
theorem mm_X0_mayBegin_1 : (.fieldLink RX0 54 "OffTheLead$Word" "NAME" "LOffTheLead$Word;" : Cond) ∈ wsX0_mayBegin := by decide +kernel
theorem mm_X0_mayBegin_2 : (.fieldLink RX0 70 "OffTheLead$Word" "ALLOW" "LOffTheLead$Word;" : Cond) ∈ wsX0_mayBegin := by decide +kernel
theorem mm_X0_mayBegin_7 : (.fieldLink RX0 30 "OffTheLead$Book" "lines" "I" : Cond) ∈ wsX0_mayBegin := by decide +kernel
theorem ii_X0_mayBegin_X0 : ∀ w ∈ wsX00, w ∈ wsX0_mayBegin := fun w h => List.mem_cons_of_mem _ (List.mem_append_left _ (List.mem_append_left _ (List.mem_append_left _ (List.mem_append_right _ (h)))))
theorem mm_X0_mayBegin_3 : (.fieldLink RX0 73 "OffTheLead$Word" "FORBID" "LOffTheLead$Word;" : Cond) ∈ wsX0_mayBegin := by decide +kernel
theorem mm_X0_mayBegin_4 : (.fieldLink RX0 76 "OffTheLead$Word" "FENCE" "LOffTheLead$Word;" : Cond) ∈ wsX0_mayBegin := by decide +kernel
theorem mm_X0_mayBegin_5 : (.fieldLink RX0 79 "OffTheLead$Word" "SIGN" "LOffTheLead$Word;" : Cond) ∈ wsX0_mayBegin := by decide +kernel
theorem mm_X0_mayBegin_6 : (.fieldLink RX0 82 "OffTheLead$Word" "DAY" "LOffTheLead$Word;" : Cond) ∈ wsX0_mayBegin := by decide +kernel
theorem ii_X0_readAct_X8 : ∀ w ∈ wsX80, w ∈ wsX0_readAct := fun w h => List.mem_cons_of_mem _ (List.mem_append_left _ (List.mem_append_left _ (List.mem_append_left _ (List.mem_append_left _ (List.mem_append_right _ (h))))))
theorem mm_X0_readAct_1 : (.fieldLink RX0 54 "OffTheLead$Word" "NAME" "LOffTheLead$Word;" : Cond) ∈ wsX0_readAct := by decide +kernel
theorem mm_X0_readAct_3 : (.fieldLink RX0 17 "OffTheLead$Book" "whom" "[I" : Cond) ∈ wsX0_readAct := by decide +kernel
theorem ii_X0_readAct_X0 : ∀ w ∈ wsX00, w ∈ wsX0_readAct := fun w h => List.mem_cons_of_mem _ (List.mem_append_left _ (List.mem_append_left _ (List.mem_append_left _ (List.mem_append_right _ (h)))))
theorem mm_X0_readAct_4 : (.fieldLink RX0 30 "OffTheLead$Book" "lines" "I" : Cond) ∈ wsX0_readAct := by decide +kernel
theorem mm_X0_readAct_7 : (.fieldLink RX0 122 "OffTheLead$Word" "COMES" "LOffTheLead$Word;" : Cond) ∈ wsX0_readAct := by decide +kernel
theorem mm_X0_readAct_2 : (.fieldLink RX0 89 "OffTheLead$Word" "NO_WORD" "LOffTheLead$Word;" : Cond) ∈ wsX0_readAct := by decide +kernel
theorem mm_X0_readAct_5 : (.fieldLink RX0 92 "OffTheLead$Word" "HELD" "LOffTheLead$Word;" : Cond) ∈ wsX0_readAct := by decide +kernel
theorem mm_X0_readAct_6 : (.fieldLink RX0 95 "OffTheLead$Word" "LOOSE" "LOffTheLead$Word;" : Cond) ∈ wsX0_readAct := by decide +kernel
theorem mm_X0_readLine_1 : (.fieldLink RX0 13 "OffTheLead$Book" "acts" "[LOffTheLead$Word;" : Cond) ∈ wsX0_readLine := by decide +kernel
theorem ii_X0_readLine_X0 : ∀ w ∈ wsX00, w ∈ wsX0_readLine := fun w h => List.mem_cons_of_mem _ (List.mem_append_left _ (List.mem_append_left _ (List.mem_append_left _ (List.mem_append_left _ (List.mem_append_right _ (h))))))
theorem mm_X0_readLine_2 : (.fieldLink RX0 30 "OffTheLead$Book" "lines" "I" : Cond) ∈ wsX0_readLine := by decide +kernel
theorem mm_X0_readLine_3 : (.fieldLink RX0 89 "OffTheLead$Word" "NO_WORD" "LOffTheLead$Word;" : Cond) ∈ wsX0_readLine := by decide +kernel
theorem mm_X0_readLine_4 : (.fieldLink RX0 92 "OffTheLead$Word" "HELD" "LOffTheLead$Word;" : Cond) ∈ wsX0_readLine := by decide +kernel
theorem mm_X0_readLine_5 : (.fieldLink RX0 95 "OffTheLead$Word" "LOOSE" "LOffTheLead$Word;" : Cond) ∈ wsX0_readLine := by decide +kernel
theorem mm_X0_readLine_6 : (.fieldLink RX0 79 "OffTheLead$Word" "SIGN" "LOffTheLead$Word;" : Cond) ∈ wsX0_readLine := by decide +kernel
theorem mm_X0_readLine_7 : (.fieldLink RX0 82 "OffTheLead$Word" "DAY" "LOffTheLead$Word;" : Cond) ∈ wsX0_readLine := by decide +kernel
theorem mm_X0_readLine_8 : (.fieldLink RX0 17 "OffTheLead$Book" "whom" "[I" : Cond) ∈ wsX0_readLine := by decide +kernel
theorem ii_X0_readLine_X8 : ∀ w ∈ wsX80, w ∈ wsX0_readLine := fun w h => List.mem_cons_of_mem _ (List.mem_append_left _ (List.mem_append_left _ (List.mem_append_left _ (List.mem_append_right _ (h)))))
theorem mm_X0_readLine_9 : (.fieldLink RX0 21 "OffTheLead$Book" "where" "[I" : Cond) ∈ wsX0_readLine := by decide +kernel
theorem mm_X0_readLine_10 : (.fieldLink RX0 76 "OffTheLead$Word" "FENCE" "LOffTheLead$Word;" : Cond) ∈ wsX0_readLine := by decide +kernel
theorem mm_X0_readLine_11 : (.fieldLink RX0 24 "OffTheLead$Book" "froms" "[I" : Cond) ∈ wsX0_readLine := by decide +kernel
theorem mm_X0_readLine_12 : (.fieldLink RX0 27 "OffTheLead$Book" "tos" "[I" : Cond) ∈ wsX0_readLine := by decide +kernel
theorem mm_X0_readAll_1 : (.fieldLink RX0 30 "OffTheLead$Book" "lines" "I" : Cond) ∈ wsX0_readAll := by decide +kernel
theorem ii_X0_readAll_X0 : ∀ w ∈ wsX00, w ∈ wsX0_readAll := fun w h => List.mem_cons_of_mem _ (List.mem_append_left _ (List.mem_append_left _ (List.mem_append_left _ (List.mem_append_left _ (List.mem_append_right _ (h))))))
theorem ii_X0_readAll_X8 : ∀ w ∈ wsX80, w ∈ wsX0_readAll := fun w h => List.mem_cons_of_mem _ (List.mem_append_left _ (List.mem_append_left _ (List.mem_append_left _ (List.mem_append_right _ (h)))))
theorem mm_X0_liveLine_1 : (.fieldLink RX0 13 "OffTheLead$Book" "acts" "[LOffTheLead$Word;" : Cond) ∈ wsX0_liveLine := by decide +kernel
theorem ii_X0_liveLine_X0 : ∀ w ∈ wsX00, w ∈ wsX0_liveLine := fun w h => List.mem_cons_of_mem _ (List.mem_append_left _ (List.mem_append_left _ (List.mem_append_left _ (List.mem_append_left _ (List.mem_append_right _ (h))))))
theorem mm_X0_liveLine_2 : (.fieldLink RX0 70 "OffTheLead$Word" "ALLOW" "LOffTheLead$Word;" : Cond) ∈ wsX0_liveLine := by decide +kernel
theorem mm_X0_liveLine_6 : (.fieldLink RX0 73 "OffTheLead$Word" "FORBID" "LOffTheLead$Word;" : Cond) ∈ wsX0_liveLine := by decide +kernel
theorem mm_X0_liveLine_7 : (.fieldLink RX0 76 "OffTheLead$Word" "FENCE" "LOffTheLead$Word;" : Cond) ∈ wsX0_liveLine := by decide +kernel
theorem mm_X0_liveLine_8 : (.fieldLink RX0 79 "OffTheLead$Word" "SIGN" "LOffTheLead$Word;" : Cond) ∈ wsX0_liveLine := by decide +kernel
theorem mm_X0_liveLine_10 : (.fieldLink RX0 92 "OffTheLead$Word" "HELD" "LOffTheLead$Word;" : Cond) ∈ wsX0_liveLine := by decide +kernel
theorem mm_X0_liveLine_11 : (.fieldLink RX0 95 "OffTheLead$Word" "LOOSE" "LOffTheLead$Word;" : Cond) ∈ wsX0_liveLine := by decide +kernel
theorem mm_X0_liveLine_12 : (.fieldLink RX0 122 "OffTheLead$Word" "COMES" "LOffTheLead$Word;" : Cond) ∈ wsX0_liveLine := by decide +kernel
theorem mm_X0_liveLine_9 : (.fieldLink RX0 17 "OffTheLead$Book" "whom" "[I" : Cond) ∈ wsX0_liveLine := by decide +kernel
theorem ii_X0_liveLine_X4 : ∀ w ∈ wsX40, w ∈ wsX0_liveLine := fun w h => List.mem_cons_of_mem _ (List.mem_append_left _ (List.mem_append_left _ (List.mem_append_left _ (List.mem_append_right _ (h)))))
theorem mm_X0_liveLine_3 : (.fieldLink RX0 21 "OffTheLead$Book" "where" "[I" : Cond) ∈ wsX0_liveLine := by decide +kernel
theorem mm_X0_liveLine_4 : (.fieldLink RX0 24 "OffTheLead$Book" "froms" "[I" : Cond) ∈ wsX0_liveLine := by decide +kernel
theorem mm_X0_liveLine_5 : (.fieldLink RX0 27 "OffTheLead$Book" "tos" "[I" : Cond) ∈ wsX0_liveLine := by decide +kernel
theorem mm_X0_liveAll_1 : (.fieldLink RX0 125 "OffTheLead$Book" "why" "I" : Cond) ∈ wsX0_liveAll := by decide +kernel
theorem ii_X0_liveAll_X0 : ∀ w ∈ wsX00, w ∈ wsX0_liveAll := fun w h => List.mem_cons_of_mem _ (List.mem_append_left _ (List.mem_append_left _ (List.mem_append_left _ (List.mem_append_left _ (List.mem_append_right _ (h))))))
theorem mm_X0_liveAll_2 : (.fieldLink RX0 30 "OffTheLead$Book" "lines" "I" : Cond) ∈ wsX0_liveAll := by decide +kernel
