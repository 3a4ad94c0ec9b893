theorem mm_X11_feed_1 : (.fieldLink RX11 10 "OffTheLead" "tape" "LOffTheLead$Tape;" : Cond) ∈ wsX11_feed := by decide +kernel
theorem ii_X11_feed_X11 : ∀ w ∈ wsX110, w ∈ wsX11_feed := fun w h => List.mem_cons_of_mem _ (List.mem_append_left _ (List.mem_append_right _ (h)))
theorem ii_X11_feed_X8 : ∀ w ∈ wsX80, w ∈ wsX11_feed := fun w h => List.mem_cons_of_mem _ (List.mem_append_right _ (h))
theorem mm_X11_end_1 : (.fieldLink RX11 10 "OffTheLead" "tape" "LOffTheLead$Tape;" : Cond) ∈ wsX11_end := by decide +kernel
theorem ii_X11_end_X11 : ∀ w ∈ wsX110, w ∈ wsX11_end := fun w h => List.mem_cons_of_mem _ (List.mem_append_left _ (List.mem_append_right _ (h)))
theorem ii_X11_end_X8 : ∀ w ∈ wsX80, w ∈ wsX11_end := fun w h => List.mem_cons_of_mem _ (List.mem_append_right _ (h))
theorem mm_X11_park_1 : (.fieldLink RX11 10 "OffTheLead" "tape" "LOffTheLead$Tape;" : Cond) ∈ wsX11_park := by decide +kernel
theorem ii_X11_park_X11 : ∀ w ∈ wsX110, w ∈ wsX11_park := fun w h => List.mem_cons_of_mem _ (List.mem_append_left _ (List.mem_append_left _ (List.mem_append_left _ (List.mem_append_left _ (List.mem_append_left _ (List.mem_append_left _ (List.mem_append_left _ (List.mem_append_right _ (h)))))))))
theorem mm_X11_park_2 : (.fieldLink RX11 29 "OffTheLead" "reader" "LOffTheLead$ParkReader;" : Cond) ∈ wsX11_park := by decide +kernel
theorem mm_X11_park_3 : (.fieldLink RX11 23 "OffTheLead" "spare" "LOffTheLead$Park;" : Cond) ∈ wsX11_park := by decide +kernel
theorem mm_X11_park_4 : (.fieldLink RX11 117 "OffTheLead" "latestFault" "I" : Cond) ∈ wsX11_park := by decide +kernel
theorem mm_X11_park_5 : (.fieldLink RX11 19 "OffTheLead" "now" "LOffTheLead$Park;" : Cond) ∈ wsX11_park := by decide +kernel
theorem mm_X11_park_6 : (.fieldLink RX11 43 "OffTheLead" "phrase" "LOffTheLead$Sentence;" : Cond) ∈ wsX11_park := by decide +kernel
theorem mm_X11_park_7 : (.fieldLink RX11 60 "OffTheLead" "history" "LOffTheLead$History;" : Cond) ∈ wsX11_park := by decide +kernel
theorem ii_X11_park_X8 : ∀ w ∈ wsX80, w ∈ wsX11_park := fun w h => List.mem_cons_of_mem _ (List.mem_append_left _ (List.mem_append_left _ (List.mem_append_left _ (List.mem_append_left _ (List.mem_append_left _ (List.mem_append_left _ (List.mem_append_right _ (h))))))))
theorem mm_X11_fault_1 : (.fieldLink RX11 117 "OffTheLead" "latestFault" "I" : Cond) ∈ wsX11_fault := by decide +kernel
theorem ii_X11_fault_X11 : ∀ w ∈ wsX110, w ∈ wsX11_fault := fun w h => List.mem_cons_of_mem _ (List.mem_append_right _ (h))
theorem mm_X11_place_1 : (.fieldLink RX11 19 "OffTheLead" "now" "LOffTheLead$Park;" : Cond) ∈ wsX11_place := by decide +kernel
theorem ii_X11_place_X11 : ∀ w ∈ wsX110, w ∈ wsX11_place := fun w h => List.mem_cons_of_mem _ (List.mem_append_left _ (List.mem_append_left _ (List.mem_append_right _ (h))))
theorem ii_X11_place_X4 : ∀ w ∈ wsX40, w ∈ wsX11_place := fun w h => List.mem_cons_of_mem _ (List.mem_append_left _ (List.mem_append_right _ (h)))
theorem mm_X11_now_1 : (.fieldLink RX11 19 "OffTheLead" "now" "LOffTheLead$Park;" : Cond) ∈ wsX11_now := by decide +kernel
theorem ii_X11_now_X11 : ∀ w ∈ wsX110, w ∈ wsX11_now := fun w h => List.mem_cons_of_mem _ (List.mem_append_left _ (List.mem_append_left _ (List.mem_append_left _ (List.mem_append_right _ (h)))))
theorem ii_X11_now_X4 : ∀ w ∈ wsX40, w ∈ wsX11_now := fun w h => List.mem_cons_of_mem _ (List.mem_append_left _ (List.mem_append_left _ (List.mem_append_right _ (h))))
theorem mm_X11_allow_1 : (.fieldLink RX11 19 "OffTheLead" "now" "LOffTheLead$Park;" : Cond) ∈ wsX11_allow := by decide +kernel
theorem ii_X11_allow_X11 : ∀ w ∈ wsX110, w ∈ wsX11_allow := fun w h => List.mem_cons_of_mem _ (List.mem_append_left _ (List.mem_append_left _ (List.mem_append_left _ (List.mem_append_left _ (List.mem_append_right _ (h))))))
theorem mm_X11_allow_2 : (.fieldLink RX11 60 "OffTheLead" "history" "LOffTheLead$History;" : Cond) ∈ wsX11_allow := by decide +kernel
theorem mm_X11_forbid_1 : (.fieldLink RX11 19 "OffTheLead" "now" "LOffTheLead$Park;" : Cond) ∈ wsX11_forbid := by decide +kernel
theorem ii_X11_forbid_X11 : ∀ w ∈ wsX110, w ∈ wsX11_forbid := fun w h => List.mem_cons_of_mem _ (List.mem_append_left _ (List.mem_append_left _ (List.mem_append_left _ (List.mem_append_left _ (List.mem_append_right _ (h))))))
theorem mm_X11_forbid_2 : (.fieldLink RX11 60 "OffTheLead" "history" "LOffTheLead$History;" : Cond) ∈ wsX11_forbid := by decide +kernel
theorem mm_X11_fence_1 : (.fieldLink RX11 19 "OffTheLead" "now" "LOffTheLead$Park;" : Cond) ∈ wsX11_fence := by decide +kernel
theorem ii_X11_fence_X11 : ∀ w ∈ wsX110, w ∈ wsX11_fence := fun w h => List.mem_cons_of_mem _ (List.mem_append_left _ (List.mem_append_left _ (List.mem_append_left _ (List.mem_append_left _ (List.mem_append_right _ (h))))))
theorem mm_X11_fence_2 : (.fieldLink RX11 60 "OffTheLead" "history" "LOffTheLead$History;" : Cond) ∈ wsX11_fence := by decide +kernel
theorem ii_X11_fence_X4 : ∀ w ∈ wsX40, w ∈ wsX11_fence := fun w h => List.mem_cons_of_mem _ (List.mem_append_left _ (List.mem_append_left _ (List.mem_append_left _ (List.mem_append_right _ (h)))))
theorem mm_X11_sign_1 : (.fieldLink RX11 60 "OffTheLead" "history" "LOffTheLead$History;" : Cond) ∈ wsX11_sign := by decide +kernel
theorem ii_X11_sign_X11 : ∀ w ∈ wsX110, w ∈ wsX11_sign := fun w h => List.mem_cons_of_mem _ (List.mem_append_left _ (List.mem_append_left _ (List.mem_append_left _ (List.mem_append_left _ (List.mem_append_right _ (h))))))
theorem mm_X11_sign_2 : (.fieldLink RX11 19 "OffTheLead" "now" "LOffTheLead$Park;" : Cond) ∈ wsX11_sign := by decide +kernel
theorem mm_X11_hold_1 : (.fieldLink RX11 19 "OffTheLead" "now" "LOffTheLead$Park;" : Cond) ∈ wsX11_hold := by decide +kernel
theorem ii_X11_hold_X11 : ∀ w ∈ wsX110, w ∈ wsX11_hold := fun w h => List.mem_cons_of_mem _ (List.mem_append_left _ (List.mem_append_left _ (List.mem_append_left _ (List.mem_append_left _ (List.mem_append_right _ (h))))))
theorem mm_X11_hold_2 : (.fieldLink RX11 60 "OffTheLead" "history" "LOffTheLead$History;" : Cond) ∈ wsX11_hold := by decide +kernel
theorem mm_X11_come_1 : (.fieldLink RX11 19 "OffTheLead" "now" "LOffTheLead$Park;" : Cond) ∈ wsX11_come := by decide +kernel
theorem ii_X11_come_X11 : ∀ w ∈ wsX110, w ∈ wsX11_come := fun w h => List.mem_cons_of_mem _ (List.mem_append_left _ (List.mem_append_left _ (List.mem_append_left _ (List.mem_append_left _ (List.mem_append_right _ (h))))))
theorem mm_X11_come_2 : (.fieldLink RX11 60 "OffTheLead" "history" "LOffTheLead$History;" : Cond) ∈ wsX11_come := by decide +kernel
theorem mm_X11_days_1 : (.fieldLink RX11 60 "OffTheLead" "history" "LOffTheLead$History;" : Cond) ∈ wsX11_days := by decide +kernel
theorem ii_X11_days_X11 : ∀ w ∈ wsX110, w ∈ wsX11_days := fun w h => List.mem_cons_of_mem _ (List.mem_append_left _ (List.mem_append_left _ (List.mem_append_left _ (List.mem_append_left _ (List.mem_append_left _ (List.mem_append_right _ (h)))))))
theorem mm_X11_days_2 : (.fieldLink RX11 19 "OffTheLead" "now" "LOffTheLead$Park;" : Cond) ∈ wsX11_days := by decide +kernel
theorem mm_X11_days_3 : (.fieldLink RX11 53 "OffTheLead" "calendar" "LOffTheLead$Days;" : Cond) ∈ wsX11_days := by decide +kernel
theorem mm_X11_undo_1 : (.fieldLink RX11 60 "OffTheLead" "history" "LOffTheLead$History;" : Cond) ∈ wsX11_undo := by decide +kernel
theorem ii_X11_undo_X11 : ∀ w ∈ wsX110, w ∈ wsX11_undo := fun w h => List.mem_cons_of_mem _ (List.mem_append_left _ (List.mem_append_left _ (List.mem_append_left _ (List.mem_append_left _ (List.mem_append_right _ (h))))))
theorem mm_X11_undo_2 : (.fieldLink RX11 19 "OffTheLead" "now" "LOffTheLead$Park;" : Cond) ∈ wsX11_undo := by decide +kernel
theorem ii_X11_undo_X3 : ∀ w ∈ wsX30, w ∈ wsX11_undo := fun w h => List.mem_cons_of_mem _ (List.mem_append_left _ (List.mem_append_left _ (List.mem_append_left _ (List.mem_append_right _ (h)))))
theorem mm_X11_there_1 : (.fieldLink RX11 19 "OffTheLead" "now" "LOffTheLead$Park;" : Cond) ∈ wsX11_there := by decide +kernel
theorem ii_X11_there_X11 : ∀ w ∈ wsX110, w ∈ wsX11_there := fun w h => List.mem_cons_of_mem _ (List.mem_append_left _ (List.mem_append_left _ (List.mem_append_right _ (h))))
theorem mm_X11_meets_1 : (.fieldLink RX11 19 "OffTheLead" "now" "LOffTheLead$Park;" : Cond) ∈ wsX11_meets := by decide +kernel
theorem ii_X11_meets_X11 : ∀ w ∈ wsX110, w ∈ wsX11_meets := fun w h => List.mem_cons_of_mem _ (List.mem_append_left _ (List.mem_append_left _ (List.mem_append_right _ (h))))
theorem mm_X11_best_1 : (.fieldLink RX11 19 "OffTheLead" "now" "LOffTheLead$Park;" : Cond) ∈ wsX11_best := by decide +kernel
theorem ii_X11_best_X11 : ∀ w ∈ wsX110, w ∈ wsX11_best := fun w h => List.mem_cons_of_mem _ (List.mem_append_left _ (List.mem_append_left _ (List.mem_append_left _ (List.mem_append_right _ (h)))))
theorem ii_X11_best_X4 : ∀ w ∈ wsX40, w ∈ wsX11_best := fun w h => List.mem_cons_of_mem _ (List.mem_append_left _ (List.mem_append_left _ (List.mem_append_right _ (h))))
theorem mm_X11_best_2 : (.fieldLink RX11 94 "OffTheLead" "latestFrom" "I" : Cond) ∈ wsX11_best := by decide +kernel
theorem mm_X11_best_3 : (.fieldLink RX11 97 "OffTheLead" "latestTo" "I" : Cond) ∈ wsX11_best := by decide +kernel
theorem mm_X11_bestAt_2 : (.fieldLink RX11 97 "OffTheLead" "latestTo" "I" : Cond) ∈ wsX11_bestAt := by decide +kernel
theorem ii_X11_bestAt_X11 : ∀ w ∈ wsX110, w ∈ wsX11_bestAt := fun w h => List.mem_cons_of_mem _ (List.mem_append_right _ (h))
theorem mm_X11_bestAt_1 : (.fieldLink RX11 94 "OffTheLead" "latestFrom" "I" : Cond) ∈ wsX11_bestAt := by decide +kernel
theorem mm_X11_fences_1 : (.fieldLink RX11 23 "OffTheLead" "spare" "LOffTheLead$Park;" : Cond) ∈ wsX11_fences := by decide +kernel
theorem ii_X11_fences_X11 : ∀ w ∈ wsX110, w ∈ wsX11_fences := fun w h => List.mem_cons_of_mem _ (List.mem_append_left _ (List.mem_append_left _ (List.mem_append_left _ (List.mem_append_right _ (h)))))
theorem mm_X11_fences_2 : (.fieldLink RX11 19 "OffTheLead" "now" "LOffTheLead$Park;" : Cond) ∈ wsX11_fences := by decide +kernel
theorem mm_X11_perils_1 : (.fieldLink RX11 19 "OffTheLead" "now" "LOffTheLead$Park;" : Cond) ∈ wsX11_perils := by decide +kernel
theorem ii_X11_perils_X11 : ∀ w ∈ wsX110, w ∈ wsX11_perils := fun w h => List.mem_cons_of_mem _ (List.mem_append_left _ (List.mem_append_left _ (List.mem_append_left _ (List.mem_append_right _ (h)))))
theorem ii_X11_perils_X4 : ∀ w ∈ wsX40, w ∈ wsX11_perils := fun w h => List.mem_cons_of_mem _ (List.mem_append_left _ (List.mem_append_left _ (List.mem_append_right _ (h))))
theorem ii_X11_perils_X6 : ∀ w ∈ wsX60, w ∈ wsX11_perils := fun w h => List.mem_cons_of_mem _ (List.mem_append_left _ (List.mem_append_right _ (h)))
theorem mm_X11_rounds_1 : (.fieldLink RX11 23 "OffTheLead" "spare" "LOffTheLead$Park;" : Cond) ∈ wsX11_rounds := by decide +kernel
theorem ii_X11_rounds_X11 : ∀ w ∈ wsX110, w ∈ wsX11_rounds := fun w h => List.mem_cons_of_mem _ (List.mem_append_left _ (List.mem_append_left _ (List.mem_append_left _ (List.mem_append_right _ (h)))))
theorem mm_X11_rounds_2 : (.fieldLink RX11 19 "OffTheLead" "now" "LOffTheLead$Park;" : Cond) ∈ wsX11_rounds := by decide +kernel
theorem mm_X11_rounds_4 : (.fieldLink RX11 90 "OffTheLead" "latestPartedGood" "I" : Cond) ∈ wsX11_rounds := by decide +kernel
theorem mm_X11_rounds_3 : (.fieldLink RX11 76 "OffTheLead" "latestParted" "[I" : Cond) ∈ wsX11_rounds := by decide +kernel
theorem ii_X11_rounds_X4 : ∀ w ∈ wsX40, w ∈ wsX11_rounds := fun w h => List.mem_cons_of_mem _ (List.mem_append_left _ (List.mem_append_left _ (List.mem_append_right _ (h))))
theorem ii_X11_rounds_X6 : ∀ w ∈ wsX60, w ∈ wsX11_rounds := fun w h => List.mem_cons_of_mem _ (List.mem_append_left _ (List.mem_append_right _ (h)))
theorem mm_X11_parted_1 : (.fieldLink RX11 76 "OffTheLead" "latestParted" "[I" : Cond) ∈ wsX11_parted := by decide +kernel
theorem ii_X11_parted_X11 : ∀ w ∈ wsX110, w ∈ wsX11_parted := fun w h => List.mem_cons_of_mem _ (List.mem_append_right _ (h))
theorem mm_X11_partedGood_1 : (.fieldLink RX11 90 "OffTheLead" "latestPartedGood" "I" : Cond) ∈ wsX11_partedGood := by decide +kernel
theorem ii_X11_partedGood_X11 : ∀ w ∈ wsX110, w ∈ wsX11_partedGood := fun w h => List.mem_cons_of_mem _ (List.mem_append_right _ (h))
theorem mm_X11_tracks_1 : (.fieldLink RX11 10 "OffTheLead" "tape" "LOffTheLead$Tape;" : Cond) ∈ wsX11_tracks := by decide +kernel
theorem ii_X11_tracks_X11 : ∀ w ∈ wsX110, w ∈ wsX11_tracks := fun w h => List.mem_cons_of_mem _ (List.mem_append_left _ (List.mem_append_left _ (List.mem_append_left _ (List.mem_append_left _ (List.mem_append_right _ (h))))))
theorem ii_X11_tracks_X8 : ∀ w ∈ wsX80, w ∈ wsX11_tracks := fun w h => List.mem_cons_of_mem _ (List.mem_append_left _ (List.mem_append_left _ (List.mem_append_left _ (List.mem_append_right _ (h)))))
theorem mm_X11_tracks_2 : (.fieldLink RX11 19 "OffTheLead" "now" "LOffTheLead$Park;" : Cond) ∈ wsX11_tracks := by decide +kernel
theorem mm_X11_votes_1 : (.fieldLink RX11 19 "OffTheLead" "now" "LOffTheLead$Park;" : Cond) ∈ wsX11_votes := by decide +kernel
theorem ii_X11_votes_X11 : ∀ w ∈ wsX110, w ∈ wsX11_votes := fun w h => List.mem_cons_of_mem _ (List.mem_append_left _ (List.mem_append_left _ (List.mem_append_right _ (h))))
theorem mm_X11_against_1 : (.fieldLink RX11 19 "OffTheLead" "now" "LOffTheLead$Park;" : Cond) ∈ wsX11_against := by decide +kernel
theorem ii_X11_against_X11 : ∀ w ∈ wsX110, w ∈ wsX11_against := fun w h => List.mem_cons_of_mem _ (List.mem_append_left _ (List.mem_append_left _ (List.mem_append_right _ (h))))
theorem mm_X11_missed_1 : (.fieldLink RX11 19 "OffTheLead" "now" "LOffTheLead$Park;" : Cond) ∈ wsX11_missed := by decide +kernel
theorem ii_X11_missed_X11 : ∀ w ∈ wsX110, w ∈ wsX11_missed := fun w h => List.mem_cons_of_mem _ (List.mem_append_left _ (List.mem_append_left _ (List.mem_append_right _ (h))))
theorem mm_X11_odds_1 : (.fieldLink RX11 19 "OffTheLead" "now" "LOffTheLead$Park;" : Cond) ∈ wsX11_odds := by decide +kernel
theorem ii_X11_odds_X11 : ∀ w ∈ wsX110, w ∈ wsX11_odds := fun w h => List.mem_cons_of_mem _ (List.mem_append_left _ (List.mem_append_left _ (List.mem_append_left _ (List.mem_append_left _ (List.mem_append_right _ (h))))))
theorem mm_X11_odds_2 : (.fieldLink RX11 23 "OffTheLead" "spare" "LOffTheLead$Park;" : Cond) ∈ wsX11_odds := by decide +kernel
theorem mm_X11_odds_3 : (.fieldLink RX11 53 "OffTheLead" "calendar" "LOffTheLead$Days;" : Cond) ∈ wsX11_odds := by decide +kernel
theorem ii_X11_odds_X4 : ∀ w ∈ wsX40, w ∈ wsX11_odds := fun w h => List.mem_cons_of_mem _ (List.mem_append_left _ (List.mem_append_left _ (List.mem_append_left _ (List.mem_append_right _ (h)))))
theorem ii_X11_odds_X6 : ∀ w ∈ wsX60, w ∈ wsX11_odds := fun w h => List.mem_cons_of_mem _ (List.mem_append_left _ (List.mem_append_left _ (List.mem_append_right _ (h))))
theorem mm_X11_book_1 : (.fieldLink RX11 10 "OffTheLead" "tape" "LOffTheLead$Tape;" : Cond) ∈ wsX11_book := by decide +kernel
theorem ii_X11_book_X11 : ∀ w ∈ wsX110, w ∈ wsX11_book := fun w h => List.mem_cons_of_mem _ (List.mem_append_left _ (List.mem_append_left _ (List.mem_append_left _ (List.mem_append_left _ (List.mem_append_left _ (List.mem_append_left _ (List.mem_append_left _ (List.mem_append_right _ (h)))))))))
theorem mm_X11_book_2 : (.fieldLink RX11 36 "OffTheLead" "pages" "LOffTheLead$Book;" : Cond) ∈ wsX11_book := by decide +kernel
theorem mm_X11_book_3 : (.fieldLink RX11 19 "OffTheLead" "now" "LOffTheLead$Park;" : Cond) ∈ wsX11_book := by decide +kernel
theorem mm_X11_book_4 : (.fieldLink RX11 117 "OffTheLead" "latestFault" "I" : Cond) ∈ wsX11_book := by decide +kernel
theorem mm_X11_book_5 : (.fieldLink RX11 23 "OffTheLead" "spare" "LOffTheLead$Park;" : Cond) ∈ wsX11_book := by decide +kernel
theorem mm_X11_book_7 : (.fieldLink RX11 53 "OffTheLead" "calendar" "LOffTheLead$Days;" : Cond) ∈ wsX11_book := by decide +kernel
theorem mm_X11_book_8 : (.fieldLink RX11 80 "OffTheLead" "latestTold" "[I" : Cond) ∈ wsX11_book := by decide +kernel
theorem ii_X11_book_X0 : ∀ w ∈ wsX00, w ∈ wsX11_book := fun w h => List.mem_cons_of_mem _ (List.mem_append_left _ (List.mem_append_left _ (List.mem_append_left _ (List.mem_append_left _ (List.mem_append_left _ (List.mem_append_right _ (h)))))))
theorem ii_X11_book_X4 : ∀ w ∈ wsX40, w ∈ wsX11_book := fun w h => List.mem_cons_of_mem _ (List.mem_append_left _ (List.mem_append_left _ (List.mem_append_left _ (List.mem_append_left _ (List.mem_append_right _ (h))))))
theorem ii_X11_book_X8 : ∀ w ∈ wsX80, w ∈ wsX11_book := fun w h => List.mem_cons_of_mem _ (List.mem_append_left _ (List.mem_append_left _ (List.mem_append_left _ (List.mem_append_left _ (List.mem_append_left _ (List.mem_append_left _ (List.mem_append_right _ (h))))))))
theorem mm_X11_book_6 : (.fieldLink RX11 60 "OffTheLead" "history" "LOffTheLead$History;" : Cond) ∈ wsX11_book := by decide +kernel
theorem mm_X11_told_1 : (.fieldLink RX11 80 "OffTheLead" "latestTold" "[I" : Cond) ∈ wsX11_told := by decide +kernel
theorem ii_X11_told_X11 : ∀ w ∈ wsX110, w ∈ wsX11_told := fun w h => List.mem_cons_of_mem _ (List.mem_append_right _ (h))
theorem mm_X11_sentence_1 : (.fieldLink RX11 10 "OffTheLead" "tape" "LOffTheLead$Tape;" : Cond) ∈ wsX11_sentence := by decide +kernel
theorem ii_X11_sentence_X11 : ∀ w ∈ wsX110, w ∈ wsX11_sentence := fun w h => List.mem_cons_of_mem _ (List.mem_append_left _ (List.mem_append_left _ (List.mem_append_left _ (List.mem_append_left _ (List.mem_append_left _ (List.mem_append_right _ (h)))))))
theorem mm_X11_sentence_2 : (.fieldLink RX11 47 "OffTheLead" "draft" "LOffTheLead$Sentence;" : Cond) ∈ wsX11_sentence := by decide +kernel
theorem mm_X11_sentence_3 : (.fieldLink RX11 19 "OffTheLead" "now" "LOffTheLead$Park;" : Cond) ∈ wsX11_sentence := by decide +kernel
theorem mm_X11_sentence_99 : (.initialized RX7 : Cond) ∈ wsX11_sentence := by decide +kernel
theorem mm_X11_sentence_103 : (.instanceMethod yX7_readCond : Cond) ∈ wsX11_sentence := by decide +kernel
theorem mm_X11_sentence_104 : (.selects RX7 yX7_readCond yX7_readCond : Cond) ∈ wsX11_sentence := by decide +kernel
theorem mm_X11_sentence_4 : (.fieldLink RX11 117 "OffTheLead" "latestFault" "I" : Cond) ∈ wsX11_sentence := by decide +kernel
theorem mm_X11_sentence_5 : (.fieldLink RX11 43 "OffTheLead" "phrase" "LOffTheLead$Sentence;" : Cond) ∈ wsX11_sentence := by decide +kernel
theorem ii_X11_sentence_X7 : ∀ w ∈ wsX70, w ∈ wsX11_sentence := fun w h => List.mem_cons_of_mem _ (List.mem_append_left _ (List.mem_append_left _ (List.mem_append_left _ (List.mem_append_right _ (h)))))
theorem ii_X11_sentence_X8 : ∀ w ∈ wsX80, w ∈ wsX11_sentence := fun w h => List.mem_cons_of_mem _ (List.mem_append_left _ (List.mem_append_left _ (List.mem_append_left _ (List.mem_append_left _ (List.mem_append_right _ (h))))))
theorem mm_X11_said_1 : (.fieldLink RX11 43 "OffTheLead" "phrase" "LOffTheLead$Sentence;" : Cond) ∈ wsX11_said := by decide +kernel
theorem ii_X11_said_X11 : ∀ w ∈ wsX110, w ∈ wsX11_said := fun w h => List.mem_cons_of_mem _ (List.mem_append_left _ (List.mem_append_left _ (List.mem_append_left _ (List.mem_append_left _ (List.mem_append_right _ (h))))))
theorem ii_X11_said_X7 : ∀ w ∈ wsX70, w ∈ wsX11_said := fun w h => List.mem_cons_of_mem _ (List.mem_append_left _ (List.mem_append_left _ (List.mem_append_left _ (List.mem_append_right _ (h)))))
theorem mm_X11_said_2 : (.fieldLink RX11 19 "OffTheLead" "now" "LOffTheLead$Park;" : Cond) ∈ wsX11_said := by decide +kernel
theorem ii_X11_said_X4 : ∀ w ∈ wsX40, w ∈ wsX11_said := fun w h => List.mem_cons_of_mem _ (List.mem_append_left _ (List.mem_append_left _ (List.mem_append_right _ (h))))
theorem mm_X11_image_1 : (.fieldLink RX11 64 "OffTheLead" "imageParks" "[LOffTheLead$Park;" : Cond) ∈ wsX11_image := by decide +kernel
theorem ii_X11_image_X11 : ∀ w ∈ wsX110, w ∈ wsX11_image := fun w h => List.mem_cons_of_mem _ (List.mem_append_left _ (List.mem_append_left _ (List.mem_append_left _ (List.mem_append_left _ (List.mem_append_right _ (h))))))
theorem mm_X11_image_2 : (.fieldLink RX11 19 "OffTheLead" "now" "LOffTheLead$Park;" : Cond) ∈ wsX11_image := by decide +kernel
theorem mm_X11_image_3 : (.fieldLink RX11 68 "OffTheLead" "imagePhrases" "[LOffTheLead$Sentence;" : Cond) ∈ wsX11_image := by decide +kernel
theorem mm_X11_image_4 : (.fieldLink RX11 43 "OffTheLead" "phrase" "LOffTheLead$Sentence;" : Cond) ∈ wsX11_image := by decide +kernel
theorem mm_X11_image_5 : (.fieldLink RX11 72 "OffTheLead" "imageKept" "[Z" : Cond) ∈ wsX11_image := by decide +kernel
theorem mm_X11_restore_1 : (.fieldLink RX11 72 "OffTheLead" "imageKept" "[Z" : Cond) ∈ wsX11_restore := by decide +kernel
theorem ii_X11_restore_X11 : ∀ w ∈ wsX110, w ∈ wsX11_restore := fun w h => List.mem_cons_of_mem _ (List.mem_append_left _ (List.mem_append_left _ (List.mem_append_left _ (List.mem_append_left _ (List.mem_append_left _ (List.mem_append_right _ (h)))))))
theorem mm_X11_restore_2 : (.fieldLink RX11 19 "OffTheLead" "now" "LOffTheLead$Park;" : Cond) ∈ wsX11_restore := by decide +kernel
theorem mm_X11_restore_3 : (.fieldLink RX11 64 "OffTheLead" "imageParks" "[LOffTheLead$Park;" : Cond) ∈ wsX11_restore := by decide +kernel
theorem mm_X11_restore_4 : (.fieldLink RX11 43 "OffTheLead" "phrase" "LOffTheLead$Sentence;" : Cond) ∈ wsX11_restore := by decide +kernel
theorem mm_X11_restore_5 : (.fieldLink RX11 68 "OffTheLead" "imagePhrases" "[LOffTheLead$Sentence;" : Cond) ∈ wsX11_restore := by decide +kernel
theorem mm_X11_restore_6 : (.fieldLink RX11 60 "OffTheLead" "history" "LOffTheLead$History;" : Cond) ∈ wsX11_restore := by decide +kernel
theorem mm_X11_count_1 : (.fieldLink RX11 19 "OffTheLead" "now" "LOffTheLead$Park;" : Cond) ∈ wsX11_count := by decide +kernel
theorem ii_X11_count_X11 : ∀ w ∈ wsX110, w ∈ wsX11_count := fun w h => List.mem_cons_of_mem _ (List.mem_append_left _ (List.mem_append_left _ (List.mem_append_right _ (h))))
theorem ii_X11_count_X4 : ∀ w ∈ wsX40, w ∈ wsX11_count := fun w h => List.mem_cons_of_mem _ (List.mem_append_left _ (List.mem_append_right _ (h)))
theorem mm_X11_count_2 : (.fieldLink RX11 10 "OffTheLead" "tape" "LOffTheLead$Tape;" : Cond) ∈ wsX11_count := by decide +kernel
theorem ii_X11_count_X8 : ∀ w ∈ wsX80, w ∈ wsX11_count := fun w h => List.mem_cons_of_mem _ (List.mem_append_right _ (h))
