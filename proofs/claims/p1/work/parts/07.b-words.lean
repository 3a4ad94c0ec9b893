theorem mm_X12_init_25 : (.fieldLink RX12 151 "OffTheLeadModel" "node" "[I" : Cond) ∈ wsX12_init := by decide +kernel
theorem mm_X12_startSo_1 : (.fieldLink RX12 98 "OffTheLeadModel" "now" "[I" : Cond) ∈ wsX12_startSo := by decide +kernel
theorem ii_X12_startSo_X12 : ∀ w ∈ wsX120, w ∈ wsX12_startSo := fun w h => List.mem_cons_of_mem _ (List.mem_append_right _ (h))
theorem mm_X12_feed_1 : (.fieldLink RX12 1 "OffTheLeadModel" "thrown" "I" : Cond) ∈ wsX12_feed := by decide +kernel
theorem ii_X12_feed_X12 : ∀ w ∈ wsX120, w ∈ wsX12_feed := fun w h => List.mem_cons_of_mem _ (List.mem_append_right _ (h))
theorem mm_X12_feed_2 : (.fieldLink RX12 11 "OffTheLeadModel" "taped" "I" : Cond) ∈ wsX12_feed := by decide +kernel
theorem mm_X12_come_1 : (.fieldLink RX12 7 "OffTheLeadModel" "tape" "[I" : Cond) ∈ wsX12_come := by decide +kernel
theorem ii_X12_come_X12 : ∀ w ∈ wsX120, w ∈ wsX12_come := fun w h => List.mem_cons_of_mem _ (List.mem_append_right _ (h))
theorem mm_X12_come_2 : (.fieldLink RX12 11 "OffTheLeadModel" "taped" "I" : Cond) ∈ wsX12_come := by decide +kernel
theorem mm_X12_end_1 : (.fieldLink RX12 1 "OffTheLeadModel" "thrown" "I" : Cond) ∈ wsX12_end := by decide +kernel
theorem ii_X12_end_X12 : ∀ w ∈ wsX120, w ∈ wsX12_end := fun w h => List.mem_cons_of_mem _ (List.mem_append_right _ (h))
theorem mm_X12_end_2 : (.fieldLink RX12 11 "OffTheLeadModel" "taped" "I" : Cond) ∈ wsX12_end := by decide +kernel
theorem mm_X12_begin_1 : (.fieldLink RX12 1 "OffTheLeadModel" "thrown" "I" : Cond) ∈ wsX12_begin := by decide +kernel
theorem ii_X12_begin_X12 : ∀ w ∈ wsX120, w ∈ wsX12_begin := fun w h => List.mem_cons_of_mem _ (List.mem_append_right _ (h))
theorem mm_X12_take_1 : (.fieldLink RX12 11 "OffTheLeadModel" "taped" "I" : Cond) ∈ wsX12_take := by decide +kernel
theorem ii_X12_take_X12 : ∀ w ∈ wsX120, w ∈ wsX12_take := fun w h => List.mem_cons_of_mem _ (List.mem_append_right _ (h))
theorem mm_X12_begin_2 : (.fieldLink RX12 18 "OffTheLeadModel" "size" "I" : Cond) ∈ wsX12_begin := by decide +kernel
theorem mm_X12_begin_3 : (.fieldLink RX12 27 "OffTheLeadModel" "limit" "I" : Cond) ∈ wsX12_begin := by decide +kernel
theorem mm_X12_begin_4 : (.fieldLink RX12 66 "OffTheLeadModel" "fault" "I" : Cond) ∈ wsX12_begin := by decide +kernel
theorem mm_X12_begin_5 : (.fieldLink RX12 21 "OffTheLeadModel" "to" "I" : Cond) ∈ wsX12_begin := by decide +kernel
theorem mm_X12_go_1 : (.fieldLink RX12 21 "OffTheLeadModel" "to" "I" : Cond) ∈ wsX12_go := by decide +kernel
theorem ii_X12_go_X12 : ∀ w ∈ wsX120, w ∈ wsX12_go := fun w h => List.mem_cons_of_mem _ (List.mem_append_right _ (h))
theorem mm_X12_go_2 : (.fieldLink RX12 18 "OffTheLeadModel" "size" "I" : Cond) ∈ wsX12_go := by decide +kernel
theorem mm_X12_go_4 : (.fieldLink RX12 24 "OffTheLeadModel" "from" "I" : Cond) ∈ wsX12_go := by decide +kernel
theorem mm_X12_go_5 : (.fieldLink RX12 27 "OffTheLeadModel" "limit" "I" : Cond) ∈ wsX12_go := by decide +kernel
theorem mm_X12_go_6 : (.fieldLink RX12 30 "OffTheLeadModel" "kind" "I" : Cond) ∈ wsX12_go := by decide +kernel
theorem mm_X12_park_1 : (.fieldLink RX12 101 "OffTheLeadModel" "read" "[I" : Cond) ∈ wsX12_park := by decide +kernel
theorem ii_X12_park_X12 : ∀ w ∈ wsX120, w ∈ wsX12_park := fun w h => List.mem_cons_of_mem _ (List.mem_append_right _ (h))
theorem mm_X12_park_2 : (.fieldLink RX12 201 "OffTheLeadModel" "hasSign" "Z" : Cond) ∈ wsX12_park := by decide +kernel
theorem mm_X12_park_3 : (.fieldLink RX12 30 "OffTheLeadModel" "kind" "I" : Cond) ∈ wsX12_park := by decide +kernel
theorem mm_X12_park_5 : (.fieldLink RX12 98 "OffTheLeadModel" "now" "[I" : Cond) ∈ wsX12_park := by decide +kernel
theorem mm_X12_park_6 : (.fieldLink RX12 113 "OffTheLeadModel" "name" "[J" : Cond) ∈ wsX12_park := by decide +kernel
theorem mm_X12_park_7 : (.fieldLink RX12 117 "OffTheLeadModel" "readName" "[J" : Cond) ∈ wsX12_park := by decide +kernel
theorem mm_X12_park_8 : (.fieldLink RX12 214 "OffTheLeadModel" "snapMany" "I" : Cond) ∈ wsX12_park := by decide +kernel
theorem mm_X12_fault_1 : (.fieldLink RX12 1 "OffTheLeadModel" "thrown" "I" : Cond) ∈ wsX12_fault := by decide +kernel
theorem ii_X12_fault_X12 : ∀ w ∈ wsX120, w ∈ wsX12_fault := fun w h => List.mem_cons_of_mem _ (List.mem_append_right _ (h))
theorem mm_X12_fault_2 : (.fieldLink RX12 66 "OffTheLeadModel" "fault" "I" : Cond) ∈ wsX12_fault := by decide +kernel
theorem mm_X12_place_1 : (.fieldLink RX12 1 "OffTheLeadModel" "thrown" "I" : Cond) ∈ wsX12_place := by decide +kernel
theorem ii_X12_place_X12 : ∀ w ∈ wsX120, w ∈ wsX12_place := fun w h => List.mem_cons_of_mem _ (List.mem_append_right _ (h))
theorem mm_X12_isPlace_1 : (.fieldLink RX12 98 "OffTheLeadModel" "now" "[I" : Cond) ∈ wsX12_isPlace := by decide +kernel
theorem ii_X12_isPlace_X12 : ∀ w ∈ wsX120, w ∈ wsX12_isPlace := fun w h => List.mem_cons_of_mem _ (List.mem_append_right _ (h))
theorem mm_X12_now_1 : (.fieldLink RX12 1 "OffTheLeadModel" "thrown" "I" : Cond) ∈ wsX12_now := by decide +kernel
theorem ii_X12_now_X12 : ∀ w ∈ wsX120, w ∈ wsX12_now := fun w h => List.mem_cons_of_mem _ (List.mem_append_right _ (h))
theorem mm_X12_now_2 : (.fieldLink RX12 98 "OffTheLeadModel" "now" "[I" : Cond) ∈ wsX12_now := by decide +kernel
theorem mm_X12_awaySet_1 : (.fieldLink RX12 98 "OffTheLeadModel" "now" "[I" : Cond) ∈ wsX12_awaySet := by decide +kernel
theorem ii_X12_awaySet_X12 : ∀ w ∈ wsX120, w ∈ wsX12_awaySet := fun w h => List.mem_cons_of_mem _ (List.mem_append_right _ (h))
theorem mm_X12_goodAll_1 : (.fieldLink RX12 98 "OffTheLeadModel" "now" "[I" : Cond) ∈ wsX12_goodAll := by decide +kernel
theorem ii_X12_goodAll_X12 : ∀ w ∈ wsX120, w ∈ wsX12_goodAll := fun w h => List.mem_cons_of_mem _ (List.mem_append_right _ (h))
theorem mm_X12_allow_1 : (.fieldLink RX12 1 "OffTheLeadModel" "thrown" "I" : Cond) ∈ wsX12_allow := by decide +kernel
theorem ii_X12_allow_X12 : ∀ w ∈ wsX120, w ∈ wsX12_allow := fun w h => List.mem_cons_of_mem _ (List.mem_append_right _ (h))
theorem mm_X12_forbid_1 : (.fieldLink RX12 1 "OffTheLeadModel" "thrown" "I" : Cond) ∈ wsX12_forbid := by decide +kernel
theorem ii_X12_forbid_X12 : ∀ w ∈ wsX120, w ∈ wsX12_forbid := fun w h => List.mem_cons_of_mem _ (List.mem_append_right _ (h))
theorem mm_X12_fence_1 : (.fieldLink RX12 1 "OffTheLeadModel" "thrown" "I" : Cond) ∈ wsX12_fence := by decide +kernel
theorem ii_X12_fence_X12 : ∀ w ∈ wsX120, w ∈ wsX12_fence := fun w h => List.mem_cons_of_mem _ (List.mem_append_right _ (h))
theorem mm_X12_sign_1 : (.fieldLink RX12 1 "OffTheLeadModel" "thrown" "I" : Cond) ∈ wsX12_sign := by decide +kernel
theorem ii_X12_sign_X12 : ∀ w ∈ wsX120, w ∈ wsX12_sign := fun w h => List.mem_cons_of_mem _ (List.mem_append_right _ (h))
theorem mm_X12_why_1 : (.fieldLink RX12 98 "OffTheLeadModel" "now" "[I" : Cond) ∈ wsX12_why := by decide +kernel
theorem ii_X12_why_X12 : ∀ w ∈ wsX120, w ∈ wsX12_why := fun w h => List.mem_cons_of_mem _ (List.mem_append_right _ (h))
theorem mm_X12_snap_1 : (.fieldLink RX12 214 "OffTheLeadModel" "snapMany" "I" : Cond) ∈ wsX12_snap := by decide +kernel
theorem ii_X12_snap_X12 : ∀ w ∈ wsX120, w ∈ wsX12_snap := fun w h => List.mem_cons_of_mem _ (List.mem_append_right _ (h))
theorem mm_X12_snap_2 : (.fieldLink RX12 107 "OffTheLeadModel" "snaps" "[I" : Cond) ∈ wsX12_snap := by decide +kernel
theorem mm_X12_snap_3 : (.fieldLink RX12 98 "OffTheLeadModel" "now" "[I" : Cond) ∈ wsX12_snap := by decide +kernel
theorem mm_X12_live_1 : (.fieldLink RX12 98 "OffTheLeadModel" "now" "[I" : Cond) ∈ wsX12_live := by decide +kernel
theorem ii_X12_live_X12 : ∀ w ∈ wsX120, w ∈ wsX12_live := fun w h => List.mem_cons_of_mem _ (List.mem_append_right _ (h))
theorem mm_X12_hold_1 : (.fieldLink RX12 1 "OffTheLeadModel" "thrown" "I" : Cond) ∈ wsX12_hold := by decide +kernel
theorem ii_X12_hold_X12 : ∀ w ∈ wsX120, w ∈ wsX12_hold := fun w h => List.mem_cons_of_mem _ (List.mem_append_right _ (h))
theorem mm_X12_isDog_1 : (.fieldLink RX12 98 "OffTheLeadModel" "now" "[I" : Cond) ∈ wsX12_isDog := by decide +kernel
theorem ii_X12_isDog_X12 : ∀ w ∈ wsX120, w ∈ wsX12_isDog := fun w h => List.mem_cons_of_mem _ (List.mem_append_right _ (h))
theorem mm_X12_come__1 : (.fieldLink RX12 1 "OffTheLeadModel" "thrown" "I" : Cond) ∈ wsX12_come_ := by decide +kernel
theorem ii_X12_come__X12 : ∀ w ∈ wsX120, w ∈ wsX12_come_ := fun w h => List.mem_cons_of_mem _ (List.mem_append_right _ (h))
theorem mm_X12_isPerson_1 : (.fieldLink RX12 98 "OffTheLeadModel" "now" "[I" : Cond) ∈ wsX12_isPerson := by decide +kernel
theorem ii_X12_isPerson_X12 : ∀ w ∈ wsX120, w ∈ wsX12_isPerson := fun w h => List.mem_cons_of_mem _ (List.mem_append_right _ (h))
theorem mm_X12_days_1 : (.fieldLink RX12 1 "OffTheLeadModel" "thrown" "I" : Cond) ∈ wsX12_days := by decide +kernel
theorem ii_X12_days_X12 : ∀ w ∈ wsX120, w ∈ wsX12_days := fun w h => List.mem_cons_of_mem _ (List.mem_append_right _ (h))
theorem mm_X12_days_2 : (.fieldLink RX12 98 "OffTheLeadModel" "now" "[I" : Cond) ∈ wsX12_days := by decide +kernel
theorem mm_X12_passDays_1 : (.fieldLink RX12 277 "OffTheLeadModel" "seed" "I" : Cond) ∈ wsX12_passDays := by decide +kernel
theorem ii_X12_passDays_X12 : ∀ w ∈ wsX120, w ∈ wsX12_passDays := fun w h => List.mem_cons_of_mem _ (List.mem_append_right _ (h))
theorem mm_X12_passDays_2 : (.fieldLink RX12 98 "OffTheLeadModel" "now" "[I" : Cond) ∈ wsX12_passDays := by decide +kernel
theorem mm_X12_oneDay_1 : (.fieldLink RX12 281 "OffTheLeadModel" "scared" "I" : Cond) ∈ wsX12_oneDay := by decide +kernel
theorem ii_X12_oneDay_X12 : ∀ w ∈ wsX120, w ∈ wsX12_oneDay := fun w h => List.mem_cons_of_mem _ (List.mem_append_right _ (h))
theorem mm_X12_oneDay_2 : (.fieldLink RX12 98 "OffTheLeadModel" "now" "[I" : Cond) ∈ wsX12_oneDay := by decide +kernel
theorem mm_X12_undo_1 : (.fieldLink RX12 1 "OffTheLeadModel" "thrown" "I" : Cond) ∈ wsX12_undo := by decide +kernel
theorem ii_X12_undo_X12 : ∀ w ∈ wsX120, w ∈ wsX12_undo := fun w h => List.mem_cons_of_mem _ (List.mem_append_right _ (h))
theorem mm_X12_undo_2 : (.fieldLink RX12 214 "OffTheLeadModel" "snapMany" "I" : Cond) ∈ wsX12_undo := by decide +kernel
theorem mm_X12_there_1 : (.fieldLink RX12 1 "OffTheLeadModel" "thrown" "I" : Cond) ∈ wsX12_there := by decide +kernel
theorem ii_X12_there_X12 : ∀ w ∈ wsX120, w ∈ wsX12_there := fun w h => List.mem_cons_of_mem _ (List.mem_append_right _ (h))
theorem mm_X12_meets_1 : (.fieldLink RX12 1 "OffTheLeadModel" "thrown" "I" : Cond) ∈ wsX12_meets := by decide +kernel
theorem ii_X12_meets_X12 : ∀ w ∈ wsX120, w ∈ wsX12_meets := fun w h => List.mem_cons_of_mem _ (List.mem_append_right _ (h))
theorem mm_X12_best_1 : (.fieldLink RX12 1 "OffTheLeadModel" "thrown" "I" : Cond) ∈ wsX12_best := by decide +kernel
theorem ii_X12_best_X12 : ∀ w ∈ wsX120, w ∈ wsX12_best := fun w h => List.mem_cons_of_mem _ (List.mem_append_right _ (h))
theorem mm_X12_bestAt_1 : (.fieldLink RX12 1 "OffTheLeadModel" "thrown" "I" : Cond) ∈ wsX12_bestAt := by decide +kernel
theorem ii_X12_bestAt_X12 : ∀ w ∈ wsX120, w ∈ wsX12_bestAt := fun w h => List.mem_cons_of_mem _ (List.mem_append_right _ (h))
theorem mm_X12_bestAt_2 : (.fieldLink RX12 127 "OffTheLeadModel" "bestFrom" "I" : Cond) ∈ wsX12_bestAt := by decide +kernel
theorem mm_X12_bestAt_3 : (.fieldLink RX12 130 "OffTheLeadModel" "bestTo" "I" : Cond) ∈ wsX12_bestAt := by decide +kernel
theorem mm_X12_fences_1 : (.fieldLink RX12 1 "OffTheLeadModel" "thrown" "I" : Cond) ∈ wsX12_fences := by decide +kernel
theorem ii_X12_fences_X12 : ∀ w ∈ wsX120, w ∈ wsX12_fences := fun w h => List.mem_cons_of_mem _ (List.mem_append_right _ (h))
theorem mm_X12_fences_2 : (.fieldLink RX12 98 "OffTheLeadModel" "now" "[I" : Cond) ∈ wsX12_fences := by decide +kernel
theorem mm_X12_perils_1 : (.fieldLink RX12 1 "OffTheLeadModel" "thrown" "I" : Cond) ∈ wsX12_perils := by decide +kernel
theorem ii_X12_perils_X12 : ∀ w ∈ wsX120, w ∈ wsX12_perils := fun w h => List.mem_cons_of_mem _ (List.mem_append_right _ (h))
theorem mm_X12_rounds_1 : (.fieldLink RX12 1 "OffTheLeadModel" "thrown" "I" : Cond) ∈ wsX12_rounds := by decide +kernel
theorem ii_X12_rounds_X12 : ∀ w ∈ wsX120, w ∈ wsX12_rounds := fun w h => List.mem_cons_of_mem _ (List.mem_append_right _ (h))
theorem mm_X12_rounds_2 : (.fieldLink RX12 136 "OffTheLeadModel" "places" "[I" : Cond) ∈ wsX12_rounds := by decide +kernel
theorem mm_X12_rounds_3 : (.fieldLink RX12 98 "OffTheLeadModel" "now" "[I" : Cond) ∈ wsX12_rounds := by decide +kernel
theorem mm_X12_rounds_4 : (.fieldLink RX12 139 "OffTheLeadModel" "partedGood" "I" : Cond) ∈ wsX12_rounds := by decide +kernel
theorem mm_X12_rounds_5 : (.fieldLink RX12 327 "OffTheLeadModel" "partedMany" "I" : Cond) ∈ wsX12_rounds := by decide +kernel
theorem mm_X12_rounds_6 : (.fieldLink RX12 330 "OffTheLeadModel" "hasParted" "Z" : Cond) ∈ wsX12_rounds := by decide +kernel
theorem mm_X12_rounds_7 : (.fieldLink RX12 133 "OffTheLeadModel" "parted" "[I" : Cond) ∈ wsX12_rounds := by decide +kernel
theorem mm_X12_parted_1 : (.fieldLink RX12 1 "OffTheLeadModel" "thrown" "I" : Cond) ∈ wsX12_parted := by decide +kernel
theorem ii_X12_parted_X12 : ∀ w ∈ wsX120, w ∈ wsX12_parted := fun w h => List.mem_cons_of_mem _ (List.mem_append_right _ (h))
theorem mm_X12_parted_2 : (.fieldLink RX12 330 "OffTheLeadModel" "hasParted" "Z" : Cond) ∈ wsX12_parted := by decide +kernel
theorem mm_X12_partedGood_1 : (.fieldLink RX12 1 "OffTheLeadModel" "thrown" "I" : Cond) ∈ wsX12_partedGood := by decide +kernel
theorem ii_X12_partedGood_X12 : ∀ w ∈ wsX120, w ∈ wsX12_partedGood := fun w h => List.mem_cons_of_mem _ (List.mem_append_right _ (h))
theorem mm_X12_partedGood_2 : (.fieldLink RX12 139 "OffTheLeadModel" "partedGood" "I" : Cond) ∈ wsX12_partedGood := by decide +kernel
theorem mm_X12_tracks_1 : (.fieldLink RX12 1 "OffTheLeadModel" "thrown" "I" : Cond) ∈ wsX12_tracks := by decide +kernel
theorem ii_X12_tracks_X12 : ∀ w ∈ wsX120, w ∈ wsX12_tracks := fun w h => List.mem_cons_of_mem _ (List.mem_append_right _ (h))
theorem mm_X12_votes_1 : (.fieldLink RX12 1 "OffTheLeadModel" "thrown" "I" : Cond) ∈ wsX12_votes := by decide +kernel
theorem ii_X12_votes_X12 : ∀ w ∈ wsX120, w ∈ wsX12_votes := fun w h => List.mem_cons_of_mem _ (List.mem_append_right _ (h))
theorem mm_X12_against_1 : (.fieldLink RX12 1 "OffTheLeadModel" "thrown" "I" : Cond) ∈ wsX12_against := by decide +kernel
theorem ii_X12_against_X12 : ∀ w ∈ wsX120, w ∈ wsX12_against := fun w h => List.mem_cons_of_mem _ (List.mem_append_right _ (h))
theorem mm_X12_missed_1 : (.fieldLink RX12 1 "OffTheLeadModel" "thrown" "I" : Cond) ∈ wsX12_missed := by decide +kernel
theorem ii_X12_missed_X12 : ∀ w ∈ wsX120, w ∈ wsX12_missed := fun w h => List.mem_cons_of_mem _ (List.mem_append_right _ (h))
theorem mm_X12_board_1 : (.fieldLink RX12 1 "OffTheLeadModel" "thrown" "I" : Cond) ∈ wsX12_board := by decide +kernel
theorem ii_X12_board_X12 : ∀ w ∈ wsX120, w ∈ wsX12_board := fun w h => List.mem_cons_of_mem _ (List.mem_append_right _ (h))
theorem mm_X12_byteAt_1 : (.fieldLink RX12 1 "OffTheLeadModel" "thrown" "I" : Cond) ∈ wsX12_byteAt := by decide +kernel
theorem ii_X12_byteAt_X12 : ∀ w ∈ wsX120, w ∈ wsX12_byteAt := fun w h => List.mem_cons_of_mem _ (List.mem_append_right _ (h))
theorem mm_X12_byteAt_2 : (.fieldLink RX12 337 "OffTheLeadModel" "texts" "I" : Cond) ∈ wsX12_byteAt := by decide +kernel
theorem mm_X12_odds_1 : (.fieldLink RX12 1 "OffTheLeadModel" "thrown" "I" : Cond) ∈ wsX12_odds := by decide +kernel
theorem ii_X12_odds_X12 : ∀ w ∈ wsX120, w ∈ wsX12_odds := fun w h => List.mem_cons_of_mem _ (List.mem_append_right _ (h))
theorem mm_X12_book_1 : (.fieldLink RX12 1 "OffTheLeadModel" "thrown" "I" : Cond) ∈ wsX12_book := by decide +kernel
theorem ii_X12_book_X12 : ∀ w ∈ wsX120, w ∈ wsX12_book := fun w h => List.mem_cons_of_mem _ (List.mem_append_right _ (h))
theorem mm_X12_book_2 : (.fieldLink RX12 374 "OffTheLeadModel" "lineMany" "I" : Cond) ∈ wsX12_book := by decide +kernel
theorem mm_X12_book_3 : (.fieldLink RX12 30 "OffTheLeadModel" "kind" "I" : Cond) ∈ wsX12_book := by decide +kernel
theorem mm_X12_layAside_1 : (.fieldLink RX12 110 "OffTheLeadModel" "aside" "[I" : Cond) ∈ wsX12_layAside := by decide +kernel
theorem ii_X12_layAside_X12 : ∀ w ∈ wsX120, w ∈ wsX12_layAside := fun w h => List.mem_cons_of_mem _ (List.mem_append_right _ (h))
theorem mm_X12_layAside_2 : (.fieldLink RX12 98 "OffTheLeadModel" "now" "[I" : Cond) ∈ wsX12_layAside := by decide +kernel
theorem mm_X12_book_5 : (.fieldLink RX12 148 "OffTheLeadModel" "written" "[I" : Cond) ∈ wsX12_book := by decide +kernel
theorem mm_X12_book_6 : (.fieldLink RX12 98 "OffTheLeadModel" "now" "[I" : Cond) ∈ wsX12_book := by decide +kernel
theorem mm_X12_book_7 : (.fieldLink RX12 392 "OffTheLeadModel" "hasWritten" "Z" : Cond) ∈ wsX12_book := by decide +kernel
theorem mm_X12_stay_1 : (.fieldLink RX12 98 "OffTheLeadModel" "now" "[I" : Cond) ∈ wsX12_stay := by decide +kernel
theorem ii_X12_stay_X12 : ∀ w ∈ wsX120, w ∈ wsX12_stay := fun w h => List.mem_cons_of_mem _ (List.mem_append_right _ (h))
theorem mm_X12_stay_2 : (.fieldLink RX12 110 "OffTheLeadModel" "aside" "[I" : Cond) ∈ wsX12_stay := by decide +kernel
theorem mm_X12_told_1 : (.fieldLink RX12 1 "OffTheLeadModel" "thrown" "I" : Cond) ∈ wsX12_told := by decide +kernel
theorem ii_X12_told_X12 : ∀ w ∈ wsX120, w ∈ wsX12_told := fun w h => List.mem_cons_of_mem _ (List.mem_append_right _ (h))
theorem mm_X12_told_2 : (.fieldLink RX12 392 "OffTheLeadModel" "hasWritten" "Z" : Cond) ∈ wsX12_told := by decide +kernel
theorem mm_X12_sentence_1 : (.fieldLink RX12 399 "OffTheLeadModel" "nodes" "I" : Cond) ∈ wsX12_sentence := by decide +kernel
theorem ii_X12_sentence_X12 : ∀ w ∈ wsX120, w ∈ wsX12_sentence := fun w h => List.mem_cons_of_mem _ (List.mem_append_right _ (h))
theorem mm_X12_sentence_2 : (.fieldLink RX12 415 "OffTheLeadModel" "onesMany" "I" : Cond) ∈ wsX12_sentence := by decide +kernel
theorem mm_X12_sentence_3 : (.fieldLink RX12 418 "OffTheLeadModel" "within" "I" : Cond) ∈ wsX12_sentence := by decide +kernel
theorem mm_X12_isSign_1 : (.fieldLink RX12 30 "OffTheLeadModel" "kind" "I" : Cond) ∈ wsX12_isSign := by decide +kernel
theorem ii_X12_isSign_X12 : ∀ w ∈ wsX120, w ∈ wsX12_isSign := fun w h => List.mem_cons_of_mem _ (List.mem_append_right _ (h))
theorem mm_X12_isWord_1 : (.fieldLink RX12 30 "OffTheLeadModel" "kind" "I" : Cond) ∈ wsX12_isWord := by decide +kernel
theorem ii_X12_isWord_X12 : ∀ w ∈ wsX120, w ∈ wsX12_isWord := fun w h => List.mem_cons_of_mem _ (List.mem_append_right _ (h))
theorem mm_X12_bad_1 : (.fieldLink RX12 30 "OffTheLeadModel" "kind" "I" : Cond) ∈ wsX12_bad := by decide +kernel
theorem ii_X12_bad_X12 : ∀ w ∈ wsX120, w ∈ wsX12_bad := fun w h => List.mem_cons_of_mem _ (List.mem_append_right _ (h))
theorem mm_X12_bad_2 : (.fieldLink RX12 66 "OffTheLeadModel" "fault" "I" : Cond) ∈ wsX12_bad := by decide +kernel
theorem mm_X12_bad_3 : (.fieldLink RX12 24 "OffTheLeadModel" "from" "I" : Cond) ∈ wsX12_bad := by decide +kernel
theorem mm_X12_bad_4 : (.fieldLink RX12 69 "OffTheLeadModel" "place" "I" : Cond) ∈ wsX12_bad := by decide +kernel
theorem mm_X12_sentence_4 : (.fieldLink RX12 69 "OffTheLeadModel" "place" "I" : Cond) ∈ wsX12_sentence := by decide +kernel
theorem mm_X12_said_1 : (.fieldLink RX12 1 "OffTheLeadModel" "thrown" "I" : Cond) ∈ wsX12_said := by decide +kernel
theorem ii_X12_said_X12 : ∀ w ∈ wsX120, w ∈ wsX12_said := fun w h => List.mem_cons_of_mem _ (List.mem_append_right _ (h))
theorem mm_X12_said_2 : (.fieldLink RX12 98 "OffTheLeadModel" "now" "[I" : Cond) ∈ wsX12_said := by decide +kernel
theorem mm_X12_image_1 : (.fieldLink RX12 1 "OffTheLeadModel" "thrown" "I" : Cond) ∈ wsX12_image := by decide +kernel
theorem ii_X12_image_X12 : ∀ w ∈ wsX120, w ∈ wsX12_image := fun w h => List.mem_cons_of_mem _ (List.mem_append_right _ (h))
theorem mm_X12_image_2 : (.fieldLink RX12 104 "OffTheLeadModel" "kept" "[I" : Cond) ∈ wsX12_image := by decide +kernel
theorem mm_X12_image_3 : (.fieldLink RX12 98 "OffTheLeadModel" "now" "[I" : Cond) ∈ wsX12_image := by decide +kernel
theorem mm_X12_image_4 : (.fieldLink RX12 120 "OffTheLeadModel" "keptName" "[J" : Cond) ∈ wsX12_image := by decide +kernel
theorem mm_X12_image_5 : (.fieldLink RX12 113 "OffTheLeadModel" "name" "[J" : Cond) ∈ wsX12_image := by decide +kernel
theorem mm_X12_image_6 : (.fieldLink RX12 123 "OffTheLeadModel" "isKept" "[Z" : Cond) ∈ wsX12_image := by decide +kernel
theorem mm_X12_restore_1 : (.fieldLink RX12 1 "OffTheLeadModel" "thrown" "I" : Cond) ∈ wsX12_restore := by decide +kernel
theorem ii_X12_restore_X12 : ∀ w ∈ wsX120, w ∈ wsX12_restore := fun w h => List.mem_cons_of_mem _ (List.mem_append_right _ (h))
theorem mm_X12_restore_2 : (.fieldLink RX12 123 "OffTheLeadModel" "isKept" "[Z" : Cond) ∈ wsX12_restore := by decide +kernel
theorem mm_X12_count_1 : (.fieldLink RX12 1 "OffTheLeadModel" "thrown" "I" : Cond) ∈ wsX12_count := by decide +kernel
theorem ii_X12_count_X12 : ∀ w ∈ wsX120, w ∈ wsX12_count := fun w h => List.mem_cons_of_mem _ (List.mem_append_right _ (h))
theorem mm_X12_count_2 : (.fieldLink RX12 98 "OffTheLeadModel" "now" "[I" : Cond) ∈ wsX12_count := by decide +kernel
theorem mm_X12_count_3 : (.fieldLink RX12 11 "OffTheLeadModel" "taped" "I" : Cond) ∈ wsX12_count := by decide +kernel
