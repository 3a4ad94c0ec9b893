theorem mm_X12_best_1 : (.fieldLink RX12 1 "OffTheLeadModel" "thrown" "I" : Cond) ∈ wsX12_best := by decide +kernel
theorem ii_X12_best : ∀ w ∈ wsX120, w ∈ wsX12_best := fun w h => List.mem_cons_of_mem _ (List.mem_append_right _ (h))
theorem mm_X12_best_2 : (.fieldLink RX12 98 "OffTheLeadModel" "now" "[I" : Cond) ∈ wsX12_best := by decide +kernel
theorem mm_X12_best_3 : (.fieldLink RX12 127 "OffTheLeadModel" "bestFrom" "I" : Cond) ∈ wsX12_best := by decide +kernel
theorem mm_X12_best_4 : (.fieldLink RX12 130 "OffTheLeadModel" "bestTo" "I" : Cond) ∈ wsX12_best := by decide +kernel
theorem mm_X12_fences_1 : (.fieldLink RX12 1 "OffTheLeadModel" "thrown" "I" : Cond) ∈ wsX12_fences := by decide +kernel
theorem ii_X12_fences : ∀ w ∈ wsX120, w ∈ wsX12_fences := fun w h => List.mem_cons_of_mem _ (List.mem_append_right _ (h))
theorem mm_X12_fences_2 : (.fieldLink RX12 98 "OffTheLeadModel" "now" "[I" : Cond) ∈ wsX12_fences := by decide +kernel
theorem mm_X12_goesElsewhere_1 : (.fieldLink RX12 98 "OffTheLeadModel" "now" "[I" : Cond) ∈ wsX12_goesElsewhere := by decide +kernel
theorem ii_X12_goesElsewhere : ∀ w ∈ wsX120, w ∈ wsX12_goesElsewhere := fun w h => List.mem_cons_of_mem _ (List.mem_append_right _ (h))
theorem mm_X12_rounds_1 : (.fieldLink RX12 1 "OffTheLeadModel" "thrown" "I" : Cond) ∈ wsX12_rounds := by decide +kernel
theorem ii_X12_rounds : ∀ w ∈ wsX120, w ∈ wsX12_rounds := fun w h => List.mem_cons_of_mem _ (List.mem_append_right _ (h))
theorem mm_X12_rounds_4 : (.fieldLink RX12 139 "OffTheLeadModel" "partedGood" "I" : Cond) ∈ wsX12_rounds := by decide +kernel
theorem mm_X12_rounds_3 : (.fieldLink RX12 98 "OffTheLeadModel" "now" "[I" : Cond) ∈ wsX12_rounds := by decide +kernel
theorem mm_X12_rounds_5 : (.fieldLink RX12 327 "OffTheLeadModel" "partedMany" "I" : Cond) ∈ wsX12_rounds := by decide +kernel
theorem mm_X12_rounds_6 : (.fieldLink RX12 330 "OffTheLeadModel" "hasParted" "Z" : Cond) ∈ wsX12_rounds := by decide +kernel
theorem mm_X12_rounds_7 : (.fieldLink RX12 133 "OffTheLeadModel" "parted" "[I" : Cond) ∈ wsX12_rounds := by decide +kernel
theorem mr_11_0_8 : ∀ j, 0 ≤ j → j < 8 → mr 11 j = 0 := fun j h1 h2 => iv (f := mr 11) (lo := 0) (n := 8) (by decide +kernel) j h1 h2
theorem pcl_11_0_8 : ∀ j, 0 ≤ j → j < 8 → pcl 11 j = 0 := fun j h1 h2 => iv (f := pcl 11) (lo := 0) (n := 8) (by decide +kernel) j h1 h2
theorem mm_X12_rounds_2 : (.fieldLink RX12 136 "OffTheLeadModel" "places" "[I" : Cond) ∈ wsX12_rounds := by decide +kernel
theorem mr_12_0_8 : ∀ j, 0 ≤ j → j < 8 → mr 12 j = 5 := fun j h1 h2 => iv (f := mr 12) (lo := 0) (n := 8) (by decide +kernel) j h1 h2
theorem pcl_12_0_8 : ∀ j, 0 ≤ j → j < 8 → pcl 12 j = 0 := fun j h1 h2 => iv (f := pcl 12) (lo := 0) (n := 8) (by decide +kernel) j h1 h2
theorem mm_X12_parted_1 : (.fieldLink RX12 1 "OffTheLeadModel" "thrown" "I" : Cond) ∈ wsX12_parted := by decide +kernel
theorem ii_X12_parted : ∀ w ∈ wsX120, w ∈ wsX12_parted := fun w h => List.mem_cons_of_mem _ (List.mem_append_right _ (h))
theorem mm_X12_parted_2 : (.fieldLink RX12 330 "OffTheLeadModel" "hasParted" "Z" : Cond) ∈ wsX12_parted := by decide +kernel
theorem mm_X12_parted_3 : (.fieldLink RX12 327 "OffTheLeadModel" "partedMany" "I" : Cond) ∈ wsX12_parted := by decide +kernel
theorem mm_X12_parted_4 : (.fieldLink RX12 133 "OffTheLeadModel" "parted" "[I" : Cond) ∈ wsX12_parted := by decide +kernel
theorem mm_X12_layAside_1 : (.fieldLink RX12 110 "OffTheLeadModel" "aside" "[I" : Cond) ∈ wsX12_layAside := by decide +kernel
theorem ii_X12_layAside : ∀ w ∈ wsX120, w ∈ wsX12_layAside := fun w h => List.mem_cons_of_mem _ (List.mem_append_right _ (h))
theorem mm_X12_layAside_2 : (.fieldLink RX12 98 "OffTheLeadModel" "now" "[I" : Cond) ∈ wsX12_layAside := by decide +kernel
theorem pcl_6_0_70 : ∀ j, 0 ≤ j → j < 70 → pcl 6 j = 0 := fun j h1 h2 => iv (f := pcl 6) (lo := 0) (n := 70) (by decide +kernel) j h1 h2
theorem mm_X12_takeBack_1 : (.fieldLink RX12 98 "OffTheLeadModel" "now" "[I" : Cond) ∈ wsX12_takeBack := by decide +kernel
theorem ii_X12_takeBack : ∀ w ∈ wsX120, w ∈ wsX12_takeBack := fun w h => List.mem_cons_of_mem _ (List.mem_append_right _ (h))
theorem mm_X12_takeBack_2 : (.fieldLink RX12 110 "OffTheLeadModel" "aside" "[I" : Cond) ∈ wsX12_takeBack := by decide +kernel
theorem mm_X12_odds_1 : (.fieldLink RX12 1 "OffTheLeadModel" "thrown" "I" : Cond) ∈ wsX12_odds := by decide +kernel
theorem ii_X12_odds : ∀ w ∈ wsX120, w ∈ wsX12_odds := fun w h => List.mem_cons_of_mem _ (List.mem_append_right _ (h))
theorem mm_X12_odds_2 : (.fieldLink RX12 98 "OffTheLeadModel" "now" "[I" : Cond) ∈ wsX12_odds := by decide +kernel
theorem mm_X12_tracks_1 : (.fieldLink RX12 1 "OffTheLeadModel" "thrown" "I" : Cond) ∈ wsX12_tracks := by decide +kernel
theorem ii_X12_tracks : ∀ w ∈ wsX120, w ∈ wsX12_tracks := fun w h => List.mem_cons_of_mem _ (List.mem_append_right _ (h))
theorem mm_X12_tracks_3 : (.fieldLink RX12 98 "OffTheLeadModel" "now" "[I" : Cond) ∈ wsX12_tracks := by decide +kernel
theorem mm_X12_tracks_2 : (.fieldLink RX12 7 "OffTheLeadModel" "tape" "[I" : Cond) ∈ wsX12_tracks := by decide +kernel
theorem mm_X12_byteAt_1 : (.fieldLink RX12 1 "OffTheLeadModel" "thrown" "I" : Cond) ∈ wsX12_byteAt := by decide +kernel
theorem ii_X12_byteAt : ∀ w ∈ wsX120, w ∈ wsX12_byteAt := fun w h => List.mem_cons_of_mem _ (List.mem_append_right _ (h))
theorem mm_X12_byteAt_2 : (.fieldLink RX12 337 "OffTheLeadModel" "texts" "I" : Cond) ∈ wsX12_byteAt := by decide +kernel
theorem mm_X12_byteAt_3 : (.fieldLink RX12 142 "OffTheLeadModel" "text" "[I" : Cond) ∈ wsX12_byteAt := by decide +kernel
theorem mm_X12_write_1 : (.fieldLink RX12 142 "OffTheLeadModel" "text" "[I" : Cond) ∈ wsX12_write := by decide +kernel
theorem ii_X12_write : ∀ w ∈ wsX120, w ∈ wsX12_write := fun w h => List.mem_cons_of_mem _ (List.mem_append_right _ (h))
theorem mm_X12_write_2 : (.fieldLink RX12 337 "OffTheLeadModel" "texts" "I" : Cond) ∈ wsX12_write := by decide +kernel
theorem mr_13_0_64 : ∀ j, 0 ≤ j → j < 64 → mr 13 j = 0 := fun j h1 h2 => iv (f := mr 13) (lo := 0) (n := 64) (by decide +kernel) j h1 h2
theorem pcl_13_0_64 : ∀ j, 0 ≤ j → j < 64 → pcl 13 j = 0 := fun j h1 h2 => iv (f := pcl 13) (lo := 0) (n := 64) (by decide +kernel) j h1 h2
theorem mm_X12_writeWord_1 : (.constantLong RX12 54 (27) : Cond) ∈ wsX12_writeWord := by decide +kernel
theorem mm_X12_board_1 : (.fieldLink RX12 1 "OffTheLeadModel" "thrown" "I" : Cond) ∈ wsX12_board := by decide +kernel
theorem ii_X12_board : ∀ w ∈ wsX120, w ∈ wsX12_board := fun w h => List.mem_cons_of_mem _ (List.mem_append_right _ (h))
theorem mm_X12_board_2 : (.fieldLink RX12 337 "OffTheLeadModel" "texts" "I" : Cond) ∈ wsX12_board := by decide +kernel
theorem mm_X12_board_3 : (.fieldLink RX12 113 "OffTheLeadModel" "name" "[J" : Cond) ∈ wsX12_board := by decide +kernel
theorem mm_X12_board_4 : (.fieldLink RX12 98 "OffTheLeadModel" "now" "[I" : Cond) ∈ wsX12_board := by decide +kernel
theorem mm_X12_layPerils_1 : (.fieldLink RX12 309 "OffTheLeadModel" "safe" "J" : Cond) ∈ wsX12_layPerils := by decide +kernel
theorem ii_X12_layPerils : ∀ w ∈ wsX120, w ∈ wsX12_layPerils := fun w h => List.mem_cons_of_mem _ (List.mem_append_right _ (h))
theorem mm_X12_layPerils_2 : (.fieldLink RX12 312 "OffTheLeadModel" "parts" "J" : Cond) ∈ wsX12_layPerils := by decide +kernel
theorem mm_X12_layPerils_3 : (.fieldLink RX12 98 "OffTheLeadModel" "now" "[I" : Cond) ∈ wsX12_layPerils := by decide +kernel
theorem mm_X12_layPerils_4 : (.fieldLink RX12 281 "OffTheLeadModel" "scared" "I" : Cond) ∈ wsX12_layPerils := by decide +kernel
theorem mm_X12_layPerils_5 : (.constantLong RX12 315 (144) : Cond) ∈ wsX12_layPerils := by decide +kernel
theorem mm_X12_risk_1 : (.fieldLink RX12 1 "OffTheLeadModel" "thrown" "I" : Cond) ∈ wsX12_risk := by decide +kernel
theorem ii_X12_risk : ∀ w ∈ wsX120, w ∈ wsX12_risk := fun w h => List.mem_cons_of_mem _ (List.mem_append_right _ (h))
theorem mm_X12_risk_2 : (.fieldLink RX12 312 "OffTheLeadModel" "parts" "J" : Cond) ∈ wsX12_risk := by decide +kernel
theorem mm_X12_risk_3 : (.fieldLink RX12 309 "OffTheLeadModel" "safe" "J" : Cond) ∈ wsX12_risk := by decide +kernel
theorem mm_X12_perils_1 : (.fieldLink RX12 1 "OffTheLeadModel" "thrown" "I" : Cond) ∈ wsX12_perils := by decide +kernel
theorem ii_X12_perils : ∀ w ∈ wsX120, w ∈ wsX12_perils := fun w h => List.mem_cons_of_mem _ (List.mem_append_right _ (h))
