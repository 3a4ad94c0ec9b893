theorem mm_X12_snap_1 : (.fieldLink RX12 214 "OffTheLeadModel" "snapMany" "I" : Cond) ∈ wsX12_snap := by decide +kernel
theorem ii_X12_snap : ∀ w ∈ wsX120, w ∈ wsX12_snap := fun w h => List.mem_cons_of_mem _ (List.mem_append_right _ (h))
theorem mm_X12_snap_2 : (.fieldLink RX12 107 "OffTheLeadModel" "snaps" "[I" : Cond) ∈ wsX12_snap := by decide +kernel
theorem mm_X12_snap_3 : (.fieldLink RX12 98 "OffTheLeadModel" "now" "[I" : Cond) ∈ wsX12_snap := by decide +kernel
theorem pcl_5_0_560 : ∀ j, 0 ≤ j → j < 560 → pcl 5 j = 0 := fun j h1 h2 => iv (f := pcl 5) (lo := 0) (n := 560) (by decide +kernel) j h1 h2
theorem pcl_5_490_560 : ∀ j, 490 ≤ j → j < 560 → pcl 5 j = 0 := fun j h1 h2 => iv (f := pcl 5) (lo := 490) (n := 70) (by decide +kernel) j h1 h2
theorem pcl_5_0_490 : ∀ j, 0 ≤ j → j < 490 → pcl 5 j = 0 := fun j h1 h2 => iv (f := pcl 5) (lo := 0) (n := 490) (by decide +kernel) j h1 h2
theorem mm_X12_why_1 : (.fieldLink RX12 98 "OffTheLeadModel" "now" "[I" : Cond) ∈ wsX12_why := by decide +kernel
theorem ii_X12_why : ∀ w ∈ wsX120, w ∈ wsX12_why := fun w h => List.mem_cons_of_mem _ (List.mem_append_right _ (h))
theorem mm_X12_live_1 : (.fieldLink RX12 98 "OffTheLeadModel" "now" "[I" : Cond) ∈ wsX12_live := by decide +kernel
theorem ii_X12_live : ∀ w ∈ wsX120, w ∈ wsX12_live := fun w h => List.mem_cons_of_mem _ (List.mem_append_right _ (h))
theorem pcl_2_66_71 : ∀ j, 66 ≤ j → j < 71 → pcl 2 j = 0 := fun j h1 h2 => iv (f := pcl 2) (lo := 66) (n := 5) (by decide +kernel) j h1 h2
theorem pcl_2_71_79 : ∀ j, 71 ≤ j → j < 79 → pcl 2 j = 0 := fun j h1 h2 => iv (f := pcl 2) (lo := 71) (n := 8) (by decide +kernel) j h1 h2
theorem mr_2_79_87 : ∀ j, 79 ≤ j → j < 87 → mr 2 j = 0 := fun j h1 h2 => iv (f := mr 2) (lo := 79) (n := 8) (by decide +kernel) j h1 h2
theorem pcl_2_79_87 : ∀ j, 79 ≤ j → j < 87 → pcl 2 j = 0 := fun j h1 h2 => iv (f := pcl 2) (lo := 79) (n := 8) (by decide +kernel) j h1 h2
theorem mr_2_87_95 : ∀ j, 87 ≤ j → j < 95 → mr 2 j = 0 := fun j h1 h2 => iv (f := mr 2) (lo := 87) (n := 8) (by decide +kernel) j h1 h2
theorem pcl_2_87_95 : ∀ j, 87 ≤ j → j < 95 → pcl 2 j = 0 := fun j h1 h2 => iv (f := pcl 2) (lo := 87) (n := 8) (by decide +kernel) j h1 h2
theorem mm_X12_allow_1 : (.fieldLink RX12 1 "OffTheLeadModel" "thrown" "I" : Cond) ∈ wsX12_allow := by decide +kernel
theorem ii_X12_allow : ∀ w ∈ wsX120, w ∈ wsX12_allow := fun w h => List.mem_cons_of_mem _ (List.mem_append_right _ (h))
theorem mm_X12_forbid_1 : (.fieldLink RX12 1 "OffTheLeadModel" "thrown" "I" : Cond) ∈ wsX12_forbid := by decide +kernel
theorem ii_X12_forbid : ∀ w ∈ wsX120, w ∈ wsX12_forbid := fun w h => List.mem_cons_of_mem _ (List.mem_append_right _ (h))
theorem mm_X12_fence_1 : (.fieldLink RX12 1 "OffTheLeadModel" "thrown" "I" : Cond) ∈ wsX12_fence := by decide +kernel
theorem ii_X12_fence : ∀ w ∈ wsX120, w ∈ wsX12_fence := fun w h => List.mem_cons_of_mem _ (List.mem_append_right _ (h))
theorem mm_X12_sign_1 : (.fieldLink RX12 1 "OffTheLeadModel" "thrown" "I" : Cond) ∈ wsX12_sign := by decide +kernel
theorem ii_X12_sign : ∀ w ∈ wsX120, w ∈ wsX12_sign := fun w h => List.mem_cons_of_mem _ (List.mem_append_right _ (h))
theorem mm_X12_hold_1 : (.fieldLink RX12 1 "OffTheLeadModel" "thrown" "I" : Cond) ∈ wsX12_hold := by decide +kernel
theorem ii_X12_hold : ∀ w ∈ wsX120, w ∈ wsX12_hold := fun w h => List.mem_cons_of_mem _ (List.mem_append_right _ (h))
theorem mm_X12_come__1 : (.fieldLink RX12 1 "OffTheLeadModel" "thrown" "I" : Cond) ∈ wsX12_come_ := by decide +kernel
theorem ii_X12_come_ : ∀ w ∈ wsX120, w ∈ wsX12_come_ := fun w h => List.mem_cons_of_mem _ (List.mem_append_right _ (h))
theorem mm_X12_undo_1 : (.fieldLink RX12 1 "OffTheLeadModel" "thrown" "I" : Cond) ∈ wsX12_undo := by decide +kernel
theorem ii_X12_undo : ∀ w ∈ wsX120, w ∈ wsX12_undo := fun w h => List.mem_cons_of_mem _ (List.mem_append_right _ (h))
theorem mm_X12_undo_2 : (.fieldLink RX12 214 "OffTheLeadModel" "snapMany" "I" : Cond) ∈ wsX12_undo := by decide +kernel
theorem mm_X12_undo_3 : (.fieldLink RX12 98 "OffTheLeadModel" "now" "[I" : Cond) ∈ wsX12_undo := by decide +kernel
theorem mm_X12_undo_4 : (.fieldLink RX12 107 "OffTheLeadModel" "snaps" "[I" : Cond) ∈ wsX12_undo := by decide +kernel
theorem pcl_2_61_131 : ∀ j, 61 ≤ j → j < 131 → pcl 2 j = 0 := fun j h1 h2 => iv (f := pcl 2) (lo := 61) (n := 70) (by decide +kernel) j h1 h2
theorem mm_X12_draw_1 : (.fieldLink RX12 277 "OffTheLeadModel" "seed" "I" : Cond) ∈ wsX12_draw := by decide +kernel
theorem ii_X12_draw : ∀ w ∈ wsX120, w ∈ wsX12_draw := fun w h => List.mem_cons_of_mem _ (List.mem_append_right _ (h))
theorem mm_X12_draw_2 : (.constant RX12 280 (1103515245) : Cond) ∈ wsX12_draw := by decide +kernel
theorem mm_X12_firstThere_1 : (.fieldLink RX12 98 "OffTheLeadModel" "now" "[I" : Cond) ∈ wsX12_firstThere := by decide +kernel
theorem ii_X12_firstThere : ∀ w ∈ wsX120, w ∈ wsX12_firstThere := fun w h => List.mem_cons_of_mem _ (List.mem_append_right _ (h))
theorem mm_X12_firstThere_2 : (.fieldLink RX12 281 "OffTheLeadModel" "scared" "I" : Cond) ∈ wsX12_firstThere := by decide +kernel
theorem mm_X12_runs_1 : (.fieldLink RX12 98 "OffTheLeadModel" "now" "[I" : Cond) ∈ wsX12_runs := by decide +kernel
theorem ii_X12_runs : ∀ w ∈ wsX120, w ∈ wsX12_runs := fun w h => List.mem_cons_of_mem _ (List.mem_append_right _ (h))
theorem mm_X12_runs_2 : (.fieldLink RX12 281 "OffTheLeadModel" "scared" "I" : Cond) ∈ wsX12_runs := by decide +kernel
theorem mr_2_103_111 : ∀ j, 103 ≤ j → j < 111 → mr 2 j = 0 := fun j h1 h2 => iv (f := mr 2) (lo := 103) (n := 8) (by decide +kernel) j h1 h2
theorem pcl_2_103_111 : ∀ j, 103 ≤ j → j < 111 → pcl 2 j = 0 := fun j h1 h2 => iv (f := pcl 2) (lo := 103) (n := 8) (by decide +kernel) j h1 h2
theorem mr_2_119_125 : ∀ j, 119 ≤ j → j < 125 → mr 2 j = 0 := fun j h1 h2 => iv (f := mr 2) (lo := 119) (n := 6) (by decide +kernel) j h1 h2
theorem pcl_2_119_125 : ∀ j, 119 ≤ j → j < 125 → pcl 2 j = 0 := fun j h1 h2 => iv (f := pcl 2) (lo := 119) (n := 6) (by decide +kernel) j h1 h2
theorem mr_2_111_119 : ∀ j, 111 ≤ j → j < 119 → mr 2 j = 0 := fun j h1 h2 => iv (f := mr 2) (lo := 111) (n := 8) (by decide +kernel) j h1 h2
theorem pcl_2_111_119 : ∀ j, 111 ≤ j → j < 119 → pcl 2 j = 0 := fun j h1 h2 => iv (f := pcl 2) (lo := 111) (n := 8) (by decide +kernel) j h1 h2
theorem mr_2_125_131 : ∀ j, 125 ≤ j → j < 131 → mr 2 j = 0 := fun j h1 h2 => iv (f := mr 2) (lo := 125) (n := 6) (by decide +kernel) j h1 h2
theorem pcl_2_125_131 : ∀ j, 125 ≤ j → j < 131 → pcl 2 j = 0 := fun j h1 h2 => iv (f := pcl 2) (lo := 125) (n := 6) (by decide +kernel) j h1 h2
theorem mm_X12_oneDay_1 : (.fieldLink RX12 281 "OffTheLeadModel" "scared" "I" : Cond) ∈ wsX12_oneDay := by decide +kernel
theorem ii_X12_oneDay : ∀ w ∈ wsX120, w ∈ wsX12_oneDay := fun w h => List.mem_cons_of_mem _ (List.mem_append_right _ (h))
theorem mm_X12_oneDay_2 : (.fieldLink RX12 98 "OffTheLeadModel" "now" "[I" : Cond) ∈ wsX12_oneDay := by decide +kernel
theorem mr_2_95_103 : ∀ j, 95 ≤ j → j < 103 → mr 2 j = 0 := fun j h1 h2 => iv (f := mr 2) (lo := 95) (n := 8) (by decide +kernel) j h1 h2
theorem pcl_2_95_103 : ∀ j, 95 ≤ j → j < 103 → pcl 2 j = 0 := fun j h1 h2 => iv (f := pcl 2) (lo := 95) (n := 8) (by decide +kernel) j h1 h2
theorem mm_X12_passDays_1 : (.fieldLink RX12 277 "OffTheLeadModel" "seed" "I" : Cond) ∈ wsX12_passDays := by decide +kernel
theorem ii_X12_passDays : ∀ w ∈ wsX120, w ∈ wsX12_passDays := fun w h => List.mem_cons_of_mem _ (List.mem_append_right _ (h))
theorem mm_X12_passDays_2 : (.fieldLink RX12 98 "OffTheLeadModel" "now" "[I" : Cond) ∈ wsX12_passDays := by decide +kernel
theorem mm_X12_days_1 : (.fieldLink RX12 1 "OffTheLeadModel" "thrown" "I" : Cond) ∈ wsX12_days := by decide +kernel
theorem ii_X12_days : ∀ w ∈ wsX120, w ∈ wsX12_days := fun w h => List.mem_cons_of_mem _ (List.mem_append_right _ (h))
theorem mm_X12_days_2 : (.fieldLink RX12 98 "OffTheLeadModel" "now" "[I" : Cond) ∈ wsX12_days := by decide +kernel
