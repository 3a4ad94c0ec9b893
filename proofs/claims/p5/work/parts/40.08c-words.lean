theorem mm_X12_holds_1 : (.fieldLink RX12 98 "OffTheLeadModel" "now" "[I" : Cond) ∈ wsX12_holds := by decide +kernel
theorem ii_X12_holds : ∀ w ∈ wsX120, w ∈ wsX12_holds := fun w h => List.mem_cons_of_mem _ (List.mem_append_right _ (h))
theorem mm_X12_said_1 : (.fieldLink RX12 1 "OffTheLeadModel" "thrown" "I" : Cond) ∈ wsX12_said := by decide +kernel
theorem ii_X12_said : ∀ w ∈ wsX120, w ∈ wsX12_said := fun w h => List.mem_cons_of_mem _ (List.mem_append_right _ (h))
theorem mm_X12_said_2 : (.fieldLink RX12 98 "OffTheLeadModel" "now" "[I" : Cond) ∈ wsX12_said := by decide +kernel
theorem mm_X12_image_1 : (.fieldLink RX12 1 "OffTheLeadModel" "thrown" "I" : Cond) ∈ wsX12_image := by decide +kernel
theorem ii_X12_image : ∀ w ∈ wsX120, w ∈ wsX12_image := fun w h => List.mem_cons_of_mem _ (List.mem_append_right _ (h))
theorem mm_X12_image_6 : (.fieldLink RX12 123 "OffTheLeadModel" "isKept" "[Z" : Cond) ∈ wsX12_image := by decide +kernel
theorem mr_10_0_2 : ∀ j, 0 ≤ j → j < 2 → mr 10 j = 0 := fun j h1 h2 => iv (f := mr 10) (lo := 0) (n := 2) (by decide +kernel) j h1 h2
theorem pcl_10_0_2 : ∀ j, 0 ≤ j → j < 2 → pcl 10 j = 2 := fun j h1 h2 => iv (f := pcl 10) (lo := 0) (n := 2) (by decide +kernel) j h1 h2
theorem mm_X12_image_4 : (.fieldLink RX12 120 "OffTheLeadModel" "keptName" "[J" : Cond) ∈ wsX12_image := by decide +kernel
theorem mm_X12_image_5 : (.fieldLink RX12 113 "OffTheLeadModel" "name" "[J" : Cond) ∈ wsX12_image := by decide +kernel
theorem mm_X12_image_2 : (.fieldLink RX12 104 "OffTheLeadModel" "kept" "[I" : Cond) ∈ wsX12_image := by decide +kernel
theorem mm_X12_image_3 : (.fieldLink RX12 98 "OffTheLeadModel" "now" "[I" : Cond) ∈ wsX12_image := by decide +kernel
theorem pns_4_0_746_1_3_4_5_6_8_9_10_11_12_13_14_15_16_17_19_20_21_23 : ∀ j, 0 ≤ j → j < 746 → pcl 4 j ∉ ([1, 3, 4, 5, 6, 8, 9, 10, 11, 12, 13, 14, 15, 16, 17, 19, 20, 21, 23] : List Nat) := fun j h1 h2 => ivp (P := fun j => pcl 4 j ∉ ([1, 3, 4, 5, 6, 8, 9, 10, 11, 12, 13, 14, 15, 16, 17, 19, 20, 21, 23] : List Nat)) (lo := 0) (n := 746) (by decide +kernel) j h1 h2
theorem pns_4_0_746_6 : ∀ j, 0 ≤ j → j < 746 → pcl 4 j ∉ ([6] : List Nat) := fun j h1 h2 => ivp (P := fun j => pcl 4 j ∉ ([6] : List Nat)) (lo := 0) (n := 746) (by decide +kernel) j h1 h2
theorem pns_4_0_746_2 : ∀ j, 0 ≤ j → j < 746 → pcl 4 j ∉ ([2] : List Nat) := fun j h1 h2 => ivp (P := fun j => pcl 4 j ∉ ([2] : List Nat)) (lo := 0) (n := 746) (by decide +kernel) j h1 h2
theorem mm_X12_restore_1 : (.fieldLink RX12 1 "OffTheLeadModel" "thrown" "I" : Cond) ∈ wsX12_restore := by decide +kernel
theorem ii_X12_restore : ∀ w ∈ wsX120, w ∈ wsX12_restore := fun w h => List.mem_cons_of_mem _ (List.mem_append_right _ (h))
theorem mm_X12_restore_2 : (.fieldLink RX12 123 "OffTheLeadModel" "isKept" "[Z" : Cond) ∈ wsX12_restore := by decide +kernel
theorem mm_X12_restore_7 : (.fieldLink RX12 214 "OffTheLeadModel" "snapMany" "I" : Cond) ∈ wsX12_restore := by decide +kernel
theorem mm_X12_restore_5 : (.fieldLink RX12 113 "OffTheLeadModel" "name" "[J" : Cond) ∈ wsX12_restore := by decide +kernel
theorem mm_X12_restore_6 : (.fieldLink RX12 120 "OffTheLeadModel" "keptName" "[J" : Cond) ∈ wsX12_restore := by decide +kernel
theorem mm_X12_restore_3 : (.fieldLink RX12 98 "OffTheLeadModel" "now" "[I" : Cond) ∈ wsX12_restore := by decide +kernel
theorem mm_X12_restore_4 : (.fieldLink RX12 104 "OffTheLeadModel" "kept" "[I" : Cond) ∈ wsX12_restore := by decide +kernel
theorem pns_2_0_373_1_2_3_4_5_7_8_9_10_11_12_13_14_15_16_17_19_20_22_23 : ∀ j, 0 ≤ j → j < 373 → pcl 2 j ∉ ([1, 2, 3, 4, 5, 7, 8, 9, 10, 11, 12, 13, 14, 15, 16, 17, 19, 20, 22, 23] : List Nat) := fun j h1 h2 => ivp (P := fun j => pcl 2 j ∉ ([1, 2, 3, 4, 5, 7, 8, 9, 10, 11, 12, 13, 14, 15, 16, 17, 19, 20, 22, 23] : List Nat)) (lo := 0) (n := 373) (by decide +kernel) j h1 h2
theorem pns_2_0_373_7 : ∀ j, 0 ≤ j → j < 373 → pcl 2 j ∉ ([7] : List Nat) := fun j h1 h2 => ivp (P := fun j => pcl 2 j ∉ ([7] : List Nat)) (lo := 0) (n := 373) (by decide +kernel) j h1 h2
theorem pns_2_0_373_2 : ∀ j, 0 ≤ j → j < 373 → pcl 2 j ∉ ([2] : List Nat) := fun j h1 h2 => ivp (P := fun j => pcl 2 j ∉ ([2] : List Nat)) (lo := 0) (n := 373) (by decide +kernel) j h1 h2
theorem mm_X12_come_1 : (.fieldLink RX12 7 "OffTheLeadModel" "tape" "[I" : Cond) ∈ wsX12_come := by decide +kernel
theorem ii_X12_come : ∀ w ∈ wsX120, w ∈ wsX12_come := fun w h => List.mem_cons_of_mem _ (List.mem_append_right _ (h))
theorem mm_X12_come_2 : (.fieldLink RX12 11 "OffTheLeadModel" "taped" "I" : Cond) ∈ wsX12_come := by decide +kernel
theorem mr_1_0_937 : ∀ j, 0 ≤ j → j < 937 → mr 1 j = 0 := fun j h1 h2 => iv (f := mr 1) (lo := 0) (n := 937) (by decide +kernel) j h1 h2
theorem pcl_1_0_937 : ∀ j, 0 ≤ j → j < 937 → pcl 1 j = 20 := fun j h1 h2 => iv (f := pcl 1) (lo := 0) (n := 937) (by decide +kernel) j h1 h2
theorem mr_1_1_938 : ∀ j, 1 ≤ j → j < 938 → mr 1 j = 0 := fun j h1 h2 => iv (f := mr 1) (lo := 1) (n := 937) (by decide +kernel) j h1 h2
theorem pcl_1_1_938 : ∀ j, 1 ≤ j → j < 938 → pcl 1 j = 20 := fun j h1 h2 => iv (f := pcl 1) (lo := 1) (n := 937) (by decide +kernel) j h1 h2
theorem mr_1_2_939 : ∀ j, 2 ≤ j → j < 939 → mr 1 j = 0 := fun j h1 h2 => iv (f := mr 1) (lo := 2) (n := 937) (by decide +kernel) j h1 h2
theorem pcl_1_2_939 : ∀ j, 2 ≤ j → j < 939 → pcl 1 j = 20 := fun j h1 h2 => iv (f := pcl 1) (lo := 2) (n := 937) (by decide +kernel) j h1 h2
theorem mr_1_3_940 : ∀ j, 3 ≤ j → j < 940 → mr 1 j = 0 := fun j h1 h2 => iv (f := mr 1) (lo := 3) (n := 937) (by decide +kernel) j h1 h2
theorem pcl_1_3_940 : ∀ j, 3 ≤ j → j < 940 → pcl 1 j = 20 := fun j h1 h2 => iv (f := pcl 1) (lo := 3) (n := 937) (by decide +kernel) j h1 h2
theorem mm_X12_feed_1 : (.fieldLink RX12 1 "OffTheLeadModel" "thrown" "I" : Cond) ∈ wsX12_feed := by decide +kernel
theorem ii_X12_feed : ∀ w ∈ wsX120, w ∈ wsX12_feed := fun w h => List.mem_cons_of_mem _ (List.mem_append_right _ (h))
theorem mm_X12_feed_2 : (.fieldLink RX12 11 "OffTheLeadModel" "taped" "I" : Cond) ∈ wsX12_feed := by decide +kernel
theorem mm_X12_end_1 : (.fieldLink RX12 1 "OffTheLeadModel" "thrown" "I" : Cond) ∈ wsX12_end := by decide +kernel
theorem ii_X12_end : ∀ w ∈ wsX120, w ∈ wsX12_end := fun w h => List.mem_cons_of_mem _ (List.mem_append_right _ (h))
theorem mm_X12_end_2 : (.fieldLink RX12 11 "OffTheLeadModel" "taped" "I" : Cond) ∈ wsX12_end := by decide +kernel
