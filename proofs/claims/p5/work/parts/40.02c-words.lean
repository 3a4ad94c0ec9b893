theorem mm_X12_dogHours_1 : (.fieldLink RX12 98 "OffTheLeadModel" "now" "[I" : Cond) ∈ wsX12_dogHours := by decide +kernel
theorem ii_X12_dogHours : ∀ w ∈ wsX120, w ∈ wsX12_dogHours := fun w h => List.mem_cons_of_mem _ (List.mem_append_right _ (h))
theorem mm_X12_goodOf_1 : (.fieldLink RX12 98 "OffTheLeadModel" "now" "[I" : Cond) ∈ wsX12_goodOf := by decide +kernel
theorem ii_X12_goodOf : ∀ w ∈ wsX120, w ∈ wsX12_goodOf := fun w h => List.mem_cons_of_mem _ (List.mem_append_right _ (h))
theorem mr_2_66_71 : ∀ j, 66 ≤ j → j < 71 → mr 2 j = 2147483648 := fun j h1 h2 => iv (f := mr 2) (lo := 66) (n := 5) (by decide +kernel) j h1 h2
theorem mm_X12_goodAll_1 : (.fieldLink RX12 98 "OffTheLeadModel" "now" "[I" : Cond) ∈ wsX12_goodAll := by decide +kernel
theorem ii_X12_goodAll : ∀ w ∈ wsX120, w ∈ wsX12_goodAll := fun w h => List.mem_cons_of_mem _ (List.mem_append_right _ (h))
theorem mm_X12_awaySet_1 : (.fieldLink RX12 98 "OffTheLeadModel" "now" "[I" : Cond) ∈ wsX12_awaySet := by decide +kernel
theorem ii_X12_awaySet : ∀ w ∈ wsX120, w ∈ wsX12_awaySet := fun w h => List.mem_cons_of_mem _ (List.mem_append_right _ (h))
theorem mm_X12_person_1 : (.fieldLink RX12 1 "OffTheLeadModel" "thrown" "I" : Cond) ∈ wsX12_person := by decide +kernel
theorem ii_X12_person : ∀ w ∈ wsX120, w ∈ wsX12_person := fun w h => List.mem_cons_of_mem _ (List.mem_append_right _ (h))
theorem mm_X12_person_2 : (.fieldLink RX12 98 "OffTheLeadModel" "now" "[I" : Cond) ∈ wsX12_person := by decide +kernel
theorem mm_X12_dog_1 : (.fieldLink RX12 1 "OffTheLeadModel" "thrown" "I" : Cond) ∈ wsX12_dog := by decide +kernel
theorem ii_X12_dog : ∀ w ∈ wsX120, w ∈ wsX12_dog := fun w h => List.mem_cons_of_mem _ (List.mem_append_right _ (h))
theorem mm_X12_dog_2 : (.fieldLink RX12 98 "OffTheLeadModel" "now" "[I" : Cond) ∈ wsX12_dog := by decide +kernel
theorem mr_2_48_54 : ∀ j, 48 ≤ j → j < 54 → mr 2 j = 13 := fun j h1 h2 => iv (f := mr 2) (lo := 48) (n := 6) (by decide +kernel) j h1 h2
theorem mm_X12_place_1 : (.fieldLink RX12 1 "OffTheLeadModel" "thrown" "I" : Cond) ∈ wsX12_place := by decide +kernel
theorem ii_X12_place : ∀ w ∈ wsX120, w ∈ wsX12_place := fun w h => List.mem_cons_of_mem _ (List.mem_append_right _ (h))
theorem mm_X12_place_2 : (.fieldLink RX12 98 "OffTheLeadModel" "now" "[I" : Cond) ∈ wsX12_place := by decide +kernel
theorem mm_X12_now_1 : (.fieldLink RX12 1 "OffTheLeadModel" "thrown" "I" : Cond) ∈ wsX12_now := by decide +kernel
theorem ii_X12_now : ∀ w ∈ wsX120, w ∈ wsX12_now := fun w h => List.mem_cons_of_mem _ (List.mem_append_right _ (h))
theorem mm_X12_now_2 : (.fieldLink RX12 98 "OffTheLeadModel" "now" "[I" : Cond) ∈ wsX12_now := by decide +kernel
theorem mm_X12_fault_1 : (.fieldLink RX12 1 "OffTheLeadModel" "thrown" "I" : Cond) ∈ wsX12_fault := by decide +kernel
theorem ii_X12_fault : ∀ w ∈ wsX120, w ∈ wsX12_fault := fun w h => List.mem_cons_of_mem _ (List.mem_append_right _ (h))
theorem mm_X12_fault_2 : (.fieldLink RX12 66 "OffTheLeadModel" "fault" "I" : Cond) ∈ wsX12_fault := by decide +kernel
theorem mm_X12_there_1 : (.fieldLink RX12 1 "OffTheLeadModel" "thrown" "I" : Cond) ∈ wsX12_there := by decide +kernel
theorem ii_X12_there : ∀ w ∈ wsX120, w ∈ wsX12_there := fun w h => List.mem_cons_of_mem _ (List.mem_append_right _ (h))
theorem mm_X12_there_2 : (.fieldLink RX12 98 "OffTheLeadModel" "now" "[I" : Cond) ∈ wsX12_there := by decide +kernel
theorem mm_X12_meetsIn_1 : (.fieldLink RX12 98 "OffTheLeadModel" "now" "[I" : Cond) ∈ wsX12_meetsIn := by decide +kernel
theorem ii_X12_meetsIn : ∀ w ∈ wsX120, w ∈ wsX12_meetsIn := fun w h => List.mem_cons_of_mem _ (List.mem_append_right _ (h))
theorem mm_X12_meets_1 : (.fieldLink RX12 1 "OffTheLeadModel" "thrown" "I" : Cond) ∈ wsX12_meets := by decide +kernel
theorem ii_X12_meets : ∀ w ∈ wsX120, w ∈ wsX12_meets := fun w h => List.mem_cons_of_mem _ (List.mem_append_right _ (h))
theorem mm_X12_bestAt_1 : (.fieldLink RX12 1 "OffTheLeadModel" "thrown" "I" : Cond) ∈ wsX12_bestAt := by decide +kernel
theorem ii_X12_bestAt : ∀ w ∈ wsX120, w ∈ wsX12_bestAt := fun w h => List.mem_cons_of_mem _ (List.mem_append_right _ (h))
theorem mm_X12_bestAt_3 : (.fieldLink RX12 130 "OffTheLeadModel" "bestTo" "I" : Cond) ∈ wsX12_bestAt := by decide +kernel
theorem mm_X12_bestAt_2 : (.fieldLink RX12 127 "OffTheLeadModel" "bestFrom" "I" : Cond) ∈ wsX12_bestAt := by decide +kernel
theorem mm_X12_manyOf_1 : (.fieldLink RX12 98 "OffTheLeadModel" "now" "[I" : Cond) ∈ wsX12_manyOf := by decide +kernel
theorem ii_X12_manyOf : ∀ w ∈ wsX120, w ∈ wsX12_manyOf := fun w h => List.mem_cons_of_mem _ (List.mem_append_right _ (h))
theorem mm_X12_votes_1 : (.fieldLink RX12 1 "OffTheLeadModel" "thrown" "I" : Cond) ∈ wsX12_votes := by decide +kernel
theorem ii_X12_votes : ∀ w ∈ wsX120, w ∈ wsX12_votes := fun w h => List.mem_cons_of_mem _ (List.mem_append_right _ (h))
theorem mm_X12_against_1 : (.fieldLink RX12 1 "OffTheLeadModel" "thrown" "I" : Cond) ∈ wsX12_against := by decide +kernel
theorem ii_X12_against : ∀ w ∈ wsX120, w ∈ wsX12_against := fun w h => List.mem_cons_of_mem _ (List.mem_append_right _ (h))
theorem mm_X12_missed_1 : (.fieldLink RX12 1 "OffTheLeadModel" "thrown" "I" : Cond) ∈ wsX12_missed := by decide +kernel
theorem ii_X12_missed : ∀ w ∈ wsX120, w ∈ wsX12_missed := fun w h => List.mem_cons_of_mem _ (List.mem_append_right _ (h))
theorem mm_X12_partedGood_1 : (.fieldLink RX12 1 "OffTheLeadModel" "thrown" "I" : Cond) ∈ wsX12_partedGood := by decide +kernel
theorem ii_X12_partedGood : ∀ w ∈ wsX120, w ∈ wsX12_partedGood := fun w h => List.mem_cons_of_mem _ (List.mem_append_right _ (h))
theorem mm_X12_partedGood_2 : (.fieldLink RX12 139 "OffTheLeadModel" "partedGood" "I" : Cond) ∈ wsX12_partedGood := by decide +kernel
theorem mm_X12_told_1 : (.fieldLink RX12 1 "OffTheLeadModel" "thrown" "I" : Cond) ∈ wsX12_told := by decide +kernel
theorem ii_X12_told : ∀ w ∈ wsX120, w ∈ wsX12_told := fun w h => List.mem_cons_of_mem _ (List.mem_append_right _ (h))
theorem mm_X12_told_2 : (.fieldLink RX12 392 "OffTheLeadModel" "hasWritten" "Z" : Cond) ∈ wsX12_told := by decide +kernel
theorem mm_X12_told_3 : (.fieldLink RX12 148 "OffTheLeadModel" "written" "[I" : Cond) ∈ wsX12_told := by decide +kernel
theorem mm_X12_count_1 : (.fieldLink RX12 1 "OffTheLeadModel" "thrown" "I" : Cond) ∈ wsX12_count := by decide +kernel
theorem ii_X12_count : ∀ w ∈ wsX120, w ∈ wsX12_count := fun w h => List.mem_cons_of_mem _ (List.mem_append_right _ (h))
theorem mm_X12_count_2 : (.fieldLink RX12 98 "OffTheLeadModel" "now" "[I" : Cond) ∈ wsX12_count := by decide +kernel
theorem mm_X12_count_3 : (.fieldLink RX12 11 "OffTheLeadModel" "taped" "I" : Cond) ∈ wsX12_count := by decide +kernel
