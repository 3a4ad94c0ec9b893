theorem mm_X12_refuse_1 : (.fieldLink RX12 1 "OffTheLeadModel" "thrown" "I" : Cond) ∈ wsX12_refuse := by decide +kernel
theorem ii_X12_refuse : ∀ w ∈ wsX120, w ∈ wsX12_refuse := fun w h => List.mem_cons_of_mem _ (List.mem_append_right _ (h))
theorem mm_X12_isPlace_1 : (.fieldLink RX12 98 "OffTheLeadModel" "now" "[I" : Cond) ∈ wsX12_isPlace := by decide +kernel
theorem ii_X12_isPlace : ∀ w ∈ wsX120, w ∈ wsX12_isPlace := fun w h => List.mem_cons_of_mem _ (List.mem_append_right _ (h))
theorem mm_X12_isPerson_1 : (.fieldLink RX12 98 "OffTheLeadModel" "now" "[I" : Cond) ∈ wsX12_isPerson := by decide +kernel
theorem ii_X12_isPerson : ∀ w ∈ wsX120, w ∈ wsX12_isPerson := fun w h => List.mem_cons_of_mem _ (List.mem_append_right _ (h))
theorem mm_X12_isDog_1 : (.fieldLink RX12 98 "OffTheLeadModel" "now" "[I" : Cond) ∈ wsX12_isDog := by decide +kernel
theorem ii_X12_isDog : ∀ w ∈ wsX120, w ∈ wsX12_isDog := fun w h => List.mem_cons_of_mem _ (List.mem_append_right _ (h))
theorem mm_X12_isAway_1 : (.fieldLink RX12 98 "OffTheLeadModel" "now" "[I" : Cond) ∈ wsX12_isAway := by decide +kernel
theorem ii_X12_isAway : ∀ w ∈ wsX120, w ∈ wsX12_isAway := fun w h => List.mem_cons_of_mem _ (List.mem_append_right _ (h))
theorem mm_X12_isFenced_1 : (.fieldLink RX12 98 "OffTheLeadModel" "now" "[I" : Cond) ∈ wsX12_isFenced := by decide +kernel
theorem ii_X12_isFenced : ∀ w ∈ wsX120, w ∈ wsX12_isFenced := fun w h => List.mem_cons_of_mem _ (List.mem_append_right _ (h))
theorem mm_X12_hoursOf_1 : (.fieldLink RX12 98 "OffTheLeadModel" "now" "[I" : Cond) ∈ wsX12_hoursOf := by decide +kernel
theorem ii_X12_hoursOf : ∀ w ∈ wsX120, w ∈ wsX12_hoursOf := fun w h => List.mem_cons_of_mem _ (List.mem_append_right _ (h))
theorem mm_X12_comesIn_1 : (.fieldLink RX12 98 "OffTheLeadModel" "now" "[I" : Cond) ∈ wsX12_comesIn := by decide +kernel
theorem ii_X12_comesIn : ∀ w ∈ wsX120, w ∈ wsX12_comesIn := fun w h => List.mem_cons_of_mem _ (List.mem_append_right _ (h))
theorem mr_2_71_79 : ∀ j, 71 ≤ j → j < 79 → mr 2 j = 5 := fun j h1 h2 => iv (f := mr 2) (lo := 71) (n := 8) (by decide +kernel) j h1 h2
theorem mm_X12_dogsOf_1 : (.fieldLink RX12 98 "OffTheLeadModel" "now" "[I" : Cond) ∈ wsX12_dogsOf := by decide +kernel
theorem ii_X12_dogsOf : ∀ w ∈ wsX120, w ∈ wsX12_dogsOf := fun w h => List.mem_cons_of_mem _ (List.mem_append_right _ (h))
theorem mr_2_42_48 : ∀ j, 42 ≤ j → j < 48 → mr 2 j = 8 := fun j h1 h2 => iv (f := mr 2) (lo := 42) (n := 6) (by decide +kernel) j h1 h2
