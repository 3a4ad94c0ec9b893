theorem mm_X12_saysOne_1 : (.fieldLink RX12 399 "OffTheLeadModel" "nodes" "I" : Cond) ∈ wsX12_saysOne := by decide +kernel
theorem ii_X12_saysOne : ∀ w ∈ wsX120, w ∈ wsX12_saysOne := fun w h => List.mem_cons_of_mem _ (List.mem_append_right _ (h))
theorem mm_X12_saysOne_2 : (.fieldLink RX12 151 "OffTheLeadModel" "node" "[I" : Cond) ∈ wsX12_saysOne := by decide +kernel
theorem mr_16_0_237 : ∀ j, 0 ≤ j → j < 237 → mr 16 j = 0 := fun j h1 h2 => iv (f := mr 16) (lo := 0) (n := 237) (by decide +kernel) j h1 h2
theorem pcl_16_0_237 : ∀ j, 0 ≤ j → j < 237 → pcl 16 j = 8 := fun j h1 h2 => iv (f := pcl 16) (lo := 0) (n := 237) (by decide +kernel) j h1 h2
theorem mr_16_1_238 : ∀ j, 1 ≤ j → j < 238 → mr 16 j = 0 := fun j h1 h2 => iv (f := mr 16) (lo := 1) (n := 237) (by decide +kernel) j h1 h2
theorem pcl_16_1_238 : ∀ j, 1 ≤ j → j < 238 → pcl 16 j = 8 := fun j h1 h2 => iv (f := pcl 16) (lo := 1) (n := 237) (by decide +kernel) j h1 h2
theorem mr_16_2_239 : ∀ j, 2 ≤ j → j < 239 → mr 16 j = 0 := fun j h1 h2 => iv (f := mr 16) (lo := 2) (n := 237) (by decide +kernel) j h1 h2
theorem pcl_16_2_239 : ∀ j, 2 ≤ j → j < 239 → pcl 16 j = 8 := fun j h1 h2 => iv (f := pcl 16) (lo := 2) (n := 237) (by decide +kernel) j h1 h2
theorem mr_16_3_240 : ∀ j, 3 ≤ j → j < 240 → mr 16 j = 0 := fun j h1 h2 => iv (f := mr 16) (lo := 3) (n := 237) (by decide +kernel) j h1 h2
theorem pcl_16_3_240 : ∀ j, 3 ≤ j → j < 240 → pcl 16 j = 8 := fun j h1 h2 => iv (f := pcl 16) (lo := 3) (n := 237) (by decide +kernel) j h1 h2
theorem mm_X12_readSaid_1 : (.fieldLink RX12 415 "OffTheLeadModel" "onesMany" "I" : Cond) ∈ wsX12_readSaid := by decide +kernel
theorem ii_X12_readSaid : ∀ w ∈ wsX120, w ∈ wsX12_readSaid := fun w h => List.mem_cons_of_mem _ (List.mem_append_right _ (h))
theorem mm_X12_readSaid_2 : (.fieldLink RX12 418 "OffTheLeadModel" "within" "I" : Cond) ∈ wsX12_readSaid := by decide +kernel
theorem mm_X12_readAnd_1 : (.fieldLink RX12 405 "OffTheLeadModel" "top" "I" : Cond) ∈ wsX12_readAnd := by decide +kernel
theorem ii_X12_readAnd : ∀ w ∈ wsX120, w ∈ wsX12_readAnd := fun w h => List.mem_cons_of_mem _ (List.mem_append_right _ (h))
theorem mm_X12_readOr_1 : (.fieldLink RX12 405 "OffTheLeadModel" "top" "I" : Cond) ∈ wsX12_readOr := by decide +kernel
theorem ii_X12_readOr : ∀ w ∈ wsX120, w ∈ wsX12_readOr := fun w h => List.mem_cons_of_mem _ (List.mem_append_right _ (h))
theorem mm_X12_readNot_1 : (.fieldLink RX12 405 "OffTheLeadModel" "top" "I" : Cond) ∈ wsX12_readNot := by decide +kernel
theorem ii_X12_readNot : ∀ w ∈ wsX120, w ∈ wsX12_readNot := fun w h => List.mem_cons_of_mem _ (List.mem_append_right _ (h))
theorem mm_X12_readOf_1 : (.fieldLink RX12 98 "OffTheLeadModel" "now" "[I" : Cond) ∈ wsX12_readOf := by decide +kernel
theorem ii_X12_readOf : ∀ w ∈ wsX120, w ∈ wsX12_readOf := fun w h => List.mem_cons_of_mem _ (List.mem_append_right _ (h))
theorem mm_X12_readOf_2 : (.fieldLink RX12 79 "OffTheLeadModel" "told" "I" : Cond) ∈ wsX12_readOf := by decide +kernel
theorem mm_X12_readOf_3 : (.fieldLink RX12 405 "OffTheLeadModel" "top" "I" : Cond) ∈ wsX12_readOf := by decide +kernel
theorem mm_X12_readCompare_1 : (.fieldLink RX12 40 "OffTheLeadModel" "sign" "I" : Cond) ∈ wsX12_readCompare := by decide +kernel
theorem ii_X12_readCompare : ∀ w ∈ wsX120, w ∈ wsX12_readCompare := fun w h => List.mem_cons_of_mem _ (List.mem_append_right _ (h))
theorem mm_X12_readCompare_2 : (.fieldLink RX12 79 "OffTheLeadModel" "told" "I" : Cond) ∈ wsX12_readCompare := by decide +kernel
theorem mm_X12_readCompare_3 : (.fieldLink RX12 405 "OffTheLeadModel" "top" "I" : Cond) ∈ wsX12_readCompare := by decide +kernel
theorem mm_X12_readSaid_3 : (.fieldLink RX12 405 "OffTheLeadModel" "top" "I" : Cond) ∈ wsX12_readSaid := by decide +kernel
theorem mm_X12_sentence_1 : (.fieldLink RX12 399 "OffTheLeadModel" "nodes" "I" : Cond) ∈ wsX12_sentence := by decide +kernel
theorem ii_X12_sentence : ∀ w ∈ wsX120, w ∈ wsX12_sentence := fun w h => List.mem_cons_of_mem _ (List.mem_append_right _ (h))
theorem mm_X12_sentence_2 : (.fieldLink RX12 415 "OffTheLeadModel" "onesMany" "I" : Cond) ∈ wsX12_sentence := by decide +kernel
theorem mm_X12_sentence_3 : (.fieldLink RX12 418 "OffTheLeadModel" "within" "I" : Cond) ∈ wsX12_sentence := by decide +kernel
theorem mm_X12_sentence_5 : (.fieldLink RX12 30 "OffTheLeadModel" "kind" "I" : Cond) ∈ wsX12_sentence := by decide +kernel
theorem mm_X12_sentence_6 : (.fieldLink RX12 98 "OffTheLeadModel" "now" "[I" : Cond) ∈ wsX12_sentence := by decide +kernel
theorem mm_X12_sentence_7 : (.fieldLink RX12 405 "OffTheLeadModel" "top" "I" : Cond) ∈ wsX12_sentence := by decide +kernel
theorem mm_X12_sentence_8 : (.fieldLink RX12 151 "OffTheLeadModel" "node" "[I" : Cond) ∈ wsX12_sentence := by decide +kernel
theorem mr_2_133_373 : ∀ j, 133 ≤ j → j < 373 → mr 2 j = 0 := fun j h1 h2 => iv (f := mr 2) (lo := 133) (n := 240) (by decide +kernel) j h1 h2
theorem pcl_2_133_373 : ∀ j, 133 ≤ j → j < 373 → pcl 2 j = 6 := fun j h1 h2 => iv (f := pcl 2) (lo := 133) (n := 240) (by decide +kernel) j h1 h2
theorem mm_X12_sentence_4 : (.fieldLink RX12 69 "OffTheLeadModel" "place" "I" : Cond) ∈ wsX12_sentence := by decide +kernel
