theorem mm_X12_readNamed_1 : (.fieldLink RX12 113 "OffTheLeadModel" "name" "[J" : Cond) ∈ wsX12_readNamed := by decide +kernel
theorem ii_X12_readNamed : ∀ w ∈ wsX120, w ∈ wsX12_readNamed := fun w h => List.mem_cons_of_mem _ (List.mem_append_right _ (h))
theorem mm_X12_readNamed_2 : (.fieldLink RX12 43 "OffTheLeadModel" "word" "J" : Cond) ∈ wsX12_readNamed := by decide +kernel
theorem mm_X12_readNamed_3 : (.fieldLink RX12 79 "OffTheLeadModel" "told" "I" : Cond) ∈ wsX12_readNamed := by decide +kernel
theorem mm_X12_readPlaceName_1 : (.fieldLink RX12 98 "OffTheLeadModel" "now" "[I" : Cond) ∈ wsX12_readPlaceName := by decide +kernel
theorem ii_X12_readPlaceName : ∀ w ∈ wsX120, w ∈ wsX12_readPlaceName := fun w h => List.mem_cons_of_mem _ (List.mem_append_right _ (h))
theorem mm_X12_keep_1 : (.fieldLink RX12 145 "OffTheLeadModel" "line" "[I" : Cond) ∈ wsX12_keep := by decide +kernel
theorem ii_X12_keep : ∀ w ∈ wsX120, w ∈ wsX12_keep := fun w h => List.mem_cons_of_mem _ (List.mem_append_right _ (h))
theorem mm_X12_keep_2 : (.fieldLink RX12 79 "OffTheLeadModel" "told" "I" : Cond) ∈ wsX12_keep := by decide +kernel
theorem mr_14_0_200 : ∀ j, 0 ≤ j → j < 200 → mr 14 j = 0 := fun j h1 h2 => iv (f := mr 14) (lo := 0) (n := 200) (by decide +kernel) j h1 h2
theorem pcl_14_0_200 : ∀ j, 0 ≤ j → j < 200 → pcl 14 j = 13 := fun j h1 h2 => iv (f := pcl 14) (lo := 0) (n := 200) (by decide +kernel) j h1 h2
theorem mm_X12_readHours_1 : (.fieldLink RX12 145 "OffTheLeadModel" "line" "[I" : Cond) ∈ wsX12_readHours := by decide +kernel
theorem ii_X12_readHours : ∀ w ∈ wsX120, w ∈ wsX12_readHours := fun w h => List.mem_cons_of_mem _ (List.mem_append_right _ (h))
theorem mm_X12_readDogDoes_1 : (.fieldLink RX12 145 "OffTheLeadModel" "line" "[I" : Cond) ∈ wsX12_readDogDoes := by decide +kernel
theorem ii_X12_readDogDoes : ∀ w ∈ wsX120, w ∈ wsX12_readDogDoes := fun w h => List.mem_cons_of_mem _ (List.mem_append_right _ (h))
theorem mr_14_0_196 : ∀ j, 0 ≤ j → j < 196 → mr 14 j = 0 := fun j h1 h2 => iv (f := mr 14) (lo := 0) (n := 196) (by decide +kernel) j h1 h2
theorem pcl_14_0_196 : ∀ j, 0 ≤ j → j < 196 → pcl 14 j = 13 := fun j h1 h2 => iv (f := pcl 14) (lo := 0) (n := 196) (by decide +kernel) j h1 h2
theorem mr_14_2_198 : ∀ j, 2 ≤ j → j < 198 → mr 14 j = 0 := fun j h1 h2 => iv (f := mr 14) (lo := 2) (n := 196) (by decide +kernel) j h1 h2
theorem pcl_14_2_198 : ∀ j, 2 ≤ j → j < 198 → pcl 14 j = 13 := fun j h1 h2 => iv (f := pcl 14) (lo := 2) (n := 196) (by decide +kernel) j h1 h2
theorem mm_X12_readPersonDoes_1 : (.fieldLink RX12 145 "OffTheLeadModel" "line" "[I" : Cond) ∈ wsX12_readPersonDoes := by decide +kernel
theorem ii_X12_readPersonDoes : ∀ w ∈ wsX120, w ∈ wsX12_readPersonDoes := fun w h => List.mem_cons_of_mem _ (List.mem_append_right _ (h))
theorem mm_X12_readOfAll_1 : (.fieldLink RX12 145 "OffTheLeadModel" "line" "[I" : Cond) ∈ wsX12_readOfAll := by decide +kernel
theorem ii_X12_readOfAll : ∀ w ∈ wsX120, w ∈ wsX12_readOfAll := fun w h => List.mem_cons_of_mem _ (List.mem_append_right _ (h))
theorem mm_X12_readBookLine_4 : (.fieldLink RX12 374 "OffTheLeadModel" "lineMany" "I" : Cond) ∈ wsX12_readBookLine := by decide +kernel
theorem ii_X12_readBookLine : ∀ w ∈ wsX120, w ∈ wsX12_readBookLine := fun w h => List.mem_cons_of_mem _ (List.mem_append_right _ (h))
theorem mm_X12_readBookLine_1 : (.fieldLink RX12 113 "OffTheLeadModel" "name" "[J" : Cond) ∈ wsX12_readBookLine := by decide +kernel
theorem mm_X12_readBookLine_2 : (.fieldLink RX12 98 "OffTheLeadModel" "now" "[I" : Cond) ∈ wsX12_readBookLine := by decide +kernel
theorem mm_X12_readBookLine_3 : (.fieldLink RX12 43 "OffTheLeadModel" "word" "J" : Cond) ∈ wsX12_readBookLine := by decide +kernel
theorem mm_X12_readBookLine_5 : (.fieldLink RX12 145 "OffTheLeadModel" "line" "[I" : Cond) ∈ wsX12_readBookLine := by decide +kernel
theorem mr_14_1_197 : ∀ j, 1 ≤ j → j < 197 → mr 14 j = 0 := fun j h1 h2 => iv (f := mr 14) (lo := 1) (n := 196) (by decide +kernel) j h1 h2
theorem pcl_14_1_197 : ∀ j, 1 ≤ j → j < 197 → pcl 14 j = 13 := fun j h1 h2 => iv (f := pcl 14) (lo := 1) (n := 196) (by decide +kernel) j h1 h2
theorem mm_X12_goBy_1 : (.fieldLink RX12 145 "OffTheLeadModel" "line" "[I" : Cond) ∈ wsX12_goBy := by decide +kernel
theorem ii_X12_goBy : ∀ w ∈ wsX120, w ∈ wsX12_goBy := fun w h => List.mem_cons_of_mem _ (List.mem_append_right _ (h))
theorem mm_X12_goBy_2 : (.fieldLink RX12 98 "OffTheLeadModel" "now" "[I" : Cond) ∈ wsX12_goBy := by decide +kernel
theorem mm_X12_stay_1 : (.fieldLink RX12 98 "OffTheLeadModel" "now" "[I" : Cond) ∈ wsX12_stay := by decide +kernel
theorem ii_X12_stay : ∀ w ∈ wsX120, w ∈ wsX12_stay := fun w h => List.mem_cons_of_mem _ (List.mem_append_right _ (h))
theorem mm_X12_stay_2 : (.fieldLink RX12 110 "OffTheLeadModel" "aside" "[I" : Cond) ∈ wsX12_stay := by decide +kernel
theorem mm_X12_book_1 : (.fieldLink RX12 1 "OffTheLeadModel" "thrown" "I" : Cond) ∈ wsX12_book := by decide +kernel
theorem ii_X12_book : ∀ w ∈ wsX120, w ∈ wsX12_book := fun w h => List.mem_cons_of_mem _ (List.mem_append_right _ (h))
theorem mm_X12_book_2 : (.fieldLink RX12 374 "OffTheLeadModel" "lineMany" "I" : Cond) ∈ wsX12_book := by decide +kernel
theorem mm_X12_book_3 : (.fieldLink RX12 30 "OffTheLeadModel" "kind" "I" : Cond) ∈ wsX12_book := by decide +kernel
theorem mm_X12_book_5 : (.fieldLink RX12 148 "OffTheLeadModel" "written" "[I" : Cond) ∈ wsX12_book := by decide +kernel
theorem mm_X12_book_6 : (.fieldLink RX12 98 "OffTheLeadModel" "now" "[I" : Cond) ∈ wsX12_book := by decide +kernel
theorem mm_X12_book_7 : (.fieldLink RX12 392 "OffTheLeadModel" "hasWritten" "Z" : Cond) ∈ wsX12_book := by decide +kernel
theorem mm_X12_book_4 : (.fieldLink RX12 69 "OffTheLeadModel" "place" "I" : Cond) ∈ wsX12_book := by decide +kernel
