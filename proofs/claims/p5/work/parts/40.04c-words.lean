theorem mm_X12_tapeAt_1 : (.fieldLink RX12 18 "OffTheLeadModel" "size" "I" : Cond) ∈ wsX12_tapeAt := by decide +kernel
theorem ii_X12_tapeAt : ∀ w ∈ wsX120, w ∈ wsX12_tapeAt := fun w h => List.mem_cons_of_mem _ (List.mem_append_right _ (h))
theorem mm_X12_tapeAt_2 : (.fieldLink RX12 7 "OffTheLeadModel" "tape" "[I" : Cond) ∈ wsX12_tapeAt := by decide +kernel
theorem mm_X12_go_1 : (.fieldLink RX12 21 "OffTheLeadModel" "to" "I" : Cond) ∈ wsX12_go := by decide +kernel
theorem ii_X12_go : ∀ w ∈ wsX120, w ∈ wsX12_go := fun w h => List.mem_cons_of_mem _ (List.mem_append_right _ (h))
theorem mm_X12_go_2 : (.fieldLink RX12 18 "OffTheLeadModel" "size" "I" : Cond) ∈ wsX12_go := by decide +kernel
theorem mm_X12_go_4 : (.fieldLink RX12 24 "OffTheLeadModel" "from" "I" : Cond) ∈ wsX12_go := by decide +kernel
theorem mm_X12_go_5 : (.fieldLink RX12 27 "OffTheLeadModel" "limit" "I" : Cond) ∈ wsX12_go := by decide +kernel
theorem mm_X12_go_3 : (.fieldLink RX12 7 "OffTheLeadModel" "tape" "[I" : Cond) ∈ wsX12_go := by decide +kernel
theorem mm_X12_go_8 : (.fieldLink RX12 43 "OffTheLeadModel" "word" "J" : Cond) ∈ wsX12_go := by decide +kernel
theorem mm_X12_go_9 : (.fieldLink RX12 47 "OffTheLeadModel" "number" "I" : Cond) ∈ wsX12_go := by decide +kernel
theorem mm_X12_go_10 : (.constantLong RX12 54 (27) : Cond) ∈ wsX12_go := by decide +kernel
theorem mm_X12_go_11 : (.constantLong RX12 56 (96) : Cond) ∈ wsX12_go := by decide +kernel
theorem mm_X12_go_6 : (.fieldLink RX12 30 "OffTheLeadModel" "kind" "I" : Cond) ∈ wsX12_go := by decide +kernel
theorem mm_X12_go_7 : (.fieldLink RX12 40 "OffTheLeadModel" "sign" "I" : Cond) ∈ wsX12_go := by decide +kernel
theorem mm_X12_spelt_1 : (.constantLong RX12 54 (27) : Cond) ∈ wsX12_spelt := by decide +kernel
theorem mm_X12_spelt_2 : (.constantLong RX12 56 (96) : Cond) ∈ wsX12_spelt := by decide +kernel
theorem mm_X12_isWord_1 : (.fieldLink RX12 30 "OffTheLeadModel" "kind" "I" : Cond) ∈ wsX12_isWord := by decide +kernel
theorem ii_X12_isWord : ∀ w ∈ wsX120, w ∈ wsX12_isWord := fun w h => List.mem_cons_of_mem _ (List.mem_append_right _ (h))
theorem mm_X12_isWord_2 : (.fieldLink RX12 43 "OffTheLeadModel" "word" "J" : Cond) ∈ wsX12_isWord := by decide +kernel
theorem mm_X12_isSign_1 : (.fieldLink RX12 30 "OffTheLeadModel" "kind" "I" : Cond) ∈ wsX12_isSign := by decide +kernel
theorem ii_X12_isSign : ∀ w ∈ wsX120, w ∈ wsX12_isSign := fun w h => List.mem_cons_of_mem _ (List.mem_append_right _ (h))
theorem mm_X12_isSign_2 : (.fieldLink RX12 40 "OffTheLeadModel" "sign" "I" : Cond) ∈ wsX12_isSign := by decide +kernel
theorem mm_X12_isName_1 : (.fieldLink RX12 30 "OffTheLeadModel" "kind" "I" : Cond) ∈ wsX12_isName := by decide +kernel
theorem ii_X12_isName : ∀ w ∈ wsX120, w ∈ wsX12_isName := fun w h => List.mem_cons_of_mem _ (List.mem_append_right _ (h))
theorem mm_X12_isName_2 : (.fieldLink RX12 43 "OffTheLeadModel" "word" "J" : Cond) ∈ wsX12_isName := by decide +kernel
theorem mm_X12_bad_1 : (.fieldLink RX12 30 "OffTheLeadModel" "kind" "I" : Cond) ∈ wsX12_bad := by decide +kernel
theorem ii_X12_bad : ∀ w ∈ wsX120, w ∈ wsX12_bad := fun w h => List.mem_cons_of_mem _ (List.mem_append_right _ (h))
theorem mm_X12_bad_2 : (.fieldLink RX12 66 "OffTheLeadModel" "fault" "I" : Cond) ∈ wsX12_bad := by decide +kernel
theorem mm_X12_bad_3 : (.fieldLink RX12 24 "OffTheLeadModel" "from" "I" : Cond) ∈ wsX12_bad := by decide +kernel
theorem mm_X12_bad_4 : (.fieldLink RX12 69 "OffTheLeadModel" "place" "I" : Cond) ∈ wsX12_bad := by decide +kernel
theorem mm_X12_readNumber_1 : (.fieldLink RX12 30 "OffTheLeadModel" "kind" "I" : Cond) ∈ wsX12_readNumber := by decide +kernel
theorem ii_X12_readNumber : ∀ w ∈ wsX120, w ∈ wsX12_readNumber := fun w h => List.mem_cons_of_mem _ (List.mem_append_right _ (h))
theorem mm_X12_readNumber_2 : (.fieldLink RX12 47 "OffTheLeadModel" "number" "I" : Cond) ∈ wsX12_readNumber := by decide +kernel
theorem mm_X12_readNumber_3 : (.fieldLink RX12 79 "OffTheLeadModel" "told" "I" : Cond) ∈ wsX12_readNumber := by decide +kernel
theorem mm_X12_take_1 : (.fieldLink RX12 11 "OffTheLeadModel" "taped" "I" : Cond) ∈ wsX12_take := by decide +kernel
theorem ii_X12_take : ∀ w ∈ wsX120, w ∈ wsX12_take := fun w h => List.mem_cons_of_mem _ (List.mem_append_right _ (h))
theorem mm_X12_begin_1 : (.fieldLink RX12 1 "OffTheLeadModel" "thrown" "I" : Cond) ∈ wsX12_begin := by decide +kernel
theorem ii_X12_begin : ∀ w ∈ wsX120, w ∈ wsX12_begin := fun w h => List.mem_cons_of_mem _ (List.mem_append_right _ (h))
theorem mm_X12_begin_2 : (.fieldLink RX12 18 "OffTheLeadModel" "size" "I" : Cond) ∈ wsX12_begin := by decide +kernel
theorem mm_X12_begin_3 : (.fieldLink RX12 27 "OffTheLeadModel" "limit" "I" : Cond) ∈ wsX12_begin := by decide +kernel
theorem mm_X12_begin_4 : (.fieldLink RX12 66 "OffTheLeadModel" "fault" "I" : Cond) ∈ wsX12_begin := by decide +kernel
theorem mm_X12_begin_5 : (.fieldLink RX12 21 "OffTheLeadModel" "to" "I" : Cond) ∈ wsX12_begin := by decide +kernel
theorem mm_X12_readNew_1 : (.fieldLink RX12 117 "OffTheLeadModel" "readName" "[J" : Cond) ∈ wsX12_readNew := by decide +kernel
theorem ii_X12_readNew : ∀ w ∈ wsX120, w ∈ wsX12_readNew := fun w h => List.mem_cons_of_mem _ (List.mem_append_right _ (h))
theorem mm_X12_readNew_2 : (.fieldLink RX12 101 "OffTheLeadModel" "read" "[I" : Cond) ∈ wsX12_readNew := by decide +kernel
theorem mm_X12_readNew_3 : (.fieldLink RX12 43 "OffTheLeadModel" "word" "J" : Cond) ∈ wsX12_readNew := by decide +kernel
theorem mm_X12_readOne_1 : (.fieldLink RX12 117 "OffTheLeadModel" "readName" "[J" : Cond) ∈ wsX12_readOne := by decide +kernel
theorem ii_X12_readOne : ∀ w ∈ wsX120, w ∈ wsX12_readOne := fun w h => List.mem_cons_of_mem _ (List.mem_append_right _ (h))
theorem mm_X12_readOne_2 : (.fieldLink RX12 43 "OffTheLeadModel" "word" "J" : Cond) ∈ wsX12_readOne := by decide +kernel
theorem mm_X12_readOne_3 : (.fieldLink RX12 79 "OffTheLeadModel" "told" "I" : Cond) ∈ wsX12_readOne := by decide +kernel
theorem mm_X12_readFirst_1 : (.fieldLink RX12 101 "OffTheLeadModel" "read" "[I" : Cond) ∈ wsX12_readFirst := by decide +kernel
theorem ii_X12_readFirst : ∀ w ∈ wsX120, w ∈ wsX12_readFirst := fun w h => List.mem_cons_of_mem _ (List.mem_append_right _ (h))
theorem mm_X12_put_1 : (.fieldLink RX12 101 "OffTheLeadModel" "read" "[I" : Cond) ∈ wsX12_put := by decide +kernel
theorem ii_X12_put : ∀ w ∈ wsX120, w ∈ wsX12_put := fun w h => List.mem_cons_of_mem _ (List.mem_append_right _ (h))
theorem mm_X12_put_2 : (.fieldLink RX12 79 "OffTheLeadModel" "told" "I" : Cond) ∈ wsX12_put := by decide +kernel
theorem mr_3_10_18 : ∀ j, 10 ≤ j → j < 18 → mr 3 j = 5 := fun j h1 h2 => iv (f := mr 3) (lo := 10) (n := 8) (by decide +kernel) j h1 h2
theorem pcl_3_10_18 : ∀ j, 10 ≤ j → j < 18 → pcl 3 j = 0 := fun j h1 h2 => iv (f := pcl 3) (lo := 10) (n := 8) (by decide +kernel) j h1 h2
theorem mr_3_18_26 : ∀ j, 18 ≤ j → j < 26 → mr 3 j = 0 := fun j h1 h2 => iv (f := mr 3) (lo := 18) (n := 8) (by decide +kernel) j h1 h2
theorem pcl_3_18_26 : ∀ j, 18 ≤ j → j < 26 → pcl 3 j = 0 := fun j h1 h2 => iv (f := pcl 3) (lo := 18) (n := 8) (by decide +kernel) j h1 h2
theorem mr_3_26_34 : ∀ j, 26 ≤ j → j < 34 → mr 3 j = 0 := fun j h1 h2 => iv (f := mr 3) (lo := 26) (n := 8) (by decide +kernel) j h1 h2
theorem pcl_3_26_34 : ∀ j, 26 ≤ j → j < 34 → pcl 3 j = 0 := fun j h1 h2 => iv (f := pcl 3) (lo := 26) (n := 8) (by decide +kernel) j h1 h2
theorem mr_3_34_42 : ∀ j, 34 ≤ j → j < 42 → mr 3 j = 0 := fun j h1 h2 => iv (f := mr 3) (lo := 34) (n := 8) (by decide +kernel) j h1 h2
theorem pcl_3_34_42 : ∀ j, 34 ≤ j → j < 42 → pcl 3 j = 0 := fun j h1 h2 => iv (f := pcl 3) (lo := 34) (n := 8) (by decide +kernel) j h1 h2
theorem mr_3_42_48 : ∀ j, 42 ≤ j → j < 48 → mr 3 j = 8 := fun j h1 h2 => iv (f := mr 3) (lo := 42) (n := 6) (by decide +kernel) j h1 h2
theorem pcl_3_42_48 : ∀ j, 42 ≤ j → j < 48 → pcl 3 j = 0 := fun j h1 h2 => iv (f := pcl 3) (lo := 42) (n := 6) (by decide +kernel) j h1 h2
theorem mr_3_48_54 : ∀ j, 48 ≤ j → j < 54 → mr 3 j = 13 := fun j h1 h2 => iv (f := mr 3) (lo := 48) (n := 6) (by decide +kernel) j h1 h2
theorem pcl_3_48_54 : ∀ j, 48 ≤ j → j < 54 → pcl 3 j = 0 := fun j h1 h2 => iv (f := pcl 3) (lo := 48) (n := 6) (by decide +kernel) j h1 h2
theorem mr_3_54_60 : ∀ j, 54 ≤ j → j < 60 → mr 3 j = 0 := fun j h1 h2 => iv (f := mr 3) (lo := 54) (n := 6) (by decide +kernel) j h1 h2
theorem pcl_3_54_60 : ∀ j, 54 ≤ j → j < 60 → pcl 3 j = 0 := fun j h1 h2 => iv (f := pcl 3) (lo := 54) (n := 6) (by decide +kernel) j h1 h2
theorem mm_X12_readPlace_1 : (.fieldLink RX12 101 "OffTheLeadModel" "read" "[I" : Cond) ∈ wsX12_readPlace := by decide +kernel
theorem ii_X12_readPlace : ∀ w ∈ wsX120, w ∈ wsX12_readPlace := fun w h => List.mem_cons_of_mem _ (List.mem_append_right _ (h))
theorem mm_X12_readPerson_1 : (.fieldLink RX12 101 "OffTheLeadModel" "read" "[I" : Cond) ∈ wsX12_readPerson := by decide +kernel
theorem ii_X12_readPerson : ∀ w ∈ wsX120, w ∈ wsX12_readPerson := fun w h => List.mem_cons_of_mem _ (List.mem_append_right _ (h))
theorem mm_X12_readDog_1 : (.fieldLink RX12 101 "OffTheLeadModel" "read" "[I" : Cond) ∈ wsX12_readDog := by decide +kernel
theorem ii_X12_readDog : ∀ w ∈ wsX120, w ∈ wsX12_readDog := fun w h => List.mem_cons_of_mem _ (List.mem_append_right _ (h))
theorem mm_X12_readFree_1 : (.fieldLink RX12 101 "OffTheLeadModel" "read" "[I" : Cond) ∈ wsX12_readFree := by decide +kernel
theorem ii_X12_readFree : ∀ w ∈ wsX120, w ∈ wsX12_readFree := fun w h => List.mem_cons_of_mem _ (List.mem_append_right _ (h))
theorem mm_X12_readFree_2 : (.fieldLink RX12 79 "OffTheLeadModel" "told" "I" : Cond) ∈ wsX12_readFree := by decide +kernel
theorem mr_3_4_9 : ∀ j, 4 ≤ j → j < 9 → mr 3 j = 2147483648 := fun j h1 h2 => iv (f := mr 3) (lo := 4) (n := 5) (by decide +kernel) j h1 h2
theorem pcl_3_4_9 : ∀ j, 4 ≤ j → j < 9 → pcl 3 j = 0 := fun j h1 h2 => iv (f := pcl 3) (lo := 4) (n := 5) (by decide +kernel) j h1 h2
theorem mm_X12_readLine_1 : (.fieldLink RX12 201 "OffTheLeadModel" "hasSign" "Z" : Cond) ∈ wsX12_readLine := by decide +kernel
theorem ii_X12_readLine : ∀ w ∈ wsX120, w ∈ wsX12_readLine := fun w h => List.mem_cons_of_mem _ (List.mem_append_right _ (h))
theorem mm_X12_startSo_1 : (.fieldLink RX12 98 "OffTheLeadModel" "now" "[I" : Cond) ∈ wsX12_startSo := by decide +kernel
theorem ii_X12_startSo : ∀ w ∈ wsX120, w ∈ wsX12_startSo := fun w h => List.mem_cons_of_mem _ (List.mem_append_right _ (h))
theorem mr_2_10_18 : ∀ j, 10 ≤ j → j < 18 → mr 2 j = 5 := fun j h1 h2 => iv (f := mr 2) (lo := 10) (n := 8) (by decide +kernel) j h1 h2
theorem mr_2_4_9 : ∀ j, 4 ≤ j → j < 9 → mr 2 j = 2147483648 := fun j h1 h2 => iv (f := mr 2) (lo := 4) (n := 5) (by decide +kernel) j h1 h2
theorem pns_2_61_373_1_2_3_4_5_7_8_9_10_11_12_13_14_15_16_17_19_20_21_22_23 : ∀ j, 61 ≤ j → j < 373 → pcl 2 j ∉ ([1, 2, 3, 4, 5, 7, 8, 9, 10, 11, 12, 13, 14, 15, 16, 17, 19, 20, 21, 22, 23] : List Nat) := fun j h1 h2 => ivp (P := fun j => pcl 2 j ∉ ([1, 2, 3, 4, 5, 7, 8, 9, 10, 11, 12, 13, 14, 15, 16, 17, 19, 20, 21, 22, 23] : List Nat)) (lo := 61) (n := 312) (by decide +kernel) j h1 h2
theorem mm_X12_park_1 : (.fieldLink RX12 101 "OffTheLeadModel" "read" "[I" : Cond) ∈ wsX12_park := by decide +kernel
theorem ii_X12_park : ∀ w ∈ wsX120, w ∈ wsX12_park := fun w h => List.mem_cons_of_mem _ (List.mem_append_right _ (h))
theorem mm_X12_park_2 : (.fieldLink RX12 201 "OffTheLeadModel" "hasSign" "Z" : Cond) ∈ wsX12_park := by decide +kernel
theorem mm_X12_park_3 : (.fieldLink RX12 30 "OffTheLeadModel" "kind" "I" : Cond) ∈ wsX12_park := by decide +kernel
theorem mm_X12_park_8 : (.fieldLink RX12 214 "OffTheLeadModel" "snapMany" "I" : Cond) ∈ wsX12_park := by decide +kernel
theorem mm_X12_park_6 : (.fieldLink RX12 113 "OffTheLeadModel" "name" "[J" : Cond) ∈ wsX12_park := by decide +kernel
theorem mm_X12_park_7 : (.fieldLink RX12 117 "OffTheLeadModel" "readName" "[J" : Cond) ∈ wsX12_park := by decide +kernel
theorem mm_X12_park_5 : (.fieldLink RX12 98 "OffTheLeadModel" "now" "[I" : Cond) ∈ wsX12_park := by decide +kernel
theorem pns_2_0_61_2_7_8_9_10_11_12_13_14_15_20_22 : ∀ j, 0 ≤ j → j < 61 → pcl 2 j ∉ ([2, 7, 8, 9, 10, 11, 12, 13, 14, 15, 20, 22] : List Nat) := fun j h1 h2 => ivp (P := fun j => pcl 2 j ∉ ([2, 7, 8, 9, 10, 11, 12, 13, 14, 15, 20, 22] : List Nat)) (lo := 0) (n := 61) (by decide +kernel) j h1 h2
theorem pns_2_0_61_6 : ∀ j, 0 ≤ j → j < 61 → pcl 2 j ∉ ([6] : List Nat) := fun j h1 h2 => ivp (P := fun j => pcl 2 j ∉ ([6] : List Nat)) (lo := 0) (n := 61) (by decide +kernel) j h1 h2
theorem pns_2_0_61_1 : ∀ j, 0 ≤ j → j < 61 → pcl 2 j ∉ ([1] : List Nat) := fun j h1 h2 => ivp (P := fun j => pcl 2 j ∉ ([1] : List Nat)) (lo := 0) (n := 61) (by decide +kernel) j h1 h2
theorem mm_X12_park_4 : (.fieldLink RX12 69 "OffTheLeadModel" "place" "I" : Cond) ∈ wsX12_park := by decide +kernel
theorem pns_3_0_61_2_7_8_9_10_11_12_13_14_15_20_22 : ∀ j, 0 ≤ j → j < 61 → pcl 3 j ∉ ([2, 7, 8, 9, 10, 11, 12, 13, 14, 15, 20, 22] : List Nat) := fun j h1 h2 => ivp (P := fun j => pcl 3 j ∉ ([2, 7, 8, 9, 10, 11, 12, 13, 14, 15, 20, 22] : List Nat)) (lo := 0) (n := 61) (by decide +kernel) j h1 h2
theorem pns_3_0_61_6 : ∀ j, 0 ≤ j → j < 61 → pcl 3 j ∉ ([6] : List Nat) := fun j h1 h2 => ivp (P := fun j => pcl 3 j ∉ ([6] : List Nat)) (lo := 0) (n := 61) (by decide +kernel) j h1 h2
theorem pns_3_0_61_1 : ∀ j, 0 ≤ j → j < 61 → pcl 3 j ∉ ([1] : List Nat) := fun j h1 h2 => ivp (P := fun j => pcl 3 j ∉ ([1] : List Nat)) (lo := 0) (n := 61) (by decide +kernel) j h1 h2
