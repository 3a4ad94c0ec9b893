theorem mm_X12_init_1 : (.methodLink RX12 93 objectInit : Cond) ∈ wsX12_init := by decide +kernel
theorem mm_X12_init_2 : (.instanceMethod objectInit : Cond) ∈ wsX12_init := by decide +kernel
theorem mm_X12_init_3 : (.code objectInit ⟨#[0xb1]⟩ 1 none : Cond) ∈ wsX12_init := by decide +kernel
theorem mm_X12_init_4 : (.arrayClass .int : Cond) ∈ wsX12_init := by decide +kernel
theorem mm_X12_init_5 : (.fieldLink RX12 7 "OffTheLeadModel" "tape" "[I" : Cond) ∈ wsX12_init := by decide +kernel
theorem ii_X12_init_X12 : ∀ w ∈ wsX120, w ∈ wsX12_init := fun w h => List.mem_cons_of_mem _ (List.mem_append_right _ (h))
theorem mm_X12_init_6 : (.fieldLink RX12 98 "OffTheLeadModel" "now" "[I" : Cond) ∈ wsX12_init := by decide +kernel
theorem mm_X12_init_7 : (.fieldLink RX12 101 "OffTheLeadModel" "read" "[I" : Cond) ∈ wsX12_init := by decide +kernel
theorem mm_X12_init_8 : (.fieldLink RX12 104 "OffTheLeadModel" "kept" "[I" : Cond) ∈ wsX12_init := by decide +kernel
theorem mm_X12_init_9 : (.fieldLink RX12 107 "OffTheLeadModel" "snaps" "[I" : Cond) ∈ wsX12_init := by decide +kernel
theorem mm_X12_init_10 : (.fieldLink RX12 110 "OffTheLeadModel" "aside" "[I" : Cond) ∈ wsX12_init := by decide +kernel
theorem mm_X12_init_11 : (.arrayClass .long : Cond) ∈ wsX12_init := by decide +kernel
theorem mm_X12_init_12 : (.fieldLink RX12 113 "OffTheLeadModel" "name" "[J" : Cond) ∈ wsX12_init := by decide +kernel
theorem mm_X12_init_13 : (.fieldLink RX12 117 "OffTheLeadModel" "readName" "[J" : Cond) ∈ wsX12_init := by decide +kernel
theorem mm_X12_init_14 : (.fieldLink RX12 120 "OffTheLeadModel" "keptName" "[J" : Cond) ∈ wsX12_init := by decide +kernel
theorem mm_X12_init_15 : (.arrayClass .boolean : Cond) ∈ wsX12_init := by decide +kernel
theorem mm_X12_init_16 : (.fieldLink RX12 123 "OffTheLeadModel" "isKept" "[Z" : Cond) ∈ wsX12_init := by decide +kernel
theorem mm_X12_init_17 : (.fieldLink RX12 127 "OffTheLeadModel" "bestFrom" "I" : Cond) ∈ wsX12_init := by decide +kernel
theorem mm_X12_init_18 : (.fieldLink RX12 130 "OffTheLeadModel" "bestTo" "I" : Cond) ∈ wsX12_init := by decide +kernel
theorem mm_X12_init_19 : (.fieldLink RX12 133 "OffTheLeadModel" "parted" "[I" : Cond) ∈ wsX12_init := by decide +kernel
theorem mm_X12_init_20 : (.fieldLink RX12 136 "OffTheLeadModel" "places" "[I" : Cond) ∈ wsX12_init := by decide +kernel
theorem mm_X12_init_21 : (.fieldLink RX12 139 "OffTheLeadModel" "partedGood" "I" : Cond) ∈ wsX12_init := by decide +kernel
theorem mm_X12_init_22 : (.fieldLink RX12 142 "OffTheLeadModel" "text" "[I" : Cond) ∈ wsX12_init := by decide +kernel
theorem mm_X12_init_23 : (.fieldLink RX12 145 "OffTheLeadModel" "line" "[I" : Cond) ∈ wsX12_init := by decide +kernel
theorem mm_X12_init_24 : (.fieldLink RX12 148 "OffTheLeadModel" "written" "[I" : Cond) ∈ wsX12_init := by decide +kernel
theorem mm_X12_init_25 : (.fieldLink RX12 151 "OffTheLeadModel" "node" "[I" : Cond) ∈ wsX12_init := by decide +kernel
theorem ii_X12_startSo_X12 : ∀ w ∈ wsX120, w ∈ wsX12_startSo := fun w h => List.mem_cons_of_mem _ (List.mem_append_right _ (h))
