theorem mm_X8_init_1 : (.methodLink RX8 3 objectInit : Cond) ∈ wsX8_init := by decide +kernel
theorem mm_X8_init_2 : (.instanceMethod objectInit : Cond) ∈ wsX8_init := by decide +kernel
theorem mm_X8_init_3 : (.code objectInit ⟨#[0xb1]⟩ 1 none : Cond) ∈ wsX8_init := by decide +kernel
theorem mm_X8_init_4 : (.arrayClass .byte : Cond) ∈ wsX8_init := by decide +kernel
theorem mm_X8_init_5 : (.fieldLink RX8 9 "OffTheLead$Tape" "bytes" "[B" : Cond) ∈ wsX8_init := by decide +kernel
theorem ii_X8_init_X8 : ∀ w ∈ wsX80, w ∈ wsX8_init := fun w h => List.mem_cons_of_mem _ (List.mem_append_right _ (h))
theorem mm_X8_init_6 : (.fieldLink RX8 15 "OffTheLead$Word" "NO_WORD" "LOffTheLead$Word;" : Cond) ∈ wsX8_init := by decide +kernel
theorem mm_X8_init_7 : (.fieldLink RX8 21 "OffTheLead$Tape" "word" "LOffTheLead$Word;" : Cond) ∈ wsX8_init := by decide +kernel
theorem mm_X4_init_1 : (.methodLink RX4 3 objectInit : Cond) ∈ wsX4_init := by decide +kernel
theorem mm_X4_init_2 : (.instanceMethod objectInit : Cond) ∈ wsX4_init := by decide +kernel
theorem mm_X4_init_3 : (.code objectInit ⟨#[0xb1]⟩ 1 none : Cond) ∈ wsX4_init := by decide +kernel
theorem mm_X4_init_4 : (.arrayClass .long : Cond) ∈ wsX4_init := by decide +kernel
theorem mm_X4_init_5 : (.fieldLink RX4 9 "OffTheLead$Park" "placeNames" "[J" : Cond) ∈ wsX4_init := by decide +kernel
theorem ii_X4_init_X4 : ∀ w ∈ wsX40, w ∈ wsX4_init := fun w h => List.mem_cons_of_mem _ (List.mem_append_left _ (List.mem_append_left _ (List.mem_append_right _ (h))))
theorem mm_X4_init_6 : (.arrayClass .int : Cond) ∈ wsX4_init := by decide +kernel
theorem mm_X4_init_7 : (.fieldLink RX4 15 "OffTheLead$Park" "free" "[I" : Cond) ∈ wsX4_init := by decide +kernel
theorem mm_X4_init_8 : (.arrayClass .boolean : Cond) ∈ wsX4_init := by decide +kernel
theorem mm_X4_init_9 : (.fieldLink RX4 19 "OffTheLead$Park" "fenced" "[Z" : Cond) ∈ wsX4_init := by decide +kernel
theorem mm_X4_init_10 : (.classLink RX4 23 RX6 : Cond) ∈ wsX4_init := by decide +kernel
theorem mm_X4_init_11 : (.fieldLink RX4 25 "OffTheLead$Park" "persons" "[LOffTheLead$Person;" : Cond) ∈ wsX4_init := by decide +kernel
theorem mm_X4_init_12 : (.classLink RX4 29 RX2 : Cond) ∈ wsX4_init := by decide +kernel
theorem mm_X4_init_13 : (.fieldLink RX4 31 "OffTheLead$Park" "dogs" "[LOffTheLead$Dog;" : Cond) ∈ wsX4_init := by decide +kernel
theorem ii_X4_init_X6 : ∀ w ∈ wsX60, w ∈ wsX4_init := fun w h => List.mem_cons_of_mem _ (List.mem_append_left _ (List.mem_append_right _ (h)))
theorem mm_X4_init_14 : (.instantiable RX6 9 : Cond) ∈ wsX4_init := by decide +kernel
theorem mm_X4_init_15 : (.initialized RX6 : Cond) ∈ wsX4_init := by decide +kernel
theorem mm_X6_init_1 : (.methodLink RX6 1 objectInit : Cond) ∈ wsX6_init := by decide +kernel
theorem mm_X6_init_2 : (.instanceMethod objectInit : Cond) ∈ wsX6_init := by decide +kernel
theorem mm_X6_init_3 : (.code objectInit ⟨#[0xb1]⟩ 1 none : Cond) ∈ wsX6_init := by decide +kernel
theorem mm_X4_init_19 : (.instanceMethod yX6_init : Cond) ∈ wsX4_init := by decide +kernel
theorem ii_X4_init_X2 : ∀ w ∈ wsX20, w ∈ wsX4_init := fun w h => List.mem_cons_of_mem _ (List.mem_append_right _ (h))
theorem mm_X4_init_16 : (.instantiable RX2 7 : Cond) ∈ wsX4_init := by decide +kernel
theorem mm_X4_init_17 : (.initialized RX2 : Cond) ∈ wsX4_init := by decide +kernel
theorem mm_X2_init_1 : (.methodLink RX2 1 objectInit : Cond) ∈ wsX2_init := by decide +kernel
theorem mm_X2_init_2 : (.instanceMethod objectInit : Cond) ∈ wsX2_init := by decide +kernel
theorem mm_X2_init_3 : (.code objectInit ⟨#[0xb1]⟩ 1 none : Cond) ∈ wsX2_init := by decide +kernel
theorem mm_X4_init_22 : (.instanceMethod yX2_init : Cond) ∈ wsX4_init := by decide +kernel
theorem mm_X4_init_18 : (.fieldLink RX4 37 "OffTheLead$Park" "sign" "I" : Cond) ∈ wsX4_init := by decide +kernel
