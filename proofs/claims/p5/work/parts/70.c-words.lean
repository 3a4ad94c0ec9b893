theorem mm_X8_init_1 : (.methodLink RX8 3 objectInit : Cond) ∈ wsX8_init := by decide +kernel
theorem mm_X8_init_2 : (.instanceMethod objectInit : Cond) ∈ wsX8_init := by decide +kernel
theorem mm_X8_init_3 : (.code objectInit ⟨#[0xb1]⟩ 1 none : Cond) ∈ wsX8_init := by decide +kernel
theorem mm_X8_init_4 : (.arrayClass .byte : Cond) ∈ wsX8_init := by decide +kernel
theorem mm_X8_init_5 : (.fieldLink RX8 9 "OffTheLead$Tape" "bytes" "[B" : Cond) ∈ wsX8_init := by decide +kernel
theorem ii_X8_init_X8 : ∀ w ∈ wsX80, w ∈ wsX8_init := fun w h => List.mem_cons_of_mem _ (List.mem_append_right _ (h))
theorem mm_X8_init_6 : (.fieldLink RX8 15 "OffTheLead$Word" "NO_WORD" "LOffTheLead$Word;" : Cond) ∈ wsX8_init := by decide +kernel
theorem mm_X8_init_7 : (.fieldLink RX8 21 "OffTheLead$Tape" "word" "LOffTheLead$Word;" : Cond) ∈ wsX8_init := by decide +kernel
theorem mm_X6_init_1 : (.methodLink RX6 1 objectInit : Cond) ∈ wsX6_init := by decide +kernel
theorem mm_X6_init_2 : (.instanceMethod objectInit : Cond) ∈ wsX6_init := by decide +kernel
theorem mm_X6_init_3 : (.code objectInit ⟨#[0xb1]⟩ 1 none : Cond) ∈ wsX6_init := by decide +kernel
theorem mm_X2_init_1 : (.methodLink RX2 1 objectInit : Cond) ∈ wsX2_init := by decide +kernel
theorem mm_X2_init_2 : (.instanceMethod objectInit : Cond) ∈ wsX2_init := by decide +kernel
theorem mm_X2_init_3 : (.code objectInit ⟨#[0xb1]⟩ 1 none : Cond) ∈ wsX2_init := by decide +kernel
theorem mm_X0_init_1 : (.methodLink RX0 3 objectInit : Cond) ∈ wsX0_init := by decide +kernel
theorem mm_X0_init_2 : (.instanceMethod objectInit : Cond) ∈ wsX0_init := by decide +kernel
theorem mm_X0_init_3 : (.code objectInit ⟨#[0xb1]⟩ 1 none : Cond) ∈ wsX0_init := by decide +kernel
theorem mm_X0_init_4 : (.classLink RX0 11 RX10 : Cond) ∈ wsX0_init := by decide +kernel
theorem mm_X0_init_5 : (.fieldLink RX0 13 "OffTheLead$Book" "acts" "[LOffTheLead$Word;" : Cond) ∈ wsX0_init := by decide +kernel
theorem ii_X0_init_X0 : ∀ w ∈ wsX00, w ∈ wsX0_init := fun w h => List.mem_cons_of_mem _ (List.mem_append_right _ (h))
theorem mm_X0_init_6 : (.arrayClass .int : Cond) ∈ wsX0_init := by decide +kernel
theorem mm_X0_init_7 : (.fieldLink RX0 17 "OffTheLead$Book" "whom" "[I" : Cond) ∈ wsX0_init := by decide +kernel
theorem mm_X0_init_8 : (.fieldLink RX0 21 "OffTheLead$Book" "where" "[I" : Cond) ∈ wsX0_init := by decide +kernel
theorem mm_X0_init_9 : (.fieldLink RX0 24 "OffTheLead$Book" "froms" "[I" : Cond) ∈ wsX0_init := by decide +kernel
theorem mm_X0_init_10 : (.fieldLink RX0 27 "OffTheLead$Book" "tos" "[I" : Cond) ∈ wsX0_init := by decide +kernel
theorem mm_X7_init_1 : (.methodLink RX7 5 objectInit : Cond) ∈ wsX7_init := by decide +kernel
theorem mm_X7_init_2 : (.instanceMethod objectInit : Cond) ∈ wsX7_init := by decide +kernel
theorem mm_X7_init_3 : (.code objectInit ⟨#[0xb1]⟩ 1 none : Cond) ∈ wsX7_init := by decide +kernel
theorem mm_X7_init_4 : (.classLink RX7 11 RX10 : Cond) ∈ wsX7_init := by decide +kernel
theorem mm_X7_init_5 : (.fieldLink RX7 13 "OffTheLead$Sentence" "steps" "[LOffTheLead$Word;" : Cond) ∈ wsX7_init := by decide +kernel
theorem ii_X7_init_X7 : ∀ w ∈ wsX70, w ∈ wsX7_init := fun w h => List.mem_cons_of_mem _ (List.mem_append_right _ (h))
theorem mm_X7_init_6 : (.arrayClass .int : Cond) ∈ wsX7_init := by decide +kernel
theorem mm_X7_init_7 : (.fieldLink RX7 17 "OffTheLead$Sentence" "signs" "[I" : Cond) ∈ wsX7_init := by decide +kernel
theorem mm_X7_init_8 : (.fieldLink RX7 21 "OffTheLead$Sentence" "numbers" "[I" : Cond) ∈ wsX7_init := by decide +kernel
theorem mm_J5_init_d00df_1 : (.methodLink RJ5 3 objectInit : Cond) ∈ wsJ5_init_d00df := by decide +kernel
theorem mm_J5_init_d00df_2 : (.instanceMethod objectInit : Cond) ∈ wsJ5_init_d00df := by decide +kernel
theorem mm_J5_init_d00df_3 : (.code objectInit ⟨#[0xb1]⟩ 1 none : Cond) ∈ wsJ5_init_d00df := by decide +kernel
theorem mm_J5_init_d00df_4 : (.fieldLink RJ5 18 "java/lang/String" "COMPACT_STRINGS" "Z" : Cond) ∈ wsJ5_init_d00df := by decide +kernel
theorem mm_J5_init_d00df_5 : (.arrayClass .byte : Cond) ∈ wsJ5_init_d00df := by decide +kernel
theorem mm_J5_init_d00df_6 : (.fieldLink RJ5 15 "java/lang/AbstractStringBuilder" "value" "[B" : Cond) ∈ wsJ5_init_d00df := by decide +kernel
theorem ii_J5_init_d00df_J4 : ∀ w ∈ wsJ40, w ∈ wsJ5_init_d00df := fun w h => List.mem_cons_of_mem _ (List.mem_append_right _ (h))
theorem mm_J5_init_d00df_7 : (.fieldLink RJ5 22 "java/lang/AbstractStringBuilder" "coder" "B" : Cond) ∈ wsJ5_init_d00df := by decide +kernel
theorem mm_J4_init_da8c8_3 : (.initialized RJ5 : Cond) ∈ wsJ4_init_da8c8 := by decide +kernel
theorem mm_J4_init_da8c8_1 : (.methodLink RJ4 1 yJ5_init_d00df : Cond) ∈ wsJ4_init_da8c8 := by decide +kernel
theorem mm_J4_init_da8c8_2 : (.instanceMethod yJ5_init_d00df : Cond) ∈ wsJ4_init_da8c8 := by decide +kernel
theorem mm_X5_init_1 : (.methodLink RX5 3 objectInit : Cond) ∈ wsX5_init := by decide +kernel
theorem mm_X5_init_2 : (.instanceMethod objectInit : Cond) ∈ wsX5_init := by decide +kernel
theorem mm_X5_init_3 : (.code objectInit ⟨#[0xb1]⟩ 1 none : Cond) ∈ wsX5_init := by decide +kernel
theorem mm_X1_init_1 : (.methodLink RX1 3 objectInit : Cond) ∈ wsX1_init := by decide +kernel
theorem mm_X1_init_2 : (.instanceMethod objectInit : Cond) ∈ wsX1_init := by decide +kernel
theorem mm_X1_init_3 : (.code objectInit ⟨#[0xb1]⟩ 1 none : Cond) ∈ wsX1_init := by decide +kernel
theorem mm_X4_init_1 : (.methodLink RX4 3 objectInit : Cond) ∈ wsX4_init := by decide +kernel
theorem mm_X4_init_2 : (.instanceMethod objectInit : Cond) ∈ wsX4_init := by decide +kernel
theorem mm_X4_init_3 : (.code objectInit ⟨#[0xb1]⟩ 1 none : Cond) ∈ wsX4_init := by decide +kernel
theorem mm_X4_init_4 : (.arrayClass .long : Cond) ∈ wsX4_init := by decide +kernel
theorem mm_X4_init_5 : (.fieldLink RX4 9 "OffTheLead$Park" "placeNames" "[J" : Cond) ∈ wsX4_init := by decide +kernel
theorem ii_X4_init_X4 : ∀ w ∈ wsX40, w ∈ wsX4_init := fun w h => List.mem_cons_of_mem _ (List.mem_append_left _ (List.mem_append_left _ (List.mem_append_right _ (h))))
theorem mm_X4_init_6 : (.arrayClass .int : Cond) ∈ wsX4_init := by decide +kernel
theorem mm_X4_init_7 : (.fieldLink RX4 15 "OffTheLead$Park" "free" "[I" : Cond) ∈ wsX4_init := by decide +kernel
theorem mm_X4_init_8 : (.arrayClass .boolean : Cond) ∈ wsX4_init := by decide +kernel
theorem mm_X4_init_9 : (.fieldLink RX4 19 "OffTheLead$Park" "fenced" "[Z" : Cond) ∈ wsX4_init := by decide +kernel
theorem mm_X4_init_10 : (.classLink RX4 23 RX6 : Cond) ∈ wsX4_init := by decide +kernel
theorem mm_X4_init_11 : (.fieldLink RX4 25 "OffTheLead$Park" "persons" "[LOffTheLead$Person;" : Cond) ∈ wsX4_init := by decide +kernel
theorem mm_X4_init_12 : (.classLink RX4 29 RX2 : Cond) ∈ wsX4_init := by decide +kernel
theorem mm_X4_init_13 : (.fieldLink RX4 31 "OffTheLead$Park" "dogs" "[LOffTheLead$Dog;" : Cond) ∈ wsX4_init := by decide +kernel
theorem ii_X4_init_X6 : ∀ w ∈ wsX60, w ∈ wsX4_init := fun w h => List.mem_cons_of_mem _ (List.mem_append_left _ (List.mem_append_right _ (h)))
theorem mm_X4_init_14 : (.instantiable RX6 9 : Cond) ∈ wsX4_init := by decide +kernel
theorem mm_X4_init_15 : (.initialized RX6 : Cond) ∈ wsX4_init := by decide +kernel
theorem mm_X4_init_19 : (.instanceMethod yX6_init : Cond) ∈ wsX4_init := by decide +kernel
theorem ii_X4_init_X2 : ∀ w ∈ wsX20, w ∈ wsX4_init := fun w h => List.mem_cons_of_mem _ (List.mem_append_right _ (h))
theorem mm_X4_init_16 : (.instantiable RX2 7 : Cond) ∈ wsX4_init := by decide +kernel
theorem mm_X4_init_17 : (.initialized RX2 : Cond) ∈ wsX4_init := by decide +kernel
theorem mm_X4_init_22 : (.instanceMethod yX2_init : Cond) ∈ wsX4_init := by decide +kernel
theorem mm_X4_init_18 : (.fieldLink RX4 37 "OffTheLead$Park" "sign" "I" : Cond) ∈ wsX4_init := by decide +kernel
theorem mm_X3_init_1 : (.methodLink RX3 3 objectInit : Cond) ∈ wsX3_init := by decide +kernel
theorem mm_X3_init_2 : (.instanceMethod objectInit : Cond) ∈ wsX3_init := by decide +kernel
theorem mm_X3_init_3 : (.code objectInit ⟨#[0xb1]⟩ 1 none : Cond) ∈ wsX3_init := by decide +kernel
theorem mm_X3_init_4 : (.classLink RX3 9 RX4 : Cond) ∈ wsX3_init := by decide +kernel
theorem mm_X3_init_5 : (.fieldLink RX3 11 "OffTheLead$History" "kept" "[LOffTheLead$Park;" : Cond) ∈ wsX3_init := by decide +kernel
theorem ii_X3_init_X3 : ∀ w ∈ wsX30, w ∈ wsX3_init := fun w h => List.mem_cons_of_mem _ (List.mem_append_left _ (List.mem_append_left _ (List.mem_append_left _ (List.mem_append_right _ (h)))))
theorem ii_X3_init_X4 : ∀ w ∈ wsX40, w ∈ wsX3_init := fun w h => List.mem_cons_of_mem _ (List.mem_append_left _ (List.mem_append_left _ (List.mem_append_right _ (h))))
theorem mm_X3_init_6 : (.instantiable RX4 12 : Cond) ∈ wsX3_init := by decide +kernel
theorem mm_X3_init_7 : (.initialized RX4 : Cond) ∈ wsX3_init := by decide +kernel
theorem mm_X3_init_8 : (.methodLink RX3 15 yX4_init : Cond) ∈ wsX3_init := by decide +kernel
theorem mm_X3_init_9 : (.instanceMethod yX4_init : Cond) ∈ wsX3_init := by decide +kernel
theorem mm_X11_init_1 : (.methodLink RX11 1 objectInit : Cond) ∈ wsX11_init := by decide +kernel
theorem mm_X11_init_2 : (.instanceMethod objectInit : Cond) ∈ wsX11_init := by decide +kernel
theorem mm_X11_init_3 : (.code objectInit ⟨#[0xb1]⟩ 1 none : Cond) ∈ wsX11_init := by decide +kernel
theorem ii_X11_init_X8 : ∀ w ∈ wsX80, w ∈ wsX11_init := fun w h => List.mem_cons_of_mem _ (List.mem_append_left _ (List.mem_append_left _ (List.mem_append_left _ (List.mem_append_left _ (List.mem_append_left _ (List.mem_append_left _ (List.mem_append_left _ (List.mem_append_left _ (List.mem_append_left _ (List.mem_append_left _ (List.mem_append_right _ (h))))))))))))
theorem mm_X11_init_4 : (.classLink RX11 7 RX8 : Cond) ∈ wsX11_init := by decide +kernel
theorem mm_X11_init_5 : (.instantiable RX8 15 : Cond) ∈ wsX11_init := by decide +kernel
theorem mm_X11_init_6 : (.initialized RX8 : Cond) ∈ wsX11_init := by decide +kernel
theorem mm_X11_init_48 : (.instanceMethod yX8_init : Cond) ∈ wsX11_init := by decide +kernel
theorem mm_X11_init_7 : (.fieldLink RX11 10 "OffTheLead" "tape" "LOffTheLead$Tape;" : Cond) ∈ wsX11_init := by decide +kernel
theorem ii_X11_init_X11 : ∀ w ∈ wsX110, w ∈ wsX11_init := fun w h => List.mem_cons_of_mem _ (List.mem_append_left _ (List.mem_append_left _ (List.mem_append_left _ (List.mem_append_left _ (List.mem_append_left _ (List.mem_append_left _ (List.mem_append_left _ (List.mem_append_left _ (List.mem_append_left _ (List.mem_append_right _ (h)))))))))))
theorem ii_X11_init_X4 : ∀ w ∈ wsX40, w ∈ wsX11_init := fun w h => List.mem_cons_of_mem _ (List.mem_append_left _ (List.mem_append_left _ (List.mem_append_left _ (List.mem_append_left _ (List.mem_append_left _ (List.mem_append_left _ (List.mem_append_left _ (List.mem_append_left _ (List.mem_append_right _ (h))))))))))
theorem mm_X11_init_8 : (.classLink RX11 16 RX4 : Cond) ∈ wsX11_init := by decide +kernel
theorem mm_X11_init_9 : (.instantiable RX4 12 : Cond) ∈ wsX11_init := by decide +kernel
theorem mm_X11_init_10 : (.initialized RX4 : Cond) ∈ wsX11_init := by decide +kernel
theorem mm_X11_init_55 : (.methodLink RX11 18 yX4_init : Cond) ∈ wsX11_init := by decide +kernel
theorem mm_X11_init_56 : (.instanceMethod yX4_init : Cond) ∈ wsX11_init := by decide +kernel
theorem mm_X11_init_11 : (.fieldLink RX11 19 "OffTheLead" "now" "LOffTheLead$Park;" : Cond) ∈ wsX11_init := by decide +kernel
theorem mm_X11_init_12 : (.fieldLink RX11 23 "OffTheLead" "spare" "LOffTheLead$Park;" : Cond) ∈ wsX11_init := by decide +kernel
theorem ii_X11_init_X5 : ∀ w ∈ wsX50, w ∈ wsX11_init := fun w h => List.mem_cons_of_mem _ (List.mem_append_left _ (List.mem_append_left _ (List.mem_append_left _ (List.mem_append_left _ (List.mem_append_left _ (List.mem_append_left _ (List.mem_append_left _ (List.mem_append_right _ (h)))))))))
theorem mm_X11_init_13 : (.classLink RX11 26 RX5 : Cond) ∈ wsX11_init := by decide +kernel
theorem mm_X11_init_14 : (.instantiable RX5 2 : Cond) ∈ wsX11_init := by decide +kernel
theorem mm_X11_init_15 : (.initialized RX5 : Cond) ∈ wsX11_init := by decide +kernel
theorem mm_X11_init_78 : (.instanceMethod yX5_init : Cond) ∈ wsX11_init := by decide +kernel
theorem mm_X11_init_16 : (.fieldLink RX11 29 "OffTheLead" "reader" "LOffTheLead$ParkReader;" : Cond) ∈ wsX11_init := by decide +kernel
theorem ii_X11_init_X0 : ∀ w ∈ wsX00, w ∈ wsX11_init := fun w h => List.mem_cons_of_mem _ (List.mem_append_left _ (List.mem_append_left _ (List.mem_append_left _ (List.mem_append_left _ (List.mem_append_left _ (List.mem_append_left _ (List.mem_append_right _ (h))))))))
theorem mm_X11_init_17 : (.classLink RX11 33 RX0 : Cond) ∈ wsX11_init := by decide +kernel
theorem mm_X11_init_18 : (.instantiable RX0 7 : Cond) ∈ wsX11_init := by decide +kernel
theorem mm_X11_init_19 : (.initialized RX0 : Cond) ∈ wsX11_init := by decide +kernel
theorem mm_X11_init_81 : (.instanceMethod yX0_init : Cond) ∈ wsX11_init := by decide +kernel
theorem mm_X11_init_20 : (.fieldLink RX11 36 "OffTheLead" "pages" "LOffTheLead$Book;" : Cond) ∈ wsX11_init := by decide +kernel
theorem ii_X11_init_X7 : ∀ w ∈ wsX70, w ∈ wsX11_init := fun w h => List.mem_cons_of_mem _ (List.mem_append_left _ (List.mem_append_left _ (List.mem_append_left _ (List.mem_append_left _ (List.mem_append_left _ (List.mem_append_right _ (h)))))))
theorem mm_X11_init_21 : (.classLink RX11 40 RX7 : Cond) ∈ wsX11_init := by decide +kernel
theorem mm_X11_init_22 : (.instantiable RX7 5 : Cond) ∈ wsX11_init := by decide +kernel
theorem mm_X11_init_23 : (.initialized RX7 : Cond) ∈ wsX11_init := by decide +kernel
theorem mm_X11_init_90 : (.instanceMethod yX7_init : Cond) ∈ wsX11_init := by decide +kernel
theorem mm_X11_init_24 : (.fieldLink RX11 43 "OffTheLead" "phrase" "LOffTheLead$Sentence;" : Cond) ∈ wsX11_init := by decide +kernel
theorem mm_X11_init_25 : (.fieldLink RX11 47 "OffTheLead" "draft" "LOffTheLead$Sentence;" : Cond) ∈ wsX11_init := by decide +kernel
theorem ii_X11_init_X1 : ∀ w ∈ wsX10, w ∈ wsX11_init := fun w h => List.mem_cons_of_mem _ (List.mem_append_left _ (List.mem_append_left _ (List.mem_append_left _ (List.mem_append_left _ (List.mem_append_right _ (h))))))
theorem mm_X11_init_26 : (.classLink RX11 50 RX1 : Cond) ∈ wsX11_init := by decide +kernel
theorem mm_X11_init_27 : (.instantiable RX1 1 : Cond) ∈ wsX11_init := by decide +kernel
theorem mm_X11_init_28 : (.initialized RX1 : Cond) ∈ wsX11_init := by decide +kernel
theorem mm_X11_init_97 : (.instanceMethod yX1_init : Cond) ∈ wsX11_init := by decide +kernel
theorem mm_X11_init_29 : (.fieldLink RX11 53 "OffTheLead" "calendar" "LOffTheLead$Days;" : Cond) ∈ wsX11_init := by decide +kernel
theorem ii_X11_init_X3 : ∀ w ∈ wsX30, w ∈ wsX11_init := fun w h => List.mem_cons_of_mem _ (List.mem_append_left _ (List.mem_append_left _ (List.mem_append_left _ (List.mem_append_right _ (h)))))
theorem mm_X11_init_30 : (.classLink RX11 57 RX3 : Cond) ∈ wsX11_init := by decide +kernel
theorem mm_X11_init_31 : (.instantiable RX3 3 : Cond) ∈ wsX11_init := by decide +kernel
theorem mm_X11_init_32 : (.initialized RX3 : Cond) ∈ wsX11_init := by decide +kernel
theorem mm_X11_init_100 : (.methodLink RX11 59 yX3_init : Cond) ∈ wsX11_init := by decide +kernel
theorem mm_X11_init_101 : (.instanceMethod yX3_init : Cond) ∈ wsX11_init := by decide +kernel
theorem mm_X11_init_33 : (.fieldLink RX11 60 "OffTheLead" "history" "LOffTheLead$History;" : Cond) ∈ wsX11_init := by decide +kernel
theorem mm_X11_init_34 : (.fieldLink RX11 64 "OffTheLead" "imageParks" "[LOffTheLead$Park;" : Cond) ∈ wsX11_init := by decide +kernel
theorem mm_X11_init_35 : (.fieldLink RX11 68 "OffTheLead" "imagePhrases" "[LOffTheLead$Sentence;" : Cond) ∈ wsX11_init := by decide +kernel
theorem mm_X11_init_36 : (.arrayClass .boolean : Cond) ∈ wsX11_init := by decide +kernel
theorem mm_X11_init_37 : (.fieldLink RX11 72 "OffTheLead" "imageKept" "[Z" : Cond) ∈ wsX11_init := by decide +kernel
theorem mm_X11_init_38 : (.arrayClass .int : Cond) ∈ wsX11_init := by decide +kernel
theorem mm_X11_init_39 : (.fieldLink RX11 76 "OffTheLead" "latestParted" "[I" : Cond) ∈ wsX11_init := by decide +kernel
theorem mm_X11_init_40 : (.fieldLink RX11 80 "OffTheLead" "latestTold" "[I" : Cond) ∈ wsX11_init := by decide +kernel
theorem ii_X11_init_J4 : ∀ w ∈ wsJ40, w ∈ wsX11_init := fun w h => List.mem_cons_of_mem _ (List.mem_append_left _ (List.mem_append_left _ (List.mem_append_right _ (h))))
theorem mm_X11_init_41 : (.classLink RX11 83 RJ4 : Cond) ∈ wsX11_init := by decide +kernel
theorem mm_X11_init_42 : (.instantiable RJ4 4 : Cond) ∈ wsX11_init := by decide +kernel
theorem mm_X11_init_43 : (.initialized RJ4 : Cond) ∈ wsX11_init := by decide +kernel
theorem mm_X11_init_107 : (.methodLink RX11 85 yJ4_init_da8c8 : Cond) ∈ wsX11_init := by decide +kernel
theorem mm_X11_init_108 : (.instanceMethod yJ4_init_da8c8 : Cond) ∈ wsX11_init := by decide +kernel
theorem mm_X11_init_44 : (.fieldLink RX11 86 "OffTheLead" "latestBoard" "Ljava/lang/StringBuilder;" : Cond) ∈ wsX11_init := by decide +kernel
theorem mm_X11_init_45 : (.fieldLink RX11 90 "OffTheLead" "latestPartedGood" "I" : Cond) ∈ wsX11_init := by decide +kernel
theorem mm_X11_init_46 : (.fieldLink RX11 94 "OffTheLead" "latestFrom" "I" : Cond) ∈ wsX11_init := by decide +kernel
theorem mm_X11_init_47 : (.fieldLink RX11 97 "OffTheLead" "latestTo" "I" : Cond) ∈ wsX11_init := by decide +kernel
