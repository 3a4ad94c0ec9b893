theorem mm_X11_init_1 : (.methodLink RX11 1 objectInit : Cond) ∈ wsX11_init := by decide +kernel
theorem mm_X11_init_2 : (.instanceMethod objectInit : Cond) ∈ wsX11_init := by decide +kernel
theorem mm_X11_init_3 : (.code objectInit ⟨#[0xb1]⟩ 1 none : Cond) ∈ wsX11_init := by decide +kernel
theorem ii_X11_init_X8 : ∀ w ∈ wsX80, w ∈ wsX11_init := fun w h => List.mem_cons_of_mem _ (List.mem_append_left _ (List.mem_append_left _ (List.mem_append_left _ (List.mem_append_left _ (List.mem_append_left _ (List.mem_append_left _ (List.mem_append_left _ (List.mem_append_left _ (List.mem_append_left _ (List.mem_append_left _ (List.mem_append_right _ (h))))))))))))
theorem mm_X11_init_4 : (.classLink RX11 7 RX8 : Cond) ∈ wsX11_init := by decide +kernel
theorem mm_X11_init_5 : (.instantiable RX8 15 : Cond) ∈ wsX11_init := by decide +kernel
theorem mm_X11_init_6 : (.initialized RX8 : Cond) ∈ wsX11_init := by decide +kernel
theorem mm_X8_init_1 : (.methodLink RX8 3 objectInit : Cond) ∈ wsX8_init := by decide +kernel
theorem mm_X8_init_2 : (.instanceMethod objectInit : Cond) ∈ wsX8_init := by decide +kernel
theorem mm_X8_init_3 : (.code objectInit ⟨#[0xb1]⟩ 1 none : Cond) ∈ wsX8_init := by decide +kernel
theorem mm_X8_init_4 : (.arrayClass .byte : Cond) ∈ wsX8_init := by decide +kernel
theorem mm_X8_init_5 : (.fieldLink RX8 9 "OffTheLead$Tape" "bytes" "[B" : Cond) ∈ wsX8_init := by decide +kernel
theorem ii_X8_init_X8 : ∀ w ∈ wsX80, w ∈ wsX8_init := fun w h => List.mem_cons_of_mem _ (List.mem_append_right _ (h))
theorem mm_X8_init_6 : (.fieldLink RX8 15 "OffTheLead$Word" "NO_WORD" "LOffTheLead$Word;" : Cond) ∈ wsX8_init := by decide +kernel
theorem mm_X8_init_7 : (.fieldLink RX8 21 "OffTheLead$Tape" "word" "LOffTheLead$Word;" : Cond) ∈ wsX8_init := by decide +kernel
theorem mm_X11_init_48 : (.instanceMethod yX8_init : Cond) ∈ wsX11_init := by decide +kernel
theorem mm_X11_init_7 : (.fieldLink RX11 10 "OffTheLead" "tape" "LOffTheLead$Tape;" : Cond) ∈ wsX11_init := by decide +kernel
theorem ii_X11_init_X11 : ∀ w ∈ wsX110, w ∈ wsX11_init := fun w h => List.mem_cons_of_mem _ (List.mem_append_left _ (List.mem_append_left _ (List.mem_append_left _ (List.mem_append_left _ (List.mem_append_left _ (List.mem_append_left _ (List.mem_append_left _ (List.mem_append_left _ (List.mem_append_left _ (List.mem_append_right _ (h)))))))))))
theorem ii_X11_init_X4 : ∀ w ∈ wsX40, w ∈ wsX11_init := fun w h => List.mem_cons_of_mem _ (List.mem_append_left _ (List.mem_append_left _ (List.mem_append_left _ (List.mem_append_left _ (List.mem_append_left _ (List.mem_append_left _ (List.mem_append_left _ (List.mem_append_left _ (List.mem_append_right _ (h))))))))))
theorem mm_X11_init_8 : (.classLink RX11 16 RX4 : Cond) ∈ wsX11_init := by decide +kernel
theorem mm_X11_init_9 : (.instantiable RX4 12 : Cond) ∈ wsX11_init := by decide +kernel
theorem mm_X11_init_10 : (.initialized RX4 : Cond) ∈ wsX11_init := by decide +kernel
theorem mm_X4_init_1 : (.methodLink RX4 3 objectInit : Cond) ∈ wsX4_init := by decide +kernel
theorem mm_X4_init_2 : (.instanceMethod objectInit : Cond) ∈ wsX4_init := by decide +kernel
theorem mm_X4_init_3 : (.code objectInit ⟨#[0xb1]⟩ 1 none : Cond) ∈ wsX4_init := by decide +kernel
theorem mm_X4_init_4 : (.arrayClass .long : Cond) ∈ wsX4_init := by decide +kernel
theorem mm_X4_init_5 : (.fieldLink RX4 9 "OffTheLead$Park" "placeNames" "[J" : Cond) ∈ wsX4_init := by decide +kernel
theorem ii_X4_init_X4 : ∀ w ∈ wsX40, w ∈ wsX4_init := fun w h => List.mem_cons_of_mem _ (List.mem_append_left _ (List.mem_append_left _ (List.mem_append_right _ (h))))
theorem mm_X4_init_6 : (.arrayClass .int : Cond) ∈ wsX4_init := by decide +kernel
theorem mm_X4_init_7 : (.fieldLink RX4 15 "OffTheLead$Park" "free" "[I" : Cond) ∈ wsX4_init := by decide +kernel
theorem mm_X4_init_8 : (.arrayClass .boolean : Cond) ∈ wsX4_init := by decide +kernel
theorem mm_X4_init_9 : (.fieldLink RX4 19 "OffTheLead$Park" "fenced" "[Z" : Cond) ∈ wsX4_init := by decide +kernel
theorem mm_X4_init_10 : (.classLink RX4 23 RX6 : Cond) ∈ wsX4_init := by decide +kernel
theorem mm_X4_init_11 : (.fieldLink RX4 25 "OffTheLead$Park" "persons" "[LOffTheLead$Person;" : Cond) ∈ wsX4_init := by decide +kernel
theorem mm_X4_init_12 : (.classLink RX4 29 RX2 : Cond) ∈ wsX4_init := by decide +kernel
theorem mm_X4_init_13 : (.fieldLink RX4 31 "OffTheLead$Park" "dogs" "[LOffTheLead$Dog;" : Cond) ∈ wsX4_init := by decide +kernel
theorem ii_X4_init_X6 : ∀ w ∈ wsX60, w ∈ wsX4_init := fun w h => List.mem_cons_of_mem _ (List.mem_append_left _ (List.mem_append_right _ (h)))
theorem mm_X4_init_14 : (.instantiable RX6 9 : Cond) ∈ wsX4_init := by decide +kernel
theorem mm_X4_init_15 : (.initialized RX6 : Cond) ∈ wsX4_init := by decide +kernel
theorem mm_X6_init_1 : (.methodLink RX6 1 objectInit : Cond) ∈ wsX6_init := by decide +kernel
theorem mm_X6_init_2 : (.instanceMethod objectInit : Cond) ∈ wsX6_init := by decide +kernel
theorem mm_X6_init_3 : (.code objectInit ⟨#[0xb1]⟩ 1 none : Cond) ∈ wsX6_init := by decide +kernel
theorem mm_X4_init_19 : (.instanceMethod yX6_init : Cond) ∈ wsX4_init := by decide +kernel
theorem ii_X4_init_X2 : ∀ w ∈ wsX20, w ∈ wsX4_init := fun w h => List.mem_cons_of_mem _ (List.mem_append_right _ (h))
theorem mm_X4_init_16 : (.instantiable RX2 7 : Cond) ∈ wsX4_init := by decide +kernel
theorem mm_X4_init_17 : (.initialized RX2 : Cond) ∈ wsX4_init := by decide +kernel
theorem mm_X2_init_1 : (.methodLink RX2 1 objectInit : Cond) ∈ wsX2_init := by decide +kernel
theorem mm_X2_init_2 : (.instanceMethod objectInit : Cond) ∈ wsX2_init := by decide +kernel
theorem mm_X2_init_3 : (.code objectInit ⟨#[0xb1]⟩ 1 none : Cond) ∈ wsX2_init := by decide +kernel
theorem mm_X4_init_22 : (.instanceMethod yX2_init : Cond) ∈ wsX4_init := by decide +kernel
theorem mm_X4_init_18 : (.fieldLink RX4 37 "OffTheLead$Park" "sign" "I" : Cond) ∈ wsX4_init := by decide +kernel
theorem mm_X11_init_55 : (.methodLink RX11 18 yX4_init : Cond) ∈ wsX11_init := by decide +kernel
theorem mm_X11_init_56 : (.instanceMethod yX4_init : Cond) ∈ wsX11_init := by decide +kernel
theorem mm_X11_init_11 : (.fieldLink RX11 19 "OffTheLead" "now" "LOffTheLead$Park;" : Cond) ∈ wsX11_init := by decide +kernel
theorem mm_X11_init_12 : (.fieldLink RX11 23 "OffTheLead" "spare" "LOffTheLead$Park;" : Cond) ∈ wsX11_init := by decide +kernel
theorem ii_X11_init_X5 : ∀ w ∈ wsX50, w ∈ wsX11_init := fun w h => List.mem_cons_of_mem _ (List.mem_append_left _ (List.mem_append_left _ (List.mem_append_left _ (List.mem_append_left _ (List.mem_append_left _ (List.mem_append_left _ (List.mem_append_left _ (List.mem_append_right _ (h)))))))))
theorem mm_X11_init_13 : (.classLink RX11 26 RX5 : Cond) ∈ wsX11_init := by decide +kernel
theorem mm_X11_init_14 : (.instantiable RX5 2 : Cond) ∈ wsX11_init := by decide +kernel
theorem mm_X11_init_15 : (.initialized RX5 : Cond) ∈ wsX11_init := by decide +kernel
theorem mm_X5_init_1 : (.methodLink RX5 3 objectInit : Cond) ∈ wsX5_init := by decide +kernel
theorem mm_X5_init_2 : (.instanceMethod objectInit : Cond) ∈ wsX5_init := by decide +kernel
theorem mm_X5_init_3 : (.code objectInit ⟨#[0xb1]⟩ 1 none : Cond) ∈ wsX5_init := by decide +kernel
theorem mm_X11_init_78 : (.instanceMethod yX5_init : Cond) ∈ wsX11_init := by decide +kernel
theorem mm_X11_init_16 : (.fieldLink RX11 29 "OffTheLead" "reader" "LOffTheLead$ParkReader;" : Cond) ∈ wsX11_init := by decide +kernel
theorem ii_X11_init_X0 : ∀ w ∈ wsX00, w ∈ wsX11_init := fun w h => List.mem_cons_of_mem _ (List.mem_append_left _ (List.mem_append_left _ (List.mem_append_left _ (List.mem_append_left _ (List.mem_append_left _ (List.mem_append_left _ (List.mem_append_right _ (h))))))))
theorem mm_X11_init_17 : (.classLink RX11 33 RX0 : Cond) ∈ wsX11_init := by decide +kernel
theorem mm_X11_init_18 : (.instantiable RX0 7 : Cond) ∈ wsX11_init := by decide +kernel
theorem mm_X11_init_19 : (.initialized RX0 : Cond) ∈ wsX11_init := by decide +kernel
theorem mm_X0_init_1 : (.methodLink RX0 3 objectInit : Cond) ∈ wsX0_init := by decide +kernel
theorem mm_X0_init_2 : (.instanceMethod objectInit : Cond) ∈ wsX0_init := by decide +kernel
theorem mm_X0_init_3 : (.code objectInit ⟨#[0xb1]⟩ 1 none : Cond) ∈ wsX0_init := by decide +kernel
theorem mm_X0_init_4 : (.classLink RX0 11 RX10 : Cond) ∈ wsX0_init := by decide +kernel
theorem mm_X0_init_5 : (.fieldLink RX0 13 "OffTheLead$Book" "acts" "[LOffTheLead$Word;" : Cond) ∈ wsX0_init := by decide +kernel
theorem ii_X0_init_X0 : ∀ w ∈ wsX00, w ∈ wsX0_init := fun w h => List.mem_cons_of_mem _ (List.mem_append_right _ (h))
theorem mm_X0_init_6 : (.arrayClass .int : Cond) ∈ wsX0_init := by decide +kernel
theorem mm_X0_init_7 : (.fieldLink RX0 17 "OffTheLead$Book" "whom" "[I" : Cond) ∈ wsX0_init := by decide +kernel
theorem mm_X0_init_8 : (.fieldLink RX0 21 "OffTheLead$Book" "where" "[I" : Cond) ∈ wsX0_init := by decide +kernel
theorem mm_X0_init_9 : (.fieldLink RX0 24 "OffTheLead$Book" "froms" "[I" : Cond) ∈ wsX0_init := by decide +kernel
theorem mm_X0_init_10 : (.fieldLink RX0 27 "OffTheLead$Book" "tos" "[I" : Cond) ∈ wsX0_init := by decide +kernel
theorem mm_X11_init_81 : (.instanceMethod yX0_init : Cond) ∈ wsX11_init := by decide +kernel
theorem mm_X11_init_20 : (.fieldLink RX11 36 "OffTheLead" "pages" "LOffTheLead$Book;" : Cond) ∈ wsX11_init := by decide +kernel
theorem ii_X11_init_X7 : ∀ w ∈ wsX70, w ∈ wsX11_init := fun w h => List.mem_cons_of_mem _ (List.mem_append_left _ (List.mem_append_left _ (List.mem_append_left _ (List.mem_append_left _ (List.mem_append_left _ (List.mem_append_right _ (h)))))))
theorem mm_X11_init_21 : (.classLink RX11 40 RX7 : Cond) ∈ wsX11_init := by decide +kernel
theorem mm_X11_init_22 : (.instantiable RX7 5 : Cond) ∈ wsX11_init := by decide +kernel
theorem mm_X11_init_23 : (.initialized RX7 : Cond) ∈ wsX11_init := by decide +kernel
theorem mm_X7_init_1 : (.methodLink RX7 5 objectInit : Cond) ∈ wsX7_init := by decide +kernel
theorem mm_X7_init_2 : (.instanceMethod objectInit : Cond) ∈ wsX7_init := by decide +kernel
theorem mm_X7_init_3 : (.code objectInit ⟨#[0xb1]⟩ 1 none : Cond) ∈ wsX7_init := by decide +kernel
theorem mm_X7_init_4 : (.classLink RX7 11 RX10 : Cond) ∈ wsX7_init := by decide +kernel
theorem mm_X7_init_5 : (.fieldLink RX7 13 "OffTheLead$Sentence" "steps" "[LOffTheLead$Word;" : Cond) ∈ wsX7_init := by decide +kernel
theorem ii_X7_init_X7 : ∀ w ∈ wsX70, w ∈ wsX7_init := fun w h => List.mem_cons_of_mem _ (List.mem_append_right _ (h))
theorem mm_X7_init_6 : (.arrayClass .int : Cond) ∈ wsX7_init := by decide +kernel
theorem mm_X7_init_7 : (.fieldLink RX7 17 "OffTheLead$Sentence" "signs" "[I" : Cond) ∈ wsX7_init := by decide +kernel
theorem mm_X7_init_8 : (.fieldLink RX7 21 "OffTheLead$Sentence" "numbers" "[I" : Cond) ∈ wsX7_init := by decide +kernel
theorem mm_X11_init_90 : (.instanceMethod yX7_init : Cond) ∈ wsX11_init := by decide +kernel
theorem mm_X11_init_24 : (.fieldLink RX11 43 "OffTheLead" "phrase" "LOffTheLead$Sentence;" : Cond) ∈ wsX11_init := by decide +kernel
theorem mm_X11_init_25 : (.fieldLink RX11 47 "OffTheLead" "draft" "LOffTheLead$Sentence;" : Cond) ∈ wsX11_init := by decide +kernel
theorem ii_X11_init_X1 : ∀ w ∈ wsX10, w ∈ wsX11_init := fun w h => List.mem_cons_of_mem _ (List.mem_append_left _ (List.mem_append_left _ (List.mem_append_left _ (List.mem_append_left _ (List.mem_append_right _ (h))))))
theorem mm_X11_init_26 : (.classLink RX11 50 RX1 : Cond) ∈ wsX11_init := by decide +kernel
theorem mm_X11_init_27 : (.instantiable RX1 1 : Cond) ∈ wsX11_init := by decide +kernel
theorem mm_X11_init_28 : (.initialized RX1 : Cond) ∈ wsX11_init := by decide +kernel
theorem mm_X1_init_1 : (.methodLink RX1 3 objectInit : Cond) ∈ wsX1_init := by decide +kernel
theorem mm_X1_init_2 : (.instanceMethod objectInit : Cond) ∈ wsX1_init := by decide +kernel
theorem mm_X1_init_3 : (.code objectInit ⟨#[0xb1]⟩ 1 none : Cond) ∈ wsX1_init := by decide +kernel
theorem mm_X11_init_97 : (.instanceMethod yX1_init : Cond) ∈ wsX11_init := by decide +kernel
theorem mm_X11_init_29 : (.fieldLink RX11 53 "OffTheLead" "calendar" "LOffTheLead$Days;" : Cond) ∈ wsX11_init := by decide +kernel
theorem ii_X11_init_X3 : ∀ w ∈ wsX30, w ∈ wsX11_init := fun w h => List.mem_cons_of_mem _ (List.mem_append_left _ (List.mem_append_left _ (List.mem_append_left _ (List.mem_append_right _ (h)))))
theorem mm_X11_init_30 : (.classLink RX11 57 RX3 : Cond) ∈ wsX11_init := by decide +kernel
theorem mm_X11_init_31 : (.instantiable RX3 3 : Cond) ∈ wsX11_init := by decide +kernel
theorem mm_X11_init_32 : (.initialized RX3 : Cond) ∈ wsX11_init := by decide +kernel
theorem mm_X3_init_1 : (.methodLink RX3 3 objectInit : Cond) ∈ wsX3_init := by decide +kernel
theorem mm_X3_init_2 : (.instanceMethod objectInit : Cond) ∈ wsX3_init := by decide +kernel
theorem mm_X3_init_3 : (.code objectInit ⟨#[0xb1]⟩ 1 none : Cond) ∈ wsX3_init := by decide +kernel
theorem mm_X3_init_4 : (.classLink RX3 9 RX4 : Cond) ∈ wsX3_init := by decide +kernel
theorem mm_X3_init_5 : (.fieldLink RX3 11 "OffTheLead$History" "kept" "[LOffTheLead$Park;" : Cond) ∈ wsX3_init := by decide +kernel
theorem ii_X3_init_X3 : ∀ w ∈ wsX30, w ∈ wsX3_init := fun w h => List.mem_cons_of_mem _ (List.mem_append_left _ (List.mem_append_left _ (List.mem_append_left _ (List.mem_append_right _ (h)))))
theorem ii_X3_init_X4 : ∀ w ∈ wsX40, w ∈ wsX3_init := fun w h => List.mem_cons_of_mem _ (List.mem_append_left _ (List.mem_append_left _ (List.mem_append_right _ (h))))
theorem mm_X3_init_6 : (.instantiable RX4 12 : Cond) ∈ wsX3_init := by decide +kernel
theorem mm_X3_init_7 : (.initialized RX4 : Cond) ∈ wsX3_init := by decide +kernel
theorem mm_X3_init_8 : (.methodLink RX3 15 yX4_init : Cond) ∈ wsX3_init := by decide +kernel
theorem mm_X3_init_9 : (.instanceMethod yX4_init : Cond) ∈ wsX3_init := by decide +kernel
theorem mm_X11_init_100 : (.methodLink RX11 59 yX3_init : Cond) ∈ wsX11_init := by decide +kernel
theorem mm_X11_init_101 : (.instanceMethod yX3_init : Cond) ∈ wsX11_init := by decide +kernel
theorem mm_X11_init_33 : (.fieldLink RX11 60 "OffTheLead" "history" "LOffTheLead$History;" : Cond) ∈ wsX11_init := by decide +kernel
theorem mm_X11_init_34 : (.fieldLink RX11 64 "OffTheLead" "imageParks" "[LOffTheLead$Park;" : Cond) ∈ wsX11_init := by decide +kernel
theorem mm_X11_init_35 : (.fieldLink RX11 68 "OffTheLead" "imagePhrases" "[LOffTheLead$Sentence;" : Cond) ∈ wsX11_init := by decide +kernel
theorem mm_X11_init_36 : (.arrayClass .boolean : Cond) ∈ wsX11_init := by decide +kernel
theorem mm_X11_init_37 : (.fieldLink RX11 72 "OffTheLead" "imageKept" "[Z" : Cond) ∈ wsX11_init := by decide +kernel
theorem mm_X11_init_38 : (.arrayClass .int : Cond) ∈ wsX11_init := by decide +kernel
theorem mm_X11_init_39 : (.fieldLink RX11 76 "OffTheLead" "latestParted" "[I" : Cond) ∈ wsX11_init := by decide +kernel
theorem mm_X11_init_40 : (.fieldLink RX11 80 "OffTheLead" "latestTold" "[I" : Cond) ∈ wsX11_init := by decide +kernel
theorem ii_X11_init_J4 : ∀ w ∈ wsJ40, w ∈ wsX11_init := fun w h => List.mem_cons_of_mem _ (List.mem_append_left _ (List.mem_append_left _ (List.mem_append_right _ (h))))
theorem mm_X11_init_41 : (.classLink RX11 83 RJ4 : Cond) ∈ wsX11_init := by decide +kernel
theorem mm_X11_init_42 : (.instantiable RJ4 4 : Cond) ∈ wsX11_init := by decide +kernel
theorem mm_X11_init_43 : (.initialized RJ4 : Cond) ∈ wsX11_init := by decide +kernel
theorem mm_J5_init_d00df_1 : (.methodLink RJ5 3 objectInit : Cond) ∈ wsJ5_init_d00df := by decide +kernel
theorem mm_J5_init_d00df_2 : (.instanceMethod objectInit : Cond) ∈ wsJ5_init_d00df := by decide +kernel
theorem mm_J5_init_d00df_3 : (.code objectInit ⟨#[0xb1]⟩ 1 none : Cond) ∈ wsJ5_init_d00df := by decide +kernel
theorem mm_J5_init_d00df_4 : (.fieldLink RJ5 18 "java/lang/String" "COMPACT_STRINGS" "Z" : Cond) ∈ wsJ5_init_d00df := by decide +kernel
theorem mm_J5_init_d00df_5 : (.arrayClass .byte : Cond) ∈ wsJ5_init_d00df := by decide +kernel
theorem mm_J5_init_d00df_6 : (.fieldLink RJ5 15 "java/lang/AbstractStringBuilder" "value" "[B" : Cond) ∈ wsJ5_init_d00df := by decide +kernel
theorem ii_J5_init_d00df_J4 : ∀ w ∈ wsJ40, w ∈ wsJ5_init_d00df := fun w h => List.mem_cons_of_mem _ (List.mem_append_right _ (h))
theorem mm_J5_init_d00df_7 : (.fieldLink RJ5 22 "java/lang/AbstractStringBuilder" "coder" "B" : Cond) ∈ wsJ5_init_d00df := by decide +kernel
theorem mm_J4_init_da8c8_3 : (.initialized RJ5 : Cond) ∈ wsJ4_init_da8c8 := by decide +kernel
theorem mm_J4_init_da8c8_1 : (.methodLink RJ4 1 yJ5_init_d00df : Cond) ∈ wsJ4_init_da8c8 := by decide +kernel
theorem mm_J4_init_da8c8_2 : (.instanceMethod yJ5_init_d00df : Cond) ∈ wsJ4_init_da8c8 := by decide +kernel
theorem mm_X11_init_107 : (.methodLink RX11 85 yJ4_init_da8c8 : Cond) ∈ wsX11_init := by decide +kernel
theorem mm_X11_init_108 : (.instanceMethod yJ4_init_da8c8 : Cond) ∈ wsX11_init := by decide +kernel
theorem mm_X11_init_44 : (.fieldLink RX11 86 "OffTheLead" "latestBoard" "Ljava/lang/StringBuilder;" : Cond) ∈ wsX11_init := by decide +kernel
theorem mm_X11_init_45 : (.fieldLink RX11 90 "OffTheLead" "latestPartedGood" "I" : Cond) ∈ wsX11_init := by decide +kernel
theorem mm_X11_init_46 : (.fieldLink RX11 94 "OffTheLead" "latestFrom" "I" : Cond) ∈ wsX11_init := by decide +kernel
theorem mm_X11_init_47 : (.fieldLink RX11 97 "OffTheLead" "latestTo" "I" : Cond) ∈ wsX11_init := by decide +kernel
theorem mm_X11_feed_1 : (.fieldLink RX11 10 "OffTheLead" "tape" "LOffTheLead$Tape;" : Cond) ∈ wsX11_feed := by decide +kernel
theorem ii_X11_feed_X11 : ∀ w ∈ wsX110, w ∈ wsX11_feed := fun w h => List.mem_cons_of_mem _ (List.mem_append_left _ (List.mem_append_right _ (h)))
theorem ii_X11_feed_X8 : ∀ w ∈ wsX80, w ∈ wsX11_feed := fun w h => List.mem_cons_of_mem _ (List.mem_append_right _ (h))
theorem mm_X8_append_1 : (.fieldLink RX8 24 "OffTheLead$Tape" "size" "I" : Cond) ∈ wsX8_append := by decide +kernel
theorem ii_X8_append_X8 : ∀ w ∈ wsX80, w ∈ wsX8_append := fun w h => List.mem_cons_of_mem _ (List.mem_append_right _ (h))
theorem mm_X8_append_2 : (.fieldLink RX8 9 "OffTheLead$Tape" "bytes" "[B" : Cond) ∈ wsX8_append := by decide +kernel
theorem mm_X11_end_1 : (.fieldLink RX11 10 "OffTheLead" "tape" "LOffTheLead$Tape;" : Cond) ∈ wsX11_end := by decide +kernel
theorem ii_X11_end_X11 : ∀ w ∈ wsX110, w ∈ wsX11_end := fun w h => List.mem_cons_of_mem _ (List.mem_append_left _ (List.mem_append_right _ (h)))
theorem ii_X11_end_X8 : ∀ w ∈ wsX80, w ∈ wsX11_end := fun w h => List.mem_cons_of_mem _ (List.mem_append_right _ (h))
theorem mm_X11_park_1 : (.fieldLink RX11 10 "OffTheLead" "tape" "LOffTheLead$Tape;" : Cond) ∈ wsX11_park := by decide +kernel
theorem ii_X11_park_X11 : ∀ w ∈ wsX110, w ∈ wsX11_park := fun w h => List.mem_cons_of_mem _ (List.mem_append_left _ (List.mem_append_left _ (List.mem_append_left _ (List.mem_append_left _ (List.mem_append_left _ (List.mem_append_left _ (List.mem_append_left _ (List.mem_append_right _ (h)))))))))
theorem mm_X8_open_1 : (.fieldLink RX8 28 "OffTheLead$Tape" "most" "I" : Cond) ∈ wsX8_open := by decide +kernel
theorem ii_X8_open_X8 : ∀ w ∈ wsX80, w ∈ wsX8_open := fun w h => List.mem_cons_of_mem _ (List.mem_append_right _ (h))
theorem mm_X8_open_2 : (.fieldLink RX8 31 "OffTheLead$Tape" "next" "I" : Cond) ∈ wsX8_open := by decide +kernel
theorem mm_X8_open_3 : (.fieldLink RX8 34 "OffTheLead$Tape" "fault" "I" : Cond) ∈ wsX8_open := by decide +kernel
theorem mm_X8_open_4 : (.fieldLink RX8 37 "OffTheLead$Tape" "faultAt" "I" : Cond) ∈ wsX8_open := by decide +kernel
theorem mm_X8_step_1 : (.fieldLink RX8 15 "OffTheLead$Word" "NO_WORD" "LOffTheLead$Word;" : Cond) ∈ wsX8_step := by decide +kernel
theorem mm_X8_step_2 : (.fieldLink RX8 21 "OffTheLead$Tape" "word" "LOffTheLead$Word;" : Cond) ∈ wsX8_step := by decide +kernel
theorem ii_X8_step_X8 : ∀ w ∈ wsX80, w ∈ wsX8_step := fun w h => List.mem_cons_of_mem _ (List.mem_append_right _ (h))
theorem mm_X8_step_3 : (.fieldLink RX8 31 "OffTheLead$Tape" "next" "I" : Cond) ∈ wsX8_step := by decide +kernel
theorem mm_X8_step_4 : (.fieldLink RX8 24 "OffTheLead$Tape" "size" "I" : Cond) ∈ wsX8_step := by decide +kernel
theorem mm_X8_step_6 : (.fieldLink RX8 43 "OffTheLead$Tape" "at" "I" : Cond) ∈ wsX8_step := by decide +kernel
theorem mm_X8_step_7 : (.fieldLink RX8 28 "OffTheLead$Tape" "most" "I" : Cond) ∈ wsX8_step := by decide +kernel
theorem mm_X8_step_8 : (.fieldLink RX8 46 "OffTheLead$Tape" "sort" "I" : Cond) ∈ wsX8_step := by decide +kernel
theorem mm_X11_park_2 : (.fieldLink RX11 29 "OffTheLead" "reader" "LOffTheLead$ParkReader;" : Cond) ∈ wsX11_park := by decide +kernel
theorem mm_X11_park_3 : (.fieldLink RX11 23 "OffTheLead" "spare" "LOffTheLead$Park;" : Cond) ∈ wsX11_park := by decide +kernel
theorem mm_X4_clear_1 : (.fieldLink RX4 41 "OffTheLead$Park" "placeCount" "I" : Cond) ∈ wsX4_clear := by decide +kernel
theorem ii_X4_clear_X4 : ∀ w ∈ wsX40, w ∈ wsX4_clear := fun w h => List.mem_cons_of_mem _ (List.mem_append_right _ (h))
theorem mm_X4_clear_2 : (.fieldLink RX4 44 "OffTheLead$Park" "personCount" "I" : Cond) ∈ wsX4_clear := by decide +kernel
theorem mm_X4_clear_3 : (.fieldLink RX4 47 "OffTheLead$Park" "dogCount" "I" : Cond) ∈ wsX4_clear := by decide +kernel
theorem mm_X4_clear_4 : (.fieldLink RX4 37 "OffTheLead$Park" "sign" "I" : Cond) ∈ wsX4_clear := by decide +kernel
theorem mm_X4_clear_5 : (.fieldLink RX4 50 "OffTheLead$Park" "day" "I" : Cond) ∈ wsX4_clear := by decide +kernel
theorem mm_X4_clear_6 : (.fieldLink RX4 53 "OffTheLead$Park" "complaints" "I" : Cond) ∈ wsX4_clear := by decide +kernel
theorem mm_X4_clear_7 : (.fieldLink RX4 56 "OffTheLead$Park" "bites" "I" : Cond) ∈ wsX4_clear := by decide +kernel
theorem mm_X5_readAll_1 : (.fieldLink RX5 14 "OffTheLead$ParkReader" "freeLines" "I" : Cond) ∈ wsX5_readAll := by decide +kernel
theorem ii_X5_readAll_X5 : ∀ w ∈ wsX50, w ∈ wsX5_readAll := fun w h => List.mem_cons_of_mem _ (List.mem_append_left _ (List.mem_append_left _ (List.mem_append_left _ (List.mem_append_left _ (List.mem_append_right _ (h))))))
theorem mm_X5_readAll_2 : (.fieldLink RX5 20 "OffTheLead$ParkReader" "signTold" "Z" : Cond) ∈ wsX5_readAll := by decide +kernel
theorem ii_X5_readAll_X8 : ∀ w ∈ wsX80, w ∈ wsX5_readAll := fun w h => List.mem_cons_of_mem _ (List.mem_append_left _ (List.mem_append_left _ (List.mem_append_left _ (List.mem_append_right _ (h)))))
theorem mm_X11_closeTape_1 : (.fieldLink RX11 10 "OffTheLead" "tape" "LOffTheLead$Tape;" : Cond) ∈ wsX11_closeTape := by decide +kernel
theorem ii_X11_closeTape_X11 : ∀ w ∈ wsX110, w ∈ wsX11_closeTape := fun w h => List.mem_cons_of_mem _ (List.mem_append_left _ (List.mem_append_right _ (h)))
theorem ii_X11_closeTape_X8 : ∀ w ∈ wsX80, w ∈ wsX11_closeTape := fun w h => List.mem_cons_of_mem _ (List.mem_append_right _ (h))
theorem mm_X11_closeTape_2 : (.fieldLink RX11 117 "OffTheLead" "latestFault" "I" : Cond) ∈ wsX11_closeTape := by decide +kernel
theorem mm_X11_park_4 : (.fieldLink RX11 117 "OffTheLead" "latestFault" "I" : Cond) ∈ wsX11_park := by decide +kernel
theorem mm_X11_park_5 : (.fieldLink RX11 19 "OffTheLead" "now" "LOffTheLead$Park;" : Cond) ∈ wsX11_park := by decide +kernel
theorem mm_X4_copyFrom_1 : (.fieldLink RX4 41 "OffTheLead$Park" "placeCount" "I" : Cond) ∈ wsX4_copyFrom := by decide +kernel
theorem ii_X4_copyFrom_X4 : ∀ w ∈ wsX40, w ∈ wsX4_copyFrom := fun w h => List.mem_cons_of_mem _ (List.mem_append_left _ (List.mem_append_left _ (List.mem_append_right _ (h))))
theorem mm_X4_copyFrom_2 : (.fieldLink RX4 44 "OffTheLead$Park" "personCount" "I" : Cond) ∈ wsX4_copyFrom := by decide +kernel
theorem mm_X4_copyFrom_3 : (.fieldLink RX4 47 "OffTheLead$Park" "dogCount" "I" : Cond) ∈ wsX4_copyFrom := by decide +kernel
theorem mm_X4_copyFrom_4 : (.fieldLink RX4 37 "OffTheLead$Park" "sign" "I" : Cond) ∈ wsX4_copyFrom := by decide +kernel
theorem mm_X4_copyFrom_5 : (.fieldLink RX4 50 "OffTheLead$Park" "day" "I" : Cond) ∈ wsX4_copyFrom := by decide +kernel
theorem mm_X4_copyFrom_6 : (.fieldLink RX4 53 "OffTheLead$Park" "complaints" "I" : Cond) ∈ wsX4_copyFrom := by decide +kernel
theorem mm_X4_copyFrom_7 : (.fieldLink RX4 56 "OffTheLead$Park" "bites" "I" : Cond) ∈ wsX4_copyFrom := by decide +kernel
theorem mm_X11_park_6 : (.fieldLink RX11 43 "OffTheLead" "phrase" "LOffTheLead$Sentence;" : Cond) ∈ wsX11_park := by decide +kernel
theorem mm_X7_clear_1 : (.fieldLink RX7 24 "OffTheLead$Sentence" "size" "I" : Cond) ∈ wsX7_clear := by decide +kernel
theorem ii_X7_clear_X7 : ∀ w ∈ wsX70, w ∈ wsX7_clear := fun w h => List.mem_cons_of_mem _ (List.mem_append_right _ (h))
theorem mm_X7_clear_2 : (.fieldLink RX7 28 "OffTheLead$Sentence" "ones" "I" : Cond) ∈ wsX7_clear := by decide +kernel
theorem mm_X11_park_7 : (.fieldLink RX11 60 "OffTheLead" "history" "LOffTheLead$History;" : Cond) ∈ wsX11_park := by decide +kernel
theorem mm_X3_forget_1 : (.fieldLink RX3 24 "OffTheLead$History" "size" "I" : Cond) ∈ wsX3_forget := by decide +kernel
theorem ii_X3_forget_X3 : ∀ w ∈ wsX30, w ∈ wsX3_forget := fun w h => List.mem_cons_of_mem _ (List.mem_append_right _ (h))
theorem mm_X11_fault_1 : (.fieldLink RX11 117 "OffTheLead" "latestFault" "I" : Cond) ∈ wsX11_fault := by decide +kernel
theorem ii_X11_fault_X11 : ∀ w ∈ wsX110, w ∈ wsX11_fault := fun w h => List.mem_cons_of_mem _ (List.mem_append_right _ (h))
theorem mm_X11_place_1 : (.fieldLink RX11 19 "OffTheLead" "now" "LOffTheLead$Park;" : Cond) ∈ wsX11_place := by decide +kernel
theorem ii_X11_place_X11 : ∀ w ∈ wsX110, w ∈ wsX11_place := fun w h => List.mem_cons_of_mem _ (List.mem_append_left _ (List.mem_append_left _ (List.mem_append_right _ (h))))
theorem mm_X4_hasPlace_1 : (.fieldLink RX4 41 "OffTheLead$Park" "placeCount" "I" : Cond) ∈ wsX4_hasPlace := by decide +kernel
theorem ii_X4_hasPlace_X4 : ∀ w ∈ wsX40, w ∈ wsX4_hasPlace := fun w h => List.mem_cons_of_mem _ (List.mem_append_right _ (h))
theorem mm_X11_now_1 : (.fieldLink RX11 19 "OffTheLead" "now" "LOffTheLead$Park;" : Cond) ∈ wsX11_now := by decide +kernel
theorem ii_X11_now_X11 : ∀ w ∈ wsX110, w ∈ wsX11_now := fun w h => List.mem_cons_of_mem _ (List.mem_append_left _ (List.mem_append_left _ (List.mem_append_left _ (List.mem_append_right _ (h)))))
theorem ii_X11_now_X4 : ∀ w ∈ wsX40, w ∈ wsX11_now := fun w h => List.mem_cons_of_mem _ (List.mem_append_left _ (List.mem_append_left _ (List.mem_append_right _ (h))))
theorem mm_X4_awayBits_1 : (.fieldLink RX4 44 "OffTheLead$Park" "personCount" "I" : Cond) ∈ wsX4_awayBits := by decide +kernel
theorem ii_X4_awayBits_X4 : ∀ w ∈ wsX40, w ∈ wsX4_awayBits := fun w h => List.mem_cons_of_mem _ (List.mem_append_left _ (List.mem_append_right _ (h)))
theorem mm_X4_goodOfAll_1 : (.fieldLink RX4 44 "OffTheLead$Park" "personCount" "I" : Cond) ∈ wsX4_goodOfAll := by decide +kernel
theorem ii_X4_goodOfAll_X4 : ∀ w ∈ wsX40, w ∈ wsX4_goodOfAll := fun w h => List.mem_cons_of_mem _ (List.mem_append_left _ (List.mem_append_left _ (List.mem_append_right _ (h))))
theorem mm_X4_heldBits_1 : (.fieldLink RX4 47 "OffTheLead$Park" "dogCount" "I" : Cond) ∈ wsX4_heldBits := by decide +kernel
theorem ii_X4_heldBits_X4 : ∀ w ∈ wsX40, w ∈ wsX4_heldBits := fun w h => List.mem_cons_of_mem _ (List.mem_append_left _ (List.mem_append_right _ (h)))
theorem mm_X11_allow_1 : (.fieldLink RX11 19 "OffTheLead" "now" "LOffTheLead$Park;" : Cond) ∈ wsX11_allow := by decide +kernel
theorem ii_X11_allow_X11 : ∀ w ∈ wsX110, w ∈ wsX11_allow := fun w h => List.mem_cons_of_mem _ (List.mem_append_left _ (List.mem_append_left _ (List.mem_append_left _ (List.mem_append_left _ (List.mem_append_right _ (h))))))
theorem mm_X11_forbid_1 : (.fieldLink RX11 19 "OffTheLead" "now" "LOffTheLead$Park;" : Cond) ∈ wsX11_forbid := by decide +kernel
theorem ii_X11_forbid_X11 : ∀ w ∈ wsX110, w ∈ wsX11_forbid := fun w h => List.mem_cons_of_mem _ (List.mem_append_left _ (List.mem_append_left _ (List.mem_append_left _ (List.mem_append_left _ (List.mem_append_right _ (h))))))
theorem mm_X11_fence_1 : (.fieldLink RX11 19 "OffTheLead" "now" "LOffTheLead$Park;" : Cond) ∈ wsX11_fence := by decide +kernel
theorem ii_X11_fence_X11 : ∀ w ∈ wsX110, w ∈ wsX11_fence := fun w h => List.mem_cons_of_mem _ (List.mem_append_left _ (List.mem_append_left _ (List.mem_append_left _ (List.mem_append_left _ (List.mem_append_right _ (h))))))
theorem mm_X11_sign_1 : (.fieldLink RX11 60 "OffTheLead" "history" "LOffTheLead$History;" : Cond) ∈ wsX11_sign := by decide +kernel
theorem ii_X11_sign_X11 : ∀ w ∈ wsX110, w ∈ wsX11_sign := fun w h => List.mem_cons_of_mem _ (List.mem_append_left _ (List.mem_append_left _ (List.mem_append_left _ (List.mem_append_left _ (List.mem_append_right _ (h))))))
theorem mm_X11_sign_2 : (.fieldLink RX11 19 "OffTheLead" "now" "LOffTheLead$Park;" : Cond) ∈ wsX11_sign := by decide +kernel
theorem mm_X3_mark_1 : (.fieldLink RX3 11 "OffTheLead$History" "kept" "[LOffTheLead$Park;" : Cond) ∈ wsX3_mark := by decide +kernel
theorem ii_X3_mark_X3 : ∀ w ∈ wsX30, w ∈ wsX3_mark := fun w h => List.mem_cons_of_mem _ (List.mem_append_left _ (List.mem_append_left _ (List.mem_append_left _ (List.mem_append_right _ (h)))))
theorem mm_X3_mark_2 : (.fieldLink RX3 16 "OffTheLead$History" "next" "I" : Cond) ∈ wsX3_mark := by decide +kernel
theorem mm_X4_writeSign_1 : (.fieldLink RX4 37 "OffTheLead$Park" "sign" "I" : Cond) ∈ wsX4_writeSign := by decide +kernel
theorem ii_X4_writeSign_X4 : ∀ w ∈ wsX40, w ∈ wsX4_writeSign := fun w h => List.mem_cons_of_mem _ (List.mem_append_right _ (h))
theorem mm_X11_keepIfDone_1 : (.fieldLink RX11 60 "OffTheLead" "history" "LOffTheLead$History;" : Cond) ∈ wsX11_keepIfDone := by decide +kernel
theorem ii_X11_keepIfDone_X11 : ∀ w ∈ wsX110, w ∈ wsX11_keepIfDone := fun w h => List.mem_cons_of_mem _ (List.mem_append_left _ (List.mem_append_right _ (h)))
theorem mm_X3_keepMarked_1 : (.fieldLink RX3 16 "OffTheLead$History" "next" "I" : Cond) ∈ wsX3_keepMarked := by decide +kernel
theorem ii_X3_keepMarked_X3 : ∀ w ∈ wsX30, w ∈ wsX3_keepMarked := fun w h => List.mem_cons_of_mem _ (List.mem_append_right _ (h))
theorem mm_X3_keepMarked_2 : (.fieldLink RX3 24 "OffTheLead$History" "size" "I" : Cond) ∈ wsX3_keepMarked := by decide +kernel
theorem mm_X3_keepMarked_3 : (.methodLink RX3 27 Lib.Math.min.name : Cond) ∈ wsX3_keepMarked := by decide +kernel
theorem mm_X3_keepMarked_4 : (.static Lib.Math.min.name : Cond) ∈ wsX3_keepMarked := by decide +kernel
theorem mm_X3_keepMarked_5 : (.initialized "java/lang/Math" : Cond) ∈ wsX3_keepMarked := by decide +kernel
theorem mm_X3_keepMarked_6 : (.code Lib.Math.min.name Lib.Math.min.code 2 (some .int) : Cond) ∈ wsX3_keepMarked := by decide +kernel
theorem mm_X11_hold_1 : (.fieldLink RX11 19 "OffTheLead" "now" "LOffTheLead$Park;" : Cond) ∈ wsX11_hold := by decide +kernel
theorem ii_X11_hold_X11 : ∀ w ∈ wsX110, w ∈ wsX11_hold := fun w h => List.mem_cons_of_mem _ (List.mem_append_left _ (List.mem_append_left _ (List.mem_append_left _ (List.mem_append_left _ (List.mem_append_right _ (h))))))
theorem mm_X4_hasDog_1 : (.fieldLink RX4 47 "OffTheLead$Park" "dogCount" "I" : Cond) ∈ wsX4_hasDog := by decide +kernel
theorem ii_X4_hasDog_X4 : ∀ w ∈ wsX40, w ∈ wsX4_hasDog := fun w h => List.mem_cons_of_mem _ (List.mem_append_right _ (h))
theorem mm_X11_come_1 : (.fieldLink RX11 19 "OffTheLead" "now" "LOffTheLead$Park;" : Cond) ∈ wsX11_come := by decide +kernel
theorem ii_X11_come_X11 : ∀ w ∈ wsX110, w ∈ wsX11_come := fun w h => List.mem_cons_of_mem _ (List.mem_append_left _ (List.mem_append_left _ (List.mem_append_left _ (List.mem_append_left _ (List.mem_append_right _ (h))))))
theorem mm_X4_hasPerson_1 : (.fieldLink RX4 44 "OffTheLead$Park" "personCount" "I" : Cond) ∈ wsX4_hasPerson := by decide +kernel
theorem ii_X4_hasPerson_X4 : ∀ w ∈ wsX40, w ∈ wsX4_hasPerson := fun w h => List.mem_cons_of_mem _ (List.mem_append_right _ (h))
theorem mm_X11_days_1 : (.fieldLink RX11 60 "OffTheLead" "history" "LOffTheLead$History;" : Cond) ∈ wsX11_days := by decide +kernel
theorem ii_X11_days_X11 : ∀ w ∈ wsX110, w ∈ wsX11_days := fun w h => List.mem_cons_of_mem _ (List.mem_append_left _ (List.mem_append_left _ (List.mem_append_left _ (List.mem_append_left _ (List.mem_append_left _ (List.mem_append_right _ (h)))))))
theorem mm_X11_days_2 : (.fieldLink RX11 19 "OffTheLead" "now" "LOffTheLead$Park;" : Cond) ∈ wsX11_days := by decide +kernel
theorem mm_X11_days_3 : (.fieldLink RX11 53 "OffTheLead" "calendar" "LOffTheLead$Days;" : Cond) ∈ wsX11_days := by decide +kernel
theorem mm_X1_live_1 : (.fieldLink RX1 9 "OffTheLead$Days" "x" "I" : Cond) ∈ wsX1_live := by decide +kernel
theorem ii_X1_live_X1 : ∀ w ∈ wsX10, w ∈ wsX1_live := fun w h => List.mem_cons_of_mem _ (List.mem_append_left _ (List.mem_append_left _ (List.mem_append_left _ (List.mem_append_right _ (h)))))
theorem ii_X1_live_X4 : ∀ w ∈ wsX40, w ∈ wsX1_live := fun w h => List.mem_cons_of_mem _ (List.mem_append_left _ (List.mem_append_left _ (List.mem_append_right _ (h))))
theorem ii_X1_liveDay_X4 : ∀ w ∈ wsX40, w ∈ wsX1_liveDay := fun w h => List.mem_cons_of_mem _ (List.mem_append_left _ (List.mem_append_left _ (List.mem_append_left _ (List.mem_append_right _ (h)))))
theorem mm_X11_undo_1 : (.fieldLink RX11 60 "OffTheLead" "history" "LOffTheLead$History;" : Cond) ∈ wsX11_undo := by decide +kernel
theorem ii_X11_undo_X11 : ∀ w ∈ wsX110, w ∈ wsX11_undo := fun w h => List.mem_cons_of_mem _ (List.mem_append_left _ (List.mem_append_left _ (List.mem_append_left _ (List.mem_append_left _ (List.mem_append_right _ (h))))))
theorem mm_X11_undo_2 : (.fieldLink RX11 19 "OffTheLead" "now" "LOffTheLead$Park;" : Cond) ∈ wsX11_undo := by decide +kernel
theorem mm_X3_takeBack_1 : (.fieldLink RX3 24 "OffTheLead$History" "size" "I" : Cond) ∈ wsX3_takeBack := by decide +kernel
theorem ii_X3_takeBack_X3 : ∀ w ∈ wsX30, w ∈ wsX3_takeBack := fun w h => List.mem_cons_of_mem _ (List.mem_append_left _ (List.mem_append_left _ (List.mem_append_left _ (List.mem_append_right _ (h)))))
theorem mm_X11_there_1 : (.fieldLink RX11 19 "OffTheLead" "now" "LOffTheLead$Park;" : Cond) ∈ wsX11_there := by decide +kernel
theorem ii_X11_there_X11 : ∀ w ∈ wsX110, w ∈ wsX11_there := fun w h => List.mem_cons_of_mem _ (List.mem_append_left _ (List.mem_append_left _ (List.mem_append_right _ (h))))
theorem mm_X11_meets_1 : (.fieldLink RX11 19 "OffTheLead" "now" "LOffTheLead$Park;" : Cond) ∈ wsX11_meets := by decide +kernel
theorem ii_X11_meets_X11 : ∀ w ∈ wsX110, w ∈ wsX11_meets := fun w h => List.mem_cons_of_mem _ (List.mem_append_left _ (List.mem_append_left _ (List.mem_append_right _ (h))))
theorem mm_X11_best_1 : (.fieldLink RX11 19 "OffTheLead" "now" "LOffTheLead$Park;" : Cond) ∈ wsX11_best := by decide +kernel
theorem ii_X11_best_X11 : ∀ w ∈ wsX110, w ∈ wsX11_best := fun w h => List.mem_cons_of_mem _ (List.mem_append_left _ (List.mem_append_left _ (List.mem_append_left _ (List.mem_append_right _ (h)))))
theorem mm_X11_bestAt_1 : (.fieldLink RX11 94 "OffTheLead" "latestFrom" "I" : Cond) ∈ wsX11_bestAt := by decide +kernel
theorem ii_X11_bestAt_X11 : ∀ w ∈ wsX110, w ∈ wsX11_bestAt := fun w h => List.mem_cons_of_mem _ (List.mem_append_right _ (h))
theorem mm_X11_bestAt_2 : (.fieldLink RX11 97 "OffTheLead" "latestTo" "I" : Cond) ∈ wsX11_bestAt := by decide +kernel
theorem mm_X11_fences_1 : (.fieldLink RX11 23 "OffTheLead" "spare" "LOffTheLead$Park;" : Cond) ∈ wsX11_fences := by decide +kernel
theorem ii_X11_fences_X11 : ∀ w ∈ wsX110, w ∈ wsX11_fences := fun w h => List.mem_cons_of_mem _ (List.mem_append_left _ (List.mem_append_left _ (List.mem_append_left _ (List.mem_append_right _ (h)))))
theorem mm_X11_fences_2 : (.fieldLink RX11 19 "OffTheLead" "now" "LOffTheLead$Park;" : Cond) ∈ wsX11_fences := by decide +kernel
theorem ii_X9_bestFence_X4 : ∀ w ∈ wsX40, w ∈ wsX9_bestFence := fun w h => List.mem_cons_of_mem _ (List.mem_append_left _ (List.mem_append_left _ (List.mem_append_right _ (h))))
theorem mm_X11_perils_1 : (.fieldLink RX11 19 "OffTheLead" "now" "LOffTheLead$Park;" : Cond) ∈ wsX11_perils := by decide +kernel
theorem ii_X11_perils_X11 : ∀ w ∈ wsX110, w ∈ wsX11_perils := fun w h => List.mem_cons_of_mem _ (List.mem_append_left _ (List.mem_append_left _ (List.mem_append_left _ (List.mem_append_right _ (h)))))
theorem mm_X11_rounds_1 : (.fieldLink RX11 23 "OffTheLead" "spare" "LOffTheLead$Park;" : Cond) ∈ wsX11_rounds := by decide +kernel
theorem ii_X11_rounds_X11 : ∀ w ∈ wsX110, w ∈ wsX11_rounds := fun w h => List.mem_cons_of_mem _ (List.mem_append_left _ (List.mem_append_left _ (List.mem_append_left _ (List.mem_append_right _ (h)))))
theorem mm_X11_rounds_2 : (.fieldLink RX11 19 "OffTheLead" "now" "LOffTheLead$Park;" : Cond) ∈ wsX11_rounds := by decide +kernel
theorem ii_X9_goRound_X4 : ∀ w ∈ wsX40, w ∈ wsX9_goRound := fun w h => List.mem_cons_of_mem _ (List.mem_append_left _ (List.mem_append_left _ (List.mem_append_right _ (h))))
theorem mm_X11_rounds_3 : (.fieldLink RX11 76 "OffTheLead" "latestParted" "[I" : Cond) ∈ wsX11_rounds := by decide +kernel
theorem mm_X11_rounds_4 : (.fieldLink RX11 90 "OffTheLead" "latestPartedGood" "I" : Cond) ∈ wsX11_rounds := by decide +kernel
theorem mm_X11_parted_1 : (.fieldLink RX11 76 "OffTheLead" "latestParted" "[I" : Cond) ∈ wsX11_parted := by decide +kernel
theorem ii_X11_parted_X11 : ∀ w ∈ wsX110, w ∈ wsX11_parted := fun w h => List.mem_cons_of_mem _ (List.mem_append_right _ (h))
theorem mm_X11_partedGood_1 : (.fieldLink RX11 90 "OffTheLead" "latestPartedGood" "I" : Cond) ∈ wsX11_partedGood := by decide +kernel
theorem ii_X11_partedGood_X11 : ∀ w ∈ wsX110, w ∈ wsX11_partedGood := fun w h => List.mem_cons_of_mem _ (List.mem_append_right _ (h))
theorem mm_X11_tracks_1 : (.fieldLink RX11 10 "OffTheLead" "tape" "LOffTheLead$Tape;" : Cond) ∈ wsX11_tracks := by decide +kernel
theorem ii_X11_tracks_X11 : ∀ w ∈ wsX110, w ∈ wsX11_tracks := fun w h => List.mem_cons_of_mem _ (List.mem_append_left _ (List.mem_append_left _ (List.mem_append_left _ (List.mem_append_left _ (List.mem_append_right _ (h))))))
theorem ii_X11_tracks_X8 : ∀ w ∈ wsX80, w ∈ wsX11_tracks := fun w h => List.mem_cons_of_mem _ (List.mem_append_left _ (List.mem_append_left _ (List.mem_append_left _ (List.mem_append_right _ (h)))))
theorem mm_X11_votes_1 : (.fieldLink RX11 19 "OffTheLead" "now" "LOffTheLead$Park;" : Cond) ∈ wsX11_votes := by decide +kernel
theorem ii_X11_votes_X11 : ∀ w ∈ wsX110, w ∈ wsX11_votes := fun w h => List.mem_cons_of_mem _ (List.mem_append_left _ (List.mem_append_left _ (List.mem_append_right _ (h))))
theorem mm_X11_against_1 : (.fieldLink RX11 19 "OffTheLead" "now" "LOffTheLead$Park;" : Cond) ∈ wsX11_against := by decide +kernel
theorem ii_X11_against_X11 : ∀ w ∈ wsX110, w ∈ wsX11_against := fun w h => List.mem_cons_of_mem _ (List.mem_append_left _ (List.mem_append_left _ (List.mem_append_right _ (h))))
theorem mm_X11_missed_1 : (.fieldLink RX11 19 "OffTheLead" "now" "LOffTheLead$Park;" : Cond) ∈ wsX11_missed := by decide +kernel
theorem ii_X11_missed_X11 : ∀ w ∈ wsX110, w ∈ wsX11_missed := fun w h => List.mem_cons_of_mem _ (List.mem_append_left _ (List.mem_append_left _ (List.mem_append_right _ (h))))
theorem mm_X11_board_1 : (.fieldLink RX11 19 "OffTheLead" "now" "LOffTheLead$Park;" : Cond) ∈ wsX11_board := by decide +kernel
theorem ii_X11_board_X11 : ∀ w ∈ wsX110, w ∈ wsX11_board := fun w h => List.mem_cons_of_mem _ (List.mem_append_left _ (List.mem_append_left _ (List.mem_append_right _ (h))))
theorem mm_X11_byteAt_1 : (.fieldLink RX11 86 "OffTheLead" "latestBoard" "Ljava/lang/StringBuilder;" : Cond) ∈ wsX11_byteAt := by decide +kernel
theorem ii_X11_byteAt_X11 : ∀ w ∈ wsX110, w ∈ wsX11_byteAt := fun w h => List.mem_cons_of_mem _ (List.mem_append_left _ (List.mem_append_right _ (h)))
theorem mm_J5_length_8abf5_1 : (.fieldLink RJ5 79 "java/lang/AbstractStringBuilder" "count" "I" : Cond) ∈ wsJ5_length_8abf5 := by decide +kernel
theorem ii_J5_length_8abf5_J4 : ∀ w ∈ wsJ40, w ∈ wsJ5_length_8abf5 := fun w h => List.mem_cons_of_mem _ (List.mem_append_right _ (h))
theorem mm_X11_odds_1 : (.fieldLink RX11 19 "OffTheLead" "now" "LOffTheLead$Park;" : Cond) ∈ wsX11_odds := by decide +kernel
theorem ii_X11_odds_X11 : ∀ w ∈ wsX110, w ∈ wsX11_odds := fun w h => List.mem_cons_of_mem _ (List.mem_append_left _ (List.mem_append_left _ (List.mem_append_left _ (List.mem_append_left _ (List.mem_append_right _ (h))))))
theorem mm_X11_book_1 : (.fieldLink RX11 10 "OffTheLead" "tape" "LOffTheLead$Tape;" : Cond) ∈ wsX11_book := by decide +kernel
theorem ii_X11_book_X11 : ∀ w ∈ wsX110, w ∈ wsX11_book := fun w h => List.mem_cons_of_mem _ (List.mem_append_left _ (List.mem_append_left _ (List.mem_append_left _ (List.mem_append_left _ (List.mem_append_left _ (List.mem_append_left _ (List.mem_append_left _ (List.mem_append_right _ (h)))))))))
theorem mm_X11_book_2 : (.fieldLink RX11 36 "OffTheLead" "pages" "LOffTheLead$Book;" : Cond) ∈ wsX11_book := by decide +kernel
theorem mm_X11_book_3 : (.fieldLink RX11 19 "OffTheLead" "now" "LOffTheLead$Park;" : Cond) ∈ wsX11_book := by decide +kernel
theorem mm_X0_readAll_1 : (.fieldLink RX0 30 "OffTheLead$Book" "lines" "I" : Cond) ∈ wsX0_readAll := by decide +kernel
theorem ii_X0_readAll_X0 : ∀ w ∈ wsX00, w ∈ wsX0_readAll := fun w h => List.mem_cons_of_mem _ (List.mem_append_left _ (List.mem_append_left _ (List.mem_append_left _ (List.mem_append_left _ (List.mem_append_right _ (h))))))
theorem ii_X0_readAll_X8 : ∀ w ∈ wsX80, w ∈ wsX0_readAll := fun w h => List.mem_cons_of_mem _ (List.mem_append_left _ (List.mem_append_left _ (List.mem_append_left _ (List.mem_append_right _ (h)))))
theorem mm_X11_book_4 : (.fieldLink RX11 117 "OffTheLead" "latestFault" "I" : Cond) ∈ wsX11_book := by decide +kernel
theorem mm_X11_book_5 : (.fieldLink RX11 23 "OffTheLead" "spare" "LOffTheLead$Park;" : Cond) ∈ wsX11_book := by decide +kernel
theorem mm_X11_book_7 : (.fieldLink RX11 53 "OffTheLead" "calendar" "LOffTheLead$Days;" : Cond) ∈ wsX11_book := by decide +kernel
theorem mm_X0_liveAll_1 : (.fieldLink RX0 125 "OffTheLead$Book" "why" "I" : Cond) ∈ wsX0_liveAll := by decide +kernel
theorem ii_X0_liveAll_X0 : ∀ w ∈ wsX00, w ∈ wsX0_liveAll := fun w h => List.mem_cons_of_mem _ (List.mem_append_left _ (List.mem_append_left _ (List.mem_append_left _ (List.mem_append_left _ (List.mem_append_right _ (h))))))
theorem mm_X0_liveAll_2 : (.fieldLink RX0 30 "OffTheLead$Book" "lines" "I" : Cond) ∈ wsX0_liveAll := by decide +kernel
theorem mm_X11_book_8 : (.fieldLink RX11 80 "OffTheLead" "latestTold" "[I" : Cond) ∈ wsX11_book := by decide +kernel
theorem ii_X11_book_X0 : ∀ w ∈ wsX00, w ∈ wsX11_book := fun w h => List.mem_cons_of_mem _ (List.mem_append_left _ (List.mem_append_left _ (List.mem_append_left _ (List.mem_append_left _ (List.mem_append_left _ (List.mem_append_right _ (h)))))))
theorem ii_X11_book_X4 : ∀ w ∈ wsX40, w ∈ wsX11_book := fun w h => List.mem_cons_of_mem _ (List.mem_append_left _ (List.mem_append_left _ (List.mem_append_left _ (List.mem_append_left _ (List.mem_append_right _ (h))))))
theorem mm_X11_book_6 : (.fieldLink RX11 60 "OffTheLead" "history" "LOffTheLead$History;" : Cond) ∈ wsX11_book := by decide +kernel
theorem mm_X11_told_1 : (.fieldLink RX11 80 "OffTheLead" "latestTold" "[I" : Cond) ∈ wsX11_told := by decide +kernel
theorem ii_X11_told_X11 : ∀ w ∈ wsX110, w ∈ wsX11_told := fun w h => List.mem_cons_of_mem _ (List.mem_append_right _ (h))
theorem mm_X11_sentence_1 : (.fieldLink RX11 10 "OffTheLead" "tape" "LOffTheLead$Tape;" : Cond) ∈ wsX11_sentence := by decide +kernel
theorem ii_X11_sentence_X11 : ∀ w ∈ wsX110, w ∈ wsX11_sentence := fun w h => List.mem_cons_of_mem _ (List.mem_append_left _ (List.mem_append_left _ (List.mem_append_left _ (List.mem_append_left _ (List.mem_append_left _ (List.mem_append_right _ (h)))))))
theorem mm_X11_sentence_2 : (.fieldLink RX11 47 "OffTheLead" "draft" "LOffTheLead$Sentence;" : Cond) ∈ wsX11_sentence := by decide +kernel
theorem mm_X11_sentence_3 : (.fieldLink RX11 19 "OffTheLead" "now" "LOffTheLead$Park;" : Cond) ∈ wsX11_sentence := by decide +kernel
theorem ii_X7_readOne_X8 : ∀ w ∈ wsX80, w ∈ wsX7_readOne := fun w h => List.mem_cons_of_mem _ (List.mem_append_left _ (List.mem_append_left _ (List.mem_append_left _ (List.mem_append_left _ (List.mem_append_right _ (h))))))
theorem mm_X8_looksAtMark_1 : (.fieldLink RX8 46 "OffTheLead$Tape" "sort" "I" : Cond) ∈ wsX8_looksAtMark := by decide +kernel
theorem ii_X8_looksAtMark_X8 : ∀ w ∈ wsX80, w ∈ wsX8_looksAtMark := fun w h => List.mem_cons_of_mem _ (List.mem_append_right _ (h))
theorem mm_X7_beginsOne_1 : (.fieldLink RX7 74 "OffTheLead$Word" "NOT" "LOffTheLead$Word;" : Cond) ∈ wsX7_beginsOne := by decide +kernel
theorem mm_X7_beginsOne_2 : (.fieldLink RX7 81 "OffTheLead$Word" "AWAY" "LOffTheLead$Word;" : Cond) ∈ wsX7_beginsOne := by decide +kernel
theorem mm_X7_beginsOne_3 : (.fieldLink RX7 84 "OffTheLead$Word" "OWNER" "LOffTheLead$Word;" : Cond) ∈ wsX7_beginsOne := by decide +kernel
theorem mm_X7_beginsOne_4 : (.fieldLink RX7 87 "OffTheLead$Word" "MEETS" "LOffTheLead$Word;" : Cond) ∈ wsX7_beginsOne := by decide +kernel
theorem mm_X7_beginsOne_5 : (.fieldLink RX7 90 "OffTheLead$Word" "AT" "LOffTheLead$Word;" : Cond) ∈ wsX7_beginsOne := by decide +kernel
theorem mm_X7_beginsOne_6 : (.fieldLink RX7 107 "OffTheLead$Word" "FRIGHTS" "LOffTheLead$Word;" : Cond) ∈ wsX7_beginsOne := by decide +kernel
theorem mm_X7_beginsOne_7 : (.fieldLink RX7 110 "OffTheLead$Word" "BITES" "LOffTheLead$Word;" : Cond) ∈ wsX7_beginsOne := by decide +kernel
theorem mm_X7_beginsOne_8 : (.fieldLink RX7 113 "OffTheLead$Word" "GOOD" "LOffTheLead$Word;" : Cond) ∈ wsX7_beginsOne := by decide +kernel
theorem mm_X7_beginsOne_9 : (.fieldLink RX7 116 "OffTheLead$Word" "NUMBER" "LOffTheLead$Word;" : Cond) ∈ wsX7_beginsOne := by decide +kernel
theorem mm_X8_refuse_1 : (.fieldLink RX8 34 "OffTheLead$Tape" "fault" "I" : Cond) ∈ wsX8_refuse := by decide +kernel
theorem ii_X8_refuse_X8 : ∀ w ∈ wsX80, w ∈ wsX8_refuse := fun w h => List.mem_cons_of_mem _ (List.mem_append_right _ (h))
theorem mm_X8_refuse_2 : (.fieldLink RX8 43 "OffTheLead$Tape" "at" "I" : Cond) ∈ wsX8_refuse := by decide +kernel
theorem mm_X8_refuse_3 : (.fieldLink RX8 37 "OffTheLead$Tape" "faultAt" "I" : Cond) ∈ wsX8_refuse := by decide +kernel
theorem mm_X11_sentence_99 : (.initialized RX7 : Cond) ∈ wsX11_sentence := by decide +kernel
theorem mm_X11_sentence_103 : (.instanceMethod yX7_readCond : Cond) ∈ wsX11_sentence := by decide +kernel
theorem mm_X11_sentence_104 : (.selects RX7 yX7_readCond yX7_readCond : Cond) ∈ wsX11_sentence := by decide +kernel
theorem mm_X11_sentence_4 : (.fieldLink RX11 117 "OffTheLead" "latestFault" "I" : Cond) ∈ wsX11_sentence := by decide +kernel
theorem ii_X11_sentence_X8 : ∀ w ∈ wsX80, w ∈ wsX11_sentence := fun w h => List.mem_cons_of_mem _ (List.mem_append_left _ (List.mem_append_left _ (List.mem_append_left _ (List.mem_append_left _ (List.mem_append_right _ (h))))))
theorem mm_X11_said_1 : (.fieldLink RX11 43 "OffTheLead" "phrase" "LOffTheLead$Sentence;" : Cond) ∈ wsX11_said := by decide +kernel
theorem ii_X11_said_X11 : ∀ w ∈ wsX110, w ∈ wsX11_said := fun w h => List.mem_cons_of_mem _ (List.mem_append_left _ (List.mem_append_left _ (List.mem_append_left _ (List.mem_append_left _ (List.mem_append_right _ (h))))))
theorem ii_X11_said_X7 : ∀ w ∈ wsX70, w ∈ wsX11_said := fun w h => List.mem_cons_of_mem _ (List.mem_append_left _ (List.mem_append_left _ (List.mem_append_left _ (List.mem_append_right _ (h)))))
theorem mm_X11_image_1 : (.fieldLink RX11 64 "OffTheLead" "imageParks" "[LOffTheLead$Park;" : Cond) ∈ wsX11_image := by decide +kernel
theorem ii_X11_image_X11 : ∀ w ∈ wsX110, w ∈ wsX11_image := fun w h => List.mem_cons_of_mem _ (List.mem_append_left _ (List.mem_append_left _ (List.mem_append_left _ (List.mem_append_left _ (List.mem_append_right _ (h))))))
theorem mm_X11_image_2 : (.fieldLink RX11 19 "OffTheLead" "now" "LOffTheLead$Park;" : Cond) ∈ wsX11_image := by decide +kernel
theorem mm_X11_image_3 : (.fieldLink RX11 68 "OffTheLead" "imagePhrases" "[LOffTheLead$Sentence;" : Cond) ∈ wsX11_image := by decide +kernel
theorem mm_X11_image_4 : (.fieldLink RX11 43 "OffTheLead" "phrase" "LOffTheLead$Sentence;" : Cond) ∈ wsX11_image := by decide +kernel
theorem mm_X7_copyFrom_1 : (.fieldLink RX7 24 "OffTheLead$Sentence" "size" "I" : Cond) ∈ wsX7_copyFrom := by decide +kernel
theorem ii_X7_copyFrom_X7 : ∀ w ∈ wsX70, w ∈ wsX7_copyFrom := fun w h => List.mem_cons_of_mem _ (List.mem_append_right _ (h))
theorem mm_X7_copyFrom_2 : (.fieldLink RX7 28 "OffTheLead$Sentence" "ones" "I" : Cond) ∈ wsX7_copyFrom := by decide +kernel
theorem mm_X11_image_5 : (.fieldLink RX11 72 "OffTheLead" "imageKept" "[Z" : Cond) ∈ wsX11_image := by decide +kernel
theorem mm_X11_restore_1 : (.fieldLink RX11 72 "OffTheLead" "imageKept" "[Z" : Cond) ∈ wsX11_restore := by decide +kernel
theorem ii_X11_restore_X11 : ∀ w ∈ wsX110, w ∈ wsX11_restore := fun w h => List.mem_cons_of_mem _ (List.mem_append_left _ (List.mem_append_left _ (List.mem_append_left _ (List.mem_append_left _ (List.mem_append_left _ (List.mem_append_right _ (h)))))))
theorem mm_X11_count_1 : (.fieldLink RX11 19 "OffTheLead" "now" "LOffTheLead$Park;" : Cond) ∈ wsX11_count := by decide +kernel
theorem ii_X11_count_X11 : ∀ w ∈ wsX110, w ∈ wsX11_count := fun w h => List.mem_cons_of_mem _ (List.mem_append_left _ (List.mem_append_left _ (List.mem_append_right _ (h))))
theorem ii_X11_count_X4 : ∀ w ∈ wsX40, w ∈ wsX11_count := fun w h => List.mem_cons_of_mem _ (List.mem_append_left _ (List.mem_append_right _ (h)))
theorem mm_X11_count_2 : (.fieldLink RX11 10 "OffTheLead" "tape" "LOffTheLead$Tape;" : Cond) ∈ wsX11_count := by decide +kernel
theorem ii_X11_count_X8 : ∀ w ∈ wsX80, w ∈ wsX11_count := fun w h => List.mem_cons_of_mem _ (List.mem_append_right _ (h))
theorem mm_X12_init_1 : (.methodLink RX12 93 objectInit : Cond) ∈ wsX12_init := by decide +kernel
theorem mm_X12_init_2 : (.instanceMethod objectInit : Cond) ∈ wsX12_init := by decide +kernel
theorem mm_X12_init_3 : (.code objectInit ⟨#[0xb1]⟩ 1 none : Cond) ∈ wsX12_init := by decide +kernel
theorem mm_X12_init_4 : (.arrayClass .int : Cond) ∈ wsX12_init := by decide +kernel
theorem mm_X12_init_5 : (.fieldLink RX12 7 "OffTheLeadModel" "tape" "[I" : Cond) ∈ wsX12_init := by decide +kernel
theorem ii_X12_init_X12 : ∀ w ∈ wsX120, w ∈ wsX12_init := fun w h => List.mem_cons_of_mem _ (List.mem_append_right _ (h))
theorem mm_X12_init_6 : (.fieldLink RX12 98 "OffTheLeadModel" "now" "[I" : Cond) ∈ wsX12_init := by decide +kernel
theorem mm_X12_init_7 : (.fieldLink RX12 101 "OffTheLeadModel" "read" "[I" : Cond) ∈ wsX12_init := by decide +kernel
theorem mm_X12_init_8 : (.fieldLink RX12 104 "OffTheLeadModel" "kept" "[I" : Cond) ∈ wsX12_init := by decide +kernel
theorem mm_X12_init_9 : (.fieldLink RX12 107 "OffTheLeadModel" "snaps" "[I" : Cond) ∈ wsX12_init := by decide +kernel
theorem mm_X12_init_10 : (.fieldLink RX12 110 "OffTheLeadModel" "aside" "[I" : Cond) ∈ wsX12_init := by decide +kernel
theorem mm_X12_init_11 : (.arrayClass .long : Cond) ∈ wsX12_init := by decide +kernel
theorem mm_X12_init_12 : (.fieldLink RX12 113 "OffTheLeadModel" "name" "[J" : Cond) ∈ wsX12_init := by decide +kernel
theorem mm_X12_init_13 : (.fieldLink RX12 117 "OffTheLeadModel" "readName" "[J" : Cond) ∈ wsX12_init := by decide +kernel
theorem mm_X12_init_14 : (.fieldLink RX12 120 "OffTheLeadModel" "keptName" "[J" : Cond) ∈ wsX12_init := by decide +kernel
theorem mm_X12_init_15 : (.arrayClass .boolean : Cond) ∈ wsX12_init := by decide +kernel
theorem mm_X12_init_16 : (.fieldLink RX12 123 "OffTheLeadModel" "isKept" "[Z" : Cond) ∈ wsX12_init := by decide +kernel
theorem mm_X12_init_17 : (.fieldLink RX12 127 "OffTheLeadModel" "bestFrom" "I" : Cond) ∈ wsX12_init := by decide +kernel
theorem mm_X12_init_18 : (.fieldLink RX12 130 "OffTheLeadModel" "bestTo" "I" : Cond) ∈ wsX12_init := by decide +kernel
theorem mm_X12_init_19 : (.fieldLink RX12 133 "OffTheLeadModel" "parted" "[I" : Cond) ∈ wsX12_init := by decide +kernel
theorem mm_X12_init_20 : (.fieldLink RX12 136 "OffTheLeadModel" "places" "[I" : Cond) ∈ wsX12_init := by decide +kernel
theorem mm_X12_init_21 : (.fieldLink RX12 139 "OffTheLeadModel" "partedGood" "I" : Cond) ∈ wsX12_init := by decide +kernel
theorem mm_X12_init_22 : (.fieldLink RX12 142 "OffTheLeadModel" "text" "[I" : Cond) ∈ wsX12_init := by decide +kernel
theorem mm_X12_init_23 : (.fieldLink RX12 145 "OffTheLeadModel" "line" "[I" : Cond) ∈ wsX12_init := by decide +kernel
theorem mm_X12_init_24 : (.fieldLink RX12 148 "OffTheLeadModel" "written" "[I" : Cond) ∈ wsX12_init := by decide +kernel
