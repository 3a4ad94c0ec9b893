theorem mm_X3_mark_1 : (.fieldLink RX3 11 "OffTheLead$History" "kept" "[LOffTheLead$Park;" : Cond) ∈ wsX3_mark := by decide +kernel
theorem ii_X3_mark_X3 : ∀ w ∈ wsX30, w ∈ wsX3_mark := fun w h => List.mem_cons_of_mem _ (List.mem_append_left _ (List.mem_append_left _ (List.mem_append_left _ (List.mem_append_right _ (h)))))
theorem mm_X3_mark_2 : (.fieldLink RX3 16 "OffTheLead$History" "next" "I" : Cond) ∈ wsX3_mark := by decide +kernel
theorem mm_X3_keepMarked_1 : (.fieldLink RX3 16 "OffTheLead$History" "next" "I" : Cond) ∈ wsX3_keepMarked := by decide +kernel
theorem ii_X3_keepMarked_X3 : ∀ w ∈ wsX30, w ∈ wsX3_keepMarked := fun w h => List.mem_cons_of_mem _ (List.mem_append_right _ (h))
theorem mm_X3_keepMarked_2 : (.fieldLink RX3 24 "OffTheLead$History" "size" "I" : Cond) ∈ wsX3_keepMarked := by decide +kernel
theorem mm_X3_keepMarked_3 : (.methodLink RX3 27 Lib.Math.min.name : Cond) ∈ wsX3_keepMarked := by decide +kernel
theorem mm_X3_keepMarked_4 : (.static Lib.Math.min.name : Cond) ∈ wsX3_keepMarked := by decide +kernel
theorem mm_X3_keepMarked_5 : (.initialized "java/lang/Math" : Cond) ∈ wsX3_keepMarked := by decide +kernel
theorem mm_X3_keepMarked_6 : (.code Lib.Math.min.name Lib.Math.min.code 2 (some .int) : Cond) ∈ wsX3_keepMarked := by decide +kernel
theorem mm_X3_takeBack_1 : (.fieldLink RX3 24 "OffTheLead$History" "size" "I" : Cond) ∈ wsX3_takeBack := by decide +kernel
theorem ii_X3_takeBack_X3 : ∀ w ∈ wsX30, w ∈ wsX3_takeBack := fun w h => List.mem_cons_of_mem _ (List.mem_append_left _ (List.mem_append_left _ (List.mem_append_left _ (List.mem_append_right _ (h)))))
theorem mm_X3_takeBack_2 : (.fieldLink RX3 16 "OffTheLead$History" "next" "I" : Cond) ∈ wsX3_takeBack := by decide +kernel
theorem mm_X3_takeBack_3 : (.fieldLink RX3 11 "OffTheLead$History" "kept" "[LOffTheLead$Park;" : Cond) ∈ wsX3_takeBack := by decide +kernel
theorem mm_X3_forget_1 : (.fieldLink RX3 24 "OffTheLead$History" "size" "I" : Cond) ∈ wsX3_forget := by decide +kernel
theorem ii_X3_forget_X3 : ∀ w ∈ wsX30, w ∈ wsX3_forget := fun w h => List.mem_cons_of_mem _ (List.mem_append_right _ (h))
theorem mm_X11_closeTape_1 : (.fieldLink RX11 10 "OffTheLead" "tape" "LOffTheLead$Tape;" : Cond) ∈ wsX11_closeTape := by decide +kernel
theorem ii_X11_closeTape_X11 : ∀ w ∈ wsX110, w ∈ wsX11_closeTape := fun w h => List.mem_cons_of_mem _ (List.mem_append_left _ (List.mem_append_right _ (h)))
theorem ii_X11_closeTape_X8 : ∀ w ∈ wsX80, w ∈ wsX11_closeTape := fun w h => List.mem_cons_of_mem _ (List.mem_append_right _ (h))
theorem mm_X11_closeTape_2 : (.fieldLink RX11 117 "OffTheLead" "latestFault" "I" : Cond) ∈ wsX11_closeTape := by decide +kernel
theorem mm_X11_keepIfDone_1 : (.fieldLink RX11 60 "OffTheLead" "history" "LOffTheLead$History;" : Cond) ∈ wsX11_keepIfDone := by decide +kernel
theorem ii_X11_keepIfDone_X11 : ∀ w ∈ wsX110, w ∈ wsX11_keepIfDone := fun w h => List.mem_cons_of_mem _ (List.mem_append_left _ (List.mem_append_right _ (h)))
