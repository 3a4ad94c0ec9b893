theorem mm_X11_appendName_1 : (.fieldLink RX11 86 "OffTheLead" "latestBoard" "Ljava/lang/StringBuilder;" : Cond) ∈ wsX11_appendName := by decide +kernel
theorem ii_X11_appendName_X11 : ∀ w ∈ wsX110, w ∈ wsX11_appendName := fun w h => List.mem_cons_of_mem _ (List.mem_append_left _ (List.mem_append_right _ (h)))
theorem mm_X11_byteAt_1 : (.fieldLink RX11 86 "OffTheLead" "latestBoard" "Ljava/lang/StringBuilder;" : Cond) ∈ wsX11_byteAt := by decide +kernel
theorem ii_X11_byteAt_X11 : ∀ w ∈ wsX110, w ∈ wsX11_byteAt := fun w h => List.mem_cons_of_mem _ (List.mem_append_left _ (List.mem_append_right _ (h)))
