theorem mm_X11_appendName_1 : (.fieldLink RX11 86 "OffTheLead" "latestBoard" "Ljava/lang/StringBuilder;" : Cond) ∈ wsX11_appendName := by decide +kernel
theorem ii_X11_appendName_X11 : ∀ w ∈ wsX110, w ∈ wsX11_appendName := fun w h => List.mem_cons_of_mem _ (List.mem_append_left _ (List.mem_append_right _ (h)))
theorem mm_X11_appendFree_1 : (.fieldLink RX11 86 "OffTheLead" "latestBoard" "Ljava/lang/StringBuilder;" : Cond) ∈ wsX11_appendFree := by decide +kernel
theorem ii_X11_appendFree_X11 : ∀ w ∈ wsX110, w ∈ wsX11_appendFree := fun w h => List.mem_cons_of_mem _ (List.mem_append_left _ (List.mem_append_right _ (h)))
theorem mm_X11_board_1 : (.fieldLink RX11 19 "OffTheLead" "now" "LOffTheLead$Park;" : Cond) ∈ wsX11_board := by decide +kernel
theorem ii_X11_board_X11 : ∀ w ∈ wsX110, w ∈ wsX11_board := fun w h => List.mem_cons_of_mem _ (List.mem_append_left _ (List.mem_append_left _ (List.mem_append_right _ (h))))
theorem mm_X11_board_2 : (.fieldLink RX11 86 "OffTheLead" "latestBoard" "Ljava/lang/StringBuilder;" : Cond) ∈ wsX11_board := by decide +kernel
theorem ii_X11_board_X4 : ∀ w ∈ wsX40, w ∈ wsX11_board := fun w h => List.mem_cons_of_mem _ (List.mem_append_left _ (List.mem_append_right _ (h)))
theorem mm_X11_byteAt_1 : (.fieldLink RX11 86 "OffTheLead" "latestBoard" "Ljava/lang/StringBuilder;" : Cond) ∈ wsX11_byteAt := by decide +kernel
theorem ii_X11_byteAt_X11 : ∀ w ∈ wsX110, w ∈ wsX11_byteAt := fun w h => List.mem_cons_of_mem _ (List.mem_append_left _ (List.mem_append_right _ (h)))
