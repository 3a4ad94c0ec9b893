theorem mm_X11_person_3 : (.fieldLink RX11 19 "OffTheLead" "now" "LOffTheLead$Park;" : Cond) ∈ wsX11_person := by decide +kernel
theorem ii_X11_person_X11 : ∀ w ∈ wsX110, w ∈ wsX11_person := fun w h => List.mem_cons_of_mem _ (List.mem_append_left _ (List.mem_append_left _ (List.mem_append_left _ (List.mem_append_left _ (List.mem_append_right _ (h))))))
theorem ii_X11_person_X4 : ∀ w ∈ wsX40, w ∈ wsX11_person := fun w h => List.mem_cons_of_mem _ (List.mem_append_left _ (List.mem_append_left _ (List.mem_append_left _ (List.mem_append_right _ (h)))))
theorem ii_X11_person_X6 : ∀ w ∈ wsX60, w ∈ wsX11_person := fun w h => List.mem_cons_of_mem _ (List.mem_append_left _ (List.mem_append_left _ (List.mem_append_right _ (h))))
theorem vg_X11_person : ∀ w ∈ (vx_at0 RX11 139 "java/util/NoSuchElementException" ["java/lang/RuntimeException", "java/lang/Exception"]).filter goodWord, w ∈ wsX11_person := fun w h => List.mem_cons_of_mem _ (List.mem_append_right _ (h))
theorem mm_X11_person_1 : (.classLink RX11 137 "java/util/NoSuchElementException" : Cond) ∈ wsX11_person := by decide +kernel
theorem mm_X11_person_2 : (.initialized "java/util/NoSuchElementException" : Cond) ∈ wsX11_person := by decide +kernel
theorem mm_L_person_1 : (.classLink RL 13 "java/util/NoSuchElementException" : Cond) ∈ wsL_person := by decide +kernel
theorem mm_X11_dog_3 : (.fieldLink RX11 19 "OffTheLead" "now" "LOffTheLead$Park;" : Cond) ∈ wsX11_dog := by decide +kernel
theorem ii_X11_dog_X11 : ∀ w ∈ wsX110, w ∈ wsX11_dog := fun w h => List.mem_cons_of_mem _ (List.mem_append_left _ (List.mem_append_left _ (List.mem_append_left _ (List.mem_append_right _ (h)))))
theorem ii_X11_dog_X4 : ∀ w ∈ wsX40, w ∈ wsX11_dog := fun w h => List.mem_cons_of_mem _ (List.mem_append_left _ (List.mem_append_left _ (List.mem_append_right _ (h))))
theorem ii_X11_dog_X2 : ∀ w ∈ wsX20, w ∈ wsX11_dog := fun w h => List.mem_cons_of_mem _ (List.mem_append_left _ (List.mem_append_right _ (h)))
theorem vg_X11_dog : ∀ w ∈ (vx_at0 RX11 139 "java/util/NoSuchElementException" ["java/lang/RuntimeException", "java/lang/Exception"]).filter goodWord, w ∈ wsX11_dog := fun w h => List.mem_cons_of_mem _ (List.mem_append_right _ (h))
theorem mm_X11_dog_1 : (.classLink RX11 137 "java/util/NoSuchElementException" : Cond) ∈ wsX11_dog := by decide +kernel
theorem mm_X11_dog_2 : (.initialized "java/util/NoSuchElementException" : Cond) ∈ wsX11_dog := by decide +kernel
theorem mm_L_dog_1 : (.classLink RL 13 "java/util/NoSuchElementException" : Cond) ∈ wsL_dog := by decide +kernel
theorem mm_X11_risk_3 : (.fieldLink RX11 19 "OffTheLead" "now" "LOffTheLead$Park;" : Cond) ∈ wsX11_risk := by decide +kernel
theorem ii_X11_risk_X11 : ∀ w ∈ wsX110, w ∈ wsX11_risk := fun w h => List.mem_cons_of_mem _ (List.mem_append_left _ (List.mem_append_left _ (List.mem_append_left _ (List.mem_append_left _ (List.mem_append_right _ (h))))))
theorem ii_X11_risk_X4 : ∀ w ∈ wsX40, w ∈ wsX11_risk := fun w h => List.mem_cons_of_mem _ (List.mem_append_left _ (List.mem_append_left _ (List.mem_append_left _ (List.mem_append_right _ (h)))))
theorem ii_X11_risk_X6 : ∀ w ∈ wsX60, w ∈ wsX11_risk := fun w h => List.mem_cons_of_mem _ (List.mem_append_left _ (List.mem_append_left _ (List.mem_append_right _ (h))))
theorem vg_X11_risk : ∀ w ∈ (vx_at0 RX11 139 "java/util/NoSuchElementException" ["java/lang/RuntimeException", "java/lang/Exception"]).filter goodWord, w ∈ wsX11_risk := fun w h => List.mem_cons_of_mem _ (List.mem_append_right _ (h))
theorem mm_X11_risk_1 : (.classLink RX11 137 "java/util/NoSuchElementException" : Cond) ∈ wsX11_risk := by decide +kernel
theorem mm_X11_risk_2 : (.initialized "java/util/NoSuchElementException" : Cond) ∈ wsX11_risk := by decide +kernel
theorem mm_L_risk_1 : (.classLink RL 13 "java/util/NoSuchElementException" : Cond) ∈ wsL_risk := by decide +kernel
