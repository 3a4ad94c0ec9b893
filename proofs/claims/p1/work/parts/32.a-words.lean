theorem mm_X11_person_3 : (.fieldLink RX11 19 "OffTheLead" "now" "LOffTheLead$Park;" : Cond) ∈ wsX11_person := by decide +kernel
theorem ii_X11_person_X11 : ∀ w ∈ wsX110, w ∈ wsX11_person := fun w h => List.mem_cons_of_mem _ (List.mem_append_left _ (List.mem_append_left _ (List.mem_append_left _ (List.mem_append_left _ (List.mem_append_right _ (h))))))
theorem vg_X11_person : ∀ w ∈ (vx_at0 RX11 139 "java/util/NoSuchElementException" ["java/lang/RuntimeException", "java/lang/Exception"]).filter goodWord, w ∈ wsX11_person := fun w h => List.mem_cons_of_mem _ (List.mem_append_right _ (h))
theorem mm_X11_person_1 : (.classLink RX11 137 "java/util/NoSuchElementException" : Cond) ∈ wsX11_person := by decide +kernel
theorem mm_X11_person_2 : (.initialized "java/util/NoSuchElementException" : Cond) ∈ wsX11_person := by decide +kernel
theorem mm_L_person_1 : (.classLink RL 13 "java/util/NoSuchElementException" : Cond) ∈ wsL_person := by decide +kernel
theorem mm_X11_dog_3 : (.fieldLink RX11 19 "OffTheLead" "now" "LOffTheLead$Park;" : Cond) ∈ wsX11_dog := by decide +kernel
theorem ii_X11_dog_X11 : ∀ w ∈ wsX110, w ∈ wsX11_dog := fun w h => List.mem_cons_of_mem _ (List.mem_append_left _ (List.mem_append_left _ (List.mem_append_left _ (List.mem_append_right _ (h)))))
theorem vg_X11_dog : ∀ w ∈ (vx_at0 RX11 139 "java/util/NoSuchElementException" ["java/lang/RuntimeException", "java/lang/Exception"]).filter goodWord, w ∈ wsX11_dog := fun w h => List.mem_cons_of_mem _ (List.mem_append_right _ (h))
theorem mm_X11_dog_1 : (.classLink RX11 137 "java/util/NoSuchElementException" : Cond) ∈ wsX11_dog := by decide +kernel
theorem mm_X11_dog_2 : (.initialized "java/util/NoSuchElementException" : Cond) ∈ wsX11_dog := by decide +kernel
theorem mm_L_dog_1 : (.classLink RL 13 "java/util/NoSuchElementException" : Cond) ∈ wsL_dog := by decide +kernel
theorem mm_X11_risk_3 : (.fieldLink RX11 19 "OffTheLead" "now" "LOffTheLead$Park;" : Cond) ∈ wsX11_risk := by decide +kernel
theorem ii_X11_risk_X11 : ∀ w ∈ wsX110, w ∈ wsX11_risk := fun w h => List.mem_cons_of_mem _ (List.mem_append_left _ (List.mem_append_left _ (List.mem_append_left _ (List.mem_append_left _ (List.mem_append_right _ (h))))))
theorem vg_X11_risk : ∀ w ∈ (vx_at0 RX11 139 "java/util/NoSuchElementException" ["java/lang/RuntimeException", "java/lang/Exception"]).filter goodWord, w ∈ wsX11_risk := fun w h => List.mem_cons_of_mem _ (List.mem_append_right _ (h))
theorem mm_X11_risk_1 : (.classLink RX11 137 "java/util/NoSuchElementException" : Cond) ∈ wsX11_risk := by decide +kernel
theorem mm_X11_risk_2 : (.initialized "java/util/NoSuchElementException" : Cond) ∈ wsX11_risk := by decide +kernel
theorem mm_L_risk_1 : (.classLink RL 13 "java/util/NoSuchElementException" : Cond) ∈ wsL_risk := by decide +kernel
theorem mm_X12_person_1 : (.fieldLink RX12 1 "OffTheLeadModel" "thrown" "I" : Cond) ∈ wsX12_person := by decide +kernel
theorem ii_X12_person_X12 : ∀ w ∈ wsX120, w ∈ wsX12_person := fun w h => List.mem_cons_of_mem _ (List.mem_append_right _ (h))
theorem mm_X12_refuse_1 : (.fieldLink RX12 1 "OffTheLeadModel" "thrown" "I" : Cond) ∈ wsX12_refuse := by decide +kernel
theorem ii_X12_refuse_X12 : ∀ w ∈ wsX120, w ∈ wsX12_refuse := fun w h => List.mem_cons_of_mem _ (List.mem_append_right _ (h))
theorem mm_X12_dog_1 : (.fieldLink RX12 1 "OffTheLeadModel" "thrown" "I" : Cond) ∈ wsX12_dog := by decide +kernel
theorem ii_X12_dog_X12 : ∀ w ∈ wsX120, w ∈ wsX12_dog := fun w h => List.mem_cons_of_mem _ (List.mem_append_right _ (h))
theorem mm_X12_risk_1 : (.fieldLink RX12 1 "OffTheLeadModel" "thrown" "I" : Cond) ∈ wsX12_risk := by decide +kernel
theorem ii_X12_risk_X12 : ∀ w ∈ wsX120, w ∈ wsX12_risk := fun w h => List.mem_cons_of_mem _ (List.mem_append_right _ (h))
theorem mm_L_law_0 : (.classLink RL 8 RX11 : Cond) ∈ wsL_law := by decide +kernel
theorem mm_L_law_1 : (.instantiable RX11 19 : Cond) ∈ wsL_law := by decide +kernel
theorem mm_L_law_2 : (.initialized RX11 : Cond) ∈ wsL_law := by decide +kernel
theorem mm_L_law_7 : (.methodLink RL 22 yX11_init : Cond) ∈ wsL_law := by decide +kernel
theorem mm_L_law_8 : (.instanceMethod yX11_init : Cond) ∈ wsL_law := by decide +kernel
theorem mm_L_law_3 : (.classLink RL 23 RX12 : Cond) ∈ wsL_law := by decide +kernel
theorem mm_L_law_4 : (.instantiable RX12 47 : Cond) ∈ wsL_law := by decide +kernel
theorem mm_L_law_5 : (.initialized RX12 : Cond) ∈ wsL_law := by decide +kernel
theorem mm_L_law_134 : (.methodLink RL 25 yX12_init : Cond) ∈ wsL_law := by decide +kernel
theorem mm_L_law_135 : (.instanceMethod yX12_init : Cond) ∈ wsL_law := by decide +kernel
theorem mm_L_law_6 : (.arrayClass .long : Cond) ∈ wsL_law := by decide +kernel
