theorem mm_J5_isLatin1_aae02_1 : (.fieldLink RJ5 18 "java/lang/String" "COMPACT_STRINGS" "Z" : Cond) ∈ wsJ5_isLatin1_aae02 := by decide +kernel
theorem mm_J5_isLatin1_aae02_2 : (.fieldLink RJ5 22 "java/lang/AbstractStringBuilder" "coder" "B" : Cond) ∈ wsJ5_isLatin1_aae02 := by decide +kernel
theorem ii_J5_isLatin1_aae02_J4 : ∀ w ∈ wsJ40, w ∈ wsJ5_isLatin1_aae02 := fun w h => List.mem_cons_of_mem _ (List.mem_append_right _ (h))
theorem mm_J5_length_8abf5_1 : (.fieldLink RJ5 79 "java/lang/AbstractStringBuilder" "count" "I" : Cond) ∈ wsJ5_length_8abf5 := by decide +kernel
theorem ii_J5_length_8abf5_J4 : ∀ w ∈ wsJ40, w ∈ wsJ5_length_8abf5 := fun w h => List.mem_cons_of_mem _ (List.mem_append_right _ (h))
theorem mm_J5_charAt_5068e_1 : (.fieldLink RJ5 22 "java/lang/AbstractStringBuilder" "coder" "B" : Cond) ∈ wsJ5_charAt_5068e := by decide +kernel
theorem ii_J5_charAt_5068e_J4 : ∀ w ∈ wsJ40, w ∈ wsJ5_charAt_5068e := fun w h => List.mem_cons_of_mem _ (List.mem_append_right _ (h))
theorem mm_J5_charAt_5068e_2 : (.fieldLink RJ5 15 "java/lang/AbstractStringBuilder" "value" "[B" : Cond) ∈ wsJ5_charAt_5068e := by decide +kernel
theorem mm_J5_charAt_5068e_3 : (.fieldLink RJ5 79 "java/lang/AbstractStringBuilder" "count" "I" : Cond) ∈ wsJ5_charAt_5068e := by decide +kernel
theorem mm_J5_charAt_5068e_4 : (.methodLink RJ5 138 Lib.Math.min.name : Cond) ∈ wsJ5_charAt_5068e := by decide +kernel
theorem mm_J5_charAt_5068e_5 : (.static Lib.Math.min.name : Cond) ∈ wsJ5_charAt_5068e := by decide +kernel
theorem mm_J5_charAt_5068e_6 : (.initialized "java/lang/Math" : Cond) ∈ wsJ5_charAt_5068e := by decide +kernel
theorem mm_J5_charAt_5068e_7 : (.code Lib.Math.min.name Lib.Math.min.code 2 (some .int) : Cond) ∈ wsJ5_charAt_5068e := by decide +kernel
theorem mm_J5_ensureCapacityInternal_d00df_1 : (.fieldLink RJ5 15 "java/lang/AbstractStringBuilder" "value" "[B" : Cond) ∈ wsJ5_ensureCapacityInternal_d00df := by decide +kernel
theorem ii_J5_ensureCapacityInternal_d00df_J4 : ∀ w ∈ wsJ40, w ∈ wsJ5_ensureCapacityInternal_d00df := fun w h => List.mem_cons_of_mem _ (List.mem_append_right _ (h))
theorem mm_J5_ensureCapacityInternal_d00df_2 : (.fieldLink RJ5 22 "java/lang/AbstractStringBuilder" "coder" "B" : Cond) ∈ wsJ5_ensureCapacityInternal_d00df := by decide +kernel
theorem mm_J5_setLength_d00df_1 : (.fieldLink RJ5 79 "java/lang/AbstractStringBuilder" "count" "I" : Cond) ∈ wsJ5_setLength_d00df := by decide +kernel
theorem ii_J5_setLength_d00df_J4 : ∀ w ∈ wsJ40, w ∈ wsJ5_setLength_d00df := fun w h => List.mem_cons_of_mem _ (List.mem_append_right _ (h))
theorem mm_J5_setLength_d00df_3 : (.fieldLink RJ5 73 "java/lang/AbstractStringBuilder" "maybeLatin1" "Z" : Cond) ∈ wsJ5_setLength_d00df := by decide +kernel
theorem mm_J5_append_3fe6f_1 : (.fieldLink RJ5 79 "java/lang/AbstractStringBuilder" "count" "I" : Cond) ∈ wsJ5_append_3fe6f := by decide +kernel
theorem ii_J5_append_3fe6f_J4 : ∀ w ∈ wsJ40, w ∈ wsJ5_append_3fe6f := fun w h => List.mem_cons_of_mem _ (List.mem_append_right _ (h))
theorem mm_J5_append_3fe6f_2 : (.fieldLink RJ5 15 "java/lang/AbstractStringBuilder" "value" "[B" : Cond) ∈ wsJ5_append_3fe6f := by decide +kernel
theorem mm_J8_newLength_cabcc_1 : (.methodLink RJ8 194 Lib.Math.max.name : Cond) ∈ wsJ8_newLength_cabcc := by decide +kernel
theorem mm_J8_newLength_cabcc_2 : (.static Lib.Math.max.name : Cond) ∈ wsJ8_newLength_cabcc := by decide +kernel
theorem mm_J8_newLength_cabcc_3 : (.initialized "java/lang/Math" : Cond) ∈ wsJ8_newLength_cabcc := by decide +kernel
theorem mm_J8_newLength_cabcc_4 : (.code Lib.Math.max.name Lib.Math.max.code 2 (some .int) : Cond) ∈ wsJ8_newLength_cabcc := by decide +kernel
theorem mm_J8_newLength_cabcc_5 : (.constant RJ8 200 (2147483639) : Cond) ∈ wsJ8_newLength_cabcc := by decide +kernel
theorem mm_J5_newCapacity_0f7a4_1 : (.fieldLink RJ5 15 "java/lang/AbstractStringBuilder" "value" "[B" : Cond) ∈ wsJ5_newCapacity_0f7a4 := by decide +kernel
theorem ii_J5_newCapacity_0f7a4_J4 : ∀ w ∈ wsJ40, w ∈ wsJ5_newCapacity_0f7a4 := fun w h => List.mem_cons_of_mem _ (List.mem_append_right _ (h))
theorem mm_J5_newCapacity_0f7a4_2 : (.fieldLink RJ5 22 "java/lang/AbstractStringBuilder" "coder" "B" : Cond) ∈ wsJ5_newCapacity_0f7a4 := by decide +kernel
theorem mm_J5_newCapacity_0f7a4_3 : (.constant RJ5 39 (2147483647) : Cond) ∈ wsJ5_newCapacity_0f7a4 := by decide +kernel
theorem mm_J0_getBytes_840e7_1 : (.fieldLink RJ0 9 "java/lang/String" "value" "[B" : Cond) ∈ wsJ0_getBytes_840e7 := by decide +kernel
theorem mm_J0_getBytes_840e7_2 : (.methodLink RJ0 212 arraycopyName : Cond) ∈ wsJ0_getBytes_840e7 := by decide +kernel
theorem mm_J0_getBytes_840e7_3 : (.native arraycopyName : Cond) ∈ wsJ0_getBytes_840e7 := by decide +kernel
theorem mm_J0_getBytes_840e7_4 : (.static arraycopyName : Cond) ∈ wsJ0_getBytes_840e7 := by decide +kernel
theorem mm_J0_getBytes_840e7_5 : (.initialized "java/lang/System" : Cond) ∈ wsJ0_getBytes_840e7 := by decide +kernel
theorem mm_J5_inflateIfNeededFor_a7421_1 : (.fieldLink RJ5 18 "java/lang/String" "COMPACT_STRINGS" "Z" : Cond) ∈ wsJ5_inflateIfNeededFor_a7421 := by decide +kernel
theorem mm_J5_inflateIfNeededFor_a7421_2 : (.fieldLink RJ5 22 "java/lang/AbstractStringBuilder" "coder" "B" : Cond) ∈ wsJ5_inflateIfNeededFor_a7421 := by decide +kernel
theorem ii_J5_inflateIfNeededFor_a7421_J4 : ∀ w ∈ wsJ40, w ∈ wsJ5_inflateIfNeededFor_a7421 := fun w h => List.mem_cons_of_mem _ (List.mem_append_right _ (h))
theorem mm_J5_putStringAt_47b60_1 : (.fieldLink RJ5 15 "java/lang/AbstractStringBuilder" "value" "[B" : Cond) ∈ wsJ5_putStringAt_47b60 := by decide +kernel
theorem ii_J5_putStringAt_47b60_J4 : ∀ w ∈ wsJ40, w ∈ wsJ5_putStringAt_47b60 := fun w h => List.mem_cons_of_mem _ (List.mem_append_right _ (h))
theorem mm_J5_putStringAt_47b60_2 : (.fieldLink RJ5 22 "java/lang/AbstractStringBuilder" "coder" "B" : Cond) ∈ wsJ5_putStringAt_47b60 := by decide +kernel
theorem mm_J5_append_cf1ce_1 : (.fieldLink RJ5 79 "java/lang/AbstractStringBuilder" "count" "I" : Cond) ∈ wsJ5_append_cf1ce := by decide +kernel
theorem ii_J5_append_cf1ce_J4 : ∀ w ∈ wsJ40, w ∈ wsJ5_append_cf1ce := fun w h => List.mem_cons_of_mem _ (List.mem_append_right _ (h))
theorem mm_J6_getChars_ba4f3_1 : (.fieldLink RJ6 83 "java/lang/Integer" "DigitOnes" "[B" : Cond) ∈ wsJ6_getChars_ba4f3 := by decide +kernel
theorem mm_J6_getChars_ba4f3_2 : (.fieldLink RJ6 87 "java/lang/Integer" "DigitTens" "[B" : Cond) ∈ wsJ6_getChars_ba4f3 := by decide +kernel
theorem mm_J5_append_c97b9_1 : (.fieldLink RJ5 79 "java/lang/AbstractStringBuilder" "count" "I" : Cond) ∈ wsJ5_append_c97b9 := by decide +kernel
theorem ii_J5_append_c97b9_J4 : ∀ w ∈ wsJ40, w ∈ wsJ5_append_c97b9 := fun w h => List.mem_cons_of_mem _ (List.mem_append_right _ (h))
theorem mm_J5_append_c97b9_2 : (.fieldLink RJ5 15 "java/lang/AbstractStringBuilder" "value" "[B" : Cond) ∈ wsJ5_append_c97b9 := by decide +kernel
