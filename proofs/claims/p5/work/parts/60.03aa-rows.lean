theorem dJ0_coder_7d493_0 : decode cJ0_coder_7d493 0 = .ok (.getstatic 38, 3) := by decide +kernel
theorem dJ0_coder_7d493_3 : decode cJ0_coder_7d493 3 = .ok (.ifCond .eq 10, 3) := by decide +kernel
theorem dJ0_coder_7d493_6 : decode cJ0_coder_7d493 6 = .ok (.aload_n 0, 1) := by decide +kernel
theorem dJ0_coder_7d493_7 : decode cJ0_coder_7d493 7 = .ok (.getfield 15, 3) := by decide +kernel
theorem dJ0_coder_7d493_10 : decode cJ0_coder_7d493 10 = .ok (.goto 4, 3) := by decide +kernel
theorem dJ0_coder_7d493_14 : decode cJ0_coder_7d493 14 = .ok (.ireturn, 1) := by decide +kernel
theorem dJ0_isLatin1_aae02_0 : decode cJ0_isLatin1_aae02 0 = .ok (.getstatic 38, 3) := by decide +kernel
theorem dJ0_isLatin1_aae02_3 : decode cJ0_isLatin1_aae02 3 = .ok (.ifCond .eq 14, 3) := by decide +kernel
theorem dJ0_isLatin1_aae02_6 : decode cJ0_isLatin1_aae02 6 = .ok (.aload_n 0, 1) := by decide +kernel
theorem dJ0_isLatin1_aae02_7 : decode cJ0_isLatin1_aae02 7 = .ok (.getfield 15, 3) := by decide +kernel
theorem dJ0_isLatin1_aae02_10 : decode cJ0_isLatin1_aae02 10 = .ok (.ifCond .ne 7, 3) := by decide +kernel
theorem dJ0_isLatin1_aae02_13 : decode cJ0_isLatin1_aae02 13 = .ok (.iconst 1, 1) := by decide +kernel
theorem dJ0_isLatin1_aae02_14 : decode cJ0_isLatin1_aae02 14 = .ok (.goto 4, 3) := by decide +kernel
theorem dJ0_isLatin1_aae02_18 : decode cJ0_isLatin1_aae02 18 = .ok (.ireturn, 1) := by decide +kernel
theorem dJ0_length_8abf5_0 : decode cJ0_length_8abf5 0 = .ok (.aload_n 0, 1) := by decide +kernel
theorem dJ0_length_8abf5_1 : decode cJ0_length_8abf5 1 = .ok (.getfield 9, 3) := by decide +kernel
theorem dJ0_length_8abf5_4 : decode cJ0_length_8abf5 4 = .ok (.arraylength, 1) := by decide +kernel
theorem dJ0_length_8abf5_5 : decode cJ0_length_8abf5 5 = .ok (.aload_n 0, 1) := by decide +kernel
theorem dJ0_length_8abf5_6 : decode cJ0_length_8abf5 6 = .ok (.invokevirtual 335, 3) := by decide +kernel
theorem dJ0_length_8abf5_9 : decode cJ0_length_8abf5 9 = .ok (.ishr, 1) := by decide +kernel
theorem dJ0_length_8abf5_10 : decode cJ0_length_8abf5 10 = .ok (.ireturn, 1) := by decide +kernel
theorem dJ3_checkIndex_8e157_0 : decode cJ3_checkIndex_8e157 0 = .ok (.iload_n 0, 1) := by decide +kernel
theorem dJ3_checkIndex_8e157_1 : decode cJ3_checkIndex_8e157 1 = .ok (.ifCond .lt 8, 3) := by decide +kernel
theorem dJ3_checkIndex_8e157_4 : decode cJ3_checkIndex_8e157 4 = .ok (.iload_n 0, 1) := by decide +kernel
theorem dJ3_checkIndex_8e157_5 : decode cJ3_checkIndex_8e157 5 = .ok (.iload_n 1, 1) := by decide +kernel
theorem dJ3_checkIndex_8e157_6 : decode cJ3_checkIndex_8e157 6 = .ok (.if_icmp .lt 10, 3) := by decide +kernel
theorem dJ3_checkIndex_8e157_16 : decode cJ3_checkIndex_8e157 16 = .ok (.iload_n 0, 1) := by decide +kernel
theorem dJ3_checkIndex_8e157_17 : decode cJ3_checkIndex_8e157 17 = .ok (.ireturn, 1) := by decide +kernel
theorem dJ0_checkIndex_df160_0 : decode cJ0_checkIndex_df160 0 = .ok (.iload_n 0, 1) := by decide +kernel
theorem dJ0_checkIndex_df160_1 : decode cJ0_checkIndex_df160 1 = .ok (.iload_n 1, 1) := by decide +kernel
theorem dJ0_checkIndex_df160_2 : decode cJ0_checkIndex_df160 2 = .ok (.getstatic 1053, 3) := by decide +kernel
theorem dJ0_checkIndex_df160_5 : decode cJ0_checkIndex_df160 5 = .ok (.invokestatic 1059, 3) := by decide +kernel
theorem dJ0_checkIndex_df160_8 : decode cJ0_checkIndex_df160 8 = .ok (.pop, 1) := by decide +kernel
theorem dJ0_checkIndex_df160_9 : decode cJ0_checkIndex_df160 9 = .ok (.return_, 1) := by decide +kernel
theorem dJ1_charAt_3b067_0 : decode cJ1_charAt_3b067 0 = .ok (.iload_n 1, 1) := by decide +kernel
theorem dJ1_charAt_3b067_1 : decode cJ1_charAt_3b067 1 = .ok (.aload_n 0, 1) := by decide +kernel
theorem dJ1_charAt_3b067_2 : decode cJ1_charAt_3b067 2 = .ok (.arraylength, 1) := by decide +kernel
theorem dJ1_charAt_3b067_3 : decode cJ1_charAt_3b067 3 = .ok (.invokestatic 9, 3) := by decide +kernel
theorem dJ1_charAt_3b067_6 : decode cJ1_charAt_3b067 6 = .ok (.aload_n 0, 1) := by decide +kernel
theorem dJ1_charAt_3b067_7 : decode cJ1_charAt_3b067 7 = .ok (.iload_n 1, 1) := by decide +kernel
theorem dJ1_charAt_3b067_8 : decode cJ1_charAt_3b067 8 = .ok (.baload, 1) := by decide +kernel
theorem dJ1_charAt_3b067_9 : decode cJ1_charAt_3b067 9 = .ok (.sipush 255, 3) := by decide +kernel
theorem dJ1_charAt_3b067_12 : decode cJ1_charAt_3b067 12 = .ok (.iand, 1) := by decide +kernel
theorem dJ1_charAt_3b067_13 : decode cJ1_charAt_3b067 13 = .ok (.i2c, 1) := by decide +kernel
theorem dJ1_charAt_3b067_14 : decode cJ1_charAt_3b067 14 = .ok (.ireturn, 1) := by decide +kernel
theorem dJ0_charAt_5068e_0 : decode cJ0_charAt_5068e 0 = .ok (.aload_n 0, 1) := by decide +kernel
theorem dJ0_charAt_5068e_1 : decode cJ0_charAt_5068e 1 = .ok (.invokevirtual 492, 3) := by decide +kernel
theorem dJ0_charAt_5068e_4 : decode cJ0_charAt_5068e 4 = .ok (.ifCond .eq 12, 3) := by decide +kernel
theorem dJ0_charAt_5068e_7 : decode cJ0_charAt_5068e 7 = .ok (.aload_n 0, 1) := by decide +kernel
theorem dJ0_charAt_5068e_8 : decode cJ0_charAt_5068e 8 = .ok (.getfield 9, 3) := by decide +kernel
theorem dJ0_charAt_5068e_11 : decode cJ0_charAt_5068e 11 = .ok (.iload_n 1, 1) := by decide +kernel
theorem dJ0_charAt_5068e_12 : decode cJ0_charAt_5068e 12 = .ok (.invokestatic 495, 3) := by decide +kernel
theorem dJ0_charAt_5068e_15 : decode cJ0_charAt_5068e 15 = .ok (.ireturn, 1) := by decide +kernel
theorem dX10_of_0 : decode cX10_of 0 = .ok (.iconst 0, 1) := by decide +kernel
theorem dX10_of_1 : decode cX10_of 1 = .ok (.istore_n 3, 1) := by decide +kernel
theorem dX10_of_2 : decode cX10_of 2 = .ok (.iload_n 3, 1) := by decide +kernel
theorem dX10_of_3 : decode cX10_of 3 = .ok (.getstatic 105, 3) := by decide +kernel
theorem dX10_of_6 : decode cX10_of 6 = .ok (.arraylength, 1) := by decide +kernel
theorem dX10_of_7 : decode cX10_of 7 = .ok (.if_icmp .ge 86, 3) := by decide +kernel
theorem dX10_of_93 : decode cX10_of 93 = .ok (.getstatic 76, 3) := by decide +kernel
theorem dX10_of_96 : decode cX10_of 96 = .ok (.areturn, 1) := by decide +kernel
theorem dX10_of_10 : decode cX10_of 10 = .ok (.getstatic 105, 3) := by decide +kernel
theorem dX10_of_13 : decode cX10_of 13 = .ok (.iload_n 3, 1) := by decide +kernel
theorem dX10_of_14 : decode cX10_of 14 = .ok (.aaload, 1) := by decide +kernel
theorem dX10_of_15 : decode cX10_of 15 = .ok (.getfield 101, 3) := by decide +kernel
theorem dX10_of_18 : decode cX10_of 18 = .ok (.astore 4, 2) := by decide +kernel
theorem dX10_of_20 : decode cX10_of 20 = .ok (.iconst 0, 1) := by decide +kernel
theorem dX10_of_21 : decode cX10_of 21 = .ok (.istore 5, 2) := by decide +kernel
theorem dX10_of_23 : decode cX10_of 23 = .ok (.iload 5, 2) := by decide +kernel
theorem dX10_of_25 : decode cX10_of 25 = .ok (.aload 4, 2) := by decide +kernel
theorem dX10_of_27 : decode cX10_of 27 = .ok (.invokevirtual 108, 3) := by decide +kernel
theorem dX10_of_30 : decode cX10_of 30 = .ok (.if_icmp .ge 33, 3) := by decide +kernel
theorem dX10_of_63 : decode cX10_of 63 = .ok (.iload 5, 2) := by decide +kernel
theorem dX10_of_65 : decode cX10_of 65 = .ok (.iload_n 2, 1) := by decide +kernel
theorem dX10_of_66 : decode cX10_of 66 = .ok (.iload_n 1, 1) := by decide +kernel
theorem dX10_of_67 : decode cX10_of 67 = .ok (.isub, 1) := by decide +kernel
theorem dX10_of_68 : decode cX10_of 68 = .ok (.if_icmp .ne 19, 3) := by decide +kernel
theorem dX10_of_87 : decode cX10_of 87 = .ok (.iinc 3 1, 3) := by decide +kernel
theorem dX10_of_90 : decode cX10_of 90 = .ok (.goto (-88), 3) := by decide +kernel
theorem dX10_of_71 : decode cX10_of 71 = .ok (.iload 5, 2) := by decide +kernel
theorem dX10_of_73 : decode cX10_of 73 = .ok (.aload 4, 2) := by decide +kernel
theorem dX10_of_75 : decode cX10_of 75 = .ok (.invokevirtual 108, 3) := by decide +kernel
theorem dX10_of_78 : decode cX10_of 78 = .ok (.if_icmp .ne 9, 3) := by decide +kernel
theorem dX10_of_81 : decode cX10_of 81 = .ok (.getstatic 105, 3) := by decide +kernel
theorem dX10_of_84 : decode cX10_of 84 = .ok (.iload_n 3, 1) := by decide +kernel
theorem dX10_of_85 : decode cX10_of 85 = .ok (.aaload, 1) := by decide +kernel
theorem dX10_of_86 : decode cX10_of 86 = .ok (.areturn, 1) := by decide +kernel
theorem dX10_of_33 : decode cX10_of 33 = .ok (.iload_n 1, 1) := by decide +kernel
theorem dX10_of_34 : decode cX10_of 34 = .ok (.iload 5, 2) := by decide +kernel
theorem dX10_of_36 : decode cX10_of 36 = .ok (.iadd, 1) := by decide +kernel
theorem dX10_of_37 : decode cX10_of 37 = .ok (.iload_n 2, 1) := by decide +kernel
theorem dX10_of_38 : decode cX10_of 38 = .ok (.if_icmp .ge 25, 3) := by decide +kernel
theorem dX10_of_41 : decode cX10_of 41 = .ok (.aload 4, 2) := by decide +kernel
theorem dX10_of_43 : decode cX10_of 43 = .ok (.iload 5, 2) := by decide +kernel
theorem dX10_of_45 : decode cX10_of 45 = .ok (.invokevirtual 114, 3) := by decide +kernel
theorem dX10_of_48 : decode cX10_of 48 = .ok (.aload_n 0, 1) := by decide +kernel
theorem dX10_of_49 : decode cX10_of 49 = .ok (.iload_n 1, 1) := by decide +kernel
theorem dX10_of_50 : decode cX10_of 50 = .ok (.iload 5, 2) := by decide +kernel
theorem dX10_of_52 : decode cX10_of 52 = .ok (.iadd, 1) := by decide +kernel
theorem dX10_of_53 : decode cX10_of 53 = .ok (.baload, 1) := by decide +kernel
theorem dX10_of_54 : decode cX10_of 54 = .ok (.if_icmp .ne 9, 3) := by decide +kernel
theorem dX10_of_57 : decode cX10_of 57 = .ok (.iinc 5 1, 3) := by decide +kernel
theorem dX10_of_60 : decode cX10_of 60 = .ok (.goto (-37), 3) := by decide +kernel
theorem dX8_isLetter_0 : decode cX8_isLetter 0 = .ok (.iload_n 0, 1) := by decide +kernel
theorem dX8_isLetter_1 : decode cX8_isLetter 1 = .ok (.bipush 97, 2) := by decide +kernel
theorem dX8_isLetter_3 : decode cX8_isLetter 3 = .ok (.if_icmp .lt 13, 3) := by decide +kernel
theorem dX8_isLetter_16 : decode cX8_isLetter 16 = .ok (.iconst 0, 1) := by decide +kernel
theorem dX8_isLetter_17 : decode cX8_isLetter 17 = .ok (.ireturn, 1) := by decide +kernel
theorem dX8_isLetter_6 : decode cX8_isLetter 6 = .ok (.iload_n 0, 1) := by decide +kernel
theorem dX8_isLetter_7 : decode cX8_isLetter 7 = .ok (.bipush 122, 2) := by decide +kernel
theorem dX8_isLetter_9 : decode cX8_isLetter 9 = .ok (.if_icmp .gt 7, 3) := by decide +kernel
theorem dX8_isLetter_12 : decode cX8_isLetter 12 = .ok (.iconst 1, 1) := by decide +kernel
theorem dX8_isLetter_13 : decode cX8_isLetter 13 = .ok (.goto 4, 3) := by decide +kernel
theorem dX8_isDigit_0 : decode cX8_isDigit 0 = .ok (.iload_n 0, 1) := by decide +kernel
theorem dX8_isDigit_1 : decode cX8_isDigit 1 = .ok (.bipush 48, 2) := by decide +kernel
theorem dX8_isDigit_3 : decode cX8_isDigit 3 = .ok (.if_icmp .lt 13, 3) := by decide +kernel
theorem dX8_isDigit_16 : decode cX8_isDigit 16 = .ok (.iconst 0, 1) := by decide +kernel
theorem dX8_isDigit_17 : decode cX8_isDigit 17 = .ok (.ireturn, 1) := by decide +kernel
theorem dX8_isDigit_6 : decode cX8_isDigit 6 = .ok (.iload_n 0, 1) := by decide +kernel
theorem dX8_isDigit_7 : decode cX8_isDigit 7 = .ok (.bipush 57, 2) := by decide +kernel
theorem dX8_isDigit_9 : decode cX8_isDigit 9 = .ok (.if_icmp .gt 7, 3) := by decide +kernel
theorem dX8_isDigit_12 : decode cX8_isDigit 12 = .ok (.iconst 1, 1) := by decide +kernel
theorem dX8_isDigit_13 : decode cX8_isDigit 13 = .ok (.goto 4, 3) := by decide +kernel
theorem dX8_isMark_0 : decode cX8_isMark 0 = .ok (.iload_n 0, 1) := by decide +kernel
theorem dX8_isMark_1 : decode cX8_isMark 1 = .ok (.bipush 59, 2) := by decide +kernel
theorem dX8_isMark_3 : decode cX8_isMark 3 = .ok (.if_icmp .eq 33, 3) := by decide +kernel
theorem dX8_isMark_36 : decode cX8_isMark 36 = .ok (.iconst 1, 1) := by decide +kernel
theorem dX8_isMark_37 : decode cX8_isMark 37 = .ok (.goto 4, 3) := by decide +kernel
theorem dX8_isMark_41 : decode cX8_isMark 41 = .ok (.ireturn, 1) := by decide +kernel
theorem dX8_isMark_6 : decode cX8_isMark 6 = .ok (.iload_n 0, 1) := by decide +kernel
theorem dX8_isMark_7 : decode cX8_isMark 7 = .ok (.bipush 60, 2) := by decide +kernel
theorem dX8_isMark_9 : decode cX8_isMark 9 = .ok (.if_icmp .eq 27, 3) := by decide +kernel
theorem dX8_isMark_12 : decode cX8_isMark 12 = .ok (.iload_n 0, 1) := by decide +kernel
theorem dX8_isMark_13 : decode cX8_isMark 13 = .ok (.bipush 61, 2) := by decide +kernel
theorem dX8_isMark_15 : decode cX8_isMark 15 = .ok (.if_icmp .eq 21, 3) := by decide +kernel
theorem dX8_isMark_18 : decode cX8_isMark 18 = .ok (.iload_n 0, 1) := by decide +kernel
theorem dX8_isMark_19 : decode cX8_isMark 19 = .ok (.bipush 62, 2) := by decide +kernel
theorem dX8_isMark_21 : decode cX8_isMark 21 = .ok (.if_icmp .eq 15, 3) := by decide +kernel
theorem dX8_isMark_24 : decode cX8_isMark 24 = .ok (.iload_n 0, 1) := by decide +kernel
theorem dX8_isMark_25 : decode cX8_isMark 25 = .ok (.bipush 40, 2) := by decide +kernel
theorem dX8_isMark_27 : decode cX8_isMark 27 = .ok (.if_icmp .eq 9, 3) := by decide +kernel
theorem dX8_isMark_30 : decode cX8_isMark 30 = .ok (.iload_n 0, 1) := by decide +kernel
theorem dX8_isMark_31 : decode cX8_isMark 31 = .ok (.bipush 41, 2) := by decide +kernel
theorem dX8_isMark_33 : decode cX8_isMark 33 = .ok (.if_icmp .ne 7, 3) := by decide +kernel
theorem dX8_isMark_40 : decode cX8_isMark 40 = .ok (.iconst 0, 1) := by decide +kernel
theorem dX8_looksAtMark_0 : decode cX8_looksAtMark 0 = .ok (.aload_n 0, 1) := by decide +kernel
theorem dX8_looksAtMark_1 : decode cX8_looksAtMark 1 = .ok (.getfield 46, 3) := by decide +kernel
theorem dX8_looksAtMark_4 : decode cX8_looksAtMark 4 = .ok (.iconst 2, 1) := by decide +kernel
theorem dX8_looksAtMark_5 : decode cX8_looksAtMark 5 = .ok (.if_icmp .ne 15, 3) := by decide +kernel
theorem dX8_looksAtMark_20 : decode cX8_looksAtMark 20 = .ok (.iconst 0, 1) := by decide +kernel
theorem dX8_looksAtMark_21 : decode cX8_looksAtMark 21 = .ok (.ireturn, 1) := by decide +kernel
theorem dX8_looksAtMark_8 : decode cX8_looksAtMark 8 = .ok (.aload_n 0, 1) := by decide +kernel
theorem dX8_looksAtMark_9 : decode cX8_looksAtMark 9 = .ok (.getfield 63, 3) := by decide +kernel
theorem dX8_looksAtMark_12 : decode cX8_looksAtMark 12 = .ok (.iload_n 1, 1) := by decide +kernel
theorem dX8_looksAtMark_13 : decode cX8_looksAtMark 13 = .ok (.if_icmp .ne 7, 3) := by decide +kernel
theorem dX8_looksAtMark_16 : decode cX8_looksAtMark 16 = .ok (.iconst 1, 1) := by decide +kernel
theorem dX8_looksAtMark_17 : decode cX8_looksAtMark 17 = .ok (.goto 4, 3) := by decide +kernel
theorem dX8_byteOf_0 : decode cX8_byteOf 0 = .ok (.iload_n 1, 1) := by decide +kernel
theorem dX8_byteOf_1 : decode cX8_byteOf 1 = .ok (.ifCond .lt 24, 3) := by decide +kernel
theorem dX8_byteOf_25 : decode cX8_byteOf 25 = .ok (.iconst (-1), 1) := by decide +kernel
theorem dX8_byteOf_26 : decode cX8_byteOf 26 = .ok (.ireturn, 1) := by decide +kernel
theorem dX8_byteOf_4 : decode cX8_byteOf 4 = .ok (.iload_n 1, 1) := by decide +kernel
theorem dX8_byteOf_5 : decode cX8_byteOf 5 = .ok (.aload_n 0, 1) := by decide +kernel
theorem dX8_byteOf_6 : decode cX8_byteOf 6 = .ok (.getfield 24, 3) := by decide +kernel
theorem dX8_byteOf_9 : decode cX8_byteOf 9 = .ok (.if_icmp .ge 16, 3) := by decide +kernel
theorem dX8_byteOf_12 : decode cX8_byteOf 12 = .ok (.aload_n 0, 1) := by decide +kernel
theorem dX8_byteOf_13 : decode cX8_byteOf 13 = .ok (.getfield 9, 3) := by decide +kernel
theorem dX8_byteOf_16 : decode cX8_byteOf 16 = .ok (.iload_n 1, 1) := by decide +kernel
theorem dX8_byteOf_17 : decode cX8_byteOf 17 = .ok (.baload, 1) := by decide +kernel
theorem dX8_byteOf_18 : decode cX8_byteOf 18 = .ok (.sipush 255, 3) := by decide +kernel
theorem dX8_byteOf_21 : decode cX8_byteOf 21 = .ok (.iand, 1) := by decide +kernel
theorem dX8_byteOf_22 : decode cX8_byteOf 22 = .ok (.goto 4, 3) := by decide +kernel
theorem dX8_refuse_0 : decode cX8_refuse 0 = .ok (.aload_n 0, 1) := by decide +kernel
theorem dX8_refuse_1 : decode cX8_refuse 1 = .ok (.iload_n 1, 1) := by decide +kernel
theorem dX8_refuse_2 : decode cX8_refuse 2 = .ok (.putfield 34, 3) := by decide +kernel
theorem dX8_refuse_5 : decode cX8_refuse 5 = .ok (.aload_n 0, 1) := by decide +kernel
theorem dX8_refuse_6 : decode cX8_refuse 6 = .ok (.aload_n 0, 1) := by decide +kernel
theorem dX8_refuse_7 : decode cX8_refuse 7 = .ok (.getfield 43, 3) := by decide +kernel
theorem dX8_refuse_10 : decode cX8_refuse 10 = .ok (.putfield 37, 3) := by decide +kernel
theorem dX8_refuse_13 : decode cX8_refuse 13 = .ok (.iconst 0, 1) := by decide +kernel
theorem dX8_refuse_14 : decode cX8_refuse 14 = .ok (.ireturn, 1) := by decide +kernel
theorem dX8_stepOverRun_0 : decode cX8_stepOverRun 0 = .ok (.iconst 0, 1) := by decide +kernel
theorem dX8_stepOverRun_1 : decode cX8_stepOverRun 1 = .ok (.istore_n 1, 1) := by decide +kernel
theorem dX8_stepOverRun_2 : decode cX8_stepOverRun 2 = .ok (.aload_n 0, 1) := by decide +kernel
theorem dX8_stepOverRun_3 : decode cX8_stepOverRun 3 = .ok (.lconst 0, 1) := by decide +kernel
theorem dX8_stepOverRun_4 : decode cX8_stepOverRun 4 = .ok (.putfield 69, 3) := by decide +kernel
theorem dX8_stepOverRun_7 : decode cX8_stepOverRun 7 = .ok (.aload_n 0, 1) := by decide +kernel
theorem dX8_stepOverRun_8 : decode cX8_stepOverRun 8 = .ok (.iconst 0, 1) := by decide +kernel
theorem dX8_stepOverRun_9 : decode cX8_stepOverRun 9 = .ok (.putfield 63, 3) := by decide +kernel
theorem dX8_stepOverRun_12 : decode cX8_stepOverRun 12 = .ok (.aload_n 0, 1) := by decide +kernel
theorem dX8_stepOverRun_13 : decode cX8_stepOverRun 13 = .ok (.getfield 31, 3) := by decide +kernel
theorem dX8_stepOverRun_16 : decode cX8_stepOverRun 16 = .ok (.aload_n 0, 1) := by decide +kernel
theorem dX8_stepOverRun_17 : decode cX8_stepOverRun 17 = .ok (.getfield 24, 3) := by decide +kernel
theorem dX8_stepOverRun_20 : decode cX8_stepOverRun 20 = .ok (.if_icmp .ge 103, 3) := by decide +kernel
theorem dX8_stepOverRun_123 : decode cX8_stepOverRun 123 = .ok (.aload_n 0, 1) := by decide +kernel
theorem dX8_stepOverRun_124 : decode cX8_stepOverRun 124 = .ok (.getfield 31, 3) := by decide +kernel
theorem dX8_stepOverRun_127 : decode cX8_stepOverRun 127 = .ok (.aload_n 0, 1) := by decide +kernel
theorem dX8_stepOverRun_128 : decode cX8_stepOverRun 128 = .ok (.getfield 43, 3) := by decide +kernel
theorem dX8_stepOverRun_131 : decode cX8_stepOverRun 131 = .ok (.isub, 1) := by decide +kernel
theorem dX8_stepOverRun_132 : decode cX8_stepOverRun 132 = .ok (.istore_n 2, 1) := by decide +kernel
theorem dX8_stepOverRun_133 : decode cX8_stepOverRun 133 = .ok (.iload_n 1, 1) := by decide +kernel
theorem dX8_stepOverRun_134 : decode cX8_stepOverRun 134 = .ok (.iload_n 2, 1) := by decide +kernel
theorem dX8_stepOverRun_135 : decode cX8_stepOverRun 135 = .ok (.if_icmp .ne 21, 3) := by decide +kernel
theorem dX8_stepOverRun_156 : decode cX8_stepOverRun 156 = .ok (.aload_n 0, 1) := by decide +kernel
theorem dX8_stepOverRun_157 : decode cX8_stepOverRun 157 = .ok (.iload_n 1, 1) := by decide +kernel
theorem dX8_stepOverRun_158 : decode cX8_stepOverRun 158 = .ok (.ifCond .ne 12, 3) := by decide +kernel
theorem dX8_stepOverRun_170 : decode cX8_stepOverRun 170 = .ok (.iconst 4, 1) := by decide +kernel
theorem dX8_stepOverRun_171 : decode cX8_stepOverRun 171 = .ok (.putfield 46, 3) := by decide +kernel
theorem dX8_stepOverRun_174 : decode cX8_stepOverRun 174 = .ok (.return_, 1) := by decide +kernel
theorem dX8_stepOverRun_161 : decode cX8_stepOverRun 161 = .ok (.iload_n 2, 1) := by decide +kernel
theorem dX8_stepOverRun_162 : decode cX8_stepOverRun 162 = .ok (.iconst 3, 1) := by decide +kernel
theorem dX8_stepOverRun_163 : decode cX8_stepOverRun 163 = .ok (.if_icmp .gt 7, 3) := by decide +kernel
theorem dX8_stepOverRun_166 : decode cX8_stepOverRun 166 = .ok (.iconst 1, 1) := by decide +kernel
theorem dX8_stepOverRun_167 : decode cX8_stepOverRun 167 = .ok (.goto 4, 3) := by decide +kernel
theorem dX8_stepOverRun_138 : decode cX8_stepOverRun 138 = .ok (.aload_n 0, 1) := by decide +kernel
theorem dX8_stepOverRun_139 : decode cX8_stepOverRun 139 = .ok (.iload_n 2, 1) := by decide +kernel
theorem dX8_stepOverRun_140 : decode cX8_stepOverRun 140 = .ok (.bipush 7, 2) := by decide +kernel
theorem dX8_stepOverRun_142 : decode cX8_stepOverRun 142 = .ok (.if_icmp .gt 7, 3) := by decide +kernel
theorem dX8_stepOverRun_149 : decode cX8_stepOverRun 149 = .ok (.iconst 4, 1) := by decide +kernel
theorem dX8_stepOverRun_150 : decode cX8_stepOverRun 150 = .ok (.putfield 46, 3) := by decide +kernel
theorem dX8_stepOverRun_153 : decode cX8_stepOverRun 153 = .ok (.goto 21, 3) := by decide +kernel
theorem dX8_stepOverRun_145 : decode cX8_stepOverRun 145 = .ok (.iconst 0, 1) := by decide +kernel
theorem dX8_stepOverRun_146 : decode cX8_stepOverRun 146 = .ok (.goto 4, 3) := by decide +kernel
theorem dX8_stepOverRun_23 : decode cX8_stepOverRun 23 = .ok (.aload_n 0, 1) := by decide +kernel
theorem dX8_stepOverRun_24 : decode cX8_stepOverRun 24 = .ok (.getfield 9, 3) := by decide +kernel
theorem dX8_stepOverRun_27 : decode cX8_stepOverRun 27 = .ok (.aload_n 0, 1) := by decide +kernel
theorem dX8_stepOverRun_28 : decode cX8_stepOverRun 28 = .ok (.getfield 31, 3) := by decide +kernel
theorem dX8_stepOverRun_31 : decode cX8_stepOverRun 31 = .ok (.baload, 1) := by decide +kernel
theorem dX8_stepOverRun_32 : decode cX8_stepOverRun 32 = .ok (.invokestatic 49, 3) := by decide +kernel
theorem dX8_stepOverRun_35 : decode cX8_stepOverRun 35 = .ok (.ifCond .ne 18, 3) := by decide +kernel
theorem dX8_stepOverRun_53 : decode cX8_stepOverRun 53 = .ok (.aload_n 0, 1) := by decide +kernel
theorem dX8_stepOverRun_54 : decode cX8_stepOverRun 54 = .ok (.getfield 9, 3) := by decide +kernel
theorem dX8_stepOverRun_57 : decode cX8_stepOverRun 57 = .ok (.aload_n 0, 1) := by decide +kernel
theorem dX8_stepOverRun_58 : decode cX8_stepOverRun 58 = .ok (.getfield 31, 3) := by decide +kernel
theorem dX8_stepOverRun_61 : decode cX8_stepOverRun 61 = .ok (.baload, 1) := by decide +kernel
theorem dX8_stepOverRun_62 : decode cX8_stepOverRun 62 = .ok (.istore_n 2, 1) := by decide +kernel
theorem dX8_stepOverRun_63 : decode cX8_stepOverRun 63 = .ok (.iload_n 2, 1) := by decide +kernel
theorem dX8_stepOverRun_64 : decode cX8_stepOverRun 64 = .ok (.invokestatic 49, 3) := by decide +kernel
theorem dX8_stepOverRun_67 : decode cX8_stepOverRun 67 = .ok (.ifCond .eq 27, 3) := by decide +kernel
theorem dX8_stepOverRun_70 : decode cX8_stepOverRun 70 = .ok (.iinc 1 1, 3) := by decide +kernel
theorem dX8_stepOverRun_73 : decode cX8_stepOverRun 73 = .ok (.aload_n 0, 1) := by decide +kernel
theorem dX8_stepOverRun_74 : decode cX8_stepOverRun 74 = .ok (.aload_n 0, 1) := by decide +kernel
theorem dX8_stepOverRun_75 : decode cX8_stepOverRun 75 = .ok (.getfield 69, 3) := by decide +kernel
theorem dX8_stepOverRun_78 : decode cX8_stepOverRun 78 = .ok (.iconst 5, 1) := by decide +kernel
theorem dX8_stepOverRun_79 : decode cX8_stepOverRun 79 = .ok (.lshl, 1) := by decide +kernel
theorem dX8_stepOverRun_80 : decode cX8_stepOverRun 80 = .ok (.iload_n 2, 1) := by decide +kernel
theorem dX8_stepOverRun_81 : decode cX8_stepOverRun 81 = .ok (.bipush 97, 2) := by decide +kernel
theorem dX8_stepOverRun_83 : decode cX8_stepOverRun 83 = .ok (.isub, 1) := by decide +kernel
theorem dX8_stepOverRun_84 : decode cX8_stepOverRun 84 = .ok (.iconst 1, 1) := by decide +kernel
theorem dX8_stepOverRun_85 : decode cX8_stepOverRun 85 = .ok (.iadd, 1) := by decide +kernel
theorem dX8_stepOverRun_86 : decode cX8_stepOverRun 86 = .ok (.i2l, 1) := by decide +kernel
theorem dX8_stepOverRun_87 : decode cX8_stepOverRun 87 = .ok (.lor, 1) := by decide +kernel
theorem dX8_stepOverRun_88 : decode cX8_stepOverRun 88 = .ok (.putfield 69, 3) := by decide +kernel
theorem dX8_stepOverRun_91 : decode cX8_stepOverRun 91 = .ok (.goto 19, 3) := by decide +kernel
theorem dX8_stepOverRun_110 : decode cX8_stepOverRun 110 = .ok (.aload_n 0, 1) := by decide +kernel
theorem dX8_stepOverRun_111 : decode cX8_stepOverRun 111 = .ok (.dup, 1) := by decide +kernel
theorem dX8_stepOverRun_112 : decode cX8_stepOverRun 112 = .ok (.getfield 31, 3) := by decide +kernel
theorem dX8_stepOverRun_115 : decode cX8_stepOverRun 115 = .ok (.iconst 1, 1) := by decide +kernel
theorem dX8_stepOverRun_116 : decode cX8_stepOverRun 116 = .ok (.iadd, 1) := by decide +kernel
theorem dX8_stepOverRun_117 : decode cX8_stepOverRun 117 = .ok (.putfield 31, 3) := by decide +kernel
theorem dX8_stepOverRun_120 : decode cX8_stepOverRun 120 = .ok (.goto (-108), 3) := by decide +kernel
theorem dX8_stepOverRun_94 : decode cX8_stepOverRun 94 = .ok (.aload_n 0, 1) := by decide +kernel
theorem dX8_stepOverRun_95 : decode cX8_stepOverRun 95 = .ok (.aload_n 0, 1) := by decide +kernel
theorem dX8_stepOverRun_96 : decode cX8_stepOverRun 96 = .ok (.getfield 63, 3) := by decide +kernel
theorem dX8_stepOverRun_99 : decode cX8_stepOverRun 99 = .ok (.bipush 10, 2) := by decide +kernel
theorem dX8_stepOverRun_101 : decode cX8_stepOverRun 101 = .ok (.imul, 1) := by decide +kernel
theorem dX8_stepOverRun_102 : decode cX8_stepOverRun 102 = .ok (.iload_n 2, 1) := by decide +kernel
theorem dX8_stepOverRun_103 : decode cX8_stepOverRun 103 = .ok (.iadd, 1) := by decide +kernel
theorem dX8_stepOverRun_104 : decode cX8_stepOverRun 104 = .ok (.bipush 48, 2) := by decide +kernel
theorem dX8_stepOverRun_106 : decode cX8_stepOverRun 106 = .ok (.isub, 1) := by decide +kernel
theorem dX8_stepOverRun_107 : decode cX8_stepOverRun 107 = .ok (.putfield 63, 3) := by decide +kernel
theorem dX8_stepOverRun_38 : decode cX8_stepOverRun 38 = .ok (.aload_n 0, 1) := by decide +kernel
theorem dX8_stepOverRun_39 : decode cX8_stepOverRun 39 = .ok (.getfield 9, 3) := by decide +kernel
theorem dX8_stepOverRun_42 : decode cX8_stepOverRun 42 = .ok (.aload_n 0, 1) := by decide +kernel
theorem dX8_stepOverRun_43 : decode cX8_stepOverRun 43 = .ok (.getfield 31, 3) := by decide +kernel
theorem dX8_stepOverRun_46 : decode cX8_stepOverRun 46 = .ok (.baload, 1) := by decide +kernel
theorem dX8_stepOverRun_47 : decode cX8_stepOverRun 47 = .ok (.invokestatic 53, 3) := by decide +kernel
theorem dX8_stepOverRun_50 : decode cX8_stepOverRun 50 = .ok (.ifCond .eq 73, 3) := by decide +kernel
theorem dX8_step_0 : decode cX8_step 0 = .ok (.aload_n 0, 1) := by decide +kernel
theorem dX8_step_1 : decode cX8_step 1 = .ok (.getstatic 15, 3) := by decide +kernel
theorem dX8_step_4 : decode cX8_step 4 = .ok (.putfield 21, 3) := by decide +kernel
theorem dX8_step_7 : decode cX8_step 7 = .ok (.aload_n 0, 1) := by decide +kernel
theorem dX8_step_8 : decode cX8_step 8 = .ok (.getfield 31, 3) := by decide +kernel
theorem dX8_step_11 : decode cX8_step 11 = .ok (.aload_n 0, 1) := by decide +kernel
theorem dX8_step_12 : decode cX8_step 12 = .ok (.getfield 24, 3) := by decide +kernel
theorem dX8_step_15 : decode cX8_step 15 = .ok (.if_icmp .ge 44, 3) := by decide +kernel
theorem dX8_step_59 : decode cX8_step 59 = .ok (.aload_n 0, 1) := by decide +kernel
theorem dX8_step_60 : decode cX8_step 60 = .ok (.aload_n 0, 1) := by decide +kernel
theorem dX8_step_61 : decode cX8_step 61 = .ok (.getfield 31, 3) := by decide +kernel
theorem dX8_step_64 : decode cX8_step 64 = .ok (.putfield 43, 3) := by decide +kernel
theorem dX8_step_67 : decode cX8_step 67 = .ok (.aload_n 0, 1) := by decide +kernel
theorem dX8_step_68 : decode cX8_step 68 = .ok (.getfield 24, 3) := by decide +kernel
theorem dX8_step_71 : decode cX8_step 71 = .ok (.aload_n 0, 1) := by decide +kernel
theorem dX8_step_72 : decode cX8_step 72 = .ok (.getfield 28, 3) := by decide +kernel
theorem dX8_step_105 : decode cX8_step 105 = .ok (.aload_n 0, 1) := by decide +kernel
theorem dX8_step_106 : decode cX8_step 106 = .ok (.getfield 31, 3) := by decide +kernel
theorem dX8_step_109 : decode cX8_step 109 = .ok (.aload_n 0, 1) := by decide +kernel
theorem dX8_step_110 : decode cX8_step 110 = .ok (.getfield 24, 3) := by decide +kernel
theorem dX8_step_113 : decode cX8_step 113 = .ok (.if_icmp .lt 11, 3) := by decide +kernel
theorem dX8_step_124 : decode cX8_step 124 = .ok (.aload_n 0, 1) := by decide +kernel
theorem dX8_step_125 : decode cX8_step 125 = .ok (.getfield 9, 3) := by decide +kernel
theorem dX8_step_128 : decode cX8_step 128 = .ok (.aload_n 0, 1) := by decide +kernel
theorem dX8_step_129 : decode cX8_step 129 = .ok (.getfield 31, 3) := by decide +kernel
theorem dX8_step_132 : decode cX8_step 132 = .ok (.baload, 1) := by decide +kernel
theorem dX8_step_133 : decode cX8_step 133 = .ok (.invokestatic 49, 3) := by decide +kernel
theorem dX8_step_154 : decode cX8_step 154 = .ok (.aload_n 0, 1) := by decide +kernel
theorem dX8_step_155 : decode cX8_step 155 = .ok (.invokevirtual 56, 3) := by decide +kernel
theorem dX8_step_158 : decode cX8_step 158 = .ok (.aload_n 0, 1) := by decide +kernel
theorem dX8_step_159 : decode cX8_step 159 = .ok (.aload_n 0, 1) := by decide +kernel
theorem dX8_step_160 : decode cX8_step 160 = .ok (.getfield 46, 3) := by decide +kernel
theorem dX8_step_163 : decode cX8_step 163 = .ok (.ifCond .ne 21, 3) := by decide +kernel
theorem dX8_step_184 : decode cX8_step 184 = .ok (.getstatic 15, 3) := by decide +kernel
theorem dX8_step_187 : decode cX8_step 187 = .ok (.putfield 21, 3) := by decide +kernel
theorem dX8_step_190 : decode cX8_step 190 = .ok (.goto 45, 3) := by decide +kernel
theorem dX8_step_235 : decode cX8_step 235 = .ok (.return_, 1) := by decide +kernel
theorem dX8_step_166 : decode cX8_step 166 = .ok (.aload_n 0, 1) := by decide +kernel
theorem dX8_step_167 : decode cX8_step 167 = .ok (.getfield 9, 3) := by decide +kernel
theorem dX8_step_170 : decode cX8_step 170 = .ok (.aload_n 0, 1) := by decide +kernel
theorem dX8_step_171 : decode cX8_step 171 = .ok (.getfield 43, 3) := by decide +kernel
theorem dX8_step_174 : decode cX8_step 174 = .ok (.aload_n 0, 1) := by decide +kernel
theorem dX8_step_175 : decode cX8_step 175 = .ok (.getfield 31, 3) := by decide +kernel
theorem dX8_step_178 : decode cX8_step 178 = .ok (.invokestatic 59, 3) := by decide +kernel
theorem dX8_step_181 : decode cX8_step 181 = .ok (.goto 6, 3) := by decide +kernel
theorem dX8_step_136 : decode cX8_step 136 = .ok (.ifCond .ne 18, 3) := by decide +kernel
theorem dX8_step_139 : decode cX8_step 139 = .ok (.aload_n 0, 1) := by decide +kernel
theorem dX8_step_140 : decode cX8_step 140 = .ok (.getfield 9, 3) := by decide +kernel
theorem dX8_step_143 : decode cX8_step 143 = .ok (.aload_n 0, 1) := by decide +kernel
theorem dX8_step_144 : decode cX8_step 144 = .ok (.getfield 31, 3) := by decide +kernel
theorem dX8_step_147 : decode cX8_step 147 = .ok (.baload, 1) := by decide +kernel
theorem dX8_step_148 : decode cX8_step 148 = .ok (.invokestatic 53, 3) := by decide +kernel
theorem dX8_step_151 : decode cX8_step 151 = .ok (.ifCond .eq 42, 3) := by decide +kernel
theorem dX8_step_193 : decode cX8_step 193 = .ok (.aload_n 0, 1) := by decide +kernel
theorem dX8_step_194 : decode cX8_step 194 = .ok (.aload_n 0, 1) := by decide +kernel
theorem dX8_step_195 : decode cX8_step 195 = .ok (.getfield 9, 3) := by decide +kernel
theorem dX8_step_198 : decode cX8_step 198 = .ok (.aload_n 0, 1) := by decide +kernel
theorem dX8_step_199 : decode cX8_step 199 = .ok (.getfield 31, 3) := by decide +kernel
theorem dX8_step_202 : decode cX8_step 202 = .ok (.baload, 1) := by decide +kernel
theorem dX8_step_203 : decode cX8_step 203 = .ok (.putfield 63, 3) := by decide +kernel
theorem dX8_step_206 : decode cX8_step 206 = .ok (.aload_n 0, 1) := by decide +kernel
theorem dX8_step_207 : decode cX8_step 207 = .ok (.aload_n 0, 1) := by decide +kernel
theorem dX8_step_208 : decode cX8_step 208 = .ok (.getfield 63, 3) := by decide +kernel
theorem dX8_step_211 : decode cX8_step 211 = .ok (.invokestatic 66, 3) := by decide +kernel
theorem dX8_step_214 : decode cX8_step 214 = .ok (.ifCond .eq 7, 3) := by decide +kernel
theorem dX8_step_217 : decode cX8_step 217 = .ok (.iconst 2, 1) := by decide +kernel
theorem dX8_step_218 : decode cX8_step 218 = .ok (.goto 4, 3) := by decide +kernel
theorem dX8_step_222 : decode cX8_step 222 = .ok (.putfield 46, 3) := by decide +kernel
theorem dX8_step_225 : decode cX8_step 225 = .ok (.aload_n 0, 1) := by decide +kernel
theorem dX8_step_226 : decode cX8_step 226 = .ok (.dup, 1) := by decide +kernel
theorem dX8_step_227 : decode cX8_step 227 = .ok (.getfield 31, 3) := by decide +kernel
theorem dX8_step_230 : decode cX8_step 230 = .ok (.iconst 1, 1) := by decide +kernel
theorem dX8_step_231 : decode cX8_step 231 = .ok (.iadd, 1) := by decide +kernel
theorem dX8_step_232 : decode cX8_step 232 = .ok (.putfield 31, 3) := by decide +kernel
theorem dX8_step_221 : decode cX8_step 221 = .ok (.iconst 4, 1) := by decide +kernel
theorem dX8_step_116 : decode cX8_step 116 = .ok (.aload_n 0, 1) := by decide +kernel
theorem dX8_step_117 : decode cX8_step 117 = .ok (.iconst 3, 1) := by decide +kernel
theorem dX8_step_118 : decode cX8_step 118 = .ok (.putfield 46, 3) := by decide +kernel
theorem dX8_step_121 : decode cX8_step 121 = .ok (.goto 114, 3) := by decide +kernel
theorem dX8_step_75 : decode cX8_step 75 = .ok (.if_icmp .le 30, 3) := by decide +kernel
theorem dX8_step_78 : decode cX8_step 78 = .ok (.aload_n 0, 1) := by decide +kernel
theorem dX8_step_79 : decode cX8_step 79 = .ok (.getfield 31, 3) := by decide +kernel
theorem dX8_step_82 : decode cX8_step 82 = .ok (.aload_n 0, 1) := by decide +kernel
theorem dX8_step_83 : decode cX8_step 83 = .ok (.getfield 28, 3) := by decide +kernel
theorem dX8_step_86 : decode cX8_step 86 = .ok (.if_icmp .lt 19, 3) := by decide +kernel
theorem dX8_step_89 : decode cX8_step 89 = .ok (.aload_n 0, 1) := by decide +kernel
theorem dX8_step_90 : decode cX8_step 90 = .ok (.aload_n 0, 1) := by decide +kernel
theorem dX8_step_91 : decode cX8_step 91 = .ok (.getfield 28, 3) := by decide +kernel
theorem dX8_step_94 : decode cX8_step 94 = .ok (.putfield 43, 3) := by decide +kernel
theorem dX8_step_97 : decode cX8_step 97 = .ok (.aload_n 0, 1) := by decide +kernel
theorem dX8_step_98 : decode cX8_step 98 = .ok (.iconst 4, 1) := by decide +kernel
theorem dX8_step_99 : decode cX8_step 99 = .ok (.putfield 46, 3) := by decide +kernel
theorem dX8_step_102 : decode cX8_step 102 = .ok (.goto 133, 3) := by decide +kernel
theorem dX8_step_18 : decode cX8_step 18 = .ok (.aload_n 0, 1) := by decide +kernel
theorem dX8_step_19 : decode cX8_step 19 = .ok (.getfield 9, 3) := by decide +kernel
theorem dX8_step_22 : decode cX8_step 22 = .ok (.aload_n 0, 1) := by decide +kernel
theorem dX8_step_23 : decode cX8_step 23 = .ok (.getfield 31, 3) := by decide +kernel
theorem dX8_step_26 : decode cX8_step 26 = .ok (.baload, 1) := by decide +kernel
theorem dX8_step_27 : decode cX8_step 27 = .ok (.bipush 32, 2) := by decide +kernel
theorem dX8_step_29 : decode cX8_step 29 = .ok (.if_icmp .eq 17, 3) := by decide +kernel
theorem dX8_step_46 : decode cX8_step 46 = .ok (.aload_n 0, 1) := by decide +kernel
theorem dX8_step_47 : decode cX8_step 47 = .ok (.dup, 1) := by decide +kernel
theorem dX8_step_48 : decode cX8_step 48 = .ok (.getfield 31, 3) := by decide +kernel
theorem dX8_step_51 : decode cX8_step 51 = .ok (.iconst 1, 1) := by decide +kernel
theorem dX8_step_52 : decode cX8_step 52 = .ok (.iadd, 1) := by decide +kernel
theorem dX8_step_53 : decode cX8_step 53 = .ok (.putfield 31, 3) := by decide +kernel
theorem dX8_step_56 : decode cX8_step 56 = .ok (.goto (-49), 3) := by decide +kernel
theorem dX8_step_32 : decode cX8_step 32 = .ok (.aload_n 0, 1) := by decide +kernel
theorem dX8_step_33 : decode cX8_step 33 = .ok (.getfield 9, 3) := by decide +kernel
theorem dX8_step_36 : decode cX8_step 36 = .ok (.aload_n 0, 1) := by decide +kernel
theorem dX8_step_37 : decode cX8_step 37 = .ok (.getfield 31, 3) := by decide +kernel
theorem dX8_step_40 : decode cX8_step 40 = .ok (.baload, 1) := by decide +kernel
theorem dX8_step_41 : decode cX8_step 41 = .ok (.bipush 10, 2) := by decide +kernel
theorem dX8_step_43 : decode cX8_step 43 = .ok (.if_icmp .ne 16, 3) := by decide +kernel
theorem dX8_open_0 : decode cX8_open 0 = .ok (.aload_n 0, 1) := by decide +kernel
theorem dX8_open_1 : decode cX8_open 1 = .ok (.iload_n 1, 1) := by decide +kernel
theorem dX8_open_2 : decode cX8_open 2 = .ok (.putfield 28, 3) := by decide +kernel
theorem dX8_open_5 : decode cX8_open 5 = .ok (.aload_n 0, 1) := by decide +kernel
theorem dX8_open_6 : decode cX8_open 6 = .ok (.iconst 0, 1) := by decide +kernel
theorem dX8_open_7 : decode cX8_open 7 = .ok (.putfield 31, 3) := by decide +kernel
theorem dX8_open_10 : decode cX8_open 10 = .ok (.aload_n 0, 1) := by decide +kernel
theorem dX8_open_11 : decode cX8_open 11 = .ok (.iconst 0, 1) := by decide +kernel
