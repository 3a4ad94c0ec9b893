theorem dX12_stay_1 : decode cX12_stay 1 = .ok (.istore_n 2, 1) := by decide +kernel
theorem dX12_stay_2 : decode cX12_stay 2 = .ok (.iload_n 2, 1) := by decide +kernel
theorem dX12_stay_3 : decode cX12_stay 3 = .ok (.bipush 70, 2) := by decide +kernel
theorem dX12_stay_5 : decode cX12_stay 5 = .ok (.if_icmp .ge 41, 3) := by decide +kernel
theorem dX12_stay_8 : decode cX12_stay 8 = .ok (.aload_n 0, 1) := by decide +kernel
theorem dX12_stay_9 : decode cX12_stay 9 = .ok (.getfield 98, 3) := by decide +kernel
theorem dX12_stay_12 : decode cX12_stay 12 = .ok (.bipush 61, 2) := by decide +kernel
theorem dX12_stay_14 : decode cX12_stay 14 = .ok (.iload_n 2, 1) := by decide +kernel
theorem dX12_stay_15 : decode cX12_stay 15 = .ok (.iadd, 1) := by decide +kernel
theorem dX12_stay_16 : decode cX12_stay 16 = .ok (.iaload, 1) := by decide +kernel
theorem dX12_stay_17 : decode cX12_stay 17 = .ok (.istore_n 3, 1) := by decide +kernel
theorem dX12_stay_18 : decode cX12_stay 18 = .ok (.aload_n 0, 1) := by decide +kernel
theorem dX12_stay_19 : decode cX12_stay 19 = .ok (.getfield 98, 3) := by decide +kernel
theorem dX12_stay_22 : decode cX12_stay 22 = .ok (.bipush 61, 2) := by decide +kernel
theorem dX12_stay_24 : decode cX12_stay 24 = .ok (.iload_n 2, 1) := by decide +kernel
theorem dX12_stay_25 : decode cX12_stay 25 = .ok (.iadd, 1) := by decide +kernel
theorem dX12_stay_26 : decode cX12_stay 26 = .ok (.aload_n 0, 1) := by decide +kernel
theorem dX12_stay_27 : decode cX12_stay 27 = .ok (.getfield 110, 3) := by decide +kernel
theorem dX12_stay_30 : decode cX12_stay 30 = .ok (.iload_n 2, 1) := by decide +kernel
theorem dX12_stay_31 : decode cX12_stay 31 = .ok (.iaload, 1) := by decide +kernel
theorem dX12_stay_32 : decode cX12_stay 32 = .ok (.iastore, 1) := by decide +kernel
theorem dX12_stay_33 : decode cX12_stay 33 = .ok (.aload_n 0, 1) := by decide +kernel
theorem dX12_stay_34 : decode cX12_stay 34 = .ok (.getfield 110, 3) := by decide +kernel
theorem dX12_stay_37 : decode cX12_stay 37 = .ok (.iload_n 2, 1) := by decide +kernel
theorem dX12_stay_38 : decode cX12_stay 38 = .ok (.iload_n 3, 1) := by decide +kernel
theorem dX12_stay_39 : decode cX12_stay 39 = .ok (.iastore, 1) := by decide +kernel
theorem dX12_stay_40 : decode cX12_stay 40 = .ok (.iinc 2 1, 3) := by decide +kernel
theorem dX12_stay_43 : decode cX12_stay 43 = .ok (.goto (-41), 3) := by decide +kernel
theorem dX12_stay_46 : decode cX12_stay 46 = .ok (.iload_n 1, 1) := by decide +kernel
theorem dX12_stay_47 : decode cX12_stay 47 = .ok (.ifCond .ne 4, 3) := by decide +kernel
theorem dX12_stay_50 : decode cX12_stay 50 = .ok (.return_, 1) := by decide +kernel
theorem dX12_book_0 : decode cX12_book 0 = .ok (.aload_n 0, 1) := by decide +kernel
theorem dX12_book_1 : decode cX12_book 1 = .ok (.iconst 0, 1) := by decide +kernel
theorem dX12_book_2 : decode cX12_book 2 = .ok (.putfield 1, 3) := by decide +kernel
theorem dX12_book_5 : decode cX12_book 5 = .ok (.iload_n 1, 1) := by decide +kernel
theorem dX12_book_6 : decode cX12_book 6 = .ok (.iconst 0, 1) := by decide +kernel
theorem dX12_book_7 : decode cX12_book 7 = .ok (.iconst 1, 1) := by decide +kernel
theorem dX12_book_8 : decode cX12_book 8 = .ok (.invokestatic 75, 3) := by decide +kernel
theorem dX12_book_11 : decode cX12_book 11 = .ok (.ifCond .ne 7, 3) := by decide +kernel
theorem dX12_book_18 : decode cX12_book 18 = .ok (.aload_n 0, 1) := by decide +kernel
theorem dX12_book_19 : decode cX12_book 19 = .ok (.sipush 400, 3) := by decide +kernel
theorem dX12_book_22 : decode cX12_book 22 = .ok (.invokevirtual 205, 3) := by decide +kernel
theorem dX12_book_25 : decode cX12_book 25 = .ok (.aload_n 0, 1) := by decide +kernel
theorem dX12_book_26 : decode cX12_book 26 = .ok (.iconst 0, 1) := by decide +kernel
theorem dX12_book_27 : decode cX12_book 27 = .ok (.putfield 374, 3) := by decide +kernel
theorem dX12_book_30 : decode cX12_book 30 = .ok (.aload_n 0, 1) := by decide +kernel
theorem dX12_book_31 : decode cX12_book 31 = .ok (.getfield 30, 3) := by decide +kernel
theorem dX12_book_34 : decode cX12_book 34 = .ok (.ifCond .eq 31, 3) := by decide +kernel
theorem dX12_book_65 : decode cX12_book 65 = .ok (.aload_n 0, 1) := by decide +kernel
theorem dX12_book_66 : decode cX12_book 66 = .ok (.invokevirtual 353, 3) := by decide +kernel
theorem dX12_book_69 : decode cX12_book 69 = .ok (.iconst 0, 1) := by decide +kernel
theorem dX12_book_70 : decode cX12_book 70 = .ok (.istore_n 2, 1) := by decide +kernel
theorem dX12_book_71 : decode cX12_book 71 = .ok (.iconst 0, 1) := by decide +kernel
theorem dX12_book_72 : decode cX12_book 72 = .ok (.istore_n 3, 1) := by decide +kernel
theorem dX12_book_73 : decode cX12_book 73 = .ok (.iload_n 2, 1) := by decide +kernel
theorem dX12_book_74 : decode cX12_book 74 = .ok (.aload_n 0, 1) := by decide +kernel
theorem dX12_book_75 : decode cX12_book 75 = .ok (.getfield 374, 3) := by decide +kernel
theorem dX12_book_78 : decode cX12_book 78 = .ok (.if_icmp .ge 25, 3) := by decide +kernel
theorem dX12_book_103 : decode cX12_book 103 = .ok (.aload_n 0, 1) := by decide +kernel
theorem dX12_book_104 : decode cX12_book 104 = .ok (.getfield 148, 3) := by decide +kernel
theorem dX12_book_107 : decode cX12_book 107 = .ok (.iconst 0, 1) := by decide +kernel
theorem dX12_book_108 : decode cX12_book 108 = .ok (.iload_n 3, 1) := by decide +kernel
theorem dX12_book_109 : decode cX12_book 109 = .ok (.iastore, 1) := by decide +kernel
theorem dX12_book_110 : decode cX12_book 110 = .ok (.aload_n 0, 1) := by decide +kernel
theorem dX12_book_111 : decode cX12_book 111 = .ok (.getfield 148, 3) := by decide +kernel
theorem dX12_book_114 : decode cX12_book 114 = .ok (.iconst 1, 1) := by decide +kernel
theorem dX12_book_115 : decode cX12_book 115 = .ok (.iload_n 2, 1) := by decide +kernel
theorem dX12_book_116 : decode cX12_book 116 = .ok (.iastore, 1) := by decide +kernel
theorem dX12_book_117 : decode cX12_book 117 = .ok (.aload_n 0, 1) := by decide +kernel
theorem dX12_book_118 : decode cX12_book 118 = .ok (.getfield 148, 3) := by decide +kernel
theorem dX12_book_121 : decode cX12_book 121 = .ok (.iconst 2, 1) := by decide +kernel
theorem dX12_book_122 : decode cX12_book 122 = .ok (.aload_n 0, 1) := by decide +kernel
theorem dX12_book_123 : decode cX12_book 123 = .ok (.getfield 98, 3) := by decide +kernel
theorem dX12_book_126 : decode cX12_book 126 = .ok (.bipush 61, 2) := by decide +kernel
theorem dX12_book_128 : decode cX12_book 128 = .ok (.iaload, 1) := by decide +kernel
theorem dX12_book_129 : decode cX12_book 129 = .ok (.iastore, 1) := by decide +kernel
theorem dX12_book_130 : decode cX12_book 130 = .ok (.aload_n 0, 1) := by decide +kernel
theorem dX12_book_131 : decode cX12_book 131 = .ok (.getfield 148, 3) := by decide +kernel
theorem dX12_book_134 : decode cX12_book 134 = .ok (.iconst 3, 1) := by decide +kernel
theorem dX12_book_135 : decode cX12_book 135 = .ok (.aload_n 0, 1) := by decide +kernel
theorem dX12_book_136 : decode cX12_book 136 = .ok (.invokevirtual 253, 3) := by decide +kernel
theorem dX12_book_139 : decode cX12_book 139 = .ok (.iastore, 1) := by decide +kernel
theorem dX12_book_140 : decode cX12_book 140 = .ok (.aload_n 0, 1) := by decide +kernel
theorem dX12_book_141 : decode cX12_book 141 = .ok (.iconst 1, 1) := by decide +kernel
theorem dX12_book_142 : decode cX12_book 142 = .ok (.putfield 392, 3) := by decide +kernel
theorem dX12_book_145 : decode cX12_book 145 = .ok (.aload_n 0, 1) := by decide +kernel
theorem dX12_book_146 : decode cX12_book 146 = .ok (.iload_n 1, 1) := by decide +kernel
theorem dX12_book_147 : decode cX12_book 147 = .ok (.iconst 1, 1) := by decide +kernel
theorem dX12_book_148 : decode cX12_book 148 = .ok (.if_icmp .ne 11, 3) := by decide +kernel
theorem dX12_book_159 : decode cX12_book 159 = .ok (.iconst 0, 1) := by decide +kernel
theorem dX12_book_160 : decode cX12_book 160 = .ok (.invokevirtual 395, 3) := by decide +kernel
theorem dX12_book_163 : decode cX12_book 163 = .ok (.iload_n 3, 1) := by decide +kernel
theorem dX12_book_164 : decode cX12_book 164 = .ok (.ifCond .ne 7, 3) := by decide +kernel
theorem dX12_book_167 : decode cX12_book 167 = .ok (.iconst (-1), 1) := by decide +kernel
theorem dX12_book_168 : decode cX12_book 168 = .ok (.goto 4, 3) := by decide +kernel
theorem dX12_book_172 : decode cX12_book 172 = .ok (.ireturn, 1) := by decide +kernel
theorem dX12_book_151 : decode cX12_book 151 = .ok (.iload_n 2, 1) := by decide +kernel
theorem dX12_book_152 : decode cX12_book 152 = .ok (.ifCond .le 7, 3) := by decide +kernel
theorem dX12_book_14 : decode cX12_book 14 = .ok (.sipush (-1000), 3) := by decide +kernel
theorem dX12_book_17 : decode cX12_book 17 = .ok (.ireturn, 1) := by decide +kernel
theorem dX12_told_0 : decode cX12_told 0 = .ok (.aload_n 0, 1) := by decide +kernel
theorem dX12_told_1 : decode cX12_told 1 = .ok (.iconst 0, 1) := by decide +kernel
theorem dX12_told_2 : decode cX12_told 2 = .ok (.putfield 1, 3) := by decide +kernel
theorem dX12_told_5 : decode cX12_told 5 = .ok (.aload_n 0, 1) := by decide +kernel
theorem dX12_told_6 : decode cX12_told 6 = .ok (.getfield 392, 3) := by decide +kernel
theorem dX12_told_9 : decode cX12_told 9 = .ok (.ifCond .eq 21, 3) := by decide +kernel
theorem dX12_told_30 : decode cX12_told 30 = .ok (.iconst (-1), 1) := by decide +kernel
theorem dX12_told_31 : decode cX12_told 31 = .ok (.ireturn, 1) := by decide +kernel
theorem dX12_isSign_0 : decode cX12_isSign 0 = .ok (.aload_n 0, 1) := by decide +kernel
theorem dX12_isSign_1 : decode cX12_isSign 1 = .ok (.getfield 30, 3) := by decide +kernel
theorem dX12_isSign_4 : decode cX12_isSign 4 = .ok (.iconst 4, 1) := by decide +kernel
theorem dX12_isSign_5 : decode cX12_isSign 5 = .ok (.if_icmp .ne 15, 3) := by decide +kernel
theorem dX12_isSign_20 : decode cX12_isSign 20 = .ok (.iconst 0, 1) := by decide +kernel
theorem dX12_isSign_21 : decode cX12_isSign 21 = .ok (.ireturn, 1) := by decide +kernel
theorem dX12_isWord_0 : decode cX12_isWord 0 = .ok (.aload_n 0, 1) := by decide +kernel
theorem dX12_isWord_1 : decode cX12_isWord 1 = .ok (.getfield 30, 3) := by decide +kernel
theorem dX12_isWord_4 : decode cX12_isWord 4 = .ok (.iconst 2, 1) := by decide +kernel
theorem dX12_isWord_5 : decode cX12_isWord 5 = .ok (.if_icmp .ne 19, 3) := by decide +kernel
theorem dX12_isWord_24 : decode cX12_isWord 24 = .ok (.iconst 0, 1) := by decide +kernel
theorem dX12_isWord_25 : decode cX12_isWord 25 = .ok (.ireturn, 1) := by decide +kernel
theorem dX12_bad_0 : decode cX12_bad 0 = .ok (.aload_n 0, 1) := by decide +kernel
theorem dX12_bad_1 : decode cX12_bad 1 = .ok (.aload_n 0, 1) := by decide +kernel
theorem dX12_bad_2 : decode cX12_bad 2 = .ok (.getfield 30, 3) := by decide +kernel
theorem dX12_bad_5 : decode cX12_bad 5 = .ok (.iconst 1, 1) := by decide +kernel
theorem dX12_bad_6 : decode cX12_bad 6 = .ok (.if_icmp .ne 7, 3) := by decide +kernel
theorem dX12_bad_13 : decode cX12_bad 13 = .ok (.iload_n 1, 1) := by decide +kernel
theorem dX12_bad_14 : decode cX12_bad 14 = .ok (.putfield 66, 3) := by decide +kernel
theorem dX12_bad_17 : decode cX12_bad 17 = .ok (.aload_n 0, 1) := by decide +kernel
theorem dX12_bad_18 : decode cX12_bad 18 = .ok (.aload_n 0, 1) := by decide +kernel
theorem dX12_bad_19 : decode cX12_bad 19 = .ok (.getfield 24, 3) := by decide +kernel
theorem dX12_bad_22 : decode cX12_bad 22 = .ok (.putfield 69, 3) := by decide +kernel
theorem dX12_bad_25 : decode cX12_bad 25 = .ok (.iconst 0, 1) := by decide +kernel
theorem dX12_bad_26 : decode cX12_bad 26 = .ok (.ireturn, 1) := by decide +kernel
theorem dX12_readSaid_0 : decode cX12_readSaid 0 = .ok (.aload_n 0, 1) := by decide +kernel
theorem dX12_readSaid_1 : decode cX12_readSaid 1 = .ok (.bipush 40, 2) := by decide +kernel
theorem dX12_readSaid_3 : decode cX12_readSaid 3 = .ok (.invokevirtual 86, 3) := by decide +kernel
theorem dX12_readSaid_6 : decode cX12_readSaid 6 = .ok (.istore_n 1, 1) := by decide +kernel
theorem dX12_readSaid_7 : decode cX12_readSaid 7 = .ok (.bipush 15, 2) := by decide +kernel
theorem dX12_readSaid_9 : decode cX12_readSaid 9 = .ok (.istore_n 2, 1) := by decide +kernel
theorem dX12_readSaid_10 : decode cX12_readSaid 10 = .ok (.iload_n 2, 1) := by decide +kernel
theorem dX12_readSaid_11 : decode cX12_readSaid 11 = .ok (.bipush 23, 2) := by decide +kernel
theorem dX12_readSaid_13 : decode cX12_readSaid 13 = .ok (.if_icmp .gt 17, 3) := by decide +kernel
theorem dX12_readSaid_16 : decode cX12_readSaid 16 = .ok (.aload_n 0, 1) := by decide +kernel
theorem dX12_readSaid_17 : decode cX12_readSaid 17 = .ok (.iload_n 2, 1) := by decide +kernel
theorem dX12_readSaid_18 : decode cX12_readSaid 18 = .ok (.invokevirtual 172, 3) := by decide +kernel
theorem dX12_readSaid_21 : decode cX12_readSaid 21 = .ok (.ifCond .ne 9, 3) := by decide +kernel
theorem dX12_readSaid_24 : decode cX12_readSaid 24 = .ok (.iinc 2 1, 3) := by decide +kernel
theorem dX12_readSaid_27 : decode cX12_readSaid 27 = .ok (.goto (-17), 3) := by decide +kernel
theorem dX12_readSaid_30 : decode cX12_readSaid 30 = .ok (.iload_n 1, 1) := by decide +kernel
theorem dX12_readSaid_31 : decode cX12_readSaid 31 = .ok (.ifCond .ne 15, 3) := by decide +kernel
theorem dX12_readSaid_34 : decode cX12_readSaid 34 = .ok (.iload_n 2, 1) := by decide +kernel
theorem dX12_readSaid_35 : decode cX12_readSaid 35 = .ok (.bipush 23, 2) := by decide +kernel
theorem dX12_readSaid_37 : decode cX12_readSaid 37 = .ok (.if_icmp .le 9, 3) := by decide +kernel
theorem dX12_readSaid_40 : decode cX12_readSaid 40 = .ok (.aload_n 0, 1) := by decide +kernel
theorem dX12_readSaid_41 : decode cX12_readSaid 41 = .ok (.iconst 1, 1) := by decide +kernel
theorem dX12_readSaid_42 : decode cX12_readSaid 42 = .ok (.invokevirtual 72, 3) := by decide +kernel
theorem dX12_readSaid_45 : decode cX12_readSaid 45 = .ok (.ireturn, 1) := by decide +kernel
theorem dX12_readAnd_0 : decode cX12_readAnd 0 = .ok (.aload_n 0, 1) := by decide +kernel
theorem dX12_readAnd_1 : decode cX12_readAnd 1 = .ok (.invokevirtual 412, 3) := by decide +kernel
theorem dX12_readAnd_4 : decode cX12_readAnd 4 = .ok (.ifCond .ne 5, 3) := by decide +kernel
theorem dX12_readAnd_7 : decode cX12_readAnd 7 = .ok (.iconst 0, 1) := by decide +kernel
theorem dX12_readAnd_8 : decode cX12_readAnd 8 = .ok (.ireturn, 1) := by decide +kernel
theorem dX12_readOr_0 : decode cX12_readOr 0 = .ok (.aload_n 0, 1) := by decide +kernel
theorem dX12_readOr_1 : decode cX12_readOr 1 = .ok (.invokevirtual 402, 3) := by decide +kernel
theorem dX12_readOr_4 : decode cX12_readOr 4 = .ok (.ifCond .ne 5, 3) := by decide +kernel
theorem dX12_readOr_7 : decode cX12_readOr 7 = .ok (.iconst 0, 1) := by decide +kernel
theorem dX12_readOr_8 : decode cX12_readOr 8 = .ok (.ireturn, 1) := by decide +kernel
theorem dX12_sentence_0 : decode cX12_sentence 0 = .ok (.aload_n 0, 1) := by decide +kernel
theorem dX12_sentence_1 : decode cX12_sentence 1 = .ok (.sipush 200, 3) := by decide +kernel
theorem dX12_sentence_4 : decode cX12_sentence 4 = .ok (.invokevirtual 205, 3) := by decide +kernel
theorem dX12_sentence_7 : decode cX12_sentence 7 = .ok (.aload_n 0, 1) := by decide +kernel
theorem dX12_sentence_8 : decode cX12_sentence 8 = .ok (.iconst 0, 1) := by decide +kernel
theorem dX12_sentence_9 : decode cX12_sentence 9 = .ok (.putfield 399, 3) := by decide +kernel
theorem dX12_sentence_12 : decode cX12_sentence 12 = .ok (.aload_n 0, 1) := by decide +kernel
theorem dX12_sentence_13 : decode cX12_sentence 13 = .ok (.iconst 0, 1) := by decide +kernel
theorem dX12_sentence_14 : decode cX12_sentence 14 = .ok (.putfield 415, 3) := by decide +kernel
theorem dX12_sentence_17 : decode cX12_sentence 17 = .ok (.aload_n 0, 1) := by decide +kernel
theorem dX12_sentence_18 : decode cX12_sentence 18 = .ok (.iconst 0, 1) := by decide +kernel
theorem dX12_sentence_19 : decode cX12_sentence 19 = .ok (.putfield 418, 3) := by decide +kernel
theorem dX12_sentence_22 : decode cX12_sentence 22 = .ok (.aload_n 0, 1) := by decide +kernel
theorem dX12_sentence_23 : decode cX12_sentence 23 = .ok (.invokevirtual 433, 3) := by decide +kernel
theorem dX12_sentence_26 : decode cX12_sentence 26 = .ok (.ifCond .ne 10, 3) := by decide +kernel
theorem dX12_sentence_29 : decode cX12_sentence 29 = .ok (.iconst (-1), 1) := by decide +kernel
theorem dX12_sentence_30 : decode cX12_sentence 30 = .ok (.aload_n 0, 1) := by decide +kernel
theorem dX12_sentence_31 : decode cX12_sentence 31 = .ok (.getfield 69, 3) := by decide +kernel
theorem dX12_sentence_34 : decode cX12_sentence 34 = .ok (.isub, 1) := by decide +kernel
theorem dX12_sentence_35 : decode cX12_sentence 35 = .ok (.ireturn, 1) := by decide +kernel
theorem dX12_said_0 : decode cX12_said 0 = .ok (.aload_n 0, 1) := by decide +kernel
theorem dX12_said_1 : decode cX12_said 1 = .ok (.iconst 0, 1) := by decide +kernel
theorem dX12_said_2 : decode cX12_said 2 = .ok (.putfield 1, 3) := by decide +kernel
theorem dX12_said_5 : decode cX12_said 5 = .ok (.aload_n 0, 1) := by decide +kernel
theorem dX12_said_6 : decode cX12_said 6 = .ok (.getfield 98, 3) := by decide +kernel
theorem dX12_said_9 : decode cX12_said 9 = .ok (.sipush 131, 3) := by decide +kernel
theorem dX12_said_12 : decode cX12_said 12 = .ok (.iaload, 1) := by decide +kernel
theorem dX12_said_13 : decode cX12_said 13 = .ok (.ifCond .ne 5, 3) := by decide +kernel
theorem dX12_said_16 : decode cX12_said 16 = .ok (.iconst (-1), 1) := by decide +kernel
theorem dX12_said_17 : decode cX12_said 17 = .ok (.ireturn, 1) := by decide +kernel
theorem dX12_image_0 : decode cX12_image 0 = .ok (.aload_n 0, 1) := by decide +kernel
theorem dX12_image_1 : decode cX12_image 1 = .ok (.iconst 0, 1) := by decide +kernel
theorem dX12_image_2 : decode cX12_image 2 = .ok (.putfield 1, 3) := by decide +kernel
theorem dX12_image_5 : decode cX12_image 5 = .ok (.iload_n 1, 1) := by decide +kernel
theorem dX12_image_6 : decode cX12_image 6 = .ok (.iconst 0, 1) := by decide +kernel
theorem dX12_image_7 : decode cX12_image 7 = .ok (.iconst 1, 1) := by decide +kernel
theorem dX12_image_8 : decode cX12_image 8 = .ok (.invokestatic 75, 3) := by decide +kernel
theorem dX12_image_11 : decode cX12_image 11 = .ok (.ifCond .ne 5, 3) := by decide +kernel
theorem dX12_image_16 : decode cX12_image 16 = .ok (.iconst 0, 1) := by decide +kernel
theorem dX12_image_17 : decode cX12_image 17 = .ok (.istore_n 2, 1) := by decide +kernel
theorem dX12_image_18 : decode cX12_image 18 = .ok (.iload_n 2, 1) := by decide +kernel
theorem dX12_image_19 : decode cX12_image 19 = .ok (.sipush 373, 3) := by decide +kernel
theorem dX12_image_22 : decode cX12_image 22 = .ok (.if_icmp .ge 27, 3) := by decide +kernel
theorem dX12_image_25 : decode cX12_image 25 = .ok (.aload_n 0, 1) := by decide +kernel
theorem dX12_image_26 : decode cX12_image 26 = .ok (.getfield 104, 3) := by decide +kernel
theorem dX12_image_29 : decode cX12_image 29 = .ok (.sipush 373, 3) := by decide +kernel
theorem dX12_image_32 : decode cX12_image 32 = .ok (.iload_n 1, 1) := by decide +kernel
theorem dX12_image_33 : decode cX12_image 33 = .ok (.imul, 1) := by decide +kernel
theorem dX12_image_34 : decode cX12_image 34 = .ok (.iload_n 2, 1) := by decide +kernel
theorem dX12_image_35 : decode cX12_image 35 = .ok (.iadd, 1) := by decide +kernel
theorem dX12_image_36 : decode cX12_image 36 = .ok (.aload_n 0, 1) := by decide +kernel
theorem dX12_image_37 : decode cX12_image 37 = .ok (.getfield 98, 3) := by decide +kernel
theorem dX12_image_40 : decode cX12_image 40 = .ok (.iload_n 2, 1) := by decide +kernel
theorem dX12_image_41 : decode cX12_image 41 = .ok (.iaload, 1) := by decide +kernel
theorem dX12_image_42 : decode cX12_image 42 = .ok (.iastore, 1) := by decide +kernel
theorem dX12_image_43 : decode cX12_image 43 = .ok (.iinc 2 1, 3) := by decide +kernel
theorem dX12_image_46 : decode cX12_image 46 = .ok (.goto (-28), 3) := by decide +kernel
theorem dX12_image_49 : decode cX12_image 49 = .ok (.iconst 0, 1) := by decide +kernel
theorem dX12_image_50 : decode cX12_image 50 = .ok (.istore_n 2, 1) := by decide +kernel
theorem dX12_image_51 : decode cX12_image 51 = .ok (.iload_n 2, 1) := by decide +kernel
theorem dX12_image_52 : decode cX12_image 52 = .ok (.bipush 19, 2) := by decide +kernel
theorem dX12_image_54 : decode cX12_image 54 = .ok (.if_icmp .ge 26, 3) := by decide +kernel
theorem dX12_image_57 : decode cX12_image 57 = .ok (.aload_n 0, 1) := by decide +kernel
theorem dX12_image_58 : decode cX12_image 58 = .ok (.getfield 120, 3) := by decide +kernel
theorem dX12_image_61 : decode cX12_image 61 = .ok (.bipush 19, 2) := by decide +kernel
theorem dX12_image_63 : decode cX12_image 63 = .ok (.iload_n 1, 1) := by decide +kernel
theorem dX12_image_64 : decode cX12_image 64 = .ok (.imul, 1) := by decide +kernel
theorem dX12_image_65 : decode cX12_image 65 = .ok (.iload_n 2, 1) := by decide +kernel
theorem dX12_image_66 : decode cX12_image 66 = .ok (.iadd, 1) := by decide +kernel
theorem dX12_image_67 : decode cX12_image 67 = .ok (.aload_n 0, 1) := by decide +kernel
theorem dX12_image_68 : decode cX12_image 68 = .ok (.getfield 113, 3) := by decide +kernel
theorem dX12_image_71 : decode cX12_image 71 = .ok (.iload_n 2, 1) := by decide +kernel
theorem dX12_image_72 : decode cX12_image 72 = .ok (.laload, 1) := by decide +kernel
theorem dX12_image_73 : decode cX12_image 73 = .ok (.lastore, 1) := by decide +kernel
theorem dX12_image_74 : decode cX12_image 74 = .ok (.iinc 2 1, 3) := by decide +kernel
theorem dX12_image_77 : decode cX12_image 77 = .ok (.goto (-26), 3) := by decide +kernel
theorem dX12_image_80 : decode cX12_image 80 = .ok (.aload_n 0, 1) := by decide +kernel
theorem dX12_image_81 : decode cX12_image 81 = .ok (.getfield 123, 3) := by decide +kernel
theorem dX12_image_84 : decode cX12_image 84 = .ok (.iload_n 1, 1) := by decide +kernel
theorem dX12_image_85 : decode cX12_image 85 = .ok (.iconst 1, 1) := by decide +kernel
theorem dX12_image_86 : decode cX12_image 86 = .ok (.bastore, 1) := by decide +kernel
theorem dX12_image_87 : decode cX12_image 87 = .ok (.iconst 1, 1) := by decide +kernel
theorem dX12_image_88 : decode cX12_image 88 = .ok (.ireturn, 1) := by decide +kernel
theorem dX12_image_14 : decode cX12_image 14 = .ok (.iconst 0, 1) := by decide +kernel
theorem dX12_image_15 : decode cX12_image 15 = .ok (.ireturn, 1) := by decide +kernel
theorem dX12_restore_0 : decode cX12_restore 0 = .ok (.aload_n 0, 1) := by decide +kernel
theorem dX12_restore_1 : decode cX12_restore 1 = .ok (.iconst 0, 1) := by decide +kernel
theorem dX12_restore_2 : decode cX12_restore 2 = .ok (.putfield 1, 3) := by decide +kernel
theorem dX12_restore_5 : decode cX12_restore 5 = .ok (.iload_n 1, 1) := by decide +kernel
theorem dX12_restore_6 : decode cX12_restore 6 = .ok (.iconst 0, 1) := by decide +kernel
theorem dX12_restore_7 : decode cX12_restore 7 = .ok (.iconst 1, 1) := by decide +kernel
theorem dX12_restore_8 : decode cX12_restore 8 = .ok (.invokestatic 75, 3) := by decide +kernel
theorem dX12_restore_11 : decode cX12_restore 11 = .ok (.ifCond .eq 12, 3) := by decide +kernel
theorem dX12_restore_14 : decode cX12_restore 14 = .ok (.aload_n 0, 1) := by decide +kernel
theorem dX12_restore_15 : decode cX12_restore 15 = .ok (.getfield 123, 3) := by decide +kernel
theorem dX12_restore_18 : decode cX12_restore 18 = .ok (.iload_n 1, 1) := by decide +kernel
theorem dX12_restore_19 : decode cX12_restore 19 = .ok (.baload, 1) := by decide +kernel
theorem dX12_restore_20 : decode cX12_restore 20 = .ok (.ifCond .ne 5, 3) := by decide +kernel
theorem dX12_restore_23 : decode cX12_restore 23 = .ok (.iconst 0, 1) := by decide +kernel
theorem dX12_restore_24 : decode cX12_restore 24 = .ok (.ireturn, 1) := by decide +kernel
theorem dX12_count_0 : decode cX12_count 0 = .ok (.aload_n 0, 1) := by decide +kernel
theorem dX12_count_1 : decode cX12_count 1 = .ok (.iconst 0, 1) := by decide +kernel
theorem dX12_count_2 : decode cX12_count 2 = .ok (.putfield 1, 3) := by decide +kernel
theorem dX12_count_5 : decode cX12_count 5 = .ok (.iload_n 1, 1) := by decide +kernel
theorem dX12_count_6 : decode cX12_count 6 = .ok (.tableswitch 56 0 3 #[30, 37, 44, 51], 30) := by decide +kernel
theorem dX12_count_36 : decode cX12_count 36 = .ok (.aload_n 0, 1) := by decide +kernel
theorem dX12_count_37 : decode cX12_count 37 = .ok (.getfield 98, 3) := by decide +kernel
theorem dX12_count_40 : decode cX12_count 40 = .ok (.iconst 0, 1) := by decide +kernel
theorem dX12_count_41 : decode cX12_count 41 = .ok (.iaload, 1) := by decide +kernel
theorem dX12_count_42 : decode cX12_count 42 = .ok (.ireturn, 1) := by decide +kernel
theorem dX12_count_43 : decode cX12_count 43 = .ok (.aload_n 0, 1) := by decide +kernel
theorem dX12_count_44 : decode cX12_count 44 = .ok (.getfield 98, 3) := by decide +kernel
theorem dX12_count_47 : decode cX12_count 47 = .ok (.iconst 1, 1) := by decide +kernel
theorem dX12_count_48 : decode cX12_count 48 = .ok (.iaload, 1) := by decide +kernel
theorem dX12_count_49 : decode cX12_count 49 = .ok (.ireturn, 1) := by decide +kernel
theorem dX12_count_50 : decode cX12_count 50 = .ok (.aload_n 0, 1) := by decide +kernel
theorem dX12_count_51 : decode cX12_count 51 = .ok (.getfield 98, 3) := by decide +kernel
theorem dX12_count_54 : decode cX12_count 54 = .ok (.iconst 2, 1) := by decide +kernel
theorem dX12_count_55 : decode cX12_count 55 = .ok (.iaload, 1) := by decide +kernel
theorem dX12_count_56 : decode cX12_count 56 = .ok (.ireturn, 1) := by decide +kernel
theorem dX12_count_57 : decode cX12_count 57 = .ok (.aload_n 0, 1) := by decide +kernel
theorem dX12_count_58 : decode cX12_count 58 = .ok (.getfield 11, 3) := by decide +kernel
theorem dX12_count_61 : decode cX12_count 61 = .ok (.ireturn, 1) := by decide +kernel
theorem dX12_count_62 : decode cX12_count 62 = .ok (.iconst (-1), 1) := by decide +kernel
theorem dX12_count_63 : decode cX12_count 63 = .ok (.ireturn, 1) := by decide +kernel
