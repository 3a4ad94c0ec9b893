theorem dX12_goBy_84 : decode cX12_goBy 84 = .ok (.ifCond .eq 15, 3) := by decide +kernel
theorem dX12_goBy_99 : decode cX12_goBy 99 = .ok (.aload_n 0, 1) := by decide +kernel
theorem dX12_goBy_100 : decode cX12_goBy 100 = .ok (.aload_n 0, 1) := by decide +kernel
theorem dX12_goBy_101 : decode cX12_goBy 101 = .ok (.getfield 145, 3) := by decide +kernel
theorem dX12_goBy_104 : decode cX12_goBy 104 = .ok (.iload_n 1, 1) := by decide +kernel
theorem dX12_goBy_105 : decode cX12_goBy 105 = .ok (.iaload, 1) := by decide +kernel
theorem dX12_goBy_106 : decode cX12_goBy 106 = .ok (.iload_n 2, 1) := by decide +kernel
theorem dX12_goBy_107 : decode cX12_goBy 107 = .ok (.aload_n 0, 1) := by decide +kernel
theorem dX12_goBy_108 : decode cX12_goBy 108 = .ok (.getfield 145, 3) := by decide +kernel
theorem dX12_goBy_111 : decode cX12_goBy 111 = .ok (.iload_n 1, 1) := by decide +kernel
theorem dX12_goBy_112 : decode cX12_goBy 112 = .ok (.iconst 2, 1) := by decide +kernel
theorem dX12_goBy_113 : decode cX12_goBy 113 = .ok (.iadd, 1) := by decide +kernel
theorem dX12_goBy_114 : decode cX12_goBy 114 = .ok (.iaload, 1) := by decide +kernel
theorem dX12_goBy_115 : decode cX12_goBy 115 = .ok (.aload_n 0, 1) := by decide +kernel
theorem dX12_goBy_116 : decode cX12_goBy 116 = .ok (.getfield 145, 3) := by decide +kernel
theorem dX12_goBy_119 : decode cX12_goBy 119 = .ok (.iload_n 1, 1) := by decide +kernel
theorem dX12_goBy_120 : decode cX12_goBy 120 = .ok (.iconst 3, 1) := by decide +kernel
theorem dX12_goBy_121 : decode cX12_goBy 121 = .ok (.iadd, 1) := by decide +kernel
theorem dX12_goBy_122 : decode cX12_goBy 122 = .ok (.iaload, 1) := by decide +kernel
theorem dX12_goBy_123 : decode cX12_goBy 123 = .ok (.aload_n 0, 1) := by decide +kernel
theorem dX12_goBy_124 : decode cX12_goBy 124 = .ok (.getfield 145, 3) := by decide +kernel
theorem dX12_goBy_127 : decode cX12_goBy 127 = .ok (.iload_n 1, 1) := by decide +kernel
theorem dX12_goBy_128 : decode cX12_goBy 128 = .ok (.iconst 4, 1) := by decide +kernel
theorem dX12_goBy_129 : decode cX12_goBy 129 = .ok (.iadd, 1) := by decide +kernel
theorem dX12_goBy_130 : decode cX12_goBy 130 = .ok (.iaload, 1) := by decide +kernel
theorem dX12_goBy_131 : decode cX12_goBy 131 = .ok (.invokevirtual 267, 3) := by decide +kernel
theorem dX12_goBy_134 : decode cX12_goBy 134 = .ok (.iconst 0, 1) := by decide +kernel
theorem dX12_goBy_135 : decode cX12_goBy 135 = .ok (.ireturn, 1) := by decide +kernel
theorem dX12_goBy_87 : decode cX12_goBy 87 = .ok (.bipush 10, 2) := by decide +kernel
theorem dX12_goBy_89 : decode cX12_goBy 89 = .ok (.aload_n 0, 1) := by decide +kernel
theorem dX12_goBy_90 : decode cX12_goBy 90 = .ok (.getfield 145, 3) := by decide +kernel
theorem dX12_goBy_93 : decode cX12_goBy 93 = .ok (.iload_n 1, 1) := by decide +kernel
theorem dX12_goBy_94 : decode cX12_goBy 94 = .ok (.iaload, 1) := by decide +kernel
theorem dX12_goBy_95 : decode cX12_goBy 95 = .ok (.imul, 1) := by decide +kernel
theorem dX12_goBy_96 : decode cX12_goBy 96 = .ok (.iload_n 3, 1) := by decide +kernel
theorem dX12_goBy_97 : decode cX12_goBy 97 = .ok (.iadd, 1) := by decide +kernel
theorem dX12_goBy_98 : decode cX12_goBy 98 = .ok (.ireturn, 1) := by decide +kernel
theorem dX12_goBy_20 : decode cX12_goBy 20 = .ok (.aload_n 0, 1) := by decide +kernel
theorem dX12_goBy_21 : decode cX12_goBy 21 = .ok (.getfield 98, 3) := by decide +kernel
theorem dX12_goBy_24 : decode cX12_goBy 24 = .ok (.bipush 61, 2) := by decide +kernel
theorem dX12_goBy_26 : decode cX12_goBy 26 = .ok (.iaload, 1) := by decide +kernel
theorem dX12_goBy_27 : decode cX12_goBy 27 = .ok (.iload_n 2, 1) := by decide +kernel
theorem dX12_goBy_28 : decode cX12_goBy 28 = .ok (.iadd, 1) := by decide +kernel
theorem dX12_goBy_29 : decode cX12_goBy 29 = .ok (.sipush 400, 3) := by decide +kernel
theorem dX12_goBy_32 : decode cX12_goBy 32 = .ok (.if_icmp .le 6, 3) := by decide +kernel
theorem dX12_goBy_38 : decode cX12_goBy 38 = .ok (.aload_n 0, 1) := by decide +kernel
theorem dX12_goBy_39 : decode cX12_goBy 39 = .ok (.iload_n 2, 1) := by decide +kernel
theorem dX12_goBy_40 : decode cX12_goBy 40 = .ok (.iload_n 2, 1) := by decide +kernel
theorem dX12_goBy_41 : decode cX12_goBy 41 = .ok (.invokevirtual 303, 3) := by decide +kernel
theorem dX12_goBy_44 : decode cX12_goBy 44 = .ok (.pop, 1) := by decide +kernel
theorem dX12_goBy_45 : decode cX12_goBy 45 = .ok (.iconst 0, 1) := by decide +kernel
theorem dX12_goBy_46 : decode cX12_goBy 46 = .ok (.ireturn, 1) := by decide +kernel
theorem dX12_goBy_35 : decode cX12_goBy 35 = .ok (.bipush 51, 2) := by decide +kernel
theorem dX12_goBy_37 : decode cX12_goBy 37 = .ok (.ireturn, 1) := by decide +kernel
theorem dX12_stay_0 : decode cX12_stay 0 = .ok (.iconst 0, 1) := by decide +kernel
theorem dX12_stay_1 : decode cX12_stay 1 = .ok (.istore_n 2, 1) := by decide +kernel
theorem dX12_stay_2 : decode cX12_stay 2 = .ok (.iload_n 2, 1) := by decide +kernel
theorem dX12_stay_3 : decode cX12_stay 3 = .ok (.bipush 70, 2) := by decide +kernel
theorem dX12_stay_5 : decode cX12_stay 5 = .ok (.if_icmp .ge 41, 3) := by decide +kernel
theorem dX12_stay_46 : decode cX12_stay 46 = .ok (.iload_n 1, 1) := by decide +kernel
theorem dX12_stay_47 : decode cX12_stay 47 = .ok (.ifCond .ne 4, 3) := by decide +kernel
theorem dX12_stay_50 : decode cX12_stay 50 = .ok (.return_, 1) := by decide +kernel
theorem dX12_stay_8 : decode cX12_stay 8 = .ok (.aload_n 0, 1) := by decide +kernel
theorem dX12_stay_9 : decode cX12_stay 9 = .ok (.getfield 98, 3) := by decide +kernel
theorem dX12_stay_12 : decode cX12_stay 12 = .ok (.bipush 61, 2) := by decide +kernel
theorem dX12_stay_14 : decode cX12_stay 14 = .ok (.iload_n 2, 1) := by decide +kernel
theorem dX12_stay_15 : decode cX12_stay 15 = .ok (.iadd, 1) := by decide +kernel
theorem dX12_stay_16 : decode cX12_stay 16 = .ok (.iaload, 1) := by decide +kernel
theorem dX12_stay_17 : decode cX12_stay 17 = .ok (.istore_n 3, 1) := by decide +kernel
theorem dX12_stay_18 : decode cX12_stay 18 = .ok (.aload_n 0, 1) := by decide +kernel
theorem dX12_stay_19 : decode cX12_stay 19 = .ok (.getfield 98, 3) := by decide +kernel
theorem dX12_stay_22 : decode cX12_stay 22 = .ok (.bipush 61, 2) := by decide +kernel
theorem dX12_stay_24 : decode cX12_stay 24 = .ok (.iload_n 2, 1) := by decide +kernel
theorem dX12_stay_25 : decode cX12_stay 25 = .ok (.iadd, 1) := by decide +kernel
theorem dX12_stay_26 : decode cX12_stay 26 = .ok (.aload_n 0, 1) := by decide +kernel
theorem dX12_stay_27 : decode cX12_stay 27 = .ok (.getfield 110, 3) := by decide +kernel
theorem dX12_stay_30 : decode cX12_stay 30 = .ok (.iload_n 2, 1) := by decide +kernel
theorem dX12_stay_31 : decode cX12_stay 31 = .ok (.iaload, 1) := by decide +kernel
theorem dX12_stay_32 : decode cX12_stay 32 = .ok (.iastore, 1) := by decide +kernel
theorem dX12_stay_33 : decode cX12_stay 33 = .ok (.aload_n 0, 1) := by decide +kernel
theorem dX12_stay_34 : decode cX12_stay 34 = .ok (.getfield 110, 3) := by decide +kernel
theorem dX12_stay_37 : decode cX12_stay 37 = .ok (.iload_n 2, 1) := by decide +kernel
theorem dX12_stay_38 : decode cX12_stay 38 = .ok (.iload_n 3, 1) := by decide +kernel
theorem dX12_stay_39 : decode cX12_stay 39 = .ok (.iastore, 1) := by decide +kernel
theorem dX12_stay_40 : decode cX12_stay 40 = .ok (.iinc 2 1, 3) := by decide +kernel
theorem dX12_stay_43 : decode cX12_stay 43 = .ok (.goto (-41), 3) := by decide +kernel
theorem dX12_stay_51 : decode cX12_stay 51 = .ok (.aload_n 0, 1) := by decide +kernel
theorem dX12_stay_52 : decode cX12_stay 52 = .ok (.invokevirtual 264, 3) := by decide +kernel
theorem dX12_stay_55 : decode cX12_stay 55 = .ok (.aload_n 0, 1) := by decide +kernel
theorem dX12_stay_56 : decode cX12_stay 56 = .ok (.invokevirtual 356, 3) := by decide +kernel
theorem dX12_stay_59 : decode cX12_stay 59 = .ok (.return_, 1) := by decide +kernel
theorem dX12_book_0 : decode cX12_book 0 = .ok (.aload_n 0, 1) := by decide +kernel
theorem dX12_book_1 : decode cX12_book 1 = .ok (.iconst 0, 1) := by decide +kernel
theorem dX12_book_2 : decode cX12_book 2 = .ok (.putfield 1, 3) := by decide +kernel
theorem dX12_book_5 : decode cX12_book 5 = .ok (.iload_n 1, 1) := by decide +kernel
theorem dX12_book_6 : decode cX12_book 6 = .ok (.iconst 0, 1) := by decide +kernel
theorem dX12_book_7 : decode cX12_book 7 = .ok (.iconst 1, 1) := by decide +kernel
theorem dX12_book_8 : decode cX12_book 8 = .ok (.invokestatic 75, 3) := by decide +kernel
theorem dX12_book_11 : decode cX12_book 11 = .ok (.ifCond .ne 7, 3) := by decide +kernel
theorem dX12_book_18 : decode cX12_book 18 = .ok (.aload_n 0, 1) := by decide +kernel
theorem dX12_book_19 : decode cX12_book 19 = .ok (.sipush 400, 3) := by decide +kernel
theorem dX12_book_22 : decode cX12_book 22 = .ok (.invokevirtual 205, 3) := by decide +kernel
theorem dX12_book_25 : decode cX12_book 25 = .ok (.aload_n 0, 1) := by decide +kernel
theorem dX12_book_26 : decode cX12_book 26 = .ok (.iconst 0, 1) := by decide +kernel
theorem dX12_book_27 : decode cX12_book 27 = .ok (.putfield 374, 3) := by decide +kernel
theorem dX12_book_30 : decode cX12_book 30 = .ok (.aload_n 0, 1) := by decide +kernel
theorem dX12_book_31 : decode cX12_book 31 = .ok (.getfield 30, 3) := by decide +kernel
theorem dX12_book_34 : decode cX12_book 34 = .ok (.ifCond .eq 31, 3) := by decide +kernel
theorem dX12_book_65 : decode cX12_book 65 = .ok (.aload_n 0, 1) := by decide +kernel
theorem dX12_book_66 : decode cX12_book 66 = .ok (.invokevirtual 353, 3) := by decide +kernel
theorem dX12_book_69 : decode cX12_book 69 = .ok (.iconst 0, 1) := by decide +kernel
theorem dX12_book_70 : decode cX12_book 70 = .ok (.istore_n 2, 1) := by decide +kernel
theorem dX12_book_71 : decode cX12_book 71 = .ok (.iconst 0, 1) := by decide +kernel
theorem dX12_book_72 : decode cX12_book 72 = .ok (.istore_n 3, 1) := by decide +kernel
theorem dX12_book_73 : decode cX12_book 73 = .ok (.iload_n 2, 1) := by decide +kernel
theorem dX12_book_74 : decode cX12_book 74 = .ok (.aload_n 0, 1) := by decide +kernel
theorem dX12_book_75 : decode cX12_book 75 = .ok (.getfield 374, 3) := by decide +kernel
theorem dX12_book_78 : decode cX12_book 78 = .ok (.if_icmp .ge 25, 3) := by decide +kernel
theorem dX12_book_103 : decode cX12_book 103 = .ok (.aload_n 0, 1) := by decide +kernel
theorem dX12_book_104 : decode cX12_book 104 = .ok (.getfield 148, 3) := by decide +kernel
theorem dX12_book_107 : decode cX12_book 107 = .ok (.iconst 0, 1) := by decide +kernel
theorem dX12_book_108 : decode cX12_book 108 = .ok (.iload_n 3, 1) := by decide +kernel
theorem dX12_book_109 : decode cX12_book 109 = .ok (.iastore, 1) := by decide +kernel
theorem dX12_book_110 : decode cX12_book 110 = .ok (.aload_n 0, 1) := by decide +kernel
theorem dX12_book_111 : decode cX12_book 111 = .ok (.getfield 148, 3) := by decide +kernel
theorem dX12_book_114 : decode cX12_book 114 = .ok (.iconst 1, 1) := by decide +kernel
theorem dX12_book_115 : decode cX12_book 115 = .ok (.iload_n 2, 1) := by decide +kernel
theorem dX12_book_116 : decode cX12_book 116 = .ok (.iastore, 1) := by decide +kernel
theorem dX12_book_117 : decode cX12_book 117 = .ok (.aload_n 0, 1) := by decide +kernel
theorem dX12_book_118 : decode cX12_book 118 = .ok (.getfield 148, 3) := by decide +kernel
theorem dX12_book_121 : decode cX12_book 121 = .ok (.iconst 2, 1) := by decide +kernel
theorem dX12_book_122 : decode cX12_book 122 = .ok (.aload_n 0, 1) := by decide +kernel
theorem dX12_book_123 : decode cX12_book 123 = .ok (.getfield 98, 3) := by decide +kernel
theorem dX12_book_126 : decode cX12_book 126 = .ok (.bipush 61, 2) := by decide +kernel
theorem dX12_book_128 : decode cX12_book 128 = .ok (.iaload, 1) := by decide +kernel
theorem dX12_book_129 : decode cX12_book 129 = .ok (.iastore, 1) := by decide +kernel
theorem dX12_book_130 : decode cX12_book 130 = .ok (.aload_n 0, 1) := by decide +kernel
theorem dX12_book_131 : decode cX12_book 131 = .ok (.getfield 148, 3) := by decide +kernel
theorem dX12_book_134 : decode cX12_book 134 = .ok (.iconst 3, 1) := by decide +kernel
theorem dX12_book_135 : decode cX12_book 135 = .ok (.aload_n 0, 1) := by decide +kernel
theorem dX12_book_136 : decode cX12_book 136 = .ok (.invokevirtual 253, 3) := by decide +kernel
theorem dX12_book_139 : decode cX12_book 139 = .ok (.iastore, 1) := by decide +kernel
theorem dX12_book_140 : decode cX12_book 140 = .ok (.aload_n 0, 1) := by decide +kernel
theorem dX12_book_141 : decode cX12_book 141 = .ok (.iconst 1, 1) := by decide +kernel
theorem dX12_book_142 : decode cX12_book 142 = .ok (.putfield 392, 3) := by decide +kernel
theorem dX12_book_145 : decode cX12_book 145 = .ok (.aload_n 0, 1) := by decide +kernel
theorem dX12_book_146 : decode cX12_book 146 = .ok (.iload_n 1, 1) := by decide +kernel
theorem dX12_book_147 : decode cX12_book 147 = .ok (.iconst 1, 1) := by decide +kernel
theorem dX12_book_148 : decode cX12_book 148 = .ok (.if_icmp .ne 11, 3) := by decide +kernel
theorem dX12_book_159 : decode cX12_book 159 = .ok (.iconst 0, 1) := by decide +kernel
theorem dX12_book_160 : decode cX12_book 160 = .ok (.invokevirtual 395, 3) := by decide +kernel
theorem dX12_book_163 : decode cX12_book 163 = .ok (.iload_n 3, 1) := by decide +kernel
theorem dX12_book_164 : decode cX12_book 164 = .ok (.ifCond .ne 7, 3) := by decide +kernel
theorem dX12_book_171 : decode cX12_book 171 = .ok (.iload_n 2, 1) := by decide +kernel
theorem dX12_book_172 : decode cX12_book 172 = .ok (.ireturn, 1) := by decide +kernel
theorem dX12_book_167 : decode cX12_book 167 = .ok (.iconst (-1), 1) := by decide +kernel
theorem dX12_book_168 : decode cX12_book 168 = .ok (.goto 4, 3) := by decide +kernel
theorem dX12_book_151 : decode cX12_book 151 = .ok (.iload_n 2, 1) := by decide +kernel
theorem dX12_book_152 : decode cX12_book 152 = .ok (.ifCond .le 7, 3) := by decide +kernel
theorem dX12_book_155 : decode cX12_book 155 = .ok (.iconst 1, 1) := by decide +kernel
theorem dX12_book_156 : decode cX12_book 156 = .ok (.goto 4, 3) := by decide +kernel
theorem dX12_book_81 : decode cX12_book 81 = .ok (.iload_n 3, 1) := by decide +kernel
theorem dX12_book_82 : decode cX12_book 82 = .ok (.ifCond .ne 21, 3) := by decide +kernel
theorem dX12_book_85 : decode cX12_book 85 = .ok (.aload_n 0, 1) := by decide +kernel
theorem dX12_book_86 : decode cX12_book 86 = .ok (.iconst 5, 1) := by decide +kernel
theorem dX12_book_87 : decode cX12_book 87 = .ok (.iload_n 2, 1) := by decide +kernel
theorem dX12_book_88 : decode cX12_book 88 = .ok (.imul, 1) := by decide +kernel
theorem dX12_book_89 : decode cX12_book 89 = .ok (.invokevirtual 389, 3) := by decide +kernel
theorem dX12_book_92 : decode cX12_book 92 = .ok (.istore_n 3, 1) := by decide +kernel
theorem dX12_book_93 : decode cX12_book 93 = .ok (.iload_n 3, 1) := by decide +kernel
theorem dX12_book_94 : decode cX12_book 94 = .ok (.ifCond .ne (-21), 3) := by decide +kernel
theorem dX12_book_97 : decode cX12_book 97 = .ok (.iinc 2 1, 3) := by decide +kernel
theorem dX12_book_100 : decode cX12_book 100 = .ok (.goto (-27), 3) := by decide +kernel
theorem dX12_book_37 : decode cX12_book 37 = .ok (.aload_n 0, 1) := by decide +kernel
theorem dX12_book_38 : decode cX12_book 38 = .ok (.invokevirtual 386, 3) := by decide +kernel
theorem dX12_book_41 : decode cX12_book 41 = .ok (.ifCond .ne 11, 3) := by decide +kernel
theorem dX12_book_52 : decode cX12_book 52 = .ok (.aload_n 0, 1) := by decide +kernel
theorem dX12_book_53 : decode cX12_book 53 = .ok (.dup, 1) := by decide +kernel
theorem dX12_book_54 : decode cX12_book 54 = .ok (.getfield 374, 3) := by decide +kernel
theorem dX12_book_57 : decode cX12_book 57 = .ok (.iconst 1, 1) := by decide +kernel
theorem dX12_book_58 : decode cX12_book 58 = .ok (.iadd, 1) := by decide +kernel
theorem dX12_book_59 : decode cX12_book 59 = .ok (.putfield 374, 3) := by decide +kernel
theorem dX12_book_62 : decode cX12_book 62 = .ok (.goto (-32), 3) := by decide +kernel
theorem dX12_book_44 : decode cX12_book 44 = .ok (.bipush (-2), 2) := by decide +kernel
theorem dX12_book_46 : decode cX12_book 46 = .ok (.aload_n 0, 1) := by decide +kernel
theorem dX12_book_47 : decode cX12_book 47 = .ok (.getfield 69, 3) := by decide +kernel
theorem dX12_book_50 : decode cX12_book 50 = .ok (.isub, 1) := by decide +kernel
theorem dX12_book_51 : decode cX12_book 51 = .ok (.ireturn, 1) := by decide +kernel
theorem dX12_book_14 : decode cX12_book 14 = .ok (.sipush (-1000), 3) := by decide +kernel
theorem dX12_book_17 : decode cX12_book 17 = .ok (.ireturn, 1) := by decide +kernel
