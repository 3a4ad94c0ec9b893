theorem dX12_odds_77 : decode cX12_odds 77 = .ok (.iinc 5 1, 3) := by decide +kernel
theorem dX12_odds_23 : decode cX12_odds 23 = .ok (.iconst (-1), 1) := by decide +kernel
theorem dX12_odds_24 : decode cX12_odds 24 = .ok (.ireturn, 1) := by decide +kernel
theorem dX12_tracks_0 : decode cX12_tracks 0 = .ok (.aload_n 0, 1) := by decide +kernel
theorem dX12_tracks_1 : decode cX12_tracks 1 = .ok (.iconst 0, 1) := by decide +kernel
theorem dX12_tracks_2 : decode cX12_tracks 2 = .ok (.putfield 1, 3) := by decide +kernel
theorem dX12_tracks_5 : decode cX12_tracks 5 = .ok (.aload_n 0, 1) := by decide +kernel
theorem dX12_tracks_6 : decode cX12_tracks 6 = .ok (.invokevirtual 89, 3) := by decide +kernel
theorem dX12_tracks_9 : decode cX12_tracks 9 = .ok (.istore_n 1, 1) := by decide +kernel
theorem dX12_tracks_10 : decode cX12_tracks 10 = .ok (.iload_n 1, 1) := by decide +kernel
theorem dX12_tracks_11 : decode cX12_tracks 11 = .ok (.iconst 2, 1) := by decide +kernel
theorem dX12_tracks_12 : decode cX12_tracks 12 = .ok (.irem, 1) := by decide +kernel
theorem dX12_tracks_13 : decode cX12_tracks 13 = .ok (.ifCond .ne 15, 3) := by decide +kernel
theorem dX12_tracks_28 : decode cX12_tracks 28 = .ok (.iconst (-1), 1) := by decide +kernel
theorem dX12_tracks_29 : decode cX12_tracks 29 = .ok (.ireturn, 1) := by decide +kernel
theorem dX12_tracks_16 : decode cX12_tracks 16 = .ok (.iload_n 1, 1) := by decide +kernel
theorem dX12_tracks_17 : decode cX12_tracks 17 = .ok (.iconst 2, 1) := by decide +kernel
theorem dX12_tracks_18 : decode cX12_tracks 18 = .ok (.idiv, 1) := by decide +kernel
theorem dX12_tracks_19 : decode cX12_tracks 19 = .ok (.iconst 1, 1) := by decide +kernel
theorem dX12_tracks_20 : decode cX12_tracks 20 = .ok (.bipush 10, 2) := by decide +kernel
theorem dX12_tracks_22 : decode cX12_tracks 22 = .ok (.invokestatic 75, 3) := by decide +kernel
theorem dX12_tracks_25 : decode cX12_tracks 25 = .ok (.ifCond .ne 5, 3) := by decide +kernel
theorem dX12_tracks_30 : decode cX12_tracks 30 = .ok (.iconst 0, 1) := by decide +kernel
theorem dX12_tracks_31 : decode cX12_tracks 31 = .ok (.istore_n 2, 1) := by decide +kernel
theorem dX12_tracks_32 : decode cX12_tracks 32 = .ok (.iload_n 2, 1) := by decide +kernel
theorem dX12_tracks_33 : decode cX12_tracks 33 = .ok (.iload_n 1, 1) := by decide +kernel
theorem dX12_tracks_34 : decode cX12_tracks 34 = .ok (.if_icmp .ge 37, 3) := by decide +kernel
theorem dX12_tracks_71 : decode cX12_tracks 71 = .ok (.iconst 0, 1) := by decide +kernel
theorem dX12_tracks_72 : decode cX12_tracks 72 = .ok (.istore_n 2, 1) := by decide +kernel
theorem dX12_tracks_73 : decode cX12_tracks 73 = .ok (.iconst 0, 1) := by decide +kernel
theorem dX12_tracks_74 : decode cX12_tracks 74 = .ok (.istore_n 3, 1) := by decide +kernel
theorem dX12_tracks_75 : decode cX12_tracks 75 = .ok (.iload_n 3, 1) := by decide +kernel
theorem dX12_tracks_76 : decode cX12_tracks 76 = .ok (.aload_n 0, 1) := by decide +kernel
theorem dX12_tracks_77 : decode cX12_tracks 77 = .ok (.getfield 98, 3) := by decide +kernel
theorem dX12_tracks_80 : decode cX12_tracks 80 = .ok (.iconst 2, 1) := by decide +kernel
theorem dX12_tracks_81 : decode cX12_tracks 81 = .ok (.iaload, 1) := by decide +kernel
theorem dX12_tracks_82 : decode cX12_tracks 82 = .ok (.if_icmp .ge 82, 3) := by decide +kernel
theorem dX12_tracks_164 : decode cX12_tracks 164 = .ok (.iload_n 2, 1) := by decide +kernel
theorem dX12_tracks_165 : decode cX12_tracks 165 = .ok (.ireturn, 1) := by decide +kernel
theorem dX12_tracks_85 : decode cX12_tracks 85 = .ok (.iconst 1, 1) := by decide +kernel
theorem dX12_tracks_86 : decode cX12_tracks 86 = .ok (.istore 4, 2) := by decide +kernel
theorem dX12_tracks_88 : decode cX12_tracks 88 = .ok (.iconst 0, 1) := by decide +kernel
theorem dX12_tracks_89 : decode cX12_tracks 89 = .ok (.istore 5, 2) := by decide +kernel
theorem dX12_tracks_91 : decode cX12_tracks 91 = .ok (.iload 5, 2) := by decide +kernel
theorem dX12_tracks_93 : decode cX12_tracks 93 = .ok (.iload_n 1, 1) := by decide +kernel
theorem dX12_tracks_94 : decode cX12_tracks 94 = .ok (.if_icmp .ge 53, 3) := by decide +kernel
theorem dX12_tracks_147 : decode cX12_tracks 147 = .ok (.iload 4, 2) := by decide +kernel
theorem dX12_tracks_149 : decode cX12_tracks 149 = .ok (.ifCond .eq 9, 3) := by decide +kernel
theorem dX12_tracks_158 : decode cX12_tracks 158 = .ok (.iinc 3 1, 3) := by decide +kernel
theorem dX12_tracks_161 : decode cX12_tracks 161 = .ok (.goto (-86), 3) := by decide +kernel
theorem dX12_tracks_152 : decode cX12_tracks 152 = .ok (.iload_n 2, 1) := by decide +kernel
theorem dX12_tracks_153 : decode cX12_tracks 153 = .ok (.iconst 1, 1) := by decide +kernel
theorem dX12_tracks_154 : decode cX12_tracks 154 = .ok (.iload_n 3, 1) := by decide +kernel
theorem dX12_tracks_155 : decode cX12_tracks 155 = .ok (.ishl, 1) := by decide +kernel
theorem dX12_tracks_156 : decode cX12_tracks 156 = .ok (.ior, 1) := by decide +kernel
theorem dX12_tracks_157 : decode cX12_tracks 157 = .ok (.istore_n 2, 1) := by decide +kernel
theorem dX12_tracks_97 : decode cX12_tracks 97 = .ok (.iload 4, 2) := by decide +kernel
theorem dX12_tracks_99 : decode cX12_tracks 99 = .ok (.ifCond .eq 39, 3) := by decide +kernel
theorem dX12_tracks_138 : decode cX12_tracks 138 = .ok (.iconst 0, 1) := by decide +kernel
theorem dX12_tracks_139 : decode cX12_tracks 139 = .ok (.istore 4, 2) := by decide +kernel
theorem dX12_tracks_141 : decode cX12_tracks 141 = .ok (.iinc 5 2, 3) := by decide +kernel
theorem dX12_tracks_144 : decode cX12_tracks 144 = .ok (.goto (-53), 3) := by decide +kernel
theorem dX12_tracks_102 : decode cX12_tracks 102 = .ok (.aload_n 0, 1) := by decide +kernel
theorem dX12_tracks_103 : decode cX12_tracks 103 = .ok (.aload_n 0, 1) := by decide +kernel
theorem dX12_tracks_104 : decode cX12_tracks 104 = .ok (.getfield 98, 3) := by decide +kernel
theorem dX12_tracks_107 : decode cX12_tracks 107 = .ok (.bipush 42, 2) := by decide +kernel
theorem dX12_tracks_109 : decode cX12_tracks 109 = .ok (.iload_n 3, 1) := by decide +kernel
theorem dX12_tracks_110 : decode cX12_tracks 110 = .ok (.iadd, 1) := by decide +kernel
theorem dX12_tracks_111 : decode cX12_tracks 111 = .ok (.iaload, 1) := by decide +kernel
theorem dX12_tracks_112 : decode cX12_tracks 112 = .ok (.aload_n 0, 1) := by decide +kernel
theorem dX12_tracks_113 : decode cX12_tracks 113 = .ok (.getfield 7, 3) := by decide +kernel
theorem dX12_tracks_116 : decode cX12_tracks 116 = .ok (.iload 5, 2) := by decide +kernel
theorem dX12_tracks_118 : decode cX12_tracks 118 = .ok (.iaload, 1) := by decide +kernel
theorem dX12_tracks_119 : decode cX12_tracks 119 = .ok (.aload_n 0, 1) := by decide +kernel
theorem dX12_tracks_120 : decode cX12_tracks 120 = .ok (.getfield 7, 3) := by decide +kernel
theorem dX12_tracks_123 : decode cX12_tracks 123 = .ok (.iload 5, 2) := by decide +kernel
theorem dX12_tracks_125 : decode cX12_tracks 125 = .ok (.iconst 1, 1) := by decide +kernel
theorem dX12_tracks_126 : decode cX12_tracks 126 = .ok (.iadd, 1) := by decide +kernel
theorem dX12_tracks_127 : decode cX12_tracks 127 = .ok (.iaload, 1) := by decide +kernel
theorem dX12_tracks_128 : decode cX12_tracks 128 = .ok (.invokevirtual 284, 3) := by decide +kernel
theorem dX12_tracks_131 : decode cX12_tracks 131 = .ok (.ifCond .eq 7, 3) := by decide +kernel
theorem dX12_tracks_134 : decode cX12_tracks 134 = .ok (.iconst 1, 1) := by decide +kernel
theorem dX12_tracks_135 : decode cX12_tracks 135 = .ok (.goto 4, 3) := by decide +kernel
theorem dX12_tracks_37 : decode cX12_tracks 37 = .ok (.aload_n 0, 1) := by decide +kernel
theorem dX12_tracks_38 : decode cX12_tracks 38 = .ok (.aload_n 0, 1) := by decide +kernel
theorem dX12_tracks_39 : decode cX12_tracks 39 = .ok (.getfield 7, 3) := by decide +kernel
theorem dX12_tracks_42 : decode cX12_tracks 42 = .ok (.iload_n 2, 1) := by decide +kernel
theorem dX12_tracks_43 : decode cX12_tracks 43 = .ok (.iaload, 1) := by decide +kernel
theorem dX12_tracks_44 : decode cX12_tracks 44 = .ok (.invokevirtual 250, 3) := by decide +kernel
theorem dX12_tracks_47 : decode cX12_tracks 47 = .ok (.ifCond .eq 16, 3) := by decide +kernel
theorem dX12_tracks_50 : decode cX12_tracks 50 = .ok (.aload_n 0, 1) := by decide +kernel
theorem dX12_tracks_51 : decode cX12_tracks 51 = .ok (.getfield 7, 3) := by decide +kernel
theorem dX12_tracks_54 : decode cX12_tracks 54 = .ok (.iload_n 2, 1) := by decide +kernel
theorem dX12_tracks_55 : decode cX12_tracks 55 = .ok (.iconst 1, 1) := by decide +kernel
theorem dX12_tracks_56 : decode cX12_tracks 56 = .ok (.iadd, 1) := by decide +kernel
theorem dX12_tracks_57 : decode cX12_tracks 57 = .ok (.iaload, 1) := by decide +kernel
theorem dX12_tracks_58 : decode cX12_tracks 58 = .ok (.bipush 23, 2) := by decide +kernel
theorem dX12_tracks_60 : decode cX12_tracks 60 = .ok (.if_icmp .le 5, 3) := by decide +kernel
theorem dX12_tracks_65 : decode cX12_tracks 65 = .ok (.iinc 2 2, 3) := by decide +kernel
theorem dX12_tracks_68 : decode cX12_tracks 68 = .ok (.goto (-36), 3) := by decide +kernel
theorem dX12_tracks_63 : decode cX12_tracks 63 = .ok (.iconst (-1), 1) := by decide +kernel
theorem dX12_tracks_64 : decode cX12_tracks 64 = .ok (.ireturn, 1) := by decide +kernel
theorem dX12_byteAt_0 : decode cX12_byteAt 0 = .ok (.aload_n 0, 1) := by decide +kernel
theorem dX12_byteAt_1 : decode cX12_byteAt 1 = .ok (.iconst 0, 1) := by decide +kernel
theorem dX12_byteAt_2 : decode cX12_byteAt 2 = .ok (.putfield 1, 3) := by decide +kernel
theorem dX12_byteAt_5 : decode cX12_byteAt 5 = .ok (.iload_n 1, 1) := by decide +kernel
theorem dX12_byteAt_6 : decode cX12_byteAt 6 = .ok (.iconst 0, 1) := by decide +kernel
theorem dX12_byteAt_7 : decode cX12_byteAt 7 = .ok (.aload_n 0, 1) := by decide +kernel
theorem dX12_byteAt_8 : decode cX12_byteAt 8 = .ok (.getfield 337, 3) := by decide +kernel
theorem dX12_byteAt_11 : decode cX12_byteAt 11 = .ok (.iconst 1, 1) := by decide +kernel
theorem dX12_byteAt_12 : decode cX12_byteAt 12 = .ok (.isub, 1) := by decide +kernel
theorem dX12_byteAt_13 : decode cX12_byteAt 13 = .ok (.invokestatic 75, 3) := by decide +kernel
theorem dX12_byteAt_16 : decode cX12_byteAt 16 = .ok (.ifCond .eq 12, 3) := by decide +kernel
theorem dX12_byteAt_19 : decode cX12_byteAt 19 = .ok (.aload_n 0, 1) := by decide +kernel
theorem dX12_byteAt_20 : decode cX12_byteAt 20 = .ok (.getfield 142, 3) := by decide +kernel
theorem dX12_byteAt_23 : decode cX12_byteAt 23 = .ok (.iload_n 1, 1) := by decide +kernel
theorem dX12_byteAt_24 : decode cX12_byteAt 24 = .ok (.iaload, 1) := by decide +kernel
theorem dX12_byteAt_25 : decode cX12_byteAt 25 = .ok (.goto 4, 3) := by decide +kernel
theorem dX12_byteAt_29 : decode cX12_byteAt 29 = .ok (.ireturn, 1) := by decide +kernel
theorem dX12_byteAt_28 : decode cX12_byteAt 28 = .ok (.iconst (-1), 1) := by decide +kernel
theorem dX12_write_0 : decode cX12_write 0 = .ok (.aload_n 0, 1) := by decide +kernel
theorem dX12_write_1 : decode cX12_write 1 = .ok (.getfield 142, 3) := by decide +kernel
theorem dX12_write_4 : decode cX12_write 4 = .ok (.aload_n 0, 1) := by decide +kernel
theorem dX12_write_5 : decode cX12_write 5 = .ok (.getfield 337, 3) := by decide +kernel
theorem dX12_write_8 : decode cX12_write 8 = .ok (.iload_n 1, 1) := by decide +kernel
theorem dX12_write_9 : decode cX12_write 9 = .ok (.iastore, 1) := by decide +kernel
theorem dX12_write_10 : decode cX12_write 10 = .ok (.aload_n 0, 1) := by decide +kernel
theorem dX12_write_11 : decode cX12_write 11 = .ok (.dup, 1) := by decide +kernel
theorem dX12_write_12 : decode cX12_write 12 = .ok (.getfield 337, 3) := by decide +kernel
theorem dX12_write_15 : decode cX12_write 15 = .ok (.iconst 1, 1) := by decide +kernel
theorem dX12_write_16 : decode cX12_write 16 = .ok (.iadd, 1) := by decide +kernel
theorem dX12_write_17 : decode cX12_write 17 = .ok (.putfield 337, 3) := by decide +kernel
theorem dX12_write_20 : decode cX12_write 20 = .ok (.return_, 1) := by decide +kernel
theorem dX12_writeWord_0 : decode cX12_writeWord 0 = .ok (.lload_n 1, 1) := by decide +kernel
theorem dX12_writeWord_1 : decode cX12_writeWord 1 = .ok (.ldc2_w 54, 3) := by decide +kernel
theorem dX12_writeWord_4 : decode cX12_writeWord 4 = .ok (.lcmp, 1) := by decide +kernel
theorem dX12_writeWord_5 : decode cX12_writeWord 5 = .ok (.ifCond .lt 12, 3) := by decide +kernel
theorem dX12_writeWord_17 : decode cX12_writeWord 17 = .ok (.aload_n 0, 1) := by decide +kernel
theorem dX12_writeWord_18 : decode cX12_writeWord 18 = .ok (.bipush 96, 2) := by decide +kernel
theorem dX12_writeWord_20 : decode cX12_writeWord 20 = .ok (.lload_n 1, 1) := by decide +kernel
theorem dX12_writeWord_21 : decode cX12_writeWord 21 = .ok (.ldc2_w 54, 3) := by decide +kernel
theorem dX12_writeWord_24 : decode cX12_writeWord 24 = .ok (.lrem, 1) := by decide +kernel
theorem dX12_writeWord_25 : decode cX12_writeWord 25 = .ok (.l2i, 1) := by decide +kernel
theorem dX12_writeWord_26 : decode cX12_writeWord 26 = .ok (.iadd, 1) := by decide +kernel
theorem dX12_writeWord_27 : decode cX12_writeWord 27 = .ok (.invokevirtual 344, 3) := by decide +kernel
theorem dX12_writeWord_30 : decode cX12_writeWord 30 = .ok (.return_, 1) := by decide +kernel
theorem dX12_writeWord_8 : decode cX12_writeWord 8 = .ok (.aload_n 0, 1) := by decide +kernel
theorem dX12_writeWord_9 : decode cX12_writeWord 9 = .ok (.lload_n 1, 1) := by decide +kernel
theorem dX12_writeWord_10 : decode cX12_writeWord 10 = .ok (.ldc2_w 54, 3) := by decide +kernel
theorem dX12_writeWord_13 : decode cX12_writeWord 13 = .ok (.ldiv, 1) := by decide +kernel
theorem dX12_writeWord_14 : decode cX12_writeWord 14 = .ok (.invokevirtual 340, 3) := by decide +kernel
theorem dX12_writeNumber_0 : decode cX12_writeNumber 0 = .ok (.iload_n 1, 1) := by decide +kernel
theorem dX12_writeNumber_1 : decode cX12_writeNumber 1 = .ok (.bipush 9, 2) := by decide +kernel
theorem dX12_writeNumber_3 : decode cX12_writeNumber 3 = .ok (.if_icmp .le 11, 3) := by decide +kernel
theorem dX12_writeNumber_14 : decode cX12_writeNumber 14 = .ok (.aload_n 0, 1) := by decide +kernel
theorem dX12_writeNumber_15 : decode cX12_writeNumber 15 = .ok (.bipush 48, 2) := by decide +kernel
theorem dX12_writeNumber_17 : decode cX12_writeNumber 17 = .ok (.iload_n 1, 1) := by decide +kernel
theorem dX12_writeNumber_18 : decode cX12_writeNumber 18 = .ok (.bipush 10, 2) := by decide +kernel
theorem dX12_writeNumber_20 : decode cX12_writeNumber 20 = .ok (.irem, 1) := by decide +kernel
theorem dX12_writeNumber_21 : decode cX12_writeNumber 21 = .ok (.iadd, 1) := by decide +kernel
theorem dX12_writeNumber_22 : decode cX12_writeNumber 22 = .ok (.invokevirtual 344, 3) := by decide +kernel
theorem dX12_writeNumber_25 : decode cX12_writeNumber 25 = .ok (.return_, 1) := by decide +kernel
theorem dX12_writeNumber_6 : decode cX12_writeNumber 6 = .ok (.aload_n 0, 1) := by decide +kernel
theorem dX12_writeNumber_7 : decode cX12_writeNumber 7 = .ok (.iload_n 1, 1) := by decide +kernel
theorem dX12_writeNumber_8 : decode cX12_writeNumber 8 = .ok (.bipush 10, 2) := by decide +kernel
theorem dX12_writeNumber_10 : decode cX12_writeNumber 10 = .ok (.idiv, 1) := by decide +kernel
theorem dX12_writeNumber_11 : decode cX12_writeNumber 11 = .ok (.invokevirtual 347, 3) := by decide +kernel
theorem dX12_writeNext_0 : decode cX12_writeNext 0 = .ok (.aload_n 0, 1) := by decide +kernel
theorem dX12_writeNext_1 : decode cX12_writeNext 1 = .ok (.bipush 32, 2) := by decide +kernel
theorem dX12_writeNext_3 : decode cX12_writeNext 3 = .ok (.invokevirtual 344, 3) := by decide +kernel
theorem dX12_writeNext_6 : decode cX12_writeNext 6 = .ok (.aload_n 0, 1) := by decide +kernel
theorem dX12_writeNext_7 : decode cX12_writeNext 7 = .ok (.lload_n 1, 1) := by decide +kernel
theorem dX12_writeNext_8 : decode cX12_writeNext 8 = .ok (.invokevirtual 340, 3) := by decide +kernel
theorem dX12_writeNext_11 : decode cX12_writeNext 11 = .ok (.return_, 1) := by decide +kernel
theorem dX12_board_0 : decode cX12_board 0 = .ok (.aload_n 0, 1) := by decide +kernel
theorem dX12_board_1 : decode cX12_board 1 = .ok (.iconst 0, 1) := by decide +kernel
theorem dX12_board_2 : decode cX12_board 2 = .ok (.putfield 1, 3) := by decide +kernel
theorem dX12_board_5 : decode cX12_board 5 = .ok (.aload_n 0, 1) := by decide +kernel
theorem dX12_board_6 : decode cX12_board 6 = .ok (.iload_n 1, 1) := by decide +kernel
theorem dX12_board_7 : decode cX12_board 7 = .ok (.invokevirtual 250, 3) := by decide +kernel
theorem dX12_board_10 : decode cX12_board 10 = .ok (.ifCond .ne 5, 3) := by decide +kernel
theorem dX12_board_15 : decode cX12_board 15 = .ok (.aload_n 0, 1) := by decide +kernel
theorem dX12_board_16 : decode cX12_board 16 = .ok (.iconst 0, 1) := by decide +kernel
theorem dX12_board_17 : decode cX12_board 17 = .ok (.putfield 337, 3) := by decide +kernel
theorem dX12_board_20 : decode cX12_board 20 = .ok (.aload_n 0, 1) := by decide +kernel
theorem dX12_board_21 : decode cX12_board 21 = .ok (.aload_n 0, 1) := by decide +kernel
theorem dX12_board_22 : decode cX12_board 22 = .ok (.getfield 113, 3) := by decide +kernel
theorem dX12_board_25 : decode cX12_board 25 = .ok (.iload_n 1, 1) := by decide +kernel
theorem dX12_board_26 : decode cX12_board 26 = .ok (.laload, 1) := by decide +kernel
theorem dX12_board_27 : decode cX12_board 27 = .ok (.invokevirtual 340, 3) := by decide +kernel
theorem dX12_board_30 : decode cX12_board 30 = .ok (.aload_n 0, 1) := by decide +kernel
theorem dX12_board_31 : decode cX12_board 31 = .ok (.getfield 98, 3) := by decide +kernel
theorem dX12_board_34 : decode cX12_board 34 = .ok (.bipush 66, 2) := by decide +kernel
theorem dX12_board_36 : decode cX12_board 36 = .ok (.iload_n 1, 1) := by decide +kernel
theorem dX12_board_37 : decode cX12_board 37 = .ok (.iadd, 1) := by decide +kernel
theorem dX12_board_38 : decode cX12_board 38 = .ok (.iaload, 1) := by decide +kernel
theorem dX12_board_39 : decode cX12_board 39 = .ok (.istore_n 2, 1) := by decide +kernel
theorem dX12_board_40 : decode cX12_board 40 = .ok (.iload_n 2, 1) := by decide +kernel
theorem dX12_board_41 : decode cX12_board 41 = .ok (.ifCond .ne 59, 3) := by decide +kernel
theorem dX12_board_100 : decode cX12_board 100 = .ok (.aload_n 0, 1) := by decide +kernel
theorem dX12_board_101 : decode cX12_board 101 = .ok (.iconst 4, 1) := by decide +kernel
theorem dX12_board_102 : decode cX12_board 102 = .ok (.invokestatic 62, 3) := by decide +kernel
theorem dX12_board_105 : decode cX12_board 105 = .ok (.invokevirtual 350, 3) := by decide +kernel
theorem dX12_board_108 : decode cX12_board 108 = .ok (.aload_n 0, 1) := by decide +kernel
theorem dX12_board_109 : decode cX12_board 109 = .ok (.bipush 32, 2) := by decide +kernel
theorem dX12_board_111 : decode cX12_board 111 = .ok (.invokevirtual 344, 3) := by decide +kernel
theorem dX12_board_114 : decode cX12_board 114 = .ok (.iconst 0, 1) := by decide +kernel
theorem dX12_board_115 : decode cX12_board 115 = .ok (.istore_n 3, 1) := by decide +kernel
theorem dX12_board_116 : decode cX12_board 116 = .ok (.iload_n 2, 1) := by decide +kernel
theorem dX12_board_117 : decode cX12_board 117 = .ok (.iload_n 3, 1) := by decide +kernel
theorem dX12_board_118 : decode cX12_board 118 = .ok (.invokestatic 217, 3) := by decide +kernel
theorem dX12_board_121 : decode cX12_board 121 = .ok (.ifCond .ne 9, 3) := by decide +kernel
theorem dX12_board_130 : decode cX12_board 130 = .ok (.iload_n 3, 1) := by decide +kernel
theorem dX12_board_131 : decode cX12_board 131 = .ok (.istore 4, 2) := by decide +kernel
theorem dX12_board_133 : decode cX12_board 133 = .ok (.iload_n 2, 1) := by decide +kernel
theorem dX12_board_134 : decode cX12_board 134 = .ok (.iload 4, 2) := by decide +kernel
theorem dX12_board_136 : decode cX12_board 136 = .ok (.iconst 1, 1) := by decide +kernel
theorem dX12_board_137 : decode cX12_board 137 = .ok (.iadd, 1) := by decide +kernel
theorem dX12_board_138 : decode cX12_board 138 = .ok (.invokestatic 217, 3) := by decide +kernel
theorem dX12_board_141 : decode cX12_board 141 = .ok (.ifCond .eq 9, 3) := by decide +kernel
theorem dX12_board_144 : decode cX12_board 144 = .ok (.iinc 4 1, 3) := by decide +kernel
theorem dX12_board_147 : decode cX12_board 147 = .ok (.goto (-14), 3) := by decide +kernel
theorem dX12_board_150 : decode cX12_board 150 = .ok (.aload_n 0, 1) := by decide +kernel
theorem dX12_board_151 : decode cX12_board 151 = .ok (.iload_n 3, 1) := by decide +kernel
theorem dX12_board_152 : decode cX12_board 152 = .ok (.invokevirtual 347, 3) := by decide +kernel
theorem dX12_board_155 : decode cX12_board 155 = .ok (.iload 4, 2) := by decide +kernel
theorem dX12_board_157 : decode cX12_board 157 = .ok (.iload_n 3, 1) := by decide +kernel
theorem dX12_board_158 : decode cX12_board 158 = .ok (.if_icmp .le 31, 3) := by decide +kernel
theorem dX12_board_189 : decode cX12_board 189 = .ok (.iload_n 2, 1) := by decide +kernel
theorem dX12_board_190 : decode cX12_board 190 = .ok (.iload_n 3, 1) := by decide +kernel
theorem dX12_board_191 : decode cX12_board 191 = .ok (.iload 4, 2) := by decide +kernel
theorem dX12_board_193 : decode cX12_board 193 = .ok (.invokestatic 185, 3) := by decide +kernel
theorem dX12_board_196 : decode cX12_board 196 = .ok (.iconst (-1), 1) := by decide +kernel
theorem dX12_board_197 : decode cX12_board 197 = .ok (.ixor, 1) := by decide +kernel
theorem dX12_board_198 : decode cX12_board 198 = .ok (.iand, 1) := by decide +kernel
theorem dX12_board_199 : decode cX12_board 199 = .ok (.ifCond .eq 30, 3) := by decide +kernel
theorem dX12_board_229 : decode cX12_board 229 = .ok (.aload_n 0, 1) := by decide +kernel
theorem dX12_board_230 : decode cX12_board 230 = .ok (.getfield 337, 3) := by decide +kernel
theorem dX12_board_233 : decode cX12_board 233 = .ok (.ireturn, 1) := by decide +kernel
theorem dX12_board_202 : decode cX12_board 202 = .ok (.aload_n 0, 1) := by decide +kernel
theorem dX12_board_203 : decode cX12_board 203 = .ok (.bipush 14, 2) := by decide +kernel
theorem dX12_board_205 : decode cX12_board 205 = .ok (.invokestatic 62, 3) := by decide +kernel
theorem dX12_board_208 : decode cX12_board 208 = .ok (.invokevirtual 350, 3) := by decide +kernel
theorem dX12_board_211 : decode cX12_board 211 = .ok (.aload_n 0, 1) := by decide +kernel
theorem dX12_board_212 : decode cX12_board 212 = .ok (.bipush 109, 2) := by decide +kernel
theorem dX12_board_214 : decode cX12_board 214 = .ok (.bipush 111, 2) := by decide +kernel
theorem dX12_board_216 : decode cX12_board 216 = .ok (.bipush 114, 2) := by decide +kernel
theorem dX12_board_218 : decode cX12_board 218 = .ok (.bipush 101, 2) := by decide +kernel
theorem dX12_board_220 : decode cX12_board 220 = .ok (.iconst 0, 1) := by decide +kernel
theorem dX12_board_221 : decode cX12_board 221 = .ok (.iconst 0, 1) := by decide +kernel
theorem dX12_board_222 : decode cX12_board 222 = .ok (.iconst 0, 1) := by decide +kernel
theorem dX12_board_223 : decode cX12_board 223 = .ok (.invokestatic 58, 3) := by decide +kernel
theorem dX12_board_226 : decode cX12_board 226 = .ok (.invokevirtual 350, 3) := by decide +kernel
theorem dX12_board_161 : decode cX12_board 161 = .ok (.aload_n 0, 1) := by decide +kernel
theorem dX12_board_162 : decode cX12_board 162 = .ok (.bipush 116, 2) := by decide +kernel
theorem dX12_board_164 : decode cX12_board 164 = .ok (.bipush 111, 2) := by decide +kernel
theorem dX12_board_166 : decode cX12_board 166 = .ok (.iconst 0, 1) := by decide +kernel
theorem dX12_board_167 : decode cX12_board 167 = .ok (.iconst 0, 1) := by decide +kernel
theorem dX12_board_168 : decode cX12_board 168 = .ok (.iconst 0, 1) := by decide +kernel
theorem dX12_board_169 : decode cX12_board 169 = .ok (.iconst 0, 1) := by decide +kernel
theorem dX12_board_170 : decode cX12_board 170 = .ok (.iconst 0, 1) := by decide +kernel
theorem dX12_board_171 : decode cX12_board 171 = .ok (.invokestatic 58, 3) := by decide +kernel
theorem dX12_board_174 : decode cX12_board 174 = .ok (.invokevirtual 350, 3) := by decide +kernel
theorem dX12_board_177 : decode cX12_board 177 = .ok (.aload_n 0, 1) := by decide +kernel
theorem dX12_board_178 : decode cX12_board 178 = .ok (.bipush 32, 2) := by decide +kernel
theorem dX12_board_180 : decode cX12_board 180 = .ok (.invokevirtual 344, 3) := by decide +kernel
theorem dX12_board_183 : decode cX12_board 183 = .ok (.aload_n 0, 1) := by decide +kernel
theorem dX12_board_184 : decode cX12_board 184 = .ok (.iload 4, 2) := by decide +kernel
theorem dX12_board_186 : decode cX12_board 186 = .ok (.invokevirtual 347, 3) := by decide +kernel
theorem dX12_board_124 : decode cX12_board 124 = .ok (.iinc 3 1, 3) := by decide +kernel
theorem dX12_board_127 : decode cX12_board 127 = .ok (.goto (-11), 3) := by decide +kernel
theorem dX12_board_44 : decode cX12_board 44 = .ok (.aload_n 0, 1) := by decide +kernel
theorem dX12_board_45 : decode cX12_board 45 = .ok (.bipush 111, 2) := by decide +kernel
theorem dX12_board_47 : decode cX12_board 47 = .ok (.bipush 110, 2) := by decide +kernel
theorem dX12_board_49 : decode cX12_board 49 = .ok (.iconst 0, 1) := by decide +kernel
theorem dX12_board_50 : decode cX12_board 50 = .ok (.iconst 0, 1) := by decide +kernel
theorem dX12_board_51 : decode cX12_board 51 = .ok (.iconst 0, 1) := by decide +kernel
theorem dX12_board_52 : decode cX12_board 52 = .ok (.iconst 0, 1) := by decide +kernel
theorem dX12_board_53 : decode cX12_board 53 = .ok (.iconst 0, 1) := by decide +kernel
theorem dX12_board_54 : decode cX12_board 54 = .ok (.invokestatic 58, 3) := by decide +kernel
theorem dX12_board_57 : decode cX12_board 57 = .ok (.invokevirtual 350, 3) := by decide +kernel
theorem dX12_board_60 : decode cX12_board 60 = .ok (.aload_n 0, 1) := by decide +kernel
theorem dX12_board_61 : decode cX12_board 61 = .ok (.bipush 116, 2) := by decide +kernel
theorem dX12_board_63 : decode cX12_board 63 = .ok (.bipush 104, 2) := by decide +kernel
theorem dX12_board_65 : decode cX12_board 65 = .ok (.bipush 101, 2) := by decide +kernel
theorem dX12_board_67 : decode cX12_board 67 = .ok (.iconst 0, 1) := by decide +kernel
theorem dX12_board_68 : decode cX12_board 68 = .ok (.iconst 0, 1) := by decide +kernel
theorem dX12_board_69 : decode cX12_board 69 = .ok (.iconst 0, 1) := by decide +kernel
theorem dX12_board_70 : decode cX12_board 70 = .ok (.iconst 0, 1) := by decide +kernel
theorem dX12_board_71 : decode cX12_board 71 = .ok (.invokestatic 58, 3) := by decide +kernel
theorem dX12_board_74 : decode cX12_board 74 = .ok (.invokevirtual 350, 3) := by decide +kernel
theorem dX12_board_77 : decode cX12_board 77 = .ok (.aload_n 0, 1) := by decide +kernel
theorem dX12_board_78 : decode cX12_board 78 = .ok (.bipush 108, 2) := by decide +kernel
theorem dX12_board_80 : decode cX12_board 80 = .ok (.bipush 101, 2) := by decide +kernel
theorem dX12_board_82 : decode cX12_board 82 = .ok (.bipush 97, 2) := by decide +kernel
theorem dX12_board_84 : decode cX12_board 84 = .ok (.bipush 100, 2) := by decide +kernel
theorem dX12_board_86 : decode cX12_board 86 = .ok (.iconst 0, 1) := by decide +kernel
theorem dX12_board_87 : decode cX12_board 87 = .ok (.iconst 0, 1) := by decide +kernel
theorem dX12_board_88 : decode cX12_board 88 = .ok (.iconst 0, 1) := by decide +kernel
theorem dX12_board_89 : decode cX12_board 89 = .ok (.invokestatic 58, 3) := by decide +kernel
theorem dX12_board_92 : decode cX12_board 92 = .ok (.invokevirtual 350, 3) := by decide +kernel
theorem dX12_board_95 : decode cX12_board 95 = .ok (.aload_n 0, 1) := by decide +kernel
theorem dX12_board_96 : decode cX12_board 96 = .ok (.getfield 337, 3) := by decide +kernel
theorem dX12_board_99 : decode cX12_board 99 = .ok (.ireturn, 1) := by decide +kernel
theorem dX12_board_13 : decode cX12_board 13 = .ok (.iconst (-1), 1) := by decide +kernel
theorem dX12_board_14 : decode cX12_board 14 = .ok (.ireturn, 1) := by decide +kernel
theorem dX12_commonLong_0 : decode cX12_commonLong 0 = .ok (.lload_n 0, 1) := by decide +kernel
theorem dX12_commonLong_1 : decode cX12_commonLong 1 = .ok (.lstore 4, 2) := by decide +kernel
theorem dX12_commonLong_3 : decode cX12_commonLong 3 = .ok (.lload_n 2, 1) := by decide +kernel
theorem dX12_commonLong_4 : decode cX12_commonLong 4 = .ok (.lstore 6, 2) := by decide +kernel
theorem dX12_commonLong_6 : decode cX12_commonLong 6 = .ok (.lload 6, 2) := by decide +kernel
theorem dX12_commonLong_8 : decode cX12_commonLong 8 = .ok (.lconst 0, 1) := by decide +kernel
theorem dX12_commonLong_9 : decode cX12_commonLong 9 = .ok (.lcmp, 1) := by decide +kernel
theorem dX12_commonLong_10 : decode cX12_commonLong 10 = .ok (.ifCond .eq 21, 3) := by decide +kernel
theorem dX12_commonLong_31 : decode cX12_commonLong 31 = .ok (.lload 4, 2) := by decide +kernel
theorem dX12_commonLong_33 : decode cX12_commonLong 33 = .ok (.lreturn, 1) := by decide +kernel
theorem dX12_commonLong_13 : decode cX12_commonLong 13 = .ok (.lload 4, 2) := by decide +kernel
theorem dX12_commonLong_15 : decode cX12_commonLong 15 = .ok (.lload 6, 2) := by decide +kernel
theorem dX12_commonLong_17 : decode cX12_commonLong 17 = .ok (.lrem, 1) := by decide +kernel
theorem dX12_commonLong_18 : decode cX12_commonLong 18 = .ok (.lstore 8, 2) := by decide +kernel
theorem dX12_commonLong_20 : decode cX12_commonLong 20 = .ok (.lload 6, 2) := by decide +kernel
theorem dX12_commonLong_22 : decode cX12_commonLong 22 = .ok (.lstore 4, 2) := by decide +kernel
theorem dX12_commonLong_24 : decode cX12_commonLong 24 = .ok (.lload 8, 2) := by decide +kernel
theorem dX12_commonLong_26 : decode cX12_commonLong 26 = .ok (.lstore 6, 2) := by decide +kernel
theorem dX12_commonLong_28 : decode cX12_commonLong 28 = .ok (.goto (-22), 3) := by decide +kernel
theorem dX12_layPerils_0 : decode cX12_layPerils 0 = .ok (.aload_n 0, 1) := by decide +kernel
theorem dX12_layPerils_1 : decode cX12_layPerils 1 = .ok (.lconst 1, 1) := by decide +kernel
theorem dX12_layPerils_2 : decode cX12_layPerils 2 = .ok (.putfield 309, 3) := by decide +kernel
theorem dX12_layPerils_5 : decode cX12_layPerils 5 = .ok (.aload_n 0, 1) := by decide +kernel
theorem dX12_layPerils_6 : decode cX12_layPerils 6 = .ok (.lconst 1, 1) := by decide +kernel
theorem dX12_layPerils_7 : decode cX12_layPerils 7 = .ok (.putfield 312, 3) := by decide +kernel
theorem dX12_layPerils_10 : decode cX12_layPerils 10 = .ok (.aload_n 0, 1) := by decide +kernel
theorem dX12_layPerils_11 : decode cX12_layPerils 11 = .ok (.getfield 98, 3) := by decide +kernel
theorem dX12_layPerils_14 : decode cX12_layPerils 14 = .ok (.bipush 71, 2) := by decide +kernel
theorem dX12_layPerils_16 : decode cX12_layPerils 16 = .ok (.iload_n 1, 1) := by decide +kernel
theorem dX12_layPerils_17 : decode cX12_layPerils 17 = .ok (.iadd, 1) := by decide +kernel
theorem dX12_layPerils_18 : decode cX12_layPerils 18 = .ok (.iaload, 1) := by decide +kernel
theorem dX12_layPerils_19 : decode cX12_layPerils 19 = .ok (.istore_n 2, 1) := by decide +kernel
theorem dX12_layPerils_20 : decode cX12_layPerils 20 = .ok (.aload_n 0, 1) := by decide +kernel
theorem dX12_layPerils_21 : decode cX12_layPerils 21 = .ok (.getfield 98, 3) := by decide +kernel
theorem dX12_layPerils_24 : decode cX12_layPerils 24 = .ok (.bipush 95, 2) := by decide +kernel
theorem dX12_layPerils_26 : decode cX12_layPerils 26 = .ok (.iload_n 1, 1) := by decide +kernel
theorem dX12_layPerils_27 : decode cX12_layPerils 27 = .ok (.iadd, 1) := by decide +kernel
theorem dX12_layPerils_28 : decode cX12_layPerils 28 = .ok (.iaload, 1) := by decide +kernel
theorem dX12_layPerils_29 : decode cX12_layPerils 29 = .ok (.istore_n 3, 1) := by decide +kernel
theorem dX12_layPerils_30 : decode cX12_layPerils 30 = .ok (.aload_n 0, 1) := by decide +kernel
theorem dX12_layPerils_31 : decode cX12_layPerils 31 = .ok (.getfield 98, 3) := by decide +kernel
theorem dX12_layPerils_34 : decode cX12_layPerils 34 = .ok (.bipush 95, 2) := by decide +kernel
theorem dX12_layPerils_36 : decode cX12_layPerils 36 = .ok (.iload_n 1, 1) := by decide +kernel
theorem dX12_layPerils_37 : decode cX12_layPerils 37 = .ok (.iadd, 1) := by decide +kernel
theorem dX12_layPerils_38 : decode cX12_layPerils 38 = .ok (.iconst 0, 1) := by decide +kernel
theorem dX12_layPerils_39 : decode cX12_layPerils 39 = .ok (.iastore, 1) := by decide +kernel
theorem dX12_layPerils_40 : decode cX12_layPerils 40 = .ok (.aload_n 0, 1) := by decide +kernel
theorem dX12_layPerils_41 : decode cX12_layPerils 41 = .ok (.iconst 0, 1) := by decide +kernel
theorem dX12_layPerils_42 : decode cX12_layPerils 42 = .ok (.putfield 281, 3) := by decide +kernel
theorem dX12_layPerils_45 : decode cX12_layPerils 45 = .ok (.iconst 0, 1) := by decide +kernel
theorem dX12_layPerils_46 : decode cX12_layPerils 46 = .ok (.istore 4, 2) := by decide +kernel
theorem dX12_layPerils_48 : decode cX12_layPerils 48 = .ok (.iconst 0, 1) := by decide +kernel
theorem dX12_layPerils_49 : decode cX12_layPerils 49 = .ok (.istore 5, 2) := by decide +kernel
theorem dX12_layPerils_51 : decode cX12_layPerils 51 = .ok (.iload 5, 2) := by decide +kernel
theorem dX12_layPerils_53 : decode cX12_layPerils 53 = .ok (.bipush 24, 2) := by decide +kernel
theorem dX12_layPerils_55 : decode cX12_layPerils 55 = .ok (.if_icmp .ge 240, 3) := by decide +kernel
theorem dX12_layPerils_295 : decode cX12_layPerils 295 = .ok (.aload_n 0, 1) := by decide +kernel
theorem dX12_layPerils_296 : decode cX12_layPerils 296 = .ok (.getfield 98, 3) := by decide +kernel
theorem dX12_layPerils_299 : decode cX12_layPerils 299 = .ok (.bipush 95, 2) := by decide +kernel
theorem dX12_layPerils_301 : decode cX12_layPerils 301 = .ok (.iload_n 1, 1) := by decide +kernel
theorem dX12_layPerils_302 : decode cX12_layPerils 302 = .ok (.iadd, 1) := by decide +kernel
theorem dX12_layPerils_303 : decode cX12_layPerils 303 = .ok (.iload_n 3, 1) := by decide +kernel
theorem dX12_layPerils_304 : decode cX12_layPerils 304 = .ok (.iastore, 1) := by decide +kernel
theorem dX12_layPerils_305 : decode cX12_layPerils 305 = .ok (.iload 4, 2) := by decide +kernel
theorem dX12_layPerils_307 : decode cX12_layPerils 307 = .ok (.ireturn, 1) := by decide +kernel
theorem dX12_layPerils_58 : decode cX12_layPerils 58 = .ok (.aload_n 0, 1) := by decide +kernel
theorem dX12_layPerils_59 : decode cX12_layPerils 59 = .ok (.iload_n 2, 1) := by decide +kernel
theorem dX12_layPerils_60 : decode cX12_layPerils 60 = .ok (.invokevirtual 229, 3) := by decide +kernel
theorem dX12_layPerils_63 : decode cX12_layPerils 63 = .ok (.ifCond .ne 226, 3) := by decide +kernel
theorem dX12_layPerils_289 : decode cX12_layPerils 289 = .ok (.iinc 5 1, 3) := by decide +kernel
theorem dX12_layPerils_292 : decode cX12_layPerils 292 = .ok (.goto (-241), 3) := by decide +kernel
theorem dX12_layPerils_66 : decode cX12_layPerils 66 = .ok (.aload_n 0, 1) := by decide +kernel
theorem dX12_layPerils_67 : decode cX12_layPerils 67 = .ok (.iload_n 1, 1) := by decide +kernel
theorem dX12_layPerils_68 : decode cX12_layPerils 68 = .ok (.invokevirtual 220, 3) := by decide +kernel
theorem dX12_layPerils_71 : decode cX12_layPerils 71 = .ok (.iload 5, 2) := by decide +kernel
theorem dX12_layPerils_73 : decode cX12_layPerils 73 = .ok (.invokestatic 217, 3) := by decide +kernel
theorem dX12_layPerils_76 : decode cX12_layPerils 76 = .ok (.ifCond .eq 213, 3) := by decide +kernel
theorem dX12_layPerils_79 : decode cX12_layPerils 79 = .ok (.aload_n 0, 1) := by decide +kernel
theorem dX12_layPerils_80 : decode cX12_layPerils 80 = .ok (.iload_n 2, 1) := by decide +kernel
theorem dX12_layPerils_81 : decode cX12_layPerils 81 = .ok (.iload 5, 2) := by decide +kernel
theorem dX12_layPerils_83 : decode cX12_layPerils 83 = .ok (.invokevirtual 290, 3) := by decide +kernel
theorem dX12_layPerils_86 : decode cX12_layPerils 86 = .ok (.iload_n 1, 1) := by decide +kernel
theorem dX12_layPerils_87 : decode cX12_layPerils 87 = .ok (.if_icmp .eq 6, 3) := by decide +kernel
theorem dX12_layPerils_90 : decode cX12_layPerils 90 = .ok (.goto 199, 3) := by decide +kernel
theorem dX12_layPerils_93 : decode cX12_layPerils 93 = .ok (.iconst 0, 1) := by decide +kernel
theorem dX12_layPerils_94 : decode cX12_layPerils 94 = .ok (.istore 6, 2) := by decide +kernel
theorem dX12_layPerils_96 : decode cX12_layPerils 96 = .ok (.iload 6, 2) := by decide +kernel
theorem dX12_layPerils_98 : decode cX12_layPerils 98 = .ok (.aload_n 0, 1) := by decide +kernel
theorem dX12_layPerils_99 : decode cX12_layPerils 99 = .ok (.getfield 98, 3) := by decide +kernel
theorem dX12_layPerils_102 : decode cX12_layPerils 102 = .ok (.iconst 2, 1) := by decide +kernel
theorem dX12_layPerils_103 : decode cX12_layPerils 103 = .ok (.iaload, 1) := by decide +kernel
theorem dX12_layPerils_104 : decode cX12_layPerils 104 = .ok (.if_icmp .ge 185, 3) := by decide +kernel
theorem dX12_layPerils_107 : decode cX12_layPerils 107 = .ok (.aload_n 0, 1) := by decide +kernel
theorem dX12_layPerils_108 : decode cX12_layPerils 108 = .ok (.getfield 98, 3) := by decide +kernel
