theorem dX11_appendName_0 : decode cX11_appendName 0 = .ok (.bipush 6, 2) := by decide +kernel
theorem dX11_appendName_2 : decode cX11_appendName 2 = .ok (.istore_n 3, 1) := by decide +kernel
theorem dX11_appendName_3 : decode cX11_appendName 3 = .ok (.iload_n 3, 1) := by decide +kernel
theorem dX11_appendName_4 : decode cX11_appendName 4 = .ok (.ifCond .lt 41, 3) := by decide +kernel
theorem dX11_appendName_7 : decode cX11_appendName 7 = .ok (.lload_n 1, 1) := by decide +kernel
theorem dX11_appendName_8 : decode cX11_appendName 8 = .ok (.iload_n 3, 1) := by decide +kernel
theorem dX11_appendName_9 : decode cX11_appendName 9 = .ok (.iconst 5, 1) := by decide +kernel
theorem dX11_appendName_10 : decode cX11_appendName 10 = .ok (.imul, 1) := by decide +kernel
theorem dX11_appendName_11 : decode cX11_appendName 11 = .ok (.lushr, 1) := by decide +kernel
theorem dX11_appendName_12 : decode cX11_appendName 12 = .ok (.l2i, 1) := by decide +kernel
theorem dX11_appendName_13 : decode cX11_appendName 13 = .ok (.bipush 31, 2) := by decide +kernel
theorem dX11_appendName_15 : decode cX11_appendName 15 = .ok (.iand, 1) := by decide +kernel
theorem dX11_appendName_16 : decode cX11_appendName 16 = .ok (.istore 4, 2) := by decide +kernel
theorem dX11_appendName_18 : decode cX11_appendName 18 = .ok (.iload 4, 2) := by decide +kernel
theorem dX11_appendName_39 : decode cX11_appendName 39 = .ok (.iinc 3 (-1), 3) := by decide +kernel
theorem dX11_appendName_42 : decode cX11_appendName 42 = .ok (.goto (-39), 3) := by decide +kernel
theorem dX11_appendName_45 : decode cX11_appendName 45 = .ok (.return_, 1) := by decide +kernel
theorem dX11_appendName_20 : decode cX11_appendName 20 = .ok (.ifCond .eq 19, 3) := by decide +kernel
theorem dX11_appendName_23 : decode cX11_appendName 23 = .ok (.aload_n 0, 1) := by decide +kernel
theorem dX11_appendName_24 : decode cX11_appendName 24 = .ok (.getfield 86, 3) := by decide +kernel
theorem dX11_appendName_27 : decode cX11_appendName 27 = .ok (.bipush 97, 2) := by decide +kernel
theorem dX11_appendName_29 : decode cX11_appendName 29 = .ok (.iload 4, 2) := by decide +kernel
theorem dX11_appendName_31 : decode cX11_appendName 31 = .ok (.iadd, 1) := by decide +kernel
theorem dX11_appendName_32 : decode cX11_appendName 32 = .ok (.iconst 1, 1) := by decide +kernel
theorem dX11_appendName_33 : decode cX11_appendName 33 = .ok (.isub, 1) := by decide +kernel
theorem dX11_appendName_34 : decode cX11_appendName 34 = .ok (.i2c, 1) := by decide +kernel
theorem dX11_appendName_35 : decode cX11_appendName 35 = .ok (.invokevirtual 383, 3) := by decide +kernel
theorem dX11_appendName_38 : decode cX11_appendName 38 = .ok (.pop, 1) := by decide +kernel
theorem dX11_appendFree_0 : decode cX11_appendFree 0 = .ok (.iload_n 1, 1) := by decide +kernel
theorem dX11_appendFree_1 : decode cX11_appendFree 1 = .ok (.ifCond .ne 15, 3) := by decide +kernel
theorem dX11_appendFree_16 : decode cX11_appendFree 16 = .ok (.iconst 0, 1) := by decide +kernel
theorem dX11_appendFree_17 : decode cX11_appendFree 17 = .ok (.istore_n 2, 1) := by decide +kernel
theorem dX11_appendFree_18 : decode cX11_appendFree 18 = .ok (.iload_n 2, 1) := by decide +kernel
theorem dX11_appendFree_19 : decode cX11_appendFree 19 = .ok (.bipush 23, 2) := by decide +kernel
theorem dX11_appendFree_21 : decode cX11_appendFree 21 = .ok (.if_icmp .ge 17, 3) := by decide +kernel
theorem dX11_appendFree_38 : decode cX11_appendFree 38 = .ok (.iload_n 2, 1) := by decide +kernel
theorem dX11_appendFree_39 : decode cX11_appendFree 39 = .ok (.istore_n 3, 1) := by decide +kernel
theorem dX11_appendFree_40 : decode cX11_appendFree 40 = .ok (.iload_n 3, 1) := by decide +kernel
theorem dX11_appendFree_41 : decode cX11_appendFree 41 = .ok (.bipush 23, 2) := by decide +kernel
theorem dX11_appendFree_43 : decode cX11_appendFree 43 = .ok (.if_icmp .ge 20, 3) := by decide +kernel
theorem dX11_appendFree_63 : decode cX11_appendFree 63 = .ok (.aload_n 0, 1) := by decide +kernel
theorem dX11_appendFree_64 : decode cX11_appendFree 64 = .ok (.getfield 86, 3) := by decide +kernel
theorem dX11_appendFree_67 : decode cX11_appendFree 67 = .ok (.ldc_w 391, 3) := by decide +kernel
theorem dX11_appendFree_70 : decode cX11_appendFree 70 = .ok (.invokevirtual 388, 3) := by decide +kernel
theorem dX11_appendFree_73 : decode cX11_appendFree 73 = .ok (.pop, 1) := by decide +kernel
theorem dX11_appendFree_74 : decode cX11_appendFree 74 = .ok (.aload_n 0, 1) := by decide +kernel
theorem dX11_appendFree_75 : decode cX11_appendFree 75 = .ok (.getfield 86, 3) := by decide +kernel
theorem dX11_appendFree_78 : decode cX11_appendFree 78 = .ok (.iload_n 2, 1) := by decide +kernel
theorem dX11_appendFree_79 : decode cX11_appendFree 79 = .ok (.invokevirtual 393, 3) := by decide +kernel
theorem dX11_appendFree_82 : decode cX11_appendFree 82 = .ok (.pop, 1) := by decide +kernel
theorem dX11_appendFree_83 : decode cX11_appendFree 83 = .ok (.iload_n 3, 1) := by decide +kernel
theorem dX11_appendFree_84 : decode cX11_appendFree 84 = .ok (.iload_n 2, 1) := by decide +kernel
theorem dX11_appendFree_85 : decode cX11_appendFree 85 = .ok (.if_icmp .le 23, 3) := by decide +kernel
theorem dX11_appendFree_108 : decode cX11_appendFree 108 = .ok (.iload_n 1, 1) := by decide +kernel
theorem dX11_appendFree_109 : decode cX11_appendFree 109 = .ok (.iload_n 2, 1) := by decide +kernel
theorem dX11_appendFree_110 : decode cX11_appendFree 110 = .ok (.iload_n 3, 1) := by decide +kernel
theorem dX11_appendFree_111 : decode cX11_appendFree 111 = .ok (.invokestatic 288, 3) := by decide +kernel
theorem dX11_appendFree_114 : decode cX11_appendFree 114 = .ok (.iconst (-1), 1) := by decide +kernel
theorem dX11_appendFree_115 : decode cX11_appendFree 115 = .ok (.ixor, 1) := by decide +kernel
theorem dX11_appendFree_116 : decode cX11_appendFree 116 = .ok (.iand, 1) := by decide +kernel
theorem dX11_appendFree_117 : decode cX11_appendFree 117 = .ok (.ifCond .eq 14, 3) := by decide +kernel
theorem dX11_appendFree_131 : decode cX11_appendFree 131 = .ok (.return_, 1) := by decide +kernel
theorem dX11_appendFree_120 : decode cX11_appendFree 120 = .ok (.aload_n 0, 1) := by decide +kernel
theorem dX11_appendFree_121 : decode cX11_appendFree 121 = .ok (.getfield 86, 3) := by decide +kernel
theorem dX11_appendFree_124 : decode cX11_appendFree 124 = .ok (.ldc_w 398, 3) := by decide +kernel
theorem dX11_appendFree_127 : decode cX11_appendFree 127 = .ok (.invokevirtual 388, 3) := by decide +kernel
theorem dX11_appendFree_130 : decode cX11_appendFree 130 = .ok (.pop, 1) := by decide +kernel
theorem dX11_appendFree_24 : decode cX11_appendFree 24 = .ok (.iload_n 1, 1) := by decide +kernel
theorem dX11_appendFree_25 : decode cX11_appendFree 25 = .ok (.iload_n 2, 1) := by decide +kernel
theorem dX11_appendFree_26 : decode cX11_appendFree 26 = .ok (.ishr, 1) := by decide +kernel
theorem dX11_appendFree_27 : decode cX11_appendFree 27 = .ok (.iconst 1, 1) := by decide +kernel
theorem dX11_appendFree_28 : decode cX11_appendFree 28 = .ok (.iand, 1) := by decide +kernel
theorem dX11_appendFree_29 : decode cX11_appendFree 29 = .ok (.ifCond .ne 9, 3) := by decide +kernel
theorem dX11_appendFree_88 : decode cX11_appendFree 88 = .ok (.aload_n 0, 1) := by decide +kernel
theorem dX11_appendFree_89 : decode cX11_appendFree 89 = .ok (.getfield 86, 3) := by decide +kernel
theorem dX11_appendFree_92 : decode cX11_appendFree 92 = .ok (.ldc_w 396, 3) := by decide +kernel
theorem dX11_appendFree_95 : decode cX11_appendFree 95 = .ok (.invokevirtual 388, 3) := by decide +kernel
theorem dX11_appendFree_98 : decode cX11_appendFree 98 = .ok (.pop, 1) := by decide +kernel
theorem dX11_appendFree_99 : decode cX11_appendFree 99 = .ok (.aload_n 0, 1) := by decide +kernel
theorem dX11_appendFree_100 : decode cX11_appendFree 100 = .ok (.getfield 86, 3) := by decide +kernel
theorem dX11_appendFree_103 : decode cX11_appendFree 103 = .ok (.iload_n 3, 1) := by decide +kernel
theorem dX11_appendFree_104 : decode cX11_appendFree 104 = .ok (.invokevirtual 393, 3) := by decide +kernel
theorem dX11_appendFree_107 : decode cX11_appendFree 107 = .ok (.pop, 1) := by decide +kernel
theorem dX11_appendFree_46 : decode cX11_appendFree 46 = .ok (.iload_n 1, 1) := by decide +kernel
theorem dX11_appendFree_47 : decode cX11_appendFree 47 = .ok (.iload_n 3, 1) := by decide +kernel
theorem dX11_appendFree_48 : decode cX11_appendFree 48 = .ok (.iconst 1, 1) := by decide +kernel
theorem dX11_appendFree_49 : decode cX11_appendFree 49 = .ok (.iadd, 1) := by decide +kernel
theorem dX11_appendFree_50 : decode cX11_appendFree 50 = .ok (.ishr, 1) := by decide +kernel
theorem dX11_appendFree_51 : decode cX11_appendFree 51 = .ok (.iconst 1, 1) := by decide +kernel
theorem dX11_appendFree_52 : decode cX11_appendFree 52 = .ok (.iand, 1) := by decide +kernel
theorem dX11_appendFree_53 : decode cX11_appendFree 53 = .ok (.iconst 1, 1) := by decide +kernel
theorem dX11_appendFree_54 : decode cX11_appendFree 54 = .ok (.if_icmp .ne 9, 3) := by decide +kernel
theorem dX11_appendFree_57 : decode cX11_appendFree 57 = .ok (.iinc 3 1, 3) := by decide +kernel
theorem dX11_appendFree_60 : decode cX11_appendFree 60 = .ok (.goto (-20), 3) := by decide +kernel
theorem dX11_appendFree_32 : decode cX11_appendFree 32 = .ok (.iinc 2 1, 3) := by decide +kernel
theorem dX11_appendFree_35 : decode cX11_appendFree 35 = .ok (.goto (-17), 3) := by decide +kernel
theorem dX11_appendFree_4 : decode cX11_appendFree 4 = .ok (.aload_n 0, 1) := by decide +kernel
theorem dX11_appendFree_5 : decode cX11_appendFree 5 = .ok (.getfield 86, 3) := by decide +kernel
theorem dX11_appendFree_8 : decode cX11_appendFree 8 = .ok (.ldc_w 386, 3) := by decide +kernel
theorem dX11_appendFree_11 : decode cX11_appendFree 11 = .ok (.invokevirtual 388, 3) := by decide +kernel
theorem dX11_appendFree_14 : decode cX11_appendFree 14 = .ok (.pop, 1) := by decide +kernel
theorem dX11_appendFree_15 : decode cX11_appendFree 15 = .ok (.return_, 1) := by decide +kernel
theorem dX11_board_0 : decode cX11_board 0 = .ok (.aload_n 0, 1) := by decide +kernel
theorem dX11_board_1 : decode cX11_board 1 = .ok (.getfield 19, 3) := by decide +kernel
theorem dX11_board_4 : decode cX11_board 4 = .ok (.iload_n 1, 1) := by decide +kernel
theorem dX11_board_5 : decode cX11_board 5 = .ok (.invokevirtual 199, 3) := by decide +kernel
theorem dX11_board_8 : decode cX11_board 8 = .ok (.ifCond .ne 5, 3) := by decide +kernel
theorem dX11_board_13 : decode cX11_board 13 = .ok (.aload_n 0, 1) := by decide +kernel
theorem dX11_board_14 : decode cX11_board 14 = .ok (.getfield 86, 3) := by decide +kernel
theorem dX11_board_17 : decode cX11_board 17 = .ok (.iconst 0, 1) := by decide +kernel
theorem dX11_board_18 : decode cX11_board 18 = .ok (.invokevirtual 326, 3) := by decide +kernel
theorem dX11_board_21 : decode cX11_board 21 = .ok (.aload_n 0, 1) := by decide +kernel
theorem dX11_board_22 : decode cX11_board 22 = .ok (.aload_n 0, 1) := by decide +kernel
theorem dX11_board_23 : decode cX11_board 23 = .ok (.getfield 19, 3) := by decide +kernel
theorem dX11_board_26 : decode cX11_board 26 = .ok (.getfield 329, 3) := by decide +kernel
theorem dX11_board_29 : decode cX11_board 29 = .ok (.iload_n 1, 1) := by decide +kernel
theorem dX11_board_30 : decode cX11_board 30 = .ok (.laload, 1) := by decide +kernel
theorem dX11_board_31 : decode cX11_board 31 = .ok (.invokevirtual 333, 3) := by decide +kernel
theorem dX11_board_34 : decode cX11_board 34 = .ok (.aload_n 0, 1) := by decide +kernel
theorem dX11_board_35 : decode cX11_board 35 = .ok (.aload_n 0, 1) := by decide +kernel
theorem dX11_board_36 : decode cX11_board 36 = .ok (.getfield 19, 3) := by decide +kernel
theorem dX11_board_39 : decode cX11_board 39 = .ok (.getfield 202, 3) := by decide +kernel
theorem dX11_board_42 : decode cX11_board 42 = .ok (.iload_n 1, 1) := by decide +kernel
theorem dX11_board_43 : decode cX11_board 43 = .ok (.iaload, 1) := by decide +kernel
theorem dX11_board_44 : decode cX11_board 44 = .ok (.invokevirtual 337, 3) := by decide +kernel
theorem dX11_board_47 : decode cX11_board 47 = .ok (.aload_n 0, 1) := by decide +kernel
theorem dX11_board_48 : decode cX11_board 48 = .ok (.getfield 86, 3) := by decide +kernel
theorem dX11_board_51 : decode cX11_board 51 = .ok (.invokevirtual 340, 3) := by decide +kernel
theorem dX11_board_54 : decode cX11_board 54 = .ok (.ireturn, 1) := by decide +kernel
theorem dX11_board_11 : decode cX11_board 11 = .ok (.iconst (-1), 1) := by decide +kernel
theorem dX11_board_12 : decode cX11_board 12 = .ok (.ireturn, 1) := by decide +kernel
theorem dX11_byteAt_0 : decode cX11_byteAt 0 = .ok (.iload_n 1, 1) := by decide +kernel
theorem dX11_byteAt_1 : decode cX11_byteAt 1 = .ok (.ifCond .lt 14, 3) := by decide +kernel
theorem dX11_byteAt_15 : decode cX11_byteAt 15 = .ok (.iconst (-1), 1) := by decide +kernel
theorem dX11_byteAt_16 : decode cX11_byteAt 16 = .ok (.ireturn, 1) := by decide +kernel
theorem dX11_byteAt_4 : decode cX11_byteAt 4 = .ok (.iload_n 1, 1) := by decide +kernel
theorem dX11_byteAt_5 : decode cX11_byteAt 5 = .ok (.aload_n 0, 1) := by decide +kernel
theorem dX11_byteAt_6 : decode cX11_byteAt 6 = .ok (.getfield 86, 3) := by decide +kernel
theorem dX11_byteAt_9 : decode cX11_byteAt 9 = .ok (.invokevirtual 340, 3) := by decide +kernel
theorem dX11_byteAt_12 : decode cX11_byteAt 12 = .ok (.if_icmp .lt 5, 3) := by decide +kernel
theorem dX11_byteAt_17 : decode cX11_byteAt 17 = .ok (.aload_n 0, 1) := by decide +kernel
theorem dX11_byteAt_18 : decode cX11_byteAt 18 = .ok (.getfield 86, 3) := by decide +kernel
theorem dX11_byteAt_21 : decode cX11_byteAt 21 = .ok (.iload_n 1, 1) := by decide +kernel
theorem dX11_byteAt_22 : decode cX11_byteAt 22 = .ok (.invokevirtual 343, 3) := by decide +kernel
theorem dX11_byteAt_25 : decode cX11_byteAt 25 = .ok (.ireturn, 1) := by decide +kernel
