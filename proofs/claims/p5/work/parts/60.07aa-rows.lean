theorem dX7_readOne_0 : decode cX7_readOne 0 = .ok (.aload_n 1, 1) := by decide +kernel
theorem dX7_readOne_1 : decode cX7_readOne 1 = .ok (.getfield 35, 3) := by decide +kernel
theorem dX7_readOne_4 : decode cX7_readOne 4 = .ok (.astore 4, 2) := by decide +kernel
theorem dX7_readOne_6 : decode cX7_readOne 6 = .ok (.aload_n 1, 1) := by decide +kernel
theorem dX7_readOne_7 : decode cX7_readOne 7 = .ok (.bipush 40, 2) := by decide +kernel
theorem dX7_readOne_9 : decode cX7_readOne 9 = .ok (.invokevirtual 61, 3) := by decide +kernel
theorem dX7_readOne_12 : decode cX7_readOne 12 = .ok (.istore 5, 2) := by decide +kernel
theorem dX7_readOne_14 : decode cX7_readOne 14 = .ok (.iload 5, 2) := by decide +kernel
theorem dX7_readOne_16 : decode cX7_readOne 16 = .ok (.ifCond .ne 17, 3) := by decide +kernel
theorem dX7_readOne_33 : decode cX7_readOne 33 = .ok (.aload_n 0, 1) := by decide +kernel
theorem dX7_readOne_34 : decode cX7_readOne 34 = .ok (.getfield 28, 3) := by decide +kernel
theorem dX7_readOne_37 : decode cX7_readOne 37 = .ok (.bipush 20, 2) := by decide +kernel
theorem dX7_readOne_39 : decode cX7_readOne 39 = .ok (.if_icmp .ge 9, 3) := by decide +kernel
theorem dX7_readOne_48 : decode cX7_readOne 48 = .ok (.aload_n 1, 1) := by decide +kernel
theorem dX7_readOne_49 : decode cX7_readOne 49 = .ok (.iconst 4, 1) := by decide +kernel
theorem dX7_readOne_50 : decode cX7_readOne 50 = .ok (.invokevirtual 57, 3) := by decide +kernel
theorem dX7_readOne_53 : decode cX7_readOne 53 = .ok (.ireturn, 1) := by decide +kernel
theorem dX7_readOne_42 : decode cX7_readOne 42 = .ok (.iload_n 3, 1) := by decide +kernel
theorem dX7_readOne_43 : decode cX7_readOne 43 = .ok (.bipush 8, 2) := by decide +kernel
theorem dX7_readOne_45 : decode cX7_readOne 45 = .ok (.if_icmp .le 9, 3) := by decide +kernel
theorem dX7_readOne_19 : decode cX7_readOne 19 = .ok (.aload 4, 2) := by decide +kernel
theorem dX7_readOne_21 : decode cX7_readOne 21 = .ok (.invokestatic 64, 3) := by decide +kernel
theorem dX7_readOne_24 : decode cX7_readOne 24 = .ok (.ifCond .ne 9, 3) := by decide +kernel
theorem dX7_readOne_27 : decode cX7_readOne 27 = .ok (.aload_n 1, 1) := by decide +kernel
theorem dX7_readOne_28 : decode cX7_readOne 28 = .ok (.iconst 1, 1) := by decide +kernel
theorem dX7_readOne_29 : decode cX7_readOne 29 = .ok (.invokevirtual 57, 3) := by decide +kernel
theorem dX7_readOne_32 : decode cX7_readOne 32 = .ok (.ireturn, 1) := by decide +kernel
theorem dX7_readCond_0 : decode cX7_readCond 0 = .ok (.aload_n 0, 1) := by decide +kernel
theorem dX7_readCond_1 : decode cX7_readCond 1 = .ok (.aload_n 1, 1) := by decide +kernel
theorem dX7_readCond_2 : decode cX7_readCond 2 = .ok (.aload_n 2, 1) := by decide +kernel
theorem dX7_readCond_3 : decode cX7_readCond 3 = .ok (.iload_n 3, 1) := by decide +kernel
theorem dX7_readCond_4 : decode cX7_readCond 4 = .ok (.invokevirtual 31, 3) := by decide +kernel
theorem dX7_readCond_7 : decode cX7_readCond 7 = .ok (.istore 4, 2) := by decide +kernel
theorem dX7_readCond_9 : decode cX7_readCond 9 = .ok (.iconst 0, 1) := by decide +kernel
theorem dX7_readCond_10 : decode cX7_readCond 10 = .ok (.istore 5, 2) := by decide +kernel
theorem dX7_readCond_12 : decode cX7_readCond 12 = .ok (.iconst 0, 1) := by decide +kernel
theorem dX7_readCond_13 : decode cX7_readCond 13 = .ok (.istore 6, 2) := by decide +kernel
theorem dX7_readCond_15 : decode cX7_readCond 15 = .ok (.iload 6, 2) := by decide +kernel
theorem dX7_readCond_17 : decode cX7_readCond 17 = .ok (.bipush 20, 2) := by decide +kernel
theorem dX7_readCond_19 : decode cX7_readCond 19 = .ok (.if_icmp .ge 89, 3) := by decide +kernel
theorem dX7_readCond_108 : decode cX7_readCond 108 = .ok (.iload 5, 2) := by decide +kernel
theorem dX7_readCond_110 : decode cX7_readCond 110 = .ok (.ifCond .eq 12, 3) := by decide +kernel
theorem dX7_readCond_122 : decode cX7_readCond 122 = .ok (.iload 4, 2) := by decide +kernel
theorem dX7_readCond_124 : decode cX7_readCond 124 = .ok (.ifCond .eq 22, 3) := by decide +kernel
theorem dX7_readCond_127 : decode cX7_readCond 127 = .ok (.iload_n 3, 1) := by decide +kernel
theorem dX7_readCond_128 : decode cX7_readCond 128 = .ok (.iconst 1, 1) := by decide +kernel
theorem dX7_readCond_129 : decode cX7_readCond 129 = .ok (.if_icmp .ne 17, 3) := by decide +kernel
theorem dX7_readCond_146 : decode cX7_readCond 146 = .ok (.iload 4, 2) := by decide +kernel
theorem dX7_readCond_148 : decode cX7_readCond 148 = .ok (.ireturn, 1) := by decide +kernel
theorem dX7_readCond_113 : decode cX7_readCond 113 = .ok (.aload_n 0, 1) := by decide +kernel
theorem dX7_readCond_114 : decode cX7_readCond 114 = .ok (.getstatic 51, 3) := by decide +kernel
theorem dX7_readCond_117 : decode cX7_readCond 117 = .ok (.iconst 0, 1) := by decide +kernel
theorem dX7_readCond_118 : decode cX7_readCond 118 = .ok (.iconst 0, 1) := by decide +kernel
theorem dX7_readCond_119 : decode cX7_readCond 119 = .ok (.invokevirtual 47, 3) := by decide +kernel
theorem dX7_readCond_22 : decode cX7_readCond 22 = .ok (.iload 4, 2) := by decide +kernel
theorem dX7_readCond_24 : decode cX7_readCond 24 = .ok (.ifCond .eq 84, 3) := by decide +kernel
theorem dX7_readCond_27 : decode cX7_readCond 27 = .ok (.aload_n 1, 1) := by decide +kernel
theorem dX7_readCond_28 : decode cX7_readCond 28 = .ok (.getfield 35, 3) := by decide +kernel
theorem dX7_readCond_31 : decode cX7_readCond 31 = .ok (.getstatic 41, 3) := by decide +kernel
theorem dX7_readCond_34 : decode cX7_readCond 34 = .ok (.if_acmp .ne 28, 3) := by decide +kernel
theorem dX7_readCond_62 : decode cX7_readCond 62 = .ok (.aload_n 1, 1) := by decide +kernel
theorem dX7_readCond_63 : decode cX7_readCond 63 = .ok (.getfield 35, 3) := by decide +kernel
theorem dX7_readCond_66 : decode cX7_readCond 66 = .ok (.getstatic 51, 3) := by decide +kernel
theorem dX7_readCond_69 : decode cX7_readCond 69 = .ok (.if_acmp .ne 39, 3) := by decide +kernel
theorem dX7_readCond_72 : decode cX7_readCond 72 = .ok (.iload 5, 2) := by decide +kernel
theorem dX7_readCond_74 : decode cX7_readCond 74 = .ok (.ifCond .eq 12, 3) := by decide +kernel
theorem dX7_readCond_86 : decode cX7_readCond 86 = .ok (.iconst 1, 1) := by decide +kernel
theorem dX7_readCond_87 : decode cX7_readCond 87 = .ok (.istore 5, 2) := by decide +kernel
theorem dX7_readCond_89 : decode cX7_readCond 89 = .ok (.aload_n 1, 1) := by decide +kernel
theorem dX7_readCond_90 : decode cX7_readCond 90 = .ok (.invokevirtual 44, 3) := by decide +kernel
theorem dX7_readCond_93 : decode cX7_readCond 93 = .ok (.aload_n 0, 1) := by decide +kernel
theorem dX7_readCond_94 : decode cX7_readCond 94 = .ok (.aload_n 1, 1) := by decide +kernel
theorem dX7_readCond_95 : decode cX7_readCond 95 = .ok (.aload_n 2, 1) := by decide +kernel
theorem dX7_readCond_96 : decode cX7_readCond 96 = .ok (.iload_n 3, 1) := by decide +kernel
theorem dX7_readCond_97 : decode cX7_readCond 97 = .ok (.invokevirtual 31, 3) := by decide +kernel
theorem dX7_readCond_100 : decode cX7_readCond 100 = .ok (.istore 4, 2) := by decide +kernel
theorem dX7_readCond_102 : decode cX7_readCond 102 = .ok (.iinc 6 1, 3) := by decide +kernel
theorem dX7_readCond_105 : decode cX7_readCond 105 = .ok (.goto (-90), 3) := by decide +kernel
theorem dX7_readCond_77 : decode cX7_readCond 77 = .ok (.aload_n 0, 1) := by decide +kernel
theorem dX7_readCond_78 : decode cX7_readCond 78 = .ok (.getstatic 51, 3) := by decide +kernel
theorem dX7_readCond_81 : decode cX7_readCond 81 = .ok (.iconst 0, 1) := by decide +kernel
theorem dX7_readCond_82 : decode cX7_readCond 82 = .ok (.iconst 0, 1) := by decide +kernel
theorem dX7_readCond_83 : decode cX7_readCond 83 = .ok (.invokevirtual 47, 3) := by decide +kernel
theorem dX7_readCond_37 : decode cX7_readCond 37 = .ok (.aload_n 1, 1) := by decide +kernel
theorem dX7_readCond_38 : decode cX7_readCond 38 = .ok (.invokevirtual 44, 3) := by decide +kernel
theorem dX7_readCond_41 : decode cX7_readCond 41 = .ok (.aload_n 0, 1) := by decide +kernel
theorem dX7_readCond_42 : decode cX7_readCond 42 = .ok (.aload_n 1, 1) := by decide +kernel
theorem dX7_readCond_43 : decode cX7_readCond 43 = .ok (.aload_n 2, 1) := by decide +kernel
theorem dX7_readCond_44 : decode cX7_readCond 44 = .ok (.iload_n 3, 1) := by decide +kernel
theorem dX7_readCond_45 : decode cX7_readCond 45 = .ok (.invokevirtual 31, 3) := by decide +kernel
theorem dX7_readCond_48 : decode cX7_readCond 48 = .ok (.istore 4, 2) := by decide +kernel
theorem dX7_readCond_50 : decode cX7_readCond 50 = .ok (.aload_n 0, 1) := by decide +kernel
theorem dX7_readCond_51 : decode cX7_readCond 51 = .ok (.getstatic 41, 3) := by decide +kernel
theorem dX7_readCond_54 : decode cX7_readCond 54 = .ok (.iconst 0, 1) := by decide +kernel
theorem dX7_readCond_55 : decode cX7_readCond 55 = .ok (.iconst 0, 1) := by decide +kernel
theorem dX7_readCond_56 : decode cX7_readCond 56 = .ok (.invokevirtual 47, 3) := by decide +kernel
theorem dX7_readCond_59 : decode cX7_readCond 59 = .ok (.goto 43, 3) := by decide +kernel
theorem dX7_readOne_54 : decode cX7_readOne 54 = .ok (.aload_n 0, 1) := by decide +kernel
theorem dX7_readOne_55 : decode cX7_readOne 55 = .ok (.dup, 1) := by decide +kernel
theorem dX7_readOne_56 : decode cX7_readOne 56 = .ok (.getfield 28, 3) := by decide +kernel
theorem dX7_readOne_59 : decode cX7_readOne 59 = .ok (.iconst 1, 1) := by decide +kernel
theorem dX7_readOne_60 : decode cX7_readOne 60 = .ok (.iadd, 1) := by decide +kernel
theorem dX7_readOne_61 : decode cX7_readOne 61 = .ok (.putfield 28, 3) := by decide +kernel
theorem dX7_readOne_64 : decode cX7_readOne 64 = .ok (.aload_n 1, 1) := by decide +kernel
theorem dX7_readOne_65 : decode cX7_readOne 65 = .ok (.invokevirtual 44, 3) := by decide +kernel
theorem dX7_readOne_68 : decode cX7_readOne 68 = .ok (.iload 5, 2) := by decide +kernel
theorem dX7_readOne_70 : decode cX7_readOne 70 = .ok (.ifCond .eq 30, 3) := by decide +kernel
theorem dX7_readOne_73 : decode cX7_readOne 73 = .ok (.aload_n 0, 1) := by decide +kernel
theorem dX7_readOne_74 : decode cX7_readOne 74 = .ok (.aload_n 1, 1) := by decide +kernel
theorem dX7_readOne_75 : decode cX7_readOne 75 = .ok (.aload_n 2, 1) := by decide +kernel
theorem dX7_readOne_76 : decode cX7_readOne 76 = .ok (.iload_n 3, 1) := by decide +kernel
theorem dX7_readOne_77 : decode cX7_readOne 77 = .ok (.iconst 1, 1) := by decide +kernel
theorem dX7_readOne_78 : decode cX7_readOne 78 = .ok (.iadd, 1) := by decide +kernel
theorem dX7_readOne_79 : decode cX7_readOne 79 = .ok (.invokevirtual 68, 3) := by decide +kernel
theorem dX7_readOne_82 : decode cX7_readOne 82 = .ok (.ifCond .eq 16, 3) := by decide +kernel
theorem dX7_readOne_85 : decode cX7_readOne 85 = .ok (.aload_n 1, 1) := by decide +kernel
theorem dX7_readOne_86 : decode cX7_readOne 86 = .ok (.bipush 41, 2) := by decide +kernel
theorem dX7_readOne_88 : decode cX7_readOne 88 = .ok (.invokevirtual 71, 3) := by decide +kernel
theorem dX7_readOne_91 : decode cX7_readOne 91 = .ok (.ifCond .eq 7, 3) := by decide +kernel
theorem dX7_readOne_94 : decode cX7_readOne 94 = .ok (.iconst 1, 1) := by decide +kernel
theorem dX7_readOne_95 : decode cX7_readOne 95 = .ok (.goto 4, 3) := by decide +kernel
theorem dX7_readOne_99 : decode cX7_readOne 99 = .ok (.ireturn, 1) := by decide +kernel
theorem dX7_readOne_98 : decode cX7_readOne 98 = .ok (.iconst 0, 1) := by decide +kernel
theorem dX7_readOne_100 : decode cX7_readOne 100 = .ok (.aload 4, 2) := by decide +kernel
theorem dX7_readOne_102 : decode cX7_readOne 102 = .ok (.getstatic 74, 3) := by decide +kernel
theorem dX7_readOne_105 : decode cX7_readOne 105 = .ok (.if_acmp .ne 26, 3) := by decide +kernel
theorem dX7_readOne_131 : decode cX7_readOne 131 = .ok (.aload_n 0, 1) := by decide +kernel
theorem dX7_readOne_132 : decode cX7_readOne 132 = .ok (.aload_n 1, 1) := by decide +kernel
theorem dX7_readOne_133 : decode cX7_readOne 133 = .ok (.aload_n 2, 1) := by decide +kernel
theorem dX7_readOne_134 : decode cX7_readOne 134 = .ok (.aload 4, 2) := by decide +kernel
theorem dX7_readOne_136 : decode cX7_readOne 136 = .ok (.invokevirtual 77, 3) := by decide +kernel
theorem dX7_readOne_139 : decode cX7_readOne 139 = .ok (.ireturn, 1) := by decide +kernel
theorem dX7_readOne_108 : decode cX7_readOne 108 = .ok (.aload_n 0, 1) := by decide +kernel
theorem dX7_readOne_109 : decode cX7_readOne 109 = .ok (.aload_n 1, 1) := by decide +kernel
theorem dX7_readOne_110 : decode cX7_readOne 110 = .ok (.aload_n 2, 1) := by decide +kernel
theorem dX7_readOne_111 : decode cX7_readOne 111 = .ok (.iload_n 3, 1) := by decide +kernel
theorem dX7_readOne_112 : decode cX7_readOne 112 = .ok (.iconst 1, 1) := by decide +kernel
theorem dX7_readOne_113 : decode cX7_readOne 113 = .ok (.iadd, 1) := by decide +kernel
theorem dX7_readOne_114 : decode cX7_readOne 114 = .ok (.invokevirtual 31, 3) := by decide +kernel
theorem dX7_readOne_117 : decode cX7_readOne 117 = .ok (.istore 6, 2) := by decide +kernel
theorem dX7_readOne_119 : decode cX7_readOne 119 = .ok (.aload_n 0, 1) := by decide +kernel
theorem dX7_readOne_120 : decode cX7_readOne 120 = .ok (.getstatic 74, 3) := by decide +kernel
theorem dX7_readOne_123 : decode cX7_readOne 123 = .ok (.iconst 0, 1) := by decide +kernel
theorem dX7_readOne_124 : decode cX7_readOne 124 = .ok (.iconst 0, 1) := by decide +kernel
theorem dX7_readOne_125 : decode cX7_readOne 125 = .ok (.invokevirtual 47, 3) := by decide +kernel
theorem dX7_readOne_128 : decode cX7_readOne 128 = .ok (.iload 6, 2) := by decide +kernel
theorem dX7_readOne_130 : decode cX7_readOne 130 = .ok (.ireturn, 1) := by decide +kernel
theorem dX7_readCond_132 : decode cX7_readCond 132 = .ok (.aload_n 1, 1) := by decide +kernel
theorem dX7_readCond_133 : decode cX7_readCond 133 = .ok (.getfield 54, 3) := by decide +kernel
theorem dX7_readCond_136 : decode cX7_readCond 136 = .ok (.iconst 3, 1) := by decide +kernel
theorem dX7_readCond_137 : decode cX7_readCond 137 = .ok (.if_icmp .eq 9, 3) := by decide +kernel
theorem dX7_readCond_140 : decode cX7_readCond 140 = .ok (.aload_n 1, 1) := by decide +kernel
theorem dX7_readCond_141 : decode cX7_readCond 141 = .ok (.iconst 1, 1) := by decide +kernel
theorem dX7_readCond_142 : decode cX7_readCond 142 = .ok (.invokevirtual 57, 3) := by decide +kernel
theorem dX7_readCond_145 : decode cX7_readCond 145 = .ok (.ireturn, 1) := by decide +kernel
