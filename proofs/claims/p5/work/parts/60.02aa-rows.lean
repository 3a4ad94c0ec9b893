theorem dX6_copyFrom_0 : decode cX6_copyFrom 0 = .ok (.aload_n 0, 1) := by decide +kernel
theorem dX6_copyFrom_1 : decode cX6_copyFrom 1 = .ok (.aload_n 1, 1) := by decide +kernel
theorem dX6_copyFrom_2 : decode cX6_copyFrom 2 = .ok (.getfield 7, 3) := by decide +kernel
theorem dX6_copyFrom_5 : decode cX6_copyFrom 5 = .ok (.putfield 7, 3) := by decide +kernel
theorem dX6_copyFrom_8 : decode cX6_copyFrom 8 = .ok (.aload_n 0, 1) := by decide +kernel
theorem dX6_copyFrom_9 : decode cX6_copyFrom 9 = .ok (.aload_n 1, 1) := by decide +kernel
theorem dX6_copyFrom_10 : decode cX6_copyFrom 10 = .ok (.getfield 13, 3) := by decide +kernel
theorem dX6_copyFrom_13 : decode cX6_copyFrom 13 = .ok (.putfield 13, 3) := by decide +kernel
theorem dX6_copyFrom_16 : decode cX6_copyFrom 16 = .ok (.aload_n 0, 1) := by decide +kernel
theorem dX6_copyFrom_17 : decode cX6_copyFrom 17 = .ok (.aload_n 1, 1) := by decide +kernel
theorem dX6_copyFrom_18 : decode cX6_copyFrom 18 = .ok (.getfield 17, 3) := by decide +kernel
theorem dX6_copyFrom_21 : decode cX6_copyFrom 21 = .ok (.putfield 17, 3) := by decide +kernel
theorem dX6_copyFrom_24 : decode cX6_copyFrom 24 = .ok (.aload_n 0, 1) := by decide +kernel
theorem dX6_copyFrom_25 : decode cX6_copyFrom 25 = .ok (.aload_n 1, 1) := by decide +kernel
theorem dX6_copyFrom_26 : decode cX6_copyFrom 26 = .ok (.getfield 20, 3) := by decide +kernel
theorem dX6_copyFrom_29 : decode cX6_copyFrom 29 = .ok (.putfield 20, 3) := by decide +kernel
theorem dX6_copyFrom_32 : decode cX6_copyFrom 32 = .ok (.aload_n 0, 1) := by decide +kernel
theorem dX6_copyFrom_33 : decode cX6_copyFrom 33 = .ok (.aload_n 1, 1) := by decide +kernel
theorem dX6_copyFrom_34 : decode cX6_copyFrom 34 = .ok (.getfield 23, 3) := by decide +kernel
theorem dX6_copyFrom_37 : decode cX6_copyFrom 37 = .ok (.putfield 23, 3) := by decide +kernel
theorem dX6_copyFrom_40 : decode cX6_copyFrom 40 = .ok (.aload_n 0, 1) := by decide +kernel
theorem dX6_copyFrom_41 : decode cX6_copyFrom 41 = .ok (.aload_n 1, 1) := by decide +kernel
theorem dX6_copyFrom_42 : decode cX6_copyFrom 42 = .ok (.getfield 26, 3) := by decide +kernel
theorem dX6_copyFrom_45 : decode cX6_copyFrom 45 = .ok (.putfield 26, 3) := by decide +kernel
theorem dX6_copyFrom_48 : decode cX6_copyFrom 48 = .ok (.aload_n 0, 1) := by decide +kernel
theorem dX6_copyFrom_49 : decode cX6_copyFrom 49 = .ok (.aload_n 1, 1) := by decide +kernel
theorem dX6_copyFrom_50 : decode cX6_copyFrom 50 = .ok (.getfield 29, 3) := by decide +kernel
theorem dX6_copyFrom_53 : decode cX6_copyFrom 53 = .ok (.putfield 29, 3) := by decide +kernel
theorem dX6_copyFrom_56 : decode cX6_copyFrom 56 = .ok (.aload_n 0, 1) := by decide +kernel
theorem dX6_copyFrom_57 : decode cX6_copyFrom 57 = .ok (.aload_n 1, 1) := by decide +kernel
theorem dX6_copyFrom_58 : decode cX6_copyFrom 58 = .ok (.getfield 32, 3) := by decide +kernel
theorem dX6_copyFrom_61 : decode cX6_copyFrom 61 = .ok (.putfield 32, 3) := by decide +kernel
theorem dX6_copyFrom_64 : decode cX6_copyFrom 64 = .ok (.aload_n 0, 1) := by decide +kernel
theorem dX6_copyFrom_65 : decode cX6_copyFrom 65 = .ok (.aload_n 1, 1) := by decide +kernel
theorem dX6_copyFrom_66 : decode cX6_copyFrom 66 = .ok (.getfield 35, 3) := by decide +kernel
theorem dX6_copyFrom_69 : decode cX6_copyFrom 69 = .ok (.putfield 35, 3) := by decide +kernel
theorem dX6_copyFrom_72 : decode cX6_copyFrom 72 = .ok (.return_, 1) := by decide +kernel
theorem dX2_copyFrom_0 : decode cX2_copyFrom 0 = .ok (.aload_n 0, 1) := by decide +kernel
theorem dX2_copyFrom_1 : decode cX2_copyFrom 1 = .ok (.aload_n 1, 1) := by decide +kernel
theorem dX2_copyFrom_2 : decode cX2_copyFrom 2 = .ok (.getfield 7, 3) := by decide +kernel
theorem dX2_copyFrom_5 : decode cX2_copyFrom 5 = .ok (.putfield 7, 3) := by decide +kernel
theorem dX2_copyFrom_8 : decode cX2_copyFrom 8 = .ok (.aload_n 0, 1) := by decide +kernel
theorem dX2_copyFrom_9 : decode cX2_copyFrom 9 = .ok (.aload_n 1, 1) := by decide +kernel
theorem dX2_copyFrom_10 : decode cX2_copyFrom 10 = .ok (.getfield 13, 3) := by decide +kernel
theorem dX2_copyFrom_13 : decode cX2_copyFrom 13 = .ok (.putfield 13, 3) := by decide +kernel
theorem dX2_copyFrom_16 : decode cX2_copyFrom 16 = .ok (.aload_n 0, 1) := by decide +kernel
theorem dX2_copyFrom_17 : decode cX2_copyFrom 17 = .ok (.aload_n 1, 1) := by decide +kernel
theorem dX2_copyFrom_18 : decode cX2_copyFrom 18 = .ok (.getfield 17, 3) := by decide +kernel
theorem dX2_copyFrom_21 : decode cX2_copyFrom 21 = .ok (.putfield 17, 3) := by decide +kernel
theorem dX2_copyFrom_24 : decode cX2_copyFrom 24 = .ok (.aload_n 0, 1) := by decide +kernel
theorem dX2_copyFrom_25 : decode cX2_copyFrom 25 = .ok (.aload_n 1, 1) := by decide +kernel
theorem dX2_copyFrom_26 : decode cX2_copyFrom 26 = .ok (.getfield 20, 3) := by decide +kernel
theorem dX2_copyFrom_29 : decode cX2_copyFrom 29 = .ok (.putfield 20, 3) := by decide +kernel
theorem dX2_copyFrom_32 : decode cX2_copyFrom 32 = .ok (.aload_n 0, 1) := by decide +kernel
theorem dX2_copyFrom_33 : decode cX2_copyFrom 33 = .ok (.aload_n 1, 1) := by decide +kernel
theorem dX2_copyFrom_34 : decode cX2_copyFrom 34 = .ok (.getfield 23, 3) := by decide +kernel
theorem dX2_copyFrom_37 : decode cX2_copyFrom 37 = .ok (.putfield 23, 3) := by decide +kernel
theorem dX2_copyFrom_40 : decode cX2_copyFrom 40 = .ok (.aload_n 0, 1) := by decide +kernel
theorem dX2_copyFrom_41 : decode cX2_copyFrom 41 = .ok (.aload_n 1, 1) := by decide +kernel
theorem dX2_copyFrom_42 : decode cX2_copyFrom 42 = .ok (.getfield 27, 3) := by decide +kernel
theorem dX2_copyFrom_45 : decode cX2_copyFrom 45 = .ok (.putfield 27, 3) := by decide +kernel
theorem dX2_copyFrom_48 : decode cX2_copyFrom 48 = .ok (.aload_n 0, 1) := by decide +kernel
theorem dX2_copyFrom_49 : decode cX2_copyFrom 49 = .ok (.aload_n 1, 1) := by decide +kernel
theorem dX2_copyFrom_50 : decode cX2_copyFrom 50 = .ok (.getfield 30, 3) := by decide +kernel
theorem dX2_copyFrom_53 : decode cX2_copyFrom 53 = .ok (.putfield 30, 3) := by decide +kernel
theorem dX2_copyFrom_56 : decode cX2_copyFrom 56 = .ok (.return_, 1) := by decide +kernel
theorem dX4_copyFrom_0 : decode cX4_copyFrom 0 = .ok (.aload_n 0, 1) := by decide +kernel
theorem dX4_copyFrom_1 : decode cX4_copyFrom 1 = .ok (.aload_n 1, 1) := by decide +kernel
theorem dX4_copyFrom_2 : decode cX4_copyFrom 2 = .ok (.getfield 41, 3) := by decide +kernel
theorem dX4_copyFrom_5 : decode cX4_copyFrom 5 = .ok (.putfield 41, 3) := by decide +kernel
theorem dX4_copyFrom_8 : decode cX4_copyFrom 8 = .ok (.aload_n 0, 1) := by decide +kernel
theorem dX4_copyFrom_9 : decode cX4_copyFrom 9 = .ok (.aload_n 1, 1) := by decide +kernel
theorem dX4_copyFrom_10 : decode cX4_copyFrom 10 = .ok (.getfield 44, 3) := by decide +kernel
theorem dX4_copyFrom_13 : decode cX4_copyFrom 13 = .ok (.putfield 44, 3) := by decide +kernel
theorem dX4_copyFrom_16 : decode cX4_copyFrom 16 = .ok (.aload_n 0, 1) := by decide +kernel
theorem dX4_copyFrom_17 : decode cX4_copyFrom 17 = .ok (.aload_n 1, 1) := by decide +kernel
theorem dX4_copyFrom_18 : decode cX4_copyFrom 18 = .ok (.getfield 47, 3) := by decide +kernel
theorem dX4_copyFrom_21 : decode cX4_copyFrom 21 = .ok (.putfield 47, 3) := by decide +kernel
theorem dX4_copyFrom_24 : decode cX4_copyFrom 24 = .ok (.aload_n 0, 1) := by decide +kernel
theorem dX4_copyFrom_25 : decode cX4_copyFrom 25 = .ok (.aload_n 1, 1) := by decide +kernel
theorem dX4_copyFrom_26 : decode cX4_copyFrom 26 = .ok (.getfield 37, 3) := by decide +kernel
theorem dX4_copyFrom_29 : decode cX4_copyFrom 29 = .ok (.putfield 37, 3) := by decide +kernel
theorem dX4_copyFrom_32 : decode cX4_copyFrom 32 = .ok (.aload_n 0, 1) := by decide +kernel
theorem dX4_copyFrom_33 : decode cX4_copyFrom 33 = .ok (.aload_n 1, 1) := by decide +kernel
theorem dX4_copyFrom_34 : decode cX4_copyFrom 34 = .ok (.getfield 50, 3) := by decide +kernel
theorem dX4_copyFrom_37 : decode cX4_copyFrom 37 = .ok (.putfield 50, 3) := by decide +kernel
theorem dX4_copyFrom_40 : decode cX4_copyFrom 40 = .ok (.aload_n 0, 1) := by decide +kernel
theorem dX4_copyFrom_41 : decode cX4_copyFrom 41 = .ok (.aload_n 1, 1) := by decide +kernel
theorem dX4_copyFrom_42 : decode cX4_copyFrom 42 = .ok (.getfield 53, 3) := by decide +kernel
theorem dX4_copyFrom_45 : decode cX4_copyFrom 45 = .ok (.putfield 53, 3) := by decide +kernel
theorem dX4_copyFrom_48 : decode cX4_copyFrom 48 = .ok (.aload_n 0, 1) := by decide +kernel
theorem dX4_copyFrom_49 : decode cX4_copyFrom 49 = .ok (.aload_n 1, 1) := by decide +kernel
theorem dX4_copyFrom_50 : decode cX4_copyFrom 50 = .ok (.getfield 56, 3) := by decide +kernel
theorem dX4_copyFrom_53 : decode cX4_copyFrom 53 = .ok (.putfield 56, 3) := by decide +kernel
theorem dX4_copyFrom_56 : decode cX4_copyFrom 56 = .ok (.iconst 0, 1) := by decide +kernel
theorem dX4_copyFrom_57 : decode cX4_copyFrom 57 = .ok (.istore_n 2, 1) := by decide +kernel
theorem dX4_copyFrom_58 : decode cX4_copyFrom 58 = .ok (.iload_n 2, 1) := by decide +kernel
theorem dX4_copyFrom_59 : decode cX4_copyFrom 59 = .ok (.aload_n 0, 1) := by decide +kernel
theorem dX4_copyFrom_60 : decode cX4_copyFrom 60 = .ok (.getfield 41, 3) := by decide +kernel
theorem dX4_copyFrom_63 : decode cX4_copyFrom 63 = .ok (.if_icmp .ge 45, 3) := by decide +kernel
theorem dX4_copyFrom_108 : decode cX4_copyFrom 108 = .ok (.iconst 0, 1) := by decide +kernel
theorem dX4_copyFrom_109 : decode cX4_copyFrom 109 = .ok (.istore_n 2, 1) := by decide +kernel
theorem dX4_copyFrom_110 : decode cX4_copyFrom 110 = .ok (.iload_n 2, 1) := by decide +kernel
theorem dX4_copyFrom_111 : decode cX4_copyFrom 111 = .ok (.aload_n 0, 1) := by decide +kernel
theorem dX4_copyFrom_112 : decode cX4_copyFrom 112 = .ok (.getfield 44, 3) := by decide +kernel
theorem dX4_copyFrom_115 : decode cX4_copyFrom 115 = .ok (.if_icmp .ge 24, 3) := by decide +kernel
theorem dX4_copyFrom_139 : decode cX4_copyFrom 139 = .ok (.iconst 0, 1) := by decide +kernel
theorem dX4_copyFrom_140 : decode cX4_copyFrom 140 = .ok (.istore_n 2, 1) := by decide +kernel
theorem dX4_copyFrom_141 : decode cX4_copyFrom 141 = .ok (.iload_n 2, 1) := by decide +kernel
theorem dX4_copyFrom_142 : decode cX4_copyFrom 142 = .ok (.aload_n 0, 1) := by decide +kernel
theorem dX4_copyFrom_143 : decode cX4_copyFrom 143 = .ok (.getfield 47, 3) := by decide +kernel
theorem dX4_copyFrom_146 : decode cX4_copyFrom 146 = .ok (.if_icmp .ge 24, 3) := by decide +kernel
theorem dX4_copyFrom_170 : decode cX4_copyFrom 170 = .ok (.return_, 1) := by decide +kernel
theorem dX4_copyFrom_149 : decode cX4_copyFrom 149 = .ok (.aload_n 0, 1) := by decide +kernel
theorem dX4_copyFrom_150 : decode cX4_copyFrom 150 = .ok (.getfield 31, 3) := by decide +kernel
theorem dX4_copyFrom_153 : decode cX4_copyFrom 153 = .ok (.iload_n 2, 1) := by decide +kernel
theorem dX4_copyFrom_154 : decode cX4_copyFrom 154 = .ok (.aaload, 1) := by decide +kernel
theorem dX4_copyFrom_155 : decode cX4_copyFrom 155 = .ok (.aload_n 1, 1) := by decide +kernel
theorem dX4_copyFrom_156 : decode cX4_copyFrom 156 = .ok (.getfield 31, 3) := by decide +kernel
theorem dX4_copyFrom_159 : decode cX4_copyFrom 159 = .ok (.iload_n 2, 1) := by decide +kernel
theorem dX4_copyFrom_160 : decode cX4_copyFrom 160 = .ok (.aaload, 1) := by decide +kernel
theorem dX4_copyFrom_161 : decode cX4_copyFrom 161 = .ok (.invokevirtual 63, 3) := by decide +kernel
theorem dX4_copyFrom_164 : decode cX4_copyFrom 164 = .ok (.iinc 2 1, 3) := by decide +kernel
theorem dX4_copyFrom_167 : decode cX4_copyFrom 167 = .ok (.goto (-26), 3) := by decide +kernel
theorem dX4_copyFrom_118 : decode cX4_copyFrom 118 = .ok (.aload_n 0, 1) := by decide +kernel
theorem dX4_copyFrom_119 : decode cX4_copyFrom 119 = .ok (.getfield 25, 3) := by decide +kernel
theorem dX4_copyFrom_122 : decode cX4_copyFrom 122 = .ok (.iload_n 2, 1) := by decide +kernel
theorem dX4_copyFrom_123 : decode cX4_copyFrom 123 = .ok (.aaload, 1) := by decide +kernel
theorem dX4_copyFrom_124 : decode cX4_copyFrom 124 = .ok (.aload_n 1, 1) := by decide +kernel
theorem dX4_copyFrom_125 : decode cX4_copyFrom 125 = .ok (.getfield 25, 3) := by decide +kernel
theorem dX4_copyFrom_128 : decode cX4_copyFrom 128 = .ok (.iload_n 2, 1) := by decide +kernel
theorem dX4_copyFrom_129 : decode cX4_copyFrom 129 = .ok (.aaload, 1) := by decide +kernel
theorem dX4_copyFrom_130 : decode cX4_copyFrom 130 = .ok (.invokevirtual 59, 3) := by decide +kernel
theorem dX4_copyFrom_133 : decode cX4_copyFrom 133 = .ok (.iinc 2 1, 3) := by decide +kernel
theorem dX4_copyFrom_136 : decode cX4_copyFrom 136 = .ok (.goto (-26), 3) := by decide +kernel
theorem dX4_copyFrom_66 : decode cX4_copyFrom 66 = .ok (.aload_n 0, 1) := by decide +kernel
theorem dX4_copyFrom_67 : decode cX4_copyFrom 67 = .ok (.getfield 9, 3) := by decide +kernel
theorem dX4_copyFrom_70 : decode cX4_copyFrom 70 = .ok (.iload_n 2, 1) := by decide +kernel
theorem dX4_copyFrom_71 : decode cX4_copyFrom 71 = .ok (.aload_n 1, 1) := by decide +kernel
theorem dX4_copyFrom_72 : decode cX4_copyFrom 72 = .ok (.getfield 9, 3) := by decide +kernel
theorem dX4_copyFrom_75 : decode cX4_copyFrom 75 = .ok (.iload_n 2, 1) := by decide +kernel
theorem dX4_copyFrom_76 : decode cX4_copyFrom 76 = .ok (.laload, 1) := by decide +kernel
theorem dX4_copyFrom_77 : decode cX4_copyFrom 77 = .ok (.lastore, 1) := by decide +kernel
theorem dX4_copyFrom_78 : decode cX4_copyFrom 78 = .ok (.aload_n 0, 1) := by decide +kernel
theorem dX4_copyFrom_79 : decode cX4_copyFrom 79 = .ok (.getfield 15, 3) := by decide +kernel
theorem dX4_copyFrom_82 : decode cX4_copyFrom 82 = .ok (.iload_n 2, 1) := by decide +kernel
theorem dX4_copyFrom_83 : decode cX4_copyFrom 83 = .ok (.aload_n 1, 1) := by decide +kernel
theorem dX4_copyFrom_84 : decode cX4_copyFrom 84 = .ok (.getfield 15, 3) := by decide +kernel
theorem dX4_copyFrom_87 : decode cX4_copyFrom 87 = .ok (.iload_n 2, 1) := by decide +kernel
theorem dX4_copyFrom_88 : decode cX4_copyFrom 88 = .ok (.iaload, 1) := by decide +kernel
theorem dX4_copyFrom_89 : decode cX4_copyFrom 89 = .ok (.iastore, 1) := by decide +kernel
theorem dX4_copyFrom_90 : decode cX4_copyFrom 90 = .ok (.aload_n 0, 1) := by decide +kernel
theorem dX4_copyFrom_91 : decode cX4_copyFrom 91 = .ok (.getfield 19, 3) := by decide +kernel
theorem dX4_copyFrom_94 : decode cX4_copyFrom 94 = .ok (.iload_n 2, 1) := by decide +kernel
theorem dX4_copyFrom_95 : decode cX4_copyFrom 95 = .ok (.aload_n 1, 1) := by decide +kernel
theorem dX4_copyFrom_96 : decode cX4_copyFrom 96 = .ok (.getfield 19, 3) := by decide +kernel
theorem dX4_copyFrom_99 : decode cX4_copyFrom 99 = .ok (.iload_n 2, 1) := by decide +kernel
theorem dX4_copyFrom_100 : decode cX4_copyFrom 100 = .ok (.baload, 1) := by decide +kernel
theorem dX4_copyFrom_101 : decode cX4_copyFrom 101 = .ok (.bastore, 1) := by decide +kernel
theorem dX4_copyFrom_102 : decode cX4_copyFrom 102 = .ok (.iinc 2 1, 3) := by decide +kernel
theorem dX4_copyFrom_105 : decode cX4_copyFrom 105 = .ok (.goto (-47), 3) := by decide +kernel
theorem dX4_clear_0 : decode cX4_clear 0 = .ok (.aload_n 0, 1) := by decide +kernel
theorem dX4_clear_1 : decode cX4_clear 1 = .ok (.iconst 0, 1) := by decide +kernel
theorem dX4_clear_2 : decode cX4_clear 2 = .ok (.putfield 41, 3) := by decide +kernel
theorem dX4_clear_5 : decode cX4_clear 5 = .ok (.aload_n 0, 1) := by decide +kernel
theorem dX4_clear_6 : decode cX4_clear 6 = .ok (.iconst 0, 1) := by decide +kernel
theorem dX4_clear_7 : decode cX4_clear 7 = .ok (.putfield 44, 3) := by decide +kernel
theorem dX4_clear_10 : decode cX4_clear 10 = .ok (.aload_n 0, 1) := by decide +kernel
theorem dX4_clear_11 : decode cX4_clear 11 = .ok (.iconst 0, 1) := by decide +kernel
theorem dX4_clear_12 : decode cX4_clear 12 = .ok (.putfield 47, 3) := by decide +kernel
theorem dX4_clear_15 : decode cX4_clear 15 = .ok (.aload_n 0, 1) := by decide +kernel
theorem dX4_clear_16 : decode cX4_clear 16 = .ok (.iconst 2, 1) := by decide +kernel
theorem dX4_clear_17 : decode cX4_clear 17 = .ok (.putfield 37, 3) := by decide +kernel
theorem dX4_clear_20 : decode cX4_clear 20 = .ok (.aload_n 0, 1) := by decide +kernel
theorem dX4_clear_21 : decode cX4_clear 21 = .ok (.iconst 0, 1) := by decide +kernel
theorem dX4_clear_22 : decode cX4_clear 22 = .ok (.putfield 50, 3) := by decide +kernel
theorem dX4_clear_25 : decode cX4_clear 25 = .ok (.aload_n 0, 1) := by decide +kernel
theorem dX4_clear_26 : decode cX4_clear 26 = .ok (.iconst 0, 1) := by decide +kernel
theorem dX4_clear_27 : decode cX4_clear 27 = .ok (.putfield 53, 3) := by decide +kernel
theorem dX4_clear_30 : decode cX4_clear 30 = .ok (.aload_n 0, 1) := by decide +kernel
theorem dX4_clear_31 : decode cX4_clear 31 = .ok (.iconst 0, 1) := by decide +kernel
theorem dX4_clear_32 : decode cX4_clear 32 = .ok (.putfield 56, 3) := by decide +kernel
theorem dX4_clear_35 : decode cX4_clear 35 = .ok (.return_, 1) := by decide +kernel
theorem dX4_allowHours_0 : decode cX4_allowHours 0 = .ok (.iload_n 2, 1) := by decide +kernel
theorem dX4_allowHours_1 : decode cX4_allowHours 1 = .ok (.iload_n 3, 1) := by decide +kernel
theorem dX4_allowHours_2 : decode cX4_allowHours 2 = .ok (.invokestatic 93, 3) := by decide +kernel
theorem dX4_allowHours_5 : decode cX4_allowHours 5 = .ok (.istore 4, 2) := by decide +kernel
theorem dX4_allowHours_7 : decode cX4_allowHours 7 = .ok (.aload_n 0, 1) := by decide +kernel
theorem dX4_allowHours_8 : decode cX4_allowHours 8 = .ok (.getfield 15, 3) := by decide +kernel
theorem dX4_allowHours_11 : decode cX4_allowHours 11 = .ok (.iload_n 1, 1) := by decide +kernel
theorem dX4_allowHours_12 : decode cX4_allowHours 12 = .ok (.iaload, 1) := by decide +kernel
theorem dX4_allowHours_13 : decode cX4_allowHours 13 = .ok (.iload 4, 2) := by decide +kernel
theorem dX4_allowHours_15 : decode cX4_allowHours 15 = .ok (.iand, 1) := by decide +kernel
theorem dX4_allowHours_16 : decode cX4_allowHours 16 = .ok (.iload 4, 2) := by decide +kernel
theorem dX4_allowHours_18 : decode cX4_allowHours 18 = .ok (.if_icmp .ne 5, 3) := by decide +kernel
theorem dX4_allowHours_23 : decode cX4_allowHours 23 = .ok (.aload_n 0, 1) := by decide +kernel
theorem dX4_allowHours_24 : decode cX4_allowHours 24 = .ok (.getfield 15, 3) := by decide +kernel
theorem dX4_allowHours_27 : decode cX4_allowHours 27 = .ok (.iload_n 1, 1) := by decide +kernel
theorem dX4_allowHours_28 : decode cX4_allowHours 28 = .ok (.dup2, 1) := by decide +kernel
theorem dX4_allowHours_29 : decode cX4_allowHours 29 = .ok (.iaload, 1) := by decide +kernel
theorem dX4_allowHours_30 : decode cX4_allowHours 30 = .ok (.iload 4, 2) := by decide +kernel
theorem dX4_allowHours_32 : decode cX4_allowHours 32 = .ok (.ior, 1) := by decide +kernel
theorem dX4_allowHours_33 : decode cX4_allowHours 33 = .ok (.iastore, 1) := by decide +kernel
theorem dX4_allowHours_34 : decode cX4_allowHours 34 = .ok (.iconst 0, 1) := by decide +kernel
theorem dX4_allowHours_35 : decode cX4_allowHours 35 = .ok (.ireturn, 1) := by decide +kernel
theorem dX4_allowHours_21 : decode cX4_allowHours 21 = .ok (.iconst 1, 1) := by decide +kernel
theorem dX4_allowHours_22 : decode cX4_allowHours 22 = .ok (.ireturn, 1) := by decide +kernel
theorem dX4_forbidHours_0 : decode cX4_forbidHours 0 = .ok (.iload_n 2, 1) := by decide +kernel
theorem dX4_forbidHours_1 : decode cX4_forbidHours 1 = .ok (.iload_n 3, 1) := by decide +kernel
theorem dX4_forbidHours_2 : decode cX4_forbidHours 2 = .ok (.invokestatic 93, 3) := by decide +kernel
theorem dX4_forbidHours_5 : decode cX4_forbidHours 5 = .ok (.istore 4, 2) := by decide +kernel
theorem dX4_forbidHours_7 : decode cX4_forbidHours 7 = .ok (.aload_n 0, 1) := by decide +kernel
theorem dX4_forbidHours_8 : decode cX4_forbidHours 8 = .ok (.getfield 15, 3) := by decide +kernel
theorem dX4_forbidHours_11 : decode cX4_forbidHours 11 = .ok (.iload_n 1, 1) := by decide +kernel
theorem dX4_forbidHours_12 : decode cX4_forbidHours 12 = .ok (.iaload, 1) := by decide +kernel
theorem dX4_forbidHours_13 : decode cX4_forbidHours 13 = .ok (.iload 4, 2) := by decide +kernel
theorem dX4_forbidHours_15 : decode cX4_forbidHours 15 = .ok (.iand, 1) := by decide +kernel
theorem dX4_forbidHours_16 : decode cX4_forbidHours 16 = .ok (.ifCond .ne 5, 3) := by decide +kernel
theorem dX4_forbidHours_21 : decode cX4_forbidHours 21 = .ok (.aload_n 0, 1) := by decide +kernel
theorem dX4_forbidHours_22 : decode cX4_forbidHours 22 = .ok (.getfield 15, 3) := by decide +kernel
theorem dX4_forbidHours_25 : decode cX4_forbidHours 25 = .ok (.iload_n 1, 1) := by decide +kernel
theorem dX4_forbidHours_26 : decode cX4_forbidHours 26 = .ok (.dup2, 1) := by decide +kernel
theorem dX4_forbidHours_27 : decode cX4_forbidHours 27 = .ok (.iaload, 1) := by decide +kernel
theorem dX4_forbidHours_28 : decode cX4_forbidHours 28 = .ok (.iload 4, 2) := by decide +kernel
theorem dX4_forbidHours_30 : decode cX4_forbidHours 30 = .ok (.iconst (-1), 1) := by decide +kernel
theorem dX4_forbidHours_31 : decode cX4_forbidHours 31 = .ok (.ixor, 1) := by decide +kernel
theorem dX4_forbidHours_32 : decode cX4_forbidHours 32 = .ok (.iand, 1) := by decide +kernel
theorem dX4_forbidHours_33 : decode cX4_forbidHours 33 = .ok (.iastore, 1) := by decide +kernel
theorem dX4_forbidHours_34 : decode cX4_forbidHours 34 = .ok (.iconst 0, 1) := by decide +kernel
theorem dX4_forbidHours_35 : decode cX4_forbidHours 35 = .ok (.ireturn, 1) := by decide +kernel
theorem dX4_forbidHours_19 : decode cX4_forbidHours 19 = .ok (.iconst 1, 1) := by decide +kernel
theorem dX4_forbidHours_20 : decode cX4_forbidHours 20 = .ok (.ireturn, 1) := by decide +kernel
theorem dX4_turnFence_0 : decode cX4_turnFence 0 = .ok (.aload_n 0, 1) := by decide +kernel
theorem dX4_turnFence_1 : decode cX4_turnFence 1 = .ok (.getfield 19, 3) := by decide +kernel
theorem dX4_turnFence_4 : decode cX4_turnFence 4 = .ok (.iload_n 1, 1) := by decide +kernel
theorem dX4_turnFence_5 : decode cX4_turnFence 5 = .ok (.aload_n 0, 1) := by decide +kernel
theorem dX4_turnFence_6 : decode cX4_turnFence 6 = .ok (.getfield 19, 3) := by decide +kernel
theorem dX4_turnFence_9 : decode cX4_turnFence 9 = .ok (.iload_n 1, 1) := by decide +kernel
theorem dX4_turnFence_10 : decode cX4_turnFence 10 = .ok (.baload, 1) := by decide +kernel
theorem dX4_turnFence_11 : decode cX4_turnFence 11 = .ok (.ifCond .ne 7, 3) := by decide +kernel
theorem dX4_turnFence_18 : decode cX4_turnFence 18 = .ok (.iconst 0, 1) := by decide +kernel
theorem dX4_turnFence_19 : decode cX4_turnFence 19 = .ok (.bastore, 1) := by decide +kernel
theorem dX4_turnFence_20 : decode cX4_turnFence 20 = .ok (.iconst 0, 1) := by decide +kernel
theorem dX4_turnFence_21 : decode cX4_turnFence 21 = .ok (.ireturn, 1) := by decide +kernel
theorem dX4_turnFence_14 : decode cX4_turnFence 14 = .ok (.iconst 1, 1) := by decide +kernel
theorem dX4_turnFence_15 : decode cX4_turnFence 15 = .ok (.goto 4, 3) := by decide +kernel
theorem dX4_writeSign_0 : decode cX4_writeSign 0 = .ok (.aload_n 0, 1) := by decide +kernel
theorem dX4_writeSign_1 : decode cX4_writeSign 1 = .ok (.getfield 37, 3) := by decide +kernel
theorem dX4_writeSign_4 : decode cX4_writeSign 4 = .ok (.iload_n 1, 1) := by decide +kernel
theorem dX4_writeSign_5 : decode cX4_writeSign 5 = .ok (.if_icmp .ne 5, 3) := by decide +kernel
theorem dX4_writeSign_10 : decode cX4_writeSign 10 = .ok (.aload_n 0, 1) := by decide +kernel
theorem dX4_writeSign_11 : decode cX4_writeSign 11 = .ok (.iload_n 1, 1) := by decide +kernel
theorem dX4_writeSign_12 : decode cX4_writeSign 12 = .ok (.putfield 37, 3) := by decide +kernel
theorem dX4_writeSign_15 : decode cX4_writeSign 15 = .ok (.iconst 0, 1) := by decide +kernel
theorem dX4_writeSign_16 : decode cX4_writeSign 16 = .ok (.ireturn, 1) := by decide +kernel
theorem dX4_writeSign_8 : decode cX4_writeSign 8 = .ok (.iconst 1, 1) := by decide +kernel
theorem dX4_writeSign_9 : decode cX4_writeSign 9 = .ok (.ireturn, 1) := by decide +kernel
theorem dX4_holdDog_0 : decode cX4_holdDog 0 = .ok (.aload_n 0, 1) := by decide +kernel
theorem dX4_holdDog_1 : decode cX4_holdDog 1 = .ok (.getfield 31, 3) := by decide +kernel
theorem dX4_holdDog_4 : decode cX4_holdDog 4 = .ok (.iload_n 1, 1) := by decide +kernel
theorem dX4_holdDog_5 : decode cX4_holdDog 5 = .ok (.aaload, 1) := by decide +kernel
theorem dX4_holdDog_6 : decode cX4_holdDog 6 = .ok (.getfield 83, 3) := by decide +kernel
theorem dX4_holdDog_9 : decode cX4_holdDog 9 = .ok (.iload_n 2, 1) := by decide +kernel
theorem dX4_holdDog_10 : decode cX4_holdDog 10 = .ok (.if_icmp .ne 13, 3) := by decide +kernel
theorem dX4_holdDog_23 : decode cX4_holdDog 23 = .ok (.aload_n 0, 1) := by decide +kernel
theorem dX4_holdDog_24 : decode cX4_holdDog 24 = .ok (.getfield 31, 3) := by decide +kernel
theorem dX4_holdDog_27 : decode cX4_holdDog 27 = .ok (.iload_n 1, 1) := by decide +kernel
theorem dX4_holdDog_28 : decode cX4_holdDog 28 = .ok (.aaload, 1) := by decide +kernel
theorem dX4_holdDog_29 : decode cX4_holdDog 29 = .ok (.iload_n 2, 1) := by decide +kernel
theorem dX4_holdDog_30 : decode cX4_holdDog 30 = .ok (.putfield 83, 3) := by decide +kernel
theorem dX4_holdDog_33 : decode cX4_holdDog 33 = .ok (.iconst 0, 1) := by decide +kernel
theorem dX4_holdDog_34 : decode cX4_holdDog 34 = .ok (.ireturn, 1) := by decide +kernel
theorem dX4_holdDog_13 : decode cX4_holdDog 13 = .ok (.iload_n 2, 1) := by decide +kernel
theorem dX4_holdDog_14 : decode cX4_holdDog 14 = .ok (.ifCond .eq 7, 3) := by decide +kernel
theorem dX4_holdDog_21 : decode cX4_holdDog 21 = .ok (.iconst 2, 1) := by decide +kernel
theorem dX4_holdDog_22 : decode cX4_holdDog 22 = .ok (.ireturn, 1) := by decide +kernel
theorem dX4_holdDog_17 : decode cX4_holdDog 17 = .ok (.iconst 1, 1) := by decide +kernel
theorem dX4_holdDog_18 : decode cX4_holdDog 18 = .ok (.goto 4, 3) := by decide +kernel
theorem dX4_bring_0 : decode cX4_bring 0 = .ok (.aload_n 0, 1) := by decide +kernel
theorem dX4_bring_1 : decode cX4_bring 1 = .ok (.getfield 25, 3) := by decide +kernel
theorem dX4_bring_4 : decode cX4_bring 4 = .ok (.iload_n 1, 1) := by decide +kernel
theorem dX4_bring_5 : decode cX4_bring 5 = .ok (.aaload, 1) := by decide +kernel
theorem dX4_bring_6 : decode cX4_bring 6 = .ok (.astore 5, 2) := by decide +kernel
theorem dX4_bring_8 : decode cX4_bring 8 = .ok (.aload 5, 2) := by decide +kernel
theorem dX4_bring_10 : decode cX4_bring 10 = .ok (.getfield 97, 3) := by decide +kernel
theorem dX4_bring_13 : decode cX4_bring 13 = .ok (.iload_n 2, 1) := by decide +kernel
theorem dX4_bring_14 : decode cX4_bring 14 = .ok (.if_icmp .ne 24, 3) := by decide +kernel
theorem dX4_bring_38 : decode cX4_bring 38 = .ok (.aload 5, 2) := by decide +kernel
theorem dX4_bring_40 : decode cX4_bring 40 = .ok (.iload_n 2, 1) := by decide +kernel
theorem dX4_bring_41 : decode cX4_bring 41 = .ok (.putfield 97, 3) := by decide +kernel
theorem dX4_bring_44 : decode cX4_bring 44 = .ok (.aload 5, 2) := by decide +kernel
theorem dX4_bring_46 : decode cX4_bring 46 = .ok (.iload_n 3, 1) := by decide +kernel
theorem dX4_bring_47 : decode cX4_bring 47 = .ok (.putfield 100, 3) := by decide +kernel
theorem dX4_bring_50 : decode cX4_bring 50 = .ok (.aload 5, 2) := by decide +kernel
theorem dX4_bring_52 : decode cX4_bring 52 = .ok (.iload 4, 2) := by decide +kernel
theorem dX4_bring_54 : decode cX4_bring 54 = .ok (.putfield 103, 3) := by decide +kernel
theorem dX4_bring_57 : decode cX4_bring 57 = .ok (.iconst 0, 1) := by decide +kernel
theorem dX4_bring_58 : decode cX4_bring 58 = .ok (.ireturn, 1) := by decide +kernel
theorem dX4_bring_17 : decode cX4_bring 17 = .ok (.aload 5, 2) := by decide +kernel
theorem dX4_bring_19 : decode cX4_bring 19 = .ok (.getfield 100, 3) := by decide +kernel
theorem dX4_bring_22 : decode cX4_bring 22 = .ok (.iload_n 3, 1) := by decide +kernel
theorem dX4_bring_23 : decode cX4_bring 23 = .ok (.if_icmp .ne 15, 3) := by decide +kernel
theorem dX4_bring_26 : decode cX4_bring 26 = .ok (.aload 5, 2) := by decide +kernel
theorem dX4_bring_28 : decode cX4_bring 28 = .ok (.getfield 103, 3) := by decide +kernel
theorem dX4_bring_31 : decode cX4_bring 31 = .ok (.iload 4, 2) := by decide +kernel
theorem dX4_bring_33 : decode cX4_bring 33 = .ok (.if_icmp .ne 5, 3) := by decide +kernel
theorem dX4_bring_36 : decode cX4_bring 36 = .ok (.iconst 1, 1) := by decide +kernel
theorem dX4_bring_37 : decode cX4_bring 37 = .ok (.ireturn, 1) := by decide +kernel
theorem dX4_numberOf_0 : decode cX4_numberOf 0 = .ok (.iload_n 1, 1) := by decide +kernel
theorem dX4_numberOf_1 : decode cX4_numberOf 1 = .ok (.ifCond .ne 10, 3) := by decide +kernel
theorem dX4_numberOf_4 : decode cX4_numberOf 4 = .ok (.aload_n 0, 1) := by decide +kernel
theorem dX4_numberOf_5 : decode cX4_numberOf 5 = .ok (.getfield 41, 3) := by decide +kernel
theorem dX4_numberOf_8 : decode cX4_numberOf 8 = .ok (.goto 19, 3) := by decide +kernel
theorem dX4_numberOf_27 : decode cX4_numberOf 27 = .ok (.istore 4, 2) := by decide +kernel
theorem dX4_numberOf_29 : decode cX4_numberOf 29 = .ok (.iconst 0, 1) := by decide +kernel
theorem dX4_numberOf_30 : decode cX4_numberOf 30 = .ok (.istore 5, 2) := by decide +kernel
theorem dX4_numberOf_32 : decode cX4_numberOf 32 = .ok (.iload 5, 2) := by decide +kernel
theorem dX4_numberOf_34 : decode cX4_numberOf 34 = .ok (.iload 4, 2) := by decide +kernel
theorem dX4_numberOf_36 : decode cX4_numberOf 36 = .ok (.if_icmp .ge 63, 3) := by decide +kernel
theorem dX4_numberOf_99 : decode cX4_numberOf 99 = .ok (.iconst (-1), 1) := by decide +kernel
theorem dX4_numberOf_100 : decode cX4_numberOf 100 = .ok (.ireturn, 1) := by decide +kernel
theorem dX4_numberOf_39 : decode cX4_numberOf 39 = .ok (.iload_n 1, 1) := by decide +kernel
theorem dX4_numberOf_40 : decode cX4_numberOf 40 = .ok (.ifCond .ne 13, 3) := by decide +kernel
theorem dX4_numberOf_43 : decode cX4_numberOf 43 = .ok (.aload_n 0, 1) := by decide +kernel
theorem dX4_numberOf_44 : decode cX4_numberOf 44 = .ok (.getfield 9, 3) := by decide +kernel
theorem dX4_numberOf_47 : decode cX4_numberOf 47 = .ok (.iload 5, 2) := by decide +kernel
theorem dX4_numberOf_49 : decode cX4_numberOf 49 = .ok (.laload, 1) := by decide +kernel
theorem dX4_numberOf_50 : decode cX4_numberOf 50 = .ok (.goto 31, 3) := by decide +kernel
theorem dX4_numberOf_81 : decode cX4_numberOf 81 = .ok (.lstore 6, 2) := by decide +kernel
theorem dX4_numberOf_83 : decode cX4_numberOf 83 = .ok (.lload 6, 2) := by decide +kernel
theorem dX4_numberOf_85 : decode cX4_numberOf 85 = .ok (.lload_n 2, 1) := by decide +kernel
theorem dX4_numberOf_86 : decode cX4_numberOf 86 = .ok (.lcmp, 1) := by decide +kernel
theorem dX4_numberOf_87 : decode cX4_numberOf 87 = .ok (.ifCond .ne 6, 3) := by decide +kernel
theorem dX4_numberOf_93 : decode cX4_numberOf 93 = .ok (.iinc 5 1, 3) := by decide +kernel
theorem dX4_numberOf_96 : decode cX4_numberOf 96 = .ok (.goto (-64), 3) := by decide +kernel
theorem dX4_numberOf_90 : decode cX4_numberOf 90 = .ok (.iload 5, 2) := by decide +kernel
theorem dX4_numberOf_92 : decode cX4_numberOf 92 = .ok (.ireturn, 1) := by decide +kernel
theorem dX4_numberOf_11 : decode cX4_numberOf 11 = .ok (.iload_n 1, 1) := by decide +kernel
theorem dX4_numberOf_12 : decode cX4_numberOf 12 = .ok (.iconst 1, 1) := by decide +kernel
theorem dX4_numberOf_13 : decode cX4_numberOf 13 = .ok (.if_icmp .ne 10, 3) := by decide +kernel
theorem dX4_numberOf_16 : decode cX4_numberOf 16 = .ok (.aload_n 0, 1) := by decide +kernel
theorem dX4_numberOf_17 : decode cX4_numberOf 17 = .ok (.getfield 44, 3) := by decide +kernel
theorem dX4_numberOf_20 : decode cX4_numberOf 20 = .ok (.goto 7, 3) := by decide +kernel
theorem dX4_numberOf_53 : decode cX4_numberOf 53 = .ok (.iload_n 1, 1) := by decide +kernel
theorem dX4_numberOf_54 : decode cX4_numberOf 54 = .ok (.iconst 1, 1) := by decide +kernel
theorem dX4_numberOf_55 : decode cX4_numberOf 55 = .ok (.if_icmp .ne 16, 3) := by decide +kernel
theorem dX4_numberOf_58 : decode cX4_numberOf 58 = .ok (.aload_n 0, 1) := by decide +kernel
theorem dX4_numberOf_59 : decode cX4_numberOf 59 = .ok (.getfield 25, 3) := by decide +kernel
theorem dX4_numberOf_62 : decode cX4_numberOf 62 = .ok (.iload 5, 2) := by decide +kernel
theorem dX4_numberOf_64 : decode cX4_numberOf 64 = .ok (.aaload, 1) := by decide +kernel
theorem dX4_numberOf_65 : decode cX4_numberOf 65 = .ok (.getfield 66, 3) := by decide +kernel
theorem dX4_numberOf_68 : decode cX4_numberOf 68 = .ok (.goto 13, 3) := by decide +kernel
theorem dX4_numberOf_23 : decode cX4_numberOf 23 = .ok (.aload_n 0, 1) := by decide +kernel
theorem dX4_numberOf_24 : decode cX4_numberOf 24 = .ok (.getfield 47, 3) := by decide +kernel
theorem dX4_numberOf_71 : decode cX4_numberOf 71 = .ok (.aload_n 0, 1) := by decide +kernel
theorem dX4_numberOf_72 : decode cX4_numberOf 72 = .ok (.getfield 31, 3) := by decide +kernel
theorem dX4_numberOf_75 : decode cX4_numberOf 75 = .ok (.iload 5, 2) := by decide +kernel
theorem dX4_numberOf_77 : decode cX4_numberOf 77 = .ok (.aaload, 1) := by decide +kernel
theorem dX4_numberOf_78 : decode cX4_numberOf 78 = .ok (.getfield 79, 3) := by decide +kernel
theorem dX1_draw_0 : decode cX1_draw 0 = .ok (.aload_n 0, 1) := by decide +kernel
theorem dX1_draw_1 : decode cX1_draw 1 = .ok (.aload_n 0, 1) := by decide +kernel
theorem dX1_draw_2 : decode cX1_draw 2 = .ok (.getfield 9, 3) := by decide +kernel
theorem dX1_draw_5 : decode cX1_draw 5 = .ok (.ldc 24, 2) := by decide +kernel
theorem dX1_draw_7 : decode cX1_draw 7 = .ok (.imul, 1) := by decide +kernel
theorem dX1_draw_8 : decode cX1_draw 8 = .ok (.sipush 12345, 3) := by decide +kernel
theorem dX1_draw_11 : decode cX1_draw 11 = .ok (.iadd, 1) := by decide +kernel
theorem dX1_draw_12 : decode cX1_draw 12 = .ok (.putfield 9, 3) := by decide +kernel
theorem dX1_draw_15 : decode cX1_draw 15 = .ok (.aload_n 0, 1) := by decide +kernel
theorem dX1_draw_16 : decode cX1_draw 16 = .ok (.getfield 9, 3) := by decide +kernel
theorem dX1_draw_19 : decode cX1_draw 19 = .ok (.bipush 8, 2) := by decide +kernel
theorem dX1_draw_21 : decode cX1_draw 21 = .ok (.iushr, 1) := by decide +kernel
theorem dX1_draw_22 : decode cX1_draw 22 = .ok (.bipush 12, 2) := by decide +kernel
theorem dX1_draw_24 : decode cX1_draw 24 = .ok (.irem, 1) := by decide +kernel
theorem dX1_draw_25 : decode cX1_draw 25 = .ok (.ireturn, 1) := by decide +kernel
theorem dX1_firstThere_0 : decode cX1_firstThere 0 = .ok (.iconst 0, 1) := by decide +kernel
theorem dX1_firstThere_1 : decode cX1_firstThere 1 = .ok (.istore 4, 2) := by decide +kernel
theorem dX1_firstThere_3 : decode cX1_firstThere 3 = .ok (.iload 4, 2) := by decide +kernel
theorem dX1_firstThere_5 : decode cX1_firstThere 5 = .ok (.aload_n 0, 1) := by decide +kernel
theorem dX1_firstThere_6 : decode cX1_firstThere 6 = .ok (.getfield 32, 3) := by decide +kernel
theorem dX1_firstThere_9 : decode cX1_firstThere 9 = .ok (.if_icmp .ge 56, 3) := by decide +kernel
theorem dX1_firstThere_65 : decode cX1_firstThere 65 = .ok (.iconst (-1), 1) := by decide +kernel
theorem dX1_firstThere_66 : decode cX1_firstThere 66 = .ok (.ireturn, 1) := by decide +kernel
theorem dX1_firstThere_12 : decode cX1_firstThere 12 = .ok (.aload_n 0, 1) := by decide +kernel
theorem dX1_firstThere_13 : decode cX1_firstThere 13 = .ok (.getfield 35, 3) := by decide +kernel
theorem dX1_firstThere_16 : decode cX1_firstThere 16 = .ok (.iload 4, 2) := by decide +kernel
theorem dX1_firstThere_18 : decode cX1_firstThere 18 = .ok (.aaload, 1) := by decide +kernel
theorem dX1_firstThere_19 : decode cX1_firstThere 19 = .ok (.astore 5, 2) := by decide +kernel
theorem dX1_firstThere_21 : decode cX1_firstThere 21 = .ok (.aload 5, 2) := by decide +kernel
theorem dX1_firstThere_23 : decode cX1_firstThere 23 = .ok (.getfield 105, 3) := by decide +kernel
theorem dX1_firstThere_26 : decode cX1_firstThere 26 = .ok (.ifCond .ne 33, 3) := by decide +kernel
theorem dX1_firstThere_59 : decode cX1_firstThere 59 = .ok (.iinc 4 1, 3) := by decide +kernel
theorem dX1_firstThere_62 : decode cX1_firstThere 62 = .ok (.goto (-59), 3) := by decide +kernel
theorem dX1_firstThere_29 : decode cX1_firstThere 29 = .ok (.aload 5, 2) := by decide +kernel
theorem dX1_firstThere_31 : decode cX1_firstThere 31 = .ok (.getfield 44, 3) := by decide +kernel
theorem dX1_firstThere_34 : decode cX1_firstThere 34 = .ok (.ifCond .ne 25, 3) := by decide +kernel
theorem dX1_firstThere_37 : decode cX1_firstThere 37 = .ok (.iload_n 3, 1) := by decide +kernel
theorem dX1_firstThere_38 : decode cX1_firstThere 38 = .ok (.iload 4, 2) := by decide +kernel
theorem dX1_firstThere_40 : decode cX1_firstThere 40 = .ok (.ishr, 1) := by decide +kernel
theorem dX1_firstThere_41 : decode cX1_firstThere 41 = .ok (.iconst 1, 1) := by decide +kernel
theorem dX1_firstThere_42 : decode cX1_firstThere 42 = .ok (.iand, 1) := by decide +kernel
