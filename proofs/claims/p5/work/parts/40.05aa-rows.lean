theorem dX12_best_0 : decode cX12_best 0 = .ok (.aload_n 0, 1) := by decide +kernel
theorem dX12_best_1 : decode cX12_best 1 = .ok (.iconst 0, 1) := by decide +kernel
theorem dX12_best_2 : decode cX12_best 2 = .ok (.putfield 1, 3) := by decide +kernel
theorem dX12_best_5 : decode cX12_best 5 = .ok (.aload_n 0, 1) := by decide +kernel
theorem dX12_best_6 : decode cX12_best 6 = .ok (.iload_n 1, 1) := by decide +kernel
theorem dX12_best_7 : decode cX12_best 7 = .ok (.invokevirtual 250, 3) := by decide +kernel
theorem dX12_best_10 : decode cX12_best 10 = .ok (.ifCond .eq 12, 3) := by decide +kernel
theorem dX12_best_13 : decode cX12_best 13 = .ok (.iload_n 2, 1) := by decide +kernel
theorem dX12_best_14 : decode cX12_best 14 = .ok (.iconst 0, 1) := by decide +kernel
theorem dX12_best_15 : decode cX12_best 15 = .ok (.iconst 1, 1) := by decide +kernel
theorem dX12_best_16 : decode cX12_best 16 = .ok (.invokestatic 75, 3) := by decide +kernel
theorem dX12_best_19 : decode cX12_best 19 = .ok (.ifCond .ne 5, 3) := by decide +kernel
theorem dX12_best_24 : decode cX12_best 24 = .ok (.aload_n 0, 1) := by decide +kernel
theorem dX12_best_25 : decode cX12_best 25 = .ok (.getfield 98, 3) := by decide +kernel
theorem dX12_best_28 : decode cX12_best 28 = .ok (.bipush 66, 2) := by decide +kernel
theorem dX12_best_30 : decode cX12_best 30 = .ok (.iload_n 1, 1) := by decide +kernel
theorem dX12_best_31 : decode cX12_best 31 = .ok (.iadd, 1) := by decide +kernel
theorem dX12_best_32 : decode cX12_best 32 = .ok (.iaload, 1) := by decide +kernel
theorem dX12_best_33 : decode cX12_best 33 = .ok (.istore_n 3, 1) := by decide +kernel
theorem dX12_best_34 : decode cX12_best 34 = .ok (.aload_n 0, 1) := by decide +kernel
theorem dX12_best_35 : decode cX12_best 35 = .ok (.getfield 98, 3) := by decide +kernel
theorem dX12_best_38 : decode cX12_best 38 = .ok (.bipush 66, 2) := by decide +kernel
theorem dX12_best_40 : decode cX12_best 40 = .ok (.iload_n 1, 1) := by decide +kernel
theorem dX12_best_41 : decode cX12_best 41 = .ok (.iadd, 1) := by decide +kernel
theorem dX12_best_42 : decode cX12_best 42 = .ok (.iconst 0, 1) := by decide +kernel
theorem dX12_best_43 : decode cX12_best 43 = .ok (.iastore, 1) := by decide +kernel
theorem dX12_best_44 : decode cX12_best 44 = .ok (.aload_n 0, 1) := by decide +kernel
theorem dX12_best_45 : decode cX12_best 45 = .ok (.iload_n 2, 1) := by decide +kernel
theorem dX12_best_46 : decode cX12_best 46 = .ok (.iconst 1, 1) := by decide +kernel
theorem dX12_best_47 : decode cX12_best 47 = .ok (.if_icmp .ne 7, 3) := by decide +kernel
theorem dX12_best_54 : decode cX12_best 54 = .ok (.iconst 0, 1) := by decide +kernel
theorem dX12_best_55 : decode cX12_best 55 = .ok (.invokevirtual 256, 3) := by decide +kernel
theorem dX12_best_58 : decode cX12_best 58 = .ok (.istore 4, 2) := by decide +kernel
theorem dX12_best_60 : decode cX12_best 60 = .ok (.aload_n 0, 1) := by decide +kernel
theorem dX12_best_61 : decode cX12_best 61 = .ok (.iconst (-1), 1) := by decide +kernel
theorem dX12_best_62 : decode cX12_best 62 = .ok (.putfield 127, 3) := by decide +kernel
theorem dX12_best_65 : decode cX12_best 65 = .ok (.aload_n 0, 1) := by decide +kernel
theorem dX12_best_66 : decode cX12_best 66 = .ok (.iconst (-1), 1) := by decide +kernel
theorem dX12_best_67 : decode cX12_best 67 = .ok (.putfield 130, 3) := by decide +kernel
theorem dX12_best_70 : decode cX12_best 70 = .ok (.iconst 0, 1) := by decide +kernel
theorem dX12_best_71 : decode cX12_best 71 = .ok (.istore 5, 2) := by decide +kernel
theorem dX12_best_73 : decode cX12_best 73 = .ok (.iload 5, 2) := by decide +kernel
theorem dX12_best_75 : decode cX12_best 75 = .ok (.bipush 24, 2) := by decide +kernel
theorem dX12_best_77 : decode cX12_best 77 = .ok (.if_icmp .ge 84, 3) := by decide +kernel
theorem dX12_best_161 : decode cX12_best 161 = .ok (.aload_n 0, 1) := by decide +kernel
theorem dX12_best_162 : decode cX12_best 162 = .ok (.getfield 98, 3) := by decide +kernel
theorem dX12_best_165 : decode cX12_best 165 = .ok (.bipush 66, 2) := by decide +kernel
theorem dX12_best_167 : decode cX12_best 167 = .ok (.iload_n 1, 1) := by decide +kernel
theorem dX12_best_168 : decode cX12_best 168 = .ok (.iadd, 1) := by decide +kernel
theorem dX12_best_169 : decode cX12_best 169 = .ok (.iload_n 3, 1) := by decide +kernel
theorem dX12_best_170 : decode cX12_best 170 = .ok (.iastore, 1) := by decide +kernel
theorem dX12_best_171 : decode cX12_best 171 = .ok (.iload 4, 2) := by decide +kernel
theorem dX12_best_173 : decode cX12_best 173 = .ok (.ireturn, 1) := by decide +kernel
theorem dX12_best_80 : decode cX12_best 80 = .ok (.iload 5, 2) := by decide +kernel
theorem dX12_best_82 : decode cX12_best 82 = .ok (.istore 6, 2) := by decide +kernel
theorem dX12_best_84 : decode cX12_best 84 = .ok (.iload 6, 2) := by decide +kernel
theorem dX12_best_86 : decode cX12_best 86 = .ok (.bipush 24, 2) := by decide +kernel
theorem dX12_best_88 : decode cX12_best 88 = .ok (.if_icmp .ge 67, 3) := by decide +kernel
theorem dX12_best_155 : decode cX12_best 155 = .ok (.iinc 5 1, 3) := by decide +kernel
theorem dX12_best_158 : decode cX12_best 158 = .ok (.goto (-85), 3) := by decide +kernel
theorem dX12_best_91 : decode cX12_best 91 = .ok (.aload_n 0, 1) := by decide +kernel
theorem dX12_best_92 : decode cX12_best 92 = .ok (.getfield 98, 3) := by decide +kernel
theorem dX12_best_95 : decode cX12_best 95 = .ok (.bipush 66, 2) := by decide +kernel
theorem dX12_best_97 : decode cX12_best 97 = .ok (.iload_n 1, 1) := by decide +kernel
theorem dX12_best_98 : decode cX12_best 98 = .ok (.iadd, 1) := by decide +kernel
theorem dX12_best_99 : decode cX12_best 99 = .ok (.iload 5, 2) := by decide +kernel
theorem dX12_best_101 : decode cX12_best 101 = .ok (.iload 6, 2) := by decide +kernel
theorem dX12_best_103 : decode cX12_best 103 = .ok (.invokestatic 185, 3) := by decide +kernel
theorem dX12_best_106 : decode cX12_best 106 = .ok (.iastore, 1) := by decide +kernel
theorem dX12_best_107 : decode cX12_best 107 = .ok (.aload_n 0, 1) := by decide +kernel
theorem dX12_best_108 : decode cX12_best 108 = .ok (.iload_n 2, 1) := by decide +kernel
theorem dX12_best_109 : decode cX12_best 109 = .ok (.iconst 1, 1) := by decide +kernel
theorem dX12_best_110 : decode cX12_best 110 = .ok (.if_icmp .ne 7, 3) := by decide +kernel
theorem dX12_best_117 : decode cX12_best 117 = .ok (.iconst 0, 1) := by decide +kernel
theorem dX12_best_118 : decode cX12_best 118 = .ok (.invokevirtual 256, 3) := by decide +kernel
theorem dX12_best_121 : decode cX12_best 121 = .ok (.istore 7, 2) := by decide +kernel
theorem dX12_best_123 : decode cX12_best 123 = .ok (.iload 7, 2) := by decide +kernel
theorem dX12_best_125 : decode cX12_best 125 = .ok (.iload 4, 2) := by decide +kernel
theorem dX12_best_127 : decode cX12_best 127 = .ok (.if_icmp .gt 6, 3) := by decide +kernel
theorem dX12_best_133 : decode cX12_best 133 = .ok (.iload 7, 2) := by decide +kernel
theorem dX12_best_135 : decode cX12_best 135 = .ok (.istore 4, 2) := by decide +kernel
theorem dX12_best_137 : decode cX12_best 137 = .ok (.aload_n 0, 1) := by decide +kernel
theorem dX12_best_138 : decode cX12_best 138 = .ok (.iload 5, 2) := by decide +kernel
theorem dX12_best_140 : decode cX12_best 140 = .ok (.putfield 127, 3) := by decide +kernel
theorem dX12_best_143 : decode cX12_best 143 = .ok (.aload_n 0, 1) := by decide +kernel
theorem dX12_best_144 : decode cX12_best 144 = .ok (.iload 6, 2) := by decide +kernel
theorem dX12_best_146 : decode cX12_best 146 = .ok (.putfield 130, 3) := by decide +kernel
theorem dX12_best_149 : decode cX12_best 149 = .ok (.iinc 6 1, 3) := by decide +kernel
theorem dX12_best_152 : decode cX12_best 152 = .ok (.goto (-68), 3) := by decide +kernel
theorem dX12_best_130 : decode cX12_best 130 = .ok (.goto 19, 3) := by decide +kernel
theorem dX12_best_50 : decode cX12_best 50 = .ok (.iconst 1, 1) := by decide +kernel
theorem dX12_best_51 : decode cX12_best 51 = .ok (.goto 4, 3) := by decide +kernel
theorem dX12_best_113 : decode cX12_best 113 = .ok (.iconst 1, 1) := by decide +kernel
theorem dX12_best_114 : decode cX12_best 114 = .ok (.goto 4, 3) := by decide +kernel
theorem dX12_best_22 : decode cX12_best 22 = .ok (.iconst (-1), 1) := by decide +kernel
theorem dX12_best_23 : decode cX12_best 23 = .ok (.ireturn, 1) := by decide +kernel
theorem dX12_fences_0 : decode cX12_fences 0 = .ok (.aload_n 0, 1) := by decide +kernel
theorem dX12_fences_1 : decode cX12_fences 1 = .ok (.iconst 0, 1) := by decide +kernel
theorem dX12_fences_2 : decode cX12_fences 2 = .ok (.putfield 1, 3) := by decide +kernel
theorem dX12_fences_5 : decode cX12_fences 5 = .ok (.aload_n 0, 1) := by decide +kernel
theorem dX12_fences_6 : decode cX12_fences 6 = .ok (.getfield 98, 3) := by decide +kernel
theorem dX12_fences_9 : decode cX12_fences 9 = .ok (.bipush 65, 2) := by decide +kernel
theorem dX12_fences_11 : decode cX12_fences 11 = .ok (.iaload, 1) := by decide +kernel
theorem dX12_fences_12 : decode cX12_fences 12 = .ok (.istore_n 1, 1) := by decide +kernel
theorem dX12_fences_13 : decode cX12_fences 13 = .ok (.iconst (-1), 1) := by decide +kernel
theorem dX12_fences_14 : decode cX12_fences 14 = .ok (.istore_n 2, 1) := by decide +kernel
theorem dX12_fences_15 : decode cX12_fences 15 = .ok (.iconst (-1), 1) := by decide +kernel
theorem dX12_fences_16 : decode cX12_fences 16 = .ok (.istore_n 3, 1) := by decide +kernel
theorem dX12_fences_17 : decode cX12_fences 17 = .ok (.iconst 0, 1) := by decide +kernel
theorem dX12_fences_18 : decode cX12_fences 18 = .ok (.istore 4, 2) := by decide +kernel
theorem dX12_fences_20 : decode cX12_fences 20 = .ok (.iload 4, 2) := by decide +kernel
theorem dX12_fences_22 : decode cX12_fences 22 = .ok (.aload_n 0, 1) := by decide +kernel
theorem dX12_fences_23 : decode cX12_fences 23 = .ok (.getfield 98, 3) := by decide +kernel
theorem dX12_fences_26 : decode cX12_fences 26 = .ok (.iconst 0, 1) := by decide +kernel
theorem dX12_fences_27 : decode cX12_fences 27 = .ok (.iaload, 1) := by decide +kernel
theorem dX12_fences_28 : decode cX12_fences 28 = .ok (.if_icmp .ge 44, 3) := by decide +kernel
theorem dX12_fences_72 : decode cX12_fences 72 = .ok (.aload_n 0, 1) := by decide +kernel
theorem dX12_fences_73 : decode cX12_fences 73 = .ok (.getfield 98, 3) := by decide +kernel
theorem dX12_fences_76 : decode cX12_fences 76 = .ok (.bipush 65, 2) := by decide +kernel
theorem dX12_fences_78 : decode cX12_fences 78 = .ok (.iload_n 1, 1) := by decide +kernel
theorem dX12_fences_79 : decode cX12_fences 79 = .ok (.iastore, 1) := by decide +kernel
theorem dX12_fences_80 : decode cX12_fences 80 = .ok (.iload_n 2, 1) := by decide +kernel
theorem dX12_fences_81 : decode cX12_fences 81 = .ok (.ireturn, 1) := by decide +kernel
theorem dX12_fences_31 : decode cX12_fences 31 = .ok (.aload_n 0, 1) := by decide +kernel
theorem dX12_fences_32 : decode cX12_fences 32 = .ok (.getfield 98, 3) := by decide +kernel
theorem dX12_fences_35 : decode cX12_fences 35 = .ok (.bipush 65, 2) := by decide +kernel
theorem dX12_fences_37 : decode cX12_fences 37 = .ok (.iload_n 1, 1) := by decide +kernel
theorem dX12_fences_38 : decode cX12_fences 38 = .ok (.iconst 1, 1) := by decide +kernel
theorem dX12_fences_39 : decode cX12_fences 39 = .ok (.iload 4, 2) := by decide +kernel
theorem dX12_fences_41 : decode cX12_fences 41 = .ok (.ishl, 1) := by decide +kernel
theorem dX12_fences_42 : decode cX12_fences 42 = .ok (.ior, 1) := by decide +kernel
theorem dX12_fences_43 : decode cX12_fences 43 = .ok (.iastore, 1) := by decide +kernel
theorem dX12_fences_44 : decode cX12_fences 44 = .ok (.aload_n 0, 1) := by decide +kernel
theorem dX12_fences_45 : decode cX12_fences 45 = .ok (.iconst 1, 1) := by decide +kernel
theorem dX12_fences_46 : decode cX12_fences 46 = .ok (.invokevirtual 256, 3) := by decide +kernel
theorem dX12_fences_49 : decode cX12_fences 49 = .ok (.istore 5, 2) := by decide +kernel
theorem dX12_fences_51 : decode cX12_fences 51 = .ok (.iload 5, 2) := by decide +kernel
theorem dX12_fences_53 : decode cX12_fences 53 = .ok (.iload_n 3, 1) := by decide +kernel
theorem dX12_fences_54 : decode cX12_fences 54 = .ok (.if_icmp .gt 6, 3) := by decide +kernel
theorem dX12_fences_60 : decode cX12_fences 60 = .ok (.iload 5, 2) := by decide +kernel
theorem dX12_fences_62 : decode cX12_fences 62 = .ok (.istore_n 3, 1) := by decide +kernel
theorem dX12_fences_63 : decode cX12_fences 63 = .ok (.iload 4, 2) := by decide +kernel
theorem dX12_fences_65 : decode cX12_fences 65 = .ok (.istore_n 2, 1) := by decide +kernel
theorem dX12_fences_66 : decode cX12_fences 66 = .ok (.iinc 4 1, 3) := by decide +kernel
theorem dX12_fences_69 : decode cX12_fences 69 = .ok (.goto (-49), 3) := by decide +kernel
theorem dX12_fences_57 : decode cX12_fences 57 = .ok (.goto 9, 3) := by decide +kernel
theorem dX12_goesElsewhere_0 : decode cX12_goesElsewhere 0 = .ok (.aload_n 0, 1) := by decide +kernel
theorem dX12_goesElsewhere_1 : decode cX12_goesElsewhere 1 = .ok (.getfield 98, 3) := by decide +kernel
theorem dX12_goesElsewhere_4 : decode cX12_goesElsewhere 4 = .ok (.bipush 71, 2) := by decide +kernel
theorem dX12_goesElsewhere_6 : decode cX12_goesElsewhere 6 = .ok (.iload_n 1, 1) := by decide +kernel
theorem dX12_goesElsewhere_7 : decode cX12_goesElsewhere 7 = .ok (.iadd, 1) := by decide +kernel
theorem dX12_goesElsewhere_8 : decode cX12_goesElsewhere 8 = .ok (.iaload, 1) := by decide +kernel
theorem dX12_goesElsewhere_9 : decode cX12_goesElsewhere 9 = .ok (.istore_n 2, 1) := by decide +kernel
theorem dX12_goesElsewhere_10 : decode cX12_goesElsewhere 10 = .ok (.iload_n 2, 1) := by decide +kernel
theorem dX12_goesElsewhere_11 : decode cX12_goesElsewhere 11 = .ok (.istore_n 3, 1) := by decide +kernel
theorem dX12_goesElsewhere_12 : decode cX12_goesElsewhere 12 = .ok (.aload_n 0, 1) := by decide +kernel
theorem dX12_goesElsewhere_13 : decode cX12_goesElsewhere 13 = .ok (.iload_n 1, 1) := by decide +kernel
theorem dX12_goesElsewhere_14 : decode cX12_goesElsewhere 14 = .ok (.invokevirtual 238, 3) := by decide +kernel
theorem dX12_goesElsewhere_17 : decode cX12_goesElsewhere 17 = .ok (.istore 4, 2) := by decide +kernel
theorem dX12_goesElsewhere_19 : decode cX12_goesElsewhere 19 = .ok (.iconst 0, 1) := by decide +kernel
theorem dX12_goesElsewhere_20 : decode cX12_goesElsewhere 20 = .ok (.istore 5, 2) := by decide +kernel
theorem dX12_goesElsewhere_22 : decode cX12_goesElsewhere 22 = .ok (.iload 5, 2) := by decide +kernel
theorem dX12_goesElsewhere_24 : decode cX12_goesElsewhere 24 = .ok (.aload_n 0, 1) := by decide +kernel
theorem dX12_goesElsewhere_25 : decode cX12_goesElsewhere 25 = .ok (.getfield 98, 3) := by decide +kernel
theorem dX12_goesElsewhere_28 : decode cX12_goesElsewhere 28 = .ok (.iconst 0, 1) := by decide +kernel
theorem dX12_goesElsewhere_29 : decode cX12_goesElsewhere 29 = .ok (.iaload, 1) := by decide +kernel
theorem dX12_goesElsewhere_30 : decode cX12_goesElsewhere 30 = .ok (.if_icmp .ge 44, 3) := by decide +kernel
theorem dX12_goesElsewhere_74 : decode cX12_goesElsewhere 74 = .ok (.aload_n 0, 1) := by decide +kernel
theorem dX12_goesElsewhere_75 : decode cX12_goesElsewhere 75 = .ok (.getfield 98, 3) := by decide +kernel
theorem dX12_goesElsewhere_78 : decode cX12_goesElsewhere 78 = .ok (.bipush 71, 2) := by decide +kernel
theorem dX12_goesElsewhere_80 : decode cX12_goesElsewhere 80 = .ok (.iload_n 1, 1) := by decide +kernel
theorem dX12_goesElsewhere_81 : decode cX12_goesElsewhere 81 = .ok (.iadd, 1) := by decide +kernel
theorem dX12_goesElsewhere_82 : decode cX12_goesElsewhere 82 = .ok (.iload_n 3, 1) := by decide +kernel
theorem dX12_goesElsewhere_83 : decode cX12_goesElsewhere 83 = .ok (.iastore, 1) := by decide +kernel
theorem dX12_goesElsewhere_84 : decode cX12_goesElsewhere 84 = .ok (.iload_n 3, 1) := by decide +kernel
theorem dX12_goesElsewhere_85 : decode cX12_goesElsewhere 85 = .ok (.iload_n 2, 1) := by decide +kernel
theorem dX12_goesElsewhere_86 : decode cX12_goesElsewhere 86 = .ok (.if_icmp .eq 7, 3) := by decide +kernel
theorem dX12_goesElsewhere_93 : decode cX12_goesElsewhere 93 = .ok (.iconst 0, 1) := by decide +kernel
theorem dX12_goesElsewhere_94 : decode cX12_goesElsewhere 94 = .ok (.ireturn, 1) := by decide +kernel
theorem dX12_goesElsewhere_89 : decode cX12_goesElsewhere 89 = .ok (.iconst 1, 1) := by decide +kernel
theorem dX12_goesElsewhere_90 : decode cX12_goesElsewhere 90 = .ok (.goto 4, 3) := by decide +kernel
theorem dX12_goesElsewhere_33 : decode cX12_goesElsewhere 33 = .ok (.aload_n 0, 1) := by decide +kernel
theorem dX12_goesElsewhere_34 : decode cX12_goesElsewhere 34 = .ok (.getfield 98, 3) := by decide +kernel
theorem dX12_goesElsewhere_37 : decode cX12_goesElsewhere 37 = .ok (.bipush 71, 2) := by decide +kernel
theorem dX12_goesElsewhere_39 : decode cX12_goesElsewhere 39 = .ok (.iload_n 1, 1) := by decide +kernel
theorem dX12_goesElsewhere_40 : decode cX12_goesElsewhere 40 = .ok (.iadd, 1) := by decide +kernel
theorem dX12_goesElsewhere_41 : decode cX12_goesElsewhere 41 = .ok (.iload 5, 2) := by decide +kernel
theorem dX12_goesElsewhere_43 : decode cX12_goesElsewhere 43 = .ok (.iastore, 1) := by decide +kernel
theorem dX12_goesElsewhere_44 : decode cX12_goesElsewhere 44 = .ok (.aload_n 0, 1) := by decide +kernel
theorem dX12_goesElsewhere_45 : decode cX12_goesElsewhere 45 = .ok (.iload_n 1, 1) := by decide +kernel
theorem dX12_goesElsewhere_46 : decode cX12_goesElsewhere 46 = .ok (.invokevirtual 238, 3) := by decide +kernel
theorem dX12_goesElsewhere_49 : decode cX12_goesElsewhere 49 = .ok (.istore 6, 2) := by decide +kernel
theorem dX12_goesElsewhere_51 : decode cX12_goesElsewhere 51 = .ok (.iload 6, 2) := by decide +kernel
theorem dX12_goesElsewhere_53 : decode cX12_goesElsewhere 53 = .ok (.iload 4, 2) := by decide +kernel
theorem dX12_goesElsewhere_55 : decode cX12_goesElsewhere 55 = .ok (.if_icmp .gt 6, 3) := by decide +kernel
theorem dX12_goesElsewhere_61 : decode cX12_goesElsewhere 61 = .ok (.iload 6, 2) := by decide +kernel
theorem dX12_goesElsewhere_63 : decode cX12_goesElsewhere 63 = .ok (.istore 4, 2) := by decide +kernel
theorem dX12_goesElsewhere_65 : decode cX12_goesElsewhere 65 = .ok (.iload 5, 2) := by decide +kernel
theorem dX12_goesElsewhere_67 : decode cX12_goesElsewhere 67 = .ok (.istore_n 3, 1) := by decide +kernel
theorem dX12_goesElsewhere_68 : decode cX12_goesElsewhere 68 = .ok (.iinc 5 1, 3) := by decide +kernel
theorem dX12_goesElsewhere_71 : decode cX12_goesElsewhere 71 = .ok (.goto (-49), 3) := by decide +kernel
theorem dX12_goesElsewhere_58 : decode cX12_goesElsewhere 58 = .ok (.goto 10, 3) := by decide +kernel
theorem dX12_rounds_0 : decode cX12_rounds 0 = .ok (.aload_n 0, 1) := by decide +kernel
theorem dX12_rounds_1 : decode cX12_rounds 1 = .ok (.iconst 0, 1) := by decide +kernel
theorem dX12_rounds_2 : decode cX12_rounds 2 = .ok (.putfield 1, 3) := by decide +kernel
theorem dX12_rounds_5 : decode cX12_rounds 5 = .ok (.iconst 0, 1) := by decide +kernel
theorem dX12_rounds_6 : decode cX12_rounds 6 = .ok (.istore_n 1, 1) := by decide +kernel
theorem dX12_rounds_7 : decode cX12_rounds 7 = .ok (.iload_n 1, 1) := by decide +kernel
theorem dX12_rounds_8 : decode cX12_rounds 8 = .ok (.bipush 8, 2) := by decide +kernel
theorem dX12_rounds_10 : decode cX12_rounds 10 = .ok (.if_icmp .ge 24, 3) := by decide +kernel
theorem dX12_rounds_34 : decode cX12_rounds 34 = .ok (.iconst 0, 1) := by decide +kernel
theorem dX12_rounds_35 : decode cX12_rounds 35 = .ok (.istore_n 1, 1) := by decide +kernel
theorem dX12_rounds_36 : decode cX12_rounds 36 = .ok (.iconst 1, 1) := by decide +kernel
theorem dX12_rounds_37 : decode cX12_rounds 37 = .ok (.istore_n 2, 1) := by decide +kernel
theorem dX12_rounds_38 : decode cX12_rounds 38 = .ok (.iload_n 2, 1) := by decide +kernel
theorem dX12_rounds_39 : decode cX12_rounds 39 = .ok (.ifCond .eq 45, 3) := by decide +kernel
theorem dX12_rounds_84 : decode cX12_rounds 84 = .ok (.aload_n 0, 1) := by decide +kernel
theorem dX12_rounds_85 : decode cX12_rounds 85 = .ok (.aload_n 0, 1) := by decide +kernel
theorem dX12_rounds_86 : decode cX12_rounds 86 = .ok (.iconst 1, 1) := by decide +kernel
theorem dX12_rounds_87 : decode cX12_rounds 87 = .ok (.invokevirtual 256, 3) := by decide +kernel
theorem dX12_rounds_90 : decode cX12_rounds 90 = .ok (.putfield 139, 3) := by decide +kernel
theorem dX12_rounds_93 : decode cX12_rounds 93 = .ok (.aload_n 0, 1) := by decide +kernel
theorem dX12_rounds_94 : decode cX12_rounds 94 = .ok (.aload_n 0, 1) := by decide +kernel
theorem dX12_rounds_95 : decode cX12_rounds 95 = .ok (.getfield 98, 3) := by decide +kernel
theorem dX12_rounds_98 : decode cX12_rounds 98 = .ok (.iconst 1, 1) := by decide +kernel
theorem dX12_rounds_99 : decode cX12_rounds 99 = .ok (.iaload, 1) := by decide +kernel
theorem dX12_rounds_100 : decode cX12_rounds 100 = .ok (.putfield 327, 3) := by decide +kernel
theorem dX12_rounds_103 : decode cX12_rounds 103 = .ok (.aload_n 0, 1) := by decide +kernel
theorem dX12_rounds_104 : decode cX12_rounds 104 = .ok (.iconst 1, 1) := by decide +kernel
theorem dX12_rounds_105 : decode cX12_rounds 105 = .ok (.putfield 330, 3) := by decide +kernel
theorem dX12_rounds_108 : decode cX12_rounds 108 = .ok (.iconst 0, 1) := by decide +kernel
theorem dX12_rounds_109 : decode cX12_rounds 109 = .ok (.istore_n 3, 1) := by decide +kernel
theorem dX12_rounds_110 : decode cX12_rounds 110 = .ok (.iload_n 3, 1) := by decide +kernel
theorem dX12_rounds_111 : decode cX12_rounds 111 = .ok (.bipush 8, 2) := by decide +kernel
theorem dX12_rounds_113 : decode cX12_rounds 113 = .ok (.if_icmp .ge 39, 3) := by decide +kernel
theorem dX12_rounds_152 : decode cX12_rounds 152 = .ok (.iload_n 1, 1) := by decide +kernel
theorem dX12_rounds_153 : decode cX12_rounds 153 = .ok (.ireturn, 1) := by decide +kernel
theorem dX12_rounds_116 : decode cX12_rounds 116 = .ok (.aload_n 0, 1) := by decide +kernel
theorem dX12_rounds_117 : decode cX12_rounds 117 = .ok (.getfield 133, 3) := by decide +kernel
theorem dX12_rounds_120 : decode cX12_rounds 120 = .ok (.iload_n 3, 1) := by decide +kernel
theorem dX12_rounds_121 : decode cX12_rounds 121 = .ok (.aload_n 0, 1) := by decide +kernel
theorem dX12_rounds_122 : decode cX12_rounds 122 = .ok (.getfield 98, 3) := by decide +kernel
theorem dX12_rounds_125 : decode cX12_rounds 125 = .ok (.bipush 71, 2) := by decide +kernel
theorem dX12_rounds_127 : decode cX12_rounds 127 = .ok (.iload_n 3, 1) := by decide +kernel
theorem dX12_rounds_128 : decode cX12_rounds 128 = .ok (.iadd, 1) := by decide +kernel
theorem dX12_rounds_129 : decode cX12_rounds 129 = .ok (.iaload, 1) := by decide +kernel
theorem dX12_rounds_130 : decode cX12_rounds 130 = .ok (.iastore, 1) := by decide +kernel
theorem dX12_rounds_131 : decode cX12_rounds 131 = .ok (.aload_n 0, 1) := by decide +kernel
theorem dX12_rounds_132 : decode cX12_rounds 132 = .ok (.getfield 98, 3) := by decide +kernel
theorem dX12_rounds_135 : decode cX12_rounds 135 = .ok (.bipush 71, 2) := by decide +kernel
theorem dX12_rounds_137 : decode cX12_rounds 137 = .ok (.iload_n 3, 1) := by decide +kernel
theorem dX12_rounds_138 : decode cX12_rounds 138 = .ok (.iadd, 1) := by decide +kernel
theorem dX12_rounds_139 : decode cX12_rounds 139 = .ok (.aload_n 0, 1) := by decide +kernel
theorem dX12_rounds_140 : decode cX12_rounds 140 = .ok (.getfield 136, 3) := by decide +kernel
theorem dX12_rounds_143 : decode cX12_rounds 143 = .ok (.iload_n 3, 1) := by decide +kernel
theorem dX12_rounds_144 : decode cX12_rounds 144 = .ok (.iaload, 1) := by decide +kernel
theorem dX12_rounds_145 : decode cX12_rounds 145 = .ok (.iastore, 1) := by decide +kernel
theorem dX12_rounds_146 : decode cX12_rounds 146 = .ok (.iinc 3 1, 3) := by decide +kernel
theorem dX12_rounds_149 : decode cX12_rounds 149 = .ok (.goto (-39), 3) := by decide +kernel
theorem dX12_rounds_42 : decode cX12_rounds 42 = .ok (.iload_n 1, 1) := by decide +kernel
theorem dX12_rounds_43 : decode cX12_rounds 43 = .ok (.bipush 30, 2) := by decide +kernel
theorem dX12_rounds_45 : decode cX12_rounds 45 = .ok (.if_icmp .ge 39, 3) := by decide +kernel
theorem dX12_rounds_48 : decode cX12_rounds 48 = .ok (.iconst 0, 1) := by decide +kernel
theorem dX12_rounds_49 : decode cX12_rounds 49 = .ok (.istore_n 2, 1) := by decide +kernel
theorem dX12_rounds_50 : decode cX12_rounds 50 = .ok (.iconst 0, 1) := by decide +kernel
theorem dX12_rounds_51 : decode cX12_rounds 51 = .ok (.istore_n 3, 1) := by decide +kernel
theorem dX12_rounds_52 : decode cX12_rounds 52 = .ok (.iload_n 3, 1) := by decide +kernel
theorem dX12_rounds_53 : decode cX12_rounds 53 = .ok (.aload_n 0, 1) := by decide +kernel
theorem dX12_rounds_54 : decode cX12_rounds 54 = .ok (.getfield 98, 3) := by decide +kernel
theorem dX12_rounds_57 : decode cX12_rounds 57 = .ok (.iconst 1, 1) := by decide +kernel
theorem dX12_rounds_58 : decode cX12_rounds 58 = .ok (.iaload, 1) := by decide +kernel
theorem dX12_rounds_59 : decode cX12_rounds 59 = .ok (.if_icmp .ge 19, 3) := by decide +kernel
theorem dX12_rounds_78 : decode cX12_rounds 78 = .ok (.iinc 1 1, 3) := by decide +kernel
theorem dX12_rounds_81 : decode cX12_rounds 81 = .ok (.goto (-43), 3) := by decide +kernel
theorem dX12_rounds_62 : decode cX12_rounds 62 = .ok (.aload_n 0, 1) := by decide +kernel
theorem dX12_rounds_63 : decode cX12_rounds 63 = .ok (.iload_n 3, 1) := by decide +kernel
theorem dX12_rounds_64 : decode cX12_rounds 64 = .ok (.invokevirtual 324, 3) := by decide +kernel
theorem dX12_rounds_67 : decode cX12_rounds 67 = .ok (.ifCond .eq 5, 3) := by decide +kernel
theorem dX12_rounds_70 : decode cX12_rounds 70 = .ok (.iconst 1, 1) := by decide +kernel
theorem dX12_rounds_71 : decode cX12_rounds 71 = .ok (.istore_n 2, 1) := by decide +kernel
theorem dX12_rounds_72 : decode cX12_rounds 72 = .ok (.iinc 3 1, 3) := by decide +kernel
theorem dX12_rounds_75 : decode cX12_rounds 75 = .ok (.goto (-23), 3) := by decide +kernel
theorem dX12_rounds_13 : decode cX12_rounds 13 = .ok (.aload_n 0, 1) := by decide +kernel
theorem dX12_rounds_14 : decode cX12_rounds 14 = .ok (.getfield 136, 3) := by decide +kernel
theorem dX12_rounds_17 : decode cX12_rounds 17 = .ok (.iload_n 1, 1) := by decide +kernel
theorem dX12_rounds_18 : decode cX12_rounds 18 = .ok (.aload_n 0, 1) := by decide +kernel
theorem dX12_rounds_19 : decode cX12_rounds 19 = .ok (.getfield 98, 3) := by decide +kernel
theorem dX12_rounds_22 : decode cX12_rounds 22 = .ok (.bipush 71, 2) := by decide +kernel
theorem dX12_rounds_24 : decode cX12_rounds 24 = .ok (.iload_n 1, 1) := by decide +kernel
theorem dX12_rounds_25 : decode cX12_rounds 25 = .ok (.iadd, 1) := by decide +kernel
theorem dX12_rounds_26 : decode cX12_rounds 26 = .ok (.iaload, 1) := by decide +kernel
theorem dX12_rounds_27 : decode cX12_rounds 27 = .ok (.iastore, 1) := by decide +kernel
theorem dX12_rounds_28 : decode cX12_rounds 28 = .ok (.iinc 1 1, 3) := by decide +kernel
theorem dX12_rounds_31 : decode cX12_rounds 31 = .ok (.goto (-24), 3) := by decide +kernel
theorem dX12_parted_0 : decode cX12_parted 0 = .ok (.aload_n 0, 1) := by decide +kernel
theorem dX12_parted_1 : decode cX12_parted 1 = .ok (.iconst 0, 1) := by decide +kernel
theorem dX12_parted_2 : decode cX12_parted 2 = .ok (.putfield 1, 3) := by decide +kernel
theorem dX12_parted_5 : decode cX12_parted 5 = .ok (.aload_n 0, 1) := by decide +kernel
theorem dX12_parted_6 : decode cX12_parted 6 = .ok (.getfield 330, 3) := by decide +kernel
theorem dX12_parted_9 : decode cX12_parted 9 = .ok (.ifCond .eq 26, 3) := by decide +kernel
theorem dX12_parted_35 : decode cX12_parted 35 = .ok (.iconst (-1), 1) := by decide +kernel
theorem dX12_parted_36 : decode cX12_parted 36 = .ok (.ireturn, 1) := by decide +kernel
theorem dX12_parted_12 : decode cX12_parted 12 = .ok (.iload_n 1, 1) := by decide +kernel
theorem dX12_parted_13 : decode cX12_parted 13 = .ok (.iconst 0, 1) := by decide +kernel
theorem dX12_parted_14 : decode cX12_parted 14 = .ok (.aload_n 0, 1) := by decide +kernel
theorem dX12_parted_15 : decode cX12_parted 15 = .ok (.getfield 327, 3) := by decide +kernel
theorem dX12_parted_18 : decode cX12_parted 18 = .ok (.iconst 1, 1) := by decide +kernel
theorem dX12_parted_19 : decode cX12_parted 19 = .ok (.isub, 1) := by decide +kernel
theorem dX12_parted_20 : decode cX12_parted 20 = .ok (.invokestatic 75, 3) := by decide +kernel
theorem dX12_parted_23 : decode cX12_parted 23 = .ok (.ifCond .eq 12, 3) := by decide +kernel
theorem dX12_parted_26 : decode cX12_parted 26 = .ok (.aload_n 0, 1) := by decide +kernel
theorem dX12_parted_27 : decode cX12_parted 27 = .ok (.getfield 133, 3) := by decide +kernel
theorem dX12_parted_30 : decode cX12_parted 30 = .ok (.iload_n 1, 1) := by decide +kernel
theorem dX12_parted_31 : decode cX12_parted 31 = .ok (.iaload, 1) := by decide +kernel
theorem dX12_parted_32 : decode cX12_parted 32 = .ok (.goto 4, 3) := by decide +kernel
theorem dX12_layAside_0 : decode cX12_layAside 0 = .ok (.iconst 0, 1) := by decide +kernel
theorem dX12_layAside_1 : decode cX12_layAside 1 = .ok (.istore_n 1, 1) := by decide +kernel
theorem dX12_layAside_2 : decode cX12_layAside 2 = .ok (.iload_n 1, 1) := by decide +kernel
theorem dX12_layAside_3 : decode cX12_layAside 3 = .ok (.bipush 70, 2) := by decide +kernel
theorem dX12_layAside_5 : decode cX12_layAside 5 = .ok (.if_icmp .ge 24, 3) := by decide +kernel
theorem dX12_layAside_29 : decode cX12_layAside 29 = .ok (.return_, 1) := by decide +kernel
theorem dX12_layAside_8 : decode cX12_layAside 8 = .ok (.aload_n 0, 1) := by decide +kernel
theorem dX12_layAside_9 : decode cX12_layAside 9 = .ok (.getfield 110, 3) := by decide +kernel
theorem dX12_layAside_12 : decode cX12_layAside 12 = .ok (.iload_n 1, 1) := by decide +kernel
theorem dX12_layAside_13 : decode cX12_layAside 13 = .ok (.aload_n 0, 1) := by decide +kernel
theorem dX12_layAside_14 : decode cX12_layAside 14 = .ok (.getfield 98, 3) := by decide +kernel
theorem dX12_layAside_17 : decode cX12_layAside 17 = .ok (.bipush 61, 2) := by decide +kernel
theorem dX12_layAside_19 : decode cX12_layAside 19 = .ok (.iload_n 1, 1) := by decide +kernel
theorem dX12_layAside_20 : decode cX12_layAside 20 = .ok (.iadd, 1) := by decide +kernel
theorem dX12_layAside_21 : decode cX12_layAside 21 = .ok (.iaload, 1) := by decide +kernel
theorem dX12_layAside_22 : decode cX12_layAside 22 = .ok (.iastore, 1) := by decide +kernel
theorem dX12_layAside_23 : decode cX12_layAside 23 = .ok (.iinc 1 1, 3) := by decide +kernel
theorem dX12_layAside_26 : decode cX12_layAside 26 = .ok (.goto (-24), 3) := by decide +kernel
theorem dX12_takeBack_0 : decode cX12_takeBack 0 = .ok (.iconst 0, 1) := by decide +kernel
theorem dX12_takeBack_1 : decode cX12_takeBack 1 = .ok (.istore_n 1, 1) := by decide +kernel
theorem dX12_takeBack_2 : decode cX12_takeBack 2 = .ok (.iload_n 1, 1) := by decide +kernel
theorem dX12_takeBack_3 : decode cX12_takeBack 3 = .ok (.bipush 70, 2) := by decide +kernel
theorem dX12_takeBack_5 : decode cX12_takeBack 5 = .ok (.if_icmp .ge 24, 3) := by decide +kernel
theorem dX12_takeBack_29 : decode cX12_takeBack 29 = .ok (.return_, 1) := by decide +kernel
theorem dX12_takeBack_8 : decode cX12_takeBack 8 = .ok (.aload_n 0, 1) := by decide +kernel
theorem dX12_takeBack_9 : decode cX12_takeBack 9 = .ok (.getfield 98, 3) := by decide +kernel
theorem dX12_takeBack_12 : decode cX12_takeBack 12 = .ok (.bipush 61, 2) := by decide +kernel
theorem dX12_takeBack_14 : decode cX12_takeBack 14 = .ok (.iload_n 1, 1) := by decide +kernel
theorem dX12_takeBack_15 : decode cX12_takeBack 15 = .ok (.iadd, 1) := by decide +kernel
theorem dX12_takeBack_16 : decode cX12_takeBack 16 = .ok (.aload_n 0, 1) := by decide +kernel
theorem dX12_takeBack_17 : decode cX12_takeBack 17 = .ok (.getfield 110, 3) := by decide +kernel
theorem dX12_takeBack_20 : decode cX12_takeBack 20 = .ok (.iload_n 1, 1) := by decide +kernel
theorem dX12_takeBack_21 : decode cX12_takeBack 21 = .ok (.iaload, 1) := by decide +kernel
theorem dX12_takeBack_22 : decode cX12_takeBack 22 = .ok (.iastore, 1) := by decide +kernel
theorem dX12_takeBack_23 : decode cX12_takeBack 23 = .ok (.iinc 1 1, 3) := by decide +kernel
theorem dX12_takeBack_26 : decode cX12_takeBack 26 = .ok (.goto (-24), 3) := by decide +kernel
theorem dX12_odds_0 : decode cX12_odds 0 = .ok (.aload_n 0, 1) := by decide +kernel
theorem dX12_odds_1 : decode cX12_odds 1 = .ok (.iconst 0, 1) := by decide +kernel
theorem dX12_odds_2 : decode cX12_odds 2 = .ok (.putfield 1, 3) := by decide +kernel
theorem dX12_odds_5 : decode cX12_odds 5 = .ok (.aload_n 0, 1) := by decide +kernel
theorem dX12_odds_6 : decode cX12_odds 6 = .ok (.iload_n 1, 1) := by decide +kernel
theorem dX12_odds_7 : decode cX12_odds 7 = .ok (.invokevirtual 241, 3) := by decide +kernel
theorem dX12_odds_10 : decode cX12_odds 10 = .ok (.ifCond .eq 13, 3) := by decide +kernel
theorem dX12_odds_13 : decode cX12_odds 13 = .ok (.iload_n 2, 1) := by decide +kernel
theorem dX12_odds_14 : decode cX12_odds 14 = .ok (.iconst 1, 1) := by decide +kernel
theorem dX12_odds_15 : decode cX12_odds 15 = .ok (.bipush 30, 2) := by decide +kernel
theorem dX12_odds_17 : decode cX12_odds 17 = .ok (.invokestatic 75, 3) := by decide +kernel
theorem dX12_odds_20 : decode cX12_odds 20 = .ok (.ifCond .ne 5, 3) := by decide +kernel
theorem dX12_odds_25 : decode cX12_odds 25 = .ok (.aload_n 0, 1) := by decide +kernel
theorem dX12_odds_26 : decode cX12_odds 26 = .ok (.invokevirtual 353, 3) := by decide +kernel
theorem dX12_odds_29 : decode cX12_odds 29 = .ok (.aload_n 0, 1) := by decide +kernel
theorem dX12_odds_30 : decode cX12_odds 30 = .ok (.getfield 98, 3) := by decide +kernel
theorem dX12_odds_33 : decode cX12_odds 33 = .ok (.bipush 103, 2) := by decide +kernel
theorem dX12_odds_35 : decode cX12_odds 35 = .ok (.iload_n 1, 1) := by decide +kernel
theorem dX12_odds_36 : decode cX12_odds 36 = .ok (.iadd, 1) := by decide +kernel
theorem dX12_odds_37 : decode cX12_odds 37 = .ok (.iaload, 1) := by decide +kernel
theorem dX12_odds_38 : decode cX12_odds 38 = .ok (.istore 4, 2) := by decide +kernel
theorem dX12_odds_40 : decode cX12_odds 40 = .ok (.iconst 0, 1) := by decide +kernel
theorem dX12_odds_41 : decode cX12_odds 41 = .ok (.istore 5, 2) := by decide +kernel
theorem dX12_odds_43 : decode cX12_odds 43 = .ok (.iconst 0, 1) := by decide +kernel
theorem dX12_odds_44 : decode cX12_odds 44 = .ok (.istore 6, 2) := by decide +kernel
theorem dX12_odds_46 : decode cX12_odds 46 = .ok (.iload 6, 2) := by decide +kernel
theorem dX12_odds_48 : decode cX12_odds 48 = .ok (.iload_n 2, 1) := by decide +kernel
theorem dX12_odds_49 : decode cX12_odds 49 = .ok (.if_icmp .ge 41, 3) := by decide +kernel
theorem dX12_odds_90 : decode cX12_odds 90 = .ok (.iload 5, 2) := by decide +kernel
theorem dX12_odds_92 : decode cX12_odds 92 = .ok (.ireturn, 1) := by decide +kernel
theorem dX12_odds_52 : decode cX12_odds 52 = .ok (.aload_n 0, 1) := by decide +kernel
theorem dX12_odds_53 : decode cX12_odds 53 = .ok (.bipush 7, 2) := by decide +kernel
theorem dX12_odds_55 : decode cX12_odds 55 = .ok (.iload_n 3, 1) := by decide +kernel
theorem dX12_odds_56 : decode cX12_odds 56 = .ok (.iload 6, 2) := by decide +kernel
theorem dX12_odds_58 : decode cX12_odds 58 = .ok (.iadd, 1) := by decide +kernel
theorem dX12_odds_59 : decode cX12_odds 59 = .ok (.invokevirtual 303, 3) := by decide +kernel
theorem dX12_odds_62 : decode cX12_odds 62 = .ok (.pop, 1) := by decide +kernel
theorem dX12_odds_63 : decode cX12_odds 63 = .ok (.aload_n 0, 1) := by decide +kernel
theorem dX12_odds_64 : decode cX12_odds 64 = .ok (.getfield 98, 3) := by decide +kernel
theorem dX12_odds_67 : decode cX12_odds 67 = .ok (.bipush 103, 2) := by decide +kernel
theorem dX12_odds_69 : decode cX12_odds 69 = .ok (.iload_n 1, 1) := by decide +kernel
theorem dX12_odds_70 : decode cX12_odds 70 = .ok (.iadd, 1) := by decide +kernel
theorem dX12_odds_71 : decode cX12_odds 71 = .ok (.iaload, 1) := by decide +kernel
theorem dX12_odds_72 : decode cX12_odds 72 = .ok (.iload 4, 2) := by decide +kernel
theorem dX12_odds_74 : decode cX12_odds 74 = .ok (.if_icmp .le 6, 3) := by decide +kernel
theorem dX12_odds_80 : decode cX12_odds 80 = .ok (.aload_n 0, 1) := by decide +kernel
theorem dX12_odds_81 : decode cX12_odds 81 = .ok (.invokevirtual 356, 3) := by decide +kernel
theorem dX12_odds_84 : decode cX12_odds 84 = .ok (.iinc 6 1, 3) := by decide +kernel
theorem dX12_odds_87 : decode cX12_odds 87 = .ok (.goto (-41), 3) := by decide +kernel
