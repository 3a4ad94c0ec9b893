theorem dX11_best_12 : decode cX11_best 12 = .ok (.ifCond .lt 8, 3) := by decide +kernel
theorem dX11_best_20 : decode cX11_best 20 = .ok (.iconst (-1), 1) := by decide +kernel
theorem dX11_best_21 : decode cX11_best 21 = .ok (.ireturn, 1) := by decide +kernel
theorem dX11_best_15 : decode cX11_best 15 = .ok (.iload_n 2, 1) := by decide +kernel
theorem dX11_best_16 : decode cX11_best 16 = .ok (.iconst 1, 1) := by decide +kernel
theorem dX11_best_17 : decode cX11_best 17 = .ok (.if_icmp .le 5, 3) := by decide +kernel
theorem dX11_best_22 : decode cX11_best 22 = .ok (.iload_n 2, 1) := by decide +kernel
theorem dX11_best_23 : decode cX11_best 23 = .ok (.iconst 1, 1) := by decide +kernel
theorem dX11_best_24 : decode cX11_best 24 = .ok (.if_icmp .ne 7, 3) := by decide +kernel
theorem dX11_best_31 : decode cX11_best 31 = .ok (.iconst 0, 1) := by decide +kernel
theorem dX11_best_32 : decode cX11_best 32 = .ok (.istore_n 3, 1) := by decide +kernel
theorem dX11_best_33 : decode cX11_best 33 = .ok (.aload_n 0, 1) := by decide +kernel
theorem dX11_best_34 : decode cX11_best 34 = .ok (.getfield 19, 3) := by decide +kernel
theorem dX11_best_37 : decode cX11_best 37 = .ok (.iload_n 3, 1) := by decide +kernel
theorem dX11_best_38 : decode cX11_best 38 = .ok (.invokevirtual 226, 3) := by decide +kernel
theorem dX11_best_41 : decode cX11_best 41 = .ok (.aload_n 0, 1) := by decide +kernel
theorem dX11_best_42 : decode cX11_best 42 = .ok (.getfield 19, 3) := by decide +kernel
theorem dX11_best_45 : decode cX11_best 45 = .ok (.iload_n 1, 1) := by decide +kernel
theorem dX11_best_46 : decode cX11_best 46 = .ok (.iload_n 3, 1) := by decide +kernel
theorem dX11_best_47 : decode cX11_best 47 = .ok (.aload_n 0, 1) := by decide +kernel
theorem dX11_best_48 : decode cX11_best 48 = .ok (.getfield 19, 3) := by decide +kernel
theorem dX11_best_51 : decode cX11_best 51 = .ok (.getfield 202, 3) := by decide +kernel
theorem dX11_best_54 : decode cX11_best 54 = .ok (.iload_n 1, 1) := by decide +kernel
theorem dX11_best_55 : decode cX11_best 55 = .ok (.iaload, 1) := by decide +kernel
theorem dX11_best_56 : decode cX11_best 56 = .ok (.invokestatic 282, 3) := by decide +kernel
theorem dX11_best_59 : decode cX11_best 59 = .ok (.isub, 1) := by decide +kernel
theorem dX11_best_60 : decode cX11_best 60 = .ok (.istore 4, 2) := by decide +kernel
theorem dX11_best_62 : decode cX11_best 62 = .ok (.aload_n 0, 1) := by decide +kernel
theorem dX11_best_63 : decode cX11_best 63 = .ok (.getfield 19, 3) := by decide +kernel
theorem dX11_best_66 : decode cX11_best 66 = .ok (.iload_n 1, 1) := by decide +kernel
theorem dX11_best_67 : decode cX11_best 67 = .ok (.iload_n 3, 1) := by decide +kernel
theorem dX11_best_68 : decode cX11_best 68 = .ok (.iconst 0, 1) := by decide +kernel
theorem dX11_best_69 : decode cX11_best 69 = .ok (.invokestatic 282, 3) := by decide +kernel
theorem dX11_best_72 : decode cX11_best 72 = .ok (.istore 5, 2) := by decide +kernel
theorem dX11_best_74 : decode cX11_best 74 = .ok (.aload_n 0, 1) := by decide +kernel
theorem dX11_best_75 : decode cX11_best 75 = .ok (.iconst (-1), 1) := by decide +kernel
theorem dX11_best_76 : decode cX11_best 76 = .ok (.putfield 94, 3) := by decide +kernel
theorem dX11_best_79 : decode cX11_best 79 = .ok (.aload_n 0, 1) := by decide +kernel
theorem dX11_best_80 : decode cX11_best 80 = .ok (.iconst (-1), 1) := by decide +kernel
theorem dX11_best_81 : decode cX11_best 81 = .ok (.putfield 97, 3) := by decide +kernel
theorem dX11_best_84 : decode cX11_best 84 = .ok (.iconst 0, 1) := by decide +kernel
theorem dX11_best_85 : decode cX11_best 85 = .ok (.istore 6, 2) := by decide +kernel
theorem dX11_best_87 : decode cX11_best 87 = .ok (.iload 6, 2) := by decide +kernel
theorem dX11_best_89 : decode cX11_best 89 = .ok (.bipush 24, 2) := by decide +kernel
theorem dX11_best_91 : decode cX11_best 91 = .ok (.if_icmp .ge 67, 3) := by decide +kernel
theorem dX11_best_158 : decode cX11_best 158 = .ok (.iload 4, 2) := by decide +kernel
theorem dX11_best_160 : decode cX11_best 160 = .ok (.iload 5, 2) := by decide +kernel
theorem dX11_best_162 : decode cX11_best 162 = .ok (.iadd, 1) := by decide +kernel
theorem dX11_best_163 : decode cX11_best 163 = .ok (.ireturn, 1) := by decide +kernel
theorem dX11_best_94 : decode cX11_best 94 = .ok (.iload 6, 2) := by decide +kernel
theorem dX11_best_96 : decode cX11_best 96 = .ok (.istore 7, 2) := by decide +kernel
theorem dX11_best_98 : decode cX11_best 98 = .ok (.iload 7, 2) := by decide +kernel
theorem dX11_best_100 : decode cX11_best 100 = .ok (.bipush 24, 2) := by decide +kernel
theorem dX11_best_102 : decode cX11_best 102 = .ok (.if_icmp .ge 50, 3) := by decide +kernel
theorem dX11_best_152 : decode cX11_best 152 = .ok (.iinc 6 1, 3) := by decide +kernel
theorem dX11_best_155 : decode cX11_best 155 = .ok (.goto (-68), 3) := by decide +kernel
theorem dX11_best_105 : decode cX11_best 105 = .ok (.aload_n 0, 1) := by decide +kernel
theorem dX11_best_106 : decode cX11_best 106 = .ok (.getfield 19, 3) := by decide +kernel
theorem dX11_best_109 : decode cX11_best 109 = .ok (.iload_n 1, 1) := by decide +kernel
theorem dX11_best_110 : decode cX11_best 110 = .ok (.iload_n 3, 1) := by decide +kernel
theorem dX11_best_111 : decode cX11_best 111 = .ok (.iload 6, 2) := by decide +kernel
theorem dX11_best_113 : decode cX11_best 113 = .ok (.iload 7, 2) := by decide +kernel
theorem dX11_best_115 : decode cX11_best 115 = .ok (.invokestatic 288, 3) := by decide +kernel
theorem dX11_best_118 : decode cX11_best 118 = .ok (.invokestatic 282, 3) := by decide +kernel
theorem dX11_best_121 : decode cX11_best 121 = .ok (.istore 8, 2) := by decide +kernel
theorem dX11_best_123 : decode cX11_best 123 = .ok (.iload 8, 2) := by decide +kernel
theorem dX11_best_125 : decode cX11_best 125 = .ok (.iload 5, 2) := by decide +kernel
theorem dX11_best_127 : decode cX11_best 127 = .ok (.if_icmp .le 19, 3) := by decide +kernel
theorem dX11_best_146 : decode cX11_best 146 = .ok (.iinc 7 1, 3) := by decide +kernel
theorem dX11_best_149 : decode cX11_best 149 = .ok (.goto (-51), 3) := by decide +kernel
theorem dX11_best_130 : decode cX11_best 130 = .ok (.iload 8, 2) := by decide +kernel
theorem dX11_best_132 : decode cX11_best 132 = .ok (.istore 5, 2) := by decide +kernel
theorem dX11_best_134 : decode cX11_best 134 = .ok (.aload_n 0, 1) := by decide +kernel
theorem dX11_best_135 : decode cX11_best 135 = .ok (.iload 6, 2) := by decide +kernel
theorem dX11_best_137 : decode cX11_best 137 = .ok (.putfield 94, 3) := by decide +kernel
theorem dX11_best_140 : decode cX11_best 140 = .ok (.aload_n 0, 1) := by decide +kernel
theorem dX11_best_141 : decode cX11_best 141 = .ok (.iload 7, 2) := by decide +kernel
theorem dX11_best_143 : decode cX11_best 143 = .ok (.putfield 97, 3) := by decide +kernel
theorem dX11_best_27 : decode cX11_best 27 = .ok (.iconst 1, 1) := by decide +kernel
theorem dX11_best_28 : decode cX11_best 28 = .ok (.goto 4, 3) := by decide +kernel
theorem dX11_bestAt_0 : decode cX11_bestAt 0 = .ok (.iload_n 1, 1) := by decide +kernel
theorem dX11_bestAt_1 : decode cX11_bestAt 1 = .ok (.ifCond .ne 8, 3) := by decide +kernel
theorem dX11_bestAt_9 : decode cX11_bestAt 9 = .ok (.iload_n 1, 1) := by decide +kernel
theorem dX11_bestAt_10 : decode cX11_bestAt 10 = .ok (.iconst 1, 1) := by decide +kernel
theorem dX11_bestAt_11 : decode cX11_bestAt 11 = .ok (.if_icmp .ne 10, 3) := by decide +kernel
theorem dX11_bestAt_21 : decode cX11_bestAt 21 = .ok (.iconst (-1), 1) := by decide +kernel
theorem dX11_bestAt_22 : decode cX11_bestAt 22 = .ok (.ireturn, 1) := by decide +kernel
theorem dX11_bestAt_14 : decode cX11_bestAt 14 = .ok (.aload_n 0, 1) := by decide +kernel
theorem dX11_bestAt_15 : decode cX11_bestAt 15 = .ok (.getfield 97, 3) := by decide +kernel
theorem dX11_bestAt_18 : decode cX11_bestAt 18 = .ok (.goto 4, 3) := by decide +kernel
theorem dX11_bestAt_4 : decode cX11_bestAt 4 = .ok (.aload_n 0, 1) := by decide +kernel
theorem dX11_bestAt_5 : decode cX11_bestAt 5 = .ok (.getfield 94, 3) := by decide +kernel
theorem dX11_bestAt_8 : decode cX11_bestAt 8 = .ok (.ireturn, 1) := by decide +kernel
theorem dX11_fences_0 : decode cX11_fences 0 = .ok (.aload_n 0, 1) := by decide +kernel
theorem dX11_fences_1 : decode cX11_fences 1 = .ok (.getfield 23, 3) := by decide +kernel
theorem dX11_fences_4 : decode cX11_fences 4 = .ok (.aload_n 0, 1) := by decide +kernel
theorem dX11_fences_5 : decode cX11_fences 5 = .ok (.getfield 19, 3) := by decide +kernel
theorem dX11_fences_8 : decode cX11_fences 8 = .ok (.invokevirtual 123, 3) := by decide +kernel
theorem dX11_fences_11 : decode cX11_fences 11 = .ok (.aload_n 0, 1) := by decide +kernel
theorem dX11_fences_12 : decode cX11_fences 12 = .ok (.getfield 23, 3) := by decide +kernel
theorem dX11_fences_15 : decode cX11_fences 15 = .ok (.invokestatic 291, 3) := by decide +kernel
theorem dX11_fences_18 : decode cX11_fences 18 = .ok (.ireturn, 1) := by decide +kernel
theorem dX11_perils_0 : decode cX11_perils 0 = .ok (.aload_n 0, 1) := by decide +kernel
theorem dX11_perils_1 : decode cX11_perils 1 = .ok (.getfield 19, 3) := by decide +kernel
theorem dX11_perils_4 : decode cX11_perils 4 = .ok (.iload_n 1, 1) := by decide +kernel
theorem dX11_perils_5 : decode cX11_perils 5 = .ok (.invokevirtual 133, 3) := by decide +kernel
theorem dX11_perils_8 : decode cX11_perils 8 = .ok (.ifCond .eq 18, 3) := by decide +kernel
theorem dX11_perils_11 : decode cX11_perils 11 = .ok (.aload_n 0, 1) := by decide +kernel
theorem dX11_perils_12 : decode cX11_perils 12 = .ok (.getfield 19, 3) := by decide +kernel
theorem dX11_perils_15 : decode cX11_perils 15 = .ok (.getfield 140, 3) := by decide +kernel
theorem dX11_perils_18 : decode cX11_perils 18 = .ok (.iload_n 1, 1) := by decide +kernel
theorem dX11_perils_19 : decode cX11_perils 19 = .ok (.aaload, 1) := by decide +kernel
theorem dX11_perils_20 : decode cX11_perils 20 = .ok (.getfield 167, 3) := by decide +kernel
theorem dX11_perils_23 : decode cX11_perils 23 = .ok (.ifCond .eq 5, 3) := by decide +kernel
theorem dX11_perils_28 : decode cX11_perils 28 = .ok (.aload_n 0, 1) := by decide +kernel
theorem dX11_perils_29 : decode cX11_perils 29 = .ok (.getfield 19, 3) := by decide +kernel
theorem dX11_perils_32 : decode cX11_perils 32 = .ok (.iload_n 1, 1) := by decide +kernel
theorem dX11_perils_33 : decode cX11_perils 33 = .ok (.invokestatic 295, 3) := by decide +kernel
theorem dX11_perils_36 : decode cX11_perils 36 = .ok (.ireturn, 1) := by decide +kernel
theorem dX11_perils_26 : decode cX11_perils 26 = .ok (.iconst (-1), 1) := by decide +kernel
theorem dX11_perils_27 : decode cX11_perils 27 = .ok (.ireturn, 1) := by decide +kernel
theorem dX11_rounds_0 : decode cX11_rounds 0 = .ok (.aload_n 0, 1) := by decide +kernel
theorem dX11_rounds_1 : decode cX11_rounds 1 = .ok (.getfield 23, 3) := by decide +kernel
theorem dX11_rounds_4 : decode cX11_rounds 4 = .ok (.aload_n 0, 1) := by decide +kernel
theorem dX11_rounds_5 : decode cX11_rounds 5 = .ok (.getfield 19, 3) := by decide +kernel
theorem dX11_rounds_8 : decode cX11_rounds 8 = .ok (.invokevirtual 123, 3) := by decide +kernel
theorem dX11_rounds_11 : decode cX11_rounds 11 = .ok (.aload_n 0, 1) := by decide +kernel
theorem dX11_rounds_12 : decode cX11_rounds 12 = .ok (.getfield 23, 3) := by decide +kernel
theorem dX11_rounds_15 : decode cX11_rounds 15 = .ok (.invokestatic 310, 3) := by decide +kernel
theorem dX11_rounds_18 : decode cX11_rounds 18 = .ok (.istore_n 1, 1) := by decide +kernel
theorem dX11_rounds_19 : decode cX11_rounds 19 = .ok (.iconst 0, 1) := by decide +kernel
theorem dX11_rounds_20 : decode cX11_rounds 20 = .ok (.istore_n 2, 1) := by decide +kernel
theorem dX11_rounds_21 : decode cX11_rounds 21 = .ok (.iload_n 2, 1) := by decide +kernel
theorem dX11_rounds_22 : decode cX11_rounds 22 = .ok (.bipush 8, 2) := by decide +kernel
theorem dX11_rounds_24 : decode cX11_rounds 24 = .ok (.if_icmp .ge 42, 3) := by decide +kernel
theorem dX11_rounds_66 : decode cX11_rounds 66 = .ok (.aload_n 0, 1) := by decide +kernel
theorem dX11_rounds_67 : decode cX11_rounds 67 = .ok (.aload_n 0, 1) := by decide +kernel
theorem dX11_rounds_68 : decode cX11_rounds 68 = .ok (.getfield 23, 3) := by decide +kernel
theorem dX11_rounds_71 : decode cX11_rounds 71 = .ok (.iconst 1, 1) := by decide +kernel
theorem dX11_rounds_72 : decode cX11_rounds 72 = .ok (.invokevirtual 226, 3) := by decide +kernel
theorem dX11_rounds_75 : decode cX11_rounds 75 = .ok (.putfield 90, 3) := by decide +kernel
theorem dX11_rounds_78 : decode cX11_rounds 78 = .ok (.iload_n 1, 1) := by decide +kernel
theorem dX11_rounds_79 : decode cX11_rounds 79 = .ok (.ireturn, 1) := by decide +kernel
theorem dX11_rounds_27 : decode cX11_rounds 27 = .ok (.aload_n 0, 1) := by decide +kernel
theorem dX11_rounds_28 : decode cX11_rounds 28 = .ok (.getfield 76, 3) := by decide +kernel
theorem dX11_rounds_31 : decode cX11_rounds 31 = .ok (.iload_n 2, 1) := by decide +kernel
theorem dX11_rounds_32 : decode cX11_rounds 32 = .ok (.aload_n 0, 1) := by decide +kernel
theorem dX11_rounds_33 : decode cX11_rounds 33 = .ok (.getfield 23, 3) := by decide +kernel
theorem dX11_rounds_36 : decode cX11_rounds 36 = .ok (.iload_n 2, 1) := by decide +kernel
theorem dX11_rounds_37 : decode cX11_rounds 37 = .ok (.invokevirtual 133, 3) := by decide +kernel
theorem dX11_rounds_40 : decode cX11_rounds 40 = .ok (.ifCond .eq 18, 3) := by decide +kernel
theorem dX11_rounds_43 : decode cX11_rounds 43 = .ok (.aload_n 0, 1) := by decide +kernel
theorem dX11_rounds_44 : decode cX11_rounds 44 = .ok (.getfield 23, 3) := by decide +kernel
theorem dX11_rounds_47 : decode cX11_rounds 47 = .ok (.getfield 140, 3) := by decide +kernel
theorem dX11_rounds_50 : decode cX11_rounds 50 = .ok (.iload_n 2, 1) := by decide +kernel
theorem dX11_rounds_51 : decode cX11_rounds 51 = .ok (.aaload, 1) := by decide +kernel
theorem dX11_rounds_52 : decode cX11_rounds 52 = .ok (.getfield 144, 3) := by decide +kernel
theorem dX11_rounds_55 : decode cX11_rounds 55 = .ok (.goto 4, 3) := by decide +kernel
theorem dX11_rounds_59 : decode cX11_rounds 59 = .ok (.iastore, 1) := by decide +kernel
theorem dX11_rounds_60 : decode cX11_rounds 60 = .ok (.iinc 2 1, 3) := by decide +kernel
theorem dX11_rounds_63 : decode cX11_rounds 63 = .ok (.goto (-42), 3) := by decide +kernel
theorem dX11_rounds_58 : decode cX11_rounds 58 = .ok (.iconst (-1), 1) := by decide +kernel
theorem dX11_parted_0 : decode cX11_parted 0 = .ok (.iload_n 1, 1) := by decide +kernel
theorem dX11_parted_1 : decode cX11_parted 1 = .ok (.ifCond .lt 18, 3) := by decide +kernel
theorem dX11_parted_19 : decode cX11_parted 19 = .ok (.iconst (-1), 1) := by decide +kernel
theorem dX11_parted_20 : decode cX11_parted 20 = .ok (.ireturn, 1) := by decide +kernel
theorem dX11_parted_4 : decode cX11_parted 4 = .ok (.iload_n 1, 1) := by decide +kernel
theorem dX11_parted_5 : decode cX11_parted 5 = .ok (.bipush 8, 2) := by decide +kernel
theorem dX11_parted_7 : decode cX11_parted 7 = .ok (.if_icmp .ge 12, 3) := by decide +kernel
theorem dX11_parted_10 : decode cX11_parted 10 = .ok (.aload_n 0, 1) := by decide +kernel
theorem dX11_parted_11 : decode cX11_parted 11 = .ok (.getfield 76, 3) := by decide +kernel
theorem dX11_parted_14 : decode cX11_parted 14 = .ok (.iload_n 1, 1) := by decide +kernel
theorem dX11_parted_15 : decode cX11_parted 15 = .ok (.iaload, 1) := by decide +kernel
theorem dX11_parted_16 : decode cX11_parted 16 = .ok (.goto 4, 3) := by decide +kernel
theorem dX11_partedGood_0 : decode cX11_partedGood 0 = .ok (.aload_n 0, 1) := by decide +kernel
theorem dX11_partedGood_1 : decode cX11_partedGood 1 = .ok (.getfield 90, 3) := by decide +kernel
theorem dX11_partedGood_4 : decode cX11_partedGood 4 = .ok (.ireturn, 1) := by decide +kernel
theorem dX11_tracks_0 : decode cX11_tracks 0 = .ok (.aload_n 0, 1) := by decide +kernel
theorem dX11_tracks_1 : decode cX11_tracks 1 = .ok (.getfield 10, 3) := by decide +kernel
theorem dX11_tracks_4 : decode cX11_tracks 4 = .ok (.getfield 100, 3) := by decide +kernel
theorem dX11_tracks_7 : decode cX11_tracks 7 = .ok (.iconst 2, 1) := by decide +kernel
theorem dX11_tracks_8 : decode cX11_tracks 8 = .ok (.irem, 1) := by decide +kernel
theorem dX11_tracks_9 : decode cX11_tracks 9 = .ok (.ifCond .ne 36, 3) := by decide +kernel
theorem dX11_tracks_45 : decode cX11_tracks 45 = .ok (.iconst (-1), 1) := by decide +kernel
theorem dX11_tracks_46 : decode cX11_tracks 46 = .ok (.istore_n 1, 1) := by decide +kernel
theorem dX11_tracks_47 : decode cX11_tracks 47 = .ok (.iconst 0, 1) := by decide +kernel
theorem dX11_tracks_48 : decode cX11_tracks 48 = .ok (.istore_n 2, 1) := by decide +kernel
theorem dX11_tracks_49 : decode cX11_tracks 49 = .ok (.iload_n 2, 1) := by decide +kernel
theorem dX11_tracks_50 : decode cX11_tracks 50 = .ok (.iconst 1, 1) := by decide +kernel
theorem dX11_tracks_51 : decode cX11_tracks 51 = .ok (.iadd, 1) := by decide +kernel
theorem dX11_tracks_52 : decode cX11_tracks 52 = .ok (.aload_n 0, 1) := by decide +kernel
theorem dX11_tracks_53 : decode cX11_tracks 53 = .ok (.getfield 10, 3) := by decide +kernel
theorem dX11_tracks_56 : decode cX11_tracks 56 = .ok (.getfield 100, 3) := by decide +kernel
theorem dX11_tracks_59 : decode cX11_tracks 59 = .ok (.if_icmp .ge 70, 3) := by decide +kernel
theorem dX11_tracks_129 : decode cX11_tracks 129 = .ok (.aload_n 0, 1) := by decide +kernel
theorem dX11_tracks_130 : decode cX11_tracks 130 = .ok (.getfield 10, 3) := by decide +kernel
theorem dX11_tracks_133 : decode cX11_tracks 133 = .ok (.iconst 0, 1) := by decide +kernel
theorem dX11_tracks_134 : decode cX11_tracks 134 = .ok (.putfield 100, 3) := by decide +kernel
theorem dX11_tracks_137 : decode cX11_tracks 137 = .ok (.iload_n 1, 1) := by decide +kernel
theorem dX11_tracks_138 : decode cX11_tracks 138 = .ok (.ireturn, 1) := by decide +kernel
theorem dX11_tracks_62 : decode cX11_tracks 62 = .ok (.iload_n 1, 1) := by decide +kernel
theorem dX11_tracks_63 : decode cX11_tracks 63 = .ok (.iconst (-1), 1) := by decide +kernel
theorem dX11_tracks_64 : decode cX11_tracks 64 = .ok (.if_icmp .eq 65, 3) := by decide +kernel
theorem dX11_tracks_67 : decode cX11_tracks 67 = .ok (.aload_n 0, 1) := by decide +kernel
theorem dX11_tracks_68 : decode cX11_tracks 68 = .ok (.getfield 10, 3) := by decide +kernel
theorem dX11_tracks_71 : decode cX11_tracks 71 = .ok (.iload_n 2, 1) := by decide +kernel
theorem dX11_tracks_72 : decode cX11_tracks 72 = .ok (.invokevirtual 316, 3) := by decide +kernel
theorem dX11_tracks_75 : decode cX11_tracks 75 = .ok (.istore_n 3, 1) := by decide +kernel
theorem dX11_tracks_76 : decode cX11_tracks 76 = .ok (.aload_n 0, 1) := by decide +kernel
theorem dX11_tracks_77 : decode cX11_tracks 77 = .ok (.getfield 10, 3) := by decide +kernel
theorem dX11_tracks_80 : decode cX11_tracks 80 = .ok (.iload_n 2, 1) := by decide +kernel
theorem dX11_tracks_81 : decode cX11_tracks 81 = .ok (.iconst 1, 1) := by decide +kernel
theorem dX11_tracks_82 : decode cX11_tracks 82 = .ok (.iadd, 1) := by decide +kernel
theorem dX11_tracks_83 : decode cX11_tracks 83 = .ok (.invokevirtual 316, 3) := by decide +kernel
theorem dX11_tracks_86 : decode cX11_tracks 86 = .ok (.istore 4, 2) := by decide +kernel
theorem dX11_tracks_88 : decode cX11_tracks 88 = .ok (.aload_n 0, 1) := by decide +kernel
theorem dX11_tracks_89 : decode cX11_tracks 89 = .ok (.getfield 19, 3) := by decide +kernel
theorem dX11_tracks_92 : decode cX11_tracks 92 = .ok (.iload_n 3, 1) := by decide +kernel
theorem dX11_tracks_93 : decode cX11_tracks 93 = .ok (.invokevirtual 199, 3) := by decide +kernel
theorem dX11_tracks_96 : decode cX11_tracks 96 = .ok (.ifCond .eq 25, 3) := by decide +kernel
theorem dX11_tracks_99 : decode cX11_tracks 99 = .ok (.iload 4, 2) := by decide +kernel
theorem dX11_tracks_101 : decode cX11_tracks 101 = .ok (.bipush 24, 2) := by decide +kernel
theorem dX11_tracks_103 : decode cX11_tracks 103 = .ok (.if_icmp .ge 18, 3) := by decide +kernel
theorem dX11_tracks_121 : decode cX11_tracks 121 = .ok (.iconst (-1), 1) := by decide +kernel
theorem dX11_tracks_122 : decode cX11_tracks 122 = .ok (.istore_n 1, 1) := by decide +kernel
theorem dX11_tracks_123 : decode cX11_tracks 123 = .ok (.iinc 2 2, 3) := by decide +kernel
theorem dX11_tracks_126 : decode cX11_tracks 126 = .ok (.goto (-77), 3) := by decide +kernel
theorem dX11_tracks_106 : decode cX11_tracks 106 = .ok (.iload_n 1, 1) := by decide +kernel
theorem dX11_tracks_107 : decode cX11_tracks 107 = .ok (.aload_n 0, 1) := by decide +kernel
theorem dX11_tracks_108 : decode cX11_tracks 108 = .ok (.getfield 19, 3) := by decide +kernel
theorem dX11_tracks_111 : decode cX11_tracks 111 = .ok (.iload_n 3, 1) := by decide +kernel
theorem dX11_tracks_112 : decode cX11_tracks 112 = .ok (.iload 4, 2) := by decide +kernel
theorem dX11_tracks_114 : decode cX11_tracks 114 = .ok (.invokevirtual 319, 3) := by decide +kernel
theorem dX11_tracks_117 : decode cX11_tracks 117 = .ok (.iand, 1) := by decide +kernel
theorem dX11_tracks_118 : decode cX11_tracks 118 = .ok (.goto 4, 3) := by decide +kernel
theorem dX11_tracks_12 : decode cX11_tracks 12 = .ok (.aload_n 0, 1) := by decide +kernel
theorem dX11_tracks_13 : decode cX11_tracks 13 = .ok (.getfield 10, 3) := by decide +kernel
theorem dX11_tracks_16 : decode cX11_tracks 16 = .ok (.getfield 100, 3) := by decide +kernel
theorem dX11_tracks_19 : decode cX11_tracks 19 = .ok (.iconst 2, 1) := by decide +kernel
theorem dX11_tracks_20 : decode cX11_tracks 20 = .ok (.if_icmp .lt 25, 3) := by decide +kernel
theorem dX11_tracks_23 : decode cX11_tracks 23 = .ok (.aload_n 0, 1) := by decide +kernel
theorem dX11_tracks_24 : decode cX11_tracks 24 = .ok (.getfield 10, 3) := by decide +kernel
theorem dX11_tracks_27 : decode cX11_tracks 27 = .ok (.getfield 100, 3) := by decide +kernel
theorem dX11_tracks_30 : decode cX11_tracks 30 = .ok (.bipush 20, 2) := by decide +kernel
theorem dX11_tracks_32 : decode cX11_tracks 32 = .ok (.if_icmp .gt 13, 3) := by decide +kernel
theorem dX11_tracks_35 : decode cX11_tracks 35 = .ok (.aload_n 0, 1) := by decide +kernel
theorem dX11_tracks_36 : decode cX11_tracks 36 = .ok (.getfield 19, 3) := by decide +kernel
theorem dX11_tracks_39 : decode cX11_tracks 39 = .ok (.invokevirtual 313, 3) := by decide +kernel
theorem dX11_tracks_42 : decode cX11_tracks 42 = .ok (.goto 4, 3) := by decide +kernel
theorem dX11_votes_0 : decode cX11_votes 0 = .ok (.aload_n 0, 1) := by decide +kernel
theorem dX11_votes_1 : decode cX11_votes 1 = .ok (.getfield 19, 3) := by decide +kernel
theorem dX11_votes_4 : decode cX11_votes 4 = .ok (.iload_n 1, 1) := by decide +kernel
theorem dX11_votes_5 : decode cX11_votes 5 = .ok (.invokevirtual 199, 3) := by decide +kernel
theorem dX11_votes_8 : decode cX11_votes 8 = .ok (.ifCond .eq 16, 3) := by decide +kernel
theorem dX11_votes_11 : decode cX11_votes 11 = .ok (.aload_n 0, 1) := by decide +kernel
theorem dX11_votes_12 : decode cX11_votes 12 = .ok (.getfield 19, 3) := by decide +kernel
theorem dX11_votes_15 : decode cX11_votes 15 = .ok (.iload_n 1, 1) := by decide +kernel
theorem dX11_votes_16 : decode cX11_votes 16 = .ok (.iconst 1, 1) := by decide +kernel
theorem dX11_votes_17 : decode cX11_votes 17 = .ok (.iconst 0, 1) := by decide +kernel
theorem dX11_votes_18 : decode cX11_votes 18 = .ok (.invokevirtual 322, 3) := by decide +kernel
theorem dX11_votes_21 : decode cX11_votes 21 = .ok (.goto 4, 3) := by decide +kernel
theorem dX11_votes_25 : decode cX11_votes 25 = .ok (.ireturn, 1) := by decide +kernel
theorem dX11_votes_24 : decode cX11_votes 24 = .ok (.iconst (-1), 1) := by decide +kernel
theorem dX11_against_0 : decode cX11_against 0 = .ok (.aload_n 0, 1) := by decide +kernel
theorem dX11_against_1 : decode cX11_against 1 = .ok (.getfield 19, 3) := by decide +kernel
theorem dX11_against_4 : decode cX11_against 4 = .ok (.iload_n 1, 1) := by decide +kernel
theorem dX11_against_5 : decode cX11_against 5 = .ok (.invokevirtual 199, 3) := by decide +kernel
theorem dX11_against_8 : decode cX11_against 8 = .ok (.ifCond .eq 16, 3) := by decide +kernel
theorem dX11_against_11 : decode cX11_against 11 = .ok (.aload_n 0, 1) := by decide +kernel
theorem dX11_against_12 : decode cX11_against 12 = .ok (.getfield 19, 3) := by decide +kernel
theorem dX11_against_15 : decode cX11_against 15 = .ok (.iload_n 1, 1) := by decide +kernel
theorem dX11_against_16 : decode cX11_against 16 = .ok (.iconst 0, 1) := by decide +kernel
theorem dX11_against_17 : decode cX11_against 17 = .ok (.iconst 0, 1) := by decide +kernel
theorem dX11_against_18 : decode cX11_against 18 = .ok (.invokevirtual 322, 3) := by decide +kernel
theorem dX11_against_21 : decode cX11_against 21 = .ok (.goto 4, 3) := by decide +kernel
theorem dX11_against_25 : decode cX11_against 25 = .ok (.ireturn, 1) := by decide +kernel
theorem dX11_against_24 : decode cX11_against 24 = .ok (.iconst (-1), 1) := by decide +kernel
theorem dX11_missed_0 : decode cX11_missed 0 = .ok (.aload_n 0, 1) := by decide +kernel
theorem dX11_missed_1 : decode cX11_missed 1 = .ok (.getfield 19, 3) := by decide +kernel
theorem dX11_missed_4 : decode cX11_missed 4 = .ok (.iload_n 1, 1) := by decide +kernel
theorem dX11_missed_5 : decode cX11_missed 5 = .ok (.invokevirtual 199, 3) := by decide +kernel
theorem dX11_missed_8 : decode cX11_missed 8 = .ok (.ifCond .eq 16, 3) := by decide +kernel
theorem dX11_missed_11 : decode cX11_missed 11 = .ok (.aload_n 0, 1) := by decide +kernel
theorem dX11_missed_12 : decode cX11_missed 12 = .ok (.getfield 19, 3) := by decide +kernel
theorem dX11_missed_15 : decode cX11_missed 15 = .ok (.iload_n 1, 1) := by decide +kernel
theorem dX11_missed_16 : decode cX11_missed 16 = .ok (.iconst 0, 1) := by decide +kernel
theorem dX11_missed_17 : decode cX11_missed 17 = .ok (.iconst 1, 1) := by decide +kernel
theorem dX11_missed_18 : decode cX11_missed 18 = .ok (.invokevirtual 322, 3) := by decide +kernel
theorem dX11_missed_21 : decode cX11_missed 21 = .ok (.goto 4, 3) := by decide +kernel
theorem dX11_missed_25 : decode cX11_missed 25 = .ok (.ireturn, 1) := by decide +kernel
theorem dX11_missed_24 : decode cX11_missed 24 = .ok (.iconst (-1), 1) := by decide +kernel
theorem dX11_odds_0 : decode cX11_odds 0 = .ok (.aload_n 0, 1) := by decide +kernel
theorem dX11_odds_1 : decode cX11_odds 1 = .ok (.getfield 19, 3) := by decide +kernel
theorem dX11_odds_4 : decode cX11_odds 4 = .ok (.iload_n 1, 1) := by decide +kernel
theorem dX11_odds_5 : decode cX11_odds 5 = .ok (.invokevirtual 133, 3) := by decide +kernel
theorem dX11_odds_8 : decode cX11_odds 8 = .ok (.ifCond .eq 14, 3) := by decide +kernel
theorem dX11_odds_11 : decode cX11_odds 11 = .ok (.iload_n 2, 1) := by decide +kernel
theorem dX11_odds_12 : decode cX11_odds 12 = .ok (.iconst 1, 1) := by decide +kernel
theorem dX11_odds_13 : decode cX11_odds 13 = .ok (.if_icmp .lt 9, 3) := by decide +kernel
theorem dX11_odds_22 : decode cX11_odds 22 = .ok (.iconst (-1), 1) := by decide +kernel
theorem dX11_odds_23 : decode cX11_odds 23 = .ok (.ireturn, 1) := by decide +kernel
theorem dX11_odds_16 : decode cX11_odds 16 = .ok (.iload_n 2, 1) := by decide +kernel
theorem dX11_odds_17 : decode cX11_odds 17 = .ok (.bipush 30, 2) := by decide +kernel
theorem dX11_odds_19 : decode cX11_odds 19 = .ok (.if_icmp .le 5, 3) := by decide +kernel
theorem dX11_odds_24 : decode cX11_odds 24 = .ok (.iconst 0, 1) := by decide +kernel
theorem dX11_odds_25 : decode cX11_odds 25 = .ok (.istore 4, 2) := by decide +kernel
theorem dX11_odds_27 : decode cX11_odds 27 = .ok (.iconst 0, 1) := by decide +kernel
theorem dX11_odds_28 : decode cX11_odds 28 = .ok (.istore 5, 2) := by decide +kernel
theorem dX11_odds_30 : decode cX11_odds 30 = .ok (.iload 5, 2) := by decide +kernel
theorem dX11_odds_32 : decode cX11_odds 32 = .ok (.iload_n 2, 1) := by decide +kernel
theorem dX11_odds_33 : decode cX11_odds 33 = .ok (.if_icmp .ge 68, 3) := by decide +kernel
theorem dX11_odds_101 : decode cX11_odds 101 = .ok (.iload 4, 2) := by decide +kernel
theorem dX11_odds_103 : decode cX11_odds 103 = .ok (.ireturn, 1) := by decide +kernel
theorem dX11_odds_36 : decode cX11_odds 36 = .ok (.aload_n 0, 1) := by decide +kernel
theorem dX11_odds_37 : decode cX11_odds 37 = .ok (.getfield 23, 3) := by decide +kernel
theorem dX11_odds_40 : decode cX11_odds 40 = .ok (.aload_n 0, 1) := by decide +kernel
theorem dX11_odds_41 : decode cX11_odds 41 = .ok (.getfield 19, 3) := by decide +kernel
theorem dX11_odds_44 : decode cX11_odds 44 = .ok (.invokevirtual 123, 3) := by decide +kernel
theorem dX11_odds_47 : decode cX11_odds 47 = .ok (.aload_n 0, 1) := by decide +kernel
theorem dX11_odds_48 : decode cX11_odds 48 = .ok (.getfield 53, 3) := by decide +kernel
theorem dX11_odds_51 : decode cX11_odds 51 = .ok (.aload_n 0, 1) := by decide +kernel
theorem dX11_odds_52 : decode cX11_odds 52 = .ok (.getfield 23, 3) := by decide +kernel
theorem dX11_odds_55 : decode cX11_odds 55 = .ok (.bipush 7, 2) := by decide +kernel
theorem dX11_odds_57 : decode cX11_odds 57 = .ok (.iload_n 3, 1) := by decide +kernel
theorem dX11_odds_58 : decode cX11_odds 58 = .ok (.iload 5, 2) := by decide +kernel
theorem dX11_odds_60 : decode cX11_odds 60 = .ok (.iadd, 1) := by decide +kernel
theorem dX11_odds_61 : decode cX11_odds 61 = .ok (.invokevirtual 264, 3) := by decide +kernel
theorem dX11_odds_64 : decode cX11_odds 64 = .ok (.pop, 1) := by decide +kernel
theorem dX11_odds_65 : decode cX11_odds 65 = .ok (.aload_n 0, 1) := by decide +kernel
theorem dX11_odds_66 : decode cX11_odds 66 = .ok (.getfield 23, 3) := by decide +kernel
theorem dX11_odds_69 : decode cX11_odds 69 = .ok (.getfield 140, 3) := by decide +kernel
theorem dX11_odds_72 : decode cX11_odds 72 = .ok (.iload_n 1, 1) := by decide +kernel
theorem dX11_odds_73 : decode cX11_odds 73 = .ok (.aaload, 1) := by decide +kernel
theorem dX11_odds_74 : decode cX11_odds 74 = .ok (.getfield 161, 3) := by decide +kernel
theorem dX11_odds_77 : decode cX11_odds 77 = .ok (.aload_n 0, 1) := by decide +kernel
theorem dX11_odds_78 : decode cX11_odds 78 = .ok (.getfield 19, 3) := by decide +kernel
theorem dX11_odds_81 : decode cX11_odds 81 = .ok (.getfield 140, 3) := by decide +kernel
theorem dX11_odds_84 : decode cX11_odds 84 = .ok (.iload_n 1, 1) := by decide +kernel
theorem dX11_odds_85 : decode cX11_odds 85 = .ok (.aaload, 1) := by decide +kernel
theorem dX11_odds_86 : decode cX11_odds 86 = .ok (.getfield 161, 3) := by decide +kernel
theorem dX11_odds_89 : decode cX11_odds 89 = .ok (.if_icmp .le 6, 3) := by decide +kernel
theorem dX11_odds_95 : decode cX11_odds 95 = .ok (.iinc 5 1, 3) := by decide +kernel
theorem dX11_odds_98 : decode cX11_odds 98 = .ok (.goto (-68), 3) := by decide +kernel
theorem dX11_odds_92 : decode cX11_odds 92 = .ok (.iinc 4 1, 3) := by decide +kernel
theorem dX11_book_0 : decode cX11_book 0 = .ok (.iload_n 1, 1) := by decide +kernel
theorem dX11_book_1 : decode cX11_book 1 = .ok (.ifCond .eq 12, 3) := by decide +kernel
theorem dX11_book_13 : decode cX11_book 13 = .ok (.aload_n 0, 1) := by decide +kernel
theorem dX11_book_14 : decode cX11_book 14 = .ok (.getfield 10, 3) := by decide +kernel
theorem dX11_book_17 : decode cX11_book 17 = .ok (.sipush 400, 3) := by decide +kernel
theorem dX11_book_20 : decode cX11_book 20 = .ok (.invokevirtual 107, 3) := by decide +kernel
theorem dX11_book_23 : decode cX11_book 23 = .ok (.aload_n 0, 1) := by decide +kernel
theorem dX11_book_24 : decode cX11_book 24 = .ok (.getfield 36, 3) := by decide +kernel
theorem dX11_book_27 : decode cX11_book 27 = .ok (.aload_n 0, 1) := by decide +kernel
theorem dX11_book_28 : decode cX11_book 28 = .ok (.getfield 10, 3) := by decide +kernel
theorem dX11_book_31 : decode cX11_book 31 = .ok (.aload_n 0, 1) := by decide +kernel
theorem dX11_book_32 : decode cX11_book 32 = .ok (.getfield 19, 3) := by decide +kernel
theorem dX11_book_35 : decode cX11_book 35 = .ok (.invokevirtual 347, 3) := by decide +kernel
theorem dX11_book_38 : decode cX11_book 38 = .ok (.aload_n 0, 1) := by decide +kernel
theorem dX11_book_39 : decode cX11_book 39 = .ok (.invokevirtual 114, 3) := by decide +kernel
theorem dX11_book_42 : decode cX11_book 42 = .ok (.aload_n 0, 1) := by decide +kernel
theorem dX11_book_43 : decode cX11_book 43 = .ok (.getfield 117, 3) := by decide +kernel
theorem dX11_book_46 : decode cX11_book 46 = .ok (.ifCond .eq 14, 3) := by decide +kernel
theorem dX11_book_60 : decode cX11_book 60 = .ok (.iload_n 1, 1) := by decide +kernel
theorem dX11_book_61 : decode cX11_book 61 = .ok (.iconst 1, 1) := by decide +kernel
theorem dX11_book_62 : decode cX11_book 62 = .ok (.if_icmp .ne 10, 3) := by decide +kernel
theorem dX11_book_72 : decode cX11_book 72 = .ok (.aload_n 0, 1) := by decide +kernel
theorem dX11_book_73 : decode cX11_book 73 = .ok (.getfield 23, 3) := by decide +kernel
theorem dX11_book_76 : decode cX11_book 76 = .ok (.astore_n 2, 1) := by decide +kernel
theorem dX11_book_77 : decode cX11_book 77 = .ok (.iload_n 1, 1) := by decide +kernel
theorem dX11_book_78 : decode cX11_book 78 = .ok (.iconst 1, 1) := by decide +kernel
theorem dX11_book_79 : decode cX11_book 79 = .ok (.if_icmp .ne 24, 3) := by decide +kernel
theorem dX11_book_103 : decode cX11_book 103 = .ok (.aload_n 0, 1) := by decide +kernel
theorem dX11_book_104 : decode cX11_book 104 = .ok (.getfield 23, 3) := by decide +kernel
theorem dX11_book_107 : decode cX11_book 107 = .ok (.aload_n 0, 1) := by decide +kernel
theorem dX11_book_108 : decode cX11_book 108 = .ok (.getfield 19, 3) := by decide +kernel
theorem dX11_book_111 : decode cX11_book 111 = .ok (.invokevirtual 123, 3) := by decide +kernel
theorem dX11_book_114 : decode cX11_book 114 = .ok (.aload_n 0, 1) := by decide +kernel
theorem dX11_book_115 : decode cX11_book 115 = .ok (.getfield 36, 3) := by decide +kernel
theorem dX11_book_118 : decode cX11_book 118 = .ok (.aload_n 2, 1) := by decide +kernel
theorem dX11_book_119 : decode cX11_book 119 = .ok (.aload_n 0, 1) := by decide +kernel
theorem dX11_book_120 : decode cX11_book 120 = .ok (.getfield 53, 3) := by decide +kernel
theorem dX11_book_123 : decode cX11_book 123 = .ok (.invokevirtual 350, 3) := by decide +kernel
theorem dX11_book_126 : decode cX11_book 126 = .ok (.istore_n 3, 1) := by decide +kernel
theorem dX11_book_127 : decode cX11_book 127 = .ok (.aload_n 0, 1) := by decide +kernel
theorem dX11_book_128 : decode cX11_book 128 = .ok (.getfield 80, 3) := by decide +kernel
theorem dX11_book_131 : decode cX11_book 131 = .ok (.iconst 0, 1) := by decide +kernel
theorem dX11_book_132 : decode cX11_book 132 = .ok (.aload_n 0, 1) := by decide +kernel
theorem dX11_book_133 : decode cX11_book 133 = .ok (.getfield 36, 3) := by decide +kernel
theorem dX11_book_136 : decode cX11_book 136 = .ok (.getfield 354, 3) := by decide +kernel
theorem dX11_book_139 : decode cX11_book 139 = .ok (.iastore, 1) := by decide +kernel
theorem dX11_book_140 : decode cX11_book 140 = .ok (.aload_n 0, 1) := by decide +kernel
theorem dX11_book_141 : decode cX11_book 141 = .ok (.getfield 80, 3) := by decide +kernel
theorem dX11_book_144 : decode cX11_book 144 = .ok (.iconst 1, 1) := by decide +kernel
theorem dX11_book_145 : decode cX11_book 145 = .ok (.iload_n 3, 1) := by decide +kernel
theorem dX11_book_146 : decode cX11_book 146 = .ok (.iastore, 1) := by decide +kernel
theorem dX11_book_147 : decode cX11_book 147 = .ok (.aload_n 0, 1) := by decide +kernel
theorem dX11_book_148 : decode cX11_book 148 = .ok (.getfield 80, 3) := by decide +kernel
theorem dX11_book_151 : decode cX11_book 151 = .ok (.iconst 2, 1) := by decide +kernel
theorem dX11_book_152 : decode cX11_book 152 = .ok (.aload_n 2, 1) := by decide +kernel
theorem dX11_book_153 : decode cX11_book 153 = .ok (.getfield 212, 3) := by decide +kernel
