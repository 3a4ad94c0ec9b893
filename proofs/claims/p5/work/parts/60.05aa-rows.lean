theorem dX0_mayBegin_0 : decode cX0_mayBegin 0 = .ok (.aload_n 1, 1) := by decide +kernel
theorem dX0_mayBegin_1 : decode cX0_mayBegin 1 = .ok (.getfield 50, 3) := by decide +kernel
theorem dX0_mayBegin_4 : decode cX0_mayBegin 4 = .ok (.astore_n 3, 1) := by decide +kernel
theorem dX0_mayBegin_5 : decode cX0_mayBegin 5 = .ok (.aload_n 3, 1) := by decide +kernel
theorem dX0_mayBegin_6 : decode cX0_mayBegin 6 = .ok (.getstatic 54, 3) := by decide +kernel
theorem dX0_mayBegin_9 : decode cX0_mayBegin 9 = .ok (.if_acmp .ne 35, 3) := by decide +kernel
theorem dX0_mayBegin_44 : decode cX0_mayBegin 44 = .ok (.aload_n 3, 1) := by decide +kernel
theorem dX0_mayBegin_45 : decode cX0_mayBegin 45 = .ok (.getstatic 70, 3) := by decide +kernel
theorem dX0_mayBegin_48 : decode cX0_mayBegin 48 = .ok (.if_acmp .eq 37, 3) := by decide +kernel
theorem dX0_mayBegin_85 : decode cX0_mayBegin 85 = .ok (.aload_n 0, 1) := by decide +kernel
theorem dX0_mayBegin_86 : decode cX0_mayBegin 86 = .ok (.getfield 30, 3) := by decide +kernel
theorem dX0_mayBegin_89 : decode cX0_mayBegin 89 = .ok (.bipush 40, 2) := by decide +kernel
theorem dX0_mayBegin_91 : decode cX0_mayBegin 91 = .ok (.if_icmp .lt 11, 3) := by decide +kernel
theorem dX0_mayBegin_102 : decode cX0_mayBegin 102 = .ok (.iconst 1, 1) := by decide +kernel
theorem dX0_mayBegin_103 : decode cX0_mayBegin 103 = .ok (.goto 4, 3) := by decide +kernel
theorem dX0_mayBegin_107 : decode cX0_mayBegin 107 = .ok (.ireturn, 1) := by decide +kernel
theorem dX0_mayBegin_94 : decode cX0_mayBegin 94 = .ok (.aload_n 1, 1) := by decide +kernel
theorem dX0_mayBegin_95 : decode cX0_mayBegin 95 = .ok (.iconst 4, 1) := by decide +kernel
theorem dX0_mayBegin_96 : decode cX0_mayBegin 96 = .ok (.invokevirtual 67, 3) := by decide +kernel
theorem dX0_mayBegin_99 : decode cX0_mayBegin 99 = .ok (.ifCond .eq 7, 3) := by decide +kernel
theorem dX0_mayBegin_106 : decode cX0_mayBegin 106 = .ok (.iconst 0, 1) := by decide +kernel
theorem dX0_mayBegin_51 : decode cX0_mayBegin 51 = .ok (.aload_n 3, 1) := by decide +kernel
theorem dX0_mayBegin_52 : decode cX0_mayBegin 52 = .ok (.getstatic 73, 3) := by decide +kernel
theorem dX0_mayBegin_55 : decode cX0_mayBegin 55 = .ok (.if_acmp .eq 30, 3) := by decide +kernel
theorem dX0_mayBegin_58 : decode cX0_mayBegin 58 = .ok (.aload_n 3, 1) := by decide +kernel
theorem dX0_mayBegin_59 : decode cX0_mayBegin 59 = .ok (.getstatic 76, 3) := by decide +kernel
theorem dX0_mayBegin_62 : decode cX0_mayBegin 62 = .ok (.if_acmp .eq 23, 3) := by decide +kernel
theorem dX0_mayBegin_65 : decode cX0_mayBegin 65 = .ok (.aload_n 3, 1) := by decide +kernel
theorem dX0_mayBegin_66 : decode cX0_mayBegin 66 = .ok (.getstatic 79, 3) := by decide +kernel
theorem dX0_mayBegin_69 : decode cX0_mayBegin 69 = .ok (.if_acmp .eq 16, 3) := by decide +kernel
theorem dX0_mayBegin_72 : decode cX0_mayBegin 72 = .ok (.aload_n 3, 1) := by decide +kernel
theorem dX0_mayBegin_73 : decode cX0_mayBegin 73 = .ok (.getstatic 82, 3) := by decide +kernel
theorem dX0_mayBegin_76 : decode cX0_mayBegin 76 = .ok (.if_acmp .eq 9, 3) := by decide +kernel
theorem dX0_mayBegin_79 : decode cX0_mayBegin 79 = .ok (.aload_n 1, 1) := by decide +kernel
theorem dX0_mayBegin_80 : decode cX0_mayBegin 80 = .ok (.iconst 1, 1) := by decide +kernel
theorem dX0_mayBegin_81 : decode cX0_mayBegin 81 = .ok (.invokevirtual 67, 3) := by decide +kernel
theorem dX0_mayBegin_84 : decode cX0_mayBegin 84 = .ok (.ireturn, 1) := by decide +kernel
theorem dX0_mayBegin_12 : decode cX0_mayBegin 12 = .ok (.aload_n 2, 1) := by decide +kernel
theorem dX0_mayBegin_13 : decode cX0_mayBegin 13 = .ok (.iconst 2, 1) := by decide +kernel
theorem dX0_mayBegin_14 : decode cX0_mayBegin 14 = .ok (.aload_n 1, 1) := by decide +kernel
theorem dX0_mayBegin_15 : decode cX0_mayBegin 15 = .ok (.getfield 57, 3) := by decide +kernel
theorem dX0_mayBegin_18 : decode cX0_mayBegin 18 = .ok (.invokevirtual 61, 3) := by decide +kernel
theorem dX0_mayBegin_21 : decode cX0_mayBegin 21 = .ok (.iconst (-1), 1) := by decide +kernel
theorem dX0_mayBegin_22 : decode cX0_mayBegin 22 = .ok (.if_icmp .ne 63, 3) := by decide +kernel
theorem dX0_mayBegin_25 : decode cX0_mayBegin 25 = .ok (.aload_n 2, 1) := by decide +kernel
theorem dX0_mayBegin_26 : decode cX0_mayBegin 26 = .ok (.iconst 1, 1) := by decide +kernel
theorem dX0_mayBegin_27 : decode cX0_mayBegin 27 = .ok (.aload_n 1, 1) := by decide +kernel
theorem dX0_mayBegin_28 : decode cX0_mayBegin 28 = .ok (.getfield 57, 3) := by decide +kernel
theorem dX0_mayBegin_31 : decode cX0_mayBegin 31 = .ok (.invokevirtual 61, 3) := by decide +kernel
theorem dX0_mayBegin_34 : decode cX0_mayBegin 34 = .ok (.iconst (-1), 1) := by decide +kernel
theorem dX0_mayBegin_35 : decode cX0_mayBegin 35 = .ok (.if_icmp .ne 50, 3) := by decide +kernel
theorem dX0_mayBegin_38 : decode cX0_mayBegin 38 = .ok (.aload_n 1, 1) := by decide +kernel
theorem dX0_mayBegin_39 : decode cX0_mayBegin 39 = .ok (.iconst 3, 1) := by decide +kernel
theorem dX0_mayBegin_40 : decode cX0_mayBegin 40 = .ok (.invokevirtual 67, 3) := by decide +kernel
theorem dX0_mayBegin_43 : decode cX0_mayBegin 43 = .ok (.ireturn, 1) := by decide +kernel
theorem dX0_readAct_0 : decode cX0_readAct 0 = .ok (.aload_n 1, 1) := by decide +kernel
theorem dX0_readAct_1 : decode cX0_readAct 1 = .ok (.getfield 50, 3) := by decide +kernel
theorem dX0_readAct_4 : decode cX0_readAct 4 = .ok (.astore_n 3, 1) := by decide +kernel
theorem dX0_readAct_5 : decode cX0_readAct 5 = .ok (.aload_n 3, 1) := by decide +kernel
theorem dX0_readAct_6 : decode cX0_readAct 6 = .ok (.getstatic 54, 3) := by decide +kernel
theorem dX0_readAct_9 : decode cX0_readAct 9 = .ok (.if_acmp .eq 9, 3) := by decide +kernel
theorem dX0_readAct_18 : decode cX0_readAct 18 = .ok (.aload_n 2, 1) := by decide +kernel
theorem dX0_readAct_19 : decode cX0_readAct 19 = .ok (.iconst 2, 1) := by decide +kernel
theorem dX0_readAct_20 : decode cX0_readAct 20 = .ok (.aload_n 1, 1) := by decide +kernel
theorem dX0_readAct_21 : decode cX0_readAct 21 = .ok (.getfield 57, 3) := by decide +kernel
theorem dX0_readAct_24 : decode cX0_readAct 24 = .ok (.invokevirtual 61, 3) := by decide +kernel
theorem dX0_readAct_27 : decode cX0_readAct 27 = .ok (.iconst (-1), 1) := by decide +kernel
theorem dX0_readAct_28 : decode cX0_readAct 28 = .ok (.if_icmp .eq 7, 3) := by decide +kernel
theorem dX0_readAct_35 : decode cX0_readAct 35 = .ok (.iconst 1, 1) := by decide +kernel
theorem dX0_readAct_36 : decode cX0_readAct 36 = .ok (.istore 4, 2) := by decide +kernel
theorem dX0_readAct_38 : decode cX0_readAct 38 = .ok (.aload_n 1, 1) := by decide +kernel
theorem dX0_readAct_39 : decode cX0_readAct 39 = .ok (.aload_n 2, 1) := by decide +kernel
theorem dX0_readAct_40 : decode cX0_readAct 40 = .ok (.iload 4, 2) := by decide +kernel
theorem dX0_readAct_42 : decode cX0_readAct 42 = .ok (.invokevirtual 105, 3) := by decide +kernel
theorem dX0_readAct_45 : decode cX0_readAct 45 = .ok (.ifCond .ne 7, 3) := by decide +kernel
theorem dX0_readAct_52 : decode cX0_readAct 52 = .ok (.aload_n 0, 1) := by decide +kernel
theorem dX0_readAct_53 : decode cX0_readAct 53 = .ok (.getfield 17, 3) := by decide +kernel
theorem dX0_readAct_56 : decode cX0_readAct 56 = .ok (.aload_n 0, 1) := by decide +kernel
theorem dX0_readAct_57 : decode cX0_readAct 57 = .ok (.getfield 30, 3) := by decide +kernel
theorem dX0_readAct_60 : decode cX0_readAct 60 = .ok (.aload_n 1, 1) := by decide +kernel
theorem dX0_readAct_61 : decode cX0_readAct 61 = .ok (.getfield 102, 3) := by decide +kernel
theorem dX0_readAct_64 : decode cX0_readAct 64 = .ok (.iastore, 1) := by decide +kernel
theorem dX0_readAct_65 : decode cX0_readAct 65 = .ok (.aload_n 1, 1) := by decide +kernel
theorem dX0_readAct_66 : decode cX0_readAct 66 = .ok (.getfield 50, 3) := by decide +kernel
theorem dX0_readAct_69 : decode cX0_readAct 69 = .ok (.astore_n 3, 1) := by decide +kernel
theorem dX0_readAct_70 : decode cX0_readAct 70 = .ok (.iload 4, 2) := by decide +kernel
theorem dX0_readAct_72 : decode cX0_readAct 72 = .ok (.iconst 2, 1) := by decide +kernel
theorem dX0_readAct_73 : decode cX0_readAct 73 = .ok (.if_icmp .ne 25, 3) := by decide +kernel
theorem dX0_readAct_98 : decode cX0_readAct 98 = .ok (.aload_n 3, 1) := by decide +kernel
theorem dX0_readAct_99 : decode cX0_readAct 99 = .ok (.getstatic 122, 3) := by decide +kernel
theorem dX0_readAct_102 : decode cX0_readAct 102 = .ok (.if_acmp .ne 7, 3) := by decide +kernel
theorem dX0_readAct_109 : decode cX0_readAct 109 = .ok (.iconst 0, 1) := by decide +kernel
theorem dX0_readAct_110 : decode cX0_readAct 110 = .ok (.istore 5, 2) := by decide +kernel
theorem dX0_readAct_112 : decode cX0_readAct 112 = .ok (.iload 5, 2) := by decide +kernel
theorem dX0_readAct_114 : decode cX0_readAct 114 = .ok (.ifCond .ne 13, 3) := by decide +kernel
theorem dX0_readAct_117 : decode cX0_readAct 117 = .ok (.aload_n 1, 1) := by decide +kernel
theorem dX0_readAct_118 : decode cX0_readAct 118 = .ok (.iconst 1, 1) := by decide +kernel
theorem dX0_readAct_119 : decode cX0_readAct 119 = .ok (.invokevirtual 67, 3) := by decide +kernel
theorem dX0_readAct_122 : decode cX0_readAct 122 = .ok (.pop, 1) := by decide +kernel
theorem dX0_readAct_123 : decode cX0_readAct 123 = .ok (.getstatic 89, 3) := by decide +kernel
theorem dX0_readAct_126 : decode cX0_readAct 126 = .ok (.areturn, 1) := by decide +kernel
theorem dX0_readAct_105 : decode cX0_readAct 105 = .ok (.iconst 1, 1) := by decide +kernel
theorem dX0_readAct_106 : decode cX0_readAct 106 = .ok (.goto 4, 3) := by decide +kernel
theorem dX0_readAct_127 : decode cX0_readAct 127 = .ok (.aload_n 1, 1) := by decide +kernel
theorem dX0_readAct_128 : decode cX0_readAct 128 = .ok (.invokevirtual 119, 3) := by decide +kernel
theorem dX0_readAct_131 : decode cX0_readAct 131 = .ok (.aload_n 3, 1) := by decide +kernel
theorem dX0_readAct_132 : decode cX0_readAct 132 = .ok (.areturn, 1) := by decide +kernel
theorem dX0_readAct_48 : decode cX0_readAct 48 = .ok (.getstatic 89, 3) := by decide +kernel
theorem dX0_readAct_51 : decode cX0_readAct 51 = .ok (.areturn, 1) := by decide +kernel
theorem dX0_readAct_31 : decode cX0_readAct 31 = .ok (.iconst 2, 1) := by decide +kernel
theorem dX0_readAct_32 : decode cX0_readAct 32 = .ok (.goto 4, 3) := by decide +kernel
theorem dX0_readAct_76 : decode cX0_readAct 76 = .ok (.aload_n 3, 1) := by decide +kernel
theorem dX0_readAct_77 : decode cX0_readAct 77 = .ok (.getstatic 92, 3) := by decide +kernel
theorem dX0_readAct_80 : decode cX0_readAct 80 = .ok (.if_acmp .eq 10, 3) := by decide +kernel
theorem dX0_readAct_90 : decode cX0_readAct 90 = .ok (.iconst 1, 1) := by decide +kernel
theorem dX0_readAct_91 : decode cX0_readAct 91 = .ok (.goto 19, 3) := by decide +kernel
theorem dX0_readAct_83 : decode cX0_readAct 83 = .ok (.aload_n 3, 1) := by decide +kernel
theorem dX0_readAct_84 : decode cX0_readAct 84 = .ok (.getstatic 95, 3) := by decide +kernel
theorem dX0_readAct_87 : decode cX0_readAct 87 = .ok (.if_acmp .ne 7, 3) := by decide +kernel
theorem dX0_readAct_94 : decode cX0_readAct 94 = .ok (.iconst 0, 1) := by decide +kernel
theorem dX0_readAct_95 : decode cX0_readAct 95 = .ok (.goto 15, 3) := by decide +kernel
theorem dX0_readAct_12 : decode cX0_readAct 12 = .ok (.aload_n 1, 1) := by decide +kernel
theorem dX0_readAct_13 : decode cX0_readAct 13 = .ok (.invokevirtual 119, 3) := by decide +kernel
theorem dX0_readAct_16 : decode cX0_readAct 16 = .ok (.aload_n 3, 1) := by decide +kernel
theorem dX0_readAct_17 : decode cX0_readAct 17 = .ok (.areturn, 1) := by decide +kernel
theorem dX0_readLine_0 : decode cX0_readLine 0 = .ok (.aload_n 0, 1) := by decide +kernel
theorem dX0_readLine_1 : decode cX0_readLine 1 = .ok (.aload_n 1, 1) := by decide +kernel
theorem dX0_readLine_2 : decode cX0_readLine 2 = .ok (.aload_n 2, 1) := by decide +kernel
theorem dX0_readLine_3 : decode cX0_readLine 3 = .ok (.invokevirtual 85, 3) := by decide +kernel
theorem dX0_readLine_6 : decode cX0_readLine 6 = .ok (.astore_n 3, 1) := by decide +kernel
theorem dX0_readLine_7 : decode cX0_readLine 7 = .ok (.aload_n 0, 1) := by decide +kernel
theorem dX0_readLine_8 : decode cX0_readLine 8 = .ok (.getfield 13, 3) := by decide +kernel
theorem dX0_readLine_11 : decode cX0_readLine 11 = .ok (.aload_n 0, 1) := by decide +kernel
theorem dX0_readLine_12 : decode cX0_readLine 12 = .ok (.getfield 30, 3) := by decide +kernel
theorem dX0_readLine_15 : decode cX0_readLine 15 = .ok (.aload_n 3, 1) := by decide +kernel
theorem dX0_readLine_16 : decode cX0_readLine 16 = .ok (.aastore, 1) := by decide +kernel
theorem dX0_readLine_17 : decode cX0_readLine 17 = .ok (.aload_n 3, 1) := by decide +kernel
theorem dX0_readLine_18 : decode cX0_readLine 18 = .ok (.getstatic 89, 3) := by decide +kernel
theorem dX0_readLine_21 : decode cX0_readLine 21 = .ok (.if_acmp .eq 17, 3) := by decide +kernel
theorem dX0_readLine_38 : decode cX0_readLine 38 = .ok (.aload_n 3, 1) := by decide +kernel
theorem dX0_readLine_39 : decode cX0_readLine 39 = .ok (.getstatic 89, 3) := by decide +kernel
theorem dX0_readLine_42 : decode cX0_readLine 42 = .ok (.if_acmp .eq 7, 3) := by decide +kernel
theorem dX0_readLine_49 : decode cX0_readLine 49 = .ok (.iconst 0, 1) := by decide +kernel
theorem dX0_readLine_50 : decode cX0_readLine 50 = .ok (.ireturn, 1) := by decide +kernel
theorem dX0_readLine_24 : decode cX0_readLine 24 = .ok (.aload_n 3, 1) := by decide +kernel
theorem dX0_readLine_25 : decode cX0_readLine 25 = .ok (.getstatic 92, 3) := by decide +kernel
theorem dX0_readLine_28 : decode cX0_readLine 28 = .ok (.if_acmp .eq 10, 3) := by decide +kernel
theorem dX0_readLine_45 : decode cX0_readLine 45 = .ok (.iconst 1, 1) := by decide +kernel
theorem dX0_readLine_46 : decode cX0_readLine 46 = .ok (.goto 4, 3) := by decide +kernel
theorem dX0_readLine_31 : decode cX0_readLine 31 = .ok (.aload_n 3, 1) := by decide +kernel
theorem dX0_readLine_32 : decode cX0_readLine 32 = .ok (.getstatic 95, 3) := by decide +kernel
theorem dX0_readLine_35 : decode cX0_readLine 35 = .ok (.if_acmp .ne 16, 3) := by decide +kernel
theorem dX0_readLine_51 : decode cX0_readLine 51 = .ok (.aload_n 3, 1) := by decide +kernel
theorem dX0_readLine_52 : decode cX0_readLine 52 = .ok (.getstatic 79, 3) := by decide +kernel
theorem dX0_readLine_55 : decode cX0_readLine 55 = .ok (.if_acmp .eq 10, 3) := by decide +kernel
theorem dX0_readLine_65 : decode cX0_readLine 65 = .ok (.aload_n 3, 1) := by decide +kernel
theorem dX0_readLine_66 : decode cX0_readLine 66 = .ok (.getstatic 82, 3) := by decide +kernel
theorem dX0_readLine_69 : decode cX0_readLine 69 = .ok (.if_acmp .ne 13, 3) := by decide +kernel
theorem dX0_readLine_82 : decode cX0_readLine 82 = .ok (.aload_n 1, 1) := by decide +kernel
theorem dX0_readLine_83 : decode cX0_readLine 83 = .ok (.iconst 0, 1) := by decide +kernel
theorem dX0_readLine_84 : decode cX0_readLine 84 = .ok (.bipush 12, 2) := by decide +kernel
theorem dX0_readLine_86 : decode cX0_readLine 86 = .ok (.invokevirtual 98, 3) := by decide +kernel
theorem dX0_readLine_89 : decode cX0_readLine 89 = .ok (.istore 4, 2) := by decide +kernel
theorem dX0_readLine_91 : decode cX0_readLine 91 = .ok (.aload_n 0, 1) := by decide +kernel
theorem dX0_readLine_92 : decode cX0_readLine 92 = .ok (.getfield 17, 3) := by decide +kernel
theorem dX0_readLine_95 : decode cX0_readLine 95 = .ok (.aload_n 0, 1) := by decide +kernel
theorem dX0_readLine_96 : decode cX0_readLine 96 = .ok (.getfield 30, 3) := by decide +kernel
theorem dX0_readLine_99 : decode cX0_readLine 99 = .ok (.aload_n 1, 1) := by decide +kernel
theorem dX0_readLine_100 : decode cX0_readLine 100 = .ok (.getfield 102, 3) := by decide +kernel
theorem dX0_readLine_103 : decode cX0_readLine 103 = .ok (.iastore, 1) := by decide +kernel
theorem dX0_readLine_104 : decode cX0_readLine 104 = .ok (.iload 4, 2) := by decide +kernel
theorem dX0_readLine_106 : decode cX0_readLine 106 = .ok (.ireturn, 1) := by decide +kernel
theorem dX0_readLine_58 : decode cX0_readLine 58 = .ok (.aload_n 3, 1) := by decide +kernel
theorem dX0_readLine_59 : decode cX0_readLine 59 = .ok (.getstatic 82, 3) := by decide +kernel
theorem dX0_readLine_62 : decode cX0_readLine 62 = .ok (.if_acmp .ne 45, 3) := by decide +kernel
theorem dX0_readLine_107 : decode cX0_readLine 107 = .ok (.aload_n 1, 1) := by decide +kernel
theorem dX0_readLine_108 : decode cX0_readLine 108 = .ok (.aload_n 2, 1) := by decide +kernel
theorem dX0_readLine_109 : decode cX0_readLine 109 = .ok (.iconst 0, 1) := by decide +kernel
theorem dX0_readLine_110 : decode cX0_readLine 110 = .ok (.invokevirtual 105, 3) := by decide +kernel
theorem dX0_readLine_113 : decode cX0_readLine 113 = .ok (.ifCond .ne 5, 3) := by decide +kernel
theorem dX0_readLine_118 : decode cX0_readLine 118 = .ok (.aload_n 0, 1) := by decide +kernel
theorem dX0_readLine_119 : decode cX0_readLine 119 = .ok (.getfield 21, 3) := by decide +kernel
theorem dX0_readLine_122 : decode cX0_readLine 122 = .ok (.aload_n 0, 1) := by decide +kernel
theorem dX0_readLine_123 : decode cX0_readLine 123 = .ok (.getfield 30, 3) := by decide +kernel
theorem dX0_readLine_126 : decode cX0_readLine 126 = .ok (.aload_n 1, 1) := by decide +kernel
theorem dX0_readLine_127 : decode cX0_readLine 127 = .ok (.getfield 102, 3) := by decide +kernel
theorem dX0_readLine_130 : decode cX0_readLine 130 = .ok (.iastore, 1) := by decide +kernel
theorem dX0_readLine_131 : decode cX0_readLine 131 = .ok (.aload_n 3, 1) := by decide +kernel
theorem dX0_readLine_132 : decode cX0_readLine 132 = .ok (.getstatic 76, 3) := by decide +kernel
theorem dX0_readLine_135 : decode cX0_readLine 135 = .ok (.if_acmp .ne 5, 3) := by decide +kernel
theorem dX0_readLine_140 : decode cX0_readLine 140 = .ok (.aload_n 1, 1) := by decide +kernel
theorem dX0_readLine_141 : decode cX0_readLine 141 = .ok (.invokevirtual 109, 3) := by decide +kernel
theorem dX0_readLine_144 : decode cX0_readLine 144 = .ok (.istore 4, 2) := by decide +kernel
theorem dX0_readLine_146 : decode cX0_readLine 146 = .ok (.aload_n 0, 1) := by decide +kernel
theorem dX0_readLine_147 : decode cX0_readLine 147 = .ok (.getfield 24, 3) := by decide +kernel
theorem dX0_readLine_150 : decode cX0_readLine 150 = .ok (.aload_n 0, 1) := by decide +kernel
theorem dX0_readLine_151 : decode cX0_readLine 151 = .ok (.getfield 30, 3) := by decide +kernel
theorem dX0_readLine_154 : decode cX0_readLine 154 = .ok (.aload_n 1, 1) := by decide +kernel
theorem dX0_readLine_155 : decode cX0_readLine 155 = .ok (.getfield 113, 3) := by decide +kernel
theorem dX0_readLine_158 : decode cX0_readLine 158 = .ok (.iastore, 1) := by decide +kernel
theorem dX0_readLine_159 : decode cX0_readLine 159 = .ok (.aload_n 0, 1) := by decide +kernel
theorem dX0_readLine_160 : decode cX0_readLine 160 = .ok (.getfield 27, 3) := by decide +kernel
theorem dX0_readLine_163 : decode cX0_readLine 163 = .ok (.aload_n 0, 1) := by decide +kernel
theorem dX0_readLine_164 : decode cX0_readLine 164 = .ok (.getfield 30, 3) := by decide +kernel
theorem dX0_readLine_167 : decode cX0_readLine 167 = .ok (.aload_n 1, 1) := by decide +kernel
theorem dX0_readLine_168 : decode cX0_readLine 168 = .ok (.getfield 116, 3) := by decide +kernel
theorem dX0_readLine_171 : decode cX0_readLine 171 = .ok (.iastore, 1) := by decide +kernel
theorem dX0_readLine_172 : decode cX0_readLine 172 = .ok (.iload 4, 2) := by decide +kernel
theorem dX0_readLine_174 : decode cX0_readLine 174 = .ok (.ireturn, 1) := by decide +kernel
theorem dX0_readLine_138 : decode cX0_readLine 138 = .ok (.iconst 1, 1) := by decide +kernel
theorem dX0_readLine_139 : decode cX0_readLine 139 = .ok (.ireturn, 1) := by decide +kernel
theorem dX0_readLine_116 : decode cX0_readLine 116 = .ok (.iconst 0, 1) := by decide +kernel
theorem dX0_readLine_117 : decode cX0_readLine 117 = .ok (.ireturn, 1) := by decide +kernel
theorem dX0_readLine_72 : decode cX0_readLine 72 = .ok (.aload_n 1, 1) := by decide +kernel
theorem dX0_readLine_73 : decode cX0_readLine 73 = .ok (.iconst 1, 1) := by decide +kernel
theorem dX0_readLine_74 : decode cX0_readLine 74 = .ok (.bipush 30, 2) := by decide +kernel
theorem dX0_readLine_76 : decode cX0_readLine 76 = .ok (.invokevirtual 98, 3) := by decide +kernel
theorem dX0_readLine_79 : decode cX0_readLine 79 = .ok (.goto 10, 3) := by decide +kernel
theorem dX0_readAll_0 : decode cX0_readAll 0 = .ok (.aload_n 0, 1) := by decide +kernel
theorem dX0_readAll_1 : decode cX0_readAll 1 = .ok (.iconst 0, 1) := by decide +kernel
theorem dX0_readAll_2 : decode cX0_readAll 2 = .ok (.putfield 30, 3) := by decide +kernel
theorem dX0_readAll_5 : decode cX0_readAll 5 = .ok (.iconst 1, 1) := by decide +kernel
theorem dX0_readAll_6 : decode cX0_readAll 6 = .ok (.istore_n 3, 1) := by decide +kernel
theorem dX0_readAll_7 : decode cX0_readAll 7 = .ok (.iconst 0, 1) := by decide +kernel
theorem dX0_readAll_8 : decode cX0_readAll 8 = .ok (.istore 4, 2) := by decide +kernel
theorem dX0_readAll_10 : decode cX0_readAll 10 = .ok (.iload 4, 2) := by decide +kernel
theorem dX0_readAll_12 : decode cX0_readAll 12 = .ok (.bipush 40, 2) := by decide +kernel
theorem dX0_readAll_14 : decode cX0_readAll 14 = .ok (.if_icmp .gt 68, 3) := by decide +kernel
theorem dX0_readAll_82 : decode cX0_readAll 82 = .ok (.return_, 1) := by decide +kernel
theorem dX0_readAll_17 : decode cX0_readAll 17 = .ok (.iload_n 3, 1) := by decide +kernel
theorem dX0_readAll_18 : decode cX0_readAll 18 = .ok (.ifCond .eq 64, 3) := by decide +kernel
theorem dX0_readAll_21 : decode cX0_readAll 21 = .ok (.aload_n 1, 1) := by decide +kernel
theorem dX0_readAll_22 : decode cX0_readAll 22 = .ok (.getfield 34, 3) := by decide +kernel
theorem dX0_readAll_25 : decode cX0_readAll 25 = .ok (.iconst 3, 1) := by decide +kernel
theorem dX0_readAll_26 : decode cX0_readAll 26 = .ok (.if_icmp .eq 56, 3) := by decide +kernel
theorem dX0_readAll_29 : decode cX0_readAll 29 = .ok (.aload_n 0, 1) := by decide +kernel
theorem dX0_readAll_30 : decode cX0_readAll 30 = .ok (.aload_n 1, 1) := by decide +kernel
theorem dX0_readAll_31 : decode cX0_readAll 31 = .ok (.aload_n 2, 1) := by decide +kernel
theorem dX0_readAll_32 : decode cX0_readAll 32 = .ok (.invokevirtual 39, 3) := by decide +kernel
theorem dX0_readAll_35 : decode cX0_readAll 35 = .ok (.ifCond .eq 25, 3) := by decide +kernel
theorem dX0_readAll_38 : decode cX0_readAll 38 = .ok (.aload_n 0, 1) := by decide +kernel
theorem dX0_readAll_39 : decode cX0_readAll 39 = .ok (.aload_n 1, 1) := by decide +kernel
theorem dX0_readAll_40 : decode cX0_readAll 40 = .ok (.aload_n 2, 1) := by decide +kernel
theorem dX0_readAll_41 : decode cX0_readAll 41 = .ok (.invokevirtual 43, 3) := by decide +kernel
theorem dX0_readAll_44 : decode cX0_readAll 44 = .ok (.ifCond .eq 16, 3) := by decide +kernel
theorem dX0_readAll_47 : decode cX0_readAll 47 = .ok (.aload_n 1, 1) := by decide +kernel
theorem dX0_readAll_48 : decode cX0_readAll 48 = .ok (.bipush 59, 2) := by decide +kernel
theorem dX0_readAll_50 : decode cX0_readAll 50 = .ok (.invokevirtual 46, 3) := by decide +kernel
theorem dX0_readAll_53 : decode cX0_readAll 53 = .ok (.ifCond .eq 7, 3) := by decide +kernel
theorem dX0_readAll_56 : decode cX0_readAll 56 = .ok (.iconst 1, 1) := by decide +kernel
theorem dX0_readAll_57 : decode cX0_readAll 57 = .ok (.goto 4, 3) := by decide +kernel
theorem dX0_readAll_61 : decode cX0_readAll 61 = .ok (.istore_n 3, 1) := by decide +kernel
theorem dX0_readAll_62 : decode cX0_readAll 62 = .ok (.iload_n 3, 1) := by decide +kernel
theorem dX0_readAll_63 : decode cX0_readAll 63 = .ok (.ifCond .eq 13, 3) := by decide +kernel
theorem dX0_readAll_66 : decode cX0_readAll 66 = .ok (.aload_n 0, 1) := by decide +kernel
theorem dX0_readAll_67 : decode cX0_readAll 67 = .ok (.dup, 1) := by decide +kernel
theorem dX0_readAll_68 : decode cX0_readAll 68 = .ok (.getfield 30, 3) := by decide +kernel
theorem dX0_readAll_71 : decode cX0_readAll 71 = .ok (.iconst 1, 1) := by decide +kernel
theorem dX0_readAll_72 : decode cX0_readAll 72 = .ok (.iadd, 1) := by decide +kernel
theorem dX0_readAll_73 : decode cX0_readAll 73 = .ok (.putfield 30, 3) := by decide +kernel
theorem dX0_readAll_76 : decode cX0_readAll 76 = .ok (.iinc 4 1, 3) := by decide +kernel
theorem dX0_readAll_79 : decode cX0_readAll 79 = .ok (.goto (-69), 3) := by decide +kernel
theorem dX0_readAll_60 : decode cX0_readAll 60 = .ok (.iconst 0, 1) := by decide +kernel
theorem dX0_whyNot_0 : decode cX0_whyNot 0 = .ok (.iload_n 1, 1) := by decide +kernel
theorem dX0_whyNot_1 : decode cX0_whyNot 1 = .ok (.ifCond .ne 7, 3) := by decide +kernel
theorem dX0_whyNot_8 : decode cX0_whyNot 8 = .ok (.iload_n 0, 1) := by decide +kernel
theorem dX0_whyNot_9 : decode cX0_whyNot 9 = .ok (.iload_n 1, 1) := by decide +kernel
theorem dX0_whyNot_10 : decode cX0_whyNot 10 = .ok (.iadd, 1) := by decide +kernel
theorem dX0_whyNot_11 : decode cX0_whyNot 11 = .ok (.ireturn, 1) := by decide +kernel
theorem dX0_whyNot_4 : decode cX0_whyNot 4 = .ok (.iconst 0, 1) := by decide +kernel
theorem dX0_whyNot_5 : decode cX0_whyNot 5 = .ok (.goto 6, 3) := by decide +kernel
theorem dX0_liveLine_0 : decode cX0_liveLine 0 = .ok (.aload_n 0, 1) := by decide +kernel
theorem dX0_liveLine_1 : decode cX0_liveLine 1 = .ok (.getfield 13, 3) := by decide +kernel
theorem dX0_liveLine_4 : decode cX0_liveLine 4 = .ok (.iload_n 1, 1) := by decide +kernel
theorem dX0_liveLine_5 : decode cX0_liveLine 5 = .ok (.aaload, 1) := by decide +kernel
theorem dX0_liveLine_6 : decode cX0_liveLine 6 = .ok (.astore 4, 2) := by decide +kernel
theorem dX0_liveLine_8 : decode cX0_liveLine 8 = .ok (.aload 4, 2) := by decide +kernel
theorem dX0_liveLine_10 : decode cX0_liveLine 10 = .ok (.getstatic 70, 3) := by decide +kernel
theorem dX0_liveLine_13 : decode cX0_liveLine 13 = .ok (.if_acmp .ne 30, 3) := by decide +kernel
theorem dX0_liveLine_43 : decode cX0_liveLine 43 = .ok (.aload 4, 2) := by decide +kernel
theorem dX0_liveLine_45 : decode cX0_liveLine 45 = .ok (.getstatic 73, 3) := by decide +kernel
theorem dX0_liveLine_48 : decode cX0_liveLine 48 = .ok (.if_acmp .ne 31, 3) := by decide +kernel
theorem dX0_liveLine_79 : decode cX0_liveLine 79 = .ok (.aload 4, 2) := by decide +kernel
theorem dX0_liveLine_81 : decode cX0_liveLine 81 = .ok (.getstatic 76, 3) := by decide +kernel
theorem dX0_liveLine_84 : decode cX0_liveLine 84 = .ok (.if_acmp .ne 14, 3) := by decide +kernel
theorem dX0_liveLine_98 : decode cX0_liveLine 98 = .ok (.aload 4, 2) := by decide +kernel
theorem dX0_liveLine_100 : decode cX0_liveLine 100 = .ok (.getstatic 79, 3) := by decide +kernel
theorem dX0_liveLine_103 : decode cX0_liveLine 103 = .ok (.if_acmp .ne 19, 3) := by decide +kernel
theorem dX0_liveLine_122 : decode cX0_liveLine 122 = .ok (.aload 4, 2) := by decide +kernel
theorem dX0_liveLine_124 : decode cX0_liveLine 124 = .ok (.getstatic 92, 3) := by decide +kernel
theorem dX0_liveLine_127 : decode cX0_liveLine 127 = .ok (.if_acmp .eq 11, 3) := by decide +kernel
theorem dX0_liveLine_130 : decode cX0_liveLine 130 = .ok (.aload 4, 2) := by decide +kernel
theorem dX0_liveLine_132 : decode cX0_liveLine 132 = .ok (.getstatic 95, 3) := by decide +kernel
theorem dX0_liveLine_135 : decode cX0_liveLine 135 = .ok (.if_acmp .ne 32, 3) := by decide +kernel
theorem dX0_liveLine_167 : decode cX0_liveLine 167 = .ok (.aload 4, 2) := by decide +kernel
theorem dX0_liveLine_169 : decode cX0_liveLine 169 = .ok (.getstatic 122, 3) := by decide +kernel
theorem dX0_liveLine_172 : decode cX0_liveLine 172 = .ok (.if_acmp .ne 37, 3) := by decide +kernel
theorem dX0_liveLine_209 : decode cX0_liveLine 209 = .ok (.aload_n 0, 1) := by decide +kernel
theorem dX0_liveLine_210 : decode cX0_liveLine 210 = .ok (.getfield 17, 3) := by decide +kernel
theorem dX0_liveLine_213 : decode cX0_liveLine 213 = .ok (.iload_n 1, 1) := by decide +kernel
theorem dX0_liveLine_214 : decode cX0_liveLine 214 = .ok (.iaload, 1) := by decide +kernel
theorem dX0_liveLine_215 : decode cX0_liveLine 215 = .ok (.sipush 400, 3) := by decide +kernel
theorem dX0_liveLine_218 : decode cX0_liveLine 218 = .ok (.aload_n 2, 1) := by decide +kernel
theorem dX0_liveLine_219 : decode cX0_liveLine 219 = .ok (.getfield 160, 3) := by decide +kernel
theorem dX0_liveLine_222 : decode cX0_liveLine 222 = .ok (.isub, 1) := by decide +kernel
theorem dX0_liveLine_223 : decode cX0_liveLine 223 = .ok (.if_icmp .le 6, 3) := by decide +kernel
theorem dX0_liveLine_229 : decode cX0_liveLine 229 = .ok (.aload_n 3, 1) := by decide +kernel
theorem dX0_liveLine_230 : decode cX0_liveLine 230 = .ok (.aload_n 2, 1) := by decide +kernel
theorem dX0_liveLine_231 : decode cX0_liveLine 231 = .ok (.aload_n 0, 1) := by decide +kernel
theorem dX0_liveLine_232 : decode cX0_liveLine 232 = .ok (.getfield 17, 3) := by decide +kernel
theorem dX0_liveLine_235 : decode cX0_liveLine 235 = .ok (.iload_n 1, 1) := by decide +kernel
theorem dX0_liveLine_236 : decode cX0_liveLine 236 = .ok (.iaload, 1) := by decide +kernel
theorem dX0_liveLine_237 : decode cX0_liveLine 237 = .ok (.aload_n 0, 1) := by decide +kernel
theorem dX0_liveLine_238 : decode cX0_liveLine 238 = .ok (.getfield 17, 3) := by decide +kernel
theorem dX0_liveLine_241 : decode cX0_liveLine 241 = .ok (.iload_n 1, 1) := by decide +kernel
theorem dX0_liveLine_242 : decode cX0_liveLine 242 = .ok (.iaload, 1) := by decide +kernel
theorem dX0_liveLine_243 : decode cX0_liveLine 243 = .ok (.invokevirtual 163, 3) := by decide +kernel
theorem dX0_liveLine_246 : decode cX0_liveLine 246 = .ok (.pop, 1) := by decide +kernel
theorem dX0_liveLine_247 : decode cX0_liveLine 247 = .ok (.iconst 0, 1) := by decide +kernel
theorem dX0_liveLine_248 : decode cX0_liveLine 248 = .ok (.ireturn, 1) := by decide +kernel
theorem dX0_liveLine_226 : decode cX0_liveLine 226 = .ok (.bipush 51, 2) := by decide +kernel
theorem dX0_liveLine_228 : decode cX0_liveLine 228 = .ok (.ireturn, 1) := by decide +kernel
theorem dX0_liveLine_138 : decode cX0_liveLine 138 = .ok (.bipush 30, 2) := by decide +kernel
theorem dX0_liveLine_140 : decode cX0_liveLine 140 = .ok (.aload_n 2, 1) := by decide +kernel
theorem dX0_liveLine_141 : decode cX0_liveLine 141 = .ok (.aload_n 0, 1) := by decide +kernel
theorem dX0_liveLine_142 : decode cX0_liveLine 142 = .ok (.getfield 17, 3) := by decide +kernel
theorem dX0_liveLine_145 : decode cX0_liveLine 145 = .ok (.iload_n 1, 1) := by decide +kernel
theorem dX0_liveLine_146 : decode cX0_liveLine 146 = .ok (.iaload, 1) := by decide +kernel
theorem dX0_liveLine_147 : decode cX0_liveLine 147 = .ok (.aload 4, 2) := by decide +kernel
theorem dX0_liveLine_149 : decode cX0_liveLine 149 = .ok (.getstatic 92, 3) := by decide +kernel
theorem dX0_liveLine_152 : decode cX0_liveLine 152 = .ok (.if_acmp .ne 7, 3) := by decide +kernel
theorem dX0_liveLine_155 : decode cX0_liveLine 155 = .ok (.iconst 1, 1) := by decide +kernel
theorem dX0_liveLine_156 : decode cX0_liveLine 156 = .ok (.goto 4, 3) := by decide +kernel
theorem dX0_liveLine_160 : decode cX0_liveLine 160 = .ok (.invokevirtual 150, 3) := by decide +kernel
theorem dX0_liveLine_163 : decode cX0_liveLine 163 = .ok (.invokestatic 136, 3) := by decide +kernel
theorem dX0_liveLine_166 : decode cX0_liveLine 166 = .ok (.ireturn, 1) := by decide +kernel
theorem dX0_liveLine_175 : decode cX0_liveLine 175 = .ok (.bipush 40, 2) := by decide +kernel
theorem dX0_liveLine_177 : decode cX0_liveLine 177 = .ok (.aload_n 2, 1) := by decide +kernel
theorem dX0_liveLine_178 : decode cX0_liveLine 178 = .ok (.aload_n 0, 1) := by decide +kernel
theorem dX0_liveLine_179 : decode cX0_liveLine 179 = .ok (.getfield 17, 3) := by decide +kernel
theorem dX0_liveLine_182 : decode cX0_liveLine 182 = .ok (.iload_n 1, 1) := by decide +kernel
theorem dX0_liveLine_183 : decode cX0_liveLine 183 = .ok (.iaload, 1) := by decide +kernel
theorem dX0_liveLine_184 : decode cX0_liveLine 184 = .ok (.aload_n 0, 1) := by decide +kernel
theorem dX0_liveLine_185 : decode cX0_liveLine 185 = .ok (.getfield 21, 3) := by decide +kernel
theorem dX0_liveLine_188 : decode cX0_liveLine 188 = .ok (.iload_n 1, 1) := by decide +kernel
theorem dX0_liveLine_189 : decode cX0_liveLine 189 = .ok (.iaload, 1) := by decide +kernel
theorem dX0_liveLine_190 : decode cX0_liveLine 190 = .ok (.aload_n 0, 1) := by decide +kernel
theorem dX0_liveLine_191 : decode cX0_liveLine 191 = .ok (.getfield 24, 3) := by decide +kernel
theorem dX0_liveLine_194 : decode cX0_liveLine 194 = .ok (.iload_n 1, 1) := by decide +kernel
theorem dX0_liveLine_195 : decode cX0_liveLine 195 = .ok (.iaload, 1) := by decide +kernel
theorem dX0_liveLine_196 : decode cX0_liveLine 196 = .ok (.aload_n 0, 1) := by decide +kernel
theorem dX0_liveLine_197 : decode cX0_liveLine 197 = .ok (.getfield 27, 3) := by decide +kernel
theorem dX0_liveLine_200 : decode cX0_liveLine 200 = .ok (.iload_n 1, 1) := by decide +kernel
theorem dX0_liveLine_201 : decode cX0_liveLine 201 = .ok (.iaload, 1) := by decide +kernel
theorem dX0_liveLine_202 : decode cX0_liveLine 202 = .ok (.invokevirtual 154, 3) := by decide +kernel
theorem dX0_liveLine_205 : decode cX0_liveLine 205 = .ok (.invokestatic 136, 3) := by decide +kernel
theorem dX0_liveLine_208 : decode cX0_liveLine 208 = .ok (.ireturn, 1) := by decide +kernel
theorem dX0_liveLine_159 : decode cX0_liveLine 159 = .ok (.iconst 0, 1) := by decide +kernel
theorem dX0_liveLine_106 : decode cX0_liveLine 106 = .ok (.bipush 20, 2) := by decide +kernel
theorem dX0_liveLine_108 : decode cX0_liveLine 108 = .ok (.aload_n 2, 1) := by decide +kernel
theorem dX0_liveLine_109 : decode cX0_liveLine 109 = .ok (.aload_n 0, 1) := by decide +kernel
theorem dX0_liveLine_110 : decode cX0_liveLine 110 = .ok (.getfield 17, 3) := by decide +kernel
theorem dX0_liveLine_113 : decode cX0_liveLine 113 = .ok (.iload_n 1, 1) := by decide +kernel
theorem dX0_liveLine_114 : decode cX0_liveLine 114 = .ok (.iaload, 1) := by decide +kernel
theorem dX0_liveLine_115 : decode cX0_liveLine 115 = .ok (.invokevirtual 147, 3) := by decide +kernel
theorem dX0_liveLine_118 : decode cX0_liveLine 118 = .ok (.invokestatic 136, 3) := by decide +kernel
theorem dX0_liveLine_121 : decode cX0_liveLine 121 = .ok (.ireturn, 1) := by decide +kernel
theorem dX0_liveLine_87 : decode cX0_liveLine 87 = .ok (.aload_n 2, 1) := by decide +kernel
theorem dX0_liveLine_88 : decode cX0_liveLine 88 = .ok (.aload_n 0, 1) := by decide +kernel
theorem dX0_liveLine_89 : decode cX0_liveLine 89 = .ok (.getfield 21, 3) := by decide +kernel
theorem dX0_liveLine_92 : decode cX0_liveLine 92 = .ok (.iload_n 1, 1) := by decide +kernel
theorem dX0_liveLine_93 : decode cX0_liveLine 93 = .ok (.iaload, 1) := by decide +kernel
theorem dX0_liveLine_94 : decode cX0_liveLine 94 = .ok (.invokevirtual 143, 3) := by decide +kernel
theorem dX0_liveLine_97 : decode cX0_liveLine 97 = .ok (.ireturn, 1) := by decide +kernel
theorem dX0_liveLine_51 : decode cX0_liveLine 51 = .ok (.bipush 10, 2) := by decide +kernel
theorem dX0_liveLine_53 : decode cX0_liveLine 53 = .ok (.aload_n 2, 1) := by decide +kernel
theorem dX0_liveLine_54 : decode cX0_liveLine 54 = .ok (.aload_n 0, 1) := by decide +kernel
theorem dX0_liveLine_55 : decode cX0_liveLine 55 = .ok (.getfield 21, 3) := by decide +kernel
theorem dX0_liveLine_58 : decode cX0_liveLine 58 = .ok (.iload_n 1, 1) := by decide +kernel
theorem dX0_liveLine_59 : decode cX0_liveLine 59 = .ok (.iaload, 1) := by decide +kernel
theorem dX0_liveLine_60 : decode cX0_liveLine 60 = .ok (.aload_n 0, 1) := by decide +kernel
theorem dX0_liveLine_61 : decode cX0_liveLine 61 = .ok (.getfield 24, 3) := by decide +kernel
theorem dX0_liveLine_64 : decode cX0_liveLine 64 = .ok (.iload_n 1, 1) := by decide +kernel
theorem dX0_liveLine_65 : decode cX0_liveLine 65 = .ok (.iaload, 1) := by decide +kernel
theorem dX0_liveLine_66 : decode cX0_liveLine 66 = .ok (.aload_n 0, 1) := by decide +kernel
theorem dX0_liveLine_67 : decode cX0_liveLine 67 = .ok (.getfield 27, 3) := by decide +kernel
theorem dX0_liveLine_70 : decode cX0_liveLine 70 = .ok (.iload_n 1, 1) := by decide +kernel
theorem dX0_liveLine_71 : decode cX0_liveLine 71 = .ok (.iaload, 1) := by decide +kernel
theorem dX0_liveLine_72 : decode cX0_liveLine 72 = .ok (.invokevirtual 140, 3) := by decide +kernel
theorem dX0_liveLine_75 : decode cX0_liveLine 75 = .ok (.invokestatic 136, 3) := by decide +kernel
theorem dX0_liveLine_78 : decode cX0_liveLine 78 = .ok (.ireturn, 1) := by decide +kernel
theorem dX0_liveLine_16 : decode cX0_liveLine 16 = .ok (.iconst 0, 1) := by decide +kernel
theorem dX0_liveLine_17 : decode cX0_liveLine 17 = .ok (.aload_n 2, 1) := by decide +kernel
theorem dX0_liveLine_18 : decode cX0_liveLine 18 = .ok (.aload_n 0, 1) := by decide +kernel
theorem dX0_liveLine_19 : decode cX0_liveLine 19 = .ok (.getfield 21, 3) := by decide +kernel
theorem dX0_liveLine_22 : decode cX0_liveLine 22 = .ok (.iload_n 1, 1) := by decide +kernel
theorem dX0_liveLine_23 : decode cX0_liveLine 23 = .ok (.iaload, 1) := by decide +kernel
theorem dX0_liveLine_24 : decode cX0_liveLine 24 = .ok (.aload_n 0, 1) := by decide +kernel
theorem dX0_liveLine_25 : decode cX0_liveLine 25 = .ok (.getfield 24, 3) := by decide +kernel
theorem dX0_liveLine_28 : decode cX0_liveLine 28 = .ok (.iload_n 1, 1) := by decide +kernel
