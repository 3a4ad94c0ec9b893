theorem dX9_isFirst_62 : decode cX9_isFirst 62 = .ok (.invokevirtual 96, 3) := by decide +kernel
theorem dX9_isFirst_65 : decode cX9_isFirst 65 = .ok (.ifCond .eq 5, 3) := by decide +kernel
theorem dX9_isFirst_68 : decode cX9_isFirst 68 = .ok (.iconst 0, 1) := by decide +kernel
theorem dX9_isFirst_69 : decode cX9_isFirst 69 = .ok (.ireturn, 1) := by decide +kernel
theorem dX9_isFirst_19 : decode cX9_isFirst 19 = .ok (.iconst 0, 1) := by decide +kernel
theorem dX9_isFirst_20 : decode cX9_isFirst 20 = .ok (.ireturn, 1) := by decide +kernel
theorem dX9_mayReach_0 : decode cX9_mayReach 0 = .ok (.aload_n 0, 1) := by decide +kernel
theorem dX9_mayReach_1 : decode cX9_mayReach 1 = .ok (.getfield 21, 3) := by decide +kernel
theorem dX9_mayReach_4 : decode cX9_mayReach 4 = .ok (.iload_n 2, 1) := by decide +kernel
theorem dX9_mayReach_5 : decode cX9_mayReach 5 = .ok (.aaload, 1) := by decide +kernel
theorem dX9_mayReach_6 : decode cX9_mayReach 6 = .ok (.getfield 25, 3) := by decide +kernel
theorem dX9_mayReach_9 : decode cX9_mayReach 9 = .ok (.istore 4, 2) := by decide +kernel
theorem dX9_mayReach_11 : decode cX9_mayReach 11 = .ok (.aload_n 0, 1) := by decide +kernel
theorem dX9_mayReach_12 : decode cX9_mayReach 12 = .ok (.getfield 87, 3) := by decide +kernel
theorem dX9_mayReach_15 : decode cX9_mayReach 15 = .ok (.iload_n 1, 1) := by decide +kernel
theorem dX9_mayReach_16 : decode cX9_mayReach 16 = .ok (.aaload, 1) := by decide +kernel
theorem dX9_mayReach_17 : decode cX9_mayReach 17 = .ok (.astore 5, 2) := by decide +kernel
theorem dX9_mayReach_19 : decode cX9_mayReach 19 = .ok (.aload_n 0, 1) := by decide +kernel
theorem dX9_mayReach_20 : decode cX9_mayReach 20 = .ok (.getfield 21, 3) := by decide +kernel
theorem dX9_mayReach_23 : decode cX9_mayReach 23 = .ok (.aload 5, 2) := by decide +kernel
theorem dX9_mayReach_25 : decode cX9_mayReach 25 = .ok (.getfield 102, 3) := by decide +kernel
theorem dX9_mayReach_28 : decode cX9_mayReach 28 = .ok (.aaload, 1) := by decide +kernel
theorem dX9_mayReach_29 : decode cX9_mayReach 29 = .ok (.astore 6, 2) := by decide +kernel
theorem dX9_mayReach_31 : decode cX9_mayReach 31 = .ok (.aload_n 0, 1) := by decide +kernel
theorem dX9_mayReach_32 : decode cX9_mayReach 32 = .ok (.getfield 40, 3) := by decide +kernel
theorem dX9_mayReach_35 : decode cX9_mayReach 35 = .ok (.iload 4, 2) := by decide +kernel
theorem dX9_mayReach_37 : decode cX9_mayReach 37 = .ok (.baload, 1) := by decide +kernel
theorem dX9_mayReach_38 : decode cX9_mayReach 38 = .ok (.ifCond .ne 34, 3) := by decide +kernel
theorem dX9_mayReach_72 : decode cX9_mayReach 72 = .ok (.iconst 0, 1) := by decide +kernel
theorem dX9_mayReach_73 : decode cX9_mayReach 73 = .ok (.ireturn, 1) := by decide +kernel
theorem dX9_mayReach_41 : decode cX9_mayReach 41 = .ok (.aload 5, 2) := by decide +kernel
theorem dX9_mayReach_43 : decode cX9_mayReach 43 = .ok (.getfield 105, 3) := by decide +kernel
theorem dX9_mayReach_46 : decode cX9_mayReach 46 = .ok (.ifCond .ne 26, 3) := by decide +kernel
theorem dX9_mayReach_49 : decode cX9_mayReach 49 = .ok (.aload 6, 2) := by decide +kernel
theorem dX9_mayReach_51 : decode cX9_mayReach 51 = .ok (.getfield 30, 3) := by decide +kernel
theorem dX9_mayReach_54 : decode cX9_mayReach 54 = .ok (.ifCond .ne 18, 3) := by decide +kernel
theorem dX9_mayReach_57 : decode cX9_mayReach 57 = .ok (.aload 6, 2) := by decide +kernel
theorem dX9_mayReach_59 : decode cX9_mayReach 59 = .ok (.iload 4, 2) := by decide +kernel
theorem dX9_mayReach_61 : decode cX9_mayReach 61 = .ok (.iload_n 3, 1) := by decide +kernel
theorem dX9_mayReach_62 : decode cX9_mayReach 62 = .ok (.invokevirtual 96, 3) := by decide +kernel
theorem dX9_mayReach_65 : decode cX9_mayReach 65 = .ok (.ifCond .eq 7, 3) := by decide +kernel
theorem dX9_mayReach_68 : decode cX9_mayReach 68 = .ok (.iconst 1, 1) := by decide +kernel
theorem dX9_mayReach_69 : decode cX9_mayReach 69 = .ok (.goto 4, 3) := by decide +kernel
theorem dX9_perilsOf_0 : decode cX9_perilsOf 0 = .ok (.iconst 0, 1) := by decide +kernel
theorem dX9_perilsOf_1 : decode cX9_perilsOf 1 = .ok (.istore_n 2, 1) := by decide +kernel
theorem dX9_perilsOf_2 : decode cX9_perilsOf 2 = .ok (.iconst 0, 1) := by decide +kernel
theorem dX9_perilsOf_3 : decode cX9_perilsOf 3 = .ok (.istore_n 3, 1) := by decide +kernel
theorem dX9_perilsOf_4 : decode cX9_perilsOf 4 = .ok (.iload_n 3, 1) := by decide +kernel
theorem dX9_perilsOf_5 : decode cX9_perilsOf 5 = .ok (.bipush 24, 2) := by decide +kernel
theorem dX9_perilsOf_7 : decode cX9_perilsOf 7 = .ok (.if_icmp .ge 50, 3) := by decide +kernel
theorem dX9_perilsOf_57 : decode cX9_perilsOf 57 = .ok (.iload_n 2, 1) := by decide +kernel
theorem dX9_perilsOf_58 : decode cX9_perilsOf 58 = .ok (.ireturn, 1) := by decide +kernel
theorem dX9_perilsOf_10 : decode cX9_perilsOf 10 = .ok (.aload_n 0, 1) := by decide +kernel
theorem dX9_perilsOf_11 : decode cX9_perilsOf 11 = .ok (.iload_n 1, 1) := by decide +kernel
theorem dX9_perilsOf_12 : decode cX9_perilsOf 12 = .ok (.iload_n 3, 1) := by decide +kernel
theorem dX9_perilsOf_13 : decode cX9_perilsOf 13 = .ok (.invokestatic 58, 3) := by decide +kernel
theorem dX9_perilsOf_16 : decode cX9_perilsOf 16 = .ok (.ifCond .eq 35, 3) := by decide +kernel
theorem dX9_perilsOf_19 : decode cX9_perilsOf 19 = .ok (.iconst 0, 1) := by decide +kernel
theorem dX9_perilsOf_20 : decode cX9_perilsOf 20 = .ok (.istore 4, 2) := by decide +kernel
theorem dX9_perilsOf_22 : decode cX9_perilsOf 22 = .ok (.iload 4, 2) := by decide +kernel
theorem dX9_perilsOf_24 : decode cX9_perilsOf 24 = .ok (.aload_n 0, 1) := by decide +kernel
theorem dX9_perilsOf_25 : decode cX9_perilsOf 25 = .ok (.getfield 62, 3) := by decide +kernel
theorem dX9_perilsOf_28 : decode cX9_perilsOf 28 = .ok (.if_icmp .ge 23, 3) := by decide +kernel
theorem dX9_perilsOf_51 : decode cX9_perilsOf 51 = .ok (.iinc 3 1, 3) := by decide +kernel
theorem dX9_perilsOf_54 : decode cX9_perilsOf 54 = .ok (.goto (-50), 3) := by decide +kernel
theorem dX9_perilsOf_31 : decode cX9_perilsOf 31 = .ok (.aload_n 0, 1) := by decide +kernel
theorem dX9_perilsOf_32 : decode cX9_perilsOf 32 = .ok (.iload 4, 2) := by decide +kernel
theorem dX9_perilsOf_34 : decode cX9_perilsOf 34 = .ok (.iload_n 1, 1) := by decide +kernel
theorem dX9_perilsOf_35 : decode cX9_perilsOf 35 = .ok (.iload_n 3, 1) := by decide +kernel
theorem dX9_perilsOf_36 : decode cX9_perilsOf 36 = .ok (.invokestatic 65, 3) := by decide +kernel
theorem dX9_perilsOf_39 : decode cX9_perilsOf 39 = .ok (.ifCond .eq 6, 3) := by decide +kernel
theorem dX9_perilsOf_42 : decode cX9_perilsOf 42 = .ok (.iinc 2 1, 3) := by decide +kernel
theorem dX9_perilsOf_45 : decode cX9_perilsOf 45 = .ok (.iinc 4 1, 3) := by decide +kernel
theorem dX9_perilsOf_48 : decode cX9_perilsOf 48 = .ok (.goto (-26), 3) := by decide +kernel
theorem dX9_waysOfPerils_0 : decode cX9_waysOfPerils 0 = .ok (.lconst 1, 1) := by decide +kernel
theorem dX9_waysOfPerils_1 : decode cX9_waysOfPerils 1 = .ok (.lstore_n 2, 1) := by decide +kernel
theorem dX9_waysOfPerils_2 : decode cX9_waysOfPerils 2 = .ok (.aload_n 0, 1) := by decide +kernel
theorem dX9_waysOfPerils_3 : decode cX9_waysOfPerils 3 = .ok (.iload_n 1, 1) := by decide +kernel
theorem dX9_waysOfPerils_4 : decode cX9_waysOfPerils 4 = .ok (.invokestatic 69, 3) := by decide +kernel
theorem dX9_waysOfPerils_7 : decode cX9_waysOfPerils 7 = .ok (.bipush 8, 2) := by decide +kernel
theorem dX9_waysOfPerils_9 : decode cX9_waysOfPerils 9 = .ok (.invokestatic 73, 3) := by decide +kernel
theorem dX9_waysOfPerils_12 : decode cX9_waysOfPerils 12 = .ok (.istore 4, 2) := by decide +kernel
theorem dX9_waysOfPerils_14 : decode cX9_waysOfPerils 14 = .ok (.iconst 0, 1) := by decide +kernel
theorem dX9_waysOfPerils_15 : decode cX9_waysOfPerils 15 = .ok (.istore 5, 2) := by decide +kernel
theorem dX9_waysOfPerils_17 : decode cX9_waysOfPerils 17 = .ok (.iload 5, 2) := by decide +kernel
theorem dX9_waysOfPerils_19 : decode cX9_waysOfPerils 19 = .ok (.iload 4, 2) := by decide +kernel
theorem dX9_waysOfPerils_21 : decode cX9_waysOfPerils 21 = .ok (.if_icmp .ge 15, 3) := by decide +kernel
theorem dX9_waysOfPerils_36 : decode cX9_waysOfPerils 36 = .ok (.lload_n 2, 1) := by decide +kernel
theorem dX9_waysOfPerils_37 : decode cX9_waysOfPerils 37 = .ok (.lreturn, 1) := by decide +kernel
theorem dX9_waysOfPerils_24 : decode cX9_waysOfPerils 24 = .ok (.lload_n 2, 1) := by decide +kernel
theorem dX9_waysOfPerils_25 : decode cX9_waysOfPerils 25 = .ok (.ldc2_w 78, 3) := by decide +kernel
theorem dX9_waysOfPerils_28 : decode cX9_waysOfPerils 28 = .ok (.lmul, 1) := by decide +kernel
theorem dX9_waysOfPerils_29 : decode cX9_waysOfPerils 29 = .ok (.lstore_n 2, 1) := by decide +kernel
theorem dX9_waysOfPerils_30 : decode cX9_waysOfPerils 30 = .ok (.iinc 5 1, 3) := by decide +kernel
theorem dX9_waysOfPerils_33 : decode cX9_waysOfPerils 33 = .ok (.goto (-16), 3) := by decide +kernel
theorem dX9_waysUnharmed_0 : decode cX9_waysUnharmed 0 = .ok (.lconst 1, 1) := by decide +kernel
theorem dX9_waysUnharmed_1 : decode cX9_waysUnharmed 1 = .ok (.lstore_n 2, 1) := by decide +kernel
theorem dX9_waysUnharmed_2 : decode cX9_waysUnharmed 2 = .ok (.aload_n 0, 1) := by decide +kernel
theorem dX9_waysUnharmed_3 : decode cX9_waysUnharmed 3 = .ok (.getfield 21, 3) := by decide +kernel
theorem dX9_waysUnharmed_6 : decode cX9_waysUnharmed 6 = .ok (.iload_n 1, 1) := by decide +kernel
theorem dX9_waysUnharmed_7 : decode cX9_waysUnharmed 7 = .ok (.aaload, 1) := by decide +kernel
theorem dX9_waysUnharmed_8 : decode cX9_waysUnharmed 8 = .ok (.getfield 25, 3) := by decide +kernel
theorem dX9_waysUnharmed_11 : decode cX9_waysUnharmed 11 = .ok (.istore 4, 2) := by decide +kernel
theorem dX9_waysUnharmed_13 : decode cX9_waysUnharmed 13 = .ok (.iconst 0, 1) := by decide +kernel
theorem dX9_waysUnharmed_14 : decode cX9_waysUnharmed 14 = .ok (.istore 5, 2) := by decide +kernel
theorem dX9_waysUnharmed_16 : decode cX9_waysUnharmed 16 = .ok (.iload 5, 2) := by decide +kernel
theorem dX9_waysUnharmed_18 : decode cX9_waysUnharmed 18 = .ok (.bipush 24, 2) := by decide +kernel
theorem dX9_waysUnharmed_20 : decode cX9_waysUnharmed 20 = .ok (.if_icmp .ge 100, 3) := by decide +kernel
theorem dX9_waysUnharmed_120 : decode cX9_waysUnharmed 120 = .ok (.lload_n 2, 1) := by decide +kernel
theorem dX9_waysUnharmed_121 : decode cX9_waysUnharmed 121 = .ok (.lreturn, 1) := by decide +kernel
theorem dX9_waysUnharmed_23 : decode cX9_waysUnharmed 23 = .ok (.aload_n 0, 1) := by decide +kernel
theorem dX9_waysUnharmed_24 : decode cX9_waysUnharmed 24 = .ok (.getfield 80, 3) := by decide +kernel
theorem dX9_waysUnharmed_27 : decode cX9_waysUnharmed 27 = .ok (.iload 4, 2) := by decide +kernel
theorem dX9_waysUnharmed_29 : decode cX9_waysUnharmed 29 = .ok (.iaload, 1) := by decide +kernel
theorem dX9_waysUnharmed_30 : decode cX9_waysUnharmed 30 = .ok (.iload 5, 2) := by decide +kernel
theorem dX9_waysUnharmed_32 : decode cX9_waysUnharmed 32 = .ok (.ishr, 1) := by decide +kernel
theorem dX9_waysUnharmed_33 : decode cX9_waysUnharmed 33 = .ok (.iconst 1, 1) := by decide +kernel
theorem dX9_waysUnharmed_34 : decode cX9_waysUnharmed 34 = .ok (.iand, 1) := by decide +kernel
theorem dX9_waysUnharmed_35 : decode cX9_waysUnharmed 35 = .ok (.iconst 1, 1) := by decide +kernel
theorem dX9_waysUnharmed_36 : decode cX9_waysUnharmed 36 = .ok (.if_icmp .ne 8, 3) := by decide +kernel
theorem dX9_waysUnharmed_44 : decode cX9_waysUnharmed 44 = .ok (.aload_n 0, 1) := by decide +kernel
theorem dX9_waysUnharmed_45 : decode cX9_waysUnharmed 45 = .ok (.getfield 84, 3) := by decide +kernel
theorem dX9_waysUnharmed_48 : decode cX9_waysUnharmed 48 = .ok (.istore 6, 2) := by decide +kernel
theorem dX9_waysUnharmed_50 : decode cX9_waysUnharmed 50 = .ok (.aload_n 0, 1) := by decide +kernel
theorem dX9_waysUnharmed_51 : decode cX9_waysUnharmed 51 = .ok (.iload_n 1, 1) := by decide +kernel
theorem dX9_waysUnharmed_52 : decode cX9_waysUnharmed 52 = .ok (.iload 5, 2) := by decide +kernel
theorem dX9_waysUnharmed_54 : decode cX9_waysUnharmed 54 = .ok (.invokestatic 58, 3) := by decide +kernel
theorem dX9_waysUnharmed_57 : decode cX9_waysUnharmed 57 = .ok (.ifCond .eq 57, 3) := by decide +kernel
theorem dX9_waysUnharmed_60 : decode cX9_waysUnharmed 60 = .ok (.iconst 0, 1) := by decide +kernel
theorem dX9_waysUnharmed_61 : decode cX9_waysUnharmed 61 = .ok (.istore 7, 2) := by decide +kernel
theorem dX9_waysUnharmed_63 : decode cX9_waysUnharmed 63 = .ok (.iload 7, 2) := by decide +kernel
theorem dX9_waysUnharmed_65 : decode cX9_waysUnharmed 65 = .ok (.aload_n 0, 1) := by decide +kernel
theorem dX9_waysUnharmed_66 : decode cX9_waysUnharmed 66 = .ok (.getfield 62, 3) := by decide +kernel
theorem dX9_waysUnharmed_69 : decode cX9_waysUnharmed 69 = .ok (.if_icmp .ge 45, 3) := by decide +kernel
theorem dX9_waysUnharmed_114 : decode cX9_waysUnharmed 114 = .ok (.iinc 5 1, 3) := by decide +kernel
theorem dX9_waysUnharmed_117 : decode cX9_waysUnharmed 117 = .ok (.goto (-101), 3) := by decide +kernel
theorem dX9_waysUnharmed_72 : decode cX9_waysUnharmed 72 = .ok (.aload_n 0, 1) := by decide +kernel
theorem dX9_waysUnharmed_73 : decode cX9_waysUnharmed 73 = .ok (.iload 7, 2) := by decide +kernel
theorem dX9_waysUnharmed_75 : decode cX9_waysUnharmed 75 = .ok (.iload_n 1, 1) := by decide +kernel
theorem dX9_waysUnharmed_76 : decode cX9_waysUnharmed 76 = .ok (.iload 5, 2) := by decide +kernel
theorem dX9_waysUnharmed_78 : decode cX9_waysUnharmed 78 = .ok (.invokestatic 65, 3) := by decide +kernel
theorem dX9_waysUnharmed_81 : decode cX9_waysUnharmed 81 = .ok (.ifCond .eq 27, 3) := by decide +kernel
theorem dX9_waysUnharmed_84 : decode cX9_waysUnharmed 84 = .ok (.lload_n 2, 1) := by decide +kernel
theorem dX9_waysUnharmed_85 : decode cX9_waysUnharmed 85 = .ok (.sipush 144, 3) := by decide +kernel
theorem dX9_waysUnharmed_88 : decode cX9_waysUnharmed 88 = .ok (.iload 6, 2) := by decide +kernel
theorem dX9_waysUnharmed_90 : decode cX9_waysUnharmed 90 = .ok (.bipush 12, 2) := by decide +kernel
theorem dX9_waysUnharmed_92 : decode cX9_waysUnharmed 92 = .ok (.aload_n 0, 1) := by decide +kernel
theorem dX9_waysUnharmed_93 : decode cX9_waysUnharmed 93 = .ok (.getfield 87, 3) := by decide +kernel
theorem dX9_waysUnharmed_96 : decode cX9_waysUnharmed 96 = .ok (.iload 7, 2) := by decide +kernel
theorem dX9_waysUnharmed_98 : decode cX9_waysUnharmed 98 = .ok (.aaload, 1) := by decide +kernel
theorem dX9_waysUnharmed_99 : decode cX9_waysUnharmed 99 = .ok (.getfield 91, 3) := by decide +kernel
theorem dX9_waysUnharmed_102 : decode cX9_waysUnharmed 102 = .ok (.isub, 1) := by decide +kernel
theorem dX9_waysUnharmed_103 : decode cX9_waysUnharmed 103 = .ok (.imul, 1) := by decide +kernel
theorem dX9_waysUnharmed_104 : decode cX9_waysUnharmed 104 = .ok (.isub, 1) := by decide +kernel
theorem dX9_waysUnharmed_105 : decode cX9_waysUnharmed 105 = .ok (.i2l, 1) := by decide +kernel
theorem dX9_waysUnharmed_106 : decode cX9_waysUnharmed 106 = .ok (.lmul, 1) := by decide +kernel
theorem dX9_waysUnharmed_107 : decode cX9_waysUnharmed 107 = .ok (.lstore_n 2, 1) := by decide +kernel
theorem dX9_waysUnharmed_108 : decode cX9_waysUnharmed 108 = .ok (.iinc 7 1, 3) := by decide +kernel
theorem dX9_waysUnharmed_111 : decode cX9_waysUnharmed 111 = .ok (.goto (-48), 3) := by decide +kernel
theorem dX9_waysUnharmed_39 : decode cX9_waysUnharmed 39 = .ok (.bipush 12, 2) := by decide +kernel
theorem dX9_waysUnharmed_41 : decode cX9_waysUnharmed 41 = .ok (.goto 7, 3) := by decide +kernel
