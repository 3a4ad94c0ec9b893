theorem dX7_clear_0 : decode cX7_clear 0 = .ok (.aload_n 0, 1) := by decide +kernel
theorem dX7_clear_1 : decode cX7_clear 1 = .ok (.iconst 0, 1) := by decide +kernel
theorem dX7_clear_2 : decode cX7_clear 2 = .ok (.putfield 24, 3) := by decide +kernel
theorem dX7_clear_5 : decode cX7_clear 5 = .ok (.aload_n 0, 1) := by decide +kernel
theorem dX7_clear_6 : decode cX7_clear 6 = .ok (.iconst 0, 1) := by decide +kernel
theorem dX7_clear_7 : decode cX7_clear 7 = .ok (.putfield 28, 3) := by decide +kernel
theorem dX7_clear_10 : decode cX7_clear 10 = .ok (.return_, 1) := by decide +kernel
theorem dX7_add_0 : decode cX7_add 0 = .ok (.aload_n 0, 1) := by decide +kernel
theorem dX7_add_1 : decode cX7_add 1 = .ok (.getfield 24, 3) := by decide +kernel
theorem dX7_add_4 : decode cX7_add 4 = .ok (.bipush 40, 2) := by decide +kernel
theorem dX7_add_6 : decode cX7_add 6 = .ok (.if_icmp .ge 43, 3) := by decide +kernel
theorem dX7_add_49 : decode cX7_add 49 = .ok (.return_, 1) := by decide +kernel
theorem dX7_add_9 : decode cX7_add 9 = .ok (.aload_n 0, 1) := by decide +kernel
theorem dX7_add_10 : decode cX7_add 10 = .ok (.getfield 13, 3) := by decide +kernel
theorem dX7_add_13 : decode cX7_add 13 = .ok (.aload_n 0, 1) := by decide +kernel
theorem dX7_add_14 : decode cX7_add 14 = .ok (.getfield 24, 3) := by decide +kernel
theorem dX7_add_17 : decode cX7_add 17 = .ok (.aload_n 1, 1) := by decide +kernel
theorem dX7_add_18 : decode cX7_add 18 = .ok (.aastore, 1) := by decide +kernel
theorem dX7_add_19 : decode cX7_add 19 = .ok (.aload_n 0, 1) := by decide +kernel
theorem dX7_add_20 : decode cX7_add 20 = .ok (.getfield 17, 3) := by decide +kernel
theorem dX7_add_23 : decode cX7_add 23 = .ok (.aload_n 0, 1) := by decide +kernel
theorem dX7_add_24 : decode cX7_add 24 = .ok (.getfield 24, 3) := by decide +kernel
theorem dX7_add_27 : decode cX7_add 27 = .ok (.iload_n 2, 1) := by decide +kernel
theorem dX7_add_28 : decode cX7_add 28 = .ok (.iastore, 1) := by decide +kernel
theorem dX7_add_29 : decode cX7_add 29 = .ok (.aload_n 0, 1) := by decide +kernel
theorem dX7_add_30 : decode cX7_add 30 = .ok (.getfield 21, 3) := by decide +kernel
theorem dX7_add_33 : decode cX7_add 33 = .ok (.aload_n 0, 1) := by decide +kernel
theorem dX7_add_34 : decode cX7_add 34 = .ok (.getfield 24, 3) := by decide +kernel
theorem dX7_add_37 : decode cX7_add 37 = .ok (.iload_n 3, 1) := by decide +kernel
theorem dX7_add_38 : decode cX7_add 38 = .ok (.iastore, 1) := by decide +kernel
theorem dX7_add_39 : decode cX7_add 39 = .ok (.aload_n 0, 1) := by decide +kernel
theorem dX7_add_40 : decode cX7_add 40 = .ok (.dup, 1) := by decide +kernel
theorem dX7_add_41 : decode cX7_add 41 = .ok (.getfield 24, 3) := by decide +kernel
theorem dX7_add_44 : decode cX7_add 44 = .ok (.iconst 1, 1) := by decide +kernel
theorem dX7_add_45 : decode cX7_add 45 = .ok (.iadd, 1) := by decide +kernel
theorem dX7_add_46 : decode cX7_add 46 = .ok (.putfield 24, 3) := by decide +kernel
theorem dX7_beginsOne_0 : decode cX7_beginsOne 0 = .ok (.aload_n 0, 1) := by decide +kernel
theorem dX7_beginsOne_1 : decode cX7_beginsOne 1 = .ok (.getstatic 74, 3) := by decide +kernel
theorem dX7_beginsOne_4 : decode cX7_beginsOne 4 = .ok (.if_acmp .eq 59, 3) := by decide +kernel
theorem dX7_beginsOne_63 : decode cX7_beginsOne 63 = .ok (.iconst 1, 1) := by decide +kernel
theorem dX7_beginsOne_64 : decode cX7_beginsOne 64 = .ok (.goto 4, 3) := by decide +kernel
theorem dX7_beginsOne_68 : decode cX7_beginsOne 68 = .ok (.ireturn, 1) := by decide +kernel
theorem dX7_beginsOne_7 : decode cX7_beginsOne 7 = .ok (.aload_n 0, 1) := by decide +kernel
theorem dX7_beginsOne_8 : decode cX7_beginsOne 8 = .ok (.getstatic 81, 3) := by decide +kernel
theorem dX7_beginsOne_11 : decode cX7_beginsOne 11 = .ok (.if_acmp .eq 52, 3) := by decide +kernel
theorem dX7_beginsOne_14 : decode cX7_beginsOne 14 = .ok (.aload_n 0, 1) := by decide +kernel
theorem dX7_beginsOne_15 : decode cX7_beginsOne 15 = .ok (.getstatic 84, 3) := by decide +kernel
theorem dX7_beginsOne_18 : decode cX7_beginsOne 18 = .ok (.if_acmp .eq 45, 3) := by decide +kernel
theorem dX7_beginsOne_21 : decode cX7_beginsOne 21 = .ok (.aload_n 0, 1) := by decide +kernel
theorem dX7_beginsOne_22 : decode cX7_beginsOne 22 = .ok (.getstatic 87, 3) := by decide +kernel
theorem dX7_beginsOne_25 : decode cX7_beginsOne 25 = .ok (.if_acmp .eq 38, 3) := by decide +kernel
theorem dX7_beginsOne_28 : decode cX7_beginsOne 28 = .ok (.aload_n 0, 1) := by decide +kernel
theorem dX7_beginsOne_29 : decode cX7_beginsOne 29 = .ok (.getstatic 90, 3) := by decide +kernel
theorem dX7_beginsOne_32 : decode cX7_beginsOne 32 = .ok (.if_acmp .eq 31, 3) := by decide +kernel
theorem dX7_beginsOne_35 : decode cX7_beginsOne 35 = .ok (.aload_n 0, 1) := by decide +kernel
theorem dX7_beginsOne_36 : decode cX7_beginsOne 36 = .ok (.getstatic 107, 3) := by decide +kernel
theorem dX7_beginsOne_39 : decode cX7_beginsOne 39 = .ok (.if_acmp .eq 24, 3) := by decide +kernel
theorem dX7_beginsOne_42 : decode cX7_beginsOne 42 = .ok (.aload_n 0, 1) := by decide +kernel
theorem dX7_beginsOne_43 : decode cX7_beginsOne 43 = .ok (.getstatic 110, 3) := by decide +kernel
theorem dX7_beginsOne_46 : decode cX7_beginsOne 46 = .ok (.if_acmp .eq 17, 3) := by decide +kernel
theorem dX7_beginsOne_49 : decode cX7_beginsOne 49 = .ok (.aload_n 0, 1) := by decide +kernel
theorem dX7_beginsOne_50 : decode cX7_beginsOne 50 = .ok (.getstatic 113, 3) := by decide +kernel
theorem dX7_beginsOne_53 : decode cX7_beginsOne 53 = .ok (.if_acmp .eq 10, 3) := by decide +kernel
theorem dX7_beginsOne_56 : decode cX7_beginsOne 56 = .ok (.aload_n 0, 1) := by decide +kernel
theorem dX7_beginsOne_57 : decode cX7_beginsOne 57 = .ok (.getstatic 116, 3) := by decide +kernel
theorem dX7_beginsOne_60 : decode cX7_beginsOne 60 = .ok (.if_acmp .ne 7, 3) := by decide +kernel
theorem dX7_beginsOne_67 : decode cX7_beginsOne 67 = .ok (.iconst 0, 1) := by decide +kernel
theorem dX7_readPlain_0 : decode cX7_readPlain 0 = .ok (.aload_n 3, 1) := by decide +kernel
theorem dX7_readPlain_1 : decode cX7_readPlain 1 = .ok (.getstatic 81, 3) := by decide +kernel
theorem dX7_readPlain_4 : decode cX7_readPlain 4 = .ok (.if_acmp .eq 10, 3) := by decide +kernel
theorem dX7_readPlain_14 : decode cX7_readPlain 14 = .ok (.aload_n 0, 1) := by decide +kernel
theorem dX7_readPlain_15 : decode cX7_readPlain 15 = .ok (.aload_n 3, 1) := by decide +kernel
theorem dX7_readPlain_16 : decode cX7_readPlain 16 = .ok (.iconst 0, 1) := by decide +kernel
theorem dX7_readPlain_17 : decode cX7_readPlain 17 = .ok (.iconst 0, 1) := by decide +kernel
theorem dX7_readPlain_18 : decode cX7_readPlain 18 = .ok (.invokevirtual 47, 3) := by decide +kernel
theorem dX7_readPlain_21 : decode cX7_readPlain 21 = .ok (.iconst 1, 1) := by decide +kernel
theorem dX7_readPlain_22 : decode cX7_readPlain 22 = .ok (.ireturn, 1) := by decide +kernel
theorem dX7_readPlain_7 : decode cX7_readPlain 7 = .ok (.aload_n 3, 1) := by decide +kernel
theorem dX7_readPlain_8 : decode cX7_readPlain 8 = .ok (.getstatic 84, 3) := by decide +kernel
theorem dX7_readPlain_11 : decode cX7_readPlain 11 = .ok (.if_acmp .ne 12, 3) := by decide +kernel
theorem dX7_readPlain_23 : decode cX7_readPlain 23 = .ok (.aload_n 3, 1) := by decide +kernel
theorem dX7_readPlain_24 : decode cX7_readPlain 24 = .ok (.getstatic 87, 3) := by decide +kernel
theorem dX7_readPlain_27 : decode cX7_readPlain 27 = .ok (.if_acmp .eq 10, 3) := by decide +kernel
theorem dX7_readPlain_37 : decode cX7_readPlain 37 = .ok (.aload_n 1, 1) := by decide +kernel
theorem dX7_readPlain_38 : decode cX7_readPlain 38 = .ok (.aload_n 2, 1) := by decide +kernel
theorem dX7_readPlain_39 : decode cX7_readPlain 39 = .ok (.aload_n 3, 1) := by decide +kernel
theorem dX7_readPlain_40 : decode cX7_readPlain 40 = .ok (.getstatic 90, 3) := by decide +kernel
theorem dX7_readPlain_43 : decode cX7_readPlain 43 = .ok (.if_acmp .ne 7, 3) := by decide +kernel
theorem dX7_readPlain_50 : decode cX7_readPlain 50 = .ok (.iconst 1, 1) := by decide +kernel
theorem dX7_readPlain_51 : decode cX7_readPlain 51 = .ok (.invokevirtual 93, 3) := by decide +kernel
theorem dX7_readPlain_54 : decode cX7_readPlain 54 = .ok (.istore 4, 2) := by decide +kernel
theorem dX7_readPlain_56 : decode cX7_readPlain 56 = .ok (.aload_n 0, 1) := by decide +kernel
theorem dX7_readPlain_57 : decode cX7_readPlain 57 = .ok (.aload_n 3, 1) := by decide +kernel
theorem dX7_readPlain_58 : decode cX7_readPlain 58 = .ok (.iconst 0, 1) := by decide +kernel
theorem dX7_readPlain_59 : decode cX7_readPlain 59 = .ok (.aload_n 1, 1) := by decide +kernel
theorem dX7_readPlain_60 : decode cX7_readPlain 60 = .ok (.getfield 97, 3) := by decide +kernel
theorem dX7_readPlain_63 : decode cX7_readPlain 63 = .ok (.invokevirtual 47, 3) := by decide +kernel
theorem dX7_readPlain_66 : decode cX7_readPlain 66 = .ok (.iload 4, 2) := by decide +kernel
theorem dX7_readPlain_68 : decode cX7_readPlain 68 = .ok (.ireturn, 1) := by decide +kernel
theorem dX7_readPlain_30 : decode cX7_readPlain 30 = .ok (.aload_n 3, 1) := by decide +kernel
theorem dX7_readPlain_31 : decode cX7_readPlain 31 = .ok (.getstatic 90, 3) := by decide +kernel
theorem dX7_readPlain_34 : decode cX7_readPlain 34 = .ok (.if_acmp .ne 35, 3) := by decide +kernel
theorem dX7_readPlain_69 : decode cX7_readPlain 69 = .ok (.aload_n 1, 1) := by decide +kernel
theorem dX7_readPlain_70 : decode cX7_readPlain 70 = .ok (.getfield 100, 3) := by decide +kernel
theorem dX7_readPlain_73 : decode cX7_readPlain 73 = .ok (.istore 4, 2) := by decide +kernel
theorem dX7_readPlain_75 : decode cX7_readPlain 75 = .ok (.aload_n 1, 1) := by decide +kernel
theorem dX7_readPlain_76 : decode cX7_readPlain 76 = .ok (.bipush 60, 2) := by decide +kernel
theorem dX7_readPlain_78 : decode cX7_readPlain 78 = .ok (.invokevirtual 61, 3) := by decide +kernel
theorem dX7_readPlain_81 : decode cX7_readPlain 81 = .ok (.ifCond .ne 27, 3) := by decide +kernel
theorem dX7_readPlain_108 : decode cX7_readPlain 108 = .ok (.aload_n 1, 1) := by decide +kernel
theorem dX7_readPlain_109 : decode cX7_readPlain 109 = .ok (.invokevirtual 44, 3) := by decide +kernel
theorem dX7_readPlain_112 : decode cX7_readPlain 112 = .ok (.aload_n 1, 1) := by decide +kernel
theorem dX7_readPlain_113 : decode cX7_readPlain 113 = .ok (.iconst 0, 1) := by decide +kernel
theorem dX7_readPlain_114 : decode cX7_readPlain 114 = .ok (.sipush 999, 3) := by decide +kernel
theorem dX7_readPlain_117 : decode cX7_readPlain 117 = .ok (.invokevirtual 103, 3) := by decide +kernel
theorem dX7_readPlain_120 : decode cX7_readPlain 120 = .ok (.istore 5, 2) := by decide +kernel
theorem dX7_readPlain_122 : decode cX7_readPlain 122 = .ok (.aload_n 0, 1) := by decide +kernel
theorem dX7_readPlain_123 : decode cX7_readPlain 123 = .ok (.aload_n 3, 1) := by decide +kernel
theorem dX7_readPlain_124 : decode cX7_readPlain 124 = .ok (.iload 4, 2) := by decide +kernel
theorem dX7_readPlain_126 : decode cX7_readPlain 126 = .ok (.aload_n 1, 1) := by decide +kernel
theorem dX7_readPlain_127 : decode cX7_readPlain 127 = .ok (.getfield 97, 3) := by decide +kernel
theorem dX7_readPlain_130 : decode cX7_readPlain 130 = .ok (.invokevirtual 47, 3) := by decide +kernel
theorem dX7_readPlain_133 : decode cX7_readPlain 133 = .ok (.iload 5, 2) := by decide +kernel
theorem dX7_readPlain_135 : decode cX7_readPlain 135 = .ok (.ireturn, 1) := by decide +kernel
theorem dX7_readPlain_84 : decode cX7_readPlain 84 = .ok (.aload_n 1, 1) := by decide +kernel
theorem dX7_readPlain_85 : decode cX7_readPlain 85 = .ok (.bipush 61, 2) := by decide +kernel
theorem dX7_readPlain_87 : decode cX7_readPlain 87 = .ok (.invokevirtual 61, 3) := by decide +kernel
theorem dX7_readPlain_90 : decode cX7_readPlain 90 = .ok (.ifCond .ne 18, 3) := by decide +kernel
theorem dX7_readPlain_93 : decode cX7_readPlain 93 = .ok (.aload_n 1, 1) := by decide +kernel
theorem dX7_readPlain_94 : decode cX7_readPlain 94 = .ok (.bipush 62, 2) := by decide +kernel
theorem dX7_readPlain_96 : decode cX7_readPlain 96 = .ok (.invokevirtual 61, 3) := by decide +kernel
theorem dX7_readPlain_99 : decode cX7_readPlain 99 = .ok (.ifCond .ne 9, 3) := by decide +kernel
theorem dX7_readPlain_102 : decode cX7_readPlain 102 = .ok (.aload_n 1, 1) := by decide +kernel
theorem dX7_readPlain_103 : decode cX7_readPlain 103 = .ok (.iconst 1, 1) := by decide +kernel
theorem dX7_readPlain_104 : decode cX7_readPlain 104 = .ok (.invokevirtual 57, 3) := by decide +kernel
theorem dX7_readPlain_107 : decode cX7_readPlain 107 = .ok (.ireturn, 1) := by decide +kernel
theorem dX7_readPlain_46 : decode cX7_readPlain 46 = .ok (.iconst 0, 1) := by decide +kernel
theorem dX7_readPlain_47 : decode cX7_readPlain 47 = .ok (.goto 4, 3) := by decide +kernel
theorem dX7_copyFrom_0 : decode cX7_copyFrom 0 = .ok (.aload_n 0, 1) := by decide +kernel
theorem dX7_copyFrom_1 : decode cX7_copyFrom 1 = .ok (.aload_n 1, 1) := by decide +kernel
theorem dX7_copyFrom_2 : decode cX7_copyFrom 2 = .ok (.getfield 24, 3) := by decide +kernel
theorem dX7_copyFrom_5 : decode cX7_copyFrom 5 = .ok (.putfield 24, 3) := by decide +kernel
theorem dX7_copyFrom_8 : decode cX7_copyFrom 8 = .ok (.aload_n 0, 1) := by decide +kernel
theorem dX7_copyFrom_9 : decode cX7_copyFrom 9 = .ok (.aload_n 1, 1) := by decide +kernel
theorem dX7_copyFrom_10 : decode cX7_copyFrom 10 = .ok (.getfield 28, 3) := by decide +kernel
theorem dX7_copyFrom_13 : decode cX7_copyFrom 13 = .ok (.putfield 28, 3) := by decide +kernel
theorem dX7_copyFrom_16 : decode cX7_copyFrom 16 = .ok (.iconst 0, 1) := by decide +kernel
theorem dX7_copyFrom_17 : decode cX7_copyFrom 17 = .ok (.istore_n 2, 1) := by decide +kernel
theorem dX7_copyFrom_18 : decode cX7_copyFrom 18 = .ok (.iload_n 2, 1) := by decide +kernel
theorem dX7_copyFrom_19 : decode cX7_copyFrom 19 = .ok (.aload_n 0, 1) := by decide +kernel
theorem dX7_copyFrom_20 : decode cX7_copyFrom 20 = .ok (.getfield 24, 3) := by decide +kernel
theorem dX7_copyFrom_23 : decode cX7_copyFrom 23 = .ok (.if_icmp .ge 45, 3) := by decide +kernel
theorem dX7_copyFrom_68 : decode cX7_copyFrom 68 = .ok (.return_, 1) := by decide +kernel
theorem dX7_copyFrom_26 : decode cX7_copyFrom 26 = .ok (.aload_n 0, 1) := by decide +kernel
theorem dX7_copyFrom_27 : decode cX7_copyFrom 27 = .ok (.getfield 13, 3) := by decide +kernel
theorem dX7_copyFrom_30 : decode cX7_copyFrom 30 = .ok (.iload_n 2, 1) := by decide +kernel
theorem dX7_copyFrom_31 : decode cX7_copyFrom 31 = .ok (.aload_n 1, 1) := by decide +kernel
theorem dX7_copyFrom_32 : decode cX7_copyFrom 32 = .ok (.getfield 13, 3) := by decide +kernel
theorem dX7_copyFrom_35 : decode cX7_copyFrom 35 = .ok (.iload_n 2, 1) := by decide +kernel
theorem dX7_copyFrom_36 : decode cX7_copyFrom 36 = .ok (.aaload, 1) := by decide +kernel
theorem dX7_copyFrom_37 : decode cX7_copyFrom 37 = .ok (.aastore, 1) := by decide +kernel
theorem dX7_copyFrom_38 : decode cX7_copyFrom 38 = .ok (.aload_n 0, 1) := by decide +kernel
theorem dX7_copyFrom_39 : decode cX7_copyFrom 39 = .ok (.getfield 17, 3) := by decide +kernel
theorem dX7_copyFrom_42 : decode cX7_copyFrom 42 = .ok (.iload_n 2, 1) := by decide +kernel
theorem dX7_copyFrom_43 : decode cX7_copyFrom 43 = .ok (.aload_n 1, 1) := by decide +kernel
theorem dX7_copyFrom_44 : decode cX7_copyFrom 44 = .ok (.getfield 17, 3) := by decide +kernel
theorem dX7_copyFrom_47 : decode cX7_copyFrom 47 = .ok (.iload_n 2, 1) := by decide +kernel
theorem dX7_copyFrom_48 : decode cX7_copyFrom 48 = .ok (.iaload, 1) := by decide +kernel
theorem dX7_copyFrom_49 : decode cX7_copyFrom 49 = .ok (.iastore, 1) := by decide +kernel
theorem dX7_copyFrom_50 : decode cX7_copyFrom 50 = .ok (.aload_n 0, 1) := by decide +kernel
theorem dX7_copyFrom_51 : decode cX7_copyFrom 51 = .ok (.getfield 21, 3) := by decide +kernel
theorem dX7_copyFrom_54 : decode cX7_copyFrom 54 = .ok (.iload_n 2, 1) := by decide +kernel
theorem dX7_copyFrom_55 : decode cX7_copyFrom 55 = .ok (.aload_n 1, 1) := by decide +kernel
theorem dX7_copyFrom_56 : decode cX7_copyFrom 56 = .ok (.getfield 21, 3) := by decide +kernel
theorem dX7_copyFrom_59 : decode cX7_copyFrom 59 = .ok (.iload_n 2, 1) := by decide +kernel
theorem dX7_copyFrom_60 : decode cX7_copyFrom 60 = .ok (.iaload, 1) := by decide +kernel
theorem dX7_copyFrom_61 : decode cX7_copyFrom 61 = .ok (.iastore, 1) := by decide +kernel
theorem dX7_copyFrom_62 : decode cX7_copyFrom 62 = .ok (.iinc 2 1, 3) := by decide +kernel
theorem dX7_copyFrom_65 : decode cX7_copyFrom 65 = .ok (.goto (-47), 3) := by decide +kernel
theorem dX7_compares_0 : decode cX7_compares 0 = .ok (.iload_n 1, 1) := by decide +kernel
theorem dX7_compares_1 : decode cX7_compares 1 = .ok (.bipush 60, 2) := by decide +kernel
theorem dX7_compares_3 : decode cX7_compares 3 = .ok (.if_icmp .ne 16, 3) := by decide +kernel
theorem dX7_compares_19 : decode cX7_compares 19 = .ok (.iload_n 1, 1) := by decide +kernel
theorem dX7_compares_20 : decode cX7_compares 20 = .ok (.bipush 62, 2) := by decide +kernel
theorem dX7_compares_22 : decode cX7_compares 22 = .ok (.if_icmp .ne 16, 3) := by decide +kernel
theorem dX7_compares_38 : decode cX7_compares 38 = .ok (.iload_n 0, 1) := by decide +kernel
theorem dX7_compares_39 : decode cX7_compares 39 = .ok (.iload_n 2, 1) := by decide +kernel
theorem dX7_compares_40 : decode cX7_compares 40 = .ok (.if_icmp .ne 7, 3) := by decide +kernel
theorem dX7_compares_47 : decode cX7_compares 47 = .ok (.iconst 0, 1) := by decide +kernel
theorem dX7_compares_48 : decode cX7_compares 48 = .ok (.ireturn, 1) := by decide +kernel
theorem dX7_compares_43 : decode cX7_compares 43 = .ok (.iconst 1, 1) := by decide +kernel
theorem dX7_compares_44 : decode cX7_compares 44 = .ok (.goto 4, 3) := by decide +kernel
theorem dX7_compares_25 : decode cX7_compares 25 = .ok (.iload_n 0, 1) := by decide +kernel
theorem dX7_compares_26 : decode cX7_compares 26 = .ok (.iload_n 2, 1) := by decide +kernel
theorem dX7_compares_27 : decode cX7_compares 27 = .ok (.if_icmp .le 7, 3) := by decide +kernel
theorem dX7_compares_34 : decode cX7_compares 34 = .ok (.iconst 0, 1) := by decide +kernel
theorem dX7_compares_35 : decode cX7_compares 35 = .ok (.goto 13, 3) := by decide +kernel
theorem dX7_compares_30 : decode cX7_compares 30 = .ok (.iconst 1, 1) := by decide +kernel
theorem dX7_compares_31 : decode cX7_compares 31 = .ok (.goto 17, 3) := by decide +kernel
theorem dX7_compares_6 : decode cX7_compares 6 = .ok (.iload_n 0, 1) := by decide +kernel
theorem dX7_compares_7 : decode cX7_compares 7 = .ok (.iload_n 2, 1) := by decide +kernel
theorem dX7_compares_8 : decode cX7_compares 8 = .ok (.if_icmp .ge 7, 3) := by decide +kernel
theorem dX7_compares_15 : decode cX7_compares 15 = .ok (.iconst 0, 1) := by decide +kernel
theorem dX7_compares_16 : decode cX7_compares 16 = .ok (.goto 32, 3) := by decide +kernel
theorem dX7_compares_11 : decode cX7_compares 11 = .ok (.iconst 1, 1) := by decide +kernel
theorem dX7_compares_12 : decode cX7_compares 12 = .ok (.goto 36, 3) := by decide +kernel
theorem dX7_plainFits_0 : decode cX7_plainFits 0 = .ok (.aload_n 0, 1) := by decide +kernel
theorem dX7_plainFits_1 : decode cX7_plainFits 1 = .ok (.getfield 13, 3) := by decide +kernel
theorem dX7_plainFits_4 : decode cX7_plainFits 4 = .ok (.iload_n 3, 1) := by decide +kernel
theorem dX7_plainFits_5 : decode cX7_plainFits 5 = .ok (.aaload, 1) := by decide +kernel
theorem dX7_plainFits_6 : decode cX7_plainFits 6 = .ok (.astore 4, 2) := by decide +kernel
theorem dX7_plainFits_8 : decode cX7_plainFits 8 = .ok (.aload_n 1, 1) := by decide +kernel
theorem dX7_plainFits_9 : decode cX7_plainFits 9 = .ok (.getfield 123, 3) := by decide +kernel
theorem dX7_plainFits_12 : decode cX7_plainFits 12 = .ok (.iload_n 2, 1) := by decide +kernel
theorem dX7_plainFits_13 : decode cX7_plainFits 13 = .ok (.aaload, 1) := by decide +kernel
theorem dX7_plainFits_14 : decode cX7_plainFits 14 = .ok (.astore 5, 2) := by decide +kernel
theorem dX7_plainFits_16 : decode cX7_plainFits 16 = .ok (.aload_n 0, 1) := by decide +kernel
theorem dX7_plainFits_17 : decode cX7_plainFits 17 = .ok (.getfield 21, 3) := by decide +kernel
theorem dX7_plainFits_20 : decode cX7_plainFits 20 = .ok (.iload_n 3, 1) := by decide +kernel
theorem dX7_plainFits_21 : decode cX7_plainFits 21 = .ok (.iaload, 1) := by decide +kernel
theorem dX7_plainFits_22 : decode cX7_plainFits 22 = .ok (.istore 6, 2) := by decide +kernel
theorem dX7_plainFits_24 : decode cX7_plainFits 24 = .ok (.aload 4, 2) := by decide +kernel
theorem dX7_plainFits_26 : decode cX7_plainFits 26 = .ok (.getstatic 81, 3) := by decide +kernel
theorem dX7_plainFits_29 : decode cX7_plainFits 29 = .ok (.if_acmp .ne 17, 3) := by decide +kernel
theorem dX7_plainFits_46 : decode cX7_plainFits 46 = .ok (.aload 4, 2) := by decide +kernel
theorem dX7_plainFits_48 : decode cX7_plainFits 48 = .ok (.getstatic 84, 3) := by decide +kernel
theorem dX7_plainFits_51 : decode cX7_plainFits 51 = .ok (.if_acmp .ne 17, 3) := by decide +kernel
theorem dX7_plainFits_68 : decode cX7_plainFits 68 = .ok (.aload 4, 2) := by decide +kernel
theorem dX7_plainFits_70 : decode cX7_plainFits 70 = .ok (.getstatic 87, 3) := by decide +kernel
theorem dX7_plainFits_73 : decode cX7_plainFits 73 = .ok (.if_acmp .ne 25, 3) := by decide +kernel
theorem dX7_plainFits_98 : decode cX7_plainFits 98 = .ok (.aload 4, 2) := by decide +kernel
theorem dX7_plainFits_100 : decode cX7_plainFits 100 = .ok (.getstatic 90, 3) := by decide +kernel
theorem dX7_plainFits_103 : decode cX7_plainFits 103 = .ok (.if_acmp .ne 19, 3) := by decide +kernel
theorem dX7_plainFits_122 : decode cX7_plainFits 122 = .ok (.aload 4, 2) := by decide +kernel
theorem dX7_plainFits_124 : decode cX7_plainFits 124 = .ok (.getstatic 107, 3) := by decide +kernel
theorem dX7_plainFits_127 : decode cX7_plainFits 127 = .ok (.if_acmp .ne 20, 3) := by decide +kernel
theorem dX7_plainFits_147 : decode cX7_plainFits 147 = .ok (.aload 4, 2) := by decide +kernel
theorem dX7_plainFits_149 : decode cX7_plainFits 149 = .ok (.getstatic 110, 3) := by decide +kernel
theorem dX7_plainFits_152 : decode cX7_plainFits 152 = .ok (.if_acmp .ne 20, 3) := by decide +kernel
theorem dX7_plainFits_172 : decode cX7_plainFits 172 = .ok (.aload 4, 2) := by decide +kernel
theorem dX7_plainFits_174 : decode cX7_plainFits 174 = .ok (.getstatic 113, 3) := by decide +kernel
theorem dX7_plainFits_177 : decode cX7_plainFits 177 = .ok (.if_acmp .ne 16, 3) := by decide +kernel
theorem dX7_plainFits_193 : decode cX7_plainFits 193 = .ok (.iload_n 2, 1) := by decide +kernel
theorem dX7_plainFits_194 : decode cX7_plainFits 194 = .ok (.istore 7, 2) := by decide +kernel
theorem dX7_plainFits_196 : decode cX7_plainFits 196 = .ok (.iload 7, 2) := by decide +kernel
theorem dX7_plainFits_198 : decode cX7_plainFits 198 = .ok (.aload_n 0, 1) := by decide +kernel
theorem dX7_plainFits_199 : decode cX7_plainFits 199 = .ok (.getfield 17, 3) := by decide +kernel
theorem dX7_plainFits_202 : decode cX7_plainFits 202 = .ok (.iload_n 3, 1) := by decide +kernel
theorem dX7_plainFits_203 : decode cX7_plainFits 203 = .ok (.iaload, 1) := by decide +kernel
theorem dX7_plainFits_204 : decode cX7_plainFits 204 = .ok (.iload 6, 2) := by decide +kernel
theorem dX7_plainFits_206 : decode cX7_plainFits 206 = .ok (.invokestatic 147, 3) := by decide +kernel
theorem dX7_plainFits_209 : decode cX7_plainFits 209 = .ok (.ireturn, 1) := by decide +kernel
theorem dX7_plainFits_180 : decode cX7_plainFits 180 = .ok (.aload_n 1, 1) := by decide +kernel
theorem dX7_plainFits_181 : decode cX7_plainFits 181 = .ok (.iload_n 2, 1) := by decide +kernel
theorem dX7_plainFits_182 : decode cX7_plainFits 182 = .ok (.aload 5, 2) := by decide +kernel
theorem dX7_plainFits_184 : decode cX7_plainFits 184 = .ok (.getfield 141, 3) := by decide +kernel
theorem dX7_plainFits_187 : decode cX7_plainFits 187 = .ok (.invokevirtual 154, 3) := by decide +kernel
theorem dX7_plainFits_190 : decode cX7_plainFits 190 = .ok (.goto 4, 3) := by decide +kernel
theorem dX7_plainFits_155 : decode cX7_plainFits 155 = .ok (.aload 5, 2) := by decide +kernel
theorem dX7_plainFits_157 : decode cX7_plainFits 157 = .ok (.getfield 151, 3) := by decide +kernel
theorem dX7_plainFits_160 : decode cX7_plainFits 160 = .ok (.aload_n 0, 1) := by decide +kernel
theorem dX7_plainFits_161 : decode cX7_plainFits 161 = .ok (.getfield 17, 3) := by decide +kernel
theorem dX7_plainFits_164 : decode cX7_plainFits 164 = .ok (.iload_n 3, 1) := by decide +kernel
theorem dX7_plainFits_165 : decode cX7_plainFits 165 = .ok (.iaload, 1) := by decide +kernel
theorem dX7_plainFits_166 : decode cX7_plainFits 166 = .ok (.iload 6, 2) := by decide +kernel
theorem dX7_plainFits_168 : decode cX7_plainFits 168 = .ok (.invokestatic 147, 3) := by decide +kernel
theorem dX7_plainFits_171 : decode cX7_plainFits 171 = .ok (.ireturn, 1) := by decide +kernel
theorem dX7_plainFits_130 : decode cX7_plainFits 130 = .ok (.aload 5, 2) := by decide +kernel
theorem dX7_plainFits_132 : decode cX7_plainFits 132 = .ok (.getfield 144, 3) := by decide +kernel
theorem dX7_plainFits_135 : decode cX7_plainFits 135 = .ok (.aload_n 0, 1) := by decide +kernel
theorem dX7_plainFits_136 : decode cX7_plainFits 136 = .ok (.getfield 17, 3) := by decide +kernel
theorem dX7_plainFits_139 : decode cX7_plainFits 139 = .ok (.iload_n 3, 1) := by decide +kernel
theorem dX7_plainFits_140 : decode cX7_plainFits 140 = .ok (.iaload, 1) := by decide +kernel
theorem dX7_plainFits_141 : decode cX7_plainFits 141 = .ok (.iload 6, 2) := by decide +kernel
theorem dX7_plainFits_143 : decode cX7_plainFits 143 = .ok (.invokestatic 147, 3) := by decide +kernel
theorem dX7_plainFits_146 : decode cX7_plainFits 146 = .ok (.ireturn, 1) := by decide +kernel
theorem dX7_plainFits_106 : decode cX7_plainFits 106 = .ok (.aload 5, 2) := by decide +kernel
theorem dX7_plainFits_108 : decode cX7_plainFits 108 = .ok (.getfield 141, 3) := by decide +kernel
theorem dX7_plainFits_111 : decode cX7_plainFits 111 = .ok (.iload 6, 2) := by decide +kernel
theorem dX7_plainFits_113 : decode cX7_plainFits 113 = .ok (.if_icmp .ne 7, 3) := by decide +kernel
theorem dX7_plainFits_120 : decode cX7_plainFits 120 = .ok (.iconst 0, 1) := by decide +kernel
theorem dX7_plainFits_121 : decode cX7_plainFits 121 = .ok (.ireturn, 1) := by decide +kernel
theorem dX7_plainFits_116 : decode cX7_plainFits 116 = .ok (.iconst 1, 1) := by decide +kernel
theorem dX7_plainFits_117 : decode cX7_plainFits 117 = .ok (.goto 4, 3) := by decide +kernel
theorem dX7_plainFits_76 : decode cX7_plainFits 76 = .ok (.iload_n 2, 1) := by decide +kernel
theorem dX7_plainFits_77 : decode cX7_plainFits 77 = .ok (.iload 6, 2) := by decide +kernel
theorem dX7_plainFits_79 : decode cX7_plainFits 79 = .ok (.if_icmp .eq 17, 3) := by decide +kernel
theorem dX7_plainFits_96 : decode cX7_plainFits 96 = .ok (.iconst 0, 1) := by decide +kernel
theorem dX7_plainFits_97 : decode cX7_plainFits 97 = .ok (.ireturn, 1) := by decide +kernel
theorem dX7_plainFits_82 : decode cX7_plainFits 82 = .ok (.aload_n 1, 1) := by decide +kernel
theorem dX7_plainFits_83 : decode cX7_plainFits 83 = .ok (.iload_n 2, 1) := by decide +kernel
theorem dX7_plainFits_84 : decode cX7_plainFits 84 = .ok (.iload 6, 2) := by decide +kernel
theorem dX7_plainFits_86 : decode cX7_plainFits 86 = .ok (.invokevirtual 137, 3) := by decide +kernel
theorem dX7_plainFits_89 : decode cX7_plainFits 89 = .ok (.ifCond .eq 7, 3) := by decide +kernel
theorem dX7_plainFits_92 : decode cX7_plainFits 92 = .ok (.iconst 1, 1) := by decide +kernel
theorem dX7_plainFits_93 : decode cX7_plainFits 93 = .ok (.goto 4, 3) := by decide +kernel
theorem dX7_plainFits_54 : decode cX7_plainFits 54 = .ok (.aload 5, 2) := by decide +kernel
theorem dX7_plainFits_56 : decode cX7_plainFits 56 = .ok (.getfield 134, 3) := by decide +kernel
theorem dX7_plainFits_59 : decode cX7_plainFits 59 = .ok (.ifCond .eq 7, 3) := by decide +kernel
theorem dX7_plainFits_66 : decode cX7_plainFits 66 = .ok (.iconst 0, 1) := by decide +kernel
theorem dX7_plainFits_67 : decode cX7_plainFits 67 = .ok (.ireturn, 1) := by decide +kernel
theorem dX7_plainFits_62 : decode cX7_plainFits 62 = .ok (.iconst 1, 1) := by decide +kernel
theorem dX7_plainFits_63 : decode cX7_plainFits 63 = .ok (.goto 4, 3) := by decide +kernel
theorem dX7_plainFits_32 : decode cX7_plainFits 32 = .ok (.aload 5, 2) := by decide +kernel
theorem dX7_plainFits_34 : decode cX7_plainFits 34 = .ok (.getfield 129, 3) := by decide +kernel
theorem dX7_plainFits_37 : decode cX7_plainFits 37 = .ok (.ifCond .le 7, 3) := by decide +kernel
theorem dX7_plainFits_44 : decode cX7_plainFits 44 = .ok (.iconst 0, 1) := by decide +kernel
theorem dX7_plainFits_45 : decode cX7_plainFits 45 = .ok (.ireturn, 1) := by decide +kernel
theorem dX7_plainFits_40 : decode cX7_plainFits 40 = .ok (.iconst 1, 1) := by decide +kernel
theorem dX7_plainFits_41 : decode cX7_plainFits 41 = .ok (.goto 4, 3) := by decide +kernel
theorem dX7_fits_0 : decode cX7_fits 0 = .ok (.iconst 0, 1) := by decide +kernel
theorem dX7_fits_1 : decode cX7_fits 1 = .ok (.istore_n 3, 1) := by decide +kernel
theorem dX7_fits_2 : decode cX7_fits 2 = .ok (.iconst 0, 1) := by decide +kernel
theorem dX7_fits_3 : decode cX7_fits 3 = .ok (.istore 4, 2) := by decide +kernel
theorem dX7_fits_5 : decode cX7_fits 5 = .ok (.iload 4, 2) := by decide +kernel
theorem dX7_fits_7 : decode cX7_fits 7 = .ok (.aload_n 0, 1) := by decide +kernel
theorem dX7_fits_8 : decode cX7_fits 8 = .ok (.getfield 24, 3) := by decide +kernel
theorem dX7_fits_11 : decode cX7_fits 11 = .ok (.if_icmp .ge 111, 3) := by decide +kernel
theorem dX7_fits_122 : decode cX7_fits 122 = .ok (.iload_n 3, 1) := by decide +kernel
theorem dX7_fits_123 : decode cX7_fits 123 = .ok (.iconst 1, 1) := by decide +kernel
theorem dX7_fits_124 : decode cX7_fits 124 = .ok (.iand, 1) := by decide +kernel
theorem dX7_fits_125 : decode cX7_fits 125 = .ok (.iconst 1, 1) := by decide +kernel
theorem dX7_fits_126 : decode cX7_fits 126 = .ok (.if_icmp .ne 7, 3) := by decide +kernel
theorem dX7_fits_133 : decode cX7_fits 133 = .ok (.iconst 0, 1) := by decide +kernel
theorem dX7_fits_134 : decode cX7_fits 134 = .ok (.ireturn, 1) := by decide +kernel
theorem dX7_fits_129 : decode cX7_fits 129 = .ok (.iconst 1, 1) := by decide +kernel
theorem dX7_fits_130 : decode cX7_fits 130 = .ok (.goto 4, 3) := by decide +kernel
theorem dX7_fits_14 : decode cX7_fits 14 = .ok (.iload_n 3, 1) := by decide +kernel
theorem dX7_fits_15 : decode cX7_fits 15 = .ok (.iconst 1, 1) := by decide +kernel
theorem dX7_fits_16 : decode cX7_fits 16 = .ok (.iand, 1) := by decide +kernel
theorem dX7_fits_17 : decode cX7_fits 17 = .ok (.istore 5, 2) := by decide +kernel
theorem dX7_fits_19 : decode cX7_fits 19 = .ok (.aload_n 0, 1) := by decide +kernel
theorem dX7_fits_20 : decode cX7_fits 20 = .ok (.getfield 13, 3) := by decide +kernel
theorem dX7_fits_23 : decode cX7_fits 23 = .ok (.iload 4, 2) := by decide +kernel
theorem dX7_fits_25 : decode cX7_fits 25 = .ok (.aaload, 1) := by decide +kernel
theorem dX7_fits_26 : decode cX7_fits 26 = .ok (.getstatic 74, 3) := by decide +kernel
theorem dX7_fits_29 : decode cX7_fits 29 = .ok (.if_acmp .ne 10, 3) := by decide +kernel
theorem dX7_fits_39 : decode cX7_fits 39 = .ok (.aload_n 0, 1) := by decide +kernel
theorem dX7_fits_40 : decode cX7_fits 40 = .ok (.getfield 13, 3) := by decide +kernel
theorem dX7_fits_43 : decode cX7_fits 43 = .ok (.iload 4, 2) := by decide +kernel
theorem dX7_fits_45 : decode cX7_fits 45 = .ok (.aaload, 1) := by decide +kernel
theorem dX7_fits_46 : decode cX7_fits 46 = .ok (.getstatic 41, 3) := by decide +kernel
theorem dX7_fits_49 : decode cX7_fits 49 = .ok (.if_acmp .ne 23, 3) := by decide +kernel
theorem dX7_fits_72 : decode cX7_fits 72 = .ok (.aload_n 0, 1) := by decide +kernel
theorem dX7_fits_73 : decode cX7_fits 73 = .ok (.getfield 13, 3) := by decide +kernel
theorem dX7_fits_76 : decode cX7_fits 76 = .ok (.iload 4, 2) := by decide +kernel
theorem dX7_fits_78 : decode cX7_fits 78 = .ok (.aaload, 1) := by decide +kernel
theorem dX7_fits_79 : decode cX7_fits 79 = .ok (.getstatic 51, 3) := by decide +kernel
theorem dX7_fits_82 : decode cX7_fits 82 = .ok (.if_acmp .ne 13, 3) := by decide +kernel
theorem dX7_fits_95 : decode cX7_fits 95 = .ok (.iload_n 3, 1) := by decide +kernel
theorem dX7_fits_96 : decode cX7_fits 96 = .ok (.iconst 1, 1) := by decide +kernel
theorem dX7_fits_97 : decode cX7_fits 97 = .ok (.ishl, 1) := by decide +kernel
theorem dX7_fits_98 : decode cX7_fits 98 = .ok (.aload_n 0, 1) := by decide +kernel
theorem dX7_fits_99 : decode cX7_fits 99 = .ok (.aload_n 1, 1) := by decide +kernel
theorem dX7_fits_100 : decode cX7_fits 100 = .ok (.iload_n 2, 1) := by decide +kernel
theorem dX7_fits_101 : decode cX7_fits 101 = .ok (.iload 4, 2) := by decide +kernel
theorem dX7_fits_103 : decode cX7_fits 103 = .ok (.invokevirtual 119, 3) := by decide +kernel
theorem dX7_fits_106 : decode cX7_fits 106 = .ok (.ifCond .eq 7, 3) := by decide +kernel
theorem dX7_fits_109 : decode cX7_fits 109 = .ok (.iconst 1, 1) := by decide +kernel
theorem dX7_fits_110 : decode cX7_fits 110 = .ok (.goto 4, 3) := by decide +kernel
theorem dX7_fits_114 : decode cX7_fits 114 = .ok (.ior, 1) := by decide +kernel
theorem dX7_fits_115 : decode cX7_fits 115 = .ok (.istore_n 3, 1) := by decide +kernel
theorem dX7_fits_116 : decode cX7_fits 116 = .ok (.iinc 4 1, 3) := by decide +kernel
theorem dX7_fits_119 : decode cX7_fits 119 = .ok (.goto (-114), 3) := by decide +kernel
theorem dX7_fits_113 : decode cX7_fits 113 = .ok (.iconst 0, 1) := by decide +kernel
theorem dX7_fits_85 : decode cX7_fits 85 = .ok (.iload_n 3, 1) := by decide +kernel
theorem dX7_fits_86 : decode cX7_fits 86 = .ok (.iconst 1, 1) := by decide +kernel
theorem dX7_fits_87 : decode cX7_fits 87 = .ok (.iushr, 1) := by decide +kernel
theorem dX7_fits_88 : decode cX7_fits 88 = .ok (.iload 5, 2) := by decide +kernel
theorem dX7_fits_90 : decode cX7_fits 90 = .ok (.ior, 1) := by decide +kernel
theorem dX7_fits_91 : decode cX7_fits 91 = .ok (.istore_n 3, 1) := by decide +kernel
theorem dX7_fits_92 : decode cX7_fits 92 = .ok (.goto 24, 3) := by decide +kernel
theorem dX7_fits_52 : decode cX7_fits 52 = .ok (.iload_n 3, 1) := by decide +kernel
theorem dX7_fits_53 : decode cX7_fits 53 = .ok (.iconst 1, 1) := by decide +kernel
theorem dX7_fits_54 : decode cX7_fits 54 = .ok (.iushr, 1) := by decide +kernel
theorem dX7_fits_55 : decode cX7_fits 55 = .ok (.iload 5, 2) := by decide +kernel
theorem dX7_fits_57 : decode cX7_fits 57 = .ok (.iconst 1, 1) := by decide +kernel
theorem dX7_fits_58 : decode cX7_fits 58 = .ok (.if_icmp .ne 7, 3) := by decide +kernel
theorem dX7_fits_65 : decode cX7_fits 65 = .ok (.bipush (-2), 2) := by decide +kernel
theorem dX7_fits_67 : decode cX7_fits 67 = .ok (.iand, 1) := by decide +kernel
theorem dX7_fits_68 : decode cX7_fits 68 = .ok (.istore_n 3, 1) := by decide +kernel
theorem dX7_fits_69 : decode cX7_fits 69 = .ok (.goto 47, 3) := by decide +kernel
theorem dX7_fits_61 : decode cX7_fits 61 = .ok (.iconst (-1), 1) := by decide +kernel
theorem dX7_fits_62 : decode cX7_fits 62 = .ok (.goto 5, 3) := by decide +kernel
theorem dX7_fits_32 : decode cX7_fits 32 = .ok (.iload_n 3, 1) := by decide +kernel
theorem dX7_fits_33 : decode cX7_fits 33 = .ok (.iconst 1, 1) := by decide +kernel
theorem dX7_fits_34 : decode cX7_fits 34 = .ok (.ixor, 1) := by decide +kernel
theorem dX7_fits_35 : decode cX7_fits 35 = .ok (.istore_n 3, 1) := by decide +kernel
theorem dX7_fits_36 : decode cX7_fits 36 = .ok (.goto 80, 3) := by decide +kernel
