theorem dX12_there_5 : decode cX12_there 5 = .ok (.aload_n 0, 1) := by decide +kernel
theorem dX12_there_6 : decode cX12_there 6 = .ok (.iload_n 1, 1) := by decide +kernel
theorem dX12_there_7 : decode cX12_there 7 = .ok (.invokevirtual 250, 3) := by decide +kernel
theorem dX12_there_10 : decode cX12_there 10 = .ok (.ifCond .eq 13, 3) := by decide +kernel
theorem dX12_there_13 : decode cX12_there 13 = .ok (.iload_n 2, 1) := by decide +kernel
theorem dX12_there_14 : decode cX12_there 14 = .ok (.iconst 0, 1) := by decide +kernel
theorem dX12_there_15 : decode cX12_there 15 = .ok (.bipush 23, 2) := by decide +kernel
theorem dX12_there_17 : decode cX12_there 17 = .ok (.invokestatic 75, 3) := by decide +kernel
theorem dX12_there_20 : decode cX12_there 20 = .ok (.ifCond .ne 5, 3) := by decide +kernel
theorem dX12_there_25 : decode cX12_there 25 = .ok (.iconst 0, 1) := by decide +kernel
theorem dX12_there_26 : decode cX12_there 26 = .ok (.istore_n 3, 1) := by decide +kernel
theorem dX12_there_27 : decode cX12_there 27 = .ok (.iconst 0, 1) := by decide +kernel
theorem dX12_there_28 : decode cX12_there 28 = .ok (.istore 4, 2) := by decide +kernel
theorem dX12_there_30 : decode cX12_there 30 = .ok (.iload 4, 2) := by decide +kernel
theorem dX12_there_32 : decode cX12_there 32 = .ok (.aload_n 0, 1) := by decide +kernel
theorem dX12_there_33 : decode cX12_there 33 = .ok (.getfield 98, 3) := by decide +kernel
theorem dX12_there_36 : decode cX12_there 36 = .ok (.iconst 1, 1) := by decide +kernel
theorem dX12_there_37 : decode cX12_there 37 = .ok (.iaload, 1) := by decide +kernel
theorem dX12_there_38 : decode cX12_there 38 = .ok (.if_icmp .ge 36, 3) := by decide +kernel
theorem dX12_there_74 : decode cX12_there 74 = .ok (.iload_n 3, 1) := by decide +kernel
theorem dX12_there_75 : decode cX12_there 75 = .ok (.ireturn, 1) := by decide +kernel
theorem dX12_there_41 : decode cX12_there 41 = .ok (.aload_n 0, 1) := by decide +kernel
theorem dX12_there_42 : decode cX12_there 42 = .ok (.iload 4, 2) := by decide +kernel
theorem dX12_there_44 : decode cX12_there 44 = .ok (.invokevirtual 235, 3) := by decide +kernel
theorem dX12_there_47 : decode cX12_there 47 = .ok (.ifCond .ne 21, 3) := by decide +kernel
theorem dX12_there_68 : decode cX12_there 68 = .ok (.iinc 4 1, 3) := by decide +kernel
theorem dX12_there_71 : decode cX12_there 71 = .ok (.goto (-41), 3) := by decide +kernel
theorem dX12_there_50 : decode cX12_there 50 = .ok (.aload_n 0, 1) := by decide +kernel
theorem dX12_there_51 : decode cX12_there 51 = .ok (.iload 4, 2) := by decide +kernel
theorem dX12_there_53 : decode cX12_there 53 = .ok (.iload_n 1, 1) := by decide +kernel
theorem dX12_there_54 : decode cX12_there 54 = .ok (.iload_n 2, 1) := by decide +kernel
theorem dX12_there_55 : decode cX12_there 55 = .ok (.invokevirtual 284, 3) := by decide +kernel
theorem dX12_there_58 : decode cX12_there 58 = .ok (.ifCond .eq 10, 3) := by decide +kernel
theorem dX12_there_61 : decode cX12_there 61 = .ok (.iload_n 3, 1) := by decide +kernel
theorem dX12_there_62 : decode cX12_there 62 = .ok (.iconst 1, 1) := by decide +kernel
theorem dX12_there_63 : decode cX12_there 63 = .ok (.iload 4, 2) := by decide +kernel
theorem dX12_there_65 : decode cX12_there 65 = .ok (.ishl, 1) := by decide +kernel
theorem dX12_there_66 : decode cX12_there 66 = .ok (.ior, 1) := by decide +kernel
theorem dX12_there_67 : decode cX12_there 67 = .ok (.istore_n 3, 1) := by decide +kernel
theorem dX12_there_23 : decode cX12_there 23 = .ok (.iconst (-1), 1) := by decide +kernel
theorem dX12_there_24 : decode cX12_there 24 = .ok (.ireturn, 1) := by decide +kernel
theorem dX12_meetsIn_0 : decode cX12_meetsIn 0 = .ok (.aload_n 0, 1) := by decide +kernel
theorem dX12_meetsIn_1 : decode cX12_meetsIn 1 = .ok (.getfield 98, 3) := by decide +kernel
theorem dX12_meetsIn_4 : decode cX12_meetsIn 4 = .ok (.bipush 71, 2) := by decide +kernel
theorem dX12_meetsIn_6 : decode cX12_meetsIn 6 = .ok (.iload_n 1, 1) := by decide +kernel
theorem dX12_meetsIn_7 : decode cX12_meetsIn 7 = .ok (.iadd, 1) := by decide +kernel
theorem dX12_meetsIn_8 : decode cX12_meetsIn 8 = .ok (.iaload, 1) := by decide +kernel
theorem dX12_meetsIn_9 : decode cX12_meetsIn 9 = .ok (.aload_n 0, 1) := by decide +kernel
theorem dX12_meetsIn_10 : decode cX12_meetsIn 10 = .ok (.getfield 98, 3) := by decide +kernel
theorem dX12_meetsIn_13 : decode cX12_meetsIn 13 = .ok (.bipush 71, 2) := by decide +kernel
theorem dX12_meetsIn_15 : decode cX12_meetsIn 15 = .ok (.iload_n 2, 1) := by decide +kernel
theorem dX12_meetsIn_16 : decode cX12_meetsIn 16 = .ok (.iadd, 1) := by decide +kernel
theorem dX12_meetsIn_17 : decode cX12_meetsIn 17 = .ok (.iaload, 1) := by decide +kernel
theorem dX12_meetsIn_18 : decode cX12_meetsIn 18 = .ok (.if_icmp .ne 17, 3) := by decide +kernel
theorem dX12_meetsIn_35 : decode cX12_meetsIn 35 = .ok (.iconst 0, 1) := by decide +kernel
theorem dX12_meetsIn_36 : decode cX12_meetsIn 36 = .ok (.ireturn, 1) := by decide +kernel
theorem dX12_meetsIn_21 : decode cX12_meetsIn 21 = .ok (.aload_n 0, 1) := by decide +kernel
theorem dX12_meetsIn_22 : decode cX12_meetsIn 22 = .ok (.iload_n 1, 1) := by decide +kernel
theorem dX12_meetsIn_23 : decode cX12_meetsIn 23 = .ok (.invokevirtual 220, 3) := by decide +kernel
theorem dX12_meetsIn_26 : decode cX12_meetsIn 26 = .ok (.aload_n 0, 1) := by decide +kernel
theorem dX12_meetsIn_27 : decode cX12_meetsIn 27 = .ok (.iload_n 2, 1) := by decide +kernel
theorem dX12_meetsIn_28 : decode cX12_meetsIn 28 = .ok (.invokevirtual 220, 3) := by decide +kernel
theorem dX12_meetsIn_31 : decode cX12_meetsIn 31 = .ok (.iand, 1) := by decide +kernel
theorem dX12_meetsIn_32 : decode cX12_meetsIn 32 = .ok (.goto 4, 3) := by decide +kernel
theorem dX12_meets_0 : decode cX12_meets 0 = .ok (.aload_n 0, 1) := by decide +kernel
theorem dX12_meets_1 : decode cX12_meets 1 = .ok (.iconst 0, 1) := by decide +kernel
theorem dX12_meets_2 : decode cX12_meets 2 = .ok (.putfield 1, 3) := by decide +kernel
theorem dX12_meets_5 : decode cX12_meets 5 = .ok (.aload_n 0, 1) := by decide +kernel
theorem dX12_meets_6 : decode cX12_meets 6 = .ok (.iload_n 1, 1) := by decide +kernel
theorem dX12_meets_7 : decode cX12_meets 7 = .ok (.invokevirtual 241, 3) := by decide +kernel
theorem dX12_meets_10 : decode cX12_meets 10 = .ok (.ifCond .eq 25, 3) := by decide +kernel
theorem dX12_meets_13 : decode cX12_meets 13 = .ok (.aload_n 0, 1) := by decide +kernel
theorem dX12_meets_14 : decode cX12_meets 14 = .ok (.iload_n 2, 1) := by decide +kernel
theorem dX12_meets_15 : decode cX12_meets 15 = .ok (.invokevirtual 241, 3) := by decide +kernel
theorem dX12_meets_18 : decode cX12_meets 18 = .ok (.ifCond .eq 17, 3) := by decide +kernel
theorem dX12_meets_21 : decode cX12_meets 21 = .ok (.iload_n 1, 1) := by decide +kernel
theorem dX12_meets_22 : decode cX12_meets 22 = .ok (.iload_n 2, 1) := by decide +kernel
theorem dX12_meets_23 : decode cX12_meets 23 = .ok (.if_icmp .eq 12, 3) := by decide +kernel
theorem dX12_meets_35 : decode cX12_meets 35 = .ok (.iconst (-1), 1) := by decide +kernel
theorem dX12_meets_36 : decode cX12_meets 36 = .ok (.ireturn, 1) := by decide +kernel
theorem dX12_meets_26 : decode cX12_meets 26 = .ok (.aload_n 0, 1) := by decide +kernel
theorem dX12_meets_27 : decode cX12_meets 27 = .ok (.iload_n 1, 1) := by decide +kernel
theorem dX12_meets_28 : decode cX12_meets 28 = .ok (.iload_n 2, 1) := by decide +kernel
theorem dX12_meets_29 : decode cX12_meets 29 = .ok (.invokevirtual 306, 3) := by decide +kernel
theorem dX12_meets_32 : decode cX12_meets 32 = .ok (.goto 4, 3) := by decide +kernel
theorem dX12_bestAt_0 : decode cX12_bestAt 0 = .ok (.aload_n 0, 1) := by decide +kernel
theorem dX12_bestAt_1 : decode cX12_bestAt 1 = .ok (.iconst 0, 1) := by decide +kernel
theorem dX12_bestAt_2 : decode cX12_bestAt 2 = .ok (.putfield 1, 3) := by decide +kernel
theorem dX12_bestAt_5 : decode cX12_bestAt 5 = .ok (.iload_n 1, 1) := by decide +kernel
theorem dX12_bestAt_6 : decode cX12_bestAt 6 = .ok (.ifCond .ne 10, 3) := by decide +kernel
theorem dX12_bestAt_16 : decode cX12_bestAt 16 = .ok (.iload_n 1, 1) := by decide +kernel
theorem dX12_bestAt_17 : decode cX12_bestAt 17 = .ok (.iconst 1, 1) := by decide +kernel
theorem dX12_bestAt_18 : decode cX12_bestAt 18 = .ok (.if_icmp .ne 10, 3) := by decide +kernel
theorem dX12_bestAt_28 : decode cX12_bestAt 28 = .ok (.iconst (-1), 1) := by decide +kernel
theorem dX12_bestAt_29 : decode cX12_bestAt 29 = .ok (.ireturn, 1) := by decide +kernel
theorem dX12_bestAt_21 : decode cX12_bestAt 21 = .ok (.aload_n 0, 1) := by decide +kernel
theorem dX12_bestAt_22 : decode cX12_bestAt 22 = .ok (.getfield 130, 3) := by decide +kernel
theorem dX12_bestAt_25 : decode cX12_bestAt 25 = .ok (.goto 4, 3) := by decide +kernel
theorem dX12_bestAt_9 : decode cX12_bestAt 9 = .ok (.aload_n 0, 1) := by decide +kernel
theorem dX12_bestAt_10 : decode cX12_bestAt 10 = .ok (.getfield 127, 3) := by decide +kernel
theorem dX12_bestAt_13 : decode cX12_bestAt 13 = .ok (.goto 16, 3) := by decide +kernel
theorem dX12_manyOf_0 : decode cX12_manyOf 0 = .ok (.iconst 0, 1) := by decide +kernel
theorem dX12_manyOf_1 : decode cX12_manyOf 1 = .ok (.istore 4, 2) := by decide +kernel
theorem dX12_manyOf_3 : decode cX12_manyOf 3 = .ok (.iconst 0, 1) := by decide +kernel
theorem dX12_manyOf_4 : decode cX12_manyOf 4 = .ok (.istore 5, 2) := by decide +kernel
theorem dX12_manyOf_6 : decode cX12_manyOf 6 = .ok (.iload 5, 2) := by decide +kernel
theorem dX12_manyOf_8 : decode cX12_manyOf 8 = .ok (.aload_n 0, 1) := by decide +kernel
theorem dX12_manyOf_9 : decode cX12_manyOf 9 = .ok (.getfield 98, 3) := by decide +kernel
theorem dX12_manyOf_12 : decode cX12_manyOf 12 = .ok (.iconst 1, 1) := by decide +kernel
theorem dX12_manyOf_13 : decode cX12_manyOf 13 = .ok (.iaload, 1) := by decide +kernel
theorem dX12_manyOf_14 : decode cX12_manyOf 14 = .ok (.if_icmp .ge 54, 3) := by decide +kernel
theorem dX12_manyOf_68 : decode cX12_manyOf 68 = .ok (.iload 4, 2) := by decide +kernel
theorem dX12_manyOf_70 : decode cX12_manyOf 70 = .ok (.ireturn, 1) := by decide +kernel
theorem dX12_manyOf_17 : decode cX12_manyOf 17 = .ok (.aload_n 0, 1) := by decide +kernel
theorem dX12_manyOf_18 : decode cX12_manyOf 18 = .ok (.getfield 98, 3) := by decide +kernel
theorem dX12_manyOf_21 : decode cX12_manyOf 21 = .ok (.bipush 71, 2) := by decide +kernel
theorem dX12_manyOf_23 : decode cX12_manyOf 23 = .ok (.iload 5, 2) := by decide +kernel
theorem dX12_manyOf_25 : decode cX12_manyOf 25 = .ok (.iadd, 1) := by decide +kernel
theorem dX12_manyOf_26 : decode cX12_manyOf 26 = .ok (.iaload, 1) := by decide +kernel
theorem dX12_manyOf_27 : decode cX12_manyOf 27 = .ok (.iload_n 1, 1) := by decide +kernel
theorem dX12_manyOf_28 : decode cX12_manyOf 28 = .ok (.if_icmp .ne 34, 3) := by decide +kernel
theorem dX12_manyOf_62 : decode cX12_manyOf 62 = .ok (.iinc 5 1, 3) := by decide +kernel
theorem dX12_manyOf_65 : decode cX12_manyOf 65 = .ok (.goto (-59), 3) := by decide +kernel
theorem dX12_manyOf_31 : decode cX12_manyOf 31 = .ok (.aload_n 0, 1) := by decide +kernel
theorem dX12_manyOf_32 : decode cX12_manyOf 32 = .ok (.iload 5, 2) := by decide +kernel
theorem dX12_manyOf_34 : decode cX12_manyOf 34 = .ok (.invokevirtual 223, 3) := by decide +kernel
theorem dX12_manyOf_37 : decode cX12_manyOf 37 = .ok (.ifCond .eq 7, 3) := by decide +kernel
theorem dX12_manyOf_44 : decode cX12_manyOf 44 = .ok (.iconst 0, 1) := by decide +kernel
theorem dX12_manyOf_45 : decode cX12_manyOf 45 = .ok (.iload_n 2, 1) := by decide +kernel
theorem dX12_manyOf_46 : decode cX12_manyOf 46 = .ok (.if_icmp .ne 16, 3) := by decide +kernel
theorem dX12_manyOf_49 : decode cX12_manyOf 49 = .ok (.aload_n 0, 1) := by decide +kernel
theorem dX12_manyOf_50 : decode cX12_manyOf 50 = .ok (.iload 5, 2) := by decide +kernel
theorem dX12_manyOf_52 : decode cX12_manyOf 52 = .ok (.invokevirtual 235, 3) := by decide +kernel
theorem dX12_manyOf_55 : decode cX12_manyOf 55 = .ok (.iload_n 3, 1) := by decide +kernel
theorem dX12_manyOf_56 : decode cX12_manyOf 56 = .ok (.if_icmp .ne 6, 3) := by decide +kernel
theorem dX12_manyOf_59 : decode cX12_manyOf 59 = .ok (.iinc 4 1, 3) := by decide +kernel
theorem dX12_manyOf_40 : decode cX12_manyOf 40 = .ok (.iconst 1, 1) := by decide +kernel
theorem dX12_manyOf_41 : decode cX12_manyOf 41 = .ok (.goto 4, 3) := by decide +kernel
theorem dX12_votes_0 : decode cX12_votes 0 = .ok (.aload_n 0, 1) := by decide +kernel
theorem dX12_votes_1 : decode cX12_votes 1 = .ok (.iconst 0, 1) := by decide +kernel
theorem dX12_votes_2 : decode cX12_votes 2 = .ok (.putfield 1, 3) := by decide +kernel
theorem dX12_votes_5 : decode cX12_votes 5 = .ok (.aload_n 0, 1) := by decide +kernel
theorem dX12_votes_6 : decode cX12_votes 6 = .ok (.iload_n 1, 1) := by decide +kernel
theorem dX12_votes_7 : decode cX12_votes 7 = .ok (.invokevirtual 250, 3) := by decide +kernel
theorem dX12_votes_10 : decode cX12_votes 10 = .ok (.ifCond .eq 13, 3) := by decide +kernel
theorem dX12_votes_13 : decode cX12_votes 13 = .ok (.aload_n 0, 1) := by decide +kernel
theorem dX12_votes_14 : decode cX12_votes 14 = .ok (.iload_n 1, 1) := by decide +kernel
theorem dX12_votes_15 : decode cX12_votes 15 = .ok (.iconst 1, 1) := by decide +kernel
theorem dX12_votes_16 : decode cX12_votes 16 = .ok (.iconst 0, 1) := by decide +kernel
theorem dX12_votes_17 : decode cX12_votes 17 = .ok (.invokevirtual 333, 3) := by decide +kernel
theorem dX12_votes_20 : decode cX12_votes 20 = .ok (.goto 4, 3) := by decide +kernel
theorem dX12_votes_24 : decode cX12_votes 24 = .ok (.ireturn, 1) := by decide +kernel
theorem dX12_votes_23 : decode cX12_votes 23 = .ok (.iconst (-1), 1) := by decide +kernel
theorem dX12_against_0 : decode cX12_against 0 = .ok (.aload_n 0, 1) := by decide +kernel
theorem dX12_against_1 : decode cX12_against 1 = .ok (.iconst 0, 1) := by decide +kernel
theorem dX12_against_2 : decode cX12_against 2 = .ok (.putfield 1, 3) := by decide +kernel
theorem dX12_against_5 : decode cX12_against 5 = .ok (.aload_n 0, 1) := by decide +kernel
theorem dX12_against_6 : decode cX12_against 6 = .ok (.iload_n 1, 1) := by decide +kernel
theorem dX12_against_7 : decode cX12_against 7 = .ok (.invokevirtual 250, 3) := by decide +kernel
theorem dX12_against_10 : decode cX12_against 10 = .ok (.ifCond .eq 13, 3) := by decide +kernel
theorem dX12_against_13 : decode cX12_against 13 = .ok (.aload_n 0, 1) := by decide +kernel
theorem dX12_against_14 : decode cX12_against 14 = .ok (.iload_n 1, 1) := by decide +kernel
theorem dX12_against_15 : decode cX12_against 15 = .ok (.iconst 0, 1) := by decide +kernel
theorem dX12_against_16 : decode cX12_against 16 = .ok (.iconst 0, 1) := by decide +kernel
theorem dX12_against_17 : decode cX12_against 17 = .ok (.invokevirtual 333, 3) := by decide +kernel
theorem dX12_against_20 : decode cX12_against 20 = .ok (.goto 4, 3) := by decide +kernel
theorem dX12_against_24 : decode cX12_against 24 = .ok (.ireturn, 1) := by decide +kernel
theorem dX12_against_23 : decode cX12_against 23 = .ok (.iconst (-1), 1) := by decide +kernel
theorem dX12_missed_0 : decode cX12_missed 0 = .ok (.aload_n 0, 1) := by decide +kernel
theorem dX12_missed_1 : decode cX12_missed 1 = .ok (.iconst 0, 1) := by decide +kernel
theorem dX12_missed_2 : decode cX12_missed 2 = .ok (.putfield 1, 3) := by decide +kernel
theorem dX12_missed_5 : decode cX12_missed 5 = .ok (.aload_n 0, 1) := by decide +kernel
theorem dX12_missed_6 : decode cX12_missed 6 = .ok (.iload_n 1, 1) := by decide +kernel
theorem dX12_missed_7 : decode cX12_missed 7 = .ok (.invokevirtual 250, 3) := by decide +kernel
theorem dX12_missed_10 : decode cX12_missed 10 = .ok (.ifCond .eq 13, 3) := by decide +kernel
theorem dX12_missed_13 : decode cX12_missed 13 = .ok (.aload_n 0, 1) := by decide +kernel
theorem dX12_missed_14 : decode cX12_missed 14 = .ok (.iload_n 1, 1) := by decide +kernel
theorem dX12_missed_15 : decode cX12_missed 15 = .ok (.iconst 0, 1) := by decide +kernel
theorem dX12_missed_16 : decode cX12_missed 16 = .ok (.iconst 1, 1) := by decide +kernel
theorem dX12_missed_17 : decode cX12_missed 17 = .ok (.invokevirtual 333, 3) := by decide +kernel
theorem dX12_missed_20 : decode cX12_missed 20 = .ok (.goto 4, 3) := by decide +kernel
theorem dX12_missed_24 : decode cX12_missed 24 = .ok (.ireturn, 1) := by decide +kernel
theorem dX12_missed_23 : decode cX12_missed 23 = .ok (.iconst (-1), 1) := by decide +kernel
theorem dX12_partedGood_0 : decode cX12_partedGood 0 = .ok (.aload_n 0, 1) := by decide +kernel
theorem dX12_partedGood_1 : decode cX12_partedGood 1 = .ok (.iconst 0, 1) := by decide +kernel
theorem dX12_partedGood_2 : decode cX12_partedGood 2 = .ok (.putfield 1, 3) := by decide +kernel
theorem dX12_partedGood_5 : decode cX12_partedGood 5 = .ok (.aload_n 0, 1) := by decide +kernel
theorem dX12_partedGood_6 : decode cX12_partedGood 6 = .ok (.getfield 139, 3) := by decide +kernel
theorem dX12_partedGood_9 : decode cX12_partedGood 9 = .ok (.ireturn, 1) := by decide +kernel
theorem dX12_told_0 : decode cX12_told 0 = .ok (.aload_n 0, 1) := by decide +kernel
theorem dX12_told_1 : decode cX12_told 1 = .ok (.iconst 0, 1) := by decide +kernel
theorem dX12_told_2 : decode cX12_told 2 = .ok (.putfield 1, 3) := by decide +kernel
theorem dX12_told_5 : decode cX12_told 5 = .ok (.aload_n 0, 1) := by decide +kernel
theorem dX12_told_6 : decode cX12_told 6 = .ok (.getfield 392, 3) := by decide +kernel
theorem dX12_told_9 : decode cX12_told 9 = .ok (.ifCond .eq 21, 3) := by decide +kernel
theorem dX12_told_30 : decode cX12_told 30 = .ok (.iconst (-1), 1) := by decide +kernel
theorem dX12_told_31 : decode cX12_told 31 = .ok (.ireturn, 1) := by decide +kernel
theorem dX12_told_12 : decode cX12_told 12 = .ok (.iload_n 1, 1) := by decide +kernel
theorem dX12_told_13 : decode cX12_told 13 = .ok (.iconst 0, 1) := by decide +kernel
theorem dX12_told_14 : decode cX12_told 14 = .ok (.iconst 3, 1) := by decide +kernel
theorem dX12_told_15 : decode cX12_told 15 = .ok (.invokestatic 75, 3) := by decide +kernel
theorem dX12_told_18 : decode cX12_told 18 = .ok (.ifCond .eq 12, 3) := by decide +kernel
theorem dX12_told_21 : decode cX12_told 21 = .ok (.aload_n 0, 1) := by decide +kernel
theorem dX12_told_22 : decode cX12_told 22 = .ok (.getfield 148, 3) := by decide +kernel
theorem dX12_told_25 : decode cX12_told 25 = .ok (.iload_n 1, 1) := by decide +kernel
theorem dX12_told_26 : decode cX12_told 26 = .ok (.iaload, 1) := by decide +kernel
theorem dX12_told_27 : decode cX12_told 27 = .ok (.goto 4, 3) := by decide +kernel
theorem dX12_count_0 : decode cX12_count 0 = .ok (.aload_n 0, 1) := by decide +kernel
theorem dX12_count_1 : decode cX12_count 1 = .ok (.iconst 0, 1) := by decide +kernel
theorem dX12_count_2 : decode cX12_count 2 = .ok (.putfield 1, 3) := by decide +kernel
theorem dX12_count_5 : decode cX12_count 5 = .ok (.iload_n 1, 1) := by decide +kernel
theorem dX12_count_6 : decode cX12_count 6 = .ok (.tableswitch 56 0 3 #[30, 37, 44, 51], 30) := by decide +kernel
theorem dX12_count_36 : decode cX12_count 36 = .ok (.aload_n 0, 1) := by decide +kernel
theorem dX12_count_37 : decode cX12_count 37 = .ok (.getfield 98, 3) := by decide +kernel
theorem dX12_count_40 : decode cX12_count 40 = .ok (.iconst 0, 1) := by decide +kernel
theorem dX12_count_41 : decode cX12_count 41 = .ok (.iaload, 1) := by decide +kernel
theorem dX12_count_42 : decode cX12_count 42 = .ok (.ireturn, 1) := by decide +kernel
theorem dX12_count_43 : decode cX12_count 43 = .ok (.aload_n 0, 1) := by decide +kernel
theorem dX12_count_44 : decode cX12_count 44 = .ok (.getfield 98, 3) := by decide +kernel
theorem dX12_count_47 : decode cX12_count 47 = .ok (.iconst 1, 1) := by decide +kernel
theorem dX12_count_48 : decode cX12_count 48 = .ok (.iaload, 1) := by decide +kernel
theorem dX12_count_49 : decode cX12_count 49 = .ok (.ireturn, 1) := by decide +kernel
theorem dX12_count_50 : decode cX12_count 50 = .ok (.aload_n 0, 1) := by decide +kernel
theorem dX12_count_51 : decode cX12_count 51 = .ok (.getfield 98, 3) := by decide +kernel
theorem dX12_count_54 : decode cX12_count 54 = .ok (.iconst 2, 1) := by decide +kernel
theorem dX12_count_55 : decode cX12_count 55 = .ok (.iaload, 1) := by decide +kernel
theorem dX12_count_56 : decode cX12_count 56 = .ok (.ireturn, 1) := by decide +kernel
theorem dX12_count_57 : decode cX12_count 57 = .ok (.aload_n 0, 1) := by decide +kernel
theorem dX12_count_58 : decode cX12_count 58 = .ok (.getfield 11, 3) := by decide +kernel
theorem dX12_count_61 : decode cX12_count 61 = .ok (.ireturn, 1) := by decide +kernel
theorem dX12_count_62 : decode cX12_count 62 = .ok (.iconst (-1), 1) := by decide +kernel
theorem dX12_count_63 : decode cX12_count 63 = .ok (.ireturn, 1) := by decide +kernel
theorem dX12_areHours_0 : decode cX12_areHours 0 = .ok (.iload_n 0, 1) := by decide +kernel
theorem dX12_areHours_1 : decode cX12_areHours 1 = .ok (.iconst 0, 1) := by decide +kernel
theorem dX12_areHours_2 : decode cX12_areHours 2 = .ok (.bipush 23, 2) := by decide +kernel
theorem dX12_areHours_4 : decode cX12_areHours 4 = .ok (.invokestatic 75, 3) := by decide +kernel
theorem dX12_areHours_7 : decode cX12_areHours 7 = .ok (.ifCond .eq 17, 3) := by decide +kernel
theorem dX12_areHours_10 : decode cX12_areHours 10 = .ok (.iload_n 1, 1) := by decide +kernel
theorem dX12_areHours_11 : decode cX12_areHours 11 = .ok (.iload_n 0, 1) := by decide +kernel
theorem dX12_areHours_12 : decode cX12_areHours 12 = .ok (.bipush 23, 2) := by decide +kernel
theorem dX12_areHours_14 : decode cX12_areHours 14 = .ok (.invokestatic 75, 3) := by decide +kernel
theorem dX12_areHours_17 : decode cX12_areHours 17 = .ok (.ifCond .eq 7, 3) := by decide +kernel
theorem dX12_areHours_20 : decode cX12_areHours 20 = .ok (.iconst 1, 1) := by decide +kernel
theorem dX12_areHours_21 : decode cX12_areHours 21 = .ok (.goto 4, 3) := by decide +kernel
theorem dX12_areHours_25 : decode cX12_areHours 25 = .ok (.ireturn, 1) := by decide +kernel
theorem dX12_areHours_24 : decode cX12_areHours 24 = .ok (.iconst 0, 1) := by decide +kernel
