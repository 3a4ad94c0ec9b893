theorem dX3_mark_0 : decode cX3_mark 0 = .ok (.aload_n 0, 1) := by decide +kernel
theorem dX3_mark_1 : decode cX3_mark 1 = .ok (.getfield 11, 3) := by decide +kernel
theorem dX3_mark_4 : decode cX3_mark 4 = .ok (.aload_n 0, 1) := by decide +kernel
theorem dX3_mark_5 : decode cX3_mark 5 = .ok (.getfield 16, 3) := by decide +kernel
theorem dX3_mark_8 : decode cX3_mark 8 = .ok (.aaload, 1) := by decide +kernel
theorem dX3_mark_9 : decode cX3_mark 9 = .ok (.aload_n 1, 1) := by decide +kernel
theorem dX3_mark_10 : decode cX3_mark 10 = .ok (.invokevirtual 20, 3) := by decide +kernel
theorem dX3_mark_13 : decode cX3_mark 13 = .ok (.return_, 1) := by decide +kernel
theorem dX3_keepMarked_0 : decode cX3_keepMarked 0 = .ok (.aload_n 0, 1) := by decide +kernel
theorem dX3_keepMarked_1 : decode cX3_keepMarked 1 = .ok (.aload_n 0, 1) := by decide +kernel
theorem dX3_keepMarked_2 : decode cX3_keepMarked 2 = .ok (.getfield 16, 3) := by decide +kernel
theorem dX3_keepMarked_5 : decode cX3_keepMarked 5 = .ok (.iconst 1, 1) := by decide +kernel
theorem dX3_keepMarked_6 : decode cX3_keepMarked 6 = .ok (.iadd, 1) := by decide +kernel
theorem dX3_keepMarked_7 : decode cX3_keepMarked 7 = .ok (.bipush 9, 2) := by decide +kernel
theorem dX3_keepMarked_9 : decode cX3_keepMarked 9 = .ok (.irem, 1) := by decide +kernel
theorem dX3_keepMarked_10 : decode cX3_keepMarked 10 = .ok (.putfield 16, 3) := by decide +kernel
theorem dX3_keepMarked_13 : decode cX3_keepMarked 13 = .ok (.aload_n 0, 1) := by decide +kernel
theorem dX3_keepMarked_14 : decode cX3_keepMarked 14 = .ok (.aload_n 0, 1) := by decide +kernel
theorem dX3_keepMarked_15 : decode cX3_keepMarked 15 = .ok (.getfield 24, 3) := by decide +kernel
theorem dX3_keepMarked_18 : decode cX3_keepMarked 18 = .ok (.iconst 1, 1) := by decide +kernel
theorem dX3_keepMarked_19 : decode cX3_keepMarked 19 = .ok (.iadd, 1) := by decide +kernel
theorem dX3_keepMarked_20 : decode cX3_keepMarked 20 = .ok (.bipush 8, 2) := by decide +kernel
theorem dX3_keepMarked_22 : decode cX3_keepMarked 22 = .ok (.invokestatic 27, 3) := by decide +kernel
theorem dX3_keepMarked_25 : decode cX3_keepMarked 25 = .ok (.putfield 24, 3) := by decide +kernel
theorem dX3_keepMarked_28 : decode cX3_keepMarked 28 = .ok (.return_, 1) := by decide +kernel
theorem dX3_takeBack_0 : decode cX3_takeBack 0 = .ok (.aload_n 0, 1) := by decide +kernel
theorem dX3_takeBack_1 : decode cX3_takeBack 1 = .ok (.getfield 24, 3) := by decide +kernel
theorem dX3_takeBack_4 : decode cX3_takeBack 4 = .ok (.ifCond .ne 5, 3) := by decide +kernel
theorem dX3_takeBack_9 : decode cX3_takeBack 9 = .ok (.aload_n 0, 1) := by decide +kernel
theorem dX3_takeBack_10 : decode cX3_takeBack 10 = .ok (.aload_n 0, 1) := by decide +kernel
theorem dX3_takeBack_11 : decode cX3_takeBack 11 = .ok (.getfield 16, 3) := by decide +kernel
theorem dX3_takeBack_14 : decode cX3_takeBack 14 = .ok (.bipush 8, 2) := by decide +kernel
theorem dX3_takeBack_16 : decode cX3_takeBack 16 = .ok (.iadd, 1) := by decide +kernel
theorem dX3_takeBack_17 : decode cX3_takeBack 17 = .ok (.bipush 9, 2) := by decide +kernel
theorem dX3_takeBack_19 : decode cX3_takeBack 19 = .ok (.irem, 1) := by decide +kernel
theorem dX3_takeBack_20 : decode cX3_takeBack 20 = .ok (.putfield 16, 3) := by decide +kernel
theorem dX3_takeBack_23 : decode cX3_takeBack 23 = .ok (.aload_n 0, 1) := by decide +kernel
theorem dX3_takeBack_24 : decode cX3_takeBack 24 = .ok (.dup, 1) := by decide +kernel
theorem dX3_takeBack_25 : decode cX3_takeBack 25 = .ok (.getfield 24, 3) := by decide +kernel
theorem dX3_takeBack_28 : decode cX3_takeBack 28 = .ok (.iconst 1, 1) := by decide +kernel
theorem dX3_takeBack_29 : decode cX3_takeBack 29 = .ok (.isub, 1) := by decide +kernel
theorem dX3_takeBack_30 : decode cX3_takeBack 30 = .ok (.putfield 24, 3) := by decide +kernel
theorem dX3_takeBack_33 : decode cX3_takeBack 33 = .ok (.aload_n 1, 1) := by decide +kernel
theorem dX3_takeBack_34 : decode cX3_takeBack 34 = .ok (.aload_n 0, 1) := by decide +kernel
theorem dX3_takeBack_35 : decode cX3_takeBack 35 = .ok (.getfield 11, 3) := by decide +kernel
theorem dX3_takeBack_38 : decode cX3_takeBack 38 = .ok (.aload_n 0, 1) := by decide +kernel
theorem dX3_takeBack_39 : decode cX3_takeBack 39 = .ok (.getfield 16, 3) := by decide +kernel
theorem dX3_takeBack_42 : decode cX3_takeBack 42 = .ok (.aaload, 1) := by decide +kernel
theorem dX3_takeBack_43 : decode cX3_takeBack 43 = .ok (.invokevirtual 20, 3) := by decide +kernel
theorem dX3_takeBack_46 : decode cX3_takeBack 46 = .ok (.iconst 1, 1) := by decide +kernel
theorem dX3_takeBack_47 : decode cX3_takeBack 47 = .ok (.ireturn, 1) := by decide +kernel
theorem dX3_takeBack_7 : decode cX3_takeBack 7 = .ok (.iconst 0, 1) := by decide +kernel
theorem dX3_takeBack_8 : decode cX3_takeBack 8 = .ok (.ireturn, 1) := by decide +kernel
theorem dX3_forget_0 : decode cX3_forget 0 = .ok (.aload_n 0, 1) := by decide +kernel
theorem dX3_forget_1 : decode cX3_forget 1 = .ok (.iconst 0, 1) := by decide +kernel
theorem dX3_forget_2 : decode cX3_forget 2 = .ok (.putfield 24, 3) := by decide +kernel
theorem dX3_forget_5 : decode cX3_forget 5 = .ok (.return_, 1) := by decide +kernel
theorem dX9_sharedDivisor_0 : decode cX9_sharedDivisor 0 = .ok (.iconst 0, 1) := by decide +kernel
theorem dX9_sharedDivisor_1 : decode cX9_sharedDivisor 1 = .ok (.istore 4, 2) := by decide +kernel
theorem dX9_sharedDivisor_3 : decode cX9_sharedDivisor 3 = .ok (.iload 4, 2) := by decide +kernel
theorem dX9_sharedDivisor_5 : decode cX9_sharedDivisor 5 = .ok (.sipush 200, 3) := by decide +kernel
theorem dX9_sharedDivisor_8 : decode cX9_sharedDivisor 8 = .ok (.if_icmp .ge 25, 3) := by decide +kernel
theorem dX9_sharedDivisor_33 : decode cX9_sharedDivisor 33 = .ok (.lload_n 0, 1) := by decide +kernel
theorem dX9_sharedDivisor_34 : decode cX9_sharedDivisor 34 = .ok (.lreturn, 1) := by decide +kernel
theorem dX9_sharedDivisor_11 : decode cX9_sharedDivisor 11 = .ok (.lload_n 2, 1) := by decide +kernel
theorem dX9_sharedDivisor_12 : decode cX9_sharedDivisor 12 = .ok (.lconst 0, 1) := by decide +kernel
theorem dX9_sharedDivisor_13 : decode cX9_sharedDivisor 13 = .ok (.lcmp, 1) := by decide +kernel
theorem dX9_sharedDivisor_14 : decode cX9_sharedDivisor 14 = .ok (.ifCond .eq 19, 3) := by decide +kernel
theorem dX9_sharedDivisor_17 : decode cX9_sharedDivisor 17 = .ok (.lload_n 0, 1) := by decide +kernel
theorem dX9_sharedDivisor_18 : decode cX9_sharedDivisor 18 = .ok (.lload_n 2, 1) := by decide +kernel
theorem dX9_sharedDivisor_19 : decode cX9_sharedDivisor 19 = .ok (.lrem, 1) := by decide +kernel
theorem dX9_sharedDivisor_20 : decode cX9_sharedDivisor 20 = .ok (.lstore 5, 2) := by decide +kernel
theorem dX9_sharedDivisor_22 : decode cX9_sharedDivisor 22 = .ok (.lload_n 2, 1) := by decide +kernel
theorem dX9_sharedDivisor_23 : decode cX9_sharedDivisor 23 = .ok (.lstore_n 0, 1) := by decide +kernel
theorem dX9_sharedDivisor_24 : decode cX9_sharedDivisor 24 = .ok (.lload 5, 2) := by decide +kernel
theorem dX9_sharedDivisor_26 : decode cX9_sharedDivisor 26 = .ok (.lstore_n 2, 1) := by decide +kernel
theorem dX9_sharedDivisor_27 : decode cX9_sharedDivisor 27 = .ok (.iinc 4 1, 3) := by decide +kernel
theorem dX9_sharedDivisor_30 : decode cX9_sharedDivisor 30 = .ok (.goto (-27), 3) := by decide +kernel
theorem dX11_closeTape_0 : decode cX11_closeTape 0 = .ok (.aload_n 0, 1) := by decide +kernel
theorem dX11_closeTape_1 : decode cX11_closeTape 1 = .ok (.aload_n 0, 1) := by decide +kernel
theorem dX11_closeTape_2 : decode cX11_closeTape 2 = .ok (.getfield 10, 3) := by decide +kernel
theorem dX11_closeTape_5 : decode cX11_closeTape 5 = .ok (.getfield 380, 3) := by decide +kernel
theorem dX11_closeTape_8 : decode cX11_closeTape 8 = .ok (.putfield 117, 3) := by decide +kernel
theorem dX11_closeTape_11 : decode cX11_closeTape 11 = .ok (.aload_n 0, 1) := by decide +kernel
theorem dX11_closeTape_12 : decode cX11_closeTape 12 = .ok (.getfield 10, 3) := by decide +kernel
theorem dX11_closeTape_15 : decode cX11_closeTape 15 = .ok (.iconst 0, 1) := by decide +kernel
theorem dX11_closeTape_16 : decode cX11_closeTape 16 = .ok (.putfield 100, 3) := by decide +kernel
theorem dX11_closeTape_19 : decode cX11_closeTape 19 = .ok (.return_, 1) := by decide +kernel
theorem dX11_keepIfDone_0 : decode cX11_keepIfDone 0 = .ok (.iload_n 1, 1) := by decide +kernel
theorem dX11_keepIfDone_1 : decode cX11_keepIfDone 1 = .ok (.ifCond .ne 10, 3) := by decide +kernel
theorem dX11_keepIfDone_11 : decode cX11_keepIfDone 11 = .ok (.iload_n 1, 1) := by decide +kernel
theorem dX11_keepIfDone_12 : decode cX11_keepIfDone 12 = .ok (.ireturn, 1) := by decide +kernel
theorem dX11_keepIfDone_4 : decode cX11_keepIfDone 4 = .ok (.aload_n 0, 1) := by decide +kernel
theorem dX11_keepIfDone_5 : decode cX11_keepIfDone 5 = .ok (.getfield 60, 3) := by decide +kernel
theorem dX11_keepIfDone_8 : decode cX11_keepIfDone 8 = .ok (.invokevirtual 268, 3) := by decide +kernel
theorem dX11_areHours_0 : decode cX11_areHours 0 = .ok (.iload_n 0, 1) := by decide +kernel
theorem dX11_areHours_1 : decode cX11_areHours 1 = .ok (.ifCond .lt 18, 3) := by decide +kernel
theorem dX11_areHours_19 : decode cX11_areHours 19 = .ok (.iconst 0, 1) := by decide +kernel
theorem dX11_areHours_20 : decode cX11_areHours 20 = .ok (.ireturn, 1) := by decide +kernel
theorem dX11_areHours_4 : decode cX11_areHours 4 = .ok (.iload_n 0, 1) := by decide +kernel
theorem dX11_areHours_5 : decode cX11_areHours 5 = .ok (.iload_n 1, 1) := by decide +kernel
theorem dX11_areHours_6 : decode cX11_areHours 6 = .ok (.if_icmp .gt 13, 3) := by decide +kernel
theorem dX11_areHours_9 : decode cX11_areHours 9 = .ok (.iload_n 1, 1) := by decide +kernel
theorem dX11_areHours_10 : decode cX11_areHours 10 = .ok (.bipush 24, 2) := by decide +kernel
theorem dX11_areHours_12 : decode cX11_areHours 12 = .ok (.if_icmp .ge 7, 3) := by decide +kernel
theorem dX11_areHours_15 : decode cX11_areHours 15 = .ok (.iconst 1, 1) := by decide +kernel
theorem dX11_areHours_16 : decode cX11_areHours 16 = .ok (.goto 4, 3) := by decide +kernel
