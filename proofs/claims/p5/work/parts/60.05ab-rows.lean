theorem dX0_liveLine_29 : decode cX0_liveLine 29 = .ok (.iaload, 1) := by decide +kernel
theorem dX0_liveLine_30 : decode cX0_liveLine 30 = .ok (.aload_n 0, 1) := by decide +kernel
theorem dX0_liveLine_31 : decode cX0_liveLine 31 = .ok (.getfield 27, 3) := by decide +kernel
theorem dX0_liveLine_34 : decode cX0_liveLine 34 = .ok (.iload_n 1, 1) := by decide +kernel
theorem dX0_liveLine_35 : decode cX0_liveLine 35 = .ok (.iaload, 1) := by decide +kernel
theorem dX0_liveLine_36 : decode cX0_liveLine 36 = .ok (.invokevirtual 132, 3) := by decide +kernel
theorem dX0_liveLine_39 : decode cX0_liveLine 39 = .ok (.invokestatic 136, 3) := by decide +kernel
theorem dX0_liveLine_42 : decode cX0_liveLine 42 = .ok (.ireturn, 1) := by decide +kernel
theorem dX0_liveAll_0 : decode cX0_liveAll 0 = .ok (.aload_n 0, 1) := by decide +kernel
theorem dX0_liveAll_1 : decode cX0_liveAll 1 = .ok (.iconst 0, 1) := by decide +kernel
theorem dX0_liveAll_2 : decode cX0_liveAll 2 = .ok (.putfield 125, 3) := by decide +kernel
theorem dX0_liveAll_5 : decode cX0_liveAll 5 = .ok (.iconst 0, 1) := by decide +kernel
theorem dX0_liveAll_6 : decode cX0_liveAll 6 = .ok (.istore_n 3, 1) := by decide +kernel
theorem dX0_liveAll_7 : decode cX0_liveAll 7 = .ok (.iload_n 3, 1) := by decide +kernel
theorem dX0_liveAll_8 : decode cX0_liveAll 8 = .ok (.aload_n 0, 1) := by decide +kernel
theorem dX0_liveAll_9 : decode cX0_liveAll 9 = .ok (.getfield 30, 3) := by decide +kernel
theorem dX0_liveAll_12 : decode cX0_liveAll 12 = .ok (.if_icmp .ge 29, 3) := by decide +kernel
theorem dX0_liveAll_41 : decode cX0_liveAll 41 = .ok (.aload_n 0, 1) := by decide +kernel
theorem dX0_liveAll_42 : decode cX0_liveAll 42 = .ok (.getfield 30, 3) := by decide +kernel
theorem dX0_liveAll_45 : decode cX0_liveAll 45 = .ok (.ireturn, 1) := by decide +kernel
theorem dX0_liveAll_15 : decode cX0_liveAll 15 = .ok (.aload_n 0, 1) := by decide +kernel
theorem dX0_liveAll_16 : decode cX0_liveAll 16 = .ok (.aload_n 0, 1) := by decide +kernel
theorem dX0_liveAll_17 : decode cX0_liveAll 17 = .ok (.iload_n 3, 1) := by decide +kernel
theorem dX0_liveAll_18 : decode cX0_liveAll 18 = .ok (.aload_n 1, 1) := by decide +kernel
theorem dX0_liveAll_19 : decode cX0_liveAll 19 = .ok (.aload_n 2, 1) := by decide +kernel
theorem dX0_liveAll_20 : decode cX0_liveAll 20 = .ok (.invokevirtual 128, 3) := by decide +kernel
theorem dX0_liveAll_23 : decode cX0_liveAll 23 = .ok (.putfield 125, 3) := by decide +kernel
theorem dX0_liveAll_26 : decode cX0_liveAll 26 = .ok (.aload_n 0, 1) := by decide +kernel
theorem dX0_liveAll_27 : decode cX0_liveAll 27 = .ok (.getfield 125, 3) := by decide +kernel
theorem dX0_liveAll_30 : decode cX0_liveAll 30 = .ok (.ifCond .eq 5, 3) := by decide +kernel
theorem dX0_liveAll_35 : decode cX0_liveAll 35 = .ok (.iinc 3 1, 3) := by decide +kernel
theorem dX0_liveAll_38 : decode cX0_liveAll 38 = .ok (.goto (-31), 3) := by decide +kernel
theorem dX0_liveAll_33 : decode cX0_liveAll 33 = .ok (.iload_n 3, 1) := by decide +kernel
theorem dX0_liveAll_34 : decode cX0_liveAll 34 = .ok (.ireturn, 1) := by decide +kernel
