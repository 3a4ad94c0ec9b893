theorem dX11_hoursOf_0 : decode cX11_hoursOf 0 = .ok (.iconst 1, 1) := by decide +kernel
theorem dX11_hoursOf_1 : decode cX11_hoursOf 1 = .ok (.iload_n 1, 1) := by decide +kernel
theorem dX11_hoursOf_2 : decode cX11_hoursOf 2 = .ok (.iconst 1, 1) := by decide +kernel
theorem dX11_hoursOf_3 : decode cX11_hoursOf 3 = .ok (.iadd, 1) := by decide +kernel
theorem dX11_hoursOf_4 : decode cX11_hoursOf 4 = .ok (.ishl, 1) := by decide +kernel
theorem dX11_hoursOf_5 : decode cX11_hoursOf 5 = .ok (.iconst 1, 1) := by decide +kernel
theorem dX11_hoursOf_6 : decode cX11_hoursOf 6 = .ok (.iload_n 0, 1) := by decide +kernel
theorem dX11_hoursOf_7 : decode cX11_hoursOf 7 = .ok (.ishl, 1) := by decide +kernel
theorem dX11_hoursOf_8 : decode cX11_hoursOf 8 = .ok (.isub, 1) := by decide +kernel
theorem dX11_hoursOf_9 : decode cX11_hoursOf 9 = .ok (.ireturn, 1) := by decide +kernel
theorem dJ6_bitCount_0f7a4_0 : decode cJ6_bitCount_0f7a4 0 = .ok (.iload_n 0, 1) := by decide +kernel
theorem dJ6_bitCount_0f7a4_1 : decode cJ6_bitCount_0f7a4 1 = .ok (.iload_n 0, 1) := by decide +kernel
theorem dJ6_bitCount_0f7a4_2 : decode cJ6_bitCount_0f7a4 2 = .ok (.iconst 1, 1) := by decide +kernel
theorem dJ6_bitCount_0f7a4_3 : decode cJ6_bitCount_0f7a4 3 = .ok (.iushr, 1) := by decide +kernel
theorem dJ6_bitCount_0f7a4_4 : decode cJ6_bitCount_0f7a4 4 = .ok (.ldc_w 265, 3) := by decide +kernel
theorem dJ6_bitCount_0f7a4_7 : decode cJ6_bitCount_0f7a4 7 = .ok (.iand, 1) := by decide +kernel
theorem dJ6_bitCount_0f7a4_8 : decode cJ6_bitCount_0f7a4 8 = .ok (.isub, 1) := by decide +kernel
theorem dJ6_bitCount_0f7a4_9 : decode cJ6_bitCount_0f7a4 9 = .ok (.istore_n 0, 1) := by decide +kernel
theorem dJ6_bitCount_0f7a4_10 : decode cJ6_bitCount_0f7a4 10 = .ok (.iload_n 0, 1) := by decide +kernel
theorem dJ6_bitCount_0f7a4_11 : decode cJ6_bitCount_0f7a4 11 = .ok (.ldc_w 266, 3) := by decide +kernel
theorem dJ6_bitCount_0f7a4_14 : decode cJ6_bitCount_0f7a4 14 = .ok (.iand, 1) := by decide +kernel
theorem dJ6_bitCount_0f7a4_15 : decode cJ6_bitCount_0f7a4 15 = .ok (.iload_n 0, 1) := by decide +kernel
theorem dJ6_bitCount_0f7a4_16 : decode cJ6_bitCount_0f7a4 16 = .ok (.iconst 2, 1) := by decide +kernel
theorem dJ6_bitCount_0f7a4_17 : decode cJ6_bitCount_0f7a4 17 = .ok (.iushr, 1) := by decide +kernel
theorem dJ6_bitCount_0f7a4_18 : decode cJ6_bitCount_0f7a4 18 = .ok (.ldc_w 266, 3) := by decide +kernel
theorem dJ6_bitCount_0f7a4_21 : decode cJ6_bitCount_0f7a4 21 = .ok (.iand, 1) := by decide +kernel
theorem dJ6_bitCount_0f7a4_22 : decode cJ6_bitCount_0f7a4 22 = .ok (.iadd, 1) := by decide +kernel
theorem dJ6_bitCount_0f7a4_23 : decode cJ6_bitCount_0f7a4 23 = .ok (.istore_n 0, 1) := by decide +kernel
theorem dJ6_bitCount_0f7a4_24 : decode cJ6_bitCount_0f7a4 24 = .ok (.iload_n 0, 1) := by decide +kernel
theorem dJ6_bitCount_0f7a4_25 : decode cJ6_bitCount_0f7a4 25 = .ok (.iload_n 0, 1) := by decide +kernel
theorem dJ6_bitCount_0f7a4_26 : decode cJ6_bitCount_0f7a4 26 = .ok (.iconst 4, 1) := by decide +kernel
theorem dJ6_bitCount_0f7a4_27 : decode cJ6_bitCount_0f7a4 27 = .ok (.iushr, 1) := by decide +kernel
theorem dJ6_bitCount_0f7a4_28 : decode cJ6_bitCount_0f7a4 28 = .ok (.iadd, 1) := by decide +kernel
theorem dJ6_bitCount_0f7a4_29 : decode cJ6_bitCount_0f7a4 29 = .ok (.ldc_w 267, 3) := by decide +kernel
theorem dJ6_bitCount_0f7a4_32 : decode cJ6_bitCount_0f7a4 32 = .ok (.iand, 1) := by decide +kernel
theorem dJ6_bitCount_0f7a4_33 : decode cJ6_bitCount_0f7a4 33 = .ok (.istore_n 0, 1) := by decide +kernel
theorem dJ6_bitCount_0f7a4_34 : decode cJ6_bitCount_0f7a4 34 = .ok (.iload_n 0, 1) := by decide +kernel
theorem dJ6_bitCount_0f7a4_35 : decode cJ6_bitCount_0f7a4 35 = .ok (.iload_n 0, 1) := by decide +kernel
theorem dJ6_bitCount_0f7a4_36 : decode cJ6_bitCount_0f7a4 36 = .ok (.bipush 8, 2) := by decide +kernel
theorem dJ6_bitCount_0f7a4_38 : decode cJ6_bitCount_0f7a4 38 = .ok (.iushr, 1) := by decide +kernel
theorem dJ6_bitCount_0f7a4_39 : decode cJ6_bitCount_0f7a4 39 = .ok (.iadd, 1) := by decide +kernel
theorem dJ6_bitCount_0f7a4_40 : decode cJ6_bitCount_0f7a4 40 = .ok (.istore_n 0, 1) := by decide +kernel
theorem dJ6_bitCount_0f7a4_41 : decode cJ6_bitCount_0f7a4 41 = .ok (.iload_n 0, 1) := by decide +kernel
theorem dJ6_bitCount_0f7a4_42 : decode cJ6_bitCount_0f7a4 42 = .ok (.iload_n 0, 1) := by decide +kernel
theorem dJ6_bitCount_0f7a4_43 : decode cJ6_bitCount_0f7a4 43 = .ok (.bipush 16, 2) := by decide +kernel
theorem dJ6_bitCount_0f7a4_45 : decode cJ6_bitCount_0f7a4 45 = .ok (.iushr, 1) := by decide +kernel
theorem dJ6_bitCount_0f7a4_46 : decode cJ6_bitCount_0f7a4 46 = .ok (.iadd, 1) := by decide +kernel
theorem dJ6_bitCount_0f7a4_47 : decode cJ6_bitCount_0f7a4 47 = .ok (.istore_n 0, 1) := by decide +kernel
theorem dJ6_bitCount_0f7a4_48 : decode cJ6_bitCount_0f7a4 48 = .ok (.iload_n 0, 1) := by decide +kernel
theorem dJ6_bitCount_0f7a4_49 : decode cJ6_bitCount_0f7a4 49 = .ok (.bipush 63, 2) := by decide +kernel
theorem dJ6_bitCount_0f7a4_51 : decode cJ6_bitCount_0f7a4 51 = .ok (.iand, 1) := by decide +kernel
theorem dJ6_bitCount_0f7a4_52 : decode cJ6_bitCount_0f7a4 52 = .ok (.ireturn, 1) := by decide +kernel
theorem dX6_hours_0 : decode cX6_hours 0 = .ok (.aload_n 0, 1) := by decide +kernel
theorem dX6_hours_1 : decode cX6_hours 1 = .ok (.getfield 17, 3) := by decide +kernel
theorem dX6_hours_4 : decode cX6_hours 4 = .ok (.aload_n 0, 1) := by decide +kernel
theorem dX6_hours_5 : decode cX6_hours 5 = .ok (.getfield 20, 3) := by decide +kernel
theorem dX6_hours_8 : decode cX6_hours 8 = .ok (.invokestatic 38, 3) := by decide +kernel
theorem dX6_hours_11 : decode cX6_hours 11 = .ok (.ireturn, 1) := by decide +kernel
theorem dX6_isDue_0 : decode cX6_isDue 0 = .ok (.aload_n 0, 1) := by decide +kernel
theorem dX6_isDue_1 : decode cX6_isDue 1 = .ok (.getfield 13, 3) := by decide +kernel
theorem dX6_isDue_4 : decode cX6_isDue 4 = .ok (.iload_n 1, 1) := by decide +kernel
theorem dX6_isDue_5 : decode cX6_isDue 5 = .ok (.if_icmp .ne 23, 3) := by decide +kernel
theorem dX6_isDue_28 : decode cX6_isDue 28 = .ok (.iconst 0, 1) := by decide +kernel
theorem dX6_isDue_29 : decode cX6_isDue 29 = .ok (.ireturn, 1) := by decide +kernel
theorem dX6_isDue_8 : decode cX6_isDue 8 = .ok (.aload_n 0, 1) := by decide +kernel
theorem dX6_isDue_9 : decode cX6_isDue 9 = .ok (.getfield 17, 3) := by decide +kernel
theorem dX6_isDue_12 : decode cX6_isDue 12 = .ok (.iload_n 2, 1) := by decide +kernel
theorem dX6_isDue_13 : decode cX6_isDue 13 = .ok (.if_icmp .gt 15, 3) := by decide +kernel
theorem dX6_isDue_16 : decode cX6_isDue 16 = .ok (.iload_n 2, 1) := by decide +kernel
theorem dX6_isDue_17 : decode cX6_isDue 17 = .ok (.aload_n 0, 1) := by decide +kernel
theorem dX6_isDue_18 : decode cX6_isDue 18 = .ok (.getfield 20, 3) := by decide +kernel
theorem dX6_isDue_21 : decode cX6_isDue 21 = .ok (.if_icmp .gt 7, 3) := by decide +kernel
theorem dX6_isDue_24 : decode cX6_isDue 24 = .ok (.iconst 1, 1) := by decide +kernel
theorem dX6_isDue_25 : decode cX6_isDue 25 = .ok (.goto 4, 3) := by decide +kernel
theorem dX4_hasPlace_0 : decode cX4_hasPlace 0 = .ok (.iload_n 1, 1) := by decide +kernel
theorem dX4_hasPlace_1 : decode cX4_hasPlace 1 = .ok (.ifCond .lt 15, 3) := by decide +kernel
theorem dX4_hasPlace_16 : decode cX4_hasPlace 16 = .ok (.iconst 0, 1) := by decide +kernel
theorem dX4_hasPlace_17 : decode cX4_hasPlace 17 = .ok (.ireturn, 1) := by decide +kernel
theorem dX4_hasPlace_4 : decode cX4_hasPlace 4 = .ok (.iload_n 1, 1) := by decide +kernel
theorem dX4_hasPlace_5 : decode cX4_hasPlace 5 = .ok (.aload_n 0, 1) := by decide +kernel
theorem dX4_hasPlace_6 : decode cX4_hasPlace 6 = .ok (.getfield 41, 3) := by decide +kernel
theorem dX4_hasPlace_9 : decode cX4_hasPlace 9 = .ok (.if_icmp .ge 7, 3) := by decide +kernel
theorem dX4_hasPlace_12 : decode cX4_hasPlace 12 = .ok (.iconst 1, 1) := by decide +kernel
theorem dX4_hasPlace_13 : decode cX4_hasPlace 13 = .ok (.goto 4, 3) := by decide +kernel
theorem dX4_hasPerson_0 : decode cX4_hasPerson 0 = .ok (.iload_n 1, 1) := by decide +kernel
theorem dX4_hasPerson_1 : decode cX4_hasPerson 1 = .ok (.ifCond .lt 15, 3) := by decide +kernel
theorem dX4_hasPerson_16 : decode cX4_hasPerson 16 = .ok (.iconst 0, 1) := by decide +kernel
theorem dX4_hasPerson_17 : decode cX4_hasPerson 17 = .ok (.ireturn, 1) := by decide +kernel
theorem dX4_hasPerson_4 : decode cX4_hasPerson 4 = .ok (.iload_n 1, 1) := by decide +kernel
theorem dX4_hasPerson_5 : decode cX4_hasPerson 5 = .ok (.aload_n 0, 1) := by decide +kernel
theorem dX4_hasPerson_6 : decode cX4_hasPerson 6 = .ok (.getfield 44, 3) := by decide +kernel
theorem dX4_hasPerson_9 : decode cX4_hasPerson 9 = .ok (.if_icmp .ge 7, 3) := by decide +kernel
theorem dX4_hasPerson_12 : decode cX4_hasPerson 12 = .ok (.iconst 1, 1) := by decide +kernel
theorem dX4_hasPerson_13 : decode cX4_hasPerson 13 = .ok (.goto 4, 3) := by decide +kernel
theorem dX4_hasDog_0 : decode cX4_hasDog 0 = .ok (.iload_n 1, 1) := by decide +kernel
theorem dX4_hasDog_1 : decode cX4_hasDog 1 = .ok (.ifCond .lt 15, 3) := by decide +kernel
theorem dX4_hasDog_16 : decode cX4_hasDog 16 = .ok (.iconst 0, 1) := by decide +kernel
theorem dX4_hasDog_17 : decode cX4_hasDog 17 = .ok (.ireturn, 1) := by decide +kernel
theorem dX4_hasDog_4 : decode cX4_hasDog 4 = .ok (.iload_n 1, 1) := by decide +kernel
theorem dX4_hasDog_5 : decode cX4_hasDog 5 = .ok (.aload_n 0, 1) := by decide +kernel
theorem dX4_hasDog_6 : decode cX4_hasDog 6 = .ok (.getfield 47, 3) := by decide +kernel
theorem dX4_hasDog_9 : decode cX4_hasDog 9 = .ok (.if_icmp .ge 7, 3) := by decide +kernel
theorem dX4_hasDog_12 : decode cX4_hasDog 12 = .ok (.iconst 1, 1) := by decide +kernel
theorem dX4_hasDog_13 : decode cX4_hasDog 13 = .ok (.goto 4, 3) := by decide +kernel
theorem dX4_comersTo_0 : decode cX4_comersTo 0 = .ok (.iconst 0, 1) := by decide +kernel
theorem dX4_comersTo_1 : decode cX4_comersTo 1 = .ok (.istore_n 2, 1) := by decide +kernel
theorem dX4_comersTo_2 : decode cX4_comersTo 2 = .ok (.iconst 0, 1) := by decide +kernel
theorem dX4_comersTo_3 : decode cX4_comersTo 3 = .ok (.istore_n 3, 1) := by decide +kernel
theorem dX4_comersTo_4 : decode cX4_comersTo 4 = .ok (.iload_n 3, 1) := by decide +kernel
theorem dX4_comersTo_5 : decode cX4_comersTo 5 = .ok (.aload_n 0, 1) := by decide +kernel
theorem dX4_comersTo_6 : decode cX4_comersTo 6 = .ok (.getfield 44, 3) := by decide +kernel
theorem dX4_comersTo_9 : decode cX4_comersTo 9 = .ok (.if_icmp .ge 28, 3) := by decide +kernel
theorem dX4_comersTo_37 : decode cX4_comersTo 37 = .ok (.iload_n 2, 1) := by decide +kernel
theorem dX4_comersTo_38 : decode cX4_comersTo 38 = .ok (.ireturn, 1) := by decide +kernel
theorem dX4_comersTo_12 : decode cX4_comersTo 12 = .ok (.aload_n 0, 1) := by decide +kernel
theorem dX4_comersTo_13 : decode cX4_comersTo 13 = .ok (.getfield 25, 3) := by decide +kernel
theorem dX4_comersTo_16 : decode cX4_comersTo 16 = .ok (.iload_n 3, 1) := by decide +kernel
theorem dX4_comersTo_17 : decode cX4_comersTo 17 = .ok (.aaload, 1) := by decide +kernel
theorem dX4_comersTo_18 : decode cX4_comersTo 18 = .ok (.getfield 97, 3) := by decide +kernel
theorem dX4_comersTo_21 : decode cX4_comersTo 21 = .ok (.iload_n 1, 1) := by decide +kernel
theorem dX4_comersTo_22 : decode cX4_comersTo 22 = .ok (.if_icmp .ne 9, 3) := by decide +kernel
theorem dX4_comersTo_31 : decode cX4_comersTo 31 = .ok (.iinc 3 1, 3) := by decide +kernel
theorem dX4_comersTo_34 : decode cX4_comersTo 34 = .ok (.goto (-30), 3) := by decide +kernel
theorem dX4_comersTo_25 : decode cX4_comersTo 25 = .ok (.iload_n 2, 1) := by decide +kernel
theorem dX4_comersTo_26 : decode cX4_comersTo 26 = .ok (.iconst 1, 1) := by decide +kernel
theorem dX4_comersTo_27 : decode cX4_comersTo 27 = .ok (.iload_n 3, 1) := by decide +kernel
theorem dX4_comersTo_28 : decode cX4_comersTo 28 = .ok (.ishl, 1) := by decide +kernel
theorem dX4_comersTo_29 : decode cX4_comersTo 29 = .ok (.ior, 1) := by decide +kernel
theorem dX4_comersTo_30 : decode cX4_comersTo 30 = .ok (.istore_n 2, 1) := by decide +kernel
theorem dX4_thoseThere_0 : decode cX4_thoseThere 0 = .ok (.iconst 0, 1) := by decide +kernel
theorem dX4_thoseThere_1 : decode cX4_thoseThere 1 = .ok (.istore_n 3, 1) := by decide +kernel
theorem dX4_thoseThere_2 : decode cX4_thoseThere 2 = .ok (.iconst 0, 1) := by decide +kernel
theorem dX4_thoseThere_3 : decode cX4_thoseThere 3 = .ok (.istore 4, 2) := by decide +kernel
theorem dX4_thoseThere_5 : decode cX4_thoseThere 5 = .ok (.iload 4, 2) := by decide +kernel
theorem dX4_thoseThere_7 : decode cX4_thoseThere 7 = .ok (.aload_n 0, 1) := by decide +kernel
theorem dX4_thoseThere_8 : decode cX4_thoseThere 8 = .ok (.getfield 44, 3) := by decide +kernel
theorem dX4_thoseThere_11 : decode cX4_thoseThere 11 = .ok (.if_icmp .ge 44, 3) := by decide +kernel
theorem dX4_thoseThere_55 : decode cX4_thoseThere 55 = .ok (.iload_n 3, 1) := by decide +kernel
theorem dX4_thoseThere_56 : decode cX4_thoseThere 56 = .ok (.ireturn, 1) := by decide +kernel
theorem dX4_thoseThere_14 : decode cX4_thoseThere 14 = .ok (.aload_n 0, 1) := by decide +kernel
theorem dX4_thoseThere_15 : decode cX4_thoseThere 15 = .ok (.getfield 25, 3) := by decide +kernel
theorem dX4_thoseThere_18 : decode cX4_thoseThere 18 = .ok (.iload 4, 2) := by decide +kernel
theorem dX4_thoseThere_20 : decode cX4_thoseThere 20 = .ok (.aaload, 1) := by decide +kernel
theorem dX4_thoseThere_21 : decode cX4_thoseThere 21 = .ok (.getfield 70, 3) := by decide +kernel
theorem dX4_thoseThere_24 : decode cX4_thoseThere 24 = .ok (.ifCond .ne 25, 3) := by decide +kernel
theorem dX4_thoseThere_49 : decode cX4_thoseThere 49 = .ok (.iinc 4 1, 3) := by decide +kernel
theorem dX4_thoseThere_52 : decode cX4_thoseThere 52 = .ok (.goto (-47), 3) := by decide +kernel
theorem dX4_thoseThere_27 : decode cX4_thoseThere 27 = .ok (.aload_n 0, 1) := by decide +kernel
theorem dX4_thoseThere_28 : decode cX4_thoseThere 28 = .ok (.getfield 25, 3) := by decide +kernel
theorem dX4_thoseThere_31 : decode cX4_thoseThere 31 = .ok (.iload 4, 2) := by decide +kernel
theorem dX4_thoseThere_33 : decode cX4_thoseThere 33 = .ok (.aaload, 1) := by decide +kernel
theorem dX4_thoseThere_34 : decode cX4_thoseThere 34 = .ok (.iload_n 1, 1) := by decide +kernel
theorem dX4_thoseThere_35 : decode cX4_thoseThere 35 = .ok (.iload_n 2, 1) := by decide +kernel
theorem dX4_thoseThere_36 : decode cX4_thoseThere 36 = .ok (.invokevirtual 106, 3) := by decide +kernel
theorem dX4_thoseThere_39 : decode cX4_thoseThere 39 = .ok (.ifCond .eq 10, 3) := by decide +kernel
theorem dX4_thoseThere_42 : decode cX4_thoseThere 42 = .ok (.iload_n 3, 1) := by decide +kernel
theorem dX4_thoseThere_43 : decode cX4_thoseThere 43 = .ok (.iconst 1, 1) := by decide +kernel
theorem dX4_thoseThere_44 : decode cX4_thoseThere 44 = .ok (.iload 4, 2) := by decide +kernel
theorem dX4_thoseThere_46 : decode cX4_thoseThere 46 = .ok (.ishl, 1) := by decide +kernel
theorem dX4_thoseThere_47 : decode cX4_thoseThere 47 = .ok (.ior, 1) := by decide +kernel
theorem dX4_thoseThere_48 : decode cX4_thoseThere 48 = .ok (.istore_n 3, 1) := by decide +kernel
theorem dX4_countComers_0 : decode cX4_countComers 0 = .ok (.iconst 0, 1) := by decide +kernel
theorem dX4_countComers_1 : decode cX4_countComers 1 = .ok (.istore 4, 2) := by decide +kernel
theorem dX4_countComers_3 : decode cX4_countComers 3 = .ok (.iconst 0, 1) := by decide +kernel
theorem dX4_countComers_4 : decode cX4_countComers 4 = .ok (.istore 5, 2) := by decide +kernel
theorem dX4_countComers_6 : decode cX4_countComers 6 = .ok (.iload 5, 2) := by decide +kernel
theorem dX4_countComers_8 : decode cX4_countComers 8 = .ok (.aload_n 0, 1) := by decide +kernel
theorem dX4_countComers_9 : decode cX4_countComers 9 = .ok (.getfield 44, 3) := by decide +kernel
theorem dX4_countComers_12 : decode cX4_countComers 12 = .ok (.if_icmp .ge 64, 3) := by decide +kernel
theorem dX4_countComers_76 : decode cX4_countComers 76 = .ok (.iload 4, 2) := by decide +kernel
theorem dX4_countComers_78 : decode cX4_countComers 78 = .ok (.ireturn, 1) := by decide +kernel
theorem dX4_countComers_15 : decode cX4_countComers 15 = .ok (.aload_n 0, 1) := by decide +kernel
theorem dX4_countComers_16 : decode cX4_countComers 16 = .ok (.getfield 25, 3) := by decide +kernel
theorem dX4_countComers_19 : decode cX4_countComers 19 = .ok (.iload 5, 2) := by decide +kernel
theorem dX4_countComers_21 : decode cX4_countComers 21 = .ok (.aaload, 1) := by decide +kernel
theorem dX4_countComers_22 : decode cX4_countComers 22 = .ok (.astore 6, 2) := by decide +kernel
theorem dX4_countComers_24 : decode cX4_countComers 24 = .ok (.aload 6, 2) := by decide +kernel
theorem dX4_countComers_26 : decode cX4_countComers 26 = .ok (.getfield 97, 3) := by decide +kernel
theorem dX4_countComers_29 : decode cX4_countComers 29 = .ok (.iload_n 1, 1) := by decide +kernel
theorem dX4_countComers_30 : decode cX4_countComers 30 = .ok (.if_icmp .ne 40, 3) := by decide +kernel
theorem dX4_countComers_70 : decode cX4_countComers 70 = .ok (.iinc 5 1, 3) := by decide +kernel
theorem dX4_countComers_73 : decode cX4_countComers 73 = .ok (.goto (-67), 3) := by decide +kernel
theorem dX4_countComers_33 : decode cX4_countComers 33 = .ok (.aload 6, 2) := by decide +kernel
theorem dX4_countComers_35 : decode cX4_countComers 35 = .ok (.getfield 77, 3) := by decide +kernel
theorem dX4_countComers_38 : decode cX4_countComers 38 = .ok (.ifCond .eq 7, 3) := by decide +kernel
theorem dX4_countComers_45 : decode cX4_countComers 45 = .ok (.iconst 0, 1) := by decide +kernel
theorem dX4_countComers_46 : decode cX4_countComers 46 = .ok (.iload_n 2, 1) := by decide +kernel
theorem dX4_countComers_47 : decode cX4_countComers 47 = .ok (.if_icmp .ne 23, 3) := by decide +kernel
theorem dX4_countComers_50 : decode cX4_countComers 50 = .ok (.aload 6, 2) := by decide +kernel
theorem dX4_countComers_52 : decode cX4_countComers 52 = .ok (.getfield 70, 3) := by decide +kernel
theorem dX4_countComers_55 : decode cX4_countComers 55 = .ok (.ifCond .le 7, 3) := by decide +kernel
theorem dX4_countComers_62 : decode cX4_countComers 62 = .ok (.iconst 0, 1) := by decide +kernel
theorem dX4_countComers_63 : decode cX4_countComers 63 = .ok (.iload_n 3, 1) := by decide +kernel
theorem dX4_countComers_64 : decode cX4_countComers 64 = .ok (.if_icmp .ne 6, 3) := by decide +kernel
theorem dX4_countComers_67 : decode cX4_countComers 67 = .ok (.iinc 4 1, 3) := by decide +kernel
theorem dX4_countComers_58 : decode cX4_countComers 58 = .ok (.iconst 1, 1) := by decide +kernel
theorem dX4_countComers_59 : decode cX4_countComers 59 = .ok (.goto 4, 3) := by decide +kernel
theorem dX4_countComers_41 : decode cX4_countComers 41 = .ok (.iconst 1, 1) := by decide +kernel
theorem dX4_countComers_42 : decode cX4_countComers 42 = .ok (.goto 4, 3) := by decide +kernel
theorem dX4_awayBits_0 : decode cX4_awayBits 0 = .ok (.iconst 0, 1) := by decide +kernel
theorem dX4_awayBits_1 : decode cX4_awayBits 1 = .ok (.istore_n 1, 1) := by decide +kernel
theorem dX4_awayBits_2 : decode cX4_awayBits 2 = .ok (.iconst 0, 1) := by decide +kernel
theorem dX4_awayBits_3 : decode cX4_awayBits 3 = .ok (.istore_n 2, 1) := by decide +kernel
theorem dX4_awayBits_4 : decode cX4_awayBits 4 = .ok (.iload_n 2, 1) := by decide +kernel
theorem dX4_awayBits_5 : decode cX4_awayBits 5 = .ok (.aload_n 0, 1) := by decide +kernel
theorem dX4_awayBits_6 : decode cX4_awayBits 6 = .ok (.getfield 44, 3) := by decide +kernel
theorem dX4_awayBits_9 : decode cX4_awayBits 9 = .ok (.if_icmp .ge 27, 3) := by decide +kernel
theorem dX4_awayBits_36 : decode cX4_awayBits 36 = .ok (.iload_n 1, 1) := by decide +kernel
theorem dX4_awayBits_37 : decode cX4_awayBits 37 = .ok (.ireturn, 1) := by decide +kernel
theorem dX4_awayBits_12 : decode cX4_awayBits 12 = .ok (.aload_n 0, 1) := by decide +kernel
theorem dX4_awayBits_13 : decode cX4_awayBits 13 = .ok (.getfield 25, 3) := by decide +kernel
theorem dX4_awayBits_16 : decode cX4_awayBits 16 = .ok (.iload_n 2, 1) := by decide +kernel
theorem dX4_awayBits_17 : decode cX4_awayBits 17 = .ok (.aaload, 1) := by decide +kernel
theorem dX4_awayBits_18 : decode cX4_awayBits 18 = .ok (.getfield 70, 3) := by decide +kernel
theorem dX4_awayBits_21 : decode cX4_awayBits 21 = .ok (.ifCond .le 9, 3) := by decide +kernel
theorem dX4_awayBits_30 : decode cX4_awayBits 30 = .ok (.iinc 2 1, 3) := by decide +kernel
theorem dX4_awayBits_33 : decode cX4_awayBits 33 = .ok (.goto (-29), 3) := by decide +kernel
theorem dX4_awayBits_24 : decode cX4_awayBits 24 = .ok (.iload_n 1, 1) := by decide +kernel
theorem dX4_awayBits_25 : decode cX4_awayBits 25 = .ok (.iconst 1, 1) := by decide +kernel
theorem dX4_awayBits_26 : decode cX4_awayBits 26 = .ok (.iload_n 2, 1) := by decide +kernel
theorem dX4_awayBits_27 : decode cX4_awayBits 27 = .ok (.ishl, 1) := by decide +kernel
theorem dX4_awayBits_28 : decode cX4_awayBits 28 = .ok (.ior, 1) := by decide +kernel
theorem dX4_awayBits_29 : decode cX4_awayBits 29 = .ok (.istore_n 1, 1) := by decide +kernel
theorem dX4_heldBits_0 : decode cX4_heldBits 0 = .ok (.iconst 0, 1) := by decide +kernel
theorem dX4_heldBits_1 : decode cX4_heldBits 1 = .ok (.istore_n 1, 1) := by decide +kernel
theorem dX4_heldBits_2 : decode cX4_heldBits 2 = .ok (.iconst 0, 1) := by decide +kernel
theorem dX4_heldBits_3 : decode cX4_heldBits 3 = .ok (.istore_n 2, 1) := by decide +kernel
theorem dX4_heldBits_4 : decode cX4_heldBits 4 = .ok (.iload_n 2, 1) := by decide +kernel
theorem dX4_heldBits_5 : decode cX4_heldBits 5 = .ok (.aload_n 0, 1) := by decide +kernel
theorem dX4_heldBits_6 : decode cX4_heldBits 6 = .ok (.getfield 47, 3) := by decide +kernel
theorem dX4_heldBits_9 : decode cX4_heldBits 9 = .ok (.if_icmp .ge 27, 3) := by decide +kernel
theorem dX4_heldBits_36 : decode cX4_heldBits 36 = .ok (.iload_n 1, 1) := by decide +kernel
theorem dX4_heldBits_37 : decode cX4_heldBits 37 = .ok (.ireturn, 1) := by decide +kernel
theorem dX4_heldBits_12 : decode cX4_heldBits 12 = .ok (.aload_n 0, 1) := by decide +kernel
theorem dX4_heldBits_13 : decode cX4_heldBits 13 = .ok (.getfield 31, 3) := by decide +kernel
theorem dX4_heldBits_16 : decode cX4_heldBits 16 = .ok (.iload_n 2, 1) := by decide +kernel
theorem dX4_heldBits_17 : decode cX4_heldBits 17 = .ok (.aaload, 1) := by decide +kernel
theorem dX4_heldBits_18 : decode cX4_heldBits 18 = .ok (.getfield 83, 3) := by decide +kernel
theorem dX4_heldBits_21 : decode cX4_heldBits 21 = .ok (.ifCond .eq 9, 3) := by decide +kernel
theorem dX4_heldBits_30 : decode cX4_heldBits 30 = .ok (.iinc 2 1, 3) := by decide +kernel
theorem dX4_heldBits_33 : decode cX4_heldBits 33 = .ok (.goto (-29), 3) := by decide +kernel
theorem dX4_heldBits_24 : decode cX4_heldBits 24 = .ok (.iload_n 1, 1) := by decide +kernel
theorem dX4_heldBits_25 : decode cX4_heldBits 25 = .ok (.iconst 1, 1) := by decide +kernel
theorem dX4_heldBits_26 : decode cX4_heldBits 26 = .ok (.iload_n 2, 1) := by decide +kernel
theorem dX4_heldBits_27 : decode cX4_heldBits 27 = .ok (.ishl, 1) := by decide +kernel
theorem dX4_heldBits_28 : decode cX4_heldBits 28 = .ok (.ior, 1) := by decide +kernel
theorem dX4_heldBits_29 : decode cX4_heldBits 29 = .ok (.istore_n 1, 1) := by decide +kernel
theorem dX4_dogBits_0 : decode cX4_dogBits 0 = .ok (.iconst 1, 1) := by decide +kernel
theorem dX4_dogBits_1 : decode cX4_dogBits 1 = .ok (.aload_n 0, 1) := by decide +kernel
theorem dX4_dogBits_2 : decode cX4_dogBits 2 = .ok (.getfield 47, 3) := by decide +kernel
theorem dX4_dogBits_5 : decode cX4_dogBits 5 = .ok (.ishl, 1) := by decide +kernel
theorem dX4_dogBits_6 : decode cX4_dogBits 6 = .ok (.iconst 1, 1) := by decide +kernel
theorem dX4_dogBits_7 : decode cX4_dogBits 7 = .ok (.isub, 1) := by decide +kernel
theorem dX4_dogBits_8 : decode cX4_dogBits 8 = .ok (.ireturn, 1) := by decide +kernel
theorem dX4_dogsComing_0 : decode cX4_dogsComing 0 = .ok (.iconst 0, 1) := by decide +kernel
theorem dX4_dogsComing_1 : decode cX4_dogsComing 1 = .ok (.istore_n 3, 1) := by decide +kernel
theorem dX4_dogsComing_2 : decode cX4_dogsComing 2 = .ok (.iconst 0, 1) := by decide +kernel
theorem dX4_dogsComing_3 : decode cX4_dogsComing 3 = .ok (.istore 4, 2) := by decide +kernel
theorem dX4_dogsComing_5 : decode cX4_dogsComing 5 = .ok (.iload 4, 2) := by decide +kernel
theorem dX4_dogsComing_7 : decode cX4_dogsComing 7 = .ok (.aload_n 0, 1) := by decide +kernel
theorem dX4_dogsComing_8 : decode cX4_dogsComing 8 = .ok (.getfield 47, 3) := by decide +kernel
theorem dX4_dogsComing_11 : decode cX4_dogsComing 11 = .ok (.if_icmp .ge 39, 3) := by decide +kernel
theorem dX4_dogsComing_50 : decode cX4_dogsComing 50 = .ok (.iload_n 3, 1) := by decide +kernel
theorem dX4_dogsComing_51 : decode cX4_dogsComing 51 = .ok (.ireturn, 1) := by decide +kernel
theorem dX4_dogsComing_14 : decode cX4_dogsComing 14 = .ok (.aload_n 0, 1) := by decide +kernel
theorem dX4_dogsComing_15 : decode cX4_dogsComing 15 = .ok (.getfield 25, 3) := by decide +kernel
theorem dX4_dogsComing_18 : decode cX4_dogsComing 18 = .ok (.aload_n 0, 1) := by decide +kernel
theorem dX4_dogsComing_19 : decode cX4_dogsComing 19 = .ok (.getfield 31, 3) := by decide +kernel
theorem dX4_dogsComing_22 : decode cX4_dogsComing 22 = .ok (.iload 4, 2) := by decide +kernel
theorem dX4_dogsComing_24 : decode cX4_dogsComing 24 = .ok (.aaload, 1) := by decide +kernel
theorem dX4_dogsComing_25 : decode cX4_dogsComing 25 = .ok (.getfield 80, 3) := by decide +kernel
theorem dX4_dogsComing_28 : decode cX4_dogsComing 28 = .ok (.aaload, 1) := by decide +kernel
theorem dX4_dogsComing_29 : decode cX4_dogsComing 29 = .ok (.iload_n 1, 1) := by decide +kernel
theorem dX4_dogsComing_30 : decode cX4_dogsComing 30 = .ok (.iload_n 2, 1) := by decide +kernel
theorem dX4_dogsComing_31 : decode cX4_dogsComing 31 = .ok (.invokevirtual 106, 3) := by decide +kernel
theorem dX4_dogsComing_34 : decode cX4_dogsComing 34 = .ok (.ifCond .eq 10, 3) := by decide +kernel
theorem dX4_dogsComing_37 : decode cX4_dogsComing 37 = .ok (.iload_n 3, 1) := by decide +kernel
theorem dX4_dogsComing_38 : decode cX4_dogsComing 38 = .ok (.iconst 1, 1) := by decide +kernel
theorem dX4_dogsComing_39 : decode cX4_dogsComing 39 = .ok (.iload 4, 2) := by decide +kernel
theorem dX4_dogsComing_41 : decode cX4_dogsComing 41 = .ok (.ishl, 1) := by decide +kernel
theorem dX4_dogsComing_42 : decode cX4_dogsComing 42 = .ok (.ior, 1) := by decide +kernel
theorem dX4_dogsComing_43 : decode cX4_dogsComing 43 = .ok (.istore_n 3, 1) := by decide +kernel
theorem dX4_dogsComing_44 : decode cX4_dogsComing 44 = .ok (.iinc 4 1, 3) := by decide +kernel
theorem dX4_dogsComing_47 : decode cX4_dogsComing 47 = .ok (.goto (-42), 3) := by decide +kernel
theorem dX4_meetingHours_0 : decode cX4_meetingHours 0 = .ok (.aload_n 0, 1) := by decide +kernel
theorem dX4_meetingHours_1 : decode cX4_meetingHours 1 = .ok (.getfield 25, 3) := by decide +kernel
theorem dX4_meetingHours_4 : decode cX4_meetingHours 4 = .ok (.iload_n 1, 1) := by decide +kernel
theorem dX4_meetingHours_5 : decode cX4_meetingHours 5 = .ok (.aaload, 1) := by decide +kernel
theorem dX4_meetingHours_6 : decode cX4_meetingHours 6 = .ok (.getfield 97, 3) := by decide +kernel
theorem dX4_meetingHours_9 : decode cX4_meetingHours 9 = .ok (.aload_n 0, 1) := by decide +kernel
theorem dX4_meetingHours_10 : decode cX4_meetingHours 10 = .ok (.getfield 25, 3) := by decide +kernel
theorem dX4_meetingHours_13 : decode cX4_meetingHours 13 = .ok (.iload_n 2, 1) := by decide +kernel
theorem dX4_meetingHours_14 : decode cX4_meetingHours 14 = .ok (.aaload, 1) := by decide +kernel
theorem dX4_meetingHours_15 : decode cX4_meetingHours 15 = .ok (.getfield 97, 3) := by decide +kernel
theorem dX4_meetingHours_18 : decode cX4_meetingHours 18 = .ok (.if_icmp .eq 5, 3) := by decide +kernel
theorem dX4_meetingHours_23 : decode cX4_meetingHours 23 = .ok (.aload_n 0, 1) := by decide +kernel
theorem dX4_meetingHours_24 : decode cX4_meetingHours 24 = .ok (.getfield 25, 3) := by decide +kernel
theorem dX4_meetingHours_27 : decode cX4_meetingHours 27 = .ok (.iload_n 1, 1) := by decide +kernel
theorem dX4_meetingHours_28 : decode cX4_meetingHours 28 = .ok (.aaload, 1) := by decide +kernel
theorem dX4_meetingHours_29 : decode cX4_meetingHours 29 = .ok (.invokevirtual 110, 3) := by decide +kernel
theorem dX4_meetingHours_32 : decode cX4_meetingHours 32 = .ok (.aload_n 0, 1) := by decide +kernel
theorem dX4_meetingHours_33 : decode cX4_meetingHours 33 = .ok (.getfield 25, 3) := by decide +kernel
theorem dX4_meetingHours_36 : decode cX4_meetingHours 36 = .ok (.iload_n 2, 1) := by decide +kernel
theorem dX4_meetingHours_37 : decode cX4_meetingHours 37 = .ok (.aaload, 1) := by decide +kernel
theorem dX4_meetingHours_38 : decode cX4_meetingHours 38 = .ok (.invokevirtual 110, 3) := by decide +kernel
theorem dX4_meetingHours_41 : decode cX4_meetingHours 41 = .ok (.iand, 1) := by decide +kernel
theorem dX4_meetingHours_42 : decode cX4_meetingHours 42 = .ok (.ireturn, 1) := by decide +kernel
theorem dX4_meetingHours_21 : decode cX4_meetingHours 21 = .ok (.iconst 0, 1) := by decide +kernel
theorem dX4_meetingHours_22 : decode cX4_meetingHours 22 = .ok (.ireturn, 1) := by decide +kernel
theorem dX4_troubledHours_0 : decode cX4_troubledHours 0 = .ok (.iconst 0, 1) := by decide +kernel
theorem dX4_troubledHours_1 : decode cX4_troubledHours 1 = .ok (.istore_n 2, 1) := by decide +kernel
theorem dX4_troubledHours_2 : decode cX4_troubledHours 2 = .ok (.iconst 0, 1) := by decide +kernel
theorem dX4_troubledHours_3 : decode cX4_troubledHours 3 = .ok (.istore_n 3, 1) := by decide +kernel
theorem dX4_troubledHours_4 : decode cX4_troubledHours 4 = .ok (.iload_n 3, 1) := by decide +kernel
theorem dX4_troubledHours_5 : decode cX4_troubledHours 5 = .ok (.aload_n 0, 1) := by decide +kernel
theorem dX4_troubledHours_6 : decode cX4_troubledHours 6 = .ok (.getfield 47, 3) := by decide +kernel
theorem dX4_troubledHours_9 : decode cX4_troubledHours 9 = .ok (.if_icmp .ge 63, 3) := by decide +kernel
theorem dX4_troubledHours_72 : decode cX4_troubledHours 72 = .ok (.iload_n 2, 1) := by decide +kernel
theorem dX4_troubledHours_73 : decode cX4_troubledHours 73 = .ok (.ireturn, 1) := by decide +kernel
theorem dX4_troubledHours_12 : decode cX4_troubledHours 12 = .ok (.aload_n 0, 1) := by decide +kernel
theorem dX4_troubledHours_13 : decode cX4_troubledHours 13 = .ok (.getfield 19, 3) := by decide +kernel
theorem dX4_troubledHours_16 : decode cX4_troubledHours 16 = .ok (.iload_n 1, 1) := by decide +kernel
theorem dX4_troubledHours_17 : decode cX4_troubledHours 17 = .ok (.baload, 1) := by decide +kernel
theorem dX4_troubledHours_18 : decode cX4_troubledHours 18 = .ok (.ifCond .ne 54, 3) := by decide +kernel
theorem dX4_troubledHours_21 : decode cX4_troubledHours 21 = .ok (.aload_n 0, 1) := by decide +kernel
theorem dX4_troubledHours_22 : decode cX4_troubledHours 22 = .ok (.getfield 25, 3) := by decide +kernel
theorem dX4_troubledHours_25 : decode cX4_troubledHours 25 = .ok (.aload_n 0, 1) := by decide +kernel
theorem dX4_troubledHours_26 : decode cX4_troubledHours 26 = .ok (.getfield 31, 3) := by decide +kernel
theorem dX4_troubledHours_29 : decode cX4_troubledHours 29 = .ok (.iload_n 3, 1) := by decide +kernel
theorem dX4_troubledHours_30 : decode cX4_troubledHours 30 = .ok (.aaload, 1) := by decide +kernel
theorem dX4_troubledHours_31 : decode cX4_troubledHours 31 = .ok (.getfield 80, 3) := by decide +kernel
theorem dX4_troubledHours_34 : decode cX4_troubledHours 34 = .ok (.aaload, 1) := by decide +kernel
theorem dX4_troubledHours_35 : decode cX4_troubledHours 35 = .ok (.astore 4, 2) := by decide +kernel
theorem dX4_troubledHours_37 : decode cX4_troubledHours 37 = .ok (.aload 4, 2) := by decide +kernel
theorem dX4_troubledHours_39 : decode cX4_troubledHours 39 = .ok (.getfield 97, 3) := by decide +kernel
theorem dX4_troubledHours_42 : decode cX4_troubledHours 42 = .ok (.iload_n 1, 1) := by decide +kernel
theorem dX4_troubledHours_43 : decode cX4_troubledHours 43 = .ok (.if_icmp .ne 23, 3) := by decide +kernel
theorem dX4_troubledHours_66 : decode cX4_troubledHours 66 = .ok (.iinc 3 1, 3) := by decide +kernel
theorem dX4_troubledHours_69 : decode cX4_troubledHours 69 = .ok (.goto (-65), 3) := by decide +kernel
theorem dX4_troubledHours_46 : decode cX4_troubledHours 46 = .ok (.aload_n 0, 1) := by decide +kernel
theorem dX4_troubledHours_47 : decode cX4_troubledHours 47 = .ok (.getfield 31, 3) := by decide +kernel
theorem dX4_troubledHours_50 : decode cX4_troubledHours 50 = .ok (.iload_n 3, 1) := by decide +kernel
theorem dX4_troubledHours_51 : decode cX4_troubledHours 51 = .ok (.aaload, 1) := by decide +kernel
theorem dX4_troubledHours_52 : decode cX4_troubledHours 52 = .ok (.getfield 83, 3) := by decide +kernel
theorem dX4_troubledHours_55 : decode cX4_troubledHours 55 = .ok (.ifCond .ne 11, 3) := by decide +kernel
theorem dX4_troubledHours_58 : decode cX4_troubledHours 58 = .ok (.iload_n 2, 1) := by decide +kernel
theorem dX4_troubledHours_59 : decode cX4_troubledHours 59 = .ok (.aload 4, 2) := by decide +kernel
theorem dX4_troubledHours_61 : decode cX4_troubledHours 61 = .ok (.invokevirtual 110, 3) := by decide +kernel
theorem dX4_troubledHours_64 : decode cX4_troubledHours 64 = .ok (.ior, 1) := by decide +kernel
theorem dX4_troubledHours_65 : decode cX4_troubledHours 65 = .ok (.istore_n 2, 1) := by decide +kernel
theorem dX4_goodIf_0 : decode cX4_goodIf 0 = .ok (.aload_n 0, 1) := by decide +kernel
theorem dX4_goodIf_1 : decode cX4_goodIf 1 = .ok (.getfield 25, 3) := by decide +kernel
theorem dX4_goodIf_4 : decode cX4_goodIf 4 = .ok (.iload_n 1, 1) := by decide +kernel
theorem dX4_goodIf_5 : decode cX4_goodIf 5 = .ok (.aaload, 1) := by decide +kernel
theorem dX4_goodIf_6 : decode cX4_goodIf 6 = .ok (.invokevirtual 110, 3) := by decide +kernel
theorem dX4_goodIf_9 : decode cX4_goodIf 9 = .ok (.istore 4, 2) := by decide +kernel
theorem dX4_goodIf_11 : decode cX4_goodIf 11 = .ok (.aload_n 0, 1) := by decide +kernel
theorem dX4_goodIf_12 : decode cX4_goodIf 12 = .ok (.getfield 25, 3) := by decide +kernel
theorem dX4_goodIf_15 : decode cX4_goodIf 15 = .ok (.iload_n 1, 1) := by decide +kernel
theorem dX4_goodIf_16 : decode cX4_goodIf 16 = .ok (.aaload, 1) := by decide +kernel
theorem dX4_goodIf_17 : decode cX4_goodIf 17 = .ok (.getfield 77, 3) := by decide +kernel
theorem dX4_goodIf_20 : decode cX4_goodIf 20 = .ok (.ifCond .eq 11, 3) := by decide +kernel
theorem dX4_goodIf_31 : decode cX4_goodIf 31 = .ok (.iload 4, 2) := by decide +kernel
theorem dX4_goodIf_33 : decode cX4_goodIf 33 = .ok (.iload_n 2, 1) := by decide +kernel
theorem dX4_goodIf_34 : decode cX4_goodIf 34 = .ok (.iload_n 3, 1) := by decide +kernel
theorem dX4_goodIf_35 : decode cX4_goodIf 35 = .ok (.iand, 1) := by decide +kernel
theorem dX4_goodIf_36 : decode cX4_goodIf 36 = .ok (.iconst (-1), 1) := by decide +kernel
theorem dX4_goodIf_37 : decode cX4_goodIf 37 = .ok (.ixor, 1) := by decide +kernel
theorem dX4_goodIf_38 : decode cX4_goodIf 38 = .ok (.iand, 1) := by decide +kernel
theorem dX4_goodIf_39 : decode cX4_goodIf 39 = .ok (.invokestatic 122, 3) := by decide +kernel
theorem dX4_goodIf_42 : decode cX4_goodIf 42 = .ok (.ireturn, 1) := by decide +kernel
theorem dX4_goodIf_23 : decode cX4_goodIf 23 = .ok (.iload 4, 2) := by decide +kernel
theorem dX4_goodIf_25 : decode cX4_goodIf 25 = .ok (.iload_n 2, 1) := by decide +kernel
theorem dX4_goodIf_26 : decode cX4_goodIf 26 = .ok (.iand, 1) := by decide +kernel
theorem dX4_goodIf_27 : decode cX4_goodIf 27 = .ok (.invokestatic 122, 3) := by decide +kernel
theorem dX4_goodIf_30 : decode cX4_goodIf 30 = .ok (.ireturn, 1) := by decide +kernel
theorem dX4_goodOf_0 : decode cX4_goodOf 0 = .ok (.aload_n 0, 1) := by decide +kernel
theorem dX4_goodOf_1 : decode cX4_goodOf 1 = .ok (.iload_n 1, 1) := by decide +kernel
theorem dX4_goodOf_2 : decode cX4_goodOf 2 = .ok (.aload_n 0, 1) := by decide +kernel
theorem dX4_goodOf_3 : decode cX4_goodOf 3 = .ok (.getfield 15, 3) := by decide +kernel
theorem dX4_goodOf_6 : decode cX4_goodOf 6 = .ok (.iload_n 2, 1) := by decide +kernel
theorem dX4_goodOf_7 : decode cX4_goodOf 7 = .ok (.iaload, 1) := by decide +kernel
theorem dX4_goodOf_8 : decode cX4_goodOf 8 = .ok (.aload_n 0, 1) := by decide +kernel
theorem dX4_goodOf_9 : decode cX4_goodOf 9 = .ok (.iload_n 2, 1) := by decide +kernel
theorem dX4_goodOf_10 : decode cX4_goodOf 10 = .ok (.invokevirtual 114, 3) := by decide +kernel
theorem dX4_goodOf_13 : decode cX4_goodOf 13 = .ok (.invokevirtual 118, 3) := by decide +kernel
theorem dX4_goodOf_16 : decode cX4_goodOf 16 = .ok (.ireturn, 1) := by decide +kernel
theorem dX4_goodOfAll_0 : decode cX4_goodOfAll 0 = .ok (.iconst 0, 1) := by decide +kernel
theorem dX4_goodOfAll_1 : decode cX4_goodOfAll 1 = .ok (.istore_n 2, 1) := by decide +kernel
theorem dX4_goodOfAll_2 : decode cX4_goodOfAll 2 = .ok (.iconst 0, 1) := by decide +kernel
theorem dX4_goodOfAll_3 : decode cX4_goodOfAll 3 = .ok (.istore_n 3, 1) := by decide +kernel
theorem dX4_goodOfAll_4 : decode cX4_goodOfAll 4 = .ok (.iload_n 3, 1) := by decide +kernel
theorem dX4_goodOfAll_5 : decode cX4_goodOfAll 5 = .ok (.aload_n 0, 1) := by decide +kernel
theorem dX4_goodOfAll_6 : decode cX4_goodOfAll 6 = .ok (.getfield 44, 3) := by decide +kernel
theorem dX4_goodOfAll_9 : decode cX4_goodOfAll 9 = .ok (.if_icmp .ge 42, 3) := by decide +kernel
theorem dX4_goodOfAll_51 : decode cX4_goodOfAll 51 = .ok (.iload_n 2, 1) := by decide +kernel
theorem dX4_goodOfAll_52 : decode cX4_goodOfAll 52 = .ok (.ireturn, 1) := by decide +kernel
theorem dX4_goodOfAll_12 : decode cX4_goodOfAll 12 = .ok (.iload_n 1, 1) := by decide +kernel
theorem dX4_goodOfAll_13 : decode cX4_goodOfAll 13 = .ok (.ifCond .ne 15, 3) := by decide +kernel
theorem dX4_goodOfAll_28 : decode cX4_goodOfAll 28 = .ok (.iload_n 2, 1) := by decide +kernel
