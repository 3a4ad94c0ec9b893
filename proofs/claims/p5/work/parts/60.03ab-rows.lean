theorem dX8_open_12 : decode cX8_open 12 = .ok (.putfield 34, 3) := by decide +kernel
theorem dX8_open_15 : decode cX8_open 15 = .ok (.aload_n 0, 1) := by decide +kernel
theorem dX8_open_16 : decode cX8_open 16 = .ok (.iconst 0, 1) := by decide +kernel
theorem dX8_open_17 : decode cX8_open 17 = .ok (.putfield 37, 3) := by decide +kernel
theorem dX8_open_20 : decode cX8_open 20 = .ok (.aload_n 0, 1) := by decide +kernel
theorem dX8_open_21 : decode cX8_open 21 = .ok (.invokevirtual 40, 3) := by decide +kernel
theorem dX8_open_24 : decode cX8_open 24 = .ok (.return_, 1) := by decide +kernel
theorem dX8_takeMark_0 : decode cX8_takeMark 0 = .ok (.aload_n 0, 1) := by decide +kernel
theorem dX8_takeMark_1 : decode cX8_takeMark 1 = .ok (.iload_n 1, 1) := by decide +kernel
theorem dX8_takeMark_2 : decode cX8_takeMark 2 = .ok (.invokevirtual 73, 3) := by decide +kernel
theorem dX8_takeMark_5 : decode cX8_takeMark 5 = .ok (.ifCond .ne 9, 3) := by decide +kernel
theorem dX8_takeMark_14 : decode cX8_takeMark 14 = .ok (.aload_n 0, 1) := by decide +kernel
theorem dX8_takeMark_15 : decode cX8_takeMark 15 = .ok (.invokevirtual 40, 3) := by decide +kernel
theorem dX8_takeMark_18 : decode cX8_takeMark 18 = .ok (.iconst 1, 1) := by decide +kernel
theorem dX8_takeMark_19 : decode cX8_takeMark 19 = .ok (.ireturn, 1) := by decide +kernel
theorem dX8_takeMark_8 : decode cX8_takeMark 8 = .ok (.aload_n 0, 1) := by decide +kernel
theorem dX8_takeMark_9 : decode cX8_takeMark 9 = .ok (.iconst 1, 1) := by decide +kernel
theorem dX8_takeMark_10 : decode cX8_takeMark 10 = .ok (.invokevirtual 76, 3) := by decide +kernel
theorem dX8_takeMark_13 : decode cX8_takeMark 13 = .ok (.ireturn, 1) := by decide +kernel
theorem dX8_takeNumber_0 : decode cX8_takeNumber 0 = .ok (.aload_n 0, 1) := by decide +kernel
theorem dX8_takeNumber_1 : decode cX8_takeNumber 1 = .ok (.getfield 46, 3) := by decide +kernel
theorem dX8_takeNumber_4 : decode cX8_takeNumber 4 = .ok (.iconst 1, 1) := by decide +kernel
theorem dX8_takeNumber_5 : decode cX8_takeNumber 5 = .ok (.if_icmp .eq 9, 3) := by decide +kernel
theorem dX8_takeNumber_14 : decode cX8_takeNumber 14 = .ok (.aload_n 0, 1) := by decide +kernel
theorem dX8_takeNumber_15 : decode cX8_takeNumber 15 = .ok (.getfield 63, 3) := by decide +kernel
theorem dX8_takeNumber_18 : decode cX8_takeNumber 18 = .ok (.iload_n 1, 1) := by decide +kernel
theorem dX8_takeNumber_19 : decode cX8_takeNumber 19 = .ok (.if_icmp .lt 11, 3) := by decide +kernel
theorem dX8_takeNumber_30 : decode cX8_takeNumber 30 = .ok (.aload_n 0, 1) := by decide +kernel
theorem dX8_takeNumber_31 : decode cX8_takeNumber 31 = .ok (.iconst 2, 1) := by decide +kernel
theorem dX8_takeNumber_32 : decode cX8_takeNumber 32 = .ok (.invokevirtual 76, 3) := by decide +kernel
theorem dX8_takeNumber_35 : decode cX8_takeNumber 35 = .ok (.ireturn, 1) := by decide +kernel
theorem dX8_takeNumber_22 : decode cX8_takeNumber 22 = .ok (.aload_n 0, 1) := by decide +kernel
theorem dX8_takeNumber_23 : decode cX8_takeNumber 23 = .ok (.getfield 63, 3) := by decide +kernel
theorem dX8_takeNumber_26 : decode cX8_takeNumber 26 = .ok (.iload_n 2, 1) := by decide +kernel
theorem dX8_takeNumber_27 : decode cX8_takeNumber 27 = .ok (.if_icmp .le 9, 3) := by decide +kernel
theorem dX8_takeNumber_36 : decode cX8_takeNumber 36 = .ok (.aload_n 0, 1) := by decide +kernel
theorem dX8_takeNumber_37 : decode cX8_takeNumber 37 = .ok (.aload_n 0, 1) := by decide +kernel
theorem dX8_takeNumber_38 : decode cX8_takeNumber 38 = .ok (.getfield 63, 3) := by decide +kernel
theorem dX8_takeNumber_41 : decode cX8_takeNumber 41 = .ok (.putfield 79, 3) := by decide +kernel
theorem dX8_takeNumber_44 : decode cX8_takeNumber 44 = .ok (.aload_n 0, 1) := by decide +kernel
theorem dX8_takeNumber_45 : decode cX8_takeNumber 45 = .ok (.invokevirtual 40, 3) := by decide +kernel
theorem dX8_takeNumber_48 : decode cX8_takeNumber 48 = .ok (.iconst 1, 1) := by decide +kernel
theorem dX8_takeNumber_49 : decode cX8_takeNumber 49 = .ok (.ireturn, 1) := by decide +kernel
theorem dX8_takeNumber_8 : decode cX8_takeNumber 8 = .ok (.aload_n 0, 1) := by decide +kernel
theorem dX8_takeNumber_9 : decode cX8_takeNumber 9 = .ok (.iconst 1, 1) := by decide +kernel
theorem dX8_takeNumber_10 : decode cX8_takeNumber 10 = .ok (.invokevirtual 76, 3) := by decide +kernel
theorem dX8_takeNumber_13 : decode cX8_takeNumber 13 = .ok (.ireturn, 1) := by decide +kernel
theorem dX8_takeHours_0 : decode cX8_takeHours 0 = .ok (.aload_n 0, 1) := by decide +kernel
theorem dX8_takeHours_1 : decode cX8_takeHours 1 = .ok (.iconst 0, 1) := by decide +kernel
theorem dX8_takeHours_2 : decode cX8_takeHours 2 = .ok (.bipush 23, 2) := by decide +kernel
theorem dX8_takeHours_4 : decode cX8_takeHours 4 = .ok (.invokevirtual 82, 3) := by decide +kernel
theorem dX8_takeHours_7 : decode cX8_takeHours 7 = .ok (.ifCond .ne 5, 3) := by decide +kernel
theorem dX8_takeHours_12 : decode cX8_takeHours 12 = .ok (.aload_n 0, 1) := by decide +kernel
theorem dX8_takeHours_13 : decode cX8_takeHours 13 = .ok (.aload_n 0, 1) := by decide +kernel
theorem dX8_takeHours_14 : decode cX8_takeHours 14 = .ok (.getfield 79, 3) := by decide +kernel
theorem dX8_takeHours_17 : decode cX8_takeHours 17 = .ok (.putfield 86, 3) := by decide +kernel
theorem dX8_takeHours_20 : decode cX8_takeHours 20 = .ok (.aload_n 0, 1) := by decide +kernel
theorem dX8_takeHours_21 : decode cX8_takeHours 21 = .ok (.aload_n 0, 1) := by decide +kernel
theorem dX8_takeHours_22 : decode cX8_takeHours 22 = .ok (.getfield 86, 3) := by decide +kernel
theorem dX8_takeHours_25 : decode cX8_takeHours 25 = .ok (.bipush 23, 2) := by decide +kernel
theorem dX8_takeHours_27 : decode cX8_takeHours 27 = .ok (.invokevirtual 82, 3) := by decide +kernel
theorem dX8_takeHours_30 : decode cX8_takeHours 30 = .ok (.ifCond .ne 5, 3) := by decide +kernel
theorem dX8_takeHours_35 : decode cX8_takeHours 35 = .ok (.aload_n 0, 1) := by decide +kernel
theorem dX8_takeHours_36 : decode cX8_takeHours 36 = .ok (.aload_n 0, 1) := by decide +kernel
theorem dX8_takeHours_37 : decode cX8_takeHours 37 = .ok (.getfield 79, 3) := by decide +kernel
theorem dX8_takeHours_40 : decode cX8_takeHours 40 = .ok (.putfield 89, 3) := by decide +kernel
theorem dX8_takeHours_43 : decode cX8_takeHours 43 = .ok (.iconst 1, 1) := by decide +kernel
theorem dX8_takeHours_44 : decode cX8_takeHours 44 = .ok (.ireturn, 1) := by decide +kernel
theorem dX8_takeHours_33 : decode cX8_takeHours 33 = .ok (.iconst 0, 1) := by decide +kernel
theorem dX8_takeHours_34 : decode cX8_takeHours 34 = .ok (.ireturn, 1) := by decide +kernel
theorem dX8_takeHours_10 : decode cX8_takeHours 10 = .ok (.iconst 0, 1) := by decide +kernel
theorem dX8_takeHours_11 : decode cX8_takeHours 11 = .ok (.ireturn, 1) := by decide +kernel
theorem dX8_takeNamed_0 : decode cX8_takeNamed 0 = .ok (.aload_n 0, 1) := by decide +kernel
theorem dX8_takeNamed_1 : decode cX8_takeNamed 1 = .ok (.getfield 21, 3) := by decide +kernel
theorem dX8_takeNamed_4 : decode cX8_takeNamed 4 = .ok (.getstatic 92, 3) := by decide +kernel
theorem dX8_takeNamed_7 : decode cX8_takeNamed 7 = .ok (.if_acmp .eq 9, 3) := by decide +kernel
theorem dX8_takeNamed_16 : decode cX8_takeNamed 16 = .ok (.aload_n 0, 1) := by decide +kernel
theorem dX8_takeNamed_17 : decode cX8_takeNamed 17 = .ok (.aload_n 1, 1) := by decide +kernel
theorem dX8_takeNamed_18 : decode cX8_takeNamed 18 = .ok (.iload_n 2, 1) := by decide +kernel
theorem dX8_takeNamed_19 : decode cX8_takeNamed 19 = .ok (.aload_n 0, 1) := by decide +kernel
theorem dX8_takeNamed_20 : decode cX8_takeNamed 20 = .ok (.getfield 69, 3) := by decide +kernel
theorem dX8_takeNamed_23 : decode cX8_takeNamed 23 = .ok (.invokevirtual 95, 3) := by decide +kernel
theorem dX8_takeNamed_26 : decode cX8_takeNamed 26 = .ok (.putfield 79, 3) := by decide +kernel
theorem dX8_takeNamed_29 : decode cX8_takeNamed 29 = .ok (.aload_n 0, 1) := by decide +kernel
theorem dX8_takeNamed_30 : decode cX8_takeNamed 30 = .ok (.getfield 79, 3) := by decide +kernel
theorem dX8_takeNamed_33 : decode cX8_takeNamed 33 = .ok (.iconst (-1), 1) := by decide +kernel
theorem dX8_takeNamed_34 : decode cX8_takeNamed 34 = .ok (.if_icmp .ne 9, 3) := by decide +kernel
theorem dX8_takeNamed_37 : decode cX8_takeNamed 37 = .ok (.aload_n 0, 1) := by decide +kernel
theorem dX8_takeNamed_38 : decode cX8_takeNamed 38 = .ok (.iconst 3, 1) := by decide +kernel
theorem dX8_takeNamed_39 : decode cX8_takeNamed 39 = .ok (.invokevirtual 76, 3) := by decide +kernel
theorem dX8_takeNamed_42 : decode cX8_takeNamed 42 = .ok (.ireturn, 1) := by decide +kernel
theorem dX8_takeNamed_43 : decode cX8_takeNamed 43 = .ok (.aload_n 0, 1) := by decide +kernel
theorem dX8_takeNamed_44 : decode cX8_takeNamed 44 = .ok (.invokevirtual 40, 3) := by decide +kernel
theorem dX8_takeNamed_47 : decode cX8_takeNamed 47 = .ok (.iconst 1, 1) := by decide +kernel
theorem dX8_takeNamed_48 : decode cX8_takeNamed 48 = .ok (.ireturn, 1) := by decide +kernel
theorem dX8_takeNamed_10 : decode cX8_takeNamed 10 = .ok (.aload_n 0, 1) := by decide +kernel
theorem dX8_takeNamed_11 : decode cX8_takeNamed 11 = .ok (.iconst 1, 1) := by decide +kernel
theorem dX8_takeNamed_12 : decode cX8_takeNamed 12 = .ok (.invokevirtual 76, 3) := by decide +kernel
theorem dX8_takeNamed_15 : decode cX8_takeNamed 15 = .ok (.ireturn, 1) := by decide +kernel
theorem dX8_takeNewName_0 : decode cX8_takeNewName 0 = .ok (.aload_n 0, 1) := by decide +kernel
theorem dX8_takeNewName_1 : decode cX8_takeNewName 1 = .ok (.getfield 21, 3) := by decide +kernel
theorem dX8_takeNewName_4 : decode cX8_takeNewName 4 = .ok (.getstatic 92, 3) := by decide +kernel
theorem dX8_takeNewName_7 : decode cX8_takeNewName 7 = .ok (.if_acmp .eq 9, 3) := by decide +kernel
theorem dX8_takeNewName_16 : decode cX8_takeNewName 16 = .ok (.aload_n 1, 1) := by decide +kernel
theorem dX8_takeNewName_17 : decode cX8_takeNewName 17 = .ok (.iconst 0, 1) := by decide +kernel
theorem dX8_takeNewName_18 : decode cX8_takeNewName 18 = .ok (.aload_n 0, 1) := by decide +kernel
theorem dX8_takeNewName_19 : decode cX8_takeNewName 19 = .ok (.getfield 69, 3) := by decide +kernel
theorem dX8_takeNewName_22 : decode cX8_takeNewName 22 = .ok (.invokevirtual 95, 3) := by decide +kernel
theorem dX8_takeNewName_25 : decode cX8_takeNewName 25 = .ok (.iconst (-1), 1) := by decide +kernel
theorem dX8_takeNewName_26 : decode cX8_takeNewName 26 = .ok (.if_icmp .ne 29, 3) := by decide +kernel
theorem dX8_takeNewName_29 : decode cX8_takeNewName 29 = .ok (.aload_n 1, 1) := by decide +kernel
theorem dX8_takeNewName_30 : decode cX8_takeNewName 30 = .ok (.iconst 1, 1) := by decide +kernel
theorem dX8_takeNewName_31 : decode cX8_takeNewName 31 = .ok (.aload_n 0, 1) := by decide +kernel
theorem dX8_takeNewName_32 : decode cX8_takeNewName 32 = .ok (.getfield 69, 3) := by decide +kernel
theorem dX8_takeNewName_35 : decode cX8_takeNewName 35 = .ok (.invokevirtual 95, 3) := by decide +kernel
theorem dX8_takeNewName_38 : decode cX8_takeNewName 38 = .ok (.iconst (-1), 1) := by decide +kernel
theorem dX8_takeNewName_39 : decode cX8_takeNewName 39 = .ok (.if_icmp .ne 16, 3) := by decide +kernel
theorem dX8_takeNewName_42 : decode cX8_takeNewName 42 = .ok (.aload_n 1, 1) := by decide +kernel
theorem dX8_takeNewName_43 : decode cX8_takeNewName 43 = .ok (.iconst 2, 1) := by decide +kernel
theorem dX8_takeNewName_44 : decode cX8_takeNewName 44 = .ok (.aload_n 0, 1) := by decide +kernel
theorem dX8_takeNewName_45 : decode cX8_takeNewName 45 = .ok (.getfield 69, 3) := by decide +kernel
theorem dX8_takeNewName_48 : decode cX8_takeNewName 48 = .ok (.invokevirtual 95, 3) := by decide +kernel
theorem dX8_takeNewName_51 : decode cX8_takeNewName 51 = .ok (.iconst (-1), 1) := by decide +kernel
theorem dX8_takeNewName_52 : decode cX8_takeNewName 52 = .ok (.if_icmp .eq 9, 3) := by decide +kernel
theorem dX8_takeNewName_61 : decode cX8_takeNewName 61 = .ok (.aload_n 0, 1) := by decide +kernel
theorem dX8_takeNewName_62 : decode cX8_takeNewName 62 = .ok (.aload_n 0, 1) := by decide +kernel
theorem dX8_takeNewName_63 : decode cX8_takeNewName 63 = .ok (.getfield 69, 3) := by decide +kernel
theorem dX8_takeNewName_66 : decode cX8_takeNewName 66 = .ok (.putfield 101, 3) := by decide +kernel
theorem dX8_takeNewName_69 : decode cX8_takeNewName 69 = .ok (.aload_n 0, 1) := by decide +kernel
theorem dX8_takeNewName_70 : decode cX8_takeNewName 70 = .ok (.invokevirtual 40, 3) := by decide +kernel
theorem dX8_takeNewName_73 : decode cX8_takeNewName 73 = .ok (.iconst 1, 1) := by decide +kernel
theorem dX8_takeNewName_74 : decode cX8_takeNewName 74 = .ok (.ireturn, 1) := by decide +kernel
theorem dX8_takeNewName_55 : decode cX8_takeNewName 55 = .ok (.aload_n 0, 1) := by decide +kernel
theorem dX8_takeNewName_56 : decode cX8_takeNewName 56 = .ok (.iconst 3, 1) := by decide +kernel
theorem dX8_takeNewName_57 : decode cX8_takeNewName 57 = .ok (.invokevirtual 76, 3) := by decide +kernel
theorem dX8_takeNewName_60 : decode cX8_takeNewName 60 = .ok (.ireturn, 1) := by decide +kernel
theorem dX8_takeNewName_10 : decode cX8_takeNewName 10 = .ok (.aload_n 0, 1) := by decide +kernel
theorem dX8_takeNewName_11 : decode cX8_takeNewName 11 = .ok (.iconst 1, 1) := by decide +kernel
theorem dX8_takeNewName_12 : decode cX8_takeNewName 12 = .ok (.invokevirtual 76, 3) := by decide +kernel
theorem dX8_takeNewName_15 : decode cX8_takeNewName 15 = .ok (.ireturn, 1) := by decide +kernel
theorem dX8_append_0 : decode cX8_append 0 = .ok (.bipush 24, 2) := by decide +kernel
theorem dX8_append_2 : decode cX8_append 2 = .ok (.istore_n 2, 1) := by decide +kernel
theorem dX8_append_3 : decode cX8_append 3 = .ok (.iload_n 2, 1) := by decide +kernel
theorem dX8_append_4 : decode cX8_append 4 = .ok (.ifCond .lt 42, 3) := by decide +kernel
theorem dX8_append_7 : decode cX8_append 7 = .ok (.aload_n 0, 1) := by decide +kernel
theorem dX8_append_8 : decode cX8_append 8 = .ok (.getfield 24, 3) := by decide +kernel
theorem dX8_append_11 : decode cX8_append 11 = .ok (.sipush 940, 3) := by decide +kernel
theorem dX8_append_14 : decode cX8_append 14 = .ok (.if_icmp .ge 32, 3) := by decide +kernel
theorem dX8_append_17 : decode cX8_append 17 = .ok (.aload_n 0, 1) := by decide +kernel
theorem dX8_append_18 : decode cX8_append 18 = .ok (.getfield 9, 3) := by decide +kernel
theorem dX8_append_21 : decode cX8_append 21 = .ok (.aload_n 0, 1) := by decide +kernel
theorem dX8_append_22 : decode cX8_append 22 = .ok (.getfield 24, 3) := by decide +kernel
theorem dX8_append_25 : decode cX8_append 25 = .ok (.iload_n 1, 1) := by decide +kernel
theorem dX8_append_26 : decode cX8_append 26 = .ok (.iload_n 2, 1) := by decide +kernel
theorem dX8_append_27 : decode cX8_append 27 = .ok (.iushr, 1) := by decide +kernel
theorem dX8_append_28 : decode cX8_append 28 = .ok (.i2b, 1) := by decide +kernel
theorem dX8_append_29 : decode cX8_append 29 = .ok (.bastore, 1) := by decide +kernel
theorem dX8_append_30 : decode cX8_append 30 = .ok (.aload_n 0, 1) := by decide +kernel
theorem dX8_append_31 : decode cX8_append 31 = .ok (.dup, 1) := by decide +kernel
theorem dX8_append_32 : decode cX8_append 32 = .ok (.getfield 24, 3) := by decide +kernel
theorem dX8_append_35 : decode cX8_append 35 = .ok (.iconst 1, 1) := by decide +kernel
theorem dX8_append_36 : decode cX8_append 36 = .ok (.iadd, 1) := by decide +kernel
theorem dX8_append_37 : decode cX8_append 37 = .ok (.putfield 24, 3) := by decide +kernel
theorem dX8_append_40 : decode cX8_append 40 = .ok (.iinc 2 (-8), 3) := by decide +kernel
theorem dX8_append_43 : decode cX8_append 43 = .ok (.goto (-40), 3) := by decide +kernel
theorem dX8_append_46 : decode cX8_append 46 = .ok (.return_, 1) := by decide +kernel
