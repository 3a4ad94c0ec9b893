theorem dX4_addPlace_0 : decode cX4_addPlace 0 = .ok (.aload_n 0, 1) := by decide +kernel
theorem dX4_addPlace_1 : decode cX4_addPlace 1 = .ok (.getfield 9, 3) := by decide +kernel
theorem dX4_addPlace_4 : decode cX4_addPlace 4 = .ok (.aload_n 0, 1) := by decide +kernel
theorem dX4_addPlace_5 : decode cX4_addPlace 5 = .ok (.getfield 41, 3) := by decide +kernel
theorem dX4_addPlace_8 : decode cX4_addPlace 8 = .ok (.lload_n 1, 1) := by decide +kernel
theorem dX4_addPlace_9 : decode cX4_addPlace 9 = .ok (.lastore, 1) := by decide +kernel
theorem dX4_addPlace_10 : decode cX4_addPlace 10 = .ok (.aload_n 0, 1) := by decide +kernel
theorem dX4_addPlace_11 : decode cX4_addPlace 11 = .ok (.getfield 15, 3) := by decide +kernel
theorem dX4_addPlace_14 : decode cX4_addPlace 14 = .ok (.aload_n 0, 1) := by decide +kernel
theorem dX4_addPlace_15 : decode cX4_addPlace 15 = .ok (.getfield 41, 3) := by decide +kernel
theorem dX4_addPlace_18 : decode cX4_addPlace 18 = .ok (.iconst 0, 1) := by decide +kernel
theorem dX4_addPlace_19 : decode cX4_addPlace 19 = .ok (.iastore, 1) := by decide +kernel
theorem dX4_addPlace_20 : decode cX4_addPlace 20 = .ok (.aload_n 0, 1) := by decide +kernel
theorem dX4_addPlace_21 : decode cX4_addPlace 21 = .ok (.getfield 19, 3) := by decide +kernel
theorem dX4_addPlace_24 : decode cX4_addPlace 24 = .ok (.aload_n 0, 1) := by decide +kernel
theorem dX4_addPlace_25 : decode cX4_addPlace 25 = .ok (.getfield 41, 3) := by decide +kernel
theorem dX4_addPlace_28 : decode cX4_addPlace 28 = .ok (.iload_n 3, 1) := by decide +kernel
theorem dX4_addPlace_29 : decode cX4_addPlace 29 = .ok (.bastore, 1) := by decide +kernel
theorem dX4_addPlace_30 : decode cX4_addPlace 30 = .ok (.aload_n 0, 1) := by decide +kernel
theorem dX4_addPlace_31 : decode cX4_addPlace 31 = .ok (.dup, 1) := by decide +kernel
theorem dX4_addPlace_32 : decode cX4_addPlace 32 = .ok (.getfield 41, 3) := by decide +kernel
theorem dX4_addPlace_35 : decode cX4_addPlace 35 = .ok (.iconst 1, 1) := by decide +kernel
theorem dX4_addPlace_36 : decode cX4_addPlace 36 = .ok (.iadd, 1) := by decide +kernel
theorem dX4_addPlace_37 : decode cX4_addPlace 37 = .ok (.putfield 41, 3) := by decide +kernel
theorem dX4_addPlace_40 : decode cX4_addPlace 40 = .ok (.return_, 1) := by decide +kernel
theorem dX4_addPerson_0 : decode cX4_addPerson 0 = .ok (.aload_n 0, 1) := by decide +kernel
theorem dX4_addPerson_1 : decode cX4_addPerson 1 = .ok (.getfield 25, 3) := by decide +kernel
theorem dX4_addPerson_4 : decode cX4_addPerson 4 = .ok (.aload_n 0, 1) := by decide +kernel
theorem dX4_addPerson_5 : decode cX4_addPerson 5 = .ok (.getfield 44, 3) := by decide +kernel
theorem dX4_addPerson_8 : decode cX4_addPerson 8 = .ok (.aaload, 1) := by decide +kernel
theorem dX4_addPerson_9 : decode cX4_addPerson 9 = .ok (.astore_n 3, 1) := by decide +kernel
theorem dX4_addPerson_10 : decode cX4_addPerson 10 = .ok (.aload_n 3, 1) := by decide +kernel
theorem dX4_addPerson_11 : decode cX4_addPerson 11 = .ok (.lload_n 1, 1) := by decide +kernel
theorem dX4_addPerson_12 : decode cX4_addPerson 12 = .ok (.putfield 66, 3) := by decide +kernel
theorem dX4_addPerson_15 : decode cX4_addPerson 15 = .ok (.aload_n 3, 1) := by decide +kernel
theorem dX4_addPerson_16 : decode cX4_addPerson 16 = .ok (.iconst 0, 1) := by decide +kernel
theorem dX4_addPerson_17 : decode cX4_addPerson 17 = .ok (.putfield 70, 3) := by decide +kernel
theorem dX4_addPerson_20 : decode cX4_addPerson 20 = .ok (.aload_n 3, 1) := by decide +kernel
theorem dX4_addPerson_21 : decode cX4_addPerson 21 = .ok (.iconst 0, 1) := by decide +kernel
theorem dX4_addPerson_22 : decode cX4_addPerson 22 = .ok (.putfield 73, 3) := by decide +kernel
theorem dX4_addPerson_25 : decode cX4_addPerson 25 = .ok (.aload_n 3, 1) := by decide +kernel
theorem dX4_addPerson_26 : decode cX4_addPerson 26 = .ok (.iconst 0, 1) := by decide +kernel
theorem dX4_addPerson_27 : decode cX4_addPerson 27 = .ok (.putfield 76, 3) := by decide +kernel
theorem dX4_addPerson_30 : decode cX4_addPerson 30 = .ok (.aload_n 3, 1) := by decide +kernel
theorem dX4_addPerson_31 : decode cX4_addPerson 31 = .ok (.iconst 0, 1) := by decide +kernel
theorem dX4_addPerson_32 : decode cX4_addPerson 32 = .ok (.putfield 77, 3) := by decide +kernel
theorem dX4_addPerson_35 : decode cX4_addPerson 35 = .ok (.aload_n 0, 1) := by decide +kernel
theorem dX4_addPerson_36 : decode cX4_addPerson 36 = .ok (.dup, 1) := by decide +kernel
theorem dX4_addPerson_37 : decode cX4_addPerson 37 = .ok (.getfield 44, 3) := by decide +kernel
theorem dX4_addPerson_40 : decode cX4_addPerson 40 = .ok (.iconst 1, 1) := by decide +kernel
theorem dX4_addPerson_41 : decode cX4_addPerson 41 = .ok (.iadd, 1) := by decide +kernel
theorem dX4_addPerson_42 : decode cX4_addPerson 42 = .ok (.putfield 44, 3) := by decide +kernel
theorem dX4_addPerson_45 : decode cX4_addPerson 45 = .ok (.aload_n 3, 1) := by decide +kernel
theorem dX4_addPerson_46 : decode cX4_addPerson 46 = .ok (.areturn, 1) := by decide +kernel
theorem dX4_addDog_0 : decode cX4_addDog 0 = .ok (.aload_n 0, 1) := by decide +kernel
theorem dX4_addDog_1 : decode cX4_addDog 1 = .ok (.getfield 31, 3) := by decide +kernel
theorem dX4_addDog_4 : decode cX4_addDog 4 = .ok (.aload_n 0, 1) := by decide +kernel
theorem dX4_addDog_5 : decode cX4_addDog 5 = .ok (.getfield 47, 3) := by decide +kernel
theorem dX4_addDog_8 : decode cX4_addDog 8 = .ok (.aaload, 1) := by decide +kernel
theorem dX4_addDog_9 : decode cX4_addDog 9 = .ok (.astore 4, 2) := by decide +kernel
theorem dX4_addDog_11 : decode cX4_addDog 11 = .ok (.aload 4, 2) := by decide +kernel
theorem dX4_addDog_13 : decode cX4_addDog 13 = .ok (.lload_n 1, 1) := by decide +kernel
theorem dX4_addDog_14 : decode cX4_addDog 14 = .ok (.putfield 79, 3) := by decide +kernel
theorem dX4_addDog_17 : decode cX4_addDog 17 = .ok (.aload 4, 2) := by decide +kernel
theorem dX4_addDog_19 : decode cX4_addDog 19 = .ok (.iload_n 3, 1) := by decide +kernel
theorem dX4_addDog_20 : decode cX4_addDog 20 = .ok (.putfield 80, 3) := by decide +kernel
theorem dX4_addDog_23 : decode cX4_addDog 23 = .ok (.aload 4, 2) := by decide +kernel
theorem dX4_addDog_25 : decode cX4_addDog 25 = .ok (.iconst 0, 1) := by decide +kernel
theorem dX4_addDog_26 : decode cX4_addDog 26 = .ok (.putfield 83, 3) := by decide +kernel
theorem dX4_addDog_29 : decode cX4_addDog 29 = .ok (.aload 4, 2) := by decide +kernel
theorem dX4_addDog_31 : decode cX4_addDog 31 = .ok (.iconst 0, 1) := by decide +kernel
theorem dX4_addDog_32 : decode cX4_addDog 32 = .ok (.putfield 87, 3) := by decide +kernel
theorem dX4_addDog_35 : decode cX4_addDog 35 = .ok (.aload 4, 2) := by decide +kernel
theorem dX4_addDog_37 : decode cX4_addDog 37 = .ok (.iconst 0, 1) := by decide +kernel
theorem dX4_addDog_38 : decode cX4_addDog 38 = .ok (.putfield 90, 3) := by decide +kernel
theorem dX4_addDog_41 : decode cX4_addDog 41 = .ok (.aload_n 0, 1) := by decide +kernel
theorem dX4_addDog_42 : decode cX4_addDog 42 = .ok (.getfield 25, 3) := by decide +kernel
theorem dX4_addDog_45 : decode cX4_addDog 45 = .ok (.iload_n 3, 1) := by decide +kernel
theorem dX4_addDog_46 : decode cX4_addDog 46 = .ok (.aaload, 1) := by decide +kernel
theorem dX4_addDog_47 : decode cX4_addDog 47 = .ok (.dup, 1) := by decide +kernel
theorem dX4_addDog_48 : decode cX4_addDog 48 = .ok (.getfield 77, 3) := by decide +kernel
theorem dX4_addDog_51 : decode cX4_addDog 51 = .ok (.iconst 1, 1) := by decide +kernel
theorem dX4_addDog_52 : decode cX4_addDog 52 = .ok (.aload_n 0, 1) := by decide +kernel
theorem dX4_addDog_53 : decode cX4_addDog 53 = .ok (.getfield 47, 3) := by decide +kernel
theorem dX4_addDog_56 : decode cX4_addDog 56 = .ok (.ishl, 1) := by decide +kernel
theorem dX4_addDog_57 : decode cX4_addDog 57 = .ok (.ior, 1) := by decide +kernel
theorem dX4_addDog_58 : decode cX4_addDog 58 = .ok (.putfield 77, 3) := by decide +kernel
theorem dX4_addDog_61 : decode cX4_addDog 61 = .ok (.aload_n 0, 1) := by decide +kernel
theorem dX4_addDog_62 : decode cX4_addDog 62 = .ok (.dup, 1) := by decide +kernel
theorem dX4_addDog_63 : decode cX4_addDog 63 = .ok (.getfield 47, 3) := by decide +kernel
theorem dX4_addDog_66 : decode cX4_addDog 66 = .ok (.iconst 1, 1) := by decide +kernel
theorem dX4_addDog_67 : decode cX4_addDog 67 = .ok (.iadd, 1) := by decide +kernel
theorem dX4_addDog_68 : decode cX4_addDog 68 = .ok (.putfield 47, 3) := by decide +kernel
theorem dX4_addDog_71 : decode cX4_addDog 71 = .ok (.aload 4, 2) := by decide +kernel
theorem dX4_addDog_73 : decode cX4_addDog 73 = .ok (.areturn, 1) := by decide +kernel
theorem dX5_readPlace_0 : decode cX5_readPlace 0 = .ok (.aload_n 2, 1) := by decide +kernel
theorem dX5_readPlace_1 : decode cX5_readPlace 1 = .ok (.getfield 70, 3) := by decide +kernel
theorem dX5_readPlace_4 : decode cX5_readPlace 4 = .ok (.iconst 5, 1) := by decide +kernel
theorem dX5_readPlace_5 : decode cX5_readPlace 5 = .ok (.if_icmp .lt 9, 3) := by decide +kernel
theorem dX5_readPlace_14 : decode cX5_readPlace 14 = .ok (.aload_n 1, 1) := by decide +kernel
theorem dX5_readPlace_15 : decode cX5_readPlace 15 = .ok (.invokevirtual 73, 3) := by decide +kernel
theorem dX5_readPlace_18 : decode cX5_readPlace 18 = .ok (.aload_n 1, 1) := by decide +kernel
theorem dX5_readPlace_19 : decode cX5_readPlace 19 = .ok (.aload_n 2, 1) := by decide +kernel
theorem dX5_readPlace_20 : decode cX5_readPlace 20 = .ok (.invokevirtual 76, 3) := by decide +kernel
theorem dX5_readPlace_23 : decode cX5_readPlace 23 = .ok (.ifCond .ne 5, 3) := by decide +kernel
theorem dX5_readPlace_28 : decode cX5_readPlace 28 = .ok (.aload_n 1, 1) := by decide +kernel
theorem dX5_readPlace_29 : decode cX5_readPlace 29 = .ok (.getfield 29, 3) := by decide +kernel
theorem dX5_readPlace_32 : decode cX5_readPlace 32 = .ok (.getstatic 80, 3) := by decide +kernel
theorem dX5_readPlace_35 : decode cX5_readPlace 35 = .ok (.if_acmp .ne 7, 3) := by decide +kernel
theorem dX5_readPlace_42 : decode cX5_readPlace 42 = .ok (.iconst 0, 1) := by decide +kernel
theorem dX5_readPlace_43 : decode cX5_readPlace 43 = .ok (.istore_n 3, 1) := by decide +kernel
theorem dX5_readPlace_44 : decode cX5_readPlace 44 = .ok (.iload_n 3, 1) := by decide +kernel
theorem dX5_readPlace_45 : decode cX5_readPlace 45 = .ok (.ifCond .eq 7, 3) := by decide +kernel
theorem dX5_readPlace_52 : decode cX5_readPlace 52 = .ok (.aload_n 2, 1) := by decide +kernel
theorem dX5_readPlace_53 : decode cX5_readPlace 53 = .ok (.aload_n 1, 1) := by decide +kernel
theorem dX5_readPlace_54 : decode cX5_readPlace 54 = .ok (.getfield 83, 3) := by decide +kernel
theorem dX5_readPlace_57 : decode cX5_readPlace 57 = .ok (.iload_n 3, 1) := by decide +kernel
theorem dX5_readPlace_58 : decode cX5_readPlace 58 = .ok (.invokevirtual 87, 3) := by decide +kernel
theorem dX5_readPlace_61 : decode cX5_readPlace 61 = .ok (.aload_n 1, 1) := by decide +kernel
theorem dX5_readPlace_62 : decode cX5_readPlace 62 = .ok (.bipush 59, 2) := by decide +kernel
theorem dX5_readPlace_64 : decode cX5_readPlace 64 = .ok (.invokevirtual 91, 3) := by decide +kernel
theorem dX5_readPlace_67 : decode cX5_readPlace 67 = .ok (.ireturn, 1) := by decide +kernel
theorem dX5_readPlace_38 : decode cX5_readPlace 38 = .ok (.iconst 1, 1) := by decide +kernel
theorem dX5_readPlace_39 : decode cX5_readPlace 39 = .ok (.goto 4, 3) := by decide +kernel
theorem dX5_readPlace_48 : decode cX5_readPlace 48 = .ok (.aload_n 1, 1) := by decide +kernel
theorem dX5_readPlace_49 : decode cX5_readPlace 49 = .ok (.invokevirtual 73, 3) := by decide +kernel
theorem dX5_readPlace_26 : decode cX5_readPlace 26 = .ok (.iconst 0, 1) := by decide +kernel
theorem dX5_readPlace_27 : decode cX5_readPlace 27 = .ok (.ireturn, 1) := by decide +kernel
theorem dX5_readPlace_8 : decode cX5_readPlace 8 = .ok (.aload_n 1, 1) := by decide +kernel
theorem dX5_readPlace_9 : decode cX5_readPlace 9 = .ok (.iconst 4, 1) := by decide +kernel
theorem dX5_readPlace_10 : decode cX5_readPlace 10 = .ok (.invokevirtual 66, 3) := by decide +kernel
theorem dX5_readPlace_13 : decode cX5_readPlace 13 = .ok (.ireturn, 1) := by decide +kernel
theorem dX5_readPerson_0 : decode cX5_readPerson 0 = .ok (.aload_n 2, 1) := by decide +kernel
theorem dX5_readPerson_1 : decode cX5_readPerson 1 = .ok (.getfield 94, 3) := by decide +kernel
theorem dX5_readPerson_4 : decode cX5_readPerson 4 = .ok (.bipush 8, 2) := by decide +kernel
theorem dX5_readPerson_6 : decode cX5_readPerson 6 = .ok (.if_icmp .lt 9, 3) := by decide +kernel
theorem dX5_readPerson_15 : decode cX5_readPerson 15 = .ok (.aload_n 1, 1) := by decide +kernel
theorem dX5_readPerson_16 : decode cX5_readPerson 16 = .ok (.invokevirtual 73, 3) := by decide +kernel
theorem dX5_readPerson_19 : decode cX5_readPerson 19 = .ok (.aload_n 1, 1) := by decide +kernel
theorem dX5_readPerson_20 : decode cX5_readPerson 20 = .ok (.aload_n 2, 1) := by decide +kernel
theorem dX5_readPerson_21 : decode cX5_readPerson 21 = .ok (.invokevirtual 76, 3) := by decide +kernel
theorem dX5_readPerson_24 : decode cX5_readPerson 24 = .ok (.ifCond .eq 12, 3) := by decide +kernel
theorem dX5_readPerson_27 : decode cX5_readPerson 27 = .ok (.aload_n 1, 1) := by decide +kernel
theorem dX5_readPerson_28 : decode cX5_readPerson 28 = .ok (.aload_n 2, 1) := by decide +kernel
theorem dX5_readPerson_29 : decode cX5_readPerson 29 = .ok (.iconst 0, 1) := by decide +kernel
theorem dX5_readPerson_30 : decode cX5_readPerson 30 = .ok (.invokevirtual 97, 3) := by decide +kernel
theorem dX5_readPerson_33 : decode cX5_readPerson 33 = .ok (.ifCond .ne 5, 3) := by decide +kernel
theorem dX5_readPerson_38 : decode cX5_readPerson 38 = .ok (.aload_n 1, 1) := by decide +kernel
theorem dX5_readPerson_39 : decode cX5_readPerson 39 = .ok (.getfield 101, 3) := by decide +kernel
theorem dX5_readPerson_42 : decode cX5_readPerson 42 = .ok (.istore_n 3, 1) := by decide +kernel
theorem dX5_readPerson_43 : decode cX5_readPerson 43 = .ok (.aload_n 1, 1) := by decide +kernel
theorem dX5_readPerson_44 : decode cX5_readPerson 44 = .ok (.invokevirtual 104, 3) := by decide +kernel
theorem dX5_readPerson_47 : decode cX5_readPerson 47 = .ok (.ifCond .eq 13, 3) := by decide +kernel
theorem dX5_readPerson_50 : decode cX5_readPerson 50 = .ok (.aload_n 1, 1) := by decide +kernel
theorem dX5_readPerson_51 : decode cX5_readPerson 51 = .ok (.iconst 0, 1) := by decide +kernel
theorem dX5_readPerson_52 : decode cX5_readPerson 52 = .ok (.bipush 30, 2) := by decide +kernel
theorem dX5_readPerson_54 : decode cX5_readPerson 54 = .ok (.invokevirtual 108, 3) := by decide +kernel
theorem dX5_readPerson_57 : decode cX5_readPerson 57 = .ok (.ifCond .ne 5, 3) := by decide +kernel
theorem dX5_readPerson_62 : decode cX5_readPerson 62 = .ok (.aload_n 2, 1) := by decide +kernel
theorem dX5_readPerson_63 : decode cX5_readPerson 63 = .ok (.aload_n 1, 1) := by decide +kernel
theorem dX5_readPerson_64 : decode cX5_readPerson 64 = .ok (.getfield 83, 3) := by decide +kernel
theorem dX5_readPerson_67 : decode cX5_readPerson 67 = .ok (.invokevirtual 112, 3) := by decide +kernel
theorem dX5_readPerson_70 : decode cX5_readPerson 70 = .ok (.astore 4, 2) := by decide +kernel
theorem dX5_readPerson_72 : decode cX5_readPerson 72 = .ok (.aload 4, 2) := by decide +kernel
theorem dX5_readPerson_74 : decode cX5_readPerson 74 = .ok (.iload_n 3, 1) := by decide +kernel
theorem dX5_readPerson_75 : decode cX5_readPerson 75 = .ok (.putfield 116, 3) := by decide +kernel
theorem dX5_readPerson_78 : decode cX5_readPerson 78 = .ok (.aload 4, 2) := by decide +kernel
theorem dX5_readPerson_80 : decode cX5_readPerson 80 = .ok (.aload_n 1, 1) := by decide +kernel
theorem dX5_readPerson_81 : decode cX5_readPerson 81 = .ok (.getfield 121, 3) := by decide +kernel
theorem dX5_readPerson_84 : decode cX5_readPerson 84 = .ok (.putfield 124, 3) := by decide +kernel
theorem dX5_readPerson_87 : decode cX5_readPerson 87 = .ok (.aload 4, 2) := by decide +kernel
theorem dX5_readPerson_89 : decode cX5_readPerson 89 = .ok (.aload_n 1, 1) := by decide +kernel
theorem dX5_readPerson_90 : decode cX5_readPerson 90 = .ok (.getfield 125, 3) := by decide +kernel
theorem dX5_readPerson_93 : decode cX5_readPerson 93 = .ok (.putfield 128, 3) := by decide +kernel
theorem dX5_readPerson_96 : decode cX5_readPerson 96 = .ok (.aload 4, 2) := by decide +kernel
theorem dX5_readPerson_98 : decode cX5_readPerson 98 = .ok (.aload_n 1, 1) := by decide +kernel
theorem dX5_readPerson_99 : decode cX5_readPerson 99 = .ok (.getfield 101, 3) := by decide +kernel
theorem dX5_readPerson_102 : decode cX5_readPerson 102 = .ok (.putfield 129, 3) := by decide +kernel
theorem dX5_readPerson_105 : decode cX5_readPerson 105 = .ok (.aload_n 1, 1) := by decide +kernel
theorem dX5_readPerson_106 : decode cX5_readPerson 106 = .ok (.bipush 59, 2) := by decide +kernel
theorem dX5_readPerson_108 : decode cX5_readPerson 108 = .ok (.invokevirtual 91, 3) := by decide +kernel
theorem dX5_readPerson_111 : decode cX5_readPerson 111 = .ok (.ireturn, 1) := by decide +kernel
theorem dX5_readPerson_60 : decode cX5_readPerson 60 = .ok (.iconst 0, 1) := by decide +kernel
theorem dX5_readPerson_61 : decode cX5_readPerson 61 = .ok (.ireturn, 1) := by decide +kernel
theorem dX5_readPerson_36 : decode cX5_readPerson 36 = .ok (.iconst 0, 1) := by decide +kernel
theorem dX5_readPerson_37 : decode cX5_readPerson 37 = .ok (.ireturn, 1) := by decide +kernel
theorem dX5_readPerson_9 : decode cX5_readPerson 9 = .ok (.aload_n 1, 1) := by decide +kernel
theorem dX5_readPerson_10 : decode cX5_readPerson 10 = .ok (.iconst 4, 1) := by decide +kernel
theorem dX5_readPerson_11 : decode cX5_readPerson 11 = .ok (.invokevirtual 66, 3) := by decide +kernel
theorem dX5_readPerson_14 : decode cX5_readPerson 14 = .ok (.ireturn, 1) := by decide +kernel
theorem dX5_readDog_0 : decode cX5_readDog 0 = .ok (.aload_n 2, 1) := by decide +kernel
theorem dX5_readDog_1 : decode cX5_readDog 1 = .ok (.getfield 132, 3) := by decide +kernel
theorem dX5_readDog_4 : decode cX5_readDog 4 = .ok (.bipush 6, 2) := by decide +kernel
theorem dX5_readDog_6 : decode cX5_readDog 6 = .ok (.if_icmp .lt 9, 3) := by decide +kernel
theorem dX5_readDog_15 : decode cX5_readDog 15 = .ok (.aload_n 1, 1) := by decide +kernel
theorem dX5_readDog_16 : decode cX5_readDog 16 = .ok (.invokevirtual 73, 3) := by decide +kernel
theorem dX5_readDog_19 : decode cX5_readDog 19 = .ok (.aload_n 1, 1) := by decide +kernel
theorem dX5_readDog_20 : decode cX5_readDog 20 = .ok (.aload_n 2, 1) := by decide +kernel
theorem dX5_readDog_21 : decode cX5_readDog 21 = .ok (.invokevirtual 76, 3) := by decide +kernel
theorem dX5_readDog_24 : decode cX5_readDog 24 = .ok (.ifCond .eq 12, 3) := by decide +kernel
theorem dX5_readDog_27 : decode cX5_readDog 27 = .ok (.aload_n 1, 1) := by decide +kernel
theorem dX5_readDog_28 : decode cX5_readDog 28 = .ok (.aload_n 2, 1) := by decide +kernel
theorem dX5_readDog_29 : decode cX5_readDog 29 = .ok (.iconst 1, 1) := by decide +kernel
theorem dX5_readDog_30 : decode cX5_readDog 30 = .ok (.invokevirtual 97, 3) := by decide +kernel
theorem dX5_readDog_33 : decode cX5_readDog 33 = .ok (.ifCond .ne 5, 3) := by decide +kernel
theorem dX5_readDog_38 : decode cX5_readDog 38 = .ok (.aload_n 1, 1) := by decide +kernel
theorem dX5_readDog_39 : decode cX5_readDog 39 = .ok (.getfield 101, 3) := by decide +kernel
theorem dX5_readDog_42 : decode cX5_readDog 42 = .ok (.istore_n 3, 1) := by decide +kernel
theorem dX5_readDog_43 : decode cX5_readDog 43 = .ok (.aload_n 1, 1) := by decide +kernel
theorem dX5_readDog_44 : decode cX5_readDog 44 = .ok (.iconst 0, 1) := by decide +kernel
theorem dX5_readDog_45 : decode cX5_readDog 45 = .ok (.bipush 12, 2) := by decide +kernel
theorem dX5_readDog_47 : decode cX5_readDog 47 = .ok (.invokevirtual 108, 3) := by decide +kernel
theorem dX5_readDog_50 : decode cX5_readDog 50 = .ok (.ifCond .ne 5, 3) := by decide +kernel
theorem dX5_readDog_55 : decode cX5_readDog 55 = .ok (.aload_n 1, 1) := by decide +kernel
theorem dX5_readDog_56 : decode cX5_readDog 56 = .ok (.getfield 101, 3) := by decide +kernel
theorem dX5_readDog_59 : decode cX5_readDog 59 = .ok (.istore 4, 2) := by decide +kernel
theorem dX5_readDog_61 : decode cX5_readDog 61 = .ok (.aload_n 1, 1) := by decide +kernel
theorem dX5_readDog_62 : decode cX5_readDog 62 = .ok (.iconst 0, 1) := by decide +kernel
theorem dX5_readDog_63 : decode cX5_readDog 63 = .ok (.bipush 12, 2) := by decide +kernel
theorem dX5_readDog_65 : decode cX5_readDog 65 = .ok (.invokevirtual 108, 3) := by decide +kernel
theorem dX5_readDog_68 : decode cX5_readDog 68 = .ok (.ifCond .ne 5, 3) := by decide +kernel
theorem dX5_readDog_73 : decode cX5_readDog 73 = .ok (.aload_n 2, 1) := by decide +kernel
theorem dX5_readDog_74 : decode cX5_readDog 74 = .ok (.aload_n 1, 1) := by decide +kernel
theorem dX5_readDog_75 : decode cX5_readDog 75 = .ok (.getfield 83, 3) := by decide +kernel
theorem dX5_readDog_78 : decode cX5_readDog 78 = .ok (.iload_n 3, 1) := by decide +kernel
theorem dX5_readDog_79 : decode cX5_readDog 79 = .ok (.invokevirtual 135, 3) := by decide +kernel
theorem dX5_readDog_82 : decode cX5_readDog 82 = .ok (.astore 5, 2) := by decide +kernel
theorem dX5_readDog_84 : decode cX5_readDog 84 = .ok (.aload 5, 2) := by decide +kernel
theorem dX5_readDog_86 : decode cX5_readDog 86 = .ok (.iload 4, 2) := by decide +kernel
theorem dX5_readDog_88 : decode cX5_readDog 88 = .ok (.putfield 139, 3) := by decide +kernel
theorem dX5_readDog_91 : decode cX5_readDog 91 = .ok (.aload 5, 2) := by decide +kernel
theorem dX5_readDog_93 : decode cX5_readDog 93 = .ok (.aload_n 1, 1) := by decide +kernel
theorem dX5_readDog_94 : decode cX5_readDog 94 = .ok (.getfield 101, 3) := by decide +kernel
theorem dX5_readDog_97 : decode cX5_readDog 97 = .ok (.putfield 144, 3) := by decide +kernel
theorem dX5_readDog_100 : decode cX5_readDog 100 = .ok (.aload_n 1, 1) := by decide +kernel
theorem dX5_readDog_101 : decode cX5_readDog 101 = .ok (.bipush 59, 2) := by decide +kernel
theorem dX5_readDog_103 : decode cX5_readDog 103 = .ok (.invokevirtual 91, 3) := by decide +kernel
theorem dX5_readDog_106 : decode cX5_readDog 106 = .ok (.ireturn, 1) := by decide +kernel
theorem dX5_readDog_71 : decode cX5_readDog 71 = .ok (.iconst 0, 1) := by decide +kernel
theorem dX5_readDog_72 : decode cX5_readDog 72 = .ok (.ireturn, 1) := by decide +kernel
theorem dX5_readDog_53 : decode cX5_readDog 53 = .ok (.iconst 0, 1) := by decide +kernel
theorem dX5_readDog_54 : decode cX5_readDog 54 = .ok (.ireturn, 1) := by decide +kernel
theorem dX5_readDog_36 : decode cX5_readDog 36 = .ok (.iconst 0, 1) := by decide +kernel
theorem dX5_readDog_37 : decode cX5_readDog 37 = .ok (.ireturn, 1) := by decide +kernel
theorem dX5_readDog_9 : decode cX5_readDog 9 = .ok (.aload_n 1, 1) := by decide +kernel
theorem dX5_readDog_10 : decode cX5_readDog 10 = .ok (.iconst 4, 1) := by decide +kernel
theorem dX5_readDog_11 : decode cX5_readDog 11 = .ok (.invokevirtual 66, 3) := by decide +kernel
theorem dX5_readDog_14 : decode cX5_readDog 14 = .ok (.ireturn, 1) := by decide +kernel
theorem dX5_readFree_0 : decode cX5_readFree 0 = .ok (.aload_n 0, 1) := by decide +kernel
theorem dX5_readFree_1 : decode cX5_readFree 1 = .ok (.getfield 14, 3) := by decide +kernel
theorem dX5_readFree_4 : decode cX5_readFree 4 = .ok (.bipush 12, 2) := by decide +kernel
theorem dX5_readFree_6 : decode cX5_readFree 6 = .ok (.if_icmp .lt 9, 3) := by decide +kernel
theorem dX5_readFree_15 : decode cX5_readFree 15 = .ok (.aload_n 0, 1) := by decide +kernel
theorem dX5_readFree_16 : decode cX5_readFree 16 = .ok (.dup, 1) := by decide +kernel
theorem dX5_readFree_17 : decode cX5_readFree 17 = .ok (.getfield 14, 3) := by decide +kernel
theorem dX5_readFree_20 : decode cX5_readFree 20 = .ok (.iconst 1, 1) := by decide +kernel
theorem dX5_readFree_21 : decode cX5_readFree 21 = .ok (.iadd, 1) := by decide +kernel
theorem dX5_readFree_22 : decode cX5_readFree 22 = .ok (.putfield 14, 3) := by decide +kernel
theorem dX5_readFree_25 : decode cX5_readFree 25 = .ok (.aload_n 1, 1) := by decide +kernel
theorem dX5_readFree_26 : decode cX5_readFree 26 = .ok (.invokevirtual 73, 3) := by decide +kernel
theorem dX5_readFree_29 : decode cX5_readFree 29 = .ok (.aload_n 1, 1) := by decide +kernel
theorem dX5_readFree_30 : decode cX5_readFree 30 = .ok (.aload_n 2, 1) := by decide +kernel
theorem dX5_readFree_31 : decode cX5_readFree 31 = .ok (.iconst 0, 1) := by decide +kernel
theorem dX5_readFree_32 : decode cX5_readFree 32 = .ok (.invokevirtual 97, 3) := by decide +kernel
theorem dX5_readFree_35 : decode cX5_readFree 35 = .ok (.ifCond .ne 5, 3) := by decide +kernel
theorem dX5_readFree_40 : decode cX5_readFree 40 = .ok (.aload_n 1, 1) := by decide +kernel
theorem dX5_readFree_41 : decode cX5_readFree 41 = .ok (.getfield 101, 3) := by decide +kernel
theorem dX5_readFree_44 : decode cX5_readFree 44 = .ok (.istore_n 3, 1) := by decide +kernel
theorem dX5_readFree_45 : decode cX5_readFree 45 = .ok (.aload_n 1, 1) := by decide +kernel
theorem dX5_readFree_46 : decode cX5_readFree 46 = .ok (.invokevirtual 104, 3) := by decide +kernel
theorem dX5_readFree_49 : decode cX5_readFree 49 = .ok (.ifCond .ne 5, 3) := by decide +kernel
theorem dX5_readFree_54 : decode cX5_readFree 54 = .ok (.aload_n 2, 1) := by decide +kernel
theorem dX5_readFree_55 : decode cX5_readFree 55 = .ok (.getfield 147, 3) := by decide +kernel
theorem dX5_readFree_58 : decode cX5_readFree 58 = .ok (.iload_n 3, 1) := by decide +kernel
theorem dX5_readFree_59 : decode cX5_readFree 59 = .ok (.dup2, 1) := by decide +kernel
theorem dX5_readFree_60 : decode cX5_readFree 60 = .ok (.iaload, 1) := by decide +kernel
theorem dX5_readFree_61 : decode cX5_readFree 61 = .ok (.aload_n 1, 1) := by decide +kernel
theorem dX5_readFree_62 : decode cX5_readFree 62 = .ok (.getfield 121, 3) := by decide +kernel
theorem dX5_readFree_65 : decode cX5_readFree 65 = .ok (.aload_n 1, 1) := by decide +kernel
theorem dX5_readFree_66 : decode cX5_readFree 66 = .ok (.getfield 125, 3) := by decide +kernel
theorem dX5_readFree_69 : decode cX5_readFree 69 = .ok (.invokestatic 151, 3) := by decide +kernel
theorem dX5_readFree_72 : decode cX5_readFree 72 = .ok (.ior, 1) := by decide +kernel
theorem dX5_readFree_73 : decode cX5_readFree 73 = .ok (.iastore, 1) := by decide +kernel
theorem dX5_readFree_74 : decode cX5_readFree 74 = .ok (.aload_n 1, 1) := by decide +kernel
theorem dX5_readFree_75 : decode cX5_readFree 75 = .ok (.bipush 59, 2) := by decide +kernel
theorem dX5_readFree_77 : decode cX5_readFree 77 = .ok (.invokevirtual 91, 3) := by decide +kernel
theorem dX5_readFree_80 : decode cX5_readFree 80 = .ok (.ireturn, 1) := by decide +kernel
theorem dX5_readFree_52 : decode cX5_readFree 52 = .ok (.iconst 0, 1) := by decide +kernel
theorem dX5_readFree_53 : decode cX5_readFree 53 = .ok (.ireturn, 1) := by decide +kernel
theorem dX5_readFree_38 : decode cX5_readFree 38 = .ok (.iconst 0, 1) := by decide +kernel
theorem dX5_readFree_39 : decode cX5_readFree 39 = .ok (.ireturn, 1) := by decide +kernel
theorem dX5_readFree_9 : decode cX5_readFree 9 = .ok (.aload_n 1, 1) := by decide +kernel
theorem dX5_readFree_10 : decode cX5_readFree 10 = .ok (.iconst 4, 1) := by decide +kernel
theorem dX5_readFree_11 : decode cX5_readFree 11 = .ok (.invokevirtual 66, 3) := by decide +kernel
theorem dX5_readFree_14 : decode cX5_readFree 14 = .ok (.ireturn, 1) := by decide +kernel
theorem dX5_readSign_0 : decode cX5_readSign 0 = .ok (.aload_n 0, 1) := by decide +kernel
theorem dX5_readSign_1 : decode cX5_readSign 1 = .ok (.getfield 20, 3) := by decide +kernel
theorem dX5_readSign_4 : decode cX5_readSign 4 = .ok (.ifCond .eq 9, 3) := by decide +kernel
theorem dX5_readSign_13 : decode cX5_readSign 13 = .ok (.aload_n 0, 1) := by decide +kernel
theorem dX5_readSign_14 : decode cX5_readSign 14 = .ok (.iconst 1, 1) := by decide +kernel
theorem dX5_readSign_15 : decode cX5_readSign 15 = .ok (.putfield 20, 3) := by decide +kernel
theorem dX5_readSign_18 : decode cX5_readSign 18 = .ok (.aload_n 1, 1) := by decide +kernel
theorem dX5_readSign_19 : decode cX5_readSign 19 = .ok (.invokevirtual 73, 3) := by decide +kernel
theorem dX5_readSign_22 : decode cX5_readSign 22 = .ok (.aload_n 1, 1) := by decide +kernel
theorem dX5_readSign_23 : decode cX5_readSign 23 = .ok (.iconst 0, 1) := by decide +kernel
theorem dX5_readSign_24 : decode cX5_readSign 24 = .ok (.bipush 12, 2) := by decide +kernel
theorem dX5_readSign_26 : decode cX5_readSign 26 = .ok (.invokevirtual 108, 3) := by decide +kernel
theorem dX5_readSign_29 : decode cX5_readSign 29 = .ok (.ifCond .ne 5, 3) := by decide +kernel
theorem dX5_readSign_34 : decode cX5_readSign 34 = .ok (.aload_n 2, 1) := by decide +kernel
theorem dX5_readSign_35 : decode cX5_readSign 35 = .ok (.aload_n 1, 1) := by decide +kernel
theorem dX5_readSign_36 : decode cX5_readSign 36 = .ok (.getfield 101, 3) := by decide +kernel
theorem dX5_readSign_39 : decode cX5_readSign 39 = .ok (.putfield 155, 3) := by decide +kernel
theorem dX5_readSign_42 : decode cX5_readSign 42 = .ok (.aload_n 1, 1) := by decide +kernel
theorem dX5_readSign_43 : decode cX5_readSign 43 = .ok (.bipush 59, 2) := by decide +kernel
theorem dX5_readSign_45 : decode cX5_readSign 45 = .ok (.invokevirtual 91, 3) := by decide +kernel
theorem dX5_readSign_48 : decode cX5_readSign 48 = .ok (.ireturn, 1) := by decide +kernel
theorem dX5_readSign_32 : decode cX5_readSign 32 = .ok (.iconst 0, 1) := by decide +kernel
theorem dX5_readSign_33 : decode cX5_readSign 33 = .ok (.ireturn, 1) := by decide +kernel
theorem dX5_readSign_7 : decode cX5_readSign 7 = .ok (.aload_n 1, 1) := by decide +kernel
theorem dX5_readSign_8 : decode cX5_readSign 8 = .ok (.iconst 3, 1) := by decide +kernel
theorem dX5_readSign_9 : decode cX5_readSign 9 = .ok (.invokevirtual 66, 3) := by decide +kernel
theorem dX5_readSign_12 : decode cX5_readSign 12 = .ok (.ireturn, 1) := by decide +kernel
theorem dX5_readAll_0 : decode cX5_readAll 0 = .ok (.aload_n 2, 1) := by decide +kernel
theorem dX5_readAll_1 : decode cX5_readAll 1 = .ok (.invokevirtual 9, 3) := by decide +kernel
theorem dX5_readAll_4 : decode cX5_readAll 4 = .ok (.aload_n 0, 1) := by decide +kernel
theorem dX5_readAll_5 : decode cX5_readAll 5 = .ok (.iconst 0, 1) := by decide +kernel
theorem dX5_readAll_6 : decode cX5_readAll 6 = .ok (.putfield 14, 3) := by decide +kernel
theorem dX5_readAll_9 : decode cX5_readAll 9 = .ok (.aload_n 0, 1) := by decide +kernel
theorem dX5_readAll_10 : decode cX5_readAll 10 = .ok (.iconst 0, 1) := by decide +kernel
theorem dX5_readAll_11 : decode cX5_readAll 11 = .ok (.putfield 20, 3) := by decide +kernel
theorem dX5_readAll_14 : decode cX5_readAll 14 = .ok (.iconst 0, 1) := by decide +kernel
theorem dX5_readAll_15 : decode cX5_readAll 15 = .ok (.istore_n 3, 1) := by decide +kernel
theorem dX5_readAll_16 : decode cX5_readAll 16 = .ok (.iconst 1, 1) := by decide +kernel
theorem dX5_readAll_17 : decode cX5_readAll 17 = .ok (.istore 4, 2) := by decide +kernel
theorem dX5_readAll_19 : decode cX5_readAll 19 = .ok (.iload 4, 2) := by decide +kernel
theorem dX5_readAll_21 : decode cX5_readAll 21 = .ok (.ifCond .eq 136, 3) := by decide +kernel
theorem dX5_readAll_157 : decode cX5_readAll 157 = .ok (.iload_n 3, 1) := by decide +kernel
theorem dX5_readAll_158 : decode cX5_readAll 158 = .ok (.ireturn, 1) := by decide +kernel
theorem dX5_readAll_24 : decode cX5_readAll 24 = .ok (.iload_n 3, 1) := by decide +kernel
theorem dX5_readAll_25 : decode cX5_readAll 25 = .ok (.sipush 900, 3) := by decide +kernel
theorem dX5_readAll_28 : decode cX5_readAll 28 = .ok (.if_icmp .ge 129, 3) := by decide +kernel
theorem dX5_readAll_31 : decode cX5_readAll 31 = .ok (.aload_n 1, 1) := by decide +kernel
theorem dX5_readAll_32 : decode cX5_readAll 32 = .ok (.getfield 24, 3) := by decide +kernel
theorem dX5_readAll_35 : decode cX5_readAll 35 = .ok (.iconst 3, 1) := by decide +kernel
theorem dX5_readAll_36 : decode cX5_readAll 36 = .ok (.if_icmp .eq 121, 3) := by decide +kernel
theorem dX5_readAll_39 : decode cX5_readAll 39 = .ok (.aload_n 1, 1) := by decide +kernel
theorem dX5_readAll_40 : decode cX5_readAll 40 = .ok (.getfield 29, 3) := by decide +kernel
theorem dX5_readAll_43 : decode cX5_readAll 43 = .ok (.getstatic 33, 3) := by decide +kernel
theorem dX5_readAll_46 : decode cX5_readAll 46 = .ok (.if_acmp .ne 14, 3) := by decide +kernel
theorem dX5_readAll_60 : decode cX5_readAll 60 = .ok (.aload_n 1, 1) := by decide +kernel
theorem dX5_readAll_61 : decode cX5_readAll 61 = .ok (.getfield 29, 3) := by decide +kernel
theorem dX5_readAll_64 : decode cX5_readAll 64 = .ok (.getstatic 42, 3) := by decide +kernel
theorem dX5_readAll_67 : decode cX5_readAll 67 = .ok (.if_acmp .ne 14, 3) := by decide +kernel
theorem dX5_readAll_81 : decode cX5_readAll 81 = .ok (.aload_n 1, 1) := by decide +kernel
theorem dX5_readAll_82 : decode cX5_readAll 82 = .ok (.getfield 29, 3) := by decide +kernel
theorem dX5_readAll_85 : decode cX5_readAll 85 = .ok (.getstatic 48, 3) := by decide +kernel
theorem dX5_readAll_88 : decode cX5_readAll 88 = .ok (.if_acmp .ne 14, 3) := by decide +kernel
theorem dX5_readAll_102 : decode cX5_readAll 102 = .ok (.aload_n 1, 1) := by decide +kernel
theorem dX5_readAll_103 : decode cX5_readAll 103 = .ok (.getfield 29, 3) := by decide +kernel
theorem dX5_readAll_106 : decode cX5_readAll 106 = .ok (.getstatic 54, 3) := by decide +kernel
theorem dX5_readAll_109 : decode cX5_readAll 109 = .ok (.if_acmp .ne 14, 3) := by decide +kernel
theorem dX5_readAll_123 : decode cX5_readAll 123 = .ok (.aload_n 1, 1) := by decide +kernel
theorem dX5_readAll_124 : decode cX5_readAll 124 = .ok (.getfield 29, 3) := by decide +kernel
theorem dX5_readAll_127 : decode cX5_readAll 127 = .ok (.getstatic 60, 3) := by decide +kernel
theorem dX5_readAll_130 : decode cX5_readAll 130 = .ok (.if_acmp .ne 14, 3) := by decide +kernel
theorem dX5_readAll_144 : decode cX5_readAll 144 = .ok (.aload_n 1, 1) := by decide +kernel
theorem dX5_readAll_145 : decode cX5_readAll 145 = .ok (.iconst 1, 1) := by decide +kernel
theorem dX5_readAll_146 : decode cX5_readAll 146 = .ok (.invokevirtual 66, 3) := by decide +kernel
theorem dX5_readAll_149 : decode cX5_readAll 149 = .ok (.istore 4, 2) := by decide +kernel
theorem dX5_readAll_151 : decode cX5_readAll 151 = .ok (.iinc 3 1, 3) := by decide +kernel
theorem dX5_readAll_154 : decode cX5_readAll 154 = .ok (.goto (-135), 3) := by decide +kernel
theorem dX5_readAll_133 : decode cX5_readAll 133 = .ok (.aload_n 0, 1) := by decide +kernel
theorem dX5_readAll_134 : decode cX5_readAll 134 = .ok (.aload_n 1, 1) := by decide +kernel
theorem dX5_readAll_135 : decode cX5_readAll 135 = .ok (.aload_n 2, 1) := by decide +kernel
theorem dX5_readAll_136 : decode cX5_readAll 136 = .ok (.invokevirtual 63, 3) := by decide +kernel
theorem dX5_readAll_139 : decode cX5_readAll 139 = .ok (.istore 4, 2) := by decide +kernel
theorem dX5_readAll_141 : decode cX5_readAll 141 = .ok (.goto 10, 3) := by decide +kernel
theorem dX5_readAll_112 : decode cX5_readAll 112 = .ok (.aload_n 0, 1) := by decide +kernel
theorem dX5_readAll_113 : decode cX5_readAll 113 = .ok (.aload_n 1, 1) := by decide +kernel
theorem dX5_readAll_114 : decode cX5_readAll 114 = .ok (.aload_n 2, 1) := by decide +kernel
theorem dX5_readAll_115 : decode cX5_readAll 115 = .ok (.invokevirtual 57, 3) := by decide +kernel
theorem dX5_readAll_118 : decode cX5_readAll 118 = .ok (.istore 4, 2) := by decide +kernel
theorem dX5_readAll_120 : decode cX5_readAll 120 = .ok (.goto 31, 3) := by decide +kernel
theorem dX5_readAll_91 : decode cX5_readAll 91 = .ok (.aload_n 0, 1) := by decide +kernel
theorem dX5_readAll_92 : decode cX5_readAll 92 = .ok (.aload_n 1, 1) := by decide +kernel
theorem dX5_readAll_93 : decode cX5_readAll 93 = .ok (.aload_n 2, 1) := by decide +kernel
theorem dX5_readAll_94 : decode cX5_readAll 94 = .ok (.invokevirtual 51, 3) := by decide +kernel
theorem dX5_readAll_97 : decode cX5_readAll 97 = .ok (.istore 4, 2) := by decide +kernel
theorem dX5_readAll_99 : decode cX5_readAll 99 = .ok (.goto 52, 3) := by decide +kernel
theorem dX5_readAll_70 : decode cX5_readAll 70 = .ok (.aload_n 0, 1) := by decide +kernel
theorem dX5_readAll_71 : decode cX5_readAll 71 = .ok (.aload_n 1, 1) := by decide +kernel
theorem dX5_readAll_72 : decode cX5_readAll 72 = .ok (.aload_n 2, 1) := by decide +kernel
theorem dX5_readAll_73 : decode cX5_readAll 73 = .ok (.invokevirtual 45, 3) := by decide +kernel
theorem dX5_readAll_76 : decode cX5_readAll 76 = .ok (.istore 4, 2) := by decide +kernel
theorem dX5_readAll_78 : decode cX5_readAll 78 = .ok (.goto 73, 3) := by decide +kernel
theorem dX5_readAll_49 : decode cX5_readAll 49 = .ok (.aload_n 0, 1) := by decide +kernel
theorem dX5_readAll_50 : decode cX5_readAll 50 = .ok (.aload_n 1, 1) := by decide +kernel
theorem dX5_readAll_51 : decode cX5_readAll 51 = .ok (.aload_n 2, 1) := by decide +kernel
theorem dX5_readAll_52 : decode cX5_readAll 52 = .ok (.invokevirtual 38, 3) := by decide +kernel
theorem dX5_readAll_55 : decode cX5_readAll 55 = .ok (.istore 4, 2) := by decide +kernel
