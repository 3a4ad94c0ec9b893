theorem dX12_readNamed_0 : decode cX12_readNamed 0 = .ok (.aload_n 0, 1) := by decide +kernel
theorem dX12_readNamed_1 : decode cX12_readNamed 1 = .ok (.invokevirtual 157, 3) := by decide +kernel
theorem dX12_readNamed_4 : decode cX12_readNamed 4 = .ok (.ifCond .ne 9, 3) := by decide +kernel
theorem dX12_readNamed_13 : decode cX12_readNamed 13 = .ok (.aload_n 0, 1) := by decide +kernel
theorem dX12_readNamed_14 : decode cX12_readNamed 14 = .ok (.aload_n 0, 1) := by decide +kernel
theorem dX12_readNamed_15 : decode cX12_readNamed 15 = .ok (.getfield 113, 3) := by decide +kernel
theorem dX12_readNamed_18 : decode cX12_readNamed 18 = .ok (.iload_n 1, 1) := by decide +kernel
theorem dX12_readNamed_19 : decode cX12_readNamed 19 = .ok (.iload_n 2, 1) := by decide +kernel
theorem dX12_readNamed_20 : decode cX12_readNamed 20 = .ok (.aload_n 0, 1) := by decide +kernel
theorem dX12_readNamed_21 : decode cX12_readNamed 21 = .ok (.getfield 43, 3) := by decide +kernel
theorem dX12_readNamed_24 : decode cX12_readNamed 24 = .ok (.invokestatic 161, 3) := by decide +kernel
theorem dX12_readNamed_27 : decode cX12_readNamed 27 = .ok (.putfield 79, 3) := by decide +kernel
theorem dX12_readNamed_30 : decode cX12_readNamed 30 = .ok (.aload_n 0, 1) := by decide +kernel
theorem dX12_readNamed_31 : decode cX12_readNamed 31 = .ok (.getfield 79, 3) := by decide +kernel
theorem dX12_readNamed_34 : decode cX12_readNamed 34 = .ok (.iconst (-1), 1) := by decide +kernel
theorem dX12_readNamed_35 : decode cX12_readNamed 35 = .ok (.if_icmp .ne 9, 3) := by decide +kernel
theorem dX12_readNamed_38 : decode cX12_readNamed 38 = .ok (.aload_n 0, 1) := by decide +kernel
theorem dX12_readNamed_39 : decode cX12_readNamed 39 = .ok (.iconst 3, 1) := by decide +kernel
theorem dX12_readNamed_40 : decode cX12_readNamed 40 = .ok (.invokevirtual 72, 3) := by decide +kernel
theorem dX12_readNamed_43 : decode cX12_readNamed 43 = .ok (.ireturn, 1) := by decide +kernel
theorem dX12_readNamed_44 : decode cX12_readNamed 44 = .ok (.aload_n 0, 1) := by decide +kernel
theorem dX12_readNamed_45 : decode cX12_readNamed 45 = .ok (.invokevirtual 82, 3) := by decide +kernel
theorem dX12_readNamed_48 : decode cX12_readNamed 48 = .ok (.iconst 1, 1) := by decide +kernel
theorem dX12_readNamed_49 : decode cX12_readNamed 49 = .ok (.ireturn, 1) := by decide +kernel
theorem dX12_readNamed_7 : decode cX12_readNamed 7 = .ok (.aload_n 0, 1) := by decide +kernel
theorem dX12_readNamed_8 : decode cX12_readNamed 8 = .ok (.iconst 1, 1) := by decide +kernel
theorem dX12_readNamed_9 : decode cX12_readNamed 9 = .ok (.invokevirtual 72, 3) := by decide +kernel
theorem dX12_readNamed_12 : decode cX12_readNamed 12 = .ok (.ireturn, 1) := by decide +kernel
theorem dX12_readPlaceName_0 : decode cX12_readPlaceName 0 = .ok (.aload_n 0, 1) := by decide +kernel
theorem dX12_readPlaceName_1 : decode cX12_readPlaceName 1 = .ok (.iconst 0, 1) := by decide +kernel
theorem dX12_readPlaceName_2 : decode cX12_readPlaceName 2 = .ok (.aload_n 0, 1) := by decide +kernel
theorem dX12_readPlaceName_3 : decode cX12_readPlaceName 3 = .ok (.getfield 98, 3) := by decide +kernel
theorem dX12_readPlaceName_6 : decode cX12_readPlaceName 6 = .ok (.iconst 0, 1) := by decide +kernel
theorem dX12_readPlaceName_7 : decode cX12_readPlaceName 7 = .ok (.iaload, 1) := by decide +kernel
theorem dX12_readPlaceName_8 : decode cX12_readPlaceName 8 = .ok (.invokevirtual 359, 3) := by decide +kernel
theorem dX12_readPlaceName_11 : decode cX12_readPlaceName 11 = .ok (.ireturn, 1) := by decide +kernel
theorem dX12_keep_0 : decode cX12_keep 0 = .ok (.iload_n 2, 1) := by decide +kernel
theorem dX12_keep_1 : decode cX12_keep 1 = .ok (.ifCond .eq 13, 3) := by decide +kernel
theorem dX12_keep_14 : decode cX12_keep 14 = .ok (.iload_n 2, 1) := by decide +kernel
theorem dX12_keep_15 : decode cX12_keep 15 = .ok (.ireturn, 1) := by decide +kernel
theorem dX12_keep_4 : decode cX12_keep 4 = .ok (.aload_n 0, 1) := by decide +kernel
theorem dX12_keep_5 : decode cX12_keep 5 = .ok (.getfield 145, 3) := by decide +kernel
theorem dX12_keep_8 : decode cX12_keep 8 = .ok (.iload_n 1, 1) := by decide +kernel
theorem dX12_keep_9 : decode cX12_keep 9 = .ok (.aload_n 0, 1) := by decide +kernel
theorem dX12_keep_10 : decode cX12_keep 10 = .ok (.getfield 79, 3) := by decide +kernel
theorem dX12_keep_13 : decode cX12_keep 13 = .ok (.iastore, 1) := by decide +kernel
theorem dX12_readHours_0 : decode cX12_readHours 0 = .ok (.aload_n 0, 1) := by decide +kernel
theorem dX12_readHours_1 : decode cX12_readHours 1 = .ok (.iload_n 1, 1) := by decide +kernel
theorem dX12_readHours_2 : decode cX12_readHours 2 = .ok (.aload_n 0, 1) := by decide +kernel
theorem dX12_readHours_3 : decode cX12_readHours 3 = .ok (.iconst 0, 1) := by decide +kernel
theorem dX12_readHours_4 : decode cX12_readHours 4 = .ok (.bipush 23, 2) := by decide +kernel
theorem dX12_readHours_6 : decode cX12_readHours 6 = .ok (.invokevirtual 182, 3) := by decide +kernel
theorem dX12_readHours_9 : decode cX12_readHours 9 = .ok (.invokevirtual 362, 3) := by decide +kernel
theorem dX12_readHours_12 : decode cX12_readHours 12 = .ok (.ifCond .eq 29, 3) := by decide +kernel
theorem dX12_readHours_15 : decode cX12_readHours 15 = .ok (.aload_n 0, 1) := by decide +kernel
theorem dX12_readHours_16 : decode cX12_readHours 16 = .ok (.iload_n 1, 1) := by decide +kernel
theorem dX12_readHours_17 : decode cX12_readHours 17 = .ok (.iconst 1, 1) := by decide +kernel
theorem dX12_readHours_18 : decode cX12_readHours 18 = .ok (.iadd, 1) := by decide +kernel
theorem dX12_readHours_19 : decode cX12_readHours 19 = .ok (.aload_n 0, 1) := by decide +kernel
theorem dX12_readHours_20 : decode cX12_readHours 20 = .ok (.aload_n 0, 1) := by decide +kernel
theorem dX12_readHours_21 : decode cX12_readHours 21 = .ok (.getfield 145, 3) := by decide +kernel
theorem dX12_readHours_24 : decode cX12_readHours 24 = .ok (.iload_n 1, 1) := by decide +kernel
theorem dX12_readHours_25 : decode cX12_readHours 25 = .ok (.iaload, 1) := by decide +kernel
theorem dX12_readHours_26 : decode cX12_readHours 26 = .ok (.bipush 23, 2) := by decide +kernel
theorem dX12_readHours_28 : decode cX12_readHours 28 = .ok (.invokevirtual 182, 3) := by decide +kernel
theorem dX12_readHours_31 : decode cX12_readHours 31 = .ok (.invokevirtual 362, 3) := by decide +kernel
theorem dX12_readHours_34 : decode cX12_readHours 34 = .ok (.ifCond .eq 7, 3) := by decide +kernel
theorem dX12_readHours_37 : decode cX12_readHours 37 = .ok (.iconst 1, 1) := by decide +kernel
theorem dX12_readHours_38 : decode cX12_readHours 38 = .ok (.goto 4, 3) := by decide +kernel
theorem dX12_readHours_42 : decode cX12_readHours 42 = .ok (.ireturn, 1) := by decide +kernel
theorem dX12_readHours_41 : decode cX12_readHours 41 = .ok (.iconst 0, 1) := by decide +kernel
theorem dX12_readDogDoes_0 : decode cX12_readDogDoes 0 = .ok (.aload_n 0, 1) := by decide +kernel
theorem dX12_readDogDoes_1 : decode cX12_readDogDoes 1 = .ok (.bipush 9, 2) := by decide +kernel
theorem dX12_readDogDoes_3 : decode cX12_readDogDoes 3 = .ok (.invokevirtual 172, 3) := by decide +kernel
theorem dX12_readDogDoes_6 : decode cX12_readDogDoes 6 = .ok (.ifCond .ne 18, 3) := by decide +kernel
theorem dX12_readDogDoes_24 : decode cX12_readDogDoes 24 = .ok (.aload_n 0, 1) := by decide +kernel
theorem dX12_readDogDoes_25 : decode cX12_readDogDoes 25 = .ok (.getfield 145, 3) := by decide +kernel
theorem dX12_readDogDoes_28 : decode cX12_readDogDoes 28 = .ok (.iload_n 1, 1) := by decide +kernel
theorem dX12_readDogDoes_29 : decode cX12_readDogDoes 29 = .ok (.iconst 3, 1) := by decide +kernel
theorem dX12_readDogDoes_30 : decode cX12_readDogDoes 30 = .ok (.iastore, 1) := by decide +kernel
theorem dX12_readDogDoes_31 : decode cX12_readDogDoes 31 = .ok (.aload_n 0, 1) := by decide +kernel
theorem dX12_readDogDoes_32 : decode cX12_readDogDoes 32 = .ok (.getfield 145, 3) := by decide +kernel
theorem dX12_readDogDoes_35 : decode cX12_readDogDoes 35 = .ok (.iload_n 1, 1) := by decide +kernel
theorem dX12_readDogDoes_36 : decode cX12_readDogDoes 36 = .ok (.iconst 2, 1) := by decide +kernel
theorem dX12_readDogDoes_37 : decode cX12_readDogDoes 37 = .ok (.iadd, 1) := by decide +kernel
theorem dX12_readDogDoes_38 : decode cX12_readDogDoes 38 = .ok (.aload_n 0, 1) := by decide +kernel
theorem dX12_readDogDoes_39 : decode cX12_readDogDoes 39 = .ok (.bipush 9, 2) := by decide +kernel
theorem dX12_readDogDoes_41 : decode cX12_readDogDoes 41 = .ok (.invokevirtual 172, 3) := by decide +kernel
theorem dX12_readDogDoes_44 : decode cX12_readDogDoes 44 = .ok (.ifCond .eq 7, 3) := by decide +kernel
theorem dX12_readDogDoes_47 : decode cX12_readDogDoes 47 = .ok (.iconst 1, 1) := by decide +kernel
theorem dX12_readDogDoes_48 : decode cX12_readDogDoes 48 = .ok (.goto 4, 3) := by decide +kernel
theorem dX12_readDogDoes_52 : decode cX12_readDogDoes 52 = .ok (.iastore, 1) := by decide +kernel
theorem dX12_readDogDoes_53 : decode cX12_readDogDoes 53 = .ok (.aload_n 0, 1) := by decide +kernel
theorem dX12_readDogDoes_54 : decode cX12_readDogDoes 54 = .ok (.invokevirtual 82, 3) := by decide +kernel
theorem dX12_readDogDoes_57 : decode cX12_readDogDoes 57 = .ok (.iconst 1, 1) := by decide +kernel
theorem dX12_readDogDoes_58 : decode cX12_readDogDoes 58 = .ok (.ireturn, 1) := by decide +kernel
theorem dX12_readDogDoes_51 : decode cX12_readDogDoes 51 = .ok (.iconst 0, 1) := by decide +kernel
theorem dX12_readDogDoes_9 : decode cX12_readDogDoes 9 = .ok (.aload_n 0, 1) := by decide +kernel
theorem dX12_readDogDoes_10 : decode cX12_readDogDoes 10 = .ok (.bipush 10, 2) := by decide +kernel
theorem dX12_readDogDoes_12 : decode cX12_readDogDoes 12 = .ok (.invokevirtual 172, 3) := by decide +kernel
theorem dX12_readDogDoes_15 : decode cX12_readDogDoes 15 = .ok (.ifCond .ne 9, 3) := by decide +kernel
theorem dX12_readDogDoes_18 : decode cX12_readDogDoes 18 = .ok (.aload_n 0, 1) := by decide +kernel
theorem dX12_readDogDoes_19 : decode cX12_readDogDoes 19 = .ok (.iconst 1, 1) := by decide +kernel
theorem dX12_readDogDoes_20 : decode cX12_readDogDoes 20 = .ok (.invokevirtual 72, 3) := by decide +kernel
theorem dX12_readDogDoes_23 : decode cX12_readDogDoes 23 = .ok (.ireturn, 1) := by decide +kernel
theorem dX12_readPersonDoes_0 : decode cX12_readPersonDoes 0 = .ok (.aload_n 0, 1) := by decide +kernel
theorem dX12_readPersonDoes_1 : decode cX12_readPersonDoes 1 = .ok (.bipush 11, 2) := by decide +kernel
theorem dX12_readPersonDoes_3 : decode cX12_readPersonDoes 3 = .ok (.invokevirtual 172, 3) := by decide +kernel
theorem dX12_readPersonDoes_6 : decode cX12_readPersonDoes 6 = .ok (.ifCond .ne 9, 3) := by decide +kernel
theorem dX12_readPersonDoes_15 : decode cX12_readPersonDoes 15 = .ok (.aload_n 0, 1) := by decide +kernel
theorem dX12_readPersonDoes_16 : decode cX12_readPersonDoes 16 = .ok (.getfield 145, 3) := by decide +kernel
theorem dX12_readPersonDoes_19 : decode cX12_readPersonDoes 19 = .ok (.iload_n 1, 1) := by decide +kernel
theorem dX12_readPersonDoes_20 : decode cX12_readPersonDoes 20 = .ok (.iconst 4, 1) := by decide +kernel
theorem dX12_readPersonDoes_21 : decode cX12_readPersonDoes 21 = .ok (.iastore, 1) := by decide +kernel
theorem dX12_readPersonDoes_22 : decode cX12_readPersonDoes 22 = .ok (.aload_n 0, 1) := by decide +kernel
theorem dX12_readPersonDoes_23 : decode cX12_readPersonDoes 23 = .ok (.invokevirtual 82, 3) := by decide +kernel
theorem dX12_readPersonDoes_26 : decode cX12_readPersonDoes 26 = .ok (.aload_n 0, 1) := by decide +kernel
theorem dX12_readPersonDoes_27 : decode cX12_readPersonDoes 27 = .ok (.iload_n 1, 1) := by decide +kernel
theorem dX12_readPersonDoes_28 : decode cX12_readPersonDoes 28 = .ok (.iconst 2, 1) := by decide +kernel
theorem dX12_readPersonDoes_29 : decode cX12_readPersonDoes 29 = .ok (.iadd, 1) := by decide +kernel
theorem dX12_readPersonDoes_30 : decode cX12_readPersonDoes 30 = .ok (.aload_n 0, 1) := by decide +kernel
theorem dX12_readPersonDoes_31 : decode cX12_readPersonDoes 31 = .ok (.invokevirtual 365, 3) := by decide +kernel
theorem dX12_readPersonDoes_34 : decode cX12_readPersonDoes 34 = .ok (.invokevirtual 362, 3) := by decide +kernel
theorem dX12_readPersonDoes_37 : decode cX12_readPersonDoes 37 = .ok (.ifCond .eq 17, 3) := by decide +kernel
theorem dX12_readPersonDoes_40 : decode cX12_readPersonDoes 40 = .ok (.aload_n 0, 1) := by decide +kernel
theorem dX12_readPersonDoes_41 : decode cX12_readPersonDoes 41 = .ok (.iload_n 1, 1) := by decide +kernel
theorem dX12_readPersonDoes_42 : decode cX12_readPersonDoes 42 = .ok (.iconst 3, 1) := by decide +kernel
theorem dX12_readPersonDoes_43 : decode cX12_readPersonDoes 43 = .ok (.iadd, 1) := by decide +kernel
theorem dX12_readPersonDoes_44 : decode cX12_readPersonDoes 44 = .ok (.invokevirtual 368, 3) := by decide +kernel
theorem dX12_readPersonDoes_47 : decode cX12_readPersonDoes 47 = .ok (.ifCond .eq 7, 3) := by decide +kernel
theorem dX12_readPersonDoes_50 : decode cX12_readPersonDoes 50 = .ok (.iconst 1, 1) := by decide +kernel
theorem dX12_readPersonDoes_51 : decode cX12_readPersonDoes 51 = .ok (.goto 4, 3) := by decide +kernel
theorem dX12_readPersonDoes_55 : decode cX12_readPersonDoes 55 = .ok (.ireturn, 1) := by decide +kernel
theorem dX12_readPersonDoes_54 : decode cX12_readPersonDoes 54 = .ok (.iconst 0, 1) := by decide +kernel
theorem dX12_readPersonDoes_9 : decode cX12_readPersonDoes 9 = .ok (.aload_n 0, 1) := by decide +kernel
theorem dX12_readPersonDoes_10 : decode cX12_readPersonDoes 10 = .ok (.iconst 1, 1) := by decide +kernel
theorem dX12_readPersonDoes_11 : decode cX12_readPersonDoes 11 = .ok (.invokevirtual 72, 3) := by decide +kernel
theorem dX12_readPersonDoes_14 : decode cX12_readPersonDoes 14 = .ok (.ireturn, 1) := by decide +kernel
theorem dX12_isOfAll_0 : decode cX12_isOfAll 0 = .ok (.aload_n 0, 1) := by decide +kernel
theorem dX12_isOfAll_1 : decode cX12_isOfAll 1 = .ok (.bipush 6, 2) := by decide +kernel
theorem dX12_isOfAll_3 : decode cX12_isOfAll 3 = .ok (.invokevirtual 172, 3) := by decide +kernel
theorem dX12_isOfAll_6 : decode cX12_isOfAll 6 = .ok (.ifCond .ne 38, 3) := by decide +kernel
theorem dX12_isOfAll_44 : decode cX12_isOfAll 44 = .ok (.iconst 1, 1) := by decide +kernel
theorem dX12_isOfAll_45 : decode cX12_isOfAll 45 = .ok (.goto 4, 3) := by decide +kernel
theorem dX12_isOfAll_49 : decode cX12_isOfAll 49 = .ok (.ireturn, 1) := by decide +kernel
theorem dX12_isOfAll_9 : decode cX12_isOfAll 9 = .ok (.aload_n 0, 1) := by decide +kernel
theorem dX12_isOfAll_10 : decode cX12_isOfAll 10 = .ok (.bipush 7, 2) := by decide +kernel
theorem dX12_isOfAll_12 : decode cX12_isOfAll 12 = .ok (.invokevirtual 172, 3) := by decide +kernel
theorem dX12_isOfAll_15 : decode cX12_isOfAll 15 = .ok (.ifCond .ne 29, 3) := by decide +kernel
theorem dX12_isOfAll_18 : decode cX12_isOfAll 18 = .ok (.aload_n 0, 1) := by decide +kernel
theorem dX12_isOfAll_19 : decode cX12_isOfAll 19 = .ok (.bipush 8, 2) := by decide +kernel
theorem dX12_isOfAll_21 : decode cX12_isOfAll 21 = .ok (.invokevirtual 172, 3) := by decide +kernel
theorem dX12_isOfAll_24 : decode cX12_isOfAll 24 = .ok (.ifCond .ne 20, 3) := by decide +kernel
theorem dX12_isOfAll_27 : decode cX12_isOfAll 27 = .ok (.aload_n 0, 1) := by decide +kernel
theorem dX12_isOfAll_28 : decode cX12_isOfAll 28 = .ok (.iconst 5, 1) := by decide +kernel
theorem dX12_isOfAll_29 : decode cX12_isOfAll 29 = .ok (.invokevirtual 172, 3) := by decide +kernel
theorem dX12_isOfAll_32 : decode cX12_isOfAll 32 = .ok (.ifCond .ne 12, 3) := by decide +kernel
theorem dX12_isOfAll_35 : decode cX12_isOfAll 35 = .ok (.aload_n 0, 1) := by decide +kernel
theorem dX12_isOfAll_36 : decode cX12_isOfAll 36 = .ok (.bipush 12, 2) := by decide +kernel
theorem dX12_isOfAll_38 : decode cX12_isOfAll 38 = .ok (.invokevirtual 172, 3) := by decide +kernel
theorem dX12_isOfAll_41 : decode cX12_isOfAll 41 = .ok (.ifCond .eq 7, 3) := by decide +kernel
theorem dX12_isOfAll_48 : decode cX12_isOfAll 48 = .ok (.iconst 0, 1) := by decide +kernel
theorem dX12_readOfAll_0 : decode cX12_readOfAll 0 = .ok (.aload_n 0, 1) := by decide +kernel
theorem dX12_readOfAll_1 : decode cX12_readOfAll 1 = .ok (.bipush 6, 2) := by decide +kernel
theorem dX12_readOfAll_3 : decode cX12_readOfAll 3 = .ok (.invokevirtual 172, 3) := by decide +kernel
theorem dX12_readOfAll_6 : decode cX12_readOfAll 6 = .ok (.istore_n 2, 1) := by decide +kernel
theorem dX12_readOfAll_7 : decode cX12_readOfAll 7 = .ok (.iload_n 2, 1) := by decide +kernel
theorem dX12_readOfAll_8 : decode cX12_readOfAll 8 = .ok (.ifCond .ne 12, 3) := by decide +kernel
theorem dX12_readOfAll_20 : decode cX12_readOfAll 20 = .ok (.aload_n 0, 1) := by decide +kernel
theorem dX12_readOfAll_21 : decode cX12_readOfAll 21 = .ok (.getfield 145, 3) := by decide +kernel
theorem dX12_readOfAll_24 : decode cX12_readOfAll 24 = .ok (.iload_n 1, 1) := by decide +kernel
theorem dX12_readOfAll_25 : decode cX12_readOfAll 25 = .ok (.iload_n 2, 1) := by decide +kernel
theorem dX12_readOfAll_26 : decode cX12_readOfAll 26 = .ok (.ifCond .eq 7, 3) := by decide +kernel
theorem dX12_readOfAll_29 : decode cX12_readOfAll 29 = .ok (.iconst 0, 1) := by decide +kernel
theorem dX12_readOfAll_30 : decode cX12_readOfAll 30 = .ok (.goto 4, 3) := by decide +kernel
theorem dX12_readOfAll_34 : decode cX12_readOfAll 34 = .ok (.iastore, 1) := by decide +kernel
theorem dX12_readOfAll_35 : decode cX12_readOfAll 35 = .ok (.aload_n 0, 1) := by decide +kernel
theorem dX12_readOfAll_36 : decode cX12_readOfAll 36 = .ok (.invokevirtual 82, 3) := by decide +kernel
theorem dX12_readOfAll_39 : decode cX12_readOfAll 39 = .ok (.aload_n 0, 1) := by decide +kernel
theorem dX12_readOfAll_40 : decode cX12_readOfAll 40 = .ok (.iload_n 1, 1) := by decide +kernel
theorem dX12_readOfAll_41 : decode cX12_readOfAll 41 = .ok (.iconst 1, 1) := by decide +kernel
theorem dX12_readOfAll_42 : decode cX12_readOfAll 42 = .ok (.iadd, 1) := by decide +kernel
theorem dX12_readOfAll_43 : decode cX12_readOfAll 43 = .ok (.aload_n 0, 1) := by decide +kernel
theorem dX12_readOfAll_44 : decode cX12_readOfAll 44 = .ok (.invokevirtual 365, 3) := by decide +kernel
theorem dX12_readOfAll_47 : decode cX12_readOfAll 47 = .ok (.invokevirtual 362, 3) := by decide +kernel
theorem dX12_readOfAll_50 : decode cX12_readOfAll 50 = .ok (.ifCond .eq 17, 3) := by decide +kernel
theorem dX12_readOfAll_53 : decode cX12_readOfAll 53 = .ok (.aload_n 0, 1) := by decide +kernel
theorem dX12_readOfAll_54 : decode cX12_readOfAll 54 = .ok (.iload_n 1, 1) := by decide +kernel
theorem dX12_readOfAll_55 : decode cX12_readOfAll 55 = .ok (.iconst 3, 1) := by decide +kernel
theorem dX12_readOfAll_56 : decode cX12_readOfAll 56 = .ok (.iadd, 1) := by decide +kernel
theorem dX12_readOfAll_57 : decode cX12_readOfAll 57 = .ok (.invokevirtual 368, 3) := by decide +kernel
theorem dX12_readOfAll_60 : decode cX12_readOfAll 60 = .ok (.ifCond .eq 7, 3) := by decide +kernel
theorem dX12_readOfAll_63 : decode cX12_readOfAll 63 = .ok (.iconst 1, 1) := by decide +kernel
theorem dX12_readOfAll_64 : decode cX12_readOfAll 64 = .ok (.goto 4, 3) := by decide +kernel
theorem dX12_readOfAll_68 : decode cX12_readOfAll 68 = .ok (.ireturn, 1) := by decide +kernel
theorem dX12_readOfAll_67 : decode cX12_readOfAll 67 = .ok (.iconst 0, 1) := by decide +kernel
theorem dX12_readOfAll_11 : decode cX12_readOfAll 11 = .ok (.aload_n 0, 1) := by decide +kernel
theorem dX12_readOfAll_12 : decode cX12_readOfAll 12 = .ok (.bipush 7, 2) := by decide +kernel
theorem dX12_readOfAll_14 : decode cX12_readOfAll 14 = .ok (.invokevirtual 172, 3) := by decide +kernel
theorem dX12_readOfAll_17 : decode cX12_readOfAll 17 = .ok (.ifCond .eq 52, 3) := by decide +kernel
theorem dX12_readOfAll_33 : decode cX12_readOfAll 33 = .ok (.iconst 1, 1) := by decide +kernel
theorem dX12_readOfAll_69 : decode cX12_readOfAll 69 = .ok (.aload_n 0, 1) := by decide +kernel
theorem dX12_readOfAll_70 : decode cX12_readOfAll 70 = .ok (.bipush 8, 2) := by decide +kernel
theorem dX12_readOfAll_72 : decode cX12_readOfAll 72 = .ok (.invokevirtual 172, 3) := by decide +kernel
theorem dX12_readOfAll_75 : decode cX12_readOfAll 75 = .ok (.ifCond .eq 26, 3) := by decide +kernel
theorem dX12_readOfAll_78 : decode cX12_readOfAll 78 = .ok (.aload_n 0, 1) := by decide +kernel
theorem dX12_readOfAll_79 : decode cX12_readOfAll 79 = .ok (.getfield 145, 3) := by decide +kernel
theorem dX12_readOfAll_82 : decode cX12_readOfAll 82 = .ok (.iload_n 1, 1) := by decide +kernel
theorem dX12_readOfAll_83 : decode cX12_readOfAll 83 = .ok (.iconst 5, 1) := by decide +kernel
theorem dX12_readOfAll_84 : decode cX12_readOfAll 84 = .ok (.iastore, 1) := by decide +kernel
theorem dX12_readOfAll_85 : decode cX12_readOfAll 85 = .ok (.aload_n 0, 1) := by decide +kernel
theorem dX12_readOfAll_86 : decode cX12_readOfAll 86 = .ok (.invokevirtual 82, 3) := by decide +kernel
theorem dX12_readOfAll_89 : decode cX12_readOfAll 89 = .ok (.aload_n 0, 1) := by decide +kernel
theorem dX12_readOfAll_90 : decode cX12_readOfAll 90 = .ok (.iload_n 1, 1) := by decide +kernel
theorem dX12_readOfAll_91 : decode cX12_readOfAll 91 = .ok (.iconst 1, 1) := by decide +kernel
theorem dX12_readOfAll_92 : decode cX12_readOfAll 92 = .ok (.iadd, 1) := by decide +kernel
theorem dX12_readOfAll_93 : decode cX12_readOfAll 93 = .ok (.aload_n 0, 1) := by decide +kernel
theorem dX12_readOfAll_94 : decode cX12_readOfAll 94 = .ok (.invokevirtual 365, 3) := by decide +kernel
theorem dX12_readOfAll_97 : decode cX12_readOfAll 97 = .ok (.invokevirtual 362, 3) := by decide +kernel
theorem dX12_readOfAll_100 : decode cX12_readOfAll 100 = .ok (.ireturn, 1) := by decide +kernel
theorem dX12_readOfAll_101 : decode cX12_readOfAll 101 = .ok (.aload_n 0, 1) := by decide +kernel
theorem dX12_readOfAll_102 : decode cX12_readOfAll 102 = .ok (.iconst 5, 1) := by decide +kernel
theorem dX12_readOfAll_103 : decode cX12_readOfAll 103 = .ok (.invokevirtual 172, 3) := by decide +kernel
theorem dX12_readOfAll_106 : decode cX12_readOfAll 106 = .ok (.istore_n 3, 1) := by decide +kernel
theorem dX12_readOfAll_107 : decode cX12_readOfAll 107 = .ok (.aload_n 0, 1) := by decide +kernel
theorem dX12_readOfAll_108 : decode cX12_readOfAll 108 = .ok (.getfield 145, 3) := by decide +kernel
theorem dX12_readOfAll_111 : decode cX12_readOfAll 111 = .ok (.iload_n 1, 1) := by decide +kernel
theorem dX12_readOfAll_112 : decode cX12_readOfAll 112 = .ok (.iload_n 3, 1) := by decide +kernel
theorem dX12_readOfAll_113 : decode cX12_readOfAll 113 = .ok (.ifCond .eq 7, 3) := by decide +kernel
theorem dX12_readOfAll_116 : decode cX12_readOfAll 116 = .ok (.iconst 2, 1) := by decide +kernel
theorem dX12_readOfAll_117 : decode cX12_readOfAll 117 = .ok (.goto 5, 3) := by decide +kernel
theorem dX12_readOfAll_122 : decode cX12_readOfAll 122 = .ok (.iastore, 1) := by decide +kernel
theorem dX12_readOfAll_123 : decode cX12_readOfAll 123 = .ok (.aload_n 0, 1) := by decide +kernel
theorem dX12_readOfAll_124 : decode cX12_readOfAll 124 = .ok (.invokevirtual 82, 3) := by decide +kernel
theorem dX12_readOfAll_127 : decode cX12_readOfAll 127 = .ok (.aload_n 0, 1) := by decide +kernel
theorem dX12_readOfAll_128 : decode cX12_readOfAll 128 = .ok (.iload_n 1, 1) := by decide +kernel
theorem dX12_readOfAll_129 : decode cX12_readOfAll 129 = .ok (.iconst 1, 1) := by decide +kernel
theorem dX12_readOfAll_130 : decode cX12_readOfAll 130 = .ok (.iadd, 1) := by decide +kernel
theorem dX12_readOfAll_131 : decode cX12_readOfAll 131 = .ok (.aload_n 0, 1) := by decide +kernel
theorem dX12_readOfAll_132 : decode cX12_readOfAll 132 = .ok (.iload_n 3, 1) := by decide +kernel
theorem dX12_readOfAll_133 : decode cX12_readOfAll 133 = .ok (.ifCond .eq 7, 3) := by decide +kernel
theorem dX12_readOfAll_136 : decode cX12_readOfAll 136 = .ok (.iconst 0, 1) := by decide +kernel
theorem dX12_readOfAll_137 : decode cX12_readOfAll 137 = .ok (.goto 4, 3) := by decide +kernel
theorem dX12_readOfAll_141 : decode cX12_readOfAll 141 = .ok (.iload_n 3, 1) := by decide +kernel
theorem dX12_readOfAll_142 : decode cX12_readOfAll 142 = .ok (.ifCond .eq 8, 3) := by decide +kernel
theorem dX12_readOfAll_145 : decode cX12_readOfAll 145 = .ok (.bipush 12, 2) := by decide +kernel
theorem dX12_readOfAll_147 : decode cX12_readOfAll 147 = .ok (.goto 5, 3) := by decide +kernel
theorem dX12_readOfAll_152 : decode cX12_readOfAll 152 = .ok (.invokevirtual 182, 3) := by decide +kernel
theorem dX12_readOfAll_155 : decode cX12_readOfAll 155 = .ok (.invokevirtual 362, 3) := by decide +kernel
theorem dX12_readOfAll_158 : decode cX12_readOfAll 158 = .ok (.ireturn, 1) := by decide +kernel
theorem dX12_readOfAll_120 : decode cX12_readOfAll 120 = .ok (.bipush 6, 2) := by decide +kernel
theorem dX12_readOfAll_140 : decode cX12_readOfAll 140 = .ok (.iconst 1, 1) := by decide +kernel
theorem dX12_readOfAll_150 : decode cX12_readOfAll 150 = .ok (.bipush 30, 2) := by decide +kernel
theorem dX12_readBookLine_0 : decode cX12_readBookLine 0 = .ok (.aload_n 0, 1) := by decide +kernel
theorem dX12_readBookLine_1 : decode cX12_readBookLine 1 = .ok (.invokevirtual 371, 3) := by decide +kernel
theorem dX12_readBookLine_4 : decode cX12_readBookLine 4 = .ok (.istore_n 1, 1) := by decide +kernel
theorem dX12_readBookLine_5 : decode cX12_readBookLine 5 = .ok (.iconst (-1), 1) := by decide +kernel
theorem dX12_readBookLine_6 : decode cX12_readBookLine 6 = .ok (.istore_n 2, 1) := by decide +kernel
theorem dX12_readBookLine_7 : decode cX12_readBookLine 7 = .ok (.iconst (-1), 1) := by decide +kernel
theorem dX12_readBookLine_8 : decode cX12_readBookLine 8 = .ok (.istore_n 3, 1) := by decide +kernel
theorem dX12_readBookLine_9 : decode cX12_readBookLine 9 = .ok (.iload_n 1, 1) := by decide +kernel
theorem dX12_readBookLine_10 : decode cX12_readBookLine 10 = .ok (.ifCond .ne 71, 3) := by decide +kernel
theorem dX12_readBookLine_81 : decode cX12_readBookLine 81 = .ok (.aload_n 0, 1) := by decide +kernel
theorem dX12_readBookLine_82 : decode cX12_readBookLine 82 = .ok (.getfield 374, 3) := by decide +kernel
theorem dX12_readBookLine_85 : decode cX12_readBookLine 85 = .ok (.bipush 40, 2) := by decide +kernel
theorem dX12_readBookLine_87 : decode cX12_readBookLine 87 = .ok (.if_icmp .ne 9, 3) := by decide +kernel
theorem dX12_readBookLine_96 : decode cX12_readBookLine 96 = .ok (.iconst 5, 1) := by decide +kernel
theorem dX12_readBookLine_97 : decode cX12_readBookLine 97 = .ok (.aload_n 0, 1) := by decide +kernel
theorem dX12_readBookLine_98 : decode cX12_readBookLine 98 = .ok (.getfield 374, 3) := by decide +kernel
theorem dX12_readBookLine_101 : decode cX12_readBookLine 101 = .ok (.imul, 1) := by decide +kernel
theorem dX12_readBookLine_102 : decode cX12_readBookLine 102 = .ok (.istore 4, 2) := by decide +kernel
theorem dX12_readBookLine_104 : decode cX12_readBookLine 104 = .ok (.iload_n 1, 1) := by decide +kernel
theorem dX12_readBookLine_105 : decode cX12_readBookLine 105 = .ok (.ifCond .eq 25, 3) := by decide +kernel
theorem dX12_readBookLine_108 : decode cX12_readBookLine 108 = .ok (.aload_n 0, 1) := by decide +kernel
theorem dX12_readBookLine_109 : decode cX12_readBookLine 109 = .ok (.iload 4, 2) := by decide +kernel
theorem dX12_readBookLine_111 : decode cX12_readBookLine 111 = .ok (.invokevirtual 377, 3) := by decide +kernel
theorem dX12_readBookLine_114 : decode cX12_readBookLine 114 = .ok (.ifCond .eq 14, 3) := by decide +kernel
theorem dX12_readBookLine_117 : decode cX12_readBookLine 117 = .ok (.aload_n 0, 1) := by decide +kernel
theorem dX12_readBookLine_118 : decode cX12_readBookLine 118 = .ok (.invokevirtual 211, 3) := by decide +kernel
theorem dX12_readBookLine_121 : decode cX12_readBookLine 121 = .ok (.ifCond .eq 7, 3) := by decide +kernel
theorem dX12_readBookLine_124 : decode cX12_readBookLine 124 = .ok (.iconst 1, 1) := by decide +kernel
theorem dX12_readBookLine_125 : decode cX12_readBookLine 125 = .ok (.goto 4, 3) := by decide +kernel
theorem dX12_readBookLine_129 : decode cX12_readBookLine 129 = .ok (.ireturn, 1) := by decide +kernel
theorem dX12_readBookLine_128 : decode cX12_readBookLine 128 = .ok (.iconst 0, 1) := by decide +kernel
theorem dX12_readBookLine_90 : decode cX12_readBookLine 90 = .ok (.aload_n 0, 1) := by decide +kernel
theorem dX12_readBookLine_91 : decode cX12_readBookLine 91 = .ok (.iconst 4, 1) := by decide +kernel
theorem dX12_readBookLine_92 : decode cX12_readBookLine 92 = .ok (.invokevirtual 72, 3) := by decide +kernel
theorem dX12_readBookLine_95 : decode cX12_readBookLine 95 = .ok (.ireturn, 1) := by decide +kernel
theorem dX12_readBookLine_13 : decode cX12_readBookLine 13 = .ok (.aload_n 0, 1) := by decide +kernel
theorem dX12_readBookLine_14 : decode cX12_readBookLine 14 = .ok (.invokevirtual 157, 3) := by decide +kernel
theorem dX12_readBookLine_17 : decode cX12_readBookLine 17 = .ok (.ifCond .ne 9, 3) := by decide +kernel
theorem dX12_readBookLine_26 : decode cX12_readBookLine 26 = .ok (.aload_n 0, 1) := by decide +kernel
theorem dX12_readBookLine_27 : decode cX12_readBookLine 27 = .ok (.getfield 113, 3) := by decide +kernel
theorem dX12_readBookLine_30 : decode cX12_readBookLine 30 = .ok (.bipush 13, 2) := by decide +kernel
theorem dX12_readBookLine_32 : decode cX12_readBookLine 32 = .ok (.aload_n 0, 1) := by decide +kernel
theorem dX12_readBookLine_33 : decode cX12_readBookLine 33 = .ok (.getfield 98, 3) := by decide +kernel
theorem dX12_readBookLine_36 : decode cX12_readBookLine 36 = .ok (.iconst 2, 1) := by decide +kernel
theorem dX12_readBookLine_37 : decode cX12_readBookLine 37 = .ok (.iaload, 1) := by decide +kernel
theorem dX12_readBookLine_38 : decode cX12_readBookLine 38 = .ok (.aload_n 0, 1) := by decide +kernel
theorem dX12_readBookLine_39 : decode cX12_readBookLine 39 = .ok (.getfield 43, 3) := by decide +kernel
theorem dX12_readBookLine_42 : decode cX12_readBookLine 42 = .ok (.invokestatic 161, 3) := by decide +kernel
theorem dX12_readBookLine_45 : decode cX12_readBookLine 45 = .ok (.istore_n 2, 1) := by decide +kernel
theorem dX12_readBookLine_46 : decode cX12_readBookLine 46 = .ok (.aload_n 0, 1) := by decide +kernel
theorem dX12_readBookLine_47 : decode cX12_readBookLine 47 = .ok (.getfield 113, 3) := by decide +kernel
theorem dX12_readBookLine_50 : decode cX12_readBookLine 50 = .ok (.iconst 5, 1) := by decide +kernel
theorem dX12_readBookLine_51 : decode cX12_readBookLine 51 = .ok (.aload_n 0, 1) := by decide +kernel
theorem dX12_readBookLine_52 : decode cX12_readBookLine 52 = .ok (.getfield 98, 3) := by decide +kernel
theorem dX12_readBookLine_55 : decode cX12_readBookLine 55 = .ok (.iconst 1, 1) := by decide +kernel
theorem dX12_readBookLine_56 : decode cX12_readBookLine 56 = .ok (.iaload, 1) := by decide +kernel
theorem dX12_readBookLine_57 : decode cX12_readBookLine 57 = .ok (.aload_n 0, 1) := by decide +kernel
theorem dX12_readBookLine_58 : decode cX12_readBookLine 58 = .ok (.getfield 43, 3) := by decide +kernel
theorem dX12_readBookLine_61 : decode cX12_readBookLine 61 = .ok (.invokestatic 161, 3) := by decide +kernel
theorem dX12_readBookLine_64 : decode cX12_readBookLine 64 = .ok (.istore_n 3, 1) := by decide +kernel
theorem dX12_readBookLine_65 : decode cX12_readBookLine 65 = .ok (.iload_n 2, 1) := by decide +kernel
theorem dX12_readBookLine_66 : decode cX12_readBookLine 66 = .ok (.iconst (-1), 1) := by decide +kernel
theorem dX12_readBookLine_67 : decode cX12_readBookLine 67 = .ok (.if_icmp .ne 14, 3) := by decide +kernel
theorem dX12_readBookLine_70 : decode cX12_readBookLine 70 = .ok (.iload_n 3, 1) := by decide +kernel
theorem dX12_readBookLine_71 : decode cX12_readBookLine 71 = .ok (.iconst (-1), 1) := by decide +kernel
theorem dX12_readBookLine_72 : decode cX12_readBookLine 72 = .ok (.if_icmp .ne 9, 3) := by decide +kernel
theorem dX12_readBookLine_75 : decode cX12_readBookLine 75 = .ok (.aload_n 0, 1) := by decide +kernel
theorem dX12_readBookLine_76 : decode cX12_readBookLine 76 = .ok (.iconst 3, 1) := by decide +kernel
theorem dX12_readBookLine_77 : decode cX12_readBookLine 77 = .ok (.invokevirtual 72, 3) := by decide +kernel
theorem dX12_readBookLine_80 : decode cX12_readBookLine 80 = .ok (.ireturn, 1) := by decide +kernel
theorem dX12_readBookLine_130 : decode cX12_readBookLine 130 = .ok (.aload_n 0, 1) := by decide +kernel
theorem dX12_readBookLine_131 : decode cX12_readBookLine 131 = .ok (.getfield 145, 3) := by decide +kernel
theorem dX12_readBookLine_134 : decode cX12_readBookLine 134 = .ok (.iload 4, 2) := by decide +kernel
theorem dX12_readBookLine_136 : decode cX12_readBookLine 136 = .ok (.iconst 1, 1) := by decide +kernel
theorem dX12_readBookLine_137 : decode cX12_readBookLine 137 = .ok (.iadd, 1) := by decide +kernel
theorem dX12_readBookLine_138 : decode cX12_readBookLine 138 = .ok (.iload_n 2, 1) := by decide +kernel
theorem dX12_readBookLine_139 : decode cX12_readBookLine 139 = .ok (.iconst (-1), 1) := by decide +kernel
theorem dX12_readBookLine_140 : decode cX12_readBookLine 140 = .ok (.if_icmp .ne 7, 3) := by decide +kernel
theorem dX12_readBookLine_143 : decode cX12_readBookLine 143 = .ok (.iload_n 3, 1) := by decide +kernel
theorem dX12_readBookLine_144 : decode cX12_readBookLine 144 = .ok (.goto 4, 3) := by decide +kernel
theorem dX12_readBookLine_148 : decode cX12_readBookLine 148 = .ok (.iastore, 1) := by decide +kernel
theorem dX12_readBookLine_149 : decode cX12_readBookLine 149 = .ok (.aload_n 0, 1) := by decide +kernel
theorem dX12_readBookLine_150 : decode cX12_readBookLine 150 = .ok (.invokevirtual 82, 3) := by decide +kernel
theorem dX12_readBookLine_153 : decode cX12_readBookLine 153 = .ok (.iload_n 2, 1) := by decide +kernel
theorem dX12_readBookLine_154 : decode cX12_readBookLine 154 = .ok (.iconst (-1), 1) := by decide +kernel
theorem dX12_readBookLine_155 : decode cX12_readBookLine 155 = .ok (.if_icmp .ne 15, 3) := by decide +kernel
theorem dX12_readBookLine_158 : decode cX12_readBookLine 158 = .ok (.aload_n 0, 1) := by decide +kernel
theorem dX12_readBookLine_159 : decode cX12_readBookLine 159 = .ok (.iload 4, 2) := by decide +kernel
theorem dX12_readBookLine_161 : decode cX12_readBookLine 161 = .ok (.invokevirtual 380, 3) := by decide +kernel
theorem dX12_readBookLine_164 : decode cX12_readBookLine 164 = .ok (.ifCond .eq 26, 3) := by decide +kernel
theorem dX12_readBookLine_167 : decode cX12_readBookLine 167 = .ok (.goto 12, 3) := by decide +kernel
theorem dX12_readBookLine_179 : decode cX12_readBookLine 179 = .ok (.aload_n 0, 1) := by decide +kernel
theorem dX12_readBookLine_180 : decode cX12_readBookLine 180 = .ok (.invokevirtual 211, 3) := by decide +kernel
theorem dX12_readBookLine_183 : decode cX12_readBookLine 183 = .ok (.ifCond .eq 7, 3) := by decide +kernel
theorem dX12_readBookLine_186 : decode cX12_readBookLine 186 = .ok (.iconst 1, 1) := by decide +kernel
theorem dX12_readBookLine_187 : decode cX12_readBookLine 187 = .ok (.goto 4, 3) := by decide +kernel
theorem dX12_readBookLine_191 : decode cX12_readBookLine 191 = .ok (.ireturn, 1) := by decide +kernel
theorem dX12_readBookLine_190 : decode cX12_readBookLine 190 = .ok (.iconst 0, 1) := by decide +kernel
theorem dX12_readBookLine_147 : decode cX12_readBookLine 147 = .ok (.iload_n 2, 1) := by decide +kernel
theorem dX12_readBookLine_170 : decode cX12_readBookLine 170 = .ok (.aload_n 0, 1) := by decide +kernel
theorem dX12_readBookLine_171 : decode cX12_readBookLine 171 = .ok (.iload 4, 2) := by decide +kernel
theorem dX12_readBookLine_173 : decode cX12_readBookLine 173 = .ok (.invokevirtual 383, 3) := by decide +kernel
theorem dX12_readBookLine_176 : decode cX12_readBookLine 176 = .ok (.ifCond .eq 14, 3) := by decide +kernel
theorem dX12_readBookLine_20 : decode cX12_readBookLine 20 = .ok (.aload_n 0, 1) := by decide +kernel
theorem dX12_readBookLine_21 : decode cX12_readBookLine 21 = .ok (.iconst 1, 1) := by decide +kernel
theorem dX12_readBookLine_22 : decode cX12_readBookLine 22 = .ok (.invokevirtual 72, 3) := by decide +kernel
theorem dX12_readBookLine_25 : decode cX12_readBookLine 25 = .ok (.ireturn, 1) := by decide +kernel
theorem dX12_goBy_0 : decode cX12_goBy 0 = .ok (.aload_n 0, 1) := by decide +kernel
theorem dX12_goBy_1 : decode cX12_goBy 1 = .ok (.getfield 145, 3) := by decide +kernel
theorem dX12_goBy_4 : decode cX12_goBy 4 = .ok (.iload_n 1, 1) := by decide +kernel
theorem dX12_goBy_5 : decode cX12_goBy 5 = .ok (.iconst 1, 1) := by decide +kernel
theorem dX12_goBy_6 : decode cX12_goBy 6 = .ok (.iadd, 1) := by decide +kernel
theorem dX12_goBy_7 : decode cX12_goBy 7 = .ok (.iaload, 1) := by decide +kernel
theorem dX12_goBy_8 : decode cX12_goBy 8 = .ok (.istore_n 2, 1) := by decide +kernel
theorem dX12_goBy_9 : decode cX12_goBy 9 = .ok (.aload_n 0, 1) := by decide +kernel
theorem dX12_goBy_10 : decode cX12_goBy 10 = .ok (.getfield 145, 3) := by decide +kernel
theorem dX12_goBy_13 : decode cX12_goBy 13 = .ok (.iload_n 1, 1) := by decide +kernel
theorem dX12_goBy_14 : decode cX12_goBy 14 = .ok (.iaload, 1) := by decide +kernel
theorem dX12_goBy_15 : decode cX12_goBy 15 = .ok (.bipush 6, 2) := by decide +kernel
theorem dX12_goBy_17 : decode cX12_goBy 17 = .ok (.if_icmp .ne 30, 3) := by decide +kernel
theorem dX12_goBy_47 : decode cX12_goBy 47 = .ok (.aload_n 0, 1) := by decide +kernel
theorem dX12_goBy_48 : decode cX12_goBy 48 = .ok (.aload_n 0, 1) := by decide +kernel
theorem dX12_goBy_49 : decode cX12_goBy 49 = .ok (.getfield 145, 3) := by decide +kernel
theorem dX12_goBy_52 : decode cX12_goBy 52 = .ok (.iload_n 1, 1) := by decide +kernel
theorem dX12_goBy_53 : decode cX12_goBy 53 = .ok (.iaload, 1) := by decide +kernel
theorem dX12_goBy_54 : decode cX12_goBy 54 = .ok (.iload_n 2, 1) := by decide +kernel
theorem dX12_goBy_55 : decode cX12_goBy 55 = .ok (.aload_n 0, 1) := by decide +kernel
theorem dX12_goBy_56 : decode cX12_goBy 56 = .ok (.getfield 145, 3) := by decide +kernel
theorem dX12_goBy_59 : decode cX12_goBy 59 = .ok (.iload_n 1, 1) := by decide +kernel
theorem dX12_goBy_60 : decode cX12_goBy 60 = .ok (.iconst 2, 1) := by decide +kernel
theorem dX12_goBy_61 : decode cX12_goBy 61 = .ok (.iadd, 1) := by decide +kernel
theorem dX12_goBy_62 : decode cX12_goBy 62 = .ok (.iaload, 1) := by decide +kernel
theorem dX12_goBy_63 : decode cX12_goBy 63 = .ok (.aload_n 0, 1) := by decide +kernel
theorem dX12_goBy_64 : decode cX12_goBy 64 = .ok (.getfield 145, 3) := by decide +kernel
theorem dX12_goBy_67 : decode cX12_goBy 67 = .ok (.iload_n 1, 1) := by decide +kernel
theorem dX12_goBy_68 : decode cX12_goBy 68 = .ok (.iconst 3, 1) := by decide +kernel
theorem dX12_goBy_69 : decode cX12_goBy 69 = .ok (.iadd, 1) := by decide +kernel
theorem dX12_goBy_70 : decode cX12_goBy 70 = .ok (.iaload, 1) := by decide +kernel
theorem dX12_goBy_71 : decode cX12_goBy 71 = .ok (.aload_n 0, 1) := by decide +kernel
theorem dX12_goBy_72 : decode cX12_goBy 72 = .ok (.getfield 145, 3) := by decide +kernel
theorem dX12_goBy_75 : decode cX12_goBy 75 = .ok (.iload_n 1, 1) := by decide +kernel
theorem dX12_goBy_76 : decode cX12_goBy 76 = .ok (.iconst 4, 1) := by decide +kernel
theorem dX12_goBy_77 : decode cX12_goBy 77 = .ok (.iadd, 1) := by decide +kernel
theorem dX12_goBy_78 : decode cX12_goBy 78 = .ok (.iaload, 1) := by decide +kernel
theorem dX12_goBy_79 : decode cX12_goBy 79 = .ok (.invokevirtual 260, 3) := by decide +kernel
theorem dX12_goBy_82 : decode cX12_goBy 82 = .ok (.istore_n 3, 1) := by decide +kernel
theorem dX12_goBy_83 : decode cX12_goBy 83 = .ok (.iload_n 3, 1) := by decide +kernel
