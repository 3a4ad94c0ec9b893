theorem dX12_readPlace_64 : decode cX12_readPlace 64 = .ok (.iconst 1, 1) := by decide +kernel
theorem dX12_readPlace_65 : decode cX12_readPlace 65 = .ok (.ireturn, 1) := by decide +kernel
theorem dX12_readPlace_22 : decode cX12_readPlace 22 = .ok (.iconst 0, 1) := by decide +kernel
theorem dX12_readPlace_23 : decode cX12_readPlace 23 = .ok (.ireturn, 1) := by decide +kernel
theorem dX12_readPerson_0 : decode cX12_readPerson 0 = .ok (.aload_n 0, 1) := by decide +kernel
theorem dX12_readPerson_1 : decode cX12_readPerson 1 = .ok (.iconst 1, 1) := by decide +kernel
theorem dX12_readPerson_2 : decode cX12_readPerson 2 = .ok (.bipush 8, 2) := by decide +kernel
theorem dX12_readPerson_4 : decode cX12_readPerson 4 = .ok (.invokevirtual 165, 3) := by decide +kernel
theorem dX12_readPerson_7 : decode cX12_readPerson 7 = .ok (.ifCond .ne 5, 3) := by decide +kernel
theorem dX12_readPerson_12 : decode cX12_readPerson 12 = .ok (.aload_n 0, 1) := by decide +kernel
theorem dX12_readPerson_13 : decode cX12_readPerson 13 = .ok (.getfield 101, 3) := by decide +kernel
theorem dX12_readPerson_16 : decode cX12_readPerson 16 = .ok (.iconst 1, 1) := by decide +kernel
theorem dX12_readPerson_17 : decode cX12_readPerson 17 = .ok (.iaload, 1) := by decide +kernel
theorem dX12_readPerson_18 : decode cX12_readPerson 18 = .ok (.istore_n 1, 1) := by decide +kernel
theorem dX12_readPerson_19 : decode cX12_readPerson 19 = .ok (.aload_n 0, 1) := by decide +kernel
theorem dX12_readPerson_20 : decode cX12_readPerson 20 = .ok (.iconst 5, 1) := by decide +kernel
theorem dX12_readPerson_21 : decode cX12_readPerson 21 = .ok (.iload_n 1, 1) := by decide +kernel
theorem dX12_readPerson_22 : decode cX12_readPerson 22 = .ok (.iadd, 1) := by decide +kernel
theorem dX12_readPerson_23 : decode cX12_readPerson 23 = .ok (.invokevirtual 169, 3) := by decide +kernel
theorem dX12_readPerson_26 : decode cX12_readPerson 26 = .ok (.ifCond .eq 25, 3) := by decide +kernel
theorem dX12_readPerson_29 : decode cX12_readPerson 29 = .ok (.aload_n 0, 1) := by decide +kernel
theorem dX12_readPerson_30 : decode cX12_readPerson 30 = .ok (.bipush 10, 2) := by decide +kernel
theorem dX12_readPerson_32 : decode cX12_readPerson 32 = .ok (.iload_n 1, 1) := by decide +kernel
theorem dX12_readPerson_33 : decode cX12_readPerson 33 = .ok (.iadd, 1) := by decide +kernel
theorem dX12_readPerson_34 : decode cX12_readPerson 34 = .ok (.aload_n 0, 1) := by decide +kernel
theorem dX12_readPerson_35 : decode cX12_readPerson 35 = .ok (.iconst 0, 1) := by decide +kernel
theorem dX12_readPerson_36 : decode cX12_readPerson 36 = .ok (.aload_n 0, 1) := by decide +kernel
theorem dX12_readPerson_37 : decode cX12_readPerson 37 = .ok (.getfield 101, 3) := by decide +kernel
theorem dX12_readPerson_40 : decode cX12_readPerson 40 = .ok (.iconst 0, 1) := by decide +kernel
theorem dX12_readPerson_41 : decode cX12_readPerson 41 = .ok (.iaload, 1) := by decide +kernel
theorem dX12_readPerson_42 : decode cX12_readPerson 42 = .ok (.invokevirtual 175, 3) := by decide +kernel
theorem dX12_readPerson_45 : decode cX12_readPerson 45 = .ok (.invokevirtual 178, 3) := by decide +kernel
theorem dX12_readPerson_48 : decode cX12_readPerson 48 = .ok (.ifCond .ne 5, 3) := by decide +kernel
theorem dX12_readPerson_53 : decode cX12_readPerson 53 = .ok (.aload_n 0, 1) := by decide +kernel
theorem dX12_readPerson_54 : decode cX12_readPerson 54 = .ok (.bipush 18, 2) := by decide +kernel
theorem dX12_readPerson_56 : decode cX12_readPerson 56 = .ok (.iload_n 1, 1) := by decide +kernel
theorem dX12_readPerson_57 : decode cX12_readPerson 57 = .ok (.iadd, 1) := by decide +kernel
theorem dX12_readPerson_58 : decode cX12_readPerson 58 = .ok (.aload_n 0, 1) := by decide +kernel
theorem dX12_readPerson_59 : decode cX12_readPerson 59 = .ok (.iconst 0, 1) := by decide +kernel
theorem dX12_readPerson_60 : decode cX12_readPerson 60 = .ok (.bipush 23, 2) := by decide +kernel
theorem dX12_readPerson_62 : decode cX12_readPerson 62 = .ok (.invokevirtual 182, 3) := by decide +kernel
theorem dX12_readPerson_65 : decode cX12_readPerson 65 = .ok (.invokevirtual 178, 3) := by decide +kernel
theorem dX12_readPerson_68 : decode cX12_readPerson 68 = .ok (.ifCond .eq 47, 3) := by decide +kernel
theorem dX12_readPerson_71 : decode cX12_readPerson 71 = .ok (.aload_n 0, 1) := by decide +kernel
theorem dX12_readPerson_72 : decode cX12_readPerson 72 = .ok (.bipush 26, 2) := by decide +kernel
theorem dX12_readPerson_74 : decode cX12_readPerson 74 = .ok (.iload_n 1, 1) := by decide +kernel
theorem dX12_readPerson_75 : decode cX12_readPerson 75 = .ok (.iadd, 1) := by decide +kernel
theorem dX12_readPerson_76 : decode cX12_readPerson 76 = .ok (.aload_n 0, 1) := by decide +kernel
theorem dX12_readPerson_77 : decode cX12_readPerson 77 = .ok (.aload_n 0, 1) := by decide +kernel
theorem dX12_readPerson_78 : decode cX12_readPerson 78 = .ok (.getfield 101, 3) := by decide +kernel
theorem dX12_readPerson_81 : decode cX12_readPerson 81 = .ok (.bipush 18, 2) := by decide +kernel
theorem dX12_readPerson_83 : decode cX12_readPerson 83 = .ok (.iload_n 1, 1) := by decide +kernel
theorem dX12_readPerson_84 : decode cX12_readPerson 84 = .ok (.iadd, 1) := by decide +kernel
theorem dX12_readPerson_85 : decode cX12_readPerson 85 = .ok (.iaload, 1) := by decide +kernel
theorem dX12_readPerson_86 : decode cX12_readPerson 86 = .ok (.bipush 23, 2) := by decide +kernel
theorem dX12_readPerson_88 : decode cX12_readPerson 88 = .ok (.invokevirtual 182, 3) := by decide +kernel
theorem dX12_readPerson_91 : decode cX12_readPerson 91 = .ok (.invokevirtual 178, 3) := by decide +kernel
theorem dX12_readPerson_94 : decode cX12_readPerson 94 = .ok (.ifCond .eq 21, 3) := by decide +kernel
theorem dX12_readPerson_97 : decode cX12_readPerson 97 = .ok (.aload_n 0, 1) := by decide +kernel
theorem dX12_readPerson_98 : decode cX12_readPerson 98 = .ok (.bipush 34, 2) := by decide +kernel
theorem dX12_readPerson_100 : decode cX12_readPerson 100 = .ok (.iload_n 1, 1) := by decide +kernel
theorem dX12_readPerson_101 : decode cX12_readPerson 101 = .ok (.iadd, 1) := by decide +kernel
theorem dX12_readPerson_102 : decode cX12_readPerson 102 = .ok (.aload_n 0, 1) := by decide +kernel
theorem dX12_readPerson_103 : decode cX12_readPerson 103 = .ok (.iconst 0, 1) := by decide +kernel
theorem dX12_readPerson_104 : decode cX12_readPerson 104 = .ok (.bipush 30, 2) := by decide +kernel
theorem dX12_readPerson_106 : decode cX12_readPerson 106 = .ok (.invokevirtual 182, 3) := by decide +kernel
theorem dX12_readPerson_109 : decode cX12_readPerson 109 = .ok (.invokevirtual 178, 3) := by decide +kernel
theorem dX12_readPerson_112 : decode cX12_readPerson 112 = .ok (.ifCond .ne 5, 3) := by decide +kernel
theorem dX12_readPerson_117 : decode cX12_readPerson 117 = .ok (.aload_n 0, 1) := by decide +kernel
theorem dX12_readPerson_118 : decode cX12_readPerson 118 = .ok (.getfield 101, 3) := by decide +kernel
theorem dX12_readPerson_121 : decode cX12_readPerson 121 = .ok (.iconst 1, 1) := by decide +kernel
theorem dX12_readPerson_122 : decode cX12_readPerson 122 = .ok (.dup2, 1) := by decide +kernel
theorem dX12_readPerson_123 : decode cX12_readPerson 123 = .ok (.iaload, 1) := by decide +kernel
theorem dX12_readPerson_124 : decode cX12_readPerson 124 = .ok (.iconst 1, 1) := by decide +kernel
theorem dX12_readPerson_125 : decode cX12_readPerson 125 = .ok (.iadd, 1) := by decide +kernel
theorem dX12_readPerson_126 : decode cX12_readPerson 126 = .ok (.iastore, 1) := by decide +kernel
theorem dX12_readPerson_127 : decode cX12_readPerson 127 = .ok (.iconst 1, 1) := by decide +kernel
theorem dX12_readPerson_128 : decode cX12_readPerson 128 = .ok (.ireturn, 1) := by decide +kernel
theorem dX12_readPerson_115 : decode cX12_readPerson 115 = .ok (.iconst 0, 1) := by decide +kernel
theorem dX12_readPerson_116 : decode cX12_readPerson 116 = .ok (.ireturn, 1) := by decide +kernel
theorem dX12_readPerson_51 : decode cX12_readPerson 51 = .ok (.iconst 0, 1) := by decide +kernel
theorem dX12_readPerson_52 : decode cX12_readPerson 52 = .ok (.ireturn, 1) := by decide +kernel
theorem dX12_readPerson_10 : decode cX12_readPerson 10 = .ok (.iconst 0, 1) := by decide +kernel
theorem dX12_readPerson_11 : decode cX12_readPerson 11 = .ok (.ireturn, 1) := by decide +kernel
theorem dX12_readDog_0 : decode cX12_readDog 0 = .ok (.aload_n 0, 1) := by decide +kernel
theorem dX12_readDog_1 : decode cX12_readDog 1 = .ok (.iconst 2, 1) := by decide +kernel
theorem dX12_readDog_2 : decode cX12_readDog 2 = .ok (.bipush 6, 2) := by decide +kernel
theorem dX12_readDog_4 : decode cX12_readDog 4 = .ok (.invokevirtual 165, 3) := by decide +kernel
theorem dX12_readDog_7 : decode cX12_readDog 7 = .ok (.ifCond .ne 5, 3) := by decide +kernel
theorem dX12_readDog_12 : decode cX12_readDog 12 = .ok (.aload_n 0, 1) := by decide +kernel
theorem dX12_readDog_13 : decode cX12_readDog 13 = .ok (.getfield 101, 3) := by decide +kernel
theorem dX12_readDog_16 : decode cX12_readDog 16 = .ok (.iconst 2, 1) := by decide +kernel
theorem dX12_readDog_17 : decode cX12_readDog 17 = .ok (.iaload, 1) := by decide +kernel
theorem dX12_readDog_18 : decode cX12_readDog 18 = .ok (.istore_n 1, 1) := by decide +kernel
theorem dX12_readDog_19 : decode cX12_readDog 19 = .ok (.aload_n 0, 1) := by decide +kernel
theorem dX12_readDog_20 : decode cX12_readDog 20 = .ok (.bipush 13, 2) := by decide +kernel
theorem dX12_readDog_22 : decode cX12_readDog 22 = .ok (.iload_n 1, 1) := by decide +kernel
theorem dX12_readDog_23 : decode cX12_readDog 23 = .ok (.iadd, 1) := by decide +kernel
theorem dX12_readDog_24 : decode cX12_readDog 24 = .ok (.invokevirtual 169, 3) := by decide +kernel
theorem dX12_readDog_27 : decode cX12_readDog 27 = .ok (.ifCond .eq 25, 3) := by decide +kernel
theorem dX12_readDog_30 : decode cX12_readDog 30 = .ok (.aload_n 0, 1) := by decide +kernel
theorem dX12_readDog_31 : decode cX12_readDog 31 = .ok (.bipush 42, 2) := by decide +kernel
theorem dX12_readDog_33 : decode cX12_readDog 33 = .ok (.iload_n 1, 1) := by decide +kernel
theorem dX12_readDog_34 : decode cX12_readDog 34 = .ok (.iadd, 1) := by decide +kernel
theorem dX12_readDog_35 : decode cX12_readDog 35 = .ok (.aload_n 0, 1) := by decide +kernel
theorem dX12_readDog_36 : decode cX12_readDog 36 = .ok (.iconst 5, 1) := by decide +kernel
theorem dX12_readDog_37 : decode cX12_readDog 37 = .ok (.aload_n 0, 1) := by decide +kernel
theorem dX12_readDog_38 : decode cX12_readDog 38 = .ok (.getfield 101, 3) := by decide +kernel
theorem dX12_readDog_41 : decode cX12_readDog 41 = .ok (.iconst 1, 1) := by decide +kernel
theorem dX12_readDog_42 : decode cX12_readDog 42 = .ok (.iaload, 1) := by decide +kernel
theorem dX12_readDog_43 : decode cX12_readDog 43 = .ok (.invokevirtual 175, 3) := by decide +kernel
theorem dX12_readDog_46 : decode cX12_readDog 46 = .ok (.invokevirtual 178, 3) := by decide +kernel
theorem dX12_readDog_49 : decode cX12_readDog 49 = .ok (.ifCond .ne 5, 3) := by decide +kernel
theorem dX12_readDog_54 : decode cX12_readDog 54 = .ok (.aload_n 0, 1) := by decide +kernel
theorem dX12_readDog_55 : decode cX12_readDog 55 = .ok (.bipush 48, 2) := by decide +kernel
theorem dX12_readDog_57 : decode cX12_readDog 57 = .ok (.iload_n 1, 1) := by decide +kernel
theorem dX12_readDog_58 : decode cX12_readDog 58 = .ok (.iadd, 1) := by decide +kernel
theorem dX12_readDog_59 : decode cX12_readDog 59 = .ok (.aload_n 0, 1) := by decide +kernel
theorem dX12_readDog_60 : decode cX12_readDog 60 = .ok (.iconst 0, 1) := by decide +kernel
theorem dX12_readDog_61 : decode cX12_readDog 61 = .ok (.bipush 12, 2) := by decide +kernel
theorem dX12_readDog_63 : decode cX12_readDog 63 = .ok (.invokevirtual 182, 3) := by decide +kernel
theorem dX12_readDog_66 : decode cX12_readDog 66 = .ok (.invokevirtual 178, 3) := by decide +kernel
theorem dX12_readDog_69 : decode cX12_readDog 69 = .ok (.ifCond .eq 21, 3) := by decide +kernel
theorem dX12_readDog_72 : decode cX12_readDog 72 = .ok (.aload_n 0, 1) := by decide +kernel
theorem dX12_readDog_73 : decode cX12_readDog 73 = .ok (.bipush 54, 2) := by decide +kernel
theorem dX12_readDog_75 : decode cX12_readDog 75 = .ok (.iload_n 1, 1) := by decide +kernel
theorem dX12_readDog_76 : decode cX12_readDog 76 = .ok (.iadd, 1) := by decide +kernel
theorem dX12_readDog_77 : decode cX12_readDog 77 = .ok (.aload_n 0, 1) := by decide +kernel
theorem dX12_readDog_78 : decode cX12_readDog 78 = .ok (.iconst 0, 1) := by decide +kernel
theorem dX12_readDog_79 : decode cX12_readDog 79 = .ok (.bipush 12, 2) := by decide +kernel
theorem dX12_readDog_81 : decode cX12_readDog 81 = .ok (.invokevirtual 182, 3) := by decide +kernel
theorem dX12_readDog_84 : decode cX12_readDog 84 = .ok (.invokevirtual 178, 3) := by decide +kernel
theorem dX12_readDog_87 : decode cX12_readDog 87 = .ok (.ifCond .ne 5, 3) := by decide +kernel
theorem dX12_readDog_92 : decode cX12_readDog 92 = .ok (.aload_n 0, 1) := by decide +kernel
theorem dX12_readDog_93 : decode cX12_readDog 93 = .ok (.getfield 101, 3) := by decide +kernel
theorem dX12_readDog_96 : decode cX12_readDog 96 = .ok (.iconst 2, 1) := by decide +kernel
theorem dX12_readDog_97 : decode cX12_readDog 97 = .ok (.dup2, 1) := by decide +kernel
theorem dX12_readDog_98 : decode cX12_readDog 98 = .ok (.iaload, 1) := by decide +kernel
theorem dX12_readDog_99 : decode cX12_readDog 99 = .ok (.iconst 1, 1) := by decide +kernel
theorem dX12_readDog_100 : decode cX12_readDog 100 = .ok (.iadd, 1) := by decide +kernel
theorem dX12_readDog_101 : decode cX12_readDog 101 = .ok (.iastore, 1) := by decide +kernel
theorem dX12_readDog_102 : decode cX12_readDog 102 = .ok (.iconst 1, 1) := by decide +kernel
theorem dX12_readDog_103 : decode cX12_readDog 103 = .ok (.ireturn, 1) := by decide +kernel
theorem dX12_readDog_90 : decode cX12_readDog 90 = .ok (.iconst 0, 1) := by decide +kernel
theorem dX12_readDog_91 : decode cX12_readDog 91 = .ok (.ireturn, 1) := by decide +kernel
theorem dX12_readDog_52 : decode cX12_readDog 52 = .ok (.iconst 0, 1) := by decide +kernel
theorem dX12_readDog_53 : decode cX12_readDog 53 = .ok (.ireturn, 1) := by decide +kernel
theorem dX12_readDog_10 : decode cX12_readDog 10 = .ok (.iconst 0, 1) := by decide +kernel
theorem dX12_readDog_11 : decode cX12_readDog 11 = .ok (.ireturn, 1) := by decide +kernel
theorem dX12_readFree_0 : decode cX12_readFree 0 = .ok (.aload_n 0, 1) := by decide +kernel
theorem dX12_readFree_1 : decode cX12_readFree 1 = .ok (.iconst 3, 1) := by decide +kernel
theorem dX12_readFree_2 : decode cX12_readFree 2 = .ok (.bipush 12, 2) := by decide +kernel
theorem dX12_readFree_4 : decode cX12_readFree 4 = .ok (.invokevirtual 165, 3) := by decide +kernel
theorem dX12_readFree_7 : decode cX12_readFree 7 = .ok (.ifCond .eq 17, 3) := by decide +kernel
theorem dX12_readFree_10 : decode cX12_readFree 10 = .ok (.aload_n 0, 1) := by decide +kernel
theorem dX12_readFree_11 : decode cX12_readFree 11 = .ok (.iconst 0, 1) := by decide +kernel
theorem dX12_readFree_12 : decode cX12_readFree 12 = .ok (.aload_n 0, 1) := by decide +kernel
theorem dX12_readFree_13 : decode cX12_readFree 13 = .ok (.getfield 101, 3) := by decide +kernel
theorem dX12_readFree_16 : decode cX12_readFree 16 = .ok (.iconst 0, 1) := by decide +kernel
theorem dX12_readFree_17 : decode cX12_readFree 17 = .ok (.iaload, 1) := by decide +kernel
theorem dX12_readFree_18 : decode cX12_readFree 18 = .ok (.invokevirtual 175, 3) := by decide +kernel
theorem dX12_readFree_21 : decode cX12_readFree 21 = .ok (.ifCond .ne 5, 3) := by decide +kernel
theorem dX12_readFree_26 : decode cX12_readFree 26 = .ok (.aload_n 0, 1) := by decide +kernel
theorem dX12_readFree_27 : decode cX12_readFree 27 = .ok (.getfield 79, 3) := by decide +kernel
theorem dX12_readFree_30 : decode cX12_readFree 30 = .ok (.istore_n 1, 1) := by decide +kernel
theorem dX12_readFree_31 : decode cX12_readFree 31 = .ok (.aload_n 0, 1) := by decide +kernel
theorem dX12_readFree_32 : decode cX12_readFree 32 = .ok (.iconst 0, 1) := by decide +kernel
theorem dX12_readFree_33 : decode cX12_readFree 33 = .ok (.bipush 23, 2) := by decide +kernel
theorem dX12_readFree_35 : decode cX12_readFree 35 = .ok (.invokevirtual 182, 3) := by decide +kernel
theorem dX12_readFree_38 : decode cX12_readFree 38 = .ok (.ifCond .ne 5, 3) := by decide +kernel
theorem dX12_readFree_43 : decode cX12_readFree 43 = .ok (.aload_n 0, 1) := by decide +kernel
theorem dX12_readFree_44 : decode cX12_readFree 44 = .ok (.getfield 79, 3) := by decide +kernel
theorem dX12_readFree_47 : decode cX12_readFree 47 = .ok (.istore_n 2, 1) := by decide +kernel
theorem dX12_readFree_48 : decode cX12_readFree 48 = .ok (.aload_n 0, 1) := by decide +kernel
theorem dX12_readFree_49 : decode cX12_readFree 49 = .ok (.iload_n 2, 1) := by decide +kernel
theorem dX12_readFree_50 : decode cX12_readFree 50 = .ok (.bipush 23, 2) := by decide +kernel
theorem dX12_readFree_52 : decode cX12_readFree 52 = .ok (.invokevirtual 182, 3) := by decide +kernel
theorem dX12_readFree_55 : decode cX12_readFree 55 = .ok (.ifCond .ne 5, 3) := by decide +kernel
theorem dX12_readFree_60 : decode cX12_readFree 60 = .ok (.aload_n 0, 1) := by decide +kernel
theorem dX12_readFree_61 : decode cX12_readFree 61 = .ok (.getfield 101, 3) := by decide +kernel
theorem dX12_readFree_64 : decode cX12_readFree 64 = .ok (.iconst 4, 1) := by decide +kernel
theorem dX12_readFree_65 : decode cX12_readFree 65 = .ok (.iload_n 1, 1) := by decide +kernel
theorem dX12_readFree_66 : decode cX12_readFree 66 = .ok (.iadd, 1) := by decide +kernel
theorem dX12_readFree_67 : decode cX12_readFree 67 = .ok (.dup2, 1) := by decide +kernel
theorem dX12_readFree_68 : decode cX12_readFree 68 = .ok (.iaload, 1) := by decide +kernel
theorem dX12_readFree_69 : decode cX12_readFree 69 = .ok (.iload_n 2, 1) := by decide +kernel
theorem dX12_readFree_70 : decode cX12_readFree 70 = .ok (.aload_n 0, 1) := by decide +kernel
theorem dX12_readFree_71 : decode cX12_readFree 71 = .ok (.getfield 79, 3) := by decide +kernel
theorem dX12_readFree_74 : decode cX12_readFree 74 = .ok (.invokestatic 185, 3) := by decide +kernel
theorem dX12_readFree_77 : decode cX12_readFree 77 = .ok (.ior, 1) := by decide +kernel
theorem dX12_readFree_78 : decode cX12_readFree 78 = .ok (.iastore, 1) := by decide +kernel
theorem dX12_readFree_79 : decode cX12_readFree 79 = .ok (.aload_n 0, 1) := by decide +kernel
theorem dX12_readFree_80 : decode cX12_readFree 80 = .ok (.getfield 101, 3) := by decide +kernel
theorem dX12_readFree_83 : decode cX12_readFree 83 = .ok (.iconst 3, 1) := by decide +kernel
theorem dX12_readFree_84 : decode cX12_readFree 84 = .ok (.dup2, 1) := by decide +kernel
theorem dX12_readFree_85 : decode cX12_readFree 85 = .ok (.iaload, 1) := by decide +kernel
theorem dX12_readFree_86 : decode cX12_readFree 86 = .ok (.iconst 1, 1) := by decide +kernel
theorem dX12_readFree_87 : decode cX12_readFree 87 = .ok (.iadd, 1) := by decide +kernel
theorem dX12_readFree_88 : decode cX12_readFree 88 = .ok (.iastore, 1) := by decide +kernel
theorem dX12_readFree_89 : decode cX12_readFree 89 = .ok (.iconst 1, 1) := by decide +kernel
theorem dX12_readFree_90 : decode cX12_readFree 90 = .ok (.ireturn, 1) := by decide +kernel
theorem dX12_readFree_58 : decode cX12_readFree 58 = .ok (.iconst 0, 1) := by decide +kernel
theorem dX12_readFree_59 : decode cX12_readFree 59 = .ok (.ireturn, 1) := by decide +kernel
theorem dX12_readFree_41 : decode cX12_readFree 41 = .ok (.iconst 0, 1) := by decide +kernel
theorem dX12_readFree_42 : decode cX12_readFree 42 = .ok (.ireturn, 1) := by decide +kernel
theorem dX12_readFree_24 : decode cX12_readFree 24 = .ok (.iconst 0, 1) := by decide +kernel
theorem dX12_readFree_25 : decode cX12_readFree 25 = .ok (.ireturn, 1) := by decide +kernel
theorem dX12_readLine_0 : decode cX12_readLine 0 = .ok (.aload_n 0, 1) := by decide +kernel
theorem dX12_readLine_1 : decode cX12_readLine 1 = .ok (.iconst 0, 1) := by decide +kernel
theorem dX12_readLine_2 : decode cX12_readLine 2 = .ok (.invokevirtual 172, 3) := by decide +kernel
theorem dX12_readLine_5 : decode cX12_readLine 5 = .ok (.ifCond .eq 8, 3) := by decide +kernel
theorem dX12_readLine_8 : decode cX12_readLine 8 = .ok (.aload_n 0, 1) := by decide +kernel
theorem dX12_readLine_9 : decode cX12_readLine 9 = .ok (.invokevirtual 189, 3) := by decide +kernel
theorem dX12_readLine_12 : decode cX12_readLine 12 = .ok (.ireturn, 1) := by decide +kernel
theorem dX12_readLine_13 : decode cX12_readLine 13 = .ok (.aload_n 0, 1) := by decide +kernel
theorem dX12_readLine_14 : decode cX12_readLine 14 = .ok (.iconst 2, 1) := by decide +kernel
theorem dX12_readLine_15 : decode cX12_readLine 15 = .ok (.invokevirtual 172, 3) := by decide +kernel
theorem dX12_readLine_18 : decode cX12_readLine 18 = .ok (.ifCond .eq 8, 3) := by decide +kernel
theorem dX12_readLine_21 : decode cX12_readLine 21 = .ok (.aload_n 0, 1) := by decide +kernel
theorem dX12_readLine_22 : decode cX12_readLine 22 = .ok (.invokevirtual 192, 3) := by decide +kernel
theorem dX12_readLine_25 : decode cX12_readLine 25 = .ok (.ireturn, 1) := by decide +kernel
theorem dX12_readLine_26 : decode cX12_readLine 26 = .ok (.aload_n 0, 1) := by decide +kernel
theorem dX12_readLine_27 : decode cX12_readLine 27 = .ok (.iconst 3, 1) := by decide +kernel
theorem dX12_readLine_28 : decode cX12_readLine 28 = .ok (.invokevirtual 172, 3) := by decide +kernel
theorem dX12_readLine_31 : decode cX12_readLine 31 = .ok (.ifCond .eq 8, 3) := by decide +kernel
theorem dX12_readLine_34 : decode cX12_readLine 34 = .ok (.aload_n 0, 1) := by decide +kernel
theorem dX12_readLine_35 : decode cX12_readLine 35 = .ok (.invokevirtual 195, 3) := by decide +kernel
theorem dX12_readLine_38 : decode cX12_readLine 38 = .ok (.ireturn, 1) := by decide +kernel
theorem dX12_readLine_39 : decode cX12_readLine 39 = .ok (.aload_n 0, 1) := by decide +kernel
theorem dX12_readLine_40 : decode cX12_readLine 40 = .ok (.iconst 4, 1) := by decide +kernel
theorem dX12_readLine_41 : decode cX12_readLine 41 = .ok (.invokevirtual 172, 3) := by decide +kernel
theorem dX12_readLine_44 : decode cX12_readLine 44 = .ok (.ifCond .eq 8, 3) := by decide +kernel
theorem dX12_readLine_47 : decode cX12_readLine 47 = .ok (.aload_n 0, 1) := by decide +kernel
theorem dX12_readLine_48 : decode cX12_readLine 48 = .ok (.invokevirtual 198, 3) := by decide +kernel
theorem dX12_readLine_51 : decode cX12_readLine 51 = .ok (.ireturn, 1) := by decide +kernel
theorem dX12_readLine_52 : decode cX12_readLine 52 = .ok (.aload_n 0, 1) := by decide +kernel
theorem dX12_readLine_53 : decode cX12_readLine 53 = .ok (.iconst 5, 1) := by decide +kernel
theorem dX12_readLine_54 : decode cX12_readLine 54 = .ok (.invokevirtual 172, 3) := by decide +kernel
theorem dX12_readLine_57 : decode cX12_readLine 57 = .ok (.ifCond .ne 9, 3) := by decide +kernel
theorem dX12_readLine_66 : decode cX12_readLine 66 = .ok (.aload_n 0, 1) := by decide +kernel
theorem dX12_readLine_67 : decode cX12_readLine 67 = .ok (.getfield 201, 3) := by decide +kernel
theorem dX12_readLine_70 : decode cX12_readLine 70 = .ok (.ifCond .eq 9, 3) := by decide +kernel
theorem dX12_readLine_79 : decode cX12_readLine 79 = .ok (.aload_n 0, 1) := by decide +kernel
theorem dX12_readLine_80 : decode cX12_readLine 80 = .ok (.iconst 1, 1) := by decide +kernel
theorem dX12_readLine_81 : decode cX12_readLine 81 = .ok (.putfield 201, 3) := by decide +kernel
theorem dX12_readLine_84 : decode cX12_readLine 84 = .ok (.aload_n 0, 1) := by decide +kernel
theorem dX12_readLine_85 : decode cX12_readLine 85 = .ok (.invokevirtual 82, 3) := by decide +kernel
theorem dX12_readLine_88 : decode cX12_readLine 88 = .ok (.aload_n 0, 1) := by decide +kernel
theorem dX12_readLine_89 : decode cX12_readLine 89 = .ok (.bipush 60, 2) := by decide +kernel
theorem dX12_readLine_91 : decode cX12_readLine 91 = .ok (.aload_n 0, 1) := by decide +kernel
theorem dX12_readLine_92 : decode cX12_readLine 92 = .ok (.iconst 0, 1) := by decide +kernel
theorem dX12_readLine_93 : decode cX12_readLine 93 = .ok (.bipush 12, 2) := by decide +kernel
theorem dX12_readLine_95 : decode cX12_readLine 95 = .ok (.invokevirtual 182, 3) := by decide +kernel
theorem dX12_readLine_98 : decode cX12_readLine 98 = .ok (.invokevirtual 178, 3) := by decide +kernel
theorem dX12_readLine_101 : decode cX12_readLine 101 = .ok (.ireturn, 1) := by decide +kernel
theorem dX12_readLine_73 : decode cX12_readLine 73 = .ok (.aload_n 0, 1) := by decide +kernel
theorem dX12_readLine_74 : decode cX12_readLine 74 = .ok (.iconst 3, 1) := by decide +kernel
theorem dX12_readLine_75 : decode cX12_readLine 75 = .ok (.invokevirtual 72, 3) := by decide +kernel
theorem dX12_readLine_78 : decode cX12_readLine 78 = .ok (.ireturn, 1) := by decide +kernel
theorem dX12_readLine_60 : decode cX12_readLine 60 = .ok (.aload_n 0, 1) := by decide +kernel
theorem dX12_readLine_61 : decode cX12_readLine 61 = .ok (.iconst 1, 1) := by decide +kernel
theorem dX12_readLine_62 : decode cX12_readLine 62 = .ok (.invokevirtual 72, 3) := by decide +kernel
theorem dX12_readLine_65 : decode cX12_readLine 65 = .ok (.ireturn, 1) := by decide +kernel
theorem dX12_startSo_0 : decode cX12_startSo 0 = .ok (.bipush 61, 2) := by decide +kernel
theorem dX12_startSo_2 : decode cX12_startSo 2 = .ok (.istore_n 1, 1) := by decide +kernel
theorem dX12_startSo_3 : decode cX12_startSo 3 = .ok (.iload_n 1, 1) := by decide +kernel
theorem dX12_startSo_4 : decode cX12_startSo 4 = .ok (.sipush 373, 3) := by decide +kernel
theorem dX12_startSo_7 : decode cX12_startSo 7 = .ok (.if_icmp .ge 16, 3) := by decide +kernel
theorem dX12_startSo_23 : decode cX12_startSo 23 = .ok (.aload_n 0, 1) := by decide +kernel
theorem dX12_startSo_24 : decode cX12_startSo 24 = .ok (.getfield 98, 3) := by decide +kernel
theorem dX12_startSo_27 : decode cX12_startSo 27 = .ok (.bipush 62, 2) := by decide +kernel
theorem dX12_startSo_29 : decode cX12_startSo 29 = .ok (.aload_n 0, 1) := by decide +kernel
theorem dX12_startSo_30 : decode cX12_startSo 30 = .ok (.getfield 98, 3) := by decide +kernel
theorem dX12_startSo_33 : decode cX12_startSo 33 = .ok (.bipush 60, 2) := by decide +kernel
theorem dX12_startSo_35 : decode cX12_startSo 35 = .ok (.iaload, 1) := by decide +kernel
theorem dX12_startSo_36 : decode cX12_startSo 36 = .ok (.iastore, 1) := by decide +kernel
theorem dX12_startSo_37 : decode cX12_startSo 37 = .ok (.aload_n 0, 1) := by decide +kernel
theorem dX12_startSo_38 : decode cX12_startSo 38 = .ok (.getfield 98, 3) := by decide +kernel
theorem dX12_startSo_41 : decode cX12_startSo 41 = .ok (.bipush 65, 2) := by decide +kernel
theorem dX12_startSo_43 : decode cX12_startSo 43 = .ok (.aload_n 0, 1) := by decide +kernel
theorem dX12_startSo_44 : decode cX12_startSo 44 = .ok (.getfield 98, 3) := by decide +kernel
theorem dX12_startSo_47 : decode cX12_startSo 47 = .ok (.bipush 9, 2) := by decide +kernel
theorem dX12_startSo_49 : decode cX12_startSo 49 = .ok (.iaload, 1) := by decide +kernel
theorem dX12_startSo_50 : decode cX12_startSo 50 = .ok (.iastore, 1) := by decide +kernel
theorem dX12_startSo_51 : decode cX12_startSo 51 = .ok (.iconst 0, 1) := by decide +kernel
theorem dX12_startSo_52 : decode cX12_startSo 52 = .ok (.istore_n 1, 1) := by decide +kernel
theorem dX12_startSo_53 : decode cX12_startSo 53 = .ok (.iload_n 1, 1) := by decide +kernel
theorem dX12_startSo_54 : decode cX12_startSo 54 = .ok (.iconst 5, 1) := by decide +kernel
theorem dX12_startSo_55 : decode cX12_startSo 55 = .ok (.if_icmp .ge 26, 3) := by decide +kernel
theorem dX12_startSo_81 : decode cX12_startSo 81 = .ok (.iconst 0, 1) := by decide +kernel
theorem dX12_startSo_82 : decode cX12_startSo 82 = .ok (.istore_n 1, 1) := by decide +kernel
theorem dX12_startSo_83 : decode cX12_startSo 83 = .ok (.iload_n 1, 1) := by decide +kernel
theorem dX12_startSo_84 : decode cX12_startSo 84 = .ok (.bipush 8, 2) := by decide +kernel
theorem dX12_startSo_86 : decode cX12_startSo 86 = .ok (.if_icmp .ge 63, 3) := by decide +kernel
theorem dX12_startSo_149 : decode cX12_startSo 149 = .ok (.return_, 1) := by decide +kernel
theorem dX12_startSo_89 : decode cX12_startSo 89 = .ok (.aload_n 0, 1) := by decide +kernel
theorem dX12_startSo_90 : decode cX12_startSo 90 = .ok (.getfield 98, 3) := by decide +kernel
theorem dX12_startSo_93 : decode cX12_startSo 93 = .ok (.bipush 71, 2) := by decide +kernel
theorem dX12_startSo_95 : decode cX12_startSo 95 = .ok (.iload_n 1, 1) := by decide +kernel
theorem dX12_startSo_96 : decode cX12_startSo 96 = .ok (.iadd, 1) := by decide +kernel
theorem dX12_startSo_97 : decode cX12_startSo 97 = .ok (.aload_n 0, 1) := by decide +kernel
theorem dX12_startSo_98 : decode cX12_startSo 98 = .ok (.getfield 98, 3) := by decide +kernel
theorem dX12_startSo_101 : decode cX12_startSo 101 = .ok (.bipush 10, 2) := by decide +kernel
theorem dX12_startSo_103 : decode cX12_startSo 103 = .ok (.iload_n 1, 1) := by decide +kernel
theorem dX12_startSo_104 : decode cX12_startSo 104 = .ok (.iadd, 1) := by decide +kernel
theorem dX12_startSo_105 : decode cX12_startSo 105 = .ok (.iaload, 1) := by decide +kernel
theorem dX12_startSo_106 : decode cX12_startSo 106 = .ok (.iastore, 1) := by decide +kernel
theorem dX12_startSo_107 : decode cX12_startSo 107 = .ok (.aload_n 0, 1) := by decide +kernel
theorem dX12_startSo_108 : decode cX12_startSo 108 = .ok (.getfield 98, 3) := by decide +kernel
theorem dX12_startSo_111 : decode cX12_startSo 111 = .ok (.bipush 79, 2) := by decide +kernel
theorem dX12_startSo_113 : decode cX12_startSo 113 = .ok (.iload_n 1, 1) := by decide +kernel
theorem dX12_startSo_114 : decode cX12_startSo 114 = .ok (.iadd, 1) := by decide +kernel
theorem dX12_startSo_115 : decode cX12_startSo 115 = .ok (.aload_n 0, 1) := by decide +kernel
theorem dX12_startSo_116 : decode cX12_startSo 116 = .ok (.getfield 98, 3) := by decide +kernel
theorem dX12_startSo_119 : decode cX12_startSo 119 = .ok (.bipush 18, 2) := by decide +kernel
theorem dX12_startSo_121 : decode cX12_startSo 121 = .ok (.iload_n 1, 1) := by decide +kernel
theorem dX12_startSo_122 : decode cX12_startSo 122 = .ok (.iadd, 1) := by decide +kernel
theorem dX12_startSo_123 : decode cX12_startSo 123 = .ok (.iaload, 1) := by decide +kernel
theorem dX12_startSo_124 : decode cX12_startSo 124 = .ok (.iastore, 1) := by decide +kernel
theorem dX12_startSo_125 : decode cX12_startSo 125 = .ok (.aload_n 0, 1) := by decide +kernel
theorem dX12_startSo_126 : decode cX12_startSo 126 = .ok (.getfield 98, 3) := by decide +kernel
theorem dX12_startSo_129 : decode cX12_startSo 129 = .ok (.bipush 87, 2) := by decide +kernel
theorem dX12_startSo_131 : decode cX12_startSo 131 = .ok (.iload_n 1, 1) := by decide +kernel
theorem dX12_startSo_132 : decode cX12_startSo 132 = .ok (.iadd, 1) := by decide +kernel
theorem dX12_startSo_133 : decode cX12_startSo 133 = .ok (.aload_n 0, 1) := by decide +kernel
theorem dX12_startSo_134 : decode cX12_startSo 134 = .ok (.getfield 98, 3) := by decide +kernel
theorem dX12_startSo_137 : decode cX12_startSo 137 = .ok (.bipush 26, 2) := by decide +kernel
theorem dX12_startSo_139 : decode cX12_startSo 139 = .ok (.iload_n 1, 1) := by decide +kernel
theorem dX12_startSo_140 : decode cX12_startSo 140 = .ok (.iadd, 1) := by decide +kernel
theorem dX12_startSo_141 : decode cX12_startSo 141 = .ok (.iaload, 1) := by decide +kernel
theorem dX12_startSo_142 : decode cX12_startSo 142 = .ok (.iastore, 1) := by decide +kernel
theorem dX12_startSo_143 : decode cX12_startSo 143 = .ok (.iinc 1 1, 3) := by decide +kernel
theorem dX12_startSo_146 : decode cX12_startSo 146 = .ok (.goto (-63), 3) := by decide +kernel
theorem dX12_startSo_58 : decode cX12_startSo 58 = .ok (.aload_n 0, 1) := by decide +kernel
theorem dX12_startSo_59 : decode cX12_startSo 59 = .ok (.getfield 98, 3) := by decide +kernel
theorem dX12_startSo_62 : decode cX12_startSo 62 = .ok (.bipush 66, 2) := by decide +kernel
theorem dX12_startSo_64 : decode cX12_startSo 64 = .ok (.iload_n 1, 1) := by decide +kernel
theorem dX12_startSo_65 : decode cX12_startSo 65 = .ok (.iadd, 1) := by decide +kernel
theorem dX12_startSo_66 : decode cX12_startSo 66 = .ok (.aload_n 0, 1) := by decide +kernel
theorem dX12_startSo_67 : decode cX12_startSo 67 = .ok (.getfield 98, 3) := by decide +kernel
theorem dX12_startSo_70 : decode cX12_startSo 70 = .ok (.iconst 4, 1) := by decide +kernel
theorem dX12_startSo_71 : decode cX12_startSo 71 = .ok (.iload_n 1, 1) := by decide +kernel
theorem dX12_startSo_72 : decode cX12_startSo 72 = .ok (.iadd, 1) := by decide +kernel
theorem dX12_startSo_73 : decode cX12_startSo 73 = .ok (.iaload, 1) := by decide +kernel
theorem dX12_startSo_74 : decode cX12_startSo 74 = .ok (.iastore, 1) := by decide +kernel
theorem dX12_startSo_75 : decode cX12_startSo 75 = .ok (.iinc 1 1, 3) := by decide +kernel
theorem dX12_startSo_78 : decode cX12_startSo 78 = .ok (.goto (-25), 3) := by decide +kernel
theorem dX12_startSo_10 : decode cX12_startSo 10 = .ok (.aload_n 0, 1) := by decide +kernel
theorem dX12_startSo_11 : decode cX12_startSo 11 = .ok (.getfield 98, 3) := by decide +kernel
theorem dX12_startSo_14 : decode cX12_startSo 14 = .ok (.iload_n 1, 1) := by decide +kernel
theorem dX12_startSo_15 : decode cX12_startSo 15 = .ok (.iconst 0, 1) := by decide +kernel
theorem dX12_startSo_16 : decode cX12_startSo 16 = .ok (.iastore, 1) := by decide +kernel
theorem dX12_startSo_17 : decode cX12_startSo 17 = .ok (.iinc 1 1, 3) := by decide +kernel
theorem dX12_startSo_20 : decode cX12_startSo 20 = .ok (.goto (-17), 3) := by decide +kernel
theorem dX12_park_0 : decode cX12_park 0 = .ok (.aload_n 0, 1) := by decide +kernel
theorem dX12_park_1 : decode cX12_park 1 = .ok (.sipush 900, 3) := by decide +kernel
theorem dX12_park_4 : decode cX12_park 4 = .ok (.invokevirtual 205, 3) := by decide +kernel
theorem dX12_park_7 : decode cX12_park 7 = .ok (.iconst 0, 1) := by decide +kernel
theorem dX12_park_8 : decode cX12_park 8 = .ok (.istore_n 1, 1) := by decide +kernel
theorem dX12_park_9 : decode cX12_park 9 = .ok (.iload_n 1, 1) := by decide +kernel
theorem dX12_park_10 : decode cX12_park 10 = .ok (.bipush 61, 2) := by decide +kernel
theorem dX12_park_12 : decode cX12_park 12 = .ok (.if_icmp .ge 16, 3) := by decide +kernel
theorem dX12_park_28 : decode cX12_park 28 = .ok (.aload_n 0, 1) := by decide +kernel
theorem dX12_park_29 : decode cX12_park 29 = .ok (.getfield 101, 3) := by decide +kernel
theorem dX12_park_32 : decode cX12_park 32 = .ok (.bipush 60, 2) := by decide +kernel
theorem dX12_park_34 : decode cX12_park 34 = .ok (.iconst 2, 1) := by decide +kernel
theorem dX12_park_35 : decode cX12_park 35 = .ok (.iastore, 1) := by decide +kernel
theorem dX12_park_36 : decode cX12_park 36 = .ok (.aload_n 0, 1) := by decide +kernel
theorem dX12_park_37 : decode cX12_park 37 = .ok (.iconst 0, 1) := by decide +kernel
theorem dX12_park_38 : decode cX12_park 38 = .ok (.putfield 201, 3) := by decide +kernel
theorem dX12_park_41 : decode cX12_park 41 = .ok (.iconst 0, 1) := by decide +kernel
theorem dX12_park_42 : decode cX12_park 42 = .ok (.istore_n 1, 1) := by decide +kernel
theorem dX12_park_43 : decode cX12_park 43 = .ok (.aload_n 0, 1) := by decide +kernel
theorem dX12_park_44 : decode cX12_park 44 = .ok (.getfield 30, 3) := by decide +kernel
theorem dX12_park_47 : decode cX12_park 47 = .ok (.ifCond .eq 30, 3) := by decide +kernel
theorem dX12_park_77 : decode cX12_park 77 = .ok (.iconst 0, 1) := by decide +kernel
theorem dX12_park_78 : decode cX12_park 78 = .ok (.istore_n 2, 1) := by decide +kernel
theorem dX12_park_79 : decode cX12_park 79 = .ok (.iload_n 2, 1) := by decide +kernel
theorem dX12_park_80 : decode cX12_park 80 = .ok (.bipush 61, 2) := by decide +kernel
theorem dX12_park_82 : decode cX12_park 82 = .ok (.if_icmp .ge 21, 3) := by decide +kernel
theorem dX12_park_103 : decode cX12_park 103 = .ok (.iconst 0, 1) := by decide +kernel
theorem dX12_park_104 : decode cX12_park 104 = .ok (.istore_n 2, 1) := by decide +kernel
theorem dX12_park_105 : decode cX12_park 105 = .ok (.iload_n 2, 1) := by decide +kernel
theorem dX12_park_106 : decode cX12_park 106 = .ok (.bipush 19, 2) := by decide +kernel
theorem dX12_park_108 : decode cX12_park 108 = .ok (.if_icmp .ge 21, 3) := by decide +kernel
theorem dX12_park_129 : decode cX12_park 129 = .ok (.aload_n 0, 1) := by decide +kernel
theorem dX12_park_130 : decode cX12_park 130 = .ok (.invokevirtual 154, 3) := by decide +kernel
theorem dX12_park_133 : decode cX12_park 133 = .ok (.aload_n 0, 1) := by decide +kernel
theorem dX12_park_134 : decode cX12_park 134 = .ok (.iconst 0, 1) := by decide +kernel
theorem dX12_park_135 : decode cX12_park 135 = .ok (.putfield 214, 3) := by decide +kernel
theorem dX12_park_138 : decode cX12_park 138 = .ok (.iload_n 1, 1) := by decide +kernel
theorem dX12_park_139 : decode cX12_park 139 = .ok (.ireturn, 1) := by decide +kernel
theorem dX12_park_111 : decode cX12_park 111 = .ok (.aload_n 0, 1) := by decide +kernel
theorem dX12_park_112 : decode cX12_park 112 = .ok (.getfield 113, 3) := by decide +kernel
theorem dX12_park_115 : decode cX12_park 115 = .ok (.iload_n 2, 1) := by decide +kernel
theorem dX12_park_116 : decode cX12_park 116 = .ok (.aload_n 0, 1) := by decide +kernel
theorem dX12_park_117 : decode cX12_park 117 = .ok (.getfield 117, 3) := by decide +kernel
theorem dX12_park_120 : decode cX12_park 120 = .ok (.iload_n 2, 1) := by decide +kernel
theorem dX12_park_121 : decode cX12_park 121 = .ok (.laload, 1) := by decide +kernel
theorem dX12_park_122 : decode cX12_park 122 = .ok (.lastore, 1) := by decide +kernel
