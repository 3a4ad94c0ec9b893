theorem dX12_dogHours_0 : decode cX12_dogHours 0 = .ok (.iconst 0, 1) := by decide +kernel
theorem dX12_dogHours_1 : decode cX12_dogHours 1 = .ok (.istore_n 2, 1) := by decide +kernel
theorem dX12_dogHours_2 : decode cX12_dogHours 2 = .ok (.iconst 0, 1) := by decide +kernel
theorem dX12_dogHours_3 : decode cX12_dogHours 3 = .ok (.istore_n 3, 1) := by decide +kernel
theorem dX12_dogHours_4 : decode cX12_dogHours 4 = .ok (.iload_n 3, 1) := by decide +kernel
theorem dX12_dogHours_5 : decode cX12_dogHours 5 = .ok (.aload_n 0, 1) := by decide +kernel
theorem dX12_dogHours_6 : decode cX12_dogHours 6 = .ok (.getfield 98, 3) := by decide +kernel
theorem dX12_dogHours_9 : decode cX12_dogHours 9 = .ok (.iconst 2, 1) := by decide +kernel
theorem dX12_dogHours_10 : decode cX12_dogHours 10 = .ok (.iaload, 1) := by decide +kernel
theorem dX12_dogHours_11 : decode cX12_dogHours 11 = .ok (.if_icmp .ge 60, 3) := by decide +kernel
theorem dX12_dogHours_71 : decode cX12_dogHours 71 = .ok (.iload_n 2, 1) := by decide +kernel
theorem dX12_dogHours_72 : decode cX12_dogHours 72 = .ok (.ireturn, 1) := by decide +kernel
theorem dX12_dogHours_14 : decode cX12_dogHours 14 = .ok (.aload_n 0, 1) := by decide +kernel
theorem dX12_dogHours_15 : decode cX12_dogHours 15 = .ok (.getfield 98, 3) := by decide +kernel
theorem dX12_dogHours_18 : decode cX12_dogHours 18 = .ok (.bipush 64, 2) := by decide +kernel
theorem dX12_dogHours_20 : decode cX12_dogHours 20 = .ok (.iaload, 1) := by decide +kernel
theorem dX12_dogHours_21 : decode cX12_dogHours 21 = .ok (.iload_n 3, 1) := by decide +kernel
theorem dX12_dogHours_22 : decode cX12_dogHours 22 = .ok (.invokestatic 217, 3) := by decide +kernel
theorem dX12_dogHours_25 : decode cX12_dogHours 25 = .ok (.ifCond .ne 40, 3) := by decide +kernel
theorem dX12_dogHours_65 : decode cX12_dogHours 65 = .ok (.iinc 3 1, 3) := by decide +kernel
theorem dX12_dogHours_68 : decode cX12_dogHours 68 = .ok (.goto (-64), 3) := by decide +kernel
theorem dX12_dogHours_28 : decode cX12_dogHours 28 = .ok (.aload_n 0, 1) := by decide +kernel
theorem dX12_dogHours_29 : decode cX12_dogHours 29 = .ok (.getfield 98, 3) := by decide +kernel
theorem dX12_dogHours_32 : decode cX12_dogHours 32 = .ok (.bipush 71, 2) := by decide +kernel
theorem dX12_dogHours_34 : decode cX12_dogHours 34 = .ok (.aload_n 0, 1) := by decide +kernel
theorem dX12_dogHours_35 : decode cX12_dogHours 35 = .ok (.getfield 98, 3) := by decide +kernel
theorem dX12_dogHours_38 : decode cX12_dogHours 38 = .ok (.bipush 42, 2) := by decide +kernel
theorem dX12_dogHours_40 : decode cX12_dogHours 40 = .ok (.iload_n 3, 1) := by decide +kernel
theorem dX12_dogHours_41 : decode cX12_dogHours 41 = .ok (.iadd, 1) := by decide +kernel
theorem dX12_dogHours_42 : decode cX12_dogHours 42 = .ok (.iaload, 1) := by decide +kernel
theorem dX12_dogHours_43 : decode cX12_dogHours 43 = .ok (.iadd, 1) := by decide +kernel
theorem dX12_dogHours_44 : decode cX12_dogHours 44 = .ok (.iaload, 1) := by decide +kernel
theorem dX12_dogHours_45 : decode cX12_dogHours 45 = .ok (.iload_n 1, 1) := by decide +kernel
theorem dX12_dogHours_46 : decode cX12_dogHours 46 = .ok (.if_icmp .ne 19, 3) := by decide +kernel
theorem dX12_dogHours_49 : decode cX12_dogHours 49 = .ok (.iload_n 2, 1) := by decide +kernel
theorem dX12_dogHours_50 : decode cX12_dogHours 50 = .ok (.aload_n 0, 1) := by decide +kernel
theorem dX12_dogHours_51 : decode cX12_dogHours 51 = .ok (.aload_n 0, 1) := by decide +kernel
theorem dX12_dogHours_52 : decode cX12_dogHours 52 = .ok (.getfield 98, 3) := by decide +kernel
theorem dX12_dogHours_55 : decode cX12_dogHours 55 = .ok (.bipush 42, 2) := by decide +kernel
theorem dX12_dogHours_57 : decode cX12_dogHours 57 = .ok (.iload_n 3, 1) := by decide +kernel
theorem dX12_dogHours_58 : decode cX12_dogHours 58 = .ok (.iadd, 1) := by decide +kernel
theorem dX12_dogHours_59 : decode cX12_dogHours 59 = .ok (.iaload, 1) := by decide +kernel
theorem dX12_dogHours_60 : decode cX12_dogHours 60 = .ok (.invokevirtual 220, 3) := by decide +kernel
theorem dX12_dogHours_63 : decode cX12_dogHours 63 = .ok (.ior, 1) := by decide +kernel
theorem dX12_dogHours_64 : decode cX12_dogHours 64 = .ok (.istore_n 2, 1) := by decide +kernel
theorem dX12_goodOf_0 : decode cX12_goodOf 0 = .ok (.aload_n 0, 1) := by decide +kernel
theorem dX12_goodOf_1 : decode cX12_goodOf 1 = .ok (.getfield 98, 3) := by decide +kernel
theorem dX12_goodOf_4 : decode cX12_goodOf 4 = .ok (.bipush 71, 2) := by decide +kernel
theorem dX12_goodOf_6 : decode cX12_goodOf 6 = .ok (.iload_n 1, 1) := by decide +kernel
theorem dX12_goodOf_7 : decode cX12_goodOf 7 = .ok (.iadd, 1) := by decide +kernel
theorem dX12_goodOf_8 : decode cX12_goodOf 8 = .ok (.iaload, 1) := by decide +kernel
theorem dX12_goodOf_9 : decode cX12_goodOf 9 = .ok (.istore_n 2, 1) := by decide +kernel
theorem dX12_goodOf_10 : decode cX12_goodOf 10 = .ok (.aload_n 0, 1) := by decide +kernel
theorem dX12_goodOf_11 : decode cX12_goodOf 11 = .ok (.iload_n 1, 1) := by decide +kernel
theorem dX12_goodOf_12 : decode cX12_goodOf 12 = .ok (.invokevirtual 223, 3) := by decide +kernel
theorem dX12_goodOf_15 : decode cX12_goodOf 15 = .ok (.ifCond .eq 22, 3) := by decide +kernel
theorem dX12_goodOf_37 : decode cX12_goodOf 37 = .ok (.aload_n 0, 1) := by decide +kernel
theorem dX12_goodOf_38 : decode cX12_goodOf 38 = .ok (.iload_n 2, 1) := by decide +kernel
theorem dX12_goodOf_39 : decode cX12_goodOf 39 = .ok (.invokevirtual 229, 3) := by decide +kernel
theorem dX12_goodOf_42 : decode cX12_goodOf 42 = .ok (.ifCond .eq 7, 3) := by decide +kernel
theorem dX12_goodOf_45 : decode cX12_goodOf 45 = .ok (.iconst 0, 1) := by decide +kernel
theorem dX12_goodOf_46 : decode cX12_goodOf 46 = .ok (.goto 18, 3) := by decide +kernel
theorem dX12_goodOf_64 : decode cX12_goodOf 64 = .ok (.istore_n 3, 1) := by decide +kernel
theorem dX12_goodOf_65 : decode cX12_goodOf 65 = .ok (.aload_n 0, 1) := by decide +kernel
theorem dX12_goodOf_66 : decode cX12_goodOf 66 = .ok (.iload_n 1, 1) := by decide +kernel
theorem dX12_goodOf_67 : decode cX12_goodOf 67 = .ok (.invokevirtual 220, 3) := by decide +kernel
theorem dX12_goodOf_70 : decode cX12_goodOf 70 = .ok (.iload_n 3, 1) := by decide +kernel
theorem dX12_goodOf_71 : decode cX12_goodOf 71 = .ok (.iconst (-1), 1) := by decide +kernel
theorem dX12_goodOf_72 : decode cX12_goodOf 72 = .ok (.ixor, 1) := by decide +kernel
theorem dX12_goodOf_73 : decode cX12_goodOf 73 = .ok (.iand, 1) := by decide +kernel
theorem dX12_goodOf_74 : decode cX12_goodOf 74 = .ok (.invokestatic 226, 3) := by decide +kernel
theorem dX12_goodOf_77 : decode cX12_goodOf 77 = .ok (.ireturn, 1) := by decide +kernel
theorem dX12_goodOf_49 : decode cX12_goodOf 49 = .ok (.aload_n 0, 1) := by decide +kernel
theorem dX12_goodOf_50 : decode cX12_goodOf 50 = .ok (.getfield 98, 3) := by decide +kernel
theorem dX12_goodOf_53 : decode cX12_goodOf 53 = .ok (.bipush 66, 2) := by decide +kernel
theorem dX12_goodOf_55 : decode cX12_goodOf 55 = .ok (.iload_n 2, 1) := by decide +kernel
theorem dX12_goodOf_56 : decode cX12_goodOf 56 = .ok (.iadd, 1) := by decide +kernel
theorem dX12_goodOf_57 : decode cX12_goodOf 57 = .ok (.iaload, 1) := by decide +kernel
theorem dX12_goodOf_58 : decode cX12_goodOf 58 = .ok (.aload_n 0, 1) := by decide +kernel
theorem dX12_goodOf_59 : decode cX12_goodOf 59 = .ok (.iload_n 2, 1) := by decide +kernel
theorem dX12_goodOf_60 : decode cX12_goodOf 60 = .ok (.invokevirtual 232, 3) := by decide +kernel
theorem dX12_goodOf_63 : decode cX12_goodOf 63 = .ok (.iand, 1) := by decide +kernel
theorem dX12_goodOf_18 : decode cX12_goodOf 18 = .ok (.aload_n 0, 1) := by decide +kernel
theorem dX12_goodOf_19 : decode cX12_goodOf 19 = .ok (.iload_n 1, 1) := by decide +kernel
theorem dX12_goodOf_20 : decode cX12_goodOf 20 = .ok (.invokevirtual 220, 3) := by decide +kernel
theorem dX12_goodOf_23 : decode cX12_goodOf 23 = .ok (.aload_n 0, 1) := by decide +kernel
theorem dX12_goodOf_24 : decode cX12_goodOf 24 = .ok (.getfield 98, 3) := by decide +kernel
theorem dX12_goodOf_27 : decode cX12_goodOf 27 = .ok (.bipush 66, 2) := by decide +kernel
theorem dX12_goodOf_29 : decode cX12_goodOf 29 = .ok (.iload_n 2, 1) := by decide +kernel
theorem dX12_goodOf_30 : decode cX12_goodOf 30 = .ok (.iadd, 1) := by decide +kernel
theorem dX12_goodOf_31 : decode cX12_goodOf 31 = .ok (.iaload, 1) := by decide +kernel
theorem dX12_goodOf_32 : decode cX12_goodOf 32 = .ok (.iand, 1) := by decide +kernel
theorem dX12_goodOf_33 : decode cX12_goodOf 33 = .ok (.invokestatic 226, 3) := by decide +kernel
theorem dX12_goodOf_36 : decode cX12_goodOf 36 = .ok (.ireturn, 1) := by decide +kernel
theorem dX12_goodAll_0 : decode cX12_goodAll 0 = .ok (.iconst 0, 1) := by decide +kernel
theorem dX12_goodAll_1 : decode cX12_goodAll 1 = .ok (.istore_n 2, 1) := by decide +kernel
theorem dX12_goodAll_2 : decode cX12_goodAll 2 = .ok (.iconst 0, 1) := by decide +kernel
theorem dX12_goodAll_3 : decode cX12_goodAll 3 = .ok (.istore_n 3, 1) := by decide +kernel
theorem dX12_goodAll_4 : decode cX12_goodAll 4 = .ok (.iload_n 3, 1) := by decide +kernel
theorem dX12_goodAll_5 : decode cX12_goodAll 5 = .ok (.aload_n 0, 1) := by decide +kernel
theorem dX12_goodAll_6 : decode cX12_goodAll 6 = .ok (.getfield 98, 3) := by decide +kernel
theorem dX12_goodAll_9 : decode cX12_goodAll 9 = .ok (.iconst 1, 1) := by decide +kernel
theorem dX12_goodAll_10 : decode cX12_goodAll 10 = .ok (.iaload, 1) := by decide +kernel
theorem dX12_goodAll_11 : decode cX12_goodAll 11 = .ok (.if_icmp .ge 29, 3) := by decide +kernel
theorem dX12_goodAll_40 : decode cX12_goodAll 40 = .ok (.iload_n 2, 1) := by decide +kernel
theorem dX12_goodAll_41 : decode cX12_goodAll 41 = .ok (.ireturn, 1) := by decide +kernel
theorem dX12_goodAll_14 : decode cX12_goodAll 14 = .ok (.iload_n 1, 1) := by decide +kernel
theorem dX12_goodAll_15 : decode cX12_goodAll 15 = .ok (.ifCond .ne 11, 3) := by decide +kernel
theorem dX12_goodAll_26 : decode cX12_goodAll 26 = .ok (.iload_n 2, 1) := by decide +kernel
theorem dX12_goodAll_27 : decode cX12_goodAll 27 = .ok (.aload_n 0, 1) := by decide +kernel
theorem dX12_goodAll_28 : decode cX12_goodAll 28 = .ok (.iload_n 3, 1) := by decide +kernel
theorem dX12_goodAll_29 : decode cX12_goodAll 29 = .ok (.invokevirtual 238, 3) := by decide +kernel
theorem dX12_goodAll_32 : decode cX12_goodAll 32 = .ok (.iadd, 1) := by decide +kernel
theorem dX12_goodAll_33 : decode cX12_goodAll 33 = .ok (.istore_n 2, 1) := by decide +kernel
theorem dX12_goodAll_34 : decode cX12_goodAll 34 = .ok (.iinc 3 1, 3) := by decide +kernel
theorem dX12_goodAll_37 : decode cX12_goodAll 37 = .ok (.goto (-33), 3) := by decide +kernel
theorem dX12_goodAll_18 : decode cX12_goodAll 18 = .ok (.aload_n 0, 1) := by decide +kernel
theorem dX12_goodAll_19 : decode cX12_goodAll 19 = .ok (.iload_n 3, 1) := by decide +kernel
theorem dX12_goodAll_20 : decode cX12_goodAll 20 = .ok (.invokevirtual 235, 3) := by decide +kernel
theorem dX12_goodAll_23 : decode cX12_goodAll 23 = .ok (.ifCond .ne 11, 3) := by decide +kernel
theorem dX12_awaySet_0 : decode cX12_awaySet 0 = .ok (.iconst 0, 1) := by decide +kernel
theorem dX12_awaySet_1 : decode cX12_awaySet 1 = .ok (.istore_n 1, 1) := by decide +kernel
theorem dX12_awaySet_2 : decode cX12_awaySet 2 = .ok (.iconst 0, 1) := by decide +kernel
theorem dX12_awaySet_3 : decode cX12_awaySet 3 = .ok (.istore_n 2, 1) := by decide +kernel
theorem dX12_awaySet_4 : decode cX12_awaySet 4 = .ok (.iload_n 2, 1) := by decide +kernel
theorem dX12_awaySet_5 : decode cX12_awaySet 5 = .ok (.aload_n 0, 1) := by decide +kernel
theorem dX12_awaySet_6 : decode cX12_awaySet 6 = .ok (.getfield 98, 3) := by decide +kernel
theorem dX12_awaySet_9 : decode cX12_awaySet 9 = .ok (.iconst 1, 1) := by decide +kernel
theorem dX12_awaySet_10 : decode cX12_awaySet 10 = .ok (.iaload, 1) := by decide +kernel
theorem dX12_awaySet_11 : decode cX12_awaySet 11 = .ok (.if_icmp .ge 23, 3) := by decide +kernel
theorem dX12_awaySet_34 : decode cX12_awaySet 34 = .ok (.iload_n 1, 1) := by decide +kernel
theorem dX12_awaySet_35 : decode cX12_awaySet 35 = .ok (.ireturn, 1) := by decide +kernel
theorem dX12_awaySet_14 : decode cX12_awaySet 14 = .ok (.aload_n 0, 1) := by decide +kernel
theorem dX12_awaySet_15 : decode cX12_awaySet 15 = .ok (.iload_n 2, 1) := by decide +kernel
theorem dX12_awaySet_16 : decode cX12_awaySet 16 = .ok (.invokevirtual 235, 3) := by decide +kernel
theorem dX12_awaySet_19 : decode cX12_awaySet 19 = .ok (.ifCond .eq 9, 3) := by decide +kernel
theorem dX12_awaySet_22 : decode cX12_awaySet 22 = .ok (.iload_n 1, 1) := by decide +kernel
theorem dX12_awaySet_23 : decode cX12_awaySet 23 = .ok (.iconst 1, 1) := by decide +kernel
theorem dX12_awaySet_24 : decode cX12_awaySet 24 = .ok (.iload_n 2, 1) := by decide +kernel
theorem dX12_awaySet_25 : decode cX12_awaySet 25 = .ok (.ishl, 1) := by decide +kernel
theorem dX12_awaySet_26 : decode cX12_awaySet 26 = .ok (.ior, 1) := by decide +kernel
theorem dX12_awaySet_27 : decode cX12_awaySet 27 = .ok (.istore_n 1, 1) := by decide +kernel
theorem dX12_awaySet_28 : decode cX12_awaySet 28 = .ok (.iinc 2 1, 3) := by decide +kernel
theorem dX12_awaySet_31 : decode cX12_awaySet 31 = .ok (.goto (-27), 3) := by decide +kernel
theorem dX12_person_0 : decode cX12_person 0 = .ok (.aload_n 0, 1) := by decide +kernel
theorem dX12_person_1 : decode cX12_person 1 = .ok (.iconst 0, 1) := by decide +kernel
theorem dX12_person_2 : decode cX12_person 2 = .ok (.putfield 1, 3) := by decide +kernel
theorem dX12_person_5 : decode cX12_person 5 = .ok (.aload_n 0, 1) := by decide +kernel
theorem dX12_person_6 : decode cX12_person 6 = .ok (.iload_n 1, 1) := by decide +kernel
theorem dX12_person_7 : decode cX12_person 7 = .ok (.invokevirtual 241, 3) := by decide +kernel
theorem dX12_person_10 : decode cX12_person 10 = .ok (.ifCond .ne 8, 3) := by decide +kernel
theorem dX12_person_18 : decode cX12_person 18 = .ok (.iload_n 2, 1) := by decide +kernel
theorem dX12_person_19 : decode cX12_person 19 = .ok (.tableswitch 131 0 8 #[49, 59, 69, 79, 89, 99, 109, 119, 125], 49) := by decide +kernel
theorem dX12_person_68 : decode cX12_person 68 = .ok (.aload_n 0, 1) := by decide +kernel
theorem dX12_person_69 : decode cX12_person 69 = .ok (.getfield 98, 3) := by decide +kernel
theorem dX12_person_72 : decode cX12_person 72 = .ok (.bipush 71, 2) := by decide +kernel
theorem dX12_person_74 : decode cX12_person 74 = .ok (.iload_n 1, 1) := by decide +kernel
theorem dX12_person_75 : decode cX12_person 75 = .ok (.iadd, 1) := by decide +kernel
theorem dX12_person_76 : decode cX12_person 76 = .ok (.iaload, 1) := by decide +kernel
theorem dX12_person_77 : decode cX12_person 77 = .ok (.ireturn, 1) := by decide +kernel
theorem dX12_person_78 : decode cX12_person 78 = .ok (.aload_n 0, 1) := by decide +kernel
theorem dX12_person_79 : decode cX12_person 79 = .ok (.getfield 98, 3) := by decide +kernel
theorem dX12_person_82 : decode cX12_person 82 = .ok (.bipush 79, 2) := by decide +kernel
theorem dX12_person_84 : decode cX12_person 84 = .ok (.iload_n 1, 1) := by decide +kernel
theorem dX12_person_85 : decode cX12_person 85 = .ok (.iadd, 1) := by decide +kernel
theorem dX12_person_86 : decode cX12_person 86 = .ok (.iaload, 1) := by decide +kernel
theorem dX12_person_87 : decode cX12_person 87 = .ok (.ireturn, 1) := by decide +kernel
theorem dX12_person_88 : decode cX12_person 88 = .ok (.aload_n 0, 1) := by decide +kernel
theorem dX12_person_89 : decode cX12_person 89 = .ok (.getfield 98, 3) := by decide +kernel
theorem dX12_person_92 : decode cX12_person 92 = .ok (.bipush 87, 2) := by decide +kernel
theorem dX12_person_94 : decode cX12_person 94 = .ok (.iload_n 1, 1) := by decide +kernel
theorem dX12_person_95 : decode cX12_person 95 = .ok (.iadd, 1) := by decide +kernel
theorem dX12_person_96 : decode cX12_person 96 = .ok (.iaload, 1) := by decide +kernel
theorem dX12_person_97 : decode cX12_person 97 = .ok (.ireturn, 1) := by decide +kernel
theorem dX12_person_98 : decode cX12_person 98 = .ok (.aload_n 0, 1) := by decide +kernel
theorem dX12_person_99 : decode cX12_person 99 = .ok (.getfield 98, 3) := by decide +kernel
theorem dX12_person_102 : decode cX12_person 102 = .ok (.bipush 34, 2) := by decide +kernel
theorem dX12_person_104 : decode cX12_person 104 = .ok (.iload_n 1, 1) := by decide +kernel
theorem dX12_person_105 : decode cX12_person 105 = .ok (.iadd, 1) := by decide +kernel
theorem dX12_person_106 : decode cX12_person 106 = .ok (.iaload, 1) := by decide +kernel
theorem dX12_person_107 : decode cX12_person 107 = .ok (.ireturn, 1) := by decide +kernel
theorem dX12_person_108 : decode cX12_person 108 = .ok (.aload_n 0, 1) := by decide +kernel
theorem dX12_person_109 : decode cX12_person 109 = .ok (.getfield 98, 3) := by decide +kernel
theorem dX12_person_112 : decode cX12_person 112 = .ok (.bipush 95, 2) := by decide +kernel
theorem dX12_person_114 : decode cX12_person 114 = .ok (.iload_n 1, 1) := by decide +kernel
theorem dX12_person_115 : decode cX12_person 115 = .ok (.iadd, 1) := by decide +kernel
theorem dX12_person_116 : decode cX12_person 116 = .ok (.iaload, 1) := by decide +kernel
theorem dX12_person_117 : decode cX12_person 117 = .ok (.ireturn, 1) := by decide +kernel
theorem dX12_person_118 : decode cX12_person 118 = .ok (.aload_n 0, 1) := by decide +kernel
theorem dX12_person_119 : decode cX12_person 119 = .ok (.getfield 98, 3) := by decide +kernel
theorem dX12_person_122 : decode cX12_person 122 = .ok (.bipush 103, 2) := by decide +kernel
theorem dX12_person_124 : decode cX12_person 124 = .ok (.iload_n 1, 1) := by decide +kernel
theorem dX12_person_125 : decode cX12_person 125 = .ok (.iadd, 1) := by decide +kernel
theorem dX12_person_126 : decode cX12_person 126 = .ok (.iaload, 1) := by decide +kernel
theorem dX12_person_127 : decode cX12_person 127 = .ok (.ireturn, 1) := by decide +kernel
theorem dX12_person_128 : decode cX12_person 128 = .ok (.aload_n 0, 1) := by decide +kernel
theorem dX12_person_129 : decode cX12_person 129 = .ok (.getfield 98, 3) := by decide +kernel
theorem dX12_person_132 : decode cX12_person 132 = .ok (.bipush 111, 2) := by decide +kernel
theorem dX12_person_134 : decode cX12_person 134 = .ok (.iload_n 1, 1) := by decide +kernel
theorem dX12_person_135 : decode cX12_person 135 = .ok (.iadd, 1) := by decide +kernel
theorem dX12_person_136 : decode cX12_person 136 = .ok (.iaload, 1) := by decide +kernel
theorem dX12_person_137 : decode cX12_person 137 = .ok (.ireturn, 1) := by decide +kernel
theorem dX12_person_138 : decode cX12_person 138 = .ok (.aload_n 0, 1) := by decide +kernel
theorem dX12_person_139 : decode cX12_person 139 = .ok (.iload_n 1, 1) := by decide +kernel
theorem dX12_person_140 : decode cX12_person 140 = .ok (.invokevirtual 223, 3) := by decide +kernel
theorem dX12_person_143 : decode cX12_person 143 = .ok (.ireturn, 1) := by decide +kernel
theorem dX12_person_144 : decode cX12_person 144 = .ok (.aload_n 0, 1) := by decide +kernel
theorem dX12_person_145 : decode cX12_person 145 = .ok (.iload_n 1, 1) := by decide +kernel
theorem dX12_person_146 : decode cX12_person 146 = .ok (.invokevirtual 238, 3) := by decide +kernel
theorem dX12_person_149 : decode cX12_person 149 = .ok (.ireturn, 1) := by decide +kernel
theorem dX12_person_150 : decode cX12_person 150 = .ok (.aload_n 0, 1) := by decide +kernel
theorem dX12_person_151 : decode cX12_person 151 = .ok (.invokevirtual 244, 3) := by decide +kernel
theorem dX12_person_154 : decode cX12_person 154 = .ok (.ireturn, 1) := by decide +kernel
theorem dX12_person_13 : decode cX12_person 13 = .ok (.aload_n 0, 1) := by decide +kernel
theorem dX12_person_14 : decode cX12_person 14 = .ok (.invokevirtual 244, 3) := by decide +kernel
theorem dX12_person_17 : decode cX12_person 17 = .ok (.ireturn, 1) := by decide +kernel
theorem dX12_dog_0 : decode cX12_dog 0 = .ok (.aload_n 0, 1) := by decide +kernel
theorem dX12_dog_1 : decode cX12_dog 1 = .ok (.iconst 0, 1) := by decide +kernel
theorem dX12_dog_2 : decode cX12_dog 2 = .ok (.putfield 1, 3) := by decide +kernel
theorem dX12_dog_5 : decode cX12_dog 5 = .ok (.aload_n 0, 1) := by decide +kernel
theorem dX12_dog_6 : decode cX12_dog 6 = .ok (.iload_n 1, 1) := by decide +kernel
theorem dX12_dog_7 : decode cX12_dog 7 = .ok (.invokevirtual 247, 3) := by decide +kernel
theorem dX12_dog_10 : decode cX12_dog 10 = .ok (.ifCond .ne 8, 3) := by decide +kernel
theorem dX12_dog_18 : decode cX12_dog 18 = .ok (.iload_n 2, 1) := by decide +kernel
theorem dX12_dog_19 : decode cX12_dog 19 = .ok (.tableswitch 107 0 5 #[37, 47, 57, 67, 87, 97], 37) := by decide +kernel
theorem dX12_dog_56 : decode cX12_dog 56 = .ok (.aload_n 0, 1) := by decide +kernel
theorem dX12_dog_57 : decode cX12_dog 57 = .ok (.getfield 98, 3) := by decide +kernel
theorem dX12_dog_60 : decode cX12_dog 60 = .ok (.bipush 42, 2) := by decide +kernel
theorem dX12_dog_62 : decode cX12_dog 62 = .ok (.iload_n 1, 1) := by decide +kernel
theorem dX12_dog_63 : decode cX12_dog 63 = .ok (.iadd, 1) := by decide +kernel
theorem dX12_dog_64 : decode cX12_dog 64 = .ok (.iaload, 1) := by decide +kernel
theorem dX12_dog_65 : decode cX12_dog 65 = .ok (.ireturn, 1) := by decide +kernel
theorem dX12_dog_66 : decode cX12_dog 66 = .ok (.aload_n 0, 1) := by decide +kernel
theorem dX12_dog_67 : decode cX12_dog 67 = .ok (.getfield 98, 3) := by decide +kernel
theorem dX12_dog_70 : decode cX12_dog 70 = .ok (.bipush 48, 2) := by decide +kernel
theorem dX12_dog_72 : decode cX12_dog 72 = .ok (.iload_n 1, 1) := by decide +kernel
theorem dX12_dog_73 : decode cX12_dog 73 = .ok (.iadd, 1) := by decide +kernel
theorem dX12_dog_74 : decode cX12_dog 74 = .ok (.iaload, 1) := by decide +kernel
theorem dX12_dog_75 : decode cX12_dog 75 = .ok (.ireturn, 1) := by decide +kernel
theorem dX12_dog_76 : decode cX12_dog 76 = .ok (.aload_n 0, 1) := by decide +kernel
theorem dX12_dog_77 : decode cX12_dog 77 = .ok (.getfield 98, 3) := by decide +kernel
theorem dX12_dog_80 : decode cX12_dog 80 = .ok (.bipush 54, 2) := by decide +kernel
theorem dX12_dog_82 : decode cX12_dog 82 = .ok (.iload_n 1, 1) := by decide +kernel
theorem dX12_dog_83 : decode cX12_dog 83 = .ok (.iadd, 1) := by decide +kernel
theorem dX12_dog_84 : decode cX12_dog 84 = .ok (.iaload, 1) := by decide +kernel
theorem dX12_dog_85 : decode cX12_dog 85 = .ok (.ireturn, 1) := by decide +kernel
theorem dX12_dog_86 : decode cX12_dog 86 = .ok (.aload_n 0, 1) := by decide +kernel
theorem dX12_dog_87 : decode cX12_dog 87 = .ok (.getfield 98, 3) := by decide +kernel
theorem dX12_dog_90 : decode cX12_dog 90 = .ok (.bipush 64, 2) := by decide +kernel
theorem dX12_dog_92 : decode cX12_dog 92 = .ok (.iaload, 1) := by decide +kernel
theorem dX12_dog_93 : decode cX12_dog 93 = .ok (.iload_n 1, 1) := by decide +kernel
theorem dX12_dog_94 : decode cX12_dog 94 = .ok (.invokestatic 217, 3) := by decide +kernel
theorem dX12_dog_97 : decode cX12_dog 97 = .ok (.ifCond .eq 7, 3) := by decide +kernel
theorem dX12_dog_100 : decode cX12_dog 100 = .ok (.iconst 1, 1) := by decide +kernel
theorem dX12_dog_101 : decode cX12_dog 101 = .ok (.goto 4, 3) := by decide +kernel
theorem dX12_dog_105 : decode cX12_dog 105 = .ok (.ireturn, 1) := by decide +kernel
theorem dX12_dog_104 : decode cX12_dog 104 = .ok (.iconst 0, 1) := by decide +kernel
theorem dX12_dog_106 : decode cX12_dog 106 = .ok (.aload_n 0, 1) := by decide +kernel
theorem dX12_dog_107 : decode cX12_dog 107 = .ok (.getfield 98, 3) := by decide +kernel
theorem dX12_dog_110 : decode cX12_dog 110 = .ok (.bipush 119, 2) := by decide +kernel
theorem dX12_dog_112 : decode cX12_dog 112 = .ok (.iload_n 1, 1) := by decide +kernel
theorem dX12_dog_113 : decode cX12_dog 113 = .ok (.iadd, 1) := by decide +kernel
theorem dX12_dog_114 : decode cX12_dog 114 = .ok (.iaload, 1) := by decide +kernel
theorem dX12_dog_115 : decode cX12_dog 115 = .ok (.ireturn, 1) := by decide +kernel
theorem dX12_dog_116 : decode cX12_dog 116 = .ok (.aload_n 0, 1) := by decide +kernel
theorem dX12_dog_117 : decode cX12_dog 117 = .ok (.getfield 98, 3) := by decide +kernel
theorem dX12_dog_120 : decode cX12_dog 120 = .ok (.bipush 125, 2) := by decide +kernel
theorem dX12_dog_122 : decode cX12_dog 122 = .ok (.iload_n 1, 1) := by decide +kernel
theorem dX12_dog_123 : decode cX12_dog 123 = .ok (.iadd, 1) := by decide +kernel
theorem dX12_dog_124 : decode cX12_dog 124 = .ok (.iaload, 1) := by decide +kernel
theorem dX12_dog_125 : decode cX12_dog 125 = .ok (.ireturn, 1) := by decide +kernel
theorem dX12_dog_126 : decode cX12_dog 126 = .ok (.aload_n 0, 1) := by decide +kernel
theorem dX12_dog_127 : decode cX12_dog 127 = .ok (.invokevirtual 244, 3) := by decide +kernel
theorem dX12_dog_130 : decode cX12_dog 130 = .ok (.ireturn, 1) := by decide +kernel
theorem dX12_dog_13 : decode cX12_dog 13 = .ok (.aload_n 0, 1) := by decide +kernel
theorem dX12_dog_14 : decode cX12_dog 14 = .ok (.invokevirtual 244, 3) := by decide +kernel
theorem dX12_dog_17 : decode cX12_dog 17 = .ok (.ireturn, 1) := by decide +kernel
theorem dX12_place_0 : decode cX12_place 0 = .ok (.aload_n 0, 1) := by decide +kernel
theorem dX12_place_1 : decode cX12_place 1 = .ok (.iconst 0, 1) := by decide +kernel
theorem dX12_place_2 : decode cX12_place 2 = .ok (.putfield 1, 3) := by decide +kernel
theorem dX12_place_5 : decode cX12_place 5 = .ok (.aload_n 0, 1) := by decide +kernel
theorem dX12_place_6 : decode cX12_place 6 = .ok (.iload_n 1, 1) := by decide +kernel
theorem dX12_place_7 : decode cX12_place 7 = .ok (.invokevirtual 250, 3) := by decide +kernel
theorem dX12_place_10 : decode cX12_place 10 = .ok (.ifCond .ne 5, 3) := by decide +kernel
theorem dX12_place_15 : decode cX12_place 15 = .ok (.iconst 0, 1) := by decide +kernel
theorem dX12_place_16 : decode cX12_place 16 = .ok (.istore_n 3, 1) := by decide +kernel
theorem dX12_place_17 : decode cX12_place 17 = .ok (.iload_n 2, 1) := by decide +kernel
theorem dX12_place_18 : decode cX12_place 18 = .ok (.tableswitch 93 0 2 #[26, 36, 50], 26) := by decide +kernel
theorem dX12_place_44 : decode cX12_place 44 = .ok (.aload_n 0, 1) := by decide +kernel
theorem dX12_place_45 : decode cX12_place 45 = .ok (.getfield 98, 3) := by decide +kernel
theorem dX12_place_48 : decode cX12_place 48 = .ok (.bipush 66, 2) := by decide +kernel
theorem dX12_place_50 : decode cX12_place 50 = .ok (.iload_n 1, 1) := by decide +kernel
theorem dX12_place_51 : decode cX12_place 51 = .ok (.iadd, 1) := by decide +kernel
theorem dX12_place_52 : decode cX12_place 52 = .ok (.iaload, 1) := by decide +kernel
theorem dX12_place_53 : decode cX12_place 53 = .ok (.ireturn, 1) := by decide +kernel
theorem dX12_place_54 : decode cX12_place 54 = .ok (.aload_n 0, 1) := by decide +kernel
theorem dX12_place_55 : decode cX12_place 55 = .ok (.iload_n 1, 1) := by decide +kernel
theorem dX12_place_56 : decode cX12_place 56 = .ok (.invokevirtual 229, 3) := by decide +kernel
theorem dX12_place_59 : decode cX12_place 59 = .ok (.ifCond .eq 7, 3) := by decide +kernel
theorem dX12_place_62 : decode cX12_place 62 = .ok (.iconst 1, 1) := by decide +kernel
theorem dX12_place_63 : decode cX12_place 63 = .ok (.goto 4, 3) := by decide +kernel
theorem dX12_place_67 : decode cX12_place 67 = .ok (.ireturn, 1) := by decide +kernel
theorem dX12_place_66 : decode cX12_place 66 = .ok (.iconst 0, 1) := by decide +kernel
theorem dX12_place_68 : decode cX12_place 68 = .ok (.iconst 0, 1) := by decide +kernel
theorem dX12_place_69 : decode cX12_place 69 = .ok (.istore 4, 2) := by decide +kernel
theorem dX12_place_71 : decode cX12_place 71 = .ok (.iload 4, 2) := by decide +kernel
theorem dX12_place_73 : decode cX12_place 73 = .ok (.aload_n 0, 1) := by decide +kernel
theorem dX12_place_74 : decode cX12_place 74 = .ok (.getfield 98, 3) := by decide +kernel
theorem dX12_place_77 : decode cX12_place 77 = .ok (.iconst 1, 1) := by decide +kernel
theorem dX12_place_78 : decode cX12_place 78 = .ok (.iaload, 1) := by decide +kernel
theorem dX12_place_79 : decode cX12_place 79 = .ok (.if_icmp .ge 30, 3) := by decide +kernel
theorem dX12_place_109 : decode cX12_place 109 = .ok (.iload_n 3, 1) := by decide +kernel
theorem dX12_place_110 : decode cX12_place 110 = .ok (.ireturn, 1) := by decide +kernel
theorem dX12_place_82 : decode cX12_place 82 = .ok (.aload_n 0, 1) := by decide +kernel
theorem dX12_place_83 : decode cX12_place 83 = .ok (.getfield 98, 3) := by decide +kernel
theorem dX12_place_86 : decode cX12_place 86 = .ok (.bipush 71, 2) := by decide +kernel
theorem dX12_place_88 : decode cX12_place 88 = .ok (.iload 4, 2) := by decide +kernel
theorem dX12_place_90 : decode cX12_place 90 = .ok (.iadd, 1) := by decide +kernel
theorem dX12_place_91 : decode cX12_place 91 = .ok (.iaload, 1) := by decide +kernel
theorem dX12_place_92 : decode cX12_place 92 = .ok (.iload_n 1, 1) := by decide +kernel
theorem dX12_place_93 : decode cX12_place 93 = .ok (.if_icmp .ne 10, 3) := by decide +kernel
theorem dX12_place_103 : decode cX12_place 103 = .ok (.iinc 4 1, 3) := by decide +kernel
theorem dX12_place_106 : decode cX12_place 106 = .ok (.goto (-35), 3) := by decide +kernel
theorem dX12_place_96 : decode cX12_place 96 = .ok (.iload_n 3, 1) := by decide +kernel
theorem dX12_place_97 : decode cX12_place 97 = .ok (.iconst 1, 1) := by decide +kernel
theorem dX12_place_98 : decode cX12_place 98 = .ok (.iload 4, 2) := by decide +kernel
theorem dX12_place_100 : decode cX12_place 100 = .ok (.ishl, 1) := by decide +kernel
theorem dX12_place_101 : decode cX12_place 101 = .ok (.ior, 1) := by decide +kernel
theorem dX12_place_102 : decode cX12_place 102 = .ok (.istore_n 3, 1) := by decide +kernel
theorem dX12_place_111 : decode cX12_place 111 = .ok (.iconst (-1), 1) := by decide +kernel
theorem dX12_place_112 : decode cX12_place 112 = .ok (.ireturn, 1) := by decide +kernel
theorem dX12_place_13 : decode cX12_place 13 = .ok (.iconst (-1), 1) := by decide +kernel
theorem dX12_place_14 : decode cX12_place 14 = .ok (.ireturn, 1) := by decide +kernel
theorem dX12_now_0 : decode cX12_now 0 = .ok (.aload_n 0, 1) := by decide +kernel
theorem dX12_now_1 : decode cX12_now 1 = .ok (.iconst 0, 1) := by decide +kernel
theorem dX12_now_2 : decode cX12_now 2 = .ok (.putfield 1, 3) := by decide +kernel
theorem dX12_now_5 : decode cX12_now 5 = .ok (.iconst 0, 1) := by decide +kernel
theorem dX12_now_6 : decode cX12_now 6 = .ok (.istore_n 2, 1) := by decide +kernel
theorem dX12_now_7 : decode cX12_now 7 = .ok (.iload_n 1, 1) := by decide +kernel
theorem dX12_now_8 : decode cX12_now 8 = .ok (.tableswitch 125 0 7 #[48, 56, 61, 69, 77, 105, 111, 117], 48) := by decide +kernel
theorem dX12_now_56 : decode cX12_now 56 = .ok (.aload_n 0, 1) := by decide +kernel
theorem dX12_now_57 : decode cX12_now 57 = .ok (.getfield 98, 3) := by decide +kernel
theorem dX12_now_60 : decode cX12_now 60 = .ok (.bipush 61, 2) := by decide +kernel
theorem dX12_now_62 : decode cX12_now 62 = .ok (.iaload, 1) := by decide +kernel
theorem dX12_now_63 : decode cX12_now 63 = .ok (.ireturn, 1) := by decide +kernel
theorem dX12_now_64 : decode cX12_now 64 = .ok (.aload_n 0, 1) := by decide +kernel
theorem dX12_now_65 : decode cX12_now 65 = .ok (.invokevirtual 253, 3) := by decide +kernel
theorem dX12_now_68 : decode cX12_now 68 = .ok (.ireturn, 1) := by decide +kernel
theorem dX12_now_69 : decode cX12_now 69 = .ok (.aload_n 0, 1) := by decide +kernel
theorem dX12_now_70 : decode cX12_now 70 = .ok (.getfield 98, 3) := by decide +kernel
theorem dX12_now_73 : decode cX12_now 73 = .ok (.bipush 62, 2) := by decide +kernel
theorem dX12_now_75 : decode cX12_now 75 = .ok (.iaload, 1) := by decide +kernel
theorem dX12_now_76 : decode cX12_now 76 = .ok (.ireturn, 1) := by decide +kernel
theorem dX12_now_77 : decode cX12_now 77 = .ok (.aload_n 0, 1) := by decide +kernel
theorem dX12_now_78 : decode cX12_now 78 = .ok (.getfield 98, 3) := by decide +kernel
theorem dX12_now_81 : decode cX12_now 81 = .ok (.bipush 63, 2) := by decide +kernel
theorem dX12_now_83 : decode cX12_now 83 = .ok (.iaload, 1) := by decide +kernel
theorem dX12_now_84 : decode cX12_now 84 = .ok (.ireturn, 1) := by decide +kernel
theorem dX12_now_85 : decode cX12_now 85 = .ok (.iconst 0, 1) := by decide +kernel
theorem dX12_now_86 : decode cX12_now 86 = .ok (.istore_n 3, 1) := by decide +kernel
theorem dX12_now_87 : decode cX12_now 87 = .ok (.iload_n 3, 1) := by decide +kernel
theorem dX12_now_88 : decode cX12_now 88 = .ok (.bipush 8, 2) := by decide +kernel
theorem dX12_now_90 : decode cX12_now 90 = .ok (.if_icmp .ge 21, 3) := by decide +kernel
theorem dX12_now_111 : decode cX12_now 111 = .ok (.iload_n 2, 1) := by decide +kernel
theorem dX12_now_112 : decode cX12_now 112 = .ok (.ireturn, 1) := by decide +kernel
theorem dX12_now_93 : decode cX12_now 93 = .ok (.iload_n 2, 1) := by decide +kernel
theorem dX12_now_94 : decode cX12_now 94 = .ok (.aload_n 0, 1) := by decide +kernel
theorem dX12_now_95 : decode cX12_now 95 = .ok (.getfield 98, 3) := by decide +kernel
theorem dX12_now_98 : decode cX12_now 98 = .ok (.bipush 111, 2) := by decide +kernel
theorem dX12_now_100 : decode cX12_now 100 = .ok (.iload_n 3, 1) := by decide +kernel
theorem dX12_now_101 : decode cX12_now 101 = .ok (.iadd, 1) := by decide +kernel
theorem dX12_now_102 : decode cX12_now 102 = .ok (.iaload, 1) := by decide +kernel
theorem dX12_now_103 : decode cX12_now 103 = .ok (.iadd, 1) := by decide +kernel
theorem dX12_now_104 : decode cX12_now 104 = .ok (.istore_n 2, 1) := by decide +kernel
theorem dX12_now_105 : decode cX12_now 105 = .ok (.iinc 3 1, 3) := by decide +kernel
theorem dX12_now_108 : decode cX12_now 108 = .ok (.goto (-21), 3) := by decide +kernel
theorem dX12_now_113 : decode cX12_now 113 = .ok (.aload_n 0, 1) := by decide +kernel
theorem dX12_now_114 : decode cX12_now 114 = .ok (.iconst 1, 1) := by decide +kernel
theorem dX12_now_115 : decode cX12_now 115 = .ok (.invokevirtual 256, 3) := by decide +kernel
theorem dX12_now_118 : decode cX12_now 118 = .ok (.ireturn, 1) := by decide +kernel
theorem dX12_now_119 : decode cX12_now 119 = .ok (.aload_n 0, 1) := by decide +kernel
theorem dX12_now_120 : decode cX12_now 120 = .ok (.iconst 0, 1) := by decide +kernel
theorem dX12_now_121 : decode cX12_now 121 = .ok (.invokevirtual 256, 3) := by decide +kernel
theorem dX12_now_124 : decode cX12_now 124 = .ok (.ireturn, 1) := by decide +kernel
theorem dX12_now_125 : decode cX12_now 125 = .ok (.aload_n 0, 1) := by decide +kernel
theorem dX12_now_126 : decode cX12_now 126 = .ok (.getfield 98, 3) := by decide +kernel
theorem dX12_now_129 : decode cX12_now 129 = .ok (.bipush 64, 2) := by decide +kernel
theorem dX12_now_131 : decode cX12_now 131 = .ok (.iaload, 1) := by decide +kernel
theorem dX12_now_132 : decode cX12_now 132 = .ok (.ireturn, 1) := by decide +kernel
theorem dX12_now_133 : decode cX12_now 133 = .ok (.iconst (-1), 1) := by decide +kernel
theorem dX12_now_134 : decode cX12_now 134 = .ok (.ireturn, 1) := by decide +kernel
theorem dX12_fault_0 : decode cX12_fault 0 = .ok (.aload_n 0, 1) := by decide +kernel
theorem dX12_fault_1 : decode cX12_fault 1 = .ok (.iconst 0, 1) := by decide +kernel
theorem dX12_fault_2 : decode cX12_fault 2 = .ok (.putfield 1, 3) := by decide +kernel
theorem dX12_fault_5 : decode cX12_fault 5 = .ok (.aload_n 0, 1) := by decide +kernel
theorem dX12_fault_6 : decode cX12_fault 6 = .ok (.getfield 66, 3) := by decide +kernel
theorem dX12_fault_9 : decode cX12_fault 9 = .ok (.ireturn, 1) := by decide +kernel
theorem dX12_there_0 : decode cX12_there 0 = .ok (.aload_n 0, 1) := by decide +kernel
theorem dX12_there_1 : decode cX12_there 1 = .ok (.iconst 0, 1) := by decide +kernel
theorem dX12_there_2 : decode cX12_there 2 = .ok (.putfield 1, 3) := by decide +kernel
