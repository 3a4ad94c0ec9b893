theorem dX11_person_0 : decode cX11_person 0 = .ok (.aload_n 0, 1) := by decide +kernel
theorem dX11_person_1 : decode cX11_person 1 = .ok (.getfield 19, 3) := by decide +kernel
theorem dX11_person_4 : decode cX11_person 4 = .ok (.iload_n 1, 1) := by decide +kernel
theorem dX11_person_5 : decode cX11_person 5 = .ok (.invokevirtual 133, 3) := by decide +kernel
theorem dX11_person_8 : decode cX11_person 8 = .ok (.ifCond .ne 11, 3) := by decide +kernel
theorem dX11_person_19 : decode cX11_person 19 = .ok (.aload_n 0, 1) := by decide +kernel
theorem dX11_person_20 : decode cX11_person 20 = .ok (.getfield 19, 3) := by decide +kernel
theorem dX11_person_23 : decode cX11_person 23 = .ok (.getfield 140, 3) := by decide +kernel
theorem dX11_person_26 : decode cX11_person 26 = .ok (.iload_n 1, 1) := by decide +kernel
theorem dX11_person_27 : decode cX11_person 27 = .ok (.aaload, 1) := by decide +kernel
theorem dX11_person_28 : decode cX11_person 28 = .ok (.astore_n 3, 1) := by decide +kernel
theorem dX11_person_29 : decode cX11_person 29 = .ok (.iload_n 2, 1) := by decide +kernel
theorem dX11_person_30 : decode cX11_person 30 = .ok (.tableswitch 103 0 8 #[50, 55, 60, 65, 70, 75, 80, 85, 90], 50) := by decide +kernel
theorem dX11_person_80 : decode cX11_person 80 = .ok (.aload_n 3, 1) := by decide +kernel
theorem dX11_person_81 : decode cX11_person 81 = .ok (.getfield 144, 3) := by decide +kernel
theorem dX11_person_84 : decode cX11_person 84 = .ok (.ireturn, 1) := by decide +kernel
theorem dX11_person_85 : decode cX11_person 85 = .ok (.aload_n 3, 1) := by decide +kernel
theorem dX11_person_86 : decode cX11_person 86 = .ok (.getfield 149, 3) := by decide +kernel
theorem dX11_person_89 : decode cX11_person 89 = .ok (.ireturn, 1) := by decide +kernel
theorem dX11_person_90 : decode cX11_person 90 = .ok (.aload_n 3, 1) := by decide +kernel
theorem dX11_person_91 : decode cX11_person 91 = .ok (.getfield 152, 3) := by decide +kernel
theorem dX11_person_94 : decode cX11_person 94 = .ok (.ireturn, 1) := by decide +kernel
theorem dX11_person_95 : decode cX11_person 95 = .ok (.aload_n 3, 1) := by decide +kernel
theorem dX11_person_96 : decode cX11_person 96 = .ok (.getfield 155, 3) := by decide +kernel
theorem dX11_person_99 : decode cX11_person 99 = .ok (.ireturn, 1) := by decide +kernel
theorem dX11_person_100 : decode cX11_person 100 = .ok (.aload_n 3, 1) := by decide +kernel
theorem dX11_person_101 : decode cX11_person 101 = .ok (.getfield 158, 3) := by decide +kernel
theorem dX11_person_104 : decode cX11_person 104 = .ok (.ireturn, 1) := by decide +kernel
theorem dX11_person_105 : decode cX11_person 105 = .ok (.aload_n 3, 1) := by decide +kernel
theorem dX11_person_106 : decode cX11_person 106 = .ok (.getfield 161, 3) := by decide +kernel
theorem dX11_person_109 : decode cX11_person 109 = .ok (.ireturn, 1) := by decide +kernel
theorem dX11_person_110 : decode cX11_person 110 = .ok (.aload_n 3, 1) := by decide +kernel
theorem dX11_person_111 : decode cX11_person 111 = .ok (.getfield 164, 3) := by decide +kernel
theorem dX11_person_114 : decode cX11_person 114 = .ok (.ireturn, 1) := by decide +kernel
theorem dX11_person_115 : decode cX11_person 115 = .ok (.aload_n 3, 1) := by decide +kernel
theorem dX11_person_116 : decode cX11_person 116 = .ok (.getfield 167, 3) := by decide +kernel
theorem dX11_person_119 : decode cX11_person 119 = .ok (.ireturn, 1) := by decide +kernel
theorem dX11_person_120 : decode cX11_person 120 = .ok (.aload_n 0, 1) := by decide +kernel
theorem dX11_person_121 : decode cX11_person 121 = .ok (.getfield 19, 3) := by decide +kernel
theorem dX11_person_124 : decode cX11_person 124 = .ok (.iload_n 1, 1) := by decide +kernel
theorem dX11_person_125 : decode cX11_person 125 = .ok (.aload_n 3, 1) := by decide +kernel
theorem dX11_person_126 : decode cX11_person 126 = .ok (.getfield 144, 3) := by decide +kernel
theorem dX11_person_129 : decode cX11_person 129 = .ok (.invokevirtual 170, 3) := by decide +kernel
theorem dX11_person_132 : decode cX11_person 132 = .ok (.ireturn, 1) := by decide +kernel
theorem dX11_person_133 : decode cX11_person 133 = .ok (.new 137, 3) := by decide +kernel
theorem dX11_person_136 : decode cX11_person 136 = .ok (.dup, 1) := by decide +kernel
theorem dX11_person_137 : decode cX11_person 137 = .ok (.invokespecial 139, 3) := by decide +kernel
theorem dX11_person_140 : decode cX11_person 140 = .ok (.athrow, 1) := by decide +kernel
theorem dX11_person_11 : decode cX11_person 11 = .ok (.new 137, 3) := by decide +kernel
theorem dX11_person_14 : decode cX11_person 14 = .ok (.dup, 1) := by decide +kernel
theorem dX11_person_15 : decode cX11_person 15 = .ok (.invokespecial 139, 3) := by decide +kernel
theorem dX11_person_18 : decode cX11_person 18 = .ok (.athrow, 1) := by decide +kernel
theorem dL_person_0 : decode cL_person 0 = .ok (.aload_n 3, 1) := by decide +kernel
theorem dL_person_1 : decode cL_person 1 = .ok (.iconst 0, 1) := by decide +kernel
theorem dL_person_2 : decode cL_person 2 = .ok (.aload_n 0, 1) := by decide +kernel
theorem dL_person_3 : decode cL_person 3 = .ok (.iload_n 1, 1) := by decide +kernel
theorem dL_person_4 : decode cL_person 4 = .ok (.iload_n 2, 1) := by decide +kernel
theorem dL_person_5 : decode cL_person 5 = .ok (.invokevirtual 7, 3) := by decide +kernel
theorem dL_person_13 : decode cL_person 13 = .ok (.astore 4, 2) := by decide +kernel
theorem dL_person_15 : decode cL_person 15 = .ok (.iconst 1, 1) := by decide +kernel
theorem dL_person_16 : decode cL_person 16 = .ok (.ireturn, 1) := by decide +kernel
theorem dL_person_8 : decode cL_person 8 = .ok (.i2l, 1) := by decide +kernel
theorem dL_person_9 : decode cL_person 9 = .ok (.lastore, 1) := by decide +kernel
theorem dL_person_10 : decode cL_person 10 = .ok (.goto 7, 3) := by decide +kernel
theorem dL_person_17 : decode cL_person 17 = .ok (.iconst 0, 1) := by decide +kernel
theorem dL_person_18 : decode cL_person 18 = .ok (.ireturn, 1) := by decide +kernel
theorem dX11_dog_0 : decode cX11_dog 0 = .ok (.aload_n 0, 1) := by decide +kernel
theorem dX11_dog_1 : decode cX11_dog 1 = .ok (.getfield 19, 3) := by decide +kernel
theorem dX11_dog_4 : decode cX11_dog 4 = .ok (.iload_n 1, 1) := by decide +kernel
theorem dX11_dog_5 : decode cX11_dog 5 = .ok (.invokevirtual 174, 3) := by decide +kernel
theorem dX11_dog_8 : decode cX11_dog 8 = .ok (.ifCond .ne 11, 3) := by decide +kernel
theorem dX11_dog_19 : decode cX11_dog 19 = .ok (.aload_n 0, 1) := by decide +kernel
theorem dX11_dog_20 : decode cX11_dog 20 = .ok (.getfield 19, 3) := by decide +kernel
theorem dX11_dog_23 : decode cX11_dog 23 = .ok (.getfield 177, 3) := by decide +kernel
theorem dX11_dog_26 : decode cX11_dog 26 = .ok (.iload_n 1, 1) := by decide +kernel
theorem dX11_dog_27 : decode cX11_dog 27 = .ok (.aaload, 1) := by decide +kernel
theorem dX11_dog_28 : decode cX11_dog 28 = .ok (.astore_n 3, 1) := by decide +kernel
theorem dX11_dog_29 : decode cX11_dog 29 = .ok (.iload_n 2, 1) := by decide +kernel
theorem dX11_dog_30 : decode cX11_dog 30 = .ok (.tableswitch 76 0 5 #[38, 43, 48, 53, 66, 71], 38) := by decide +kernel
theorem dX11_dog_68 : decode cX11_dog 68 = .ok (.aload_n 3, 1) := by decide +kernel
theorem dX11_dog_69 : decode cX11_dog 69 = .ok (.getfield 180, 3) := by decide +kernel
theorem dX11_dog_72 : decode cX11_dog 72 = .ok (.ireturn, 1) := by decide +kernel
theorem dX11_dog_73 : decode cX11_dog 73 = .ok (.aload_n 3, 1) := by decide +kernel
theorem dX11_dog_74 : decode cX11_dog 74 = .ok (.getfield 185, 3) := by decide +kernel
theorem dX11_dog_77 : decode cX11_dog 77 = .ok (.ireturn, 1) := by decide +kernel
theorem dX11_dog_78 : decode cX11_dog 78 = .ok (.aload_n 3, 1) := by decide +kernel
theorem dX11_dog_79 : decode cX11_dog 79 = .ok (.getfield 188, 3) := by decide +kernel
theorem dX11_dog_82 : decode cX11_dog 82 = .ok (.ireturn, 1) := by decide +kernel
theorem dX11_dog_83 : decode cX11_dog 83 = .ok (.aload_n 3, 1) := by decide +kernel
theorem dX11_dog_84 : decode cX11_dog 84 = .ok (.getfield 189, 3) := by decide +kernel
theorem dX11_dog_87 : decode cX11_dog 87 = .ok (.ifCond .eq 7, 3) := by decide +kernel
theorem dX11_dog_94 : decode cX11_dog 94 = .ok (.iconst 0, 1) := by decide +kernel
theorem dX11_dog_95 : decode cX11_dog 95 = .ok (.ireturn, 1) := by decide +kernel
theorem dX11_dog_90 : decode cX11_dog 90 = .ok (.iconst 1, 1) := by decide +kernel
theorem dX11_dog_91 : decode cX11_dog 91 = .ok (.goto 4, 3) := by decide +kernel
theorem dX11_dog_96 : decode cX11_dog 96 = .ok (.aload_n 3, 1) := by decide +kernel
theorem dX11_dog_97 : decode cX11_dog 97 = .ok (.getfield 193, 3) := by decide +kernel
theorem dX11_dog_100 : decode cX11_dog 100 = .ok (.ireturn, 1) := by decide +kernel
theorem dX11_dog_101 : decode cX11_dog 101 = .ok (.aload_n 3, 1) := by decide +kernel
theorem dX11_dog_102 : decode cX11_dog 102 = .ok (.getfield 196, 3) := by decide +kernel
theorem dX11_dog_105 : decode cX11_dog 105 = .ok (.ireturn, 1) := by decide +kernel
theorem dX11_dog_106 : decode cX11_dog 106 = .ok (.new 137, 3) := by decide +kernel
theorem dX11_dog_109 : decode cX11_dog 109 = .ok (.dup, 1) := by decide +kernel
theorem dX11_dog_110 : decode cX11_dog 110 = .ok (.invokespecial 139, 3) := by decide +kernel
theorem dX11_dog_113 : decode cX11_dog 113 = .ok (.athrow, 1) := by decide +kernel
theorem dX11_dog_11 : decode cX11_dog 11 = .ok (.new 137, 3) := by decide +kernel
theorem dX11_dog_14 : decode cX11_dog 14 = .ok (.dup, 1) := by decide +kernel
theorem dX11_dog_15 : decode cX11_dog 15 = .ok (.invokespecial 139, 3) := by decide +kernel
theorem dX11_dog_18 : decode cX11_dog 18 = .ok (.athrow, 1) := by decide +kernel
theorem dL_dog_0 : decode cL_dog 0 = .ok (.aload_n 3, 1) := by decide +kernel
theorem dL_dog_1 : decode cL_dog 1 = .ok (.iconst 0, 1) := by decide +kernel
theorem dL_dog_2 : decode cL_dog 2 = .ok (.aload_n 0, 1) := by decide +kernel
theorem dL_dog_3 : decode cL_dog 3 = .ok (.iload_n 1, 1) := by decide +kernel
theorem dL_dog_4 : decode cL_dog 4 = .ok (.iload_n 2, 1) := by decide +kernel
theorem dL_dog_5 : decode cL_dog 5 = .ok (.invokevirtual 15, 3) := by decide +kernel
theorem dL_dog_13 : decode cL_dog 13 = .ok (.astore 4, 2) := by decide +kernel
theorem dL_dog_15 : decode cL_dog 15 = .ok (.iconst 1, 1) := by decide +kernel
theorem dL_dog_16 : decode cL_dog 16 = .ok (.ireturn, 1) := by decide +kernel
theorem dL_dog_8 : decode cL_dog 8 = .ok (.i2l, 1) := by decide +kernel
theorem dL_dog_9 : decode cL_dog 9 = .ok (.lastore, 1) := by decide +kernel
theorem dL_dog_10 : decode cL_dog 10 = .ok (.goto 7, 3) := by decide +kernel
theorem dL_dog_17 : decode cL_dog 17 = .ok (.iconst 0, 1) := by decide +kernel
theorem dL_dog_18 : decode cL_dog 18 = .ok (.ireturn, 1) := by decide +kernel
theorem dX11_risk_0 : decode cX11_risk 0 = .ok (.aload_n 0, 1) := by decide +kernel
theorem dX11_risk_1 : decode cX11_risk 1 = .ok (.getfield 19, 3) := by decide +kernel
theorem dX11_risk_4 : decode cX11_risk 4 = .ok (.iload_n 1, 1) := by decide +kernel
theorem dX11_risk_5 : decode cX11_risk 5 = .ok (.invokevirtual 133, 3) := by decide +kernel
theorem dX11_risk_8 : decode cX11_risk 8 = .ok (.ifCond .eq 27, 3) := by decide +kernel
theorem dX11_risk_11 : decode cX11_risk 11 = .ok (.aload_n 0, 1) := by decide +kernel
theorem dX11_risk_12 : decode cX11_risk 12 = .ok (.getfield 19, 3) := by decide +kernel
theorem dX11_risk_15 : decode cX11_risk 15 = .ok (.getfield 140, 3) := by decide +kernel
theorem dX11_risk_18 : decode cX11_risk 18 = .ok (.iload_n 1, 1) := by decide +kernel
theorem dX11_risk_19 : decode cX11_risk 19 = .ok (.aaload, 1) := by decide +kernel
theorem dX11_risk_20 : decode cX11_risk 20 = .ok (.getfield 167, 3) := by decide +kernel
theorem dX11_risk_23 : decode cX11_risk 23 = .ok (.ifCond .ne 12, 3) := by decide +kernel
theorem dX11_risk_35 : decode cX11_risk 35 = .ok (.new 137, 3) := by decide +kernel
theorem dX11_risk_38 : decode cX11_risk 38 = .ok (.dup, 1) := by decide +kernel
theorem dX11_risk_39 : decode cX11_risk 39 = .ok (.invokespecial 139, 3) := by decide +kernel
theorem dX11_risk_42 : decode cX11_risk 42 = .ok (.athrow, 1) := by decide +kernel
theorem dX11_risk_26 : decode cX11_risk 26 = .ok (.iload_n 2, 1) := by decide +kernel
theorem dX11_risk_27 : decode cX11_risk 27 = .ok (.ifCond .lt 8, 3) := by decide +kernel
theorem dX11_risk_30 : decode cX11_risk 30 = .ok (.iload_n 2, 1) := by decide +kernel
theorem dX11_risk_31 : decode cX11_risk 31 = .ok (.iconst 1, 1) := by decide +kernel
theorem dX11_risk_32 : decode cX11_risk 32 = .ok (.if_icmp .le 11, 3) := by decide +kernel
theorem dX11_risk_43 : decode cX11_risk 43 = .ok (.aload_n 0, 1) := by decide +kernel
theorem dX11_risk_44 : decode cX11_risk 44 = .ok (.getfield 19, 3) := by decide +kernel
theorem dX11_risk_47 : decode cX11_risk 47 = .ok (.iload_n 1, 1) := by decide +kernel
theorem dX11_risk_48 : decode cX11_risk 48 = .ok (.invokestatic 295, 3) := by decide +kernel
theorem dX11_risk_51 : decode cX11_risk 51 = .ok (.bipush 8, 2) := by decide +kernel
theorem dX11_risk_53 : decode cX11_risk 53 = .ok (.if_icmp .le 11, 3) := by decide +kernel
theorem dX11_risk_64 : decode cX11_risk 64 = .ok (.aload_n 0, 1) := by decide +kernel
theorem dX11_risk_65 : decode cX11_risk 65 = .ok (.getfield 19, 3) := by decide +kernel
theorem dX11_risk_68 : decode cX11_risk 68 = .ok (.iload_n 1, 1) := by decide +kernel
theorem dX11_risk_69 : decode cX11_risk 69 = .ok (.invokestatic 299, 3) := by decide +kernel
theorem dX11_risk_72 : decode cX11_risk 72 = .ok (.lstore_n 3, 1) := by decide +kernel
theorem dX11_risk_73 : decode cX11_risk 73 = .ok (.lload_n 3, 1) := by decide +kernel
theorem dX11_risk_74 : decode cX11_risk 74 = .ok (.aload_n 0, 1) := by decide +kernel
theorem dX11_risk_75 : decode cX11_risk 75 = .ok (.getfield 19, 3) := by decide +kernel
theorem dX11_risk_78 : decode cX11_risk 78 = .ok (.iload_n 1, 1) := by decide +kernel
theorem dX11_risk_79 : decode cX11_risk 79 = .ok (.invokestatic 303, 3) := by decide +kernel
theorem dX11_risk_82 : decode cX11_risk 82 = .ok (.lsub, 1) := by decide +kernel
theorem dX11_risk_83 : decode cX11_risk 83 = .ok (.lstore 5, 2) := by decide +kernel
theorem dX11_risk_85 : decode cX11_risk 85 = .ok (.lload_n 3, 1) := by decide +kernel
theorem dX11_risk_86 : decode cX11_risk 86 = .ok (.lload 5, 2) := by decide +kernel
theorem dX11_risk_88 : decode cX11_risk 88 = .ok (.invokestatic 306, 3) := by decide +kernel
theorem dX11_risk_91 : decode cX11_risk 91 = .ok (.lstore 7, 2) := by decide +kernel
theorem dX11_risk_93 : decode cX11_risk 93 = .ok (.iload_n 2, 1) := by decide +kernel
theorem dX11_risk_94 : decode cX11_risk 94 = .ok (.ifCond .ne 8, 3) := by decide +kernel
theorem dX11_risk_102 : decode cX11_risk 102 = .ok (.lload_n 3, 1) := by decide +kernel
theorem dX11_risk_103 : decode cX11_risk 103 = .ok (.lload 7, 2) := by decide +kernel
theorem dX11_risk_105 : decode cX11_risk 105 = .ok (.lconst 0, 1) := by decide +kernel
theorem dX11_risk_106 : decode cX11_risk 106 = .ok (.lcmp, 1) := by decide +kernel
theorem dX11_risk_107 : decode cX11_risk 107 = .ok (.ifCond .le 8, 3) := by decide +kernel
theorem dX11_risk_115 : decode cX11_risk 115 = .ok (.lconst 1, 1) := by decide +kernel
theorem dX11_risk_116 : decode cX11_risk 116 = .ok (.ldiv, 1) := by decide +kernel
theorem dX11_risk_117 : decode cX11_risk 117 = .ok (.lreturn, 1) := by decide +kernel
theorem dX11_risk_110 : decode cX11_risk 110 = .ok (.lload 7, 2) := by decide +kernel
theorem dX11_risk_112 : decode cX11_risk 112 = .ok (.goto 4, 3) := by decide +kernel
theorem dX11_risk_97 : decode cX11_risk 97 = .ok (.lload 5, 2) := by decide +kernel
theorem dX11_risk_99 : decode cX11_risk 99 = .ok (.goto 4, 3) := by decide +kernel
theorem dX11_risk_56 : decode cX11_risk 56 = .ok (.new 137, 3) := by decide +kernel
theorem dX11_risk_59 : decode cX11_risk 59 = .ok (.dup, 1) := by decide +kernel
theorem dX11_risk_60 : decode cX11_risk 60 = .ok (.invokespecial 139, 3) := by decide +kernel
theorem dX11_risk_63 : decode cX11_risk 63 = .ok (.athrow, 1) := by decide +kernel
theorem dL_risk_0 : decode cL_risk 0 = .ok (.aload_n 3, 1) := by decide +kernel
theorem dL_risk_1 : decode cL_risk 1 = .ok (.iconst 0, 1) := by decide +kernel
theorem dL_risk_2 : decode cL_risk 2 = .ok (.aload_n 0, 1) := by decide +kernel
theorem dL_risk_3 : decode cL_risk 3 = .ok (.iload_n 1, 1) := by decide +kernel
theorem dL_risk_4 : decode cL_risk 4 = .ok (.iload_n 2, 1) := by decide +kernel
theorem dL_risk_5 : decode cL_risk 5 = .ok (.invokevirtual 18, 3) := by decide +kernel
theorem dL_risk_12 : decode cL_risk 12 = .ok (.astore 4, 2) := by decide +kernel
theorem dL_risk_14 : decode cL_risk 14 = .ok (.iconst 1, 1) := by decide +kernel
theorem dL_risk_15 : decode cL_risk 15 = .ok (.ireturn, 1) := by decide +kernel
theorem dL_risk_8 : decode cL_risk 8 = .ok (.lastore, 1) := by decide +kernel
theorem dL_risk_9 : decode cL_risk 9 = .ok (.goto 7, 3) := by decide +kernel
theorem dL_risk_16 : decode cL_risk 16 = .ok (.iconst 0, 1) := by decide +kernel
theorem dL_risk_17 : decode cL_risk 17 = .ok (.ireturn, 1) := by decide +kernel
