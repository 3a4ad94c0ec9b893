theorem dX1_firstThere_43 : decode cX1_firstThere 43 = .ok (.ifCond .ne 16, 3) := by decide +kernel
theorem dX1_firstThere_46 : decode cX1_firstThere 46 = .ok (.aload 5, 2) := by decide +kernel
theorem dX1_firstThere_48 : decode cX1_firstThere 48 = .ok (.iload_n 1, 1) := by decide +kernel
theorem dX1_firstThere_49 : decode cX1_firstThere 49 = .ok (.iload_n 2, 1) := by decide +kernel
theorem dX1_firstThere_50 : decode cX1_firstThere 50 = .ok (.invokevirtual 63, 3) := by decide +kernel
theorem dX1_firstThere_53 : decode cX1_firstThere 53 = .ok (.ifCond .eq 6, 3) := by decide +kernel
theorem dX1_firstThere_56 : decode cX1_firstThere 56 = .ok (.iload 4, 2) := by decide +kernel
theorem dX1_firstThere_58 : decode cX1_firstThere 58 = .ok (.ireturn, 1) := by decide +kernel
theorem dX1_frightBy_0 : decode cX1_frightBy 0 = .ok (.aload_n 1, 1) := by decide +kernel
theorem dX1_frightBy_1 : decode cX1_frightBy 1 = .ok (.getfield 47, 3) := by decide +kernel
theorem dX1_frightBy_4 : decode cX1_frightBy 4 = .ok (.iload_n 2, 1) := by decide +kernel
theorem dX1_frightBy_5 : decode cX1_frightBy 5 = .ok (.aaload, 1) := by decide +kernel
theorem dX1_frightBy_6 : decode cX1_frightBy 6 = .ok (.astore 5, 2) := by decide +kernel
theorem dX1_frightBy_8 : decode cX1_frightBy 8 = .ok (.aload_n 1, 1) := by decide +kernel
theorem dX1_frightBy_9 : decode cX1_frightBy 9 = .ok (.getfield 35, 3) := by decide +kernel
theorem dX1_frightBy_12 : decode cX1_frightBy 12 = .ok (.aload 5, 2) := by decide +kernel
theorem dX1_frightBy_14 : decode cX1_frightBy 14 = .ok (.getfield 51, 3) := by decide +kernel
theorem dX1_frightBy_17 : decode cX1_frightBy 17 = .ok (.aaload, 1) := by decide +kernel
theorem dX1_frightBy_18 : decode cX1_frightBy 18 = .ok (.astore 6, 2) := by decide +kernel
theorem dX1_frightBy_20 : decode cX1_frightBy 20 = .ok (.aload 6, 2) := by decide +kernel
theorem dX1_frightBy_22 : decode cX1_frightBy 22 = .ok (.getfield 56, 3) := by decide +kernel
theorem dX1_frightBy_25 : decode cX1_frightBy 25 = .ok (.istore 7, 2) := by decide +kernel
theorem dX1_frightBy_27 : decode cX1_frightBy 27 = .ok (.aload 5, 2) := by decide +kernel
theorem dX1_frightBy_29 : decode cX1_frightBy 29 = .ok (.getfield 59, 3) := by decide +kernel
theorem dX1_frightBy_32 : decode cX1_frightBy 32 = .ok (.ifCond .ne 22, 3) := by decide +kernel
theorem dX1_frightBy_54 : decode cX1_frightBy 54 = .ok (.iconst 0, 1) := by decide +kernel
theorem dX1_frightBy_55 : decode cX1_frightBy 55 = .ok (.ireturn, 1) := by decide +kernel
theorem dX1_frightBy_35 : decode cX1_frightBy 35 = .ok (.aload 6, 2) := by decide +kernel
theorem dX1_frightBy_37 : decode cX1_frightBy 37 = .ok (.getfield 44, 3) := by decide +kernel
theorem dX1_frightBy_40 : decode cX1_frightBy 40 = .ok (.ifCond .gt 14, 3) := by decide +kernel
theorem dX1_frightBy_43 : decode cX1_frightBy 43 = .ok (.aload 6, 2) := by decide +kernel
theorem dX1_frightBy_45 : decode cX1_frightBy 45 = .ok (.iload 7, 2) := by decide +kernel
theorem dX1_frightBy_47 : decode cX1_frightBy 47 = .ok (.iload_n 3, 1) := by decide +kernel
theorem dX1_frightBy_48 : decode cX1_frightBy 48 = .ok (.invokevirtual 63, 3) := by decide +kernel
theorem dX1_frightBy_51 : decode cX1_frightBy 51 = .ok (.ifCond .ne 5, 3) := by decide +kernel
theorem dX1_frightBy_56 : decode cX1_frightBy 56 = .ok (.aload_n 1, 1) := by decide +kernel
theorem dX1_frightBy_57 : decode cX1_frightBy 57 = .ok (.getfield 67, 3) := by decide +kernel
theorem dX1_frightBy_60 : decode cX1_frightBy 60 = .ok (.iload 7, 2) := by decide +kernel
theorem dX1_frightBy_62 : decode cX1_frightBy 62 = .ok (.iaload, 1) := by decide +kernel
theorem dX1_frightBy_63 : decode cX1_frightBy 63 = .ok (.iload_n 3, 1) := by decide +kernel
theorem dX1_frightBy_64 : decode cX1_frightBy 64 = .ok (.ishr, 1) := by decide +kernel
theorem dX1_frightBy_65 : decode cX1_frightBy 65 = .ok (.iconst 1, 1) := by decide +kernel
theorem dX1_frightBy_66 : decode cX1_frightBy 66 = .ok (.iand, 1) := by decide +kernel
theorem dX1_frightBy_67 : decode cX1_frightBy 67 = .ok (.ifCond .ne 16, 3) := by decide +kernel
theorem dX1_frightBy_83 : decode cX1_frightBy 83 = .ok (.aload_n 1, 1) := by decide +kernel
theorem dX1_frightBy_84 : decode cX1_frightBy 84 = .ok (.getfield 78, 3) := by decide +kernel
theorem dX1_frightBy_87 : decode cX1_frightBy 87 = .ok (.iload 7, 2) := by decide +kernel
theorem dX1_frightBy_89 : decode cX1_frightBy 89 = .ok (.baload, 1) := by decide +kernel
theorem dX1_frightBy_90 : decode cX1_frightBy 90 = .ok (.ifCond .eq 7, 3) := by decide +kernel
theorem dX1_frightBy_97 : decode cX1_frightBy 97 = .ok (.aload_n 1, 1) := by decide +kernel
theorem dX1_frightBy_98 : decode cX1_frightBy 98 = .ok (.iload 7, 2) := by decide +kernel
theorem dX1_frightBy_100 : decode cX1_frightBy 100 = .ok (.iload_n 3, 1) := by decide +kernel
theorem dX1_frightBy_101 : decode cX1_frightBy 101 = .ok (.iload 4, 2) := by decide +kernel
theorem dX1_frightBy_103 : decode cX1_frightBy 103 = .ok (.invokestatic 82, 3) := by decide +kernel
theorem dX1_frightBy_106 : decode cX1_frightBy 106 = .ok (.istore 8, 2) := by decide +kernel
theorem dX1_frightBy_108 : decode cX1_frightBy 108 = .ok (.iload 8, 2) := by decide +kernel
theorem dX1_frightBy_110 : decode cX1_frightBy 110 = .ok (.iconst (-1), 1) := by decide +kernel
theorem dX1_frightBy_111 : decode cX1_frightBy 111 = .ok (.if_icmp .eq 15, 3) := by decide +kernel
theorem dX1_frightBy_126 : decode cX1_frightBy 126 = .ok (.iconst 0, 1) := by decide +kernel
theorem dX1_frightBy_127 : decode cX1_frightBy 127 = .ok (.ireturn, 1) := by decide +kernel
theorem dX1_frightBy_114 : decode cX1_frightBy 114 = .ok (.aload_n 0, 1) := by decide +kernel
theorem dX1_frightBy_115 : decode cX1_frightBy 115 = .ok (.invokevirtual 71, 3) := by decide +kernel
theorem dX1_frightBy_118 : decode cX1_frightBy 118 = .ok (.aload 5, 2) := by decide +kernel
theorem dX1_frightBy_120 : decode cX1_frightBy 120 = .ok (.getfield 85, 3) := by decide +kernel
theorem dX1_frightBy_123 : decode cX1_frightBy 123 = .ok (.if_icmp .ge 5, 3) := by decide +kernel
theorem dX1_frightBy_128 : decode cX1_frightBy 128 = .ok (.aload 5, 2) := by decide +kernel
theorem dX1_frightBy_130 : decode cX1_frightBy 130 = .ok (.dup, 1) := by decide +kernel
theorem dX1_frightBy_131 : decode cX1_frightBy 131 = .ok (.getfield 88, 3) := by decide +kernel
theorem dX1_frightBy_134 : decode cX1_frightBy 134 = .ok (.iconst 1, 1) := by decide +kernel
theorem dX1_frightBy_135 : decode cX1_frightBy 135 = .ok (.iadd, 1) := by decide +kernel
theorem dX1_frightBy_136 : decode cX1_frightBy 136 = .ok (.putfield 88, 3) := by decide +kernel
theorem dX1_frightBy_139 : decode cX1_frightBy 139 = .ok (.aload_n 1, 1) := by decide +kernel
theorem dX1_frightBy_140 : decode cX1_frightBy 140 = .ok (.dup, 1) := by decide +kernel
theorem dX1_frightBy_141 : decode cX1_frightBy 141 = .ok (.getfield 91, 3) := by decide +kernel
theorem dX1_frightBy_144 : decode cX1_frightBy 144 = .ok (.iconst 1, 1) := by decide +kernel
theorem dX1_frightBy_145 : decode cX1_frightBy 145 = .ok (.iadd, 1) := by decide +kernel
theorem dX1_frightBy_146 : decode cX1_frightBy 146 = .ok (.putfield 91, 3) := by decide +kernel
theorem dX1_frightBy_149 : decode cX1_frightBy 149 = .ok (.aload_n 1, 1) := by decide +kernel
theorem dX1_frightBy_150 : decode cX1_frightBy 150 = .ok (.getfield 35, 3) := by decide +kernel
theorem dX1_frightBy_153 : decode cX1_frightBy 153 = .ok (.iload 8, 2) := by decide +kernel
theorem dX1_frightBy_155 : decode cX1_frightBy 155 = .ok (.aaload, 1) := by decide +kernel
theorem dX1_frightBy_156 : decode cX1_frightBy 156 = .ok (.dup, 1) := by decide +kernel
theorem dX1_frightBy_157 : decode cX1_frightBy 157 = .ok (.getfield 94, 3) := by decide +kernel
theorem dX1_frightBy_160 : decode cX1_frightBy 160 = .ok (.iconst 1, 1) := by decide +kernel
theorem dX1_frightBy_161 : decode cX1_frightBy 161 = .ok (.iadd, 1) := by decide +kernel
theorem dX1_frightBy_162 : decode cX1_frightBy 162 = .ok (.putfield 94, 3) := by decide +kernel
theorem dX1_frightBy_165 : decode cX1_frightBy 165 = .ok (.aload_n 0, 1) := by decide +kernel
theorem dX1_frightBy_166 : decode cX1_frightBy 166 = .ok (.invokevirtual 71, 3) := by decide +kernel
theorem dX1_frightBy_169 : decode cX1_frightBy 169 = .ok (.aload 5, 2) := by decide +kernel
theorem dX1_frightBy_171 : decode cX1_frightBy 171 = .ok (.getfield 97, 3) := by decide +kernel
theorem dX1_frightBy_174 : decode cX1_frightBy 174 = .ok (.if_icmp .ge 40, 3) := by decide +kernel
theorem dX1_frightBy_214 : decode cX1_frightBy 214 = .ok (.iconst 1, 1) := by decide +kernel
theorem dX1_frightBy_215 : decode cX1_frightBy 215 = .ok (.iload 8, 2) := by decide +kernel
theorem dX1_frightBy_217 : decode cX1_frightBy 217 = .ok (.ishl, 1) := by decide +kernel
theorem dX1_frightBy_218 : decode cX1_frightBy 218 = .ok (.ireturn, 1) := by decide +kernel
theorem dX1_frightBy_177 : decode cX1_frightBy 177 = .ok (.aload 5, 2) := by decide +kernel
theorem dX1_frightBy_179 : decode cX1_frightBy 179 = .ok (.dup, 1) := by decide +kernel
theorem dX1_frightBy_180 : decode cX1_frightBy 180 = .ok (.getfield 100, 3) := by decide +kernel
theorem dX1_frightBy_183 : decode cX1_frightBy 183 = .ok (.iconst 1, 1) := by decide +kernel
theorem dX1_frightBy_184 : decode cX1_frightBy 184 = .ok (.iadd, 1) := by decide +kernel
theorem dX1_frightBy_185 : decode cX1_frightBy 185 = .ok (.putfield 100, 3) := by decide +kernel
theorem dX1_frightBy_188 : decode cX1_frightBy 188 = .ok (.aload_n 1, 1) := by decide +kernel
theorem dX1_frightBy_189 : decode cX1_frightBy 189 = .ok (.dup, 1) := by decide +kernel
theorem dX1_frightBy_190 : decode cX1_frightBy 190 = .ok (.getfield 103, 3) := by decide +kernel
theorem dX1_frightBy_193 : decode cX1_frightBy 193 = .ok (.iconst 1, 1) := by decide +kernel
theorem dX1_frightBy_194 : decode cX1_frightBy 194 = .ok (.iadd, 1) := by decide +kernel
theorem dX1_frightBy_195 : decode cX1_frightBy 195 = .ok (.putfield 103, 3) := by decide +kernel
theorem dX1_frightBy_198 : decode cX1_frightBy 198 = .ok (.aload_n 1, 1) := by decide +kernel
theorem dX1_frightBy_199 : decode cX1_frightBy 199 = .ok (.getfield 35, 3) := by decide +kernel
theorem dX1_frightBy_202 : decode cX1_frightBy 202 = .ok (.iload 8, 2) := by decide +kernel
theorem dX1_frightBy_204 : decode cX1_frightBy 204 = .ok (.aaload, 1) := by decide +kernel
theorem dX1_frightBy_205 : decode cX1_frightBy 205 = .ok (.dup, 1) := by decide +kernel
theorem dX1_frightBy_206 : decode cX1_frightBy 206 = .ok (.getfield 104, 3) := by decide +kernel
theorem dX1_frightBy_209 : decode cX1_frightBy 209 = .ok (.iconst 1, 1) := by decide +kernel
theorem dX1_frightBy_210 : decode cX1_frightBy 210 = .ok (.iadd, 1) := by decide +kernel
theorem dX1_frightBy_211 : decode cX1_frightBy 211 = .ok (.putfield 104, 3) := by decide +kernel
theorem dX1_frightBy_93 : decode cX1_frightBy 93 = .ok (.iconst (-1), 1) := by decide +kernel
theorem dX1_frightBy_94 : decode cX1_frightBy 94 = .ok (.goto 12, 3) := by decide +kernel
theorem dX1_frightBy_70 : decode cX1_frightBy 70 = .ok (.aload_n 0, 1) := by decide +kernel
theorem dX1_frightBy_71 : decode cX1_frightBy 71 = .ok (.invokevirtual 71, 3) := by decide +kernel
theorem dX1_frightBy_74 : decode cX1_frightBy 74 = .ok (.aload_n 1, 1) := by decide +kernel
theorem dX1_frightBy_75 : decode cX1_frightBy 75 = .ok (.getfield 75, 3) := by decide +kernel
theorem dX1_frightBy_78 : decode cX1_frightBy 78 = .ok (.if_icmp .lt 5, 3) := by decide +kernel
theorem dX1_frightBy_81 : decode cX1_frightBy 81 = .ok (.iconst 0, 1) := by decide +kernel
theorem dX1_frightBy_82 : decode cX1_frightBy 82 = .ok (.ireturn, 1) := by decide +kernel
theorem dX1_liveDay_0 : decode cX1_liveDay 0 = .ok (.iconst 0, 1) := by decide +kernel
theorem dX1_liveDay_1 : decode cX1_liveDay 1 = .ok (.istore_n 2, 1) := by decide +kernel
theorem dX1_liveDay_2 : decode cX1_liveDay 2 = .ok (.iconst 0, 1) := by decide +kernel
theorem dX1_liveDay_3 : decode cX1_liveDay 3 = .ok (.istore_n 3, 1) := by decide +kernel
theorem dX1_liveDay_4 : decode cX1_liveDay 4 = .ok (.iload_n 3, 1) := by decide +kernel
theorem dX1_liveDay_5 : decode cX1_liveDay 5 = .ok (.bipush 24, 2) := by decide +kernel
theorem dX1_liveDay_7 : decode cX1_liveDay 7 = .ok (.if_icmp .ge 39, 3) := by decide +kernel
theorem dX1_liveDay_46 : decode cX1_liveDay 46 = .ok (.iconst 0, 1) := by decide +kernel
theorem dX1_liveDay_47 : decode cX1_liveDay 47 = .ok (.istore_n 3, 1) := by decide +kernel
theorem dX1_liveDay_48 : decode cX1_liveDay 48 = .ok (.iload_n 3, 1) := by decide +kernel
theorem dX1_liveDay_49 : decode cX1_liveDay 49 = .ok (.aload_n 1, 1) := by decide +kernel
theorem dX1_liveDay_50 : decode cX1_liveDay 50 = .ok (.getfield 32, 3) := by decide +kernel
theorem dX1_liveDay_53 : decode cX1_liveDay 53 = .ok (.if_icmp .ge 58, 3) := by decide +kernel
theorem dX1_liveDay_111 : decode cX1_liveDay 111 = .ok (.aload_n 1, 1) := by decide +kernel
theorem dX1_liveDay_112 : decode cX1_liveDay 112 = .ok (.dup, 1) := by decide +kernel
theorem dX1_liveDay_113 : decode cX1_liveDay 113 = .ok (.getfield 15, 3) := by decide +kernel
theorem dX1_liveDay_116 : decode cX1_liveDay 116 = .ok (.iconst 1, 1) := by decide +kernel
theorem dX1_liveDay_117 : decode cX1_liveDay 117 = .ok (.iadd, 1) := by decide +kernel
theorem dX1_liveDay_118 : decode cX1_liveDay 118 = .ok (.putfield 15, 3) := by decide +kernel
theorem dX1_liveDay_121 : decode cX1_liveDay 121 = .ok (.return_, 1) := by decide +kernel
theorem dX1_liveDay_56 : decode cX1_liveDay 56 = .ok (.aload_n 1, 1) := by decide +kernel
theorem dX1_liveDay_57 : decode cX1_liveDay 57 = .ok (.getfield 35, 3) := by decide +kernel
theorem dX1_liveDay_60 : decode cX1_liveDay 60 = .ok (.iload_n 3, 1) := by decide +kernel
theorem dX1_liveDay_61 : decode cX1_liveDay 61 = .ok (.aaload, 1) := by decide +kernel
theorem dX1_liveDay_62 : decode cX1_liveDay 62 = .ok (.astore 4, 2) := by decide +kernel
theorem dX1_liveDay_64 : decode cX1_liveDay 64 = .ok (.iload_n 2, 1) := by decide +kernel
theorem dX1_liveDay_65 : decode cX1_liveDay 65 = .ok (.iload_n 3, 1) := by decide +kernel
theorem dX1_liveDay_66 : decode cX1_liveDay 66 = .ok (.ishr, 1) := by decide +kernel
theorem dX1_liveDay_67 : decode cX1_liveDay 67 = .ok (.iconst 1, 1) := by decide +kernel
theorem dX1_liveDay_68 : decode cX1_liveDay 68 = .ok (.iand, 1) := by decide +kernel
theorem dX1_liveDay_69 : decode cX1_liveDay 69 = .ok (.iconst 1, 1) := by decide +kernel
theorem dX1_liveDay_70 : decode cX1_liveDay 70 = .ok (.if_icmp .ne 16, 3) := by decide +kernel
theorem dX1_liveDay_86 : decode cX1_liveDay 86 = .ok (.aload 4, 2) := by decide +kernel
theorem dX1_liveDay_88 : decode cX1_liveDay 88 = .ok (.getfield 44, 3) := by decide +kernel
theorem dX1_liveDay_91 : decode cX1_liveDay 91 = .ok (.ifCond .le 14, 3) := by decide +kernel
theorem dX1_liveDay_105 : decode cX1_liveDay 105 = .ok (.iinc 3 1, 3) := by decide +kernel
theorem dX1_liveDay_108 : decode cX1_liveDay 108 = .ok (.goto (-60), 3) := by decide +kernel
theorem dX1_liveDay_94 : decode cX1_liveDay 94 = .ok (.aload 4, 2) := by decide +kernel
theorem dX1_liveDay_96 : decode cX1_liveDay 96 = .ok (.dup, 1) := by decide +kernel
theorem dX1_liveDay_97 : decode cX1_liveDay 97 = .ok (.getfield 44, 3) := by decide +kernel
theorem dX1_liveDay_100 : decode cX1_liveDay 100 = .ok (.iconst 1, 1) := by decide +kernel
theorem dX1_liveDay_101 : decode cX1_liveDay 101 = .ok (.isub, 1) := by decide +kernel
theorem dX1_liveDay_102 : decode cX1_liveDay 102 = .ok (.putfield 44, 3) := by decide +kernel
theorem dX1_liveDay_73 : decode cX1_liveDay 73 = .ok (.aload 4, 2) := by decide +kernel
theorem dX1_liveDay_75 : decode cX1_liveDay 75 = .ok (.aload 4, 2) := by decide +kernel
theorem dX1_liveDay_77 : decode cX1_liveDay 77 = .ok (.getfield 39, 3) := by decide +kernel
theorem dX1_liveDay_80 : decode cX1_liveDay 80 = .ok (.putfield 44, 3) := by decide +kernel
theorem dX1_liveDay_83 : decode cX1_liveDay 83 = .ok (.goto 22, 3) := by decide +kernel
theorem dX1_liveDay_10 : decode cX1_liveDay 10 = .ok (.iconst 0, 1) := by decide +kernel
theorem dX1_liveDay_11 : decode cX1_liveDay 11 = .ok (.istore 4, 2) := by decide +kernel
theorem dX1_liveDay_13 : decode cX1_liveDay 13 = .ok (.iload 4, 2) := by decide +kernel
theorem dX1_liveDay_15 : decode cX1_liveDay 15 = .ok (.aload_n 1, 1) := by decide +kernel
theorem dX1_liveDay_16 : decode cX1_liveDay 16 = .ok (.getfield 25, 3) := by decide +kernel
theorem dX1_liveDay_19 : decode cX1_liveDay 19 = .ok (.if_icmp .ge 21, 3) := by decide +kernel
theorem dX1_liveDay_40 : decode cX1_liveDay 40 = .ok (.iinc 3 1, 3) := by decide +kernel
theorem dX1_liveDay_43 : decode cX1_liveDay 43 = .ok (.goto (-39), 3) := by decide +kernel
theorem dX1_liveDay_22 : decode cX1_liveDay 22 = .ok (.iload_n 2, 1) := by decide +kernel
theorem dX1_liveDay_23 : decode cX1_liveDay 23 = .ok (.aload_n 0, 1) := by decide +kernel
theorem dX1_liveDay_24 : decode cX1_liveDay 24 = .ok (.aload_n 1, 1) := by decide +kernel
theorem dX1_liveDay_25 : decode cX1_liveDay 25 = .ok (.iload 4, 2) := by decide +kernel
theorem dX1_liveDay_27 : decode cX1_liveDay 27 = .ok (.iload_n 3, 1) := by decide +kernel
theorem dX1_liveDay_28 : decode cX1_liveDay 28 = .ok (.iload_n 2, 1) := by decide +kernel
theorem dX1_liveDay_29 : decode cX1_liveDay 29 = .ok (.invokevirtual 28, 3) := by decide +kernel
theorem dX1_liveDay_32 : decode cX1_liveDay 32 = .ok (.ior, 1) := by decide +kernel
theorem dX1_liveDay_33 : decode cX1_liveDay 33 = .ok (.istore_n 2, 1) := by decide +kernel
theorem dX1_liveDay_34 : decode cX1_liveDay 34 = .ok (.iinc 4 1, 3) := by decide +kernel
theorem dX1_liveDay_37 : decode cX1_liveDay 37 = .ok (.goto (-24), 3) := by decide +kernel
theorem dX1_live_0 : decode cX1_live 0 = .ok (.aload_n 0, 1) := by decide +kernel
theorem dX1_live_1 : decode cX1_live 1 = .ok (.iload_n 3, 1) := by decide +kernel
theorem dX1_live_2 : decode cX1_live 2 = .ok (.putfield 9, 3) := by decide +kernel
theorem dX1_live_5 : decode cX1_live 5 = .ok (.iconst 0, 1) := by decide +kernel
theorem dX1_live_6 : decode cX1_live 6 = .ok (.istore 4, 2) := by decide +kernel
theorem dX1_live_8 : decode cX1_live 8 = .ok (.iload 4, 2) := by decide +kernel
theorem dX1_live_10 : decode cX1_live 10 = .ok (.iload_n 2, 1) := by decide +kernel
theorem dX1_live_11 : decode cX1_live 11 = .ok (.if_icmp .ge 24, 3) := by decide +kernel
theorem dX1_live_35 : decode cX1_live 35 = .ok (.iload 4, 2) := by decide +kernel
theorem dX1_live_37 : decode cX1_live 37 = .ok (.ireturn, 1) := by decide +kernel
theorem dX1_live_14 : decode cX1_live 14 = .ok (.aload_n 1, 1) := by decide +kernel
theorem dX1_live_15 : decode cX1_live 15 = .ok (.getfield 15, 3) := by decide +kernel
theorem dX1_live_18 : decode cX1_live 18 = .ok (.sipush 400, 3) := by decide +kernel
theorem dX1_live_21 : decode cX1_live 21 = .ok (.if_icmp .ge 14, 3) := by decide +kernel
theorem dX1_live_24 : decode cX1_live 24 = .ok (.aload_n 0, 1) := by decide +kernel
theorem dX1_live_25 : decode cX1_live 25 = .ok (.aload_n 1, 1) := by decide +kernel
theorem dX1_live_26 : decode cX1_live 26 = .ok (.invokevirtual 20, 3) := by decide +kernel
theorem dX1_live_29 : decode cX1_live 29 = .ok (.iinc 4 1, 3) := by decide +kernel
theorem dX1_live_32 : decode cX1_live 32 = .ok (.goto (-24), 3) := by decide +kernel
theorem dX9_goodHere_0 : decode cX9_goodHere 0 = .ok (.aload_n 0, 1) := by decide +kernel
theorem dX9_goodHere_1 : decode cX9_goodHere 1 = .ok (.iload_n 1, 1) := by decide +kernel
theorem dX9_goodHere_2 : decode cX9_goodHere 2 = .ok (.invokevirtual 11, 3) := by decide +kernel
theorem dX9_goodHere_5 : decode cX9_goodHere 5 = .ok (.istore 4, 2) := by decide +kernel
theorem dX9_goodHere_7 : decode cX9_goodHere 7 = .ok (.iconst 0, 1) := by decide +kernel
theorem dX9_goodHere_8 : decode cX9_goodHere 8 = .ok (.istore 5, 2) := by decide +kernel
theorem dX9_goodHere_10 : decode cX9_goodHere 10 = .ok (.iconst 0, 1) := by decide +kernel
theorem dX9_goodHere_11 : decode cX9_goodHere 11 = .ok (.istore 6, 2) := by decide +kernel
theorem dX9_goodHere_13 : decode cX9_goodHere 13 = .ok (.iload 6, 2) := by decide +kernel
theorem dX9_goodHere_15 : decode cX9_goodHere 15 = .ok (.aload_n 0, 1) := by decide +kernel
theorem dX9_goodHere_16 : decode cX9_goodHere 16 = .ok (.getfield 17, 3) := by decide +kernel
theorem dX9_goodHere_19 : decode cX9_goodHere 19 = .ok (.if_icmp .ge 53, 3) := by decide +kernel
theorem dX9_goodHere_72 : decode cX9_goodHere 72 = .ok (.iload 5, 2) := by decide +kernel
theorem dX9_goodHere_74 : decode cX9_goodHere 74 = .ok (.ireturn, 1) := by decide +kernel
theorem dX9_goodHere_22 : decode cX9_goodHere 22 = .ok (.aload_n 0, 1) := by decide +kernel
theorem dX9_goodHere_23 : decode cX9_goodHere 23 = .ok (.getfield 21, 3) := by decide +kernel
theorem dX9_goodHere_26 : decode cX9_goodHere 26 = .ok (.iload 6, 2) := by decide +kernel
theorem dX9_goodHere_28 : decode cX9_goodHere 28 = .ok (.aaload, 1) := by decide +kernel
theorem dX9_goodHere_29 : decode cX9_goodHere 29 = .ok (.astore 7, 2) := by decide +kernel
theorem dX9_goodHere_31 : decode cX9_goodHere 31 = .ok (.aload 7, 2) := by decide +kernel
theorem dX9_goodHere_33 : decode cX9_goodHere 33 = .ok (.getfield 25, 3) := by decide +kernel
theorem dX9_goodHere_36 : decode cX9_goodHere 36 = .ok (.iload_n 1, 1) := by decide +kernel
theorem dX9_goodHere_37 : decode cX9_goodHere 37 = .ok (.if_icmp .ne 29, 3) := by decide +kernel
theorem dX9_goodHere_66 : decode cX9_goodHere 66 = .ok (.iinc 6 1, 3) := by decide +kernel
theorem dX9_goodHere_69 : decode cX9_goodHere 69 = .ok (.goto (-56), 3) := by decide +kernel
theorem dX9_goodHere_40 : decode cX9_goodHere 40 = .ok (.iload_n 2, 1) := by decide +kernel
theorem dX9_goodHere_41 : decode cX9_goodHere 41 = .ok (.ifCond .ne 11, 3) := by decide +kernel
theorem dX9_goodHere_52 : decode cX9_goodHere 52 = .ok (.iload 5, 2) := by decide +kernel
theorem dX9_goodHere_54 : decode cX9_goodHere 54 = .ok (.aload_n 0, 1) := by decide +kernel
theorem dX9_goodHere_55 : decode cX9_goodHere 55 = .ok (.iload 6, 2) := by decide +kernel
theorem dX9_goodHere_57 : decode cX9_goodHere 57 = .ok (.iload_n 3, 1) := by decide +kernel
theorem dX9_goodHere_58 : decode cX9_goodHere 58 = .ok (.iload 4, 2) := by decide +kernel
theorem dX9_goodHere_60 : decode cX9_goodHere 60 = .ok (.invokevirtual 33, 3) := by decide +kernel
theorem dX9_goodHere_63 : decode cX9_goodHere 63 = .ok (.iadd, 1) := by decide +kernel
theorem dX9_goodHere_64 : decode cX9_goodHere 64 = .ok (.istore 5, 2) := by decide +kernel
theorem dX9_goodHere_44 : decode cX9_goodHere 44 = .ok (.aload 7, 2) := by decide +kernel
theorem dX9_goodHere_46 : decode cX9_goodHere 46 = .ok (.getfield 30, 3) := by decide +kernel
theorem dX9_goodHere_49 : decode cX9_goodHere 49 = .ok (.ifCond .ne 17, 3) := by decide +kernel
theorem dX9_bestFence_0 : decode cX9_bestFence 0 = .ok (.iconst (-1), 1) := by decide +kernel
theorem dX9_bestFence_1 : decode cX9_bestFence 1 = .ok (.istore_n 1, 1) := by decide +kernel
theorem dX9_bestFence_2 : decode cX9_bestFence 2 = .ok (.iconst (-1), 1) := by decide +kernel
theorem dX9_bestFence_3 : decode cX9_bestFence 3 = .ok (.istore_n 2, 1) := by decide +kernel
theorem dX9_bestFence_4 : decode cX9_bestFence 4 = .ok (.iconst 0, 1) := by decide +kernel
theorem dX9_bestFence_5 : decode cX9_bestFence 5 = .ok (.istore_n 3, 1) := by decide +kernel
theorem dX9_bestFence_6 : decode cX9_bestFence 6 = .ok (.iload_n 3, 1) := by decide +kernel
theorem dX9_bestFence_7 : decode cX9_bestFence 7 = .ok (.aload_n 0, 1) := by decide +kernel
theorem dX9_bestFence_8 : decode cX9_bestFence 8 = .ok (.getfield 37, 3) := by decide +kernel
theorem dX9_bestFence_11 : decode cX9_bestFence 11 = .ok (.if_icmp .ge 50, 3) := by decide +kernel
theorem dX9_bestFence_61 : decode cX9_bestFence 61 = .ok (.iload_n 1, 1) := by decide +kernel
theorem dX9_bestFence_62 : decode cX9_bestFence 62 = .ok (.ireturn, 1) := by decide +kernel
theorem dX9_bestFence_14 : decode cX9_bestFence 14 = .ok (.aload_n 0, 1) := by decide +kernel
theorem dX9_bestFence_15 : decode cX9_bestFence 15 = .ok (.getfield 40, 3) := by decide +kernel
theorem dX9_bestFence_18 : decode cX9_bestFence 18 = .ok (.iload_n 3, 1) := by decide +kernel
theorem dX9_bestFence_19 : decode cX9_bestFence 19 = .ok (.baload, 1) := by decide +kernel
theorem dX9_bestFence_20 : decode cX9_bestFence 20 = .ok (.istore 4, 2) := by decide +kernel
theorem dX9_bestFence_22 : decode cX9_bestFence 22 = .ok (.aload_n 0, 1) := by decide +kernel
theorem dX9_bestFence_23 : decode cX9_bestFence 23 = .ok (.getfield 40, 3) := by decide +kernel
theorem dX9_bestFence_26 : decode cX9_bestFence 26 = .ok (.iload_n 3, 1) := by decide +kernel
theorem dX9_bestFence_27 : decode cX9_bestFence 27 = .ok (.iconst 1, 1) := by decide +kernel
theorem dX9_bestFence_28 : decode cX9_bestFence 28 = .ok (.bastore, 1) := by decide +kernel
theorem dX9_bestFence_29 : decode cX9_bestFence 29 = .ok (.aload_n 0, 1) := by decide +kernel
theorem dX9_bestFence_30 : decode cX9_bestFence 30 = .ok (.iconst 1, 1) := by decide +kernel
theorem dX9_bestFence_31 : decode cX9_bestFence 31 = .ok (.invokevirtual 44, 3) := by decide +kernel
theorem dX9_bestFence_34 : decode cX9_bestFence 34 = .ok (.istore 5, 2) := by decide +kernel
theorem dX9_bestFence_36 : decode cX9_bestFence 36 = .ok (.aload_n 0, 1) := by decide +kernel
theorem dX9_bestFence_37 : decode cX9_bestFence 37 = .ok (.getfield 40, 3) := by decide +kernel
theorem dX9_bestFence_40 : decode cX9_bestFence 40 = .ok (.iload_n 3, 1) := by decide +kernel
theorem dX9_bestFence_41 : decode cX9_bestFence 41 = .ok (.iload 4, 2) := by decide +kernel
theorem dX9_bestFence_43 : decode cX9_bestFence 43 = .ok (.bastore, 1) := by decide +kernel
theorem dX9_bestFence_44 : decode cX9_bestFence 44 = .ok (.iload 5, 2) := by decide +kernel
theorem dX9_bestFence_46 : decode cX9_bestFence 46 = .ok (.iload_n 2, 1) := by decide +kernel
theorem dX9_bestFence_47 : decode cX9_bestFence 47 = .ok (.if_icmp .le 8, 3) := by decide +kernel
theorem dX9_bestFence_55 : decode cX9_bestFence 55 = .ok (.iinc 3 1, 3) := by decide +kernel
theorem dX9_bestFence_58 : decode cX9_bestFence 58 = .ok (.goto (-52), 3) := by decide +kernel
theorem dX9_bestFence_50 : decode cX9_bestFence 50 = .ok (.iload 5, 2) := by decide +kernel
theorem dX9_bestFence_52 : decode cX9_bestFence 52 = .ok (.istore_n 2, 1) := by decide +kernel
theorem dX9_bestFence_53 : decode cX9_bestFence 53 = .ok (.iload_n 3, 1) := by decide +kernel
theorem dX9_bestFence_54 : decode cX9_bestFence 54 = .ok (.istore_n 1, 1) := by decide +kernel
theorem dX9_goRound_0 : decode cX9_goRound 0 = .ok (.iconst 0, 1) := by decide +kernel
theorem dX9_goRound_1 : decode cX9_goRound 1 = .ok (.istore_n 1, 1) := by decide +kernel
theorem dX9_goRound_2 : decode cX9_goRound 2 = .ok (.iconst 0, 1) := by decide +kernel
theorem dX9_goRound_3 : decode cX9_goRound 3 = .ok (.istore_n 2, 1) := by decide +kernel
theorem dX9_goRound_4 : decode cX9_goRound 4 = .ok (.iload_n 2, 1) := by decide +kernel
theorem dX9_goRound_5 : decode cX9_goRound 5 = .ok (.aload_n 0, 1) := by decide +kernel
theorem dX9_goRound_6 : decode cX9_goRound 6 = .ok (.getfield 17, 3) := by decide +kernel
theorem dX9_goRound_9 : decode cX9_goRound 9 = .ok (.if_icmp .ge 99, 3) := by decide +kernel
theorem dX9_goRound_108 : decode cX9_goRound 108 = .ok (.iload_n 1, 1) := by decide +kernel
theorem dX9_goRound_109 : decode cX9_goRound 109 = .ok (.ireturn, 1) := by decide +kernel
theorem dX9_goRound_12 : decode cX9_goRound 12 = .ok (.aload_n 0, 1) := by decide +kernel
theorem dX9_goRound_13 : decode cX9_goRound 13 = .ok (.getfield 21, 3) := by decide +kernel
theorem dX9_goRound_16 : decode cX9_goRound 16 = .ok (.iload_n 2, 1) := by decide +kernel
theorem dX9_goRound_17 : decode cX9_goRound 17 = .ok (.aaload, 1) := by decide +kernel
theorem dX9_goRound_18 : decode cX9_goRound 18 = .ok (.getfield 25, 3) := by decide +kernel
theorem dX9_goRound_21 : decode cX9_goRound 21 = .ok (.istore_n 3, 1) := by decide +kernel
theorem dX9_goRound_22 : decode cX9_goRound 22 = .ok (.aload_n 0, 1) := by decide +kernel
theorem dX9_goRound_23 : decode cX9_goRound 23 = .ok (.iload_n 2, 1) := by decide +kernel
theorem dX9_goRound_24 : decode cX9_goRound 24 = .ok (.iload_n 3, 1) := by decide +kernel
theorem dX9_goRound_25 : decode cX9_goRound 25 = .ok (.invokevirtual 54, 3) := by decide +kernel
theorem dX9_goRound_28 : decode cX9_goRound 28 = .ok (.istore 4, 2) := by decide +kernel
theorem dX9_goRound_30 : decode cX9_goRound 30 = .ok (.iconst 0, 1) := by decide +kernel
theorem dX9_goRound_31 : decode cX9_goRound 31 = .ok (.istore 5, 2) := by decide +kernel
theorem dX9_goRound_33 : decode cX9_goRound 33 = .ok (.iload 5, 2) := by decide +kernel
theorem dX9_goRound_35 : decode cX9_goRound 35 = .ok (.aload_n 0, 1) := by decide +kernel
theorem dX9_goRound_36 : decode cX9_goRound 36 = .ok (.getfield 37, 3) := by decide +kernel
theorem dX9_goRound_39 : decode cX9_goRound 39 = .ok (.if_icmp .ge 32, 3) := by decide +kernel
theorem dX9_goRound_71 : decode cX9_goRound 71 = .ok (.iload_n 1, 1) := by decide +kernel
theorem dX9_goRound_72 : decode cX9_goRound 72 = .ok (.iload_n 3, 1) := by decide +kernel
theorem dX9_goRound_73 : decode cX9_goRound 73 = .ok (.aload_n 0, 1) := by decide +kernel
theorem dX9_goRound_74 : decode cX9_goRound 74 = .ok (.getfield 21, 3) := by decide +kernel
theorem dX9_goRound_77 : decode cX9_goRound 77 = .ok (.iload_n 2, 1) := by decide +kernel
theorem dX9_goRound_78 : decode cX9_goRound 78 = .ok (.aaload, 1) := by decide +kernel
theorem dX9_goRound_79 : decode cX9_goRound 79 = .ok (.getfield 25, 3) := by decide +kernel
theorem dX9_goRound_82 : decode cX9_goRound 82 = .ok (.if_icmp .eq 7, 3) := by decide +kernel
theorem dX9_goRound_89 : decode cX9_goRound 89 = .ok (.iconst 0, 1) := by decide +kernel
theorem dX9_goRound_90 : decode cX9_goRound 90 = .ok (.ior, 1) := by decide +kernel
theorem dX9_goRound_91 : decode cX9_goRound 91 = .ok (.istore_n 1, 1) := by decide +kernel
theorem dX9_goRound_92 : decode cX9_goRound 92 = .ok (.aload_n 0, 1) := by decide +kernel
theorem dX9_goRound_93 : decode cX9_goRound 93 = .ok (.getfield 21, 3) := by decide +kernel
theorem dX9_goRound_96 : decode cX9_goRound 96 = .ok (.iload_n 2, 1) := by decide +kernel
theorem dX9_goRound_97 : decode cX9_goRound 97 = .ok (.aaload, 1) := by decide +kernel
theorem dX9_goRound_98 : decode cX9_goRound 98 = .ok (.iload_n 3, 1) := by decide +kernel
theorem dX9_goRound_99 : decode cX9_goRound 99 = .ok (.putfield 25, 3) := by decide +kernel
theorem dX9_goRound_102 : decode cX9_goRound 102 = .ok (.iinc 2 1, 3) := by decide +kernel
theorem dX9_goRound_105 : decode cX9_goRound 105 = .ok (.goto (-101), 3) := by decide +kernel
theorem dX9_goRound_85 : decode cX9_goRound 85 = .ok (.iconst 1, 1) := by decide +kernel
theorem dX9_goRound_86 : decode cX9_goRound 86 = .ok (.goto 4, 3) := by decide +kernel
theorem dX9_goRound_42 : decode cX9_goRound 42 = .ok (.aload_n 0, 1) := by decide +kernel
theorem dX9_goRound_43 : decode cX9_goRound 43 = .ok (.iload_n 2, 1) := by decide +kernel
theorem dX9_goRound_44 : decode cX9_goRound 44 = .ok (.iload 5, 2) := by decide +kernel
theorem dX9_goRound_46 : decode cX9_goRound 46 = .ok (.invokevirtual 54, 3) := by decide +kernel
theorem dX9_goRound_49 : decode cX9_goRound 49 = .ok (.istore 6, 2) := by decide +kernel
theorem dX9_goRound_51 : decode cX9_goRound 51 = .ok (.iload 6, 2) := by decide +kernel
theorem dX9_goRound_53 : decode cX9_goRound 53 = .ok (.iload 4, 2) := by decide +kernel
theorem dX9_goRound_55 : decode cX9_goRound 55 = .ok (.if_icmp .le 10, 3) := by decide +kernel
theorem dX9_goRound_65 : decode cX9_goRound 65 = .ok (.iinc 5 1, 3) := by decide +kernel
theorem dX9_goRound_68 : decode cX9_goRound 68 = .ok (.goto (-35), 3) := by decide +kernel
theorem dX9_goRound_58 : decode cX9_goRound 58 = .ok (.iload 6, 2) := by decide +kernel
theorem dX9_goRound_60 : decode cX9_goRound 60 = .ok (.istore 4, 2) := by decide +kernel
theorem dX9_goRound_62 : decode cX9_goRound 62 = .ok (.iload 5, 2) := by decide +kernel
theorem dX9_goRound_64 : decode cX9_goRound 64 = .ok (.istore_n 3, 1) := by decide +kernel
theorem dX9_part_0 : decode cX9_part 0 = .ok (.iconst 1, 1) := by decide +kernel
theorem dX9_part_1 : decode cX9_part 1 = .ok (.istore_n 1, 1) := by decide +kernel
theorem dX9_part_2 : decode cX9_part 2 = .ok (.iload_n 1, 1) := by decide +kernel
theorem dX9_part_3 : decode cX9_part 3 = .ok (.bipush 30, 2) := by decide +kernel
theorem dX9_part_5 : decode cX9_part 5 = .ok (.if_icmp .gt 18, 3) := by decide +kernel
theorem dX9_part_23 : decode cX9_part 23 = .ok (.bipush 30, 2) := by decide +kernel
theorem dX9_part_25 : decode cX9_part 25 = .ok (.ireturn, 1) := by decide +kernel
theorem dX9_part_8 : decode cX9_part 8 = .ok (.aload_n 0, 1) := by decide +kernel
theorem dX9_part_9 : decode cX9_part 9 = .ok (.invokestatic 50, 3) := by decide +kernel
theorem dX9_part_12 : decode cX9_part 12 = .ok (.ifCond .ne 5, 3) := by decide +kernel
theorem dX9_part_17 : decode cX9_part 17 = .ok (.iinc 1 1, 3) := by decide +kernel
theorem dX9_part_20 : decode cX9_part 20 = .ok (.goto (-18), 3) := by decide +kernel
theorem dX9_part_15 : decode cX9_part 15 = .ok (.iload_n 1, 1) := by decide +kernel
theorem dX9_part_16 : decode cX9_part 16 = .ok (.ireturn, 1) := by decide +kernel
theorem dX9_isFirst_0 : decode cX9_isFirst 0 = .ok (.aload_n 0, 1) := by decide +kernel
theorem dX9_isFirst_1 : decode cX9_isFirst 1 = .ok (.getfield 21, 3) := by decide +kernel
theorem dX9_isFirst_4 : decode cX9_isFirst 4 = .ok (.iload_n 1, 1) := by decide +kernel
theorem dX9_isFirst_5 : decode cX9_isFirst 5 = .ok (.aaload, 1) := by decide +kernel
theorem dX9_isFirst_6 : decode cX9_isFirst 6 = .ok (.astore_n 3, 1) := by decide +kernel
theorem dX9_isFirst_7 : decode cX9_isFirst 7 = .ok (.aload_n 3, 1) := by decide +kernel
theorem dX9_isFirst_8 : decode cX9_isFirst 8 = .ok (.aload_n 3, 1) := by decide +kernel
theorem dX9_isFirst_9 : decode cX9_isFirst 9 = .ok (.getfield 25, 3) := by decide +kernel
theorem dX9_isFirst_12 : decode cX9_isFirst 12 = .ok (.iload_n 2, 1) := by decide +kernel
theorem dX9_isFirst_13 : decode cX9_isFirst 13 = .ok (.invokevirtual 96, 3) := by decide +kernel
theorem dX9_isFirst_16 : decode cX9_isFirst 16 = .ok (.ifCond .ne 5, 3) := by decide +kernel
theorem dX9_isFirst_21 : decode cX9_isFirst 21 = .ok (.iconst 0, 1) := by decide +kernel
theorem dX9_isFirst_22 : decode cX9_isFirst 22 = .ok (.istore 4, 2) := by decide +kernel
theorem dX9_isFirst_24 : decode cX9_isFirst 24 = .ok (.iload 4, 2) := by decide +kernel
theorem dX9_isFirst_26 : decode cX9_isFirst 26 = .ok (.iload_n 1, 1) := by decide +kernel
theorem dX9_isFirst_27 : decode cX9_isFirst 27 = .ok (.if_icmp .ge 49, 3) := by decide +kernel
theorem dX9_isFirst_76 : decode cX9_isFirst 76 = .ok (.iconst 1, 1) := by decide +kernel
theorem dX9_isFirst_77 : decode cX9_isFirst 77 = .ok (.ireturn, 1) := by decide +kernel
theorem dX9_isFirst_30 : decode cX9_isFirst 30 = .ok (.aload_n 0, 1) := by decide +kernel
theorem dX9_isFirst_31 : decode cX9_isFirst 31 = .ok (.getfield 21, 3) := by decide +kernel
theorem dX9_isFirst_34 : decode cX9_isFirst 34 = .ok (.iload 4, 2) := by decide +kernel
theorem dX9_isFirst_36 : decode cX9_isFirst 36 = .ok (.aaload, 1) := by decide +kernel
theorem dX9_isFirst_37 : decode cX9_isFirst 37 = .ok (.astore 5, 2) := by decide +kernel
theorem dX9_isFirst_39 : decode cX9_isFirst 39 = .ok (.aload 5, 2) := by decide +kernel
theorem dX9_isFirst_41 : decode cX9_isFirst 41 = .ok (.getfield 100, 3) := by decide +kernel
theorem dX9_isFirst_44 : decode cX9_isFirst 44 = .ok (.ifCond .ne 26, 3) := by decide +kernel
theorem dX9_isFirst_70 : decode cX9_isFirst 70 = .ok (.iinc 4 1, 3) := by decide +kernel
theorem dX9_isFirst_73 : decode cX9_isFirst 73 = .ok (.goto (-49), 3) := by decide +kernel
theorem dX9_isFirst_47 : decode cX9_isFirst 47 = .ok (.aload 5, 2) := by decide +kernel
theorem dX9_isFirst_49 : decode cX9_isFirst 49 = .ok (.getfield 30, 3) := by decide +kernel
theorem dX9_isFirst_52 : decode cX9_isFirst 52 = .ok (.ifCond .ne 18, 3) := by decide +kernel
theorem dX9_isFirst_55 : decode cX9_isFirst 55 = .ok (.aload 5, 2) := by decide +kernel
theorem dX9_isFirst_57 : decode cX9_isFirst 57 = .ok (.aload_n 3, 1) := by decide +kernel
theorem dX9_isFirst_58 : decode cX9_isFirst 58 = .ok (.getfield 25, 3) := by decide +kernel
theorem dX9_isFirst_61 : decode cX9_isFirst 61 = .ok (.iload_n 2, 1) := by decide +kernel
