theorem dX12_undo_29 : decode cX12_undo 29 = .ok (.if_icmp .ge 32, 3) := by decide +kernel
theorem dX12_undo_61 : decode cX12_undo 61 = .ok (.aload_n 0, 1) := by decide +kernel
theorem dX12_undo_62 : decode cX12_undo 62 = .ok (.getfield 214, 3) := by decide +kernel
theorem dX12_undo_65 : decode cX12_undo 65 = .ok (.ireturn, 1) := by decide +kernel
theorem dX12_undo_32 : decode cX12_undo 32 = .ok (.aload_n 0, 1) := by decide +kernel
theorem dX12_undo_33 : decode cX12_undo 33 = .ok (.getfield 98, 3) := by decide +kernel
theorem dX12_undo_36 : decode cX12_undo 36 = .ok (.bipush 61, 2) := by decide +kernel
theorem dX12_undo_38 : decode cX12_undo 38 = .ok (.iload_n 1, 1) := by decide +kernel
theorem dX12_undo_39 : decode cX12_undo 39 = .ok (.iadd, 1) := by decide +kernel
theorem dX12_undo_40 : decode cX12_undo 40 = .ok (.aload_n 0, 1) := by decide +kernel
theorem dX12_undo_41 : decode cX12_undo 41 = .ok (.getfield 107, 3) := by decide +kernel
theorem dX12_undo_44 : decode cX12_undo 44 = .ok (.bipush 70, 2) := by decide +kernel
theorem dX12_undo_46 : decode cX12_undo 46 = .ok (.aload_n 0, 1) := by decide +kernel
theorem dX12_undo_47 : decode cX12_undo 47 = .ok (.getfield 214, 3) := by decide +kernel
theorem dX12_undo_50 : decode cX12_undo 50 = .ok (.imul, 1) := by decide +kernel
theorem dX12_undo_51 : decode cX12_undo 51 = .ok (.iload_n 1, 1) := by decide +kernel
theorem dX12_undo_52 : decode cX12_undo 52 = .ok (.iadd, 1) := by decide +kernel
theorem dX12_undo_53 : decode cX12_undo 53 = .ok (.iaload, 1) := by decide +kernel
theorem dX12_undo_54 : decode cX12_undo 54 = .ok (.iastore, 1) := by decide +kernel
theorem dX12_undo_55 : decode cX12_undo 55 = .ok (.iinc 1 1, 3) := by decide +kernel
theorem dX12_undo_58 : decode cX12_undo 58 = .ok (.goto (-32), 3) := by decide +kernel
theorem dX12_undo_12 : decode cX12_undo 12 = .ok (.iconst (-1), 1) := by decide +kernel
theorem dX12_undo_13 : decode cX12_undo 13 = .ok (.ireturn, 1) := by decide +kernel
theorem dX12_draw_0 : decode cX12_draw 0 = .ok (.aload_n 0, 1) := by decide +kernel
theorem dX12_draw_1 : decode cX12_draw 1 = .ok (.aload_n 0, 1) := by decide +kernel
theorem dX12_draw_2 : decode cX12_draw 2 = .ok (.getfield 277, 3) := by decide +kernel
theorem dX12_draw_5 : decode cX12_draw 5 = .ok (.ldc_w 280, 3) := by decide +kernel
theorem dX12_draw_8 : decode cX12_draw 8 = .ok (.imul, 1) := by decide +kernel
theorem dX12_draw_9 : decode cX12_draw 9 = .ok (.sipush 12345, 3) := by decide +kernel
theorem dX12_draw_12 : decode cX12_draw 12 = .ok (.iadd, 1) := by decide +kernel
theorem dX12_draw_13 : decode cX12_draw 13 = .ok (.putfield 277, 3) := by decide +kernel
theorem dX12_draw_16 : decode cX12_draw 16 = .ok (.aload_n 0, 1) := by decide +kernel
theorem dX12_draw_17 : decode cX12_draw 17 = .ok (.getfield 277, 3) := by decide +kernel
theorem dX12_draw_20 : decode cX12_draw 20 = .ok (.bipush 8, 2) := by decide +kernel
theorem dX12_draw_22 : decode cX12_draw 22 = .ok (.iushr, 1) := by decide +kernel
theorem dX12_draw_23 : decode cX12_draw 23 = .ok (.iload_n 1, 1) := by decide +kernel
theorem dX12_draw_24 : decode cX12_draw 24 = .ok (.irem, 1) := by decide +kernel
theorem dX12_draw_25 : decode cX12_draw 25 = .ok (.ireturn, 1) := by decide +kernel
theorem dX12_firstThere_0 : decode cX12_firstThere 0 = .ok (.iconst 0, 1) := by decide +kernel
theorem dX12_firstThere_1 : decode cX12_firstThere 1 = .ok (.istore_n 3, 1) := by decide +kernel
theorem dX12_firstThere_2 : decode cX12_firstThere 2 = .ok (.iload_n 3, 1) := by decide +kernel
theorem dX12_firstThere_3 : decode cX12_firstThere 3 = .ok (.aload_n 0, 1) := by decide +kernel
theorem dX12_firstThere_4 : decode cX12_firstThere 4 = .ok (.getfield 98, 3) := by decide +kernel
theorem dX12_firstThere_7 : decode cX12_firstThere 7 = .ok (.iconst 1, 1) := by decide +kernel
theorem dX12_firstThere_8 : decode cX12_firstThere 8 = .ok (.iaload, 1) := by decide +kernel
theorem dX12_firstThere_9 : decode cX12_firstThere 9 = .ok (.if_icmp .ge 48, 3) := by decide +kernel
theorem dX12_firstThere_57 : decode cX12_firstThere 57 = .ok (.iconst (-1), 1) := by decide +kernel
theorem dX12_firstThere_58 : decode cX12_firstThere 58 = .ok (.ireturn, 1) := by decide +kernel
theorem dX12_firstThere_12 : decode cX12_firstThere 12 = .ok (.aload_n 0, 1) := by decide +kernel
theorem dX12_firstThere_13 : decode cX12_firstThere 13 = .ok (.iload_n 3, 1) := by decide +kernel
theorem dX12_firstThere_14 : decode cX12_firstThere 14 = .ok (.invokevirtual 235, 3) := by decide +kernel
theorem dX12_firstThere_17 : decode cX12_firstThere 17 = .ok (.ifCond .ne 34, 3) := by decide +kernel
theorem dX12_firstThere_51 : decode cX12_firstThere 51 = .ok (.iinc 3 1, 3) := by decide +kernel
theorem dX12_firstThere_54 : decode cX12_firstThere 54 = .ok (.goto (-52), 3) := by decide +kernel
theorem dX12_firstThere_20 : decode cX12_firstThere 20 = .ok (.aload_n 0, 1) := by decide +kernel
theorem dX12_firstThere_21 : decode cX12_firstThere 21 = .ok (.getfield 281, 3) := by decide +kernel
theorem dX12_firstThere_24 : decode cX12_firstThere 24 = .ok (.iload_n 3, 1) := by decide +kernel
theorem dX12_firstThere_25 : decode cX12_firstThere 25 = .ok (.invokestatic 217, 3) := by decide +kernel
theorem dX12_firstThere_28 : decode cX12_firstThere 28 = .ok (.ifCond .ne 23, 3) := by decide +kernel
theorem dX12_firstThere_31 : decode cX12_firstThere 31 = .ok (.aload_n 0, 1) := by decide +kernel
theorem dX12_firstThere_32 : decode cX12_firstThere 32 = .ok (.iload_n 3, 1) := by decide +kernel
theorem dX12_firstThere_33 : decode cX12_firstThere 33 = .ok (.invokevirtual 223, 3) := by decide +kernel
theorem dX12_firstThere_36 : decode cX12_firstThere 36 = .ok (.ifCond .ne 15, 3) := by decide +kernel
theorem dX12_firstThere_39 : decode cX12_firstThere 39 = .ok (.aload_n 0, 1) := by decide +kernel
theorem dX12_firstThere_40 : decode cX12_firstThere 40 = .ok (.iload_n 3, 1) := by decide +kernel
theorem dX12_firstThere_41 : decode cX12_firstThere 41 = .ok (.iload_n 1, 1) := by decide +kernel
theorem dX12_firstThere_42 : decode cX12_firstThere 42 = .ok (.iload_n 2, 1) := by decide +kernel
theorem dX12_firstThere_43 : decode cX12_firstThere 43 = .ok (.invokevirtual 284, 3) := by decide +kernel
theorem dX12_firstThere_46 : decode cX12_firstThere 46 = .ok (.ifCond .eq 5, 3) := by decide +kernel
theorem dX12_firstThere_49 : decode cX12_firstThere 49 = .ok (.iload_n 3, 1) := by decide +kernel
theorem dX12_firstThere_50 : decode cX12_firstThere 50 = .ok (.ireturn, 1) := by decide +kernel
theorem dX12_runs_0 : decode cX12_runs 0 = .ok (.aload_n 0, 1) := by decide +kernel
theorem dX12_runs_1 : decode cX12_runs 1 = .ok (.getfield 98, 3) := by decide +kernel
theorem dX12_runs_4 : decode cX12_runs 4 = .ok (.bipush 42, 2) := by decide +kernel
theorem dX12_runs_6 : decode cX12_runs 6 = .ok (.iload_n 1, 1) := by decide +kernel
theorem dX12_runs_7 : decode cX12_runs 7 = .ok (.iadd, 1) := by decide +kernel
theorem dX12_runs_8 : decode cX12_runs 8 = .ok (.iaload, 1) := by decide +kernel
theorem dX12_runs_9 : decode cX12_runs 9 = .ok (.istore_n 3, 1) := by decide +kernel
theorem dX12_runs_10 : decode cX12_runs 10 = .ok (.aload_n 0, 1) := by decide +kernel
theorem dX12_runs_11 : decode cX12_runs 11 = .ok (.getfield 98, 3) := by decide +kernel
theorem dX12_runs_14 : decode cX12_runs 14 = .ok (.bipush 71, 2) := by decide +kernel
theorem dX12_runs_16 : decode cX12_runs 16 = .ok (.iload_n 3, 1) := by decide +kernel
theorem dX12_runs_17 : decode cX12_runs 17 = .ok (.iadd, 1) := by decide +kernel
theorem dX12_runs_18 : decode cX12_runs 18 = .ok (.iaload, 1) := by decide +kernel
theorem dX12_runs_19 : decode cX12_runs 19 = .ok (.istore 4, 2) := by decide +kernel
theorem dX12_runs_21 : decode cX12_runs 21 = .ok (.aload_n 0, 1) := by decide +kernel
theorem dX12_runs_22 : decode cX12_runs 22 = .ok (.getfield 98, 3) := by decide +kernel
theorem dX12_runs_25 : decode cX12_runs 25 = .ok (.bipush 64, 2) := by decide +kernel
theorem dX12_runs_27 : decode cX12_runs 27 = .ok (.iaload, 1) := by decide +kernel
theorem dX12_runs_28 : decode cX12_runs 28 = .ok (.iload_n 1, 1) := by decide +kernel
theorem dX12_runs_29 : decode cX12_runs 29 = .ok (.invokestatic 217, 3) := by decide +kernel
theorem dX12_runs_32 : decode cX12_runs 32 = .ok (.ifCond .ne 22, 3) := by decide +kernel
theorem dX12_runs_54 : decode cX12_runs 54 = .ok (.return_, 1) := by decide +kernel
theorem dX12_runs_35 : decode cX12_runs 35 = .ok (.aload_n 0, 1) := by decide +kernel
theorem dX12_runs_36 : decode cX12_runs 36 = .ok (.iload_n 3, 1) := by decide +kernel
theorem dX12_runs_37 : decode cX12_runs 37 = .ok (.invokevirtual 235, 3) := by decide +kernel
theorem dX12_runs_40 : decode cX12_runs 40 = .ok (.ifCond .ne 14, 3) := by decide +kernel
theorem dX12_runs_43 : decode cX12_runs 43 = .ok (.aload_n 0, 1) := by decide +kernel
theorem dX12_runs_44 : decode cX12_runs 44 = .ok (.iload_n 3, 1) := by decide +kernel
theorem dX12_runs_45 : decode cX12_runs 45 = .ok (.iload 4, 2) := by decide +kernel
theorem dX12_runs_47 : decode cX12_runs 47 = .ok (.iload_n 2, 1) := by decide +kernel
theorem dX12_runs_48 : decode cX12_runs 48 = .ok (.invokevirtual 284, 3) := by decide +kernel
theorem dX12_runs_51 : decode cX12_runs 51 = .ok (.ifCond .ne 4, 3) := by decide +kernel
theorem dX12_runs_55 : decode cX12_runs 55 = .ok (.aload_n 0, 1) := by decide +kernel
theorem dX12_runs_56 : decode cX12_runs 56 = .ok (.getfield 98, 3) := by decide +kernel
theorem dX12_runs_59 : decode cX12_runs 59 = .ok (.bipush 66, 2) := by decide +kernel
theorem dX12_runs_61 : decode cX12_runs 61 = .ok (.iload 4, 2) := by decide +kernel
theorem dX12_runs_63 : decode cX12_runs 63 = .ok (.iadd, 1) := by decide +kernel
theorem dX12_runs_64 : decode cX12_runs 64 = .ok (.iaload, 1) := by decide +kernel
theorem dX12_runs_65 : decode cX12_runs 65 = .ok (.iload_n 2, 1) := by decide +kernel
theorem dX12_runs_66 : decode cX12_runs 66 = .ok (.invokestatic 217, 3) := by decide +kernel
theorem dX12_runs_69 : decode cX12_runs 69 = .ok (.ifCond .ne 20, 3) := by decide +kernel
theorem dX12_runs_89 : decode cX12_runs 89 = .ok (.aload_n 0, 1) := by decide +kernel
theorem dX12_runs_90 : decode cX12_runs 90 = .ok (.iload 4, 2) := by decide +kernel
theorem dX12_runs_92 : decode cX12_runs 92 = .ok (.invokevirtual 229, 3) := by decide +kernel
theorem dX12_runs_95 : decode cX12_runs 95 = .ok (.ifCond .eq 4, 3) := by decide +kernel
theorem dX12_runs_98 : decode cX12_runs 98 = .ok (.return_, 1) := by decide +kernel
theorem dX12_runs_99 : decode cX12_runs 99 = .ok (.aload_n 0, 1) := by decide +kernel
theorem dX12_runs_100 : decode cX12_runs 100 = .ok (.iload 4, 2) := by decide +kernel
theorem dX12_runs_102 : decode cX12_runs 102 = .ok (.iload_n 2, 1) := by decide +kernel
theorem dX12_runs_103 : decode cX12_runs 103 = .ok (.invokevirtual 290, 3) := by decide +kernel
theorem dX12_runs_106 : decode cX12_runs 106 = .ok (.istore 5, 2) := by decide +kernel
theorem dX12_runs_108 : decode cX12_runs 108 = .ok (.iload 5, 2) := by decide +kernel
theorem dX12_runs_110 : decode cX12_runs 110 = .ok (.iconst (-1), 1) := by decide +kernel
theorem dX12_runs_111 : decode cX12_runs 111 = .ok (.if_icmp .eq 21, 3) := by decide +kernel
theorem dX12_runs_132 : decode cX12_runs 132 = .ok (.return_, 1) := by decide +kernel
theorem dX12_runs_114 : decode cX12_runs 114 = .ok (.aload_n 0, 1) := by decide +kernel
theorem dX12_runs_115 : decode cX12_runs 115 = .ok (.bipush 12, 2) := by decide +kernel
theorem dX12_runs_117 : decode cX12_runs 117 = .ok (.invokevirtual 287, 3) := by decide +kernel
theorem dX12_runs_120 : decode cX12_runs 120 = .ok (.aload_n 0, 1) := by decide +kernel
theorem dX12_runs_121 : decode cX12_runs 121 = .ok (.getfield 98, 3) := by decide +kernel
theorem dX12_runs_124 : decode cX12_runs 124 = .ok (.bipush 48, 2) := by decide +kernel
theorem dX12_runs_126 : decode cX12_runs 126 = .ok (.iload_n 1, 1) := by decide +kernel
theorem dX12_runs_127 : decode cX12_runs 127 = .ok (.iadd, 1) := by decide +kernel
theorem dX12_runs_128 : decode cX12_runs 128 = .ok (.iaload, 1) := by decide +kernel
theorem dX12_runs_129 : decode cX12_runs 129 = .ok (.if_icmp .ge 4, 3) := by decide +kernel
theorem dX12_runs_133 : decode cX12_runs 133 = .ok (.aload_n 0, 1) := by decide +kernel
theorem dX12_runs_134 : decode cX12_runs 134 = .ok (.dup, 1) := by decide +kernel
theorem dX12_runs_135 : decode cX12_runs 135 = .ok (.getfield 281, 3) := by decide +kernel
theorem dX12_runs_138 : decode cX12_runs 138 = .ok (.iconst 1, 1) := by decide +kernel
theorem dX12_runs_139 : decode cX12_runs 139 = .ok (.iload 5, 2) := by decide +kernel
theorem dX12_runs_141 : decode cX12_runs 141 = .ok (.ishl, 1) := by decide +kernel
theorem dX12_runs_142 : decode cX12_runs 142 = .ok (.ior, 1) := by decide +kernel
theorem dX12_runs_143 : decode cX12_runs 143 = .ok (.putfield 281, 3) := by decide +kernel
theorem dX12_runs_146 : decode cX12_runs 146 = .ok (.aload_n 0, 1) := by decide +kernel
theorem dX12_runs_147 : decode cX12_runs 147 = .ok (.getfield 98, 3) := by decide +kernel
theorem dX12_runs_150 : decode cX12_runs 150 = .ok (.bipush 103, 2) := by decide +kernel
theorem dX12_runs_152 : decode cX12_runs 152 = .ok (.iload 5, 2) := by decide +kernel
theorem dX12_runs_154 : decode cX12_runs 154 = .ok (.iadd, 1) := by decide +kernel
theorem dX12_runs_155 : decode cX12_runs 155 = .ok (.dup2, 1) := by decide +kernel
theorem dX12_runs_156 : decode cX12_runs 156 = .ok (.iaload, 1) := by decide +kernel
theorem dX12_runs_157 : decode cX12_runs 157 = .ok (.iconst 1, 1) := by decide +kernel
theorem dX12_runs_158 : decode cX12_runs 158 = .ok (.iadd, 1) := by decide +kernel
theorem dX12_runs_159 : decode cX12_runs 159 = .ok (.iastore, 1) := by decide +kernel
theorem dX12_runs_160 : decode cX12_runs 160 = .ok (.aload_n 0, 1) := by decide +kernel
theorem dX12_runs_161 : decode cX12_runs 161 = .ok (.getfield 98, 3) := by decide +kernel
theorem dX12_runs_164 : decode cX12_runs 164 = .ok (.bipush 63, 2) := by decide +kernel
theorem dX12_runs_166 : decode cX12_runs 166 = .ok (.dup2, 1) := by decide +kernel
theorem dX12_runs_167 : decode cX12_runs 167 = .ok (.iaload, 1) := by decide +kernel
theorem dX12_runs_168 : decode cX12_runs 168 = .ok (.iconst 1, 1) := by decide +kernel
theorem dX12_runs_169 : decode cX12_runs 169 = .ok (.iadd, 1) := by decide +kernel
theorem dX12_runs_170 : decode cX12_runs 170 = .ok (.iastore, 1) := by decide +kernel
theorem dX12_runs_171 : decode cX12_runs 171 = .ok (.aload_n 0, 1) := by decide +kernel
theorem dX12_runs_172 : decode cX12_runs 172 = .ok (.getfield 98, 3) := by decide +kernel
theorem dX12_runs_175 : decode cX12_runs 175 = .ok (.bipush 119, 2) := by decide +kernel
theorem dX12_runs_177 : decode cX12_runs 177 = .ok (.iload_n 1, 1) := by decide +kernel
theorem dX12_runs_178 : decode cX12_runs 178 = .ok (.iadd, 1) := by decide +kernel
theorem dX12_runs_179 : decode cX12_runs 179 = .ok (.dup2, 1) := by decide +kernel
theorem dX12_runs_180 : decode cX12_runs 180 = .ok (.iaload, 1) := by decide +kernel
theorem dX12_runs_181 : decode cX12_runs 181 = .ok (.iconst 1, 1) := by decide +kernel
theorem dX12_runs_182 : decode cX12_runs 182 = .ok (.iadd, 1) := by decide +kernel
theorem dX12_runs_183 : decode cX12_runs 183 = .ok (.iastore, 1) := by decide +kernel
theorem dX12_runs_184 : decode cX12_runs 184 = .ok (.aload_n 0, 1) := by decide +kernel
theorem dX12_runs_185 : decode cX12_runs 185 = .ok (.bipush 12, 2) := by decide +kernel
theorem dX12_runs_187 : decode cX12_runs 187 = .ok (.invokevirtual 287, 3) := by decide +kernel
theorem dX12_runs_190 : decode cX12_runs 190 = .ok (.aload_n 0, 1) := by decide +kernel
theorem dX12_runs_191 : decode cX12_runs 191 = .ok (.getfield 98, 3) := by decide +kernel
theorem dX12_runs_194 : decode cX12_runs 194 = .ok (.bipush 54, 2) := by decide +kernel
theorem dX12_runs_196 : decode cX12_runs 196 = .ok (.iload_n 1, 1) := by decide +kernel
theorem dX12_runs_197 : decode cX12_runs 197 = .ok (.iadd, 1) := by decide +kernel
theorem dX12_runs_198 : decode cX12_runs 198 = .ok (.iaload, 1) := by decide +kernel
theorem dX12_runs_199 : decode cX12_runs 199 = .ok (.if_icmp .lt 4, 3) := by decide +kernel
theorem dX12_runs_203 : decode cX12_runs 203 = .ok (.aload_n 0, 1) := by decide +kernel
theorem dX12_runs_204 : decode cX12_runs 204 = .ok (.getfield 98, 3) := by decide +kernel
theorem dX12_runs_207 : decode cX12_runs 207 = .ok (.bipush 111, 2) := by decide +kernel
theorem dX12_runs_209 : decode cX12_runs 209 = .ok (.iload 5, 2) := by decide +kernel
theorem dX12_runs_211 : decode cX12_runs 211 = .ok (.iadd, 1) := by decide +kernel
theorem dX12_runs_212 : decode cX12_runs 212 = .ok (.dup2, 1) := by decide +kernel
theorem dX12_runs_213 : decode cX12_runs 213 = .ok (.iaload, 1) := by decide +kernel
theorem dX12_runs_214 : decode cX12_runs 214 = .ok (.iconst 1, 1) := by decide +kernel
theorem dX12_runs_215 : decode cX12_runs 215 = .ok (.iadd, 1) := by decide +kernel
theorem dX12_runs_216 : decode cX12_runs 216 = .ok (.iastore, 1) := by decide +kernel
theorem dX12_runs_217 : decode cX12_runs 217 = .ok (.aload_n 0, 1) := by decide +kernel
theorem dX12_runs_218 : decode cX12_runs 218 = .ok (.getfield 98, 3) := by decide +kernel
theorem dX12_runs_221 : decode cX12_runs 221 = .ok (.bipush 125, 2) := by decide +kernel
theorem dX12_runs_223 : decode cX12_runs 223 = .ok (.iload_n 1, 1) := by decide +kernel
theorem dX12_runs_224 : decode cX12_runs 224 = .ok (.iadd, 1) := by decide +kernel
theorem dX12_runs_225 : decode cX12_runs 225 = .ok (.dup2, 1) := by decide +kernel
theorem dX12_runs_226 : decode cX12_runs 226 = .ok (.iaload, 1) := by decide +kernel
theorem dX12_runs_227 : decode cX12_runs 227 = .ok (.iconst 1, 1) := by decide +kernel
theorem dX12_runs_228 : decode cX12_runs 228 = .ok (.iadd, 1) := by decide +kernel
theorem dX12_runs_229 : decode cX12_runs 229 = .ok (.iastore, 1) := by decide +kernel
theorem dX12_runs_230 : decode cX12_runs 230 = .ok (.return_, 1) := by decide +kernel
theorem dX12_runs_202 : decode cX12_runs 202 = .ok (.return_, 1) := by decide +kernel
theorem dX12_runs_72 : decode cX12_runs 72 = .ok (.aload_n 0, 1) := by decide +kernel
theorem dX12_runs_73 : decode cX12_runs 73 = .ok (.bipush 12, 2) := by decide +kernel
theorem dX12_runs_75 : decode cX12_runs 75 = .ok (.invokevirtual 287, 3) := by decide +kernel
theorem dX12_runs_78 : decode cX12_runs 78 = .ok (.aload_n 0, 1) := by decide +kernel
theorem dX12_runs_79 : decode cX12_runs 79 = .ok (.getfield 98, 3) := by decide +kernel
theorem dX12_runs_82 : decode cX12_runs 82 = .ok (.bipush 62, 2) := by decide +kernel
theorem dX12_runs_84 : decode cX12_runs 84 = .ok (.iaload, 1) := by decide +kernel
theorem dX12_runs_85 : decode cX12_runs 85 = .ok (.if_icmp .lt 4, 3) := by decide +kernel
theorem dX12_runs_88 : decode cX12_runs 88 = .ok (.return_, 1) := by decide +kernel
theorem dX12_oneDay_0 : decode cX12_oneDay 0 = .ok (.aload_n 0, 1) := by decide +kernel
theorem dX12_oneDay_1 : decode cX12_oneDay 1 = .ok (.iconst 0, 1) := by decide +kernel
theorem dX12_oneDay_2 : decode cX12_oneDay 2 = .ok (.putfield 281, 3) := by decide +kernel
theorem dX12_oneDay_5 : decode cX12_oneDay 5 = .ok (.iconst 0, 1) := by decide +kernel
theorem dX12_oneDay_6 : decode cX12_oneDay 6 = .ok (.istore_n 1, 1) := by decide +kernel
theorem dX12_oneDay_7 : decode cX12_oneDay 7 = .ok (.iload_n 1, 1) := by decide +kernel
theorem dX12_oneDay_8 : decode cX12_oneDay 8 = .ok (.bipush 24, 2) := by decide +kernel
theorem dX12_oneDay_10 : decode cX12_oneDay 10 = .ok (.if_icmp .ge 33, 3) := by decide +kernel
theorem dX12_oneDay_43 : decode cX12_oneDay 43 = .ok (.iconst 0, 1) := by decide +kernel
theorem dX12_oneDay_44 : decode cX12_oneDay 44 = .ok (.istore_n 1, 1) := by decide +kernel
theorem dX12_oneDay_45 : decode cX12_oneDay 45 = .ok (.iload_n 1, 1) := by decide +kernel
theorem dX12_oneDay_46 : decode cX12_oneDay 46 = .ok (.aload_n 0, 1) := by decide +kernel
theorem dX12_oneDay_47 : decode cX12_oneDay 47 = .ok (.getfield 98, 3) := by decide +kernel
theorem dX12_oneDay_50 : decode cX12_oneDay 50 = .ok (.iconst 1, 1) := by decide +kernel
theorem dX12_oneDay_51 : decode cX12_oneDay 51 = .ok (.iaload, 1) := by decide +kernel
theorem dX12_oneDay_52 : decode cX12_oneDay 52 = .ok (.if_icmp .ge 62, 3) := by decide +kernel
theorem dX12_oneDay_114 : decode cX12_oneDay 114 = .ok (.aload_n 0, 1) := by decide +kernel
theorem dX12_oneDay_115 : decode cX12_oneDay 115 = .ok (.getfield 98, 3) := by decide +kernel
theorem dX12_oneDay_118 : decode cX12_oneDay 118 = .ok (.bipush 61, 2) := by decide +kernel
theorem dX12_oneDay_120 : decode cX12_oneDay 120 = .ok (.dup2, 1) := by decide +kernel
theorem dX12_oneDay_121 : decode cX12_oneDay 121 = .ok (.iaload, 1) := by decide +kernel
theorem dX12_oneDay_122 : decode cX12_oneDay 122 = .ok (.iconst 1, 1) := by decide +kernel
theorem dX12_oneDay_123 : decode cX12_oneDay 123 = .ok (.iadd, 1) := by decide +kernel
theorem dX12_oneDay_124 : decode cX12_oneDay 124 = .ok (.iastore, 1) := by decide +kernel
theorem dX12_oneDay_125 : decode cX12_oneDay 125 = .ok (.return_, 1) := by decide +kernel
theorem dX12_oneDay_55 : decode cX12_oneDay 55 = .ok (.aload_n 0, 1) := by decide +kernel
theorem dX12_oneDay_56 : decode cX12_oneDay 56 = .ok (.getfield 281, 3) := by decide +kernel
theorem dX12_oneDay_59 : decode cX12_oneDay 59 = .ok (.iload_n 1, 1) := by decide +kernel
theorem dX12_oneDay_60 : decode cX12_oneDay 60 = .ok (.invokestatic 217, 3) := by decide +kernel
theorem dX12_oneDay_63 : decode cX12_oneDay 63 = .ok (.ifCond .eq 24, 3) := by decide +kernel
theorem dX12_oneDay_66 : decode cX12_oneDay 66 = .ok (.aload_n 0, 1) := by decide +kernel
theorem dX12_oneDay_67 : decode cX12_oneDay 67 = .ok (.getfield 98, 3) := by decide +kernel
theorem dX12_oneDay_70 : decode cX12_oneDay 70 = .ok (.bipush 95, 2) := by decide +kernel
theorem dX12_oneDay_72 : decode cX12_oneDay 72 = .ok (.iload_n 1, 1) := by decide +kernel
theorem dX12_oneDay_73 : decode cX12_oneDay 73 = .ok (.iadd, 1) := by decide +kernel
theorem dX12_oneDay_74 : decode cX12_oneDay 74 = .ok (.aload_n 0, 1) := by decide +kernel
theorem dX12_oneDay_75 : decode cX12_oneDay 75 = .ok (.getfield 98, 3) := by decide +kernel
theorem dX12_oneDay_78 : decode cX12_oneDay 78 = .ok (.bipush 34, 2) := by decide +kernel
theorem dX12_oneDay_80 : decode cX12_oneDay 80 = .ok (.iload_n 1, 1) := by decide +kernel
theorem dX12_oneDay_81 : decode cX12_oneDay 81 = .ok (.iadd, 1) := by decide +kernel
theorem dX12_oneDay_82 : decode cX12_oneDay 82 = .ok (.iaload, 1) := by decide +kernel
theorem dX12_oneDay_83 : decode cX12_oneDay 83 = .ok (.iastore, 1) := by decide +kernel
theorem dX12_oneDay_84 : decode cX12_oneDay 84 = .ok (.goto 24, 3) := by decide +kernel
theorem dX12_oneDay_108 : decode cX12_oneDay 108 = .ok (.iinc 1 1, 3) := by decide +kernel
theorem dX12_oneDay_111 : decode cX12_oneDay 111 = .ok (.goto (-66), 3) := by decide +kernel
theorem dX12_oneDay_87 : decode cX12_oneDay 87 = .ok (.aload_n 0, 1) := by decide +kernel
theorem dX12_oneDay_88 : decode cX12_oneDay 88 = .ok (.iload_n 1, 1) := by decide +kernel
theorem dX12_oneDay_89 : decode cX12_oneDay 89 = .ok (.invokevirtual 235, 3) := by decide +kernel
theorem dX12_oneDay_92 : decode cX12_oneDay 92 = .ok (.ifCond .eq 16, 3) := by decide +kernel
theorem dX12_oneDay_95 : decode cX12_oneDay 95 = .ok (.aload_n 0, 1) := by decide +kernel
theorem dX12_oneDay_96 : decode cX12_oneDay 96 = .ok (.getfield 98, 3) := by decide +kernel
theorem dX12_oneDay_99 : decode cX12_oneDay 99 = .ok (.bipush 95, 2) := by decide +kernel
theorem dX12_oneDay_101 : decode cX12_oneDay 101 = .ok (.iload_n 1, 1) := by decide +kernel
theorem dX12_oneDay_102 : decode cX12_oneDay 102 = .ok (.iadd, 1) := by decide +kernel
theorem dX12_oneDay_103 : decode cX12_oneDay 103 = .ok (.dup2, 1) := by decide +kernel
theorem dX12_oneDay_104 : decode cX12_oneDay 104 = .ok (.iaload, 1) := by decide +kernel
theorem dX12_oneDay_105 : decode cX12_oneDay 105 = .ok (.iconst 1, 1) := by decide +kernel
theorem dX12_oneDay_106 : decode cX12_oneDay 106 = .ok (.isub, 1) := by decide +kernel
theorem dX12_oneDay_107 : decode cX12_oneDay 107 = .ok (.iastore, 1) := by decide +kernel
theorem dX12_oneDay_13 : decode cX12_oneDay 13 = .ok (.iconst 0, 1) := by decide +kernel
theorem dX12_oneDay_14 : decode cX12_oneDay 14 = .ok (.istore_n 2, 1) := by decide +kernel
theorem dX12_oneDay_15 : decode cX12_oneDay 15 = .ok (.iload_n 2, 1) := by decide +kernel
theorem dX12_oneDay_16 : decode cX12_oneDay 16 = .ok (.aload_n 0, 1) := by decide +kernel
theorem dX12_oneDay_17 : decode cX12_oneDay 17 = .ok (.getfield 98, 3) := by decide +kernel
theorem dX12_oneDay_20 : decode cX12_oneDay 20 = .ok (.iconst 2, 1) := by decide +kernel
theorem dX12_oneDay_21 : decode cX12_oneDay 21 = .ok (.iaload, 1) := by decide +kernel
theorem dX12_oneDay_22 : decode cX12_oneDay 22 = .ok (.if_icmp .ge 15, 3) := by decide +kernel
theorem dX12_oneDay_37 : decode cX12_oneDay 37 = .ok (.iinc 1 1, 3) := by decide +kernel
theorem dX12_oneDay_40 : decode cX12_oneDay 40 = .ok (.goto (-33), 3) := by decide +kernel
theorem dX12_oneDay_25 : decode cX12_oneDay 25 = .ok (.aload_n 0, 1) := by decide +kernel
theorem dX12_oneDay_26 : decode cX12_oneDay 26 = .ok (.iload_n 2, 1) := by decide +kernel
theorem dX12_oneDay_27 : decode cX12_oneDay 27 = .ok (.iload_n 1, 1) := by decide +kernel
theorem dX12_oneDay_28 : decode cX12_oneDay 28 = .ok (.invokevirtual 293, 3) := by decide +kernel
theorem dX12_oneDay_31 : decode cX12_oneDay 31 = .ok (.iinc 2 1, 3) := by decide +kernel
theorem dX12_oneDay_34 : decode cX12_oneDay 34 = .ok (.goto (-19), 3) := by decide +kernel
theorem dX12_passDays_0 : decode cX12_passDays 0 = .ok (.aload_n 0, 1) := by decide +kernel
theorem dX12_passDays_1 : decode cX12_passDays 1 = .ok (.iload_n 2, 1) := by decide +kernel
theorem dX12_passDays_2 : decode cX12_passDays 2 = .ok (.putfield 277, 3) := by decide +kernel
theorem dX12_passDays_5 : decode cX12_passDays 5 = .ok (.iload_n 1, 1) := by decide +kernel
theorem dX12_passDays_6 : decode cX12_passDays 6 = .ok (.sipush 400, 3) := by decide +kernel
theorem dX12_passDays_9 : decode cX12_passDays 9 = .ok (.aload_n 0, 1) := by decide +kernel
theorem dX12_passDays_10 : decode cX12_passDays 10 = .ok (.getfield 98, 3) := by decide +kernel
theorem dX12_passDays_13 : decode cX12_passDays 13 = .ok (.bipush 61, 2) := by decide +kernel
theorem dX12_passDays_15 : decode cX12_passDays 15 = .ok (.iaload, 1) := by decide +kernel
theorem dX12_passDays_16 : decode cX12_passDays 16 = .ok (.isub, 1) := by decide +kernel
theorem dX12_passDays_17 : decode cX12_passDays 17 = .ok (.invokestatic 297, 3) := by decide +kernel
theorem dX12_passDays_20 : decode cX12_passDays 20 = .ok (.istore_n 3, 1) := by decide +kernel
theorem dX12_passDays_21 : decode cX12_passDays 21 = .ok (.iconst 0, 1) := by decide +kernel
theorem dX12_passDays_22 : decode cX12_passDays 22 = .ok (.istore 4, 2) := by decide +kernel
theorem dX12_passDays_24 : decode cX12_passDays 24 = .ok (.iload 4, 2) := by decide +kernel
theorem dX12_passDays_26 : decode cX12_passDays 26 = .ok (.iload_n 3, 1) := by decide +kernel
theorem dX12_passDays_27 : decode cX12_passDays 27 = .ok (.if_icmp .ge 13, 3) := by decide +kernel
theorem dX12_passDays_40 : decode cX12_passDays 40 = .ok (.iload_n 3, 1) := by decide +kernel
theorem dX12_passDays_41 : decode cX12_passDays 41 = .ok (.ireturn, 1) := by decide +kernel
theorem dX12_passDays_30 : decode cX12_passDays 30 = .ok (.aload_n 0, 1) := by decide +kernel
theorem dX12_passDays_31 : decode cX12_passDays 31 = .ok (.invokevirtual 300, 3) := by decide +kernel
theorem dX12_passDays_34 : decode cX12_passDays 34 = .ok (.iinc 4 1, 3) := by decide +kernel
theorem dX12_passDays_37 : decode cX12_passDays 37 = .ok (.goto (-13), 3) := by decide +kernel
theorem dX12_days_0 : decode cX12_days 0 = .ok (.aload_n 0, 1) := by decide +kernel
theorem dX12_days_1 : decode cX12_days 1 = .ok (.iconst 0, 1) := by decide +kernel
theorem dX12_days_2 : decode cX12_days 2 = .ok (.putfield 1, 3) := by decide +kernel
theorem dX12_days_5 : decode cX12_days 5 = .ok (.iload_n 1, 1) := by decide +kernel
theorem dX12_days_6 : decode cX12_days 6 = .ok (.iconst 1, 1) := by decide +kernel
theorem dX12_days_7 : decode cX12_days 7 = .ok (.bipush 30, 2) := by decide +kernel
theorem dX12_days_9 : decode cX12_days 9 = .ok (.invokestatic 75, 3) := by decide +kernel
theorem dX12_days_12 : decode cX12_days 12 = .ok (.ifCond .ne 5, 3) := by decide +kernel
theorem dX12_days_17 : decode cX12_days 17 = .ok (.aload_n 0, 1) := by decide +kernel
theorem dX12_days_18 : decode cX12_days 18 = .ok (.getfield 98, 3) := by decide +kernel
theorem dX12_days_21 : decode cX12_days 21 = .ok (.bipush 61, 2) := by decide +kernel
theorem dX12_days_23 : decode cX12_days 23 = .ok (.iaload, 1) := by decide +kernel
theorem dX12_days_24 : decode cX12_days 24 = .ok (.sipush 400, 3) := by decide +kernel
theorem dX12_days_27 : decode cX12_days 27 = .ok (.if_icmp .ne 5, 3) := by decide +kernel
theorem dX12_days_32 : decode cX12_days 32 = .ok (.aload_n 0, 1) := by decide +kernel
theorem dX12_days_33 : decode cX12_days 33 = .ok (.invokevirtual 264, 3) := by decide +kernel
theorem dX12_days_36 : decode cX12_days 36 = .ok (.aload_n 0, 1) := by decide +kernel
theorem dX12_days_37 : decode cX12_days 37 = .ok (.iload_n 1, 1) := by decide +kernel
theorem dX12_days_38 : decode cX12_days 38 = .ok (.iload_n 2, 1) := by decide +kernel
theorem dX12_days_39 : decode cX12_days 39 = .ok (.invokevirtual 303, 3) := by decide +kernel
theorem dX12_days_42 : decode cX12_days 42 = .ok (.ireturn, 1) := by decide +kernel
theorem dX12_days_30 : decode cX12_days 30 = .ok (.iconst 0, 1) := by decide +kernel
theorem dX12_days_31 : decode cX12_days 31 = .ok (.ireturn, 1) := by decide +kernel
theorem dX12_days_15 : decode cX12_days 15 = .ok (.iconst (-1), 1) := by decide +kernel
theorem dX12_days_16 : decode cX12_days 16 = .ok (.ireturn, 1) := by decide +kernel
