theorem dX12_layPerils_111 : decode cX12_layPerils 111 = .ok (.bipush 42, 2) := by decide +kernel
theorem dX12_layPerils_113 : decode cX12_layPerils 113 = .ok (.iload 6, 2) := by decide +kernel
theorem dX12_layPerils_115 : decode cX12_layPerils 115 = .ok (.iadd, 1) := by decide +kernel
theorem dX12_layPerils_116 : decode cX12_layPerils 116 = .ok (.iaload, 1) := by decide +kernel
theorem dX12_layPerils_117 : decode cX12_layPerils 117 = .ok (.istore 7, 2) := by decide +kernel
theorem dX12_layPerils_119 : decode cX12_layPerils 119 = .ok (.aload_n 0, 1) := by decide +kernel
theorem dX12_layPerils_120 : decode cX12_layPerils 120 = .ok (.getfield 98, 3) := by decide +kernel
theorem dX12_layPerils_123 : decode cX12_layPerils 123 = .ok (.bipush 64, 2) := by decide +kernel
theorem dX12_layPerils_125 : decode cX12_layPerils 125 = .ok (.iaload, 1) := by decide +kernel
theorem dX12_layPerils_126 : decode cX12_layPerils 126 = .ok (.iload 6, 2) := by decide +kernel
theorem dX12_layPerils_128 : decode cX12_layPerils 128 = .ok (.invokestatic 217, 3) := by decide +kernel
theorem dX12_layPerils_131 : decode cX12_layPerils 131 = .ok (.ifCond .ne 152, 3) := by decide +kernel
theorem dX12_layPerils_283 : decode cX12_layPerils 283 = .ok (.iinc 6 1, 3) := by decide +kernel
theorem dX12_layPerils_286 : decode cX12_layPerils 286 = .ok (.goto (-190), 3) := by decide +kernel
theorem dX12_layPerils_134 : decode cX12_layPerils 134 = .ok (.aload_n 0, 1) := by decide +kernel
theorem dX12_layPerils_135 : decode cX12_layPerils 135 = .ok (.iload 7, 2) := by decide +kernel
theorem dX12_layPerils_137 : decode cX12_layPerils 137 = .ok (.invokevirtual 235, 3) := by decide +kernel
theorem dX12_layPerils_140 : decode cX12_layPerils 140 = .ok (.ifCond .ne 143, 3) := by decide +kernel
theorem dX12_layPerils_143 : decode cX12_layPerils 143 = .ok (.aload_n 0, 1) := by decide +kernel
theorem dX12_layPerils_144 : decode cX12_layPerils 144 = .ok (.iload 7, 2) := by decide +kernel
theorem dX12_layPerils_146 : decode cX12_layPerils 146 = .ok (.iload_n 2, 1) := by decide +kernel
theorem dX12_layPerils_147 : decode cX12_layPerils 147 = .ok (.iload 5, 2) := by decide +kernel
theorem dX12_layPerils_149 : decode cX12_layPerils 149 = .ok (.invokevirtual 284, 3) := by decide +kernel
theorem dX12_layPerils_152 : decode cX12_layPerils 152 = .ok (.ifCond .ne 6, 3) := by decide +kernel
theorem dX12_layPerils_158 : decode cX12_layPerils 158 = .ok (.iinc 4 1, 3) := by decide +kernel
theorem dX12_layPerils_161 : decode cX12_layPerils 161 = .ok (.iload 4, 2) := by decide +kernel
theorem dX12_layPerils_163 : decode cX12_layPerils 163 = .ok (.bipush 8, 2) := by decide +kernel
theorem dX12_layPerils_165 : decode cX12_layPerils 165 = .ok (.if_icmp .le 6, 3) := by decide +kernel
theorem dX12_layPerils_171 : decode cX12_layPerils 171 = .ok (.aload_n 0, 1) := by decide +kernel
theorem dX12_layPerils_172 : decode cX12_layPerils 172 = .ok (.getfield 98, 3) := by decide +kernel
theorem dX12_layPerils_175 : decode cX12_layPerils 175 = .ok (.bipush 66, 2) := by decide +kernel
theorem dX12_layPerils_177 : decode cX12_layPerils 177 = .ok (.iload_n 2, 1) := by decide +kernel
theorem dX12_layPerils_178 : decode cX12_layPerils 178 = .ok (.iadd, 1) := by decide +kernel
theorem dX12_layPerils_179 : decode cX12_layPerils 179 = .ok (.iaload, 1) := by decide +kernel
theorem dX12_layPerils_180 : decode cX12_layPerils 180 = .ok (.iload 5, 2) := by decide +kernel
theorem dX12_layPerils_182 : decode cX12_layPerils 182 = .ok (.invokestatic 217, 3) := by decide +kernel
theorem dX12_layPerils_185 : decode cX12_layPerils 185 = .ok (.istore 8, 2) := by decide +kernel
theorem dX12_layPerils_187 : decode cX12_layPerils 187 = .ok (.iload 8, 2) := by decide +kernel
theorem dX12_layPerils_189 : decode cX12_layPerils 189 = .ok (.ifCond .eq 8, 3) := by decide +kernel
theorem dX12_layPerils_192 : decode cX12_layPerils 192 = .ok (.bipush 12, 2) := by decide +kernel
theorem dX12_layPerils_194 : decode cX12_layPerils 194 = .ok (.goto 10, 3) := by decide +kernel
theorem dX12_layPerils_204 : decode cX12_layPerils 204 = .ok (.bipush 12, 2) := by decide +kernel
theorem dX12_layPerils_206 : decode cX12_layPerils 206 = .ok (.aload_n 0, 1) := by decide +kernel
theorem dX12_layPerils_207 : decode cX12_layPerils 207 = .ok (.getfield 98, 3) := by decide +kernel
theorem dX12_layPerils_210 : decode cX12_layPerils 210 = .ok (.bipush 48, 2) := by decide +kernel
theorem dX12_layPerils_212 : decode cX12_layPerils 212 = .ok (.iload 6, 2) := by decide +kernel
theorem dX12_layPerils_214 : decode cX12_layPerils 214 = .ok (.iadd, 1) := by decide +kernel
theorem dX12_layPerils_215 : decode cX12_layPerils 215 = .ok (.iaload, 1) := by decide +kernel
theorem dX12_layPerils_216 : decode cX12_layPerils 216 = .ok (.isub, 1) := by decide +kernel
theorem dX12_layPerils_217 : decode cX12_layPerils 217 = .ok (.imul, 1) := by decide +kernel
theorem dX12_layPerils_218 : decode cX12_layPerils 218 = .ok (.istore 9, 2) := by decide +kernel
theorem dX12_layPerils_220 : decode cX12_layPerils 220 = .ok (.aload_n 0, 1) := by decide +kernel
theorem dX12_layPerils_221 : decode cX12_layPerils 221 = .ok (.dup, 1) := by decide +kernel
theorem dX12_layPerils_222 : decode cX12_layPerils 222 = .ok (.getfield 309, 3) := by decide +kernel
theorem dX12_layPerils_225 : decode cX12_layPerils 225 = .ok (.sipush 144, 3) := by decide +kernel
theorem dX12_layPerils_228 : decode cX12_layPerils 228 = .ok (.iload 9, 2) := by decide +kernel
theorem dX12_layPerils_230 : decode cX12_layPerils 230 = .ok (.isub, 1) := by decide +kernel
theorem dX12_layPerils_231 : decode cX12_layPerils 231 = .ok (.i2l, 1) := by decide +kernel
theorem dX12_layPerils_232 : decode cX12_layPerils 232 = .ok (.lmul, 1) := by decide +kernel
theorem dX12_layPerils_233 : decode cX12_layPerils 233 = .ok (.putfield 309, 3) := by decide +kernel
theorem dX12_layPerils_236 : decode cX12_layPerils 236 = .ok (.aload_n 0, 1) := by decide +kernel
theorem dX12_layPerils_237 : decode cX12_layPerils 237 = .ok (.dup, 1) := by decide +kernel
theorem dX12_layPerils_238 : decode cX12_layPerils 238 = .ok (.getfield 312, 3) := by decide +kernel
theorem dX12_layPerils_241 : decode cX12_layPerils 241 = .ok (.ldc2_w 315, 3) := by decide +kernel
theorem dX12_layPerils_244 : decode cX12_layPerils 244 = .ok (.lmul, 1) := by decide +kernel
theorem dX12_layPerils_245 : decode cX12_layPerils 245 = .ok (.putfield 312, 3) := by decide +kernel
theorem dX12_layPerils_248 : decode cX12_layPerils 248 = .ok (.aload_n 0, 1) := by decide +kernel
theorem dX12_layPerils_249 : decode cX12_layPerils 249 = .ok (.getfield 312, 3) := by decide +kernel
theorem dX12_layPerils_252 : decode cX12_layPerils 252 = .ok (.aload_n 0, 1) := by decide +kernel
theorem dX12_layPerils_253 : decode cX12_layPerils 253 = .ok (.getfield 309, 3) := by decide +kernel
theorem dX12_layPerils_256 : decode cX12_layPerils 256 = .ok (.invokestatic 317, 3) := by decide +kernel
theorem dX12_layPerils_259 : decode cX12_layPerils 259 = .ok (.lstore 10, 2) := by decide +kernel
theorem dX12_layPerils_261 : decode cX12_layPerils 261 = .ok (.aload_n 0, 1) := by decide +kernel
theorem dX12_layPerils_262 : decode cX12_layPerils 262 = .ok (.dup, 1) := by decide +kernel
theorem dX12_layPerils_263 : decode cX12_layPerils 263 = .ok (.getfield 309, 3) := by decide +kernel
theorem dX12_layPerils_266 : decode cX12_layPerils 266 = .ok (.lload 10, 2) := by decide +kernel
theorem dX12_layPerils_268 : decode cX12_layPerils 268 = .ok (.ldiv, 1) := by decide +kernel
theorem dX12_layPerils_269 : decode cX12_layPerils 269 = .ok (.putfield 309, 3) := by decide +kernel
theorem dX12_layPerils_272 : decode cX12_layPerils 272 = .ok (.aload_n 0, 1) := by decide +kernel
theorem dX12_layPerils_273 : decode cX12_layPerils 273 = .ok (.dup, 1) := by decide +kernel
theorem dX12_layPerils_274 : decode cX12_layPerils 274 = .ok (.getfield 312, 3) := by decide +kernel
theorem dX12_layPerils_277 : decode cX12_layPerils 277 = .ok (.lload 10, 2) := by decide +kernel
theorem dX12_layPerils_279 : decode cX12_layPerils 279 = .ok (.ldiv, 1) := by decide +kernel
theorem dX12_layPerils_280 : decode cX12_layPerils 280 = .ok (.putfield 312, 3) := by decide +kernel
theorem dX12_layPerils_197 : decode cX12_layPerils 197 = .ok (.aload_n 0, 1) := by decide +kernel
theorem dX12_layPerils_198 : decode cX12_layPerils 198 = .ok (.getfield 98, 3) := by decide +kernel
theorem dX12_layPerils_201 : decode cX12_layPerils 201 = .ok (.bipush 62, 2) := by decide +kernel
theorem dX12_layPerils_203 : decode cX12_layPerils 203 = .ok (.iaload, 1) := by decide +kernel
theorem dX12_layPerils_168 : decode cX12_layPerils 168 = .ok (.goto 115, 3) := by decide +kernel
theorem dX12_layPerils_155 : decode cX12_layPerils 155 = .ok (.goto 128, 3) := by decide +kernel
theorem dX12_risk_0 : decode cX12_risk 0 = .ok (.aload_n 0, 1) := by decide +kernel
theorem dX12_risk_1 : decode cX12_risk 1 = .ok (.iconst 0, 1) := by decide +kernel
theorem dX12_risk_2 : decode cX12_risk 2 = .ok (.putfield 1, 3) := by decide +kernel
theorem dX12_risk_5 : decode cX12_risk 5 = .ok (.aload_n 0, 1) := by decide +kernel
theorem dX12_risk_6 : decode cX12_risk 6 = .ok (.iload_n 1, 1) := by decide +kernel
theorem dX12_risk_7 : decode cX12_risk 7 = .ok (.invokevirtual 241, 3) := by decide +kernel
theorem dX12_risk_10 : decode cX12_risk 10 = .ok (.ifCond .eq 30, 3) := by decide +kernel
theorem dX12_risk_13 : decode cX12_risk 13 = .ok (.iload_n 2, 1) := by decide +kernel
theorem dX12_risk_14 : decode cX12_risk 14 = .ok (.iconst 0, 1) := by decide +kernel
theorem dX12_risk_15 : decode cX12_risk 15 = .ok (.iconst 1, 1) := by decide +kernel
theorem dX12_risk_16 : decode cX12_risk 16 = .ok (.invokestatic 75, 3) := by decide +kernel
theorem dX12_risk_19 : decode cX12_risk 19 = .ok (.ifCond .eq 21, 3) := by decide +kernel
theorem dX12_risk_22 : decode cX12_risk 22 = .ok (.aload_n 0, 1) := by decide +kernel
theorem dX12_risk_23 : decode cX12_risk 23 = .ok (.iload_n 1, 1) := by decide +kernel
theorem dX12_risk_24 : decode cX12_risk 24 = .ok (.invokevirtual 223, 3) := by decide +kernel
theorem dX12_risk_27 : decode cX12_risk 27 = .ok (.ifCond .ne 13, 3) := by decide +kernel
theorem dX12_risk_40 : decode cX12_risk 40 = .ok (.aload_n 0, 1) := by decide +kernel
theorem dX12_risk_41 : decode cX12_risk 41 = .ok (.invokevirtual 244, 3) := by decide +kernel
theorem dX12_risk_44 : decode cX12_risk 44 = .ok (.i2l, 1) := by decide +kernel
theorem dX12_risk_45 : decode cX12_risk 45 = .ok (.lreturn, 1) := by decide +kernel
theorem dX12_risk_30 : decode cX12_risk 30 = .ok (.aload_n 0, 1) := by decide +kernel
theorem dX12_risk_31 : decode cX12_risk 31 = .ok (.iload_n 1, 1) := by decide +kernel
theorem dX12_risk_32 : decode cX12_risk 32 = .ok (.invokevirtual 321, 3) := by decide +kernel
theorem dX12_risk_35 : decode cX12_risk 35 = .ok (.bipush 8, 2) := by decide +kernel
theorem dX12_risk_37 : decode cX12_risk 37 = .ok (.if_icmp .le 9, 3) := by decide +kernel
theorem dX12_risk_46 : decode cX12_risk 46 = .ok (.aload_n 0, 1) := by decide +kernel
theorem dX12_risk_47 : decode cX12_risk 47 = .ok (.getfield 312, 3) := by decide +kernel
theorem dX12_risk_50 : decode cX12_risk 50 = .ok (.aload_n 0, 1) := by decide +kernel
theorem dX12_risk_51 : decode cX12_risk 51 = .ok (.getfield 309, 3) := by decide +kernel
theorem dX12_risk_54 : decode cX12_risk 54 = .ok (.lsub, 1) := by decide +kernel
theorem dX12_risk_55 : decode cX12_risk 55 = .ok (.lstore_n 3, 1) := by decide +kernel
theorem dX12_risk_56 : decode cX12_risk 56 = .ok (.iload_n 2, 1) := by decide +kernel
theorem dX12_risk_57 : decode cX12_risk 57 = .ok (.ifCond .ne 7, 3) := by decide +kernel
theorem dX12_risk_64 : decode cX12_risk 64 = .ok (.aload_n 0, 1) := by decide +kernel
theorem dX12_risk_65 : decode cX12_risk 65 = .ok (.getfield 312, 3) := by decide +kernel
theorem dX12_risk_68 : decode cX12_risk 68 = .ok (.aload_n 0, 1) := by decide +kernel
theorem dX12_risk_69 : decode cX12_risk 69 = .ok (.getfield 312, 3) := by decide +kernel
theorem dX12_risk_72 : decode cX12_risk 72 = .ok (.lload_n 3, 1) := by decide +kernel
theorem dX12_risk_73 : decode cX12_risk 73 = .ok (.invokestatic 317, 3) := by decide +kernel
theorem dX12_risk_76 : decode cX12_risk 76 = .ok (.ldiv, 1) := by decide +kernel
theorem dX12_risk_77 : decode cX12_risk 77 = .ok (.lreturn, 1) := by decide +kernel
theorem dX12_risk_60 : decode cX12_risk 60 = .ok (.lload_n 3, 1) := by decide +kernel
theorem dX12_risk_61 : decode cX12_risk 61 = .ok (.goto 7, 3) := by decide +kernel
theorem dX12_perils_0 : decode cX12_perils 0 = .ok (.aload_n 0, 1) := by decide +kernel
theorem dX12_perils_1 : decode cX12_perils 1 = .ok (.iconst 0, 1) := by decide +kernel
theorem dX12_perils_2 : decode cX12_perils 2 = .ok (.putfield 1, 3) := by decide +kernel
theorem dX12_perils_5 : decode cX12_perils 5 = .ok (.aload_n 0, 1) := by decide +kernel
theorem dX12_perils_6 : decode cX12_perils 6 = .ok (.iload_n 1, 1) := by decide +kernel
theorem dX12_perils_7 : decode cX12_perils 7 = .ok (.invokevirtual 241, 3) := by decide +kernel
theorem dX12_perils_10 : decode cX12_perils 10 = .ok (.ifCond .eq 19, 3) := by decide +kernel
theorem dX12_perils_13 : decode cX12_perils 13 = .ok (.aload_n 0, 1) := by decide +kernel
theorem dX12_perils_14 : decode cX12_perils 14 = .ok (.iload_n 1, 1) := by decide +kernel
theorem dX12_perils_15 : decode cX12_perils 15 = .ok (.invokevirtual 223, 3) := by decide +kernel
theorem dX12_perils_18 : decode cX12_perils 18 = .ok (.ifCond .ne 11, 3) := by decide +kernel
theorem dX12_perils_29 : decode cX12_perils 29 = .ok (.iconst (-1), 1) := by decide +kernel
theorem dX12_perils_30 : decode cX12_perils 30 = .ok (.ireturn, 1) := by decide +kernel
theorem dX12_perils_21 : decode cX12_perils 21 = .ok (.aload_n 0, 1) := by decide +kernel
theorem dX12_perils_22 : decode cX12_perils 22 = .ok (.iload_n 1, 1) := by decide +kernel
theorem dX12_perils_23 : decode cX12_perils 23 = .ok (.invokevirtual 321, 3) := by decide +kernel
theorem dX12_perils_26 : decode cX12_perils 26 = .ok (.goto 4, 3) := by decide +kernel
