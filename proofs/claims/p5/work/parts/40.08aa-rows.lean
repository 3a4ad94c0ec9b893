theorem dX12_holds_0 : decode cX12_holds 0 = .ok (.sipush 133, 3) := by decide +kernel
theorem dX12_holds_3 : decode cX12_holds 3 = .ok (.iconst 4, 1) := by decide +kernel
theorem dX12_holds_4 : decode cX12_holds 4 = .ok (.iload_n 1, 1) := by decide +kernel
theorem dX12_holds_5 : decode cX12_holds 5 = .ok (.imul, 1) := by decide +kernel
theorem dX12_holds_6 : decode cX12_holds 6 = .ok (.iadd, 1) := by decide +kernel
theorem dX12_holds_7 : decode cX12_holds 7 = .ok (.istore_n 3, 1) := by decide +kernel
theorem dX12_holds_8 : decode cX12_holds 8 = .ok (.aload_n 0, 1) := by decide +kernel
theorem dX12_holds_9 : decode cX12_holds 9 = .ok (.getfield 98, 3) := by decide +kernel
theorem dX12_holds_12 : decode cX12_holds 12 = .ok (.iload_n 3, 1) := by decide +kernel
theorem dX12_holds_13 : decode cX12_holds 13 = .ok (.iconst 1, 1) := by decide +kernel
theorem dX12_holds_14 : decode cX12_holds 14 = .ok (.iadd, 1) := by decide +kernel
theorem dX12_holds_15 : decode cX12_holds 15 = .ok (.iaload, 1) := by decide +kernel
theorem dX12_holds_16 : decode cX12_holds 16 = .ok (.istore 4, 2) := by decide +kernel
theorem dX12_holds_18 : decode cX12_holds 18 = .ok (.aload_n 0, 1) := by decide +kernel
theorem dX12_holds_19 : decode cX12_holds 19 = .ok (.getfield 98, 3) := by decide +kernel
theorem dX12_holds_22 : decode cX12_holds 22 = .ok (.iload_n 3, 1) := by decide +kernel
theorem dX12_holds_23 : decode cX12_holds 23 = .ok (.iconst 2, 1) := by decide +kernel
theorem dX12_holds_24 : decode cX12_holds 24 = .ok (.iadd, 1) := by decide +kernel
theorem dX12_holds_25 : decode cX12_holds 25 = .ok (.iaload, 1) := by decide +kernel
theorem dX12_holds_26 : decode cX12_holds 26 = .ok (.istore 5, 2) := by decide +kernel
theorem dX12_holds_28 : decode cX12_holds 28 = .ok (.aload_n 0, 1) := by decide +kernel
theorem dX12_holds_29 : decode cX12_holds 29 = .ok (.getfield 98, 3) := by decide +kernel
theorem dX12_holds_32 : decode cX12_holds 32 = .ok (.iload_n 3, 1) := by decide +kernel
theorem dX12_holds_33 : decode cX12_holds 33 = .ok (.iaload, 1) := by decide +kernel
theorem dX12_holds_34 : decode cX12_holds 34 = .ok (.lookupswitch 196 #[(1, 66), (2, 82), (3, 108), (66, 134), (67, 140), (68, 154), (69, 176)], 66) := by decide +kernel
theorem dX12_holds_168 : decode cX12_holds 168 = .ok (.aload_n 0, 1) := by decide +kernel
theorem dX12_holds_169 : decode cX12_holds 169 = .ok (.iload_n 2, 1) := by decide +kernel
theorem dX12_holds_170 : decode cX12_holds 170 = .ok (.invokevirtual 235, 3) := by decide +kernel
theorem dX12_holds_173 : decode cX12_holds 173 = .ok (.ireturn, 1) := by decide +kernel
theorem dX12_holds_174 : decode cX12_holds 174 = .ok (.aload_n 0, 1) := by decide +kernel
theorem dX12_holds_175 : decode cX12_holds 175 = .ok (.iload_n 2, 1) := by decide +kernel
theorem dX12_holds_176 : decode cX12_holds 176 = .ok (.invokevirtual 223, 3) := by decide +kernel
theorem dX12_holds_179 : decode cX12_holds 179 = .ok (.ifCond .eq 7, 3) := by decide +kernel
theorem dX12_holds_186 : decode cX12_holds 186 = .ok (.iconst 0, 1) := by decide +kernel
theorem dX12_holds_187 : decode cX12_holds 187 = .ok (.ireturn, 1) := by decide +kernel
theorem dX12_holds_182 : decode cX12_holds 182 = .ok (.iconst 1, 1) := by decide +kernel
theorem dX12_holds_183 : decode cX12_holds 183 = .ok (.goto 4, 3) := by decide +kernel
theorem dX12_holds_188 : decode cX12_holds 188 = .ok (.iload_n 2, 1) := by decide +kernel
theorem dX12_holds_189 : decode cX12_holds 189 = .ok (.iload 4, 2) := by decide +kernel
theorem dX12_holds_191 : decode cX12_holds 191 = .ok (.if_icmp .eq 17, 3) := by decide +kernel
theorem dX12_holds_208 : decode cX12_holds 208 = .ok (.iconst 0, 1) := by decide +kernel
theorem dX12_holds_209 : decode cX12_holds 209 = .ok (.ireturn, 1) := by decide +kernel
theorem dX12_holds_194 : decode cX12_holds 194 = .ok (.aload_n 0, 1) := by decide +kernel
theorem dX12_holds_195 : decode cX12_holds 195 = .ok (.iload_n 2, 1) := by decide +kernel
theorem dX12_holds_196 : decode cX12_holds 196 = .ok (.iload 4, 2) := by decide +kernel
theorem dX12_holds_198 : decode cX12_holds 198 = .ok (.invokevirtual 306, 3) := by decide +kernel
theorem dX12_holds_201 : decode cX12_holds 201 = .ok (.ifCond .eq 7, 3) := by decide +kernel
theorem dX12_holds_204 : decode cX12_holds 204 = .ok (.iconst 1, 1) := by decide +kernel
theorem dX12_holds_205 : decode cX12_holds 205 = .ok (.goto 4, 3) := by decide +kernel
theorem dX12_holds_210 : decode cX12_holds 210 = .ok (.aload_n 0, 1) := by decide +kernel
theorem dX12_holds_211 : decode cX12_holds 211 = .ok (.getfield 98, 3) := by decide +kernel
theorem dX12_holds_214 : decode cX12_holds 214 = .ok (.bipush 71, 2) := by decide +kernel
theorem dX12_holds_216 : decode cX12_holds 216 = .ok (.iload_n 2, 1) := by decide +kernel
theorem dX12_holds_217 : decode cX12_holds 217 = .ok (.iadd, 1) := by decide +kernel
theorem dX12_holds_218 : decode cX12_holds 218 = .ok (.iaload, 1) := by decide +kernel
theorem dX12_holds_219 : decode cX12_holds 219 = .ok (.iload 4, 2) := by decide +kernel
theorem dX12_holds_221 : decode cX12_holds 221 = .ok (.if_icmp .ne 7, 3) := by decide +kernel
theorem dX12_holds_228 : decode cX12_holds 228 = .ok (.iconst 0, 1) := by decide +kernel
theorem dX12_holds_229 : decode cX12_holds 229 = .ok (.ireturn, 1) := by decide +kernel
theorem dX12_holds_224 : decode cX12_holds 224 = .ok (.iconst 1, 1) := by decide +kernel
theorem dX12_holds_225 : decode cX12_holds 225 = .ok (.goto 4, 3) := by decide +kernel
theorem dX12_holds_230 : decode cX12_holds 230 = .ok (.aload_n 0, 1) := by decide +kernel
theorem dX12_holds_231 : decode cX12_holds 231 = .ok (.getfield 98, 3) := by decide +kernel
theorem dX12_holds_234 : decode cX12_holds 234 = .ok (.iload_n 3, 1) := by decide +kernel
theorem dX12_holds_235 : decode cX12_holds 235 = .ok (.iaload, 1) := by decide +kernel
theorem dX12_holds_236 : decode cX12_holds 236 = .ok (.bipush 50, 2) := by decide +kernel
theorem dX12_holds_238 : decode cX12_holds 238 = .ok (.isub, 1) := by decide +kernel
theorem dX12_holds_239 : decode cX12_holds 239 = .ok (.istore 6, 2) := by decide +kernel
theorem dX12_holds_241 : decode cX12_holds 241 = .ok (.iload 6, 2) := by decide +kernel
theorem dX12_holds_243 : decode cX12_holds 243 = .ok (.bipush 20, 2) := by decide +kernel
theorem dX12_holds_245 : decode cX12_holds 245 = .ok (.if_icmp .ne 15, 3) := by decide +kernel
theorem dX12_holds_260 : decode cX12_holds 260 = .ok (.iload 6, 2) := by decide +kernel
theorem dX12_holds_262 : decode cX12_holds 262 = .ok (.bipush 21, 2) := by decide +kernel
theorem dX12_holds_264 : decode cX12_holds 264 = .ok (.if_icmp .ne 15, 3) := by decide +kernel
theorem dX12_holds_279 : decode cX12_holds 279 = .ok (.iload 6, 2) := by decide +kernel
theorem dX12_holds_281 : decode cX12_holds 281 = .ok (.bipush 22, 2) := by decide +kernel
theorem dX12_holds_283 : decode cX12_holds 283 = .ok (.if_icmp .ne 11, 3) := by decide +kernel
theorem dX12_holds_294 : decode cX12_holds 294 = .ok (.iload_n 2, 1) := by decide +kernel
theorem dX12_holds_295 : decode cX12_holds 295 = .ok (.istore 7, 2) := by decide +kernel
theorem dX12_holds_297 : decode cX12_holds 297 = .ok (.aload_n 0, 1) := by decide +kernel
theorem dX12_holds_298 : decode cX12_holds 298 = .ok (.getfield 98, 3) := by decide +kernel
theorem dX12_holds_301 : decode cX12_holds 301 = .ok (.iload_n 3, 1) := by decide +kernel
theorem dX12_holds_302 : decode cX12_holds 302 = .ok (.iconst 3, 1) := by decide +kernel
theorem dX12_holds_303 : decode cX12_holds 303 = .ok (.iadd, 1) := by decide +kernel
theorem dX12_holds_304 : decode cX12_holds 304 = .ok (.iaload, 1) := by decide +kernel
theorem dX12_holds_305 : decode cX12_holds 305 = .ok (.bipush 60, 2) := by decide +kernel
theorem dX12_holds_307 : decode cX12_holds 307 = .ok (.if_icmp .ne 18, 3) := by decide +kernel
theorem dX12_holds_325 : decode cX12_holds 325 = .ok (.aload_n 0, 1) := by decide +kernel
theorem dX12_holds_326 : decode cX12_holds 326 = .ok (.getfield 98, 3) := by decide +kernel
theorem dX12_holds_329 : decode cX12_holds 329 = .ok (.iload_n 3, 1) := by decide +kernel
theorem dX12_holds_330 : decode cX12_holds 330 = .ok (.iconst 3, 1) := by decide +kernel
theorem dX12_holds_331 : decode cX12_holds 331 = .ok (.iadd, 1) := by decide +kernel
theorem dX12_holds_332 : decode cX12_holds 332 = .ok (.iaload, 1) := by decide +kernel
theorem dX12_holds_333 : decode cX12_holds 333 = .ok (.bipush 61, 2) := by decide +kernel
theorem dX12_holds_335 : decode cX12_holds 335 = .ok (.if_icmp .ne 18, 3) := by decide +kernel
theorem dX12_holds_353 : decode cX12_holds 353 = .ok (.iload 7, 2) := by decide +kernel
theorem dX12_holds_355 : decode cX12_holds 355 = .ok (.iload 5, 2) := by decide +kernel
theorem dX12_holds_357 : decode cX12_holds 357 = .ok (.if_icmp .le 7, 3) := by decide +kernel
theorem dX12_holds_364 : decode cX12_holds 364 = .ok (.iconst 0, 1) := by decide +kernel
theorem dX12_holds_365 : decode cX12_holds 365 = .ok (.ireturn, 1) := by decide +kernel
theorem dX12_holds_360 : decode cX12_holds 360 = .ok (.iconst 1, 1) := by decide +kernel
theorem dX12_holds_361 : decode cX12_holds 361 = .ok (.goto 4, 3) := by decide +kernel
theorem dX12_holds_338 : decode cX12_holds 338 = .ok (.iload 7, 2) := by decide +kernel
theorem dX12_holds_340 : decode cX12_holds 340 = .ok (.iload 5, 2) := by decide +kernel
theorem dX12_holds_342 : decode cX12_holds 342 = .ok (.if_icmp .ne 7, 3) := by decide +kernel
theorem dX12_holds_349 : decode cX12_holds 349 = .ok (.iconst 0, 1) := by decide +kernel
theorem dX12_holds_350 : decode cX12_holds 350 = .ok (.goto 15, 3) := by decide +kernel
theorem dX12_holds_345 : decode cX12_holds 345 = .ok (.iconst 1, 1) := by decide +kernel
theorem dX12_holds_346 : decode cX12_holds 346 = .ok (.goto 19, 3) := by decide +kernel
theorem dX12_holds_310 : decode cX12_holds 310 = .ok (.iload 7, 2) := by decide +kernel
theorem dX12_holds_312 : decode cX12_holds 312 = .ok (.iload 5, 2) := by decide +kernel
theorem dX12_holds_314 : decode cX12_holds 314 = .ok (.if_icmp .ge 7, 3) := by decide +kernel
theorem dX12_holds_321 : decode cX12_holds 321 = .ok (.iconst 0, 1) := by decide +kernel
theorem dX12_holds_322 : decode cX12_holds 322 = .ok (.goto 43, 3) := by decide +kernel
theorem dX12_holds_317 : decode cX12_holds 317 = .ok (.iconst 1, 1) := by decide +kernel
theorem dX12_holds_318 : decode cX12_holds 318 = .ok (.goto 47, 3) := by decide +kernel
theorem dX12_holds_286 : decode cX12_holds 286 = .ok (.aload_n 0, 1) := by decide +kernel
theorem dX12_holds_287 : decode cX12_holds 287 = .ok (.iload_n 2, 1) := by decide +kernel
theorem dX12_holds_288 : decode cX12_holds 288 = .ok (.invokevirtual 238, 3) := by decide +kernel
theorem dX12_holds_291 : decode cX12_holds 291 = .ok (.goto 4, 3) := by decide +kernel
theorem dX12_holds_267 : decode cX12_holds 267 = .ok (.aload_n 0, 1) := by decide +kernel
theorem dX12_holds_268 : decode cX12_holds 268 = .ok (.getfield 98, 3) := by decide +kernel
theorem dX12_holds_271 : decode cX12_holds 271 = .ok (.bipush 111, 2) := by decide +kernel
theorem dX12_holds_273 : decode cX12_holds 273 = .ok (.iload_n 2, 1) := by decide +kernel
theorem dX12_holds_274 : decode cX12_holds 274 = .ok (.iadd, 1) := by decide +kernel
theorem dX12_holds_275 : decode cX12_holds 275 = .ok (.iaload, 1) := by decide +kernel
theorem dX12_holds_276 : decode cX12_holds 276 = .ok (.goto 19, 3) := by decide +kernel
theorem dX12_holds_248 : decode cX12_holds 248 = .ok (.aload_n 0, 1) := by decide +kernel
theorem dX12_holds_249 : decode cX12_holds 249 = .ok (.getfield 98, 3) := by decide +kernel
theorem dX12_holds_252 : decode cX12_holds 252 = .ok (.bipush 103, 2) := by decide +kernel
theorem dX12_holds_254 : decode cX12_holds 254 = .ok (.iload_n 2, 1) := by decide +kernel
theorem dX12_holds_255 : decode cX12_holds 255 = .ok (.iadd, 1) := by decide +kernel
theorem dX12_holds_256 : decode cX12_holds 256 = .ok (.iaload, 1) := by decide +kernel
theorem dX12_holds_257 : decode cX12_holds 257 = .ok (.goto 38, 3) := by decide +kernel
theorem dX12_holds_100 : decode cX12_holds 100 = .ok (.aload_n 0, 1) := by decide +kernel
theorem dX12_holds_101 : decode cX12_holds 101 = .ok (.iload 4, 2) := by decide +kernel
theorem dX12_holds_103 : decode cX12_holds 103 = .ok (.iload_n 2, 1) := by decide +kernel
theorem dX12_holds_104 : decode cX12_holds 104 = .ok (.invokevirtual 436, 3) := by decide +kernel
theorem dX12_holds_107 : decode cX12_holds 107 = .ok (.ifCond .ne 7, 3) := by decide +kernel
theorem dX12_holds_114 : decode cX12_holds 114 = .ok (.iconst 0, 1) := by decide +kernel
theorem dX12_holds_115 : decode cX12_holds 115 = .ok (.ireturn, 1) := by decide +kernel
theorem dX12_holds_110 : decode cX12_holds 110 = .ok (.iconst 1, 1) := by decide +kernel
theorem dX12_holds_111 : decode cX12_holds 111 = .ok (.goto 4, 3) := by decide +kernel
theorem dX12_holds_116 : decode cX12_holds 116 = .ok (.aload_n 0, 1) := by decide +kernel
theorem dX12_holds_117 : decode cX12_holds 117 = .ok (.iload 4, 2) := by decide +kernel
theorem dX12_holds_119 : decode cX12_holds 119 = .ok (.iload_n 2, 1) := by decide +kernel
theorem dX12_holds_120 : decode cX12_holds 120 = .ok (.invokevirtual 436, 3) := by decide +kernel
theorem dX12_holds_123 : decode cX12_holds 123 = .ok (.ifCond .eq 17, 3) := by decide +kernel
theorem dX12_holds_126 : decode cX12_holds 126 = .ok (.aload_n 0, 1) := by decide +kernel
theorem dX12_holds_127 : decode cX12_holds 127 = .ok (.iload 5, 2) := by decide +kernel
theorem dX12_holds_129 : decode cX12_holds 129 = .ok (.iload_n 2, 1) := by decide +kernel
theorem dX12_holds_130 : decode cX12_holds 130 = .ok (.invokevirtual 436, 3) := by decide +kernel
theorem dX12_holds_133 : decode cX12_holds 133 = .ok (.ifCond .eq 7, 3) := by decide +kernel
theorem dX12_holds_136 : decode cX12_holds 136 = .ok (.iconst 1, 1) := by decide +kernel
theorem dX12_holds_137 : decode cX12_holds 137 = .ok (.goto 4, 3) := by decide +kernel
theorem dX12_holds_141 : decode cX12_holds 141 = .ok (.ireturn, 1) := by decide +kernel
theorem dX12_holds_140 : decode cX12_holds 140 = .ok (.iconst 0, 1) := by decide +kernel
theorem dX12_holds_142 : decode cX12_holds 142 = .ok (.aload_n 0, 1) := by decide +kernel
theorem dX12_holds_143 : decode cX12_holds 143 = .ok (.iload 4, 2) := by decide +kernel
theorem dX12_holds_145 : decode cX12_holds 145 = .ok (.iload_n 2, 1) := by decide +kernel
theorem dX12_holds_146 : decode cX12_holds 146 = .ok (.invokevirtual 436, 3) := by decide +kernel
theorem dX12_holds_149 : decode cX12_holds 149 = .ok (.ifCond .ne 13, 3) := by decide +kernel
theorem dX12_holds_162 : decode cX12_holds 162 = .ok (.iconst 1, 1) := by decide +kernel
theorem dX12_holds_163 : decode cX12_holds 163 = .ok (.goto 4, 3) := by decide +kernel
theorem dX12_holds_167 : decode cX12_holds 167 = .ok (.ireturn, 1) := by decide +kernel
theorem dX12_holds_152 : decode cX12_holds 152 = .ok (.aload_n 0, 1) := by decide +kernel
theorem dX12_holds_153 : decode cX12_holds 153 = .ok (.iload 5, 2) := by decide +kernel
theorem dX12_holds_155 : decode cX12_holds 155 = .ok (.iload_n 2, 1) := by decide +kernel
theorem dX12_holds_156 : decode cX12_holds 156 = .ok (.invokevirtual 436, 3) := by decide +kernel
theorem dX12_holds_159 : decode cX12_holds 159 = .ok (.ifCond .eq 7, 3) := by decide +kernel
theorem dX12_holds_166 : decode cX12_holds 166 = .ok (.iconst 0, 1) := by decide +kernel
theorem dX12_said_0 : decode cX12_said 0 = .ok (.aload_n 0, 1) := by decide +kernel
theorem dX12_said_1 : decode cX12_said 1 = .ok (.iconst 0, 1) := by decide +kernel
theorem dX12_said_2 : decode cX12_said 2 = .ok (.putfield 1, 3) := by decide +kernel
theorem dX12_said_5 : decode cX12_said 5 = .ok (.aload_n 0, 1) := by decide +kernel
theorem dX12_said_6 : decode cX12_said 6 = .ok (.getfield 98, 3) := by decide +kernel
theorem dX12_said_9 : decode cX12_said 9 = .ok (.sipush 131, 3) := by decide +kernel
theorem dX12_said_12 : decode cX12_said 12 = .ok (.iaload, 1) := by decide +kernel
theorem dX12_said_13 : decode cX12_said 13 = .ok (.ifCond .ne 5, 3) := by decide +kernel
theorem dX12_said_18 : decode cX12_said 18 = .ok (.iconst 0, 1) := by decide +kernel
theorem dX12_said_19 : decode cX12_said 19 = .ok (.istore_n 2, 1) := by decide +kernel
theorem dX12_said_20 : decode cX12_said 20 = .ok (.iconst 0, 1) := by decide +kernel
theorem dX12_said_21 : decode cX12_said 21 = .ok (.istore_n 3, 1) := by decide +kernel
theorem dX12_said_22 : decode cX12_said 22 = .ok (.iload_n 3, 1) := by decide +kernel
theorem dX12_said_23 : decode cX12_said 23 = .ok (.aload_n 0, 1) := by decide +kernel
theorem dX12_said_24 : decode cX12_said 24 = .ok (.getfield 98, 3) := by decide +kernel
theorem dX12_said_27 : decode cX12_said 27 = .ok (.iconst 1, 1) := by decide +kernel
theorem dX12_said_28 : decode cX12_said 28 = .ok (.iaload, 1) := by decide +kernel
theorem dX12_said_29 : decode cX12_said 29 = .ok (.if_icmp .ge 38, 3) := by decide +kernel
theorem dX12_said_67 : decode cX12_said 67 = .ok (.iload_n 1, 1) := by decide +kernel
theorem dX12_said_68 : decode cX12_said 68 = .ok (.iconst (-1), 1) := by decide +kernel
theorem dX12_said_69 : decode cX12_said 69 = .ok (.if_icmp .ne 7, 3) := by decide +kernel
theorem dX12_said_76 : decode cX12_said 76 = .ok (.iconst (-1), 1) := by decide +kernel
theorem dX12_said_77 : decode cX12_said 77 = .ok (.ireturn, 1) := by decide +kernel
theorem dX12_said_72 : decode cX12_said 72 = .ok (.iload_n 2, 1) := by decide +kernel
theorem dX12_said_73 : decode cX12_said 73 = .ok (.goto 4, 3) := by decide +kernel
theorem dX12_said_32 : decode cX12_said 32 = .ok (.aload_n 0, 1) := by decide +kernel
theorem dX12_said_33 : decode cX12_said 33 = .ok (.aload_n 0, 1) := by decide +kernel
theorem dX12_said_34 : decode cX12_said 34 = .ok (.getfield 98, 3) := by decide +kernel
theorem dX12_said_37 : decode cX12_said 37 = .ok (.sipush 132, 3) := by decide +kernel
theorem dX12_said_40 : decode cX12_said 40 = .ok (.iaload, 1) := by decide +kernel
theorem dX12_said_41 : decode cX12_said 41 = .ok (.iload_n 3, 1) := by decide +kernel
theorem dX12_said_42 : decode cX12_said 42 = .ok (.invokevirtual 436, 3) := by decide +kernel
theorem dX12_said_45 : decode cX12_said 45 = .ok (.ifCond .ne 6, 3) := by decide +kernel
theorem dX12_said_51 : decode cX12_said 51 = .ok (.iload_n 2, 1) := by decide +kernel
theorem dX12_said_52 : decode cX12_said 52 = .ok (.iload_n 1, 1) := by decide +kernel
theorem dX12_said_53 : decode cX12_said 53 = .ok (.if_icmp .ne 5, 3) := by decide +kernel
theorem dX12_said_58 : decode cX12_said 58 = .ok (.iinc 2 1, 3) := by decide +kernel
theorem dX12_said_61 : decode cX12_said 61 = .ok (.iinc 3 1, 3) := by decide +kernel
theorem dX12_said_64 : decode cX12_said 64 = .ok (.goto (-42), 3) := by decide +kernel
theorem dX12_said_56 : decode cX12_said 56 = .ok (.iload_n 3, 1) := by decide +kernel
theorem dX12_said_57 : decode cX12_said 57 = .ok (.ireturn, 1) := by decide +kernel
theorem dX12_said_48 : decode cX12_said 48 = .ok (.goto 13, 3) := by decide +kernel
theorem dX12_said_16 : decode cX12_said 16 = .ok (.iconst (-1), 1) := by decide +kernel
theorem dX12_said_17 : decode cX12_said 17 = .ok (.ireturn, 1) := by decide +kernel
theorem dX12_image_0 : decode cX12_image 0 = .ok (.aload_n 0, 1) := by decide +kernel
theorem dX12_image_1 : decode cX12_image 1 = .ok (.iconst 0, 1) := by decide +kernel
theorem dX12_image_2 : decode cX12_image 2 = .ok (.putfield 1, 3) := by decide +kernel
theorem dX12_image_5 : decode cX12_image 5 = .ok (.iload_n 1, 1) := by decide +kernel
theorem dX12_image_6 : decode cX12_image 6 = .ok (.iconst 0, 1) := by decide +kernel
theorem dX12_image_7 : decode cX12_image 7 = .ok (.iconst 1, 1) := by decide +kernel
theorem dX12_image_8 : decode cX12_image 8 = .ok (.invokestatic 75, 3) := by decide +kernel
theorem dX12_image_11 : decode cX12_image 11 = .ok (.ifCond .ne 5, 3) := by decide +kernel
theorem dX12_image_16 : decode cX12_image 16 = .ok (.iconst 0, 1) := by decide +kernel
theorem dX12_image_17 : decode cX12_image 17 = .ok (.istore_n 2, 1) := by decide +kernel
theorem dX12_image_18 : decode cX12_image 18 = .ok (.iload_n 2, 1) := by decide +kernel
theorem dX12_image_19 : decode cX12_image 19 = .ok (.sipush 373, 3) := by decide +kernel
theorem dX12_image_22 : decode cX12_image 22 = .ok (.if_icmp .ge 27, 3) := by decide +kernel
theorem dX12_image_49 : decode cX12_image 49 = .ok (.iconst 0, 1) := by decide +kernel
theorem dX12_image_50 : decode cX12_image 50 = .ok (.istore_n 2, 1) := by decide +kernel
theorem dX12_image_51 : decode cX12_image 51 = .ok (.iload_n 2, 1) := by decide +kernel
theorem dX12_image_52 : decode cX12_image 52 = .ok (.bipush 19, 2) := by decide +kernel
theorem dX12_image_54 : decode cX12_image 54 = .ok (.if_icmp .ge 26, 3) := by decide +kernel
theorem dX12_image_80 : decode cX12_image 80 = .ok (.aload_n 0, 1) := by decide +kernel
theorem dX12_image_81 : decode cX12_image 81 = .ok (.getfield 123, 3) := by decide +kernel
theorem dX12_image_84 : decode cX12_image 84 = .ok (.iload_n 1, 1) := by decide +kernel
theorem dX12_image_85 : decode cX12_image 85 = .ok (.iconst 1, 1) := by decide +kernel
theorem dX12_image_86 : decode cX12_image 86 = .ok (.bastore, 1) := by decide +kernel
theorem dX12_image_87 : decode cX12_image 87 = .ok (.iconst 1, 1) := by decide +kernel
theorem dX12_image_88 : decode cX12_image 88 = .ok (.ireturn, 1) := by decide +kernel
theorem dX12_image_57 : decode cX12_image 57 = .ok (.aload_n 0, 1) := by decide +kernel
theorem dX12_image_58 : decode cX12_image 58 = .ok (.getfield 120, 3) := by decide +kernel
theorem dX12_image_61 : decode cX12_image 61 = .ok (.bipush 19, 2) := by decide +kernel
theorem dX12_image_63 : decode cX12_image 63 = .ok (.iload_n 1, 1) := by decide +kernel
theorem dX12_image_64 : decode cX12_image 64 = .ok (.imul, 1) := by decide +kernel
theorem dX12_image_65 : decode cX12_image 65 = .ok (.iload_n 2, 1) := by decide +kernel
theorem dX12_image_66 : decode cX12_image 66 = .ok (.iadd, 1) := by decide +kernel
theorem dX12_image_67 : decode cX12_image 67 = .ok (.aload_n 0, 1) := by decide +kernel
theorem dX12_image_68 : decode cX12_image 68 = .ok (.getfield 113, 3) := by decide +kernel
theorem dX12_image_71 : decode cX12_image 71 = .ok (.iload_n 2, 1) := by decide +kernel
theorem dX12_image_72 : decode cX12_image 72 = .ok (.laload, 1) := by decide +kernel
theorem dX12_image_73 : decode cX12_image 73 = .ok (.lastore, 1) := by decide +kernel
theorem dX12_image_74 : decode cX12_image 74 = .ok (.iinc 2 1, 3) := by decide +kernel
theorem dX12_image_77 : decode cX12_image 77 = .ok (.goto (-26), 3) := by decide +kernel
theorem dX12_image_25 : decode cX12_image 25 = .ok (.aload_n 0, 1) := by decide +kernel
theorem dX12_image_26 : decode cX12_image 26 = .ok (.getfield 104, 3) := by decide +kernel
theorem dX12_image_29 : decode cX12_image 29 = .ok (.sipush 373, 3) := by decide +kernel
theorem dX12_image_32 : decode cX12_image 32 = .ok (.iload_n 1, 1) := by decide +kernel
theorem dX12_image_33 : decode cX12_image 33 = .ok (.imul, 1) := by decide +kernel
theorem dX12_image_34 : decode cX12_image 34 = .ok (.iload_n 2, 1) := by decide +kernel
theorem dX12_image_35 : decode cX12_image 35 = .ok (.iadd, 1) := by decide +kernel
theorem dX12_image_36 : decode cX12_image 36 = .ok (.aload_n 0, 1) := by decide +kernel
theorem dX12_image_37 : decode cX12_image 37 = .ok (.getfield 98, 3) := by decide +kernel
theorem dX12_image_40 : decode cX12_image 40 = .ok (.iload_n 2, 1) := by decide +kernel
theorem dX12_image_41 : decode cX12_image 41 = .ok (.iaload, 1) := by decide +kernel
theorem dX12_image_42 : decode cX12_image 42 = .ok (.iastore, 1) := by decide +kernel
theorem dX12_image_43 : decode cX12_image 43 = .ok (.iinc 2 1, 3) := by decide +kernel
theorem dX12_image_46 : decode cX12_image 46 = .ok (.goto (-28), 3) := by decide +kernel
theorem dX12_image_14 : decode cX12_image 14 = .ok (.iconst 0, 1) := by decide +kernel
theorem dX12_image_15 : decode cX12_image 15 = .ok (.ireturn, 1) := by decide +kernel
theorem dX12_restore_0 : decode cX12_restore 0 = .ok (.aload_n 0, 1) := by decide +kernel
theorem dX12_restore_1 : decode cX12_restore 1 = .ok (.iconst 0, 1) := by decide +kernel
theorem dX12_restore_2 : decode cX12_restore 2 = .ok (.putfield 1, 3) := by decide +kernel
theorem dX12_restore_5 : decode cX12_restore 5 = .ok (.iload_n 1, 1) := by decide +kernel
theorem dX12_restore_6 : decode cX12_restore 6 = .ok (.iconst 0, 1) := by decide +kernel
theorem dX12_restore_7 : decode cX12_restore 7 = .ok (.iconst 1, 1) := by decide +kernel
theorem dX12_restore_8 : decode cX12_restore 8 = .ok (.invokestatic 75, 3) := by decide +kernel
theorem dX12_restore_11 : decode cX12_restore 11 = .ok (.ifCond .eq 12, 3) := by decide +kernel
theorem dX12_restore_14 : decode cX12_restore 14 = .ok (.aload_n 0, 1) := by decide +kernel
theorem dX12_restore_15 : decode cX12_restore 15 = .ok (.getfield 123, 3) := by decide +kernel
theorem dX12_restore_18 : decode cX12_restore 18 = .ok (.iload_n 1, 1) := by decide +kernel
theorem dX12_restore_19 : decode cX12_restore 19 = .ok (.baload, 1) := by decide +kernel
theorem dX12_restore_20 : decode cX12_restore 20 = .ok (.ifCond .ne 5, 3) := by decide +kernel
theorem dX12_restore_25 : decode cX12_restore 25 = .ok (.iconst 0, 1) := by decide +kernel
theorem dX12_restore_26 : decode cX12_restore 26 = .ok (.istore_n 2, 1) := by decide +kernel
theorem dX12_restore_27 : decode cX12_restore 27 = .ok (.iload_n 2, 1) := by decide +kernel
theorem dX12_restore_28 : decode cX12_restore 28 = .ok (.sipush 373, 3) := by decide +kernel
theorem dX12_restore_31 : decode cX12_restore 31 = .ok (.if_icmp .ge 27, 3) := by decide +kernel
theorem dX12_restore_58 : decode cX12_restore 58 = .ok (.iconst 0, 1) := by decide +kernel
theorem dX12_restore_59 : decode cX12_restore 59 = .ok (.istore_n 2, 1) := by decide +kernel
theorem dX12_restore_60 : decode cX12_restore 60 = .ok (.iload_n 2, 1) := by decide +kernel
theorem dX12_restore_61 : decode cX12_restore 61 = .ok (.bipush 19, 2) := by decide +kernel
theorem dX12_restore_63 : decode cX12_restore 63 = .ok (.if_icmp .ge 26, 3) := by decide +kernel
theorem dX12_restore_89 : decode cX12_restore 89 = .ok (.aload_n 0, 1) := by decide +kernel
theorem dX12_restore_90 : decode cX12_restore 90 = .ok (.iconst 0, 1) := by decide +kernel
theorem dX12_restore_91 : decode cX12_restore 91 = .ok (.putfield 214, 3) := by decide +kernel
theorem dX12_restore_94 : decode cX12_restore 94 = .ok (.iconst 1, 1) := by decide +kernel
theorem dX12_restore_95 : decode cX12_restore 95 = .ok (.ireturn, 1) := by decide +kernel
theorem dX12_restore_66 : decode cX12_restore 66 = .ok (.aload_n 0, 1) := by decide +kernel
theorem dX12_restore_67 : decode cX12_restore 67 = .ok (.getfield 113, 3) := by decide +kernel
theorem dX12_restore_70 : decode cX12_restore 70 = .ok (.iload_n 2, 1) := by decide +kernel
theorem dX12_restore_71 : decode cX12_restore 71 = .ok (.aload_n 0, 1) := by decide +kernel
theorem dX12_restore_72 : decode cX12_restore 72 = .ok (.getfield 120, 3) := by decide +kernel
theorem dX12_restore_75 : decode cX12_restore 75 = .ok (.bipush 19, 2) := by decide +kernel
theorem dX12_restore_77 : decode cX12_restore 77 = .ok (.iload_n 1, 1) := by decide +kernel
theorem dX12_restore_78 : decode cX12_restore 78 = .ok (.imul, 1) := by decide +kernel
theorem dX12_restore_79 : decode cX12_restore 79 = .ok (.iload_n 2, 1) := by decide +kernel
theorem dX12_restore_80 : decode cX12_restore 80 = .ok (.iadd, 1) := by decide +kernel
theorem dX12_restore_81 : decode cX12_restore 81 = .ok (.laload, 1) := by decide +kernel
theorem dX12_restore_82 : decode cX12_restore 82 = .ok (.lastore, 1) := by decide +kernel
theorem dX12_restore_83 : decode cX12_restore 83 = .ok (.iinc 2 1, 3) := by decide +kernel
theorem dX12_restore_86 : decode cX12_restore 86 = .ok (.goto (-26), 3) := by decide +kernel
theorem dX12_restore_34 : decode cX12_restore 34 = .ok (.aload_n 0, 1) := by decide +kernel
theorem dX12_restore_35 : decode cX12_restore 35 = .ok (.getfield 98, 3) := by decide +kernel
theorem dX12_restore_38 : decode cX12_restore 38 = .ok (.iload_n 2, 1) := by decide +kernel
theorem dX12_restore_39 : decode cX12_restore 39 = .ok (.aload_n 0, 1) := by decide +kernel
theorem dX12_restore_40 : decode cX12_restore 40 = .ok (.getfield 104, 3) := by decide +kernel
theorem dX12_restore_43 : decode cX12_restore 43 = .ok (.sipush 373, 3) := by decide +kernel
theorem dX12_restore_46 : decode cX12_restore 46 = .ok (.iload_n 1, 1) := by decide +kernel
theorem dX12_restore_47 : decode cX12_restore 47 = .ok (.imul, 1) := by decide +kernel
theorem dX12_restore_48 : decode cX12_restore 48 = .ok (.iload_n 2, 1) := by decide +kernel
theorem dX12_restore_49 : decode cX12_restore 49 = .ok (.iadd, 1) := by decide +kernel
theorem dX12_restore_50 : decode cX12_restore 50 = .ok (.iaload, 1) := by decide +kernel
theorem dX12_restore_51 : decode cX12_restore 51 = .ok (.iastore, 1) := by decide +kernel
theorem dX12_restore_52 : decode cX12_restore 52 = .ok (.iinc 2 1, 3) := by decide +kernel
theorem dX12_restore_55 : decode cX12_restore 55 = .ok (.goto (-28), 3) := by decide +kernel
theorem dX12_restore_23 : decode cX12_restore 23 = .ok (.iconst 0, 1) := by decide +kernel
theorem dX12_restore_24 : decode cX12_restore 24 = .ok (.ireturn, 1) := by decide +kernel
theorem dX12_come_0 : decode cX12_come 0 = .ok (.bipush 24, 2) := by decide +kernel
theorem dX12_come_2 : decode cX12_come 2 = .ok (.istore_n 2, 1) := by decide +kernel
theorem dX12_come_3 : decode cX12_come 3 = .ok (.iload_n 2, 1) := by decide +kernel
theorem dX12_come_4 : decode cX12_come 4 = .ok (.ifCond .lt 35, 3) := by decide +kernel
theorem dX12_come_7 : decode cX12_come 7 = .ok (.aload_n 0, 1) := by decide +kernel
theorem dX12_come_8 : decode cX12_come 8 = .ok (.getfield 7, 3) := by decide +kernel
theorem dX12_come_11 : decode cX12_come 11 = .ok (.aload_n 0, 1) := by decide +kernel
theorem dX12_come_12 : decode cX12_come 12 = .ok (.getfield 11, 3) := by decide +kernel
theorem dX12_come_15 : decode cX12_come 15 = .ok (.iload_n 1, 1) := by decide +kernel
theorem dX12_come_16 : decode cX12_come 16 = .ok (.iload_n 2, 1) := by decide +kernel
theorem dX12_come_17 : decode cX12_come 17 = .ok (.iushr, 1) := by decide +kernel
theorem dX12_come_18 : decode cX12_come 18 = .ok (.sipush 255, 3) := by decide +kernel
theorem dX12_come_21 : decode cX12_come 21 = .ok (.iand, 1) := by decide +kernel
theorem dX12_come_22 : decode cX12_come 22 = .ok (.iastore, 1) := by decide +kernel
theorem dX12_come_23 : decode cX12_come 23 = .ok (.aload_n 0, 1) := by decide +kernel
theorem dX12_come_24 : decode cX12_come 24 = .ok (.dup, 1) := by decide +kernel
theorem dX12_come_25 : decode cX12_come 25 = .ok (.getfield 11, 3) := by decide +kernel
theorem dX12_come_28 : decode cX12_come 28 = .ok (.iconst 1, 1) := by decide +kernel
theorem dX12_come_29 : decode cX12_come 29 = .ok (.iadd, 1) := by decide +kernel
theorem dX12_come_30 : decode cX12_come 30 = .ok (.putfield 11, 3) := by decide +kernel
theorem dX12_come_33 : decode cX12_come 33 = .ok (.iinc 2 (-8), 3) := by decide +kernel
theorem dX12_come_36 : decode cX12_come 36 = .ok (.goto (-33), 3) := by decide +kernel
theorem dX12_come_39 : decode cX12_come 39 = .ok (.return_, 1) := by decide +kernel
theorem dX12_feed_0 : decode cX12_feed 0 = .ok (.aload_n 0, 1) := by decide +kernel
theorem dX12_feed_1 : decode cX12_feed 1 = .ok (.iconst 0, 1) := by decide +kernel
theorem dX12_feed_2 : decode cX12_feed 2 = .ok (.putfield 1, 3) := by decide +kernel
theorem dX12_feed_5 : decode cX12_feed 5 = .ok (.aload_n 0, 1) := by decide +kernel
theorem dX12_feed_6 : decode cX12_feed 6 = .ok (.getfield 11, 3) := by decide +kernel
theorem dX12_feed_9 : decode cX12_feed 9 = .ok (.bipush 20, 2) := by decide +kernel
theorem dX12_feed_11 : decode cX12_feed 11 = .ok (.iadd, 1) := by decide +kernel
theorem dX12_feed_12 : decode cX12_feed 12 = .ok (.sipush 940, 3) := by decide +kernel
theorem dX12_feed_15 : decode cX12_feed 15 = .ok (.if_icmp .le 5, 3) := by decide +kernel
theorem dX12_feed_20 : decode cX12_feed 20 = .ok (.aload_n 0, 1) := by decide +kernel
theorem dX12_feed_21 : decode cX12_feed 21 = .ok (.iload_n 1, 1) := by decide +kernel
theorem dX12_feed_22 : decode cX12_feed 22 = .ok (.invokevirtual 14, 3) := by decide +kernel
theorem dX12_feed_25 : decode cX12_feed 25 = .ok (.aload_n 0, 1) := by decide +kernel
theorem dX12_feed_26 : decode cX12_feed 26 = .ok (.iload_n 2, 1) := by decide +kernel
theorem dX12_feed_27 : decode cX12_feed 27 = .ok (.invokevirtual 14, 3) := by decide +kernel
theorem dX12_feed_30 : decode cX12_feed 30 = .ok (.aload_n 0, 1) := by decide +kernel
theorem dX12_feed_31 : decode cX12_feed 31 = .ok (.iload_n 3, 1) := by decide +kernel
theorem dX12_feed_32 : decode cX12_feed 32 = .ok (.invokevirtual 14, 3) := by decide +kernel
theorem dX12_feed_35 : decode cX12_feed 35 = .ok (.aload_n 0, 1) := by decide +kernel
theorem dX12_feed_36 : decode cX12_feed 36 = .ok (.iload 4, 2) := by decide +kernel
theorem dX12_feed_38 : decode cX12_feed 38 = .ok (.invokevirtual 14, 3) := by decide +kernel
theorem dX12_feed_41 : decode cX12_feed 41 = .ok (.aload_n 0, 1) := by decide +kernel
theorem dX12_feed_42 : decode cX12_feed 42 = .ok (.iload 5, 2) := by decide +kernel
theorem dX12_feed_44 : decode cX12_feed 44 = .ok (.invokevirtual 14, 3) := by decide +kernel
theorem dX12_feed_47 : decode cX12_feed 47 = .ok (.aload_n 0, 1) := by decide +kernel
theorem dX12_feed_48 : decode cX12_feed 48 = .ok (.getfield 11, 3) := by decide +kernel
theorem dX12_feed_51 : decode cX12_feed 51 = .ok (.ireturn, 1) := by decide +kernel
theorem dX12_feed_18 : decode cX12_feed 18 = .ok (.iconst (-1), 1) := by decide +kernel
theorem dX12_feed_19 : decode cX12_feed 19 = .ok (.ireturn, 1) := by decide +kernel
theorem dX12_end_0 : decode cX12_end 0 = .ok (.aload_n 0, 1) := by decide +kernel
theorem dX12_end_1 : decode cX12_end 1 = .ok (.iconst 0, 1) := by decide +kernel
theorem dX12_end_2 : decode cX12_end 2 = .ok (.putfield 1, 3) := by decide +kernel
theorem dX12_end_5 : decode cX12_end 5 = .ok (.iload_n 1, 1) := by decide +kernel
theorem dX12_end_6 : decode cX12_end 6 = .ok (.ifCond .lt 11, 3) := by decide +kernel
theorem dX12_end_17 : decode cX12_end 17 = .ok (.iconst 0, 1) := by decide +kernel
theorem dX12_end_18 : decode cX12_end 18 = .ok (.ireturn, 1) := by decide +kernel
theorem dX12_end_9 : decode cX12_end 9 = .ok (.iload_n 1, 1) := by decide +kernel
theorem dX12_end_10 : decode cX12_end 10 = .ok (.aload_n 0, 1) := by decide +kernel
theorem dX12_end_11 : decode cX12_end 11 = .ok (.getfield 11, 3) := by decide +kernel
theorem dX12_end_14 : decode cX12_end 14 = .ok (.if_icmp .le 5, 3) := by decide +kernel
theorem dX12_end_19 : decode cX12_end 19 = .ok (.aload_n 0, 1) := by decide +kernel
theorem dX12_end_20 : decode cX12_end 20 = .ok (.iload_n 1, 1) := by decide +kernel
theorem dX12_end_21 : decode cX12_end 21 = .ok (.putfield 11, 3) := by decide +kernel
theorem dX12_end_24 : decode cX12_end 24 = .ok (.iconst 1, 1) := by decide +kernel
theorem dX12_end_25 : decode cX12_end 25 = .ok (.ireturn, 1) := by decide +kernel
