theorem dX11_appendName_0 : decode cX11_appendName 0 = .ok (.bipush 6, 2) := by decide +kernel
theorem dX11_appendName_2 : decode cX11_appendName 2 = .ok (.istore_n 3, 1) := by decide +kernel
theorem dX11_appendName_3 : decode cX11_appendName 3 = .ok (.iload_n 3, 1) := by decide +kernel
theorem dX11_appendName_4 : decode cX11_appendName 4 = .ok (.ifCond .lt 41, 3) := by decide +kernel
theorem dX11_appendName_7 : decode cX11_appendName 7 = .ok (.lload_n 1, 1) := by decide +kernel
theorem dX11_appendName_8 : decode cX11_appendName 8 = .ok (.iload_n 3, 1) := by decide +kernel
theorem dX11_appendName_9 : decode cX11_appendName 9 = .ok (.iconst 5, 1) := by decide +kernel
theorem dX11_appendName_10 : decode cX11_appendName 10 = .ok (.imul, 1) := by decide +kernel
theorem dX11_appendName_11 : decode cX11_appendName 11 = .ok (.lushr, 1) := by decide +kernel
theorem dX11_appendName_12 : decode cX11_appendName 12 = .ok (.l2i, 1) := by decide +kernel
theorem dX11_appendName_13 : decode cX11_appendName 13 = .ok (.bipush 31, 2) := by decide +kernel
theorem dX11_appendName_15 : decode cX11_appendName 15 = .ok (.iand, 1) := by decide +kernel
theorem dX11_appendName_16 : decode cX11_appendName 16 = .ok (.istore 4, 2) := by decide +kernel
theorem dX11_appendName_18 : decode cX11_appendName 18 = .ok (.iload 4, 2) := by decide +kernel
theorem dX11_appendName_39 : decode cX11_appendName 39 = .ok (.iinc 3 (-1), 3) := by decide +kernel
theorem dX11_appendName_42 : decode cX11_appendName 42 = .ok (.goto (-39), 3) := by decide +kernel
theorem dX11_appendName_20 : decode cX11_appendName 20 = .ok (.ifCond .eq 19, 3) := by decide +kernel
theorem dX11_appendName_45 : decode cX11_appendName 45 = .ok (.return_, 1) := by decide +kernel
theorem dX11_appendName_23 : decode cX11_appendName 23 = .ok (.aload_n 0, 1) := by decide +kernel
theorem dX11_appendName_24 : decode cX11_appendName 24 = .ok (.getfield 86, 3) := by decide +kernel
theorem dX11_appendName_27 : decode cX11_appendName 27 = .ok (.bipush 97, 2) := by decide +kernel
theorem dX11_appendName_29 : decode cX11_appendName 29 = .ok (.iload 4, 2) := by decide +kernel
theorem dX11_appendName_31 : decode cX11_appendName 31 = .ok (.iadd, 1) := by decide +kernel
theorem dX11_appendName_32 : decode cX11_appendName 32 = .ok (.iconst 1, 1) := by decide +kernel
theorem dX11_appendName_33 : decode cX11_appendName 33 = .ok (.isub, 1) := by decide +kernel
theorem dX11_appendName_34 : decode cX11_appendName 34 = .ok (.i2c, 1) := by decide +kernel
theorem dX11_appendName_35 : decode cX11_appendName 35 = .ok (.invokevirtual 383, 3) := by decide +kernel
theorem dX11_appendName_38 : decode cX11_appendName 38 = .ok (.pop, 1) := by decide +kernel
theorem dX11_byteAt_0 : decode cX11_byteAt 0 = .ok (.iload_n 1, 1) := by decide +kernel
theorem dX11_byteAt_1 : decode cX11_byteAt 1 = .ok (.ifCond .lt 14, 3) := by decide +kernel
theorem dX11_byteAt_15 : decode cX11_byteAt 15 = .ok (.iconst (-1), 1) := by decide +kernel
theorem dX11_byteAt_16 : decode cX11_byteAt 16 = .ok (.ireturn, 1) := by decide +kernel
theorem dX11_byteAt_4 : decode cX11_byteAt 4 = .ok (.iload_n 1, 1) := by decide +kernel
theorem dX11_byteAt_5 : decode cX11_byteAt 5 = .ok (.aload_n 0, 1) := by decide +kernel
theorem dX11_byteAt_6 : decode cX11_byteAt 6 = .ok (.getfield 86, 3) := by decide +kernel
theorem dX11_byteAt_9 : decode cX11_byteAt 9 = .ok (.invokevirtual 340, 3) := by decide +kernel
theorem dX11_byteAt_12 : decode cX11_byteAt 12 = .ok (.if_icmp .lt 5, 3) := by decide +kernel
theorem dX11_byteAt_17 : decode cX11_byteAt 17 = .ok (.aload_n 0, 1) := by decide +kernel
theorem dX11_byteAt_18 : decode cX11_byteAt 18 = .ok (.getfield 86, 3) := by decide +kernel
theorem dX11_byteAt_21 : decode cX11_byteAt 21 = .ok (.iload_n 1, 1) := by decide +kernel
theorem dX11_byteAt_22 : decode cX11_byteAt 22 = .ok (.invokevirtual 343, 3) := by decide +kernel
theorem dX11_byteAt_25 : decode cX11_byteAt 25 = .ok (.ireturn, 1) := by decide +kernel
