theorem dX12_park_123 : decode cX12_park 123 = .ok (.iinc 2 1, 3) := by decide +kernel
theorem dX12_park_126 : decode cX12_park 126 = .ok (.goto (-21), 3) := by decide +kernel
theorem dX12_park_85 : decode cX12_park 85 = .ok (.aload_n 0, 1) := by decide +kernel
theorem dX12_park_86 : decode cX12_park 86 = .ok (.getfield 98, 3) := by decide +kernel
theorem dX12_park_89 : decode cX12_park 89 = .ok (.iload_n 2, 1) := by decide +kernel
theorem dX12_park_90 : decode cX12_park 90 = .ok (.aload_n 0, 1) := by decide +kernel
theorem dX12_park_91 : decode cX12_park 91 = .ok (.getfield 101, 3) := by decide +kernel
theorem dX12_park_94 : decode cX12_park 94 = .ok (.iload_n 2, 1) := by decide +kernel
theorem dX12_park_95 : decode cX12_park 95 = .ok (.iaload, 1) := by decide +kernel
theorem dX12_park_96 : decode cX12_park 96 = .ok (.iastore, 1) := by decide +kernel
theorem dX12_park_97 : decode cX12_park 97 = .ok (.iinc 2 1, 3) := by decide +kernel
theorem dX12_park_100 : decode cX12_park 100 = .ok (.goto (-21), 3) := by decide +kernel
theorem dX12_park_50 : decode cX12_park 50 = .ok (.aload_n 0, 1) := by decide +kernel
theorem dX12_park_51 : decode cX12_park 51 = .ok (.invokevirtual 208, 3) := by decide +kernel
theorem dX12_park_54 : decode cX12_park 54 = .ok (.ifCond .eq 10, 3) := by decide +kernel
theorem dX12_park_57 : decode cX12_park 57 = .ok (.aload_n 0, 1) := by decide +kernel
theorem dX12_park_58 : decode cX12_park 58 = .ok (.invokevirtual 211, 3) := by decide +kernel
theorem dX12_park_61 : decode cX12_park 61 = .ok (.ifCond .ne 10, 3) := by decide +kernel
theorem dX12_park_71 : decode cX12_park 71 = .ok (.iinc 1 1, 3) := by decide +kernel
theorem dX12_park_74 : decode cX12_park 74 = .ok (.goto (-31), 3) := by decide +kernel
theorem dX12_park_64 : decode cX12_park 64 = .ok (.iconst (-1), 1) := by decide +kernel
theorem dX12_park_65 : decode cX12_park 65 = .ok (.aload_n 0, 1) := by decide +kernel
theorem dX12_park_66 : decode cX12_park 66 = .ok (.getfield 69, 3) := by decide +kernel
theorem dX12_park_69 : decode cX12_park 69 = .ok (.isub, 1) := by decide +kernel
theorem dX12_park_70 : decode cX12_park 70 = .ok (.ireturn, 1) := by decide +kernel
theorem dX12_park_15 : decode cX12_park 15 = .ok (.aload_n 0, 1) := by decide +kernel
theorem dX12_park_16 : decode cX12_park 16 = .ok (.getfield 101, 3) := by decide +kernel
theorem dX12_park_19 : decode cX12_park 19 = .ok (.iload_n 1, 1) := by decide +kernel
theorem dX12_park_20 : decode cX12_park 20 = .ok (.iconst 0, 1) := by decide +kernel
theorem dX12_park_21 : decode cX12_park 21 = .ok (.iastore, 1) := by decide +kernel
theorem dX12_park_22 : decode cX12_park 22 = .ok (.iinc 1 1, 3) := by decide +kernel
theorem dX12_park_25 : decode cX12_park 25 = .ok (.goto (-16), 3) := by decide +kernel
