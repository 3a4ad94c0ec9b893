theorem dX4_goodOfAll_29 : decode cX4_goodOfAll 29 = .ok (.aload_n 0, 1) := by decide +kernel
theorem dX4_goodOfAll_30 : decode cX4_goodOfAll 30 = .ok (.iload_n 3, 1) := by decide +kernel
theorem dX4_goodOfAll_31 : decode cX4_goodOfAll 31 = .ok (.aload_n 0, 1) := by decide +kernel
theorem dX4_goodOfAll_32 : decode cX4_goodOfAll 32 = .ok (.getfield 25, 3) := by decide +kernel
theorem dX4_goodOfAll_35 : decode cX4_goodOfAll 35 = .ok (.iload_n 3, 1) := by decide +kernel
theorem dX4_goodOfAll_36 : decode cX4_goodOfAll 36 = .ok (.aaload, 1) := by decide +kernel
theorem dX4_goodOfAll_37 : decode cX4_goodOfAll 37 = .ok (.getfield 97, 3) := by decide +kernel
theorem dX4_goodOfAll_40 : decode cX4_goodOfAll 40 = .ok (.invokevirtual 127, 3) := by decide +kernel
theorem dX4_goodOfAll_43 : decode cX4_goodOfAll 43 = .ok (.iadd, 1) := by decide +kernel
theorem dX4_goodOfAll_44 : decode cX4_goodOfAll 44 = .ok (.istore_n 2, 1) := by decide +kernel
theorem dX4_goodOfAll_45 : decode cX4_goodOfAll 45 = .ok (.iinc 3 1, 3) := by decide +kernel
theorem dX4_goodOfAll_48 : decode cX4_goodOfAll 48 = .ok (.goto (-44), 3) := by decide +kernel
theorem dX4_goodOfAll_16 : decode cX4_goodOfAll 16 = .ok (.aload_n 0, 1) := by decide +kernel
theorem dX4_goodOfAll_17 : decode cX4_goodOfAll 17 = .ok (.getfield 25, 3) := by decide +kernel
theorem dX4_goodOfAll_20 : decode cX4_goodOfAll 20 = .ok (.iload_n 3, 1) := by decide +kernel
theorem dX4_goodOfAll_21 : decode cX4_goodOfAll 21 = .ok (.aaload, 1) := by decide +kernel
theorem dX4_goodOfAll_22 : decode cX4_goodOfAll 22 = .ok (.getfield 70, 3) := by decide +kernel
theorem dX4_goodOfAll_25 : decode cX4_goodOfAll 25 = .ok (.ifCond .ne 20, 3) := by decide +kernel
