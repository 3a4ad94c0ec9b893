theorem dX12_isIn_0 : decode cX12_isIn 0 = .ok (.iload_n 0, 1) := by decide +kernel
theorem dX12_isIn_1 : decode cX12_isIn 1 = .ok (.iload_n 1, 1) := by decide +kernel
theorem dX12_isIn_2 : decode cX12_isIn 2 = .ok (.if_icmp .lt 12, 3) := by decide +kernel
theorem dX12_isIn_14 : decode cX12_isIn 14 = .ok (.iconst 0, 1) := by decide +kernel
theorem dX12_isIn_15 : decode cX12_isIn 15 = .ok (.ireturn, 1) := by decide +kernel
theorem dX12_isIn_5 : decode cX12_isIn 5 = .ok (.iload_n 0, 1) := by decide +kernel
theorem dX12_isIn_6 : decode cX12_isIn 6 = .ok (.iload_n 2, 1) := by decide +kernel
theorem dX12_isIn_7 : decode cX12_isIn 7 = .ok (.if_icmp .gt 7, 3) := by decide +kernel
theorem dX12_isIn_10 : decode cX12_isIn 10 = .ok (.iconst 1, 1) := by decide +kernel
theorem dX12_isIn_11 : decode cX12_isIn 11 = .ok (.goto 4, 3) := by decide +kernel
theorem dX12_has_0 : decode cX12_has 0 = .ok (.iload_n 0, 1) := by decide +kernel
theorem dX12_has_1 : decode cX12_has 1 = .ok (.iload_n 1, 1) := by decide +kernel
theorem dX12_has_2 : decode cX12_has 2 = .ok (.ishr, 1) := by decide +kernel
theorem dX12_has_3 : decode cX12_has 3 = .ok (.iconst 1, 1) := by decide +kernel
theorem dX12_has_4 : decode cX12_has 4 = .ok (.iand, 1) := by decide +kernel
theorem dX12_has_5 : decode cX12_has 5 = .ok (.iconst 1, 1) := by decide +kernel
theorem dX12_has_6 : decode cX12_has 6 = .ok (.if_icmp .ne 7, 3) := by decide +kernel
theorem dX12_has_13 : decode cX12_has 13 = .ok (.iconst 0, 1) := by decide +kernel
theorem dX12_has_14 : decode cX12_has 14 = .ok (.ireturn, 1) := by decide +kernel
theorem dX12_has_9 : decode cX12_has 9 = .ok (.iconst 1, 1) := by decide +kernel
theorem dX12_has_10 : decode cX12_has 10 = .ok (.goto 4, 3) := by decide +kernel
theorem dX12_least_0 : decode cX12_least 0 = .ok (.iload_n 0, 1) := by decide +kernel
theorem dX12_least_1 : decode cX12_least 1 = .ok (.iload_n 1, 1) := by decide +kernel
theorem dX12_least_2 : decode cX12_least 2 = .ok (.if_icmp .ge 7, 3) := by decide +kernel
theorem dX12_least_9 : decode cX12_least 9 = .ok (.iload_n 1, 1) := by decide +kernel
theorem dX12_least_10 : decode cX12_least 10 = .ok (.ireturn, 1) := by decide +kernel
theorem dX12_least_5 : decode cX12_least 5 = .ok (.iload_n 0, 1) := by decide +kernel
theorem dX12_least_6 : decode cX12_least 6 = .ok (.goto 4, 3) := by decide +kernel
theorem dX12_isDigit_0 : decode cX12_isDigit 0 = .ok (.iload_n 0, 1) := by decide +kernel
theorem dX12_isDigit_1 : decode cX12_isDigit 1 = .ok (.bipush 48, 2) := by decide +kernel
theorem dX12_isDigit_3 : decode cX12_isDigit 3 = .ok (.if_icmp .lt 13, 3) := by decide +kernel
theorem dX12_isDigit_16 : decode cX12_isDigit 16 = .ok (.iconst 0, 1) := by decide +kernel
theorem dX12_isDigit_17 : decode cX12_isDigit 17 = .ok (.ireturn, 1) := by decide +kernel
theorem dX12_isDigit_6 : decode cX12_isDigit 6 = .ok (.iload_n 0, 1) := by decide +kernel
theorem dX12_isDigit_7 : decode cX12_isDigit 7 = .ok (.bipush 57, 2) := by decide +kernel
theorem dX12_isDigit_9 : decode cX12_isDigit 9 = .ok (.if_icmp .gt 7, 3) := by decide +kernel
theorem dX12_isDigit_12 : decode cX12_isDigit 12 = .ok (.iconst 1, 1) := by decide +kernel
theorem dX12_isDigit_13 : decode cX12_isDigit 13 = .ok (.goto 4, 3) := by decide +kernel
theorem dX12_isLetter_0 : decode cX12_isLetter 0 = .ok (.iload_n 0, 1) := by decide +kernel
theorem dX12_isLetter_1 : decode cX12_isLetter 1 = .ok (.bipush 97, 2) := by decide +kernel
theorem dX12_isLetter_3 : decode cX12_isLetter 3 = .ok (.if_icmp .lt 13, 3) := by decide +kernel
theorem dX12_isLetter_16 : decode cX12_isLetter 16 = .ok (.iconst 0, 1) := by decide +kernel
theorem dX12_isLetter_17 : decode cX12_isLetter 17 = .ok (.ireturn, 1) := by decide +kernel
theorem dX12_isLetter_6 : decode cX12_isLetter 6 = .ok (.iload_n 0, 1) := by decide +kernel
theorem dX12_isLetter_7 : decode cX12_isLetter 7 = .ok (.bipush 122, 2) := by decide +kernel
theorem dX12_isLetter_9 : decode cX12_isLetter 9 = .ok (.if_icmp .gt 7, 3) := by decide +kernel
theorem dX12_isLetter_12 : decode cX12_isLetter 12 = .ok (.iconst 1, 1) := by decide +kernel
theorem dX12_isLetter_13 : decode cX12_isLetter 13 = .ok (.goto 4, 3) := by decide +kernel
theorem dX12_hoursIn_0 : decode cX12_hoursIn 0 = .ok (.iconst 1, 1) := by decide +kernel
theorem dX12_hoursIn_1 : decode cX12_hoursIn 1 = .ok (.iload_n 1, 1) := by decide +kernel
theorem dX12_hoursIn_2 : decode cX12_hoursIn 2 = .ok (.iconst 1, 1) := by decide +kernel
theorem dX12_hoursIn_3 : decode cX12_hoursIn 3 = .ok (.iadd, 1) := by decide +kernel
theorem dX12_hoursIn_4 : decode cX12_hoursIn 4 = .ok (.ishl, 1) := by decide +kernel
theorem dX12_hoursIn_5 : decode cX12_hoursIn 5 = .ok (.iconst 1, 1) := by decide +kernel
theorem dX12_hoursIn_6 : decode cX12_hoursIn 6 = .ok (.iload_n 0, 1) := by decide +kernel
theorem dX12_hoursIn_7 : decode cX12_hoursIn 7 = .ok (.ishl, 1) := by decide +kernel
theorem dX12_hoursIn_8 : decode cX12_hoursIn 8 = .ok (.isub, 1) := by decide +kernel
theorem dX12_hoursIn_9 : decode cX12_hoursIn 9 = .ok (.ireturn, 1) := by decide +kernel
theorem dX12_bits_0 : decode cX12_bits 0 = .ok (.iconst 0, 1) := by decide +kernel
theorem dX12_bits_1 : decode cX12_bits 1 = .ok (.istore_n 1, 1) := by decide +kernel
theorem dX12_bits_2 : decode cX12_bits 2 = .ok (.iload_n 0, 1) := by decide +kernel
theorem dX12_bits_3 : decode cX12_bits 3 = .ok (.istore_n 2, 1) := by decide +kernel
theorem dX12_bits_4 : decode cX12_bits 4 = .ok (.iload_n 2, 1) := by decide +kernel
theorem dX12_bits_5 : decode cX12_bits 5 = .ok (.ifCond .eq 15, 3) := by decide +kernel
theorem dX12_bits_20 : decode cX12_bits 20 = .ok (.iload_n 1, 1) := by decide +kernel
theorem dX12_bits_21 : decode cX12_bits 21 = .ok (.ireturn, 1) := by decide +kernel
theorem dX12_bits_8 : decode cX12_bits 8 = .ok (.iinc 1 1, 3) := by decide +kernel
theorem dX12_bits_11 : decode cX12_bits 11 = .ok (.iload_n 2, 1) := by decide +kernel
theorem dX12_bits_12 : decode cX12_bits 12 = .ok (.iload_n 2, 1) := by decide +kernel
theorem dX12_bits_13 : decode cX12_bits 13 = .ok (.iconst 1, 1) := by decide +kernel
theorem dX12_bits_14 : decode cX12_bits 14 = .ok (.isub, 1) := by decide +kernel
theorem dX12_bits_15 : decode cX12_bits 15 = .ok (.iand, 1) := by decide +kernel
theorem dX12_bits_16 : decode cX12_bits 16 = .ok (.istore_n 2, 1) := by decide +kernel
theorem dX12_bits_17 : decode cX12_bits 17 = .ok (.goto (-13), 3) := by decide +kernel
theorem dX12_refuse_0 : decode cX12_refuse 0 = .ok (.aload_n 0, 1) := by decide +kernel
theorem dX12_refuse_1 : decode cX12_refuse 1 = .ok (.iconst 1, 1) := by decide +kernel
theorem dX12_refuse_2 : decode cX12_refuse 2 = .ok (.putfield 1, 3) := by decide +kernel
theorem dX12_refuse_5 : decode cX12_refuse 5 = .ok (.iconst 0, 1) := by decide +kernel
theorem dX12_refuse_6 : decode cX12_refuse 6 = .ok (.ireturn, 1) := by decide +kernel
theorem dX12_isPlace_0 : decode cX12_isPlace 0 = .ok (.iload_n 1, 1) := by decide +kernel
theorem dX12_isPlace_1 : decode cX12_isPlace 1 = .ok (.iconst 0, 1) := by decide +kernel
theorem dX12_isPlace_2 : decode cX12_isPlace 2 = .ok (.aload_n 0, 1) := by decide +kernel
theorem dX12_isPlace_3 : decode cX12_isPlace 3 = .ok (.getfield 98, 3) := by decide +kernel
theorem dX12_isPlace_6 : decode cX12_isPlace 6 = .ok (.iconst 0, 1) := by decide +kernel
theorem dX12_isPlace_7 : decode cX12_isPlace 7 = .ok (.iaload, 1) := by decide +kernel
theorem dX12_isPlace_8 : decode cX12_isPlace 8 = .ok (.iconst 1, 1) := by decide +kernel
theorem dX12_isPlace_9 : decode cX12_isPlace 9 = .ok (.isub, 1) := by decide +kernel
theorem dX12_isPlace_10 : decode cX12_isPlace 10 = .ok (.invokestatic 75, 3) := by decide +kernel
theorem dX12_isPlace_13 : decode cX12_isPlace 13 = .ok (.ireturn, 1) := by decide +kernel
theorem dX12_isPerson_0 : decode cX12_isPerson 0 = .ok (.iload_n 1, 1) := by decide +kernel
theorem dX12_isPerson_1 : decode cX12_isPerson 1 = .ok (.iconst 0, 1) := by decide +kernel
theorem dX12_isPerson_2 : decode cX12_isPerson 2 = .ok (.aload_n 0, 1) := by decide +kernel
theorem dX12_isPerson_3 : decode cX12_isPerson 3 = .ok (.getfield 98, 3) := by decide +kernel
theorem dX12_isPerson_6 : decode cX12_isPerson 6 = .ok (.iconst 1, 1) := by decide +kernel
theorem dX12_isPerson_7 : decode cX12_isPerson 7 = .ok (.iaload, 1) := by decide +kernel
theorem dX12_isPerson_8 : decode cX12_isPerson 8 = .ok (.iconst 1, 1) := by decide +kernel
theorem dX12_isPerson_9 : decode cX12_isPerson 9 = .ok (.isub, 1) := by decide +kernel
theorem dX12_isPerson_10 : decode cX12_isPerson 10 = .ok (.invokestatic 75, 3) := by decide +kernel
theorem dX12_isPerson_13 : decode cX12_isPerson 13 = .ok (.ireturn, 1) := by decide +kernel
theorem dX12_isDog_0 : decode cX12_isDog 0 = .ok (.iload_n 1, 1) := by decide +kernel
theorem dX12_isDog_1 : decode cX12_isDog 1 = .ok (.iconst 0, 1) := by decide +kernel
theorem dX12_isDog_2 : decode cX12_isDog 2 = .ok (.aload_n 0, 1) := by decide +kernel
theorem dX12_isDog_3 : decode cX12_isDog 3 = .ok (.getfield 98, 3) := by decide +kernel
theorem dX12_isDog_6 : decode cX12_isDog 6 = .ok (.iconst 2, 1) := by decide +kernel
theorem dX12_isDog_7 : decode cX12_isDog 7 = .ok (.iaload, 1) := by decide +kernel
theorem dX12_isDog_8 : decode cX12_isDog 8 = .ok (.iconst 1, 1) := by decide +kernel
theorem dX12_isDog_9 : decode cX12_isDog 9 = .ok (.isub, 1) := by decide +kernel
theorem dX12_isDog_10 : decode cX12_isDog 10 = .ok (.invokestatic 75, 3) := by decide +kernel
theorem dX12_isDog_13 : decode cX12_isDog 13 = .ok (.ireturn, 1) := by decide +kernel
theorem dX12_isAway_0 : decode cX12_isAway 0 = .ok (.aload_n 0, 1) := by decide +kernel
theorem dX12_isAway_1 : decode cX12_isAway 1 = .ok (.getfield 98, 3) := by decide +kernel
theorem dX12_isAway_4 : decode cX12_isAway 4 = .ok (.bipush 95, 2) := by decide +kernel
theorem dX12_isAway_6 : decode cX12_isAway 6 = .ok (.iload_n 1, 1) := by decide +kernel
theorem dX12_isAway_7 : decode cX12_isAway 7 = .ok (.iadd, 1) := by decide +kernel
theorem dX12_isAway_8 : decode cX12_isAway 8 = .ok (.iaload, 1) := by decide +kernel
theorem dX12_isAway_9 : decode cX12_isAway 9 = .ok (.ifCond .le 7, 3) := by decide +kernel
theorem dX12_isAway_16 : decode cX12_isAway 16 = .ok (.iconst 0, 1) := by decide +kernel
theorem dX12_isAway_17 : decode cX12_isAway 17 = .ok (.ireturn, 1) := by decide +kernel
theorem dX12_isAway_12 : decode cX12_isAway 12 = .ok (.iconst 1, 1) := by decide +kernel
theorem dX12_isAway_13 : decode cX12_isAway 13 = .ok (.goto 4, 3) := by decide +kernel
theorem dX12_isFenced_0 : decode cX12_isFenced 0 = .ok (.aload_n 0, 1) := by decide +kernel
theorem dX12_isFenced_1 : decode cX12_isFenced 1 = .ok (.getfield 98, 3) := by decide +kernel
theorem dX12_isFenced_4 : decode cX12_isFenced 4 = .ok (.bipush 65, 2) := by decide +kernel
theorem dX12_isFenced_6 : decode cX12_isFenced 6 = .ok (.iaload, 1) := by decide +kernel
theorem dX12_isFenced_7 : decode cX12_isFenced 7 = .ok (.iload_n 1, 1) := by decide +kernel
theorem dX12_isFenced_8 : decode cX12_isFenced 8 = .ok (.invokestatic 217, 3) := by decide +kernel
theorem dX12_isFenced_11 : decode cX12_isFenced 11 = .ok (.ireturn, 1) := by decide +kernel
theorem dX12_hoursOf_0 : decode cX12_hoursOf 0 = .ok (.aload_n 0, 1) := by decide +kernel
theorem dX12_hoursOf_1 : decode cX12_hoursOf 1 = .ok (.getfield 98, 3) := by decide +kernel
theorem dX12_hoursOf_4 : decode cX12_hoursOf 4 = .ok (.bipush 79, 2) := by decide +kernel
theorem dX12_hoursOf_6 : decode cX12_hoursOf 6 = .ok (.iload_n 1, 1) := by decide +kernel
theorem dX12_hoursOf_7 : decode cX12_hoursOf 7 = .ok (.iadd, 1) := by decide +kernel
theorem dX12_hoursOf_8 : decode cX12_hoursOf 8 = .ok (.iaload, 1) := by decide +kernel
theorem dX12_hoursOf_9 : decode cX12_hoursOf 9 = .ok (.aload_n 0, 1) := by decide +kernel
theorem dX12_hoursOf_10 : decode cX12_hoursOf 10 = .ok (.getfield 98, 3) := by decide +kernel
theorem dX12_hoursOf_13 : decode cX12_hoursOf 13 = .ok (.bipush 87, 2) := by decide +kernel
theorem dX12_hoursOf_15 : decode cX12_hoursOf 15 = .ok (.iload_n 1, 1) := by decide +kernel
theorem dX12_hoursOf_16 : decode cX12_hoursOf 16 = .ok (.iadd, 1) := by decide +kernel
theorem dX12_hoursOf_17 : decode cX12_hoursOf 17 = .ok (.iaload, 1) := by decide +kernel
theorem dX12_hoursOf_18 : decode cX12_hoursOf 18 = .ok (.invokestatic 185, 3) := by decide +kernel
theorem dX12_hoursOf_21 : decode cX12_hoursOf 21 = .ok (.ireturn, 1) := by decide +kernel
theorem dX12_comesIn_0 : decode cX12_comesIn 0 = .ok (.aload_n 0, 1) := by decide +kernel
theorem dX12_comesIn_1 : decode cX12_comesIn 1 = .ok (.getfield 98, 3) := by decide +kernel
theorem dX12_comesIn_4 : decode cX12_comesIn 4 = .ok (.bipush 71, 2) := by decide +kernel
theorem dX12_comesIn_6 : decode cX12_comesIn 6 = .ok (.iload_n 1, 1) := by decide +kernel
theorem dX12_comesIn_7 : decode cX12_comesIn 7 = .ok (.iadd, 1) := by decide +kernel
theorem dX12_comesIn_8 : decode cX12_comesIn 8 = .ok (.iaload, 1) := by decide +kernel
theorem dX12_comesIn_9 : decode cX12_comesIn 9 = .ok (.iload_n 2, 1) := by decide +kernel
theorem dX12_comesIn_10 : decode cX12_comesIn 10 = .ok (.if_icmp .ne 19, 3) := by decide +kernel
theorem dX12_comesIn_29 : decode cX12_comesIn 29 = .ok (.iconst 0, 1) := by decide +kernel
theorem dX12_comesIn_30 : decode cX12_comesIn 30 = .ok (.ireturn, 1) := by decide +kernel
theorem dX12_comesIn_13 : decode cX12_comesIn 13 = .ok (.aload_n 0, 1) := by decide +kernel
theorem dX12_comesIn_14 : decode cX12_comesIn 14 = .ok (.iload_n 1, 1) := by decide +kernel
theorem dX12_comesIn_15 : decode cX12_comesIn 15 = .ok (.invokevirtual 220, 3) := by decide +kernel
theorem dX12_comesIn_18 : decode cX12_comesIn 18 = .ok (.iload_n 3, 1) := by decide +kernel
theorem dX12_comesIn_19 : decode cX12_comesIn 19 = .ok (.invokestatic 217, 3) := by decide +kernel
theorem dX12_comesIn_22 : decode cX12_comesIn 22 = .ok (.ifCond .eq 7, 3) := by decide +kernel
theorem dX12_comesIn_25 : decode cX12_comesIn 25 = .ok (.iconst 1, 1) := by decide +kernel
theorem dX12_comesIn_26 : decode cX12_comesIn 26 = .ok (.goto 4, 3) := by decide +kernel
theorem dX12_dogsOf_0 : decode cX12_dogsOf 0 = .ok (.iconst 0, 1) := by decide +kernel
theorem dX12_dogsOf_1 : decode cX12_dogsOf 1 = .ok (.istore_n 2, 1) := by decide +kernel
theorem dX12_dogsOf_2 : decode cX12_dogsOf 2 = .ok (.iconst 0, 1) := by decide +kernel
theorem dX12_dogsOf_3 : decode cX12_dogsOf 3 = .ok (.istore_n 3, 1) := by decide +kernel
theorem dX12_dogsOf_4 : decode cX12_dogsOf 4 = .ok (.iload_n 3, 1) := by decide +kernel
theorem dX12_dogsOf_5 : decode cX12_dogsOf 5 = .ok (.aload_n 0, 1) := by decide +kernel
theorem dX12_dogsOf_6 : decode cX12_dogsOf 6 = .ok (.getfield 98, 3) := by decide +kernel
theorem dX12_dogsOf_9 : decode cX12_dogsOf 9 = .ok (.iconst 2, 1) := by decide +kernel
theorem dX12_dogsOf_10 : decode cX12_dogsOf 10 = .ok (.iaload, 1) := by decide +kernel
theorem dX12_dogsOf_11 : decode cX12_dogsOf 11 = .ok (.if_icmp .ge 28, 3) := by decide +kernel
theorem dX12_dogsOf_39 : decode cX12_dogsOf 39 = .ok (.iload_n 2, 1) := by decide +kernel
theorem dX12_dogsOf_40 : decode cX12_dogsOf 40 = .ok (.ireturn, 1) := by decide +kernel
theorem dX12_dogsOf_14 : decode cX12_dogsOf 14 = .ok (.aload_n 0, 1) := by decide +kernel
theorem dX12_dogsOf_15 : decode cX12_dogsOf 15 = .ok (.getfield 98, 3) := by decide +kernel
theorem dX12_dogsOf_18 : decode cX12_dogsOf 18 = .ok (.bipush 42, 2) := by decide +kernel
theorem dX12_dogsOf_20 : decode cX12_dogsOf 20 = .ok (.iload_n 3, 1) := by decide +kernel
theorem dX12_dogsOf_21 : decode cX12_dogsOf 21 = .ok (.iadd, 1) := by decide +kernel
theorem dX12_dogsOf_22 : decode cX12_dogsOf 22 = .ok (.iaload, 1) := by decide +kernel
theorem dX12_dogsOf_23 : decode cX12_dogsOf 23 = .ok (.iload_n 1, 1) := by decide +kernel
theorem dX12_dogsOf_24 : decode cX12_dogsOf 24 = .ok (.if_icmp .ne 9, 3) := by decide +kernel
theorem dX12_dogsOf_33 : decode cX12_dogsOf 33 = .ok (.iinc 3 1, 3) := by decide +kernel
theorem dX12_dogsOf_36 : decode cX12_dogsOf 36 = .ok (.goto (-32), 3) := by decide +kernel
theorem dX12_dogsOf_27 : decode cX12_dogsOf 27 = .ok (.iload_n 2, 1) := by decide +kernel
theorem dX12_dogsOf_28 : decode cX12_dogsOf 28 = .ok (.iconst 1, 1) := by decide +kernel
theorem dX12_dogsOf_29 : decode cX12_dogsOf 29 = .ok (.iload_n 3, 1) := by decide +kernel
theorem dX12_dogsOf_30 : decode cX12_dogsOf 30 = .ok (.ishl, 1) := by decide +kernel
theorem dX12_dogsOf_31 : decode cX12_dogsOf 31 = .ok (.ior, 1) := by decide +kernel
theorem dX12_dogsOf_32 : decode cX12_dogsOf 32 = .ok (.istore_n 2, 1) := by decide +kernel
