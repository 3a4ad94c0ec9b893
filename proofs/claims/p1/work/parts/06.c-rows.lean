theorem dX12_sign_2 : decode cX12_sign 2 = .ok (.putfield 1, 3) := by decide +kernel
theorem dX12_sign_5 : decode cX12_sign 5 = .ok (.iload_n 1, 1) := by decide +kernel
theorem dX12_sign_6 : decode cX12_sign 6 = .ok (.iconst 0, 1) := by decide +kernel
theorem dX12_sign_7 : decode cX12_sign 7 = .ok (.bipush 12, 2) := by decide +kernel
theorem dX12_sign_9 : decode cX12_sign 9 = .ok (.invokestatic 75, 3) := by decide +kernel
theorem dX12_sign_12 : decode cX12_sign 12 = .ok (.ifCond .eq 15, 3) := by decide +kernel
theorem dX12_sign_27 : decode cX12_sign 27 = .ok (.iconst (-1), 1) := by decide +kernel
theorem dX12_sign_28 : decode cX12_sign 28 = .ok (.ireturn, 1) := by decide +kernel
theorem dX12_isIn_10 : decode cX12_isIn 10 = .ok (.iconst 1, 1) := by decide +kernel
theorem dX12_isIn_11 : decode cX12_isIn 11 = .ok (.goto 4, 3) := by decide +kernel
theorem dX12_why_0 : decode cX12_why 0 = .ok (.iload_n 1, 1) := by decide +kernel
theorem dX12_why_1 : decode cX12_why 1 = .ok (.tableswitch 185 0 4 #[35, 63, 89, 106, 138], 35) := by decide +kernel
theorem dX12_why_90 : decode cX12_why 90 = .ok (.aload_n 0, 1) := by decide +kernel
theorem dX12_why_91 : decode cX12_why 91 = .ok (.getfield 98, 3) := by decide +kernel
theorem dX12_why_94 : decode cX12_why 94 = .ok (.bipush 62, 2) := by decide +kernel
theorem dX12_why_96 : decode cX12_why 96 = .ok (.iaload, 1) := by decide +kernel
theorem dX12_why_97 : decode cX12_why 97 = .ok (.iload_n 2, 1) := by decide +kernel
theorem dX12_why_98 : decode cX12_why 98 = .ok (.if_icmp .ne 7, 3) := by decide +kernel
theorem dX12_why_101 : decode cX12_why 101 = .ok (.iconst 1, 1) := by decide +kernel
theorem dX12_why_102 : decode cX12_why 102 = .ok (.goto 4, 3) := by decide +kernel
theorem dX12_why_106 : decode cX12_why 106 = .ok (.ireturn, 1) := by decide +kernel
theorem dX12_act_0 : decode cX12_act 0 = .ok (.aload_n 0, 1) := by decide +kernel
theorem dX12_act_1 : decode cX12_act 1 = .ok (.iload_n 1, 1) := by decide +kernel
theorem dX12_act_2 : decode cX12_act 2 = .ok (.iload_n 2, 1) := by decide +kernel
theorem dX12_act_3 : decode cX12_act 3 = .ok (.iload_n 3, 1) := by decide +kernel
theorem dX12_act_4 : decode cX12_act 4 = .ok (.iload 4, 2) := by decide +kernel
theorem dX12_act_6 : decode cX12_act 6 = .ok (.iload 5, 2) := by decide +kernel
theorem dX12_act_8 : decode cX12_act 8 = .ok (.invokevirtual 260, 3) := by decide +kernel
theorem dX12_act_11 : decode cX12_act 11 = .ok (.istore 6, 2) := by decide +kernel
theorem dX12_act_13 : decode cX12_act 13 = .ok (.iload 6, 2) := by decide +kernel
theorem dX12_act_15 : decode cX12_act 15 = .ok (.ifCond .eq 6, 3) := by decide +kernel
theorem dX12_act_18 : decode cX12_act 18 = .ok (.iload 6, 2) := by decide +kernel
theorem dX12_act_20 : decode cX12_act 20 = .ok (.ireturn, 1) := by decide +kernel
theorem dX12_sign_15 : decode cX12_sign 15 = .ok (.aload_n 0, 1) := by decide +kernel
theorem dX12_sign_16 : decode cX12_sign 16 = .ok (.iconst 2, 1) := by decide +kernel
theorem dX12_sign_17 : decode cX12_sign 17 = .ok (.iload_n 1, 1) := by decide +kernel
theorem dX12_sign_18 : decode cX12_sign 18 = .ok (.iconst 0, 1) := by decide +kernel
theorem dX12_sign_19 : decode cX12_sign 19 = .ok (.iconst 0, 1) := by decide +kernel
theorem dX12_sign_20 : decode cX12_sign 20 = .ok (.iconst 0, 1) := by decide +kernel
theorem dX12_sign_21 : decode cX12_sign 21 = .ok (.invokevirtual 274, 3) := by decide +kernel
theorem dX12_sign_24 : decode cX12_sign 24 = .ok (.goto 4, 3) := by decide +kernel
theorem dX12_why_105 : decode cX12_why 105 = .ok (.iconst 0, 1) := by decide +kernel
theorem dX12_snap_0 : decode cX12_snap 0 = .ok (.aload_n 0, 1) := by decide +kernel
theorem dX12_snap_1 : decode cX12_snap 1 = .ok (.getfield 214, 3) := by decide +kernel
theorem dX12_snap_4 : decode cX12_snap 4 = .ok (.bipush 8, 2) := by decide +kernel
theorem dX12_snap_6 : decode cX12_snap 6 = .ok (.if_icmp .ne 43, 3) := by decide +kernel
theorem dX12_snap_49 : decode cX12_snap 49 = .ok (.iconst 0, 1) := by decide +kernel
theorem dX12_snap_50 : decode cX12_snap 50 = .ok (.istore_n 1, 1) := by decide +kernel
theorem dX12_snap_51 : decode cX12_snap 51 = .ok (.iload_n 1, 1) := by decide +kernel
theorem dX12_snap_52 : decode cX12_snap 52 = .ok (.bipush 70, 2) := by decide +kernel
theorem dX12_snap_54 : decode cX12_snap 54 = .ok (.if_icmp .ge 32, 3) := by decide +kernel
theorem dX12_snap_57 : decode cX12_snap 57 = .ok (.aload_n 0, 1) := by decide +kernel
theorem dX12_snap_58 : decode cX12_snap 58 = .ok (.getfield 107, 3) := by decide +kernel
theorem dX12_snap_61 : decode cX12_snap 61 = .ok (.bipush 70, 2) := by decide +kernel
theorem dX12_snap_63 : decode cX12_snap 63 = .ok (.aload_n 0, 1) := by decide +kernel
theorem dX12_snap_64 : decode cX12_snap 64 = .ok (.getfield 214, 3) := by decide +kernel
theorem dX12_snap_67 : decode cX12_snap 67 = .ok (.imul, 1) := by decide +kernel
theorem dX12_snap_68 : decode cX12_snap 68 = .ok (.iload_n 1, 1) := by decide +kernel
theorem dX12_snap_69 : decode cX12_snap 69 = .ok (.iadd, 1) := by decide +kernel
theorem dX12_snap_70 : decode cX12_snap 70 = .ok (.aload_n 0, 1) := by decide +kernel
theorem dX12_snap_71 : decode cX12_snap 71 = .ok (.getfield 98, 3) := by decide +kernel
theorem dX12_snap_74 : decode cX12_snap 74 = .ok (.bipush 61, 2) := by decide +kernel
theorem dX12_snap_76 : decode cX12_snap 76 = .ok (.iload_n 1, 1) := by decide +kernel
theorem dX12_snap_77 : decode cX12_snap 77 = .ok (.iadd, 1) := by decide +kernel
theorem dX12_snap_78 : decode cX12_snap 78 = .ok (.iaload, 1) := by decide +kernel
theorem dX12_snap_79 : decode cX12_snap 79 = .ok (.iastore, 1) := by decide +kernel
theorem dX12_snap_80 : decode cX12_snap 80 = .ok (.iinc 1 1, 3) := by decide +kernel
theorem dX12_snap_83 : decode cX12_snap 83 = .ok (.goto (-32), 3) := by decide +kernel
theorem dX12_snap_86 : decode cX12_snap 86 = .ok (.aload_n 0, 1) := by decide +kernel
theorem dX12_snap_87 : decode cX12_snap 87 = .ok (.dup, 1) := by decide +kernel
theorem dX12_snap_88 : decode cX12_snap 88 = .ok (.getfield 214, 3) := by decide +kernel
theorem dX12_snap_91 : decode cX12_snap 91 = .ok (.iconst 1, 1) := by decide +kernel
theorem dX12_snap_92 : decode cX12_snap 92 = .ok (.iadd, 1) := by decide +kernel
theorem dX12_snap_93 : decode cX12_snap 93 = .ok (.putfield 214, 3) := by decide +kernel
theorem dX12_snap_96 : decode cX12_snap 96 = .ok (.return_, 1) := by decide +kernel
theorem dX12_live_0 : decode cX12_live 0 = .ok (.iload_n 1, 1) := by decide +kernel
theorem dX12_live_1 : decode cX12_live 1 = .ok (.tableswitch 133 0 4 #[35, 55, 77, 86, 100], 35) := by decide +kernel
theorem dX12_live_78 : decode cX12_live 78 = .ok (.aload_n 0, 1) := by decide +kernel
theorem dX12_live_79 : decode cX12_live 79 = .ok (.getfield 98, 3) := by decide +kernel
theorem dX12_live_82 : decode cX12_live 82 = .ok (.bipush 62, 2) := by decide +kernel
theorem dX12_live_84 : decode cX12_live 84 = .ok (.iload_n 2, 1) := by decide +kernel
theorem dX12_live_85 : decode cX12_live 85 = .ok (.iastore, 1) := by decide +kernel
theorem dX12_live_86 : decode cX12_live 86 = .ok (.return_, 1) := by decide +kernel
theorem dX12_act_21 : decode cX12_act 21 = .ok (.aload_n 0, 1) := by decide +kernel
theorem dX12_act_22 : decode cX12_act 22 = .ok (.invokevirtual 264, 3) := by decide +kernel
theorem dX12_act_25 : decode cX12_act 25 = .ok (.aload_n 0, 1) := by decide +kernel
theorem dX12_act_26 : decode cX12_act 26 = .ok (.iload_n 1, 1) := by decide +kernel
theorem dX12_act_27 : decode cX12_act 27 = .ok (.iload_n 2, 1) := by decide +kernel
theorem dX12_act_28 : decode cX12_act 28 = .ok (.iload_n 3, 1) := by decide +kernel
theorem dX12_act_29 : decode cX12_act 29 = .ok (.iload 4, 2) := by decide +kernel
theorem dX12_act_31 : decode cX12_act 31 = .ok (.iload 5, 2) := by decide +kernel
theorem dX12_act_33 : decode cX12_act 33 = .ok (.invokevirtual 267, 3) := by decide +kernel
theorem dX12_act_36 : decode cX12_act 36 = .ok (.iconst 0, 1) := by decide +kernel
theorem dX12_act_37 : decode cX12_act 37 = .ok (.ireturn, 1) := by decide +kernel
theorem dX12_isDog_0 : decode cX12_isDog 0 = .ok (.iload_n 1, 1) := by decide +kernel
theorem dX12_isDog_1 : decode cX12_isDog 1 = .ok (.iconst 0, 1) := by decide +kernel
theorem dX12_isDog_2 : decode cX12_isDog 2 = .ok (.aload_n 0, 1) := by decide +kernel
theorem dX12_isDog_3 : decode cX12_isDog 3 = .ok (.getfield 98, 3) := by decide +kernel
theorem dX12_isDog_6 : decode cX12_isDog 6 = .ok (.iconst 2, 1) := by decide +kernel
theorem dX12_isDog_7 : decode cX12_isDog 7 = .ok (.iaload, 1) := by decide +kernel
theorem dX12_isDog_8 : decode cX12_isDog 8 = .ok (.iconst 1, 1) := by decide +kernel
theorem dX12_isDog_9 : decode cX12_isDog 9 = .ok (.isub, 1) := by decide +kernel
theorem dX12_isDog_10 : decode cX12_isDog 10 = .ok (.invokestatic 75, 3) := by decide +kernel
theorem dX12_isDog_13 : decode cX12_isDog 13 = .ok (.ireturn, 1) := by decide +kernel
theorem dX12_hold_0 : decode cX12_hold 0 = .ok (.aload_n 0, 1) := by decide +kernel
theorem dX12_hold_1 : decode cX12_hold 1 = .ok (.iconst 0, 1) := by decide +kernel
theorem dX12_hold_2 : decode cX12_hold 2 = .ok (.putfield 1, 3) := by decide +kernel
theorem dX12_hold_5 : decode cX12_hold 5 = .ok (.aload_n 0, 1) := by decide +kernel
theorem dX12_hold_6 : decode cX12_hold 6 = .ok (.iload_n 1, 1) := by decide +kernel
theorem dX12_hold_7 : decode cX12_hold 7 = .ok (.invokevirtual 247, 3) := by decide +kernel
theorem dX12_hold_10 : decode cX12_hold 10 = .ok (.ifCond .eq 24, 3) := by decide +kernel
theorem dX12_hold_34 : decode cX12_hold 34 = .ok (.iconst (-1), 1) := by decide +kernel
theorem dX12_hold_35 : decode cX12_hold 35 = .ok (.ireturn, 1) := by decide +kernel
theorem dX12_isPerson_0 : decode cX12_isPerson 0 = .ok (.iload_n 1, 1) := by decide +kernel
theorem dX12_isPerson_1 : decode cX12_isPerson 1 = .ok (.iconst 0, 1) := by decide +kernel
theorem dX12_isPerson_2 : decode cX12_isPerson 2 = .ok (.aload_n 0, 1) := by decide +kernel
theorem dX12_isPerson_3 : decode cX12_isPerson 3 = .ok (.getfield 98, 3) := by decide +kernel
theorem dX12_isPerson_6 : decode cX12_isPerson 6 = .ok (.iconst 1, 1) := by decide +kernel
theorem dX12_isPerson_7 : decode cX12_isPerson 7 = .ok (.iaload, 1) := by decide +kernel
theorem dX12_isPerson_8 : decode cX12_isPerson 8 = .ok (.iconst 1, 1) := by decide +kernel
theorem dX12_isPerson_9 : decode cX12_isPerson 9 = .ok (.isub, 1) := by decide +kernel
theorem dX12_isPerson_10 : decode cX12_isPerson 10 = .ok (.invokestatic 75, 3) := by decide +kernel
theorem dX12_isPerson_13 : decode cX12_isPerson 13 = .ok (.ireturn, 1) := by decide +kernel
theorem dX12_come__0 : decode cX12_come_ 0 = .ok (.aload_n 0, 1) := by decide +kernel
theorem dX12_come__1 : decode cX12_come_ 1 = .ok (.iconst 0, 1) := by decide +kernel
theorem dX12_come__2 : decode cX12_come_ 2 = .ok (.putfield 1, 3) := by decide +kernel
theorem dX12_come__5 : decode cX12_come_ 5 = .ok (.aload_n 0, 1) := by decide +kernel
theorem dX12_come__6 : decode cX12_come_ 6 = .ok (.iload_n 1, 1) := by decide +kernel
theorem dX12_come__7 : decode cX12_come_ 7 = .ok (.invokevirtual 241, 3) := by decide +kernel
theorem dX12_come__10 : decode cX12_come_ 10 = .ok (.ifCond .eq 33, 3) := by decide +kernel
theorem dX12_come__43 : decode cX12_come_ 43 = .ok (.iconst (-1), 1) := by decide +kernel
theorem dX12_come__44 : decode cX12_come_ 44 = .ok (.ireturn, 1) := by decide +kernel
theorem dX12_days_0 : decode cX12_days 0 = .ok (.aload_n 0, 1) := by decide +kernel
theorem dX12_days_1 : decode cX12_days 1 = .ok (.iconst 0, 1) := by decide +kernel
theorem dX12_days_2 : decode cX12_days 2 = .ok (.putfield 1, 3) := by decide +kernel
theorem dX12_days_5 : decode cX12_days 5 = .ok (.iload_n 1, 1) := by decide +kernel
theorem dX12_days_6 : decode cX12_days 6 = .ok (.iconst 1, 1) := by decide +kernel
theorem dX12_days_7 : decode cX12_days 7 = .ok (.bipush 30, 2) := by decide +kernel
theorem dX12_days_9 : decode cX12_days 9 = .ok (.invokestatic 75, 3) := by decide +kernel
theorem dX12_days_12 : decode cX12_days 12 = .ok (.ifCond .ne 5, 3) := by decide +kernel
theorem dX12_days_15 : decode cX12_days 15 = .ok (.iconst (-1), 1) := by decide +kernel
theorem dX12_days_16 : decode cX12_days 16 = .ok (.ireturn, 1) := by decide +kernel
theorem dX12_least_0 : decode cX12_least 0 = .ok (.iload_n 0, 1) := by decide +kernel
theorem dX12_least_1 : decode cX12_least 1 = .ok (.iload_n 1, 1) := by decide +kernel
theorem dX12_least_2 : decode cX12_least 2 = .ok (.if_icmp .ge 7, 3) := by decide +kernel
theorem dX12_least_5 : decode cX12_least 5 = .ok (.iload_n 0, 1) := by decide +kernel
theorem dX12_least_6 : decode cX12_least 6 = .ok (.goto 4, 3) := by decide +kernel
theorem dX12_least_10 : decode cX12_least 10 = .ok (.ireturn, 1) := by decide +kernel
theorem dX12_oneDay_0 : decode cX12_oneDay 0 = .ok (.aload_n 0, 1) := by decide +kernel
theorem dX12_oneDay_1 : decode cX12_oneDay 1 = .ok (.iconst 0, 1) := by decide +kernel
theorem dX12_oneDay_2 : decode cX12_oneDay 2 = .ok (.putfield 281, 3) := by decide +kernel
theorem dX12_oneDay_5 : decode cX12_oneDay 5 = .ok (.iconst 0, 1) := by decide +kernel
theorem dX12_oneDay_6 : decode cX12_oneDay 6 = .ok (.istore_n 1, 1) := by decide +kernel
theorem dX12_oneDay_7 : decode cX12_oneDay 7 = .ok (.iload_n 1, 1) := by decide +kernel
theorem dX12_oneDay_8 : decode cX12_oneDay 8 = .ok (.bipush 24, 2) := by decide +kernel
theorem dX12_oneDay_10 : decode cX12_oneDay 10 = .ok (.if_icmp .ge 33, 3) := by decide +kernel
theorem dX12_oneDay_13 : decode cX12_oneDay 13 = .ok (.iconst 0, 1) := by decide +kernel
theorem dX12_oneDay_14 : decode cX12_oneDay 14 = .ok (.istore_n 2, 1) := by decide +kernel
theorem dX12_oneDay_15 : decode cX12_oneDay 15 = .ok (.iload_n 2, 1) := by decide +kernel
theorem dX12_oneDay_16 : decode cX12_oneDay 16 = .ok (.aload_n 0, 1) := by decide +kernel
theorem dX12_oneDay_17 : decode cX12_oneDay 17 = .ok (.getfield 98, 3) := by decide +kernel
theorem dX12_oneDay_20 : decode cX12_oneDay 20 = .ok (.iconst 2, 1) := by decide +kernel
theorem dX12_oneDay_21 : decode cX12_oneDay 21 = .ok (.iaload, 1) := by decide +kernel
theorem dX12_oneDay_22 : decode cX12_oneDay 22 = .ok (.if_icmp .ge 15, 3) := by decide +kernel
theorem dX12_oneDay_37 : decode cX12_oneDay 37 = .ok (.iinc 1 1, 3) := by decide +kernel
theorem dX12_oneDay_40 : decode cX12_oneDay 40 = .ok (.goto (-33), 3) := by decide +kernel
theorem dX12_oneDay_43 : decode cX12_oneDay 43 = .ok (.iconst 0, 1) := by decide +kernel
theorem dX12_oneDay_44 : decode cX12_oneDay 44 = .ok (.istore_n 1, 1) := by decide +kernel
theorem dX12_oneDay_45 : decode cX12_oneDay 45 = .ok (.iload_n 1, 1) := by decide +kernel
theorem dX12_oneDay_46 : decode cX12_oneDay 46 = .ok (.aload_n 0, 1) := by decide +kernel
theorem dX12_oneDay_47 : decode cX12_oneDay 47 = .ok (.getfield 98, 3) := by decide +kernel
theorem dX12_oneDay_50 : decode cX12_oneDay 50 = .ok (.iconst 1, 1) := by decide +kernel
theorem dX12_oneDay_51 : decode cX12_oneDay 51 = .ok (.iaload, 1) := by decide +kernel
theorem dX12_oneDay_52 : decode cX12_oneDay 52 = .ok (.if_icmp .ge 62, 3) := by decide +kernel
theorem dX12_oneDay_114 : decode cX12_oneDay 114 = .ok (.aload_n 0, 1) := by decide +kernel
theorem dX12_oneDay_115 : decode cX12_oneDay 115 = .ok (.getfield 98, 3) := by decide +kernel
theorem dX12_oneDay_118 : decode cX12_oneDay 118 = .ok (.bipush 61, 2) := by decide +kernel
theorem dX12_oneDay_120 : decode cX12_oneDay 120 = .ok (.dup2, 1) := by decide +kernel
theorem dX12_oneDay_121 : decode cX12_oneDay 121 = .ok (.iaload, 1) := by decide +kernel
theorem dX12_oneDay_122 : decode cX12_oneDay 122 = .ok (.iconst 1, 1) := by decide +kernel
theorem dX12_oneDay_123 : decode cX12_oneDay 123 = .ok (.iadd, 1) := by decide +kernel
theorem dX12_oneDay_124 : decode cX12_oneDay 124 = .ok (.iastore, 1) := by decide +kernel
theorem dX12_oneDay_125 : decode cX12_oneDay 125 = .ok (.return_, 1) := by decide +kernel
theorem dX12_passDays_0 : decode cX12_passDays 0 = .ok (.aload_n 0, 1) := by decide +kernel
theorem dX12_passDays_1 : decode cX12_passDays 1 = .ok (.iload_n 2, 1) := by decide +kernel
theorem dX12_passDays_2 : decode cX12_passDays 2 = .ok (.putfield 277, 3) := by decide +kernel
theorem dX12_passDays_5 : decode cX12_passDays 5 = .ok (.iload_n 1, 1) := by decide +kernel
theorem dX12_passDays_6 : decode cX12_passDays 6 = .ok (.sipush 400, 3) := by decide +kernel
theorem dX12_passDays_9 : decode cX12_passDays 9 = .ok (.aload_n 0, 1) := by decide +kernel
theorem dX12_passDays_10 : decode cX12_passDays 10 = .ok (.getfield 98, 3) := by decide +kernel
theorem dX12_passDays_13 : decode cX12_passDays 13 = .ok (.bipush 61, 2) := by decide +kernel
theorem dX12_passDays_15 : decode cX12_passDays 15 = .ok (.iaload, 1) := by decide +kernel
theorem dX12_passDays_16 : decode cX12_passDays 16 = .ok (.isub, 1) := by decide +kernel
theorem dX12_passDays_17 : decode cX12_passDays 17 = .ok (.invokestatic 297, 3) := by decide +kernel
theorem dX12_passDays_20 : decode cX12_passDays 20 = .ok (.istore_n 3, 1) := by decide +kernel
theorem dX12_passDays_21 : decode cX12_passDays 21 = .ok (.iconst 0, 1) := by decide +kernel
theorem dX12_passDays_22 : decode cX12_passDays 22 = .ok (.istore 4, 2) := by decide +kernel
theorem dX12_passDays_24 : decode cX12_passDays 24 = .ok (.iload 4, 2) := by decide +kernel
theorem dX12_passDays_26 : decode cX12_passDays 26 = .ok (.iload_n 3, 1) := by decide +kernel
theorem dX12_passDays_27 : decode cX12_passDays 27 = .ok (.if_icmp .ge 13, 3) := by decide +kernel
theorem dX12_passDays_30 : decode cX12_passDays 30 = .ok (.aload_n 0, 1) := by decide +kernel
theorem dX12_passDays_31 : decode cX12_passDays 31 = .ok (.invokevirtual 300, 3) := by decide +kernel
theorem dX12_passDays_34 : decode cX12_passDays 34 = .ok (.iinc 4 1, 3) := by decide +kernel
theorem dX12_passDays_37 : decode cX12_passDays 37 = .ok (.goto (-13), 3) := by decide +kernel
theorem dX12_passDays_40 : decode cX12_passDays 40 = .ok (.iload_n 3, 1) := by decide +kernel
theorem dX12_passDays_41 : decode cX12_passDays 41 = .ok (.ireturn, 1) := by decide +kernel
theorem dX12_days_17 : decode cX12_days 17 = .ok (.aload_n 0, 1) := by decide +kernel
theorem dX12_days_18 : decode cX12_days 18 = .ok (.getfield 98, 3) := by decide +kernel
theorem dX12_days_21 : decode cX12_days 21 = .ok (.bipush 61, 2) := by decide +kernel
theorem dX12_days_23 : decode cX12_days 23 = .ok (.iaload, 1) := by decide +kernel
theorem dX12_days_24 : decode cX12_days 24 = .ok (.sipush 400, 3) := by decide +kernel
theorem dX12_days_27 : decode cX12_days 27 = .ok (.if_icmp .ne 5, 3) := by decide +kernel
theorem dX12_days_32 : decode cX12_days 32 = .ok (.aload_n 0, 1) := by decide +kernel
theorem dX12_days_33 : decode cX12_days 33 = .ok (.invokevirtual 264, 3) := by decide +kernel
theorem dX12_days_36 : decode cX12_days 36 = .ok (.aload_n 0, 1) := by decide +kernel
theorem dX12_days_37 : decode cX12_days 37 = .ok (.iload_n 1, 1) := by decide +kernel
theorem dX12_days_38 : decode cX12_days 38 = .ok (.iload_n 2, 1) := by decide +kernel
theorem dX12_days_39 : decode cX12_days 39 = .ok (.invokevirtual 303, 3) := by decide +kernel
theorem dX12_days_42 : decode cX12_days 42 = .ok (.ireturn, 1) := by decide +kernel
theorem dX12_undo_0 : decode cX12_undo 0 = .ok (.aload_n 0, 1) := by decide +kernel
theorem dX12_undo_1 : decode cX12_undo 1 = .ok (.iconst 0, 1) := by decide +kernel
theorem dX12_undo_2 : decode cX12_undo 2 = .ok (.putfield 1, 3) := by decide +kernel
theorem dX12_undo_5 : decode cX12_undo 5 = .ok (.aload_n 0, 1) := by decide +kernel
theorem dX12_undo_6 : decode cX12_undo 6 = .ok (.getfield 214, 3) := by decide +kernel
theorem dX12_undo_9 : decode cX12_undo 9 = .ok (.ifCond .ne 5, 3) := by decide +kernel
theorem dX12_undo_12 : decode cX12_undo 12 = .ok (.iconst (-1), 1) := by decide +kernel
theorem dX12_undo_13 : decode cX12_undo 13 = .ok (.ireturn, 1) := by decide +kernel
theorem dX12_there_0 : decode cX12_there 0 = .ok (.aload_n 0, 1) := by decide +kernel
theorem dX12_there_1 : decode cX12_there 1 = .ok (.iconst 0, 1) := by decide +kernel
theorem dX12_there_2 : decode cX12_there 2 = .ok (.putfield 1, 3) := by decide +kernel
theorem dX12_there_5 : decode cX12_there 5 = .ok (.aload_n 0, 1) := by decide +kernel
theorem dX12_there_6 : decode cX12_there 6 = .ok (.iload_n 1, 1) := by decide +kernel
theorem dX12_there_7 : decode cX12_there 7 = .ok (.invokevirtual 250, 3) := by decide +kernel
theorem dX12_there_10 : decode cX12_there 10 = .ok (.ifCond .eq 13, 3) := by decide +kernel
theorem dX12_there_23 : decode cX12_there 23 = .ok (.iconst (-1), 1) := by decide +kernel
theorem dX12_there_24 : decode cX12_there 24 = .ok (.ireturn, 1) := by decide +kernel
theorem dX12_meets_0 : decode cX12_meets 0 = .ok (.aload_n 0, 1) := by decide +kernel
theorem dX12_meets_1 : decode cX12_meets 1 = .ok (.iconst 0, 1) := by decide +kernel
theorem dX12_meets_2 : decode cX12_meets 2 = .ok (.putfield 1, 3) := by decide +kernel
theorem dX12_meets_5 : decode cX12_meets 5 = .ok (.aload_n 0, 1) := by decide +kernel
theorem dX12_meets_6 : decode cX12_meets 6 = .ok (.iload_n 1, 1) := by decide +kernel
theorem dX12_meets_7 : decode cX12_meets 7 = .ok (.invokevirtual 241, 3) := by decide +kernel
theorem dX12_meets_10 : decode cX12_meets 10 = .ok (.ifCond .eq 25, 3) := by decide +kernel
theorem dX12_meets_35 : decode cX12_meets 35 = .ok (.iconst (-1), 1) := by decide +kernel
theorem dX12_meets_36 : decode cX12_meets 36 = .ok (.ireturn, 1) := by decide +kernel
theorem dX12_best_0 : decode cX12_best 0 = .ok (.aload_n 0, 1) := by decide +kernel
theorem dX12_best_1 : decode cX12_best 1 = .ok (.iconst 0, 1) := by decide +kernel
theorem dX12_best_2 : decode cX12_best 2 = .ok (.putfield 1, 3) := by decide +kernel
theorem dX12_best_5 : decode cX12_best 5 = .ok (.aload_n 0, 1) := by decide +kernel
theorem dX12_best_6 : decode cX12_best 6 = .ok (.iload_n 1, 1) := by decide +kernel
theorem dX12_best_7 : decode cX12_best 7 = .ok (.invokevirtual 250, 3) := by decide +kernel
theorem dX12_best_10 : decode cX12_best 10 = .ok (.ifCond .eq 12, 3) := by decide +kernel
theorem dX12_best_22 : decode cX12_best 22 = .ok (.iconst (-1), 1) := by decide +kernel
theorem dX12_best_23 : decode cX12_best 23 = .ok (.ireturn, 1) := by decide +kernel
theorem dX12_bestAt_0 : decode cX12_bestAt 0 = .ok (.aload_n 0, 1) := by decide +kernel
theorem dX12_bestAt_1 : decode cX12_bestAt 1 = .ok (.iconst 0, 1) := by decide +kernel
theorem dX12_bestAt_2 : decode cX12_bestAt 2 = .ok (.putfield 1, 3) := by decide +kernel
theorem dX12_bestAt_5 : decode cX12_bestAt 5 = .ok (.iload_n 1, 1) := by decide +kernel
theorem dX12_bestAt_6 : decode cX12_bestAt 6 = .ok (.ifCond .ne 10, 3) := by decide +kernel
theorem dX12_bestAt_9 : decode cX12_bestAt 9 = .ok (.aload_n 0, 1) := by decide +kernel
theorem dX12_bestAt_10 : decode cX12_bestAt 10 = .ok (.getfield 127, 3) := by decide +kernel
theorem dX12_bestAt_13 : decode cX12_bestAt 13 = .ok (.goto 16, 3) := by decide +kernel
theorem dX12_bestAt_29 : decode cX12_bestAt 29 = .ok (.ireturn, 1) := by decide +kernel
theorem dX12_bestAt_16 : decode cX12_bestAt 16 = .ok (.iload_n 1, 1) := by decide +kernel
theorem dX12_bestAt_17 : decode cX12_bestAt 17 = .ok (.iconst 1, 1) := by decide +kernel
theorem dX12_bestAt_18 : decode cX12_bestAt 18 = .ok (.if_icmp .ne 10, 3) := by decide +kernel
theorem dX12_bestAt_21 : decode cX12_bestAt 21 = .ok (.aload_n 0, 1) := by decide +kernel
theorem dX12_bestAt_22 : decode cX12_bestAt 22 = .ok (.getfield 130, 3) := by decide +kernel
theorem dX12_bestAt_25 : decode cX12_bestAt 25 = .ok (.goto 4, 3) := by decide +kernel
theorem dX12_bestAt_28 : decode cX12_bestAt 28 = .ok (.iconst (-1), 1) := by decide +kernel
theorem dX12_fences_0 : decode cX12_fences 0 = .ok (.aload_n 0, 1) := by decide +kernel
theorem dX12_fences_1 : decode cX12_fences 1 = .ok (.iconst 0, 1) := by decide +kernel
theorem dX12_fences_2 : decode cX12_fences 2 = .ok (.putfield 1, 3) := by decide +kernel
theorem dX12_fences_5 : decode cX12_fences 5 = .ok (.aload_n 0, 1) := by decide +kernel
theorem dX12_fences_6 : decode cX12_fences 6 = .ok (.getfield 98, 3) := by decide +kernel
theorem dX12_fences_9 : decode cX12_fences 9 = .ok (.bipush 65, 2) := by decide +kernel
theorem dX12_fences_11 : decode cX12_fences 11 = .ok (.iaload, 1) := by decide +kernel
theorem dX12_fences_12 : decode cX12_fences 12 = .ok (.istore_n 1, 1) := by decide +kernel
theorem dX12_fences_13 : decode cX12_fences 13 = .ok (.iconst (-1), 1) := by decide +kernel
theorem dX12_fences_14 : decode cX12_fences 14 = .ok (.istore_n 2, 1) := by decide +kernel
theorem dX12_fences_15 : decode cX12_fences 15 = .ok (.iconst (-1), 1) := by decide +kernel
theorem dX12_fences_16 : decode cX12_fences 16 = .ok (.istore_n 3, 1) := by decide +kernel
theorem dX12_fences_17 : decode cX12_fences 17 = .ok (.iconst 0, 1) := by decide +kernel
theorem dX12_fences_18 : decode cX12_fences 18 = .ok (.istore 4, 2) := by decide +kernel
theorem dX12_fences_20 : decode cX12_fences 20 = .ok (.iload 4, 2) := by decide +kernel
theorem dX12_fences_22 : decode cX12_fences 22 = .ok (.aload_n 0, 1) := by decide +kernel
theorem dX12_fences_23 : decode cX12_fences 23 = .ok (.getfield 98, 3) := by decide +kernel
theorem dX12_fences_26 : decode cX12_fences 26 = .ok (.iconst 0, 1) := by decide +kernel
theorem dX12_fences_27 : decode cX12_fences 27 = .ok (.iaload, 1) := by decide +kernel
theorem dX12_fences_28 : decode cX12_fences 28 = .ok (.if_icmp .ge 44, 3) := by decide +kernel
theorem dX12_fences_72 : decode cX12_fences 72 = .ok (.aload_n 0, 1) := by decide +kernel
theorem dX12_fences_73 : decode cX12_fences 73 = .ok (.getfield 98, 3) := by decide +kernel
theorem dX12_fences_76 : decode cX12_fences 76 = .ok (.bipush 65, 2) := by decide +kernel
theorem dX12_fences_78 : decode cX12_fences 78 = .ok (.iload_n 1, 1) := by decide +kernel
theorem dX12_fences_79 : decode cX12_fences 79 = .ok (.iastore, 1) := by decide +kernel
theorem dX12_fences_80 : decode cX12_fences 80 = .ok (.iload_n 2, 1) := by decide +kernel
theorem dX12_fences_81 : decode cX12_fences 81 = .ok (.ireturn, 1) := by decide +kernel
theorem dX12_perils_0 : decode cX12_perils 0 = .ok (.aload_n 0, 1) := by decide +kernel
theorem dX12_perils_1 : decode cX12_perils 1 = .ok (.iconst 0, 1) := by decide +kernel
theorem dX12_perils_2 : decode cX12_perils 2 = .ok (.putfield 1, 3) := by decide +kernel
theorem dX12_perils_5 : decode cX12_perils 5 = .ok (.aload_n 0, 1) := by decide +kernel
theorem dX12_perils_6 : decode cX12_perils 6 = .ok (.iload_n 1, 1) := by decide +kernel
theorem dX12_perils_7 : decode cX12_perils 7 = .ok (.invokevirtual 241, 3) := by decide +kernel
theorem dX12_perils_10 : decode cX12_perils 10 = .ok (.ifCond .eq 19, 3) := by decide +kernel
theorem dX12_perils_29 : decode cX12_perils 29 = .ok (.iconst (-1), 1) := by decide +kernel
theorem dX12_perils_30 : decode cX12_perils 30 = .ok (.ireturn, 1) := by decide +kernel
theorem dX12_rounds_0 : decode cX12_rounds 0 = .ok (.aload_n 0, 1) := by decide +kernel
theorem dX12_rounds_1 : decode cX12_rounds 1 = .ok (.iconst 0, 1) := by decide +kernel
theorem dX12_rounds_2 : decode cX12_rounds 2 = .ok (.putfield 1, 3) := by decide +kernel
theorem dX12_rounds_5 : decode cX12_rounds 5 = .ok (.iconst 0, 1) := by decide +kernel
theorem dX12_rounds_6 : decode cX12_rounds 6 = .ok (.istore_n 1, 1) := by decide +kernel
theorem dX12_rounds_7 : decode cX12_rounds 7 = .ok (.iload_n 1, 1) := by decide +kernel
theorem dX12_rounds_8 : decode cX12_rounds 8 = .ok (.bipush 8, 2) := by decide +kernel
theorem dX12_rounds_10 : decode cX12_rounds 10 = .ok (.if_icmp .ge 24, 3) := by decide +kernel
theorem dX12_rounds_13 : decode cX12_rounds 13 = .ok (.aload_n 0, 1) := by decide +kernel
theorem dX12_rounds_14 : decode cX12_rounds 14 = .ok (.getfield 136, 3) := by decide +kernel
theorem dX12_rounds_17 : decode cX12_rounds 17 = .ok (.iload_n 1, 1) := by decide +kernel
theorem dX12_rounds_18 : decode cX12_rounds 18 = .ok (.aload_n 0, 1) := by decide +kernel
theorem dX12_rounds_19 : decode cX12_rounds 19 = .ok (.getfield 98, 3) := by decide +kernel
theorem dX12_rounds_22 : decode cX12_rounds 22 = .ok (.bipush 71, 2) := by decide +kernel
theorem dX12_rounds_24 : decode cX12_rounds 24 = .ok (.iload_n 1, 1) := by decide +kernel
theorem dX12_rounds_25 : decode cX12_rounds 25 = .ok (.iadd, 1) := by decide +kernel
theorem dX12_rounds_26 : decode cX12_rounds 26 = .ok (.iaload, 1) := by decide +kernel
theorem dX12_rounds_27 : decode cX12_rounds 27 = .ok (.iastore, 1) := by decide +kernel
theorem dX12_rounds_28 : decode cX12_rounds 28 = .ok (.iinc 1 1, 3) := by decide +kernel
theorem dX12_rounds_31 : decode cX12_rounds 31 = .ok (.goto (-24), 3) := by decide +kernel
theorem dX12_rounds_34 : decode cX12_rounds 34 = .ok (.iconst 0, 1) := by decide +kernel
theorem dX12_rounds_35 : decode cX12_rounds 35 = .ok (.istore_n 1, 1) := by decide +kernel
theorem dX12_rounds_36 : decode cX12_rounds 36 = .ok (.iconst 1, 1) := by decide +kernel
theorem dX12_rounds_37 : decode cX12_rounds 37 = .ok (.istore_n 2, 1) := by decide +kernel
theorem dX12_rounds_38 : decode cX12_rounds 38 = .ok (.iload_n 2, 1) := by decide +kernel
theorem dX12_rounds_39 : decode cX12_rounds 39 = .ok (.ifCond .eq 45, 3) := by decide +kernel
theorem dX12_rounds_42 : decode cX12_rounds 42 = .ok (.iload_n 1, 1) := by decide +kernel
theorem dX12_rounds_43 : decode cX12_rounds 43 = .ok (.bipush 30, 2) := by decide +kernel
theorem dX12_rounds_45 : decode cX12_rounds 45 = .ok (.if_icmp .ge 39, 3) := by decide +kernel
theorem dX12_rounds_48 : decode cX12_rounds 48 = .ok (.iconst 0, 1) := by decide +kernel
theorem dX12_rounds_49 : decode cX12_rounds 49 = .ok (.istore_n 2, 1) := by decide +kernel
theorem dX12_rounds_50 : decode cX12_rounds 50 = .ok (.iconst 0, 1) := by decide +kernel
theorem dX12_rounds_51 : decode cX12_rounds 51 = .ok (.istore_n 3, 1) := by decide +kernel
theorem dX12_rounds_52 : decode cX12_rounds 52 = .ok (.iload_n 3, 1) := by decide +kernel
theorem dX12_rounds_53 : decode cX12_rounds 53 = .ok (.aload_n 0, 1) := by decide +kernel
theorem dX12_rounds_54 : decode cX12_rounds 54 = .ok (.getfield 98, 3) := by decide +kernel
theorem dX12_rounds_57 : decode cX12_rounds 57 = .ok (.iconst 1, 1) := by decide +kernel
theorem dX12_rounds_58 : decode cX12_rounds 58 = .ok (.iaload, 1) := by decide +kernel
theorem dX12_rounds_59 : decode cX12_rounds 59 = .ok (.if_icmp .ge 19, 3) := by decide +kernel
theorem dX12_rounds_78 : decode cX12_rounds 78 = .ok (.iinc 1 1, 3) := by decide +kernel
theorem dX12_rounds_81 : decode cX12_rounds 81 = .ok (.goto (-43), 3) := by decide +kernel
theorem dX12_rounds_84 : decode cX12_rounds 84 = .ok (.aload_n 0, 1) := by decide +kernel
theorem dX12_rounds_85 : decode cX12_rounds 85 = .ok (.aload_n 0, 1) := by decide +kernel
theorem dX12_rounds_86 : decode cX12_rounds 86 = .ok (.iconst 1, 1) := by decide +kernel
theorem dX12_rounds_87 : decode cX12_rounds 87 = .ok (.invokevirtual 256, 3) := by decide +kernel
theorem dX12_rounds_90 : decode cX12_rounds 90 = .ok (.putfield 139, 3) := by decide +kernel
theorem dX12_rounds_93 : decode cX12_rounds 93 = .ok (.aload_n 0, 1) := by decide +kernel
theorem dX12_rounds_94 : decode cX12_rounds 94 = .ok (.aload_n 0, 1) := by decide +kernel
theorem dX12_rounds_95 : decode cX12_rounds 95 = .ok (.getfield 98, 3) := by decide +kernel
theorem dX12_rounds_98 : decode cX12_rounds 98 = .ok (.iconst 1, 1) := by decide +kernel
theorem dX12_rounds_99 : decode cX12_rounds 99 = .ok (.iaload, 1) := by decide +kernel
theorem dX12_rounds_100 : decode cX12_rounds 100 = .ok (.putfield 327, 3) := by decide +kernel
theorem dX12_rounds_103 : decode cX12_rounds 103 = .ok (.aload_n 0, 1) := by decide +kernel
theorem dX12_rounds_104 : decode cX12_rounds 104 = .ok (.iconst 1, 1) := by decide +kernel
theorem dX12_rounds_105 : decode cX12_rounds 105 = .ok (.putfield 330, 3) := by decide +kernel
theorem dX12_rounds_108 : decode cX12_rounds 108 = .ok (.iconst 0, 1) := by decide +kernel
theorem dX12_rounds_109 : decode cX12_rounds 109 = .ok (.istore_n 3, 1) := by decide +kernel
theorem dX12_rounds_110 : decode cX12_rounds 110 = .ok (.iload_n 3, 1) := by decide +kernel
theorem dX12_rounds_111 : decode cX12_rounds 111 = .ok (.bipush 8, 2) := by decide +kernel
theorem dX12_rounds_113 : decode cX12_rounds 113 = .ok (.if_icmp .ge 39, 3) := by decide +kernel
theorem dX12_rounds_116 : decode cX12_rounds 116 = .ok (.aload_n 0, 1) := by decide +kernel
theorem dX12_rounds_117 : decode cX12_rounds 117 = .ok (.getfield 133, 3) := by decide +kernel
theorem dX12_rounds_120 : decode cX12_rounds 120 = .ok (.iload_n 3, 1) := by decide +kernel
theorem dX12_rounds_121 : decode cX12_rounds 121 = .ok (.aload_n 0, 1) := by decide +kernel
theorem dX12_rounds_122 : decode cX12_rounds 122 = .ok (.getfield 98, 3) := by decide +kernel
theorem dX12_rounds_125 : decode cX12_rounds 125 = .ok (.bipush 71, 2) := by decide +kernel
theorem dX12_rounds_127 : decode cX12_rounds 127 = .ok (.iload_n 3, 1) := by decide +kernel
theorem dX12_rounds_128 : decode cX12_rounds 128 = .ok (.iadd, 1) := by decide +kernel
theorem dX12_rounds_129 : decode cX12_rounds 129 = .ok (.iaload, 1) := by decide +kernel
theorem dX12_rounds_130 : decode cX12_rounds 130 = .ok (.iastore, 1) := by decide +kernel
theorem dX12_rounds_131 : decode cX12_rounds 131 = .ok (.aload_n 0, 1) := by decide +kernel
theorem dX12_rounds_132 : decode cX12_rounds 132 = .ok (.getfield 98, 3) := by decide +kernel
theorem dX12_rounds_135 : decode cX12_rounds 135 = .ok (.bipush 71, 2) := by decide +kernel
theorem dX12_rounds_137 : decode cX12_rounds 137 = .ok (.iload_n 3, 1) := by decide +kernel
theorem dX12_rounds_138 : decode cX12_rounds 138 = .ok (.iadd, 1) := by decide +kernel
theorem dX12_rounds_139 : decode cX12_rounds 139 = .ok (.aload_n 0, 1) := by decide +kernel
theorem dX12_rounds_140 : decode cX12_rounds 140 = .ok (.getfield 136, 3) := by decide +kernel
theorem dX12_rounds_143 : decode cX12_rounds 143 = .ok (.iload_n 3, 1) := by decide +kernel
theorem dX12_rounds_144 : decode cX12_rounds 144 = .ok (.iaload, 1) := by decide +kernel
theorem dX12_rounds_145 : decode cX12_rounds 145 = .ok (.iastore, 1) := by decide +kernel
theorem dX12_rounds_146 : decode cX12_rounds 146 = .ok (.iinc 3 1, 3) := by decide +kernel
theorem dX12_rounds_149 : decode cX12_rounds 149 = .ok (.goto (-39), 3) := by decide +kernel
theorem dX12_rounds_152 : decode cX12_rounds 152 = .ok (.iload_n 1, 1) := by decide +kernel
theorem dX12_rounds_153 : decode cX12_rounds 153 = .ok (.ireturn, 1) := by decide +kernel
theorem dX12_parted_0 : decode cX12_parted 0 = .ok (.aload_n 0, 1) := by decide +kernel
theorem dX12_parted_1 : decode cX12_parted 1 = .ok (.iconst 0, 1) := by decide +kernel
theorem dX12_parted_2 : decode cX12_parted 2 = .ok (.putfield 1, 3) := by decide +kernel
theorem dX12_parted_5 : decode cX12_parted 5 = .ok (.aload_n 0, 1) := by decide +kernel
theorem dX12_parted_6 : decode cX12_parted 6 = .ok (.getfield 330, 3) := by decide +kernel
theorem dX12_parted_9 : decode cX12_parted 9 = .ok (.ifCond .eq 26, 3) := by decide +kernel
theorem dX12_parted_35 : decode cX12_parted 35 = .ok (.iconst (-1), 1) := by decide +kernel
theorem dX12_parted_36 : decode cX12_parted 36 = .ok (.ireturn, 1) := by decide +kernel
theorem dX12_partedGood_0 : decode cX12_partedGood 0 = .ok (.aload_n 0, 1) := by decide +kernel
theorem dX12_partedGood_1 : decode cX12_partedGood 1 = .ok (.iconst 0, 1) := by decide +kernel
theorem dX12_partedGood_2 : decode cX12_partedGood 2 = .ok (.putfield 1, 3) := by decide +kernel
theorem dX12_partedGood_5 : decode cX12_partedGood 5 = .ok (.aload_n 0, 1) := by decide +kernel
theorem dX12_partedGood_6 : decode cX12_partedGood 6 = .ok (.getfield 139, 3) := by decide +kernel
theorem dX12_partedGood_9 : decode cX12_partedGood 9 = .ok (.ireturn, 1) := by decide +kernel
theorem dX12_tracks_0 : decode cX12_tracks 0 = .ok (.aload_n 0, 1) := by decide +kernel
theorem dX12_tracks_1 : decode cX12_tracks 1 = .ok (.iconst 0, 1) := by decide +kernel
theorem dX12_tracks_2 : decode cX12_tracks 2 = .ok (.putfield 1, 3) := by decide +kernel
theorem dX12_tracks_5 : decode cX12_tracks 5 = .ok (.aload_n 0, 1) := by decide +kernel
theorem dX12_tracks_6 : decode cX12_tracks 6 = .ok (.invokevirtual 89, 3) := by decide +kernel
theorem dX12_tracks_9 : decode cX12_tracks 9 = .ok (.istore_n 1, 1) := by decide +kernel
theorem dX12_tracks_10 : decode cX12_tracks 10 = .ok (.iload_n 1, 1) := by decide +kernel
theorem dX12_tracks_11 : decode cX12_tracks 11 = .ok (.iconst 2, 1) := by decide +kernel
theorem dX12_tracks_12 : decode cX12_tracks 12 = .ok (.irem, 1) := by decide +kernel
theorem dX12_tracks_13 : decode cX12_tracks 13 = .ok (.ifCond .ne 15, 3) := by decide +kernel
theorem dX12_tracks_16 : decode cX12_tracks 16 = .ok (.iload_n 1, 1) := by decide +kernel
theorem dX12_tracks_17 : decode cX12_tracks 17 = .ok (.iconst 2, 1) := by decide +kernel
theorem dX12_tracks_18 : decode cX12_tracks 18 = .ok (.idiv, 1) := by decide +kernel
theorem dX12_tracks_19 : decode cX12_tracks 19 = .ok (.iconst 1, 1) := by decide +kernel
theorem dX12_tracks_20 : decode cX12_tracks 20 = .ok (.bipush 10, 2) := by decide +kernel
theorem dX12_tracks_22 : decode cX12_tracks 22 = .ok (.invokestatic 75, 3) := by decide +kernel
theorem dX12_tracks_25 : decode cX12_tracks 25 = .ok (.ifCond .ne 5, 3) := by decide +kernel
theorem dX12_tracks_28 : decode cX12_tracks 28 = .ok (.iconst (-1), 1) := by decide +kernel
theorem dX12_tracks_29 : decode cX12_tracks 29 = .ok (.ireturn, 1) := by decide +kernel
theorem dX12_votes_0 : decode cX12_votes 0 = .ok (.aload_n 0, 1) := by decide +kernel
theorem dX12_votes_1 : decode cX12_votes 1 = .ok (.iconst 0, 1) := by decide +kernel
theorem dX12_votes_2 : decode cX12_votes 2 = .ok (.putfield 1, 3) := by decide +kernel
theorem dX12_votes_5 : decode cX12_votes 5 = .ok (.aload_n 0, 1) := by decide +kernel
theorem dX12_votes_6 : decode cX12_votes 6 = .ok (.iload_n 1, 1) := by decide +kernel
theorem dX12_votes_7 : decode cX12_votes 7 = .ok (.invokevirtual 250, 3) := by decide +kernel
theorem dX12_votes_10 : decode cX12_votes 10 = .ok (.ifCond .eq 13, 3) := by decide +kernel
theorem dX12_votes_23 : decode cX12_votes 23 = .ok (.iconst (-1), 1) := by decide +kernel
theorem dX12_votes_24 : decode cX12_votes 24 = .ok (.ireturn, 1) := by decide +kernel
theorem dX12_against_0 : decode cX12_against 0 = .ok (.aload_n 0, 1) := by decide +kernel
theorem dX12_against_1 : decode cX12_against 1 = .ok (.iconst 0, 1) := by decide +kernel
theorem dX12_against_2 : decode cX12_against 2 = .ok (.putfield 1, 3) := by decide +kernel
theorem dX12_against_5 : decode cX12_against 5 = .ok (.aload_n 0, 1) := by decide +kernel
theorem dX12_against_6 : decode cX12_against 6 = .ok (.iload_n 1, 1) := by decide +kernel
theorem dX12_against_7 : decode cX12_against 7 = .ok (.invokevirtual 250, 3) := by decide +kernel
theorem dX12_against_10 : decode cX12_against 10 = .ok (.ifCond .eq 13, 3) := by decide +kernel
theorem dX12_against_23 : decode cX12_against 23 = .ok (.iconst (-1), 1) := by decide +kernel
theorem dX12_against_24 : decode cX12_against 24 = .ok (.ireturn, 1) := by decide +kernel
theorem dX12_missed_0 : decode cX12_missed 0 = .ok (.aload_n 0, 1) := by decide +kernel
theorem dX12_missed_1 : decode cX12_missed 1 = .ok (.iconst 0, 1) := by decide +kernel
theorem dX12_missed_2 : decode cX12_missed 2 = .ok (.putfield 1, 3) := by decide +kernel
theorem dX12_missed_5 : decode cX12_missed 5 = .ok (.aload_n 0, 1) := by decide +kernel
theorem dX12_missed_6 : decode cX12_missed 6 = .ok (.iload_n 1, 1) := by decide +kernel
theorem dX12_missed_7 : decode cX12_missed 7 = .ok (.invokevirtual 250, 3) := by decide +kernel
theorem dX12_missed_10 : decode cX12_missed 10 = .ok (.ifCond .eq 13, 3) := by decide +kernel
theorem dX12_missed_23 : decode cX12_missed 23 = .ok (.iconst (-1), 1) := by decide +kernel
theorem dX12_missed_24 : decode cX12_missed 24 = .ok (.ireturn, 1) := by decide +kernel
theorem dX12_board_0 : decode cX12_board 0 = .ok (.aload_n 0, 1) := by decide +kernel
theorem dX12_board_1 : decode cX12_board 1 = .ok (.iconst 0, 1) := by decide +kernel
theorem dX12_board_2 : decode cX12_board 2 = .ok (.putfield 1, 3) := by decide +kernel
theorem dX12_board_5 : decode cX12_board 5 = .ok (.aload_n 0, 1) := by decide +kernel
theorem dX12_board_6 : decode cX12_board 6 = .ok (.iload_n 1, 1) := by decide +kernel
theorem dX12_board_7 : decode cX12_board 7 = .ok (.invokevirtual 250, 3) := by decide +kernel
theorem dX12_board_10 : decode cX12_board 10 = .ok (.ifCond .ne 5, 3) := by decide +kernel
theorem dX12_board_13 : decode cX12_board 13 = .ok (.iconst (-1), 1) := by decide +kernel
theorem dX12_board_14 : decode cX12_board 14 = .ok (.ireturn, 1) := by decide +kernel
theorem dX12_byteAt_0 : decode cX12_byteAt 0 = .ok (.aload_n 0, 1) := by decide +kernel
theorem dX12_byteAt_1 : decode cX12_byteAt 1 = .ok (.iconst 0, 1) := by decide +kernel
theorem dX12_byteAt_2 : decode cX12_byteAt 2 = .ok (.putfield 1, 3) := by decide +kernel
theorem dX12_byteAt_5 : decode cX12_byteAt 5 = .ok (.iload_n 1, 1) := by decide +kernel
theorem dX12_byteAt_6 : decode cX12_byteAt 6 = .ok (.iconst 0, 1) := by decide +kernel
theorem dX12_byteAt_7 : decode cX12_byteAt 7 = .ok (.aload_n 0, 1) := by decide +kernel
theorem dX12_byteAt_8 : decode cX12_byteAt 8 = .ok (.getfield 337, 3) := by decide +kernel
theorem dX12_byteAt_11 : decode cX12_byteAt 11 = .ok (.iconst 1, 1) := by decide +kernel
theorem dX12_byteAt_12 : decode cX12_byteAt 12 = .ok (.isub, 1) := by decide +kernel
theorem dX12_byteAt_13 : decode cX12_byteAt 13 = .ok (.invokestatic 75, 3) := by decide +kernel
theorem dX12_byteAt_16 : decode cX12_byteAt 16 = .ok (.ifCond .eq 12, 3) := by decide +kernel
theorem dX12_byteAt_28 : decode cX12_byteAt 28 = .ok (.iconst (-1), 1) := by decide +kernel
theorem dX12_byteAt_29 : decode cX12_byteAt 29 = .ok (.ireturn, 1) := by decide +kernel
theorem dX12_odds_0 : decode cX12_odds 0 = .ok (.aload_n 0, 1) := by decide +kernel
theorem dX12_odds_1 : decode cX12_odds 1 = .ok (.iconst 0, 1) := by decide +kernel
theorem dX12_odds_2 : decode cX12_odds 2 = .ok (.putfield 1, 3) := by decide +kernel
theorem dX12_odds_5 : decode cX12_odds 5 = .ok (.aload_n 0, 1) := by decide +kernel
theorem dX12_odds_6 : decode cX12_odds 6 = .ok (.iload_n 1, 1) := by decide +kernel
theorem dX12_odds_7 : decode cX12_odds 7 = .ok (.invokevirtual 241, 3) := by decide +kernel
theorem dX12_odds_10 : decode cX12_odds 10 = .ok (.ifCond .eq 13, 3) := by decide +kernel
theorem dX12_odds_23 : decode cX12_odds 23 = .ok (.iconst (-1), 1) := by decide +kernel
theorem dX12_odds_24 : decode cX12_odds 24 = .ok (.ireturn, 1) := by decide +kernel
theorem dX12_layAside_0 : decode cX12_layAside 0 = .ok (.iconst 0, 1) := by decide +kernel
theorem dX12_layAside_1 : decode cX12_layAside 1 = .ok (.istore_n 1, 1) := by decide +kernel
theorem dX12_layAside_2 : decode cX12_layAside 2 = .ok (.iload_n 1, 1) := by decide +kernel
theorem dX12_layAside_3 : decode cX12_layAside 3 = .ok (.bipush 70, 2) := by decide +kernel
theorem dX12_layAside_5 : decode cX12_layAside 5 = .ok (.if_icmp .ge 24, 3) := by decide +kernel
theorem dX12_layAside_8 : decode cX12_layAside 8 = .ok (.aload_n 0, 1) := by decide +kernel
theorem dX12_layAside_9 : decode cX12_layAside 9 = .ok (.getfield 110, 3) := by decide +kernel
theorem dX12_layAside_12 : decode cX12_layAside 12 = .ok (.iload_n 1, 1) := by decide +kernel
theorem dX12_layAside_13 : decode cX12_layAside 13 = .ok (.aload_n 0, 1) := by decide +kernel
theorem dX12_layAside_14 : decode cX12_layAside 14 = .ok (.getfield 98, 3) := by decide +kernel
theorem dX12_layAside_17 : decode cX12_layAside 17 = .ok (.bipush 61, 2) := by decide +kernel
theorem dX12_layAside_19 : decode cX12_layAside 19 = .ok (.iload_n 1, 1) := by decide +kernel
theorem dX12_layAside_20 : decode cX12_layAside 20 = .ok (.iadd, 1) := by decide +kernel
theorem dX12_layAside_21 : decode cX12_layAside 21 = .ok (.iaload, 1) := by decide +kernel
theorem dX12_layAside_22 : decode cX12_layAside 22 = .ok (.iastore, 1) := by decide +kernel
theorem dX12_layAside_23 : decode cX12_layAside 23 = .ok (.iinc 1 1, 3) := by decide +kernel
theorem dX12_layAside_26 : decode cX12_layAside 26 = .ok (.goto (-24), 3) := by decide +kernel
theorem dX12_layAside_29 : decode cX12_layAside 29 = .ok (.return_, 1) := by decide +kernel
theorem dX12_stay_0 : decode cX12_stay 0 = .ok (.iconst 0, 1) := by decide +kernel
