theorem dX11_feed_0 : decode cX11_feed 0 = .ok (.aload_n 0, 1) := by decide +kernel
theorem dX11_feed_1 : decode cX11_feed 1 = .ok (.getfield 10, 3) := by decide +kernel
theorem dX11_feed_4 : decode cX11_feed 4 = .ok (.getfield 100, 3) := by decide +kernel
theorem dX11_feed_7 : decode cX11_feed 7 = .ok (.bipush 20, 2) := by decide +kernel
theorem dX11_feed_9 : decode cX11_feed 9 = .ok (.iadd, 1) := by decide +kernel
theorem dX11_feed_10 : decode cX11_feed 10 = .ok (.sipush 940, 3) := by decide +kernel
theorem dX11_feed_13 : decode cX11_feed 13 = .ok (.if_icmp .le 5, 3) := by decide +kernel
theorem dX11_feed_18 : decode cX11_feed 18 = .ok (.aload_n 0, 1) := by decide +kernel
theorem dX11_feed_19 : decode cX11_feed 19 = .ok (.getfield 10, 3) := by decide +kernel
theorem dX11_feed_22 : decode cX11_feed 22 = .ok (.iload_n 1, 1) := by decide +kernel
theorem dX11_feed_23 : decode cX11_feed 23 = .ok (.invokevirtual 103, 3) := by decide +kernel
theorem dX11_feed_26 : decode cX11_feed 26 = .ok (.aload_n 0, 1) := by decide +kernel
theorem dX11_feed_27 : decode cX11_feed 27 = .ok (.getfield 10, 3) := by decide +kernel
theorem dX11_feed_30 : decode cX11_feed 30 = .ok (.iload_n 2, 1) := by decide +kernel
theorem dX11_feed_31 : decode cX11_feed 31 = .ok (.invokevirtual 103, 3) := by decide +kernel
theorem dX11_feed_34 : decode cX11_feed 34 = .ok (.aload_n 0, 1) := by decide +kernel
theorem dX11_feed_35 : decode cX11_feed 35 = .ok (.getfield 10, 3) := by decide +kernel
theorem dX11_feed_38 : decode cX11_feed 38 = .ok (.iload_n 3, 1) := by decide +kernel
theorem dX11_feed_39 : decode cX11_feed 39 = .ok (.invokevirtual 103, 3) := by decide +kernel
theorem dX11_feed_42 : decode cX11_feed 42 = .ok (.aload_n 0, 1) := by decide +kernel
theorem dX11_feed_43 : decode cX11_feed 43 = .ok (.getfield 10, 3) := by decide +kernel
theorem dX11_feed_46 : decode cX11_feed 46 = .ok (.iload 4, 2) := by decide +kernel
theorem dX11_feed_48 : decode cX11_feed 48 = .ok (.invokevirtual 103, 3) := by decide +kernel
theorem dX11_feed_51 : decode cX11_feed 51 = .ok (.aload_n 0, 1) := by decide +kernel
theorem dX11_feed_52 : decode cX11_feed 52 = .ok (.getfield 10, 3) := by decide +kernel
theorem dX11_feed_55 : decode cX11_feed 55 = .ok (.iload 5, 2) := by decide +kernel
theorem dX11_feed_57 : decode cX11_feed 57 = .ok (.invokevirtual 103, 3) := by decide +kernel
theorem dX11_feed_60 : decode cX11_feed 60 = .ok (.aload_n 0, 1) := by decide +kernel
theorem dX11_feed_61 : decode cX11_feed 61 = .ok (.getfield 10, 3) := by decide +kernel
theorem dX11_feed_64 : decode cX11_feed 64 = .ok (.getfield 100, 3) := by decide +kernel
theorem dX11_feed_67 : decode cX11_feed 67 = .ok (.ireturn, 1) := by decide +kernel
theorem dX11_feed_16 : decode cX11_feed 16 = .ok (.iconst (-1), 1) := by decide +kernel
theorem dX11_feed_17 : decode cX11_feed 17 = .ok (.ireturn, 1) := by decide +kernel
theorem dX11_end_0 : decode cX11_end 0 = .ok (.iload_n 1, 1) := by decide +kernel
theorem dX11_end_1 : decode cX11_end 1 = .ok (.ifCond .lt 14, 3) := by decide +kernel
theorem dX11_end_15 : decode cX11_end 15 = .ok (.iconst 0, 1) := by decide +kernel
theorem dX11_end_16 : decode cX11_end 16 = .ok (.ireturn, 1) := by decide +kernel
theorem dX11_end_4 : decode cX11_end 4 = .ok (.iload_n 1, 1) := by decide +kernel
theorem dX11_end_5 : decode cX11_end 5 = .ok (.aload_n 0, 1) := by decide +kernel
theorem dX11_end_6 : decode cX11_end 6 = .ok (.getfield 10, 3) := by decide +kernel
theorem dX11_end_9 : decode cX11_end 9 = .ok (.getfield 100, 3) := by decide +kernel
theorem dX11_end_12 : decode cX11_end 12 = .ok (.if_icmp .le 5, 3) := by decide +kernel
theorem dX11_end_17 : decode cX11_end 17 = .ok (.aload_n 0, 1) := by decide +kernel
theorem dX11_end_18 : decode cX11_end 18 = .ok (.getfield 10, 3) := by decide +kernel
theorem dX11_end_21 : decode cX11_end 21 = .ok (.iload_n 1, 1) := by decide +kernel
theorem dX11_end_22 : decode cX11_end 22 = .ok (.putfield 100, 3) := by decide +kernel
theorem dX11_end_25 : decode cX11_end 25 = .ok (.iconst 1, 1) := by decide +kernel
theorem dX11_end_26 : decode cX11_end 26 = .ok (.ireturn, 1) := by decide +kernel
theorem dX11_park_0 : decode cX11_park 0 = .ok (.aload_n 0, 1) := by decide +kernel
theorem dX11_park_1 : decode cX11_park 1 = .ok (.getfield 10, 3) := by decide +kernel
theorem dX11_park_4 : decode cX11_park 4 = .ok (.sipush 900, 3) := by decide +kernel
theorem dX11_park_7 : decode cX11_park 7 = .ok (.invokevirtual 107, 3) := by decide +kernel
theorem dX11_park_10 : decode cX11_park 10 = .ok (.aload_n 0, 1) := by decide +kernel
theorem dX11_park_11 : decode cX11_park 11 = .ok (.getfield 29, 3) := by decide +kernel
theorem dX11_park_14 : decode cX11_park 14 = .ok (.aload_n 0, 1) := by decide +kernel
theorem dX11_park_15 : decode cX11_park 15 = .ok (.getfield 10, 3) := by decide +kernel
theorem dX11_park_18 : decode cX11_park 18 = .ok (.aload_n 0, 1) := by decide +kernel
theorem dX11_park_19 : decode cX11_park 19 = .ok (.getfield 23, 3) := by decide +kernel
theorem dX11_park_22 : decode cX11_park 22 = .ok (.invokevirtual 110, 3) := by decide +kernel
theorem dX11_park_25 : decode cX11_park 25 = .ok (.istore_n 1, 1) := by decide +kernel
theorem dX11_park_26 : decode cX11_park 26 = .ok (.aload_n 0, 1) := by decide +kernel
theorem dX11_park_27 : decode cX11_park 27 = .ok (.invokevirtual 114, 3) := by decide +kernel
theorem dX11_park_30 : decode cX11_park 30 = .ok (.aload_n 0, 1) := by decide +kernel
theorem dX11_park_31 : decode cX11_park 31 = .ok (.getfield 117, 3) := by decide +kernel
theorem dX11_park_34 : decode cX11_park 34 = .ok (.ifCond .eq 13, 3) := by decide +kernel
theorem dX11_park_47 : decode cX11_park 47 = .ok (.aload_n 0, 1) := by decide +kernel
theorem dX11_park_48 : decode cX11_park 48 = .ok (.getfield 19, 3) := by decide +kernel
theorem dX11_park_51 : decode cX11_park 51 = .ok (.aload_n 0, 1) := by decide +kernel
theorem dX11_park_52 : decode cX11_park 52 = .ok (.getfield 23, 3) := by decide +kernel
theorem dX11_park_55 : decode cX11_park 55 = .ok (.invokevirtual 123, 3) := by decide +kernel
theorem dX11_park_58 : decode cX11_park 58 = .ok (.aload_n 0, 1) := by decide +kernel
theorem dX11_park_59 : decode cX11_park 59 = .ok (.getfield 43, 3) := by decide +kernel
theorem dX11_park_62 : decode cX11_park 62 = .ok (.invokevirtual 127, 3) := by decide +kernel
theorem dX11_park_65 : decode cX11_park 65 = .ok (.aload_n 0, 1) := by decide +kernel
theorem dX11_park_66 : decode cX11_park 66 = .ok (.getfield 60, 3) := by decide +kernel
theorem dX11_park_69 : decode cX11_park 69 = .ok (.invokevirtual 130, 3) := by decide +kernel
theorem dX11_park_72 : decode cX11_park 72 = .ok (.iload_n 1, 1) := by decide +kernel
theorem dX11_park_73 : decode cX11_park 73 = .ok (.ireturn, 1) := by decide +kernel
theorem dX11_park_37 : decode cX11_park 37 = .ok (.iconst (-1), 1) := by decide +kernel
theorem dX11_park_38 : decode cX11_park 38 = .ok (.aload_n 0, 1) := by decide +kernel
theorem dX11_park_39 : decode cX11_park 39 = .ok (.getfield 10, 3) := by decide +kernel
theorem dX11_park_42 : decode cX11_park 42 = .ok (.getfield 120, 3) := by decide +kernel
theorem dX11_park_45 : decode cX11_park 45 = .ok (.isub, 1) := by decide +kernel
theorem dX11_park_46 : decode cX11_park 46 = .ok (.ireturn, 1) := by decide +kernel
theorem dX11_fault_0 : decode cX11_fault 0 = .ok (.aload_n 0, 1) := by decide +kernel
theorem dX11_fault_1 : decode cX11_fault 1 = .ok (.getfield 117, 3) := by decide +kernel
theorem dX11_fault_4 : decode cX11_fault 4 = .ok (.ireturn, 1) := by decide +kernel
theorem dX11_place_0 : decode cX11_place 0 = .ok (.aload_n 0, 1) := by decide +kernel
theorem dX11_place_1 : decode cX11_place 1 = .ok (.getfield 19, 3) := by decide +kernel
theorem dX11_place_4 : decode cX11_place 4 = .ok (.iload_n 1, 1) := by decide +kernel
theorem dX11_place_5 : decode cX11_place 5 = .ok (.invokevirtual 199, 3) := by decide +kernel
theorem dX11_place_8 : decode cX11_place 8 = .ok (.ifCond .ne 5, 3) := by decide +kernel
theorem dX11_place_13 : decode cX11_place 13 = .ok (.iload_n 2, 1) := by decide +kernel
theorem dX11_place_14 : decode cX11_place 14 = .ok (.tableswitch 63 0 2 #[26, 36, 54], 26) := by decide +kernel
theorem dX11_place_40 : decode cX11_place 40 = .ok (.aload_n 0, 1) := by decide +kernel
theorem dX11_place_41 : decode cX11_place 41 = .ok (.getfield 19, 3) := by decide +kernel
theorem dX11_place_44 : decode cX11_place 44 = .ok (.getfield 202, 3) := by decide +kernel
theorem dX11_place_47 : decode cX11_place 47 = .ok (.iload_n 1, 1) := by decide +kernel
theorem dX11_place_48 : decode cX11_place 48 = .ok (.iaload, 1) := by decide +kernel
theorem dX11_place_49 : decode cX11_place 49 = .ok (.ireturn, 1) := by decide +kernel
theorem dX11_place_50 : decode cX11_place 50 = .ok (.aload_n 0, 1) := by decide +kernel
theorem dX11_place_51 : decode cX11_place 51 = .ok (.getfield 19, 3) := by decide +kernel
theorem dX11_place_54 : decode cX11_place 54 = .ok (.getfield 205, 3) := by decide +kernel
theorem dX11_place_57 : decode cX11_place 57 = .ok (.iload_n 1, 1) := by decide +kernel
theorem dX11_place_58 : decode cX11_place 58 = .ok (.baload, 1) := by decide +kernel
theorem dX11_place_59 : decode cX11_place 59 = .ok (.ifCond .eq 7, 3) := by decide +kernel
theorem dX11_place_66 : decode cX11_place 66 = .ok (.iconst 0, 1) := by decide +kernel
theorem dX11_place_67 : decode cX11_place 67 = .ok (.ireturn, 1) := by decide +kernel
theorem dX11_place_62 : decode cX11_place 62 = .ok (.iconst 1, 1) := by decide +kernel
theorem dX11_place_63 : decode cX11_place 63 = .ok (.goto 4, 3) := by decide +kernel
theorem dX11_place_68 : decode cX11_place 68 = .ok (.aload_n 0, 1) := by decide +kernel
theorem dX11_place_69 : decode cX11_place 69 = .ok (.getfield 19, 3) := by decide +kernel
theorem dX11_place_72 : decode cX11_place 72 = .ok (.iload_n 1, 1) := by decide +kernel
theorem dX11_place_73 : decode cX11_place 73 = .ok (.invokevirtual 208, 3) := by decide +kernel
theorem dX11_place_76 : decode cX11_place 76 = .ok (.ireturn, 1) := by decide +kernel
theorem dX11_place_77 : decode cX11_place 77 = .ok (.iconst (-1), 1) := by decide +kernel
theorem dX11_place_78 : decode cX11_place 78 = .ok (.ireturn, 1) := by decide +kernel
theorem dX11_place_11 : decode cX11_place 11 = .ok (.iconst (-1), 1) := by decide +kernel
theorem dX11_place_12 : decode cX11_place 12 = .ok (.ireturn, 1) := by decide +kernel
theorem dX11_now_0 : decode cX11_now 0 = .ok (.iload_n 1, 1) := by decide +kernel
theorem dX11_now_1 : decode cX11_now 1 = .ok (.tableswitch 113 0 7 #[47, 55, 63, 71, 79, 87, 96, 105], 47) := by decide +kernel
theorem dX11_now_48 : decode cX11_now 48 = .ok (.aload_n 0, 1) := by decide +kernel
theorem dX11_now_49 : decode cX11_now 49 = .ok (.getfield 19, 3) := by decide +kernel
theorem dX11_now_52 : decode cX11_now 52 = .ok (.getfield 212, 3) := by decide +kernel
theorem dX11_now_55 : decode cX11_now 55 = .ok (.ireturn, 1) := by decide +kernel
theorem dX11_now_56 : decode cX11_now 56 = .ok (.aload_n 0, 1) := by decide +kernel
theorem dX11_now_57 : decode cX11_now 57 = .ok (.getfield 19, 3) := by decide +kernel
theorem dX11_now_60 : decode cX11_now 60 = .ok (.invokevirtual 215, 3) := by decide +kernel
theorem dX11_now_63 : decode cX11_now 63 = .ok (.ireturn, 1) := by decide +kernel
theorem dX11_now_64 : decode cX11_now 64 = .ok (.aload_n 0, 1) := by decide +kernel
theorem dX11_now_65 : decode cX11_now 65 = .ok (.getfield 19, 3) := by decide +kernel
theorem dX11_now_68 : decode cX11_now 68 = .ok (.getfield 219, 3) := by decide +kernel
theorem dX11_now_71 : decode cX11_now 71 = .ok (.ireturn, 1) := by decide +kernel
theorem dX11_now_72 : decode cX11_now 72 = .ok (.aload_n 0, 1) := by decide +kernel
theorem dX11_now_73 : decode cX11_now 73 = .ok (.getfield 19, 3) := by decide +kernel
theorem dX11_now_76 : decode cX11_now 76 = .ok (.getfield 222, 3) := by decide +kernel
theorem dX11_now_79 : decode cX11_now 79 = .ok (.ireturn, 1) := by decide +kernel
theorem dX11_now_80 : decode cX11_now 80 = .ok (.aload_n 0, 1) := by decide +kernel
theorem dX11_now_81 : decode cX11_now 81 = .ok (.getfield 19, 3) := by decide +kernel
theorem dX11_now_84 : decode cX11_now 84 = .ok (.getfield 225, 3) := by decide +kernel
theorem dX11_now_87 : decode cX11_now 87 = .ok (.ireturn, 1) := by decide +kernel
theorem dX11_now_88 : decode cX11_now 88 = .ok (.aload_n 0, 1) := by decide +kernel
theorem dX11_now_89 : decode cX11_now 89 = .ok (.getfield 19, 3) := by decide +kernel
theorem dX11_now_92 : decode cX11_now 92 = .ok (.iconst 1, 1) := by decide +kernel
theorem dX11_now_93 : decode cX11_now 93 = .ok (.invokevirtual 226, 3) := by decide +kernel
theorem dX11_now_96 : decode cX11_now 96 = .ok (.ireturn, 1) := by decide +kernel
theorem dX11_now_97 : decode cX11_now 97 = .ok (.aload_n 0, 1) := by decide +kernel
theorem dX11_now_98 : decode cX11_now 98 = .ok (.getfield 19, 3) := by decide +kernel
theorem dX11_now_101 : decode cX11_now 101 = .ok (.iconst 0, 1) := by decide +kernel
theorem dX11_now_102 : decode cX11_now 102 = .ok (.invokevirtual 226, 3) := by decide +kernel
theorem dX11_now_105 : decode cX11_now 105 = .ok (.ireturn, 1) := by decide +kernel
theorem dX11_now_106 : decode cX11_now 106 = .ok (.aload_n 0, 1) := by decide +kernel
theorem dX11_now_107 : decode cX11_now 107 = .ok (.getfield 19, 3) := by decide +kernel
theorem dX11_now_110 : decode cX11_now 110 = .ok (.invokevirtual 230, 3) := by decide +kernel
theorem dX11_now_113 : decode cX11_now 113 = .ok (.ireturn, 1) := by decide +kernel
theorem dX11_now_114 : decode cX11_now 114 = .ok (.iconst (-1), 1) := by decide +kernel
theorem dX11_now_115 : decode cX11_now 115 = .ok (.ireturn, 1) := by decide +kernel
theorem dX11_allow_0 : decode cX11_allow 0 = .ok (.aload_n 0, 1) := by decide +kernel
theorem dX11_allow_1 : decode cX11_allow 1 = .ok (.getfield 19, 3) := by decide +kernel
theorem dX11_allow_4 : decode cX11_allow 4 = .ok (.iload_n 1, 1) := by decide +kernel
theorem dX11_allow_5 : decode cX11_allow 5 = .ok (.invokevirtual 199, 3) := by decide +kernel
theorem dX11_allow_8 : decode cX11_allow 8 = .ok (.ifCond .eq 11, 3) := by decide +kernel
theorem dX11_allow_11 : decode cX11_allow 11 = .ok (.iload_n 2, 1) := by decide +kernel
theorem dX11_allow_12 : decode cX11_allow 12 = .ok (.iload_n 3, 1) := by decide +kernel
theorem dX11_allow_13 : decode cX11_allow 13 = .ok (.invokestatic 233, 3) := by decide +kernel
theorem dX11_allow_16 : decode cX11_allow 16 = .ok (.ifCond .ne 5, 3) := by decide +kernel
theorem dX11_allow_21 : decode cX11_allow 21 = .ok (.aload_n 0, 1) := by decide +kernel
theorem dX11_allow_22 : decode cX11_allow 22 = .ok (.getfield 60, 3) := by decide +kernel
theorem dX11_allow_25 : decode cX11_allow 25 = .ok (.aload_n 0, 1) := by decide +kernel
theorem dX11_allow_26 : decode cX11_allow 26 = .ok (.getfield 19, 3) := by decide +kernel
theorem dX11_allow_29 : decode cX11_allow 29 = .ok (.invokevirtual 237, 3) := by decide +kernel
theorem dX11_allow_32 : decode cX11_allow 32 = .ok (.aload_n 0, 1) := by decide +kernel
theorem dX11_allow_33 : decode cX11_allow 33 = .ok (.aload_n 0, 1) := by decide +kernel
theorem dX11_allow_34 : decode cX11_allow 34 = .ok (.getfield 19, 3) := by decide +kernel
theorem dX11_allow_37 : decode cX11_allow 37 = .ok (.iload_n 1, 1) := by decide +kernel
theorem dX11_allow_38 : decode cX11_allow 38 = .ok (.iload_n 2, 1) := by decide +kernel
theorem dX11_allow_39 : decode cX11_allow 39 = .ok (.iload_n 3, 1) := by decide +kernel
theorem dX11_allow_40 : decode cX11_allow 40 = .ok (.invokevirtual 240, 3) := by decide +kernel
theorem dX11_allow_43 : decode cX11_allow 43 = .ok (.invokevirtual 244, 3) := by decide +kernel
theorem dX11_allow_46 : decode cX11_allow 46 = .ok (.ireturn, 1) := by decide +kernel
theorem dX11_allow_19 : decode cX11_allow 19 = .ok (.iconst (-1), 1) := by decide +kernel
theorem dX11_allow_20 : decode cX11_allow 20 = .ok (.ireturn, 1) := by decide +kernel
theorem dX11_forbid_0 : decode cX11_forbid 0 = .ok (.aload_n 0, 1) := by decide +kernel
theorem dX11_forbid_1 : decode cX11_forbid 1 = .ok (.getfield 19, 3) := by decide +kernel
theorem dX11_forbid_4 : decode cX11_forbid 4 = .ok (.iload_n 1, 1) := by decide +kernel
theorem dX11_forbid_5 : decode cX11_forbid 5 = .ok (.invokevirtual 199, 3) := by decide +kernel
theorem dX11_forbid_8 : decode cX11_forbid 8 = .ok (.ifCond .eq 11, 3) := by decide +kernel
theorem dX11_forbid_11 : decode cX11_forbid 11 = .ok (.iload_n 2, 1) := by decide +kernel
theorem dX11_forbid_12 : decode cX11_forbid 12 = .ok (.iload_n 3, 1) := by decide +kernel
theorem dX11_forbid_13 : decode cX11_forbid 13 = .ok (.invokestatic 233, 3) := by decide +kernel
theorem dX11_forbid_16 : decode cX11_forbid 16 = .ok (.ifCond .ne 5, 3) := by decide +kernel
theorem dX11_forbid_21 : decode cX11_forbid 21 = .ok (.aload_n 0, 1) := by decide +kernel
theorem dX11_forbid_22 : decode cX11_forbid 22 = .ok (.getfield 60, 3) := by decide +kernel
theorem dX11_forbid_25 : decode cX11_forbid 25 = .ok (.aload_n 0, 1) := by decide +kernel
theorem dX11_forbid_26 : decode cX11_forbid 26 = .ok (.getfield 19, 3) := by decide +kernel
theorem dX11_forbid_29 : decode cX11_forbid 29 = .ok (.invokevirtual 237, 3) := by decide +kernel
theorem dX11_forbid_32 : decode cX11_forbid 32 = .ok (.aload_n 0, 1) := by decide +kernel
theorem dX11_forbid_33 : decode cX11_forbid 33 = .ok (.aload_n 0, 1) := by decide +kernel
theorem dX11_forbid_34 : decode cX11_forbid 34 = .ok (.getfield 19, 3) := by decide +kernel
theorem dX11_forbid_37 : decode cX11_forbid 37 = .ok (.iload_n 1, 1) := by decide +kernel
theorem dX11_forbid_38 : decode cX11_forbid 38 = .ok (.iload_n 2, 1) := by decide +kernel
theorem dX11_forbid_39 : decode cX11_forbid 39 = .ok (.iload_n 3, 1) := by decide +kernel
theorem dX11_forbid_40 : decode cX11_forbid 40 = .ok (.invokevirtual 247, 3) := by decide +kernel
theorem dX11_forbid_43 : decode cX11_forbid 43 = .ok (.invokevirtual 244, 3) := by decide +kernel
theorem dX11_forbid_46 : decode cX11_forbid 46 = .ok (.ireturn, 1) := by decide +kernel
theorem dX11_forbid_19 : decode cX11_forbid 19 = .ok (.iconst (-1), 1) := by decide +kernel
theorem dX11_forbid_20 : decode cX11_forbid 20 = .ok (.ireturn, 1) := by decide +kernel
theorem dX11_fence_0 : decode cX11_fence 0 = .ok (.aload_n 0, 1) := by decide +kernel
theorem dX11_fence_1 : decode cX11_fence 1 = .ok (.getfield 19, 3) := by decide +kernel
theorem dX11_fence_4 : decode cX11_fence 4 = .ok (.iload_n 1, 1) := by decide +kernel
theorem dX11_fence_5 : decode cX11_fence 5 = .ok (.invokevirtual 199, 3) := by decide +kernel
theorem dX11_fence_8 : decode cX11_fence 8 = .ok (.ifCond .ne 5, 3) := by decide +kernel
theorem dX11_fence_13 : decode cX11_fence 13 = .ok (.aload_n 0, 1) := by decide +kernel
theorem dX11_fence_14 : decode cX11_fence 14 = .ok (.getfield 60, 3) := by decide +kernel
theorem dX11_fence_17 : decode cX11_fence 17 = .ok (.aload_n 0, 1) := by decide +kernel
theorem dX11_fence_18 : decode cX11_fence 18 = .ok (.getfield 19, 3) := by decide +kernel
theorem dX11_fence_21 : decode cX11_fence 21 = .ok (.invokevirtual 237, 3) := by decide +kernel
theorem dX11_fence_24 : decode cX11_fence 24 = .ok (.aload_n 0, 1) := by decide +kernel
theorem dX11_fence_25 : decode cX11_fence 25 = .ok (.aload_n 0, 1) := by decide +kernel
theorem dX11_fence_26 : decode cX11_fence 26 = .ok (.getfield 19, 3) := by decide +kernel
theorem dX11_fence_29 : decode cX11_fence 29 = .ok (.iload_n 1, 1) := by decide +kernel
theorem dX11_fence_30 : decode cX11_fence 30 = .ok (.invokevirtual 250, 3) := by decide +kernel
theorem dX11_fence_33 : decode cX11_fence 33 = .ok (.invokevirtual 244, 3) := by decide +kernel
theorem dX11_fence_36 : decode cX11_fence 36 = .ok (.pop, 1) := by decide +kernel
theorem dX11_fence_37 : decode cX11_fence 37 = .ok (.aload_n 0, 1) := by decide +kernel
theorem dX11_fence_38 : decode cX11_fence 38 = .ok (.getfield 19, 3) := by decide +kernel
theorem dX11_fence_41 : decode cX11_fence 41 = .ok (.getfield 205, 3) := by decide +kernel
theorem dX11_fence_44 : decode cX11_fence 44 = .ok (.iload_n 1, 1) := by decide +kernel
theorem dX11_fence_45 : decode cX11_fence 45 = .ok (.baload, 1) := by decide +kernel
theorem dX11_fence_46 : decode cX11_fence 46 = .ok (.ifCond .eq 7, 3) := by decide +kernel
theorem dX11_fence_53 : decode cX11_fence 53 = .ok (.iconst 0, 1) := by decide +kernel
theorem dX11_fence_54 : decode cX11_fence 54 = .ok (.ireturn, 1) := by decide +kernel
theorem dX11_fence_49 : decode cX11_fence 49 = .ok (.iconst 1, 1) := by decide +kernel
theorem dX11_fence_50 : decode cX11_fence 50 = .ok (.goto 4, 3) := by decide +kernel
theorem dX11_fence_11 : decode cX11_fence 11 = .ok (.iconst (-1), 1) := by decide +kernel
theorem dX11_fence_12 : decode cX11_fence 12 = .ok (.ireturn, 1) := by decide +kernel
theorem dX11_sign_0 : decode cX11_sign 0 = .ok (.iload_n 1, 1) := by decide +kernel
theorem dX11_sign_1 : decode cX11_sign 1 = .ok (.ifCond .lt 9, 3) := by decide +kernel
theorem dX11_sign_10 : decode cX11_sign 10 = .ok (.iconst (-1), 1) := by decide +kernel
theorem dX11_sign_11 : decode cX11_sign 11 = .ok (.ireturn, 1) := by decide +kernel
theorem dX11_sign_4 : decode cX11_sign 4 = .ok (.iload_n 1, 1) := by decide +kernel
theorem dX11_sign_5 : decode cX11_sign 5 = .ok (.bipush 12, 2) := by decide +kernel
theorem dX11_sign_7 : decode cX11_sign 7 = .ok (.if_icmp .le 5, 3) := by decide +kernel
theorem dX11_sign_12 : decode cX11_sign 12 = .ok (.aload_n 0, 1) := by decide +kernel
theorem dX11_sign_13 : decode cX11_sign 13 = .ok (.getfield 60, 3) := by decide +kernel
theorem dX11_sign_16 : decode cX11_sign 16 = .ok (.aload_n 0, 1) := by decide +kernel
theorem dX11_sign_17 : decode cX11_sign 17 = .ok (.getfield 19, 3) := by decide +kernel
theorem dX11_sign_20 : decode cX11_sign 20 = .ok (.invokevirtual 237, 3) := by decide +kernel
theorem dX11_sign_23 : decode cX11_sign 23 = .ok (.aload_n 0, 1) := by decide +kernel
theorem dX11_sign_24 : decode cX11_sign 24 = .ok (.aload_n 0, 1) := by decide +kernel
theorem dX11_sign_25 : decode cX11_sign 25 = .ok (.getfield 19, 3) := by decide +kernel
theorem dX11_sign_28 : decode cX11_sign 28 = .ok (.iload_n 1, 1) := by decide +kernel
theorem dX11_sign_29 : decode cX11_sign 29 = .ok (.invokevirtual 253, 3) := by decide +kernel
theorem dX11_sign_32 : decode cX11_sign 32 = .ok (.invokevirtual 244, 3) := by decide +kernel
theorem dX11_sign_35 : decode cX11_sign 35 = .ok (.ireturn, 1) := by decide +kernel
theorem dX11_hold_0 : decode cX11_hold 0 = .ok (.aload_n 0, 1) := by decide +kernel
theorem dX11_hold_1 : decode cX11_hold 1 = .ok (.getfield 19, 3) := by decide +kernel
theorem dX11_hold_4 : decode cX11_hold 4 = .ok (.iload_n 1, 1) := by decide +kernel
theorem dX11_hold_5 : decode cX11_hold 5 = .ok (.invokevirtual 174, 3) := by decide +kernel
theorem dX11_hold_8 : decode cX11_hold 8 = .ok (.ifCond .eq 12, 3) := by decide +kernel
theorem dX11_hold_11 : decode cX11_hold 11 = .ok (.iload_n 2, 1) := by decide +kernel
theorem dX11_hold_12 : decode cX11_hold 12 = .ok (.ifCond .lt 8, 3) := by decide +kernel
theorem dX11_hold_20 : decode cX11_hold 20 = .ok (.iconst (-1), 1) := by decide +kernel
theorem dX11_hold_21 : decode cX11_hold 21 = .ok (.ireturn, 1) := by decide +kernel
theorem dX11_hold_15 : decode cX11_hold 15 = .ok (.iload_n 2, 1) := by decide +kernel
theorem dX11_hold_16 : decode cX11_hold 16 = .ok (.iconst 1, 1) := by decide +kernel
theorem dX11_hold_17 : decode cX11_hold 17 = .ok (.if_icmp .le 5, 3) := by decide +kernel
theorem dX11_hold_22 : decode cX11_hold 22 = .ok (.aload_n 0, 1) := by decide +kernel
theorem dX11_hold_23 : decode cX11_hold 23 = .ok (.getfield 60, 3) := by decide +kernel
theorem dX11_hold_26 : decode cX11_hold 26 = .ok (.aload_n 0, 1) := by decide +kernel
theorem dX11_hold_27 : decode cX11_hold 27 = .ok (.getfield 19, 3) := by decide +kernel
theorem dX11_hold_30 : decode cX11_hold 30 = .ok (.invokevirtual 237, 3) := by decide +kernel
theorem dX11_hold_33 : decode cX11_hold 33 = .ok (.aload_n 0, 1) := by decide +kernel
theorem dX11_hold_34 : decode cX11_hold 34 = .ok (.aload_n 0, 1) := by decide +kernel
theorem dX11_hold_35 : decode cX11_hold 35 = .ok (.getfield 19, 3) := by decide +kernel
theorem dX11_hold_38 : decode cX11_hold 38 = .ok (.iload_n 1, 1) := by decide +kernel
theorem dX11_hold_39 : decode cX11_hold 39 = .ok (.iload_n 2, 1) := by decide +kernel
theorem dX11_hold_40 : decode cX11_hold 40 = .ok (.iconst 1, 1) := by decide +kernel
theorem dX11_hold_41 : decode cX11_hold 41 = .ok (.if_icmp .ne 7, 3) := by decide +kernel
theorem dX11_hold_48 : decode cX11_hold 48 = .ok (.iconst 0, 1) := by decide +kernel
theorem dX11_hold_49 : decode cX11_hold 49 = .ok (.invokevirtual 256, 3) := by decide +kernel
theorem dX11_hold_52 : decode cX11_hold 52 = .ok (.invokevirtual 244, 3) := by decide +kernel
theorem dX11_hold_55 : decode cX11_hold 55 = .ok (.ireturn, 1) := by decide +kernel
theorem dX11_hold_44 : decode cX11_hold 44 = .ok (.iconst 1, 1) := by decide +kernel
theorem dX11_hold_45 : decode cX11_hold 45 = .ok (.goto 4, 3) := by decide +kernel
theorem dX11_come_0 : decode cX11_come 0 = .ok (.aload_n 0, 1) := by decide +kernel
theorem dX11_come_1 : decode cX11_come 1 = .ok (.getfield 19, 3) := by decide +kernel
theorem dX11_come_4 : decode cX11_come 4 = .ok (.iload_n 1, 1) := by decide +kernel
theorem dX11_come_5 : decode cX11_come 5 = .ok (.invokevirtual 133, 3) := by decide +kernel
theorem dX11_come_8 : decode cX11_come 8 = .ok (.ifCond .eq 23, 3) := by decide +kernel
theorem dX11_come_11 : decode cX11_come 11 = .ok (.aload_n 0, 1) := by decide +kernel
theorem dX11_come_12 : decode cX11_come 12 = .ok (.getfield 19, 3) := by decide +kernel
theorem dX11_come_15 : decode cX11_come 15 = .ok (.iload_n 2, 1) := by decide +kernel
theorem dX11_come_16 : decode cX11_come 16 = .ok (.invokevirtual 199, 3) := by decide +kernel
theorem dX11_come_19 : decode cX11_come 19 = .ok (.ifCond .eq 12, 3) := by decide +kernel
theorem dX11_come_22 : decode cX11_come 22 = .ok (.iload_n 3, 1) := by decide +kernel
theorem dX11_come_23 : decode cX11_come 23 = .ok (.iload 4, 2) := by decide +kernel
theorem dX11_come_25 : decode cX11_come 25 = .ok (.invokestatic 233, 3) := by decide +kernel
theorem dX11_come_28 : decode cX11_come 28 = .ok (.ifCond .ne 5, 3) := by decide +kernel
theorem dX11_come_33 : decode cX11_come 33 = .ok (.aload_n 0, 1) := by decide +kernel
theorem dX11_come_34 : decode cX11_come 34 = .ok (.getfield 60, 3) := by decide +kernel
theorem dX11_come_37 : decode cX11_come 37 = .ok (.aload_n 0, 1) := by decide +kernel
theorem dX11_come_38 : decode cX11_come 38 = .ok (.getfield 19, 3) := by decide +kernel
theorem dX11_come_41 : decode cX11_come 41 = .ok (.invokevirtual 237, 3) := by decide +kernel
theorem dX11_come_44 : decode cX11_come 44 = .ok (.aload_n 0, 1) := by decide +kernel
theorem dX11_come_45 : decode cX11_come 45 = .ok (.aload_n 0, 1) := by decide +kernel
theorem dX11_come_46 : decode cX11_come 46 = .ok (.getfield 19, 3) := by decide +kernel
theorem dX11_come_49 : decode cX11_come 49 = .ok (.iload_n 1, 1) := by decide +kernel
theorem dX11_come_50 : decode cX11_come 50 = .ok (.iload_n 2, 1) := by decide +kernel
theorem dX11_come_51 : decode cX11_come 51 = .ok (.iload_n 3, 1) := by decide +kernel
theorem dX11_come_52 : decode cX11_come 52 = .ok (.iload 4, 2) := by decide +kernel
theorem dX11_come_54 : decode cX11_come 54 = .ok (.invokevirtual 260, 3) := by decide +kernel
theorem dX11_come_57 : decode cX11_come 57 = .ok (.invokevirtual 244, 3) := by decide +kernel
theorem dX11_come_60 : decode cX11_come 60 = .ok (.ireturn, 1) := by decide +kernel
theorem dX11_come_31 : decode cX11_come 31 = .ok (.iconst (-1), 1) := by decide +kernel
theorem dX11_come_32 : decode cX11_come 32 = .ok (.ireturn, 1) := by decide +kernel
theorem dX11_days_0 : decode cX11_days 0 = .ok (.iload_n 1, 1) := by decide +kernel
theorem dX11_days_1 : decode cX11_days 1 = .ok (.iconst 1, 1) := by decide +kernel
theorem dX11_days_2 : decode cX11_days 2 = .ok (.if_icmp .lt 9, 3) := by decide +kernel
theorem dX11_days_11 : decode cX11_days 11 = .ok (.iconst (-1), 1) := by decide +kernel
theorem dX11_days_12 : decode cX11_days 12 = .ok (.ireturn, 1) := by decide +kernel
theorem dX11_days_5 : decode cX11_days 5 = .ok (.iload_n 1, 1) := by decide +kernel
theorem dX11_days_6 : decode cX11_days 6 = .ok (.bipush 30, 2) := by decide +kernel
theorem dX11_days_8 : decode cX11_days 8 = .ok (.if_icmp .le 5, 3) := by decide +kernel
theorem dX11_days_13 : decode cX11_days 13 = .ok (.aload_n 0, 1) := by decide +kernel
theorem dX11_days_14 : decode cX11_days 14 = .ok (.getfield 60, 3) := by decide +kernel
theorem dX11_days_17 : decode cX11_days 17 = .ok (.aload_n 0, 1) := by decide +kernel
theorem dX11_days_18 : decode cX11_days 18 = .ok (.getfield 19, 3) := by decide +kernel
theorem dX11_days_21 : decode cX11_days 21 = .ok (.invokevirtual 237, 3) := by decide +kernel
theorem dX11_days_24 : decode cX11_days 24 = .ok (.aload_n 0, 1) := by decide +kernel
theorem dX11_days_25 : decode cX11_days 25 = .ok (.getfield 53, 3) := by decide +kernel
theorem dX11_days_28 : decode cX11_days 28 = .ok (.aload_n 0, 1) := by decide +kernel
theorem dX11_days_29 : decode cX11_days 29 = .ok (.getfield 19, 3) := by decide +kernel
theorem dX11_days_32 : decode cX11_days 32 = .ok (.iload_n 1, 1) := by decide +kernel
theorem dX11_days_33 : decode cX11_days 33 = .ok (.iload_n 2, 1) := by decide +kernel
theorem dX11_days_34 : decode cX11_days 34 = .ok (.invokevirtual 264, 3) := by decide +kernel
theorem dX11_days_37 : decode cX11_days 37 = .ok (.istore_n 3, 1) := by decide +kernel
theorem dX11_days_38 : decode cX11_days 38 = .ok (.iload_n 3, 1) := by decide +kernel
theorem dX11_days_39 : decode cX11_days 39 = .ok (.ifCond .le 10, 3) := by decide +kernel
theorem dX11_days_49 : decode cX11_days 49 = .ok (.iload_n 3, 1) := by decide +kernel
theorem dX11_days_50 : decode cX11_days 50 = .ok (.ireturn, 1) := by decide +kernel
theorem dX11_days_42 : decode cX11_days 42 = .ok (.aload_n 0, 1) := by decide +kernel
theorem dX11_days_43 : decode cX11_days 43 = .ok (.getfield 60, 3) := by decide +kernel
theorem dX11_days_46 : decode cX11_days 46 = .ok (.invokevirtual 268, 3) := by decide +kernel
theorem dX11_undo_0 : decode cX11_undo 0 = .ok (.aload_n 0, 1) := by decide +kernel
theorem dX11_undo_1 : decode cX11_undo 1 = .ok (.getfield 60, 3) := by decide +kernel
theorem dX11_undo_4 : decode cX11_undo 4 = .ok (.aload_n 0, 1) := by decide +kernel
theorem dX11_undo_5 : decode cX11_undo 5 = .ok (.getfield 19, 3) := by decide +kernel
theorem dX11_undo_8 : decode cX11_undo 8 = .ok (.invokevirtual 271, 3) := by decide +kernel
theorem dX11_undo_11 : decode cX11_undo 11 = .ok (.ifCond .eq 13, 3) := by decide +kernel
theorem dX11_undo_14 : decode cX11_undo 14 = .ok (.aload_n 0, 1) := by decide +kernel
theorem dX11_undo_15 : decode cX11_undo 15 = .ok (.getfield 60, 3) := by decide +kernel
theorem dX11_undo_18 : decode cX11_undo 18 = .ok (.getfield 275, 3) := by decide +kernel
theorem dX11_undo_21 : decode cX11_undo 21 = .ok (.goto 4, 3) := by decide +kernel
theorem dX11_undo_25 : decode cX11_undo 25 = .ok (.ireturn, 1) := by decide +kernel
theorem dX11_undo_24 : decode cX11_undo 24 = .ok (.iconst (-1), 1) := by decide +kernel
theorem dX11_there_0 : decode cX11_there 0 = .ok (.aload_n 0, 1) := by decide +kernel
theorem dX11_there_1 : decode cX11_there 1 = .ok (.getfield 19, 3) := by decide +kernel
theorem dX11_there_4 : decode cX11_there 4 = .ok (.iload_n 1, 1) := by decide +kernel
theorem dX11_there_5 : decode cX11_there 5 = .ok (.invokevirtual 199, 3) := by decide +kernel
theorem dX11_there_8 : decode cX11_there 8 = .ok (.ifCond .eq 11, 3) := by decide +kernel
theorem dX11_there_11 : decode cX11_there 11 = .ok (.iload_n 2, 1) := by decide +kernel
theorem dX11_there_12 : decode cX11_there 12 = .ok (.iload_n 2, 1) := by decide +kernel
theorem dX11_there_13 : decode cX11_there 13 = .ok (.invokestatic 233, 3) := by decide +kernel
theorem dX11_there_16 : decode cX11_there 16 = .ok (.ifCond .ne 5, 3) := by decide +kernel
theorem dX11_there_21 : decode cX11_there 21 = .ok (.aload_n 0, 1) := by decide +kernel
theorem dX11_there_22 : decode cX11_there 22 = .ok (.getfield 19, 3) := by decide +kernel
theorem dX11_there_25 : decode cX11_there 25 = .ok (.iload_n 1, 1) := by decide +kernel
theorem dX11_there_26 : decode cX11_there 26 = .ok (.iload_n 2, 1) := by decide +kernel
theorem dX11_there_27 : decode cX11_there 27 = .ok (.invokevirtual 276, 3) := by decide +kernel
theorem dX11_there_30 : decode cX11_there 30 = .ok (.ireturn, 1) := by decide +kernel
theorem dX11_there_19 : decode cX11_there 19 = .ok (.iconst (-1), 1) := by decide +kernel
theorem dX11_there_20 : decode cX11_there 20 = .ok (.ireturn, 1) := by decide +kernel
theorem dX11_meets_0 : decode cX11_meets 0 = .ok (.aload_n 0, 1) := by decide +kernel
theorem dX11_meets_1 : decode cX11_meets 1 = .ok (.getfield 19, 3) := by decide +kernel
theorem dX11_meets_4 : decode cX11_meets 4 = .ok (.iload_n 1, 1) := by decide +kernel
theorem dX11_meets_5 : decode cX11_meets 5 = .ok (.invokevirtual 133, 3) := by decide +kernel
theorem dX11_meets_8 : decode cX11_meets 8 = .ok (.ifCond .eq 19, 3) := by decide +kernel
theorem dX11_meets_11 : decode cX11_meets 11 = .ok (.aload_n 0, 1) := by decide +kernel
theorem dX11_meets_12 : decode cX11_meets 12 = .ok (.getfield 19, 3) := by decide +kernel
theorem dX11_meets_15 : decode cX11_meets 15 = .ok (.iload_n 2, 1) := by decide +kernel
theorem dX11_meets_16 : decode cX11_meets 16 = .ok (.invokevirtual 133, 3) := by decide +kernel
theorem dX11_meets_19 : decode cX11_meets 19 = .ok (.ifCond .eq 8, 3) := by decide +kernel
theorem dX11_meets_22 : decode cX11_meets 22 = .ok (.iload_n 1, 1) := by decide +kernel
theorem dX11_meets_23 : decode cX11_meets 23 = .ok (.iload_n 2, 1) := by decide +kernel
theorem dX11_meets_24 : decode cX11_meets 24 = .ok (.if_icmp .ne 5, 3) := by decide +kernel
theorem dX11_meets_29 : decode cX11_meets 29 = .ok (.aload_n 0, 1) := by decide +kernel
theorem dX11_meets_30 : decode cX11_meets 30 = .ok (.getfield 19, 3) := by decide +kernel
theorem dX11_meets_33 : decode cX11_meets 33 = .ok (.iload_n 1, 1) := by decide +kernel
theorem dX11_meets_34 : decode cX11_meets 34 = .ok (.iload_n 2, 1) := by decide +kernel
theorem dX11_meets_35 : decode cX11_meets 35 = .ok (.invokevirtual 279, 3) := by decide +kernel
theorem dX11_meets_38 : decode cX11_meets 38 = .ok (.ireturn, 1) := by decide +kernel
theorem dX11_meets_27 : decode cX11_meets 27 = .ok (.iconst (-1), 1) := by decide +kernel
theorem dX11_meets_28 : decode cX11_meets 28 = .ok (.ireturn, 1) := by decide +kernel
theorem dX11_best_0 : decode cX11_best 0 = .ok (.aload_n 0, 1) := by decide +kernel
theorem dX11_best_1 : decode cX11_best 1 = .ok (.getfield 19, 3) := by decide +kernel
theorem dX11_best_4 : decode cX11_best 4 = .ok (.iload_n 1, 1) := by decide +kernel
theorem dX11_best_5 : decode cX11_best 5 = .ok (.invokevirtual 199, 3) := by decide +kernel
theorem dX11_best_8 : decode cX11_best 8 = .ok (.ifCond .eq 12, 3) := by decide +kernel
theorem dX11_best_11 : decode cX11_best 11 = .ok (.iload_n 2, 1) := by decide +kernel
