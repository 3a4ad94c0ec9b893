theorem dX8_init_0 : decode cX8_init 0 = .ok (.aload_n 0, 1) := by decide +kernel
theorem dX8_init_1 : decode cX8_init 1 = .ok (.invokespecial 3, 3) := by decide +kernel
theorem dX8_init_4 : decode cX8_init 4 = .ok (.aload_n 0, 1) := by decide +kernel
theorem dX8_init_5 : decode cX8_init 5 = .ok (.sipush 940, 3) := by decide +kernel
theorem dX8_init_8 : decode cX8_init 8 = .ok (.newarray .byte, 2) := by decide +kernel
theorem dX8_init_10 : decode cX8_init 10 = .ok (.putfield 9, 3) := by decide +kernel
theorem dX8_init_13 : decode cX8_init 13 = .ok (.aload_n 0, 1) := by decide +kernel
theorem dX8_init_14 : decode cX8_init 14 = .ok (.getstatic 15, 3) := by decide +kernel
theorem dX8_init_17 : decode cX8_init 17 = .ok (.putfield 21, 3) := by decide +kernel
theorem dX8_init_20 : decode cX8_init 20 = .ok (.return_, 1) := by decide +kernel
theorem dX6_init_0 : decode cX6_init 0 = .ok (.aload_n 0, 1) := by decide +kernel
theorem dX6_init_1 : decode cX6_init 1 = .ok (.invokespecial 1, 3) := by decide +kernel
theorem dX6_init_4 : decode cX6_init 4 = .ok (.return_, 1) := by decide +kernel
theorem dX2_init_0 : decode cX2_init 0 = .ok (.aload_n 0, 1) := by decide +kernel
theorem dX2_init_1 : decode cX2_init 1 = .ok (.invokespecial 1, 3) := by decide +kernel
theorem dX2_init_4 : decode cX2_init 4 = .ok (.return_, 1) := by decide +kernel
theorem dX4_init_0 : decode cX4_init 0 = .ok (.aload_n 0, 1) := by decide +kernel
theorem dX4_init_1 : decode cX4_init 1 = .ok (.invokespecial 3, 3) := by decide +kernel
theorem dX4_init_4 : decode cX4_init 4 = .ok (.aload_n 0, 1) := by decide +kernel
theorem dX4_init_5 : decode cX4_init 5 = .ok (.iconst 5, 1) := by decide +kernel
theorem dX4_init_6 : decode cX4_init 6 = .ok (.newarray .long, 2) := by decide +kernel
theorem dX4_init_8 : decode cX4_init 8 = .ok (.putfield 9, 3) := by decide +kernel
theorem dX4_init_11 : decode cX4_init 11 = .ok (.aload_n 0, 1) := by decide +kernel
theorem dX4_init_12 : decode cX4_init 12 = .ok (.iconst 5, 1) := by decide +kernel
theorem dX4_init_13 : decode cX4_init 13 = .ok (.newarray .int, 2) := by decide +kernel
theorem dX4_init_15 : decode cX4_init 15 = .ok (.putfield 15, 3) := by decide +kernel
theorem dX4_init_18 : decode cX4_init 18 = .ok (.aload_n 0, 1) := by decide +kernel
theorem dX4_init_19 : decode cX4_init 19 = .ok (.iconst 5, 1) := by decide +kernel
theorem dX4_init_20 : decode cX4_init 20 = .ok (.newarray .boolean, 2) := by decide +kernel
theorem dX4_init_22 : decode cX4_init 22 = .ok (.putfield 19, 3) := by decide +kernel
theorem dX4_init_25 : decode cX4_init 25 = .ok (.aload_n 0, 1) := by decide +kernel
theorem dX4_init_26 : decode cX4_init 26 = .ok (.bipush 8, 2) := by decide +kernel
theorem dX4_init_28 : decode cX4_init 28 = .ok (.anewarray 23, 3) := by decide +kernel
theorem dX4_init_31 : decode cX4_init 31 = .ok (.putfield 25, 3) := by decide +kernel
theorem dX4_init_34 : decode cX4_init 34 = .ok (.aload_n 0, 1) := by decide +kernel
theorem dX4_init_35 : decode cX4_init 35 = .ok (.bipush 6, 2) := by decide +kernel
theorem dX4_init_37 : decode cX4_init 37 = .ok (.anewarray 29, 3) := by decide +kernel
theorem dX4_init_40 : decode cX4_init 40 = .ok (.putfield 31, 3) := by decide +kernel
theorem dX4_init_43 : decode cX4_init 43 = .ok (.iconst 0, 1) := by decide +kernel
theorem dX4_init_44 : decode cX4_init 44 = .ok (.istore_n 1, 1) := by decide +kernel
theorem dX4_init_45 : decode cX4_init 45 = .ok (.iload_n 1, 1) := by decide +kernel
theorem dX4_init_46 : decode cX4_init 46 = .ok (.bipush 8, 2) := by decide +kernel
theorem dX4_init_48 : decode cX4_init 48 = .ok (.if_icmp .ge 22, 3) := by decide +kernel
theorem dX4_init_51 : decode cX4_init 51 = .ok (.aload_n 0, 1) := by decide +kernel
theorem dX4_init_52 : decode cX4_init 52 = .ok (.getfield 25, 3) := by decide +kernel
theorem dX4_init_55 : decode cX4_init 55 = .ok (.iload_n 1, 1) := by decide +kernel
theorem dX4_init_56 : decode cX4_init 56 = .ok (.new 23, 3) := by decide +kernel
theorem dX4_init_59 : decode cX4_init 59 = .ok (.dup, 1) := by decide +kernel
set_option maxRecDepth 20000 in
theorem ggX4_init_X6_init : GoodIn wsX4_init wsX6_init := goodIn_r _ [20, 21, 2, 3] (by decide +kernel) (by decide +kernel)
set_option maxRecDepth 20000 in
theorem gX4_init_X6_init_n35 : GoodIn wsX4_init (wsX6_init) := ggX4_init_X6_init
theorem dX4_init_60 : decode cX4_init 60 = .ok (.invokespecial 35, 3) := by decide +kernel
theorem dX4_init_63 : decode cX4_init 63 = .ok (.aastore, 1) := by decide +kernel
theorem dX4_init_64 : decode cX4_init 64 = .ok (.iinc 1 1, 3) := by decide +kernel
theorem dX4_init_67 : decode cX4_init 67 = .ok (.goto (-22), 3) := by decide +kernel
theorem dX4_init_70 : decode cX4_init 70 = .ok (.iconst 0, 1) := by decide +kernel
theorem dX4_init_71 : decode cX4_init 71 = .ok (.istore_n 1, 1) := by decide +kernel
theorem dX4_init_72 : decode cX4_init 72 = .ok (.iload_n 1, 1) := by decide +kernel
theorem dX4_init_73 : decode cX4_init 73 = .ok (.bipush 6, 2) := by decide +kernel
theorem dX4_init_75 : decode cX4_init 75 = .ok (.if_icmp .ge 22, 3) := by decide +kernel
theorem dX4_init_78 : decode cX4_init 78 = .ok (.aload_n 0, 1) := by decide +kernel
theorem dX4_init_79 : decode cX4_init 79 = .ok (.getfield 31, 3) := by decide +kernel
theorem dX4_init_82 : decode cX4_init 82 = .ok (.iload_n 1, 1) := by decide +kernel
theorem dX4_init_83 : decode cX4_init 83 = .ok (.new 29, 3) := by decide +kernel
theorem dX4_init_86 : decode cX4_init 86 = .ok (.dup, 1) := by decide +kernel
set_option maxRecDepth 20000 in
theorem ggX4_init_X2_init : GoodIn wsX4_init wsX2_init := goodIn_r _ [23, 24, 2, 3] (by decide +kernel) (by decide +kernel)
set_option maxRecDepth 20000 in
theorem gX4_init_X2_init_n36 : GoodIn wsX4_init (wsX2_init) := ggX4_init_X2_init
theorem dX4_init_87 : decode cX4_init 87 = .ok (.invokespecial 36, 3) := by decide +kernel
theorem dX4_init_90 : decode cX4_init 90 = .ok (.aastore, 1) := by decide +kernel
theorem dX4_init_91 : decode cX4_init 91 = .ok (.iinc 1 1, 3) := by decide +kernel
theorem dX4_init_94 : decode cX4_init 94 = .ok (.goto (-22), 3) := by decide +kernel
theorem dX4_init_97 : decode cX4_init 97 = .ok (.aload_n 0, 1) := by decide +kernel
theorem dX4_init_98 : decode cX4_init 98 = .ok (.iconst 2, 1) := by decide +kernel
theorem dX4_init_99 : decode cX4_init 99 = .ok (.putfield 37, 3) := by decide +kernel
theorem dX4_init_102 : decode cX4_init 102 = .ok (.return_, 1) := by decide +kernel
theorem dX5_init_0 : decode cX5_init 0 = .ok (.aload_n 0, 1) := by decide +kernel
theorem dX5_init_1 : decode cX5_init 1 = .ok (.invokespecial 3, 3) := by decide +kernel
theorem dX5_init_4 : decode cX5_init 4 = .ok (.return_, 1) := by decide +kernel
theorem dX0_init_0 : decode cX0_init 0 = .ok (.aload_n 0, 1) := by decide +kernel
theorem dX0_init_1 : decode cX0_init 1 = .ok (.invokespecial 3, 3) := by decide +kernel
theorem dX0_init_4 : decode cX0_init 4 = .ok (.aload_n 0, 1) := by decide +kernel
theorem dX0_init_5 : decode cX0_init 5 = .ok (.bipush 40, 2) := by decide +kernel
theorem dX0_init_7 : decode cX0_init 7 = .ok (.anewarray 11, 3) := by decide +kernel
theorem dX0_init_10 : decode cX0_init 10 = .ok (.putfield 13, 3) := by decide +kernel
theorem dX0_init_13 : decode cX0_init 13 = .ok (.aload_n 0, 1) := by decide +kernel
theorem dX0_init_14 : decode cX0_init 14 = .ok (.bipush 40, 2) := by decide +kernel
theorem dX0_init_16 : decode cX0_init 16 = .ok (.newarray .int, 2) := by decide +kernel
theorem dX0_init_18 : decode cX0_init 18 = .ok (.putfield 17, 3) := by decide +kernel
theorem dX0_init_21 : decode cX0_init 21 = .ok (.aload_n 0, 1) := by decide +kernel
theorem dX0_init_22 : decode cX0_init 22 = .ok (.bipush 40, 2) := by decide +kernel
theorem dX0_init_24 : decode cX0_init 24 = .ok (.newarray .int, 2) := by decide +kernel
theorem dX0_init_26 : decode cX0_init 26 = .ok (.putfield 21, 3) := by decide +kernel
theorem dX0_init_29 : decode cX0_init 29 = .ok (.aload_n 0, 1) := by decide +kernel
theorem dX0_init_30 : decode cX0_init 30 = .ok (.bipush 40, 2) := by decide +kernel
theorem dX0_init_32 : decode cX0_init 32 = .ok (.newarray .int, 2) := by decide +kernel
theorem dX0_init_34 : decode cX0_init 34 = .ok (.putfield 24, 3) := by decide +kernel
theorem dX0_init_37 : decode cX0_init 37 = .ok (.aload_n 0, 1) := by decide +kernel
theorem dX0_init_38 : decode cX0_init 38 = .ok (.bipush 40, 2) := by decide +kernel
theorem dX0_init_40 : decode cX0_init 40 = .ok (.newarray .int, 2) := by decide +kernel
theorem dX0_init_42 : decode cX0_init 42 = .ok (.putfield 27, 3) := by decide +kernel
theorem dX0_init_45 : decode cX0_init 45 = .ok (.return_, 1) := by decide +kernel
theorem dX7_init_0 : decode cX7_init 0 = .ok (.aload_n 0, 1) := by decide +kernel
theorem dX7_init_1 : decode cX7_init 1 = .ok (.invokespecial 5, 3) := by decide +kernel
theorem dX7_init_4 : decode cX7_init 4 = .ok (.aload_n 0, 1) := by decide +kernel
theorem dX7_init_5 : decode cX7_init 5 = .ok (.bipush 40, 2) := by decide +kernel
theorem dX7_init_7 : decode cX7_init 7 = .ok (.anewarray 11, 3) := by decide +kernel
theorem dX7_init_10 : decode cX7_init 10 = .ok (.putfield 13, 3) := by decide +kernel
theorem dX7_init_13 : decode cX7_init 13 = .ok (.aload_n 0, 1) := by decide +kernel
theorem dX7_init_14 : decode cX7_init 14 = .ok (.bipush 40, 2) := by decide +kernel
theorem dX7_init_16 : decode cX7_init 16 = .ok (.newarray .int, 2) := by decide +kernel
theorem dX7_init_18 : decode cX7_init 18 = .ok (.putfield 17, 3) := by decide +kernel
theorem dX7_init_21 : decode cX7_init 21 = .ok (.aload_n 0, 1) := by decide +kernel
theorem dX7_init_22 : decode cX7_init 22 = .ok (.bipush 40, 2) := by decide +kernel
theorem dX7_init_24 : decode cX7_init 24 = .ok (.newarray .int, 2) := by decide +kernel
theorem dX7_init_26 : decode cX7_init 26 = .ok (.putfield 21, 3) := by decide +kernel
theorem dX7_init_29 : decode cX7_init 29 = .ok (.return_, 1) := by decide +kernel
theorem dX1_init_0 : decode cX1_init 0 = .ok (.aload_n 0, 1) := by decide +kernel
theorem dX1_init_1 : decode cX1_init 1 = .ok (.invokespecial 3, 3) := by decide +kernel
theorem dX1_init_4 : decode cX1_init 4 = .ok (.return_, 1) := by decide +kernel
theorem dX3_init_0 : decode cX3_init 0 = .ok (.aload_n 0, 1) := by decide +kernel
theorem dX3_init_1 : decode cX3_init 1 = .ok (.invokespecial 3, 3) := by decide +kernel
theorem dX3_init_4 : decode cX3_init 4 = .ok (.aload_n 0, 1) := by decide +kernel
theorem dX3_init_5 : decode cX3_init 5 = .ok (.bipush 9, 2) := by decide +kernel
theorem dX3_init_7 : decode cX3_init 7 = .ok (.anewarray 9, 3) := by decide +kernel
theorem dX3_init_10 : decode cX3_init 10 = .ok (.putfield 11, 3) := by decide +kernel
theorem dX3_init_13 : decode cX3_init 13 = .ok (.iconst 0, 1) := by decide +kernel
theorem dX3_init_14 : decode cX3_init 14 = .ok (.istore_n 1, 1) := by decide +kernel
theorem dX3_init_15 : decode cX3_init 15 = .ok (.iload_n 1, 1) := by decide +kernel
theorem dX3_init_16 : decode cX3_init 16 = .ok (.bipush 9, 2) := by decide +kernel
theorem dX3_init_18 : decode cX3_init 18 = .ok (.if_icmp .ge 22, 3) := by decide +kernel
theorem dX3_init_21 : decode cX3_init 21 = .ok (.aload_n 0, 1) := by decide +kernel
theorem dX3_init_22 : decode cX3_init 22 = .ok (.getfield 11, 3) := by decide +kernel
theorem dX3_init_25 : decode cX3_init 25 = .ok (.iload_n 1, 1) := by decide +kernel
theorem dX3_init_26 : decode cX3_init 26 = .ok (.new 9, 3) := by decide +kernel
theorem dX3_init_29 : decode cX3_init 29 = .ok (.dup, 1) := by decide +kernel
set_option maxRecDepth 20000 in
theorem ggX3_init_X4_init : GoodIn wsX3_init wsX4_init := goodIn_r _ [10, 11, 2, 3, 12, 13, 14, 15, 16, 17, 18, 19, 20, 21, 22, 23, 24, 25, 26, 27, 28, 29, 30, 31, 32, 36, 37, 38, 39, 40, 41, 42, 43, 44, 45, 46, 47, 48, 49, 50, 51, 52, 53, 54, 55, 56, 57, 58, 59, 60, 61, 62, 63] (by decide +kernel) (by decide +kernel)
set_option maxRecDepth 20000 in
theorem gX3_init_X4_init : GoodIn wsX3_init (wsX4_init) := ggX3_init_X4_init
theorem dX3_init_30 : decode cX3_init 30 = .ok (.invokespecial 15, 3) := by decide +kernel
theorem dX3_init_33 : decode cX3_init 33 = .ok (.aastore, 1) := by decide +kernel
theorem dX3_init_34 : decode cX3_init 34 = .ok (.iinc 1 1, 3) := by decide +kernel
theorem dX3_init_37 : decode cX3_init 37 = .ok (.goto (-22), 3) := by decide +kernel
theorem dX3_init_40 : decode cX3_init 40 = .ok (.return_, 1) := by decide +kernel
theorem dJ5_init_d00df_0 : decode cJ5_init_d00df 0 = .ok (.aload_n 0, 1) := by decide +kernel
theorem dJ5_init_d00df_1 : decode cJ5_init_d00df 1 = .ok (.invokespecial 3, 3) := by decide +kernel
theorem dJ5_init_d00df_4 : decode cJ5_init_d00df 4 = .ok (.getstatic 18, 3) := by decide +kernel
theorem dJ5_init_d00df_7 : decode cJ5_init_d00df 7 = .ok (.ifCond .eq 18, 3) := by decide +kernel
theorem dJ5_init_d00df_10 : decode cJ5_init_d00df 10 = .ok (.aload_n 0, 1) := by decide +kernel
theorem dJ5_init_d00df_11 : decode cJ5_init_d00df 11 = .ok (.iload_n 1, 1) := by decide +kernel
theorem dJ5_init_d00df_12 : decode cJ5_init_d00df 12 = .ok (.newarray .byte, 2) := by decide +kernel
theorem dJ5_init_d00df_14 : decode cJ5_init_d00df 14 = .ok (.putfield 15, 3) := by decide +kernel
theorem dJ5_init_d00df_17 : decode cJ5_init_d00df 17 = .ok (.aload_n 0, 1) := by decide +kernel
theorem dJ5_init_d00df_18 : decode cJ5_init_d00df 18 = .ok (.iconst 0, 1) := by decide +kernel
theorem dJ5_init_d00df_19 : decode cJ5_init_d00df 19 = .ok (.putfield 22, 3) := by decide +kernel
theorem dJ5_init_d00df_22 : decode cJ5_init_d00df 22 = .ok (.goto 16, 3) := by decide +kernel
theorem dJ5_init_d00df_38 : decode cJ5_init_d00df 38 = .ok (.return_, 1) := by decide +kernel
theorem dJ4_init_da8c8_0 : decode cJ4_init_da8c8 0 = .ok (.aload_n 0, 1) := by decide +kernel
theorem dJ4_init_da8c8_1 : decode cJ4_init_da8c8 1 = .ok (.bipush 16, 2) := by decide +kernel
set_option maxRecDepth 20000 in
theorem ggJ4_init_da8c8_J5_init_d00df : GoodIn wsJ4_init_da8c8 wsJ5_init_d00df := goodIn_r _ [4, 5, 6, 7, 8, 9, 10, 11, 12, 13, 14, 15, 16, 17, 18, 19, 20, 21, 22, 23] (by decide +kernel) (by decide +kernel)
set_option maxRecDepth 20000 in
theorem gJ4_init_da8c8_J5_init_d00df : GoodIn wsJ4_init_da8c8 (wsJ5_init_d00df) := ggJ4_init_da8c8_J5_init_d00df
theorem dJ4_init_da8c8_3 : decode cJ4_init_da8c8 3 = .ok (.invokespecial 1, 3) := by decide +kernel
theorem dJ4_init_da8c8_6 : decode cJ4_init_da8c8 6 = .ok (.return_, 1) := by decide +kernel
theorem dX11_init_0 : decode cX11_init 0 = .ok (.aload_n 0, 1) := by decide +kernel
theorem dX11_init_1 : decode cX11_init 1 = .ok (.invokespecial 1, 3) := by decide +kernel
theorem dX11_init_4 : decode cX11_init 4 = .ok (.aload_n 0, 1) := by decide +kernel
theorem dX11_init_5 : decode cX11_init 5 = .ok (.new 7, 3) := by decide +kernel
theorem dX11_init_8 : decode cX11_init 8 = .ok (.dup, 1) := by decide +kernel
set_option maxRecDepth 20000 in
theorem ggX11_init_X8_init : GoodIn wsX11_init wsX8_init := goodIn_r _ [49, 50, 2, 3, 51, 52, 53, 54, 126, 127, 128, 129, 130, 131, 132, 133, 134, 135, 136, 137, 138, 139, 140] (by decide +kernel) (by decide +kernel)
set_option maxRecDepth 20000 in
theorem gX11_init_X8_init_n9 : GoodIn wsX11_init (wsX8_init) := ggX11_init_X8_init
theorem dX11_init_9 : decode cX11_init 9 = .ok (.invokespecial 9, 3) := by decide +kernel
theorem dX11_init_12 : decode cX11_init 12 = .ok (.putfield 10, 3) := by decide +kernel
theorem dX11_init_15 : decode cX11_init 15 = .ok (.aload_n 0, 1) := by decide +kernel
theorem dX11_init_16 : decode cX11_init 16 = .ok (.new 16, 3) := by decide +kernel
theorem dX11_init_19 : decode cX11_init 19 = .ok (.dup, 1) := by decide +kernel
set_option maxRecDepth 20000 in
theorem ggX11_init_X4_init : GoodIn wsX11_init wsX4_init := goodIn_r _ [57, 58, 2, 3, 59, 60, 38, 61, 36, 62, 63, 64, 65, 66, 67, 68, 69, 70, 71, 72, 73, 74, 75, 76, 77, 160, 161, 162, 163, 164, 165, 166, 167, 168, 169, 170, 171, 194, 195, 196, 197, 198, 199, 200, 201, 202, 203, 204, 205, 206, 207, 208, 209] (by decide +kernel) (by decide +kernel)
set_option maxRecDepth 20000 in
theorem gX11_init_X4_init : GoodIn wsX11_init (wsX4_init) := ggX11_init_X4_init
theorem dX11_init_20 : decode cX11_init 20 = .ok (.invokespecial 18, 3) := by decide +kernel
theorem dX11_init_23 : decode cX11_init 23 = .ok (.putfield 19, 3) := by decide +kernel
theorem dX11_init_26 : decode cX11_init 26 = .ok (.aload_n 0, 1) := by decide +kernel
theorem dX11_init_27 : decode cX11_init 27 = .ok (.new 16, 3) := by decide +kernel
theorem dX11_init_30 : decode cX11_init 30 = .ok (.dup, 1) := by decide +kernel
theorem dX11_init_31 : decode cX11_init 31 = .ok (.invokespecial 18, 3) := by decide +kernel
theorem dX11_init_34 : decode cX11_init 34 = .ok (.putfield 23, 3) := by decide +kernel
theorem dX11_init_37 : decode cX11_init 37 = .ok (.aload_n 0, 1) := by decide +kernel
theorem dX11_init_38 : decode cX11_init 38 = .ok (.new 26, 3) := by decide +kernel
theorem dX11_init_41 : decode cX11_init 41 = .ok (.dup, 1) := by decide +kernel
set_option maxRecDepth 20000 in
theorem ggX11_init_X5_init : GoodIn wsX11_init wsX5_init := goodIn_r _ [79, 80, 2, 3] (by decide +kernel) (by decide +kernel)
set_option maxRecDepth 20000 in
theorem gX11_init_X5_init_n28 : GoodIn wsX11_init (wsX5_init) := ggX11_init_X5_init
theorem dX11_init_42 : decode cX11_init 42 = .ok (.invokespecial 28, 3) := by decide +kernel
theorem dX11_init_45 : decode cX11_init 45 = .ok (.putfield 29, 3) := by decide +kernel
theorem dX11_init_48 : decode cX11_init 48 = .ok (.aload_n 0, 1) := by decide +kernel
theorem dX11_init_49 : decode cX11_init 49 = .ok (.new 33, 3) := by decide +kernel
theorem dX11_init_52 : decode cX11_init 52 = .ok (.dup, 1) := by decide +kernel
set_option maxRecDepth 20000 in
theorem ggX11_init_X0_init : GoodIn wsX11_init wsX0_init := goodIn_r _ [82, 83, 2, 3, 84, 85, 38, 86, 87, 88, 89, 174, 175, 176, 177, 178, 179, 180] (by decide +kernel) (by decide +kernel)
set_option maxRecDepth 20000 in
theorem gX11_init_X0_init_n35 : GoodIn wsX11_init (wsX0_init) := ggX11_init_X0_init
theorem dX11_init_53 : decode cX11_init 53 = .ok (.invokespecial 35, 3) := by decide +kernel
theorem dX11_init_56 : decode cX11_init 56 = .ok (.putfield 36, 3) := by decide +kernel
theorem dX11_init_59 : decode cX11_init 59 = .ok (.aload_n 0, 1) := by decide +kernel
theorem dX11_init_60 : decode cX11_init 60 = .ok (.new 40, 3) := by decide +kernel
theorem dX11_init_63 : decode cX11_init 63 = .ok (.dup, 1) := by decide +kernel
set_option maxRecDepth 20000 in
theorem ggX11_init_X7_init : GoodIn wsX11_init wsX7_init := goodIn_r _ [91, 92, 2, 3, 93, 94, 38, 95, 96, 181, 182, 183, 184, 185] (by decide +kernel) (by decide +kernel)
set_option maxRecDepth 20000 in
theorem gX11_init_X7_init_n42 : GoodIn wsX11_init (wsX7_init) := ggX11_init_X7_init
theorem dX11_init_64 : decode cX11_init 64 = .ok (.invokespecial 42, 3) := by decide +kernel
theorem dX11_init_67 : decode cX11_init 67 = .ok (.putfield 43, 3) := by decide +kernel
theorem dX11_init_70 : decode cX11_init 70 = .ok (.aload_n 0, 1) := by decide +kernel
theorem dX11_init_71 : decode cX11_init 71 = .ok (.new 40, 3) := by decide +kernel
theorem dX11_init_74 : decode cX11_init 74 = .ok (.dup, 1) := by decide +kernel
theorem dX11_init_75 : decode cX11_init 75 = .ok (.invokespecial 42, 3) := by decide +kernel
theorem dX11_init_78 : decode cX11_init 78 = .ok (.putfield 47, 3) := by decide +kernel
theorem dX11_init_81 : decode cX11_init 81 = .ok (.aload_n 0, 1) := by decide +kernel
theorem dX11_init_82 : decode cX11_init 82 = .ok (.new 50, 3) := by decide +kernel
theorem dX11_init_85 : decode cX11_init 85 = .ok (.dup, 1) := by decide +kernel
set_option maxRecDepth 20000 in
theorem ggX11_init_X1_init : GoodIn wsX11_init wsX1_init := goodIn_r _ [98, 99, 2, 3] (by decide +kernel) (by decide +kernel)
set_option maxRecDepth 20000 in
theorem gX11_init_X1_init_n52 : GoodIn wsX11_init (wsX1_init) := ggX11_init_X1_init
theorem dX11_init_86 : decode cX11_init 86 = .ok (.invokespecial 52, 3) := by decide +kernel
theorem dX11_init_89 : decode cX11_init 89 = .ok (.putfield 53, 3) := by decide +kernel
theorem dX11_init_92 : decode cX11_init 92 = .ok (.aload_n 0, 1) := by decide +kernel
theorem dX11_init_93 : decode cX11_init 93 = .ok (.new 57, 3) := by decide +kernel
theorem dX11_init_96 : decode cX11_init 96 = .ok (.dup, 1) := by decide +kernel
set_option maxRecDepth 20000 in
theorem ggX11_init_X3_init : GoodIn wsX11_init wsX3_init := goodIn_r _ [102, 103, 2, 3, 104, 105, 9, 10, 106, 56, 57, 58, 59, 60, 38, 61, 36, 62, 63, 64, 65, 66, 67, 68, 69, 70, 71, 72, 73, 74, 75, 76, 77, 187, 188, 189, 160, 161, 162, 163, 164, 165, 166, 167, 168, 169, 170, 171, 194, 195, 196, 197, 198, 199, 200, 201, 202, 203, 204, 205, 206, 207, 208, 209] (by decide +kernel) (by decide +kernel)
set_option maxRecDepth 20000 in
theorem gX11_init_X3_init : GoodIn wsX11_init (wsX3_init) := ggX11_init_X3_init
theorem dX11_init_97 : decode cX11_init 97 = .ok (.invokespecial 59, 3) := by decide +kernel
theorem dX11_init_100 : decode cX11_init 100 = .ok (.putfield 60, 3) := by decide +kernel
theorem dX11_init_103 : decode cX11_init 103 = .ok (.aload_n 0, 1) := by decide +kernel
theorem dX11_init_104 : decode cX11_init 104 = .ok (.iconst 2, 1) := by decide +kernel
theorem dX11_init_105 : decode cX11_init 105 = .ok (.anewarray 16, 3) := by decide +kernel
theorem dX11_init_108 : decode cX11_init 108 = .ok (.putfield 64, 3) := by decide +kernel
theorem dX11_init_111 : decode cX11_init 111 = .ok (.aload_n 0, 1) := by decide +kernel
theorem dX11_init_112 : decode cX11_init 112 = .ok (.iconst 2, 1) := by decide +kernel
theorem dX11_init_113 : decode cX11_init 113 = .ok (.anewarray 40, 3) := by decide +kernel
theorem dX11_init_116 : decode cX11_init 116 = .ok (.putfield 68, 3) := by decide +kernel
theorem dX11_init_119 : decode cX11_init 119 = .ok (.aload_n 0, 1) := by decide +kernel
theorem dX11_init_120 : decode cX11_init 120 = .ok (.iconst 2, 1) := by decide +kernel
theorem dX11_init_121 : decode cX11_init 121 = .ok (.newarray .boolean, 2) := by decide +kernel
theorem dX11_init_123 : decode cX11_init 123 = .ok (.putfield 72, 3) := by decide +kernel
theorem dX11_init_126 : decode cX11_init 126 = .ok (.iconst 0, 1) := by decide +kernel
theorem dX11_init_127 : decode cX11_init 127 = .ok (.istore_n 1, 1) := by decide +kernel
theorem dX11_init_128 : decode cX11_init 128 = .ok (.iload_n 1, 1) := by decide +kernel
theorem dX11_init_129 : decode cX11_init 129 = .ok (.iconst 2, 1) := by decide +kernel
theorem dX11_init_130 : decode cX11_init 130 = .ok (.if_icmp .ge 35, 3) := by decide +kernel
theorem dX11_init_133 : decode cX11_init 133 = .ok (.aload_n 0, 1) := by decide +kernel
theorem dX11_init_134 : decode cX11_init 134 = .ok (.getfield 64, 3) := by decide +kernel
theorem dX11_init_137 : decode cX11_init 137 = .ok (.iload_n 1, 1) := by decide +kernel
theorem dX11_init_138 : decode cX11_init 138 = .ok (.new 16, 3) := by decide +kernel
theorem dX11_init_141 : decode cX11_init 141 = .ok (.dup, 1) := by decide +kernel
theorem dX11_init_142 : decode cX11_init 142 = .ok (.invokespecial 18, 3) := by decide +kernel
theorem dX11_init_145 : decode cX11_init 145 = .ok (.aastore, 1) := by decide +kernel
theorem dX11_init_146 : decode cX11_init 146 = .ok (.aload_n 0, 1) := by decide +kernel
theorem dX11_init_147 : decode cX11_init 147 = .ok (.getfield 68, 3) := by decide +kernel
theorem dX11_init_150 : decode cX11_init 150 = .ok (.iload_n 1, 1) := by decide +kernel
theorem dX11_init_151 : decode cX11_init 151 = .ok (.new 40, 3) := by decide +kernel
theorem dX11_init_154 : decode cX11_init 154 = .ok (.dup, 1) := by decide +kernel
theorem dX11_init_155 : decode cX11_init 155 = .ok (.invokespecial 42, 3) := by decide +kernel
theorem dX11_init_158 : decode cX11_init 158 = .ok (.aastore, 1) := by decide +kernel
theorem dX11_init_159 : decode cX11_init 159 = .ok (.iinc 1 1, 3) := by decide +kernel
theorem dX11_init_162 : decode cX11_init 162 = .ok (.goto (-34), 3) := by decide +kernel
theorem dX11_init_165 : decode cX11_init 165 = .ok (.aload_n 0, 1) := by decide +kernel
theorem dX11_init_166 : decode cX11_init 166 = .ok (.bipush 8, 2) := by decide +kernel
theorem dX11_init_168 : decode cX11_init 168 = .ok (.newarray .int, 2) := by decide +kernel
theorem dX11_init_170 : decode cX11_init 170 = .ok (.putfield 76, 3) := by decide +kernel
theorem dX11_init_173 : decode cX11_init 173 = .ok (.iconst 0, 1) := by decide +kernel
theorem dX11_init_174 : decode cX11_init 174 = .ok (.istore_n 1, 1) := by decide +kernel
theorem dX11_init_175 : decode cX11_init 175 = .ok (.iload_n 1, 1) := by decide +kernel
theorem dX11_init_176 : decode cX11_init 176 = .ok (.bipush 8, 2) := by decide +kernel
theorem dX11_init_178 : decode cX11_init 178 = .ok (.if_icmp .ge 16, 3) := by decide +kernel
theorem dX11_init_181 : decode cX11_init 181 = .ok (.aload_n 0, 1) := by decide +kernel
theorem dX11_init_182 : decode cX11_init 182 = .ok (.getfield 76, 3) := by decide +kernel
theorem dX11_init_185 : decode cX11_init 185 = .ok (.iload_n 1, 1) := by decide +kernel
theorem dX11_init_186 : decode cX11_init 186 = .ok (.iconst (-1), 1) := by decide +kernel
theorem dX11_init_187 : decode cX11_init 187 = .ok (.iastore, 1) := by decide +kernel
theorem dX11_init_188 : decode cX11_init 188 = .ok (.iinc 1 1, 3) := by decide +kernel
theorem dX11_init_191 : decode cX11_init 191 = .ok (.goto (-16), 3) := by decide +kernel
theorem dX11_init_194 : decode cX11_init 194 = .ok (.aload_n 0, 1) := by decide +kernel
theorem dX11_init_195 : decode cX11_init 195 = .ok (.iconst 4, 1) := by decide +kernel
theorem dX11_init_196 : decode cX11_init 196 = .ok (.newarray .int, 2) := by decide +kernel
theorem dX11_init_198 : decode cX11_init 198 = .ok (.putfield 80, 3) := by decide +kernel
theorem dX11_init_201 : decode cX11_init 201 = .ok (.iconst 0, 1) := by decide +kernel
theorem dX11_init_202 : decode cX11_init 202 = .ok (.istore_n 1, 1) := by decide +kernel
theorem dX11_init_203 : decode cX11_init 203 = .ok (.iload_n 1, 1) := by decide +kernel
theorem dX11_init_204 : decode cX11_init 204 = .ok (.iconst 4, 1) := by decide +kernel
theorem dX11_init_205 : decode cX11_init 205 = .ok (.if_icmp .ge 16, 3) := by decide +kernel
theorem dX11_init_208 : decode cX11_init 208 = .ok (.aload_n 0, 1) := by decide +kernel
theorem dX11_init_209 : decode cX11_init 209 = .ok (.getfield 80, 3) := by decide +kernel
theorem dX11_init_212 : decode cX11_init 212 = .ok (.iload_n 1, 1) := by decide +kernel
theorem dX11_init_213 : decode cX11_init 213 = .ok (.iconst (-1), 1) := by decide +kernel
theorem dX11_init_214 : decode cX11_init 214 = .ok (.iastore, 1) := by decide +kernel
theorem dX11_init_215 : decode cX11_init 215 = .ok (.iinc 1 1, 3) := by decide +kernel
theorem dX11_init_218 : decode cX11_init 218 = .ok (.goto (-15), 3) := by decide +kernel
theorem dX11_init_221 : decode cX11_init 221 = .ok (.aload_n 0, 1) := by decide +kernel
theorem dX11_init_222 : decode cX11_init 222 = .ok (.new 83, 3) := by decide +kernel
theorem dX11_init_225 : decode cX11_init 225 = .ok (.dup, 1) := by decide +kernel
set_option maxRecDepth 20000 in
theorem ggX11_init_J4_init_da8c8 : GoodIn wsX11_init wsJ4_init_da8c8 := goodIn_r _ [109, 110, 111, 112, 113, 114, 2, 3, 115, 51, 116, 117, 118, 119, 120, 121, 122, 123, 124, 125, 190, 191, 192, 193] (by decide +kernel) (by decide +kernel)
set_option maxRecDepth 20000 in
theorem gX11_init_J4_init_da8c8 : GoodIn wsX11_init (wsJ4_init_da8c8) := ggX11_init_J4_init_da8c8
theorem dX11_init_226 : decode cX11_init 226 = .ok (.invokespecial 85, 3) := by decide +kernel
theorem dX11_init_229 : decode cX11_init 229 = .ok (.putfield 86, 3) := by decide +kernel
theorem dX11_init_232 : decode cX11_init 232 = .ok (.aload_n 0, 1) := by decide +kernel
theorem dX11_init_233 : decode cX11_init 233 = .ok (.iconst (-1), 1) := by decide +kernel
theorem dX11_init_234 : decode cX11_init 234 = .ok (.putfield 90, 3) := by decide +kernel
theorem dX11_init_237 : decode cX11_init 237 = .ok (.aload_n 0, 1) := by decide +kernel
theorem dX11_init_238 : decode cX11_init 238 = .ok (.iconst (-1), 1) := by decide +kernel
theorem dX11_init_239 : decode cX11_init 239 = .ok (.putfield 94, 3) := by decide +kernel
theorem dX11_init_242 : decode cX11_init 242 = .ok (.aload_n 0, 1) := by decide +kernel
theorem dX11_init_243 : decode cX11_init 243 = .ok (.iconst (-1), 1) := by decide +kernel
theorem dX11_init_244 : decode cX11_init 244 = .ok (.putfield 97, 3) := by decide +kernel
theorem dX11_init_247 : decode cX11_init 247 = .ok (.return_, 1) := by decide +kernel
theorem dX8_append_0 : decode cX8_append 0 = .ok (.bipush 24, 2) := by decide +kernel
theorem dX8_append_2 : decode cX8_append 2 = .ok (.istore_n 2, 1) := by decide +kernel
theorem dX8_append_3 : decode cX8_append 3 = .ok (.iload_n 2, 1) := by decide +kernel
theorem dX8_append_4 : decode cX8_append 4 = .ok (.ifCond .lt 42, 3) := by decide +kernel
theorem dX8_append_7 : decode cX8_append 7 = .ok (.aload_n 0, 1) := by decide +kernel
theorem dX8_append_8 : decode cX8_append 8 = .ok (.getfield 24, 3) := by decide +kernel
theorem dX8_append_11 : decode cX8_append 11 = .ok (.sipush 940, 3) := by decide +kernel
theorem dX8_append_14 : decode cX8_append 14 = .ok (.if_icmp .ge 32, 3) := by decide +kernel
theorem dX8_append_17 : decode cX8_append 17 = .ok (.aload_n 0, 1) := by decide +kernel
theorem dX8_append_18 : decode cX8_append 18 = .ok (.getfield 9, 3) := by decide +kernel
theorem dX8_append_21 : decode cX8_append 21 = .ok (.aload_n 0, 1) := by decide +kernel
theorem dX8_append_22 : decode cX8_append 22 = .ok (.getfield 24, 3) := by decide +kernel
theorem dX8_append_25 : decode cX8_append 25 = .ok (.iload_n 1, 1) := by decide +kernel
theorem dX8_append_26 : decode cX8_append 26 = .ok (.iload_n 2, 1) := by decide +kernel
theorem dX8_append_27 : decode cX8_append 27 = .ok (.iushr, 1) := by decide +kernel
theorem dX8_append_28 : decode cX8_append 28 = .ok (.i2b, 1) := by decide +kernel
theorem dX8_append_29 : decode cX8_append 29 = .ok (.bastore, 1) := by decide +kernel
theorem dX8_append_30 : decode cX8_append 30 = .ok (.aload_n 0, 1) := by decide +kernel
theorem dX8_append_31 : decode cX8_append 31 = .ok (.dup, 1) := by decide +kernel
theorem dX8_append_32 : decode cX8_append 32 = .ok (.getfield 24, 3) := by decide +kernel
theorem dX8_append_35 : decode cX8_append 35 = .ok (.iconst 1, 1) := by decide +kernel
theorem dX8_append_36 : decode cX8_append 36 = .ok (.iadd, 1) := by decide +kernel
theorem dX8_append_37 : decode cX8_append 37 = .ok (.putfield 24, 3) := by decide +kernel
theorem dX8_append_40 : decode cX8_append 40 = .ok (.iinc 2 (-8), 3) := by decide +kernel
theorem dX8_append_43 : decode cX8_append 43 = .ok (.goto (-40), 3) := by decide +kernel
theorem dX8_append_46 : decode cX8_append 46 = .ok (.return_, 1) := by decide +kernel
theorem dX11_feed_0 : decode cX11_feed 0 = .ok (.aload_n 0, 1) := by decide +kernel
theorem dX11_feed_1 : decode cX11_feed 1 = .ok (.getfield 10, 3) := by decide +kernel
theorem dX11_feed_4 : decode cX11_feed 4 = .ok (.getfield 100, 3) := by decide +kernel
theorem dX11_feed_7 : decode cX11_feed 7 = .ok (.bipush 20, 2) := by decide +kernel
theorem dX11_feed_9 : decode cX11_feed 9 = .ok (.iadd, 1) := by decide +kernel
theorem dX11_feed_10 : decode cX11_feed 10 = .ok (.sipush 940, 3) := by decide +kernel
theorem dX11_feed_13 : decode cX11_feed 13 = .ok (.if_icmp .le 5, 3) := by decide +kernel
theorem dX11_feed_18 : decode cX11_feed 18 = .ok (.aload_n 0, 1) := by decide +kernel
theorem dX11_feed_19 : decode cX11_feed 19 = .ok (.getfield 10, 3) := by decide +kernel
theorem dX11_feed_22 : decode cX11_feed 22 = .ok (.iload_n 1, 1) := by decide +kernel
set_option maxRecDepth 20000 in
theorem ggX11_feed_X8_append : GoodIn wsX11_feed wsX8_append := goodIn_r _ [6, 7, 8, 28, 29, 30, 31, 32, 33, 34, 35, 36, 37, 38, 39, 40, 41, 42] (by decide +kernel) (by decide +kernel)
set_option maxRecDepth 20000 in
theorem gX11_feed_X8_append : GoodIn wsX11_feed (wsV RX11 103 RX8 yX8_append wsX8_append) := goodIn_app (goodIn_of _ (by decide +kernel)) ggX11_feed_X8_append
theorem dX11_feed_23 : decode cX11_feed 23 = .ok (.invokevirtual 103, 3) := by decide +kernel
theorem dX11_feed_26 : decode cX11_feed 26 = .ok (.aload_n 0, 1) := by decide +kernel
theorem dX11_feed_27 : decode cX11_feed 27 = .ok (.getfield 10, 3) := by decide +kernel
theorem dX11_feed_30 : decode cX11_feed 30 = .ok (.iload_n 2, 1) := by decide +kernel
theorem dX11_feed_31 : decode cX11_feed 31 = .ok (.invokevirtual 103, 3) := by decide +kernel
theorem dX11_feed_34 : decode cX11_feed 34 = .ok (.aload_n 0, 1) := by decide +kernel
theorem dX11_feed_35 : decode cX11_feed 35 = .ok (.getfield 10, 3) := by decide +kernel
theorem dX11_feed_38 : decode cX11_feed 38 = .ok (.iload_n 3, 1) := by decide +kernel
theorem dX11_feed_39 : decode cX11_feed 39 = .ok (.invokevirtual 103, 3) := by decide +kernel
theorem dX11_feed_42 : decode cX11_feed 42 = .ok (.aload_n 0, 1) := by decide +kernel
theorem dX11_feed_43 : decode cX11_feed 43 = .ok (.getfield 10, 3) := by decide +kernel
theorem dX11_feed_46 : decode cX11_feed 46 = .ok (.iload 4, 2) := by decide +kernel
theorem dX11_feed_48 : decode cX11_feed 48 = .ok (.invokevirtual 103, 3) := by decide +kernel
theorem dX11_feed_51 : decode cX11_feed 51 = .ok (.aload_n 0, 1) := by decide +kernel
theorem dX11_feed_52 : decode cX11_feed 52 = .ok (.getfield 10, 3) := by decide +kernel
theorem dX11_feed_55 : decode cX11_feed 55 = .ok (.iload 5, 2) := by decide +kernel
theorem dX11_feed_57 : decode cX11_feed 57 = .ok (.invokevirtual 103, 3) := by decide +kernel
theorem dX11_feed_60 : decode cX11_feed 60 = .ok (.aload_n 0, 1) := by decide +kernel
theorem dX11_feed_61 : decode cX11_feed 61 = .ok (.getfield 10, 3) := by decide +kernel
theorem dX11_feed_64 : decode cX11_feed 64 = .ok (.getfield 100, 3) := by decide +kernel
theorem dX11_feed_67 : decode cX11_feed 67 = .ok (.ireturn, 1) := by decide +kernel
theorem dX11_end_0 : decode cX11_end 0 = .ok (.iload_n 1, 1) := by decide +kernel
theorem dX11_end_1 : decode cX11_end 1 = .ok (.ifCond .lt 14, 3) := by decide +kernel
theorem dX11_end_4 : decode cX11_end 4 = .ok (.iload_n 1, 1) := by decide +kernel
theorem dX11_end_5 : decode cX11_end 5 = .ok (.aload_n 0, 1) := by decide +kernel
theorem dX11_end_6 : decode cX11_end 6 = .ok (.getfield 10, 3) := by decide +kernel
theorem dX11_end_9 : decode cX11_end 9 = .ok (.getfield 100, 3) := by decide +kernel
theorem dX11_end_12 : decode cX11_end 12 = .ok (.if_icmp .le 5, 3) := by decide +kernel
theorem dX11_end_17 : decode cX11_end 17 = .ok (.aload_n 0, 1) := by decide +kernel
theorem dX11_end_18 : decode cX11_end 18 = .ok (.getfield 10, 3) := by decide +kernel
theorem dX11_end_21 : decode cX11_end 21 = .ok (.iload_n 1, 1) := by decide +kernel
theorem dX11_end_22 : decode cX11_end 22 = .ok (.putfield 100, 3) := by decide +kernel
theorem dX11_end_25 : decode cX11_end 25 = .ok (.iconst 1, 1) := by decide +kernel
theorem dX11_end_26 : decode cX11_end 26 = .ok (.ireturn, 1) := by decide +kernel
theorem dX11_end_15 : decode cX11_end 15 = .ok (.iconst 0, 1) := by decide +kernel
theorem dX11_end_16 : decode cX11_end 16 = .ok (.ireturn, 1) := by decide +kernel
theorem dX8_step_0 : decode cX8_step 0 = .ok (.aload_n 0, 1) := by decide +kernel
theorem dX8_step_1 : decode cX8_step 1 = .ok (.getstatic 15, 3) := by decide +kernel
theorem dX8_step_4 : decode cX8_step 4 = .ok (.putfield 21, 3) := by decide +kernel
theorem dX8_step_7 : decode cX8_step 7 = .ok (.aload_n 0, 1) := by decide +kernel
theorem dX8_step_8 : decode cX8_step 8 = .ok (.getfield 31, 3) := by decide +kernel
theorem dX8_step_11 : decode cX8_step 11 = .ok (.aload_n 0, 1) := by decide +kernel
theorem dX8_step_12 : decode cX8_step 12 = .ok (.getfield 24, 3) := by decide +kernel
theorem dX8_step_15 : decode cX8_step 15 = .ok (.if_icmp .ge 44, 3) := by decide +kernel
theorem dX8_step_59 : decode cX8_step 59 = .ok (.aload_n 0, 1) := by decide +kernel
theorem dX8_step_60 : decode cX8_step 60 = .ok (.aload_n 0, 1) := by decide +kernel
theorem dX8_step_61 : decode cX8_step 61 = .ok (.getfield 31, 3) := by decide +kernel
theorem dX8_step_64 : decode cX8_step 64 = .ok (.putfield 43, 3) := by decide +kernel
theorem dX8_step_67 : decode cX8_step 67 = .ok (.aload_n 0, 1) := by decide +kernel
theorem dX8_step_68 : decode cX8_step 68 = .ok (.getfield 24, 3) := by decide +kernel
theorem dX8_step_71 : decode cX8_step 71 = .ok (.aload_n 0, 1) := by decide +kernel
theorem dX8_step_72 : decode cX8_step 72 = .ok (.getfield 28, 3) := by decide +kernel
theorem dX8_step_75 : decode cX8_step 75 = .ok (.if_icmp .le 30, 3) := by decide +kernel
theorem dX8_step_105 : decode cX8_step 105 = .ok (.aload_n 0, 1) := by decide +kernel
theorem dX8_step_106 : decode cX8_step 106 = .ok (.getfield 31, 3) := by decide +kernel
theorem dX8_step_109 : decode cX8_step 109 = .ok (.aload_n 0, 1) := by decide +kernel
theorem dX8_step_110 : decode cX8_step 110 = .ok (.getfield 24, 3) := by decide +kernel
theorem dX8_step_113 : decode cX8_step 113 = .ok (.if_icmp .lt 11, 3) := by decide +kernel
theorem dX8_step_116 : decode cX8_step 116 = .ok (.aload_n 0, 1) := by decide +kernel
theorem dX8_step_117 : decode cX8_step 117 = .ok (.iconst 3, 1) := by decide +kernel
theorem dX8_step_118 : decode cX8_step 118 = .ok (.putfield 46, 3) := by decide +kernel
theorem dX8_step_121 : decode cX8_step 121 = .ok (.goto 114, 3) := by decide +kernel
theorem dX8_step_235 : decode cX8_step 235 = .ok (.return_, 1) := by decide +kernel
theorem dX8_open_0 : decode cX8_open 0 = .ok (.aload_n 0, 1) := by decide +kernel
theorem dX8_open_1 : decode cX8_open 1 = .ok (.iload_n 1, 1) := by decide +kernel
theorem dX8_open_2 : decode cX8_open 2 = .ok (.putfield 28, 3) := by decide +kernel
theorem dX8_open_5 : decode cX8_open 5 = .ok (.aload_n 0, 1) := by decide +kernel
theorem dX8_open_6 : decode cX8_open 6 = .ok (.iconst 0, 1) := by decide +kernel
theorem dX8_open_7 : decode cX8_open 7 = .ok (.putfield 31, 3) := by decide +kernel
theorem dX8_open_10 : decode cX8_open 10 = .ok (.aload_n 0, 1) := by decide +kernel
theorem dX8_open_11 : decode cX8_open 11 = .ok (.iconst 0, 1) := by decide +kernel
theorem dX8_open_12 : decode cX8_open 12 = .ok (.putfield 34, 3) := by decide +kernel
theorem dX8_open_15 : decode cX8_open 15 = .ok (.aload_n 0, 1) := by decide +kernel
theorem dX8_open_16 : decode cX8_open 16 = .ok (.iconst 0, 1) := by decide +kernel
theorem dX8_open_17 : decode cX8_open 17 = .ok (.putfield 37, 3) := by decide +kernel
theorem dX8_open_20 : decode cX8_open 20 = .ok (.aload_n 0, 1) := by decide +kernel
set_option maxRecDepth 20000 in
theorem ggX8_open_X8_step : GoodIn wsX8_open wsX8_step := goodIn_r _ [9, 10, 11, 2, 12, 13, 14, 1, 15, 16, 17, 18, 8, 19, 20, 21, 22, 23, 24, 25, 26, 27, 28, 29, 30, 31, 32, 33, 34, 35, 36, 37, 38, 39, 40, 41, 42, 43, 44, 45, 46, 47, 48, 49, 50, 51, 52, 53, 54, 55, 56, 57, 58, 59, 60, 61, 62, 63, 64, 65, 66, 67, 68, 69, 70, 71, 72, 73, 74, 75, 76, 77, 78, 79, 80, 81, 82, 83, 84, 85, 86, 87, 88, 89, 90, 91, 92, 93, 94, 95, 96, 97, 98, 99, 100, 101] (by decide +kernel) (by decide +kernel)
set_option maxRecDepth 20000 in
theorem gX8_open_X8_step : GoodIn wsX8_open (wsV RX8 40 RX8 yX8_step wsX8_step) := goodIn_app (goodIn_of _ (by decide +kernel)) ggX8_open_X8_step
theorem dX8_open_21 : decode cX8_open 21 = .ok (.invokevirtual 40, 3) := by decide +kernel
theorem dX8_open_24 : decode cX8_open 24 = .ok (.return_, 1) := by decide +kernel
theorem dX4_clear_0 : decode cX4_clear 0 = .ok (.aload_n 0, 1) := by decide +kernel
theorem dX4_clear_1 : decode cX4_clear 1 = .ok (.iconst 0, 1) := by decide +kernel
theorem dX4_clear_2 : decode cX4_clear 2 = .ok (.putfield 41, 3) := by decide +kernel
theorem dX4_clear_5 : decode cX4_clear 5 = .ok (.aload_n 0, 1) := by decide +kernel
theorem dX4_clear_6 : decode cX4_clear 6 = .ok (.iconst 0, 1) := by decide +kernel
theorem dX4_clear_7 : decode cX4_clear 7 = .ok (.putfield 44, 3) := by decide +kernel
theorem dX4_clear_10 : decode cX4_clear 10 = .ok (.aload_n 0, 1) := by decide +kernel
theorem dX4_clear_11 : decode cX4_clear 11 = .ok (.iconst 0, 1) := by decide +kernel
theorem dX4_clear_12 : decode cX4_clear 12 = .ok (.putfield 47, 3) := by decide +kernel
theorem dX4_clear_15 : decode cX4_clear 15 = .ok (.aload_n 0, 1) := by decide +kernel
theorem dX4_clear_16 : decode cX4_clear 16 = .ok (.iconst 2, 1) := by decide +kernel
theorem dX4_clear_17 : decode cX4_clear 17 = .ok (.putfield 37, 3) := by decide +kernel
theorem dX4_clear_20 : decode cX4_clear 20 = .ok (.aload_n 0, 1) := by decide +kernel
theorem dX4_clear_21 : decode cX4_clear 21 = .ok (.iconst 0, 1) := by decide +kernel
theorem dX4_clear_22 : decode cX4_clear 22 = .ok (.putfield 50, 3) := by decide +kernel
theorem dX4_clear_25 : decode cX4_clear 25 = .ok (.aload_n 0, 1) := by decide +kernel
theorem dX4_clear_26 : decode cX4_clear 26 = .ok (.iconst 0, 1) := by decide +kernel
theorem dX4_clear_27 : decode cX4_clear 27 = .ok (.putfield 53, 3) := by decide +kernel
theorem dX4_clear_30 : decode cX4_clear 30 = .ok (.aload_n 0, 1) := by decide +kernel
theorem dX4_clear_31 : decode cX4_clear 31 = .ok (.iconst 0, 1) := by decide +kernel
theorem dX4_clear_32 : decode cX4_clear 32 = .ok (.putfield 56, 3) := by decide +kernel
theorem dX4_clear_35 : decode cX4_clear 35 = .ok (.return_, 1) := by decide +kernel
theorem dX5_readAll_0 : decode cX5_readAll 0 = .ok (.aload_n 2, 1) := by decide +kernel
set_option maxRecDepth 20000 in
theorem ggX5_readAll_X4_clear : GoodIn wsX5_readAll wsX4_clear := goodIn_r _ [12, 13, 14, 15, 16, 17, 18, 19, 205, 206, 207, 208, 209, 210, 211, 212, 213, 214, 215, 216] (by decide +kernel) (by decide +kernel)
set_option maxRecDepth 20000 in
theorem gX5_readAll_X4_clear : GoodIn wsX5_readAll (wsV RX5 9 RX4 yX4_clear wsX4_clear) := goodIn_app (goodIn_of _ (by decide +kernel)) ggX5_readAll_X4_clear
theorem dX5_readAll_1 : decode cX5_readAll 1 = .ok (.invokevirtual 9, 3) := by decide +kernel
theorem dX5_readAll_4 : decode cX5_readAll 4 = .ok (.aload_n 0, 1) := by decide +kernel
theorem dX5_readAll_5 : decode cX5_readAll 5 = .ok (.iconst 0, 1) := by decide +kernel
theorem dX5_readAll_6 : decode cX5_readAll 6 = .ok (.putfield 14, 3) := by decide +kernel
theorem dX5_readAll_9 : decode cX5_readAll 9 = .ok (.aload_n 0, 1) := by decide +kernel
theorem dX5_readAll_10 : decode cX5_readAll 10 = .ok (.iconst 0, 1) := by decide +kernel
theorem dX5_readAll_11 : decode cX5_readAll 11 = .ok (.putfield 20, 3) := by decide +kernel
theorem dX5_readAll_14 : decode cX5_readAll 14 = .ok (.iconst 0, 1) := by decide +kernel
theorem dX5_readAll_15 : decode cX5_readAll 15 = .ok (.istore_n 3, 1) := by decide +kernel
theorem dX5_readAll_16 : decode cX5_readAll 16 = .ok (.iconst 1, 1) := by decide +kernel
theorem dX5_readAll_17 : decode cX5_readAll 17 = .ok (.istore 4, 2) := by decide +kernel
theorem dX5_readAll_19 : decode cX5_readAll 19 = .ok (.iload 4, 2) := by decide +kernel
theorem dX5_readAll_21 : decode cX5_readAll 21 = .ok (.ifCond .eq 136, 3) := by decide +kernel
theorem dX5_readAll_24 : decode cX5_readAll 24 = .ok (.iload_n 3, 1) := by decide +kernel
theorem dX5_readAll_25 : decode cX5_readAll 25 = .ok (.sipush 900, 3) := by decide +kernel
theorem dX5_readAll_28 : decode cX5_readAll 28 = .ok (.if_icmp .ge 129, 3) := by decide +kernel
theorem dX5_readAll_31 : decode cX5_readAll 31 = .ok (.aload_n 1, 1) := by decide +kernel
theorem dX5_readAll_32 : decode cX5_readAll 32 = .ok (.getfield 24, 3) := by decide +kernel
theorem dX5_readAll_35 : decode cX5_readAll 35 = .ok (.iconst 3, 1) := by decide +kernel
theorem dX5_readAll_36 : decode cX5_readAll 36 = .ok (.if_icmp .eq 121, 3) := by decide +kernel
theorem dX5_readAll_157 : decode cX5_readAll 157 = .ok (.iload_n 3, 1) := by decide +kernel
theorem dX5_readAll_158 : decode cX5_readAll 158 = .ok (.ireturn, 1) := by decide +kernel
theorem dX11_closeTape_0 : decode cX11_closeTape 0 = .ok (.aload_n 0, 1) := by decide +kernel
theorem dX11_closeTape_1 : decode cX11_closeTape 1 = .ok (.aload_n 0, 1) := by decide +kernel
theorem dX11_closeTape_2 : decode cX11_closeTape 2 = .ok (.getfield 10, 3) := by decide +kernel
theorem dX11_closeTape_5 : decode cX11_closeTape 5 = .ok (.getfield 380, 3) := by decide +kernel
theorem dX11_closeTape_8 : decode cX11_closeTape 8 = .ok (.putfield 117, 3) := by decide +kernel
theorem dX11_closeTape_11 : decode cX11_closeTape 11 = .ok (.aload_n 0, 1) := by decide +kernel
theorem dX11_closeTape_12 : decode cX11_closeTape 12 = .ok (.getfield 10, 3) := by decide +kernel
theorem dX11_closeTape_15 : decode cX11_closeTape 15 = .ok (.iconst 0, 1) := by decide +kernel
theorem dX11_closeTape_16 : decode cX11_closeTape 16 = .ok (.putfield 100, 3) := by decide +kernel
theorem dX11_closeTape_19 : decode cX11_closeTape 19 = .ok (.return_, 1) := by decide +kernel
theorem dX4_copyFrom_0 : decode cX4_copyFrom 0 = .ok (.aload_n 0, 1) := by decide +kernel
theorem dX4_copyFrom_1 : decode cX4_copyFrom 1 = .ok (.aload_n 1, 1) := by decide +kernel
theorem dX4_copyFrom_2 : decode cX4_copyFrom 2 = .ok (.getfield 41, 3) := by decide +kernel
theorem dX4_copyFrom_5 : decode cX4_copyFrom 5 = .ok (.putfield 41, 3) := by decide +kernel
theorem dX4_copyFrom_8 : decode cX4_copyFrom 8 = .ok (.aload_n 0, 1) := by decide +kernel
theorem dX4_copyFrom_9 : decode cX4_copyFrom 9 = .ok (.aload_n 1, 1) := by decide +kernel
theorem dX4_copyFrom_10 : decode cX4_copyFrom 10 = .ok (.getfield 44, 3) := by decide +kernel
theorem dX4_copyFrom_13 : decode cX4_copyFrom 13 = .ok (.putfield 44, 3) := by decide +kernel
theorem dX4_copyFrom_16 : decode cX4_copyFrom 16 = .ok (.aload_n 0, 1) := by decide +kernel
theorem dX4_copyFrom_17 : decode cX4_copyFrom 17 = .ok (.aload_n 1, 1) := by decide +kernel
theorem dX4_copyFrom_18 : decode cX4_copyFrom 18 = .ok (.getfield 47, 3) := by decide +kernel
theorem dX4_copyFrom_21 : decode cX4_copyFrom 21 = .ok (.putfield 47, 3) := by decide +kernel
theorem dX4_copyFrom_24 : decode cX4_copyFrom 24 = .ok (.aload_n 0, 1) := by decide +kernel
theorem dX4_copyFrom_25 : decode cX4_copyFrom 25 = .ok (.aload_n 1, 1) := by decide +kernel
theorem dX4_copyFrom_26 : decode cX4_copyFrom 26 = .ok (.getfield 37, 3) := by decide +kernel
theorem dX4_copyFrom_29 : decode cX4_copyFrom 29 = .ok (.putfield 37, 3) := by decide +kernel
theorem dX4_copyFrom_32 : decode cX4_copyFrom 32 = .ok (.aload_n 0, 1) := by decide +kernel
theorem dX4_copyFrom_33 : decode cX4_copyFrom 33 = .ok (.aload_n 1, 1) := by decide +kernel
theorem dX4_copyFrom_34 : decode cX4_copyFrom 34 = .ok (.getfield 50, 3) := by decide +kernel
theorem dX4_copyFrom_37 : decode cX4_copyFrom 37 = .ok (.putfield 50, 3) := by decide +kernel
theorem dX4_copyFrom_40 : decode cX4_copyFrom 40 = .ok (.aload_n 0, 1) := by decide +kernel
theorem dX4_copyFrom_41 : decode cX4_copyFrom 41 = .ok (.aload_n 1, 1) := by decide +kernel
theorem dX4_copyFrom_42 : decode cX4_copyFrom 42 = .ok (.getfield 53, 3) := by decide +kernel
theorem dX4_copyFrom_45 : decode cX4_copyFrom 45 = .ok (.putfield 53, 3) := by decide +kernel
theorem dX4_copyFrom_48 : decode cX4_copyFrom 48 = .ok (.aload_n 0, 1) := by decide +kernel
theorem dX4_copyFrom_49 : decode cX4_copyFrom 49 = .ok (.aload_n 1, 1) := by decide +kernel
theorem dX4_copyFrom_50 : decode cX4_copyFrom 50 = .ok (.getfield 56, 3) := by decide +kernel
theorem dX4_copyFrom_53 : decode cX4_copyFrom 53 = .ok (.putfield 56, 3) := by decide +kernel
theorem dX4_copyFrom_56 : decode cX4_copyFrom 56 = .ok (.iconst 0, 1) := by decide +kernel
theorem dX4_copyFrom_57 : decode cX4_copyFrom 57 = .ok (.istore_n 2, 1) := by decide +kernel
theorem dX4_copyFrom_58 : decode cX4_copyFrom 58 = .ok (.iload_n 2, 1) := by decide +kernel
theorem dX4_copyFrom_59 : decode cX4_copyFrom 59 = .ok (.aload_n 0, 1) := by decide +kernel
theorem dX4_copyFrom_60 : decode cX4_copyFrom 60 = .ok (.getfield 41, 3) := by decide +kernel
theorem dX4_copyFrom_63 : decode cX4_copyFrom 63 = .ok (.if_icmp .ge 45, 3) := by decide +kernel
theorem dX4_copyFrom_108 : decode cX4_copyFrom 108 = .ok (.iconst 0, 1) := by decide +kernel
theorem dX4_copyFrom_109 : decode cX4_copyFrom 109 = .ok (.istore_n 2, 1) := by decide +kernel
theorem dX4_copyFrom_110 : decode cX4_copyFrom 110 = .ok (.iload_n 2, 1) := by decide +kernel
theorem dX4_copyFrom_111 : decode cX4_copyFrom 111 = .ok (.aload_n 0, 1) := by decide +kernel
theorem dX4_copyFrom_112 : decode cX4_copyFrom 112 = .ok (.getfield 44, 3) := by decide +kernel
theorem dX4_copyFrom_115 : decode cX4_copyFrom 115 = .ok (.if_icmp .ge 24, 3) := by decide +kernel
theorem dX4_copyFrom_139 : decode cX4_copyFrom 139 = .ok (.iconst 0, 1) := by decide +kernel
theorem dX4_copyFrom_140 : decode cX4_copyFrom 140 = .ok (.istore_n 2, 1) := by decide +kernel
theorem dX4_copyFrom_141 : decode cX4_copyFrom 141 = .ok (.iload_n 2, 1) := by decide +kernel
theorem dX4_copyFrom_142 : decode cX4_copyFrom 142 = .ok (.aload_n 0, 1) := by decide +kernel
theorem dX4_copyFrom_143 : decode cX4_copyFrom 143 = .ok (.getfield 47, 3) := by decide +kernel
theorem dX4_copyFrom_146 : decode cX4_copyFrom 146 = .ok (.if_icmp .ge 24, 3) := by decide +kernel
theorem dX4_copyFrom_170 : decode cX4_copyFrom 170 = .ok (.return_, 1) := by decide +kernel
theorem dX7_clear_0 : decode cX7_clear 0 = .ok (.aload_n 0, 1) := by decide +kernel
theorem dX7_clear_1 : decode cX7_clear 1 = .ok (.iconst 0, 1) := by decide +kernel
theorem dX7_clear_2 : decode cX7_clear 2 = .ok (.putfield 24, 3) := by decide +kernel
theorem dX7_clear_5 : decode cX7_clear 5 = .ok (.aload_n 0, 1) := by decide +kernel
theorem dX7_clear_6 : decode cX7_clear 6 = .ok (.iconst 0, 1) := by decide +kernel
theorem dX7_clear_7 : decode cX7_clear 7 = .ok (.putfield 28, 3) := by decide +kernel
theorem dX7_clear_10 : decode cX7_clear 10 = .ok (.return_, 1) := by decide +kernel
theorem dX3_forget_0 : decode cX3_forget 0 = .ok (.aload_n 0, 1) := by decide +kernel
theorem dX3_forget_1 : decode cX3_forget 1 = .ok (.iconst 0, 1) := by decide +kernel
theorem dX3_forget_2 : decode cX3_forget 2 = .ok (.putfield 24, 3) := by decide +kernel
theorem dX3_forget_5 : decode cX3_forget 5 = .ok (.return_, 1) := by decide +kernel
theorem dX11_park_0 : decode cX11_park 0 = .ok (.aload_n 0, 1) := by decide +kernel
theorem dX11_park_1 : decode cX11_park 1 = .ok (.getfield 10, 3) := by decide +kernel
theorem dX11_park_4 : decode cX11_park 4 = .ok (.sipush 900, 3) := by decide +kernel
set_option maxRecDepth 20000 in
theorem ggX11_park_X8_open : GoodIn wsX11_park wsX8_open := goodIn_r _ [12, 13, 14, 15, 16, 17, 18, 19, 11, 20, 21, 22, 23, 24, 25, 26, 27, 28, 29, 30, 31, 32, 33, 34, 35, 36, 37, 38, 39, 40, 41, 42, 43, 44, 45, 46, 47, 48, 49, 50, 51, 52, 53, 54, 55, 56, 57, 58, 59, 60, 61, 62, 63, 64, 65, 66, 67, 68, 69, 70, 71, 72, 73, 74, 75, 76, 77, 78, 79, 80, 81, 82, 83, 84, 85, 86, 87, 88, 89, 90, 91, 92, 93, 94, 95, 96, 97, 269, 270, 271, 272, 273, 274, 275, 276, 277, 278, 279, 280, 281, 282, 283] (by decide +kernel) (by decide +kernel)
set_option maxRecDepth 20000 in
theorem gX11_park_X8_open : GoodIn wsX11_park (wsV RX11 107 RX8 yX8_open wsX8_open) := goodIn_app (goodIn_of _ (by decide +kernel)) ggX11_park_X8_open
theorem dX11_park_7 : decode cX11_park 7 = .ok (.invokevirtual 107, 3) := by decide +kernel
theorem dX11_park_10 : decode cX11_park 10 = .ok (.aload_n 0, 1) := by decide +kernel
theorem dX11_park_11 : decode cX11_park 11 = .ok (.getfield 29, 3) := by decide +kernel
theorem dX11_park_14 : decode cX11_park 14 = .ok (.aload_n 0, 1) := by decide +kernel
theorem dX11_park_15 : decode cX11_park 15 = .ok (.getfield 10, 3) := by decide +kernel
theorem dX11_park_18 : decode cX11_park 18 = .ok (.aload_n 0, 1) := by decide +kernel
theorem dX11_park_19 : decode cX11_park 19 = .ok (.getfield 23, 3) := by decide +kernel
set_option maxRecDepth 20000 in
theorem ggX11_park_X5_readAll : GoodIn wsX11_park wsX5_readAll := goodIn_r _ [102, 103, 104, 105, 106, 107, 108, 109, 110, 111, 112, 113, 114, 115, 116, 117, 118, 119, 120, 121, 122, 123, 124, 101, 125, 126, 127, 128, 129, 11, 130, 15, 25, 16, 131, 18, 19, 20, 21, 22, 14, 23, 24, 13, 26, 27, 28, 29, 30, 31, 32, 33, 34, 35, 36, 37, 38, 39, 40, 41, 42, 43, 44, 45, 46, 47, 48, 49, 50, 51, 52, 53, 54, 55, 56, 57, 58, 59, 60, 61, 62, 63, 64, 65, 66, 67, 68, 69, 70, 71, 72, 73, 74, 75, 76, 77, 78, 79, 80, 81, 82, 83, 84, 85, 86, 87, 88, 89, 90, 91, 92, 93, 94, 95, 96, 97, 132, 133, 134, 135, 136, 137, 138, 139, 140, 141, 142, 143, 144, 145, 17, 146, 147, 148, 149, 150, 151, 152, 153, 154, 155, 156, 157, 158, 159, 160, 161, 162, 163, 164, 165, 166, 167, 168, 169, 170, 171, 172, 173, 174, 175, 176, 177, 178, 179, 180, 181, 182, 183, 184, 185, 186, 187, 188, 189, 190, 191, 192, 193, 194, 195, 196, 197, 198, 199, 200, 201, 202, 284, 285, 269, 270, 271, 272, 273, 274, 275, 276, 277, 278, 279, 280, 281, 282, 283, 286, 287, 288, 289, 290, 291, 292, 293, 294, 295, 296, 297, 298, 299, 300, 301, 302, 303, 304, 305, 306, 307, 308, 309, 310, 311, 312, 313] (by decide +kernel) (by decide +kernel)
set_option maxRecDepth 20000 in
theorem gX11_park_X5_readAll : GoodIn wsX11_park (wsV RX11 110 RX5 yX5_readAll wsX5_readAll) := goodIn_app (goodIn_of _ (by decide +kernel)) ggX11_park_X5_readAll
theorem dX11_park_22 : decode cX11_park 22 = .ok (.invokevirtual 110, 3) := by decide +kernel
theorem dX11_park_25 : decode cX11_park 25 = .ok (.istore_n 1, 1) := by decide +kernel
theorem dX11_park_26 : decode cX11_park 26 = .ok (.aload_n 0, 1) := by decide +kernel
set_option maxRecDepth 20000 in
theorem ggX11_park_X11_closeTape : GoodIn wsX11_park wsX11_closeTape := goodIn_r _ [206, 1, 4, 250, 251, 252, 253, 254, 255, 256, 257, 258, 259, 260, 261, 262, 263, 264, 265, 266, 267, 268, 269, 270, 271, 272, 273, 274, 275, 276, 277, 278, 279, 280, 281, 282, 283] (by decide +kernel) (by decide +kernel)
set_option maxRecDepth 20000 in
theorem gX11_park_X11_closeTape : GoodIn wsX11_park (wsV RX11 114 RX11 yX11_closeTape wsX11_closeTape) := goodIn_app (goodIn_of _ (by decide +kernel)) ggX11_park_X11_closeTape
theorem dX11_park_27 : decode cX11_park 27 = .ok (.invokevirtual 114, 3) := by decide +kernel
theorem dX11_park_30 : decode cX11_park 30 = .ok (.aload_n 0, 1) := by decide +kernel
theorem dX11_park_31 : decode cX11_park 31 = .ok (.getfield 117, 3) := by decide +kernel
theorem dX11_park_34 : decode cX11_park 34 = .ok (.ifCond .eq 13, 3) := by decide +kernel
theorem dX11_park_47 : decode cX11_park 47 = .ok (.aload_n 0, 1) := by decide +kernel
theorem dX11_park_48 : decode cX11_park 48 = .ok (.getfield 19, 3) := by decide +kernel
theorem dX11_park_51 : decode cX11_park 51 = .ok (.aload_n 0, 1) := by decide +kernel
theorem dX11_park_52 : decode cX11_park 52 = .ok (.getfield 23, 3) := by decide +kernel
set_option maxRecDepth 20000 in
theorem ggX11_park_X4_copyFrom : GoodIn wsX11_park wsX4_copyFrom := goodIn_r _ [210, 115, 116, 117, 118, 119, 120, 121, 143, 150, 151, 144, 145, 211, 212, 213, 214, 215, 216, 217, 218, 219, 220, 221, 222, 223, 224, 225, 226, 227, 228, 229, 230, 231, 232, 233, 234, 235, 236, 286, 287, 288, 289, 290, 291, 292, 293, 294, 295, 296, 297, 298, 299, 300, 301, 302, 303, 304, 305, 306, 307, 308, 309, 310, 311, 312, 313] (by decide +kernel) (by decide +kernel)
set_option maxRecDepth 20000 in
theorem gX11_park_X4_copyFrom : GoodIn wsX11_park (wsV RX11 123 RX4 yX4_copyFrom wsX4_copyFrom) := goodIn_app (goodIn_of _ (by decide +kernel)) ggX11_park_X4_copyFrom
theorem dX11_park_55 : decode cX11_park 55 = .ok (.invokevirtual 123, 3) := by decide +kernel
theorem dX11_park_58 : decode cX11_park 58 = .ok (.aload_n 0, 1) := by decide +kernel
theorem dX11_park_59 : decode cX11_park 59 = .ok (.getfield 43, 3) := by decide +kernel
set_option maxRecDepth 20000 in
theorem ggX11_park_X7_clear : GoodIn wsX11_park wsX7_clear := goodIn_r _ [241, 242, 243, 314, 315, 316, 317, 318] (by decide +kernel) (by decide +kernel)
set_option maxRecDepth 20000 in
theorem gX11_park_X7_clear : GoodIn wsX11_park (wsV RX11 127 RX7 yX7_clear wsX7_clear) := goodIn_app (goodIn_of _ (by decide +kernel)) ggX11_park_X7_clear
theorem dX11_park_62 : decode cX11_park 62 = .ok (.invokevirtual 127, 3) := by decide +kernel
theorem dX11_park_65 : decode cX11_park 65 = .ok (.aload_n 0, 1) := by decide +kernel
theorem dX11_park_66 : decode cX11_park 66 = .ok (.getfield 60, 3) := by decide +kernel
set_option maxRecDepth 20000 in
theorem ggX11_park_X3_forget : GoodIn wsX11_park wsX3_forget := goodIn_r _ [248, 249, 319, 320, 321] (by decide +kernel) (by decide +kernel)
set_option maxRecDepth 20000 in
theorem gX11_park_X3_forget : GoodIn wsX11_park (wsV RX11 130 RX3 yX3_forget wsX3_forget) := goodIn_app (goodIn_of _ (by decide +kernel)) ggX11_park_X3_forget
theorem dX11_park_69 : decode cX11_park 69 = .ok (.invokevirtual 130, 3) := by decide +kernel
theorem dX11_park_72 : decode cX11_park 72 = .ok (.iload_n 1, 1) := by decide +kernel
theorem dX11_park_73 : decode cX11_park 73 = .ok (.ireturn, 1) := by decide +kernel
theorem dX11_fault_0 : decode cX11_fault 0 = .ok (.aload_n 0, 1) := by decide +kernel
theorem dX11_fault_1 : decode cX11_fault 1 = .ok (.getfield 117, 3) := by decide +kernel
theorem dX11_fault_4 : decode cX11_fault 4 = .ok (.ireturn, 1) := by decide +kernel
theorem dX4_hasPlace_0 : decode cX4_hasPlace 0 = .ok (.iload_n 1, 1) := by decide +kernel
theorem dX4_hasPlace_1 : decode cX4_hasPlace 1 = .ok (.ifCond .lt 15, 3) := by decide +kernel
theorem dX4_hasPlace_16 : decode cX4_hasPlace 16 = .ok (.iconst 0, 1) := by decide +kernel
theorem dX4_hasPlace_17 : decode cX4_hasPlace 17 = .ok (.ireturn, 1) := by decide +kernel
theorem dX4_hasPlace_4 : decode cX4_hasPlace 4 = .ok (.iload_n 1, 1) := by decide +kernel
theorem dX4_hasPlace_5 : decode cX4_hasPlace 5 = .ok (.aload_n 0, 1) := by decide +kernel
theorem dX4_hasPlace_6 : decode cX4_hasPlace 6 = .ok (.getfield 41, 3) := by decide +kernel
theorem dX4_hasPlace_9 : decode cX4_hasPlace 9 = .ok (.if_icmp .ge 7, 3) := by decide +kernel
theorem dX11_place_0 : decode cX11_place 0 = .ok (.aload_n 0, 1) := by decide +kernel
theorem dX11_place_1 : decode cX11_place 1 = .ok (.getfield 19, 3) := by decide +kernel
theorem dX11_place_4 : decode cX11_place 4 = .ok (.iload_n 1, 1) := by decide +kernel
set_option maxRecDepth 20000 in
theorem ggX11_place_X4_hasPlace : GoodIn wsX11_place wsX4_hasPlace := goodIn_r _ [6, 7, 33, 34, 35, 36, 37, 38, 39, 40, 41, 42, 43, 44] (by decide +kernel) (by decide +kernel)
set_option maxRecDepth 20000 in
theorem gX11_place_X4_hasPlace : GoodIn wsX11_place (wsV RX11 199 RX4 yX4_hasPlace wsX4_hasPlace) := goodIn_app (goodIn_of _ (by decide +kernel)) ggX11_place_X4_hasPlace
theorem dX11_place_5 : decode cX11_place 5 = .ok (.invokevirtual 199, 3) := by decide +kernel
theorem dX11_place_8 : decode cX11_place 8 = .ok (.ifCond .ne 5, 3) := by decide +kernel
theorem dX11_place_11 : decode cX11_place 11 = .ok (.iconst (-1), 1) := by decide +kernel
theorem dX11_place_12 : decode cX11_place 12 = .ok (.ireturn, 1) := by decide +kernel
theorem dX11_now_0 : decode cX11_now 0 = .ok (.iload_n 1, 1) := by decide +kernel
theorem dX11_now_1 : decode cX11_now 1 = .ok (.tableswitch 113 0 7 #[47, 55, 63, 71, 79, 87, 96, 105], 47) := by decide +kernel
theorem dX11_now_48 : decode cX11_now 48 = .ok (.aload_n 0, 1) := by decide +kernel
theorem dX11_now_49 : decode cX11_now 49 = .ok (.getfield 19, 3) := by decide +kernel
theorem dX11_now_52 : decode cX11_now 52 = .ok (.getfield 212, 3) := by decide +kernel
theorem dX11_now_55 : decode cX11_now 55 = .ok (.ireturn, 1) := by decide +kernel
theorem dX4_awayBits_0 : decode cX4_awayBits 0 = .ok (.iconst 0, 1) := by decide +kernel
theorem dX4_awayBits_1 : decode cX4_awayBits 1 = .ok (.istore_n 1, 1) := by decide +kernel
theorem dX4_awayBits_2 : decode cX4_awayBits 2 = .ok (.iconst 0, 1) := by decide +kernel
theorem dX4_awayBits_3 : decode cX4_awayBits 3 = .ok (.istore_n 2, 1) := by decide +kernel
theorem dX4_awayBits_4 : decode cX4_awayBits 4 = .ok (.iload_n 2, 1) := by decide +kernel
theorem dX4_awayBits_5 : decode cX4_awayBits 5 = .ok (.aload_n 0, 1) := by decide +kernel
theorem dX4_awayBits_6 : decode cX4_awayBits 6 = .ok (.getfield 44, 3) := by decide +kernel
theorem dX4_awayBits_9 : decode cX4_awayBits 9 = .ok (.if_icmp .ge 27, 3) := by decide +kernel
theorem dX4_awayBits_36 : decode cX4_awayBits 36 = .ok (.iload_n 1, 1) := by decide +kernel
theorem dX4_awayBits_37 : decode cX4_awayBits 37 = .ok (.ireturn, 1) := by decide +kernel
theorem dX11_now_56 : decode cX11_now 56 = .ok (.aload_n 0, 1) := by decide +kernel
theorem dX11_now_57 : decode cX11_now 57 = .ok (.getfield 19, 3) := by decide +kernel
set_option maxRecDepth 20000 in
theorem ggX11_now_X4_awayBits : GoodIn wsX11_now wsX4_awayBits := goodIn_r _ [6, 7, 8, 69, 70, 71, 72, 73, 74, 75, 76, 77, 78, 79, 80, 81, 82, 83, 84, 85, 86, 87, 88, 89] (by decide +kernel) (by decide +kernel)
set_option maxRecDepth 20000 in
theorem gX11_now_X4_awayBits : GoodIn wsX11_now (wsV RX11 215 RX4 yX4_awayBits wsX4_awayBits) := goodIn_app (goodIn_of _ (by decide +kernel)) ggX11_now_X4_awayBits
theorem dX11_now_60 : decode cX11_now 60 = .ok (.invokevirtual 215, 3) := by decide +kernel
theorem dX11_now_63 : decode cX11_now 63 = .ok (.ireturn, 1) := by decide +kernel
theorem dX11_now_64 : decode cX11_now 64 = .ok (.aload_n 0, 1) := by decide +kernel
theorem dX11_now_65 : decode cX11_now 65 = .ok (.getfield 19, 3) := by decide +kernel
theorem dX11_now_68 : decode cX11_now 68 = .ok (.getfield 219, 3) := by decide +kernel
theorem dX11_now_71 : decode cX11_now 71 = .ok (.ireturn, 1) := by decide +kernel
theorem dX11_now_72 : decode cX11_now 72 = .ok (.aload_n 0, 1) := by decide +kernel
theorem dX11_now_73 : decode cX11_now 73 = .ok (.getfield 19, 3) := by decide +kernel
theorem dX11_now_76 : decode cX11_now 76 = .ok (.getfield 222, 3) := by decide +kernel
theorem dX11_now_79 : decode cX11_now 79 = .ok (.ireturn, 1) := by decide +kernel
theorem dX11_now_80 : decode cX11_now 80 = .ok (.aload_n 0, 1) := by decide +kernel
theorem dX11_now_81 : decode cX11_now 81 = .ok (.getfield 19, 3) := by decide +kernel
theorem dX11_now_84 : decode cX11_now 84 = .ok (.getfield 225, 3) := by decide +kernel
theorem dX11_now_87 : decode cX11_now 87 = .ok (.ireturn, 1) := by decide +kernel
theorem dX4_goodOfAll_0 : decode cX4_goodOfAll 0 = .ok (.iconst 0, 1) := by decide +kernel
theorem dX4_goodOfAll_1 : decode cX4_goodOfAll 1 = .ok (.istore_n 2, 1) := by decide +kernel
theorem dX4_goodOfAll_2 : decode cX4_goodOfAll 2 = .ok (.iconst 0, 1) := by decide +kernel
theorem dX4_goodOfAll_3 : decode cX4_goodOfAll 3 = .ok (.istore_n 3, 1) := by decide +kernel
theorem dX4_goodOfAll_4 : decode cX4_goodOfAll 4 = .ok (.iload_n 3, 1) := by decide +kernel
theorem dX4_goodOfAll_5 : decode cX4_goodOfAll 5 = .ok (.aload_n 0, 1) := by decide +kernel
theorem dX4_goodOfAll_6 : decode cX4_goodOfAll 6 = .ok (.getfield 44, 3) := by decide +kernel
theorem dX4_goodOfAll_9 : decode cX4_goodOfAll 9 = .ok (.if_icmp .ge 42, 3) := by decide +kernel
theorem dX4_goodOfAll_51 : decode cX4_goodOfAll 51 = .ok (.iload_n 2, 1) := by decide +kernel
theorem dX4_goodOfAll_52 : decode cX4_goodOfAll 52 = .ok (.ireturn, 1) := by decide +kernel
theorem dX11_now_88 : decode cX11_now 88 = .ok (.aload_n 0, 1) := by decide +kernel
theorem dX11_now_89 : decode cX11_now 89 = .ok (.getfield 19, 3) := by decide +kernel
theorem dX11_now_92 : decode cX11_now 92 = .ok (.iconst 1, 1) := by decide +kernel
set_option maxRecDepth 20000 in
theorem ggX11_now_X4_goodOfAll : GoodIn wsX11_now wsX4_goodOfAll := goodIn_r _ [12, 7, 8, 13, 14, 15, 5, 16, 17, 18, 19, 20, 21, 22, 23, 24, 25, 26, 27, 28, 29, 30, 31, 32, 33, 34, 35, 36, 37, 38, 39, 40, 41, 42, 43, 44, 45, 69, 70, 71, 72, 73, 74, 75, 76, 77, 78, 79, 80, 81, 82, 83, 84, 85, 86, 87, 88, 89, 90, 91, 92, 93, 94, 95, 96] (by decide +kernel) (by decide +kernel)
set_option maxRecDepth 20000 in
theorem gX11_now_X4_goodOfAll : GoodIn wsX11_now (wsV RX11 226 RX4 yX4_goodOfAll wsX4_goodOfAll) := goodIn_app (goodIn_of _ (by decide +kernel)) ggX11_now_X4_goodOfAll
theorem dX11_now_93 : decode cX11_now 93 = .ok (.invokevirtual 226, 3) := by decide +kernel
theorem dX11_now_96 : decode cX11_now 96 = .ok (.ireturn, 1) := by decide +kernel
theorem dX11_now_97 : decode cX11_now 97 = .ok (.aload_n 0, 1) := by decide +kernel
theorem dX11_now_98 : decode cX11_now 98 = .ok (.getfield 19, 3) := by decide +kernel
theorem dX11_now_101 : decode cX11_now 101 = .ok (.iconst 0, 1) := by decide +kernel
theorem dX11_now_102 : decode cX11_now 102 = .ok (.invokevirtual 226, 3) := by decide +kernel
theorem dX11_now_105 : decode cX11_now 105 = .ok (.ireturn, 1) := by decide +kernel
theorem dX4_heldBits_0 : decode cX4_heldBits 0 = .ok (.iconst 0, 1) := by decide +kernel
theorem dX4_heldBits_1 : decode cX4_heldBits 1 = .ok (.istore_n 1, 1) := by decide +kernel
theorem dX4_heldBits_2 : decode cX4_heldBits 2 = .ok (.iconst 0, 1) := by decide +kernel
theorem dX4_heldBits_3 : decode cX4_heldBits 3 = .ok (.istore_n 2, 1) := by decide +kernel
theorem dX4_heldBits_4 : decode cX4_heldBits 4 = .ok (.iload_n 2, 1) := by decide +kernel
theorem dX4_heldBits_5 : decode cX4_heldBits 5 = .ok (.aload_n 0, 1) := by decide +kernel
theorem dX4_heldBits_6 : decode cX4_heldBits 6 = .ok (.getfield 47, 3) := by decide +kernel
theorem dX4_heldBits_9 : decode cX4_heldBits 9 = .ok (.if_icmp .ge 27, 3) := by decide +kernel
theorem dX4_heldBits_36 : decode cX4_heldBits 36 = .ok (.iload_n 1, 1) := by decide +kernel
theorem dX4_heldBits_37 : decode cX4_heldBits 37 = .ok (.ireturn, 1) := by decide +kernel
theorem dX11_now_106 : decode cX11_now 106 = .ok (.aload_n 0, 1) := by decide +kernel
theorem dX11_now_107 : decode cX11_now 107 = .ok (.getfield 19, 3) := by decide +kernel
set_option maxRecDepth 20000 in
theorem ggX11_now_X4_heldBits : GoodIn wsX11_now wsX4_heldBits := goodIn_r _ [49, 22, 24, 69, 70, 71, 72, 73, 74, 75, 76, 77, 78, 79, 80, 90, 91, 92, 93, 94, 95, 96] (by decide +kernel) (by decide +kernel)
set_option maxRecDepth 20000 in
theorem gX11_now_X4_heldBits : GoodIn wsX11_now (wsV RX11 230 RX4 yX4_heldBits wsX4_heldBits) := goodIn_app (goodIn_of _ (by decide +kernel)) ggX11_now_X4_heldBits
theorem dX11_now_110 : decode cX11_now 110 = .ok (.invokevirtual 230, 3) := by decide +kernel
theorem dX11_now_113 : decode cX11_now 113 = .ok (.ireturn, 1) := by decide +kernel
theorem dX11_now_114 : decode cX11_now 114 = .ok (.iconst (-1), 1) := by decide +kernel
theorem dX11_now_115 : decode cX11_now 115 = .ok (.ireturn, 1) := by decide +kernel
theorem dX11_allow_0 : decode cX11_allow 0 = .ok (.aload_n 0, 1) := by decide +kernel
theorem dX11_allow_1 : decode cX11_allow 1 = .ok (.getfield 19, 3) := by decide +kernel
theorem dX11_allow_4 : decode cX11_allow 4 = .ok (.iload_n 1, 1) := by decide +kernel
set_option maxRecDepth 20000 in
theorem ggX11_allow_X4_hasPlace : GoodIn wsX11_allow wsX4_hasPlace := goodIn_r _ [7, 8, 99, 100, 101, 102, 103, 104, 105, 106, 107, 108, 109, 110] (by decide +kernel) (by decide +kernel)
set_option maxRecDepth 20000 in
theorem gX11_allow_X4_hasPlace : GoodIn wsX11_allow (wsV RX11 199 RX4 yX4_hasPlace wsX4_hasPlace) := goodIn_app (goodIn_of _ (by decide +kernel)) ggX11_allow_X4_hasPlace
theorem dX11_allow_5 : decode cX11_allow 5 = .ok (.invokevirtual 199, 3) := by decide +kernel
theorem dX11_allow_8 : decode cX11_allow 8 = .ok (.ifCond .eq 11, 3) := by decide +kernel
theorem dX11_allow_19 : decode cX11_allow 19 = .ok (.iconst (-1), 1) := by decide +kernel
theorem dX11_allow_20 : decode cX11_allow 20 = .ok (.ireturn, 1) := by decide +kernel
theorem dX11_forbid_0 : decode cX11_forbid 0 = .ok (.aload_n 0, 1) := by decide +kernel
theorem dX11_forbid_1 : decode cX11_forbid 1 = .ok (.getfield 19, 3) := by decide +kernel
theorem dX11_forbid_4 : decode cX11_forbid 4 = .ok (.iload_n 1, 1) := by decide +kernel
set_option maxRecDepth 20000 in
theorem ggX11_forbid_X4_hasPlace : GoodIn wsX11_forbid wsX4_hasPlace := goodIn_r _ [7, 8, 99, 100, 101, 102, 103, 104, 105, 106, 107, 108, 109, 110] (by decide +kernel) (by decide +kernel)
set_option maxRecDepth 20000 in
theorem gX11_forbid_X4_hasPlace : GoodIn wsX11_forbid (wsV RX11 199 RX4 yX4_hasPlace wsX4_hasPlace) := goodIn_app (goodIn_of _ (by decide +kernel)) ggX11_forbid_X4_hasPlace
theorem dX11_forbid_5 : decode cX11_forbid 5 = .ok (.invokevirtual 199, 3) := by decide +kernel
theorem dX11_forbid_8 : decode cX11_forbid 8 = .ok (.ifCond .eq 11, 3) := by decide +kernel
theorem dX11_forbid_19 : decode cX11_forbid 19 = .ok (.iconst (-1), 1) := by decide +kernel
theorem dX11_forbid_20 : decode cX11_forbid 20 = .ok (.ireturn, 1) := by decide +kernel
theorem dX11_fence_0 : decode cX11_fence 0 = .ok (.aload_n 0, 1) := by decide +kernel
theorem dX11_fence_1 : decode cX11_fence 1 = .ok (.getfield 19, 3) := by decide +kernel
theorem dX11_fence_4 : decode cX11_fence 4 = .ok (.iload_n 1, 1) := by decide +kernel
set_option maxRecDepth 20000 in
theorem ggX11_fence_X4_hasPlace : GoodIn wsX11_fence wsX4_hasPlace := goodIn_r _ [7, 8, 94, 95, 96, 97, 98, 99, 100, 101, 102, 103, 104, 105] (by decide +kernel) (by decide +kernel)
set_option maxRecDepth 20000 in
theorem gX11_fence_X4_hasPlace : GoodIn wsX11_fence (wsV RX11 199 RX4 yX4_hasPlace wsX4_hasPlace) := goodIn_app (goodIn_of _ (by decide +kernel)) ggX11_fence_X4_hasPlace
theorem dX11_fence_5 : decode cX11_fence 5 = .ok (.invokevirtual 199, 3) := by decide +kernel
theorem dX11_fence_8 : decode cX11_fence 8 = .ok (.ifCond .ne 5, 3) := by decide +kernel
theorem dX11_fence_11 : decode cX11_fence 11 = .ok (.iconst (-1), 1) := by decide +kernel
theorem dX11_fence_12 : decode cX11_fence 12 = .ok (.ireturn, 1) := by decide +kernel
theorem dX11_sign_0 : decode cX11_sign 0 = .ok (.iload_n 1, 1) := by decide +kernel
theorem dX11_sign_1 : decode cX11_sign 1 = .ok (.ifCond .lt 9, 3) := by decide +kernel
theorem dX11_sign_10 : decode cX11_sign 10 = .ok (.iconst (-1), 1) := by decide +kernel
theorem dX11_sign_11 : decode cX11_sign 11 = .ok (.ireturn, 1) := by decide +kernel
theorem dX11_sign_4 : decode cX11_sign 4 = .ok (.iload_n 1, 1) := by decide +kernel
theorem dX11_sign_5 : decode cX11_sign 5 = .ok (.bipush 12, 2) := by decide +kernel
theorem dX11_sign_7 : decode cX11_sign 7 = .ok (.if_icmp .le 5, 3) := by decide +kernel
theorem dX3_mark_0 : decode cX3_mark 0 = .ok (.aload_n 0, 1) := by decide +kernel
theorem dX3_mark_1 : decode cX3_mark 1 = .ok (.getfield 11, 3) := by decide +kernel
theorem dX3_mark_4 : decode cX3_mark 4 = .ok (.aload_n 0, 1) := by decide +kernel
theorem dX3_mark_5 : decode cX3_mark 5 = .ok (.getfield 16, 3) := by decide +kernel
theorem dX3_mark_8 : decode cX3_mark 8 = .ok (.aaload, 1) := by decide +kernel
theorem dX3_mark_9 : decode cX3_mark 9 = .ok (.aload_n 1, 1) := by decide +kernel
set_option maxRecDepth 20000 in
theorem ggX3_mark_X4_copyFrom : GoodIn wsX3_mark wsX4_copyFrom := goodIn_r _ [7, 8, 9, 10, 11, 12, 13, 14, 15, 16, 17, 18, 19, 20, 21, 22, 23, 24, 25, 26, 27, 28, 29, 30, 31, 32, 33, 34, 35, 36, 37, 38, 39, 40, 41, 42, 43, 44, 45, 49, 50, 51, 52, 53, 54, 55, 56, 57, 58, 59, 60, 61, 62, 63, 64, 65, 66, 67, 68, 69, 70, 71, 72, 73, 74, 75, 76] (by decide +kernel) (by decide +kernel)
set_option maxRecDepth 20000 in
theorem gX3_mark_X4_copyFrom : GoodIn wsX3_mark (wsV RX3 20 RX4 yX4_copyFrom wsX4_copyFrom) := goodIn_app (goodIn_of _ (by decide +kernel)) ggX3_mark_X4_copyFrom
theorem dX3_mark_10 : decode cX3_mark 10 = .ok (.invokevirtual 20, 3) := by decide +kernel
theorem dX3_mark_13 : decode cX3_mark 13 = .ok (.return_, 1) := by decide +kernel
theorem dX4_writeSign_0 : decode cX4_writeSign 0 = .ok (.aload_n 0, 1) := by decide +kernel
theorem dX4_writeSign_1 : decode cX4_writeSign 1 = .ok (.getfield 37, 3) := by decide +kernel
theorem dX4_writeSign_4 : decode cX4_writeSign 4 = .ok (.iload_n 1, 1) := by decide +kernel
theorem dX4_writeSign_5 : decode cX4_writeSign 5 = .ok (.if_icmp .ne 5, 3) := by decide +kernel
theorem dX4_writeSign_8 : decode cX4_writeSign 8 = .ok (.iconst 1, 1) := by decide +kernel
theorem dX4_writeSign_9 : decode cX4_writeSign 9 = .ok (.ireturn, 1) := by decide +kernel
theorem dX11_keepIfDone_0 : decode cX11_keepIfDone 0 = .ok (.iload_n 1, 1) := by decide +kernel
theorem dX11_keepIfDone_1 : decode cX11_keepIfDone 1 = .ok (.ifCond .ne 10, 3) := by decide +kernel
theorem dX11_keepIfDone_11 : decode cX11_keepIfDone 11 = .ok (.iload_n 1, 1) := by decide +kernel
theorem dX11_keepIfDone_12 : decode cX11_keepIfDone 12 = .ok (.ireturn, 1) := by decide +kernel
theorem dX11_sign_12 : decode cX11_sign 12 = .ok (.aload_n 0, 1) := by decide +kernel
theorem dX11_sign_13 : decode cX11_sign 13 = .ok (.getfield 60, 3) := by decide +kernel
theorem dX11_sign_16 : decode cX11_sign 16 = .ok (.aload_n 0, 1) := by decide +kernel
theorem dX11_sign_17 : decode cX11_sign 17 = .ok (.getfield 19, 3) := by decide +kernel
set_option maxRecDepth 20000 in
theorem ggX11_sign_X3_mark : GoodIn wsX11_sign wsX3_mark := goodIn_r _ [7, 8, 9, 10, 11, 12, 13, 14, 15, 16, 17, 18, 19, 20, 21, 22, 23, 24, 25, 26, 27, 28, 29, 30, 31, 32, 33, 34, 35, 36, 37, 38, 39, 40, 41, 42, 43, 44, 45, 46, 47, 48, 49, 50, 51, 52, 90, 91, 92, 93, 94, 95, 96, 97, 98, 99, 100, 101, 102, 103, 104, 105, 106, 107, 108, 109, 110, 111, 112, 113, 114, 115, 116, 117, 118, 119, 120] (by decide +kernel) (by decide +kernel)
set_option maxRecDepth 20000 in
theorem gX11_sign_X3_mark : GoodIn wsX11_sign (wsV RX11 237 RX3 yX3_mark wsX3_mark) := goodIn_app (goodIn_of _ (by decide +kernel)) ggX11_sign_X3_mark
theorem dX11_sign_20 : decode cX11_sign 20 = .ok (.invokevirtual 237, 3) := by decide +kernel
theorem dX11_sign_23 : decode cX11_sign 23 = .ok (.aload_n 0, 1) := by decide +kernel
theorem dX11_sign_24 : decode cX11_sign 24 = .ok (.aload_n 0, 1) := by decide +kernel
theorem dX11_sign_25 : decode cX11_sign 25 = .ok (.getfield 19, 3) := by decide +kernel
theorem dX11_sign_28 : decode cX11_sign 28 = .ok (.iload_n 1, 1) := by decide +kernel
set_option maxRecDepth 20000 in
theorem ggX11_sign_X4_writeSign : GoodIn wsX11_sign wsX4_writeSign := goodIn_r _ [56, 18, 93, 94, 95, 96, 97, 98, 99, 100, 101, 102, 103, 104] (by decide +kernel) (by decide +kernel)
set_option maxRecDepth 20000 in
theorem gX11_sign_X4_writeSign : GoodIn wsX11_sign (wsV RX11 253 RX4 yX4_writeSign wsX4_writeSign) := goodIn_app (goodIn_of _ (by decide +kernel)) ggX11_sign_X4_writeSign
theorem dX11_sign_29 : decode cX11_sign 29 = .ok (.invokevirtual 253, 3) := by decide +kernel
set_option maxRecDepth 20000 in
theorem ggX11_sign_X11_keepIfDone : GoodIn wsX11_sign wsX11_keepIfDone := goodIn_r _ [61, 1, 62, 63, 64, 6, 65, 9, 66, 67, 68, 69, 70, 71, 72, 73, 74, 75, 76, 77, 78, 79, 80, 81, 82, 83, 84, 85, 86, 87, 88, 89, 90, 91, 92] (by decide +kernel) (by decide +kernel)
set_option maxRecDepth 20000 in
theorem gX11_sign_X11_keepIfDone : GoodIn wsX11_sign (wsV RX11 244 RX11 yX11_keepIfDone wsX11_keepIfDone) := goodIn_app (goodIn_of _ (by decide +kernel)) ggX11_sign_X11_keepIfDone
theorem dX11_sign_32 : decode cX11_sign 32 = .ok (.invokevirtual 244, 3) := by decide +kernel
theorem dX11_sign_35 : decode cX11_sign 35 = .ok (.ireturn, 1) := by decide +kernel
theorem dX4_writeSign_10 : decode cX4_writeSign 10 = .ok (.aload_n 0, 1) := by decide +kernel
theorem dX4_writeSign_11 : decode cX4_writeSign 11 = .ok (.iload_n 1, 1) := by decide +kernel
theorem dX4_writeSign_12 : decode cX4_writeSign 12 = .ok (.putfield 37, 3) := by decide +kernel
theorem dX4_writeSign_15 : decode cX4_writeSign 15 = .ok (.iconst 0, 1) := by decide +kernel
theorem dX4_writeSign_16 : decode cX4_writeSign 16 = .ok (.ireturn, 1) := by decide +kernel
theorem dX3_keepMarked_0 : decode cX3_keepMarked 0 = .ok (.aload_n 0, 1) := by decide +kernel
theorem dX3_keepMarked_1 : decode cX3_keepMarked 1 = .ok (.aload_n 0, 1) := by decide +kernel
theorem dX3_keepMarked_2 : decode cX3_keepMarked 2 = .ok (.getfield 16, 3) := by decide +kernel
theorem dX3_keepMarked_5 : decode cX3_keepMarked 5 = .ok (.iconst 1, 1) := by decide +kernel
theorem dX3_keepMarked_6 : decode cX3_keepMarked 6 = .ok (.iadd, 1) := by decide +kernel
theorem dX3_keepMarked_7 : decode cX3_keepMarked 7 = .ok (.bipush 9, 2) := by decide +kernel
theorem dX3_keepMarked_9 : decode cX3_keepMarked 9 = .ok (.irem, 1) := by decide +kernel
theorem dX3_keepMarked_10 : decode cX3_keepMarked 10 = .ok (.putfield 16, 3) := by decide +kernel
theorem dX3_keepMarked_13 : decode cX3_keepMarked 13 = .ok (.aload_n 0, 1) := by decide +kernel
theorem dX3_keepMarked_14 : decode cX3_keepMarked 14 = .ok (.aload_n 0, 1) := by decide +kernel
theorem dX3_keepMarked_15 : decode cX3_keepMarked 15 = .ok (.getfield 24, 3) := by decide +kernel
theorem dX3_keepMarked_18 : decode cX3_keepMarked 18 = .ok (.iconst 1, 1) := by decide +kernel
theorem dX3_keepMarked_19 : decode cX3_keepMarked 19 = .ok (.iadd, 1) := by decide +kernel
theorem dX3_keepMarked_20 : decode cX3_keepMarked 20 = .ok (.bipush 8, 2) := by decide +kernel
theorem dX3_keepMarked_22 : decode cX3_keepMarked 22 = .ok (.invokestatic 27, 3) := by decide +kernel
theorem dX3_keepMarked_25 : decode cX3_keepMarked 25 = .ok (.putfield 24, 3) := by decide +kernel
theorem dX3_keepMarked_28 : decode cX3_keepMarked 28 = .ok (.return_, 1) := by decide +kernel
theorem dX11_keepIfDone_4 : decode cX11_keepIfDone 4 = .ok (.aload_n 0, 1) := by decide +kernel
theorem dX11_keepIfDone_5 : decode cX11_keepIfDone 5 = .ok (.getfield 60, 3) := by decide +kernel
set_option maxRecDepth 20000 in
theorem ggX11_keepIfDone_X3_keepMarked : GoodIn wsX11_keepIfDone wsX3_keepMarked := goodIn_r _ [6, 7, 8, 9, 10, 11, 12, 32, 33, 34] (by decide +kernel) (by decide +kernel)
set_option maxRecDepth 20000 in
theorem gX11_keepIfDone_X3_keepMarked : GoodIn wsX11_keepIfDone (wsV RX11 268 RX3 yX3_keepMarked wsX3_keepMarked) := goodIn_app (goodIn_of _ (by decide +kernel)) ggX11_keepIfDone_X3_keepMarked
theorem dX11_keepIfDone_8 : decode cX11_keepIfDone 8 = .ok (.invokevirtual 268, 3) := by decide +kernel
theorem dX4_hasDog_0 : decode cX4_hasDog 0 = .ok (.iload_n 1, 1) := by decide +kernel
theorem dX4_hasDog_1 : decode cX4_hasDog 1 = .ok (.ifCond .lt 15, 3) := by decide +kernel
theorem dX4_hasDog_16 : decode cX4_hasDog 16 = .ok (.iconst 0, 1) := by decide +kernel
theorem dX4_hasDog_17 : decode cX4_hasDog 17 = .ok (.ireturn, 1) := by decide +kernel
theorem dX4_hasDog_4 : decode cX4_hasDog 4 = .ok (.iload_n 1, 1) := by decide +kernel
theorem dX4_hasDog_5 : decode cX4_hasDog 5 = .ok (.aload_n 0, 1) := by decide +kernel
theorem dX4_hasDog_6 : decode cX4_hasDog 6 = .ok (.getfield 47, 3) := by decide +kernel
theorem dX4_hasDog_9 : decode cX4_hasDog 9 = .ok (.if_icmp .ge 7, 3) := by decide +kernel
theorem dX11_hold_0 : decode cX11_hold 0 = .ok (.aload_n 0, 1) := by decide +kernel
theorem dX11_hold_1 : decode cX11_hold 1 = .ok (.getfield 19, 3) := by decide +kernel
theorem dX11_hold_4 : decode cX11_hold 4 = .ok (.iload_n 1, 1) := by decide +kernel
set_option maxRecDepth 20000 in
theorem ggX11_hold_X4_hasDog : GoodIn wsX11_hold wsX4_hasDog := goodIn_r _ [7, 8, 94, 95, 96, 97, 98, 99, 100, 101, 102, 103, 104, 105] (by decide +kernel) (by decide +kernel)
set_option maxRecDepth 20000 in
theorem gX11_hold_X4_hasDog : GoodIn wsX11_hold (wsV RX11 174 RX4 yX4_hasDog wsX4_hasDog) := goodIn_app (goodIn_of _ (by decide +kernel)) ggX11_hold_X4_hasDog
theorem dX11_hold_5 : decode cX11_hold 5 = .ok (.invokevirtual 174, 3) := by decide +kernel
theorem dX11_hold_8 : decode cX11_hold 8 = .ok (.ifCond .eq 12, 3) := by decide +kernel
theorem dX11_hold_20 : decode cX11_hold 20 = .ok (.iconst (-1), 1) := by decide +kernel
theorem dX11_hold_21 : decode cX11_hold 21 = .ok (.ireturn, 1) := by decide +kernel
theorem dX4_hasPerson_0 : decode cX4_hasPerson 0 = .ok (.iload_n 1, 1) := by decide +kernel
theorem dX4_hasPerson_1 : decode cX4_hasPerson 1 = .ok (.ifCond .lt 15, 3) := by decide +kernel
theorem dX4_hasPerson_16 : decode cX4_hasPerson 16 = .ok (.iconst 0, 1) := by decide +kernel
theorem dX4_hasPerson_17 : decode cX4_hasPerson 17 = .ok (.ireturn, 1) := by decide +kernel
theorem dX4_hasPerson_4 : decode cX4_hasPerson 4 = .ok (.iload_n 1, 1) := by decide +kernel
theorem dX4_hasPerson_5 : decode cX4_hasPerson 5 = .ok (.aload_n 0, 1) := by decide +kernel
theorem dX4_hasPerson_6 : decode cX4_hasPerson 6 = .ok (.getfield 44, 3) := by decide +kernel
theorem dX4_hasPerson_9 : decode cX4_hasPerson 9 = .ok (.if_icmp .ge 7, 3) := by decide +kernel
theorem dX11_come_0 : decode cX11_come 0 = .ok (.aload_n 0, 1) := by decide +kernel
theorem dX11_come_1 : decode cX11_come 1 = .ok (.getfield 19, 3) := by decide +kernel
theorem dX11_come_4 : decode cX11_come 4 = .ok (.iload_n 1, 1) := by decide +kernel
set_option maxRecDepth 20000 in
theorem ggX11_come_X4_hasPerson : GoodIn wsX11_come wsX4_hasPerson := goodIn_r _ [7, 8, 101, 102, 103, 104, 105, 106, 107, 108, 109, 110, 111, 112] (by decide +kernel) (by decide +kernel)
set_option maxRecDepth 20000 in
theorem gX11_come_X4_hasPerson : GoodIn wsX11_come (wsV RX11 133 RX4 yX4_hasPerson wsX4_hasPerson) := goodIn_app (goodIn_of _ (by decide +kernel)) ggX11_come_X4_hasPerson
theorem dX11_come_5 : decode cX11_come 5 = .ok (.invokevirtual 133, 3) := by decide +kernel
theorem dX11_come_8 : decode cX11_come 8 = .ok (.ifCond .eq 23, 3) := by decide +kernel
theorem dX11_come_31 : decode cX11_come 31 = .ok (.iconst (-1), 1) := by decide +kernel
theorem dX11_come_32 : decode cX11_come 32 = .ok (.ireturn, 1) := by decide +kernel
theorem dX11_days_0 : decode cX11_days 0 = .ok (.iload_n 1, 1) := by decide +kernel
theorem dX11_days_1 : decode cX11_days 1 = .ok (.iconst 1, 1) := by decide +kernel
theorem dX11_days_2 : decode cX11_days 2 = .ok (.if_icmp .lt 9, 3) := by decide +kernel
theorem dX11_days_11 : decode cX11_days 11 = .ok (.iconst (-1), 1) := by decide +kernel
theorem dX11_days_12 : decode cX11_days 12 = .ok (.ireturn, 1) := by decide +kernel
theorem dX11_days_5 : decode cX11_days 5 = .ok (.iload_n 1, 1) := by decide +kernel
theorem dX11_days_6 : decode cX11_days 6 = .ok (.bipush 30, 2) := by decide +kernel
theorem dX11_days_8 : decode cX11_days 8 = .ok (.if_icmp .le 5, 3) := by decide +kernel
theorem dX1_liveDay_0 : decode cX1_liveDay 0 = .ok (.iconst 0, 1) := by decide +kernel
theorem dX1_liveDay_1 : decode cX1_liveDay 1 = .ok (.istore_n 2, 1) := by decide +kernel
theorem dX1_liveDay_2 : decode cX1_liveDay 2 = .ok (.iconst 0, 1) := by decide +kernel
theorem dX1_liveDay_3 : decode cX1_liveDay 3 = .ok (.istore_n 3, 1) := by decide +kernel
theorem dX1_liveDay_4 : decode cX1_liveDay 4 = .ok (.iload_n 3, 1) := by decide +kernel
theorem dX1_liveDay_5 : decode cX1_liveDay 5 = .ok (.bipush 24, 2) := by decide +kernel
theorem dX1_liveDay_7 : decode cX1_liveDay 7 = .ok (.if_icmp .ge 39, 3) := by decide +kernel
theorem dX1_liveDay_10 : decode cX1_liveDay 10 = .ok (.iconst 0, 1) := by decide +kernel
theorem dX1_liveDay_11 : decode cX1_liveDay 11 = .ok (.istore 4, 2) := by decide +kernel
theorem dX1_liveDay_13 : decode cX1_liveDay 13 = .ok (.iload 4, 2) := by decide +kernel
theorem dX1_liveDay_15 : decode cX1_liveDay 15 = .ok (.aload_n 1, 1) := by decide +kernel
theorem dX1_liveDay_16 : decode cX1_liveDay 16 = .ok (.getfield 25, 3) := by decide +kernel
theorem dX1_liveDay_19 : decode cX1_liveDay 19 = .ok (.if_icmp .ge 21, 3) := by decide +kernel
theorem dX1_liveDay_40 : decode cX1_liveDay 40 = .ok (.iinc 3 1, 3) := by decide +kernel
theorem dX1_liveDay_43 : decode cX1_liveDay 43 = .ok (.goto (-39), 3) := by decide +kernel
theorem dX1_liveDay_46 : decode cX1_liveDay 46 = .ok (.iconst 0, 1) := by decide +kernel
theorem dX1_liveDay_47 : decode cX1_liveDay 47 = .ok (.istore_n 3, 1) := by decide +kernel
theorem dX1_liveDay_48 : decode cX1_liveDay 48 = .ok (.iload_n 3, 1) := by decide +kernel
theorem dX1_liveDay_49 : decode cX1_liveDay 49 = .ok (.aload_n 1, 1) := by decide +kernel
theorem dX1_liveDay_50 : decode cX1_liveDay 50 = .ok (.getfield 32, 3) := by decide +kernel
theorem dX1_liveDay_53 : decode cX1_liveDay 53 = .ok (.if_icmp .ge 58, 3) := by decide +kernel
theorem dX1_liveDay_111 : decode cX1_liveDay 111 = .ok (.aload_n 1, 1) := by decide +kernel
theorem dX1_liveDay_112 : decode cX1_liveDay 112 = .ok (.dup, 1) := by decide +kernel
theorem dX1_liveDay_113 : decode cX1_liveDay 113 = .ok (.getfield 15, 3) := by decide +kernel
theorem dX1_liveDay_116 : decode cX1_liveDay 116 = .ok (.iconst 1, 1) := by decide +kernel
theorem dX1_liveDay_117 : decode cX1_liveDay 117 = .ok (.iadd, 1) := by decide +kernel
theorem dX1_liveDay_118 : decode cX1_liveDay 118 = .ok (.putfield 15, 3) := by decide +kernel
theorem dX1_liveDay_121 : decode cX1_liveDay 121 = .ok (.return_, 1) := by decide +kernel
theorem dX1_live_0 : decode cX1_live 0 = .ok (.aload_n 0, 1) := by decide +kernel
theorem dX1_live_1 : decode cX1_live 1 = .ok (.iload_n 3, 1) := by decide +kernel
theorem dX1_live_2 : decode cX1_live 2 = .ok (.putfield 9, 3) := by decide +kernel
theorem dX1_live_5 : decode cX1_live 5 = .ok (.iconst 0, 1) := by decide +kernel
theorem dX1_live_6 : decode cX1_live 6 = .ok (.istore 4, 2) := by decide +kernel
theorem dX1_live_8 : decode cX1_live 8 = .ok (.iload 4, 2) := by decide +kernel
theorem dX1_live_10 : decode cX1_live 10 = .ok (.iload_n 2, 1) := by decide +kernel
theorem dX1_live_11 : decode cX1_live 11 = .ok (.if_icmp .ge 24, 3) := by decide +kernel
theorem dX1_live_14 : decode cX1_live 14 = .ok (.aload_n 1, 1) := by decide +kernel
theorem dX1_live_15 : decode cX1_live 15 = .ok (.getfield 15, 3) := by decide +kernel
theorem dX1_live_18 : decode cX1_live 18 = .ok (.sipush 400, 3) := by decide +kernel
theorem dX1_live_21 : decode cX1_live 21 = .ok (.if_icmp .ge 14, 3) := by decide +kernel
theorem dX1_live_24 : decode cX1_live 24 = .ok (.aload_n 0, 1) := by decide +kernel
theorem dX1_live_25 : decode cX1_live 25 = .ok (.aload_n 1, 1) := by decide +kernel
set_option maxRecDepth 20000 in
theorem ggX1_live_X1_liveDay : GoodIn wsX1_live wsX1_liveDay := goodIn_r _ [6, 7, 8, 9, 5, 10, 11, 12, 13, 14, 15, 16, 17, 18, 19, 20, 21, 22, 1, 23, 24, 25, 26, 28, 29, 30, 31, 32, 33, 34, 35, 36, 37, 38, 39, 40, 41, 42, 43, 44, 45, 46, 47, 48, 49, 50, 51, 52, 53, 54, 55, 27] (by decide +kernel) (by decide +kernel)
set_option maxRecDepth 20000 in
theorem gX1_live_X1_liveDay : GoodIn wsX1_live (wsV RX1 20 RX1 yX1_liveDay wsX1_liveDay) := goodIn_app (goodIn_of _ (by decide +kernel)) ggX1_live_X1_liveDay
theorem dX1_live_26 : decode cX1_live 26 = .ok (.invokevirtual 20, 3) := by decide +kernel
theorem dX1_live_29 : decode cX1_live 29 = .ok (.iinc 4 1, 3) := by decide +kernel
theorem dX1_live_32 : decode cX1_live 32 = .ok (.goto (-24), 3) := by decide +kernel
theorem dX1_live_35 : decode cX1_live 35 = .ok (.iload 4, 2) := by decide +kernel
theorem dX1_live_37 : decode cX1_live 37 = .ok (.ireturn, 1) := by decide +kernel
theorem dX11_days_13 : decode cX11_days 13 = .ok (.aload_n 0, 1) := by decide +kernel
theorem dX11_days_14 : decode cX11_days 14 = .ok (.getfield 60, 3) := by decide +kernel
theorem dX11_days_17 : decode cX11_days 17 = .ok (.aload_n 0, 1) := by decide +kernel
theorem dX11_days_18 : decode cX11_days 18 = .ok (.getfield 19, 3) := by decide +kernel
set_option maxRecDepth 20000 in
theorem ggX11_days_X3_mark : GoodIn wsX11_days wsX3_mark := goodIn_r _ [8, 9, 10, 11, 12, 13, 14, 15, 16, 17, 18, 19, 20, 21, 22, 23, 24, 25, 26, 27, 28, 29, 30, 31, 32, 33, 34, 35, 36, 37, 38, 39, 40, 41, 42, 43, 44, 45, 46, 47, 48, 49, 50, 51, 52, 53, 108, 109, 110, 111, 112, 113, 114, 115, 116, 117, 118, 119, 120, 121, 122, 123, 124, 125, 126, 127, 128, 129, 130, 131, 132, 133, 134, 135, 136, 137, 138] (by decide +kernel) (by decide +kernel)
set_option maxRecDepth 20000 in
theorem gX11_days_X3_mark : GoodIn wsX11_days (wsV RX11 237 RX3 yX3_mark wsX3_mark) := goodIn_app (goodIn_of _ (by decide +kernel)) ggX11_days_X3_mark
theorem dX11_days_21 : decode cX11_days 21 = .ok (.invokevirtual 237, 3) := by decide +kernel
theorem dX11_days_24 : decode cX11_days 24 = .ok (.aload_n 0, 1) := by decide +kernel
theorem dX11_days_25 : decode cX11_days 25 = .ok (.getfield 53, 3) := by decide +kernel
theorem dX11_days_28 : decode cX11_days 28 = .ok (.aload_n 0, 1) := by decide +kernel
theorem dX11_days_29 : decode cX11_days 29 = .ok (.getfield 19, 3) := by decide +kernel
theorem dX11_days_32 : decode cX11_days 32 = .ok (.iload_n 1, 1) := by decide +kernel
theorem dX11_days_33 : decode cX11_days 33 = .ok (.iload_n 2, 1) := by decide +kernel
set_option maxRecDepth 20000 in
theorem ggX11_days_X1_live : GoodIn wsX11_days wsX1_live := goodIn_r _ [58, 59, 60, 61, 62, 57, 63, 64, 65, 66, 67, 68, 69, 70, 31, 71, 34, 35, 36, 72, 73, 74, 75, 76, 77, 78, 79, 139, 111, 112, 113, 114, 115, 116, 117, 118, 119, 120, 121, 122, 123, 124, 125, 126, 127, 128, 129, 130, 131, 132, 133, 134, 135, 136, 137, 138] (by decide +kernel) (by decide +kernel)
set_option maxRecDepth 20000 in
theorem gX11_days_X1_live : GoodIn wsX11_days (wsV RX11 264 RX1 yX1_live wsX1_live) := goodIn_app (goodIn_of _ (by decide +kernel)) ggX11_days_X1_live
theorem dX11_days_34 : decode cX11_days 34 = .ok (.invokevirtual 264, 3) := by decide +kernel
theorem dX11_days_37 : decode cX11_days 37 = .ok (.istore_n 3, 1) := by decide +kernel
theorem dX11_days_38 : decode cX11_days 38 = .ok (.iload_n 3, 1) := by decide +kernel
theorem dX11_days_39 : decode cX11_days 39 = .ok (.ifCond .le 10, 3) := by decide +kernel
theorem dX11_days_42 : decode cX11_days 42 = .ok (.aload_n 0, 1) := by decide +kernel
theorem dX11_days_43 : decode cX11_days 43 = .ok (.getfield 60, 3) := by decide +kernel
set_option maxRecDepth 20000 in
theorem ggX11_days_X3_keepMarked : GoodIn wsX11_days wsX3_keepMarked := goodIn_r _ [83, 10, 84, 85, 86, 87, 88, 108, 109, 110] (by decide +kernel) (by decide +kernel)
set_option maxRecDepth 20000 in
theorem gX11_days_X3_keepMarked : GoodIn wsX11_days (wsV RX11 268 RX3 yX3_keepMarked wsX3_keepMarked) := goodIn_app (goodIn_of _ (by decide +kernel)) ggX11_days_X3_keepMarked
theorem dX11_days_46 : decode cX11_days 46 = .ok (.invokevirtual 268, 3) := by decide +kernel
theorem dX11_days_49 : decode cX11_days 49 = .ok (.iload_n 3, 1) := by decide +kernel
theorem dX11_days_50 : decode cX11_days 50 = .ok (.ireturn, 1) := by decide +kernel
theorem dX3_takeBack_0 : decode cX3_takeBack 0 = .ok (.aload_n 0, 1) := by decide +kernel
theorem dX3_takeBack_1 : decode cX3_takeBack 1 = .ok (.getfield 24, 3) := by decide +kernel
theorem dX3_takeBack_4 : decode cX3_takeBack 4 = .ok (.ifCond .ne 5, 3) := by decide +kernel
theorem dX3_takeBack_7 : decode cX3_takeBack 7 = .ok (.iconst 0, 1) := by decide +kernel
theorem dX3_takeBack_8 : decode cX3_takeBack 8 = .ok (.ireturn, 1) := by decide +kernel
theorem dX11_undo_0 : decode cX11_undo 0 = .ok (.aload_n 0, 1) := by decide +kernel
theorem dX11_undo_1 : decode cX11_undo 1 = .ok (.getfield 60, 3) := by decide +kernel
theorem dX11_undo_4 : decode cX11_undo 4 = .ok (.aload_n 0, 1) := by decide +kernel
theorem dX11_undo_5 : decode cX11_undo 5 = .ok (.getfield 19, 3) := by decide +kernel
set_option maxRecDepth 20000 in
theorem ggX11_undo_X3_takeBack : GoodIn wsX11_undo wsX3_takeBack := goodIn_r _ [7, 8, 9, 10, 11, 12, 13, 14, 15, 16, 17, 18, 19, 20, 21, 22, 23, 24, 25, 26, 27, 28, 29, 30, 31, 32, 33, 34, 35, 36, 37, 38, 39, 40, 41, 42, 43, 44, 45, 46, 47, 48, 49, 50, 51, 52, 53, 73, 74, 75, 76, 77, 78, 79, 80, 81, 82, 83, 84, 85, 86, 87, 88, 89, 90, 91, 92, 93, 94, 95, 96, 97, 98, 99, 100, 101, 102, 103] (by decide +kernel) (by decide +kernel)
set_option maxRecDepth 20000 in
theorem gX11_undo_X3_takeBack : GoodIn wsX11_undo (wsV RX11 271 RX3 yX3_takeBack wsX3_takeBack) := goodIn_app (goodIn_of _ (by decide +kernel)) ggX11_undo_X3_takeBack
theorem dX11_undo_8 : decode cX11_undo 8 = .ok (.invokevirtual 271, 3) := by decide +kernel
theorem dX11_undo_11 : decode cX11_undo 11 = .ok (.ifCond .eq 13, 3) := by decide +kernel
theorem dX11_undo_24 : decode cX11_undo 24 = .ok (.iconst (-1), 1) := by decide +kernel
theorem dX11_undo_25 : decode cX11_undo 25 = .ok (.ireturn, 1) := by decide +kernel
theorem dX11_there_0 : decode cX11_there 0 = .ok (.aload_n 0, 1) := by decide +kernel
theorem dX11_there_1 : decode cX11_there 1 = .ok (.getfield 19, 3) := by decide +kernel
theorem dX11_there_4 : decode cX11_there 4 = .ok (.iload_n 1, 1) := by decide +kernel
set_option maxRecDepth 20000 in
theorem ggX11_there_X4_hasPlace : GoodIn wsX11_there wsX4_hasPlace := goodIn_r _ [6, 7, 45, 46, 47, 48, 49, 50, 51, 52, 53, 54, 55, 56] (by decide +kernel) (by decide +kernel)
set_option maxRecDepth 20000 in
theorem gX11_there_X4_hasPlace : GoodIn wsX11_there (wsV RX11 199 RX4 yX4_hasPlace wsX4_hasPlace) := goodIn_app (goodIn_of _ (by decide +kernel)) ggX11_there_X4_hasPlace
theorem dX11_there_5 : decode cX11_there 5 = .ok (.invokevirtual 199, 3) := by decide +kernel
theorem dX11_there_8 : decode cX11_there 8 = .ok (.ifCond .eq 11, 3) := by decide +kernel
theorem dX11_there_19 : decode cX11_there 19 = .ok (.iconst (-1), 1) := by decide +kernel
theorem dX11_there_20 : decode cX11_there 20 = .ok (.ireturn, 1) := by decide +kernel
theorem dX11_meets_0 : decode cX11_meets 0 = .ok (.aload_n 0, 1) := by decide +kernel
theorem dX11_meets_1 : decode cX11_meets 1 = .ok (.getfield 19, 3) := by decide +kernel
theorem dX11_meets_4 : decode cX11_meets 4 = .ok (.iload_n 1, 1) := by decide +kernel
set_option maxRecDepth 20000 in
theorem ggX11_meets_X4_hasPerson : GoodIn wsX11_meets wsX4_hasPerson := goodIn_r _ [6, 7, 42, 43, 44, 45, 46, 47, 48, 49, 50, 51, 52, 53] (by decide +kernel) (by decide +kernel)
set_option maxRecDepth 20000 in
theorem gX11_meets_X4_hasPerson : GoodIn wsX11_meets (wsV RX11 133 RX4 yX4_hasPerson wsX4_hasPerson) := goodIn_app (goodIn_of _ (by decide +kernel)) ggX11_meets_X4_hasPerson
theorem dX11_meets_5 : decode cX11_meets 5 = .ok (.invokevirtual 133, 3) := by decide +kernel
theorem dX11_meets_8 : decode cX11_meets 8 = .ok (.ifCond .eq 19, 3) := by decide +kernel
theorem dX11_meets_27 : decode cX11_meets 27 = .ok (.iconst (-1), 1) := by decide +kernel
theorem dX11_meets_28 : decode cX11_meets 28 = .ok (.ireturn, 1) := by decide +kernel
theorem dX11_best_0 : decode cX11_best 0 = .ok (.aload_n 0, 1) := by decide +kernel
theorem dX11_best_1 : decode cX11_best 1 = .ok (.getfield 19, 3) := by decide +kernel
theorem dX11_best_4 : decode cX11_best 4 = .ok (.iload_n 1, 1) := by decide +kernel
set_option maxRecDepth 20000 in
theorem ggX11_best_X4_hasPlace : GoodIn wsX11_best wsX4_hasPlace := goodIn_r _ [8, 9, 75, 76, 77, 78, 79, 80, 81, 82, 83, 84, 85, 86] (by decide +kernel) (by decide +kernel)
set_option maxRecDepth 20000 in
theorem gX11_best_X4_hasPlace : GoodIn wsX11_best (wsV RX11 199 RX4 yX4_hasPlace wsX4_hasPlace) := goodIn_app (goodIn_of _ (by decide +kernel)) ggX11_best_X4_hasPlace
theorem dX11_best_5 : decode cX11_best 5 = .ok (.invokevirtual 199, 3) := by decide +kernel
theorem dX11_best_8 : decode cX11_best 8 = .ok (.ifCond .eq 12, 3) := by decide +kernel
theorem dX11_best_20 : decode cX11_best 20 = .ok (.iconst (-1), 1) := by decide +kernel
theorem dX11_best_21 : decode cX11_best 21 = .ok (.ireturn, 1) := by decide +kernel
theorem dX11_bestAt_0 : decode cX11_bestAt 0 = .ok (.iload_n 1, 1) := by decide +kernel
theorem dX11_bestAt_1 : decode cX11_bestAt 1 = .ok (.ifCond .ne 8, 3) := by decide +kernel
theorem dX11_bestAt_4 : decode cX11_bestAt 4 = .ok (.aload_n 0, 1) := by decide +kernel
theorem dX11_bestAt_5 : decode cX11_bestAt 5 = .ok (.getfield 94, 3) := by decide +kernel
theorem dX11_bestAt_8 : decode cX11_bestAt 8 = .ok (.ireturn, 1) := by decide +kernel
theorem dX11_bestAt_9 : decode cX11_bestAt 9 = .ok (.iload_n 1, 1) := by decide +kernel
theorem dX11_bestAt_10 : decode cX11_bestAt 10 = .ok (.iconst 1, 1) := by decide +kernel
theorem dX11_bestAt_11 : decode cX11_bestAt 11 = .ok (.if_icmp .ne 10, 3) := by decide +kernel
theorem dX11_bestAt_14 : decode cX11_bestAt 14 = .ok (.aload_n 0, 1) := by decide +kernel
theorem dX11_bestAt_15 : decode cX11_bestAt 15 = .ok (.getfield 97, 3) := by decide +kernel
theorem dX11_bestAt_18 : decode cX11_bestAt 18 = .ok (.goto 4, 3) := by decide +kernel
theorem dX11_bestAt_22 : decode cX11_bestAt 22 = .ok (.ireturn, 1) := by decide +kernel
theorem dX11_bestAt_21 : decode cX11_bestAt 21 = .ok (.iconst (-1), 1) := by decide +kernel
theorem dX9_bestFence_0 : decode cX9_bestFence 0 = .ok (.iconst (-1), 1) := by decide +kernel
theorem dX9_bestFence_1 : decode cX9_bestFence 1 = .ok (.istore_n 1, 1) := by decide +kernel
theorem dX9_bestFence_2 : decode cX9_bestFence 2 = .ok (.iconst (-1), 1) := by decide +kernel
theorem dX9_bestFence_3 : decode cX9_bestFence 3 = .ok (.istore_n 2, 1) := by decide +kernel
theorem dX9_bestFence_4 : decode cX9_bestFence 4 = .ok (.iconst 0, 1) := by decide +kernel
theorem dX9_bestFence_5 : decode cX9_bestFence 5 = .ok (.istore_n 3, 1) := by decide +kernel
theorem dX9_bestFence_6 : decode cX9_bestFence 6 = .ok (.iload_n 3, 1) := by decide +kernel
theorem dX9_bestFence_7 : decode cX9_bestFence 7 = .ok (.aload_n 0, 1) := by decide +kernel
theorem dX9_bestFence_8 : decode cX9_bestFence 8 = .ok (.getfield 37, 3) := by decide +kernel
theorem dX9_bestFence_11 : decode cX9_bestFence 11 = .ok (.if_icmp .ge 50, 3) := by decide +kernel
theorem dX9_bestFence_61 : decode cX9_bestFence 61 = .ok (.iload_n 1, 1) := by decide +kernel
theorem dX9_bestFence_62 : decode cX9_bestFence 62 = .ok (.ireturn, 1) := by decide +kernel
theorem dX11_fences_0 : decode cX11_fences 0 = .ok (.aload_n 0, 1) := by decide +kernel
theorem dX11_fences_1 : decode cX11_fences 1 = .ok (.getfield 23, 3) := by decide +kernel
theorem dX11_fences_4 : decode cX11_fences 4 = .ok (.aload_n 0, 1) := by decide +kernel
theorem dX11_fences_5 : decode cX11_fences 5 = .ok (.getfield 19, 3) := by decide +kernel
set_option maxRecDepth 20000 in
theorem ggX11_fences_X4_copyFrom : GoodIn wsX11_fences wsX4_copyFrom := goodIn_r _ [7, 8, 9, 10, 11, 12, 13, 14, 15, 16, 17, 18, 19, 20, 21, 22, 23, 24, 25, 26, 27, 28, 29, 30, 31, 32, 33, 34, 35, 36, 37, 38, 39, 40, 41, 42, 43, 44, 45, 99, 100, 101, 102, 103, 104, 105, 106, 107, 108, 109, 110, 111, 112, 113, 114, 115, 116, 117, 118, 119, 120, 121, 122, 123, 124, 125, 126] (by decide +kernel) (by decide +kernel)
set_option maxRecDepth 20000 in
theorem gX11_fences_X4_copyFrom : GoodIn wsX11_fences (wsV RX11 123 RX4 yX4_copyFrom wsX4_copyFrom) := goodIn_app (goodIn_of _ (by decide +kernel)) ggX11_fences_X4_copyFrom
theorem dX11_fences_8 : decode cX11_fences 8 = .ok (.invokevirtual 123, 3) := by decide +kernel
theorem dX11_fences_11 : decode cX11_fences 11 = .ok (.aload_n 0, 1) := by decide +kernel
theorem dX11_fences_12 : decode cX11_fences 12 = .ok (.getfield 23, 3) := by decide +kernel
set_option maxRecDepth 20000 in
theorem ggX11_fences_X9_bestFence : GoodIn wsX11_fences wsX9_bestFence := goodIn_r _ [49, 50, 51, 52, 6, 53, 9, 18, 54, 55, 56, 57, 16, 58, 59, 60, 61, 10, 17, 19, 62, 63, 64, 23, 65, 27, 28, 66, 67, 68, 69, 70, 71, 72, 73, 74, 75, 76, 77, 78, 79, 99, 100, 101, 102, 103, 104, 105, 106, 107, 108, 109, 110, 111, 112, 113, 114, 115, 116, 117, 118, 119, 120, 121, 122, 123, 124, 125, 126] (by decide +kernel) (by decide +kernel)
set_option maxRecDepth 20000 in
theorem gX11_fences_X9_bestFence : GoodIn wsX11_fences (va_wsS RX11 291 yX9_bestFence wsX9_bestFence) := goodIn_app (goodIn_of _ (by decide +kernel)) ggX11_fences_X9_bestFence
theorem dX11_fences_15 : decode cX11_fences 15 = .ok (.invokestatic 291, 3) := by decide +kernel
theorem dX11_fences_18 : decode cX11_fences 18 = .ok (.ireturn, 1) := by decide +kernel
theorem dX11_perils_0 : decode cX11_perils 0 = .ok (.aload_n 0, 1) := by decide +kernel
theorem dX11_perils_1 : decode cX11_perils 1 = .ok (.getfield 19, 3) := by decide +kernel
theorem dX11_perils_4 : decode cX11_perils 4 = .ok (.iload_n 1, 1) := by decide +kernel
set_option maxRecDepth 20000 in
theorem ggX11_perils_X4_hasPerson : GoodIn wsX11_perils wsX4_hasPerson := goodIn_r _ [6, 7, 45, 46, 47, 48, 49, 50, 51, 52, 53, 54, 55, 56] (by decide +kernel) (by decide +kernel)
set_option maxRecDepth 20000 in
theorem gX11_perils_X4_hasPerson : GoodIn wsX11_perils (wsV RX11 133 RX4 yX4_hasPerson wsX4_hasPerson) := goodIn_app (goodIn_of _ (by decide +kernel)) ggX11_perils_X4_hasPerson
theorem dX11_perils_5 : decode cX11_perils 5 = .ok (.invokevirtual 133, 3) := by decide +kernel
theorem dX11_perils_8 : decode cX11_perils 8 = .ok (.ifCond .eq 18, 3) := by decide +kernel
theorem dX11_perils_26 : decode cX11_perils 26 = .ok (.iconst (-1), 1) := by decide +kernel
theorem dX11_perils_27 : decode cX11_perils 27 = .ok (.ireturn, 1) := by decide +kernel
theorem dX9_goRound_0 : decode cX9_goRound 0 = .ok (.iconst 0, 1) := by decide +kernel
theorem dX9_goRound_1 : decode cX9_goRound 1 = .ok (.istore_n 1, 1) := by decide +kernel
theorem dX9_goRound_2 : decode cX9_goRound 2 = .ok (.iconst 0, 1) := by decide +kernel
theorem dX9_goRound_3 : decode cX9_goRound 3 = .ok (.istore_n 2, 1) := by decide +kernel
theorem dX9_goRound_4 : decode cX9_goRound 4 = .ok (.iload_n 2, 1) := by decide +kernel
theorem dX9_goRound_5 : decode cX9_goRound 5 = .ok (.aload_n 0, 1) := by decide +kernel
theorem dX9_goRound_6 : decode cX9_goRound 6 = .ok (.getfield 17, 3) := by decide +kernel
theorem dX9_goRound_9 : decode cX9_goRound 9 = .ok (.if_icmp .ge 99, 3) := by decide +kernel
theorem dX9_goRound_108 : decode cX9_goRound 108 = .ok (.iload_n 1, 1) := by decide +kernel
theorem dX9_goRound_109 : decode cX9_goRound 109 = .ok (.ireturn, 1) := by decide +kernel
theorem dX9_part_0 : decode cX9_part 0 = .ok (.iconst 1, 1) := by decide +kernel
theorem dX9_part_1 : decode cX9_part 1 = .ok (.istore_n 1, 1) := by decide +kernel
theorem dX9_part_2 : decode cX9_part 2 = .ok (.iload_n 1, 1) := by decide +kernel
theorem dX9_part_3 : decode cX9_part 3 = .ok (.bipush 30, 2) := by decide +kernel
theorem dX9_part_5 : decode cX9_part 5 = .ok (.if_icmp .gt 18, 3) := by decide +kernel
theorem dX9_part_8 : decode cX9_part 8 = .ok (.aload_n 0, 1) := by decide +kernel
set_option maxRecDepth 20000 in
theorem ggX9_part_X9_goRound : GoodIn wsX9_part wsX9_goRound := goodIn_r _ [4, 5, 6, 7, 8, 9, 10, 11, 12, 13, 14, 15, 16, 17, 18, 19, 20, 21, 22, 23, 24, 25, 26, 27, 28, 29, 30, 31, 32, 33, 34, 35, 36, 37, 38, 39, 40, 41, 42, 43, 44, 45, 46, 47, 48, 49, 50, 51, 52, 53, 54, 55, 56, 57, 58, 59, 60, 61, 62, 63, 64, 65, 66, 67] (by decide +kernel) (by decide +kernel)
set_option maxRecDepth 20000 in
theorem gX9_part_X9_goRound : GoodIn wsX9_part (va_wsS RX9 50 yX9_goRound wsX9_goRound) := goodIn_app (goodIn_of _ (by decide +kernel)) ggX9_part_X9_goRound
theorem dX9_part_9 : decode cX9_part 9 = .ok (.invokestatic 50, 3) := by decide +kernel
theorem dX9_part_12 : decode cX9_part 12 = .ok (.ifCond .ne 5, 3) := by decide +kernel
theorem dX9_part_15 : decode cX9_part 15 = .ok (.iload_n 1, 1) := by decide +kernel
theorem dX9_part_16 : decode cX9_part 16 = .ok (.ireturn, 1) := by decide +kernel
theorem dX11_rounds_0 : decode cX11_rounds 0 = .ok (.aload_n 0, 1) := by decide +kernel
theorem dX11_rounds_1 : decode cX11_rounds 1 = .ok (.getfield 23, 3) := by decide +kernel
theorem dX11_rounds_4 : decode cX11_rounds 4 = .ok (.aload_n 0, 1) := by decide +kernel
theorem dX11_rounds_5 : decode cX11_rounds 5 = .ok (.getfield 19, 3) := by decide +kernel
set_option maxRecDepth 20000 in
theorem ggX11_rounds_X4_copyFrom : GoodIn wsX11_rounds wsX4_copyFrom := goodIn_r _ [9, 10, 11, 12, 13, 14, 15, 16, 17, 18, 19, 20, 21, 22, 23, 24, 25, 26, 27, 28, 29, 30, 31, 32, 33, 34, 35, 36, 37, 38, 39, 40, 41, 42, 43, 44, 45, 46, 47, 109, 110, 111, 112, 113, 114, 115, 116, 117, 118, 119, 120, 121, 122, 123, 124, 125, 126, 127, 128, 129, 130, 131, 132, 133, 134, 135, 136] (by decide +kernel) (by decide +kernel)
set_option maxRecDepth 20000 in
theorem gX11_rounds_X4_copyFrom : GoodIn wsX11_rounds (wsV RX11 123 RX4 yX4_copyFrom wsX4_copyFrom) := goodIn_app (goodIn_of _ (by decide +kernel)) ggX11_rounds_X4_copyFrom
theorem dX11_rounds_8 : decode cX11_rounds 8 = .ok (.invokevirtual 123, 3) := by decide +kernel
theorem dX11_rounds_11 : decode cX11_rounds 11 = .ok (.aload_n 0, 1) := by decide +kernel
theorem dX11_rounds_12 : decode cX11_rounds 12 = .ok (.getfield 23, 3) := by decide +kernel
set_option maxRecDepth 20000 in
theorem ggX11_rounds_X9_part : GoodIn wsX11_rounds wsX9_part := goodIn_r _ [51, 52, 53, 50, 54, 55, 56, 57, 8, 58, 18, 59, 60, 61, 62, 12, 19, 20, 21, 63, 64, 65, 25, 66, 29, 30, 67, 68, 69, 70, 71, 72, 73, 74, 75, 76, 77, 78, 79, 80, 109, 110, 111, 112, 113, 114, 115, 116, 117, 118, 119, 120, 121, 122, 123, 124, 125, 126, 127, 128, 129, 130, 131, 132, 133, 134, 135, 136] (by decide +kernel) (by decide +kernel)
set_option maxRecDepth 20000 in
theorem gX11_rounds_X9_part : GoodIn wsX11_rounds (va_wsS RX11 310 yX9_part wsX9_part) := goodIn_app (goodIn_of _ (by decide +kernel)) ggX11_rounds_X9_part
theorem dX11_rounds_15 : decode cX11_rounds 15 = .ok (.invokestatic 310, 3) := by decide +kernel
theorem dX11_rounds_18 : decode cX11_rounds 18 = .ok (.istore_n 1, 1) := by decide +kernel
theorem dX11_rounds_19 : decode cX11_rounds 19 = .ok (.iconst 0, 1) := by decide +kernel
theorem dX11_rounds_20 : decode cX11_rounds 20 = .ok (.istore_n 2, 1) := by decide +kernel
theorem dX11_rounds_21 : decode cX11_rounds 21 = .ok (.iload_n 2, 1) := by decide +kernel
theorem dX11_rounds_22 : decode cX11_rounds 22 = .ok (.bipush 8, 2) := by decide +kernel
theorem dX11_rounds_24 : decode cX11_rounds 24 = .ok (.if_icmp .ge 42, 3) := by decide +kernel
theorem dX11_rounds_27 : decode cX11_rounds 27 = .ok (.aload_n 0, 1) := by decide +kernel
theorem dX11_rounds_28 : decode cX11_rounds 28 = .ok (.getfield 76, 3) := by decide +kernel
theorem dX11_rounds_31 : decode cX11_rounds 31 = .ok (.iload_n 2, 1) := by decide +kernel
theorem dX11_rounds_32 : decode cX11_rounds 32 = .ok (.aload_n 0, 1) := by decide +kernel
theorem dX11_rounds_33 : decode cX11_rounds 33 = .ok (.getfield 23, 3) := by decide +kernel
theorem dX11_rounds_36 : decode cX11_rounds 36 = .ok (.iload_n 2, 1) := by decide +kernel
set_option maxRecDepth 20000 in
theorem ggX11_rounds_X4_hasPerson : GoodIn wsX11_rounds wsX4_hasPerson := goodIn_r _ [84, 11, 109, 110, 111, 112, 113, 114, 115, 116, 117, 118, 119, 120] (by decide +kernel) (by decide +kernel)
set_option maxRecDepth 20000 in
theorem gX11_rounds_X4_hasPerson : GoodIn wsX11_rounds (wsV RX11 133 RX4 yX4_hasPerson wsX4_hasPerson) := goodIn_app (goodIn_of _ (by decide +kernel)) ggX11_rounds_X4_hasPerson
theorem dX11_rounds_37 : decode cX11_rounds 37 = .ok (.invokevirtual 133, 3) := by decide +kernel
theorem dX11_rounds_40 : decode cX11_rounds 40 = .ok (.ifCond .eq 18, 3) := by decide +kernel
theorem dX11_rounds_58 : decode cX11_rounds 58 = .ok (.iconst (-1), 1) := by decide +kernel
theorem dX11_rounds_59 : decode cX11_rounds 59 = .ok (.iastore, 1) := by decide +kernel
theorem dX11_rounds_60 : decode cX11_rounds 60 = .ok (.iinc 2 1, 3) := by decide +kernel
theorem dX11_rounds_63 : decode cX11_rounds 63 = .ok (.goto (-42), 3) := by decide +kernel
theorem dX11_rounds_66 : decode cX11_rounds 66 = .ok (.aload_n 0, 1) := by decide +kernel
theorem dX11_rounds_67 : decode cX11_rounds 67 = .ok (.aload_n 0, 1) := by decide +kernel
theorem dX11_rounds_68 : decode cX11_rounds 68 = .ok (.getfield 23, 3) := by decide +kernel
theorem dX11_rounds_71 : decode cX11_rounds 71 = .ok (.iconst 1, 1) := by decide +kernel
set_option maxRecDepth 20000 in
theorem ggX11_rounds_X4_goodOfAll : GoodIn wsX11_rounds wsX4_goodOfAll := goodIn_r _ [88, 11, 20, 89, 56, 57, 8, 58, 18, 59, 60, 61, 62, 12, 19, 21, 63, 64, 65, 25, 66, 29, 30, 67, 68, 69, 70, 71, 72, 73, 74, 75, 76, 77, 78, 79, 80, 109, 110, 111, 112, 113, 114, 115, 116, 117, 118, 119, 120, 121, 122, 123, 124, 125, 126, 127, 128, 129, 130, 131, 132, 133, 134, 135, 136] (by decide +kernel) (by decide +kernel)
set_option maxRecDepth 20000 in
theorem gX11_rounds_X4_goodOfAll : GoodIn wsX11_rounds (wsV RX11 226 RX4 yX4_goodOfAll wsX4_goodOfAll) := goodIn_app (goodIn_of _ (by decide +kernel)) ggX11_rounds_X4_goodOfAll
theorem dX11_rounds_72 : decode cX11_rounds 72 = .ok (.invokevirtual 226, 3) := by decide +kernel
theorem dX11_rounds_75 : decode cX11_rounds 75 = .ok (.putfield 90, 3) := by decide +kernel
theorem dX11_rounds_78 : decode cX11_rounds 78 = .ok (.iload_n 1, 1) := by decide +kernel
theorem dX11_rounds_79 : decode cX11_rounds 79 = .ok (.ireturn, 1) := by decide +kernel
theorem dX11_parted_0 : decode cX11_parted 0 = .ok (.iload_n 1, 1) := by decide +kernel
theorem dX11_parted_1 : decode cX11_parted 1 = .ok (.ifCond .lt 18, 3) := by decide +kernel
theorem dX11_parted_4 : decode cX11_parted 4 = .ok (.iload_n 1, 1) := by decide +kernel
theorem dX11_parted_5 : decode cX11_parted 5 = .ok (.bipush 8, 2) := by decide +kernel
theorem dX11_parted_7 : decode cX11_parted 7 = .ok (.if_icmp .ge 12, 3) := by decide +kernel
theorem dX11_parted_10 : decode cX11_parted 10 = .ok (.aload_n 0, 1) := by decide +kernel
theorem dX11_parted_11 : decode cX11_parted 11 = .ok (.getfield 76, 3) := by decide +kernel
theorem dX11_parted_14 : decode cX11_parted 14 = .ok (.iload_n 1, 1) := by decide +kernel
theorem dX11_parted_15 : decode cX11_parted 15 = .ok (.iaload, 1) := by decide +kernel
theorem dX11_parted_16 : decode cX11_parted 16 = .ok (.goto 4, 3) := by decide +kernel
theorem dX11_parted_20 : decode cX11_parted 20 = .ok (.ireturn, 1) := by decide +kernel
theorem dX11_parted_19 : decode cX11_parted 19 = .ok (.iconst (-1), 1) := by decide +kernel
theorem dX11_partedGood_0 : decode cX11_partedGood 0 = .ok (.aload_n 0, 1) := by decide +kernel
theorem dX11_partedGood_1 : decode cX11_partedGood 1 = .ok (.getfield 90, 3) := by decide +kernel
theorem dX11_partedGood_4 : decode cX11_partedGood 4 = .ok (.ireturn, 1) := by decide +kernel
theorem dX11_tracks_0 : decode cX11_tracks 0 = .ok (.aload_n 0, 1) := by decide +kernel
theorem dX11_tracks_1 : decode cX11_tracks 1 = .ok (.getfield 10, 3) := by decide +kernel
theorem dX11_tracks_4 : decode cX11_tracks 4 = .ok (.getfield 100, 3) := by decide +kernel
theorem dX11_tracks_7 : decode cX11_tracks 7 = .ok (.iconst 2, 1) := by decide +kernel
theorem dX11_tracks_8 : decode cX11_tracks 8 = .ok (.irem, 1) := by decide +kernel
theorem dX11_tracks_9 : decode cX11_tracks 9 = .ok (.ifCond .ne 36, 3) := by decide +kernel
theorem dX11_tracks_12 : decode cX11_tracks 12 = .ok (.aload_n 0, 1) := by decide +kernel
theorem dX11_tracks_13 : decode cX11_tracks 13 = .ok (.getfield 10, 3) := by decide +kernel
theorem dX11_tracks_16 : decode cX11_tracks 16 = .ok (.getfield 100, 3) := by decide +kernel
theorem dX11_tracks_19 : decode cX11_tracks 19 = .ok (.iconst 2, 1) := by decide +kernel
theorem dX11_tracks_20 : decode cX11_tracks 20 = .ok (.if_icmp .lt 25, 3) := by decide +kernel
theorem dX11_tracks_45 : decode cX11_tracks 45 = .ok (.iconst (-1), 1) := by decide +kernel
theorem dX11_tracks_46 : decode cX11_tracks 46 = .ok (.istore_n 1, 1) := by decide +kernel
theorem dX11_tracks_47 : decode cX11_tracks 47 = .ok (.iconst 0, 1) := by decide +kernel
theorem dX11_tracks_48 : decode cX11_tracks 48 = .ok (.istore_n 2, 1) := by decide +kernel
theorem dX11_tracks_49 : decode cX11_tracks 49 = .ok (.iload_n 2, 1) := by decide +kernel
theorem dX11_tracks_50 : decode cX11_tracks 50 = .ok (.iconst 1, 1) := by decide +kernel
theorem dX11_tracks_51 : decode cX11_tracks 51 = .ok (.iadd, 1) := by decide +kernel
theorem dX11_tracks_52 : decode cX11_tracks 52 = .ok (.aload_n 0, 1) := by decide +kernel
theorem dX11_tracks_53 : decode cX11_tracks 53 = .ok (.getfield 10, 3) := by decide +kernel
theorem dX11_tracks_56 : decode cX11_tracks 56 = .ok (.getfield 100, 3) := by decide +kernel
theorem dX11_tracks_59 : decode cX11_tracks 59 = .ok (.if_icmp .ge 70, 3) := by decide +kernel
theorem dX11_tracks_129 : decode cX11_tracks 129 = .ok (.aload_n 0, 1) := by decide +kernel
theorem dX11_tracks_130 : decode cX11_tracks 130 = .ok (.getfield 10, 3) := by decide +kernel
theorem dX11_tracks_133 : decode cX11_tracks 133 = .ok (.iconst 0, 1) := by decide +kernel
theorem dX11_tracks_134 : decode cX11_tracks 134 = .ok (.putfield 100, 3) := by decide +kernel
theorem dX11_tracks_137 : decode cX11_tracks 137 = .ok (.iload_n 1, 1) := by decide +kernel
theorem dX11_tracks_138 : decode cX11_tracks 138 = .ok (.ireturn, 1) := by decide +kernel
theorem dX11_votes_0 : decode cX11_votes 0 = .ok (.aload_n 0, 1) := by decide +kernel
theorem dX11_votes_1 : decode cX11_votes 1 = .ok (.getfield 19, 3) := by decide +kernel
theorem dX11_votes_4 : decode cX11_votes 4 = .ok (.iload_n 1, 1) := by decide +kernel
set_option maxRecDepth 20000 in
theorem ggX11_votes_X4_hasPlace : GoodIn wsX11_votes wsX4_hasPlace := goodIn_r _ [6, 7, 33, 34, 35, 36, 37, 38, 39, 40, 41, 42, 43, 44] (by decide +kernel) (by decide +kernel)
set_option maxRecDepth 20000 in
theorem gX11_votes_X4_hasPlace : GoodIn wsX11_votes (wsV RX11 199 RX4 yX4_hasPlace wsX4_hasPlace) := goodIn_app (goodIn_of _ (by decide +kernel)) ggX11_votes_X4_hasPlace
theorem dX11_votes_5 : decode cX11_votes 5 = .ok (.invokevirtual 199, 3) := by decide +kernel
theorem dX11_votes_8 : decode cX11_votes 8 = .ok (.ifCond .eq 16, 3) := by decide +kernel
theorem dX11_votes_24 : decode cX11_votes 24 = .ok (.iconst (-1), 1) := by decide +kernel
theorem dX11_votes_25 : decode cX11_votes 25 = .ok (.ireturn, 1) := by decide +kernel
theorem dX11_against_0 : decode cX11_against 0 = .ok (.aload_n 0, 1) := by decide +kernel
theorem dX11_against_1 : decode cX11_against 1 = .ok (.getfield 19, 3) := by decide +kernel
theorem dX11_against_4 : decode cX11_against 4 = .ok (.iload_n 1, 1) := by decide +kernel
set_option maxRecDepth 20000 in
theorem ggX11_against_X4_hasPlace : GoodIn wsX11_against wsX4_hasPlace := goodIn_r _ [6, 7, 33, 34, 35, 36, 37, 38, 39, 40, 41, 42, 43, 44] (by decide +kernel) (by decide +kernel)
set_option maxRecDepth 20000 in
theorem gX11_against_X4_hasPlace : GoodIn wsX11_against (wsV RX11 199 RX4 yX4_hasPlace wsX4_hasPlace) := goodIn_app (goodIn_of _ (by decide +kernel)) ggX11_against_X4_hasPlace
theorem dX11_against_5 : decode cX11_against 5 = .ok (.invokevirtual 199, 3) := by decide +kernel
theorem dX11_against_8 : decode cX11_against 8 = .ok (.ifCond .eq 16, 3) := by decide +kernel
theorem dX11_against_24 : decode cX11_against 24 = .ok (.iconst (-1), 1) := by decide +kernel
theorem dX11_against_25 : decode cX11_against 25 = .ok (.ireturn, 1) := by decide +kernel
theorem dX11_missed_0 : decode cX11_missed 0 = .ok (.aload_n 0, 1) := by decide +kernel
theorem dX11_missed_1 : decode cX11_missed 1 = .ok (.getfield 19, 3) := by decide +kernel
theorem dX11_missed_4 : decode cX11_missed 4 = .ok (.iload_n 1, 1) := by decide +kernel
set_option maxRecDepth 20000 in
theorem ggX11_missed_X4_hasPlace : GoodIn wsX11_missed wsX4_hasPlace := goodIn_r _ [6, 7, 33, 34, 35, 36, 37, 38, 39, 40, 41, 42, 43, 44] (by decide +kernel) (by decide +kernel)
set_option maxRecDepth 20000 in
theorem gX11_missed_X4_hasPlace : GoodIn wsX11_missed (wsV RX11 199 RX4 yX4_hasPlace wsX4_hasPlace) := goodIn_app (goodIn_of _ (by decide +kernel)) ggX11_missed_X4_hasPlace
theorem dX11_missed_5 : decode cX11_missed 5 = .ok (.invokevirtual 199, 3) := by decide +kernel
theorem dX11_missed_8 : decode cX11_missed 8 = .ok (.ifCond .eq 16, 3) := by decide +kernel
theorem dX11_missed_24 : decode cX11_missed 24 = .ok (.iconst (-1), 1) := by decide +kernel
theorem dX11_missed_25 : decode cX11_missed 25 = .ok (.ireturn, 1) := by decide +kernel
theorem dX11_board_0 : decode cX11_board 0 = .ok (.aload_n 0, 1) := by decide +kernel
theorem dX11_board_1 : decode cX11_board 1 = .ok (.getfield 19, 3) := by decide +kernel
theorem dX11_board_4 : decode cX11_board 4 = .ok (.iload_n 1, 1) := by decide +kernel
set_option maxRecDepth 20000 in
theorem ggX11_board_X4_hasPlace : GoodIn wsX11_board wsX4_hasPlace := goodIn_r _ [7, 8, 265, 266, 267, 268, 269, 270, 271, 272, 273, 274, 275, 276] (by decide +kernel) (by decide +kernel)
set_option maxRecDepth 20000 in
theorem gX11_board_X4_hasPlace : GoodIn wsX11_board (wsV RX11 199 RX4 yX4_hasPlace wsX4_hasPlace) := goodIn_app (goodIn_of _ (by decide +kernel)) ggX11_board_X4_hasPlace
theorem dX11_board_5 : decode cX11_board 5 = .ok (.invokevirtual 199, 3) := by decide +kernel
theorem dX11_board_8 : decode cX11_board 8 = .ok (.ifCond .ne 5, 3) := by decide +kernel
theorem dX11_board_11 : decode cX11_board 11 = .ok (.iconst (-1), 1) := by decide +kernel
theorem dX11_board_12 : decode cX11_board 12 = .ok (.ireturn, 1) := by decide +kernel
theorem dJ5_length_8abf5_0 : decode cJ5_length_8abf5 0 = .ok (.aload_n 0, 1) := by decide +kernel
theorem dJ5_length_8abf5_1 : decode cJ5_length_8abf5 1 = .ok (.getfield 79, 3) := by decide +kernel
theorem dJ5_length_8abf5_4 : decode cJ5_length_8abf5 4 = .ok (.ireturn, 1) := by decide +kernel
theorem dJ4_length_8abf5_0 : decode cJ4_length_8abf5 0 = .ok (.aload_n 0, 1) := by decide +kernel
set_option maxRecDepth 20000 in
theorem ggJ4_length_8abf5_J5_length_8abf5 : GoodIn wsJ4_length_8abf5 wsJ5_length_8abf5 := goodIn_r _ [6, 7, 8, 9, 10, 11] (by decide +kernel) (by decide +kernel)
set_option maxRecDepth 20000 in
theorem gJ4_length_8abf5_J5_length_8abf5_s343 : GoodIn wsJ4_length_8abf5 (va_wsSU RJ4 343 yJ5_length_8abf5 wsJ5_length_8abf5) := goodIn_app (goodIn_of _ (by decide +kernel)) ggJ4_length_8abf5_J5_length_8abf5
theorem dJ4_length_8abf5_1 : decode cJ4_length_8abf5 1 = .ok (.invokespecial 343, 3) := by decide +kernel
theorem dJ4_length_8abf5_4 : decode cJ4_length_8abf5 4 = .ok (.ireturn, 1) := by decide +kernel
theorem dX11_byteAt_0 : decode cX11_byteAt 0 = .ok (.iload_n 1, 1) := by decide +kernel
theorem dX11_byteAt_1 : decode cX11_byteAt 1 = .ok (.ifCond .lt 14, 3) := by decide +kernel
theorem dX11_byteAt_15 : decode cX11_byteAt 15 = .ok (.iconst (-1), 1) := by decide +kernel
theorem dX11_byteAt_16 : decode cX11_byteAt 16 = .ok (.ireturn, 1) := by decide +kernel
theorem dX11_byteAt_4 : decode cX11_byteAt 4 = .ok (.iload_n 1, 1) := by decide +kernel
theorem dX11_byteAt_5 : decode cX11_byteAt 5 = .ok (.aload_n 0, 1) := by decide +kernel
theorem dX11_byteAt_6 : decode cX11_byteAt 6 = .ok (.getfield 86, 3) := by decide +kernel
set_option maxRecDepth 20000 in
theorem ggX11_byteAt_J4_length_8abf5 : GoodIn wsX11_byteAt wsJ4_length_8abf5 := goodIn_r _ [6, 7, 8, 9, 10, 11, 12, 13, 66, 67, 68, 69] (by decide +kernel) (by decide +kernel)
set_option maxRecDepth 20000 in
theorem gX11_byteAt_J4_length_8abf5 : GoodIn wsX11_byteAt (wsV RX11 340 RJ4 yJ4_length_8abf5 wsJ4_length_8abf5) := goodIn_app (goodIn_of _ (by decide +kernel)) ggX11_byteAt_J4_length_8abf5
theorem dX11_byteAt_9 : decode cX11_byteAt 9 = .ok (.invokevirtual 340, 3) := by decide +kernel
theorem dX11_byteAt_12 : decode cX11_byteAt 12 = .ok (.if_icmp .lt 5, 3) := by decide +kernel
theorem dX11_odds_0 : decode cX11_odds 0 = .ok (.aload_n 0, 1) := by decide +kernel
theorem dX11_odds_1 : decode cX11_odds 1 = .ok (.getfield 19, 3) := by decide +kernel
theorem dX11_odds_4 : decode cX11_odds 4 = .ok (.iload_n 1, 1) := by decide +kernel
set_option maxRecDepth 20000 in
theorem ggX11_odds_X4_hasPerson : GoodIn wsX11_odds wsX4_hasPerson := goodIn_r _ [8, 9, 96, 97, 98, 99, 100, 101, 102, 103, 104, 105, 106, 107] (by decide +kernel) (by decide +kernel)
set_option maxRecDepth 20000 in
theorem gX11_odds_X4_hasPerson : GoodIn wsX11_odds (wsV RX11 133 RX4 yX4_hasPerson wsX4_hasPerson) := goodIn_app (goodIn_of _ (by decide +kernel)) ggX11_odds_X4_hasPerson
theorem dX11_odds_5 : decode cX11_odds 5 = .ok (.invokevirtual 133, 3) := by decide +kernel
theorem dX11_odds_8 : decode cX11_odds 8 = .ok (.ifCond .eq 14, 3) := by decide +kernel
theorem dX11_odds_22 : decode cX11_odds 22 = .ok (.iconst (-1), 1) := by decide +kernel
theorem dX11_odds_23 : decode cX11_odds 23 = .ok (.ireturn, 1) := by decide +kernel
theorem dX0_readAll_0 : decode cX0_readAll 0 = .ok (.aload_n 0, 1) := by decide +kernel
theorem dX0_readAll_1 : decode cX0_readAll 1 = .ok (.iconst 0, 1) := by decide +kernel
theorem dX0_readAll_2 : decode cX0_readAll 2 = .ok (.putfield 30, 3) := by decide +kernel
theorem dX0_readAll_5 : decode cX0_readAll 5 = .ok (.iconst 1, 1) := by decide +kernel
theorem dX0_readAll_6 : decode cX0_readAll 6 = .ok (.istore_n 3, 1) := by decide +kernel
theorem dX0_readAll_7 : decode cX0_readAll 7 = .ok (.iconst 0, 1) := by decide +kernel
theorem dX0_readAll_8 : decode cX0_readAll 8 = .ok (.istore 4, 2) := by decide +kernel
theorem dX0_readAll_10 : decode cX0_readAll 10 = .ok (.iload 4, 2) := by decide +kernel
theorem dX0_readAll_12 : decode cX0_readAll 12 = .ok (.bipush 40, 2) := by decide +kernel
theorem dX0_readAll_14 : decode cX0_readAll 14 = .ok (.if_icmp .gt 68, 3) := by decide +kernel
theorem dX0_readAll_17 : decode cX0_readAll 17 = .ok (.iload_n 3, 1) := by decide +kernel
theorem dX0_readAll_18 : decode cX0_readAll 18 = .ok (.ifCond .eq 64, 3) := by decide +kernel
theorem dX0_readAll_21 : decode cX0_readAll 21 = .ok (.aload_n 1, 1) := by decide +kernel
theorem dX0_readAll_22 : decode cX0_readAll 22 = .ok (.getfield 34, 3) := by decide +kernel
theorem dX0_readAll_25 : decode cX0_readAll 25 = .ok (.iconst 3, 1) := by decide +kernel
theorem dX0_readAll_26 : decode cX0_readAll 26 = .ok (.if_icmp .eq 56, 3) := by decide +kernel
theorem dX0_readAll_82 : decode cX0_readAll 82 = .ok (.return_, 1) := by decide +kernel
theorem dX0_liveAll_0 : decode cX0_liveAll 0 = .ok (.aload_n 0, 1) := by decide +kernel
theorem dX0_liveAll_1 : decode cX0_liveAll 1 = .ok (.iconst 0, 1) := by decide +kernel
theorem dX0_liveAll_2 : decode cX0_liveAll 2 = .ok (.putfield 125, 3) := by decide +kernel
theorem dX0_liveAll_5 : decode cX0_liveAll 5 = .ok (.iconst 0, 1) := by decide +kernel
theorem dX0_liveAll_6 : decode cX0_liveAll 6 = .ok (.istore_n 3, 1) := by decide +kernel
theorem dX0_liveAll_7 : decode cX0_liveAll 7 = .ok (.iload_n 3, 1) := by decide +kernel
theorem dX0_liveAll_8 : decode cX0_liveAll 8 = .ok (.aload_n 0, 1) := by decide +kernel
theorem dX0_liveAll_9 : decode cX0_liveAll 9 = .ok (.getfield 30, 3) := by decide +kernel
theorem dX0_liveAll_12 : decode cX0_liveAll 12 = .ok (.if_icmp .ge 29, 3) := by decide +kernel
theorem dX0_liveAll_41 : decode cX0_liveAll 41 = .ok (.aload_n 0, 1) := by decide +kernel
theorem dX0_liveAll_42 : decode cX0_liveAll 42 = .ok (.getfield 30, 3) := by decide +kernel
theorem dX0_liveAll_45 : decode cX0_liveAll 45 = .ok (.ireturn, 1) := by decide +kernel
theorem dX11_book_0 : decode cX11_book 0 = .ok (.iload_n 1, 1) := by decide +kernel
theorem dX11_book_1 : decode cX11_book 1 = .ok (.ifCond .eq 12, 3) := by decide +kernel
theorem dX11_book_13 : decode cX11_book 13 = .ok (.aload_n 0, 1) := by decide +kernel
theorem dX11_book_14 : decode cX11_book 14 = .ok (.getfield 10, 3) := by decide +kernel
theorem dX11_book_17 : decode cX11_book 17 = .ok (.sipush 400, 3) := by decide +kernel
set_option maxRecDepth 20000 in
theorem ggX11_book_X8_open : GoodIn wsX11_book wsX8_open := goodIn_r _ [13, 14, 15, 16, 17, 18, 19, 20, 12, 21, 22, 23, 24, 25, 26, 27, 28, 29, 30, 31, 32, 33, 34, 35, 36, 37, 38, 39, 40, 41, 42, 43, 44, 45, 46, 47, 48, 49, 50, 51, 52, 53, 54, 55, 56, 57, 58, 59, 60, 61, 62, 63, 64, 65, 66, 67, 68, 69, 70, 71, 72, 73, 74, 75, 76, 77, 78, 79, 80, 81, 82, 83, 84, 85, 86, 87, 88, 89, 90, 91, 92, 93, 94, 95, 96, 97, 98, 320, 321, 322, 323, 324, 325, 326, 327, 328, 329, 330, 331, 332, 333, 334] (by decide +kernel) (by decide +kernel)
set_option maxRecDepth 20000 in
theorem gX11_book_X8_open : GoodIn wsX11_book (wsV RX11 107 RX8 yX8_open wsX8_open) := goodIn_app (goodIn_of _ (by decide +kernel)) ggX11_book_X8_open
theorem dX11_book_20 : decode cX11_book 20 = .ok (.invokevirtual 107, 3) := by decide +kernel
theorem dX11_book_23 : decode cX11_book 23 = .ok (.aload_n 0, 1) := by decide +kernel
theorem dX11_book_24 : decode cX11_book 24 = .ok (.getfield 36, 3) := by decide +kernel
theorem dX11_book_27 : decode cX11_book 27 = .ok (.aload_n 0, 1) := by decide +kernel
theorem dX11_book_28 : decode cX11_book 28 = .ok (.getfield 10, 3) := by decide +kernel
theorem dX11_book_31 : decode cX11_book 31 = .ok (.aload_n 0, 1) := by decide +kernel
theorem dX11_book_32 : decode cX11_book 32 = .ok (.getfield 19, 3) := by decide +kernel
set_option maxRecDepth 20000 in
theorem ggX11_book_X0_readAll : GoodIn wsX11_book wsX0_readAll := goodIn_r _ [103, 104, 105, 106, 107, 102, 108, 109, 110, 111, 112, 113, 114, 115, 116, 117, 118, 119, 120, 121, 122, 123, 124, 125, 126, 127, 128, 12, 129, 16, 26, 17, 130, 131, 132, 133, 134, 135, 136, 137, 138, 139, 140, 141, 142, 143, 144, 145, 146, 147, 19, 20, 21, 22, 23, 15, 24, 25, 14, 27, 28, 29, 30, 31, 32, 33, 34, 35, 36, 37, 38, 39, 40, 41, 42, 43, 44, 45, 46, 47, 48, 49, 50, 51, 52, 53, 54, 55, 56, 57, 58, 59, 60, 61, 62, 63, 64, 65, 66, 67, 68, 69, 70, 71, 72, 73, 74, 75, 76, 77, 78, 79, 80, 81, 82, 83, 84, 85, 86, 87, 88, 89, 90, 91, 92, 93, 94, 95, 96, 97, 98, 148, 149, 150, 151, 152, 153, 154, 155, 18, 156, 157, 158, 159, 160, 161, 162, 163, 164, 165, 166, 167, 168, 169, 170, 171, 172, 173, 174, 335, 336, 337, 338, 339, 340, 341, 320, 321, 322, 323, 324, 325, 326, 327, 328, 329, 330, 331, 332, 333, 334, 342, 343, 344, 345, 346, 347, 348, 349, 350, 351, 352, 353, 354, 355, 356, 357, 358, 359, 360, 361, 362, 363, 364, 365, 366, 367, 368, 369] (by decide +kernel) (by decide +kernel)
set_option maxRecDepth 20000 in
theorem gX11_book_X0_readAll : GoodIn wsX11_book (wsV RX11 347 RX0 yX0_readAll wsX0_readAll) := goodIn_app (goodIn_of _ (by decide +kernel)) ggX11_book_X0_readAll
theorem dX11_book_35 : decode cX11_book 35 = .ok (.invokevirtual 347, 3) := by decide +kernel
theorem dX11_book_38 : decode cX11_book 38 = .ok (.aload_n 0, 1) := by decide +kernel
set_option maxRecDepth 20000 in
theorem ggX11_book_X11_closeTape : GoodIn wsX11_book wsX11_closeTape := goodIn_r _ [179, 1, 4, 301, 302, 303, 304, 305, 306, 307, 308, 309, 310, 311, 312, 313, 314, 315, 316, 317, 318, 319, 320, 321, 322, 323, 324, 325, 326, 327, 328, 329, 330, 331, 332, 333, 334] (by decide +kernel) (by decide +kernel)
set_option maxRecDepth 20000 in
theorem gX11_book_X11_closeTape : GoodIn wsX11_book (wsV RX11 114 RX11 yX11_closeTape wsX11_closeTape) := goodIn_app (goodIn_of _ (by decide +kernel)) ggX11_book_X11_closeTape
theorem dX11_book_39 : decode cX11_book 39 = .ok (.invokevirtual 114, 3) := by decide +kernel
theorem dX11_book_42 : decode cX11_book 42 = .ok (.aload_n 0, 1) := by decide +kernel
theorem dX11_book_43 : decode cX11_book 43 = .ok (.getfield 117, 3) := by decide +kernel
theorem dX11_book_46 : decode cX11_book 46 = .ok (.ifCond .eq 14, 3) := by decide +kernel
theorem dX11_book_60 : decode cX11_book 60 = .ok (.iload_n 1, 1) := by decide +kernel
theorem dX11_book_61 : decode cX11_book 61 = .ok (.iconst 1, 1) := by decide +kernel
theorem dX11_book_62 : decode cX11_book 62 = .ok (.if_icmp .ne 10, 3) := by decide +kernel
theorem dX11_book_72 : decode cX11_book 72 = .ok (.aload_n 0, 1) := by decide +kernel
theorem dX11_book_73 : decode cX11_book 73 = .ok (.getfield 23, 3) := by decide +kernel
theorem dX11_book_76 : decode cX11_book 76 = .ok (.astore_n 2, 1) := by decide +kernel
theorem dX11_book_77 : decode cX11_book 77 = .ok (.iload_n 1, 1) := by decide +kernel
theorem dX11_book_78 : decode cX11_book 78 = .ok (.iconst 1, 1) := by decide +kernel
theorem dX11_book_79 : decode cX11_book 79 = .ok (.if_icmp .ne 24, 3) := by decide +kernel
theorem dX11_book_103 : decode cX11_book 103 = .ok (.aload_n 0, 1) := by decide +kernel
theorem dX11_book_104 : decode cX11_book 104 = .ok (.getfield 23, 3) := by decide +kernel
theorem dX11_book_107 : decode cX11_book 107 = .ok (.aload_n 0, 1) := by decide +kernel
theorem dX11_book_108 : decode cX11_book 108 = .ok (.getfield 19, 3) := by decide +kernel
set_option maxRecDepth 20000 in
theorem ggX11_book_X4_copyFrom : GoodIn wsX11_book wsX4_copyFrom := goodIn_r _ [190, 120, 121, 122, 191, 192, 193, 194, 123, 195, 196, 124, 125, 197, 198, 199, 200, 201, 202, 203, 204, 205, 206, 207, 208, 209, 210, 211, 212, 213, 214, 215, 216, 217, 218, 219, 220, 221, 222, 342, 343, 344, 345, 346, 347, 348, 349, 350, 351, 352, 353, 354, 355, 356, 357, 358, 359, 360, 361, 362, 363, 364, 365, 366, 367, 368, 369] (by decide +kernel) (by decide +kernel)
set_option maxRecDepth 20000 in
theorem gX11_book_X4_copyFrom : GoodIn wsX11_book (wsV RX11 123 RX4 yX4_copyFrom wsX4_copyFrom) := goodIn_app (goodIn_of _ (by decide +kernel)) ggX11_book_X4_copyFrom
theorem dX11_book_111 : decode cX11_book 111 = .ok (.invokevirtual 123, 3) := by decide +kernel
theorem dX11_book_114 : decode cX11_book 114 = .ok (.aload_n 0, 1) := by decide +kernel
theorem dX11_book_115 : decode cX11_book 115 = .ok (.getfield 36, 3) := by decide +kernel
theorem dX11_book_118 : decode cX11_book 118 = .ok (.aload_n 2, 1) := by decide +kernel
theorem dX11_book_119 : decode cX11_book 119 = .ok (.aload_n 0, 1) := by decide +kernel
theorem dX11_book_120 : decode cX11_book 120 = .ok (.getfield 53, 3) := by decide +kernel
set_option maxRecDepth 20000 in
theorem ggX11_book_X0_liveAll : GoodIn wsX11_book wsX0_liveAll := goodIn_r _ [236, 237, 104, 238, 239, 240, 102, 241, 134, 110, 139, 140, 141, 111, 112, 113, 138, 136, 137, 146, 242, 243, 244, 118, 245, 195, 246, 178, 247, 248, 249, 250, 251, 252, 253, 254, 255, 256, 257, 258, 196, 259, 260, 261, 262, 191, 263, 264, 265, 266, 125, 267, 268, 269, 270, 124, 271, 272, 273, 274, 275, 276, 277, 278, 279, 280, 281, 282, 283, 284, 285, 286, 287, 200, 288, 203, 204, 205, 289, 290, 291, 292, 293, 294, 295, 296, 335, 336, 337, 338, 339, 340, 341, 342, 343, 344, 345, 346, 347, 348, 349, 350, 351, 352, 353, 363, 364, 365, 366, 367, 368, 369, 354, 355, 356, 357, 358, 359, 360, 361, 362, 373] (by decide +kernel) (by decide +kernel)
set_option maxRecDepth 20000 in
theorem gX11_book_X0_liveAll : GoodIn wsX11_book (wsV RX11 350 RX0 yX0_liveAll wsX0_liveAll) := goodIn_app (goodIn_of _ (by decide +kernel)) ggX11_book_X0_liveAll
theorem dX11_book_123 : decode cX11_book 123 = .ok (.invokevirtual 350, 3) := by decide +kernel
theorem dX11_book_126 : decode cX11_book 126 = .ok (.istore_n 3, 1) := by decide +kernel
theorem dX11_book_127 : decode cX11_book 127 = .ok (.aload_n 0, 1) := by decide +kernel
theorem dX11_book_128 : decode cX11_book 128 = .ok (.getfield 80, 3) := by decide +kernel
theorem dX11_book_131 : decode cX11_book 131 = .ok (.iconst 0, 1) := by decide +kernel
theorem dX11_book_132 : decode cX11_book 132 = .ok (.aload_n 0, 1) := by decide +kernel
theorem dX11_book_133 : decode cX11_book 133 = .ok (.getfield 36, 3) := by decide +kernel
theorem dX11_book_136 : decode cX11_book 136 = .ok (.getfield 354, 3) := by decide +kernel
theorem dX11_book_139 : decode cX11_book 139 = .ok (.iastore, 1) := by decide +kernel
theorem dX11_book_140 : decode cX11_book 140 = .ok (.aload_n 0, 1) := by decide +kernel
theorem dX11_book_141 : decode cX11_book 141 = .ok (.getfield 80, 3) := by decide +kernel
theorem dX11_book_144 : decode cX11_book 144 = .ok (.iconst 1, 1) := by decide +kernel
theorem dX11_book_145 : decode cX11_book 145 = .ok (.iload_n 3, 1) := by decide +kernel
theorem dX11_book_146 : decode cX11_book 146 = .ok (.iastore, 1) := by decide +kernel
theorem dX11_book_147 : decode cX11_book 147 = .ok (.aload_n 0, 1) := by decide +kernel
theorem dX11_book_148 : decode cX11_book 148 = .ok (.getfield 80, 3) := by decide +kernel
theorem dX11_book_151 : decode cX11_book 151 = .ok (.iconst 2, 1) := by decide +kernel
theorem dX11_book_152 : decode cX11_book 152 = .ok (.aload_n 2, 1) := by decide +kernel
theorem dX11_book_153 : decode cX11_book 153 = .ok (.getfield 212, 3) := by decide +kernel
theorem dX11_book_156 : decode cX11_book 156 = .ok (.iastore, 1) := by decide +kernel
theorem dX11_book_157 : decode cX11_book 157 = .ok (.aload_n 0, 1) := by decide +kernel
theorem dX11_book_158 : decode cX11_book 158 = .ok (.getfield 80, 3) := by decide +kernel
theorem dX11_book_161 : decode cX11_book 161 = .ok (.iconst 3, 1) := by decide +kernel
theorem dX11_book_162 : decode cX11_book 162 = .ok (.aload_n 2, 1) := by decide +kernel
set_option maxRecDepth 20000 in
theorem ggX11_book_X4_awayBits : GoodIn wsX11_book wsX4_awayBits := goodIn_r _ [300, 121, 124, 342, 343, 344, 345, 346, 347, 348, 349, 350, 351, 352, 353, 354, 355, 356, 357, 358, 359, 360, 361, 362] (by decide +kernel) (by decide +kernel)
set_option maxRecDepth 20000 in
theorem gX11_book_X4_awayBits : GoodIn wsX11_book (wsV RX11 215 RX4 yX4_awayBits wsX4_awayBits) := goodIn_app (goodIn_of _ (by decide +kernel)) ggX11_book_X4_awayBits
theorem dX11_book_163 : decode cX11_book 163 = .ok (.invokevirtual 215, 3) := by decide +kernel
theorem dX11_book_166 : decode cX11_book 166 = .ok (.iastore, 1) := by decide +kernel
theorem dX11_book_167 : decode cX11_book 167 = .ok (.aload_n 0, 1) := by decide +kernel
theorem dX11_book_168 : decode cX11_book 168 = .ok (.getfield 36, 3) := by decide +kernel
theorem dX11_book_171 : decode cX11_book 171 = .ok (.getfield 354, 3) := by decide +kernel
theorem dX11_book_174 : decode cX11_book 174 = .ok (.ifCond .ne 7, 3) := by decide +kernel
theorem dX11_book_177 : decode cX11_book 177 = .ok (.iconst (-1), 1) := by decide +kernel
theorem dX11_book_178 : decode cX11_book 178 = .ok (.goto 4, 3) := by decide +kernel
theorem dX11_book_182 : decode cX11_book 182 = .ok (.ireturn, 1) := by decide +kernel
theorem dX11_book_4 : decode cX11_book 4 = .ok (.iload_n 1, 1) := by decide +kernel
theorem dX11_book_5 : decode cX11_book 5 = .ok (.iconst 1, 1) := by decide +kernel
theorem dX11_book_6 : decode cX11_book 6 = .ok (.if_icmp .eq 7, 3) := by decide +kernel
theorem dX11_book_65 : decode cX11_book 65 = .ok (.aload_n 0, 1) := by decide +kernel
theorem dX11_book_66 : decode cX11_book 66 = .ok (.getfield 19, 3) := by decide +kernel
theorem dX11_book_69 : decode cX11_book 69 = .ok (.goto 7, 3) := by decide +kernel
theorem dX11_book_82 : decode cX11_book 82 = .ok (.aload_n 0, 1) := by decide +kernel
theorem dX11_book_83 : decode cX11_book 83 = .ok (.getfield 60, 3) := by decide +kernel
theorem dX11_book_86 : decode cX11_book 86 = .ok (.aload_n 0, 1) := by decide +kernel
theorem dX11_book_87 : decode cX11_book 87 = .ok (.getfield 19, 3) := by decide +kernel
set_option maxRecDepth 20000 in
theorem ggX11_book_X3_mark : GoodIn wsX11_book wsX3_mark := goodIn_r _ [184, 185, 186, 187, 188, 189, 118, 190, 120, 121, 122, 191, 192, 193, 194, 123, 195, 196, 124, 125, 197, 198, 199, 200, 201, 202, 203, 204, 205, 206, 207, 208, 209, 210, 211, 212, 213, 214, 215, 216, 217, 218, 219, 220, 221, 222, 370, 371, 372, 342, 343, 344, 345, 346, 347, 348, 349, 350, 351, 352, 353, 354, 355, 356, 357, 358, 359, 360, 361, 362, 363, 364, 365, 366, 367, 368, 369] (by decide +kernel) (by decide +kernel)
set_option maxRecDepth 20000 in
theorem gX11_book_X3_mark : GoodIn wsX11_book (wsV RX11 237 RX3 yX3_mark wsX3_mark) := goodIn_app (goodIn_of _ (by decide +kernel)) ggX11_book_X3_mark
theorem dX11_book_90 : decode cX11_book 90 = .ok (.invokevirtual 237, 3) := by decide +kernel
theorem dX11_book_93 : decode cX11_book 93 = .ok (.aload_n 0, 1) := by decide +kernel
theorem dX11_book_94 : decode cX11_book 94 = .ok (.getfield 60, 3) := by decide +kernel
set_option maxRecDepth 20000 in
theorem ggX11_book_X3_keepMarked : GoodIn wsX11_book wsX3_keepMarked := goodIn_r _ [226, 186, 227, 228, 229, 230, 231, 370, 371, 372] (by decide +kernel) (by decide +kernel)
set_option maxRecDepth 20000 in
theorem gX11_book_X3_keepMarked : GoodIn wsX11_book (wsV RX11 268 RX3 yX3_keepMarked wsX3_keepMarked) := goodIn_app (goodIn_of _ (by decide +kernel)) ggX11_book_X3_keepMarked
theorem dX11_book_97 : decode cX11_book 97 = .ok (.invokevirtual 268, 3) := by decide +kernel
theorem dX11_book_100 : decode cX11_book 100 = .ok (.goto 14, 3) := by decide +kernel
theorem dX11_book_9 : decode cX11_book 9 = .ok (.sipush (-1000), 3) := by decide +kernel
theorem dX11_book_12 : decode cX11_book 12 = .ok (.ireturn, 1) := by decide +kernel
theorem dX11_told_0 : decode cX11_told 0 = .ok (.iload_n 1, 1) := by decide +kernel
theorem dX11_told_1 : decode cX11_told 1 = .ok (.ifCond .lt 17, 3) := by decide +kernel
theorem dX11_told_4 : decode cX11_told 4 = .ok (.iload_n 1, 1) := by decide +kernel
theorem dX11_told_5 : decode cX11_told 5 = .ok (.iconst 4, 1) := by decide +kernel
theorem dX11_told_6 : decode cX11_told 6 = .ok (.if_icmp .ge 12, 3) := by decide +kernel
theorem dX11_told_9 : decode cX11_told 9 = .ok (.aload_n 0, 1) := by decide +kernel
theorem dX11_told_10 : decode cX11_told 10 = .ok (.getfield 80, 3) := by decide +kernel
theorem dX11_told_13 : decode cX11_told 13 = .ok (.iload_n 1, 1) := by decide +kernel
theorem dX11_told_14 : decode cX11_told 14 = .ok (.iaload, 1) := by decide +kernel
theorem dX11_told_15 : decode cX11_told 15 = .ok (.goto 4, 3) := by decide +kernel
theorem dX11_told_19 : decode cX11_told 19 = .ok (.ireturn, 1) := by decide +kernel
theorem dX11_told_18 : decode cX11_told 18 = .ok (.iconst (-1), 1) := by decide +kernel
theorem dX8_looksAtMark_0 : decode cX8_looksAtMark 0 = .ok (.aload_n 0, 1) := by decide +kernel
theorem dX8_looksAtMark_1 : decode cX8_looksAtMark 1 = .ok (.getfield 46, 3) := by decide +kernel
theorem dX8_looksAtMark_4 : decode cX8_looksAtMark 4 = .ok (.iconst 2, 1) := by decide +kernel
theorem dX8_looksAtMark_5 : decode cX8_looksAtMark 5 = .ok (.if_icmp .ne 15, 3) := by decide +kernel
theorem dX8_looksAtMark_20 : decode cX8_looksAtMark 20 = .ok (.iconst 0, 1) := by decide +kernel
theorem dX8_looksAtMark_21 : decode cX8_looksAtMark 21 = .ok (.ireturn, 1) := by decide +kernel
theorem dX7_beginsOne_0 : decode cX7_beginsOne 0 = .ok (.aload_n 0, 1) := by decide +kernel
theorem dX7_beginsOne_1 : decode cX7_beginsOne 1 = .ok (.getstatic 74, 3) := by decide +kernel
theorem dX7_beginsOne_4 : decode cX7_beginsOne 4 = .ok (.if_acmp .eq 59, 3) := by decide +kernel
theorem dX7_beginsOne_7 : decode cX7_beginsOne 7 = .ok (.aload_n 0, 1) := by decide +kernel
theorem dX7_beginsOne_8 : decode cX7_beginsOne 8 = .ok (.getstatic 81, 3) := by decide +kernel
theorem dX7_beginsOne_11 : decode cX7_beginsOne 11 = .ok (.if_acmp .eq 52, 3) := by decide +kernel
theorem dX7_beginsOne_14 : decode cX7_beginsOne 14 = .ok (.aload_n 0, 1) := by decide +kernel
theorem dX7_beginsOne_15 : decode cX7_beginsOne 15 = .ok (.getstatic 84, 3) := by decide +kernel
theorem dX7_beginsOne_18 : decode cX7_beginsOne 18 = .ok (.if_acmp .eq 45, 3) := by decide +kernel
theorem dX7_beginsOne_21 : decode cX7_beginsOne 21 = .ok (.aload_n 0, 1) := by decide +kernel
theorem dX7_beginsOne_22 : decode cX7_beginsOne 22 = .ok (.getstatic 87, 3) := by decide +kernel
theorem dX7_beginsOne_25 : decode cX7_beginsOne 25 = .ok (.if_acmp .eq 38, 3) := by decide +kernel
theorem dX7_beginsOne_28 : decode cX7_beginsOne 28 = .ok (.aload_n 0, 1) := by decide +kernel
theorem dX7_beginsOne_29 : decode cX7_beginsOne 29 = .ok (.getstatic 90, 3) := by decide +kernel
theorem dX7_beginsOne_32 : decode cX7_beginsOne 32 = .ok (.if_acmp .eq 31, 3) := by decide +kernel
theorem dX7_beginsOne_35 : decode cX7_beginsOne 35 = .ok (.aload_n 0, 1) := by decide +kernel
theorem dX7_beginsOne_36 : decode cX7_beginsOne 36 = .ok (.getstatic 107, 3) := by decide +kernel
theorem dX7_beginsOne_39 : decode cX7_beginsOne 39 = .ok (.if_acmp .eq 24, 3) := by decide +kernel
theorem dX7_beginsOne_42 : decode cX7_beginsOne 42 = .ok (.aload_n 0, 1) := by decide +kernel
theorem dX7_beginsOne_43 : decode cX7_beginsOne 43 = .ok (.getstatic 110, 3) := by decide +kernel
theorem dX7_beginsOne_46 : decode cX7_beginsOne 46 = .ok (.if_acmp .eq 17, 3) := by decide +kernel
theorem dX7_beginsOne_49 : decode cX7_beginsOne 49 = .ok (.aload_n 0, 1) := by decide +kernel
theorem dX7_beginsOne_50 : decode cX7_beginsOne 50 = .ok (.getstatic 113, 3) := by decide +kernel
theorem dX7_beginsOne_53 : decode cX7_beginsOne 53 = .ok (.if_acmp .eq 10, 3) := by decide +kernel
theorem dX7_beginsOne_56 : decode cX7_beginsOne 56 = .ok (.aload_n 0, 1) := by decide +kernel
theorem dX7_beginsOne_57 : decode cX7_beginsOne 57 = .ok (.getstatic 116, 3) := by decide +kernel
theorem dX7_beginsOne_60 : decode cX7_beginsOne 60 = .ok (.if_acmp .ne 7, 3) := by decide +kernel
theorem dX7_beginsOne_67 : decode cX7_beginsOne 67 = .ok (.iconst 0, 1) := by decide +kernel
theorem dX7_beginsOne_68 : decode cX7_beginsOne 68 = .ok (.ireturn, 1) := by decide +kernel
theorem dX8_refuse_0 : decode cX8_refuse 0 = .ok (.aload_n 0, 1) := by decide +kernel
theorem dX8_refuse_1 : decode cX8_refuse 1 = .ok (.iload_n 1, 1) := by decide +kernel
theorem dX8_refuse_2 : decode cX8_refuse 2 = .ok (.putfield 34, 3) := by decide +kernel
theorem dX8_refuse_5 : decode cX8_refuse 5 = .ok (.aload_n 0, 1) := by decide +kernel
theorem dX8_refuse_6 : decode cX8_refuse 6 = .ok (.aload_n 0, 1) := by decide +kernel
theorem dX8_refuse_7 : decode cX8_refuse 7 = .ok (.getfield 43, 3) := by decide +kernel
theorem dX8_refuse_10 : decode cX8_refuse 10 = .ok (.putfield 37, 3) := by decide +kernel
theorem dX8_refuse_13 : decode cX8_refuse 13 = .ok (.iconst 0, 1) := by decide +kernel
theorem dX8_refuse_14 : decode cX8_refuse 14 = .ok (.ireturn, 1) := by decide +kernel
theorem dX7_readOne_0 : decode cX7_readOne 0 = .ok (.aload_n 1, 1) := by decide +kernel
theorem dX7_readOne_1 : decode cX7_readOne 1 = .ok (.getfield 35, 3) := by decide +kernel
theorem dX7_readOne_4 : decode cX7_readOne 4 = .ok (.astore 4, 2) := by decide +kernel
theorem dX7_readOne_6 : decode cX7_readOne 6 = .ok (.aload_n 1, 1) := by decide +kernel
theorem dX7_readOne_7 : decode cX7_readOne 7 = .ok (.bipush 40, 2) := by decide +kernel
set_option maxRecDepth 20000 in
theorem ggX7_readOne_X8_looksAtMark : GoodIn wsX7_readOne wsX8_looksAtMark := goodIn_r _ [7, 8, 9, 158, 159, 160, 161, 162, 163, 164, 165, 166, 167, 168, 169, 170, 171, 172] (by decide +kernel) (by decide +kernel)
set_option maxRecDepth 20000 in
theorem gX7_readOne_X8_looksAtMark : GoodIn wsX7_readOne (wsV RX7 61 RX8 yX8_looksAtMark wsX8_looksAtMark) := goodIn_app (goodIn_of _ (by decide +kernel)) ggX7_readOne_X8_looksAtMark
theorem dX7_readOne_9 : decode cX7_readOne 9 = .ok (.invokevirtual 61, 3) := by decide +kernel
theorem dX7_readOne_12 : decode cX7_readOne 12 = .ok (.istore 5, 2) := by decide +kernel
theorem dX7_readOne_14 : decode cX7_readOne 14 = .ok (.iload 5, 2) := by decide +kernel
theorem dX7_readOne_16 : decode cX7_readOne 16 = .ok (.ifCond .ne 17, 3) := by decide +kernel
theorem dX7_readOne_19 : decode cX7_readOne 19 = .ok (.aload 4, 2) := by decide +kernel
set_option maxRecDepth 20000 in
theorem ggX7_readOne_X7_beginsOne : GoodIn wsX7_readOne wsX7_beginsOne := goodIn_r _ [13, 2, 14, 15, 16, 17, 18, 19, 20, 21] (by decide +kernel) (by decide +kernel)
set_option maxRecDepth 20000 in
theorem gX7_readOne_X7_beginsOne : GoodIn wsX7_readOne (va_wsS RX7 64 yX7_beginsOne wsX7_beginsOne) := goodIn_app (goodIn_of _ (by decide +kernel)) ggX7_readOne_X7_beginsOne
theorem dX7_readOne_21 : decode cX7_readOne 21 = .ok (.invokestatic 64, 3) := by decide +kernel
theorem dX7_readOne_24 : decode cX7_readOne 24 = .ok (.ifCond .ne 9, 3) := by decide +kernel
theorem dX7_readOne_27 : decode cX7_readOne 27 = .ok (.aload_n 1, 1) := by decide +kernel
theorem dX7_readOne_28 : decode cX7_readOne 28 = .ok (.iconst 1, 1) := by decide +kernel
set_option maxRecDepth 20000 in
theorem ggX7_readOne_X8_refuse : GoodIn wsX7_readOne wsX8_refuse := goodIn_r _ [25, 26, 27, 28, 158, 159, 160, 161, 162, 163, 164, 165, 166, 167, 168, 169, 170, 171, 172] (by decide +kernel) (by decide +kernel)
set_option maxRecDepth 20000 in
theorem gX7_readOne_X8_refuse : GoodIn wsX7_readOne (wsV RX7 57 RX8 yX8_refuse wsX8_refuse) := goodIn_app (goodIn_of _ (by decide +kernel)) ggX7_readOne_X8_refuse
theorem dX7_readOne_29 : decode cX7_readOne 29 = .ok (.invokevirtual 57, 3) := by decide +kernel
theorem dX7_readOne_32 : decode cX7_readOne 32 = .ok (.ireturn, 1) := by decide +kernel
theorem dX7_readCond_0 : decode cX7_readCond 0 = .ok (.aload_n 0, 1) := by decide +kernel
theorem dX7_readCond_1 : decode cX7_readCond 1 = .ok (.aload_n 1, 1) := by decide +kernel
theorem dX7_readCond_2 : decode cX7_readCond 2 = .ok (.aload_n 2, 1) := by decide +kernel
theorem dX7_readCond_3 : decode cX7_readCond 3 = .ok (.iload_n 3, 1) := by decide +kernel
set_option maxRecDepth 20000 in
theorem ggX7_readCond_X7_readOne : GoodIn wsX7_readCond wsX7_readOne := goodIn_r _ [105, 106, 107, 108, 109, 110, 10, 111, 19, 20, 112, 113, 6, 114, 115, 116, 117, 118, 119, 120, 121, 122, 99, 100, 101, 102, 103, 17, 104, 7, 8, 9, 11, 12, 13, 14, 15, 16, 18, 21, 22, 23, 24, 25, 26, 27, 28, 29, 30, 31, 32, 33, 34, 35, 36, 37, 38, 39, 40, 41, 42, 43, 44, 45, 46, 47, 48, 49, 50, 51, 52, 53, 54, 55, 56, 57, 58, 59, 60, 61, 62, 63, 64, 65, 66, 67, 68, 69, 70, 71, 72, 73, 74, 75, 76, 77, 78, 79, 80, 81, 82, 83, 84, 85, 86, 87, 88, 89, 90, 123, 124, 125, 126, 127, 128, 129, 130, 131, 132, 3, 4, 5, 91, 92, 93, 94, 95, 96, 97, 98, 133, 134, 135, 136, 137, 138, 139, 140, 141, 142, 143, 144, 145, 146, 147, 148, 149, 150, 151, 152, 153, 154, 155, 156, 157, 0, 1, 2, 158, 159, 160, 161, 162, 163, 164, 165, 166, 167, 168, 169, 170, 171, 172, 173, 174, 175, 176, 177, 178, 179, 180, 181, 182, 183, 184, 185, 186, 187, 188, 189, 190, 191, 192, 193, 194, 195, 196, 197, 198, 199, 200, 201, 202, 203, 204, 205] (by decide +kernel) (by decide +kernel)
set_option maxRecDepth 20000 in
theorem gX7_readCond_X7_readOne : GoodIn wsX7_readCond (wsV RX7 31 RX7 yX7_readOne wsX7_readOne) := goodIn_app (goodIn_of _ (by decide +kernel)) ggX7_readCond_X7_readOne
theorem dX7_readCond_4 : decode cX7_readCond 4 = .ok (.invokevirtual 31, 3) := by decide +kernel
theorem dX7_readCond_7 : decode cX7_readCond 7 = .ok (.istore 4, 2) := by decide +kernel
theorem dX7_readCond_9 : decode cX7_readCond 9 = .ok (.iconst 0, 1) := by decide +kernel
theorem dX7_readCond_10 : decode cX7_readCond 10 = .ok (.istore 5, 2) := by decide +kernel
theorem dX7_readCond_12 : decode cX7_readCond 12 = .ok (.iconst 0, 1) := by decide +kernel
theorem dX7_readCond_13 : decode cX7_readCond 13 = .ok (.istore 6, 2) := by decide +kernel
theorem dX7_readCond_15 : decode cX7_readCond 15 = .ok (.iload 6, 2) := by decide +kernel
theorem dX7_readCond_17 : decode cX7_readCond 17 = .ok (.bipush 20, 2) := by decide +kernel
theorem dX7_readCond_19 : decode cX7_readCond 19 = .ok (.if_icmp .ge 89, 3) := by decide +kernel
theorem dX7_readCond_22 : decode cX7_readCond 22 = .ok (.iload 4, 2) := by decide +kernel
theorem dX7_readCond_24 : decode cX7_readCond 24 = .ok (.ifCond .eq 84, 3) := by decide +kernel
theorem dX7_readCond_108 : decode cX7_readCond 108 = .ok (.iload 5, 2) := by decide +kernel
theorem dX7_readCond_110 : decode cX7_readCond 110 = .ok (.ifCond .eq 12, 3) := by decide +kernel
theorem dX7_readCond_122 : decode cX7_readCond 122 = .ok (.iload 4, 2) := by decide +kernel
theorem dX7_readCond_124 : decode cX7_readCond 124 = .ok (.ifCond .eq 22, 3) := by decide +kernel
theorem dX7_readCond_146 : decode cX7_readCond 146 = .ok (.iload 4, 2) := by decide +kernel
theorem dX7_readCond_148 : decode cX7_readCond 148 = .ok (.ireturn, 1) := by decide +kernel
theorem dX11_sentence_0 : decode cX11_sentence 0 = .ok (.aload_n 0, 1) := by decide +kernel
theorem dX11_sentence_1 : decode cX11_sentence 1 = .ok (.getfield 10, 3) := by decide +kernel
theorem dX11_sentence_4 : decode cX11_sentence 4 = .ok (.sipush 200, 3) := by decide +kernel
set_option maxRecDepth 20000 in
theorem ggX11_sentence_X8_open : GoodIn wsX11_sentence wsX8_open := goodIn_r _ [10, 11, 12, 13, 14, 15, 16, 17, 9, 18, 19, 20, 21, 22, 23, 24, 25, 26, 27, 28, 29, 30, 31, 32, 33, 34, 35, 36, 37, 38, 39, 40, 41, 42, 43, 44, 45, 46, 47, 48, 49, 50, 51, 52, 53, 54, 55, 56, 57, 58, 59, 60, 61, 62, 63, 64, 65, 66, 67, 68, 69, 70, 71, 72, 73, 74, 75, 76, 77, 78, 79, 80, 81, 82, 83, 84, 85, 86, 87, 88, 89, 90, 91, 92, 93, 94, 95, 200, 201, 202, 203, 204, 205, 206, 207, 208, 209, 210, 211, 212, 213, 214] (by decide +kernel) (by decide +kernel)
set_option maxRecDepth 20000 in
theorem gX11_sentence_X8_open : GoodIn wsX11_sentence (wsV RX11 107 RX8 yX8_open wsX8_open) := goodIn_app (goodIn_of _ (by decide +kernel)) ggX11_sentence_X8_open
theorem dX11_sentence_7 : decode cX11_sentence 7 = .ok (.invokevirtual 107, 3) := by decide +kernel
theorem dX11_sentence_10 : decode cX11_sentence 10 = .ok (.aload_n 0, 1) := by decide +kernel
theorem dX11_sentence_11 : decode cX11_sentence 11 = .ok (.getfield 47, 3) := by decide +kernel
set_option maxRecDepth 20000 in
theorem ggX11_sentence_X7_clear : GoodIn wsX11_sentence wsX7_clear := goodIn_r _ [100, 101, 102, 215, 216, 217, 218, 219] (by decide +kernel) (by decide +kernel)
set_option maxRecDepth 20000 in
theorem gX11_sentence_X7_clear : GoodIn wsX11_sentence (wsV RX11 127 RX7 yX7_clear wsX7_clear) := goodIn_app (goodIn_of _ (by decide +kernel)) ggX11_sentence_X7_clear
theorem dX11_sentence_14 : decode cX11_sentence 14 = .ok (.invokevirtual 127, 3) := by decide +kernel
theorem dX11_sentence_17 : decode cX11_sentence 17 = .ok (.aload_n 0, 1) := by decide +kernel
theorem dX11_sentence_18 : decode cX11_sentence 18 = .ok (.getfield 47, 3) := by decide +kernel
theorem dX11_sentence_21 : decode cX11_sentence 21 = .ok (.aload_n 0, 1) := by decide +kernel
theorem dX11_sentence_22 : decode cX11_sentence 22 = .ok (.getfield 10, 3) := by decide +kernel
theorem dX11_sentence_25 : decode cX11_sentence 25 = .ok (.aload_n 0, 1) := by decide +kernel
theorem dX11_sentence_26 : decode cX11_sentence 26 = .ok (.getfield 19, 3) := by decide +kernel
theorem dX11_sentence_29 : decode cX11_sentence 29 = .ok (.iconst 1, 1) := by decide +kernel
set_option maxRecDepth 20000 in
theorem ggX11_sentence_X7_readCond : GoodIn wsX11_sentence wsX7_readCond := goodIn_r _ [105, 106, 107, 108, 109, 110, 99, 111, 16, 17, 9, 18, 19, 20, 12, 21, 22, 23, 11, 24, 25, 26, 27, 28, 29, 30, 31, 32, 33, 34, 35, 36, 37, 38, 39, 40, 41, 42, 43, 44, 45, 46, 47, 48, 49, 50, 51, 52, 53, 54, 55, 56, 57, 58, 59, 60, 61, 62, 63, 64, 65, 66, 67, 68, 69, 70, 71, 72, 73, 74, 75, 76, 77, 78, 79, 80, 81, 82, 83, 84, 85, 86, 87, 88, 89, 90, 91, 92, 93, 94, 95, 112, 113, 114, 115, 101, 116, 117, 118, 119, 120, 121, 122, 13, 14, 123, 102, 124, 125, 126, 127, 128, 129, 130, 131, 132, 133, 134, 135, 136, 137, 138, 139, 140, 103, 104, 141, 142, 143, 144, 145, 146, 15, 147, 148, 149, 150, 151, 152, 153, 154, 155, 156, 157, 158, 159, 160, 161, 162, 163, 164, 165, 166, 167, 168, 169, 170, 171, 200, 201, 202, 203, 204, 205, 206, 207, 208, 209, 210, 211, 212, 213, 214, 215, 216, 217, 218, 219, 220, 221, 222, 223, 224, 225, 226, 227, 228, 229, 230, 231, 232, 233, 234, 235, 236, 237, 238, 239, 240, 241, 242, 243, 244, 245, 246, 247] (by decide +kernel) (by decide +kernel)
set_option maxRecDepth 20000 in
theorem gX11_sentence_X7_readCond_n357 : GoodIn wsX11_sentence (wsX7_readCond) := ggX11_sentence_X7_readCond
theorem dX11_sentence_30 : decode cX11_sentence 30 = .ok (.invokevirtual 357, 3) := by decide +kernel
theorem dX11_sentence_33 : decode cX11_sentence 33 = .ok (.pop, 1) := by decide +kernel
theorem dX11_sentence_34 : decode cX11_sentence 34 = .ok (.aload_n 0, 1) := by decide +kernel
set_option maxRecDepth 20000 in
theorem ggX11_sentence_X11_closeTape : GoodIn wsX11_sentence wsX11_closeTape := goodIn_r _ [176, 1, 4, 181, 182, 183, 184, 185, 186, 187, 188, 189, 190, 191, 192, 193, 194, 195, 196, 197, 198, 199, 200, 201, 202, 203, 204, 205, 206, 207, 208, 209, 210, 211, 212, 213, 214] (by decide +kernel) (by decide +kernel)
set_option maxRecDepth 20000 in
theorem gX11_sentence_X11_closeTape : GoodIn wsX11_sentence (wsV RX11 114 RX11 yX11_closeTape wsX11_closeTape) := goodIn_app (goodIn_of _ (by decide +kernel)) ggX11_sentence_X11_closeTape
theorem dX11_sentence_35 : decode cX11_sentence 35 = .ok (.invokevirtual 114, 3) := by decide +kernel
theorem dX11_sentence_38 : decode cX11_sentence 38 = .ok (.aload_n 0, 1) := by decide +kernel
theorem dX11_sentence_39 : decode cX11_sentence 39 = .ok (.getfield 117, 3) := by decide +kernel
theorem dX11_sentence_42 : decode cX11_sentence 42 = .ok (.ifCond .eq 13, 3) := by decide +kernel
theorem dX11_sentence_45 : decode cX11_sentence 45 = .ok (.iconst (-1), 1) := by decide +kernel
theorem dX11_sentence_46 : decode cX11_sentence 46 = .ok (.aload_n 0, 1) := by decide +kernel
theorem dX11_sentence_47 : decode cX11_sentence 47 = .ok (.getfield 10, 3) := by decide +kernel
theorem dX11_sentence_50 : decode cX11_sentence 50 = .ok (.getfield 120, 3) := by decide +kernel
theorem dX11_sentence_53 : decode cX11_sentence 53 = .ok (.isub, 1) := by decide +kernel
theorem dX11_sentence_54 : decode cX11_sentence 54 = .ok (.ireturn, 1) := by decide +kernel
theorem dX11_said_0 : decode cX11_said 0 = .ok (.aload_n 0, 1) := by decide +kernel
theorem dX11_said_1 : decode cX11_said 1 = .ok (.getfield 43, 3) := by decide +kernel
theorem dX11_said_4 : decode cX11_said 4 = .ok (.getfield 364, 3) := by decide +kernel
theorem dX11_said_7 : decode cX11_said 7 = .ok (.ifCond .eq 8, 3) := by decide +kernel
theorem dX11_said_15 : decode cX11_said 15 = .ok (.iconst (-1), 1) := by decide +kernel
theorem dX11_said_16 : decode cX11_said 16 = .ok (.ireturn, 1) := by decide +kernel
theorem dX7_copyFrom_0 : decode cX7_copyFrom 0 = .ok (.aload_n 0, 1) := by decide +kernel
theorem dX7_copyFrom_1 : decode cX7_copyFrom 1 = .ok (.aload_n 1, 1) := by decide +kernel
theorem dX7_copyFrom_2 : decode cX7_copyFrom 2 = .ok (.getfield 24, 3) := by decide +kernel
theorem dX7_copyFrom_5 : decode cX7_copyFrom 5 = .ok (.putfield 24, 3) := by decide +kernel
theorem dX7_copyFrom_8 : decode cX7_copyFrom 8 = .ok (.aload_n 0, 1) := by decide +kernel
theorem dX7_copyFrom_9 : decode cX7_copyFrom 9 = .ok (.aload_n 1, 1) := by decide +kernel
theorem dX7_copyFrom_10 : decode cX7_copyFrom 10 = .ok (.getfield 28, 3) := by decide +kernel
theorem dX7_copyFrom_13 : decode cX7_copyFrom 13 = .ok (.putfield 28, 3) := by decide +kernel
theorem dX7_copyFrom_16 : decode cX7_copyFrom 16 = .ok (.iconst 0, 1) := by decide +kernel
theorem dX7_copyFrom_17 : decode cX7_copyFrom 17 = .ok (.istore_n 2, 1) := by decide +kernel
theorem dX7_copyFrom_18 : decode cX7_copyFrom 18 = .ok (.iload_n 2, 1) := by decide +kernel
theorem dX7_copyFrom_19 : decode cX7_copyFrom 19 = .ok (.aload_n 0, 1) := by decide +kernel
theorem dX7_copyFrom_20 : decode cX7_copyFrom 20 = .ok (.getfield 24, 3) := by decide +kernel
theorem dX7_copyFrom_23 : decode cX7_copyFrom 23 = .ok (.if_icmp .ge 45, 3) := by decide +kernel
theorem dX7_copyFrom_68 : decode cX7_copyFrom 68 = .ok (.return_, 1) := by decide +kernel
theorem dX11_image_0 : decode cX11_image 0 = .ok (.iload_n 1, 1) := by decide +kernel
theorem dX11_image_1 : decode cX11_image 1 = .ok (.ifCond .lt 8, 3) := by decide +kernel
theorem dX11_image_4 : decode cX11_image 4 = .ok (.iload_n 1, 1) := by decide +kernel
theorem dX11_image_5 : decode cX11_image 5 = .ok (.iconst 2, 1) := by decide +kernel
theorem dX11_image_6 : decode cX11_image 6 = .ok (.if_icmp .lt 5, 3) := by decide +kernel
theorem dX11_image_11 : decode cX11_image 11 = .ok (.aload_n 0, 1) := by decide +kernel
theorem dX11_image_12 : decode cX11_image 12 = .ok (.getfield 64, 3) := by decide +kernel
theorem dX11_image_15 : decode cX11_image 15 = .ok (.iload_n 1, 1) := by decide +kernel
theorem dX11_image_16 : decode cX11_image 16 = .ok (.aaload, 1) := by decide +kernel
theorem dX11_image_17 : decode cX11_image 17 = .ok (.aload_n 0, 1) := by decide +kernel
theorem dX11_image_18 : decode cX11_image 18 = .ok (.getfield 19, 3) := by decide +kernel
set_option maxRecDepth 20000 in
theorem ggX11_image_X4_copyFrom : GoodIn wsX11_image wsX4_copyFrom := goodIn_r _ [10, 11, 12, 13, 14, 15, 16, 17, 18, 19, 20, 21, 22, 23, 24, 25, 26, 27, 28, 29, 30, 31, 32, 33, 34, 35, 36, 37, 38, 39, 40, 41, 42, 43, 44, 45, 46, 47, 48, 78, 79, 80, 81, 82, 83, 84, 85, 86, 87, 88, 89, 90, 91, 92, 93, 94, 95, 96, 97, 98, 99, 100, 101, 102, 103, 104, 105] (by decide +kernel) (by decide +kernel)
set_option maxRecDepth 20000 in
theorem gX11_image_X4_copyFrom : GoodIn wsX11_image (wsV RX11 123 RX4 yX4_copyFrom wsX4_copyFrom) := goodIn_app (goodIn_of _ (by decide +kernel)) ggX11_image_X4_copyFrom
theorem dX11_image_21 : decode cX11_image 21 = .ok (.invokevirtual 123, 3) := by decide +kernel
theorem dX11_image_24 : decode cX11_image 24 = .ok (.aload_n 0, 1) := by decide +kernel
theorem dX11_image_25 : decode cX11_image 25 = .ok (.getfield 68, 3) := by decide +kernel
theorem dX11_image_28 : decode cX11_image 28 = .ok (.iload_n 1, 1) := by decide +kernel
theorem dX11_image_29 : decode cX11_image 29 = .ok (.aaload, 1) := by decide +kernel
theorem dX11_image_30 : decode cX11_image 30 = .ok (.aload_n 0, 1) := by decide +kernel
theorem dX11_image_31 : decode cX11_image 31 = .ok (.getfield 43, 3) := by decide +kernel
set_option maxRecDepth 20000 in
theorem ggX11_image_X7_copyFrom : GoodIn wsX11_image wsX7_copyFrom := goodIn_r _ [53, 54, 55, 56, 57, 58, 106, 107, 108, 109, 110] (by decide +kernel) (by decide +kernel)
set_option maxRecDepth 20000 in
theorem gX11_image_X7_copyFrom : GoodIn wsX11_image (wsV RX11 361 RX7 yX7_copyFrom wsX7_copyFrom) := goodIn_app (goodIn_of _ (by decide +kernel)) ggX11_image_X7_copyFrom
theorem dX11_image_34 : decode cX11_image 34 = .ok (.invokevirtual 361, 3) := by decide +kernel
theorem dX11_image_37 : decode cX11_image 37 = .ok (.aload_n 0, 1) := by decide +kernel
theorem dX11_image_38 : decode cX11_image 38 = .ok (.getfield 72, 3) := by decide +kernel
theorem dX11_image_41 : decode cX11_image 41 = .ok (.iload_n 1, 1) := by decide +kernel
theorem dX11_image_42 : decode cX11_image 42 = .ok (.iconst 1, 1) := by decide +kernel
theorem dX11_image_43 : decode cX11_image 43 = .ok (.bastore, 1) := by decide +kernel
theorem dX11_image_44 : decode cX11_image 44 = .ok (.iconst 1, 1) := by decide +kernel
theorem dX11_image_45 : decode cX11_image 45 = .ok (.ireturn, 1) := by decide +kernel
theorem dX11_image_9 : decode cX11_image 9 = .ok (.iconst 0, 1) := by decide +kernel
theorem dX11_image_10 : decode cX11_image 10 = .ok (.ireturn, 1) := by decide +kernel
theorem dX11_restore_0 : decode cX11_restore 0 = .ok (.iload_n 1, 1) := by decide +kernel
theorem dX11_restore_1 : decode cX11_restore 1 = .ok (.ifCond .lt 17, 3) := by decide +kernel
theorem dX11_restore_4 : decode cX11_restore 4 = .ok (.iload_n 1, 1) := by decide +kernel
theorem dX11_restore_5 : decode cX11_restore 5 = .ok (.iconst 2, 1) := by decide +kernel
theorem dX11_restore_6 : decode cX11_restore 6 = .ok (.if_icmp .ge 12, 3) := by decide +kernel
theorem dX11_restore_9 : decode cX11_restore 9 = .ok (.aload_n 0, 1) := by decide +kernel
theorem dX11_restore_10 : decode cX11_restore 10 = .ok (.getfield 72, 3) := by decide +kernel
theorem dX11_restore_13 : decode cX11_restore 13 = .ok (.iload_n 1, 1) := by decide +kernel
theorem dX11_restore_14 : decode cX11_restore 14 = .ok (.baload, 1) := by decide +kernel
theorem dX11_restore_15 : decode cX11_restore 15 = .ok (.ifCond .ne 5, 3) := by decide +kernel
theorem dX11_restore_18 : decode cX11_restore 18 = .ok (.iconst 0, 1) := by decide +kernel
theorem dX11_restore_19 : decode cX11_restore 19 = .ok (.ireturn, 1) := by decide +kernel
theorem dX11_count_0 : decode cX11_count 0 = .ok (.iload_n 1, 1) := by decide +kernel
theorem dX11_count_1 : decode cX11_count 1 = .ok (.tableswitch 63 0 3 #[31, 39, 47, 55], 31) := by decide +kernel
theorem dX11_count_32 : decode cX11_count 32 = .ok (.aload_n 0, 1) := by decide +kernel
theorem dX11_count_33 : decode cX11_count 33 = .ok (.getfield 19, 3) := by decide +kernel
theorem dX11_count_36 : decode cX11_count 36 = .ok (.getfield 374, 3) := by decide +kernel
theorem dX11_count_39 : decode cX11_count 39 = .ok (.ireturn, 1) := by decide +kernel
theorem dX11_count_40 : decode cX11_count 40 = .ok (.aload_n 0, 1) := by decide +kernel
theorem dX11_count_41 : decode cX11_count 41 = .ok (.getfield 19, 3) := by decide +kernel
theorem dX11_count_44 : decode cX11_count 44 = .ok (.getfield 367, 3) := by decide +kernel
theorem dX11_count_47 : decode cX11_count 47 = .ok (.ireturn, 1) := by decide +kernel
theorem dX11_count_48 : decode cX11_count 48 = .ok (.aload_n 0, 1) := by decide +kernel
theorem dX11_count_49 : decode cX11_count 49 = .ok (.getfield 19, 3) := by decide +kernel
theorem dX11_count_52 : decode cX11_count 52 = .ok (.getfield 377, 3) := by decide +kernel
theorem dX11_count_55 : decode cX11_count 55 = .ok (.ireturn, 1) := by decide +kernel
theorem dX11_count_56 : decode cX11_count 56 = .ok (.aload_n 0, 1) := by decide +kernel
theorem dX11_count_57 : decode cX11_count 57 = .ok (.getfield 10, 3) := by decide +kernel
theorem dX11_count_60 : decode cX11_count 60 = .ok (.getfield 100, 3) := by decide +kernel
theorem dX11_count_63 : decode cX11_count 63 = .ok (.ireturn, 1) := by decide +kernel
theorem dX11_count_64 : decode cX11_count 64 = .ok (.iconst (-1), 1) := by decide +kernel
