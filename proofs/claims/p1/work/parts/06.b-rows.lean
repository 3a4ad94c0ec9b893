theorem dX11_count_65 : decode cX11_count 65 = .ok (.ireturn, 1) := by decide +kernel
theorem dX12_startSo_0 : decode cX12_startSo 0 = .ok (.bipush 61, 2) := by decide +kernel
theorem dX12_startSo_2 : decode cX12_startSo 2 = .ok (.istore_n 1, 1) := by decide +kernel
theorem dX12_startSo_3 : decode cX12_startSo 3 = .ok (.iload_n 1, 1) := by decide +kernel
theorem dX12_startSo_4 : decode cX12_startSo 4 = .ok (.sipush 373, 3) := by decide +kernel
theorem dX12_startSo_7 : decode cX12_startSo 7 = .ok (.if_icmp .ge 16, 3) := by decide +kernel
theorem dX12_startSo_10 : decode cX12_startSo 10 = .ok (.aload_n 0, 1) := by decide +kernel
theorem dX12_startSo_11 : decode cX12_startSo 11 = .ok (.getfield 98, 3) := by decide +kernel
theorem dX12_startSo_14 : decode cX12_startSo 14 = .ok (.iload_n 1, 1) := by decide +kernel
theorem dX12_startSo_15 : decode cX12_startSo 15 = .ok (.iconst 0, 1) := by decide +kernel
theorem dX12_startSo_16 : decode cX12_startSo 16 = .ok (.iastore, 1) := by decide +kernel
theorem dX12_startSo_17 : decode cX12_startSo 17 = .ok (.iinc 1 1, 3) := by decide +kernel
theorem dX12_startSo_20 : decode cX12_startSo 20 = .ok (.goto (-17), 3) := by decide +kernel
theorem dX12_startSo_23 : decode cX12_startSo 23 = .ok (.aload_n 0, 1) := by decide +kernel
theorem dX12_startSo_24 : decode cX12_startSo 24 = .ok (.getfield 98, 3) := by decide +kernel
theorem dX12_startSo_27 : decode cX12_startSo 27 = .ok (.bipush 62, 2) := by decide +kernel
theorem dX12_startSo_29 : decode cX12_startSo 29 = .ok (.aload_n 0, 1) := by decide +kernel
theorem dX12_startSo_30 : decode cX12_startSo 30 = .ok (.getfield 98, 3) := by decide +kernel
theorem dX12_startSo_33 : decode cX12_startSo 33 = .ok (.bipush 60, 2) := by decide +kernel
theorem dX12_startSo_35 : decode cX12_startSo 35 = .ok (.iaload, 1) := by decide +kernel
theorem dX12_startSo_36 : decode cX12_startSo 36 = .ok (.iastore, 1) := by decide +kernel
theorem dX12_startSo_37 : decode cX12_startSo 37 = .ok (.aload_n 0, 1) := by decide +kernel
theorem dX12_startSo_38 : decode cX12_startSo 38 = .ok (.getfield 98, 3) := by decide +kernel
theorem dX12_startSo_41 : decode cX12_startSo 41 = .ok (.bipush 65, 2) := by decide +kernel
theorem dX12_startSo_43 : decode cX12_startSo 43 = .ok (.aload_n 0, 1) := by decide +kernel
theorem dX12_startSo_44 : decode cX12_startSo 44 = .ok (.getfield 98, 3) := by decide +kernel
theorem dX12_startSo_47 : decode cX12_startSo 47 = .ok (.bipush 9, 2) := by decide +kernel
theorem dX12_startSo_49 : decode cX12_startSo 49 = .ok (.iaload, 1) := by decide +kernel
theorem dX12_startSo_50 : decode cX12_startSo 50 = .ok (.iastore, 1) := by decide +kernel
theorem dX12_startSo_51 : decode cX12_startSo 51 = .ok (.iconst 0, 1) := by decide +kernel
theorem dX12_startSo_52 : decode cX12_startSo 52 = .ok (.istore_n 1, 1) := by decide +kernel
theorem dX12_startSo_53 : decode cX12_startSo 53 = .ok (.iload_n 1, 1) := by decide +kernel
theorem dX12_startSo_54 : decode cX12_startSo 54 = .ok (.iconst 5, 1) := by decide +kernel
theorem dX12_startSo_55 : decode cX12_startSo 55 = .ok (.if_icmp .ge 26, 3) := by decide +kernel
theorem dX12_startSo_58 : decode cX12_startSo 58 = .ok (.aload_n 0, 1) := by decide +kernel
theorem dX12_startSo_59 : decode cX12_startSo 59 = .ok (.getfield 98, 3) := by decide +kernel
theorem dX12_startSo_62 : decode cX12_startSo 62 = .ok (.bipush 66, 2) := by decide +kernel
theorem dX12_startSo_64 : decode cX12_startSo 64 = .ok (.iload_n 1, 1) := by decide +kernel
theorem dX12_startSo_65 : decode cX12_startSo 65 = .ok (.iadd, 1) := by decide +kernel
theorem dX12_startSo_66 : decode cX12_startSo 66 = .ok (.aload_n 0, 1) := by decide +kernel
theorem dX12_startSo_67 : decode cX12_startSo 67 = .ok (.getfield 98, 3) := by decide +kernel
theorem dX12_startSo_70 : decode cX12_startSo 70 = .ok (.iconst 4, 1) := by decide +kernel
theorem dX12_startSo_71 : decode cX12_startSo 71 = .ok (.iload_n 1, 1) := by decide +kernel
theorem dX12_startSo_72 : decode cX12_startSo 72 = .ok (.iadd, 1) := by decide +kernel
theorem dX12_startSo_73 : decode cX12_startSo 73 = .ok (.iaload, 1) := by decide +kernel
theorem dX12_startSo_74 : decode cX12_startSo 74 = .ok (.iastore, 1) := by decide +kernel
theorem dX12_startSo_75 : decode cX12_startSo 75 = .ok (.iinc 1 1, 3) := by decide +kernel
theorem dX12_startSo_78 : decode cX12_startSo 78 = .ok (.goto (-25), 3) := by decide +kernel
theorem dX12_startSo_81 : decode cX12_startSo 81 = .ok (.iconst 0, 1) := by decide +kernel
theorem dX12_startSo_82 : decode cX12_startSo 82 = .ok (.istore_n 1, 1) := by decide +kernel
theorem dX12_startSo_83 : decode cX12_startSo 83 = .ok (.iload_n 1, 1) := by decide +kernel
theorem dX12_startSo_84 : decode cX12_startSo 84 = .ok (.bipush 8, 2) := by decide +kernel
theorem dX12_startSo_86 : decode cX12_startSo 86 = .ok (.if_icmp .ge 63, 3) := by decide +kernel
theorem dX12_startSo_89 : decode cX12_startSo 89 = .ok (.aload_n 0, 1) := by decide +kernel
theorem dX12_startSo_90 : decode cX12_startSo 90 = .ok (.getfield 98, 3) := by decide +kernel
theorem dX12_startSo_93 : decode cX12_startSo 93 = .ok (.bipush 71, 2) := by decide +kernel
theorem dX12_startSo_95 : decode cX12_startSo 95 = .ok (.iload_n 1, 1) := by decide +kernel
theorem dX12_startSo_96 : decode cX12_startSo 96 = .ok (.iadd, 1) := by decide +kernel
theorem dX12_startSo_97 : decode cX12_startSo 97 = .ok (.aload_n 0, 1) := by decide +kernel
theorem dX12_startSo_98 : decode cX12_startSo 98 = .ok (.getfield 98, 3) := by decide +kernel
theorem dX12_startSo_101 : decode cX12_startSo 101 = .ok (.bipush 10, 2) := by decide +kernel
theorem dX12_startSo_103 : decode cX12_startSo 103 = .ok (.iload_n 1, 1) := by decide +kernel
theorem dX12_startSo_104 : decode cX12_startSo 104 = .ok (.iadd, 1) := by decide +kernel
theorem dX12_startSo_105 : decode cX12_startSo 105 = .ok (.iaload, 1) := by decide +kernel
theorem dX12_startSo_106 : decode cX12_startSo 106 = .ok (.iastore, 1) := by decide +kernel
theorem dX12_startSo_107 : decode cX12_startSo 107 = .ok (.aload_n 0, 1) := by decide +kernel
theorem dX12_startSo_108 : decode cX12_startSo 108 = .ok (.getfield 98, 3) := by decide +kernel
theorem dX12_startSo_111 : decode cX12_startSo 111 = .ok (.bipush 79, 2) := by decide +kernel
theorem dX12_startSo_113 : decode cX12_startSo 113 = .ok (.iload_n 1, 1) := by decide +kernel
theorem dX12_startSo_114 : decode cX12_startSo 114 = .ok (.iadd, 1) := by decide +kernel
theorem dX12_startSo_115 : decode cX12_startSo 115 = .ok (.aload_n 0, 1) := by decide +kernel
theorem dX12_startSo_116 : decode cX12_startSo 116 = .ok (.getfield 98, 3) := by decide +kernel
theorem dX12_startSo_119 : decode cX12_startSo 119 = .ok (.bipush 18, 2) := by decide +kernel
theorem dX12_startSo_121 : decode cX12_startSo 121 = .ok (.iload_n 1, 1) := by decide +kernel
theorem dX12_startSo_122 : decode cX12_startSo 122 = .ok (.iadd, 1) := by decide +kernel
theorem dX12_startSo_123 : decode cX12_startSo 123 = .ok (.iaload, 1) := by decide +kernel
theorem dX12_startSo_124 : decode cX12_startSo 124 = .ok (.iastore, 1) := by decide +kernel
theorem dX12_startSo_125 : decode cX12_startSo 125 = .ok (.aload_n 0, 1) := by decide +kernel
theorem dX12_startSo_126 : decode cX12_startSo 126 = .ok (.getfield 98, 3) := by decide +kernel
theorem dX12_startSo_129 : decode cX12_startSo 129 = .ok (.bipush 87, 2) := by decide +kernel
theorem dX12_startSo_131 : decode cX12_startSo 131 = .ok (.iload_n 1, 1) := by decide +kernel
theorem dX12_startSo_132 : decode cX12_startSo 132 = .ok (.iadd, 1) := by decide +kernel
theorem dX12_startSo_133 : decode cX12_startSo 133 = .ok (.aload_n 0, 1) := by decide +kernel
theorem dX12_startSo_134 : decode cX12_startSo 134 = .ok (.getfield 98, 3) := by decide +kernel
theorem dX12_startSo_137 : decode cX12_startSo 137 = .ok (.bipush 26, 2) := by decide +kernel
theorem dX12_startSo_139 : decode cX12_startSo 139 = .ok (.iload_n 1, 1) := by decide +kernel
theorem dX12_startSo_140 : decode cX12_startSo 140 = .ok (.iadd, 1) := by decide +kernel
theorem dX12_startSo_141 : decode cX12_startSo 141 = .ok (.iaload, 1) := by decide +kernel
theorem dX12_startSo_142 : decode cX12_startSo 142 = .ok (.iastore, 1) := by decide +kernel
theorem dX12_startSo_143 : decode cX12_startSo 143 = .ok (.iinc 1 1, 3) := by decide +kernel
theorem dX12_startSo_146 : decode cX12_startSo 146 = .ok (.goto (-63), 3) := by decide +kernel
theorem dX12_startSo_149 : decode cX12_startSo 149 = .ok (.return_, 1) := by decide +kernel
theorem dX12_init_0 : decode cX12_init 0 = .ok (.aload_n 0, 1) := by decide +kernel
theorem dX12_init_1 : decode cX12_init 1 = .ok (.invokespecial 93, 3) := by decide +kernel
theorem dX12_init_4 : decode cX12_init 4 = .ok (.aload_n 0, 1) := by decide +kernel
theorem dX12_init_5 : decode cX12_init 5 = .ok (.sipush 940, 3) := by decide +kernel
theorem dX12_init_8 : decode cX12_init 8 = .ok (.newarray .int, 2) := by decide +kernel
theorem dX12_init_10 : decode cX12_init 10 = .ok (.putfield 7, 3) := by decide +kernel
theorem dX12_init_13 : decode cX12_init 13 = .ok (.aload_n 0, 1) := by decide +kernel
theorem dX12_init_14 : decode cX12_init 14 = .ok (.sipush 373, 3) := by decide +kernel
theorem dX12_init_17 : decode cX12_init 17 = .ok (.newarray .int, 2) := by decide +kernel
theorem dX12_init_19 : decode cX12_init 19 = .ok (.putfield 98, 3) := by decide +kernel
theorem dX12_init_22 : decode cX12_init 22 = .ok (.aload_n 0, 1) := by decide +kernel
theorem dX12_init_23 : decode cX12_init 23 = .ok (.bipush 61, 2) := by decide +kernel
theorem dX12_init_25 : decode cX12_init 25 = .ok (.newarray .int, 2) := by decide +kernel
theorem dX12_init_27 : decode cX12_init 27 = .ok (.putfield 101, 3) := by decide +kernel
theorem dX12_init_30 : decode cX12_init 30 = .ok (.aload_n 0, 1) := by decide +kernel
theorem dX12_init_31 : decode cX12_init 31 = .ok (.sipush 746, 3) := by decide +kernel
theorem dX12_init_34 : decode cX12_init 34 = .ok (.newarray .int, 2) := by decide +kernel
theorem dX12_init_36 : decode cX12_init 36 = .ok (.putfield 104, 3) := by decide +kernel
theorem dX12_init_39 : decode cX12_init 39 = .ok (.aload_n 0, 1) := by decide +kernel
theorem dX12_init_40 : decode cX12_init 40 = .ok (.sipush 560, 3) := by decide +kernel
theorem dX12_init_43 : decode cX12_init 43 = .ok (.newarray .int, 2) := by decide +kernel
theorem dX12_init_45 : decode cX12_init 45 = .ok (.putfield 107, 3) := by decide +kernel
theorem dX12_init_48 : decode cX12_init 48 = .ok (.aload_n 0, 1) := by decide +kernel
theorem dX12_init_49 : decode cX12_init 49 = .ok (.bipush 70, 2) := by decide +kernel
theorem dX12_init_51 : decode cX12_init 51 = .ok (.newarray .int, 2) := by decide +kernel
theorem dX12_init_53 : decode cX12_init 53 = .ok (.putfield 110, 3) := by decide +kernel
theorem dX12_init_56 : decode cX12_init 56 = .ok (.aload_n 0, 1) := by decide +kernel
theorem dX12_init_57 : decode cX12_init 57 = .ok (.bipush 19, 2) := by decide +kernel
theorem dX12_init_59 : decode cX12_init 59 = .ok (.newarray .long, 2) := by decide +kernel
theorem dX12_init_61 : decode cX12_init 61 = .ok (.putfield 113, 3) := by decide +kernel
theorem dX12_init_64 : decode cX12_init 64 = .ok (.aload_n 0, 1) := by decide +kernel
theorem dX12_init_65 : decode cX12_init 65 = .ok (.bipush 19, 2) := by decide +kernel
theorem dX12_init_67 : decode cX12_init 67 = .ok (.newarray .long, 2) := by decide +kernel
theorem dX12_init_69 : decode cX12_init 69 = .ok (.putfield 117, 3) := by decide +kernel
theorem dX12_init_72 : decode cX12_init 72 = .ok (.aload_n 0, 1) := by decide +kernel
theorem dX12_init_73 : decode cX12_init 73 = .ok (.bipush 38, 2) := by decide +kernel
theorem dX12_init_75 : decode cX12_init 75 = .ok (.newarray .long, 2) := by decide +kernel
theorem dX12_init_77 : decode cX12_init 77 = .ok (.putfield 120, 3) := by decide +kernel
theorem dX12_init_80 : decode cX12_init 80 = .ok (.aload_n 0, 1) := by decide +kernel
theorem dX12_init_81 : decode cX12_init 81 = .ok (.iconst 2, 1) := by decide +kernel
theorem dX12_init_82 : decode cX12_init 82 = .ok (.newarray .boolean, 2) := by decide +kernel
theorem dX12_init_84 : decode cX12_init 84 = .ok (.putfield 123, 3) := by decide +kernel
theorem dX12_init_87 : decode cX12_init 87 = .ok (.aload_n 0, 1) := by decide +kernel
theorem dX12_init_88 : decode cX12_init 88 = .ok (.iconst (-1), 1) := by decide +kernel
theorem dX12_init_89 : decode cX12_init 89 = .ok (.putfield 127, 3) := by decide +kernel
theorem dX12_init_92 : decode cX12_init 92 = .ok (.aload_n 0, 1) := by decide +kernel
theorem dX12_init_93 : decode cX12_init 93 = .ok (.iconst (-1), 1) := by decide +kernel
theorem dX12_init_94 : decode cX12_init 94 = .ok (.putfield 130, 3) := by decide +kernel
theorem dX12_init_97 : decode cX12_init 97 = .ok (.aload_n 0, 1) := by decide +kernel
theorem dX12_init_98 : decode cX12_init 98 = .ok (.bipush 8, 2) := by decide +kernel
theorem dX12_init_100 : decode cX12_init 100 = .ok (.newarray .int, 2) := by decide +kernel
theorem dX12_init_102 : decode cX12_init 102 = .ok (.putfield 133, 3) := by decide +kernel
theorem dX12_init_105 : decode cX12_init 105 = .ok (.aload_n 0, 1) := by decide +kernel
theorem dX12_init_106 : decode cX12_init 106 = .ok (.bipush 8, 2) := by decide +kernel
theorem dX12_init_108 : decode cX12_init 108 = .ok (.newarray .int, 2) := by decide +kernel
theorem dX12_init_110 : decode cX12_init 110 = .ok (.putfield 136, 3) := by decide +kernel
theorem dX12_init_113 : decode cX12_init 113 = .ok (.aload_n 0, 1) := by decide +kernel
theorem dX12_init_114 : decode cX12_init 114 = .ok (.iconst (-1), 1) := by decide +kernel
theorem dX12_init_115 : decode cX12_init 115 = .ok (.putfield 139, 3) := by decide +kernel
theorem dX12_init_118 : decode cX12_init 118 = .ok (.aload_n 0, 1) := by decide +kernel
theorem dX12_init_119 : decode cX12_init 119 = .ok (.bipush 64, 2) := by decide +kernel
theorem dX12_init_121 : decode cX12_init 121 = .ok (.newarray .int, 2) := by decide +kernel
theorem dX12_init_123 : decode cX12_init 123 = .ok (.putfield 142, 3) := by decide +kernel
theorem dX12_init_126 : decode cX12_init 126 = .ok (.aload_n 0, 1) := by decide +kernel
theorem dX12_init_127 : decode cX12_init 127 = .ok (.sipush 200, 3) := by decide +kernel
theorem dX12_init_130 : decode cX12_init 130 = .ok (.newarray .int, 2) := by decide +kernel
theorem dX12_init_132 : decode cX12_init 132 = .ok (.putfield 145, 3) := by decide +kernel
theorem dX12_init_135 : decode cX12_init 135 = .ok (.aload_n 0, 1) := by decide +kernel
theorem dX12_init_136 : decode cX12_init 136 = .ok (.iconst 4, 1) := by decide +kernel
theorem dX12_init_137 : decode cX12_init 137 = .ok (.newarray .int, 2) := by decide +kernel
theorem dX12_init_139 : decode cX12_init 139 = .ok (.putfield 148, 3) := by decide +kernel
theorem dX12_init_142 : decode cX12_init 142 = .ok (.aload_n 0, 1) := by decide +kernel
theorem dX12_init_143 : decode cX12_init 143 = .ok (.sipush 240, 3) := by decide +kernel
theorem dX12_init_146 : decode cX12_init 146 = .ok (.newarray .int, 2) := by decide +kernel
theorem dX12_init_148 : decode cX12_init 148 = .ok (.putfield 151, 3) := by decide +kernel
theorem dX12_init_151 : decode cX12_init 151 = .ok (.aload_n 0, 1) := by decide +kernel
theorem dX12_init_152 : decode cX12_init 152 = .ok (.getfield 98, 3) := by decide +kernel
theorem dX12_init_155 : decode cX12_init 155 = .ok (.bipush 60, 2) := by decide +kernel
theorem dX12_init_157 : decode cX12_init 157 = .ok (.iconst 2, 1) := by decide +kernel
theorem dX12_init_158 : decode cX12_init 158 = .ok (.iastore, 1) := by decide +kernel
theorem dX12_init_159 : decode cX12_init 159 = .ok (.aload_n 0, 1) := by decide +kernel
set_option maxRecDepth 20000 in
theorem ggX12_init_X12_startSo : GoodIn wsX12_init wsX12_startSo := goodIn_r _ [30, 6, 31, 32, 33, 34, 35, 36, 37, 38, 39, 40, 41, 42, 43, 44, 45, 46, 47, 48, 49, 50, 51, 52, 53, 54, 55, 56, 57, 58, 59, 60, 61, 62, 63, 64, 65, 66, 67, 68, 69, 70, 71, 72, 73, 74, 75, 76, 77] (by decide +kernel) (by decide +kernel)
set_option maxRecDepth 20000 in
theorem gX12_init_X12_startSo : GoodIn wsX12_init (wsV RX12 154 RX12 yX12_startSo wsX12_startSo) := goodIn_app (goodIn_of _ (by decide +kernel)) ggX12_init_X12_startSo
theorem dX12_init_160 : decode cX12_init 160 = .ok (.invokevirtual 154, 3) := by decide +kernel
theorem dX12_init_163 : decode cX12_init 163 = .ok (.return_, 1) := by decide +kernel
theorem dX12_come_0 : decode cX12_come 0 = .ok (.bipush 24, 2) := by decide +kernel
theorem dX12_come_2 : decode cX12_come 2 = .ok (.istore_n 2, 1) := by decide +kernel
theorem dX12_come_3 : decode cX12_come 3 = .ok (.iload_n 2, 1) := by decide +kernel
theorem dX12_come_4 : decode cX12_come 4 = .ok (.ifCond .lt 35, 3) := by decide +kernel
theorem dX12_come_7 : decode cX12_come 7 = .ok (.aload_n 0, 1) := by decide +kernel
theorem dX12_come_8 : decode cX12_come 8 = .ok (.getfield 7, 3) := by decide +kernel
theorem dX12_come_11 : decode cX12_come 11 = .ok (.aload_n 0, 1) := by decide +kernel
theorem dX12_come_12 : decode cX12_come 12 = .ok (.getfield 11, 3) := by decide +kernel
theorem dX12_come_15 : decode cX12_come 15 = .ok (.iload_n 1, 1) := by decide +kernel
theorem dX12_come_16 : decode cX12_come 16 = .ok (.iload_n 2, 1) := by decide +kernel
theorem dX12_come_17 : decode cX12_come 17 = .ok (.iushr, 1) := by decide +kernel
theorem dX12_come_18 : decode cX12_come 18 = .ok (.sipush 255, 3) := by decide +kernel
theorem dX12_come_21 : decode cX12_come 21 = .ok (.iand, 1) := by decide +kernel
theorem dX12_come_22 : decode cX12_come 22 = .ok (.iastore, 1) := by decide +kernel
theorem dX12_come_23 : decode cX12_come 23 = .ok (.aload_n 0, 1) := by decide +kernel
theorem dX12_come_24 : decode cX12_come 24 = .ok (.dup, 1) := by decide +kernel
theorem dX12_come_25 : decode cX12_come 25 = .ok (.getfield 11, 3) := by decide +kernel
theorem dX12_come_28 : decode cX12_come 28 = .ok (.iconst 1, 1) := by decide +kernel
theorem dX12_come_29 : decode cX12_come 29 = .ok (.iadd, 1) := by decide +kernel
theorem dX12_come_30 : decode cX12_come 30 = .ok (.putfield 11, 3) := by decide +kernel
theorem dX12_come_33 : decode cX12_come 33 = .ok (.iinc 2 (-8), 3) := by decide +kernel
theorem dX12_come_36 : decode cX12_come 36 = .ok (.goto (-33), 3) := by decide +kernel
theorem dX12_come_39 : decode cX12_come 39 = .ok (.return_, 1) := by decide +kernel
theorem dX12_feed_0 : decode cX12_feed 0 = .ok (.aload_n 0, 1) := by decide +kernel
theorem dX12_feed_1 : decode cX12_feed 1 = .ok (.iconst 0, 1) := by decide +kernel
theorem dX12_feed_2 : decode cX12_feed 2 = .ok (.putfield 1, 3) := by decide +kernel
theorem dX12_feed_5 : decode cX12_feed 5 = .ok (.aload_n 0, 1) := by decide +kernel
theorem dX12_feed_6 : decode cX12_feed 6 = .ok (.getfield 11, 3) := by decide +kernel
theorem dX12_feed_9 : decode cX12_feed 9 = .ok (.bipush 20, 2) := by decide +kernel
theorem dX12_feed_11 : decode cX12_feed 11 = .ok (.iadd, 1) := by decide +kernel
theorem dX12_feed_12 : decode cX12_feed 12 = .ok (.sipush 940, 3) := by decide +kernel
theorem dX12_feed_15 : decode cX12_feed 15 = .ok (.if_icmp .le 5, 3) := by decide +kernel
theorem dX12_feed_20 : decode cX12_feed 20 = .ok (.aload_n 0, 1) := by decide +kernel
theorem dX12_feed_21 : decode cX12_feed 21 = .ok (.iload_n 1, 1) := by decide +kernel
set_option maxRecDepth 20000 in
theorem ggX12_feed_X12_come : GoodIn wsX12_feed wsX12_come := goodIn_r _ [7, 8, 2, 9, 10, 11, 12, 13, 14, 15, 16, 17, 18, 19, 20, 21, 22, 23, 24, 25, 26, 27, 28, 29, 30, 31, 32, 33, 34, 35, 36, 37, 38, 39, 40, 41, 42, 43, 44, 45, 46, 47, 48, 49, 50, 51, 52, 53, 54, 55] (by decide +kernel) (by decide +kernel)
set_option maxRecDepth 20000 in
theorem gX12_feed_X12_come : GoodIn wsX12_feed (wsV RX12 14 RX12 yX12_come wsX12_come) := goodIn_app (goodIn_of _ (by decide +kernel)) ggX12_feed_X12_come
theorem dX12_feed_22 : decode cX12_feed 22 = .ok (.invokevirtual 14, 3) := by decide +kernel
theorem dX12_feed_25 : decode cX12_feed 25 = .ok (.aload_n 0, 1) := by decide +kernel
theorem dX12_feed_26 : decode cX12_feed 26 = .ok (.iload_n 2, 1) := by decide +kernel
theorem dX12_feed_27 : decode cX12_feed 27 = .ok (.invokevirtual 14, 3) := by decide +kernel
theorem dX12_feed_30 : decode cX12_feed 30 = .ok (.aload_n 0, 1) := by decide +kernel
theorem dX12_feed_31 : decode cX12_feed 31 = .ok (.iload_n 3, 1) := by decide +kernel
theorem dX12_feed_32 : decode cX12_feed 32 = .ok (.invokevirtual 14, 3) := by decide +kernel
theorem dX12_feed_35 : decode cX12_feed 35 = .ok (.aload_n 0, 1) := by decide +kernel
theorem dX12_feed_36 : decode cX12_feed 36 = .ok (.iload 4, 2) := by decide +kernel
theorem dX12_feed_38 : decode cX12_feed 38 = .ok (.invokevirtual 14, 3) := by decide +kernel
theorem dX12_feed_41 : decode cX12_feed 41 = .ok (.aload_n 0, 1) := by decide +kernel
theorem dX12_feed_42 : decode cX12_feed 42 = .ok (.iload 5, 2) := by decide +kernel
theorem dX12_feed_44 : decode cX12_feed 44 = .ok (.invokevirtual 14, 3) := by decide +kernel
theorem dX12_feed_47 : decode cX12_feed 47 = .ok (.aload_n 0, 1) := by decide +kernel
theorem dX12_feed_48 : decode cX12_feed 48 = .ok (.getfield 11, 3) := by decide +kernel
theorem dX12_feed_51 : decode cX12_feed 51 = .ok (.ireturn, 1) := by decide +kernel
theorem dX12_end_0 : decode cX12_end 0 = .ok (.aload_n 0, 1) := by decide +kernel
theorem dX12_end_1 : decode cX12_end 1 = .ok (.iconst 0, 1) := by decide +kernel
theorem dX12_end_2 : decode cX12_end 2 = .ok (.putfield 1, 3) := by decide +kernel
theorem dX12_end_5 : decode cX12_end 5 = .ok (.iload_n 1, 1) := by decide +kernel
theorem dX12_end_6 : decode cX12_end 6 = .ok (.ifCond .lt 11, 3) := by decide +kernel
theorem dX12_end_9 : decode cX12_end 9 = .ok (.iload_n 1, 1) := by decide +kernel
theorem dX12_end_10 : decode cX12_end 10 = .ok (.aload_n 0, 1) := by decide +kernel
theorem dX12_end_11 : decode cX12_end 11 = .ok (.getfield 11, 3) := by decide +kernel
theorem dX12_end_14 : decode cX12_end 14 = .ok (.if_icmp .le 5, 3) := by decide +kernel
theorem dX12_end_19 : decode cX12_end 19 = .ok (.aload_n 0, 1) := by decide +kernel
theorem dX12_end_20 : decode cX12_end 20 = .ok (.iload_n 1, 1) := by decide +kernel
theorem dX12_end_21 : decode cX12_end 21 = .ok (.putfield 11, 3) := by decide +kernel
theorem dX12_end_24 : decode cX12_end 24 = .ok (.iconst 1, 1) := by decide +kernel
theorem dX12_end_25 : decode cX12_end 25 = .ok (.ireturn, 1) := by decide +kernel
theorem dX12_end_17 : decode cX12_end 17 = .ok (.iconst 0, 1) := by decide +kernel
theorem dX12_end_18 : decode cX12_end 18 = .ok (.ireturn, 1) := by decide +kernel
theorem dX12_take_0 : decode cX12_take 0 = .ok (.aload_n 0, 1) := by decide +kernel
theorem dX12_take_1 : decode cX12_take 1 = .ok (.getfield 11, 3) := by decide +kernel
theorem dX12_take_4 : decode cX12_take 4 = .ok (.istore_n 1, 1) := by decide +kernel
theorem dX12_take_5 : decode cX12_take 5 = .ok (.aload_n 0, 1) := by decide +kernel
theorem dX12_take_6 : decode cX12_take 6 = .ok (.iconst 0, 1) := by decide +kernel
theorem dX12_take_7 : decode cX12_take 7 = .ok (.putfield 11, 3) := by decide +kernel
theorem dX12_take_10 : decode cX12_take 10 = .ok (.iload_n 1, 1) := by decide +kernel
theorem dX12_take_11 : decode cX12_take 11 = .ok (.ireturn, 1) := by decide +kernel
theorem dX12_go_0 : decode cX12_go 0 = .ok (.aload_n 0, 1) := by decide +kernel
theorem dX12_go_1 : decode cX12_go 1 = .ok (.getfield 21, 3) := by decide +kernel
theorem dX12_go_4 : decode cX12_go 4 = .ok (.aload_n 0, 1) := by decide +kernel
theorem dX12_go_5 : decode cX12_go 5 = .ok (.getfield 18, 3) := by decide +kernel
theorem dX12_go_8 : decode cX12_go 8 = .ok (.if_icmp .ge 44, 3) := by decide +kernel
theorem dX12_go_52 : decode cX12_go 52 = .ok (.aload_n 0, 1) := by decide +kernel
theorem dX12_go_53 : decode cX12_go 53 = .ok (.aload_n 0, 1) := by decide +kernel
theorem dX12_go_54 : decode cX12_go 54 = .ok (.getfield 21, 3) := by decide +kernel
theorem dX12_go_57 : decode cX12_go 57 = .ok (.putfield 24, 3) := by decide +kernel
theorem dX12_go_60 : decode cX12_go 60 = .ok (.aload_n 0, 1) := by decide +kernel
theorem dX12_go_61 : decode cX12_go 61 = .ok (.getfield 18, 3) := by decide +kernel
theorem dX12_go_64 : decode cX12_go 64 = .ok (.aload_n 0, 1) := by decide +kernel
theorem dX12_go_65 : decode cX12_go 65 = .ok (.getfield 27, 3) := by decide +kernel
theorem dX12_go_68 : decode cX12_go 68 = .ok (.if_icmp .le 28, 3) := by decide +kernel
theorem dX12_go_96 : decode cX12_go 96 = .ok (.aload_n 0, 1) := by decide +kernel
theorem dX12_go_97 : decode cX12_go 97 = .ok (.getfield 21, 3) := by decide +kernel
theorem dX12_go_100 : decode cX12_go 100 = .ok (.aload_n 0, 1) := by decide +kernel
theorem dX12_go_101 : decode cX12_go 101 = .ok (.getfield 18, 3) := by decide +kernel
theorem dX12_go_104 : decode cX12_go 104 = .ok (.if_icmp .lt 9, 3) := by decide +kernel
theorem dX12_go_107 : decode cX12_go 107 = .ok (.aload_n 0, 1) := by decide +kernel
theorem dX12_go_108 : decode cX12_go 108 = .ok (.iconst 0, 1) := by decide +kernel
theorem dX12_go_109 : decode cX12_go 109 = .ok (.putfield 30, 3) := by decide +kernel
theorem dX12_go_112 : decode cX12_go 112 = .ok (.return_, 1) := by decide +kernel
theorem dX12_begin_0 : decode cX12_begin 0 = .ok (.aload_n 0, 1) := by decide +kernel
theorem dX12_begin_1 : decode cX12_begin 1 = .ok (.iconst 0, 1) := by decide +kernel
theorem dX12_begin_2 : decode cX12_begin 2 = .ok (.putfield 1, 3) := by decide +kernel
theorem dX12_begin_5 : decode cX12_begin 5 = .ok (.aload_n 0, 1) := by decide +kernel
theorem dX12_begin_6 : decode cX12_begin 6 = .ok (.aload_n 0, 1) := by decide +kernel
set_option maxRecDepth 20000 in
theorem ggX12_begin_X12_take : GoodIn wsX12_begin wsX12_take := goodIn_r _ [10, 11, 34, 35, 36, 37, 38, 39, 40, 41, 42, 43, 44, 45, 46, 47, 48, 49, 50, 51, 52, 53, 54, 55, 56, 57, 58, 59, 60, 61, 62, 63, 64, 65, 66, 67, 68, 69, 70, 71, 72, 73, 74, 75, 76, 77, 78, 79, 80] (by decide +kernel) (by decide +kernel)
set_option maxRecDepth 20000 in
theorem gX12_begin_X12_take : GoodIn wsX12_begin (wsV RX12 89 RX12 yX12_take wsX12_take) := goodIn_app (goodIn_of _ (by decide +kernel)) ggX12_begin_X12_take
theorem dX12_begin_7 : decode cX12_begin 7 = .ok (.invokevirtual 89, 3) := by decide +kernel
theorem dX12_begin_10 : decode cX12_begin 10 = .ok (.putfield 18, 3) := by decide +kernel
theorem dX12_begin_13 : decode cX12_begin 13 = .ok (.aload_n 0, 1) := by decide +kernel
theorem dX12_begin_14 : decode cX12_begin 14 = .ok (.iload_n 1, 1) := by decide +kernel
theorem dX12_begin_15 : decode cX12_begin 15 = .ok (.putfield 27, 3) := by decide +kernel
theorem dX12_begin_18 : decode cX12_begin 18 = .ok (.aload_n 0, 1) := by decide +kernel
theorem dX12_begin_19 : decode cX12_begin 19 = .ok (.iconst 0, 1) := by decide +kernel
theorem dX12_begin_20 : decode cX12_begin 20 = .ok (.putfield 66, 3) := by decide +kernel
theorem dX12_begin_23 : decode cX12_begin 23 = .ok (.aload_n 0, 1) := by decide +kernel
theorem dX12_begin_24 : decode cX12_begin 24 = .ok (.iconst 0, 1) := by decide +kernel
theorem dX12_begin_25 : decode cX12_begin 25 = .ok (.putfield 21, 3) := by decide +kernel
theorem dX12_begin_28 : decode cX12_begin 28 = .ok (.aload_n 0, 1) := by decide +kernel
set_option maxRecDepth 20000 in
theorem ggX12_begin_X12_go : GoodIn wsX12_begin wsX12_go := goodIn_r _ [15, 5, 2, 16, 17, 3, 18, 19, 20, 21, 22, 23, 24, 25, 9, 26, 27, 28, 29, 30, 31, 32, 33, 34, 35, 36, 37, 38, 39, 40, 41, 42, 43, 44, 45, 46, 47, 48, 49, 50, 51, 52, 53, 54, 55, 56, 57, 58, 59, 60, 61, 62, 63, 64, 65, 66, 67, 68, 69, 70, 71, 72, 73, 74, 75, 76, 77, 78, 79, 80] (by decide +kernel) (by decide +kernel)
set_option maxRecDepth 20000 in
theorem gX12_begin_X12_go : GoodIn wsX12_begin (wsV RX12 82 RX12 yX12_go wsX12_go) := goodIn_app (goodIn_of _ (by decide +kernel)) ggX12_begin_X12_go
theorem dX12_begin_29 : decode cX12_begin 29 = .ok (.invokevirtual 82, 3) := by decide +kernel
theorem dX12_begin_32 : decode cX12_begin 32 = .ok (.return_, 1) := by decide +kernel
theorem dX12_park_0 : decode cX12_park 0 = .ok (.aload_n 0, 1) := by decide +kernel
theorem dX12_park_1 : decode cX12_park 1 = .ok (.sipush 900, 3) := by decide +kernel
set_option maxRecDepth 20000 in
theorem ggX12_park_X12_begin : GoodIn wsX12_park wsX12_begin := goodIn_r _ [13, 14, 15, 16, 17, 18, 19, 20, 21, 12, 22, 23, 24, 25, 26, 27, 28, 29, 3, 30, 31, 32, 33, 34, 35, 36, 37, 38, 39, 40, 41, 42, 43, 44, 125, 126, 127, 128, 129, 130, 131, 132, 133, 134, 135, 136, 137, 138, 139, 140, 141, 142, 143, 144, 145, 146, 147, 148, 149, 150, 151, 152, 153, 154, 155, 156, 157, 158, 159, 160, 161, 162, 163, 164, 165, 166, 167, 168, 169, 170, 171] (by decide +kernel) (by decide +kernel)
set_option maxRecDepth 20000 in
theorem gX12_park_X12_begin : GoodIn wsX12_park (wsV RX12 205 RX12 yX12_begin wsX12_begin) := goodIn_app (goodIn_of _ (by decide +kernel)) ggX12_park_X12_begin
theorem dX12_park_4 : decode cX12_park 4 = .ok (.invokevirtual 205, 3) := by decide +kernel
theorem dX12_park_7 : decode cX12_park 7 = .ok (.iconst 0, 1) := by decide +kernel
theorem dX12_park_8 : decode cX12_park 8 = .ok (.istore_n 1, 1) := by decide +kernel
theorem dX12_park_9 : decode cX12_park 9 = .ok (.iload_n 1, 1) := by decide +kernel
theorem dX12_park_10 : decode cX12_park 10 = .ok (.bipush 61, 2) := by decide +kernel
theorem dX12_park_12 : decode cX12_park 12 = .ok (.if_icmp .ge 16, 3) := by decide +kernel
theorem dX12_park_15 : decode cX12_park 15 = .ok (.aload_n 0, 1) := by decide +kernel
theorem dX12_park_16 : decode cX12_park 16 = .ok (.getfield 101, 3) := by decide +kernel
theorem dX12_park_19 : decode cX12_park 19 = .ok (.iload_n 1, 1) := by decide +kernel
theorem dX12_park_20 : decode cX12_park 20 = .ok (.iconst 0, 1) := by decide +kernel
theorem dX12_park_21 : decode cX12_park 21 = .ok (.iastore, 1) := by decide +kernel
theorem dX12_park_22 : decode cX12_park 22 = .ok (.iinc 1 1, 3) := by decide +kernel
theorem dX12_park_25 : decode cX12_park 25 = .ok (.goto (-16), 3) := by decide +kernel
theorem dX12_park_28 : decode cX12_park 28 = .ok (.aload_n 0, 1) := by decide +kernel
theorem dX12_park_29 : decode cX12_park 29 = .ok (.getfield 101, 3) := by decide +kernel
theorem dX12_park_32 : decode cX12_park 32 = .ok (.bipush 60, 2) := by decide +kernel
theorem dX12_park_34 : decode cX12_park 34 = .ok (.iconst 2, 1) := by decide +kernel
theorem dX12_park_35 : decode cX12_park 35 = .ok (.iastore, 1) := by decide +kernel
theorem dX12_park_36 : decode cX12_park 36 = .ok (.aload_n 0, 1) := by decide +kernel
theorem dX12_park_37 : decode cX12_park 37 = .ok (.iconst 0, 1) := by decide +kernel
theorem dX12_park_38 : decode cX12_park 38 = .ok (.putfield 201, 3) := by decide +kernel
theorem dX12_park_41 : decode cX12_park 41 = .ok (.iconst 0, 1) := by decide +kernel
theorem dX12_park_42 : decode cX12_park 42 = .ok (.istore_n 1, 1) := by decide +kernel
theorem dX12_park_43 : decode cX12_park 43 = .ok (.aload_n 0, 1) := by decide +kernel
theorem dX12_park_44 : decode cX12_park 44 = .ok (.getfield 30, 3) := by decide +kernel
theorem dX12_park_47 : decode cX12_park 47 = .ok (.ifCond .eq 30, 3) := by decide +kernel
theorem dX12_park_77 : decode cX12_park 77 = .ok (.iconst 0, 1) := by decide +kernel
theorem dX12_park_78 : decode cX12_park 78 = .ok (.istore_n 2, 1) := by decide +kernel
theorem dX12_park_79 : decode cX12_park 79 = .ok (.iload_n 2, 1) := by decide +kernel
theorem dX12_park_80 : decode cX12_park 80 = .ok (.bipush 61, 2) := by decide +kernel
theorem dX12_park_82 : decode cX12_park 82 = .ok (.if_icmp .ge 21, 3) := by decide +kernel
theorem dX12_park_85 : decode cX12_park 85 = .ok (.aload_n 0, 1) := by decide +kernel
theorem dX12_park_86 : decode cX12_park 86 = .ok (.getfield 98, 3) := by decide +kernel
theorem dX12_park_89 : decode cX12_park 89 = .ok (.iload_n 2, 1) := by decide +kernel
theorem dX12_park_90 : decode cX12_park 90 = .ok (.aload_n 0, 1) := by decide +kernel
theorem dX12_park_91 : decode cX12_park 91 = .ok (.getfield 101, 3) := by decide +kernel
theorem dX12_park_94 : decode cX12_park 94 = .ok (.iload_n 2, 1) := by decide +kernel
theorem dX12_park_95 : decode cX12_park 95 = .ok (.iaload, 1) := by decide +kernel
theorem dX12_park_96 : decode cX12_park 96 = .ok (.iastore, 1) := by decide +kernel
theorem dX12_park_97 : decode cX12_park 97 = .ok (.iinc 2 1, 3) := by decide +kernel
theorem dX12_park_100 : decode cX12_park 100 = .ok (.goto (-21), 3) := by decide +kernel
theorem dX12_park_103 : decode cX12_park 103 = .ok (.iconst 0, 1) := by decide +kernel
theorem dX12_park_104 : decode cX12_park 104 = .ok (.istore_n 2, 1) := by decide +kernel
theorem dX12_park_105 : decode cX12_park 105 = .ok (.iload_n 2, 1) := by decide +kernel
theorem dX12_park_106 : decode cX12_park 106 = .ok (.bipush 19, 2) := by decide +kernel
theorem dX12_park_108 : decode cX12_park 108 = .ok (.if_icmp .ge 21, 3) := by decide +kernel
theorem dX12_park_111 : decode cX12_park 111 = .ok (.aload_n 0, 1) := by decide +kernel
theorem dX12_park_112 : decode cX12_park 112 = .ok (.getfield 113, 3) := by decide +kernel
theorem dX12_park_115 : decode cX12_park 115 = .ok (.iload_n 2, 1) := by decide +kernel
theorem dX12_park_116 : decode cX12_park 116 = .ok (.aload_n 0, 1) := by decide +kernel
theorem dX12_park_117 : decode cX12_park 117 = .ok (.getfield 117, 3) := by decide +kernel
theorem dX12_park_120 : decode cX12_park 120 = .ok (.iload_n 2, 1) := by decide +kernel
theorem dX12_park_121 : decode cX12_park 121 = .ok (.laload, 1) := by decide +kernel
theorem dX12_park_122 : decode cX12_park 122 = .ok (.lastore, 1) := by decide +kernel
theorem dX12_park_123 : decode cX12_park 123 = .ok (.iinc 2 1, 3) := by decide +kernel
theorem dX12_park_126 : decode cX12_park 126 = .ok (.goto (-21), 3) := by decide +kernel
theorem dX12_park_129 : decode cX12_park 129 = .ok (.aload_n 0, 1) := by decide +kernel
set_option maxRecDepth 20000 in
theorem ggX12_park_X12_startSo : GoodIn wsX12_park wsX12_startSo := goodIn_r _ [124, 5, 125, 126, 127, 128, 129, 130, 131, 132, 133, 134, 135, 136, 137, 138, 139, 140, 141, 142, 143, 144, 145, 146, 147, 148, 149, 150, 151, 152, 153, 154, 155, 156, 157, 158, 159, 160, 161, 162, 163, 164, 165, 166, 167, 168, 169, 170, 171] (by decide +kernel) (by decide +kernel)
set_option maxRecDepth 20000 in
theorem gX12_park_X12_startSo : GoodIn wsX12_park (wsV RX12 154 RX12 yX12_startSo wsX12_startSo) := goodIn_app (goodIn_of _ (by decide +kernel)) ggX12_park_X12_startSo
theorem dX12_park_130 : decode cX12_park 130 = .ok (.invokevirtual 154, 3) := by decide +kernel
theorem dX12_park_133 : decode cX12_park 133 = .ok (.aload_n 0, 1) := by decide +kernel
theorem dX12_park_134 : decode cX12_park 134 = .ok (.iconst 0, 1) := by decide +kernel
theorem dX12_park_135 : decode cX12_park 135 = .ok (.putfield 214, 3) := by decide +kernel
theorem dX12_park_138 : decode cX12_park 138 = .ok (.iload_n 1, 1) := by decide +kernel
theorem dX12_park_139 : decode cX12_park 139 = .ok (.ireturn, 1) := by decide +kernel
theorem dX12_fault_0 : decode cX12_fault 0 = .ok (.aload_n 0, 1) := by decide +kernel
theorem dX12_fault_1 : decode cX12_fault 1 = .ok (.iconst 0, 1) := by decide +kernel
theorem dX12_fault_2 : decode cX12_fault 2 = .ok (.putfield 1, 3) := by decide +kernel
theorem dX12_fault_5 : decode cX12_fault 5 = .ok (.aload_n 0, 1) := by decide +kernel
theorem dX12_fault_6 : decode cX12_fault 6 = .ok (.getfield 66, 3) := by decide +kernel
theorem dX12_fault_9 : decode cX12_fault 9 = .ok (.ireturn, 1) := by decide +kernel
theorem dX12_isIn_0 : decode cX12_isIn 0 = .ok (.iload_n 0, 1) := by decide +kernel
theorem dX12_isIn_1 : decode cX12_isIn 1 = .ok (.iload_n 1, 1) := by decide +kernel
theorem dX12_isIn_2 : decode cX12_isIn 2 = .ok (.if_icmp .lt 12, 3) := by decide +kernel
theorem dX12_isIn_14 : decode cX12_isIn 14 = .ok (.iconst 0, 1) := by decide +kernel
theorem dX12_isIn_15 : decode cX12_isIn 15 = .ok (.ireturn, 1) := by decide +kernel
theorem dX12_isIn_5 : decode cX12_isIn 5 = .ok (.iload_n 0, 1) := by decide +kernel
theorem dX12_isIn_6 : decode cX12_isIn 6 = .ok (.iload_n 2, 1) := by decide +kernel
theorem dX12_isIn_7 : decode cX12_isIn 7 = .ok (.if_icmp .gt 7, 3) := by decide +kernel
theorem dX12_isPlace_0 : decode cX12_isPlace 0 = .ok (.iload_n 1, 1) := by decide +kernel
theorem dX12_isPlace_1 : decode cX12_isPlace 1 = .ok (.iconst 0, 1) := by decide +kernel
theorem dX12_isPlace_2 : decode cX12_isPlace 2 = .ok (.aload_n 0, 1) := by decide +kernel
theorem dX12_isPlace_3 : decode cX12_isPlace 3 = .ok (.getfield 98, 3) := by decide +kernel
theorem dX12_isPlace_6 : decode cX12_isPlace 6 = .ok (.iconst 0, 1) := by decide +kernel
theorem dX12_isPlace_7 : decode cX12_isPlace 7 = .ok (.iaload, 1) := by decide +kernel
theorem dX12_isPlace_8 : decode cX12_isPlace 8 = .ok (.iconst 1, 1) := by decide +kernel
theorem dX12_isPlace_9 : decode cX12_isPlace 9 = .ok (.isub, 1) := by decide +kernel
set_option maxRecDepth 20000 in
theorem ggX12_isPlace_X12_isIn : GoodIn wsX12_isPlace wsX12_isIn := goodIn_r _ [5] (by decide +kernel) (by decide +kernel)
set_option maxRecDepth 20000 in
theorem gX12_isPlace_X12_isIn : GoodIn wsX12_isPlace (va_wsS RX12 75 yX12_isIn wsX12_isIn) := goodIn_app (goodIn_of _ (by decide +kernel)) ggX12_isPlace_X12_isIn
theorem dX12_isPlace_10 : decode cX12_isPlace 10 = .ok (.invokestatic 75, 3) := by decide +kernel
theorem dX12_isPlace_13 : decode cX12_isPlace 13 = .ok (.ireturn, 1) := by decide +kernel
theorem dX12_place_0 : decode cX12_place 0 = .ok (.aload_n 0, 1) := by decide +kernel
theorem dX12_place_1 : decode cX12_place 1 = .ok (.iconst 0, 1) := by decide +kernel
theorem dX12_place_2 : decode cX12_place 2 = .ok (.putfield 1, 3) := by decide +kernel
theorem dX12_place_5 : decode cX12_place 5 = .ok (.aload_n 0, 1) := by decide +kernel
theorem dX12_place_6 : decode cX12_place 6 = .ok (.iload_n 1, 1) := by decide +kernel
set_option maxRecDepth 20000 in
theorem ggX12_place_X12_isPlace : GoodIn wsX12_place wsX12_isPlace := goodIn_r _ [7, 2, 8, 9, 6, 10, 18, 19, 20, 21, 22, 23, 24, 25, 26, 27, 28, 29, 30, 31, 32, 33, 34, 35, 36, 37, 38, 39, 40, 41, 42, 43, 44, 45, 46, 47, 48, 49, 50, 51, 52, 53, 54, 55, 56, 57, 58, 59, 60, 61, 62, 63, 64] (by decide +kernel) (by decide +kernel)
set_option maxRecDepth 20000 in
theorem gX12_place_X12_isPlace : GoodIn wsX12_place (wsV RX12 250 RX12 yX12_isPlace wsX12_isPlace) := goodIn_app (goodIn_of _ (by decide +kernel)) ggX12_place_X12_isPlace
theorem dX12_place_7 : decode cX12_place 7 = .ok (.invokevirtual 250, 3) := by decide +kernel
theorem dX12_place_10 : decode cX12_place 10 = .ok (.ifCond .ne 5, 3) := by decide +kernel
theorem dX12_place_13 : decode cX12_place 13 = .ok (.iconst (-1), 1) := by decide +kernel
theorem dX12_place_14 : decode cX12_place 14 = .ok (.ireturn, 1) := by decide +kernel
theorem dX12_now_0 : decode cX12_now 0 = .ok (.aload_n 0, 1) := by decide +kernel
theorem dX12_now_1 : decode cX12_now 1 = .ok (.iconst 0, 1) := by decide +kernel
theorem dX12_now_2 : decode cX12_now 2 = .ok (.putfield 1, 3) := by decide +kernel
theorem dX12_now_5 : decode cX12_now 5 = .ok (.iconst 0, 1) := by decide +kernel
theorem dX12_now_6 : decode cX12_now 6 = .ok (.istore_n 2, 1) := by decide +kernel
theorem dX12_now_7 : decode cX12_now 7 = .ok (.iload_n 1, 1) := by decide +kernel
theorem dX12_now_8 : decode cX12_now 8 = .ok (.tableswitch 125 0 7 #[48, 56, 61, 69, 77, 105, 111, 117], 48) := by decide +kernel
theorem dX12_now_56 : decode cX12_now 56 = .ok (.aload_n 0, 1) := by decide +kernel
theorem dX12_now_57 : decode cX12_now 57 = .ok (.getfield 98, 3) := by decide +kernel
theorem dX12_now_60 : decode cX12_now 60 = .ok (.bipush 61, 2) := by decide +kernel
theorem dX12_now_62 : decode cX12_now 62 = .ok (.iaload, 1) := by decide +kernel
theorem dX12_now_63 : decode cX12_now 63 = .ok (.ireturn, 1) := by decide +kernel
theorem dX12_awaySet_0 : decode cX12_awaySet 0 = .ok (.iconst 0, 1) := by decide +kernel
theorem dX12_awaySet_1 : decode cX12_awaySet 1 = .ok (.istore_n 1, 1) := by decide +kernel
theorem dX12_awaySet_2 : decode cX12_awaySet 2 = .ok (.iconst 0, 1) := by decide +kernel
theorem dX12_awaySet_3 : decode cX12_awaySet 3 = .ok (.istore_n 2, 1) := by decide +kernel
theorem dX12_awaySet_4 : decode cX12_awaySet 4 = .ok (.iload_n 2, 1) := by decide +kernel
theorem dX12_awaySet_5 : decode cX12_awaySet 5 = .ok (.aload_n 0, 1) := by decide +kernel
theorem dX12_awaySet_6 : decode cX12_awaySet 6 = .ok (.getfield 98, 3) := by decide +kernel
theorem dX12_awaySet_9 : decode cX12_awaySet 9 = .ok (.iconst 1, 1) := by decide +kernel
theorem dX12_awaySet_10 : decode cX12_awaySet 10 = .ok (.iaload, 1) := by decide +kernel
theorem dX12_awaySet_11 : decode cX12_awaySet 11 = .ok (.if_icmp .ge 23, 3) := by decide +kernel
theorem dX12_awaySet_34 : decode cX12_awaySet 34 = .ok (.iload_n 1, 1) := by decide +kernel
theorem dX12_awaySet_35 : decode cX12_awaySet 35 = .ok (.ireturn, 1) := by decide +kernel
theorem dX12_now_64 : decode cX12_now 64 = .ok (.aload_n 0, 1) := by decide +kernel
set_option maxRecDepth 20000 in
theorem ggX12_now_X12_awaySet : GoodIn wsX12_now wsX12_awaySet := goodIn_r _ [7, 2, 8, 9, 10, 6, 11, 45, 46, 47, 48, 49, 50, 51, 52, 53, 54, 55, 56, 57, 58, 59, 60, 61, 62, 63, 64, 65, 66, 67, 68, 69, 70, 71, 72, 73, 74, 75, 76, 77, 78, 79, 80, 81, 82, 83, 84, 85, 86, 87, 88, 89, 90, 91] (by decide +kernel) (by decide +kernel)
set_option maxRecDepth 20000 in
theorem gX12_now_X12_awaySet : GoodIn wsX12_now (wsV RX12 253 RX12 yX12_awaySet wsX12_awaySet) := goodIn_app (goodIn_of _ (by decide +kernel)) ggX12_now_X12_awaySet
theorem dX12_now_65 : decode cX12_now 65 = .ok (.invokevirtual 253, 3) := by decide +kernel
theorem dX12_now_68 : decode cX12_now 68 = .ok (.ireturn, 1) := by decide +kernel
theorem dX12_now_69 : decode cX12_now 69 = .ok (.aload_n 0, 1) := by decide +kernel
theorem dX12_now_70 : decode cX12_now 70 = .ok (.getfield 98, 3) := by decide +kernel
theorem dX12_now_73 : decode cX12_now 73 = .ok (.bipush 62, 2) := by decide +kernel
theorem dX12_now_75 : decode cX12_now 75 = .ok (.iaload, 1) := by decide +kernel
theorem dX12_now_76 : decode cX12_now 76 = .ok (.ireturn, 1) := by decide +kernel
theorem dX12_now_77 : decode cX12_now 77 = .ok (.aload_n 0, 1) := by decide +kernel
theorem dX12_now_78 : decode cX12_now 78 = .ok (.getfield 98, 3) := by decide +kernel
theorem dX12_now_81 : decode cX12_now 81 = .ok (.bipush 63, 2) := by decide +kernel
theorem dX12_now_83 : decode cX12_now 83 = .ok (.iaload, 1) := by decide +kernel
theorem dX12_now_84 : decode cX12_now 84 = .ok (.ireturn, 1) := by decide +kernel
theorem dX12_now_85 : decode cX12_now 85 = .ok (.iconst 0, 1) := by decide +kernel
theorem dX12_now_86 : decode cX12_now 86 = .ok (.istore_n 3, 1) := by decide +kernel
theorem dX12_now_87 : decode cX12_now 87 = .ok (.iload_n 3, 1) := by decide +kernel
theorem dX12_now_88 : decode cX12_now 88 = .ok (.bipush 8, 2) := by decide +kernel
theorem dX12_now_90 : decode cX12_now 90 = .ok (.if_icmp .ge 21, 3) := by decide +kernel
theorem dX12_now_93 : decode cX12_now 93 = .ok (.iload_n 2, 1) := by decide +kernel
theorem dX12_now_94 : decode cX12_now 94 = .ok (.aload_n 0, 1) := by decide +kernel
theorem dX12_now_95 : decode cX12_now 95 = .ok (.getfield 98, 3) := by decide +kernel
theorem dX12_now_98 : decode cX12_now 98 = .ok (.bipush 111, 2) := by decide +kernel
theorem dX12_now_100 : decode cX12_now 100 = .ok (.iload_n 3, 1) := by decide +kernel
theorem dX12_now_101 : decode cX12_now 101 = .ok (.iadd, 1) := by decide +kernel
theorem dX12_now_102 : decode cX12_now 102 = .ok (.iaload, 1) := by decide +kernel
theorem dX12_now_103 : decode cX12_now 103 = .ok (.iadd, 1) := by decide +kernel
theorem dX12_now_104 : decode cX12_now 104 = .ok (.istore_n 2, 1) := by decide +kernel
theorem dX12_now_105 : decode cX12_now 105 = .ok (.iinc 3 1, 3) := by decide +kernel
theorem dX12_now_108 : decode cX12_now 108 = .ok (.goto (-21), 3) := by decide +kernel
theorem dX12_now_111 : decode cX12_now 111 = .ok (.iload_n 2, 1) := by decide +kernel
theorem dX12_now_112 : decode cX12_now 112 = .ok (.ireturn, 1) := by decide +kernel
theorem dX12_goodAll_0 : decode cX12_goodAll 0 = .ok (.iconst 0, 1) := by decide +kernel
theorem dX12_goodAll_1 : decode cX12_goodAll 1 = .ok (.istore_n 2, 1) := by decide +kernel
theorem dX12_goodAll_2 : decode cX12_goodAll 2 = .ok (.iconst 0, 1) := by decide +kernel
theorem dX12_goodAll_3 : decode cX12_goodAll 3 = .ok (.istore_n 3, 1) := by decide +kernel
theorem dX12_goodAll_4 : decode cX12_goodAll 4 = .ok (.iload_n 3, 1) := by decide +kernel
theorem dX12_goodAll_5 : decode cX12_goodAll 5 = .ok (.aload_n 0, 1) := by decide +kernel
theorem dX12_goodAll_6 : decode cX12_goodAll 6 = .ok (.getfield 98, 3) := by decide +kernel
theorem dX12_goodAll_9 : decode cX12_goodAll 9 = .ok (.iconst 1, 1) := by decide +kernel
theorem dX12_goodAll_10 : decode cX12_goodAll 10 = .ok (.iaload, 1) := by decide +kernel
theorem dX12_goodAll_11 : decode cX12_goodAll 11 = .ok (.if_icmp .ge 29, 3) := by decide +kernel
theorem dX12_goodAll_40 : decode cX12_goodAll 40 = .ok (.iload_n 2, 1) := by decide +kernel
theorem dX12_goodAll_41 : decode cX12_goodAll 41 = .ok (.ireturn, 1) := by decide +kernel
theorem dX12_now_113 : decode cX12_now 113 = .ok (.aload_n 0, 1) := by decide +kernel
theorem dX12_now_114 : decode cX12_now 114 = .ok (.iconst 1, 1) := by decide +kernel
set_option maxRecDepth 20000 in
theorem ggX12_now_X12_goodAll : GoodIn wsX12_now wsX12_goodAll := goodIn_r _ [15, 2, 8, 9, 10, 6, 11, 16, 17, 18, 19, 20, 21, 22, 23, 24, 25, 26, 27, 28, 29, 30, 31, 32, 33, 34, 35, 36, 37, 38, 39, 40, 41, 42, 43, 44, 45, 46, 47, 48, 49, 50, 51, 52, 53, 54, 55, 56, 57, 58, 59, 60, 61, 62, 63, 64, 65, 66, 67, 68, 69, 70, 71, 72, 73, 74, 75, 76, 77, 78, 79, 80, 81, 82, 83, 84, 85, 86, 87, 88, 89, 90, 91] (by decide +kernel) (by decide +kernel)
set_option maxRecDepth 20000 in
theorem gX12_now_X12_goodAll : GoodIn wsX12_now (wsV RX12 256 RX12 yX12_goodAll wsX12_goodAll) := goodIn_app (goodIn_of _ (by decide +kernel)) ggX12_now_X12_goodAll
theorem dX12_now_115 : decode cX12_now 115 = .ok (.invokevirtual 256, 3) := by decide +kernel
theorem dX12_now_118 : decode cX12_now 118 = .ok (.ireturn, 1) := by decide +kernel
theorem dX12_now_119 : decode cX12_now 119 = .ok (.aload_n 0, 1) := by decide +kernel
theorem dX12_now_120 : decode cX12_now 120 = .ok (.iconst 0, 1) := by decide +kernel
theorem dX12_now_121 : decode cX12_now 121 = .ok (.invokevirtual 256, 3) := by decide +kernel
theorem dX12_now_124 : decode cX12_now 124 = .ok (.ireturn, 1) := by decide +kernel
theorem dX12_now_125 : decode cX12_now 125 = .ok (.aload_n 0, 1) := by decide +kernel
theorem dX12_now_126 : decode cX12_now 126 = .ok (.getfield 98, 3) := by decide +kernel
theorem dX12_now_129 : decode cX12_now 129 = .ok (.bipush 64, 2) := by decide +kernel
theorem dX12_now_131 : decode cX12_now 131 = .ok (.iaload, 1) := by decide +kernel
theorem dX12_now_132 : decode cX12_now 132 = .ok (.ireturn, 1) := by decide +kernel
theorem dX12_now_133 : decode cX12_now 133 = .ok (.iconst (-1), 1) := by decide +kernel
theorem dX12_now_134 : decode cX12_now 134 = .ok (.ireturn, 1) := by decide +kernel
theorem dX12_allow_0 : decode cX12_allow 0 = .ok (.aload_n 0, 1) := by decide +kernel
theorem dX12_allow_1 : decode cX12_allow 1 = .ok (.iconst 0, 1) := by decide +kernel
theorem dX12_allow_2 : decode cX12_allow 2 = .ok (.putfield 1, 3) := by decide +kernel
theorem dX12_allow_5 : decode cX12_allow 5 = .ok (.aload_n 0, 1) := by decide +kernel
theorem dX12_allow_6 : decode cX12_allow 6 = .ok (.iload_n 1, 1) := by decide +kernel
set_option maxRecDepth 20000 in
theorem ggX12_allow_X12_isPlace : GoodIn wsX12_allow wsX12_isPlace := goodIn_r _ [6, 7, 8, 9, 5, 10, 38, 39, 40, 41, 42, 43, 44, 45, 46, 47, 48, 49, 50, 51, 52, 53, 54, 55, 56, 57, 58, 59, 60, 61, 62, 63, 64, 65, 66, 67, 68, 69, 70, 71, 72, 73, 74, 75, 76, 77, 78, 79, 80, 81, 82, 83, 84] (by decide +kernel) (by decide +kernel)
set_option maxRecDepth 20000 in
theorem gX12_allow_X12_isPlace : GoodIn wsX12_allow (wsV RX12 250 RX12 yX12_isPlace wsX12_isPlace) := goodIn_app (goodIn_of _ (by decide +kernel)) ggX12_allow_X12_isPlace
theorem dX12_allow_7 : decode cX12_allow 7 = .ok (.invokevirtual 250, 3) := by decide +kernel
theorem dX12_allow_10 : decode cX12_allow 10 = .ok (.ifCond .eq 23, 3) := by decide +kernel
theorem dX12_allow_33 : decode cX12_allow 33 = .ok (.iconst (-1), 1) := by decide +kernel
theorem dX12_allow_34 : decode cX12_allow 34 = .ok (.ireturn, 1) := by decide +kernel
theorem dX12_forbid_0 : decode cX12_forbid 0 = .ok (.aload_n 0, 1) := by decide +kernel
theorem dX12_forbid_1 : decode cX12_forbid 1 = .ok (.iconst 0, 1) := by decide +kernel
theorem dX12_forbid_2 : decode cX12_forbid 2 = .ok (.putfield 1, 3) := by decide +kernel
theorem dX12_forbid_5 : decode cX12_forbid 5 = .ok (.aload_n 0, 1) := by decide +kernel
theorem dX12_forbid_6 : decode cX12_forbid 6 = .ok (.iload_n 1, 1) := by decide +kernel
set_option maxRecDepth 20000 in
theorem ggX12_forbid_X12_isPlace : GoodIn wsX12_forbid wsX12_isPlace := goodIn_r _ [6, 7, 8, 9, 5, 10, 38, 39, 40, 41, 42, 43, 44, 45, 46, 47, 48, 49, 50, 51, 52, 53, 54, 55, 56, 57, 58, 59, 60, 61, 62, 63, 64, 65, 66, 67, 68, 69, 70, 71, 72, 73, 74, 75, 76, 77, 78, 79, 80, 81, 82, 83, 84] (by decide +kernel) (by decide +kernel)
set_option maxRecDepth 20000 in
theorem gX12_forbid_X12_isPlace : GoodIn wsX12_forbid (wsV RX12 250 RX12 yX12_isPlace wsX12_isPlace) := goodIn_app (goodIn_of _ (by decide +kernel)) ggX12_forbid_X12_isPlace
theorem dX12_forbid_7 : decode cX12_forbid 7 = .ok (.invokevirtual 250, 3) := by decide +kernel
theorem dX12_forbid_10 : decode cX12_forbid 10 = .ok (.ifCond .eq 23, 3) := by decide +kernel
theorem dX12_forbid_33 : decode cX12_forbid 33 = .ok (.iconst (-1), 1) := by decide +kernel
theorem dX12_forbid_34 : decode cX12_forbid 34 = .ok (.ireturn, 1) := by decide +kernel
theorem dX12_fence_0 : decode cX12_fence 0 = .ok (.aload_n 0, 1) := by decide +kernel
theorem dX12_fence_1 : decode cX12_fence 1 = .ok (.iconst 0, 1) := by decide +kernel
theorem dX12_fence_2 : decode cX12_fence 2 = .ok (.putfield 1, 3) := by decide +kernel
theorem dX12_fence_5 : decode cX12_fence 5 = .ok (.aload_n 0, 1) := by decide +kernel
theorem dX12_fence_6 : decode cX12_fence 6 = .ok (.iload_n 1, 1) := by decide +kernel
set_option maxRecDepth 20000 in
theorem ggX12_fence_X12_isPlace : GoodIn wsX12_fence wsX12_isPlace := goodIn_r _ [6, 7, 8, 9, 5, 10, 39, 40, 41, 42, 43, 44, 45, 46, 47, 48, 49, 50, 51, 52, 53, 54, 55, 56, 57, 58, 59, 60, 61, 62, 63, 64, 65, 66, 67, 68, 69, 70, 71, 72, 73, 74, 75, 76, 77, 78, 79, 80, 81, 82, 83, 84, 85] (by decide +kernel) (by decide +kernel)
set_option maxRecDepth 20000 in
theorem gX12_fence_X12_isPlace : GoodIn wsX12_fence (wsV RX12 250 RX12 yX12_isPlace wsX12_isPlace) := goodIn_app (goodIn_of _ (by decide +kernel)) ggX12_fence_X12_isPlace
theorem dX12_fence_7 : decode cX12_fence 7 = .ok (.invokevirtual 250, 3) := by decide +kernel
theorem dX12_fence_10 : decode cX12_fence 10 = .ok (.ifCond .ne 5, 3) := by decide +kernel
theorem dX12_fence_13 : decode cX12_fence 13 = .ok (.iconst (-1), 1) := by decide +kernel
theorem dX12_fence_14 : decode cX12_fence 14 = .ok (.ireturn, 1) := by decide +kernel
theorem dX12_sign_0 : decode cX12_sign 0 = .ok (.aload_n 0, 1) := by decide +kernel
theorem dX12_sign_1 : decode cX12_sign 1 = .ok (.iconst 0, 1) := by decide +kernel
theorem dX12_sign_2 : decode cX12_sign 2 = .ok (.putfield 1, 3) := by decide +kernel
theorem dX12_sign_5 : decode cX12_sign 5 = .ok (.iload_n 1, 1) := by decide +kernel
theorem dX12_sign_6 : decode cX12_sign 6 = .ok (.iconst 0, 1) := by decide +kernel
theorem dX12_sign_7 : decode cX12_sign 7 = .ok (.bipush 12, 2) := by decide +kernel
set_option maxRecDepth 20000 in
theorem ggX12_sign_X12_isIn : GoodIn wsX12_sign wsX12_isIn := goodIn_r _ [5] (by decide +kernel) (by decide +kernel)
set_option maxRecDepth 20000 in
theorem gX12_sign_X12_isIn : GoodIn wsX12_sign (va_wsS RX12 75 yX12_isIn wsX12_isIn) := goodIn_app (goodIn_of _ (by decide +kernel)) ggX12_sign_X12_isIn
theorem dX12_sign_9 : decode cX12_sign 9 = .ok (.invokestatic 75, 3) := by decide +kernel
theorem dX12_sign_12 : decode cX12_sign 12 = .ok (.ifCond .eq 15, 3) := by decide +kernel
theorem dX12_sign_27 : decode cX12_sign 27 = .ok (.iconst (-1), 1) := by decide +kernel
theorem dX12_sign_28 : decode cX12_sign 28 = .ok (.ireturn, 1) := by decide +kernel
theorem dX12_isIn_10 : decode cX12_isIn 10 = .ok (.iconst 1, 1) := by decide +kernel
theorem dX12_isIn_11 : decode cX12_isIn 11 = .ok (.goto 4, 3) := by decide +kernel
theorem dX12_why_0 : decode cX12_why 0 = .ok (.iload_n 1, 1) := by decide +kernel
theorem dX12_why_1 : decode cX12_why 1 = .ok (.tableswitch 185 0 4 #[35, 63, 89, 106, 138], 35) := by decide +kernel
theorem dX12_why_90 : decode cX12_why 90 = .ok (.aload_n 0, 1) := by decide +kernel
theorem dX12_why_91 : decode cX12_why 91 = .ok (.getfield 98, 3) := by decide +kernel
theorem dX12_why_94 : decode cX12_why 94 = .ok (.bipush 62, 2) := by decide +kernel
theorem dX12_why_96 : decode cX12_why 96 = .ok (.iaload, 1) := by decide +kernel
theorem dX12_why_97 : decode cX12_why 97 = .ok (.iload_n 2, 1) := by decide +kernel
theorem dX12_why_98 : decode cX12_why 98 = .ok (.if_icmp .ne 7, 3) := by decide +kernel
theorem dX12_why_101 : decode cX12_why 101 = .ok (.iconst 1, 1) := by decide +kernel
theorem dX12_why_102 : decode cX12_why 102 = .ok (.goto 4, 3) := by decide +kernel
theorem dX12_why_106 : decode cX12_why 106 = .ok (.ireturn, 1) := by decide +kernel
theorem dX12_act_0 : decode cX12_act 0 = .ok (.aload_n 0, 1) := by decide +kernel
theorem dX12_act_1 : decode cX12_act 1 = .ok (.iload_n 1, 1) := by decide +kernel
theorem dX12_act_2 : decode cX12_act 2 = .ok (.iload_n 2, 1) := by decide +kernel
theorem dX12_act_3 : decode cX12_act 3 = .ok (.iload_n 3, 1) := by decide +kernel
theorem dX12_act_4 : decode cX12_act 4 = .ok (.iload 4, 2) := by decide +kernel
theorem dX12_act_6 : decode cX12_act 6 = .ok (.iload 5, 2) := by decide +kernel
set_option maxRecDepth 20000 in
theorem ggX12_act_X12_why : GoodIn wsX12_act wsX12_why := goodIn_r _ [5, 6, 7, 8, 4, 9, 10, 11, 12, 23, 24, 25, 26, 27, 28, 29, 30, 31, 32, 33, 34, 35, 36, 37, 38, 39, 40, 41, 42, 43, 44, 45, 46, 47, 48, 49, 50, 51, 52, 53, 54, 55, 56, 57, 58, 59, 60, 61, 62, 63, 64, 65, 66, 67, 68, 69] (by decide +kernel) (by decide +kernel)
set_option maxRecDepth 20000 in
theorem gX12_act_X12_why : GoodIn wsX12_act (wsV RX12 260 RX12 yX12_why wsX12_why) := goodIn_app (goodIn_of _ (by decide +kernel)) ggX12_act_X12_why
theorem dX12_act_8 : decode cX12_act 8 = .ok (.invokevirtual 260, 3) := by decide +kernel
theorem dX12_act_11 : decode cX12_act 11 = .ok (.istore 6, 2) := by decide +kernel
theorem dX12_act_13 : decode cX12_act 13 = .ok (.iload 6, 2) := by decide +kernel
theorem dX12_act_15 : decode cX12_act 15 = .ok (.ifCond .eq 6, 3) := by decide +kernel
theorem dX12_act_18 : decode cX12_act 18 = .ok (.iload 6, 2) := by decide +kernel
theorem dX12_act_20 : decode cX12_act 20 = .ok (.ireturn, 1) := by decide +kernel
theorem dX12_sign_15 : decode cX12_sign 15 = .ok (.aload_n 0, 1) := by decide +kernel
theorem dX12_sign_16 : decode cX12_sign 16 = .ok (.iconst 2, 1) := by decide +kernel
theorem dX12_sign_17 : decode cX12_sign 17 = .ok (.iload_n 1, 1) := by decide +kernel
theorem dX12_sign_18 : decode cX12_sign 18 = .ok (.iconst 0, 1) := by decide +kernel
theorem dX12_sign_19 : decode cX12_sign 19 = .ok (.iconst 0, 1) := by decide +kernel
theorem dX12_sign_20 : decode cX12_sign 20 = .ok (.iconst 0, 1) := by decide +kernel
set_option maxRecDepth 20000 in
theorem ggX12_sign_X12_act : GoodIn wsX12_sign wsX12_act := goodIn_r _ [9, 10, 11, 12, 4, 13, 14, 15, 16, 17, 18, 19, 20, 21, 22, 23, 24, 25, 26, 27, 28, 29, 30, 31, 32, 33, 34, 35, 36, 37, 38, 39, 40, 41, 42, 43, 44, 45, 46, 47, 48, 49, 50, 51, 52, 53, 54, 55, 56, 57, 58, 59, 60, 61, 62, 63, 64, 65, 66, 67, 68, 69, 70, 71, 72, 73, 74, 75, 76, 77] (by decide +kernel) (by decide +kernel)
set_option maxRecDepth 20000 in
theorem gX12_sign_X12_act : GoodIn wsX12_sign (wsV RX12 274 RX12 yX12_act wsX12_act) := goodIn_app (goodIn_of _ (by decide +kernel)) ggX12_sign_X12_act
theorem dX12_sign_21 : decode cX12_sign 21 = .ok (.invokevirtual 274, 3) := by decide +kernel
theorem dX12_sign_24 : decode cX12_sign 24 = .ok (.goto 4, 3) := by decide +kernel
theorem dX12_why_105 : decode cX12_why 105 = .ok (.iconst 0, 1) := by decide +kernel
theorem dX12_snap_0 : decode cX12_snap 0 = .ok (.aload_n 0, 1) := by decide +kernel
theorem dX12_snap_1 : decode cX12_snap 1 = .ok (.getfield 214, 3) := by decide +kernel
theorem dX12_snap_4 : decode cX12_snap 4 = .ok (.bipush 8, 2) := by decide +kernel
theorem dX12_snap_6 : decode cX12_snap 6 = .ok (.if_icmp .ne 43, 3) := by decide +kernel
theorem dX12_snap_49 : decode cX12_snap 49 = .ok (.iconst 0, 1) := by decide +kernel
theorem dX12_snap_50 : decode cX12_snap 50 = .ok (.istore_n 1, 1) := by decide +kernel
theorem dX12_snap_51 : decode cX12_snap 51 = .ok (.iload_n 1, 1) := by decide +kernel
theorem dX12_snap_52 : decode cX12_snap 52 = .ok (.bipush 70, 2) := by decide +kernel
theorem dX12_snap_54 : decode cX12_snap 54 = .ok (.if_icmp .ge 32, 3) := by decide +kernel
theorem dX12_snap_57 : decode cX12_snap 57 = .ok (.aload_n 0, 1) := by decide +kernel
theorem dX12_snap_58 : decode cX12_snap 58 = .ok (.getfield 107, 3) := by decide +kernel
theorem dX12_snap_61 : decode cX12_snap 61 = .ok (.bipush 70, 2) := by decide +kernel
theorem dX12_snap_63 : decode cX12_snap 63 = .ok (.aload_n 0, 1) := by decide +kernel
theorem dX12_snap_64 : decode cX12_snap 64 = .ok (.getfield 214, 3) := by decide +kernel
theorem dX12_snap_67 : decode cX12_snap 67 = .ok (.imul, 1) := by decide +kernel
theorem dX12_snap_68 : decode cX12_snap 68 = .ok (.iload_n 1, 1) := by decide +kernel
theorem dX12_snap_69 : decode cX12_snap 69 = .ok (.iadd, 1) := by decide +kernel
theorem dX12_snap_70 : decode cX12_snap 70 = .ok (.aload_n 0, 1) := by decide +kernel
theorem dX12_snap_71 : decode cX12_snap 71 = .ok (.getfield 98, 3) := by decide +kernel
theorem dX12_snap_74 : decode cX12_snap 74 = .ok (.bipush 61, 2) := by decide +kernel
theorem dX12_snap_76 : decode cX12_snap 76 = .ok (.iload_n 1, 1) := by decide +kernel
theorem dX12_snap_77 : decode cX12_snap 77 = .ok (.iadd, 1) := by decide +kernel
theorem dX12_snap_78 : decode cX12_snap 78 = .ok (.iaload, 1) := by decide +kernel
theorem dX12_snap_79 : decode cX12_snap 79 = .ok (.iastore, 1) := by decide +kernel
theorem dX12_snap_80 : decode cX12_snap 80 = .ok (.iinc 1 1, 3) := by decide +kernel
theorem dX12_snap_83 : decode cX12_snap 83 = .ok (.goto (-32), 3) := by decide +kernel
theorem dX12_snap_86 : decode cX12_snap 86 = .ok (.aload_n 0, 1) := by decide +kernel
theorem dX12_snap_87 : decode cX12_snap 87 = .ok (.dup, 1) := by decide +kernel
theorem dX12_snap_88 : decode cX12_snap 88 = .ok (.getfield 214, 3) := by decide +kernel
theorem dX12_snap_91 : decode cX12_snap 91 = .ok (.iconst 1, 1) := by decide +kernel
theorem dX12_snap_92 : decode cX12_snap 92 = .ok (.iadd, 1) := by decide +kernel
theorem dX12_snap_93 : decode cX12_snap 93 = .ok (.putfield 214, 3) := by decide +kernel
theorem dX12_snap_96 : decode cX12_snap 96 = .ok (.return_, 1) := by decide +kernel
theorem dX12_live_0 : decode cX12_live 0 = .ok (.iload_n 1, 1) := by decide +kernel
theorem dX12_live_1 : decode cX12_live 1 = .ok (.tableswitch 133 0 4 #[35, 55, 77, 86, 100], 35) := by decide +kernel
theorem dX12_live_78 : decode cX12_live 78 = .ok (.aload_n 0, 1) := by decide +kernel
theorem dX12_live_79 : decode cX12_live 79 = .ok (.getfield 98, 3) := by decide +kernel
theorem dX12_live_82 : decode cX12_live 82 = .ok (.bipush 62, 2) := by decide +kernel
theorem dX12_live_84 : decode cX12_live 84 = .ok (.iload_n 2, 1) := by decide +kernel
theorem dX12_live_85 : decode cX12_live 85 = .ok (.iastore, 1) := by decide +kernel
theorem dX12_live_86 : decode cX12_live 86 = .ok (.return_, 1) := by decide +kernel
theorem dX12_act_21 : decode cX12_act 21 = .ok (.aload_n 0, 1) := by decide +kernel
set_option maxRecDepth 20000 in
theorem ggX12_act_X12_snap : GoodIn wsX12_act wsX12_snap := goodIn_r _ [16, 17, 18, 6, 23, 24, 25, 26, 27, 28, 29, 30, 31, 32, 33, 34, 35, 36, 37, 38, 39, 40, 41, 42, 43, 44, 45, 46, 47, 48, 49, 50, 51, 52, 53, 54, 55, 56, 57, 58, 59, 60, 61, 62, 63, 64, 65, 66, 67, 68, 69] (by decide +kernel) (by decide +kernel)
set_option maxRecDepth 20000 in
theorem gX12_act_X12_snap : GoodIn wsX12_act (wsV RX12 264 RX12 yX12_snap wsX12_snap) := goodIn_app (goodIn_of _ (by decide +kernel)) ggX12_act_X12_snap
theorem dX12_act_22 : decode cX12_act 22 = .ok (.invokevirtual 264, 3) := by decide +kernel
theorem dX12_act_25 : decode cX12_act 25 = .ok (.aload_n 0, 1) := by decide +kernel
theorem dX12_act_26 : decode cX12_act 26 = .ok (.iload_n 1, 1) := by decide +kernel
theorem dX12_act_27 : decode cX12_act 27 = .ok (.iload_n 2, 1) := by decide +kernel
theorem dX12_act_28 : decode cX12_act 28 = .ok (.iload_n 3, 1) := by decide +kernel
theorem dX12_act_29 : decode cX12_act 29 = .ok (.iload 4, 2) := by decide +kernel
theorem dX12_act_31 : decode cX12_act 31 = .ok (.iload 5, 2) := by decide +kernel
set_option maxRecDepth 20000 in
theorem ggX12_act_X12_live : GoodIn wsX12_act wsX12_live := goodIn_r _ [22, 6, 7, 8, 4, 9, 23, 24, 25, 26, 27, 28, 29, 30, 31, 32, 33, 34, 35, 36, 37, 38, 39, 40, 41, 42, 43, 44, 45, 46, 47, 48, 49, 50, 51, 52, 53, 54, 55, 56, 57, 58, 59, 60, 61, 62, 63, 64, 65, 66, 67, 68, 69] (by decide +kernel) (by decide +kernel)
set_option maxRecDepth 20000 in
theorem gX12_act_X12_live : GoodIn wsX12_act (wsV RX12 267 RX12 yX12_live wsX12_live) := goodIn_app (goodIn_of _ (by decide +kernel)) ggX12_act_X12_live
theorem dX12_act_33 : decode cX12_act 33 = .ok (.invokevirtual 267, 3) := by decide +kernel
theorem dX12_act_36 : decode cX12_act 36 = .ok (.iconst 0, 1) := by decide +kernel
theorem dX12_act_37 : decode cX12_act 37 = .ok (.ireturn, 1) := by decide +kernel
theorem dX12_isDog_0 : decode cX12_isDog 0 = .ok (.iload_n 1, 1) := by decide +kernel
theorem dX12_isDog_1 : decode cX12_isDog 1 = .ok (.iconst 0, 1) := by decide +kernel
theorem dX12_isDog_2 : decode cX12_isDog 2 = .ok (.aload_n 0, 1) := by decide +kernel
theorem dX12_isDog_3 : decode cX12_isDog 3 = .ok (.getfield 98, 3) := by decide +kernel
theorem dX12_isDog_6 : decode cX12_isDog 6 = .ok (.iconst 2, 1) := by decide +kernel
theorem dX12_isDog_7 : decode cX12_isDog 7 = .ok (.iaload, 1) := by decide +kernel
theorem dX12_isDog_8 : decode cX12_isDog 8 = .ok (.iconst 1, 1) := by decide +kernel
theorem dX12_isDog_9 : decode cX12_isDog 9 = .ok (.isub, 1) := by decide +kernel
set_option maxRecDepth 20000 in
theorem ggX12_isDog_X12_isIn : GoodIn wsX12_isDog wsX12_isIn := goodIn_r _ [5] (by decide +kernel) (by decide +kernel)
set_option maxRecDepth 20000 in
theorem gX12_isDog_X12_isIn : GoodIn wsX12_isDog (va_wsS RX12 75 yX12_isIn wsX12_isIn) := goodIn_app (goodIn_of _ (by decide +kernel)) ggX12_isDog_X12_isIn
theorem dX12_isDog_10 : decode cX12_isDog 10 = .ok (.invokestatic 75, 3) := by decide +kernel
theorem dX12_isDog_13 : decode cX12_isDog 13 = .ok (.ireturn, 1) := by decide +kernel
theorem dX12_hold_0 : decode cX12_hold 0 = .ok (.aload_n 0, 1) := by decide +kernel
theorem dX12_hold_1 : decode cX12_hold 1 = .ok (.iconst 0, 1) := by decide +kernel
theorem dX12_hold_2 : decode cX12_hold 2 = .ok (.putfield 1, 3) := by decide +kernel
theorem dX12_hold_5 : decode cX12_hold 5 = .ok (.aload_n 0, 1) := by decide +kernel
theorem dX12_hold_6 : decode cX12_hold 6 = .ok (.iload_n 1, 1) := by decide +kernel
set_option maxRecDepth 20000 in
theorem ggX12_hold_X12_isDog : GoodIn wsX12_hold wsX12_isDog := goodIn_r _ [6, 7, 8, 9, 5, 10, 35, 36, 37, 38, 39, 40, 41, 42, 43, 44, 45, 46, 47, 48, 49, 50, 51, 52, 53, 54, 55, 56, 57, 58, 59, 60, 61, 62, 63, 64, 65, 66, 67, 68, 69, 70, 71, 72, 73, 74, 75, 76, 77, 78, 79, 80, 81] (by decide +kernel) (by decide +kernel)
set_option maxRecDepth 20000 in
theorem gX12_hold_X12_isDog : GoodIn wsX12_hold (wsV RX12 247 RX12 yX12_isDog wsX12_isDog) := goodIn_app (goodIn_of _ (by decide +kernel)) ggX12_hold_X12_isDog
theorem dX12_hold_7 : decode cX12_hold 7 = .ok (.invokevirtual 247, 3) := by decide +kernel
theorem dX12_hold_10 : decode cX12_hold 10 = .ok (.ifCond .eq 24, 3) := by decide +kernel
theorem dX12_hold_34 : decode cX12_hold 34 = .ok (.iconst (-1), 1) := by decide +kernel
theorem dX12_hold_35 : decode cX12_hold 35 = .ok (.ireturn, 1) := by decide +kernel
theorem dX12_isPerson_0 : decode cX12_isPerson 0 = .ok (.iload_n 1, 1) := by decide +kernel
theorem dX12_isPerson_1 : decode cX12_isPerson 1 = .ok (.iconst 0, 1) := by decide +kernel
theorem dX12_isPerson_2 : decode cX12_isPerson 2 = .ok (.aload_n 0, 1) := by decide +kernel
theorem dX12_isPerson_3 : decode cX12_isPerson 3 = .ok (.getfield 98, 3) := by decide +kernel
theorem dX12_isPerson_6 : decode cX12_isPerson 6 = .ok (.iconst 1, 1) := by decide +kernel
theorem dX12_isPerson_7 : decode cX12_isPerson 7 = .ok (.iaload, 1) := by decide +kernel
theorem dX12_isPerson_8 : decode cX12_isPerson 8 = .ok (.iconst 1, 1) := by decide +kernel
theorem dX12_isPerson_9 : decode cX12_isPerson 9 = .ok (.isub, 1) := by decide +kernel
set_option maxRecDepth 20000 in
theorem ggX12_isPerson_X12_isIn : GoodIn wsX12_isPerson wsX12_isIn := goodIn_r _ [5] (by decide +kernel) (by decide +kernel)
set_option maxRecDepth 20000 in
theorem gX12_isPerson_X12_isIn : GoodIn wsX12_isPerson (va_wsS RX12 75 yX12_isIn wsX12_isIn) := goodIn_app (goodIn_of _ (by decide +kernel)) ggX12_isPerson_X12_isIn
theorem dX12_isPerson_10 : decode cX12_isPerson 10 = .ok (.invokestatic 75, 3) := by decide +kernel
theorem dX12_isPerson_13 : decode cX12_isPerson 13 = .ok (.ireturn, 1) := by decide +kernel
theorem dX12_come__0 : decode cX12_come_ 0 = .ok (.aload_n 0, 1) := by decide +kernel
theorem dX12_come__1 : decode cX12_come_ 1 = .ok (.iconst 0, 1) := by decide +kernel
theorem dX12_come__2 : decode cX12_come_ 2 = .ok (.putfield 1, 3) := by decide +kernel
theorem dX12_come__5 : decode cX12_come_ 5 = .ok (.aload_n 0, 1) := by decide +kernel
theorem dX12_come__6 : decode cX12_come_ 6 = .ok (.iload_n 1, 1) := by decide +kernel
set_option maxRecDepth 20000 in
theorem ggX12_come__X12_isPerson : GoodIn wsX12_come_ wsX12_isPerson := goodIn_r _ [6, 7, 8, 9, 5, 10, 42, 43, 44, 45, 46, 47, 48, 49, 50, 51, 52, 53, 54, 55, 56, 57, 58, 59, 60, 61, 62, 63, 64, 65, 66, 67, 68, 69, 70, 71, 72, 73, 74, 75, 76, 77, 78, 79, 80, 81, 82, 83, 84, 85, 86, 87, 88] (by decide +kernel) (by decide +kernel)
set_option maxRecDepth 20000 in
theorem gX12_come__X12_isPerson : GoodIn wsX12_come_ (wsV RX12 241 RX12 yX12_isPerson wsX12_isPerson) := goodIn_app (goodIn_of _ (by decide +kernel)) ggX12_come__X12_isPerson
theorem dX12_come__7 : decode cX12_come_ 7 = .ok (.invokevirtual 241, 3) := by decide +kernel
theorem dX12_come__10 : decode cX12_come_ 10 = .ok (.ifCond .eq 33, 3) := by decide +kernel
theorem dX12_come__43 : decode cX12_come_ 43 = .ok (.iconst (-1), 1) := by decide +kernel
theorem dX12_come__44 : decode cX12_come_ 44 = .ok (.ireturn, 1) := by decide +kernel
theorem dX12_days_0 : decode cX12_days 0 = .ok (.aload_n 0, 1) := by decide +kernel
theorem dX12_days_1 : decode cX12_days 1 = .ok (.iconst 0, 1) := by decide +kernel
theorem dX12_days_2 : decode cX12_days 2 = .ok (.putfield 1, 3) := by decide +kernel
theorem dX12_days_5 : decode cX12_days 5 = .ok (.iload_n 1, 1) := by decide +kernel
theorem dX12_days_6 : decode cX12_days 6 = .ok (.iconst 1, 1) := by decide +kernel
theorem dX12_days_7 : decode cX12_days 7 = .ok (.bipush 30, 2) := by decide +kernel
set_option maxRecDepth 20000 in
theorem ggX12_days_X12_isIn : GoodIn wsX12_days wsX12_isIn := goodIn_r _ [6] (by decide +kernel) (by decide +kernel)
set_option maxRecDepth 20000 in
theorem gX12_days_X12_isIn : GoodIn wsX12_days (va_wsS RX12 75 yX12_isIn wsX12_isIn) := goodIn_app (goodIn_of _ (by decide +kernel)) ggX12_days_X12_isIn
theorem dX12_days_9 : decode cX12_days 9 = .ok (.invokestatic 75, 3) := by decide +kernel
theorem dX12_days_12 : decode cX12_days 12 = .ok (.ifCond .ne 5, 3) := by decide +kernel
theorem dX12_days_15 : decode cX12_days 15 = .ok (.iconst (-1), 1) := by decide +kernel
theorem dX12_days_16 : decode cX12_days 16 = .ok (.ireturn, 1) := by decide +kernel
theorem dX12_least_0 : decode cX12_least 0 = .ok (.iload_n 0, 1) := by decide +kernel
theorem dX12_least_1 : decode cX12_least 1 = .ok (.iload_n 1, 1) := by decide +kernel
theorem dX12_least_2 : decode cX12_least 2 = .ok (.if_icmp .ge 7, 3) := by decide +kernel
theorem dX12_least_5 : decode cX12_least 5 = .ok (.iload_n 0, 1) := by decide +kernel
theorem dX12_least_6 : decode cX12_least 6 = .ok (.goto 4, 3) := by decide +kernel
theorem dX12_least_10 : decode cX12_least 10 = .ok (.ireturn, 1) := by decide +kernel
theorem dX12_oneDay_0 : decode cX12_oneDay 0 = .ok (.aload_n 0, 1) := by decide +kernel
theorem dX12_oneDay_1 : decode cX12_oneDay 1 = .ok (.iconst 0, 1) := by decide +kernel
theorem dX12_oneDay_2 : decode cX12_oneDay 2 = .ok (.putfield 281, 3) := by decide +kernel
theorem dX12_oneDay_5 : decode cX12_oneDay 5 = .ok (.iconst 0, 1) := by decide +kernel
theorem dX12_oneDay_6 : decode cX12_oneDay 6 = .ok (.istore_n 1, 1) := by decide +kernel
theorem dX12_oneDay_7 : decode cX12_oneDay 7 = .ok (.iload_n 1, 1) := by decide +kernel
theorem dX12_oneDay_8 : decode cX12_oneDay 8 = .ok (.bipush 24, 2) := by decide +kernel
theorem dX12_oneDay_10 : decode cX12_oneDay 10 = .ok (.if_icmp .ge 33, 3) := by decide +kernel
theorem dX12_oneDay_13 : decode cX12_oneDay 13 = .ok (.iconst 0, 1) := by decide +kernel
theorem dX12_oneDay_14 : decode cX12_oneDay 14 = .ok (.istore_n 2, 1) := by decide +kernel
theorem dX12_oneDay_15 : decode cX12_oneDay 15 = .ok (.iload_n 2, 1) := by decide +kernel
theorem dX12_oneDay_16 : decode cX12_oneDay 16 = .ok (.aload_n 0, 1) := by decide +kernel
theorem dX12_oneDay_17 : decode cX12_oneDay 17 = .ok (.getfield 98, 3) := by decide +kernel
theorem dX12_oneDay_20 : decode cX12_oneDay 20 = .ok (.iconst 2, 1) := by decide +kernel
theorem dX12_oneDay_21 : decode cX12_oneDay 21 = .ok (.iaload, 1) := by decide +kernel
theorem dX12_oneDay_22 : decode cX12_oneDay 22 = .ok (.if_icmp .ge 15, 3) := by decide +kernel
theorem dX12_oneDay_37 : decode cX12_oneDay 37 = .ok (.iinc 1 1, 3) := by decide +kernel
theorem dX12_oneDay_40 : decode cX12_oneDay 40 = .ok (.goto (-33), 3) := by decide +kernel
theorem dX12_oneDay_43 : decode cX12_oneDay 43 = .ok (.iconst 0, 1) := by decide +kernel
theorem dX12_oneDay_44 : decode cX12_oneDay 44 = .ok (.istore_n 1, 1) := by decide +kernel
theorem dX12_oneDay_45 : decode cX12_oneDay 45 = .ok (.iload_n 1, 1) := by decide +kernel
theorem dX12_oneDay_46 : decode cX12_oneDay 46 = .ok (.aload_n 0, 1) := by decide +kernel
theorem dX12_oneDay_47 : decode cX12_oneDay 47 = .ok (.getfield 98, 3) := by decide +kernel
theorem dX12_oneDay_50 : decode cX12_oneDay 50 = .ok (.iconst 1, 1) := by decide +kernel
theorem dX12_oneDay_51 : decode cX12_oneDay 51 = .ok (.iaload, 1) := by decide +kernel
theorem dX12_oneDay_52 : decode cX12_oneDay 52 = .ok (.if_icmp .ge 62, 3) := by decide +kernel
theorem dX12_oneDay_114 : decode cX12_oneDay 114 = .ok (.aload_n 0, 1) := by decide +kernel
theorem dX12_oneDay_115 : decode cX12_oneDay 115 = .ok (.getfield 98, 3) := by decide +kernel
theorem dX12_oneDay_118 : decode cX12_oneDay 118 = .ok (.bipush 61, 2) := by decide +kernel
theorem dX12_oneDay_120 : decode cX12_oneDay 120 = .ok (.dup2, 1) := by decide +kernel
theorem dX12_oneDay_121 : decode cX12_oneDay 121 = .ok (.iaload, 1) := by decide +kernel
theorem dX12_oneDay_122 : decode cX12_oneDay 122 = .ok (.iconst 1, 1) := by decide +kernel
theorem dX12_oneDay_123 : decode cX12_oneDay 123 = .ok (.iadd, 1) := by decide +kernel
theorem dX12_oneDay_124 : decode cX12_oneDay 124 = .ok (.iastore, 1) := by decide +kernel
theorem dX12_oneDay_125 : decode cX12_oneDay 125 = .ok (.return_, 1) := by decide +kernel
theorem dX12_passDays_0 : decode cX12_passDays 0 = .ok (.aload_n 0, 1) := by decide +kernel
theorem dX12_passDays_1 : decode cX12_passDays 1 = .ok (.iload_n 2, 1) := by decide +kernel
theorem dX12_passDays_2 : decode cX12_passDays 2 = .ok (.putfield 277, 3) := by decide +kernel
theorem dX12_passDays_5 : decode cX12_passDays 5 = .ok (.iload_n 1, 1) := by decide +kernel
theorem dX12_passDays_6 : decode cX12_passDays 6 = .ok (.sipush 400, 3) := by decide +kernel
theorem dX12_passDays_9 : decode cX12_passDays 9 = .ok (.aload_n 0, 1) := by decide +kernel
theorem dX12_passDays_10 : decode cX12_passDays 10 = .ok (.getfield 98, 3) := by decide +kernel
theorem dX12_passDays_13 : decode cX12_passDays 13 = .ok (.bipush 61, 2) := by decide +kernel
theorem dX12_passDays_15 : decode cX12_passDays 15 = .ok (.iaload, 1) := by decide +kernel
theorem dX12_passDays_16 : decode cX12_passDays 16 = .ok (.isub, 1) := by decide +kernel
set_option maxRecDepth 20000 in
theorem ggX12_passDays_X12_least : GoodIn wsX12_passDays wsX12_least := goodIn_r _ [6] (by decide +kernel) (by decide +kernel)
set_option maxRecDepth 20000 in
theorem gX12_passDays_X12_least : GoodIn wsX12_passDays (va_wsS RX12 297 yX12_least wsX12_least) := goodIn_app (goodIn_of _ (by decide +kernel)) ggX12_passDays_X12_least
theorem dX12_passDays_17 : decode cX12_passDays 17 = .ok (.invokestatic 297, 3) := by decide +kernel
theorem dX12_passDays_20 : decode cX12_passDays 20 = .ok (.istore_n 3, 1) := by decide +kernel
theorem dX12_passDays_21 : decode cX12_passDays 21 = .ok (.iconst 0, 1) := by decide +kernel
theorem dX12_passDays_22 : decode cX12_passDays 22 = .ok (.istore 4, 2) := by decide +kernel
theorem dX12_passDays_24 : decode cX12_passDays 24 = .ok (.iload 4, 2) := by decide +kernel
theorem dX12_passDays_26 : decode cX12_passDays 26 = .ok (.iload_n 3, 1) := by decide +kernel
theorem dX12_passDays_27 : decode cX12_passDays 27 = .ok (.if_icmp .ge 13, 3) := by decide +kernel
theorem dX12_passDays_30 : decode cX12_passDays 30 = .ok (.aload_n 0, 1) := by decide +kernel
set_option maxRecDepth 20000 in
theorem ggX12_passDays_X12_oneDay : GoodIn wsX12_passDays wsX12_oneDay := goodIn_r _ [10, 11, 2, 12, 13, 14, 5, 15, 16, 17, 18, 19, 20, 21, 22, 23, 24, 25, 26, 27, 28, 29, 30, 31, 32, 33, 34, 35, 36, 37, 1, 38, 39, 40, 41, 42, 43, 44, 45, 46, 47, 48, 49, 50, 51, 52, 53, 54, 55, 56, 57, 58, 59, 60, 61, 62, 63, 64, 65, 66, 67, 68, 69, 70, 71, 72, 73, 74, 75, 76, 77, 78, 79, 80, 81, 82, 83, 84, 85, 86, 87, 88, 89, 90, 91, 92, 93, 94, 95, 96, 97] (by decide +kernel) (by decide +kernel)
set_option maxRecDepth 20000 in
theorem gX12_passDays_X12_oneDay : GoodIn wsX12_passDays (wsV RX12 300 RX12 yX12_oneDay wsX12_oneDay) := goodIn_app (goodIn_of _ (by decide +kernel)) ggX12_passDays_X12_oneDay
theorem dX12_passDays_31 : decode cX12_passDays 31 = .ok (.invokevirtual 300, 3) := by decide +kernel
theorem dX12_passDays_34 : decode cX12_passDays 34 = .ok (.iinc 4 1, 3) := by decide +kernel
theorem dX12_passDays_37 : decode cX12_passDays 37 = .ok (.goto (-13), 3) := by decide +kernel
theorem dX12_passDays_40 : decode cX12_passDays 40 = .ok (.iload_n 3, 1) := by decide +kernel
theorem dX12_passDays_41 : decode cX12_passDays 41 = .ok (.ireturn, 1) := by decide +kernel
theorem dX12_days_17 : decode cX12_days 17 = .ok (.aload_n 0, 1) := by decide +kernel
theorem dX12_days_18 : decode cX12_days 18 = .ok (.getfield 98, 3) := by decide +kernel
theorem dX12_days_21 : decode cX12_days 21 = .ok (.bipush 61, 2) := by decide +kernel
theorem dX12_days_23 : decode cX12_days 23 = .ok (.iaload, 1) := by decide +kernel
theorem dX12_days_24 : decode cX12_days 24 = .ok (.sipush 400, 3) := by decide +kernel
theorem dX12_days_27 : decode cX12_days 27 = .ok (.if_icmp .ne 5, 3) := by decide +kernel
theorem dX12_days_32 : decode cX12_days 32 = .ok (.aload_n 0, 1) := by decide +kernel
set_option maxRecDepth 20000 in
theorem ggX12_days_X12_snap : GoodIn wsX12_days wsX12_snap := goodIn_r _ [10, 11, 12, 2, 65, 66, 67, 68, 69, 70, 71, 72, 73, 74, 75, 76, 77, 78, 79, 80, 81, 82, 83, 84, 85, 86, 87, 88, 89, 90, 91, 92, 93, 94, 95, 96, 97, 98, 99, 100, 101, 102, 103, 104, 105, 106, 107, 108, 109, 110, 111] (by decide +kernel) (by decide +kernel)
set_option maxRecDepth 20000 in
theorem gX12_days_X12_snap : GoodIn wsX12_days (wsV RX12 264 RX12 yX12_snap wsX12_snap) := goodIn_app (goodIn_of _ (by decide +kernel)) ggX12_days_X12_snap
theorem dX12_days_33 : decode cX12_days 33 = .ok (.invokevirtual 264, 3) := by decide +kernel
theorem dX12_days_36 : decode cX12_days 36 = .ok (.aload_n 0, 1) := by decide +kernel
theorem dX12_days_37 : decode cX12_days 37 = .ok (.iload_n 1, 1) := by decide +kernel
theorem dX12_days_38 : decode cX12_days 38 = .ok (.iload_n 2, 1) := by decide +kernel
set_option maxRecDepth 20000 in
theorem ggX12_days_X12_passDays : GoodIn wsX12_days wsX12_passDays := goodIn_r _ [16, 17, 2, 18, 19, 5, 20, 21, 22, 23, 24, 25, 26, 27, 28, 29, 30, 31, 32, 33, 34, 35, 36, 37, 38, 39, 40, 41, 42, 43, 44, 45, 46, 47, 48, 49, 50, 51, 52, 53, 54, 55, 56, 57, 58, 59, 60, 61, 62, 63, 64, 65, 66, 67, 68, 69, 70, 71, 72, 73, 74, 75, 76, 77, 78, 79, 80, 81, 82, 83, 84, 85, 86, 87, 88, 89, 90, 91, 92, 93, 94, 95, 96, 97, 98, 99, 100, 101, 102, 103, 104, 105, 106, 107, 108, 109, 110, 111] (by decide +kernel) (by decide +kernel)
set_option maxRecDepth 20000 in
theorem gX12_days_X12_passDays : GoodIn wsX12_days (wsV RX12 303 RX12 yX12_passDays wsX12_passDays) := goodIn_app (goodIn_of _ (by decide +kernel)) ggX12_days_X12_passDays
theorem dX12_days_39 : decode cX12_days 39 = .ok (.invokevirtual 303, 3) := by decide +kernel
theorem dX12_days_42 : decode cX12_days 42 = .ok (.ireturn, 1) := by decide +kernel
theorem dX12_undo_0 : decode cX12_undo 0 = .ok (.aload_n 0, 1) := by decide +kernel
theorem dX12_undo_1 : decode cX12_undo 1 = .ok (.iconst 0, 1) := by decide +kernel
theorem dX12_undo_2 : decode cX12_undo 2 = .ok (.putfield 1, 3) := by decide +kernel
theorem dX12_undo_5 : decode cX12_undo 5 = .ok (.aload_n 0, 1) := by decide +kernel
theorem dX12_undo_6 : decode cX12_undo 6 = .ok (.getfield 214, 3) := by decide +kernel
theorem dX12_undo_9 : decode cX12_undo 9 = .ok (.ifCond .ne 5, 3) := by decide +kernel
theorem dX12_undo_12 : decode cX12_undo 12 = .ok (.iconst (-1), 1) := by decide +kernel
theorem dX12_undo_13 : decode cX12_undo 13 = .ok (.ireturn, 1) := by decide +kernel
theorem dX12_there_0 : decode cX12_there 0 = .ok (.aload_n 0, 1) := by decide +kernel
theorem dX12_there_1 : decode cX12_there 1 = .ok (.iconst 0, 1) := by decide +kernel
theorem dX12_there_2 : decode cX12_there 2 = .ok (.putfield 1, 3) := by decide +kernel
theorem dX12_there_5 : decode cX12_there 5 = .ok (.aload_n 0, 1) := by decide +kernel
theorem dX12_there_6 : decode cX12_there 6 = .ok (.iload_n 1, 1) := by decide +kernel
set_option maxRecDepth 20000 in
theorem ggX12_there_X12_isPlace : GoodIn wsX12_there wsX12_isPlace := goodIn_r _ [7, 2, 8, 9, 6, 10, 29, 30, 31, 32, 33, 34, 35, 36, 37, 38, 39, 40, 41, 42, 43, 44, 45, 46, 47, 48, 49, 50, 51, 52, 53, 54, 55, 56, 57, 58, 59, 60, 61, 62, 63, 64, 65, 66, 67, 68, 69, 70, 71, 72, 73, 74, 75] (by decide +kernel) (by decide +kernel)
set_option maxRecDepth 20000 in
theorem gX12_there_X12_isPlace : GoodIn wsX12_there (wsV RX12 250 RX12 yX12_isPlace wsX12_isPlace) := goodIn_app (goodIn_of _ (by decide +kernel)) ggX12_there_X12_isPlace
theorem dX12_there_7 : decode cX12_there 7 = .ok (.invokevirtual 250, 3) := by decide +kernel
theorem dX12_there_10 : decode cX12_there 10 = .ok (.ifCond .eq 13, 3) := by decide +kernel
theorem dX12_there_23 : decode cX12_there 23 = .ok (.iconst (-1), 1) := by decide +kernel
theorem dX12_there_24 : decode cX12_there 24 = .ok (.ireturn, 1) := by decide +kernel
theorem dX12_meets_0 : decode cX12_meets 0 = .ok (.aload_n 0, 1) := by decide +kernel
theorem dX12_meets_1 : decode cX12_meets 1 = .ok (.iconst 0, 1) := by decide +kernel
theorem dX12_meets_2 : decode cX12_meets 2 = .ok (.putfield 1, 3) := by decide +kernel
theorem dX12_meets_5 : decode cX12_meets 5 = .ok (.aload_n 0, 1) := by decide +kernel
theorem dX12_meets_6 : decode cX12_meets 6 = .ok (.iload_n 1, 1) := by decide +kernel
set_option maxRecDepth 20000 in
theorem ggX12_meets_X12_isPerson : GoodIn wsX12_meets wsX12_isPerson := goodIn_r _ [6, 7, 8, 9, 5, 10, 22, 23, 24, 25, 26, 27, 28, 29, 30, 31, 32, 33, 34, 35, 36, 37, 38, 39, 40, 41, 42, 43, 44, 45, 46, 47, 48, 49, 50, 51, 52, 53, 54, 55, 56, 57, 58, 59, 60, 61, 62, 63, 64, 65, 66, 67, 68] (by decide +kernel) (by decide +kernel)
set_option maxRecDepth 20000 in
theorem gX12_meets_X12_isPerson : GoodIn wsX12_meets (wsV RX12 241 RX12 yX12_isPerson wsX12_isPerson) := goodIn_app (goodIn_of _ (by decide +kernel)) ggX12_meets_X12_isPerson
theorem dX12_meets_7 : decode cX12_meets 7 = .ok (.invokevirtual 241, 3) := by decide +kernel
theorem dX12_meets_10 : decode cX12_meets 10 = .ok (.ifCond .eq 25, 3) := by decide +kernel
theorem dX12_meets_35 : decode cX12_meets 35 = .ok (.iconst (-1), 1) := by decide +kernel
theorem dX12_meets_36 : decode cX12_meets 36 = .ok (.ireturn, 1) := by decide +kernel
theorem dX12_best_0 : decode cX12_best 0 = .ok (.aload_n 0, 1) := by decide +kernel
theorem dX12_best_1 : decode cX12_best 1 = .ok (.iconst 0, 1) := by decide +kernel
theorem dX12_best_2 : decode cX12_best 2 = .ok (.putfield 1, 3) := by decide +kernel
theorem dX12_best_5 : decode cX12_best 5 = .ok (.aload_n 0, 1) := by decide +kernel
theorem dX12_best_6 : decode cX12_best 6 = .ok (.iload_n 1, 1) := by decide +kernel
set_option maxRecDepth 20000 in
theorem ggX12_best_X12_isPlace : GoodIn wsX12_best wsX12_isPlace := goodIn_r _ [9, 2, 10, 11, 8, 12, 50, 51, 52, 53, 54, 55, 56, 57, 58, 59, 60, 61, 62, 63, 64, 65, 66, 67, 68, 69, 70, 71, 72, 73, 74, 75, 76, 77, 78, 79, 80, 81, 82, 83, 84, 85, 86, 87, 88, 89, 90, 91, 92, 93, 94, 95, 96] (by decide +kernel) (by decide +kernel)
set_option maxRecDepth 20000 in
theorem gX12_best_X12_isPlace : GoodIn wsX12_best (wsV RX12 250 RX12 yX12_isPlace wsX12_isPlace) := goodIn_app (goodIn_of _ (by decide +kernel)) ggX12_best_X12_isPlace
theorem dX12_best_7 : decode cX12_best 7 = .ok (.invokevirtual 250, 3) := by decide +kernel
theorem dX12_best_10 : decode cX12_best 10 = .ok (.ifCond .eq 12, 3) := by decide +kernel
theorem dX12_best_22 : decode cX12_best 22 = .ok (.iconst (-1), 1) := by decide +kernel
theorem dX12_best_23 : decode cX12_best 23 = .ok (.ireturn, 1) := by decide +kernel
theorem dX12_bestAt_0 : decode cX12_bestAt 0 = .ok (.aload_n 0, 1) := by decide +kernel
theorem dX12_bestAt_1 : decode cX12_bestAt 1 = .ok (.iconst 0, 1) := by decide +kernel
theorem dX12_bestAt_2 : decode cX12_bestAt 2 = .ok (.putfield 1, 3) := by decide +kernel
theorem dX12_bestAt_5 : decode cX12_bestAt 5 = .ok (.iload_n 1, 1) := by decide +kernel
theorem dX12_bestAt_6 : decode cX12_bestAt 6 = .ok (.ifCond .ne 10, 3) := by decide +kernel
theorem dX12_bestAt_9 : decode cX12_bestAt 9 = .ok (.aload_n 0, 1) := by decide +kernel
theorem dX12_bestAt_10 : decode cX12_bestAt 10 = .ok (.getfield 127, 3) := by decide +kernel
theorem dX12_bestAt_13 : decode cX12_bestAt 13 = .ok (.goto 16, 3) := by decide +kernel
theorem dX12_bestAt_29 : decode cX12_bestAt 29 = .ok (.ireturn, 1) := by decide +kernel
theorem dX12_bestAt_16 : decode cX12_bestAt 16 = .ok (.iload_n 1, 1) := by decide +kernel
theorem dX12_bestAt_17 : decode cX12_bestAt 17 = .ok (.iconst 1, 1) := by decide +kernel
theorem dX12_bestAt_18 : decode cX12_bestAt 18 = .ok (.if_icmp .ne 10, 3) := by decide +kernel
theorem dX12_bestAt_21 : decode cX12_bestAt 21 = .ok (.aload_n 0, 1) := by decide +kernel
theorem dX12_bestAt_22 : decode cX12_bestAt 22 = .ok (.getfield 130, 3) := by decide +kernel
theorem dX12_bestAt_25 : decode cX12_bestAt 25 = .ok (.goto 4, 3) := by decide +kernel
theorem dX12_bestAt_28 : decode cX12_bestAt 28 = .ok (.iconst (-1), 1) := by decide +kernel
theorem dX12_fences_0 : decode cX12_fences 0 = .ok (.aload_n 0, 1) := by decide +kernel
theorem dX12_fences_1 : decode cX12_fences 1 = .ok (.iconst 0, 1) := by decide +kernel
theorem dX12_fences_2 : decode cX12_fences 2 = .ok (.putfield 1, 3) := by decide +kernel
theorem dX12_fences_5 : decode cX12_fences 5 = .ok (.aload_n 0, 1) := by decide +kernel
theorem dX12_fences_6 : decode cX12_fences 6 = .ok (.getfield 98, 3) := by decide +kernel
theorem dX12_fences_9 : decode cX12_fences 9 = .ok (.bipush 65, 2) := by decide +kernel
theorem dX12_fences_11 : decode cX12_fences 11 = .ok (.iaload, 1) := by decide +kernel
theorem dX12_fences_12 : decode cX12_fences 12 = .ok (.istore_n 1, 1) := by decide +kernel
theorem dX12_fences_13 : decode cX12_fences 13 = .ok (.iconst (-1), 1) := by decide +kernel
theorem dX12_fences_14 : decode cX12_fences 14 = .ok (.istore_n 2, 1) := by decide +kernel
theorem dX12_fences_15 : decode cX12_fences 15 = .ok (.iconst (-1), 1) := by decide +kernel
theorem dX12_fences_16 : decode cX12_fences 16 = .ok (.istore_n 3, 1) := by decide +kernel
theorem dX12_fences_17 : decode cX12_fences 17 = .ok (.iconst 0, 1) := by decide +kernel
theorem dX12_fences_18 : decode cX12_fences 18 = .ok (.istore 4, 2) := by decide +kernel
theorem dX12_fences_20 : decode cX12_fences 20 = .ok (.iload 4, 2) := by decide +kernel
theorem dX12_fences_22 : decode cX12_fences 22 = .ok (.aload_n 0, 1) := by decide +kernel
theorem dX12_fences_23 : decode cX12_fences 23 = .ok (.getfield 98, 3) := by decide +kernel
theorem dX12_fences_26 : decode cX12_fences 26 = .ok (.iconst 0, 1) := by decide +kernel
theorem dX12_fences_27 : decode cX12_fences 27 = .ok (.iaload, 1) := by decide +kernel
theorem dX12_fences_28 : decode cX12_fences 28 = .ok (.if_icmp .ge 44, 3) := by decide +kernel
theorem dX12_fences_72 : decode cX12_fences 72 = .ok (.aload_n 0, 1) := by decide +kernel
theorem dX12_fences_73 : decode cX12_fences 73 = .ok (.getfield 98, 3) := by decide +kernel
theorem dX12_fences_76 : decode cX12_fences 76 = .ok (.bipush 65, 2) := by decide +kernel
theorem dX12_fences_78 : decode cX12_fences 78 = .ok (.iload_n 1, 1) := by decide +kernel
theorem dX12_fences_79 : decode cX12_fences 79 = .ok (.iastore, 1) := by decide +kernel
theorem dX12_fences_80 : decode cX12_fences 80 = .ok (.iload_n 2, 1) := by decide +kernel
theorem dX12_fences_81 : decode cX12_fences 81 = .ok (.ireturn, 1) := by decide +kernel
theorem dX12_perils_0 : decode cX12_perils 0 = .ok (.aload_n 0, 1) := by decide +kernel
theorem dX12_perils_1 : decode cX12_perils 1 = .ok (.iconst 0, 1) := by decide +kernel
theorem dX12_perils_2 : decode cX12_perils 2 = .ok (.putfield 1, 3) := by decide +kernel
theorem dX12_perils_5 : decode cX12_perils 5 = .ok (.aload_n 0, 1) := by decide +kernel
theorem dX12_perils_6 : decode cX12_perils 6 = .ok (.iload_n 1, 1) := by decide +kernel
set_option maxRecDepth 20000 in
theorem ggX12_perils_X12_isPerson : GoodIn wsX12_perils wsX12_isPerson := goodIn_r _ [6, 7, 8, 9, 5, 10, 52, 53, 54, 55, 56, 57, 58, 59, 60, 61, 62, 63, 64, 65, 66, 67, 68, 69, 70, 71, 72, 73, 74, 75, 76, 77, 78, 79, 80, 81, 82, 83, 84, 85, 86, 87, 88, 89, 90, 91, 92, 93, 94, 95, 96, 97, 98] (by decide +kernel) (by decide +kernel)
set_option maxRecDepth 20000 in
theorem gX12_perils_X12_isPerson : GoodIn wsX12_perils (wsV RX12 241 RX12 yX12_isPerson wsX12_isPerson) := goodIn_app (goodIn_of _ (by decide +kernel)) ggX12_perils_X12_isPerson
theorem dX12_perils_7 : decode cX12_perils 7 = .ok (.invokevirtual 241, 3) := by decide +kernel
theorem dX12_perils_10 : decode cX12_perils 10 = .ok (.ifCond .eq 19, 3) := by decide +kernel
theorem dX12_perils_29 : decode cX12_perils 29 = .ok (.iconst (-1), 1) := by decide +kernel
theorem dX12_perils_30 : decode cX12_perils 30 = .ok (.ireturn, 1) := by decide +kernel
theorem dX12_rounds_0 : decode cX12_rounds 0 = .ok (.aload_n 0, 1) := by decide +kernel
theorem dX12_rounds_1 : decode cX12_rounds 1 = .ok (.iconst 0, 1) := by decide +kernel
theorem dX12_rounds_2 : decode cX12_rounds 2 = .ok (.putfield 1, 3) := by decide +kernel
theorem dX12_rounds_5 : decode cX12_rounds 5 = .ok (.iconst 0, 1) := by decide +kernel
theorem dX12_rounds_6 : decode cX12_rounds 6 = .ok (.istore_n 1, 1) := by decide +kernel
theorem dX12_rounds_7 : decode cX12_rounds 7 = .ok (.iload_n 1, 1) := by decide +kernel
theorem dX12_rounds_8 : decode cX12_rounds 8 = .ok (.bipush 8, 2) := by decide +kernel
theorem dX12_rounds_10 : decode cX12_rounds 10 = .ok (.if_icmp .ge 24, 3) := by decide +kernel
theorem dX12_rounds_13 : decode cX12_rounds 13 = .ok (.aload_n 0, 1) := by decide +kernel
theorem dX12_rounds_14 : decode cX12_rounds 14 = .ok (.getfield 136, 3) := by decide +kernel
theorem dX12_rounds_17 : decode cX12_rounds 17 = .ok (.iload_n 1, 1) := by decide +kernel
theorem dX12_rounds_18 : decode cX12_rounds 18 = .ok (.aload_n 0, 1) := by decide +kernel
theorem dX12_rounds_19 : decode cX12_rounds 19 = .ok (.getfield 98, 3) := by decide +kernel
theorem dX12_rounds_22 : decode cX12_rounds 22 = .ok (.bipush 71, 2) := by decide +kernel
theorem dX12_rounds_24 : decode cX12_rounds 24 = .ok (.iload_n 1, 1) := by decide +kernel
theorem dX12_rounds_25 : decode cX12_rounds 25 = .ok (.iadd, 1) := by decide +kernel
theorem dX12_rounds_26 : decode cX12_rounds 26 = .ok (.iaload, 1) := by decide +kernel
theorem dX12_rounds_27 : decode cX12_rounds 27 = .ok (.iastore, 1) := by decide +kernel
theorem dX12_rounds_28 : decode cX12_rounds 28 = .ok (.iinc 1 1, 3) := by decide +kernel
theorem dX12_rounds_31 : decode cX12_rounds 31 = .ok (.goto (-24), 3) := by decide +kernel
theorem dX12_rounds_34 : decode cX12_rounds 34 = .ok (.iconst 0, 1) := by decide +kernel
theorem dX12_rounds_35 : decode cX12_rounds 35 = .ok (.istore_n 1, 1) := by decide +kernel
theorem dX12_rounds_36 : decode cX12_rounds 36 = .ok (.iconst 1, 1) := by decide +kernel
theorem dX12_rounds_37 : decode cX12_rounds 37 = .ok (.istore_n 2, 1) := by decide +kernel
theorem dX12_rounds_38 : decode cX12_rounds 38 = .ok (.iload_n 2, 1) := by decide +kernel
theorem dX12_rounds_39 : decode cX12_rounds 39 = .ok (.ifCond .eq 45, 3) := by decide +kernel
theorem dX12_rounds_42 : decode cX12_rounds 42 = .ok (.iload_n 1, 1) := by decide +kernel
theorem dX12_rounds_43 : decode cX12_rounds 43 = .ok (.bipush 30, 2) := by decide +kernel
theorem dX12_rounds_45 : decode cX12_rounds 45 = .ok (.if_icmp .ge 39, 3) := by decide +kernel
theorem dX12_rounds_48 : decode cX12_rounds 48 = .ok (.iconst 0, 1) := by decide +kernel
theorem dX12_rounds_49 : decode cX12_rounds 49 = .ok (.istore_n 2, 1) := by decide +kernel
theorem dX12_rounds_50 : decode cX12_rounds 50 = .ok (.iconst 0, 1) := by decide +kernel
theorem dX12_rounds_51 : decode cX12_rounds 51 = .ok (.istore_n 3, 1) := by decide +kernel
theorem dX12_rounds_52 : decode cX12_rounds 52 = .ok (.iload_n 3, 1) := by decide +kernel
theorem dX12_rounds_53 : decode cX12_rounds 53 = .ok (.aload_n 0, 1) := by decide +kernel
theorem dX12_rounds_54 : decode cX12_rounds 54 = .ok (.getfield 98, 3) := by decide +kernel
theorem dX12_rounds_57 : decode cX12_rounds 57 = .ok (.iconst 1, 1) := by decide +kernel
theorem dX12_rounds_58 : decode cX12_rounds 58 = .ok (.iaload, 1) := by decide +kernel
theorem dX12_rounds_59 : decode cX12_rounds 59 = .ok (.if_icmp .ge 19, 3) := by decide +kernel
theorem dX12_rounds_78 : decode cX12_rounds 78 = .ok (.iinc 1 1, 3) := by decide +kernel
theorem dX12_rounds_81 : decode cX12_rounds 81 = .ok (.goto (-43), 3) := by decide +kernel
theorem dX12_rounds_84 : decode cX12_rounds 84 = .ok (.aload_n 0, 1) := by decide +kernel
theorem dX12_rounds_85 : decode cX12_rounds 85 = .ok (.aload_n 0, 1) := by decide +kernel
theorem dX12_rounds_86 : decode cX12_rounds 86 = .ok (.iconst 1, 1) := by decide +kernel
set_option maxRecDepth 20000 in
theorem ggX12_rounds_X12_goodAll : GoodIn wsX12_rounds wsX12_goodAll := goodIn_r _ [45, 3, 46, 47, 48, 11, 49, 13, 14, 15, 16, 17, 18, 19, 20, 21, 22, 23, 24, 25, 26, 27, 28, 29, 30, 31, 32, 33, 34, 35, 36, 37, 38, 39, 40, 41, 50, 51, 52, 53, 54, 55, 56, 57, 58, 59, 60, 61, 62, 63, 64, 65, 66, 67, 68, 69, 70, 71, 72, 73, 74, 75, 76, 77, 78, 79, 80, 81, 82, 83, 84, 85, 86, 87, 88, 89, 90, 91, 92, 93, 94, 95, 96] (by decide +kernel) (by decide +kernel)
set_option maxRecDepth 20000 in
theorem gX12_rounds_X12_goodAll : GoodIn wsX12_rounds (wsV RX12 256 RX12 yX12_goodAll wsX12_goodAll) := goodIn_app (goodIn_of _ (by decide +kernel)) ggX12_rounds_X12_goodAll
theorem dX12_rounds_87 : decode cX12_rounds 87 = .ok (.invokevirtual 256, 3) := by decide +kernel
theorem dX12_rounds_90 : decode cX12_rounds 90 = .ok (.putfield 139, 3) := by decide +kernel
theorem dX12_rounds_93 : decode cX12_rounds 93 = .ok (.aload_n 0, 1) := by decide +kernel
theorem dX12_rounds_94 : decode cX12_rounds 94 = .ok (.aload_n 0, 1) := by decide +kernel
theorem dX12_rounds_95 : decode cX12_rounds 95 = .ok (.getfield 98, 3) := by decide +kernel
theorem dX12_rounds_98 : decode cX12_rounds 98 = .ok (.iconst 1, 1) := by decide +kernel
theorem dX12_rounds_99 : decode cX12_rounds 99 = .ok (.iaload, 1) := by decide +kernel
theorem dX12_rounds_100 : decode cX12_rounds 100 = .ok (.putfield 327, 3) := by decide +kernel
theorem dX12_rounds_103 : decode cX12_rounds 103 = .ok (.aload_n 0, 1) := by decide +kernel
theorem dX12_rounds_104 : decode cX12_rounds 104 = .ok (.iconst 1, 1) := by decide +kernel
theorem dX12_rounds_105 : decode cX12_rounds 105 = .ok (.putfield 330, 3) := by decide +kernel
theorem dX12_rounds_108 : decode cX12_rounds 108 = .ok (.iconst 0, 1) := by decide +kernel
theorem dX12_rounds_109 : decode cX12_rounds 109 = .ok (.istore_n 3, 1) := by decide +kernel
theorem dX12_rounds_110 : decode cX12_rounds 110 = .ok (.iload_n 3, 1) := by decide +kernel
theorem dX12_rounds_111 : decode cX12_rounds 111 = .ok (.bipush 8, 2) := by decide +kernel
theorem dX12_rounds_113 : decode cX12_rounds 113 = .ok (.if_icmp .ge 39, 3) := by decide +kernel
theorem dX12_rounds_116 : decode cX12_rounds 116 = .ok (.aload_n 0, 1) := by decide +kernel
theorem dX12_rounds_117 : decode cX12_rounds 117 = .ok (.getfield 133, 3) := by decide +kernel
theorem dX12_rounds_120 : decode cX12_rounds 120 = .ok (.iload_n 3, 1) := by decide +kernel
theorem dX12_rounds_121 : decode cX12_rounds 121 = .ok (.aload_n 0, 1) := by decide +kernel
theorem dX12_rounds_122 : decode cX12_rounds 122 = .ok (.getfield 98, 3) := by decide +kernel
theorem dX12_rounds_125 : decode cX12_rounds 125 = .ok (.bipush 71, 2) := by decide +kernel
theorem dX12_rounds_127 : decode cX12_rounds 127 = .ok (.iload_n 3, 1) := by decide +kernel
theorem dX12_rounds_128 : decode cX12_rounds 128 = .ok (.iadd, 1) := by decide +kernel
theorem dX12_rounds_129 : decode cX12_rounds 129 = .ok (.iaload, 1) := by decide +kernel
theorem dX12_rounds_130 : decode cX12_rounds 130 = .ok (.iastore, 1) := by decide +kernel
theorem dX12_rounds_131 : decode cX12_rounds 131 = .ok (.aload_n 0, 1) := by decide +kernel
theorem dX12_rounds_132 : decode cX12_rounds 132 = .ok (.getfield 98, 3) := by decide +kernel
theorem dX12_rounds_135 : decode cX12_rounds 135 = .ok (.bipush 71, 2) := by decide +kernel
theorem dX12_rounds_137 : decode cX12_rounds 137 = .ok (.iload_n 3, 1) := by decide +kernel
theorem dX12_rounds_138 : decode cX12_rounds 138 = .ok (.iadd, 1) := by decide +kernel
theorem dX12_rounds_139 : decode cX12_rounds 139 = .ok (.aload_n 0, 1) := by decide +kernel
theorem dX12_rounds_140 : decode cX12_rounds 140 = .ok (.getfield 136, 3) := by decide +kernel
theorem dX12_rounds_143 : decode cX12_rounds 143 = .ok (.iload_n 3, 1) := by decide +kernel
theorem dX12_rounds_144 : decode cX12_rounds 144 = .ok (.iaload, 1) := by decide +kernel
theorem dX12_rounds_145 : decode cX12_rounds 145 = .ok (.iastore, 1) := by decide +kernel
theorem dX12_rounds_146 : decode cX12_rounds 146 = .ok (.iinc 3 1, 3) := by decide +kernel
theorem dX12_rounds_149 : decode cX12_rounds 149 = .ok (.goto (-39), 3) := by decide +kernel
theorem dX12_rounds_152 : decode cX12_rounds 152 = .ok (.iload_n 1, 1) := by decide +kernel
theorem dX12_rounds_153 : decode cX12_rounds 153 = .ok (.ireturn, 1) := by decide +kernel
theorem dX12_parted_0 : decode cX12_parted 0 = .ok (.aload_n 0, 1) := by decide +kernel
theorem dX12_parted_1 : decode cX12_parted 1 = .ok (.iconst 0, 1) := by decide +kernel
theorem dX12_parted_2 : decode cX12_parted 2 = .ok (.putfield 1, 3) := by decide +kernel
theorem dX12_parted_5 : decode cX12_parted 5 = .ok (.aload_n 0, 1) := by decide +kernel
theorem dX12_parted_6 : decode cX12_parted 6 = .ok (.getfield 330, 3) := by decide +kernel
theorem dX12_parted_9 : decode cX12_parted 9 = .ok (.ifCond .eq 26, 3) := by decide +kernel
theorem dX12_parted_35 : decode cX12_parted 35 = .ok (.iconst (-1), 1) := by decide +kernel
theorem dX12_parted_36 : decode cX12_parted 36 = .ok (.ireturn, 1) := by decide +kernel
theorem dX12_partedGood_0 : decode cX12_partedGood 0 = .ok (.aload_n 0, 1) := by decide +kernel
theorem dX12_partedGood_1 : decode cX12_partedGood 1 = .ok (.iconst 0, 1) := by decide +kernel
theorem dX12_partedGood_2 : decode cX12_partedGood 2 = .ok (.putfield 1, 3) := by decide +kernel
theorem dX12_partedGood_5 : decode cX12_partedGood 5 = .ok (.aload_n 0, 1) := by decide +kernel
theorem dX12_partedGood_6 : decode cX12_partedGood 6 = .ok (.getfield 139, 3) := by decide +kernel
theorem dX12_partedGood_9 : decode cX12_partedGood 9 = .ok (.ireturn, 1) := by decide +kernel
theorem dX12_tracks_0 : decode cX12_tracks 0 = .ok (.aload_n 0, 1) := by decide +kernel
theorem dX12_tracks_1 : decode cX12_tracks 1 = .ok (.iconst 0, 1) := by decide +kernel
theorem dX12_tracks_2 : decode cX12_tracks 2 = .ok (.putfield 1, 3) := by decide +kernel
theorem dX12_tracks_5 : decode cX12_tracks 5 = .ok (.aload_n 0, 1) := by decide +kernel
set_option maxRecDepth 20000 in
theorem ggX12_tracks_X12_take : GoodIn wsX12_tracks wsX12_take := goodIn_r _ [8, 9, 31, 32, 33, 34, 35, 36, 37, 38, 39, 40, 41, 42, 43, 44, 45, 46, 47, 48, 49, 50, 51, 52, 53, 54, 55, 56, 57, 58, 59, 60, 61, 62, 63, 64, 65, 66, 67, 68, 69, 70, 71, 72, 73, 74, 75, 76, 77] (by decide +kernel) (by decide +kernel)
set_option maxRecDepth 20000 in
theorem gX12_tracks_X12_take : GoodIn wsX12_tracks (wsV RX12 89 RX12 yX12_take wsX12_take) := goodIn_app (goodIn_of _ (by decide +kernel)) ggX12_tracks_X12_take
theorem dX12_tracks_6 : decode cX12_tracks 6 = .ok (.invokevirtual 89, 3) := by decide +kernel
theorem dX12_tracks_9 : decode cX12_tracks 9 = .ok (.istore_n 1, 1) := by decide +kernel
theorem dX12_tracks_10 : decode cX12_tracks 10 = .ok (.iload_n 1, 1) := by decide +kernel
theorem dX12_tracks_11 : decode cX12_tracks 11 = .ok (.iconst 2, 1) := by decide +kernel
theorem dX12_tracks_12 : decode cX12_tracks 12 = .ok (.irem, 1) := by decide +kernel
theorem dX12_tracks_13 : decode cX12_tracks 13 = .ok (.ifCond .ne 15, 3) := by decide +kernel
theorem dX12_tracks_16 : decode cX12_tracks 16 = .ok (.iload_n 1, 1) := by decide +kernel
theorem dX12_tracks_17 : decode cX12_tracks 17 = .ok (.iconst 2, 1) := by decide +kernel
theorem dX12_tracks_18 : decode cX12_tracks 18 = .ok (.idiv, 1) := by decide +kernel
theorem dX12_tracks_19 : decode cX12_tracks 19 = .ok (.iconst 1, 1) := by decide +kernel
theorem dX12_tracks_20 : decode cX12_tracks 20 = .ok (.bipush 10, 2) := by decide +kernel
set_option maxRecDepth 20000 in
theorem ggX12_tracks_X12_isIn : GoodIn wsX12_tracks wsX12_isIn := goodIn_r _ [12] (by decide +kernel) (by decide +kernel)
set_option maxRecDepth 20000 in
theorem gX12_tracks_X12_isIn : GoodIn wsX12_tracks (va_wsS RX12 75 yX12_isIn wsX12_isIn) := goodIn_app (goodIn_of _ (by decide +kernel)) ggX12_tracks_X12_isIn
theorem dX12_tracks_22 : decode cX12_tracks 22 = .ok (.invokestatic 75, 3) := by decide +kernel
theorem dX12_tracks_25 : decode cX12_tracks 25 = .ok (.ifCond .ne 5, 3) := by decide +kernel
theorem dX12_tracks_28 : decode cX12_tracks 28 = .ok (.iconst (-1), 1) := by decide +kernel
theorem dX12_tracks_29 : decode cX12_tracks 29 = .ok (.ireturn, 1) := by decide +kernel
theorem dX12_votes_0 : decode cX12_votes 0 = .ok (.aload_n 0, 1) := by decide +kernel
theorem dX12_votes_1 : decode cX12_votes 1 = .ok (.iconst 0, 1) := by decide +kernel
theorem dX12_votes_2 : decode cX12_votes 2 = .ok (.putfield 1, 3) := by decide +kernel
theorem dX12_votes_5 : decode cX12_votes 5 = .ok (.aload_n 0, 1) := by decide +kernel
theorem dX12_votes_6 : decode cX12_votes 6 = .ok (.iload_n 1, 1) := by decide +kernel
set_option maxRecDepth 20000 in
theorem ggX12_votes_X12_isPlace : GoodIn wsX12_votes wsX12_isPlace := goodIn_r _ [6, 7, 8, 9, 5, 10, 23, 24, 25, 26, 27, 28, 29, 30, 31, 32, 33, 34, 35, 36, 37, 38, 39, 40, 41, 42, 43, 44, 45, 46, 47, 48, 49, 50, 51, 52, 53, 54, 55, 56, 57, 58, 59, 60, 61, 62, 63, 64, 65, 66, 67, 68, 69] (by decide +kernel) (by decide +kernel)
set_option maxRecDepth 20000 in
theorem gX12_votes_X12_isPlace : GoodIn wsX12_votes (wsV RX12 250 RX12 yX12_isPlace wsX12_isPlace) := goodIn_app (goodIn_of _ (by decide +kernel)) ggX12_votes_X12_isPlace
theorem dX12_votes_7 : decode cX12_votes 7 = .ok (.invokevirtual 250, 3) := by decide +kernel
theorem dX12_votes_10 : decode cX12_votes 10 = .ok (.ifCond .eq 13, 3) := by decide +kernel
theorem dX12_votes_23 : decode cX12_votes 23 = .ok (.iconst (-1), 1) := by decide +kernel
theorem dX12_votes_24 : decode cX12_votes 24 = .ok (.ireturn, 1) := by decide +kernel
theorem dX12_against_0 : decode cX12_against 0 = .ok (.aload_n 0, 1) := by decide +kernel
theorem dX12_against_1 : decode cX12_against 1 = .ok (.iconst 0, 1) := by decide +kernel
theorem dX12_against_2 : decode cX12_against 2 = .ok (.putfield 1, 3) := by decide +kernel
theorem dX12_against_5 : decode cX12_against 5 = .ok (.aload_n 0, 1) := by decide +kernel
theorem dX12_against_6 : decode cX12_against 6 = .ok (.iload_n 1, 1) := by decide +kernel
set_option maxRecDepth 20000 in
theorem ggX12_against_X12_isPlace : GoodIn wsX12_against wsX12_isPlace := goodIn_r _ [6, 7, 8, 9, 5, 10, 23, 24, 25, 26, 27, 28, 29, 30, 31, 32, 33, 34, 35, 36, 37, 38, 39, 40, 41, 42, 43, 44, 45, 46, 47, 48, 49, 50, 51, 52, 53, 54, 55, 56, 57, 58, 59, 60, 61, 62, 63, 64, 65, 66, 67, 68, 69] (by decide +kernel) (by decide +kernel)
set_option maxRecDepth 20000 in
theorem gX12_against_X12_isPlace : GoodIn wsX12_against (wsV RX12 250 RX12 yX12_isPlace wsX12_isPlace) := goodIn_app (goodIn_of _ (by decide +kernel)) ggX12_against_X12_isPlace
theorem dX12_against_7 : decode cX12_against 7 = .ok (.invokevirtual 250, 3) := by decide +kernel
theorem dX12_against_10 : decode cX12_against 10 = .ok (.ifCond .eq 13, 3) := by decide +kernel
theorem dX12_against_23 : decode cX12_against 23 = .ok (.iconst (-1), 1) := by decide +kernel
theorem dX12_against_24 : decode cX12_against 24 = .ok (.ireturn, 1) := by decide +kernel
theorem dX12_missed_0 : decode cX12_missed 0 = .ok (.aload_n 0, 1) := by decide +kernel
theorem dX12_missed_1 : decode cX12_missed 1 = .ok (.iconst 0, 1) := by decide +kernel
theorem dX12_missed_2 : decode cX12_missed 2 = .ok (.putfield 1, 3) := by decide +kernel
theorem dX12_missed_5 : decode cX12_missed 5 = .ok (.aload_n 0, 1) := by decide +kernel
theorem dX12_missed_6 : decode cX12_missed 6 = .ok (.iload_n 1, 1) := by decide +kernel
set_option maxRecDepth 20000 in
theorem ggX12_missed_X12_isPlace : GoodIn wsX12_missed wsX12_isPlace := goodIn_r _ [6, 7, 8, 9, 5, 10, 23, 24, 25, 26, 27, 28, 29, 30, 31, 32, 33, 34, 35, 36, 37, 38, 39, 40, 41, 42, 43, 44, 45, 46, 47, 48, 49, 50, 51, 52, 53, 54, 55, 56, 57, 58, 59, 60, 61, 62, 63, 64, 65, 66, 67, 68, 69] (by decide +kernel) (by decide +kernel)
set_option maxRecDepth 20000 in
theorem gX12_missed_X12_isPlace : GoodIn wsX12_missed (wsV RX12 250 RX12 yX12_isPlace wsX12_isPlace) := goodIn_app (goodIn_of _ (by decide +kernel)) ggX12_missed_X12_isPlace
theorem dX12_missed_7 : decode cX12_missed 7 = .ok (.invokevirtual 250, 3) := by decide +kernel
theorem dX12_missed_10 : decode cX12_missed 10 = .ok (.ifCond .eq 13, 3) := by decide +kernel
theorem dX12_missed_23 : decode cX12_missed 23 = .ok (.iconst (-1), 1) := by decide +kernel
theorem dX12_missed_24 : decode cX12_missed 24 = .ok (.ireturn, 1) := by decide +kernel
theorem dX12_board_0 : decode cX12_board 0 = .ok (.aload_n 0, 1) := by decide +kernel
theorem dX12_board_1 : decode cX12_board 1 = .ok (.iconst 0, 1) := by decide +kernel
theorem dX12_board_2 : decode cX12_board 2 = .ok (.putfield 1, 3) := by decide +kernel
theorem dX12_board_5 : decode cX12_board 5 = .ok (.aload_n 0, 1) := by decide +kernel
theorem dX12_board_6 : decode cX12_board 6 = .ok (.iload_n 1, 1) := by decide +kernel
set_option maxRecDepth 20000 in
theorem ggX12_board_X12_isPlace : GoodIn wsX12_board wsX12_isPlace := goodIn_r _ [9, 4, 10, 11, 8, 12, 44, 45, 46, 47, 48, 49, 50, 51, 52, 53, 54, 55, 56, 57, 58, 59, 60, 61, 62, 63, 64, 65, 66, 67, 68, 69, 70, 71, 72, 73, 74, 75, 76, 77, 78, 79, 80, 81, 82, 83, 84, 85, 86, 87, 88, 89, 90] (by decide +kernel) (by decide +kernel)
set_option maxRecDepth 20000 in
theorem gX12_board_X12_isPlace : GoodIn wsX12_board (wsV RX12 250 RX12 yX12_isPlace wsX12_isPlace) := goodIn_app (goodIn_of _ (by decide +kernel)) ggX12_board_X12_isPlace
theorem dX12_board_7 : decode cX12_board 7 = .ok (.invokevirtual 250, 3) := by decide +kernel
theorem dX12_board_10 : decode cX12_board 10 = .ok (.ifCond .ne 5, 3) := by decide +kernel
theorem dX12_board_13 : decode cX12_board 13 = .ok (.iconst (-1), 1) := by decide +kernel
theorem dX12_board_14 : decode cX12_board 14 = .ok (.ireturn, 1) := by decide +kernel
theorem dX12_byteAt_0 : decode cX12_byteAt 0 = .ok (.aload_n 0, 1) := by decide +kernel
theorem dX12_byteAt_1 : decode cX12_byteAt 1 = .ok (.iconst 0, 1) := by decide +kernel
theorem dX12_byteAt_2 : decode cX12_byteAt 2 = .ok (.putfield 1, 3) := by decide +kernel
theorem dX12_byteAt_5 : decode cX12_byteAt 5 = .ok (.iload_n 1, 1) := by decide +kernel
theorem dX12_byteAt_6 : decode cX12_byteAt 6 = .ok (.iconst 0, 1) := by decide +kernel
theorem dX12_byteAt_7 : decode cX12_byteAt 7 = .ok (.aload_n 0, 1) := by decide +kernel
theorem dX12_byteAt_8 : decode cX12_byteAt 8 = .ok (.getfield 337, 3) := by decide +kernel
theorem dX12_byteAt_11 : decode cX12_byteAt 11 = .ok (.iconst 1, 1) := by decide +kernel
theorem dX12_byteAt_12 : decode cX12_byteAt 12 = .ok (.isub, 1) := by decide +kernel
set_option maxRecDepth 20000 in
theorem ggX12_byteAt_X12_isIn : GoodIn wsX12_byteAt wsX12_isIn := goodIn_r _ [7] (by decide +kernel) (by decide +kernel)
set_option maxRecDepth 20000 in
theorem gX12_byteAt_X12_isIn : GoodIn wsX12_byteAt (va_wsS RX12 75 yX12_isIn wsX12_isIn) := goodIn_app (goodIn_of _ (by decide +kernel)) ggX12_byteAt_X12_isIn
theorem dX12_byteAt_13 : decode cX12_byteAt 13 = .ok (.invokestatic 75, 3) := by decide +kernel
theorem dX12_byteAt_16 : decode cX12_byteAt 16 = .ok (.ifCond .eq 12, 3) := by decide +kernel
theorem dX12_byteAt_28 : decode cX12_byteAt 28 = .ok (.iconst (-1), 1) := by decide +kernel
theorem dX12_byteAt_29 : decode cX12_byteAt 29 = .ok (.ireturn, 1) := by decide +kernel
theorem dX12_odds_0 : decode cX12_odds 0 = .ok (.aload_n 0, 1) := by decide +kernel
theorem dX12_odds_1 : decode cX12_odds 1 = .ok (.iconst 0, 1) := by decide +kernel
theorem dX12_odds_2 : decode cX12_odds 2 = .ok (.putfield 1, 3) := by decide +kernel
theorem dX12_odds_5 : decode cX12_odds 5 = .ok (.aload_n 0, 1) := by decide +kernel
theorem dX12_odds_6 : decode cX12_odds 6 = .ok (.iload_n 1, 1) := by decide +kernel
set_option maxRecDepth 20000 in
theorem ggX12_odds_X12_isPerson : GoodIn wsX12_odds wsX12_isPerson := goodIn_r _ [7, 2, 8, 9, 6, 10, 72, 73, 74, 75, 76, 77, 78, 79, 80, 81, 82, 83, 84, 85, 86, 87, 88, 89, 90, 91, 92, 93, 94, 95, 96, 97, 98, 99, 100, 101, 102, 103, 104, 105, 106, 107, 108, 109, 110, 111, 112, 113, 114, 115, 116, 117, 118] (by decide +kernel) (by decide +kernel)
set_option maxRecDepth 20000 in
theorem gX12_odds_X12_isPerson : GoodIn wsX12_odds (wsV RX12 241 RX12 yX12_isPerson wsX12_isPerson) := goodIn_app (goodIn_of _ (by decide +kernel)) ggX12_odds_X12_isPerson
theorem dX12_odds_7 : decode cX12_odds 7 = .ok (.invokevirtual 241, 3) := by decide +kernel
theorem dX12_odds_10 : decode cX12_odds 10 = .ok (.ifCond .eq 13, 3) := by decide +kernel
theorem dX12_odds_23 : decode cX12_odds 23 = .ok (.iconst (-1), 1) := by decide +kernel
theorem dX12_odds_24 : decode cX12_odds 24 = .ok (.ireturn, 1) := by decide +kernel
theorem dX12_layAside_0 : decode cX12_layAside 0 = .ok (.iconst 0, 1) := by decide +kernel
theorem dX12_layAside_1 : decode cX12_layAside 1 = .ok (.istore_n 1, 1) := by decide +kernel
theorem dX12_layAside_2 : decode cX12_layAside 2 = .ok (.iload_n 1, 1) := by decide +kernel
theorem dX12_layAside_3 : decode cX12_layAside 3 = .ok (.bipush 70, 2) := by decide +kernel
theorem dX12_layAside_5 : decode cX12_layAside 5 = .ok (.if_icmp .ge 24, 3) := by decide +kernel
theorem dX12_layAside_8 : decode cX12_layAside 8 = .ok (.aload_n 0, 1) := by decide +kernel
theorem dX12_layAside_9 : decode cX12_layAside 9 = .ok (.getfield 110, 3) := by decide +kernel
theorem dX12_layAside_12 : decode cX12_layAside 12 = .ok (.iload_n 1, 1) := by decide +kernel
theorem dX12_layAside_13 : decode cX12_layAside 13 = .ok (.aload_n 0, 1) := by decide +kernel
theorem dX12_layAside_14 : decode cX12_layAside 14 = .ok (.getfield 98, 3) := by decide +kernel
theorem dX12_layAside_17 : decode cX12_layAside 17 = .ok (.bipush 61, 2) := by decide +kernel
theorem dX12_layAside_19 : decode cX12_layAside 19 = .ok (.iload_n 1, 1) := by decide +kernel
theorem dX12_layAside_20 : decode cX12_layAside 20 = .ok (.iadd, 1) := by decide +kernel
theorem dX12_layAside_21 : decode cX12_layAside 21 = .ok (.iaload, 1) := by decide +kernel
theorem dX12_layAside_22 : decode cX12_layAside 22 = .ok (.iastore, 1) := by decide +kernel
theorem dX12_layAside_23 : decode cX12_layAside 23 = .ok (.iinc 1 1, 3) := by decide +kernel
theorem dX12_layAside_26 : decode cX12_layAside 26 = .ok (.goto (-24), 3) := by decide +kernel
theorem dX12_layAside_29 : decode cX12_layAside 29 = .ok (.return_, 1) := by decide +kernel
theorem dX12_stay_0 : decode cX12_stay 0 = .ok (.iconst 0, 1) := by decide +kernel
theorem dX12_stay_1 : decode cX12_stay 1 = .ok (.istore_n 2, 1) := by decide +kernel
theorem dX12_stay_2 : decode cX12_stay 2 = .ok (.iload_n 2, 1) := by decide +kernel
theorem dX12_stay_3 : decode cX12_stay 3 = .ok (.bipush 70, 2) := by decide +kernel
theorem dX12_stay_5 : decode cX12_stay 5 = .ok (.if_icmp .ge 41, 3) := by decide +kernel
theorem dX12_stay_8 : decode cX12_stay 8 = .ok (.aload_n 0, 1) := by decide +kernel
theorem dX12_stay_9 : decode cX12_stay 9 = .ok (.getfield 98, 3) := by decide +kernel
theorem dX12_stay_12 : decode cX12_stay 12 = .ok (.bipush 61, 2) := by decide +kernel
theorem dX12_stay_14 : decode cX12_stay 14 = .ok (.iload_n 2, 1) := by decide +kernel
theorem dX12_stay_15 : decode cX12_stay 15 = .ok (.iadd, 1) := by decide +kernel
theorem dX12_stay_16 : decode cX12_stay 16 = .ok (.iaload, 1) := by decide +kernel
theorem dX12_stay_17 : decode cX12_stay 17 = .ok (.istore_n 3, 1) := by decide +kernel
theorem dX12_stay_18 : decode cX12_stay 18 = .ok (.aload_n 0, 1) := by decide +kernel
theorem dX12_stay_19 : decode cX12_stay 19 = .ok (.getfield 98, 3) := by decide +kernel
theorem dX12_stay_22 : decode cX12_stay 22 = .ok (.bipush 61, 2) := by decide +kernel
theorem dX12_stay_24 : decode cX12_stay 24 = .ok (.iload_n 2, 1) := by decide +kernel
theorem dX12_stay_25 : decode cX12_stay 25 = .ok (.iadd, 1) := by decide +kernel
theorem dX12_stay_26 : decode cX12_stay 26 = .ok (.aload_n 0, 1) := by decide +kernel
theorem dX12_stay_27 : decode cX12_stay 27 = .ok (.getfield 110, 3) := by decide +kernel
theorem dX12_stay_30 : decode cX12_stay 30 = .ok (.iload_n 2, 1) := by decide +kernel
theorem dX12_stay_31 : decode cX12_stay 31 = .ok (.iaload, 1) := by decide +kernel
theorem dX12_stay_32 : decode cX12_stay 32 = .ok (.iastore, 1) := by decide +kernel
theorem dX12_stay_33 : decode cX12_stay 33 = .ok (.aload_n 0, 1) := by decide +kernel
theorem dX12_stay_34 : decode cX12_stay 34 = .ok (.getfield 110, 3) := by decide +kernel
theorem dX12_stay_37 : decode cX12_stay 37 = .ok (.iload_n 2, 1) := by decide +kernel
theorem dX12_stay_38 : decode cX12_stay 38 = .ok (.iload_n 3, 1) := by decide +kernel
theorem dX12_stay_39 : decode cX12_stay 39 = .ok (.iastore, 1) := by decide +kernel
theorem dX12_stay_40 : decode cX12_stay 40 = .ok (.iinc 2 1, 3) := by decide +kernel
theorem dX12_stay_43 : decode cX12_stay 43 = .ok (.goto (-41), 3) := by decide +kernel
theorem dX12_stay_46 : decode cX12_stay 46 = .ok (.iload_n 1, 1) := by decide +kernel
theorem dX12_stay_47 : decode cX12_stay 47 = .ok (.ifCond .ne 4, 3) := by decide +kernel
theorem dX12_stay_50 : decode cX12_stay 50 = .ok (.return_, 1) := by decide +kernel
theorem dX12_book_0 : decode cX12_book 0 = .ok (.aload_n 0, 1) := by decide +kernel
theorem dX12_book_1 : decode cX12_book 1 = .ok (.iconst 0, 1) := by decide +kernel
theorem dX12_book_2 : decode cX12_book 2 = .ok (.putfield 1, 3) := by decide +kernel
theorem dX12_book_5 : decode cX12_book 5 = .ok (.iload_n 1, 1) := by decide +kernel
theorem dX12_book_6 : decode cX12_book 6 = .ok (.iconst 0, 1) := by decide +kernel
theorem dX12_book_7 : decode cX12_book 7 = .ok (.iconst 1, 1) := by decide +kernel
set_option maxRecDepth 20000 in
theorem ggX12_book_X12_isIn : GoodIn wsX12_book wsX12_isIn := goodIn_r _ [11] (by decide +kernel) (by decide +kernel)
set_option maxRecDepth 20000 in
theorem gX12_book_X12_isIn : GoodIn wsX12_book (va_wsS RX12 75 yX12_isIn wsX12_isIn) := goodIn_app (goodIn_of _ (by decide +kernel)) ggX12_book_X12_isIn
theorem dX12_book_8 : decode cX12_book 8 = .ok (.invokestatic 75, 3) := by decide +kernel
theorem dX12_book_11 : decode cX12_book 11 = .ok (.ifCond .ne 7, 3) := by decide +kernel
theorem dX12_book_18 : decode cX12_book 18 = .ok (.aload_n 0, 1) := by decide +kernel
theorem dX12_book_19 : decode cX12_book 19 = .ok (.sipush 400, 3) := by decide +kernel
set_option maxRecDepth 20000 in
theorem ggX12_book_X12_begin : GoodIn wsX12_book wsX12_begin := goodIn_r _ [15, 1, 16, 17, 18, 19, 20, 21, 22, 10, 23, 24, 25, 26, 27, 28, 29, 30, 3, 31, 32, 33, 34, 35, 36, 37, 38, 39, 40, 41, 42, 43, 44, 45, 205, 206, 207, 208, 209, 210, 211, 212, 213, 214, 215, 216, 217, 218, 219, 220, 221, 222, 223, 224, 225, 226, 227, 228, 229, 230, 231, 232, 233, 234, 235, 236, 237, 238, 239, 240, 241, 242, 243, 244, 245, 246, 247, 248, 249, 250, 251] (by decide +kernel) (by decide +kernel)
set_option maxRecDepth 20000 in
theorem gX12_book_X12_begin : GoodIn wsX12_book (wsV RX12 205 RX12 yX12_begin wsX12_begin) := goodIn_app (goodIn_of _ (by decide +kernel)) ggX12_book_X12_begin
theorem dX12_book_22 : decode cX12_book 22 = .ok (.invokevirtual 205, 3) := by decide +kernel
theorem dX12_book_25 : decode cX12_book 25 = .ok (.aload_n 0, 1) := by decide +kernel
theorem dX12_book_26 : decode cX12_book 26 = .ok (.iconst 0, 1) := by decide +kernel
theorem dX12_book_27 : decode cX12_book 27 = .ok (.putfield 374, 3) := by decide +kernel
theorem dX12_book_30 : decode cX12_book 30 = .ok (.aload_n 0, 1) := by decide +kernel
theorem dX12_book_31 : decode cX12_book 31 = .ok (.getfield 30, 3) := by decide +kernel
theorem dX12_book_34 : decode cX12_book 34 = .ok (.ifCond .eq 31, 3) := by decide +kernel
theorem dX12_book_65 : decode cX12_book 65 = .ok (.aload_n 0, 1) := by decide +kernel
set_option maxRecDepth 20000 in
theorem ggX12_book_X12_layAside : GoodIn wsX12_book wsX12_layAside := goodIn_r _ [121, 122, 6, 205, 206, 207, 208, 209, 210, 211, 212, 213, 214, 215, 216, 217, 218, 219, 220, 221, 222, 223, 224, 225, 226, 227, 228, 229, 230, 231, 232, 233, 234, 235, 236, 237, 238, 239, 240, 241, 242, 243, 244, 245, 246, 247, 248, 249, 250, 251] (by decide +kernel) (by decide +kernel)
set_option maxRecDepth 20000 in
theorem gX12_book_X12_layAside : GoodIn wsX12_book (wsV RX12 353 RX12 yX12_layAside wsX12_layAside) := goodIn_app (goodIn_of _ (by decide +kernel)) ggX12_book_X12_layAside
theorem dX12_book_66 : decode cX12_book 66 = .ok (.invokevirtual 353, 3) := by decide +kernel
theorem dX12_book_69 : decode cX12_book 69 = .ok (.iconst 0, 1) := by decide +kernel
theorem dX12_book_70 : decode cX12_book 70 = .ok (.istore_n 2, 1) := by decide +kernel
theorem dX12_book_71 : decode cX12_book 71 = .ok (.iconst 0, 1) := by decide +kernel
theorem dX12_book_72 : decode cX12_book 72 = .ok (.istore_n 3, 1) := by decide +kernel
theorem dX12_book_73 : decode cX12_book 73 = .ok (.iload_n 2, 1) := by decide +kernel
theorem dX12_book_74 : decode cX12_book 74 = .ok (.aload_n 0, 1) := by decide +kernel
theorem dX12_book_75 : decode cX12_book 75 = .ok (.getfield 374, 3) := by decide +kernel
theorem dX12_book_78 : decode cX12_book 78 = .ok (.if_icmp .ge 25, 3) := by decide +kernel
theorem dX12_book_103 : decode cX12_book 103 = .ok (.aload_n 0, 1) := by decide +kernel
theorem dX12_book_104 : decode cX12_book 104 = .ok (.getfield 148, 3) := by decide +kernel
theorem dX12_book_107 : decode cX12_book 107 = .ok (.iconst 0, 1) := by decide +kernel
theorem dX12_book_108 : decode cX12_book 108 = .ok (.iload_n 3, 1) := by decide +kernel
theorem dX12_book_109 : decode cX12_book 109 = .ok (.iastore, 1) := by decide +kernel
theorem dX12_book_110 : decode cX12_book 110 = .ok (.aload_n 0, 1) := by decide +kernel
theorem dX12_book_111 : decode cX12_book 111 = .ok (.getfield 148, 3) := by decide +kernel
theorem dX12_book_114 : decode cX12_book 114 = .ok (.iconst 1, 1) := by decide +kernel
theorem dX12_book_115 : decode cX12_book 115 = .ok (.iload_n 2, 1) := by decide +kernel
theorem dX12_book_116 : decode cX12_book 116 = .ok (.iastore, 1) := by decide +kernel
theorem dX12_book_117 : decode cX12_book 117 = .ok (.aload_n 0, 1) := by decide +kernel
theorem dX12_book_118 : decode cX12_book 118 = .ok (.getfield 148, 3) := by decide +kernel
theorem dX12_book_121 : decode cX12_book 121 = .ok (.iconst 2, 1) := by decide +kernel
theorem dX12_book_122 : decode cX12_book 122 = .ok (.aload_n 0, 1) := by decide +kernel
theorem dX12_book_123 : decode cX12_book 123 = .ok (.getfield 98, 3) := by decide +kernel
theorem dX12_book_126 : decode cX12_book 126 = .ok (.bipush 61, 2) := by decide +kernel
theorem dX12_book_128 : decode cX12_book 128 = .ok (.iaload, 1) := by decide +kernel
theorem dX12_book_129 : decode cX12_book 129 = .ok (.iastore, 1) := by decide +kernel
theorem dX12_book_130 : decode cX12_book 130 = .ok (.aload_n 0, 1) := by decide +kernel
theorem dX12_book_131 : decode cX12_book 131 = .ok (.getfield 148, 3) := by decide +kernel
theorem dX12_book_134 : decode cX12_book 134 = .ok (.iconst 3, 1) := by decide +kernel
theorem dX12_book_135 : decode cX12_book 135 = .ok (.aload_n 0, 1) := by decide +kernel
set_option maxRecDepth 20000 in
theorem ggX12_book_X12_awaySet : GoodIn wsX12_book wsX12_awaySet := goodIn_r _ [190, 6, 147, 148, 149, 10, 150, 205, 206, 207, 208, 209, 210, 211, 212, 213, 214, 215, 216, 217, 218, 219, 220, 221, 222, 223, 224, 225, 226, 227, 228, 229, 230, 231, 232, 233, 234, 235, 236, 237, 238, 239, 240, 241, 242, 243, 244, 245, 246, 247, 248, 249, 250, 251] (by decide +kernel) (by decide +kernel)
set_option maxRecDepth 20000 in
theorem gX12_book_X12_awaySet : GoodIn wsX12_book (wsV RX12 253 RX12 yX12_awaySet wsX12_awaySet) := goodIn_app (goodIn_of _ (by decide +kernel)) ggX12_book_X12_awaySet
theorem dX12_book_136 : decode cX12_book 136 = .ok (.invokevirtual 253, 3) := by decide +kernel
theorem dX12_book_139 : decode cX12_book 139 = .ok (.iastore, 1) := by decide +kernel
theorem dX12_book_140 : decode cX12_book 140 = .ok (.aload_n 0, 1) := by decide +kernel
theorem dX12_book_141 : decode cX12_book 141 = .ok (.iconst 1, 1) := by decide +kernel
theorem dX12_book_142 : decode cX12_book 142 = .ok (.putfield 392, 3) := by decide +kernel
theorem dX12_book_145 : decode cX12_book 145 = .ok (.aload_n 0, 1) := by decide +kernel
theorem dX12_book_146 : decode cX12_book 146 = .ok (.iload_n 1, 1) := by decide +kernel
theorem dX12_book_147 : decode cX12_book 147 = .ok (.iconst 1, 1) := by decide +kernel
theorem dX12_book_148 : decode cX12_book 148 = .ok (.if_icmp .ne 11, 3) := by decide +kernel
theorem dX12_book_159 : decode cX12_book 159 = .ok (.iconst 0, 1) := by decide +kernel
set_option maxRecDepth 20000 in
theorem ggX12_book_X12_stay : GoodIn wsX12_book wsX12_stay := goodIn_r _ [194, 6, 122, 195, 196, 197, 10, 198, 199, 200, 201, 202, 203, 204, 205, 206, 207, 208, 209, 210, 211, 212, 213, 214, 215, 216, 217, 218, 219, 220, 221, 222, 223, 224, 225, 226, 227, 228, 229, 230, 231, 232, 233, 234, 235, 236, 237, 238, 239, 240, 241, 242, 243, 244, 245, 246, 247, 248, 249, 250, 251] (by decide +kernel) (by decide +kernel)
set_option maxRecDepth 20000 in
theorem gX12_book_X12_stay : GoodIn wsX12_book (wsV RX12 395 RX12 yX12_stay wsX12_stay) := goodIn_app (goodIn_of _ (by decide +kernel)) ggX12_book_X12_stay
theorem dX12_book_160 : decode cX12_book 160 = .ok (.invokevirtual 395, 3) := by decide +kernel
theorem dX12_book_163 : decode cX12_book 163 = .ok (.iload_n 3, 1) := by decide +kernel
theorem dX12_book_164 : decode cX12_book 164 = .ok (.ifCond .ne 7, 3) := by decide +kernel
theorem dX12_book_167 : decode cX12_book 167 = .ok (.iconst (-1), 1) := by decide +kernel
theorem dX12_book_168 : decode cX12_book 168 = .ok (.goto 4, 3) := by decide +kernel
theorem dX12_book_172 : decode cX12_book 172 = .ok (.ireturn, 1) := by decide +kernel
theorem dX12_book_151 : decode cX12_book 151 = .ok (.iload_n 2, 1) := by decide +kernel
theorem dX12_book_152 : decode cX12_book 152 = .ok (.ifCond .le 7, 3) := by decide +kernel
theorem dX12_book_14 : decode cX12_book 14 = .ok (.sipush (-1000), 3) := by decide +kernel
theorem dX12_book_17 : decode cX12_book 17 = .ok (.ireturn, 1) := by decide +kernel
theorem dX12_told_0 : decode cX12_told 0 = .ok (.aload_n 0, 1) := by decide +kernel
theorem dX12_told_1 : decode cX12_told 1 = .ok (.iconst 0, 1) := by decide +kernel
theorem dX12_told_2 : decode cX12_told 2 = .ok (.putfield 1, 3) := by decide +kernel
theorem dX12_told_5 : decode cX12_told 5 = .ok (.aload_n 0, 1) := by decide +kernel
theorem dX12_told_6 : decode cX12_told 6 = .ok (.getfield 392, 3) := by decide +kernel
theorem dX12_told_9 : decode cX12_told 9 = .ok (.ifCond .eq 21, 3) := by decide +kernel
theorem dX12_told_30 : decode cX12_told 30 = .ok (.iconst (-1), 1) := by decide +kernel
theorem dX12_told_31 : decode cX12_told 31 = .ok (.ireturn, 1) := by decide +kernel
theorem dX12_isSign_0 : decode cX12_isSign 0 = .ok (.aload_n 0, 1) := by decide +kernel
theorem dX12_isSign_1 : decode cX12_isSign 1 = .ok (.getfield 30, 3) := by decide +kernel
theorem dX12_isSign_4 : decode cX12_isSign 4 = .ok (.iconst 4, 1) := by decide +kernel
theorem dX12_isSign_5 : decode cX12_isSign 5 = .ok (.if_icmp .ne 15, 3) := by decide +kernel
theorem dX12_isSign_20 : decode cX12_isSign 20 = .ok (.iconst 0, 1) := by decide +kernel
theorem dX12_isSign_21 : decode cX12_isSign 21 = .ok (.ireturn, 1) := by decide +kernel
theorem dX12_isWord_0 : decode cX12_isWord 0 = .ok (.aload_n 0, 1) := by decide +kernel
theorem dX12_isWord_1 : decode cX12_isWord 1 = .ok (.getfield 30, 3) := by decide +kernel
theorem dX12_isWord_4 : decode cX12_isWord 4 = .ok (.iconst 2, 1) := by decide +kernel
theorem dX12_isWord_5 : decode cX12_isWord 5 = .ok (.if_icmp .ne 19, 3) := by decide +kernel
theorem dX12_isWord_24 : decode cX12_isWord 24 = .ok (.iconst 0, 1) := by decide +kernel
theorem dX12_isWord_25 : decode cX12_isWord 25 = .ok (.ireturn, 1) := by decide +kernel
theorem dX12_bad_0 : decode cX12_bad 0 = .ok (.aload_n 0, 1) := by decide +kernel
theorem dX12_bad_1 : decode cX12_bad 1 = .ok (.aload_n 0, 1) := by decide +kernel
theorem dX12_bad_2 : decode cX12_bad 2 = .ok (.getfield 30, 3) := by decide +kernel
theorem dX12_bad_5 : decode cX12_bad 5 = .ok (.iconst 1, 1) := by decide +kernel
theorem dX12_bad_6 : decode cX12_bad 6 = .ok (.if_icmp .ne 7, 3) := by decide +kernel
theorem dX12_bad_13 : decode cX12_bad 13 = .ok (.iload_n 1, 1) := by decide +kernel
theorem dX12_bad_14 : decode cX12_bad 14 = .ok (.putfield 66, 3) := by decide +kernel
theorem dX12_bad_17 : decode cX12_bad 17 = .ok (.aload_n 0, 1) := by decide +kernel
theorem dX12_bad_18 : decode cX12_bad 18 = .ok (.aload_n 0, 1) := by decide +kernel
theorem dX12_bad_19 : decode cX12_bad 19 = .ok (.getfield 24, 3) := by decide +kernel
theorem dX12_bad_22 : decode cX12_bad 22 = .ok (.putfield 69, 3) := by decide +kernel
theorem dX12_bad_25 : decode cX12_bad 25 = .ok (.iconst 0, 1) := by decide +kernel
theorem dX12_bad_26 : decode cX12_bad 26 = .ok (.ireturn, 1) := by decide +kernel
theorem dX12_readSaid_0 : decode cX12_readSaid 0 = .ok (.aload_n 0, 1) := by decide +kernel
theorem dX12_readSaid_1 : decode cX12_readSaid 1 = .ok (.bipush 40, 2) := by decide +kernel
set_option maxRecDepth 20000 in
theorem ggX12_readSaid_X12_isSign : GoodIn wsX12_readSaid wsX12_isSign := goodIn_r _ [8, 9, 10, 104, 105, 106, 107, 108, 109, 110, 111, 112, 113, 114, 115, 116, 117, 118, 119, 120, 121, 122, 123, 124, 125, 126, 127, 128, 129, 130, 131, 132, 133, 134, 135, 136, 137, 138, 139, 140, 141, 142, 143, 144, 145, 146, 147, 148, 149, 150] (by decide +kernel) (by decide +kernel)
set_option maxRecDepth 20000 in
theorem gX12_readSaid_X12_isSign : GoodIn wsX12_readSaid (wsV RX12 86 RX12 yX12_isSign wsX12_isSign) := goodIn_app (goodIn_of _ (by decide +kernel)) ggX12_readSaid_X12_isSign
theorem dX12_readSaid_3 : decode cX12_readSaid 3 = .ok (.invokevirtual 86, 3) := by decide +kernel
theorem dX12_readSaid_6 : decode cX12_readSaid 6 = .ok (.istore_n 1, 1) := by decide +kernel
theorem dX12_readSaid_7 : decode cX12_readSaid 7 = .ok (.bipush 15, 2) := by decide +kernel
theorem dX12_readSaid_9 : decode cX12_readSaid 9 = .ok (.istore_n 2, 1) := by decide +kernel
theorem dX12_readSaid_10 : decode cX12_readSaid 10 = .ok (.iload_n 2, 1) := by decide +kernel
theorem dX12_readSaid_11 : decode cX12_readSaid 11 = .ok (.bipush 23, 2) := by decide +kernel
theorem dX12_readSaid_13 : decode cX12_readSaid 13 = .ok (.if_icmp .gt 17, 3) := by decide +kernel
theorem dX12_readSaid_16 : decode cX12_readSaid 16 = .ok (.aload_n 0, 1) := by decide +kernel
theorem dX12_readSaid_17 : decode cX12_readSaid 17 = .ok (.iload_n 2, 1) := by decide +kernel
set_option maxRecDepth 20000 in
theorem ggX12_readSaid_X12_isWord : GoodIn wsX12_readSaid wsX12_isWord := goodIn_r _ [14, 9, 15, 16, 17, 7, 18, 19, 20, 21, 22, 23, 104, 105, 106, 107, 108, 109, 110, 111, 112, 113, 114, 115, 116, 117, 118, 119, 120, 121, 122, 123, 124, 125, 126, 127, 128, 129, 130, 131, 132, 133, 134, 135, 136, 137, 138, 139, 140, 141, 142, 143, 144, 145, 146, 147, 148, 149, 150] (by decide +kernel) (by decide +kernel)
set_option maxRecDepth 20000 in
theorem gX12_readSaid_X12_isWord : GoodIn wsX12_readSaid (wsV RX12 172 RX12 yX12_isWord wsX12_isWord) := goodIn_app (goodIn_of _ (by decide +kernel)) ggX12_readSaid_X12_isWord
theorem dX12_readSaid_18 : decode cX12_readSaid 18 = .ok (.invokevirtual 172, 3) := by decide +kernel
theorem dX12_readSaid_21 : decode cX12_readSaid 21 = .ok (.ifCond .ne 9, 3) := by decide +kernel
theorem dX12_readSaid_24 : decode cX12_readSaid 24 = .ok (.iinc 2 1, 3) := by decide +kernel
theorem dX12_readSaid_27 : decode cX12_readSaid 27 = .ok (.goto (-17), 3) := by decide +kernel
theorem dX12_readSaid_30 : decode cX12_readSaid 30 = .ok (.iload_n 1, 1) := by decide +kernel
theorem dX12_readSaid_31 : decode cX12_readSaid 31 = .ok (.ifCond .ne 15, 3) := by decide +kernel
theorem dX12_readSaid_34 : decode cX12_readSaid 34 = .ok (.iload_n 2, 1) := by decide +kernel
theorem dX12_readSaid_35 : decode cX12_readSaid 35 = .ok (.bipush 23, 2) := by decide +kernel
theorem dX12_readSaid_37 : decode cX12_readSaid 37 = .ok (.if_icmp .le 9, 3) := by decide +kernel
theorem dX12_readSaid_40 : decode cX12_readSaid 40 = .ok (.aload_n 0, 1) := by decide +kernel
theorem dX12_readSaid_41 : decode cX12_readSaid 41 = .ok (.iconst 1, 1) := by decide +kernel
set_option maxRecDepth 20000 in
theorem ggX12_readSaid_X12_bad : GoodIn wsX12_readSaid wsX12_bad := goodIn_r _ [27, 9, 28, 29, 30, 104, 105, 106, 107, 108, 109, 110, 111, 112, 113, 114, 115, 116, 117, 118, 119, 120, 121, 122, 123, 124, 125, 126, 127, 128, 129, 130, 131, 132, 133, 134, 135, 136, 137, 138, 139, 140, 141, 142, 143, 144, 145, 146, 147, 148, 149, 150] (by decide +kernel) (by decide +kernel)
set_option maxRecDepth 20000 in
theorem gX12_readSaid_X12_bad : GoodIn wsX12_readSaid (wsV RX12 72 RX12 yX12_bad wsX12_bad) := goodIn_app (goodIn_of _ (by decide +kernel)) ggX12_readSaid_X12_bad
theorem dX12_readSaid_42 : decode cX12_readSaid 42 = .ok (.invokevirtual 72, 3) := by decide +kernel
theorem dX12_readSaid_45 : decode cX12_readSaid 45 = .ok (.ireturn, 1) := by decide +kernel
theorem dX12_readAnd_0 : decode cX12_readAnd 0 = .ok (.aload_n 0, 1) := by decide +kernel
set_option maxRecDepth 20000 in
theorem ggX12_readAnd_X12_readSaid : GoodIn wsX12_readAnd wsX12_readSaid := goodIn_r _ [66, 67, 68, 1, 51, 52, 53, 5, 54, 10, 29, 6, 7, 8, 9, 11, 12, 13, 14, 15, 16, 17, 18, 19, 55, 56, 57, 58, 59, 27, 60, 20, 21, 22, 23, 24, 25, 26, 28, 30, 31, 32, 33, 34, 35, 36, 37, 38, 39, 40, 69, 70, 71, 72, 73, 74, 41, 42, 43, 44, 45, 46, 75, 76, 77, 78, 79, 80, 81, 82, 83, 84, 85, 86, 87, 88, 89, 90, 91, 92, 93, 94, 95, 96, 97, 98, 99, 100, 101, 102, 103, 0, 2, 3, 4, 47, 48, 49, 50, 61, 62, 63, 64, 65, 104, 105, 106, 107, 108, 109, 110, 111, 112, 113, 114, 115, 116, 117, 118, 119, 120, 121, 122, 123, 124, 125, 126, 127, 128, 129, 130, 131, 132, 133, 134, 135, 136, 137, 138, 139, 140, 141, 142, 143, 144, 145, 146, 147, 148, 149, 150] (by decide +kernel) (by decide +kernel)
set_option maxRecDepth 20000 in
theorem gX12_readAnd_X12_readSaid : GoodIn wsX12_readAnd (wsV RX12 412 RX12 yX12_readSaid wsX12_readSaid) := goodIn_app (goodIn_of _ (by decide +kernel)) ggX12_readAnd_X12_readSaid
theorem dX12_readAnd_1 : decode cX12_readAnd 1 = .ok (.invokevirtual 412, 3) := by decide +kernel
theorem dX12_readAnd_4 : decode cX12_readAnd 4 = .ok (.ifCond .ne 5, 3) := by decide +kernel
theorem dX12_readAnd_7 : decode cX12_readAnd 7 = .ok (.iconst 0, 1) := by decide +kernel
theorem dX12_readAnd_8 : decode cX12_readAnd 8 = .ok (.ireturn, 1) := by decide +kernel
theorem dX12_readOr_0 : decode cX12_readOr 0 = .ok (.aload_n 0, 1) := by decide +kernel
set_option maxRecDepth 20000 in
theorem ggX12_readOr_X12_readAnd : GoodIn wsX12_readOr wsX12_readAnd := goodIn_r _ [47, 1, 48, 49, 50, 5, 6, 7, 8, 9, 10, 11, 12, 13, 14, 15, 16, 17, 18, 19, 20, 21, 22, 23, 24, 25, 26, 27, 28, 29, 30, 31, 32, 33, 34, 35, 36, 37, 38, 39, 40, 41, 42, 43, 44, 45, 46, 51, 52, 53, 54, 55, 56, 57, 58, 59, 60, 61, 62, 63, 64, 65, 0, 2, 3, 4, 66, 67, 68, 69, 70, 71, 72, 73, 74, 75, 76, 77, 78, 79, 80, 81, 82, 83, 84, 85, 86, 87, 88, 89, 90, 91, 92, 93, 94, 95, 96, 97, 98, 99, 100, 101, 102, 103, 104, 105, 106, 107, 108, 109, 110, 111, 112, 113, 114, 115, 116, 117, 118, 119, 120, 121, 122, 123, 124, 125, 126, 127, 128, 129, 130, 131, 132, 133, 134, 135, 136, 137, 138, 139, 140, 141, 142, 143, 144, 145, 146, 147, 148, 149, 150] (by decide +kernel) (by decide +kernel)
set_option maxRecDepth 20000 in
theorem gX12_readOr_X12_readAnd : GoodIn wsX12_readOr (wsV RX12 402 RX12 yX12_readAnd wsX12_readAnd) := goodIn_app (goodIn_of _ (by decide +kernel)) ggX12_readOr_X12_readAnd
theorem dX12_readOr_1 : decode cX12_readOr 1 = .ok (.invokevirtual 402, 3) := by decide +kernel
theorem dX12_readOr_4 : decode cX12_readOr 4 = .ok (.ifCond .ne 5, 3) := by decide +kernel
theorem dX12_readOr_7 : decode cX12_readOr 7 = .ok (.iconst 0, 1) := by decide +kernel
theorem dX12_readOr_8 : decode cX12_readOr 8 = .ok (.ireturn, 1) := by decide +kernel
theorem dX12_sentence_0 : decode cX12_sentence 0 = .ok (.aload_n 0, 1) := by decide +kernel
theorem dX12_sentence_1 : decode cX12_sentence 1 = .ok (.sipush 200, 3) := by decide +kernel
set_option maxRecDepth 20000 in
theorem ggX12_sentence_X12_begin : GoodIn wsX12_sentence wsX12_begin := goodIn_r _ [13, 14, 15, 16, 17, 18, 19, 20, 21, 12, 22, 23, 24, 25, 26, 27, 28, 29, 5, 30, 31, 32, 33, 34, 35, 36, 37, 38, 39, 40, 41, 42, 43, 44, 115, 116, 117, 118, 119, 120, 121, 122, 123, 124, 125, 126, 127, 128, 129, 130, 131, 132, 133, 134, 135, 136, 137, 138, 139, 140, 141, 142, 143, 144, 145, 146, 147, 148, 149, 150, 151, 152, 153, 154, 155, 156, 157, 158, 159, 160, 161] (by decide +kernel) (by decide +kernel)
set_option maxRecDepth 20000 in
theorem gX12_sentence_X12_begin : GoodIn wsX12_sentence (wsV RX12 205 RX12 yX12_begin wsX12_begin) := goodIn_app (goodIn_of _ (by decide +kernel)) ggX12_sentence_X12_begin
theorem dX12_sentence_4 : decode cX12_sentence 4 = .ok (.invokevirtual 205, 3) := by decide +kernel
theorem dX12_sentence_7 : decode cX12_sentence 7 = .ok (.aload_n 0, 1) := by decide +kernel
theorem dX12_sentence_8 : decode cX12_sentence 8 = .ok (.iconst 0, 1) := by decide +kernel
theorem dX12_sentence_9 : decode cX12_sentence 9 = .ok (.putfield 399, 3) := by decide +kernel
theorem dX12_sentence_12 : decode cX12_sentence 12 = .ok (.aload_n 0, 1) := by decide +kernel
theorem dX12_sentence_13 : decode cX12_sentence 13 = .ok (.iconst 0, 1) := by decide +kernel
theorem dX12_sentence_14 : decode cX12_sentence 14 = .ok (.putfield 415, 3) := by decide +kernel
theorem dX12_sentence_17 : decode cX12_sentence 17 = .ok (.aload_n 0, 1) := by decide +kernel
theorem dX12_sentence_18 : decode cX12_sentence 18 = .ok (.iconst 0, 1) := by decide +kernel
theorem dX12_sentence_19 : decode cX12_sentence 19 = .ok (.putfield 418, 3) := by decide +kernel
theorem dX12_sentence_22 : decode cX12_sentence 22 = .ok (.aload_n 0, 1) := by decide +kernel
set_option maxRecDepth 20000 in
theorem ggX12_sentence_X12_readOr : GoodIn wsX12_sentence wsX12_readOr := goodIn_r _ [48, 7, 49, 50, 51, 12, 52, 53, 54, 55, 5, 31, 56, 57, 58, 59, 60, 61, 33, 34, 24, 25, 26, 27, 18, 15, 28, 29, 16, 30, 32, 35, 36, 37, 38, 39, 40, 41, 42, 43, 44, 62, 63, 64, 65, 1, 8, 66, 67, 68, 69, 70, 45, 46, 47, 71, 72, 73, 74, 75, 76, 77, 78, 17, 4, 79, 80, 2, 3, 81, 82, 83, 84, 85, 86, 87, 88, 89, 90, 6, 91, 92, 93, 94, 95, 96, 97, 98, 99, 100, 101, 102, 103, 104, 105, 106, 107, 108, 109, 110, 111, 112, 113, 114, 115, 116, 117, 118, 119, 120, 121, 122, 123, 124, 125, 126, 127, 128, 129, 130, 131, 132, 133, 134, 135, 136, 137, 138, 139, 140, 141, 142, 143, 144, 145, 146, 147, 148, 149, 150, 151, 152, 153, 154, 155, 156, 157, 158, 159, 160, 161] (by decide +kernel) (by decide +kernel)
set_option maxRecDepth 20000 in
theorem gX12_sentence_X12_readOr : GoodIn wsX12_sentence (wsV RX12 433 RX12 yX12_readOr wsX12_readOr) := goodIn_app (goodIn_of _ (by decide +kernel)) ggX12_sentence_X12_readOr
theorem dX12_sentence_23 : decode cX12_sentence 23 = .ok (.invokevirtual 433, 3) := by decide +kernel
theorem dX12_sentence_26 : decode cX12_sentence 26 = .ok (.ifCond .ne 10, 3) := by decide +kernel
theorem dX12_sentence_29 : decode cX12_sentence 29 = .ok (.iconst (-1), 1) := by decide +kernel
theorem dX12_sentence_30 : decode cX12_sentence 30 = .ok (.aload_n 0, 1) := by decide +kernel
theorem dX12_sentence_31 : decode cX12_sentence 31 = .ok (.getfield 69, 3) := by decide +kernel
theorem dX12_sentence_34 : decode cX12_sentence 34 = .ok (.isub, 1) := by decide +kernel
theorem dX12_sentence_35 : decode cX12_sentence 35 = .ok (.ireturn, 1) := by decide +kernel
theorem dX12_said_0 : decode cX12_said 0 = .ok (.aload_n 0, 1) := by decide +kernel
theorem dX12_said_1 : decode cX12_said 1 = .ok (.iconst 0, 1) := by decide +kernel
theorem dX12_said_2 : decode cX12_said 2 = .ok (.putfield 1, 3) := by decide +kernel
theorem dX12_said_5 : decode cX12_said 5 = .ok (.aload_n 0, 1) := by decide +kernel
theorem dX12_said_6 : decode cX12_said 6 = .ok (.getfield 98, 3) := by decide +kernel
theorem dX12_said_9 : decode cX12_said 9 = .ok (.sipush 131, 3) := by decide +kernel
theorem dX12_said_12 : decode cX12_said 12 = .ok (.iaload, 1) := by decide +kernel
theorem dX12_said_13 : decode cX12_said 13 = .ok (.ifCond .ne 5, 3) := by decide +kernel
theorem dX12_said_16 : decode cX12_said 16 = .ok (.iconst (-1), 1) := by decide +kernel
theorem dX12_said_17 : decode cX12_said 17 = .ok (.ireturn, 1) := by decide +kernel
theorem dX12_image_0 : decode cX12_image 0 = .ok (.aload_n 0, 1) := by decide +kernel
theorem dX12_image_1 : decode cX12_image 1 = .ok (.iconst 0, 1) := by decide +kernel
theorem dX12_image_2 : decode cX12_image 2 = .ok (.putfield 1, 3) := by decide +kernel
theorem dX12_image_5 : decode cX12_image 5 = .ok (.iload_n 1, 1) := by decide +kernel
theorem dX12_image_6 : decode cX12_image 6 = .ok (.iconst 0, 1) := by decide +kernel
theorem dX12_image_7 : decode cX12_image 7 = .ok (.iconst 1, 1) := by decide +kernel
set_option maxRecDepth 20000 in
theorem ggX12_image_X12_isIn : GoodIn wsX12_image wsX12_isIn := goodIn_r _ [10] (by decide +kernel) (by decide +kernel)
set_option maxRecDepth 20000 in
theorem gX12_image_X12_isIn : GoodIn wsX12_image (va_wsS RX12 75 yX12_isIn wsX12_isIn) := goodIn_app (goodIn_of _ (by decide +kernel)) ggX12_image_X12_isIn
theorem dX12_image_8 : decode cX12_image 8 = .ok (.invokestatic 75, 3) := by decide +kernel
theorem dX12_image_11 : decode cX12_image 11 = .ok (.ifCond .ne 5, 3) := by decide +kernel
theorem dX12_image_16 : decode cX12_image 16 = .ok (.iconst 0, 1) := by decide +kernel
theorem dX12_image_17 : decode cX12_image 17 = .ok (.istore_n 2, 1) := by decide +kernel
theorem dX12_image_18 : decode cX12_image 18 = .ok (.iload_n 2, 1) := by decide +kernel
theorem dX12_image_19 : decode cX12_image 19 = .ok (.sipush 373, 3) := by decide +kernel
theorem dX12_image_22 : decode cX12_image 22 = .ok (.if_icmp .ge 27, 3) := by decide +kernel
theorem dX12_image_25 : decode cX12_image 25 = .ok (.aload_n 0, 1) := by decide +kernel
theorem dX12_image_26 : decode cX12_image 26 = .ok (.getfield 104, 3) := by decide +kernel
theorem dX12_image_29 : decode cX12_image 29 = .ok (.sipush 373, 3) := by decide +kernel
theorem dX12_image_32 : decode cX12_image 32 = .ok (.iload_n 1, 1) := by decide +kernel
theorem dX12_image_33 : decode cX12_image 33 = .ok (.imul, 1) := by decide +kernel
theorem dX12_image_34 : decode cX12_image 34 = .ok (.iload_n 2, 1) := by decide +kernel
theorem dX12_image_35 : decode cX12_image 35 = .ok (.iadd, 1) := by decide +kernel
theorem dX12_image_36 : decode cX12_image 36 = .ok (.aload_n 0, 1) := by decide +kernel
theorem dX12_image_37 : decode cX12_image 37 = .ok (.getfield 98, 3) := by decide +kernel
theorem dX12_image_40 : decode cX12_image 40 = .ok (.iload_n 2, 1) := by decide +kernel
theorem dX12_image_41 : decode cX12_image 41 = .ok (.iaload, 1) := by decide +kernel
theorem dX12_image_42 : decode cX12_image 42 = .ok (.iastore, 1) := by decide +kernel
theorem dX12_image_43 : decode cX12_image 43 = .ok (.iinc 2 1, 3) := by decide +kernel
theorem dX12_image_46 : decode cX12_image 46 = .ok (.goto (-28), 3) := by decide +kernel
theorem dX12_image_49 : decode cX12_image 49 = .ok (.iconst 0, 1) := by decide +kernel
theorem dX12_image_50 : decode cX12_image 50 = .ok (.istore_n 2, 1) := by decide +kernel
theorem dX12_image_51 : decode cX12_image 51 = .ok (.iload_n 2, 1) := by decide +kernel
theorem dX12_image_52 : decode cX12_image 52 = .ok (.bipush 19, 2) := by decide +kernel
theorem dX12_image_54 : decode cX12_image 54 = .ok (.if_icmp .ge 26, 3) := by decide +kernel
theorem dX12_image_57 : decode cX12_image 57 = .ok (.aload_n 0, 1) := by decide +kernel
theorem dX12_image_58 : decode cX12_image 58 = .ok (.getfield 120, 3) := by decide +kernel
theorem dX12_image_61 : decode cX12_image 61 = .ok (.bipush 19, 2) := by decide +kernel
theorem dX12_image_63 : decode cX12_image 63 = .ok (.iload_n 1, 1) := by decide +kernel
theorem dX12_image_64 : decode cX12_image 64 = .ok (.imul, 1) := by decide +kernel
theorem dX12_image_65 : decode cX12_image 65 = .ok (.iload_n 2, 1) := by decide +kernel
theorem dX12_image_66 : decode cX12_image 66 = .ok (.iadd, 1) := by decide +kernel
theorem dX12_image_67 : decode cX12_image 67 = .ok (.aload_n 0, 1) := by decide +kernel
theorem dX12_image_68 : decode cX12_image 68 = .ok (.getfield 113, 3) := by decide +kernel
theorem dX12_image_71 : decode cX12_image 71 = .ok (.iload_n 2, 1) := by decide +kernel
theorem dX12_image_72 : decode cX12_image 72 = .ok (.laload, 1) := by decide +kernel
theorem dX12_image_73 : decode cX12_image 73 = .ok (.lastore, 1) := by decide +kernel
theorem dX12_image_74 : decode cX12_image 74 = .ok (.iinc 2 1, 3) := by decide +kernel
theorem dX12_image_77 : decode cX12_image 77 = .ok (.goto (-26), 3) := by decide +kernel
theorem dX12_image_80 : decode cX12_image 80 = .ok (.aload_n 0, 1) := by decide +kernel
theorem dX12_image_81 : decode cX12_image 81 = .ok (.getfield 123, 3) := by decide +kernel
theorem dX12_image_84 : decode cX12_image 84 = .ok (.iload_n 1, 1) := by decide +kernel
theorem dX12_image_85 : decode cX12_image 85 = .ok (.iconst 1, 1) := by decide +kernel
theorem dX12_image_86 : decode cX12_image 86 = .ok (.bastore, 1) := by decide +kernel
theorem dX12_image_87 : decode cX12_image 87 = .ok (.iconst 1, 1) := by decide +kernel
theorem dX12_image_88 : decode cX12_image 88 = .ok (.ireturn, 1) := by decide +kernel
theorem dX12_image_14 : decode cX12_image 14 = .ok (.iconst 0, 1) := by decide +kernel
theorem dX12_image_15 : decode cX12_image 15 = .ok (.ireturn, 1) := by decide +kernel
theorem dX12_restore_0 : decode cX12_restore 0 = .ok (.aload_n 0, 1) := by decide +kernel
theorem dX12_restore_1 : decode cX12_restore 1 = .ok (.iconst 0, 1) := by decide +kernel
theorem dX12_restore_2 : decode cX12_restore 2 = .ok (.putfield 1, 3) := by decide +kernel
theorem dX12_restore_5 : decode cX12_restore 5 = .ok (.iload_n 1, 1) := by decide +kernel
theorem dX12_restore_6 : decode cX12_restore 6 = .ok (.iconst 0, 1) := by decide +kernel
theorem dX12_restore_7 : decode cX12_restore 7 = .ok (.iconst 1, 1) := by decide +kernel
set_option maxRecDepth 20000 in
theorem ggX12_restore_X12_isIn : GoodIn wsX12_restore wsX12_isIn := goodIn_r _ [11] (by decide +kernel) (by decide +kernel)
set_option maxRecDepth 20000 in
theorem gX12_restore_X12_isIn : GoodIn wsX12_restore (va_wsS RX12 75 yX12_isIn wsX12_isIn) := goodIn_app (goodIn_of _ (by decide +kernel)) ggX12_restore_X12_isIn
theorem dX12_restore_8 : decode cX12_restore 8 = .ok (.invokestatic 75, 3) := by decide +kernel
theorem dX12_restore_11 : decode cX12_restore 11 = .ok (.ifCond .eq 12, 3) := by decide +kernel
theorem dX12_restore_14 : decode cX12_restore 14 = .ok (.aload_n 0, 1) := by decide +kernel
theorem dX12_restore_15 : decode cX12_restore 15 = .ok (.getfield 123, 3) := by decide +kernel
theorem dX12_restore_18 : decode cX12_restore 18 = .ok (.iload_n 1, 1) := by decide +kernel
theorem dX12_restore_19 : decode cX12_restore 19 = .ok (.baload, 1) := by decide +kernel
theorem dX12_restore_20 : decode cX12_restore 20 = .ok (.ifCond .ne 5, 3) := by decide +kernel
theorem dX12_restore_23 : decode cX12_restore 23 = .ok (.iconst 0, 1) := by decide +kernel
theorem dX12_restore_24 : decode cX12_restore 24 = .ok (.ireturn, 1) := by decide +kernel
theorem dX12_count_0 : decode cX12_count 0 = .ok (.aload_n 0, 1) := by decide +kernel
theorem dX12_count_1 : decode cX12_count 1 = .ok (.iconst 0, 1) := by decide +kernel
theorem dX12_count_2 : decode cX12_count 2 = .ok (.putfield 1, 3) := by decide +kernel
theorem dX12_count_5 : decode cX12_count 5 = .ok (.iload_n 1, 1) := by decide +kernel
theorem dX12_count_6 : decode cX12_count 6 = .ok (.tableswitch 56 0 3 #[30, 37, 44, 51], 30) := by decide +kernel
theorem dX12_count_36 : decode cX12_count 36 = .ok (.aload_n 0, 1) := by decide +kernel
theorem dX12_count_37 : decode cX12_count 37 = .ok (.getfield 98, 3) := by decide +kernel
theorem dX12_count_40 : decode cX12_count 40 = .ok (.iconst 0, 1) := by decide +kernel
theorem dX12_count_41 : decode cX12_count 41 = .ok (.iaload, 1) := by decide +kernel
theorem dX12_count_42 : decode cX12_count 42 = .ok (.ireturn, 1) := by decide +kernel
theorem dX12_count_43 : decode cX12_count 43 = .ok (.aload_n 0, 1) := by decide +kernel
theorem dX12_count_44 : decode cX12_count 44 = .ok (.getfield 98, 3) := by decide +kernel
theorem dX12_count_47 : decode cX12_count 47 = .ok (.iconst 1, 1) := by decide +kernel
theorem dX12_count_48 : decode cX12_count 48 = .ok (.iaload, 1) := by decide +kernel
theorem dX12_count_49 : decode cX12_count 49 = .ok (.ireturn, 1) := by decide +kernel
theorem dX12_count_50 : decode cX12_count 50 = .ok (.aload_n 0, 1) := by decide +kernel
theorem dX12_count_51 : decode cX12_count 51 = .ok (.getfield 98, 3) := by decide +kernel
theorem dX12_count_54 : decode cX12_count 54 = .ok (.iconst 2, 1) := by decide +kernel
theorem dX12_count_55 : decode cX12_count 55 = .ok (.iaload, 1) := by decide +kernel
theorem dX12_count_56 : decode cX12_count 56 = .ok (.ireturn, 1) := by decide +kernel
theorem dX12_count_57 : decode cX12_count 57 = .ok (.aload_n 0, 1) := by decide +kernel
theorem dX12_count_58 : decode cX12_count 58 = .ok (.getfield 11, 3) := by decide +kernel
theorem dX12_count_61 : decode cX12_count 61 = .ok (.ireturn, 1) := by decide +kernel
theorem dX12_count_62 : decode cX12_count 62 = .ok (.iconst (-1), 1) := by decide +kernel
theorem dX12_count_63 : decode cX12_count 63 = .ok (.ireturn, 1) := by decide +kernel
