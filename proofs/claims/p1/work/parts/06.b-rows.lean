theorem dX11_count_65 : decode cX11_count 65 = .ok (.ireturn, 1) := by decide +kernel
theorem dX12_startSo_0 : decode cX12_startSo 0 = .ok (.bipush 61, 2) := by decide +kernel
theorem dX12_startSo_2 : decode cX12_startSo 2 = .ok (.istore_n 1, 1) := by decide +kernel
theorem dX12_startSo_3 : decode cX12_startSo 3 = .ok (.iload_n 1, 1) := by decide +kernel
theorem dX12_startSo_4 : decode cX12_startSo 4 = .ok (.sipush 373, 3) := by decide +kernel
theorem dX12_startSo_7 : decode cX12_startSo 7 = .ok (.if_icmp .ge 16, 3) := by decide +kernel
theorem dX12_startSo_10 : decode cX12_startSo 10 = .ok (.aload_n 0, 1) := by decide +kernel
theorem dX12_startSo_11 : decode cX12_startSo 11 = .ok (.getfield 98, 3) := by decide +kernel
theorem dX12_startSo_14 : decode cX12_startSo 14 = .ok (.iload_n 1, 1) := by decide +kernel
theorem dX12_startSo_15 : decode cX12_startSo 15 = .ok (.iconst 0, 1) := by decide +kernel
theorem dX12_startSo_16 : decode cX12_startSo 16 = .ok (.iastore, 1) := by decide +kernel
theorem dX12_startSo_17 : decode cX12_startSo 17 = .ok (.iinc 1 1, 3) := by decide +kernel
theorem dX12_startSo_20 : decode cX12_startSo 20 = .ok (.goto (-17), 3) := by decide +kernel
theorem dX12_startSo_23 : decode cX12_startSo 23 = .ok (.aload_n 0, 1) := by decide +kernel
theorem dX12_startSo_24 : decode cX12_startSo 24 = .ok (.getfield 98, 3) := by decide +kernel
theorem dX12_startSo_27 : decode cX12_startSo 27 = .ok (.bipush 62, 2) := by decide +kernel
theorem dX12_startSo_29 : decode cX12_startSo 29 = .ok (.aload_n 0, 1) := by decide +kernel
theorem dX12_startSo_30 : decode cX12_startSo 30 = .ok (.getfield 98, 3) := by decide +kernel
theorem dX12_startSo_33 : decode cX12_startSo 33 = .ok (.bipush 60, 2) := by decide +kernel
theorem dX12_startSo_35 : decode cX12_startSo 35 = .ok (.iaload, 1) := by decide +kernel
theorem dX12_startSo_36 : decode cX12_startSo 36 = .ok (.iastore, 1) := by decide +kernel
theorem dX12_startSo_37 : decode cX12_startSo 37 = .ok (.aload_n 0, 1) := by decide +kernel
theorem dX12_startSo_38 : decode cX12_startSo 38 = .ok (.getfield 98, 3) := by decide +kernel
theorem dX12_startSo_41 : decode cX12_startSo 41 = .ok (.bipush 65, 2) := by decide +kernel
theorem dX12_startSo_43 : decode cX12_startSo 43 = .ok (.aload_n 0, 1) := by decide +kernel
theorem dX12_startSo_44 : decode cX12_startSo 44 = .ok (.getfield 98, 3) := by decide +kernel
theorem dX12_startSo_47 : decode cX12_startSo 47 = .ok (.bipush 9, 2) := by decide +kernel
theorem dX12_startSo_49 : decode cX12_startSo 49 = .ok (.iaload, 1) := by decide +kernel
theorem dX12_startSo_50 : decode cX12_startSo 50 = .ok (.iastore, 1) := by decide +kernel
theorem dX12_startSo_51 : decode cX12_startSo 51 = .ok (.iconst 0, 1) := by decide +kernel
theorem dX12_startSo_52 : decode cX12_startSo 52 = .ok (.istore_n 1, 1) := by decide +kernel
theorem dX12_startSo_53 : decode cX12_startSo 53 = .ok (.iload_n 1, 1) := by decide +kernel
theorem dX12_startSo_54 : decode cX12_startSo 54 = .ok (.iconst 5, 1) := by decide +kernel
theorem dX12_startSo_55 : decode cX12_startSo 55 = .ok (.if_icmp .ge 26, 3) := by decide +kernel
theorem dX12_startSo_58 : decode cX12_startSo 58 = .ok (.aload_n 0, 1) := by decide +kernel
theorem dX12_startSo_59 : decode cX12_startSo 59 = .ok (.getfield 98, 3) := by decide +kernel
theorem dX12_startSo_62 : decode cX12_startSo 62 = .ok (.bipush 66, 2) := by decide +kernel
theorem dX12_startSo_64 : decode cX12_startSo 64 = .ok (.iload_n 1, 1) := by decide +kernel
theorem dX12_startSo_65 : decode cX12_startSo 65 = .ok (.iadd, 1) := by decide +kernel
theorem dX12_startSo_66 : decode cX12_startSo 66 = .ok (.aload_n 0, 1) := by decide +kernel
theorem dX12_startSo_67 : decode cX12_startSo 67 = .ok (.getfield 98, 3) := by decide +kernel
theorem dX12_startSo_70 : decode cX12_startSo 70 = .ok (.iconst 4, 1) := by decide +kernel
theorem dX12_startSo_71 : decode cX12_startSo 71 = .ok (.iload_n 1, 1) := by decide +kernel
theorem dX12_startSo_72 : decode cX12_startSo 72 = .ok (.iadd, 1) := by decide +kernel
theorem dX12_startSo_73 : decode cX12_startSo 73 = .ok (.iaload, 1) := by decide +kernel
theorem dX12_startSo_74 : decode cX12_startSo 74 = .ok (.iastore, 1) := by decide +kernel
theorem dX12_startSo_75 : decode cX12_startSo 75 = .ok (.iinc 1 1, 3) := by decide +kernel
theorem dX12_startSo_78 : decode cX12_startSo 78 = .ok (.goto (-25), 3) := by decide +kernel
theorem dX12_startSo_81 : decode cX12_startSo 81 = .ok (.iconst 0, 1) := by decide +kernel
theorem dX12_startSo_82 : decode cX12_startSo 82 = .ok (.istore_n 1, 1) := by decide +kernel
theorem dX12_startSo_83 : decode cX12_startSo 83 = .ok (.iload_n 1, 1) := by decide +kernel
theorem dX12_startSo_84 : decode cX12_startSo 84 = .ok (.bipush 8, 2) := by decide +kernel
theorem dX12_startSo_86 : decode cX12_startSo 86 = .ok (.if_icmp .ge 63, 3) := by decide +kernel
theorem dX12_startSo_89 : decode cX12_startSo 89 = .ok (.aload_n 0, 1) := by decide +kernel
theorem dX12_startSo_90 : decode cX12_startSo 90 = .ok (.getfield 98, 3) := by decide +kernel
theorem dX12_startSo_93 : decode cX12_startSo 93 = .ok (.bipush 71, 2) := by decide +kernel
theorem dX12_startSo_95 : decode cX12_startSo 95 = .ok (.iload_n 1, 1) := by decide +kernel
theorem dX12_startSo_96 : decode cX12_startSo 96 = .ok (.iadd, 1) := by decide +kernel
theorem dX12_startSo_97 : decode cX12_startSo 97 = .ok (.aload_n 0, 1) := by decide +kernel
theorem dX12_startSo_98 : decode cX12_startSo 98 = .ok (.getfield 98, 3) := by decide +kernel
theorem dX12_startSo_101 : decode cX12_startSo 101 = .ok (.bipush 10, 2) := by decide +kernel
theorem dX12_startSo_103 : decode cX12_startSo 103 = .ok (.iload_n 1, 1) := by decide +kernel
theorem dX12_startSo_104 : decode cX12_startSo 104 = .ok (.iadd, 1) := by decide +kernel
theorem dX12_startSo_105 : decode cX12_startSo 105 = .ok (.iaload, 1) := by decide +kernel
theorem dX12_startSo_106 : decode cX12_startSo 106 = .ok (.iastore, 1) := by decide +kernel
theorem dX12_startSo_107 : decode cX12_startSo 107 = .ok (.aload_n 0, 1) := by decide +kernel
theorem dX12_startSo_108 : decode cX12_startSo 108 = .ok (.getfield 98, 3) := by decide +kernel
theorem dX12_startSo_111 : decode cX12_startSo 111 = .ok (.bipush 79, 2) := by decide +kernel
theorem dX12_startSo_113 : decode cX12_startSo 113 = .ok (.iload_n 1, 1) := by decide +kernel
theorem dX12_startSo_114 : decode cX12_startSo 114 = .ok (.iadd, 1) := by decide +kernel
theorem dX12_startSo_115 : decode cX12_startSo 115 = .ok (.aload_n 0, 1) := by decide +kernel
theorem dX12_startSo_116 : decode cX12_startSo 116 = .ok (.getfield 98, 3) := by decide +kernel
theorem dX12_startSo_119 : decode cX12_startSo 119 = .ok (.bipush 18, 2) := by decide +kernel
theorem dX12_startSo_121 : decode cX12_startSo 121 = .ok (.iload_n 1, 1) := by decide +kernel
theorem dX12_startSo_122 : decode cX12_startSo 122 = .ok (.iadd, 1) := by decide +kernel
theorem dX12_startSo_123 : decode cX12_startSo 123 = .ok (.iaload, 1) := by decide +kernel
theorem dX12_startSo_124 : decode cX12_startSo 124 = .ok (.iastore, 1) := by decide +kernel
theorem dX12_startSo_125 : decode cX12_startSo 125 = .ok (.aload_n 0, 1) := by decide +kernel
theorem dX12_startSo_126 : decode cX12_startSo 126 = .ok (.getfield 98, 3) := by decide +kernel
theorem dX12_startSo_129 : decode cX12_startSo 129 = .ok (.bipush 87, 2) := by decide +kernel
theorem dX12_startSo_131 : decode cX12_startSo 131 = .ok (.iload_n 1, 1) := by decide +kernel
theorem dX12_startSo_132 : decode cX12_startSo 132 = .ok (.iadd, 1) := by decide +kernel
theorem dX12_startSo_133 : decode cX12_startSo 133 = .ok (.aload_n 0, 1) := by decide +kernel
theorem dX12_startSo_134 : decode cX12_startSo 134 = .ok (.getfield 98, 3) := by decide +kernel
theorem dX12_startSo_137 : decode cX12_startSo 137 = .ok (.bipush 26, 2) := by decide +kernel
theorem dX12_startSo_139 : decode cX12_startSo 139 = .ok (.iload_n 1, 1) := by decide +kernel
theorem dX12_startSo_140 : decode cX12_startSo 140 = .ok (.iadd, 1) := by decide +kernel
theorem dX12_startSo_141 : decode cX12_startSo 141 = .ok (.iaload, 1) := by decide +kernel
theorem dX12_startSo_142 : decode cX12_startSo 142 = .ok (.iastore, 1) := by decide +kernel
theorem dX12_startSo_143 : decode cX12_startSo 143 = .ok (.iinc 1 1, 3) := by decide +kernel
theorem dX12_startSo_146 : decode cX12_startSo 146 = .ok (.goto (-63), 3) := by decide +kernel
theorem dX12_startSo_149 : decode cX12_startSo 149 = .ok (.return_, 1) := by decide +kernel
theorem dX12_init_0 : decode cX12_init 0 = .ok (.aload_n 0, 1) := by decide +kernel
theorem dX12_init_1 : decode cX12_init 1 = .ok (.invokespecial 93, 3) := by decide +kernel
theorem dX12_init_4 : decode cX12_init 4 = .ok (.aload_n 0, 1) := by decide +kernel
theorem dX12_init_5 : decode cX12_init 5 = .ok (.sipush 940, 3) := by decide +kernel
theorem dX12_init_8 : decode cX12_init 8 = .ok (.newarray .int, 2) := by decide +kernel
theorem dX12_init_10 : decode cX12_init 10 = .ok (.putfield 7, 3) := by decide +kernel
theorem dX12_init_13 : decode cX12_init 13 = .ok (.aload_n 0, 1) := by decide +kernel
theorem dX12_init_14 : decode cX12_init 14 = .ok (.sipush 373, 3) := by decide +kernel
theorem dX12_init_17 : decode cX12_init 17 = .ok (.newarray .int, 2) := by decide +kernel
theorem dX12_init_19 : decode cX12_init 19 = .ok (.putfield 98, 3) := by decide +kernel
theorem dX12_init_22 : decode cX12_init 22 = .ok (.aload_n 0, 1) := by decide +kernel
theorem dX12_init_23 : decode cX12_init 23 = .ok (.bipush 61, 2) := by decide +kernel
theorem dX12_init_25 : decode cX12_init 25 = .ok (.newarray .int, 2) := by decide +kernel
theorem dX12_init_27 : decode cX12_init 27 = .ok (.putfield 101, 3) := by decide +kernel
theorem dX12_init_30 : decode cX12_init 30 = .ok (.aload_n 0, 1) := by decide +kernel
theorem dX12_init_31 : decode cX12_init 31 = .ok (.sipush 746, 3) := by decide +kernel
theorem dX12_init_34 : decode cX12_init 34 = .ok (.newarray .int, 2) := by decide +kernel
theorem dX12_init_36 : decode cX12_init 36 = .ok (.putfield 104, 3) := by decide +kernel
theorem dX12_init_39 : decode cX12_init 39 = .ok (.aload_n 0, 1) := by decide +kernel
theorem dX12_init_40 : decode cX12_init 40 = .ok (.sipush 560, 3) := by decide +kernel
theorem dX12_init_43 : decode cX12_init 43 = .ok (.newarray .int, 2) := by decide +kernel
theorem dX12_init_45 : decode cX12_init 45 = .ok (.putfield 107, 3) := by decide +kernel
theorem dX12_init_48 : decode cX12_init 48 = .ok (.aload_n 0, 1) := by decide +kernel
theorem dX12_init_49 : decode cX12_init 49 = .ok (.bipush 70, 2) := by decide +kernel
theorem dX12_init_51 : decode cX12_init 51 = .ok (.newarray .int, 2) := by decide +kernel
theorem dX12_init_53 : decode cX12_init 53 = .ok (.putfield 110, 3) := by decide +kernel
theorem dX12_init_56 : decode cX12_init 56 = .ok (.aload_n 0, 1) := by decide +kernel
theorem dX12_init_57 : decode cX12_init 57 = .ok (.bipush 19, 2) := by decide +kernel
theorem dX12_init_59 : decode cX12_init 59 = .ok (.newarray .long, 2) := by decide +kernel
theorem dX12_init_61 : decode cX12_init 61 = .ok (.putfield 113, 3) := by decide +kernel
theorem dX12_init_64 : decode cX12_init 64 = .ok (.aload_n 0, 1) := by decide +kernel
theorem dX12_init_65 : decode cX12_init 65 = .ok (.bipush 19, 2) := by decide +kernel
theorem dX12_init_67 : decode cX12_init 67 = .ok (.newarray .long, 2) := by decide +kernel
theorem dX12_init_69 : decode cX12_init 69 = .ok (.putfield 117, 3) := by decide +kernel
theorem dX12_init_72 : decode cX12_init 72 = .ok (.aload_n 0, 1) := by decide +kernel
theorem dX12_init_73 : decode cX12_init 73 = .ok (.bipush 38, 2) := by decide +kernel
theorem dX12_init_75 : decode cX12_init 75 = .ok (.newarray .long, 2) := by decide +kernel
theorem dX12_init_77 : decode cX12_init 77 = .ok (.putfield 120, 3) := by decide +kernel
theorem dX12_init_80 : decode cX12_init 80 = .ok (.aload_n 0, 1) := by decide +kernel
theorem dX12_init_81 : decode cX12_init 81 = .ok (.iconst 2, 1) := by decide +kernel
theorem dX12_init_82 : decode cX12_init 82 = .ok (.newarray .boolean, 2) := by decide +kernel
theorem dX12_init_84 : decode cX12_init 84 = .ok (.putfield 123, 3) := by decide +kernel
theorem dX12_init_87 : decode cX12_init 87 = .ok (.aload_n 0, 1) := by decide +kernel
theorem dX12_init_88 : decode cX12_init 88 = .ok (.iconst (-1), 1) := by decide +kernel
theorem dX12_init_89 : decode cX12_init 89 = .ok (.putfield 127, 3) := by decide +kernel
theorem dX12_init_92 : decode cX12_init 92 = .ok (.aload_n 0, 1) := by decide +kernel
theorem dX12_init_93 : decode cX12_init 93 = .ok (.iconst (-1), 1) := by decide +kernel
theorem dX12_init_94 : decode cX12_init 94 = .ok (.putfield 130, 3) := by decide +kernel
theorem dX12_init_97 : decode cX12_init 97 = .ok (.aload_n 0, 1) := by decide +kernel
theorem dX12_init_98 : decode cX12_init 98 = .ok (.bipush 8, 2) := by decide +kernel
theorem dX12_init_100 : decode cX12_init 100 = .ok (.newarray .int, 2) := by decide +kernel
theorem dX12_init_102 : decode cX12_init 102 = .ok (.putfield 133, 3) := by decide +kernel
theorem dX12_init_105 : decode cX12_init 105 = .ok (.aload_n 0, 1) := by decide +kernel
theorem dX12_init_106 : decode cX12_init 106 = .ok (.bipush 8, 2) := by decide +kernel
theorem dX12_init_108 : decode cX12_init 108 = .ok (.newarray .int, 2) := by decide +kernel
theorem dX12_init_110 : decode cX12_init 110 = .ok (.putfield 136, 3) := by decide +kernel
theorem dX12_init_113 : decode cX12_init 113 = .ok (.aload_n 0, 1) := by decide +kernel
theorem dX12_init_114 : decode cX12_init 114 = .ok (.iconst (-1), 1) := by decide +kernel
theorem dX12_init_115 : decode cX12_init 115 = .ok (.putfield 139, 3) := by decide +kernel
theorem dX12_init_118 : decode cX12_init 118 = .ok (.aload_n 0, 1) := by decide +kernel
theorem dX12_init_119 : decode cX12_init 119 = .ok (.bipush 64, 2) := by decide +kernel
theorem dX12_init_121 : decode cX12_init 121 = .ok (.newarray .int, 2) := by decide +kernel
theorem dX12_init_123 : decode cX12_init 123 = .ok (.putfield 142, 3) := by decide +kernel
theorem dX12_init_126 : decode cX12_init 126 = .ok (.aload_n 0, 1) := by decide +kernel
theorem dX12_init_127 : decode cX12_init 127 = .ok (.sipush 200, 3) := by decide +kernel
theorem dX12_init_130 : decode cX12_init 130 = .ok (.newarray .int, 2) := by decide +kernel
theorem dX12_init_132 : decode cX12_init 132 = .ok (.putfield 145, 3) := by decide +kernel
theorem dX12_init_135 : decode cX12_init 135 = .ok (.aload_n 0, 1) := by decide +kernel
theorem dX12_init_136 : decode cX12_init 136 = .ok (.iconst 4, 1) := by decide +kernel
theorem dX12_init_137 : decode cX12_init 137 = .ok (.newarray .int, 2) := by decide +kernel
theorem dX12_init_139 : decode cX12_init 139 = .ok (.putfield 148, 3) := by decide +kernel
theorem dX12_init_142 : decode cX12_init 142 = .ok (.aload_n 0, 1) := by decide +kernel
theorem dX12_init_143 : decode cX12_init 143 = .ok (.sipush 240, 3) := by decide +kernel
theorem dX12_init_146 : decode cX12_init 146 = .ok (.newarray .int, 2) := by decide +kernel
theorem dX12_init_148 : decode cX12_init 148 = .ok (.putfield 151, 3) := by decide +kernel
theorem dX12_init_151 : decode cX12_init 151 = .ok (.aload_n 0, 1) := by decide +kernel
theorem dX12_init_152 : decode cX12_init 152 = .ok (.getfield 98, 3) := by decide +kernel
theorem dX12_init_155 : decode cX12_init 155 = .ok (.bipush 60, 2) := by decide +kernel
theorem dX12_init_157 : decode cX12_init 157 = .ok (.iconst 2, 1) := by decide +kernel
theorem dX12_init_158 : decode cX12_init 158 = .ok (.iastore, 1) := by decide +kernel
theorem dX12_init_159 : decode cX12_init 159 = .ok (.aload_n 0, 1) := by decide +kernel
theorem dX12_init_160 : decode cX12_init 160 = .ok (.invokevirtual 154, 3) := by decide +kernel
theorem dX12_init_163 : decode cX12_init 163 = .ok (.return_, 1) := by decide +kernel
theorem dX12_come_0 : decode cX12_come 0 = .ok (.bipush 24, 2) := by decide +kernel
theorem dX12_come_2 : decode cX12_come 2 = .ok (.istore_n 2, 1) := by decide +kernel
theorem dX12_come_3 : decode cX12_come 3 = .ok (.iload_n 2, 1) := by decide +kernel
theorem dX12_come_4 : decode cX12_come 4 = .ok (.ifCond .lt 35, 3) := by decide +kernel
theorem dX12_come_7 : decode cX12_come 7 = .ok (.aload_n 0, 1) := by decide +kernel
theorem dX12_come_8 : decode cX12_come 8 = .ok (.getfield 7, 3) := by decide +kernel
theorem dX12_come_11 : decode cX12_come 11 = .ok (.aload_n 0, 1) := by decide +kernel
theorem dX12_come_12 : decode cX12_come 12 = .ok (.getfield 11, 3) := by decide +kernel
theorem dX12_come_15 : decode cX12_come 15 = .ok (.iload_n 1, 1) := by decide +kernel
theorem dX12_come_16 : decode cX12_come 16 = .ok (.iload_n 2, 1) := by decide +kernel
theorem dX12_come_17 : decode cX12_come 17 = .ok (.iushr, 1) := by decide +kernel
theorem dX12_come_18 : decode cX12_come 18 = .ok (.sipush 255, 3) := by decide +kernel
theorem dX12_come_21 : decode cX12_come 21 = .ok (.iand, 1) := by decide +kernel
theorem dX12_come_22 : decode cX12_come 22 = .ok (.iastore, 1) := by decide +kernel
theorem dX12_come_23 : decode cX12_come 23 = .ok (.aload_n 0, 1) := by decide +kernel
theorem dX12_come_24 : decode cX12_come 24 = .ok (.dup, 1) := by decide +kernel
theorem dX12_come_25 : decode cX12_come 25 = .ok (.getfield 11, 3) := by decide +kernel
theorem dX12_come_28 : decode cX12_come 28 = .ok (.iconst 1, 1) := by decide +kernel
theorem dX12_come_29 : decode cX12_come 29 = .ok (.iadd, 1) := by decide +kernel
theorem dX12_come_30 : decode cX12_come 30 = .ok (.putfield 11, 3) := by decide +kernel
theorem dX12_come_33 : decode cX12_come 33 = .ok (.iinc 2 (-8), 3) := by decide +kernel
theorem dX12_come_36 : decode cX12_come 36 = .ok (.goto (-33), 3) := by decide +kernel
theorem dX12_come_39 : decode cX12_come 39 = .ok (.return_, 1) := by decide +kernel
theorem dX12_feed_0 : decode cX12_feed 0 = .ok (.aload_n 0, 1) := by decide +kernel
theorem dX12_feed_1 : decode cX12_feed 1 = .ok (.iconst 0, 1) := by decide +kernel
theorem dX12_feed_2 : decode cX12_feed 2 = .ok (.putfield 1, 3) := by decide +kernel
theorem dX12_feed_5 : decode cX12_feed 5 = .ok (.aload_n 0, 1) := by decide +kernel
theorem dX12_feed_6 : decode cX12_feed 6 = .ok (.getfield 11, 3) := by decide +kernel
theorem dX12_feed_9 : decode cX12_feed 9 = .ok (.bipush 20, 2) := by decide +kernel
theorem dX12_feed_11 : decode cX12_feed 11 = .ok (.iadd, 1) := by decide +kernel
theorem dX12_feed_12 : decode cX12_feed 12 = .ok (.sipush 940, 3) := by decide +kernel
theorem dX12_feed_15 : decode cX12_feed 15 = .ok (.if_icmp .le 5, 3) := by decide +kernel
theorem dX12_feed_20 : decode cX12_feed 20 = .ok (.aload_n 0, 1) := by decide +kernel
theorem dX12_feed_21 : decode cX12_feed 21 = .ok (.iload_n 1, 1) := by decide +kernel
theorem dX12_feed_22 : decode cX12_feed 22 = .ok (.invokevirtual 14, 3) := by decide +kernel
theorem dX12_feed_25 : decode cX12_feed 25 = .ok (.aload_n 0, 1) := by decide +kernel
theorem dX12_feed_26 : decode cX12_feed 26 = .ok (.iload_n 2, 1) := by decide +kernel
theorem dX12_feed_27 : decode cX12_feed 27 = .ok (.invokevirtual 14, 3) := by decide +kernel
theorem dX12_feed_30 : decode cX12_feed 30 = .ok (.aload_n 0, 1) := by decide +kernel
theorem dX12_feed_31 : decode cX12_feed 31 = .ok (.iload_n 3, 1) := by decide +kernel
theorem dX12_feed_32 : decode cX12_feed 32 = .ok (.invokevirtual 14, 3) := by decide +kernel
theorem dX12_feed_35 : decode cX12_feed 35 = .ok (.aload_n 0, 1) := by decide +kernel
theorem dX12_feed_36 : decode cX12_feed 36 = .ok (.iload 4, 2) := by decide +kernel
theorem dX12_feed_38 : decode cX12_feed 38 = .ok (.invokevirtual 14, 3) := by decide +kernel
theorem dX12_feed_41 : decode cX12_feed 41 = .ok (.aload_n 0, 1) := by decide +kernel
theorem dX12_feed_42 : decode cX12_feed 42 = .ok (.iload 5, 2) := by decide +kernel
theorem dX12_feed_44 : decode cX12_feed 44 = .ok (.invokevirtual 14, 3) := by decide +kernel
theorem dX12_feed_47 : decode cX12_feed 47 = .ok (.aload_n 0, 1) := by decide +kernel
theorem dX12_feed_48 : decode cX12_feed 48 = .ok (.getfield 11, 3) := by decide +kernel
theorem dX12_feed_51 : decode cX12_feed 51 = .ok (.ireturn, 1) := by decide +kernel
theorem dX12_end_0 : decode cX12_end 0 = .ok (.aload_n 0, 1) := by decide +kernel
theorem dX12_end_1 : decode cX12_end 1 = .ok (.iconst 0, 1) := by decide +kernel
theorem dX12_end_2 : decode cX12_end 2 = .ok (.putfield 1, 3) := by decide +kernel
theorem dX12_end_5 : decode cX12_end 5 = .ok (.iload_n 1, 1) := by decide +kernel
theorem dX12_end_6 : decode cX12_end 6 = .ok (.ifCond .lt 11, 3) := by decide +kernel
theorem dX12_end_9 : decode cX12_end 9 = .ok (.iload_n 1, 1) := by decide +kernel
theorem dX12_end_10 : decode cX12_end 10 = .ok (.aload_n 0, 1) := by decide +kernel
theorem dX12_end_11 : decode cX12_end 11 = .ok (.getfield 11, 3) := by decide +kernel
theorem dX12_end_14 : decode cX12_end 14 = .ok (.if_icmp .le 5, 3) := by decide +kernel
theorem dX12_end_19 : decode cX12_end 19 = .ok (.aload_n 0, 1) := by decide +kernel
theorem dX12_end_20 : decode cX12_end 20 = .ok (.iload_n 1, 1) := by decide +kernel
theorem dX12_end_21 : decode cX12_end 21 = .ok (.putfield 11, 3) := by decide +kernel
theorem dX12_end_24 : decode cX12_end 24 = .ok (.iconst 1, 1) := by decide +kernel
theorem dX12_end_25 : decode cX12_end 25 = .ok (.ireturn, 1) := by decide +kernel
theorem dX12_end_17 : decode cX12_end 17 = .ok (.iconst 0, 1) := by decide +kernel
theorem dX12_end_18 : decode cX12_end 18 = .ok (.ireturn, 1) := by decide +kernel
theorem dX12_take_0 : decode cX12_take 0 = .ok (.aload_n 0, 1) := by decide +kernel
theorem dX12_take_1 : decode cX12_take 1 = .ok (.getfield 11, 3) := by decide +kernel
theorem dX12_take_4 : decode cX12_take 4 = .ok (.istore_n 1, 1) := by decide +kernel
theorem dX12_take_5 : decode cX12_take 5 = .ok (.aload_n 0, 1) := by decide +kernel
theorem dX12_take_6 : decode cX12_take 6 = .ok (.iconst 0, 1) := by decide +kernel
theorem dX12_take_7 : decode cX12_take 7 = .ok (.putfield 11, 3) := by decide +kernel
theorem dX12_take_10 : decode cX12_take 10 = .ok (.iload_n 1, 1) := by decide +kernel
theorem dX12_take_11 : decode cX12_take 11 = .ok (.ireturn, 1) := by decide +kernel
theorem dX12_go_0 : decode cX12_go 0 = .ok (.aload_n 0, 1) := by decide +kernel
theorem dX12_go_1 : decode cX12_go 1 = .ok (.getfield 21, 3) := by decide +kernel
theorem dX12_go_4 : decode cX12_go 4 = .ok (.aload_n 0, 1) := by decide +kernel
theorem dX12_go_5 : decode cX12_go 5 = .ok (.getfield 18, 3) := by decide +kernel
theorem dX12_go_8 : decode cX12_go 8 = .ok (.if_icmp .ge 44, 3) := by decide +kernel
theorem dX12_go_52 : decode cX12_go 52 = .ok (.aload_n 0, 1) := by decide +kernel
theorem dX12_go_53 : decode cX12_go 53 = .ok (.aload_n 0, 1) := by decide +kernel
theorem dX12_go_54 : decode cX12_go 54 = .ok (.getfield 21, 3) := by decide +kernel
theorem dX12_go_57 : decode cX12_go 57 = .ok (.putfield 24, 3) := by decide +kernel
theorem dX12_go_60 : decode cX12_go 60 = .ok (.aload_n 0, 1) := by decide +kernel
theorem dX12_go_61 : decode cX12_go 61 = .ok (.getfield 18, 3) := by decide +kernel
theorem dX12_go_64 : decode cX12_go 64 = .ok (.aload_n 0, 1) := by decide +kernel
theorem dX12_go_65 : decode cX12_go 65 = .ok (.getfield 27, 3) := by decide +kernel
theorem dX12_go_68 : decode cX12_go 68 = .ok (.if_icmp .le 28, 3) := by decide +kernel
theorem dX12_go_96 : decode cX12_go 96 = .ok (.aload_n 0, 1) := by decide +kernel
theorem dX12_go_97 : decode cX12_go 97 = .ok (.getfield 21, 3) := by decide +kernel
theorem dX12_go_100 : decode cX12_go 100 = .ok (.aload_n 0, 1) := by decide +kernel
theorem dX12_go_101 : decode cX12_go 101 = .ok (.getfield 18, 3) := by decide +kernel
theorem dX12_go_104 : decode cX12_go 104 = .ok (.if_icmp .lt 9, 3) := by decide +kernel
theorem dX12_go_107 : decode cX12_go 107 = .ok (.aload_n 0, 1) := by decide +kernel
theorem dX12_go_108 : decode cX12_go 108 = .ok (.iconst 0, 1) := by decide +kernel
theorem dX12_go_109 : decode cX12_go 109 = .ok (.putfield 30, 3) := by decide +kernel
theorem dX12_go_112 : decode cX12_go 112 = .ok (.return_, 1) := by decide +kernel
theorem dX12_begin_0 : decode cX12_begin 0 = .ok (.aload_n 0, 1) := by decide +kernel
theorem dX12_begin_1 : decode cX12_begin 1 = .ok (.iconst 0, 1) := by decide +kernel
theorem dX12_begin_2 : decode cX12_begin 2 = .ok (.putfield 1, 3) := by decide +kernel
theorem dX12_begin_5 : decode cX12_begin 5 = .ok (.aload_n 0, 1) := by decide +kernel
theorem dX12_begin_6 : decode cX12_begin 6 = .ok (.aload_n 0, 1) := by decide +kernel
theorem dX12_begin_7 : decode cX12_begin 7 = .ok (.invokevirtual 89, 3) := by decide +kernel
theorem dX12_begin_10 : decode cX12_begin 10 = .ok (.putfield 18, 3) := by decide +kernel
theorem dX12_begin_13 : decode cX12_begin 13 = .ok (.aload_n 0, 1) := by decide +kernel
theorem dX12_begin_14 : decode cX12_begin 14 = .ok (.iload_n 1, 1) := by decide +kernel
theorem dX12_begin_15 : decode cX12_begin 15 = .ok (.putfield 27, 3) := by decide +kernel
theorem dX12_begin_18 : decode cX12_begin 18 = .ok (.aload_n 0, 1) := by decide +kernel
theorem dX12_begin_19 : decode cX12_begin 19 = .ok (.iconst 0, 1) := by decide +kernel
theorem dX12_begin_20 : decode cX12_begin 20 = .ok (.putfield 66, 3) := by decide +kernel
theorem dX12_begin_23 : decode cX12_begin 23 = .ok (.aload_n 0, 1) := by decide +kernel
theorem dX12_begin_24 : decode cX12_begin 24 = .ok (.iconst 0, 1) := by decide +kernel
theorem dX12_begin_25 : decode cX12_begin 25 = .ok (.putfield 21, 3) := by decide +kernel
theorem dX12_begin_28 : decode cX12_begin 28 = .ok (.aload_n 0, 1) := by decide +kernel
theorem dX12_begin_29 : decode cX12_begin 29 = .ok (.invokevirtual 82, 3) := by decide +kernel
theorem dX12_begin_32 : decode cX12_begin 32 = .ok (.return_, 1) := by decide +kernel
theorem dX12_park_0 : decode cX12_park 0 = .ok (.aload_n 0, 1) := by decide +kernel
theorem dX12_park_1 : decode cX12_park 1 = .ok (.sipush 900, 3) := by decide +kernel
theorem dX12_park_4 : decode cX12_park 4 = .ok (.invokevirtual 205, 3) := by decide +kernel
theorem dX12_park_7 : decode cX12_park 7 = .ok (.iconst 0, 1) := by decide +kernel
theorem dX12_park_8 : decode cX12_park 8 = .ok (.istore_n 1, 1) := by decide +kernel
theorem dX12_park_9 : decode cX12_park 9 = .ok (.iload_n 1, 1) := by decide +kernel
theorem dX12_park_10 : decode cX12_park 10 = .ok (.bipush 61, 2) := by decide +kernel
theorem dX12_park_12 : decode cX12_park 12 = .ok (.if_icmp .ge 16, 3) := by decide +kernel
theorem dX12_park_15 : decode cX12_park 15 = .ok (.aload_n 0, 1) := by decide +kernel
theorem dX12_park_16 : decode cX12_park 16 = .ok (.getfield 101, 3) := by decide +kernel
theorem dX12_park_19 : decode cX12_park 19 = .ok (.iload_n 1, 1) := by decide +kernel
theorem dX12_park_20 : decode cX12_park 20 = .ok (.iconst 0, 1) := by decide +kernel
theorem dX12_park_21 : decode cX12_park 21 = .ok (.iastore, 1) := by decide +kernel
theorem dX12_park_22 : decode cX12_park 22 = .ok (.iinc 1 1, 3) := by decide +kernel
theorem dX12_park_25 : decode cX12_park 25 = .ok (.goto (-16), 3) := by decide +kernel
theorem dX12_park_28 : decode cX12_park 28 = .ok (.aload_n 0, 1) := by decide +kernel
theorem dX12_park_29 : decode cX12_park 29 = .ok (.getfield 101, 3) := by decide +kernel
theorem dX12_park_32 : decode cX12_park 32 = .ok (.bipush 60, 2) := by decide +kernel
theorem dX12_park_34 : decode cX12_park 34 = .ok (.iconst 2, 1) := by decide +kernel
theorem dX12_park_35 : decode cX12_park 35 = .ok (.iastore, 1) := by decide +kernel
theorem dX12_park_36 : decode cX12_park 36 = .ok (.aload_n 0, 1) := by decide +kernel
theorem dX12_park_37 : decode cX12_park 37 = .ok (.iconst 0, 1) := by decide +kernel
theorem dX12_park_38 : decode cX12_park 38 = .ok (.putfield 201, 3) := by decide +kernel
theorem dX12_park_41 : decode cX12_park 41 = .ok (.iconst 0, 1) := by decide +kernel
theorem dX12_park_42 : decode cX12_park 42 = .ok (.istore_n 1, 1) := by decide +kernel
theorem dX12_park_43 : decode cX12_park 43 = .ok (.aload_n 0, 1) := by decide +kernel
theorem dX12_park_44 : decode cX12_park 44 = .ok (.getfield 30, 3) := by decide +kernel
theorem dX12_park_47 : decode cX12_park 47 = .ok (.ifCond .eq 30, 3) := by decide +kernel
theorem dX12_park_77 : decode cX12_park 77 = .ok (.iconst 0, 1) := by decide +kernel
theorem dX12_park_78 : decode cX12_park 78 = .ok (.istore_n 2, 1) := by decide +kernel
theorem dX12_park_79 : decode cX12_park 79 = .ok (.iload_n 2, 1) := by decide +kernel
theorem dX12_park_80 : decode cX12_park 80 = .ok (.bipush 61, 2) := by decide +kernel
theorem dX12_park_82 : decode cX12_park 82 = .ok (.if_icmp .ge 21, 3) := by decide +kernel
theorem dX12_park_85 : decode cX12_park 85 = .ok (.aload_n 0, 1) := by decide +kernel
theorem dX12_park_86 : decode cX12_park 86 = .ok (.getfield 98, 3) := by decide +kernel
theorem dX12_park_89 : decode cX12_park 89 = .ok (.iload_n 2, 1) := by decide +kernel
theorem dX12_park_90 : decode cX12_park 90 = .ok (.aload_n 0, 1) := by decide +kernel
theorem dX12_park_91 : decode cX12_park 91 = .ok (.getfield 101, 3) := by decide +kernel
theorem dX12_park_94 : decode cX12_park 94 = .ok (.iload_n 2, 1) := by decide +kernel
theorem dX12_park_95 : decode cX12_park 95 = .ok (.iaload, 1) := by decide +kernel
theorem dX12_park_96 : decode cX12_park 96 = .ok (.iastore, 1) := by decide +kernel
theorem dX12_park_97 : decode cX12_park 97 = .ok (.iinc 2 1, 3) := by decide +kernel
theorem dX12_park_100 : decode cX12_park 100 = .ok (.goto (-21), 3) := by decide +kernel
theorem dX12_park_103 : decode cX12_park 103 = .ok (.iconst 0, 1) := by decide +kernel
theorem dX12_park_104 : decode cX12_park 104 = .ok (.istore_n 2, 1) := by decide +kernel
theorem dX12_park_105 : decode cX12_park 105 = .ok (.iload_n 2, 1) := by decide +kernel
theorem dX12_park_106 : decode cX12_park 106 = .ok (.bipush 19, 2) := by decide +kernel
theorem dX12_park_108 : decode cX12_park 108 = .ok (.if_icmp .ge 21, 3) := by decide +kernel
theorem dX12_park_111 : decode cX12_park 111 = .ok (.aload_n 0, 1) := by decide +kernel
theorem dX12_park_112 : decode cX12_park 112 = .ok (.getfield 113, 3) := by decide +kernel
theorem dX12_park_115 : decode cX12_park 115 = .ok (.iload_n 2, 1) := by decide +kernel
theorem dX12_park_116 : decode cX12_park 116 = .ok (.aload_n 0, 1) := by decide +kernel
theorem dX12_park_117 : decode cX12_park 117 = .ok (.getfield 117, 3) := by decide +kernel
theorem dX12_park_120 : decode cX12_park 120 = .ok (.iload_n 2, 1) := by decide +kernel
theorem dX12_park_121 : decode cX12_park 121 = .ok (.laload, 1) := by decide +kernel
theorem dX12_park_122 : decode cX12_park 122 = .ok (.lastore, 1) := by decide +kernel
theorem dX12_park_123 : decode cX12_park 123 = .ok (.iinc 2 1, 3) := by decide +kernel
theorem dX12_park_126 : decode cX12_park 126 = .ok (.goto (-21), 3) := by decide +kernel
theorem dX12_park_129 : decode cX12_park 129 = .ok (.aload_n 0, 1) := by decide +kernel
theorem dX12_park_130 : decode cX12_park 130 = .ok (.invokevirtual 154, 3) := by decide +kernel
theorem dX12_park_133 : decode cX12_park 133 = .ok (.aload_n 0, 1) := by decide +kernel
theorem dX12_park_134 : decode cX12_park 134 = .ok (.iconst 0, 1) := by decide +kernel
theorem dX12_park_135 : decode cX12_park 135 = .ok (.putfield 214, 3) := by decide +kernel
theorem dX12_park_138 : decode cX12_park 138 = .ok (.iload_n 1, 1) := by decide +kernel
theorem dX12_park_139 : decode cX12_park 139 = .ok (.ireturn, 1) := by decide +kernel
theorem dX12_fault_0 : decode cX12_fault 0 = .ok (.aload_n 0, 1) := by decide +kernel
theorem dX12_fault_1 : decode cX12_fault 1 = .ok (.iconst 0, 1) := by decide +kernel
theorem dX12_fault_2 : decode cX12_fault 2 = .ok (.putfield 1, 3) := by decide +kernel
theorem dX12_fault_5 : decode cX12_fault 5 = .ok (.aload_n 0, 1) := by decide +kernel
theorem dX12_fault_6 : decode cX12_fault 6 = .ok (.getfield 66, 3) := by decide +kernel
theorem dX12_fault_9 : decode cX12_fault 9 = .ok (.ireturn, 1) := by decide +kernel
theorem dX12_isIn_0 : decode cX12_isIn 0 = .ok (.iload_n 0, 1) := by decide +kernel
theorem dX12_isIn_1 : decode cX12_isIn 1 = .ok (.iload_n 1, 1) := by decide +kernel
theorem dX12_isIn_2 : decode cX12_isIn 2 = .ok (.if_icmp .lt 12, 3) := by decide +kernel
theorem dX12_isIn_14 : decode cX12_isIn 14 = .ok (.iconst 0, 1) := by decide +kernel
theorem dX12_isIn_15 : decode cX12_isIn 15 = .ok (.ireturn, 1) := by decide +kernel
theorem dX12_isIn_5 : decode cX12_isIn 5 = .ok (.iload_n 0, 1) := by decide +kernel
theorem dX12_isIn_6 : decode cX12_isIn 6 = .ok (.iload_n 2, 1) := by decide +kernel
theorem dX12_isIn_7 : decode cX12_isIn 7 = .ok (.if_icmp .gt 7, 3) := by decide +kernel
theorem dX12_isPlace_0 : decode cX12_isPlace 0 = .ok (.iload_n 1, 1) := by decide +kernel
theorem dX12_isPlace_1 : decode cX12_isPlace 1 = .ok (.iconst 0, 1) := by decide +kernel
theorem dX12_isPlace_2 : decode cX12_isPlace 2 = .ok (.aload_n 0, 1) := by decide +kernel
theorem dX12_isPlace_3 : decode cX12_isPlace 3 = .ok (.getfield 98, 3) := by decide +kernel
theorem dX12_isPlace_6 : decode cX12_isPlace 6 = .ok (.iconst 0, 1) := by decide +kernel
theorem dX12_isPlace_7 : decode cX12_isPlace 7 = .ok (.iaload, 1) := by decide +kernel
theorem dX12_isPlace_8 : decode cX12_isPlace 8 = .ok (.iconst 1, 1) := by decide +kernel
theorem dX12_isPlace_9 : decode cX12_isPlace 9 = .ok (.isub, 1) := by decide +kernel
theorem dX12_isPlace_10 : decode cX12_isPlace 10 = .ok (.invokestatic 75, 3) := by decide +kernel
theorem dX12_isPlace_13 : decode cX12_isPlace 13 = .ok (.ireturn, 1) := by decide +kernel
theorem dX12_place_0 : decode cX12_place 0 = .ok (.aload_n 0, 1) := by decide +kernel
theorem dX12_place_1 : decode cX12_place 1 = .ok (.iconst 0, 1) := by decide +kernel
theorem dX12_place_2 : decode cX12_place 2 = .ok (.putfield 1, 3) := by decide +kernel
theorem dX12_place_5 : decode cX12_place 5 = .ok (.aload_n 0, 1) := by decide +kernel
theorem dX12_place_6 : decode cX12_place 6 = .ok (.iload_n 1, 1) := by decide +kernel
theorem dX12_place_7 : decode cX12_place 7 = .ok (.invokevirtual 250, 3) := by decide +kernel
theorem dX12_place_10 : decode cX12_place 10 = .ok (.ifCond .ne 5, 3) := by decide +kernel
theorem dX12_place_13 : decode cX12_place 13 = .ok (.iconst (-1), 1) := by decide +kernel
theorem dX12_place_14 : decode cX12_place 14 = .ok (.ireturn, 1) := by decide +kernel
theorem dX12_now_0 : decode cX12_now 0 = .ok (.aload_n 0, 1) := by decide +kernel
theorem dX12_now_1 : decode cX12_now 1 = .ok (.iconst 0, 1) := by decide +kernel
theorem dX12_now_2 : decode cX12_now 2 = .ok (.putfield 1, 3) := by decide +kernel
theorem dX12_now_5 : decode cX12_now 5 = .ok (.iconst 0, 1) := by decide +kernel
theorem dX12_now_6 : decode cX12_now 6 = .ok (.istore_n 2, 1) := by decide +kernel
theorem dX12_now_7 : decode cX12_now 7 = .ok (.iload_n 1, 1) := by decide +kernel
theorem dX12_now_8 : decode cX12_now 8 = .ok (.tableswitch 125 0 7 #[48, 56, 61, 69, 77, 105, 111, 117], 48) := by decide +kernel
theorem dX12_now_56 : decode cX12_now 56 = .ok (.aload_n 0, 1) := by decide +kernel
theorem dX12_now_57 : decode cX12_now 57 = .ok (.getfield 98, 3) := by decide +kernel
theorem dX12_now_60 : decode cX12_now 60 = .ok (.bipush 61, 2) := by decide +kernel
theorem dX12_now_62 : decode cX12_now 62 = .ok (.iaload, 1) := by decide +kernel
theorem dX12_now_63 : decode cX12_now 63 = .ok (.ireturn, 1) := by decide +kernel
theorem dX12_awaySet_0 : decode cX12_awaySet 0 = .ok (.iconst 0, 1) := by decide +kernel
theorem dX12_awaySet_1 : decode cX12_awaySet 1 = .ok (.istore_n 1, 1) := by decide +kernel
theorem dX12_awaySet_2 : decode cX12_awaySet 2 = .ok (.iconst 0, 1) := by decide +kernel
theorem dX12_awaySet_3 : decode cX12_awaySet 3 = .ok (.istore_n 2, 1) := by decide +kernel
theorem dX12_awaySet_4 : decode cX12_awaySet 4 = .ok (.iload_n 2, 1) := by decide +kernel
theorem dX12_awaySet_5 : decode cX12_awaySet 5 = .ok (.aload_n 0, 1) := by decide +kernel
theorem dX12_awaySet_6 : decode cX12_awaySet 6 = .ok (.getfield 98, 3) := by decide +kernel
theorem dX12_awaySet_9 : decode cX12_awaySet 9 = .ok (.iconst 1, 1) := by decide +kernel
theorem dX12_awaySet_10 : decode cX12_awaySet 10 = .ok (.iaload, 1) := by decide +kernel
theorem dX12_awaySet_11 : decode cX12_awaySet 11 = .ok (.if_icmp .ge 23, 3) := by decide +kernel
theorem dX12_awaySet_34 : decode cX12_awaySet 34 = .ok (.iload_n 1, 1) := by decide +kernel
theorem dX12_awaySet_35 : decode cX12_awaySet 35 = .ok (.ireturn, 1) := by decide +kernel
theorem dX12_now_64 : decode cX12_now 64 = .ok (.aload_n 0, 1) := by decide +kernel
theorem dX12_now_65 : decode cX12_now 65 = .ok (.invokevirtual 253, 3) := by decide +kernel
theorem dX12_now_68 : decode cX12_now 68 = .ok (.ireturn, 1) := by decide +kernel
theorem dX12_now_69 : decode cX12_now 69 = .ok (.aload_n 0, 1) := by decide +kernel
theorem dX12_now_70 : decode cX12_now 70 = .ok (.getfield 98, 3) := by decide +kernel
theorem dX12_now_73 : decode cX12_now 73 = .ok (.bipush 62, 2) := by decide +kernel
theorem dX12_now_75 : decode cX12_now 75 = .ok (.iaload, 1) := by decide +kernel
theorem dX12_now_76 : decode cX12_now 76 = .ok (.ireturn, 1) := by decide +kernel
theorem dX12_now_77 : decode cX12_now 77 = .ok (.aload_n 0, 1) := by decide +kernel
theorem dX12_now_78 : decode cX12_now 78 = .ok (.getfield 98, 3) := by decide +kernel
theorem dX12_now_81 : decode cX12_now 81 = .ok (.bipush 63, 2) := by decide +kernel
theorem dX12_now_83 : decode cX12_now 83 = .ok (.iaload, 1) := by decide +kernel
theorem dX12_now_84 : decode cX12_now 84 = .ok (.ireturn, 1) := by decide +kernel
theorem dX12_now_85 : decode cX12_now 85 = .ok (.iconst 0, 1) := by decide +kernel
theorem dX12_now_86 : decode cX12_now 86 = .ok (.istore_n 3, 1) := by decide +kernel
theorem dX12_now_87 : decode cX12_now 87 = .ok (.iload_n 3, 1) := by decide +kernel
theorem dX12_now_88 : decode cX12_now 88 = .ok (.bipush 8, 2) := by decide +kernel
theorem dX12_now_90 : decode cX12_now 90 = .ok (.if_icmp .ge 21, 3) := by decide +kernel
theorem dX12_now_93 : decode cX12_now 93 = .ok (.iload_n 2, 1) := by decide +kernel
theorem dX12_now_94 : decode cX12_now 94 = .ok (.aload_n 0, 1) := by decide +kernel
theorem dX12_now_95 : decode cX12_now 95 = .ok (.getfield 98, 3) := by decide +kernel
theorem dX12_now_98 : decode cX12_now 98 = .ok (.bipush 111, 2) := by decide +kernel
theorem dX12_now_100 : decode cX12_now 100 = .ok (.iload_n 3, 1) := by decide +kernel
theorem dX12_now_101 : decode cX12_now 101 = .ok (.iadd, 1) := by decide +kernel
theorem dX12_now_102 : decode cX12_now 102 = .ok (.iaload, 1) := by decide +kernel
theorem dX12_now_103 : decode cX12_now 103 = .ok (.iadd, 1) := by decide +kernel
theorem dX12_now_104 : decode cX12_now 104 = .ok (.istore_n 2, 1) := by decide +kernel
theorem dX12_now_105 : decode cX12_now 105 = .ok (.iinc 3 1, 3) := by decide +kernel
theorem dX12_now_108 : decode cX12_now 108 = .ok (.goto (-21), 3) := by decide +kernel
theorem dX12_now_111 : decode cX12_now 111 = .ok (.iload_n 2, 1) := by decide +kernel
theorem dX12_now_112 : decode cX12_now 112 = .ok (.ireturn, 1) := by decide +kernel
theorem dX12_goodAll_0 : decode cX12_goodAll 0 = .ok (.iconst 0, 1) := by decide +kernel
theorem dX12_goodAll_1 : decode cX12_goodAll 1 = .ok (.istore_n 2, 1) := by decide +kernel
theorem dX12_goodAll_2 : decode cX12_goodAll 2 = .ok (.iconst 0, 1) := by decide +kernel
theorem dX12_goodAll_3 : decode cX12_goodAll 3 = .ok (.istore_n 3, 1) := by decide +kernel
theorem dX12_goodAll_4 : decode cX12_goodAll 4 = .ok (.iload_n 3, 1) := by decide +kernel
theorem dX12_goodAll_5 : decode cX12_goodAll 5 = .ok (.aload_n 0, 1) := by decide +kernel
theorem dX12_goodAll_6 : decode cX12_goodAll 6 = .ok (.getfield 98, 3) := by decide +kernel
theorem dX12_goodAll_9 : decode cX12_goodAll 9 = .ok (.iconst 1, 1) := by decide +kernel
theorem dX12_goodAll_10 : decode cX12_goodAll 10 = .ok (.iaload, 1) := by decide +kernel
theorem dX12_goodAll_11 : decode cX12_goodAll 11 = .ok (.if_icmp .ge 29, 3) := by decide +kernel
theorem dX12_goodAll_40 : decode cX12_goodAll 40 = .ok (.iload_n 2, 1) := by decide +kernel
theorem dX12_goodAll_41 : decode cX12_goodAll 41 = .ok (.ireturn, 1) := by decide +kernel
theorem dX12_now_113 : decode cX12_now 113 = .ok (.aload_n 0, 1) := by decide +kernel
theorem dX12_now_114 : decode cX12_now 114 = .ok (.iconst 1, 1) := by decide +kernel
theorem dX12_now_115 : decode cX12_now 115 = .ok (.invokevirtual 256, 3) := by decide +kernel
theorem dX12_now_118 : decode cX12_now 118 = .ok (.ireturn, 1) := by decide +kernel
theorem dX12_now_119 : decode cX12_now 119 = .ok (.aload_n 0, 1) := by decide +kernel
theorem dX12_now_120 : decode cX12_now 120 = .ok (.iconst 0, 1) := by decide +kernel
theorem dX12_now_121 : decode cX12_now 121 = .ok (.invokevirtual 256, 3) := by decide +kernel
theorem dX12_now_124 : decode cX12_now 124 = .ok (.ireturn, 1) := by decide +kernel
theorem dX12_now_125 : decode cX12_now 125 = .ok (.aload_n 0, 1) := by decide +kernel
theorem dX12_now_126 : decode cX12_now 126 = .ok (.getfield 98, 3) := by decide +kernel
theorem dX12_now_129 : decode cX12_now 129 = .ok (.bipush 64, 2) := by decide +kernel
theorem dX12_now_131 : decode cX12_now 131 = .ok (.iaload, 1) := by decide +kernel
theorem dX12_now_132 : decode cX12_now 132 = .ok (.ireturn, 1) := by decide +kernel
theorem dX12_now_133 : decode cX12_now 133 = .ok (.iconst (-1), 1) := by decide +kernel
theorem dX12_now_134 : decode cX12_now 134 = .ok (.ireturn, 1) := by decide +kernel
theorem dX12_allow_0 : decode cX12_allow 0 = .ok (.aload_n 0, 1) := by decide +kernel
theorem dX12_allow_1 : decode cX12_allow 1 = .ok (.iconst 0, 1) := by decide +kernel
theorem dX12_allow_2 : decode cX12_allow 2 = .ok (.putfield 1, 3) := by decide +kernel
theorem dX12_allow_5 : decode cX12_allow 5 = .ok (.aload_n 0, 1) := by decide +kernel
theorem dX12_allow_6 : decode cX12_allow 6 = .ok (.iload_n 1, 1) := by decide +kernel
theorem dX12_allow_7 : decode cX12_allow 7 = .ok (.invokevirtual 250, 3) := by decide +kernel
theorem dX12_allow_10 : decode cX12_allow 10 = .ok (.ifCond .eq 23, 3) := by decide +kernel
theorem dX12_allow_33 : decode cX12_allow 33 = .ok (.iconst (-1), 1) := by decide +kernel
theorem dX12_allow_34 : decode cX12_allow 34 = .ok (.ireturn, 1) := by decide +kernel
theorem dX12_forbid_0 : decode cX12_forbid 0 = .ok (.aload_n 0, 1) := by decide +kernel
theorem dX12_forbid_1 : decode cX12_forbid 1 = .ok (.iconst 0, 1) := by decide +kernel
theorem dX12_forbid_2 : decode cX12_forbid 2 = .ok (.putfield 1, 3) := by decide +kernel
theorem dX12_forbid_5 : decode cX12_forbid 5 = .ok (.aload_n 0, 1) := by decide +kernel
theorem dX12_forbid_6 : decode cX12_forbid 6 = .ok (.iload_n 1, 1) := by decide +kernel
theorem dX12_forbid_7 : decode cX12_forbid 7 = .ok (.invokevirtual 250, 3) := by decide +kernel
theorem dX12_forbid_10 : decode cX12_forbid 10 = .ok (.ifCond .eq 23, 3) := by decide +kernel
theorem dX12_forbid_33 : decode cX12_forbid 33 = .ok (.iconst (-1), 1) := by decide +kernel
theorem dX12_forbid_34 : decode cX12_forbid 34 = .ok (.ireturn, 1) := by decide +kernel
theorem dX12_fence_0 : decode cX12_fence 0 = .ok (.aload_n 0, 1) := by decide +kernel
theorem dX12_fence_1 : decode cX12_fence 1 = .ok (.iconst 0, 1) := by decide +kernel
theorem dX12_fence_2 : decode cX12_fence 2 = .ok (.putfield 1, 3) := by decide +kernel
theorem dX12_fence_5 : decode cX12_fence 5 = .ok (.aload_n 0, 1) := by decide +kernel
theorem dX12_fence_6 : decode cX12_fence 6 = .ok (.iload_n 1, 1) := by decide +kernel
theorem dX12_fence_7 : decode cX12_fence 7 = .ok (.invokevirtual 250, 3) := by decide +kernel
theorem dX12_fence_10 : decode cX12_fence 10 = .ok (.ifCond .ne 5, 3) := by decide +kernel
theorem dX12_fence_13 : decode cX12_fence 13 = .ok (.iconst (-1), 1) := by decide +kernel
theorem dX12_fence_14 : decode cX12_fence 14 = .ok (.ireturn, 1) := by decide +kernel
theorem dX12_sign_0 : decode cX12_sign 0 = .ok (.aload_n 0, 1) := by decide +kernel
theorem dX12_sign_1 : decode cX12_sign 1 = .ok (.iconst 0, 1) := by decide +kernel
