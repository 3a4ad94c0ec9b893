theorem dX12_snap_0 : decode cX12_snap 0 = .ok (.aload_n 0, 1) := by decide +kernel
theorem dX12_snap_1 : decode cX12_snap 1 = .ok (.getfield 214, 3) := by decide +kernel
theorem dX12_snap_4 : decode cX12_snap 4 = .ok (.bipush 8, 2) := by decide +kernel
theorem dX12_snap_6 : decode cX12_snap 6 = .ok (.if_icmp .ne 43, 3) := by decide +kernel
theorem dX12_snap_49 : decode cX12_snap 49 = .ok (.iconst 0, 1) := by decide +kernel
theorem dX12_snap_50 : decode cX12_snap 50 = .ok (.istore_n 1, 1) := by decide +kernel
theorem dX12_snap_51 : decode cX12_snap 51 = .ok (.iload_n 1, 1) := by decide +kernel
theorem dX12_snap_52 : decode cX12_snap 52 = .ok (.bipush 70, 2) := by decide +kernel
theorem dX12_snap_54 : decode cX12_snap 54 = .ok (.if_icmp .ge 32, 3) := by decide +kernel
theorem dX12_snap_86 : decode cX12_snap 86 = .ok (.aload_n 0, 1) := by decide +kernel
theorem dX12_snap_87 : decode cX12_snap 87 = .ok (.dup, 1) := by decide +kernel
theorem dX12_snap_88 : decode cX12_snap 88 = .ok (.getfield 214, 3) := by decide +kernel
theorem dX12_snap_91 : decode cX12_snap 91 = .ok (.iconst 1, 1) := by decide +kernel
theorem dX12_snap_92 : decode cX12_snap 92 = .ok (.iadd, 1) := by decide +kernel
theorem dX12_snap_93 : decode cX12_snap 93 = .ok (.putfield 214, 3) := by decide +kernel
theorem dX12_snap_96 : decode cX12_snap 96 = .ok (.return_, 1) := by decide +kernel
theorem dX12_snap_57 : decode cX12_snap 57 = .ok (.aload_n 0, 1) := by decide +kernel
theorem dX12_snap_58 : decode cX12_snap 58 = .ok (.getfield 107, 3) := by decide +kernel
theorem dX12_snap_61 : decode cX12_snap 61 = .ok (.bipush 70, 2) := by decide +kernel
theorem dX12_snap_63 : decode cX12_snap 63 = .ok (.aload_n 0, 1) := by decide +kernel
theorem dX12_snap_64 : decode cX12_snap 64 = .ok (.getfield 214, 3) := by decide +kernel
theorem dX12_snap_67 : decode cX12_snap 67 = .ok (.imul, 1) := by decide +kernel
theorem dX12_snap_68 : decode cX12_snap 68 = .ok (.iload_n 1, 1) := by decide +kernel
theorem dX12_snap_69 : decode cX12_snap 69 = .ok (.iadd, 1) := by decide +kernel
theorem dX12_snap_70 : decode cX12_snap 70 = .ok (.aload_n 0, 1) := by decide +kernel
theorem dX12_snap_71 : decode cX12_snap 71 = .ok (.getfield 98, 3) := by decide +kernel
theorem dX12_snap_74 : decode cX12_snap 74 = .ok (.bipush 61, 2) := by decide +kernel
theorem dX12_snap_76 : decode cX12_snap 76 = .ok (.iload_n 1, 1) := by decide +kernel
theorem dX12_snap_77 : decode cX12_snap 77 = .ok (.iadd, 1) := by decide +kernel
theorem dX12_snap_78 : decode cX12_snap 78 = .ok (.iaload, 1) := by decide +kernel
theorem dX12_snap_79 : decode cX12_snap 79 = .ok (.iastore, 1) := by decide +kernel
theorem dX12_snap_80 : decode cX12_snap 80 = .ok (.iinc 1 1, 3) := by decide +kernel
theorem dX12_snap_83 : decode cX12_snap 83 = .ok (.goto (-32), 3) := by decide +kernel
theorem dX12_snap_9 : decode cX12_snap 9 = .ok (.iconst 0, 1) := by decide +kernel
theorem dX12_snap_10 : decode cX12_snap 10 = .ok (.istore_n 1, 1) := by decide +kernel
theorem dX12_snap_11 : decode cX12_snap 11 = .ok (.iload_n 1, 1) := by decide +kernel
theorem dX12_snap_12 : decode cX12_snap 12 = .ok (.sipush 490, 3) := by decide +kernel
theorem dX12_snap_15 : decode cX12_snap 15 = .ok (.if_icmp .ge 24, 3) := by decide +kernel
theorem dX12_snap_39 : decode cX12_snap 39 = .ok (.aload_n 0, 1) := by decide +kernel
theorem dX12_snap_40 : decode cX12_snap 40 = .ok (.dup, 1) := by decide +kernel
theorem dX12_snap_41 : decode cX12_snap 41 = .ok (.getfield 214, 3) := by decide +kernel
theorem dX12_snap_44 : decode cX12_snap 44 = .ok (.iconst 1, 1) := by decide +kernel
theorem dX12_snap_45 : decode cX12_snap 45 = .ok (.isub, 1) := by decide +kernel
theorem dX12_snap_46 : decode cX12_snap 46 = .ok (.putfield 214, 3) := by decide +kernel
theorem dX12_snap_18 : decode cX12_snap 18 = .ok (.aload_n 0, 1) := by decide +kernel
theorem dX12_snap_19 : decode cX12_snap 19 = .ok (.getfield 107, 3) := by decide +kernel
theorem dX12_snap_22 : decode cX12_snap 22 = .ok (.iload_n 1, 1) := by decide +kernel
theorem dX12_snap_23 : decode cX12_snap 23 = .ok (.aload_n 0, 1) := by decide +kernel
theorem dX12_snap_24 : decode cX12_snap 24 = .ok (.getfield 107, 3) := by decide +kernel
theorem dX12_snap_27 : decode cX12_snap 27 = .ok (.iload_n 1, 1) := by decide +kernel
theorem dX12_snap_28 : decode cX12_snap 28 = .ok (.bipush 70, 2) := by decide +kernel
theorem dX12_snap_30 : decode cX12_snap 30 = .ok (.iadd, 1) := by decide +kernel
theorem dX12_snap_31 : decode cX12_snap 31 = .ok (.iaload, 1) := by decide +kernel
theorem dX12_snap_32 : decode cX12_snap 32 = .ok (.iastore, 1) := by decide +kernel
theorem dX12_snap_33 : decode cX12_snap 33 = .ok (.iinc 1 1, 3) := by decide +kernel
theorem dX12_snap_36 : decode cX12_snap 36 = .ok (.goto (-25), 3) := by decide +kernel
theorem dX12_why_0 : decode cX12_why 0 = .ok (.iload_n 1, 1) := by decide +kernel
theorem dX12_why_1 : decode cX12_why 1 = .ok (.tableswitch 185 0 4 #[35, 63, 89, 106, 138], 35) := by decide +kernel
theorem dX12_why_36 : decode cX12_why 36 = .ok (.iload 4, 2) := by decide +kernel
theorem dX12_why_38 : decode cX12_why 38 = .ok (.iload 5, 2) := by decide +kernel
theorem dX12_why_40 : decode cX12_why 40 = .ok (.invokestatic 185, 3) := by decide +kernel
theorem dX12_why_43 : decode cX12_why 43 = .ok (.aload_n 0, 1) := by decide +kernel
theorem dX12_why_44 : decode cX12_why 44 = .ok (.getfield 98, 3) := by decide +kernel
theorem dX12_why_47 : decode cX12_why 47 = .ok (.bipush 66, 2) := by decide +kernel
theorem dX12_why_49 : decode cX12_why 49 = .ok (.iload_n 2, 1) := by decide +kernel
theorem dX12_why_50 : decode cX12_why 50 = .ok (.iadd, 1) := by decide +kernel
theorem dX12_why_51 : decode cX12_why 51 = .ok (.iaload, 1) := by decide +kernel
theorem dX12_why_52 : decode cX12_why 52 = .ok (.iconst (-1), 1) := by decide +kernel
theorem dX12_why_53 : decode cX12_why 53 = .ok (.ixor, 1) := by decide +kernel
theorem dX12_why_54 : decode cX12_why 54 = .ok (.iand, 1) := by decide +kernel
theorem dX12_why_55 : decode cX12_why 55 = .ok (.ifCond .ne 7, 3) := by decide +kernel
theorem dX12_why_62 : decode cX12_why 62 = .ok (.iconst 0, 1) := by decide +kernel
theorem dX12_why_63 : decode cX12_why 63 = .ok (.ireturn, 1) := by decide +kernel
theorem dX12_why_58 : decode cX12_why 58 = .ok (.iconst 1, 1) := by decide +kernel
theorem dX12_why_59 : decode cX12_why 59 = .ok (.goto 4, 3) := by decide +kernel
theorem dX12_why_64 : decode cX12_why 64 = .ok (.iload 4, 2) := by decide +kernel
theorem dX12_why_66 : decode cX12_why 66 = .ok (.iload 5, 2) := by decide +kernel
theorem dX12_why_68 : decode cX12_why 68 = .ok (.invokestatic 185, 3) := by decide +kernel
theorem dX12_why_71 : decode cX12_why 71 = .ok (.aload_n 0, 1) := by decide +kernel
theorem dX12_why_72 : decode cX12_why 72 = .ok (.getfield 98, 3) := by decide +kernel
theorem dX12_why_75 : decode cX12_why 75 = .ok (.bipush 66, 2) := by decide +kernel
theorem dX12_why_77 : decode cX12_why 77 = .ok (.iload_n 2, 1) := by decide +kernel
theorem dX12_why_78 : decode cX12_why 78 = .ok (.iadd, 1) := by decide +kernel
theorem dX12_why_79 : decode cX12_why 79 = .ok (.iaload, 1) := by decide +kernel
theorem dX12_why_80 : decode cX12_why 80 = .ok (.iand, 1) := by decide +kernel
theorem dX12_why_81 : decode cX12_why 81 = .ok (.ifCond .ne 7, 3) := by decide +kernel
theorem dX12_why_88 : decode cX12_why 88 = .ok (.iconst 0, 1) := by decide +kernel
theorem dX12_why_89 : decode cX12_why 89 = .ok (.ireturn, 1) := by decide +kernel
theorem dX12_why_84 : decode cX12_why 84 = .ok (.iconst 1, 1) := by decide +kernel
theorem dX12_why_85 : decode cX12_why 85 = .ok (.goto 4, 3) := by decide +kernel
theorem dX12_why_90 : decode cX12_why 90 = .ok (.aload_n 0, 1) := by decide +kernel
theorem dX12_why_91 : decode cX12_why 91 = .ok (.getfield 98, 3) := by decide +kernel
theorem dX12_why_94 : decode cX12_why 94 = .ok (.bipush 62, 2) := by decide +kernel
theorem dX12_why_96 : decode cX12_why 96 = .ok (.iaload, 1) := by decide +kernel
theorem dX12_why_97 : decode cX12_why 97 = .ok (.iload_n 2, 1) := by decide +kernel
theorem dX12_why_98 : decode cX12_why 98 = .ok (.if_icmp .ne 7, 3) := by decide +kernel
theorem dX12_why_105 : decode cX12_why 105 = .ok (.iconst 0, 1) := by decide +kernel
theorem dX12_why_106 : decode cX12_why 106 = .ok (.ireturn, 1) := by decide +kernel
theorem dX12_why_101 : decode cX12_why 101 = .ok (.iconst 1, 1) := by decide +kernel
theorem dX12_why_102 : decode cX12_why 102 = .ok (.goto 4, 3) := by decide +kernel
theorem dX12_why_107 : decode cX12_why 107 = .ok (.aload_n 0, 1) := by decide +kernel
theorem dX12_why_108 : decode cX12_why 108 = .ok (.getfield 98, 3) := by decide +kernel
theorem dX12_why_111 : decode cX12_why 111 = .ok (.bipush 64, 2) := by decide +kernel
theorem dX12_why_113 : decode cX12_why 113 = .ok (.iaload, 1) := by decide +kernel
theorem dX12_why_114 : decode cX12_why 114 = .ok (.iload_n 2, 1) := by decide +kernel
theorem dX12_why_115 : decode cX12_why 115 = .ok (.invokestatic 217, 3) := by decide +kernel
theorem dX12_why_118 : decode cX12_why 118 = .ok (.iload_n 3, 1) := by decide +kernel
theorem dX12_why_119 : decode cX12_why 119 = .ok (.iconst 1, 1) := by decide +kernel
theorem dX12_why_120 : decode cX12_why 120 = .ok (.if_icmp .ne 7, 3) := by decide +kernel
theorem dX12_why_127 : decode cX12_why 127 = .ok (.iconst 0, 1) := by decide +kernel
theorem dX12_why_128 : decode cX12_why 128 = .ok (.if_icmp .ne 9, 3) := by decide +kernel
theorem dX12_why_137 : decode cX12_why 137 = .ok (.iconst 0, 1) := by decide +kernel
theorem dX12_why_138 : decode cX12_why 138 = .ok (.ireturn, 1) := by decide +kernel
theorem dX12_why_123 : decode cX12_why 123 = .ok (.iconst 1, 1) := by decide +kernel
theorem dX12_why_124 : decode cX12_why 124 = .ok (.goto 4, 3) := by decide +kernel
theorem dX12_why_131 : decode cX12_why 131 = .ok (.iconst 2, 1) := by decide +kernel
theorem dX12_why_132 : decode cX12_why 132 = .ok (.iload_n 3, 1) := by decide +kernel
theorem dX12_why_133 : decode cX12_why 133 = .ok (.isub, 1) := by decide +kernel
theorem dX12_why_134 : decode cX12_why 134 = .ok (.goto 4, 3) := by decide +kernel
theorem dX12_why_139 : decode cX12_why 139 = .ok (.aload_n 0, 1) := by decide +kernel
theorem dX12_why_140 : decode cX12_why 140 = .ok (.getfield 98, 3) := by decide +kernel
theorem dX12_why_143 : decode cX12_why 143 = .ok (.bipush 71, 2) := by decide +kernel
theorem dX12_why_145 : decode cX12_why 145 = .ok (.iload_n 2, 1) := by decide +kernel
theorem dX12_why_146 : decode cX12_why 146 = .ok (.iadd, 1) := by decide +kernel
theorem dX12_why_147 : decode cX12_why 147 = .ok (.iaload, 1) := by decide +kernel
theorem dX12_why_148 : decode cX12_why 148 = .ok (.iload_n 3, 1) := by decide +kernel
theorem dX12_why_149 : decode cX12_why 149 = .ok (.if_icmp .ne 35, 3) := by decide +kernel
theorem dX12_why_184 : decode cX12_why 184 = .ok (.iconst 0, 1) := by decide +kernel
theorem dX12_why_185 : decode cX12_why 185 = .ok (.ireturn, 1) := by decide +kernel
theorem dX12_why_152 : decode cX12_why 152 = .ok (.aload_n 0, 1) := by decide +kernel
theorem dX12_why_153 : decode cX12_why 153 = .ok (.getfield 98, 3) := by decide +kernel
theorem dX12_why_156 : decode cX12_why 156 = .ok (.bipush 79, 2) := by decide +kernel
theorem dX12_why_158 : decode cX12_why 158 = .ok (.iload_n 2, 1) := by decide +kernel
theorem dX12_why_159 : decode cX12_why 159 = .ok (.iadd, 1) := by decide +kernel
theorem dX12_why_160 : decode cX12_why 160 = .ok (.iaload, 1) := by decide +kernel
theorem dX12_why_161 : decode cX12_why 161 = .ok (.iload 4, 2) := by decide +kernel
theorem dX12_why_163 : decode cX12_why 163 = .ok (.if_icmp .ne 21, 3) := by decide +kernel
theorem dX12_why_166 : decode cX12_why 166 = .ok (.aload_n 0, 1) := by decide +kernel
theorem dX12_why_167 : decode cX12_why 167 = .ok (.getfield 98, 3) := by decide +kernel
theorem dX12_why_170 : decode cX12_why 170 = .ok (.bipush 87, 2) := by decide +kernel
theorem dX12_why_172 : decode cX12_why 172 = .ok (.iload_n 2, 1) := by decide +kernel
theorem dX12_why_173 : decode cX12_why 173 = .ok (.iadd, 1) := by decide +kernel
theorem dX12_why_174 : decode cX12_why 174 = .ok (.iaload, 1) := by decide +kernel
theorem dX12_why_175 : decode cX12_why 175 = .ok (.iload 5, 2) := by decide +kernel
theorem dX12_why_177 : decode cX12_why 177 = .ok (.if_icmp .ne 7, 3) := by decide +kernel
theorem dX12_why_180 : decode cX12_why 180 = .ok (.iconst 1, 1) := by decide +kernel
theorem dX12_why_181 : decode cX12_why 181 = .ok (.goto 4, 3) := by decide +kernel
theorem dX12_why_186 : decode cX12_why 186 = .ok (.iconst 0, 1) := by decide +kernel
theorem dX12_why_187 : decode cX12_why 187 = .ok (.ireturn, 1) := by decide +kernel
theorem dX12_live_0 : decode cX12_live 0 = .ok (.iload_n 1, 1) := by decide +kernel
theorem dX12_live_1 : decode cX12_live 1 = .ok (.tableswitch 133 0 4 #[35, 55, 77, 86, 100], 35) := by decide +kernel
theorem dX12_live_36 : decode cX12_live 36 = .ok (.aload_n 0, 1) := by decide +kernel
theorem dX12_live_37 : decode cX12_live 37 = .ok (.getfield 98, 3) := by decide +kernel
theorem dX12_live_40 : decode cX12_live 40 = .ok (.bipush 66, 2) := by decide +kernel
theorem dX12_live_42 : decode cX12_live 42 = .ok (.iload_n 2, 1) := by decide +kernel
theorem dX12_live_43 : decode cX12_live 43 = .ok (.iadd, 1) := by decide +kernel
theorem dX12_live_44 : decode cX12_live 44 = .ok (.dup2, 1) := by decide +kernel
theorem dX12_live_45 : decode cX12_live 45 = .ok (.iaload, 1) := by decide +kernel
theorem dX12_live_46 : decode cX12_live 46 = .ok (.iload 4, 2) := by decide +kernel
theorem dX12_live_48 : decode cX12_live 48 = .ok (.iload 5, 2) := by decide +kernel
theorem dX12_live_50 : decode cX12_live 50 = .ok (.invokestatic 185, 3) := by decide +kernel
theorem dX12_live_53 : decode cX12_live 53 = .ok (.ior, 1) := by decide +kernel
theorem dX12_live_54 : decode cX12_live 54 = .ok (.iastore, 1) := by decide +kernel
theorem dX12_live_55 : decode cX12_live 55 = .ok (.return_, 1) := by decide +kernel
theorem dX12_live_56 : decode cX12_live 56 = .ok (.aload_n 0, 1) := by decide +kernel
theorem dX12_live_57 : decode cX12_live 57 = .ok (.getfield 98, 3) := by decide +kernel
theorem dX12_live_60 : decode cX12_live 60 = .ok (.bipush 66, 2) := by decide +kernel
theorem dX12_live_62 : decode cX12_live 62 = .ok (.iload_n 2, 1) := by decide +kernel
theorem dX12_live_63 : decode cX12_live 63 = .ok (.iadd, 1) := by decide +kernel
theorem dX12_live_64 : decode cX12_live 64 = .ok (.dup2, 1) := by decide +kernel
theorem dX12_live_65 : decode cX12_live 65 = .ok (.iaload, 1) := by decide +kernel
theorem dX12_live_66 : decode cX12_live 66 = .ok (.iload 4, 2) := by decide +kernel
theorem dX12_live_68 : decode cX12_live 68 = .ok (.iload 5, 2) := by decide +kernel
theorem dX12_live_70 : decode cX12_live 70 = .ok (.invokestatic 185, 3) := by decide +kernel
theorem dX12_live_73 : decode cX12_live 73 = .ok (.iconst (-1), 1) := by decide +kernel
theorem dX12_live_74 : decode cX12_live 74 = .ok (.ixor, 1) := by decide +kernel
theorem dX12_live_75 : decode cX12_live 75 = .ok (.iand, 1) := by decide +kernel
theorem dX12_live_76 : decode cX12_live 76 = .ok (.iastore, 1) := by decide +kernel
theorem dX12_live_77 : decode cX12_live 77 = .ok (.return_, 1) := by decide +kernel
theorem dX12_live_78 : decode cX12_live 78 = .ok (.aload_n 0, 1) := by decide +kernel
theorem dX12_live_79 : decode cX12_live 79 = .ok (.getfield 98, 3) := by decide +kernel
theorem dX12_live_82 : decode cX12_live 82 = .ok (.bipush 62, 2) := by decide +kernel
theorem dX12_live_84 : decode cX12_live 84 = .ok (.iload_n 2, 1) := by decide +kernel
theorem dX12_live_85 : decode cX12_live 85 = .ok (.iastore, 1) := by decide +kernel
theorem dX12_live_86 : decode cX12_live 86 = .ok (.return_, 1) := by decide +kernel
theorem dX12_live_87 : decode cX12_live 87 = .ok (.aload_n 0, 1) := by decide +kernel
theorem dX12_live_88 : decode cX12_live 88 = .ok (.getfield 98, 3) := by decide +kernel
theorem dX12_live_91 : decode cX12_live 91 = .ok (.bipush 64, 2) := by decide +kernel
theorem dX12_live_93 : decode cX12_live 93 = .ok (.dup2, 1) := by decide +kernel
theorem dX12_live_94 : decode cX12_live 94 = .ok (.iaload, 1) := by decide +kernel
theorem dX12_live_95 : decode cX12_live 95 = .ok (.iconst 1, 1) := by decide +kernel
theorem dX12_live_96 : decode cX12_live 96 = .ok (.iload_n 2, 1) := by decide +kernel
theorem dX12_live_97 : decode cX12_live 97 = .ok (.ishl, 1) := by decide +kernel
theorem dX12_live_98 : decode cX12_live 98 = .ok (.ixor, 1) := by decide +kernel
theorem dX12_live_99 : decode cX12_live 99 = .ok (.iastore, 1) := by decide +kernel
theorem dX12_live_100 : decode cX12_live 100 = .ok (.return_, 1) := by decide +kernel
theorem dX12_live_101 : decode cX12_live 101 = .ok (.aload_n 0, 1) := by decide +kernel
theorem dX12_live_102 : decode cX12_live 102 = .ok (.getfield 98, 3) := by decide +kernel
theorem dX12_live_105 : decode cX12_live 105 = .ok (.bipush 71, 2) := by decide +kernel
theorem dX12_live_107 : decode cX12_live 107 = .ok (.iload_n 2, 1) := by decide +kernel
theorem dX12_live_108 : decode cX12_live 108 = .ok (.iadd, 1) := by decide +kernel
theorem dX12_live_109 : decode cX12_live 109 = .ok (.iload_n 3, 1) := by decide +kernel
theorem dX12_live_110 : decode cX12_live 110 = .ok (.iastore, 1) := by decide +kernel
theorem dX12_live_111 : decode cX12_live 111 = .ok (.aload_n 0, 1) := by decide +kernel
theorem dX12_live_112 : decode cX12_live 112 = .ok (.getfield 98, 3) := by decide +kernel
theorem dX12_live_115 : decode cX12_live 115 = .ok (.bipush 79, 2) := by decide +kernel
theorem dX12_live_117 : decode cX12_live 117 = .ok (.iload_n 2, 1) := by decide +kernel
theorem dX12_live_118 : decode cX12_live 118 = .ok (.iadd, 1) := by decide +kernel
theorem dX12_live_119 : decode cX12_live 119 = .ok (.iload 4, 2) := by decide +kernel
theorem dX12_live_121 : decode cX12_live 121 = .ok (.iastore, 1) := by decide +kernel
theorem dX12_live_122 : decode cX12_live 122 = .ok (.aload_n 0, 1) := by decide +kernel
theorem dX12_live_123 : decode cX12_live 123 = .ok (.getfield 98, 3) := by decide +kernel
theorem dX12_live_126 : decode cX12_live 126 = .ok (.bipush 87, 2) := by decide +kernel
theorem dX12_live_128 : decode cX12_live 128 = .ok (.iload_n 2, 1) := by decide +kernel
theorem dX12_live_129 : decode cX12_live 129 = .ok (.iadd, 1) := by decide +kernel
theorem dX12_live_130 : decode cX12_live 130 = .ok (.iload 5, 2) := by decide +kernel
theorem dX12_live_132 : decode cX12_live 132 = .ok (.iastore, 1) := by decide +kernel
theorem dX12_live_133 : decode cX12_live 133 = .ok (.return_, 1) := by decide +kernel
theorem dX12_live_134 : decode cX12_live 134 = .ok (.aload_n 0, 1) := by decide +kernel
theorem dX12_live_135 : decode cX12_live 135 = .ok (.getfield 98, 3) := by decide +kernel
theorem dX12_live_138 : decode cX12_live 138 = .ok (.bipush 65, 2) := by decide +kernel
theorem dX12_live_140 : decode cX12_live 140 = .ok (.dup2, 1) := by decide +kernel
theorem dX12_live_141 : decode cX12_live 141 = .ok (.iaload, 1) := by decide +kernel
theorem dX12_live_142 : decode cX12_live 142 = .ok (.iconst 1, 1) := by decide +kernel
theorem dX12_live_143 : decode cX12_live 143 = .ok (.iload_n 2, 1) := by decide +kernel
theorem dX12_live_144 : decode cX12_live 144 = .ok (.ishl, 1) := by decide +kernel
theorem dX12_live_145 : decode cX12_live 145 = .ok (.ixor, 1) := by decide +kernel
theorem dX12_live_146 : decode cX12_live 146 = .ok (.iastore, 1) := by decide +kernel
theorem dX12_live_147 : decode cX12_live 147 = .ok (.return_, 1) := by decide +kernel
theorem dX12_act_0 : decode cX12_act 0 = .ok (.aload_n 0, 1) := by decide +kernel
theorem dX12_act_1 : decode cX12_act 1 = .ok (.iload_n 1, 1) := by decide +kernel
theorem dX12_act_2 : decode cX12_act 2 = .ok (.iload_n 2, 1) := by decide +kernel
theorem dX12_act_3 : decode cX12_act 3 = .ok (.iload_n 3, 1) := by decide +kernel
theorem dX12_act_4 : decode cX12_act 4 = .ok (.iload 4, 2) := by decide +kernel
theorem dX12_act_6 : decode cX12_act 6 = .ok (.iload 5, 2) := by decide +kernel
theorem dX12_act_8 : decode cX12_act 8 = .ok (.invokevirtual 260, 3) := by decide +kernel
theorem dX12_act_11 : decode cX12_act 11 = .ok (.istore 6, 2) := by decide +kernel
theorem dX12_act_13 : decode cX12_act 13 = .ok (.iload 6, 2) := by decide +kernel
theorem dX12_act_15 : decode cX12_act 15 = .ok (.ifCond .eq 6, 3) := by decide +kernel
theorem dX12_act_21 : decode cX12_act 21 = .ok (.aload_n 0, 1) := by decide +kernel
theorem dX12_act_22 : decode cX12_act 22 = .ok (.invokevirtual 264, 3) := by decide +kernel
theorem dX12_act_25 : decode cX12_act 25 = .ok (.aload_n 0, 1) := by decide +kernel
theorem dX12_act_26 : decode cX12_act 26 = .ok (.iload_n 1, 1) := by decide +kernel
theorem dX12_act_27 : decode cX12_act 27 = .ok (.iload_n 2, 1) := by decide +kernel
theorem dX12_act_28 : decode cX12_act 28 = .ok (.iload_n 3, 1) := by decide +kernel
theorem dX12_act_29 : decode cX12_act 29 = .ok (.iload 4, 2) := by decide +kernel
theorem dX12_act_31 : decode cX12_act 31 = .ok (.iload 5, 2) := by decide +kernel
theorem dX12_act_33 : decode cX12_act 33 = .ok (.invokevirtual 267, 3) := by decide +kernel
theorem dX12_act_36 : decode cX12_act 36 = .ok (.iconst 0, 1) := by decide +kernel
theorem dX12_act_37 : decode cX12_act 37 = .ok (.ireturn, 1) := by decide +kernel
theorem dX12_act_18 : decode cX12_act 18 = .ok (.iload 6, 2) := by decide +kernel
theorem dX12_act_20 : decode cX12_act 20 = .ok (.ireturn, 1) := by decide +kernel
theorem dX12_allow_0 : decode cX12_allow 0 = .ok (.aload_n 0, 1) := by decide +kernel
theorem dX12_allow_1 : decode cX12_allow 1 = .ok (.iconst 0, 1) := by decide +kernel
theorem dX12_allow_2 : decode cX12_allow 2 = .ok (.putfield 1, 3) := by decide +kernel
theorem dX12_allow_5 : decode cX12_allow 5 = .ok (.aload_n 0, 1) := by decide +kernel
theorem dX12_allow_6 : decode cX12_allow 6 = .ok (.iload_n 1, 1) := by decide +kernel
theorem dX12_allow_7 : decode cX12_allow 7 = .ok (.invokevirtual 250, 3) := by decide +kernel
theorem dX12_allow_10 : decode cX12_allow 10 = .ok (.ifCond .eq 23, 3) := by decide +kernel
theorem dX12_allow_13 : decode cX12_allow 13 = .ok (.iload_n 2, 1) := by decide +kernel
theorem dX12_allow_14 : decode cX12_allow 14 = .ok (.iload_n 3, 1) := by decide +kernel
theorem dX12_allow_15 : decode cX12_allow 15 = .ok (.invokestatic 271, 3) := by decide +kernel
theorem dX12_allow_18 : decode cX12_allow 18 = .ok (.ifCond .eq 15, 3) := by decide +kernel
theorem dX12_allow_21 : decode cX12_allow 21 = .ok (.aload_n 0, 1) := by decide +kernel
theorem dX12_allow_22 : decode cX12_allow 22 = .ok (.iconst 0, 1) := by decide +kernel
theorem dX12_allow_23 : decode cX12_allow 23 = .ok (.iload_n 1, 1) := by decide +kernel
theorem dX12_allow_24 : decode cX12_allow 24 = .ok (.iconst 0, 1) := by decide +kernel
theorem dX12_allow_25 : decode cX12_allow 25 = .ok (.iload_n 2, 1) := by decide +kernel
theorem dX12_allow_26 : decode cX12_allow 26 = .ok (.iload_n 3, 1) := by decide +kernel
theorem dX12_allow_27 : decode cX12_allow 27 = .ok (.invokevirtual 274, 3) := by decide +kernel
theorem dX12_allow_30 : decode cX12_allow 30 = .ok (.goto 4, 3) := by decide +kernel
theorem dX12_allow_34 : decode cX12_allow 34 = .ok (.ireturn, 1) := by decide +kernel
theorem dX12_allow_33 : decode cX12_allow 33 = .ok (.iconst (-1), 1) := by decide +kernel
theorem dX12_forbid_0 : decode cX12_forbid 0 = .ok (.aload_n 0, 1) := by decide +kernel
theorem dX12_forbid_1 : decode cX12_forbid 1 = .ok (.iconst 0, 1) := by decide +kernel
theorem dX12_forbid_2 : decode cX12_forbid 2 = .ok (.putfield 1, 3) := by decide +kernel
theorem dX12_forbid_5 : decode cX12_forbid 5 = .ok (.aload_n 0, 1) := by decide +kernel
theorem dX12_forbid_6 : decode cX12_forbid 6 = .ok (.iload_n 1, 1) := by decide +kernel
theorem dX12_forbid_7 : decode cX12_forbid 7 = .ok (.invokevirtual 250, 3) := by decide +kernel
theorem dX12_forbid_10 : decode cX12_forbid 10 = .ok (.ifCond .eq 23, 3) := by decide +kernel
theorem dX12_forbid_13 : decode cX12_forbid 13 = .ok (.iload_n 2, 1) := by decide +kernel
theorem dX12_forbid_14 : decode cX12_forbid 14 = .ok (.iload_n 3, 1) := by decide +kernel
theorem dX12_forbid_15 : decode cX12_forbid 15 = .ok (.invokestatic 271, 3) := by decide +kernel
theorem dX12_forbid_18 : decode cX12_forbid 18 = .ok (.ifCond .eq 15, 3) := by decide +kernel
theorem dX12_forbid_21 : decode cX12_forbid 21 = .ok (.aload_n 0, 1) := by decide +kernel
theorem dX12_forbid_22 : decode cX12_forbid 22 = .ok (.iconst 1, 1) := by decide +kernel
theorem dX12_forbid_23 : decode cX12_forbid 23 = .ok (.iload_n 1, 1) := by decide +kernel
theorem dX12_forbid_24 : decode cX12_forbid 24 = .ok (.iconst 0, 1) := by decide +kernel
theorem dX12_forbid_25 : decode cX12_forbid 25 = .ok (.iload_n 2, 1) := by decide +kernel
theorem dX12_forbid_26 : decode cX12_forbid 26 = .ok (.iload_n 3, 1) := by decide +kernel
theorem dX12_forbid_27 : decode cX12_forbid 27 = .ok (.invokevirtual 274, 3) := by decide +kernel
theorem dX12_forbid_30 : decode cX12_forbid 30 = .ok (.goto 4, 3) := by decide +kernel
theorem dX12_forbid_34 : decode cX12_forbid 34 = .ok (.ireturn, 1) := by decide +kernel
theorem dX12_forbid_33 : decode cX12_forbid 33 = .ok (.iconst (-1), 1) := by decide +kernel
theorem dX12_fence_0 : decode cX12_fence 0 = .ok (.aload_n 0, 1) := by decide +kernel
theorem dX12_fence_1 : decode cX12_fence 1 = .ok (.iconst 0, 1) := by decide +kernel
theorem dX12_fence_2 : decode cX12_fence 2 = .ok (.putfield 1, 3) := by decide +kernel
theorem dX12_fence_5 : decode cX12_fence 5 = .ok (.aload_n 0, 1) := by decide +kernel
theorem dX12_fence_6 : decode cX12_fence 6 = .ok (.iload_n 1, 1) := by decide +kernel
theorem dX12_fence_7 : decode cX12_fence 7 = .ok (.invokevirtual 250, 3) := by decide +kernel
theorem dX12_fence_10 : decode cX12_fence 10 = .ok (.ifCond .ne 5, 3) := by decide +kernel
theorem dX12_fence_15 : decode cX12_fence 15 = .ok (.aload_n 0, 1) := by decide +kernel
theorem dX12_fence_16 : decode cX12_fence 16 = .ok (.iconst 5, 1) := by decide +kernel
theorem dX12_fence_17 : decode cX12_fence 17 = .ok (.iload_n 1, 1) := by decide +kernel
theorem dX12_fence_18 : decode cX12_fence 18 = .ok (.iconst 0, 1) := by decide +kernel
theorem dX12_fence_19 : decode cX12_fence 19 = .ok (.iconst 0, 1) := by decide +kernel
theorem dX12_fence_20 : decode cX12_fence 20 = .ok (.iconst 0, 1) := by decide +kernel
theorem dX12_fence_21 : decode cX12_fence 21 = .ok (.invokevirtual 274, 3) := by decide +kernel
theorem dX12_fence_24 : decode cX12_fence 24 = .ok (.pop, 1) := by decide +kernel
theorem dX12_fence_25 : decode cX12_fence 25 = .ok (.aload_n 0, 1) := by decide +kernel
theorem dX12_fence_26 : decode cX12_fence 26 = .ok (.iload_n 1, 1) := by decide +kernel
theorem dX12_fence_27 : decode cX12_fence 27 = .ok (.invokevirtual 229, 3) := by decide +kernel
theorem dX12_fence_30 : decode cX12_fence 30 = .ok (.ifCond .eq 7, 3) := by decide +kernel
theorem dX12_fence_33 : decode cX12_fence 33 = .ok (.iconst 1, 1) := by decide +kernel
theorem dX12_fence_34 : decode cX12_fence 34 = .ok (.goto 4, 3) := by decide +kernel
theorem dX12_fence_38 : decode cX12_fence 38 = .ok (.ireturn, 1) := by decide +kernel
theorem dX12_fence_37 : decode cX12_fence 37 = .ok (.iconst 0, 1) := by decide +kernel
theorem dX12_fence_13 : decode cX12_fence 13 = .ok (.iconst (-1), 1) := by decide +kernel
theorem dX12_fence_14 : decode cX12_fence 14 = .ok (.ireturn, 1) := by decide +kernel
theorem dX12_sign_0 : decode cX12_sign 0 = .ok (.aload_n 0, 1) := by decide +kernel
theorem dX12_sign_1 : decode cX12_sign 1 = .ok (.iconst 0, 1) := by decide +kernel
theorem dX12_sign_2 : decode cX12_sign 2 = .ok (.putfield 1, 3) := by decide +kernel
theorem dX12_sign_5 : decode cX12_sign 5 = .ok (.iload_n 1, 1) := by decide +kernel
theorem dX12_sign_6 : decode cX12_sign 6 = .ok (.iconst 0, 1) := by decide +kernel
theorem dX12_sign_7 : decode cX12_sign 7 = .ok (.bipush 12, 2) := by decide +kernel
theorem dX12_sign_9 : decode cX12_sign 9 = .ok (.invokestatic 75, 3) := by decide +kernel
theorem dX12_sign_12 : decode cX12_sign 12 = .ok (.ifCond .eq 15, 3) := by decide +kernel
theorem dX12_sign_15 : decode cX12_sign 15 = .ok (.aload_n 0, 1) := by decide +kernel
theorem dX12_sign_16 : decode cX12_sign 16 = .ok (.iconst 2, 1) := by decide +kernel
theorem dX12_sign_17 : decode cX12_sign 17 = .ok (.iload_n 1, 1) := by decide +kernel
theorem dX12_sign_18 : decode cX12_sign 18 = .ok (.iconst 0, 1) := by decide +kernel
theorem dX12_sign_19 : decode cX12_sign 19 = .ok (.iconst 0, 1) := by decide +kernel
theorem dX12_sign_20 : decode cX12_sign 20 = .ok (.iconst 0, 1) := by decide +kernel
theorem dX12_sign_21 : decode cX12_sign 21 = .ok (.invokevirtual 274, 3) := by decide +kernel
theorem dX12_sign_24 : decode cX12_sign 24 = .ok (.goto 4, 3) := by decide +kernel
theorem dX12_sign_28 : decode cX12_sign 28 = .ok (.ireturn, 1) := by decide +kernel
theorem dX12_sign_27 : decode cX12_sign 27 = .ok (.iconst (-1), 1) := by decide +kernel
theorem dX12_hold_0 : decode cX12_hold 0 = .ok (.aload_n 0, 1) := by decide +kernel
theorem dX12_hold_1 : decode cX12_hold 1 = .ok (.iconst 0, 1) := by decide +kernel
theorem dX12_hold_2 : decode cX12_hold 2 = .ok (.putfield 1, 3) := by decide +kernel
theorem dX12_hold_5 : decode cX12_hold 5 = .ok (.aload_n 0, 1) := by decide +kernel
theorem dX12_hold_6 : decode cX12_hold 6 = .ok (.iload_n 1, 1) := by decide +kernel
theorem dX12_hold_7 : decode cX12_hold 7 = .ok (.invokevirtual 247, 3) := by decide +kernel
theorem dX12_hold_10 : decode cX12_hold 10 = .ok (.ifCond .eq 24, 3) := by decide +kernel
theorem dX12_hold_13 : decode cX12_hold 13 = .ok (.iload_n 2, 1) := by decide +kernel
theorem dX12_hold_14 : decode cX12_hold 14 = .ok (.iconst 0, 1) := by decide +kernel
theorem dX12_hold_15 : decode cX12_hold 15 = .ok (.iconst 1, 1) := by decide +kernel
theorem dX12_hold_16 : decode cX12_hold 16 = .ok (.invokestatic 75, 3) := by decide +kernel
theorem dX12_hold_19 : decode cX12_hold 19 = .ok (.ifCond .eq 15, 3) := by decide +kernel
theorem dX12_hold_22 : decode cX12_hold 22 = .ok (.aload_n 0, 1) := by decide +kernel
theorem dX12_hold_23 : decode cX12_hold 23 = .ok (.iconst 3, 1) := by decide +kernel
theorem dX12_hold_24 : decode cX12_hold 24 = .ok (.iload_n 1, 1) := by decide +kernel
theorem dX12_hold_25 : decode cX12_hold 25 = .ok (.iload_n 2, 1) := by decide +kernel
theorem dX12_hold_26 : decode cX12_hold 26 = .ok (.iconst 0, 1) := by decide +kernel
theorem dX12_hold_27 : decode cX12_hold 27 = .ok (.iconst 0, 1) := by decide +kernel
theorem dX12_hold_28 : decode cX12_hold 28 = .ok (.invokevirtual 274, 3) := by decide +kernel
theorem dX12_hold_31 : decode cX12_hold 31 = .ok (.goto 4, 3) := by decide +kernel
theorem dX12_hold_35 : decode cX12_hold 35 = .ok (.ireturn, 1) := by decide +kernel
theorem dX12_hold_34 : decode cX12_hold 34 = .ok (.iconst (-1), 1) := by decide +kernel
theorem dX12_come__0 : decode cX12_come_ 0 = .ok (.aload_n 0, 1) := by decide +kernel
theorem dX12_come__1 : decode cX12_come_ 1 = .ok (.iconst 0, 1) := by decide +kernel
theorem dX12_come__2 : decode cX12_come_ 2 = .ok (.putfield 1, 3) := by decide +kernel
theorem dX12_come__5 : decode cX12_come_ 5 = .ok (.aload_n 0, 1) := by decide +kernel
theorem dX12_come__6 : decode cX12_come_ 6 = .ok (.iload_n 1, 1) := by decide +kernel
theorem dX12_come__7 : decode cX12_come_ 7 = .ok (.invokevirtual 241, 3) := by decide +kernel
theorem dX12_come__10 : decode cX12_come_ 10 = .ok (.ifCond .eq 33, 3) := by decide +kernel
theorem dX12_come__13 : decode cX12_come_ 13 = .ok (.aload_n 0, 1) := by decide +kernel
theorem dX12_come__14 : decode cX12_come_ 14 = .ok (.iload_n 2, 1) := by decide +kernel
theorem dX12_come__15 : decode cX12_come_ 15 = .ok (.invokevirtual 250, 3) := by decide +kernel
theorem dX12_come__18 : decode cX12_come_ 18 = .ok (.ifCond .eq 25, 3) := by decide +kernel
theorem dX12_come__21 : decode cX12_come_ 21 = .ok (.iload_n 3, 1) := by decide +kernel
theorem dX12_come__22 : decode cX12_come_ 22 = .ok (.iload 4, 2) := by decide +kernel
theorem dX12_come__24 : decode cX12_come_ 24 = .ok (.invokestatic 271, 3) := by decide +kernel
theorem dX12_come__27 : decode cX12_come_ 27 = .ok (.ifCond .eq 16, 3) := by decide +kernel
theorem dX12_come__30 : decode cX12_come_ 30 = .ok (.aload_n 0, 1) := by decide +kernel
theorem dX12_come__31 : decode cX12_come_ 31 = .ok (.iconst 4, 1) := by decide +kernel
theorem dX12_come__32 : decode cX12_come_ 32 = .ok (.iload_n 1, 1) := by decide +kernel
theorem dX12_come__33 : decode cX12_come_ 33 = .ok (.iload_n 2, 1) := by decide +kernel
theorem dX12_come__34 : decode cX12_come_ 34 = .ok (.iload_n 3, 1) := by decide +kernel
theorem dX12_come__35 : decode cX12_come_ 35 = .ok (.iload 4, 2) := by decide +kernel
theorem dX12_come__37 : decode cX12_come_ 37 = .ok (.invokevirtual 274, 3) := by decide +kernel
theorem dX12_come__40 : decode cX12_come_ 40 = .ok (.goto 4, 3) := by decide +kernel
theorem dX12_come__44 : decode cX12_come_ 44 = .ok (.ireturn, 1) := by decide +kernel
theorem dX12_come__43 : decode cX12_come_ 43 = .ok (.iconst (-1), 1) := by decide +kernel
theorem dX12_undo_0 : decode cX12_undo 0 = .ok (.aload_n 0, 1) := by decide +kernel
theorem dX12_undo_1 : decode cX12_undo 1 = .ok (.iconst 0, 1) := by decide +kernel
theorem dX12_undo_2 : decode cX12_undo 2 = .ok (.putfield 1, 3) := by decide +kernel
theorem dX12_undo_5 : decode cX12_undo 5 = .ok (.aload_n 0, 1) := by decide +kernel
theorem dX12_undo_6 : decode cX12_undo 6 = .ok (.getfield 214, 3) := by decide +kernel
theorem dX12_undo_9 : decode cX12_undo 9 = .ok (.ifCond .ne 5, 3) := by decide +kernel
theorem dX12_undo_14 : decode cX12_undo 14 = .ok (.aload_n 0, 1) := by decide +kernel
theorem dX12_undo_15 : decode cX12_undo 15 = .ok (.dup, 1) := by decide +kernel
theorem dX12_undo_16 : decode cX12_undo 16 = .ok (.getfield 214, 3) := by decide +kernel
theorem dX12_undo_19 : decode cX12_undo 19 = .ok (.iconst 1, 1) := by decide +kernel
theorem dX12_undo_20 : decode cX12_undo 20 = .ok (.isub, 1) := by decide +kernel
theorem dX12_undo_21 : decode cX12_undo 21 = .ok (.putfield 214, 3) := by decide +kernel
theorem dX12_undo_24 : decode cX12_undo 24 = .ok (.iconst 0, 1) := by decide +kernel
theorem dX12_undo_25 : decode cX12_undo 25 = .ok (.istore_n 1, 1) := by decide +kernel
theorem dX12_undo_26 : decode cX12_undo 26 = .ok (.iload_n 1, 1) := by decide +kernel
theorem dX12_undo_27 : decode cX12_undo 27 = .ok (.bipush 70, 2) := by decide +kernel
