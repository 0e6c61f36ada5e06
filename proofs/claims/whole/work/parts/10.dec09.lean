theorem dX12_setsOnMarks_26 : decode cX12_setsOnMarks 26 = .ok (.iload_n 1, 1) := by decide +kernel
theorem dX12_setsOnMarks_27 : decode cX12_setsOnMarks 27 = .ok (.iload_n 2, 1) := by decide +kernel
theorem dX12_setsOnMarks_28 : decode cX12_setsOnMarks 28 = .ok (.invokevirtual 285, 3) := by decide +kernel
theorem dX12_setsOnMarks_31 : decode cX12_setsOnMarks 31 = .ok (.ifCond .ne 24, 3) := by decide +kernel
theorem dX12_setsOnMarks_34 : decode cX12_setsOnMarks 34 = .ok (.aload_n 0, 1) := by decide +kernel
theorem dX12_setsOnMarks_35 : decode cX12_setsOnMarks 35 = .ok (.iload_n 1, 1) := by decide +kernel
theorem dX12_setsOnMarks_36 : decode cX12_setsOnMarks 36 = .ok (.iload_n 2, 1) := by decide +kernel
theorem dX12_setsOnMarks_37 : decode cX12_setsOnMarks 37 = .ok (.invokevirtual 344, 3) := by decide +kernel
theorem dX12_setsOnMarks_40 : decode cX12_setsOnMarks 40 = .ok (.ifCond .eq 15, 3) := by decide +kernel
theorem dX12_setsOnMarks_43 : decode cX12_setsOnMarks 43 = .ok (.iload_n 3, 1) := by decide +kernel
theorem dX12_setsOnMarks_44 : decode cX12_setsOnMarks 44 = .ok (.ifCond .lt 11, 3) := by decide +kernel
theorem dX12_setsOnMarks_47 : decode cX12_setsOnMarks 47 = .ok (.aload_n 0, 1) := by decide +kernel
theorem dX12_setsOnMarks_48 : decode cX12_setsOnMarks 48 = .ok (.iload_n 3, 1) := by decide +kernel
theorem dX12_setsOnMarks_49 : decode cX12_setsOnMarks 49 = .ok (.invokevirtual 282, 3) := by decide +kernel
theorem dX12_setsOnMarks_52 : decode cX12_setsOnMarks 52 = .ok (.ifCond .ge 7, 3) := by decide +kernel
theorem dX12_setsOnMarks_55 : decode cX12_setsOnMarks 55 = .ok (.iconst 1, 1) := by decide +kernel
theorem dX12_setsOnMarks_56 : decode cX12_setsOnMarks 56 = .ok (.goto 4, 3) := by decide +kernel
theorem dX12_setsOnMarks_59 : decode cX12_setsOnMarks 59 = .ok (.iconst 0, 1) := by decide +kernel
theorem dX12_setsOnMarks_60 : decode cX12_setsOnMarks 60 = .ok (.istore 4, 2) := by decide +kernel
theorem dX12_setsOnMarks_62 : decode cX12_setsOnMarks 62 = .ok (.iconst 0, 1) := by decide +kernel
theorem dX12_setsOnMarks_63 : decode cX12_setsOnMarks 63 = .ok (.istore 5, 2) := by decide +kernel
theorem dX12_setsOnMarks_65 : decode cX12_setsOnMarks 65 = .ok (.iload 5, 2) := by decide +kernel
theorem dX12_setsOnMarks_67 : decode cX12_setsOnMarks 67 = .ok (.aload_n 0, 1) := by decide +kernel
theorem dX12_setsOnMarks_68 : decode cX12_setsOnMarks 68 = .ok (.getfield 28, 3) := by decide +kernel
theorem dX12_setsOnMarks_71 : decode cX12_setsOnMarks 71 = .ok (.iload_n 1, 1) := by decide +kernel
theorem dX12_setsOnMarks_72 : decode cX12_setsOnMarks 72 = .ok (.iaload, 1) := by decide +kernel
theorem dX12_setsOnMarks_73 : decode cX12_setsOnMarks 73 = .ok (.if_icmp .ge 80, 3) := by decide +kernel
theorem dX12_setsOnMarks_76 : decode cX12_setsOnMarks 76 = .ok (.iload 4, 2) := by decide +kernel
theorem dX12_setsOnMarks_78 : decode cX12_setsOnMarks 78 = .ok (.ifCond .ne 75, 3) := by decide +kernel
theorem dX12_setsOnMarks_81 : decode cX12_setsOnMarks 81 = .ok (.aload_n 0, 1) := by decide +kernel
theorem dX12_setsOnMarks_82 : decode cX12_setsOnMarks 82 = .ok (.aload_n 0, 1) := by decide +kernel
theorem dX12_setsOnMarks_83 : decode cX12_setsOnMarks 83 = .ok (.iload_n 1, 1) := by decide +kernel
theorem dX12_setsOnMarks_84 : decode cX12_setsOnMarks 84 = .ok (.iload 5, 2) := by decide +kernel
theorem dX12_setsOnMarks_86 : decode cX12_setsOnMarks 86 = .ok (.iconst 0, 1) := by decide +kernel
theorem dX12_setsOnMarks_87 : decode cX12_setsOnMarks 87 = .ok (.invokevirtual 306, 3) := by decide +kernel
theorem dX12_setsOnMarks_90 : decode cX12_setsOnMarks 90 = .ok (.iload_n 3, 1) := by decide +kernel
theorem dX12_setsOnMarks_91 : decode cX12_setsOnMarks 91 = .ok (.invokevirtual 288, 3) := by decide +kernel
theorem dX12_setsOnMarks_94 : decode cX12_setsOnMarks 94 = .ok (.ifCond .eq 23, 3) := by decide +kernel
theorem dX12_setsOnMarks_97 : decode cX12_setsOnMarks 97 = .ok (.aload_n 0, 1) := by decide +kernel
theorem dX12_setsOnMarks_98 : decode cX12_setsOnMarks 98 = .ok (.iload_n 1, 1) := by decide +kernel
theorem dX12_setsOnMarks_99 : decode cX12_setsOnMarks 99 = .ok (.iload 5, 2) := by decide +kernel
theorem dX12_setsOnMarks_101 : decode cX12_setsOnMarks 101 = .ok (.iconst 1, 1) := by decide +kernel
theorem dX12_setsOnMarks_102 : decode cX12_setsOnMarks 102 = .ok (.invokevirtual 306, 3) := by decide +kernel
theorem dX12_setsOnMarks_105 : decode cX12_setsOnMarks 105 = .ok (.aload_n 0, 1) := by decide +kernel
theorem dX12_setsOnMarks_106 : decode cX12_setsOnMarks 106 = .ok (.iload_n 2, 1) := by decide +kernel
theorem dX12_setsOnMarks_107 : decode cX12_setsOnMarks 107 = .ok (.invokevirtual 282, 3) := by decide +kernel
theorem dX12_setsOnMarks_110 : decode cX12_setsOnMarks 110 = .ok (.if_icmp .ne 7, 3) := by decide +kernel
theorem dX12_setsOnMarks_113 : decode cX12_setsOnMarks 113 = .ok (.iconst 1, 1) := by decide +kernel
theorem dX12_setsOnMarks_114 : decode cX12_setsOnMarks 114 = .ok (.goto 4, 3) := by decide +kernel
theorem dX12_setsOnMarks_117 : decode cX12_setsOnMarks 117 = .ok (.iconst 0, 1) := by decide +kernel
theorem dX12_setsOnMarks_118 : decode cX12_setsOnMarks 118 = .ok (.istore 4, 2) := by decide +kernel
theorem dX12_setsOnMarks_120 : decode cX12_setsOnMarks 120 = .ok (.iload 4, 2) := by decide +kernel
theorem dX12_setsOnMarks_122 : decode cX12_setsOnMarks 122 = .ok (.ifCond .eq 25, 3) := by decide +kernel
theorem dX12_setsOnMarks_125 : decode cX12_setsOnMarks 125 = .ok (.aload_n 0, 1) := by decide +kernel
theorem dX12_setsOnMarks_126 : decode cX12_setsOnMarks 126 = .ok (.iload_n 2, 1) := by decide +kernel
theorem dX12_setsOnMarks_127 : decode cX12_setsOnMarks 127 = .ok (.iload_n 3, 1) := by decide +kernel
theorem dX12_setsOnMarks_128 : decode cX12_setsOnMarks 128 = .ok (.aload_n 0, 1) := by decide +kernel
theorem dX12_setsOnMarks_129 : decode cX12_setsOnMarks 129 = .ok (.iload_n 1, 1) := by decide +kernel
theorem dX12_setsOnMarks_130 : decode cX12_setsOnMarks 130 = .ok (.iload 5, 2) := by decide +kernel
theorem dX12_setsOnMarks_132 : decode cX12_setsOnMarks 132 = .ok (.iconst 2, 1) := by decide +kernel
theorem dX12_setsOnMarks_133 : decode cX12_setsOnMarks 133 = .ok (.invokevirtual 306, 3) := by decide +kernel
theorem dX12_setsOnMarks_136 : decode cX12_setsOnMarks 136 = .ok (.aload_n 0, 1) := by decide +kernel
theorem dX12_setsOnMarks_137 : decode cX12_setsOnMarks 137 = .ok (.iload_n 1, 1) := by decide +kernel
theorem dX12_setsOnMarks_138 : decode cX12_setsOnMarks 138 = .ok (.iload 5, 2) := by decide +kernel
theorem dX12_setsOnMarks_140 : decode cX12_setsOnMarks 140 = .ok (.iconst 3, 1) := by decide +kernel
theorem dX12_setsOnMarks_141 : decode cX12_setsOnMarks 141 = .ok (.invokevirtual 306, 3) := by decide +kernel
theorem dX12_setsOnMarks_144 : decode cX12_setsOnMarks 144 = .ok (.invokevirtual 365, 3) := by decide +kernel
theorem dX12_setsOnMarks_147 : decode cX12_setsOnMarks 147 = .ok (.iinc 5 1, 3) := by decide +kernel
theorem dX12_setsOnMarks_150 : decode cX12_setsOnMarks 150 = .ok (.goto (-85), 3) := by decide +kernel
theorem dX12_setsOnMarks_153 : decode cX12_setsOnMarks 153 = .ok (.iinc 2 1, 3) := by decide +kernel
theorem dX12_setsOnMarks_156 : decode cX12_setsOnMarks 156 = .ok (.goto (-154), 3) := by decide +kernel
theorem dX12_setsOnMarks_159 : decode cX12_setsOnMarks 159 = .ok (.return_, 1) := by decide +kernel
theorem dX12_laysPlaces_0 : decode cX12_laysPlaces 0 = .ok (.iconst 0, 1) := by decide +kernel
theorem dX12_laysPlaces_1 : decode cX12_laysPlaces 1 = .ok (.istore_n 1, 1) := by decide +kernel
theorem dX12_laysPlaces_2 : decode cX12_laysPlaces 2 = .ok (.iload_n 1, 1) := by decide +kernel
theorem dX12_laysPlaces_3 : decode cX12_laysPlaces 3 = .ok (.aload_n 0, 1) := by decide +kernel
theorem dX12_laysPlaces_4 : decode cX12_laysPlaces 4 = .ok (.getfield 235, 3) := by decide +kernel
theorem dX12_laysPlaces_7 : decode cX12_laysPlaces 7 = .ok (.if_icmp .ge 51, 3) := by decide +kernel
theorem dX12_laysPlaces_10 : decode cX12_laysPlaces 10 = .ok (.aload_n 0, 1) := by decide +kernel
theorem dX12_laysPlaces_11 : decode cX12_laysPlaces 11 = .ok (.getfield 84, 3) := by decide +kernel
theorem dX12_laysPlaces_14 : decode cX12_laysPlaces 14 = .ok (.iload_n 1, 1) := by decide +kernel
theorem dX12_laysPlaces_15 : decode cX12_laysPlaces 15 = .ok (.aload_n 0, 1) := by decide +kernel
theorem dX12_laysPlaces_16 : decode cX12_laysPlaces 16 = .ok (.getfield 40, 3) := by decide +kernel
theorem dX12_laysPlaces_19 : decode cX12_laysPlaces 19 = .ok (.sipush 256, 3) := by decide +kernel
theorem dX12_laysPlaces_22 : decode cX12_laysPlaces 22 = .ok (.aload_n 0, 1) := by decide +kernel
theorem dX12_laysPlaces_23 : decode cX12_laysPlaces 23 = .ok (.getfield 279, 3) := by decide +kernel
theorem dX12_laysPlaces_26 : decode cX12_laysPlaces 26 = .ok (.imul, 1) := by decide +kernel
theorem dX12_laysPlaces_27 : decode cX12_laysPlaces 27 = .ok (.aload_n 0, 1) := by decide +kernel
theorem dX12_laysPlaces_28 : decode cX12_laysPlaces 28 = .ok (.getfield 63, 3) := by decide +kernel
theorem dX12_laysPlaces_31 : decode cX12_laysPlaces 31 = .ok (.iload_n 1, 1) := by decide +kernel
theorem dX12_laysPlaces_32 : decode cX12_laysPlaces 32 = .ok (.iaload, 1) := by decide +kernel
theorem dX12_laysPlaces_33 : decode cX12_laysPlaces 33 = .ok (.iadd, 1) := by decide +kernel
theorem dX12_laysPlaces_34 : decode cX12_laysPlaces 34 = .ok (.iaload, 1) := by decide +kernel
theorem dX12_laysPlaces_35 : decode cX12_laysPlaces 35 = .ok (.iastore, 1) := by decide +kernel
theorem dX12_laysPlaces_36 : decode cX12_laysPlaces 36 = .ok (.aload_n 0, 1) := by decide +kernel
theorem dX12_laysPlaces_37 : decode cX12_laysPlaces 37 = .ok (.getfield 87, 3) := by decide +kernel
theorem dX12_laysPlaces_40 : decode cX12_laysPlaces 40 = .ok (.iload_n 1, 1) := by decide +kernel
theorem dX12_laysPlaces_41 : decode cX12_laysPlaces 41 = .ok (.iconst 0, 1) := by decide +kernel
theorem dX12_laysPlaces_42 : decode cX12_laysPlaces 42 = .ok (.iastore, 1) := by decide +kernel
theorem dX12_laysPlaces_43 : decode cX12_laysPlaces 43 = .ok (.aload_n 0, 1) := by decide +kernel
theorem dX12_laysPlaces_44 : decode cX12_laysPlaces 44 = .ok (.iload_n 1, 1) := by decide +kernel
theorem dX12_laysPlaces_45 : decode cX12_laysPlaces 45 = .ok (.bipush (-100), 2) := by decide +kernel
theorem dX12_laysPlaces_47 : decode cX12_laysPlaces 47 = .ok (.iconst 0, 1) := by decide +kernel
theorem dX12_laysPlaces_48 : decode cX12_laysPlaces 48 = .ok (.iconst 0, 1) := by decide +kernel
theorem dX12_laysPlaces_49 : decode cX12_laysPlaces 49 = .ok (.invokevirtual 365, 3) := by decide +kernel
theorem dX12_laysPlaces_52 : decode cX12_laysPlaces 52 = .ok (.iinc 1 1, 3) := by decide +kernel
theorem dX12_laysPlaces_55 : decode cX12_laysPlaces 55 = .ok (.goto (-53), 3) := by decide +kernel
theorem dX12_laysPlaces_58 : decode cX12_laysPlaces 58 = .ok (.bipush 12, 2) := by decide +kernel
theorem dX12_laysPlaces_60 : decode cX12_laysPlaces 60 = .ok (.aload_n 0, 1) := by decide +kernel
theorem dX12_laysPlaces_61 : decode cX12_laysPlaces 61 = .ok (.getfield 279, 3) := by decide +kernel
theorem dX12_laysPlaces_64 : decode cX12_laysPlaces 64 = .ok (.imul, 1) := by decide +kernel
theorem dX12_laysPlaces_65 : decode cX12_laysPlaces 65 = .ok (.istore_n 1, 1) := by decide +kernel
theorem dX12_laysPlaces_66 : decode cX12_laysPlaces 66 = .ok (.iload_n 1, 1) := by decide +kernel
theorem dX12_laysPlaces_67 : decode cX12_laysPlaces 67 = .ok (.bipush 12, 2) := by decide +kernel
theorem dX12_laysPlaces_69 : decode cX12_laysPlaces 69 = .ok (.aload_n 0, 1) := by decide +kernel
theorem dX12_laysPlaces_70 : decode cX12_laysPlaces 70 = .ok (.getfield 279, 3) := by decide +kernel
theorem dX12_laysPlaces_73 : decode cX12_laysPlaces 73 = .ok (.imul, 1) := by decide +kernel
theorem dX12_laysPlaces_74 : decode cX12_laysPlaces 74 = .ok (.aload_n 0, 1) := by decide +kernel
theorem dX12_laysPlaces_75 : decode cX12_laysPlaces 75 = .ok (.getfield 7, 3) := by decide +kernel
theorem dX12_laysPlaces_78 : decode cX12_laysPlaces 78 = .ok (.aload_n 0, 1) := by decide +kernel
theorem dX12_laysPlaces_79 : decode cX12_laysPlaces 79 = .ok (.getfield 279, 3) := by decide +kernel
theorem dX12_laysPlaces_82 : decode cX12_laysPlaces 82 = .ok (.iaload, 1) := by decide +kernel
theorem dX12_laysPlaces_83 : decode cX12_laysPlaces 83 = .ok (.iadd, 1) := by decide +kernel
theorem dX12_laysPlaces_84 : decode cX12_laysPlaces 84 = .ok (.if_icmp .ge 114, 3) := by decide +kernel
theorem dX12_laysPlaces_87 : decode cX12_laysPlaces 87 = .ok (.aload_n 0, 1) := by decide +kernel
theorem dX12_laysPlaces_88 : decode cX12_laysPlaces 88 = .ok (.iload_n 1, 1) := by decide +kernel
theorem dX12_laysPlaces_89 : decode cX12_laysPlaces 89 = .ok (.invokevirtual 350, 3) := by decide +kernel
theorem dX12_laysPlaces_92 : decode cX12_laysPlaces 92 = .ok (.ifCond .eq 22, 3) := by decide +kernel
theorem dX12_laysPlaces_95 : decode cX12_laysPlaces 95 = .ok (.aload_n 0, 1) := by decide +kernel
theorem dX12_laysPlaces_96 : decode cX12_laysPlaces 96 = .ok (.getfield 13, 3) := by decide +kernel
theorem dX12_laysPlaces_99 : decode cX12_laysPlaces 99 = .ok (.iload_n 1, 1) := by decide +kernel
theorem dX12_laysPlaces_100 : decode cX12_laysPlaces 100 = .ok (.iaload, 1) := by decide +kernel
theorem dX12_laysPlaces_101 : decode cX12_laysPlaces 101 = .ok (.bipush 6, 2) := by decide +kernel
theorem dX12_laysPlaces_103 : decode cX12_laysPlaces 103 = .ok (.if_icmp .ne 11, 3) := by decide +kernel
theorem dX12_laysPlaces_106 : decode cX12_laysPlaces 106 = .ok (.aload_n 0, 1) := by decide +kernel
theorem dX12_laysPlaces_107 : decode cX12_laysPlaces 107 = .ok (.iload_n 1, 1) := by decide +kernel
theorem dX12_laysPlaces_108 : decode cX12_laysPlaces 108 = .ok (.invokevirtual 368, 3) := by decide +kernel
theorem dX12_laysPlaces_111 : decode cX12_laysPlaces 111 = .ok (.goto 81, 3) := by decide +kernel
theorem dX12_laysPlaces_114 : decode cX12_laysPlaces 114 = .ok (.aload_n 0, 1) := by decide +kernel
theorem dX12_laysPlaces_115 : decode cX12_laysPlaces 115 = .ok (.iload_n 1, 1) := by decide +kernel
theorem dX12_laysPlaces_116 : decode cX12_laysPlaces 116 = .ok (.invokevirtual 350, 3) := by decide +kernel
theorem dX12_laysPlaces_119 : decode cX12_laysPlaces 119 = .ok (.ifCond .eq 22, 3) := by decide +kernel
theorem dX12_laysPlaces_122 : decode cX12_laysPlaces 122 = .ok (.aload_n 0, 1) := by decide +kernel
theorem dX12_laysPlaces_123 : decode cX12_laysPlaces 123 = .ok (.getfield 13, 3) := by decide +kernel
theorem dX12_laysPlaces_126 : decode cX12_laysPlaces 126 = .ok (.iload_n 1, 1) := by decide +kernel
theorem dX12_laysPlaces_127 : decode cX12_laysPlaces 127 = .ok (.iaload, 1) := by decide +kernel
theorem dX12_laysPlaces_128 : decode cX12_laysPlaces 128 = .ok (.bipush 7, 2) := by decide +kernel
theorem dX12_laysPlaces_130 : decode cX12_laysPlaces 130 = .ok (.if_icmp .ne 11, 3) := by decide +kernel
theorem dX12_laysPlaces_133 : decode cX12_laysPlaces 133 = .ok (.aload_n 0, 1) := by decide +kernel
theorem dX12_laysPlaces_134 : decode cX12_laysPlaces 134 = .ok (.iload_n 1, 1) := by decide +kernel
theorem dX12_laysPlaces_135 : decode cX12_laysPlaces 135 = .ok (.invokevirtual 371, 3) := by decide +kernel
theorem dX12_laysPlaces_138 : decode cX12_laysPlaces 138 = .ok (.goto 54, 3) := by decide +kernel
theorem dX12_laysPlaces_141 : decode cX12_laysPlaces 141 = .ok (.aload_n 0, 1) := by decide +kernel
theorem dX12_laysPlaces_142 : decode cX12_laysPlaces 142 = .ok (.iload_n 1, 1) := by decide +kernel
theorem dX12_laysPlaces_143 : decode cX12_laysPlaces 143 = .ok (.invokevirtual 350, 3) := by decide +kernel
theorem dX12_laysPlaces_146 : decode cX12_laysPlaces 146 = .ok (.ifCond .eq 22, 3) := by decide +kernel
theorem dX12_laysPlaces_149 : decode cX12_laysPlaces 149 = .ok (.aload_n 0, 1) := by decide +kernel
theorem dX12_laysPlaces_150 : decode cX12_laysPlaces 150 = .ok (.getfield 13, 3) := by decide +kernel
theorem dX12_laysPlaces_153 : decode cX12_laysPlaces 153 = .ok (.iload_n 1, 1) := by decide +kernel
theorem dX12_laysPlaces_154 : decode cX12_laysPlaces 154 = .ok (.iaload, 1) := by decide +kernel
theorem dX12_laysPlaces_155 : decode cX12_laysPlaces 155 = .ok (.bipush 8, 2) := by decide +kernel
theorem dX12_laysPlaces_157 : decode cX12_laysPlaces 157 = .ok (.if_icmp .ne 11, 3) := by decide +kernel
theorem dX12_laysPlaces_160 : decode cX12_laysPlaces 160 = .ok (.aload_n 0, 1) := by decide +kernel
theorem dX12_laysPlaces_161 : decode cX12_laysPlaces 161 = .ok (.iload_n 1, 1) := by decide +kernel
theorem dX12_laysPlaces_162 : decode cX12_laysPlaces 162 = .ok (.invokevirtual 374, 3) := by decide +kernel
theorem dX12_laysPlaces_165 : decode cX12_laysPlaces 165 = .ok (.goto 27, 3) := by decide +kernel
theorem dX12_laysPlaces_168 : decode cX12_laysPlaces 168 = .ok (.aload_n 0, 1) := by decide +kernel
theorem dX12_laysPlaces_169 : decode cX12_laysPlaces 169 = .ok (.iload_n 1, 1) := by decide +kernel
theorem dX12_laysPlaces_170 : decode cX12_laysPlaces 170 = .ok (.invokevirtual 350, 3) := by decide +kernel
theorem dX12_laysPlaces_173 : decode cX12_laysPlaces 173 = .ok (.ifCond .eq 19, 3) := by decide +kernel
theorem dX12_laysPlaces_176 : decode cX12_laysPlaces 176 = .ok (.aload_n 0, 1) := by decide +kernel
theorem dX12_laysPlaces_177 : decode cX12_laysPlaces 177 = .ok (.getfield 13, 3) := by decide +kernel
theorem dX12_laysPlaces_180 : decode cX12_laysPlaces 180 = .ok (.iload_n 1, 1) := by decide +kernel
theorem dX12_laysPlaces_181 : decode cX12_laysPlaces 181 = .ok (.iaload, 1) := by decide +kernel
theorem dX12_laysPlaces_182 : decode cX12_laysPlaces 182 = .ok (.bipush 9, 2) := by decide +kernel
theorem dX12_laysPlaces_184 : decode cX12_laysPlaces 184 = .ok (.if_icmp .ne 8, 3) := by decide +kernel
theorem dX12_laysPlaces_187 : decode cX12_laysPlaces 187 = .ok (.aload_n 0, 1) := by decide +kernel
theorem dX12_laysPlaces_188 : decode cX12_laysPlaces 188 = .ok (.iload_n 1, 1) := by decide +kernel
theorem dX12_laysPlaces_189 : decode cX12_laysPlaces 189 = .ok (.invokevirtual 377, 3) := by decide +kernel
theorem dX12_laysPlaces_192 : decode cX12_laysPlaces 192 = .ok (.iinc 1 1, 3) := by decide +kernel
theorem dX12_laysPlaces_195 : decode cX12_laysPlaces 195 = .ok (.goto (-129), 3) := by decide +kernel
theorem dX12_laysPlaces_198 : decode cX12_laysPlaces 198 = .ok (.return_, 1) := by decide +kernel
theorem dX12_wide_0 : decode cX12_wide 0 = .ok (.iconst 0, 1) := by decide +kernel
theorem dX12_wide_1 : decode cX12_wide 1 = .ok (.istore_n 1, 1) := by decide +kernel
theorem dX12_wide_2 : decode cX12_wide 2 = .ok (.iconst 0, 1) := by decide +kernel
theorem dX12_wide_3 : decode cX12_wide 3 = .ok (.istore_n 2, 1) := by decide +kernel
theorem dX12_wide_4 : decode cX12_wide 4 = .ok (.iload_n 2, 1) := by decide +kernel
theorem dX12_wide_5 : decode cX12_wide 5 = .ok (.aload_n 0, 1) := by decide +kernel
theorem dX12_wide_6 : decode cX12_wide 6 = .ok (.getfield 235, 3) := by decide +kernel
theorem dX12_wide_9 : decode cX12_wide 9 = .ok (.if_icmp .ge 18, 3) := by decide +kernel
theorem dX12_wide_12 : decode cX12_wide 12 = .ok (.iload_n 1, 1) := by decide +kernel
theorem dX12_wide_13 : decode cX12_wide 13 = .ok (.aload_n 0, 1) := by decide +kernel
theorem dX12_wide_14 : decode cX12_wide 14 = .ok (.getfield 84, 3) := by decide +kernel
theorem dX12_wide_17 : decode cX12_wide 17 = .ok (.iload_n 2, 1) := by decide +kernel
theorem dX12_wide_18 : decode cX12_wide 18 = .ok (.iaload, 1) := by decide +kernel
theorem dX12_wide_19 : decode cX12_wide 19 = .ok (.iadd, 1) := by decide +kernel
theorem dX12_wide_20 : decode cX12_wide 20 = .ok (.istore_n 1, 1) := by decide +kernel
theorem dX12_wide_21 : decode cX12_wide 21 = .ok (.iinc 2 1, 3) := by decide +kernel
theorem dX12_wide_24 : decode cX12_wide 24 = .ok (.goto (-20), 3) := by decide +kernel
theorem dX12_wide_27 : decode cX12_wide 27 = .ok (.iload_n 1, 1) := by decide +kernel
theorem dX12_wide_28 : decode cX12_wide 28 = .ok (.ireturn, 1) := by decide +kernel
theorem dX12_stands_0 : decode cX12_stands 0 = .ok (.iconst 0, 1) := by decide +kernel
theorem dX12_stands_1 : decode cX12_stands 1 = .ok (.istore_n 3, 1) := by decide +kernel
theorem dX12_stands_2 : decode cX12_stands 2 = .ok (.aload_n 0, 1) := by decide +kernel
theorem dX12_stands_3 : decode cX12_stands 3 = .ok (.invokevirtual 380, 3) := by decide +kernel
theorem dX12_stands_6 : decode cX12_stands 6 = .ok (.istore 4, 2) := by decide +kernel
theorem dX12_stands_8 : decode cX12_stands 8 = .ok (.iconst 0, 1) := by decide +kernel
theorem dX12_stands_9 : decode cX12_stands 9 = .ok (.istore 5, 2) := by decide +kernel
theorem dX12_stands_11 : decode cX12_stands 11 = .ok (.iload 5, 2) := by decide +kernel
theorem dX12_stands_13 : decode cX12_stands 13 = .ok (.aload_n 0, 1) := by decide +kernel
theorem dX12_stands_14 : decode cX12_stands 14 = .ok (.getfield 235, 3) := by decide +kernel
theorem dX12_stands_17 : decode cX12_stands 17 = .ok (.if_icmp .ge 111, 3) := by decide +kernel
theorem dX12_stands_20 : decode cX12_stands 20 = .ok (.iload_n 3, 1) := by decide +kernel
theorem dX12_stands_21 : decode cX12_stands 21 = .ok (.aload_n 0, 1) := by decide +kernel
theorem dX12_stands_22 : decode cX12_stands 22 = .ok (.getfield 84, 3) := by decide +kernel
theorem dX12_stands_25 : decode cX12_stands 25 = .ok (.iload 5, 2) := by decide +kernel
theorem dX12_stands_27 : decode cX12_stands 27 = .ok (.iaload, 1) := by decide +kernel
theorem dX12_stands_28 : decode cX12_stands 28 = .ok (.iadd, 1) := by decide +kernel
theorem dX12_stands_29 : decode cX12_stands 29 = .ok (.istore 6, 2) := by decide +kernel
theorem dX12_stands_31 : decode cX12_stands 31 = .ok (.aload_n 0, 1) := by decide +kernel
theorem dX12_stands_32 : decode cX12_stands 32 = .ok (.getfield 99, 3) := by decide +kernel
theorem dX12_stands_35 : decode cX12_stands 35 = .ok (.iload 5, 2) := by decide +kernel
theorem dX12_stands_37 : decode cX12_stands 37 = .ok (.iload_n 2, 1) := by decide +kernel
theorem dX12_stands_38 : decode cX12_stands 38 = .ok (.iload_n 1, 1) := by decide +kernel
theorem dX12_stands_39 : decode cX12_stands 39 = .ok (.ifCond .eq 11, 3) := by decide +kernel
theorem dX12_stands_42 : decode cX12_stands 42 = .ok (.iload 4, 2) := by decide +kernel
theorem dX12_stands_44 : decode cX12_stands 44 = .ok (.iload 6, 2) := by decide +kernel
theorem dX12_stands_46 : decode cX12_stands 46 = .ok (.isub, 1) := by decide +kernel
theorem dX12_stands_47 : decode cX12_stands 47 = .ok (.goto 4, 3) := by decide +kernel
theorem dX12_stands_50 : decode cX12_stands 50 = .ok (.iload_n 3, 1) := by decide +kernel
theorem dX12_stands_51 : decode cX12_stands 51 = .ok (.iadd, 1) := by decide +kernel
theorem dX12_stands_52 : decode cX12_stands 52 = .ok (.iastore, 1) := by decide +kernel
theorem dX12_stands_53 : decode cX12_stands 53 = .ok (.iload 6, 2) := by decide +kernel
theorem dX12_stands_55 : decode cX12_stands 55 = .ok (.istore_n 3, 1) := by decide +kernel
theorem dX12_stands_56 : decode cX12_stands 56 = .ok (.aload_n 0, 1) := by decide +kernel
theorem dX12_stands_57 : decode cX12_stands 57 = .ok (.getfield 90, 3) := by decide +kernel
theorem dX12_stands_60 : decode cX12_stands 60 = .ok (.iload 5, 2) := by decide +kernel
theorem dX12_stands_62 : decode cX12_stands 62 = .ok (.iaload, 1) := by decide +kernel
theorem dX12_stands_63 : decode cX12_stands 63 = .ok (.bipush (-100), 2) := by decide +kernel
theorem dX12_stands_65 : decode cX12_stands 65 = .ok (.if_icmp .eq 57, 3) := by decide +kernel
theorem dX12_stands_68 : decode cX12_stands 68 = .ok (.aload_n 0, 1) := by decide +kernel
theorem dX12_stands_69 : decode cX12_stands 69 = .ok (.getfield 99, 3) := by decide +kernel
theorem dX12_stands_72 : decode cX12_stands 72 = .ok (.iload 5, 2) := by decide +kernel
theorem dX12_stands_74 : decode cX12_stands 74 = .ok (.aload_n 0, 1) := by decide +kernel
theorem dX12_stands_75 : decode cX12_stands 75 = .ok (.getfield 99, 3) := by decide +kernel
theorem dX12_stands_78 : decode cX12_stands 78 = .ok (.aload_n 0, 1) := by decide +kernel
theorem dX12_stands_79 : decode cX12_stands 79 = .ok (.getfield 90, 3) := by decide +kernel
theorem dX12_stands_82 : decode cX12_stands 82 = .ok (.iload 5, 2) := by decide +kernel
theorem dX12_stands_84 : decode cX12_stands 84 = .ok (.iaload, 1) := by decide +kernel
theorem dX12_stands_85 : decode cX12_stands 85 = .ok (.iaload, 1) := by decide +kernel
theorem dX12_stands_86 : decode cX12_stands 86 = .ok (.aload_n 0, 1) := by decide +kernel
theorem dX12_stands_87 : decode cX12_stands 87 = .ok (.getfield 93, 3) := by decide +kernel
theorem dX12_stands_90 : decode cX12_stands 90 = .ok (.iload 5, 2) := by decide +kernel
theorem dX12_stands_92 : decode cX12_stands 92 = .ok (.iaload, 1) := by decide +kernel
theorem dX12_stands_93 : decode cX12_stands 93 = .ok (.iadd, 1) := by decide +kernel
theorem dX12_stands_94 : decode cX12_stands 94 = .ok (.iastore, 1) := by decide +kernel
theorem dX12_stands_95 : decode cX12_stands 95 = .ok (.aload_n 0, 1) := by decide +kernel
theorem dX12_stands_96 : decode cX12_stands 96 = .ok (.getfield 87, 3) := by decide +kernel
theorem dX12_stands_99 : decode cX12_stands 99 = .ok (.iload 5, 2) := by decide +kernel
theorem dX12_stands_101 : decode cX12_stands 101 = .ok (.aload_n 0, 1) := by decide +kernel
theorem dX12_stands_102 : decode cX12_stands 102 = .ok (.getfield 87, 3) := by decide +kernel
theorem dX12_stands_105 : decode cX12_stands 105 = .ok (.aload_n 0, 1) := by decide +kernel
theorem dX12_stands_106 : decode cX12_stands 106 = .ok (.getfield 90, 3) := by decide +kernel
theorem dX12_stands_109 : decode cX12_stands 109 = .ok (.iload 5, 2) := by decide +kernel
theorem dX12_stands_111 : decode cX12_stands 111 = .ok (.iaload, 1) := by decide +kernel
theorem dX12_stands_112 : decode cX12_stands 112 = .ok (.iaload, 1) := by decide +kernel
theorem dX12_stands_113 : decode cX12_stands 113 = .ok (.aload_n 0, 1) := by decide +kernel
theorem dX12_stands_114 : decode cX12_stands 114 = .ok (.getfield 96, 3) := by decide +kernel
theorem dX12_stands_117 : decode cX12_stands 117 = .ok (.iload 5, 2) := by decide +kernel
theorem dX12_stands_119 : decode cX12_stands 119 = .ok (.iaload, 1) := by decide +kernel
theorem dX12_stands_120 : decode cX12_stands 120 = .ok (.iadd, 1) := by decide +kernel
theorem dX12_stands_121 : decode cX12_stands 121 = .ok (.iastore, 1) := by decide +kernel
theorem dX12_stands_122 : decode cX12_stands 122 = .ok (.iinc 5 1, 3) := by decide +kernel
theorem dX12_stands_125 : decode cX12_stands 125 = .ok (.goto (-114), 3) := by decide +kernel
theorem dX12_stands_128 : decode cX12_stands 128 = .ok (.return_, 1) := by decide +kernel
theorem dX12_shapesRun_0 : decode cX12_shapesRun 0 = .ok (.aload_n 0, 1) := by decide +kernel
theorem dX12_shapesRun_1 : decode cX12_shapesRun 1 = .ok (.iconst 0, 1) := by decide +kernel
theorem dX12_shapesRun_2 : decode cX12_shapesRun 2 = .ok (.putfield 235, 3) := by decide +kernel
theorem dX12_shapesRun_5 : decode cX12_shapesRun 5 = .ok (.aload_n 0, 1) := by decide +kernel
theorem dX12_shapesRun_6 : decode cX12_shapesRun 6 = .ok (.aload_n 0, 1) := by decide +kernel
theorem dX12_shapesRun_7 : decode cX12_shapesRun 7 = .ok (.getfield 60, 3) := by decide +kernel
theorem dX12_shapesRun_10 : decode cX12_shapesRun 10 = .ok (.iload_n 1, 1) := by decide +kernel
theorem dX12_shapesRun_11 : decode cX12_shapesRun 11 = .ok (.iaload, 1) := by decide +kernel
theorem dX12_shapesRun_12 : decode cX12_shapesRun 12 = .ok (.putfield 279, 3) := by decide +kernel
theorem dX12_shapesRun_15 : decode cX12_shapesRun 15 = .ok (.aload_n 0, 1) := by decide +kernel
theorem dX12_shapesRun_16 : decode cX12_shapesRun 16 = .ok (.getfield 57, 3) := by decide +kernel
theorem dX12_shapesRun_19 : decode cX12_shapesRun 19 = .ok (.iload_n 1, 1) := by decide +kernel
theorem dX12_shapesRun_20 : decode cX12_shapesRun 20 = .ok (.iaload, 1) := by decide +kernel
theorem dX12_shapesRun_21 : decode cX12_shapesRun 21 = .ok (.ifCond .ne 7, 3) := by decide +kernel
theorem dX12_shapesRun_24 : decode cX12_shapesRun 24 = .ok (.iconst 1, 1) := by decide +kernel
theorem dX12_shapesRun_25 : decode cX12_shapesRun 25 = .ok (.goto 4, 3) := by decide +kernel
theorem dX12_shapesRun_28 : decode cX12_shapesRun 28 = .ok (.iconst 0, 1) := by decide +kernel
theorem dX12_shapesRun_29 : decode cX12_shapesRun 29 = .ok (.istore 4, 2) := by decide +kernel
theorem dX12_shapesRun_31 : decode cX12_shapesRun 31 = .ok (.iload 4, 2) := by decide +kernel
theorem dX12_shapesRun_33 : decode cX12_shapesRun 33 = .ok (.ifCond .eq 12, 3) := by decide +kernel
theorem dX12_shapesRun_36 : decode cX12_shapesRun 36 = .ok (.aload_n 0, 1) := by decide +kernel
theorem dX12_shapesRun_37 : decode cX12_shapesRun 37 = .ok (.iload_n 1, 1) := by decide +kernel
theorem dX12_shapesRun_38 : decode cX12_shapesRun 38 = .ok (.iload_n 2, 1) := by decide +kernel
theorem dX12_shapesRun_39 : decode cX12_shapesRun 39 = .ok (.invokevirtual 384, 3) := by decide +kernel
theorem dX12_shapesRun_42 : decode cX12_shapesRun 42 = .ok (.goto 9, 3) := by decide +kernel
theorem dX12_shapesRun_45 : decode cX12_shapesRun 45 = .ok (.aload_n 0, 1) := by decide +kernel
theorem dX12_shapesRun_46 : decode cX12_shapesRun 46 = .ok (.iload_n 1, 1) := by decide +kernel
theorem dX12_shapesRun_47 : decode cX12_shapesRun 47 = .ok (.iload_n 2, 1) := by decide +kernel
theorem dX12_shapesRun_48 : decode cX12_shapesRun 48 = .ok (.invokevirtual 387, 3) := by decide +kernel
theorem dX12_shapesRun_51 : decode cX12_shapesRun 51 = .ok (.aload_n 0, 1) := by decide +kernel
theorem dX12_shapesRun_52 : decode cX12_shapesRun 52 = .ok (.iconst 0, 1) := by decide +kernel
theorem dX12_shapesRun_53 : decode cX12_shapesRun 53 = .ok (.invokevirtual 390, 3) := by decide +kernel
theorem dX12_shapesRun_56 : decode cX12_shapesRun 56 = .ok (.iload 4, 2) := by decide +kernel
theorem dX12_shapesRun_58 : decode cX12_shapesRun 58 = .ok (.ifCond .ne 7, 3) := by decide +kernel
theorem dX12_shapesRun_61 : decode cX12_shapesRun 61 = .ok (.aload_n 0, 1) := by decide +kernel
theorem dX12_shapesRun_62 : decode cX12_shapesRun 62 = .ok (.invokevirtual 393, 3) := by decide +kernel
theorem dX12_shapesRun_65 : decode cX12_shapesRun 65 = .ok (.aload_n 0, 1) := by decide +kernel
theorem dX12_shapesRun_66 : decode cX12_shapesRun 66 = .ok (.iconst 1, 1) := by decide +kernel
theorem dX12_shapesRun_67 : decode cX12_shapesRun 67 = .ok (.invokevirtual 390, 3) := by decide +kernel
theorem dX12_shapesRun_70 : decode cX12_shapesRun 70 = .ok (.aload_n 0, 1) := by decide +kernel
theorem dX12_shapesRun_71 : decode cX12_shapesRun 71 = .ok (.invokevirtual 396, 3) := by decide +kernel
theorem dX12_shapesRun_74 : decode cX12_shapesRun 74 = .ok (.aload_n 0, 1) := by decide +kernel
theorem dX12_shapesRun_75 : decode cX12_shapesRun 75 = .ok (.invokevirtual 399, 3) := by decide +kernel
theorem dX12_shapesRun_78 : decode cX12_shapesRun 78 = .ok (.aload_n 0, 1) := by decide +kernel
theorem dX12_shapesRun_79 : decode cX12_shapesRun 79 = .ok (.iload 4, 2) := by decide +kernel
theorem dX12_shapesRun_81 : decode cX12_shapesRun 81 = .ok (.iload_n 3, 1) := by decide +kernel
theorem dX12_shapesRun_82 : decode cX12_shapesRun 82 = .ok (.invokevirtual 402, 3) := by decide +kernel
theorem dX12_shapesRun_85 : decode cX12_shapesRun 85 = .ok (.iconst 0, 1) := by decide +kernel
theorem dX12_shapesRun_86 : decode cX12_shapesRun 86 = .ok (.istore 5, 2) := by decide +kernel
theorem dX12_shapesRun_88 : decode cX12_shapesRun 88 = .ok (.iload 5, 2) := by decide +kernel
theorem dX12_shapesRun_90 : decode cX12_shapesRun 90 = .ok (.aload_n 0, 1) := by decide +kernel
theorem dX12_shapesRun_91 : decode cX12_shapesRun 91 = .ok (.getfield 235, 3) := by decide +kernel
theorem dX12_shapesRun_94 : decode cX12_shapesRun 94 = .ok (.if_icmp .ge 152, 3) := by decide +kernel
theorem dX12_shapesRun_97 : decode cX12_shapesRun 97 = .ok (.aload_n 0, 1) := by decide +kernel
theorem dX12_shapesRun_98 : decode cX12_shapesRun 98 = .ok (.getfield 406, 3) := by decide +kernel
theorem dX12_shapesRun_101 : decode cX12_shapesRun 101 = .ok (.iload 5, 2) := by decide +kernel
theorem dX12_shapesRun_103 : decode cX12_shapesRun 103 = .ok (.iadd, 1) := by decide +kernel
theorem dX12_shapesRun_104 : decode cX12_shapesRun 104 = .ok (.istore 6, 2) := by decide +kernel
theorem dX12_shapesRun_106 : decode cX12_shapesRun 106 = .ok (.aload_n 0, 1) := by decide +kernel
theorem dX12_shapesRun_107 : decode cX12_shapesRun 107 = .ok (.getfield 102, 3) := by decide +kernel
theorem dX12_shapesRun_110 : decode cX12_shapesRun 110 = .ok (.iload 6, 2) := by decide +kernel
theorem dX12_shapesRun_112 : decode cX12_shapesRun 112 = .ok (.aload_n 0, 1) := by decide +kernel
theorem dX12_shapesRun_113 : decode cX12_shapesRun 113 = .ok (.getfield 63, 3) := by decide +kernel
theorem dX12_shapesRun_116 : decode cX12_shapesRun 116 = .ok (.iload 5, 2) := by decide +kernel
theorem dX12_shapesRun_118 : decode cX12_shapesRun 118 = .ok (.iaload, 1) := by decide +kernel
theorem dX12_shapesRun_119 : decode cX12_shapesRun 119 = .ok (.iastore, 1) := by decide +kernel
theorem dX12_shapesRun_120 : decode cX12_shapesRun 120 = .ok (.aload_n 0, 1) := by decide +kernel
theorem dX12_shapesRun_121 : decode cX12_shapesRun 121 = .ok (.getfield 105, 3) := by decide +kernel
theorem dX12_shapesRun_124 : decode cX12_shapesRun 124 = .ok (.iload 6, 2) := by decide +kernel
theorem dX12_shapesRun_126 : decode cX12_shapesRun 126 = .ok (.aload_n 0, 1) := by decide +kernel
theorem dX12_shapesRun_127 : decode cX12_shapesRun 127 = .ok (.getfield 66, 3) := by decide +kernel
theorem dX12_shapesRun_130 : decode cX12_shapesRun 130 = .ok (.iload 5, 2) := by decide +kernel
theorem dX12_shapesRun_132 : decode cX12_shapesRun 132 = .ok (.iaload, 1) := by decide +kernel
theorem dX12_shapesRun_133 : decode cX12_shapesRun 133 = .ok (.iastore, 1) := by decide +kernel
theorem dX12_shapesRun_134 : decode cX12_shapesRun 134 = .ok (.aload_n 0, 1) := by decide +kernel
theorem dX12_shapesRun_135 : decode cX12_shapesRun 135 = .ok (.getfield 108, 3) := by decide +kernel
theorem dX12_shapesRun_138 : decode cX12_shapesRun 138 = .ok (.iload 6, 2) := by decide +kernel
theorem dX12_shapesRun_140 : decode cX12_shapesRun 140 = .ok (.aload_n 0, 1) := by decide +kernel
theorem dX12_shapesRun_141 : decode cX12_shapesRun 141 = .ok (.getfield 84, 3) := by decide +kernel
theorem dX12_shapesRun_144 : decode cX12_shapesRun 144 = .ok (.iload 5, 2) := by decide +kernel
theorem dX12_shapesRun_146 : decode cX12_shapesRun 146 = .ok (.iaload, 1) := by decide +kernel
theorem dX12_shapesRun_147 : decode cX12_shapesRun 147 = .ok (.iastore, 1) := by decide +kernel
theorem dX12_shapesRun_148 : decode cX12_shapesRun 148 = .ok (.aload_n 0, 1) := by decide +kernel
theorem dX12_shapesRun_149 : decode cX12_shapesRun 149 = .ok (.getfield 111, 3) := by decide +kernel
theorem dX12_shapesRun_152 : decode cX12_shapesRun 152 = .ok (.iload 6, 2) := by decide +kernel
theorem dX12_shapesRun_154 : decode cX12_shapesRun 154 = .ok (.aload_n 0, 1) := by decide +kernel
theorem dX12_shapesRun_155 : decode cX12_shapesRun 155 = .ok (.getfield 87, 3) := by decide +kernel
theorem dX12_shapesRun_158 : decode cX12_shapesRun 158 = .ok (.iload 5, 2) := by decide +kernel
theorem dX12_shapesRun_160 : decode cX12_shapesRun 160 = .ok (.iaload, 1) := by decide +kernel
theorem dX12_shapesRun_161 : decode cX12_shapesRun 161 = .ok (.iastore, 1) := by decide +kernel
theorem dX12_shapesRun_162 : decode cX12_shapesRun 162 = .ok (.aload_n 0, 1) := by decide +kernel
theorem dX12_shapesRun_163 : decode cX12_shapesRun 163 = .ok (.getfield 114, 3) := by decide +kernel
theorem dX12_shapesRun_166 : decode cX12_shapesRun 166 = .ok (.iload 6, 2) := by decide +kernel
theorem dX12_shapesRun_168 : decode cX12_shapesRun 168 = .ok (.aload_n 0, 1) := by decide +kernel
theorem dX12_shapesRun_169 : decode cX12_shapesRun 169 = .ok (.getfield 99, 3) := by decide +kernel
theorem dX12_shapesRun_172 : decode cX12_shapesRun 172 = .ok (.iload 5, 2) := by decide +kernel
theorem dX12_shapesRun_174 : decode cX12_shapesRun 174 = .ok (.iaload, 1) := by decide +kernel
theorem dX12_shapesRun_175 : decode cX12_shapesRun 175 = .ok (.iastore, 1) := by decide +kernel
theorem dX12_shapesRun_176 : decode cX12_shapesRun 176 = .ok (.aload_n 0, 1) := by decide +kernel
theorem dX12_shapesRun_177 : decode cX12_shapesRun 177 = .ok (.getfield 117, 3) := by decide +kernel
theorem dX12_shapesRun_180 : decode cX12_shapesRun 180 = .ok (.iload 6, 2) := by decide +kernel
theorem dX12_shapesRun_182 : decode cX12_shapesRun 182 = .ok (.aload_n 0, 1) := by decide +kernel
theorem dX12_shapesRun_183 : decode cX12_shapesRun 183 = .ok (.getfield 90, 3) := by decide +kernel
theorem dX12_shapesRun_186 : decode cX12_shapesRun 186 = .ok (.iload 5, 2) := by decide +kernel
theorem dX12_shapesRun_188 : decode cX12_shapesRun 188 = .ok (.iaload, 1) := by decide +kernel
theorem dX12_shapesRun_189 : decode cX12_shapesRun 189 = .ok (.bipush (-100), 2) := by decide +kernel
theorem dX12_shapesRun_191 : decode cX12_shapesRun 191 = .ok (.if_icmp .ne 8, 3) := by decide +kernel
theorem dX12_shapesRun_194 : decode cX12_shapesRun 194 = .ok (.bipush (-100), 2) := by decide +kernel
theorem dX12_shapesRun_196 : decode cX12_shapesRun 196 = .ok (.goto 15, 3) := by decide +kernel
theorem dX12_shapesRun_199 : decode cX12_shapesRun 199 = .ok (.aload_n 0, 1) := by decide +kernel
theorem dX12_shapesRun_200 : decode cX12_shapesRun 200 = .ok (.getfield 406, 3) := by decide +kernel
theorem dX12_shapesRun_203 : decode cX12_shapesRun 203 = .ok (.aload_n 0, 1) := by decide +kernel
theorem dX12_shapesRun_204 : decode cX12_shapesRun 204 = .ok (.getfield 90, 3) := by decide +kernel
theorem dX12_shapesRun_207 : decode cX12_shapesRun 207 = .ok (.iload 5, 2) := by decide +kernel
theorem dX12_shapesRun_209 : decode cX12_shapesRun 209 = .ok (.iaload, 1) := by decide +kernel
theorem dX12_shapesRun_210 : decode cX12_shapesRun 210 = .ok (.iadd, 1) := by decide +kernel
theorem dX12_shapesRun_211 : decode cX12_shapesRun 211 = .ok (.iastore, 1) := by decide +kernel
theorem dX12_shapesRun_212 : decode cX12_shapesRun 212 = .ok (.aload_n 0, 1) := by decide +kernel
theorem dX12_shapesRun_213 : decode cX12_shapesRun 213 = .ok (.getfield 120, 3) := by decide +kernel
theorem dX12_shapesRun_216 : decode cX12_shapesRun 216 = .ok (.iload 6, 2) := by decide +kernel
theorem dX12_shapesRun_218 : decode cX12_shapesRun 218 = .ok (.aload_n 0, 1) := by decide +kernel
theorem dX12_shapesRun_219 : decode cX12_shapesRun 219 = .ok (.getfield 93, 3) := by decide +kernel
theorem dX12_shapesRun_222 : decode cX12_shapesRun 222 = .ok (.iload 5, 2) := by decide +kernel
theorem dX12_shapesRun_224 : decode cX12_shapesRun 224 = .ok (.iaload, 1) := by decide +kernel
theorem dX12_shapesRun_225 : decode cX12_shapesRun 225 = .ok (.iastore, 1) := by decide +kernel
theorem dX12_shapesRun_226 : decode cX12_shapesRun 226 = .ok (.aload_n 0, 1) := by decide +kernel
theorem dX12_shapesRun_227 : decode cX12_shapesRun 227 = .ok (.getfield 123, 3) := by decide +kernel
theorem dX12_shapesRun_230 : decode cX12_shapesRun 230 = .ok (.iload 6, 2) := by decide +kernel
theorem dX12_shapesRun_232 : decode cX12_shapesRun 232 = .ok (.aload_n 0, 1) := by decide +kernel
theorem dX12_shapesRun_233 : decode cX12_shapesRun 233 = .ok (.getfield 96, 3) := by decide +kernel
theorem dX12_shapesRun_236 : decode cX12_shapesRun 236 = .ok (.iload 5, 2) := by decide +kernel
theorem dX12_shapesRun_238 : decode cX12_shapesRun 238 = .ok (.iaload, 1) := by decide +kernel
theorem dX12_shapesRun_239 : decode cX12_shapesRun 239 = .ok (.iastore, 1) := by decide +kernel
theorem dX12_shapesRun_240 : decode cX12_shapesRun 240 = .ok (.iinc 5 1, 3) := by decide +kernel
theorem dX12_shapesRun_243 : decode cX12_shapesRun 243 = .ok (.goto (-155), 3) := by decide +kernel
theorem dX12_shapesRun_246 : decode cX12_shapesRun 246 = .ok (.aload_n 0, 1) := by decide +kernel
theorem dX12_shapesRun_247 : decode cX12_shapesRun 247 = .ok (.dup, 1) := by decide +kernel
theorem dX12_shapesRun_248 : decode cX12_shapesRun 248 = .ok (.getfield 406, 3) := by decide +kernel
theorem dX12_shapesRun_251 : decode cX12_shapesRun 251 = .ok (.aload_n 0, 1) := by decide +kernel
theorem dX12_shapesRun_252 : decode cX12_shapesRun 252 = .ok (.getfield 235, 3) := by decide +kernel
theorem dX12_shapesRun_255 : decode cX12_shapesRun 255 = .ok (.iadd, 1) := by decide +kernel
theorem dX12_shapesRun_256 : decode cX12_shapesRun 256 = .ok (.putfield 406, 3) := by decide +kernel
theorem dX12_shapesRun_259 : decode cX12_shapesRun 259 = .ok (.return_, 1) := by decide +kernel
theorem dX12_shapes_0 : decode cX12_shapes 0 = .ok (.aload_n 0, 1) := by decide +kernel
theorem dX12_shapes_1 : decode cX12_shapes 1 = .ok (.iload_n 1, 1) := by decide +kernel
theorem dX12_shapes_2 : decode cX12_shapes 2 = .ok (.iload_n 2, 1) := by decide +kernel
theorem dX12_shapes_3 : decode cX12_shapes 3 = .ok (.invokevirtual 409, 3) := by decide +kernel
theorem dX12_shapes_6 : decode cX12_shapes 6 = .ok (.iconst 0, 1) := by decide +kernel
theorem dX12_shapes_7 : decode cX12_shapes 7 = .ok (.istore_n 3, 1) := by decide +kernel
theorem dX12_shapes_8 : decode cX12_shapes 8 = .ok (.iload_n 1, 1) := by decide +kernel
theorem dX12_shapes_9 : decode cX12_shapes 9 = .ok (.istore 4, 2) := by decide +kernel
theorem dX12_shapes_11 : decode cX12_shapes 11 = .ok (.iload 4, 2) := by decide +kernel
theorem dX12_shapes_13 : decode cX12_shapes 13 = .ok (.iload_n 2, 1) := by decide +kernel
theorem dX12_shapes_14 : decode cX12_shapes 14 = .ok (.if_icmp .ge 80, 3) := by decide +kernel
theorem dX12_shapes_17 : decode cX12_shapes 17 = .ok (.aload_n 0, 1) := by decide +kernel
theorem dX12_shapes_18 : decode cX12_shapes 18 = .ok (.getfield 126, 3) := by decide +kernel
theorem dX12_shapes_21 : decode cX12_shapes 21 = .ok (.aload_n 0, 1) := by decide +kernel
theorem dX12_shapes_22 : decode cX12_shapes 22 = .ok (.getfield 412, 3) := by decide +kernel
theorem dX12_shapes_25 : decode cX12_shapes 25 = .ok (.iload 4, 2) := by decide +kernel
theorem dX12_shapes_27 : decode cX12_shapes 27 = .ok (.iastore, 1) := by decide +kernel
theorem dX12_shapes_28 : decode cX12_shapes 28 = .ok (.aload_n 0, 1) := by decide +kernel
theorem dX12_shapes_29 : decode cX12_shapes 29 = .ok (.getfield 129, 3) := by decide +kernel
theorem dX12_shapes_32 : decode cX12_shapes 32 = .ok (.aload_n 0, 1) := by decide +kernel
theorem dX12_shapes_33 : decode cX12_shapes 33 = .ok (.getfield 412, 3) := by decide +kernel
theorem dX12_shapes_36 : decode cX12_shapes 36 = .ok (.aload_n 0, 1) := by decide +kernel
theorem dX12_shapes_37 : decode cX12_shapes 37 = .ok (.getfield 406, 3) := by decide +kernel
theorem dX12_shapes_40 : decode cX12_shapes 40 = .ok (.iastore, 1) := by decide +kernel
theorem dX12_shapes_41 : decode cX12_shapes 41 = .ok (.aload_n 0, 1) := by decide +kernel
theorem dX12_shapes_42 : decode cX12_shapes 42 = .ok (.getfield 132, 3) := by decide +kernel
theorem dX12_shapes_45 : decode cX12_shapes 45 = .ok (.aload_n 0, 1) := by decide +kernel
theorem dX12_shapes_46 : decode cX12_shapes 46 = .ok (.getfield 412, 3) := by decide +kernel
theorem dX12_shapes_49 : decode cX12_shapes 49 = .ok (.iload_n 3, 1) := by decide +kernel
theorem dX12_shapes_50 : decode cX12_shapes 50 = .ok (.iastore, 1) := by decide +kernel
theorem dX12_shapes_51 : decode cX12_shapes 51 = .ok (.aload_n 0, 1) := by decide +kernel
theorem dX12_shapes_52 : decode cX12_shapes 52 = .ok (.dup, 1) := by decide +kernel
theorem dX12_shapes_53 : decode cX12_shapes 53 = .ok (.getfield 412, 3) := by decide +kernel
theorem dX12_shapes_56 : decode cX12_shapes 56 = .ok (.iconst 1, 1) := by decide +kernel
theorem dX12_shapes_57 : decode cX12_shapes 57 = .ok (.iadd, 1) := by decide +kernel
theorem dX12_shapes_58 : decode cX12_shapes 58 = .ok (.putfield 412, 3) := by decide +kernel
theorem dX12_shapes_61 : decode cX12_shapes 61 = .ok (.aload_n 0, 1) := by decide +kernel
theorem dX12_shapes_62 : decode cX12_shapes 62 = .ok (.iload 4, 2) := by decide +kernel
theorem dX12_shapes_64 : decode cX12_shapes 64 = .ok (.aload_n 0, 1) := by decide +kernel
theorem dX12_shapes_65 : decode cX12_shapes 65 = .ok (.iload 4, 2) := by decide +kernel
theorem dX12_shapes_67 : decode cX12_shapes 67 = .ok (.iload_n 2, 1) := by decide +kernel
theorem dX12_shapes_68 : decode cX12_shapes 68 = .ok (.invokevirtual 415, 3) := by decide +kernel
theorem dX12_shapes_71 : decode cX12_shapes 71 = .ok (.iload_n 3, 1) := by decide +kernel
theorem dX12_shapes_72 : decode cX12_shapes 72 = .ok (.invokevirtual 418, 3) := by decide +kernel
theorem dX12_shapes_75 : decode cX12_shapes 75 = .ok (.iload_n 3, 1) := by decide +kernel
theorem dX12_shapes_76 : decode cX12_shapes 76 = .ok (.aload_n 0, 1) := by decide +kernel
theorem dX12_shapes_77 : decode cX12_shapes 77 = .ok (.invokevirtual 380, 3) := by decide +kernel
theorem dX12_shapes_80 : decode cX12_shapes 80 = .ok (.iadd, 1) := by decide +kernel
theorem dX12_shapes_81 : decode cX12_shapes 81 = .ok (.istore_n 3, 1) := by decide +kernel
theorem dX12_shapes_82 : decode cX12_shapes 82 = .ok (.aload_n 0, 1) := by decide +kernel
theorem dX12_shapes_83 : decode cX12_shapes 83 = .ok (.iload 4, 2) := by decide +kernel
theorem dX12_shapes_85 : decode cX12_shapes 85 = .ok (.iload_n 2, 1) := by decide +kernel
theorem dX12_shapes_86 : decode cX12_shapes 86 = .ok (.invokevirtual 415, 3) := by decide +kernel
theorem dX12_shapes_89 : decode cX12_shapes 89 = .ok (.istore 4, 2) := by decide +kernel
theorem dX12_shapes_91 : decode cX12_shapes 91 = .ok (.goto (-80), 3) := by decide +kernel
theorem dX12_shapes_94 : decode cX12_shapes 94 = .ok (.aload_n 0, 1) := by decide +kernel
theorem dX12_shapes_95 : decode cX12_shapes 95 = .ok (.getfield 126, 3) := by decide +kernel
theorem dX12_shapes_98 : decode cX12_shapes 98 = .ok (.aload_n 0, 1) := by decide +kernel
theorem dX12_shapes_99 : decode cX12_shapes 99 = .ok (.getfield 412, 3) := by decide +kernel
theorem dX12_shapes_102 : decode cX12_shapes 102 = .ok (.iload_n 2, 1) := by decide +kernel
theorem dX12_shapes_103 : decode cX12_shapes 103 = .ok (.iastore, 1) := by decide +kernel
theorem dX12_shapes_104 : decode cX12_shapes 104 = .ok (.aload_n 0, 1) := by decide +kernel
theorem dX12_shapes_105 : decode cX12_shapes 105 = .ok (.getfield 129, 3) := by decide +kernel
theorem dX12_shapes_108 : decode cX12_shapes 108 = .ok (.aload_n 0, 1) := by decide +kernel
theorem dX12_shapes_109 : decode cX12_shapes 109 = .ok (.getfield 412, 3) := by decide +kernel
theorem dX12_shapes_112 : decode cX12_shapes 112 = .ok (.aload_n 0, 1) := by decide +kernel
theorem dX12_shapes_113 : decode cX12_shapes 113 = .ok (.getfield 406, 3) := by decide +kernel
theorem dX12_shapes_116 : decode cX12_shapes 116 = .ok (.iastore, 1) := by decide +kernel
theorem dX12_shapes_117 : decode cX12_shapes 117 = .ok (.aload_n 0, 1) := by decide +kernel
theorem dX12_shapes_118 : decode cX12_shapes 118 = .ok (.getfield 132, 3) := by decide +kernel
theorem dX12_shapes_121 : decode cX12_shapes 121 = .ok (.aload_n 0, 1) := by decide +kernel
theorem dX12_shapes_122 : decode cX12_shapes 122 = .ok (.getfield 412, 3) := by decide +kernel
theorem dX12_shapes_125 : decode cX12_shapes 125 = .ok (.iload_n 3, 1) := by decide +kernel
theorem dX12_shapes_126 : decode cX12_shapes 126 = .ok (.iastore, 1) := by decide +kernel
theorem dX12_shapes_127 : decode cX12_shapes 127 = .ok (.return_, 1) := by decide +kernel
theorem dX12_shapesAll_0 : decode cX12_shapesAll 0 = .ok (.aload_n 0, 1) := by decide +kernel
theorem dX12_shapesAll_1 : decode cX12_shapesAll 1 = .ok (.iconst 0, 1) := by decide +kernel
theorem dX12_shapesAll_2 : decode cX12_shapesAll 2 = .ok (.putfield 406, 3) := by decide +kernel
theorem dX12_shapesAll_5 : decode cX12_shapesAll 5 = .ok (.aload_n 0, 1) := by decide +kernel
theorem dX12_shapesAll_6 : decode cX12_shapesAll 6 = .ok (.iconst 0, 1) := by decide +kernel
theorem dX12_shapesAll_7 : decode cX12_shapesAll 7 = .ok (.putfield 412, 3) := by decide +kernel
theorem dX12_shapesAll_10 : decode cX12_shapesAll 10 = .ok (.aload_n 0, 1) := by decide +kernel
theorem dX12_shapesAll_11 : decode cX12_shapesAll 11 = .ok (.iconst 0, 1) := by decide +kernel
theorem dX12_shapesAll_12 : decode cX12_shapesAll 12 = .ok (.aload_n 0, 1) := by decide +kernel
theorem dX12_shapesAll_13 : decode cX12_shapesAll 13 = .ok (.getfield 219, 3) := by decide +kernel
theorem dX12_shapesAll_16 : decode cX12_shapesAll 16 = .ok (.invokevirtual 421, 3) := by decide +kernel
theorem dX12_shapesAll_19 : decode cX12_shapesAll 19 = .ok (.return_, 1) := by decide +kernel
theorem dX12_glyphs_0 : decode cX12_glyphs 0 = .ok (.aload_n 0, 1) := by decide +kernel
theorem dX12_glyphs_1 : decode cX12_glyphs 1 = .ok (.iconst 0, 1) := by decide +kernel
theorem dX12_glyphs_2 : decode cX12_glyphs 2 = .ok (.putfield 166, 3) := by decide +kernel
theorem dX12_glyphs_5 : decode cX12_glyphs 5 = .ok (.aload_n 0, 1) := by decide +kernel
theorem dX12_glyphs_6 : decode cX12_glyphs 6 = .ok (.invokevirtual 424, 3) := by decide +kernel
theorem dX12_glyphs_9 : decode cX12_glyphs 9 = .ok (.aload_n 0, 1) := by decide +kernel
theorem dX12_glyphs_10 : decode cX12_glyphs 10 = .ok (.getfield 406, 3) := by decide +kernel
theorem dX12_glyphs_13 : decode cX12_glyphs 13 = .ok (.ireturn, 1) := by decide +kernel
theorem dX12_asksGlyph_0 : decode cX12_asksGlyph 0 = .ok (.aload_n 0, 1) := by decide +kernel
theorem dX12_asksGlyph_1 : decode cX12_asksGlyph 1 = .ok (.invokevirtual 424, 3) := by decide +kernel
theorem dX12_asksGlyph_4 : decode cX12_asksGlyph 4 = .ok (.aload_n 0, 1) := by decide +kernel
theorem dX12_asksGlyph_5 : decode cX12_asksGlyph 5 = .ok (.iload_n 1, 1) := by decide +kernel
theorem dX12_asksGlyph_6 : decode cX12_asksGlyph 6 = .ok (.iconst 0, 1) := by decide +kernel
theorem dX12_asksGlyph_7 : decode cX12_asksGlyph 7 = .ok (.aload_n 0, 1) := by decide +kernel
theorem dX12_asksGlyph_8 : decode cX12_asksGlyph 8 = .ok (.getfield 406, 3) := by decide +kernel
theorem dX12_asksGlyph_11 : decode cX12_asksGlyph 11 = .ok (.iconst 1, 1) := by decide +kernel
theorem dX12_asksGlyph_12 : decode cX12_asksGlyph 12 = .ok (.isub, 1) := by decide +kernel
theorem dX12_asksGlyph_13 : decode cX12_asksGlyph 13 = .ok (.invokestatic 162, 3) := by decide +kernel
theorem dX12_asksGlyph_16 : decode cX12_asksGlyph 16 = .ok (.ifCond .eq 7, 3) := by decide +kernel
theorem dX12_asksGlyph_19 : decode cX12_asksGlyph 19 = .ok (.iconst 0, 1) := by decide +kernel
theorem dX12_asksGlyph_20 : decode cX12_asksGlyph 20 = .ok (.goto 4, 3) := by decide +kernel
theorem dX12_asksGlyph_23 : decode cX12_asksGlyph 23 = .ok (.iconst 1, 1) := by decide +kernel
theorem dX12_asksGlyph_24 : decode cX12_asksGlyph 24 = .ok (.putfield 166, 3) := by decide +kernel
theorem dX12_asksGlyph_27 : decode cX12_asksGlyph 27 = .ok (.aload_n 0, 1) := by decide +kernel
theorem dX12_asksGlyph_28 : decode cX12_asksGlyph 28 = .ok (.getfield 166, 3) := by decide +kernel
theorem dX12_asksGlyph_31 : decode cX12_asksGlyph 31 = .ok (.ifCond .ne 7, 3) := by decide +kernel
theorem dX12_asksGlyph_34 : decode cX12_asksGlyph 34 = .ok (.iconst 1, 1) := by decide +kernel
theorem dX12_asksGlyph_35 : decode cX12_asksGlyph 35 = .ok (.goto 4, 3) := by decide +kernel
theorem dX12_asksGlyph_38 : decode cX12_asksGlyph 38 = .ok (.iconst 0, 1) := by decide +kernel
theorem dX12_asksGlyph_39 : decode cX12_asksGlyph 39 = .ok (.ireturn, 1) := by decide +kernel
theorem dX12_glyph_0 : decode cX12_glyph 0 = .ok (.aload_n 0, 1) := by decide +kernel
theorem dX12_glyph_1 : decode cX12_glyph 1 = .ok (.iload_n 1, 1) := by decide +kernel
theorem dX12_glyph_2 : decode cX12_glyph 2 = .ok (.invokevirtual 427, 3) := by decide +kernel
theorem dX12_glyph_5 : decode cX12_glyph 5 = .ok (.ifCond .eq 12, 3) := by decide +kernel
theorem dX12_glyph_8 : decode cX12_glyph 8 = .ok (.aload_n 0, 1) := by decide +kernel
theorem dX12_glyph_9 : decode cX12_glyph 9 = .ok (.getfield 102, 3) := by decide +kernel
theorem dX12_glyph_12 : decode cX12_glyph 12 = .ok (.iload_n 1, 1) := by decide +kernel
theorem dX12_glyph_13 : decode cX12_glyph 13 = .ok (.iaload, 1) := by decide +kernel
theorem dX12_glyph_14 : decode cX12_glyph 14 = .ok (.goto 4, 3) := by decide +kernel
theorem dX12_glyph_17 : decode cX12_glyph 17 = .ok (.iconst 0, 1) := by decide +kernel
theorem dX12_glyph_18 : decode cX12_glyph 18 = .ok (.ireturn, 1) := by decide +kernel
theorem dX12_glyphAnew_0 : decode cX12_glyphAnew 0 = .ok (.aload_n 0, 1) := by decide +kernel
theorem dX12_glyphAnew_1 : decode cX12_glyphAnew 1 = .ok (.iload_n 1, 1) := by decide +kernel
theorem dX12_glyphAnew_2 : decode cX12_glyphAnew 2 = .ok (.invokevirtual 427, 3) := by decide +kernel
theorem dX12_glyphAnew_5 : decode cX12_glyphAnew 5 = .ok (.ifCond .eq 12, 3) := by decide +kernel
theorem dX12_glyphAnew_8 : decode cX12_glyphAnew 8 = .ok (.aload_n 0, 1) := by decide +kernel
theorem dX12_glyphAnew_9 : decode cX12_glyphAnew 9 = .ok (.getfield 102, 3) := by decide +kernel
theorem dX12_glyphAnew_12 : decode cX12_glyphAnew 12 = .ok (.iload_n 1, 1) := by decide +kernel
theorem dX12_glyphAnew_13 : decode cX12_glyphAnew 13 = .ok (.iaload, 1) := by decide +kernel
theorem dX12_glyphAnew_14 : decode cX12_glyphAnew 14 = .ok (.goto 4, 3) := by decide +kernel
theorem dX12_glyphAnew_17 : decode cX12_glyphAnew 17 = .ok (.iconst 0, 1) := by decide +kernel
theorem dX12_glyphAnew_18 : decode cX12_glyphAnew 18 = .ok (.ireturn, 1) := by decide +kernel
theorem dX12_cluster_0 : decode cX12_cluster 0 = .ok (.aload_n 0, 1) := by decide +kernel
theorem dX12_cluster_1 : decode cX12_cluster 1 = .ok (.iload_n 1, 1) := by decide +kernel
theorem dX12_cluster_2 : decode cX12_cluster 2 = .ok (.invokevirtual 427, 3) := by decide +kernel
theorem dX12_cluster_5 : decode cX12_cluster 5 = .ok (.ifCond .eq 12, 3) := by decide +kernel
theorem dX12_cluster_8 : decode cX12_cluster 8 = .ok (.aload_n 0, 1) := by decide +kernel
theorem dX12_cluster_9 : decode cX12_cluster 9 = .ok (.getfield 105, 3) := by decide +kernel
theorem dX12_cluster_12 : decode cX12_cluster 12 = .ok (.iload_n 1, 1) := by decide +kernel
theorem dX12_cluster_13 : decode cX12_cluster 13 = .ok (.iaload, 1) := by decide +kernel
theorem dX12_cluster_14 : decode cX12_cluster 14 = .ok (.goto 4, 3) := by decide +kernel
theorem dX12_cluster_17 : decode cX12_cluster 17 = .ok (.iconst 0, 1) := by decide +kernel
theorem dX12_cluster_18 : decode cX12_cluster 18 = .ok (.ireturn, 1) := by decide +kernel
theorem dX12_place_0 : decode cX12_place 0 = .ok (.aload_n 0, 1) := by decide +kernel
theorem dX12_place_1 : decode cX12_place 1 = .ok (.iload_n 1, 1) := by decide +kernel
theorem dX12_place_2 : decode cX12_place 2 = .ok (.invokevirtual 427, 3) := by decide +kernel
theorem dX12_place_5 : decode cX12_place 5 = .ok (.ifCond .ne 5, 3) := by decide +kernel
theorem dX12_place_8 : decode cX12_place 8 = .ok (.iconst 0, 1) := by decide +kernel
theorem dX12_place_9 : decode cX12_place 9 = .ok (.ireturn, 1) := by decide +kernel
theorem dX12_place_10 : decode cX12_place 10 = .ok (.aload_n 0, 1) := by decide +kernel
theorem dX12_place_11 : decode cX12_place 11 = .ok (.iload_n 2, 1) := by decide +kernel
theorem dX12_place_12 : decode cX12_place 12 = .ok (.iconst 0, 1) := by decide +kernel
theorem dX12_place_13 : decode cX12_place 13 = .ok (.iconst 2, 1) := by decide +kernel
theorem dX12_place_14 : decode cX12_place 14 = .ok (.invokestatic 162, 3) := by decide +kernel
theorem dX12_place_17 : decode cX12_place 17 = .ok (.ifCond .eq 7, 3) := by decide +kernel
theorem dX12_place_20 : decode cX12_place 20 = .ok (.iconst 0, 1) := by decide +kernel
theorem dX12_place_21 : decode cX12_place 21 = .ok (.goto 4, 3) := by decide +kernel
theorem dX12_place_24 : decode cX12_place 24 = .ok (.iconst 2, 1) := by decide +kernel
theorem dX12_place_25 : decode cX12_place 25 = .ok (.putfield 166, 3) := by decide +kernel
theorem dX12_place_28 : decode cX12_place 28 = .ok (.aload_n 0, 1) := by decide +kernel
theorem dX12_place_29 : decode cX12_place 29 = .ok (.getfield 166, 3) := by decide +kernel
theorem dX12_place_32 : decode cX12_place 32 = .ok (.ifCond .le 7, 3) := by decide +kernel
theorem dX12_place_35 : decode cX12_place 35 = .ok (.iconst 0, 1) := by decide +kernel
theorem dX12_place_36 : decode cX12_place 36 = .ok (.goto 36, 3) := by decide +kernel
theorem dX12_place_39 : decode cX12_place 39 = .ok (.iload_n 2, 1) := by decide +kernel
theorem dX12_place_40 : decode cX12_place 40 = .ok (.ifCond .ne 12, 3) := by decide +kernel
theorem dX12_place_43 : decode cX12_place 43 = .ok (.aload_n 0, 1) := by decide +kernel
theorem dX12_place_44 : decode cX12_place 44 = .ok (.getfield 114, 3) := by decide +kernel
theorem dX12_place_47 : decode cX12_place 47 = .ok (.iload_n 1, 1) := by decide +kernel
theorem dX12_place_48 : decode cX12_place 48 = .ok (.iaload, 1) := by decide +kernel
theorem dX12_place_49 : decode cX12_place 49 = .ok (.goto 23, 3) := by decide +kernel
theorem dX12_place_52 : decode cX12_place 52 = .ok (.iload_n 2, 1) := by decide +kernel
theorem dX12_place_53 : decode cX12_place 53 = .ok (.iconst 1, 1) := by decide +kernel
theorem dX12_place_54 : decode cX12_place 54 = .ok (.if_icmp .ne 12, 3) := by decide +kernel
theorem dX12_place_57 : decode cX12_place 57 = .ok (.aload_n 0, 1) := by decide +kernel
theorem dX12_place_58 : decode cX12_place 58 = .ok (.getfield 111, 3) := by decide +kernel
theorem dX12_place_61 : decode cX12_place 61 = .ok (.iload_n 1, 1) := by decide +kernel
theorem dX12_place_62 : decode cX12_place 62 = .ok (.iaload, 1) := by decide +kernel
theorem dX12_place_63 : decode cX12_place 63 = .ok (.goto 9, 3) := by decide +kernel
theorem dX12_place_66 : decode cX12_place 66 = .ok (.aload_n 0, 1) := by decide +kernel
theorem dX12_place_67 : decode cX12_place 67 = .ok (.getfield 108, 3) := by decide +kernel
theorem dX12_place_70 : decode cX12_place 70 = .ok (.iload_n 1, 1) := by decide +kernel
theorem dX12_place_71 : decode cX12_place 71 = .ok (.iaload, 1) := by decide +kernel
theorem dX12_place_72 : decode cX12_place 72 = .ok (.ireturn, 1) := by decide +kernel
theorem dX12_runOf_0 : decode cX12_runOf 0 = .ok (.iconst 0, 1) := by decide +kernel
theorem dX12_runOf_1 : decode cX12_runOf 1 = .ok (.istore_n 2, 1) := by decide +kernel
theorem dX12_runOf_2 : decode cX12_runOf 2 = .ok (.aload_n 0, 1) := by decide +kernel
theorem dX12_runOf_3 : decode cX12_runOf 3 = .ok (.getfield 126, 3) := by decide +kernel
theorem dX12_runOf_6 : decode cX12_runOf 6 = .ok (.iload_n 2, 1) := by decide +kernel
theorem dX12_runOf_7 : decode cX12_runOf 7 = .ok (.iconst 1, 1) := by decide +kernel
theorem dX12_runOf_8 : decode cX12_runOf 8 = .ok (.iadd, 1) := by decide +kernel
theorem dX12_runOf_9 : decode cX12_runOf 9 = .ok (.iaload, 1) := by decide +kernel
theorem dX12_runOf_10 : decode cX12_runOf 10 = .ok (.iload_n 1, 1) := by decide +kernel
theorem dX12_runOf_11 : decode cX12_runOf 11 = .ok (.if_icmp .gt 9, 3) := by decide +kernel
theorem dX12_runOf_14 : decode cX12_runOf 14 = .ok (.iinc 2 1, 3) := by decide +kernel
theorem dX12_runOf_17 : decode cX12_runOf 17 = .ok (.goto (-15), 3) := by decide +kernel
theorem dX12_runOf_20 : decode cX12_runOf 20 = .ok (.iload_n 2, 1) := by decide +kernel
theorem dX12_runOf_21 : decode cX12_runOf 21 = .ok (.ireturn, 1) := by decide +kernel
theorem dX12_form_0 : decode cX12_form 0 = .ok (.aload_n 0, 1) := by decide +kernel
theorem dX12_form_1 : decode cX12_form 1 = .ok (.aload_n 0, 1) := by decide +kernel
theorem dX12_form_2 : decode cX12_form 2 = .ok (.iload_n 1, 1) := by decide +kernel
theorem dX12_form_3 : decode cX12_form 3 = .ok (.invokevirtual 222, 3) := by decide +kernel
theorem dX12_form_6 : decode cX12_form 6 = .ok (.ifCond .eq 7, 3) := by decide +kernel
theorem dX12_form_9 : decode cX12_form 9 = .ok (.iconst 0, 1) := by decide +kernel
theorem dX12_form_10 : decode cX12_form 10 = .ok (.goto 4, 3) := by decide +kernel
theorem dX12_form_13 : decode cX12_form 13 = .ok (.iconst 1, 1) := by decide +kernel
theorem dX12_form_14 : decode cX12_form 14 = .ok (.putfield 166, 3) := by decide +kernel
theorem dX12_form_17 : decode cX12_form 17 = .ok (.aload_n 0, 1) := by decide +kernel
theorem dX12_form_18 : decode cX12_form 18 = .ok (.getfield 166, 3) := by decide +kernel
theorem dX12_form_21 : decode cX12_form 21 = .ok (.ifCond .le 5, 3) := by decide +kernel
theorem dX12_form_24 : decode cX12_form 24 = .ok (.iconst 0, 1) := by decide +kernel
theorem dX12_form_25 : decode cX12_form 25 = .ok (.ireturn, 1) := by decide +kernel
theorem dX12_form_26 : decode cX12_form 26 = .ok (.aload_n 0, 1) := by decide +kernel
theorem dX12_form_27 : decode cX12_form 27 = .ok (.invokevirtual 424, 3) := by decide +kernel
theorem dX12_form_30 : decode cX12_form 30 = .ok (.aload_n 0, 1) := by decide +kernel
theorem dX12_form_31 : decode cX12_form 31 = .ok (.iload_n 1, 1) := by decide +kernel
theorem dX12_form_32 : decode cX12_form 32 = .ok (.invokevirtual 430, 3) := by decide +kernel
theorem dX12_form_35 : decode cX12_form 35 = .ok (.istore_n 2, 1) := by decide +kernel
theorem dX12_form_36 : decode cX12_form 36 = .ok (.aload_n 0, 1) := by decide +kernel
theorem dX12_form_37 : decode cX12_form 37 = .ok (.aload_n 0, 1) := by decide +kernel
theorem dX12_form_38 : decode cX12_form 38 = .ok (.getfield 126, 3) := by decide +kernel
theorem dX12_form_41 : decode cX12_form 41 = .ok (.iload_n 2, 1) := by decide +kernel
theorem dX12_form_42 : decode cX12_form 42 = .ok (.iaload, 1) := by decide +kernel
theorem dX12_form_43 : decode cX12_form 43 = .ok (.aload_n 0, 1) := by decide +kernel
theorem dX12_form_44 : decode cX12_form 44 = .ok (.getfield 126, 3) := by decide +kernel
theorem dX12_form_47 : decode cX12_form 47 = .ok (.iload_n 2, 1) := by decide +kernel
theorem dX12_form_48 : decode cX12_form 48 = .ok (.iconst 1, 1) := by decide +kernel
theorem dX12_form_49 : decode cX12_form 49 = .ok (.iadd, 1) := by decide +kernel
theorem dX12_form_50 : decode cX12_form 50 = .ok (.iaload, 1) := by decide +kernel
theorem dX12_form_51 : decode cX12_form 51 = .ok (.iload_n 1, 1) := by decide +kernel
theorem dX12_form_52 : decode cX12_form 52 = .ok (.invokevirtual 238, 3) := by decide +kernel
theorem dX12_form_55 : decode cX12_form 55 = .ok (.ireturn, 1) := by decide +kernel
theorem dX12_run_0 : decode cX12_run 0 = .ok (.aload_n 0, 1) := by decide +kernel
theorem dX12_run_1 : decode cX12_run 1 = .ok (.aload_n 0, 1) := by decide +kernel
theorem dX12_run_2 : decode cX12_run 2 = .ok (.iload_n 1, 1) := by decide +kernel
theorem dX12_run_3 : decode cX12_run 3 = .ok (.invokevirtual 222, 3) := by decide +kernel
theorem dX12_run_6 : decode cX12_run 6 = .ok (.ifCond .eq 7, 3) := by decide +kernel
theorem dX12_run_9 : decode cX12_run 9 = .ok (.iconst 0, 1) := by decide +kernel
theorem dX12_run_10 : decode cX12_run 10 = .ok (.goto 4, 3) := by decide +kernel
theorem dX12_run_13 : decode cX12_run 13 = .ok (.iconst 1, 1) := by decide +kernel
theorem dX12_run_14 : decode cX12_run 14 = .ok (.putfield 166, 3) := by decide +kernel
theorem dX12_run_17 : decode cX12_run 17 = .ok (.aload_n 0, 1) := by decide +kernel
theorem dX12_run_18 : decode cX12_run 18 = .ok (.getfield 166, 3) := by decide +kernel
theorem dX12_run_21 : decode cX12_run 21 = .ok (.ifCond .le 5, 3) := by decide +kernel
theorem dX12_run_24 : decode cX12_run 24 = .ok (.iconst 0, 1) := by decide +kernel
theorem dX12_run_25 : decode cX12_run 25 = .ok (.ireturn, 1) := by decide +kernel
theorem dX12_run_26 : decode cX12_run 26 = .ok (.aload_n 0, 1) := by decide +kernel
theorem dX12_run_27 : decode cX12_run 27 = .ok (.invokevirtual 424, 3) := by decide +kernel
theorem dX12_run_30 : decode cX12_run 30 = .ok (.bipush 100, 2) := by decide +kernel
theorem dX12_run_32 : decode cX12_run 32 = .ok (.aload_n 0, 1) := by decide +kernel
theorem dX12_run_33 : decode cX12_run 33 = .ok (.iload_n 1, 1) := by decide +kernel
theorem dX12_run_34 : decode cX12_run 34 = .ok (.invokevirtual 430, 3) := by decide +kernel
theorem dX12_run_37 : decode cX12_run 37 = .ok (.imul, 1) := by decide +kernel
theorem dX12_run_38 : decode cX12_run 38 = .ok (.bipush 10, 2) := by decide +kernel
theorem dX12_run_40 : decode cX12_run 40 = .ok (.aload_n 0, 1) := by decide +kernel
theorem dX12_run_41 : decode cX12_run 41 = .ok (.getfield 57, 3) := by decide +kernel
theorem dX12_run_44 : decode cX12_run 44 = .ok (.iload_n 1, 1) := by decide +kernel
theorem dX12_run_45 : decode cX12_run 45 = .ok (.iaload, 1) := by decide +kernel
theorem dX12_run_46 : decode cX12_run 46 = .ok (.imul, 1) := by decide +kernel
theorem dX12_run_47 : decode cX12_run 47 = .ok (.iadd, 1) := by decide +kernel
theorem dX12_run_48 : decode cX12_run 48 = .ok (.aload_n 0, 1) := by decide +kernel
theorem dX12_run_49 : decode cX12_run 49 = .ok (.getfield 60, 3) := by decide +kernel
theorem dX12_run_52 : decode cX12_run 52 = .ok (.iload_n 1, 1) := by decide +kernel
theorem dX12_run_53 : decode cX12_run 53 = .ok (.iaload, 1) := by decide +kernel
theorem dX12_run_54 : decode cX12_run 54 = .ok (.iadd, 1) := by decide +kernel
theorem dX12_run_55 : decode cX12_run 55 = .ok (.ireturn, 1) := by decide +kernel
theorem dX12_clusterOf_0 : decode cX12_clusterOf 0 = .ok (.bipush (-100), 2) := by decide +kernel
theorem dX12_clusterOf_2 : decode cX12_clusterOf 2 = .ok (.istore_n 3, 1) := by decide +kernel
theorem dX12_clusterOf_3 : decode cX12_clusterOf 3 = .ok (.aload_n 0, 1) := by decide +kernel
theorem dX12_clusterOf_4 : decode cX12_clusterOf 4 = .ok (.getfield 129, 3) := by decide +kernel
theorem dX12_clusterOf_7 : decode cX12_clusterOf 7 = .ok (.iload_n 1, 1) := by decide +kernel
theorem dX12_clusterOf_8 : decode cX12_clusterOf 8 = .ok (.iaload, 1) := by decide +kernel
theorem dX12_clusterOf_9 : decode cX12_clusterOf 9 = .ok (.istore 4, 2) := by decide +kernel
theorem dX12_clusterOf_11 : decode cX12_clusterOf 11 = .ok (.iload 4, 2) := by decide +kernel
theorem dX12_clusterOf_13 : decode cX12_clusterOf 13 = .ok (.aload_n 0, 1) := by decide +kernel
theorem dX12_clusterOf_14 : decode cX12_clusterOf 14 = .ok (.getfield 129, 3) := by decide +kernel
theorem dX12_clusterOf_17 : decode cX12_clusterOf 17 = .ok (.iload_n 1, 1) := by decide +kernel
theorem dX12_clusterOf_18 : decode cX12_clusterOf 18 = .ok (.iconst 1, 1) := by decide +kernel
theorem dX12_clusterOf_19 : decode cX12_clusterOf 19 = .ok (.iadd, 1) := by decide +kernel
theorem dX12_clusterOf_20 : decode cX12_clusterOf 20 = .ok (.iaload, 1) := by decide +kernel
theorem dX12_clusterOf_21 : decode cX12_clusterOf 21 = .ok (.if_icmp .ge 43, 3) := by decide +kernel
theorem dX12_clusterOf_24 : decode cX12_clusterOf 24 = .ok (.aload_n 0, 1) := by decide +kernel
theorem dX12_clusterOf_25 : decode cX12_clusterOf 25 = .ok (.getfield 105, 3) := by decide +kernel
theorem dX12_clusterOf_28 : decode cX12_clusterOf 28 = .ok (.iload 4, 2) := by decide +kernel
theorem dX12_clusterOf_30 : decode cX12_clusterOf 30 = .ok (.iaload, 1) := by decide +kernel
theorem dX12_clusterOf_31 : decode cX12_clusterOf 31 = .ok (.iload_n 2, 1) := by decide +kernel
theorem dX12_clusterOf_32 : decode cX12_clusterOf 32 = .ok (.if_icmp .gt 24, 3) := by decide +kernel
theorem dX12_clusterOf_35 : decode cX12_clusterOf 35 = .ok (.aload_n 0, 1) := by decide +kernel
theorem dX12_clusterOf_36 : decode cX12_clusterOf 36 = .ok (.getfield 105, 3) := by decide +kernel
theorem dX12_clusterOf_39 : decode cX12_clusterOf 39 = .ok (.iload 4, 2) := by decide +kernel
theorem dX12_clusterOf_41 : decode cX12_clusterOf 41 = .ok (.iaload, 1) := by decide +kernel
theorem dX12_clusterOf_42 : decode cX12_clusterOf 42 = .ok (.iload_n 3, 1) := by decide +kernel
theorem dX12_clusterOf_43 : decode cX12_clusterOf 43 = .ok (.if_icmp .le 13, 3) := by decide +kernel
theorem dX12_clusterOf_46 : decode cX12_clusterOf 46 = .ok (.aload_n 0, 1) := by decide +kernel
theorem dX12_clusterOf_47 : decode cX12_clusterOf 47 = .ok (.getfield 105, 3) := by decide +kernel
theorem dX12_clusterOf_50 : decode cX12_clusterOf 50 = .ok (.iload 4, 2) := by decide +kernel
theorem dX12_clusterOf_52 : decode cX12_clusterOf 52 = .ok (.iaload, 1) := by decide +kernel
theorem dX12_clusterOf_53 : decode cX12_clusterOf 53 = .ok (.goto 4, 3) := by decide +kernel
theorem dX12_clusterOf_56 : decode cX12_clusterOf 56 = .ok (.iload_n 3, 1) := by decide +kernel
theorem dX12_clusterOf_57 : decode cX12_clusterOf 57 = .ok (.istore_n 3, 1) := by decide +kernel
theorem dX12_clusterOf_58 : decode cX12_clusterOf 58 = .ok (.iinc 4 1, 3) := by decide +kernel
theorem dX12_clusterOf_61 : decode cX12_clusterOf 61 = .ok (.goto (-50), 3) := by decide +kernel
theorem dX12_clusterOf_64 : decode cX12_clusterOf 64 = .ok (.iload_n 3, 1) := by decide +kernel
theorem dX12_clusterOf_65 : decode cX12_clusterOf 65 = .ok (.ireturn, 1) := by decide +kernel
theorem dX12_endOfCluster_0 : decode cX12_endOfCluster 0 = .ok (.aload_n 0, 1) := by decide +kernel
theorem dX12_endOfCluster_1 : decode cX12_endOfCluster 1 = .ok (.getfield 126, 3) := by decide +kernel
theorem dX12_endOfCluster_4 : decode cX12_endOfCluster 4 = .ok (.iload_n 1, 1) := by decide +kernel
theorem dX12_endOfCluster_5 : decode cX12_endOfCluster 5 = .ok (.iconst 1, 1) := by decide +kernel
theorem dX12_endOfCluster_6 : decode cX12_endOfCluster 6 = .ok (.iadd, 1) := by decide +kernel
theorem dX12_endOfCluster_7 : decode cX12_endOfCluster 7 = .ok (.iaload, 1) := by decide +kernel
theorem dX12_endOfCluster_8 : decode cX12_endOfCluster 8 = .ok (.istore_n 3, 1) := by decide +kernel
theorem dX12_endOfCluster_9 : decode cX12_endOfCluster 9 = .ok (.aload_n 0, 1) := by decide +kernel
theorem dX12_endOfCluster_10 : decode cX12_endOfCluster 10 = .ok (.getfield 129, 3) := by decide +kernel
theorem dX12_endOfCluster_13 : decode cX12_endOfCluster 13 = .ok (.iload_n 1, 1) := by decide +kernel
theorem dX12_endOfCluster_14 : decode cX12_endOfCluster 14 = .ok (.iaload, 1) := by decide +kernel
theorem dX12_endOfCluster_15 : decode cX12_endOfCluster 15 = .ok (.istore 4, 2) := by decide +kernel
theorem dX12_endOfCluster_17 : decode cX12_endOfCluster 17 = .ok (.iload 4, 2) := by decide +kernel
theorem dX12_endOfCluster_19 : decode cX12_endOfCluster 19 = .ok (.aload_n 0, 1) := by decide +kernel
theorem dX12_endOfCluster_20 : decode cX12_endOfCluster 20 = .ok (.getfield 129, 3) := by decide +kernel
theorem dX12_endOfCluster_23 : decode cX12_endOfCluster 23 = .ok (.iload_n 1, 1) := by decide +kernel
theorem dX12_endOfCluster_24 : decode cX12_endOfCluster 24 = .ok (.iconst 1, 1) := by decide +kernel
theorem dX12_endOfCluster_25 : decode cX12_endOfCluster 25 = .ok (.iadd, 1) := by decide +kernel
theorem dX12_endOfCluster_26 : decode cX12_endOfCluster 26 = .ok (.iaload, 1) := by decide +kernel
theorem dX12_endOfCluster_27 : decode cX12_endOfCluster 27 = .ok (.if_icmp .ge 43, 3) := by decide +kernel
theorem dX12_endOfCluster_30 : decode cX12_endOfCluster 30 = .ok (.aload_n 0, 1) := by decide +kernel
theorem dX12_endOfCluster_31 : decode cX12_endOfCluster 31 = .ok (.getfield 105, 3) := by decide +kernel
theorem dX12_endOfCluster_34 : decode cX12_endOfCluster 34 = .ok (.iload 4, 2) := by decide +kernel
theorem dX12_endOfCluster_36 : decode cX12_endOfCluster 36 = .ok (.iaload, 1) := by decide +kernel
theorem dX12_endOfCluster_37 : decode cX12_endOfCluster 37 = .ok (.iload_n 2, 1) := by decide +kernel
theorem dX12_endOfCluster_38 : decode cX12_endOfCluster 38 = .ok (.if_icmp .le 24, 3) := by decide +kernel
theorem dX12_endOfCluster_41 : decode cX12_endOfCluster 41 = .ok (.aload_n 0, 1) := by decide +kernel
theorem dX12_endOfCluster_42 : decode cX12_endOfCluster 42 = .ok (.getfield 105, 3) := by decide +kernel
theorem dX12_endOfCluster_45 : decode cX12_endOfCluster 45 = .ok (.iload 4, 2) := by decide +kernel
theorem dX12_endOfCluster_47 : decode cX12_endOfCluster 47 = .ok (.iaload, 1) := by decide +kernel
theorem dX12_endOfCluster_48 : decode cX12_endOfCluster 48 = .ok (.iload_n 3, 1) := by decide +kernel
theorem dX12_endOfCluster_49 : decode cX12_endOfCluster 49 = .ok (.if_icmp .ge 13, 3) := by decide +kernel
theorem dX12_endOfCluster_52 : decode cX12_endOfCluster 52 = .ok (.aload_n 0, 1) := by decide +kernel
theorem dX12_endOfCluster_53 : decode cX12_endOfCluster 53 = .ok (.getfield 105, 3) := by decide +kernel
theorem dX12_endOfCluster_56 : decode cX12_endOfCluster 56 = .ok (.iload 4, 2) := by decide +kernel
theorem dX12_endOfCluster_58 : decode cX12_endOfCluster 58 = .ok (.iaload, 1) := by decide +kernel
theorem dX12_endOfCluster_59 : decode cX12_endOfCluster 59 = .ok (.goto 4, 3) := by decide +kernel
theorem dX12_endOfCluster_62 : decode cX12_endOfCluster 62 = .ok (.iload_n 3, 1) := by decide +kernel
theorem dX12_endOfCluster_63 : decode cX12_endOfCluster 63 = .ok (.istore_n 3, 1) := by decide +kernel
theorem dX12_endOfCluster_64 : decode cX12_endOfCluster 64 = .ok (.iinc 4 1, 3) := by decide +kernel
theorem dX12_endOfCluster_67 : decode cX12_endOfCluster 67 = .ok (.goto (-50), 3) := by decide +kernel
theorem dX12_endOfCluster_70 : decode cX12_endOfCluster 70 = .ok (.iload_n 3, 1) := by decide +kernel
theorem dX12_endOfCluster_71 : decode cX12_endOfCluster 71 = .ok (.ireturn, 1) := by decide +kernel
theorem dX12_advances_0 : decode cX12_advances 0 = .ok (.iconst 0, 1) := by decide +kernel
theorem dX12_advances_1 : decode cX12_advances 1 = .ok (.istore 4, 2) := by decide +kernel
theorem dX12_advances_3 : decode cX12_advances 3 = .ok (.aload_n 0, 1) := by decide +kernel
theorem dX12_advances_4 : decode cX12_advances 4 = .ok (.getfield 129, 3) := by decide +kernel
theorem dX12_advances_7 : decode cX12_advances 7 = .ok (.iload_n 1, 1) := by decide +kernel
theorem dX12_advances_8 : decode cX12_advances 8 = .ok (.iaload, 1) := by decide +kernel
theorem dX12_advances_9 : decode cX12_advances 9 = .ok (.istore 5, 2) := by decide +kernel
theorem dX12_advances_11 : decode cX12_advances 11 = .ok (.iload 5, 2) := by decide +kernel
theorem dX12_advances_13 : decode cX12_advances 13 = .ok (.aload_n 0, 1) := by decide +kernel
theorem dX12_advances_14 : decode cX12_advances 14 = .ok (.getfield 129, 3) := by decide +kernel
theorem dX12_advances_17 : decode cX12_advances 17 = .ok (.iload_n 1, 1) := by decide +kernel
theorem dX12_advances_18 : decode cX12_advances 18 = .ok (.iconst 1, 1) := by decide +kernel
theorem dX12_advances_19 : decode cX12_advances 19 = .ok (.iadd, 1) := by decide +kernel
theorem dX12_advances_20 : decode cX12_advances 20 = .ok (.iaload, 1) := by decide +kernel
theorem dX12_advances_21 : decode cX12_advances 21 = .ok (.if_icmp .ge 54, 3) := by decide +kernel
theorem dX12_advances_24 : decode cX12_advances 24 = .ok (.iload 4, 2) := by decide +kernel
theorem dX12_advances_26 : decode cX12_advances 26 = .ok (.iload_n 3, 1) := by decide +kernel
theorem dX12_advances_27 : decode cX12_advances 27 = .ok (.ifCond .eq 17, 3) := by decide +kernel
theorem dX12_advances_30 : decode cX12_advances 30 = .ok (.aload_n 0, 1) := by decide +kernel
theorem dX12_advances_31 : decode cX12_advances 31 = .ok (.getfield 105, 3) := by decide +kernel
theorem dX12_advances_34 : decode cX12_advances 34 = .ok (.iload 5, 2) := by decide +kernel
theorem dX12_advances_36 : decode cX12_advances 36 = .ok (.iaload, 1) := by decide +kernel
theorem dX12_advances_37 : decode cX12_advances 37 = .ok (.iload_n 2, 1) := by decide +kernel
theorem dX12_advances_38 : decode cX12_advances 38 = .ok (.if_icmp .ge 27, 3) := by decide +kernel
theorem dX12_advances_41 : decode cX12_advances 41 = .ok (.goto 14, 3) := by decide +kernel
theorem dX12_advances_44 : decode cX12_advances 44 = .ok (.aload_n 0, 1) := by decide +kernel
theorem dX12_advances_45 : decode cX12_advances 45 = .ok (.getfield 105, 3) := by decide +kernel
theorem dX12_advances_48 : decode cX12_advances 48 = .ok (.iload 5, 2) := by decide +kernel
theorem dX12_advances_50 : decode cX12_advances 50 = .ok (.iaload, 1) := by decide +kernel
theorem dX12_advances_51 : decode cX12_advances 51 = .ok (.iload_n 2, 1) := by decide +kernel
theorem dX12_advances_52 : decode cX12_advances 52 = .ok (.if_icmp .ne 13, 3) := by decide +kernel
theorem dX12_advances_55 : decode cX12_advances 55 = .ok (.aload_n 0, 1) := by decide +kernel
theorem dX12_advances_56 : decode cX12_advances 56 = .ok (.getfield 108, 3) := by decide +kernel
theorem dX12_advances_59 : decode cX12_advances 59 = .ok (.iload 5, 2) := by decide +kernel
theorem dX12_advances_61 : decode cX12_advances 61 = .ok (.iaload, 1) := by decide +kernel
theorem dX12_advances_62 : decode cX12_advances 62 = .ok (.goto 4, 3) := by decide +kernel
theorem dX12_advances_65 : decode cX12_advances 65 = .ok (.iconst 0, 1) := by decide +kernel
theorem dX12_advances_66 : decode cX12_advances 66 = .ok (.iadd, 1) := by decide +kernel
theorem dX12_advances_67 : decode cX12_advances 67 = .ok (.istore 4, 2) := by decide +kernel
theorem dX12_advances_69 : decode cX12_advances 69 = .ok (.iinc 5 1, 3) := by decide +kernel
theorem dX12_advances_72 : decode cX12_advances 72 = .ok (.goto (-61), 3) := by decide +kernel
theorem dX12_advances_75 : decode cX12_advances 75 = .ok (.iload 4, 2) := by decide +kernel
theorem dX12_advances_77 : decode cX12_advances 77 = .ok (.ireturn, 1) := by decide +kernel
theorem dX12_caretOf_0 : decode cX12_caretOf 0 = .ok (.aload_n 0, 1) := by decide +kernel
theorem dX12_caretOf_1 : decode cX12_caretOf 1 = .ok (.iload_n 1, 1) := by decide +kernel
theorem dX12_caretOf_2 : decode cX12_caretOf 2 = .ok (.invokevirtual 430, 3) := by decide +kernel
theorem dX12_caretOf_5 : decode cX12_caretOf 5 = .ok (.istore_n 2, 1) := by decide +kernel
theorem dX12_caretOf_6 : decode cX12_caretOf 6 = .ok (.aload_n 0, 1) := by decide +kernel
theorem dX12_caretOf_7 : decode cX12_caretOf 7 = .ok (.iload_n 2, 1) := by decide +kernel
theorem dX12_caretOf_8 : decode cX12_caretOf 8 = .ok (.iload_n 1, 1) := by decide +kernel
theorem dX12_caretOf_9 : decode cX12_caretOf 9 = .ok (.invokevirtual 433, 3) := by decide +kernel
theorem dX12_caretOf_12 : decode cX12_caretOf 12 = .ok (.istore_n 3, 1) := by decide +kernel
theorem dX12_caretOf_13 : decode cX12_caretOf 13 = .ok (.iconst 0, 1) := by decide +kernel
theorem dX12_caretOf_14 : decode cX12_caretOf 14 = .ok (.istore 4, 2) := by decide +kernel
theorem dX12_caretOf_16 : decode cX12_caretOf 16 = .ok (.iload_n 3, 1) := by decide +kernel
theorem dX12_caretOf_17 : decode cX12_caretOf 17 = .ok (.bipush (-100), 2) := by decide +kernel
theorem dX12_caretOf_19 : decode cX12_caretOf 19 = .ok (.if_icmp .eq 68, 3) := by decide +kernel
theorem dX12_caretOf_22 : decode cX12_caretOf 22 = .ok (.aload_n 0, 1) := by decide +kernel
theorem dX12_caretOf_23 : decode cX12_caretOf 23 = .ok (.iload_n 2, 1) := by decide +kernel
theorem dX12_caretOf_24 : decode cX12_caretOf 24 = .ok (.iload_n 3, 1) := by decide +kernel
theorem dX12_caretOf_25 : decode cX12_caretOf 25 = .ok (.invokevirtual 436, 3) := by decide +kernel
theorem dX12_caretOf_28 : decode cX12_caretOf 28 = .ok (.iload_n 3, 1) := by decide +kernel
theorem dX12_caretOf_29 : decode cX12_caretOf 29 = .ok (.isub, 1) := by decide +kernel
theorem dX12_caretOf_30 : decode cX12_caretOf 30 = .ok (.istore 5, 2) := by decide +kernel
theorem dX12_caretOf_32 : decode cX12_caretOf 32 = .ok (.aload_n 0, 1) := by decide +kernel
theorem dX12_caretOf_33 : decode cX12_caretOf 33 = .ok (.iload_n 2, 1) := by decide +kernel
theorem dX12_caretOf_34 : decode cX12_caretOf 34 = .ok (.iload_n 3, 1) := by decide +kernel
theorem dX12_caretOf_35 : decode cX12_caretOf 35 = .ok (.iconst 0, 1) := by decide +kernel
theorem dX12_caretOf_36 : decode cX12_caretOf 36 = .ok (.invokevirtual 439, 3) := by decide +kernel
theorem dX12_caretOf_39 : decode cX12_caretOf 39 = .ok (.iload_n 1, 1) := by decide +kernel
theorem dX12_caretOf_40 : decode cX12_caretOf 40 = .ok (.iload_n 3, 1) := by decide +kernel
theorem dX12_caretOf_41 : decode cX12_caretOf 41 = .ok (.isub, 1) := by decide +kernel
theorem dX12_caretOf_42 : decode cX12_caretOf 42 = .ok (.imul, 1) := by decide +kernel
theorem dX12_caretOf_43 : decode cX12_caretOf 43 = .ok (.istore 6, 2) := by decide +kernel
theorem dX12_caretOf_45 : decode cX12_caretOf 45 = .ok (.iload 6, 2) := by decide +kernel
theorem dX12_caretOf_47 : decode cX12_caretOf 47 = .ok (.iload 5, 2) := by decide +kernel
theorem dX12_caretOf_49 : decode cX12_caretOf 49 = .ok (.idiv, 1) := by decide +kernel
theorem dX12_caretOf_50 : decode cX12_caretOf 50 = .ok (.istore 7, 2) := by decide +kernel
theorem dX12_caretOf_52 : decode cX12_caretOf 52 = .ok (.iload 7, 2) := by decide +kernel
theorem dX12_caretOf_54 : decode cX12_caretOf 54 = .ok (.iload 6, 2) := by decide +kernel
theorem dX12_caretOf_56 : decode cX12_caretOf 56 = .ok (.ifCond .ge 15, 3) := by decide +kernel
theorem dX12_caretOf_59 : decode cX12_caretOf 59 = .ok (.iload 6, 2) := by decide +kernel
theorem dX12_caretOf_61 : decode cX12_caretOf 61 = .ok (.iload 5, 2) := by decide +kernel
theorem dX12_caretOf_63 : decode cX12_caretOf 63 = .ok (.irem, 1) := by decide +kernel
theorem dX12_caretOf_64 : decode cX12_caretOf 64 = .ok (.ifCond .eq 7, 3) := by decide +kernel
theorem dX12_caretOf_67 : decode cX12_caretOf 67 = .ok (.iconst 1, 1) := by decide +kernel
theorem dX12_caretOf_68 : decode cX12_caretOf 68 = .ok (.goto 4, 3) := by decide +kernel
theorem dX12_caretOf_71 : decode cX12_caretOf 71 = .ok (.iconst 0, 1) := by decide +kernel
theorem dX12_caretOf_72 : decode cX12_caretOf 72 = .ok (.isub, 1) := by decide +kernel
theorem dX12_caretOf_73 : decode cX12_caretOf 73 = .ok (.istore 7, 2) := by decide +kernel
theorem dX12_caretOf_75 : decode cX12_caretOf 75 = .ok (.aload_n 0, 1) := by decide +kernel
theorem dX12_caretOf_76 : decode cX12_caretOf 76 = .ok (.iload_n 2, 1) := by decide +kernel
theorem dX12_caretOf_77 : decode cX12_caretOf 77 = .ok (.iload_n 3, 1) := by decide +kernel
theorem dX12_caretOf_78 : decode cX12_caretOf 78 = .ok (.iconst 1, 1) := by decide +kernel
theorem dX12_caretOf_79 : decode cX12_caretOf 79 = .ok (.invokevirtual 439, 3) := by decide +kernel
theorem dX12_caretOf_82 : decode cX12_caretOf 82 = .ok (.iload 7, 2) := by decide +kernel
theorem dX12_caretOf_84 : decode cX12_caretOf 84 = .ok (.iadd, 1) := by decide +kernel
theorem dX12_caretOf_85 : decode cX12_caretOf 85 = .ok (.istore 4, 2) := by decide +kernel
theorem dX12_caretOf_87 : decode cX12_caretOf 87 = .ok (.aload_n 0, 1) := by decide +kernel
theorem dX12_caretOf_88 : decode cX12_caretOf 88 = .ok (.getfield 57, 3) := by decide +kernel
theorem dX12_caretOf_91 : decode cX12_caretOf 91 = .ok (.iload_n 1, 1) := by decide +kernel
theorem dX12_caretOf_92 : decode cX12_caretOf 92 = .ok (.iaload, 1) := by decide +kernel
theorem dX12_caretOf_93 : decode cX12_caretOf 93 = .ok (.iconst 1, 1) := by decide +kernel
theorem dX12_caretOf_94 : decode cX12_caretOf 94 = .ok (.if_icmp .ne 15, 3) := by decide +kernel
theorem dX12_caretOf_97 : decode cX12_caretOf 97 = .ok (.aload_n 0, 1) := by decide +kernel
theorem dX12_caretOf_98 : decode cX12_caretOf 98 = .ok (.getfield 132, 3) := by decide +kernel
theorem dX12_caretOf_101 : decode cX12_caretOf 101 = .ok (.iload_n 2, 1) := by decide +kernel
theorem dX12_caretOf_102 : decode cX12_caretOf 102 = .ok (.iaload, 1) := by decide +kernel
theorem dX12_caretOf_103 : decode cX12_caretOf 103 = .ok (.iload 4, 2) := by decide +kernel
theorem dX12_caretOf_105 : decode cX12_caretOf 105 = .ok (.iadd, 1) := by decide +kernel
theorem dX12_caretOf_106 : decode cX12_caretOf 106 = .ok (.goto 14, 3) := by decide +kernel
theorem dX12_caretOf_109 : decode cX12_caretOf 109 = .ok (.aload_n 0, 1) := by decide +kernel
theorem dX12_caretOf_110 : decode cX12_caretOf 110 = .ok (.getfield 132, 3) := by decide +kernel
theorem dX12_caretOf_113 : decode cX12_caretOf 113 = .ok (.iload_n 2, 1) := by decide +kernel
theorem dX12_caretOf_114 : decode cX12_caretOf 114 = .ok (.iconst 1, 1) := by decide +kernel
theorem dX12_caretOf_115 : decode cX12_caretOf 115 = .ok (.iadd, 1) := by decide +kernel
theorem dX12_caretOf_116 : decode cX12_caretOf 116 = .ok (.iaload, 1) := by decide +kernel
theorem dX12_caretOf_117 : decode cX12_caretOf 117 = .ok (.iload 4, 2) := by decide +kernel
theorem dX12_caretOf_119 : decode cX12_caretOf 119 = .ok (.isub, 1) := by decide +kernel
theorem dX12_caretOf_120 : decode cX12_caretOf 120 = .ok (.ireturn, 1) := by decide +kernel
theorem dX12_caret_0 : decode cX12_caret 0 = .ok (.aload_n 0, 1) := by decide +kernel
theorem dX12_caret_1 : decode cX12_caret 1 = .ok (.aload_n 0, 1) := by decide +kernel
theorem dX12_caret_2 : decode cX12_caret 2 = .ok (.iload_n 1, 1) := by decide +kernel
theorem dX12_caret_3 : decode cX12_caret 3 = .ok (.invokevirtual 222, 3) := by decide +kernel
theorem dX12_caret_6 : decode cX12_caret 6 = .ok (.ifCond .eq 7, 3) := by decide +kernel
theorem dX12_caret_9 : decode cX12_caret 9 = .ok (.iconst 0, 1) := by decide +kernel
theorem dX12_caret_10 : decode cX12_caret 10 = .ok (.goto 4, 3) := by decide +kernel
theorem dX12_caret_13 : decode cX12_caret 13 = .ok (.iconst 1, 1) := by decide +kernel
theorem dX12_caret_14 : decode cX12_caret 14 = .ok (.putfield 166, 3) := by decide +kernel
theorem dX12_caret_17 : decode cX12_caret 17 = .ok (.aload_n 0, 1) := by decide +kernel
theorem dX12_caret_18 : decode cX12_caret 18 = .ok (.getfield 166, 3) := by decide +kernel
theorem dX12_caret_21 : decode cX12_caret 21 = .ok (.ifCond .le 5, 3) := by decide +kernel
theorem dX12_caret_24 : decode cX12_caret 24 = .ok (.iconst 0, 1) := by decide +kernel
theorem dX12_caret_25 : decode cX12_caret 25 = .ok (.ireturn, 1) := by decide +kernel
theorem dX12_caret_26 : decode cX12_caret 26 = .ok (.aload_n 0, 1) := by decide +kernel
theorem dX12_caret_27 : decode cX12_caret 27 = .ok (.invokevirtual 424, 3) := by decide +kernel
theorem dX12_caret_30 : decode cX12_caret 30 = .ok (.aload_n 0, 1) := by decide +kernel
theorem dX12_caret_31 : decode cX12_caret 31 = .ok (.iload_n 1, 1) := by decide +kernel
theorem dX12_caret_32 : decode cX12_caret 32 = .ok (.invokevirtual 443, 3) := by decide +kernel
theorem dX12_caret_35 : decode cX12_caret 35 = .ok (.ireturn, 1) := by decide +kernel
theorem dX12_hit_0 : decode cX12_hit 0 = .ok (.aload_n 0, 1) := by decide +kernel
theorem dX12_hit_1 : decode cX12_hit 1 = .ok (.iload_n 1, 1) := by decide +kernel
theorem dX12_hit_2 : decode cX12_hit 2 = .ok (.sipush (-1000), 3) := by decide +kernel
theorem dX12_hit_5 : decode cX12_hit 5 = .ok (.sipush 10000, 3) := by decide +kernel
theorem dX12_hit_8 : decode cX12_hit 8 = .ok (.invokestatic 162, 3) := by decide +kernel
theorem dX12_hit_11 : decode cX12_hit 11 = .ok (.ifCond .eq 7, 3) := by decide +kernel
theorem dX12_hit_14 : decode cX12_hit 14 = .ok (.iconst 0, 1) := by decide +kernel
theorem dX12_hit_15 : decode cX12_hit 15 = .ok (.goto 4, 3) := by decide +kernel
theorem dX12_hit_18 : decode cX12_hit 18 = .ok (.iconst 1, 1) := by decide +kernel
theorem dX12_hit_19 : decode cX12_hit 19 = .ok (.putfield 166, 3) := by decide +kernel
theorem dX12_hit_22 : decode cX12_hit 22 = .ok (.aload_n 0, 1) := by decide +kernel
theorem dX12_hit_23 : decode cX12_hit 23 = .ok (.getfield 166, 3) := by decide +kernel
theorem dX12_hit_26 : decode cX12_hit 26 = .ok (.ifCond .le 5, 3) := by decide +kernel
theorem dX12_hit_29 : decode cX12_hit 29 = .ok (.iconst 0, 1) := by decide +kernel
theorem dX12_hit_30 : decode cX12_hit 30 = .ok (.ireturn, 1) := by decide +kernel
theorem dX12_hit_31 : decode cX12_hit 31 = .ok (.aload_n 0, 1) := by decide +kernel
theorem dX12_hit_32 : decode cX12_hit 32 = .ok (.invokevirtual 424, 3) := by decide +kernel
theorem dX12_hit_35 : decode cX12_hit 35 = .ok (.bipush (-100), 2) := by decide +kernel
theorem dX12_hit_37 : decode cX12_hit 37 = .ok (.istore_n 2, 1) := by decide +kernel
theorem dX12_hit_38 : decode cX12_hit 38 = .ok (.iconst 0, 1) := by decide +kernel
theorem dX12_hit_39 : decode cX12_hit 39 = .ok (.istore_n 3, 1) := by decide +kernel
theorem dX12_hit_40 : decode cX12_hit 40 = .ok (.iconst 0, 1) := by decide +kernel
theorem dX12_hit_41 : decode cX12_hit 41 = .ok (.istore 4, 2) := by decide +kernel
theorem dX12_hit_43 : decode cX12_hit 43 = .ok (.iload 4, 2) := by decide +kernel
theorem dX12_hit_45 : decode cX12_hit 45 = .ok (.aload_n 0, 1) := by decide +kernel
theorem dX12_hit_46 : decode cX12_hit 46 = .ok (.getfield 219, 3) := by decide +kernel
theorem dX12_hit_49 : decode cX12_hit 49 = .ok (.if_icmp .ge 83, 3) := by decide +kernel
theorem dX12_hit_52 : decode cX12_hit 52 = .ok (.aload_n 0, 1) := by decide +kernel
theorem dX12_hit_53 : decode cX12_hit 53 = .ok (.iload 4, 2) := by decide +kernel
theorem dX12_hit_55 : decode cX12_hit 55 = .ok (.invokevirtual 443, 3) := by decide +kernel
theorem dX12_hit_58 : decode cX12_hit 58 = .ok (.iload_n 1, 1) := by decide +kernel
theorem dX12_hit_59 : decode cX12_hit 59 = .ok (.if_icmp .le 14, 3) := by decide +kernel
theorem dX12_hit_62 : decode cX12_hit 62 = .ok (.aload_n 0, 1) := by decide +kernel
theorem dX12_hit_63 : decode cX12_hit 63 = .ok (.iload 4, 2) := by decide +kernel
theorem dX12_hit_65 : decode cX12_hit 65 = .ok (.invokevirtual 443, 3) := by decide +kernel
theorem dX12_hit_68 : decode cX12_hit 68 = .ok (.iload_n 1, 1) := by decide +kernel
theorem dX12_hit_69 : decode cX12_hit 69 = .ok (.isub, 1) := by decide +kernel
theorem dX12_hit_70 : decode cX12_hit 70 = .ok (.goto 11, 3) := by decide +kernel
theorem dX12_hit_73 : decode cX12_hit 73 = .ok (.iload_n 1, 1) := by decide +kernel
theorem dX12_hit_74 : decode cX12_hit 74 = .ok (.aload_n 0, 1) := by decide +kernel
theorem dX12_hit_75 : decode cX12_hit 75 = .ok (.iload 4, 2) := by decide +kernel
theorem dX12_hit_77 : decode cX12_hit 77 = .ok (.invokevirtual 443, 3) := by decide +kernel
theorem dX12_hit_80 : decode cX12_hit 80 = .ok (.isub, 1) := by decide +kernel
theorem dX12_hit_81 : decode cX12_hit 81 = .ok (.istore 5, 2) := by decide +kernel
theorem dX12_hit_83 : decode cX12_hit 83 = .ok (.iload_n 2, 1) := by decide +kernel
theorem dX12_hit_84 : decode cX12_hit 84 = .ok (.bipush (-100), 2) := by decide +kernel
theorem dX12_hit_86 : decode cX12_hit 86 = .ok (.if_icmp .eq 9, 3) := by decide +kernel
theorem dX12_hit_89 : decode cX12_hit 89 = .ok (.iload 5, 2) := by decide +kernel
theorem dX12_hit_91 : decode cX12_hit 91 = .ok (.iload_n 3, 1) := by decide +kernel
theorem dX12_hit_92 : decode cX12_hit 92 = .ok (.if_icmp .ge 7, 3) := by decide +kernel
theorem dX12_hit_95 : decode cX12_hit 95 = .ok (.iconst 1, 1) := by decide +kernel
theorem dX12_hit_96 : decode cX12_hit 96 = .ok (.goto 4, 3) := by decide +kernel
theorem dX12_hit_99 : decode cX12_hit 99 = .ok (.iconst 0, 1) := by decide +kernel
theorem dX12_hit_100 : decode cX12_hit 100 = .ok (.istore 6, 2) := by decide +kernel
theorem dX12_hit_102 : decode cX12_hit 102 = .ok (.iload 6, 2) := by decide +kernel
theorem dX12_hit_104 : decode cX12_hit 104 = .ok (.ifCond .eq 8, 3) := by decide +kernel
theorem dX12_hit_107 : decode cX12_hit 107 = .ok (.iload 5, 2) := by decide +kernel
theorem dX12_hit_109 : decode cX12_hit 109 = .ok (.goto 4, 3) := by decide +kernel
theorem dX12_hit_112 : decode cX12_hit 112 = .ok (.iload_n 3, 1) := by decide +kernel
theorem dX12_hit_113 : decode cX12_hit 113 = .ok (.istore_n 3, 1) := by decide +kernel
theorem dX12_hit_114 : decode cX12_hit 114 = .ok (.iload 6, 2) := by decide +kernel
theorem dX12_hit_116 : decode cX12_hit 116 = .ok (.ifCond .eq 8, 3) := by decide +kernel
theorem dX12_hit_119 : decode cX12_hit 119 = .ok (.iload 4, 2) := by decide +kernel
theorem dX12_hit_121 : decode cX12_hit 121 = .ok (.goto 4, 3) := by decide +kernel
theorem dX12_hit_124 : decode cX12_hit 124 = .ok (.iload_n 2, 1) := by decide +kernel
theorem dX12_hit_125 : decode cX12_hit 125 = .ok (.istore_n 2, 1) := by decide +kernel
theorem dX12_hit_126 : decode cX12_hit 126 = .ok (.iinc 4 1, 3) := by decide +kernel
theorem dX12_hit_129 : decode cX12_hit 129 = .ok (.goto (-86), 3) := by decide +kernel
theorem dX12_hit_132 : decode cX12_hit 132 = .ok (.iload_n 2, 1) := by decide +kernel
theorem dX12_hit_133 : decode cX12_hit 133 = .ok (.ireturn, 1) := by decide +kernel
theorem dX12_areSame_0 : decode cX12_areSame 0 = .ok (.aload_n 0, 1) := by decide +kernel
theorem dX12_areSame_1 : decode cX12_areSame 1 = .ok (.getfield 406, 3) := by decide +kernel
theorem dX12_areSame_4 : decode cX12_areSame 4 = .ok (.iload_n 1, 1) := by decide +kernel
theorem dX12_areSame_5 : decode cX12_areSame 5 = .ok (.if_icmp .ne 7, 3) := by decide +kernel
theorem dX12_areSame_8 : decode cX12_areSame 8 = .ok (.iconst 1, 1) := by decide +kernel
theorem dX12_areSame_9 : decode cX12_areSame 9 = .ok (.goto 4, 3) := by decide +kernel
theorem dX12_areSame_12 : decode cX12_areSame 12 = .ok (.iconst 0, 1) := by decide +kernel
theorem dX12_areSame_13 : decode cX12_areSame 13 = .ok (.istore_n 2, 1) := by decide +kernel
theorem dX12_areSame_14 : decode cX12_areSame 14 = .ok (.iconst 0, 1) := by decide +kernel
theorem dX12_areSame_15 : decode cX12_areSame 15 = .ok (.istore_n 3, 1) := by decide +kernel
theorem dX12_areSame_16 : decode cX12_areSame 16 = .ok (.iload_n 3, 1) := by decide +kernel
theorem dX12_areSame_17 : decode cX12_areSame 17 = .ok (.iload_n 1, 1) := by decide +kernel
theorem dX12_areSame_18 : decode cX12_areSame 18 = .ok (.if_icmp .ge 134, 3) := by decide +kernel
theorem dX12_areSame_21 : decode cX12_areSame 21 = .ok (.iload_n 2, 1) := by decide +kernel
theorem dX12_areSame_22 : decode cX12_areSame 22 = .ok (.ifCond .eq 130, 3) := by decide +kernel
theorem dX12_areSame_25 : decode cX12_areSame 25 = .ok (.aload_n 0, 1) := by decide +kernel
theorem dX12_areSame_26 : decode cX12_areSame 26 = .ok (.getfield 102, 3) := by decide +kernel
theorem dX12_areSame_29 : decode cX12_areSame 29 = .ok (.iload_n 3, 1) := by decide +kernel
