theorem dX12_isLookup_16 : decode cX12_isLookup 16 = .ok (.ireturn, 1) := by decide +kernel
theorem dX12_rule_0 : decode cX12_rule 0 = .ok (.aload_n 0, 1) := by decide +kernel
theorem dX12_rule_1 : decode cX12_rule 1 = .ok (.aload_n 0, 1) := by decide +kernel
theorem dX12_rule_2 : decode cX12_rule 2 = .ok (.iload_n 1, 1) := by decide +kernel
theorem dX12_rule_3 : decode cX12_rule 3 = .ok (.invokevirtual 194, 3) := by decide +kernel
theorem dX12_rule_6 : decode cX12_rule 6 = .ok (.ifCond .eq 7, 3) := by decide +kernel
theorem dX12_rule_9 : decode cX12_rule 9 = .ok (.iconst 0, 1) := by decide +kernel
theorem dX12_rule_10 : decode cX12_rule 10 = .ok (.goto 4, 3) := by decide +kernel
theorem dX12_rule_13 : decode cX12_rule 13 = .ok (.iconst 1, 1) := by decide +kernel
theorem dX12_rule_14 : decode cX12_rule 14 = .ok (.putfield 166, 3) := by decide +kernel
theorem dX12_rule_17 : decode cX12_rule 17 = .ok (.bipush 12, 2) := by decide +kernel
theorem dX12_rule_19 : decode cX12_rule 19 = .ok (.aload_n 0, 1) := by decide +kernel
theorem dX12_rule_20 : decode cX12_rule 20 = .ok (.getfield 169, 3) := by decide +kernel
theorem dX12_rule_23 : decode cX12_rule 23 = .ok (.imul, 1) := by decide +kernel
theorem dX12_rule_24 : decode cX12_rule 24 = .ok (.aload_n 0, 1) := by decide +kernel
theorem dX12_rule_25 : decode cX12_rule 25 = .ok (.getfield 166, 3) := by decide +kernel
theorem dX12_rule_28 : decode cX12_rule 28 = .ok (.ifCond .le 7, 3) := by decide +kernel
theorem dX12_rule_31 : decode cX12_rule 31 = .ok (.iconst 0, 1) := by decide +kernel
theorem dX12_rule_32 : decode cX12_rule 32 = .ok (.goto 4, 3) := by decide +kernel
theorem dX12_rule_35 : decode cX12_rule 35 = .ok (.iload_n 1, 1) := by decide +kernel
theorem dX12_rule_36 : decode cX12_rule 36 = .ok (.iadd, 1) := by decide +kernel
theorem dX12_rule_37 : decode cX12_rule 37 = .ok (.istore 8, 2) := by decide +kernel
theorem dX12_rule_39 : decode cX12_rule 39 = .ok (.aload_n 0, 1) := by decide +kernel
theorem dX12_rule_40 : decode cX12_rule 40 = .ok (.getfield 166, 3) := by decide +kernel
theorem dX12_rule_43 : decode cX12_rule 43 = .ok (.ifCond .ne 66, 3) := by decide +kernel
theorem dX12_rule_46 : decode cX12_rule 46 = .ok (.aload_n 0, 1) := by decide +kernel
theorem dX12_rule_47 : decode cX12_rule 47 = .ok (.aload_n 0, 1) := by decide +kernel
theorem dX12_rule_48 : decode cX12_rule 48 = .ok (.getfield 13, 3) := by decide +kernel
theorem dX12_rule_51 : decode cX12_rule 51 = .ok (.iload 8, 2) := by decide +kernel
theorem dX12_rule_53 : decode cX12_rule 53 = .ok (.iaload, 1) := by decide +kernel
theorem dX12_rule_54 : decode cX12_rule 54 = .ok (.iload_n 2, 1) := by decide +kernel
theorem dX12_rule_55 : decode cX12_rule 55 = .ok (.iload_n 3, 1) := by decide +kernel
theorem dX12_rule_56 : decode cX12_rule 56 = .ok (.iload 4, 2) := by decide +kernel
theorem dX12_rule_58 : decode cX12_rule 58 = .ok (.iload 5, 2) := by decide +kernel
theorem dX12_rule_60 : decode cX12_rule 60 = .ok (.invokestatic 197, 3) := by decide +kernel
theorem dX12_rule_63 : decode cX12_rule 63 = .ok (.ifCond .eq 22, 3) := by decide +kernel
theorem dX12_rule_66 : decode cX12_rule 66 = .ok (.aload_n 0, 1) := by decide +kernel
theorem dX12_rule_67 : decode cX12_rule 67 = .ok (.getfield 13, 3) := by decide +kernel
theorem dX12_rule_70 : decode cX12_rule 70 = .ok (.iload 8, 2) := by decide +kernel
theorem dX12_rule_72 : decode cX12_rule 72 = .ok (.iaload, 1) := by decide +kernel
theorem dX12_rule_73 : decode cX12_rule 73 = .ok (.iload 4, 2) := by decide +kernel
theorem dX12_rule_75 : decode cX12_rule 75 = .ok (.iload 6, 2) := by decide +kernel
theorem dX12_rule_77 : decode cX12_rule 77 = .ok (.iload 7, 2) := by decide +kernel
theorem dX12_rule_79 : decode cX12_rule 79 = .ok (.invokestatic 201, 3) := by decide +kernel
theorem dX12_rule_82 : decode cX12_rule 82 = .ok (.ifCond .ne 7, 3) := by decide +kernel
theorem dX12_rule_85 : decode cX12_rule 85 = .ok (.iconst 2, 1) := by decide +kernel
theorem dX12_rule_86 : decode cX12_rule 86 = .ok (.goto 20, 3) := by decide +kernel
theorem dX12_rule_89 : decode cX12_rule 89 = .ok (.aload_n 0, 1) := by decide +kernel
theorem dX12_rule_90 : decode cX12_rule 90 = .ok (.getfield 28, 3) := by decide +kernel
theorem dX12_rule_93 : decode cX12_rule 93 = .ok (.iload 8, 2) := by decide +kernel
theorem dX12_rule_95 : decode cX12_rule 95 = .ok (.iaload, 1) := by decide +kernel
theorem dX12_rule_96 : decode cX12_rule 96 = .ok (.bipush 8, 2) := by decide +kernel
theorem dX12_rule_98 : decode cX12_rule 98 = .ok (.if_icmp .ne 7, 3) := by decide +kernel
theorem dX12_rule_101 : decode cX12_rule 101 = .ok (.iconst 3, 1) := by decide +kernel
theorem dX12_rule_102 : decode cX12_rule 102 = .ok (.goto 4, 3) := by decide +kernel
theorem dX12_rule_105 : decode cX12_rule 105 = .ok (.iconst 0, 1) := by decide +kernel
theorem dX12_rule_106 : decode cX12_rule 106 = .ok (.putfield 166, 3) := by decide +kernel
theorem dX12_rule_109 : decode cX12_rule 109 = .ok (.aload_n 0, 1) := by decide +kernel
theorem dX12_rule_110 : decode cX12_rule 110 = .ok (.getfield 166, 3) := by decide +kernel
theorem dX12_rule_113 : decode cX12_rule 113 = .ok (.ifCond .le 5, 3) := by decide +kernel
theorem dX12_rule_116 : decode cX12_rule 116 = .ok (.iconst 0, 1) := by decide +kernel
theorem dX12_rule_117 : decode cX12_rule 117 = .ok (.ireturn, 1) := by decide +kernel
theorem dX12_rule_118 : decode cX12_rule 118 = .ok (.bipush 6, 2) := by decide +kernel
theorem dX12_rule_120 : decode cX12_rule 120 = .ok (.bipush 8, 2) := by decide +kernel
theorem dX12_rule_122 : decode cX12_rule 122 = .ok (.iload 8, 2) := by decide +kernel
theorem dX12_rule_124 : decode cX12_rule 124 = .ok (.imul, 1) := by decide +kernel
theorem dX12_rule_125 : decode cX12_rule 125 = .ok (.aload_n 0, 1) := by decide +kernel
theorem dX12_rule_126 : decode cX12_rule 126 = .ok (.getfield 28, 3) := by decide +kernel
theorem dX12_rule_129 : decode cX12_rule 129 = .ok (.iload 8, 2) := by decide +kernel
theorem dX12_rule_131 : decode cX12_rule 131 = .ok (.iaload, 1) := by decide +kernel
theorem dX12_rule_132 : decode cX12_rule 132 = .ok (.iadd, 1) := by decide +kernel
theorem dX12_rule_133 : decode cX12_rule 133 = .ok (.imul, 1) := by decide +kernel
theorem dX12_rule_134 : decode cX12_rule 134 = .ok (.istore 9, 2) := by decide +kernel
theorem dX12_rule_136 : decode cX12_rule 136 = .ok (.aload_n 0, 1) := by decide +kernel
theorem dX12_rule_137 : decode cX12_rule 137 = .ok (.getfield 31, 3) := by decide +kernel
theorem dX12_rule_140 : decode cX12_rule 140 = .ok (.iload 9, 2) := by decide +kernel
theorem dX12_rule_142 : decode cX12_rule 142 = .ok (.iload_n 2, 1) := by decide +kernel
theorem dX12_rule_143 : decode cX12_rule 143 = .ok (.iastore, 1) := by decide +kernel
theorem dX12_rule_144 : decode cX12_rule 144 = .ok (.aload_n 0, 1) := by decide +kernel
theorem dX12_rule_145 : decode cX12_rule 145 = .ok (.getfield 31, 3) := by decide +kernel
theorem dX12_rule_148 : decode cX12_rule 148 = .ok (.iload 9, 2) := by decide +kernel
theorem dX12_rule_150 : decode cX12_rule 150 = .ok (.iconst 1, 1) := by decide +kernel
theorem dX12_rule_151 : decode cX12_rule 151 = .ok (.iadd, 1) := by decide +kernel
theorem dX12_rule_152 : decode cX12_rule 152 = .ok (.iload_n 3, 1) := by decide +kernel
theorem dX12_rule_153 : decode cX12_rule 153 = .ok (.iastore, 1) := by decide +kernel
theorem dX12_rule_154 : decode cX12_rule 154 = .ok (.aload_n 0, 1) := by decide +kernel
theorem dX12_rule_155 : decode cX12_rule 155 = .ok (.getfield 31, 3) := by decide +kernel
theorem dX12_rule_158 : decode cX12_rule 158 = .ok (.iload 9, 2) := by decide +kernel
theorem dX12_rule_160 : decode cX12_rule 160 = .ok (.iconst 2, 1) := by decide +kernel
theorem dX12_rule_161 : decode cX12_rule 161 = .ok (.iadd, 1) := by decide +kernel
theorem dX12_rule_162 : decode cX12_rule 162 = .ok (.iload 4, 2) := by decide +kernel
theorem dX12_rule_164 : decode cX12_rule 164 = .ok (.iastore, 1) := by decide +kernel
theorem dX12_rule_165 : decode cX12_rule 165 = .ok (.aload_n 0, 1) := by decide +kernel
theorem dX12_rule_166 : decode cX12_rule 166 = .ok (.getfield 31, 3) := by decide +kernel
theorem dX12_rule_169 : decode cX12_rule 169 = .ok (.iload 9, 2) := by decide +kernel
theorem dX12_rule_171 : decode cX12_rule 171 = .ok (.iconst 3, 1) := by decide +kernel
theorem dX12_rule_172 : decode cX12_rule 172 = .ok (.iadd, 1) := by decide +kernel
theorem dX12_rule_173 : decode cX12_rule 173 = .ok (.iload 5, 2) := by decide +kernel
theorem dX12_rule_175 : decode cX12_rule 175 = .ok (.iastore, 1) := by decide +kernel
theorem dX12_rule_176 : decode cX12_rule 176 = .ok (.aload_n 0, 1) := by decide +kernel
theorem dX12_rule_177 : decode cX12_rule 177 = .ok (.getfield 31, 3) := by decide +kernel
theorem dX12_rule_180 : decode cX12_rule 180 = .ok (.iload 9, 2) := by decide +kernel
theorem dX12_rule_182 : decode cX12_rule 182 = .ok (.iconst 4, 1) := by decide +kernel
theorem dX12_rule_183 : decode cX12_rule 183 = .ok (.iadd, 1) := by decide +kernel
theorem dX12_rule_184 : decode cX12_rule 184 = .ok (.iload 6, 2) := by decide +kernel
theorem dX12_rule_186 : decode cX12_rule 186 = .ok (.iastore, 1) := by decide +kernel
theorem dX12_rule_187 : decode cX12_rule 187 = .ok (.aload_n 0, 1) := by decide +kernel
theorem dX12_rule_188 : decode cX12_rule 188 = .ok (.getfield 31, 3) := by decide +kernel
theorem dX12_rule_191 : decode cX12_rule 191 = .ok (.iload 9, 2) := by decide +kernel
theorem dX12_rule_193 : decode cX12_rule 193 = .ok (.iconst 5, 1) := by decide +kernel
theorem dX12_rule_194 : decode cX12_rule 194 = .ok (.iadd, 1) := by decide +kernel
theorem dX12_rule_195 : decode cX12_rule 195 = .ok (.iload 7, 2) := by decide +kernel
theorem dX12_rule_197 : decode cX12_rule 197 = .ok (.iastore, 1) := by decide +kernel
theorem dX12_rule_198 : decode cX12_rule 198 = .ok (.aload_n 0, 1) := by decide +kernel
theorem dX12_rule_199 : decode cX12_rule 199 = .ok (.getfield 28, 3) := by decide +kernel
theorem dX12_rule_202 : decode cX12_rule 202 = .ok (.iload 8, 2) := by decide +kernel
theorem dX12_rule_204 : decode cX12_rule 204 = .ok (.dup2, 1) := by decide +kernel
theorem dX12_rule_205 : decode cX12_rule 205 = .ok (.iaload, 1) := by decide +kernel
theorem dX12_rule_206 : decode cX12_rule 206 = .ok (.iconst 1, 1) := by decide +kernel
theorem dX12_rule_207 : decode cX12_rule 207 = .ok (.iadd, 1) := by decide +kernel
theorem dX12_rule_208 : decode cX12_rule 208 = .ok (.iastore, 1) := by decide +kernel
theorem dX12_rule_209 : decode cX12_rule 209 = .ok (.aload_n 0, 1) := by decide +kernel
theorem dX12_rule_210 : decode cX12_rule 210 = .ok (.getfield 28, 3) := by decide +kernel
theorem dX12_rule_213 : decode cX12_rule 213 = .ok (.iload 8, 2) := by decide +kernel
theorem dX12_rule_215 : decode cX12_rule 215 = .ok (.iaload, 1) := by decide +kernel
theorem dX12_rule_216 : decode cX12_rule 216 = .ok (.ireturn, 1) := by decide +kernel
theorem dX12_setMark_0 : decode cX12_setMark 0 = .ok (.aload_n 0, 1) := by decide +kernel
theorem dX12_setMark_1 : decode cX12_setMark 1 = .ok (.iload_n 1, 1) := by decide +kernel
theorem dX12_setMark_2 : decode cX12_setMark 2 = .ok (.invokestatic 172, 3) := by decide +kernel
theorem dX12_setMark_5 : decode cX12_setMark 5 = .ok (.ifCond .ne 7, 3) := by decide +kernel
theorem dX12_setMark_8 : decode cX12_setMark 8 = .ok (.iconst 1, 1) := by decide +kernel
theorem dX12_setMark_9 : decode cX12_setMark 9 = .ok (.goto 21, 3) := by decide +kernel
theorem dX12_setMark_12 : decode cX12_setMark 12 = .ok (.iload_n 2, 1) := by decide +kernel
theorem dX12_setMark_13 : decode cX12_setMark 13 = .ok (.bipush (-100), 2) := by decide +kernel
theorem dX12_setMark_15 : decode cX12_setMark 15 = .ok (.if_icmp .eq 10, 3) := by decide +kernel
theorem dX12_setMark_18 : decode cX12_setMark 18 = .ok (.iload_n 2, 1) := by decide +kernel
theorem dX12_setMark_19 : decode cX12_setMark 19 = .ok (.invokestatic 191, 3) := by decide +kernel
theorem dX12_setMark_22 : decode cX12_setMark 22 = .ok (.ifCond .eq 7, 3) := by decide +kernel
theorem dX12_setMark_25 : decode cX12_setMark 25 = .ok (.iconst 0, 1) := by decide +kernel
theorem dX12_setMark_26 : decode cX12_setMark 26 = .ok (.goto 4, 3) := by decide +kernel
theorem dX12_setMark_29 : decode cX12_setMark 29 = .ok (.iconst 2, 1) := by decide +kernel
theorem dX12_setMark_30 : decode cX12_setMark 30 = .ok (.putfield 166, 3) := by decide +kernel
theorem dX12_setMark_33 : decode cX12_setMark 33 = .ok (.aload_n 0, 1) := by decide +kernel
theorem dX12_setMark_34 : decode cX12_setMark 34 = .ok (.getfield 166, 3) := by decide +kernel
theorem dX12_setMark_37 : decode cX12_setMark 37 = .ok (.ifCond .le 5, 3) := by decide +kernel
theorem dX12_setMark_40 : decode cX12_setMark 40 = .ok (.iconst 0, 1) := by decide +kernel
theorem dX12_setMark_41 : decode cX12_setMark 41 = .ok (.ireturn, 1) := by decide +kernel
theorem dX12_setMark_42 : decode cX12_setMark 42 = .ok (.aload_n 0, 1) := by decide +kernel
theorem dX12_setMark_43 : decode cX12_setMark 43 = .ok (.getfield 34, 3) := by decide +kernel
theorem dX12_setMark_46 : decode cX12_setMark 46 = .ok (.sipush 256, 3) := by decide +kernel
theorem dX12_setMark_49 : decode cX12_setMark 49 = .ok (.aload_n 0, 1) := by decide +kernel
theorem dX12_setMark_50 : decode cX12_setMark 50 = .ok (.getfield 169, 3) := by decide +kernel
theorem dX12_setMark_53 : decode cX12_setMark 53 = .ok (.imul, 1) := by decide +kernel
theorem dX12_setMark_54 : decode cX12_setMark 54 = .ok (.iload_n 1, 1) := by decide +kernel
theorem dX12_setMark_55 : decode cX12_setMark 55 = .ok (.iadd, 1) := by decide +kernel
theorem dX12_setMark_56 : decode cX12_setMark 56 = .ok (.iaload, 1) := by decide +kernel
theorem dX12_setMark_57 : decode cX12_setMark 57 = .ok (.istore_n 3, 1) := by decide +kernel
theorem dX12_setMark_58 : decode cX12_setMark 58 = .ok (.aload_n 0, 1) := by decide +kernel
theorem dX12_setMark_59 : decode cX12_setMark 59 = .ok (.getfield 34, 3) := by decide +kernel
theorem dX12_setMark_62 : decode cX12_setMark 62 = .ok (.sipush 256, 3) := by decide +kernel
theorem dX12_setMark_65 : decode cX12_setMark 65 = .ok (.aload_n 0, 1) := by decide +kernel
theorem dX12_setMark_66 : decode cX12_setMark 66 = .ok (.getfield 169, 3) := by decide +kernel
theorem dX12_setMark_69 : decode cX12_setMark 69 = .ok (.imul, 1) := by decide +kernel
theorem dX12_setMark_70 : decode cX12_setMark 70 = .ok (.iload_n 1, 1) := by decide +kernel
theorem dX12_setMark_71 : decode cX12_setMark 71 = .ok (.iadd, 1) := by decide +kernel
theorem dX12_setMark_72 : decode cX12_setMark 72 = .ok (.iload_n 2, 1) := by decide +kernel
theorem dX12_setMark_73 : decode cX12_setMark 73 = .ok (.bipush (-100), 2) := by decide +kernel
theorem dX12_setMark_75 : decode cX12_setMark 75 = .ok (.if_icmp .ne 7, 3) := by decide +kernel
theorem dX12_setMark_78 : decode cX12_setMark 78 = .ok (.iconst 0, 1) := by decide +kernel
theorem dX12_setMark_79 : decode cX12_setMark 79 = .ok (.goto 6, 3) := by decide +kernel
theorem dX12_setMark_82 : decode cX12_setMark 82 = .ok (.iload_n 2, 1) := by decide +kernel
theorem dX12_setMark_83 : decode cX12_setMark 83 = .ok (.iconst 1, 1) := by decide +kernel
theorem dX12_setMark_84 : decode cX12_setMark 84 = .ok (.iadd, 1) := by decide +kernel
theorem dX12_setMark_85 : decode cX12_setMark 85 = .ok (.iastore, 1) := by decide +kernel
theorem dX12_setMark_86 : decode cX12_setMark 86 = .ok (.iload_n 3, 1) := by decide +kernel
theorem dX12_setMark_87 : decode cX12_setMark 87 = .ok (.ifCond .ne 8, 3) := by decide +kernel
theorem dX12_setMark_90 : decode cX12_setMark 90 = .ok (.bipush (-100), 2) := by decide +kernel
theorem dX12_setMark_92 : decode cX12_setMark 92 = .ok (.goto 6, 3) := by decide +kernel
theorem dX12_setMark_95 : decode cX12_setMark 95 = .ok (.iload_n 3, 1) := by decide +kernel
theorem dX12_setMark_96 : decode cX12_setMark 96 = .ok (.iconst 1, 1) := by decide +kernel
theorem dX12_setMark_97 : decode cX12_setMark 97 = .ok (.isub, 1) := by decide +kernel
theorem dX12_setMark_98 : decode cX12_setMark 98 = .ok (.ireturn, 1) := by decide +kernel
theorem dX12_setGroup_0 : decode cX12_setGroup 0 = .ok (.aload_n 0, 1) := by decide +kernel
theorem dX12_setGroup_1 : decode cX12_setGroup 1 = .ok (.iload_n 1, 1) := by decide +kernel
theorem dX12_setGroup_2 : decode cX12_setGroup 2 = .ok (.invokestatic 172, 3) := by decide +kernel
theorem dX12_setGroup_5 : decode cX12_setGroup 5 = .ok (.ifCond .eq 16, 3) := by decide +kernel
theorem dX12_setGroup_8 : decode cX12_setGroup 8 = .ok (.iload_n 2, 1) := by decide +kernel
theorem dX12_setGroup_9 : decode cX12_setGroup 9 = .ok (.iconst 0, 1) := by decide +kernel
theorem dX12_setGroup_10 : decode cX12_setGroup 10 = .ok (.iconst 5, 1) := by decide +kernel
theorem dX12_setGroup_11 : decode cX12_setGroup 11 = .ok (.invokestatic 162, 3) := by decide +kernel
theorem dX12_setGroup_14 : decode cX12_setGroup 14 = .ok (.ifCond .eq 7, 3) := by decide +kernel
theorem dX12_setGroup_17 : decode cX12_setGroup 17 = .ok (.iconst 0, 1) := by decide +kernel
theorem dX12_setGroup_18 : decode cX12_setGroup 18 = .ok (.goto 4, 3) := by decide +kernel
theorem dX12_setGroup_21 : decode cX12_setGroup 21 = .ok (.iconst 1, 1) := by decide +kernel
theorem dX12_setGroup_22 : decode cX12_setGroup 22 = .ok (.putfield 166, 3) := by decide +kernel
theorem dX12_setGroup_25 : decode cX12_setGroup 25 = .ok (.aload_n 0, 1) := by decide +kernel
theorem dX12_setGroup_26 : decode cX12_setGroup 26 = .ok (.getfield 166, 3) := by decide +kernel
theorem dX12_setGroup_29 : decode cX12_setGroup 29 = .ok (.ifCond .le 5, 3) := by decide +kernel
theorem dX12_setGroup_32 : decode cX12_setGroup 32 = .ok (.iconst 0, 1) := by decide +kernel
theorem dX12_setGroup_33 : decode cX12_setGroup 33 = .ok (.ireturn, 1) := by decide +kernel
theorem dX12_setGroup_34 : decode cX12_setGroup 34 = .ok (.aload_n 0, 1) := by decide +kernel
theorem dX12_setGroup_35 : decode cX12_setGroup 35 = .ok (.getfield 37, 3) := by decide +kernel
theorem dX12_setGroup_38 : decode cX12_setGroup 38 = .ok (.sipush 256, 3) := by decide +kernel
theorem dX12_setGroup_41 : decode cX12_setGroup 41 = .ok (.aload_n 0, 1) := by decide +kernel
theorem dX12_setGroup_42 : decode cX12_setGroup 42 = .ok (.getfield 169, 3) := by decide +kernel
theorem dX12_setGroup_45 : decode cX12_setGroup 45 = .ok (.imul, 1) := by decide +kernel
theorem dX12_setGroup_46 : decode cX12_setGroup 46 = .ok (.iload_n 1, 1) := by decide +kernel
theorem dX12_setGroup_47 : decode cX12_setGroup 47 = .ok (.iadd, 1) := by decide +kernel
theorem dX12_setGroup_48 : decode cX12_setGroup 48 = .ok (.iaload, 1) := by decide +kernel
theorem dX12_setGroup_49 : decode cX12_setGroup 49 = .ok (.istore_n 3, 1) := by decide +kernel
theorem dX12_setGroup_50 : decode cX12_setGroup 50 = .ok (.aload_n 0, 1) := by decide +kernel
theorem dX12_setGroup_51 : decode cX12_setGroup 51 = .ok (.getfield 37, 3) := by decide +kernel
theorem dX12_setGroup_54 : decode cX12_setGroup 54 = .ok (.sipush 256, 3) := by decide +kernel
theorem dX12_setGroup_57 : decode cX12_setGroup 57 = .ok (.aload_n 0, 1) := by decide +kernel
theorem dX12_setGroup_58 : decode cX12_setGroup 58 = .ok (.getfield 169, 3) := by decide +kernel
theorem dX12_setGroup_61 : decode cX12_setGroup 61 = .ok (.imul, 1) := by decide +kernel
theorem dX12_setGroup_62 : decode cX12_setGroup 62 = .ok (.iload_n 1, 1) := by decide +kernel
theorem dX12_setGroup_63 : decode cX12_setGroup 63 = .ok (.iadd, 1) := by decide +kernel
theorem dX12_setGroup_64 : decode cX12_setGroup 64 = .ok (.iload_n 2, 1) := by decide +kernel
theorem dX12_setGroup_65 : decode cX12_setGroup 65 = .ok (.iastore, 1) := by decide +kernel
theorem dX12_setGroup_66 : decode cX12_setGroup 66 = .ok (.iload_n 3, 1) := by decide +kernel
theorem dX12_setGroup_67 : decode cX12_setGroup 67 = .ok (.ireturn, 1) := by decide +kernel
theorem dX12_setWidth_0 : decode cX12_setWidth 0 = .ok (.aload_n 0, 1) := by decide +kernel
theorem dX12_setWidth_1 : decode cX12_setWidth 1 = .ok (.iload_n 1, 1) := by decide +kernel
theorem dX12_setWidth_2 : decode cX12_setWidth 2 = .ok (.invokestatic 172, 3) := by decide +kernel
theorem dX12_setWidth_5 : decode cX12_setWidth 5 = .ok (.ifCond .ne 7, 3) := by decide +kernel
theorem dX12_setWidth_8 : decode cX12_setWidth 8 = .ok (.iconst 1, 1) := by decide +kernel
theorem dX12_setWidth_9 : decode cX12_setWidth 9 = .ok (.goto 18, 3) := by decide +kernel
theorem dX12_setWidth_12 : decode cX12_setWidth 12 = .ok (.iload_n 2, 1) := by decide +kernel
theorem dX12_setWidth_13 : decode cX12_setWidth 13 = .ok (.iconst 0, 1) := by decide +kernel
theorem dX12_setWidth_14 : decode cX12_setWidth 14 = .ok (.bipush 100, 2) := by decide +kernel
theorem dX12_setWidth_16 : decode cX12_setWidth 16 = .ok (.invokestatic 162, 3) := by decide +kernel
theorem dX12_setWidth_19 : decode cX12_setWidth 19 = .ok (.ifCond .eq 7, 3) := by decide +kernel
theorem dX12_setWidth_22 : decode cX12_setWidth 22 = .ok (.iconst 0, 1) := by decide +kernel
theorem dX12_setWidth_23 : decode cX12_setWidth 23 = .ok (.goto 4, 3) := by decide +kernel
theorem dX12_setWidth_26 : decode cX12_setWidth 26 = .ok (.iconst 2, 1) := by decide +kernel
theorem dX12_setWidth_27 : decode cX12_setWidth 27 = .ok (.putfield 166, 3) := by decide +kernel
theorem dX12_setWidth_30 : decode cX12_setWidth 30 = .ok (.aload_n 0, 1) := by decide +kernel
theorem dX12_setWidth_31 : decode cX12_setWidth 31 = .ok (.getfield 166, 3) := by decide +kernel
theorem dX12_setWidth_34 : decode cX12_setWidth 34 = .ok (.ifCond .le 5, 3) := by decide +kernel
theorem dX12_setWidth_37 : decode cX12_setWidth 37 = .ok (.iconst 0, 1) := by decide +kernel
theorem dX12_setWidth_38 : decode cX12_setWidth 38 = .ok (.ireturn, 1) := by decide +kernel
theorem dX12_setWidth_39 : decode cX12_setWidth 39 = .ok (.aload_n 0, 1) := by decide +kernel
theorem dX12_setWidth_40 : decode cX12_setWidth 40 = .ok (.getfield 40, 3) := by decide +kernel
theorem dX12_setWidth_43 : decode cX12_setWidth 43 = .ok (.sipush 256, 3) := by decide +kernel
theorem dX12_setWidth_46 : decode cX12_setWidth 46 = .ok (.aload_n 0, 1) := by decide +kernel
theorem dX12_setWidth_47 : decode cX12_setWidth 47 = .ok (.getfield 169, 3) := by decide +kernel
theorem dX12_setWidth_50 : decode cX12_setWidth 50 = .ok (.imul, 1) := by decide +kernel
theorem dX12_setWidth_51 : decode cX12_setWidth 51 = .ok (.iload_n 1, 1) := by decide +kernel
theorem dX12_setWidth_52 : decode cX12_setWidth 52 = .ok (.iadd, 1) := by decide +kernel
theorem dX12_setWidth_53 : decode cX12_setWidth 53 = .ok (.iaload, 1) := by decide +kernel
theorem dX12_setWidth_54 : decode cX12_setWidth 54 = .ok (.istore_n 3, 1) := by decide +kernel
theorem dX12_setWidth_55 : decode cX12_setWidth 55 = .ok (.aload_n 0, 1) := by decide +kernel
theorem dX12_setWidth_56 : decode cX12_setWidth 56 = .ok (.getfield 40, 3) := by decide +kernel
theorem dX12_setWidth_59 : decode cX12_setWidth 59 = .ok (.sipush 256, 3) := by decide +kernel
theorem dX12_setWidth_62 : decode cX12_setWidth 62 = .ok (.aload_n 0, 1) := by decide +kernel
theorem dX12_setWidth_63 : decode cX12_setWidth 63 = .ok (.getfield 169, 3) := by decide +kernel
theorem dX12_setWidth_66 : decode cX12_setWidth 66 = .ok (.imul, 1) := by decide +kernel
theorem dX12_setWidth_67 : decode cX12_setWidth 67 = .ok (.iload_n 1, 1) := by decide +kernel
theorem dX12_setWidth_68 : decode cX12_setWidth 68 = .ok (.iadd, 1) := by decide +kernel
theorem dX12_setWidth_69 : decode cX12_setWidth 69 = .ok (.iload_n 2, 1) := by decide +kernel
theorem dX12_setWidth_70 : decode cX12_setWidth 70 = .ok (.iastore, 1) := by decide +kernel
theorem dX12_setWidth_71 : decode cX12_setWidth 71 = .ok (.iload_n 3, 1) := by decide +kernel
theorem dX12_setWidth_72 : decode cX12_setWidth 72 = .ok (.ireturn, 1) := by decide +kernel
theorem dX12_lack_0 : decode cX12_lack 0 = .ok (.aload_n 0, 1) := by decide +kernel
theorem dX12_lack_1 : decode cX12_lack 1 = .ok (.iload_n 1, 1) := by decide +kernel
theorem dX12_lack_2 : decode cX12_lack 2 = .ok (.invokestatic 205, 3) := by decide +kernel
theorem dX12_lack_5 : decode cX12_lack 5 = .ok (.ifCond .eq 7, 3) := by decide +kernel
theorem dX12_lack_8 : decode cX12_lack 8 = .ok (.iconst 0, 1) := by decide +kernel
theorem dX12_lack_9 : decode cX12_lack 9 = .ok (.goto 4, 3) := by decide +kernel
theorem dX12_lack_12 : decode cX12_lack 12 = .ok (.iconst 1, 1) := by decide +kernel
theorem dX12_lack_13 : decode cX12_lack 13 = .ok (.putfield 166, 3) := by decide +kernel
theorem dX12_lack_16 : decode cX12_lack 16 = .ok (.aload_n 0, 1) := by decide +kernel
theorem dX12_lack_17 : decode cX12_lack 17 = .ok (.getfield 166, 3) := by decide +kernel
theorem dX12_lack_20 : decode cX12_lack 20 = .ok (.ifCond .ne 23, 3) := by decide +kernel
theorem dX12_lack_23 : decode cX12_lack 23 = .ok (.aload_n 0, 1) := by decide +kernel
theorem dX12_lack_24 : decode cX12_lack 24 = .ok (.getfield 43, 3) := by decide +kernel
theorem dX12_lack_27 : decode cX12_lack 27 = .ok (.iload_n 1, 1) := by decide +kernel
theorem dX12_lack_28 : decode cX12_lack 28 = .ok (.aload_n 0, 1) := by decide +kernel
theorem dX12_lack_29 : decode cX12_lack 29 = .ok (.getfield 43, 3) := by decide +kernel
theorem dX12_lack_32 : decode cX12_lack 32 = .ok (.iload_n 1, 1) := by decide +kernel
theorem dX12_lack_33 : decode cX12_lack 33 = .ok (.baload, 1) := by decide +kernel
theorem dX12_lack_34 : decode cX12_lack 34 = .ok (.ifCond .ne 7, 3) := by decide +kernel
theorem dX12_lack_37 : decode cX12_lack 37 = .ok (.iconst 1, 1) := by decide +kernel
theorem dX12_lack_38 : decode cX12_lack 38 = .ok (.goto 4, 3) := by decide +kernel
theorem dX12_lack_41 : decode cX12_lack 41 = .ok (.iconst 0, 1) := by decide +kernel
theorem dX12_lack_42 : decode cX12_lack 42 = .ok (.bastore, 1) := by decide +kernel
theorem dX12_lack_43 : decode cX12_lack 43 = .ok (.aload_n 0, 1) := by decide +kernel
theorem dX12_lack_44 : decode cX12_lack 44 = .ok (.getfield 166, 3) := by decide +kernel
theorem dX12_lack_47 : decode cX12_lack 47 = .ok (.ifCond .ne 16, 3) := by decide +kernel
theorem dX12_lack_50 : decode cX12_lack 50 = .ok (.aload_n 0, 1) := by decide +kernel
theorem dX12_lack_51 : decode cX12_lack 51 = .ok (.getfield 43, 3) := by decide +kernel
theorem dX12_lack_54 : decode cX12_lack 54 = .ok (.iload_n 1, 1) := by decide +kernel
theorem dX12_lack_55 : decode cX12_lack 55 = .ok (.baload, 1) := by decide +kernel
theorem dX12_lack_56 : decode cX12_lack 56 = .ok (.ifCond .eq 7, 3) := by decide +kernel
theorem dX12_lack_59 : decode cX12_lack 59 = .ok (.iconst 1, 1) := by decide +kernel
theorem dX12_lack_60 : decode cX12_lack 60 = .ok (.goto 4, 3) := by decide +kernel
theorem dX12_lack_63 : decode cX12_lack 63 = .ok (.iconst 0, 1) := by decide +kernel
theorem dX12_lack_64 : decode cX12_lack 64 = .ok (.ireturn, 1) := by decide +kernel
theorem dX12_isOf_0 : decode cX12_isOf 0 = .ok (.iload_n 1, 1) := by decide +kernel
theorem dX12_isOf_1 : decode cX12_isOf 1 = .ok (.sipush 300, 3) := by decide +kernel
theorem dX12_isOf_4 : decode cX12_isOf 4 = .ok (.if_icmp .lt 31, 3) := by decide +kernel
theorem dX12_isOf_7 : decode cX12_isOf 7 = .ok (.aload_n 0, 1) := by decide +kernel
theorem dX12_isOf_8 : decode cX12_isOf 8 = .ok (.getfield 37, 3) := by decide +kernel
theorem dX12_isOf_11 : decode cX12_isOf 11 = .ok (.sipush 256, 3) := by decide +kernel
theorem dX12_isOf_14 : decode cX12_isOf 14 = .ok (.iload_n 3, 1) := by decide +kernel
theorem dX12_isOf_15 : decode cX12_isOf 15 = .ok (.imul, 1) := by decide +kernel
theorem dX12_isOf_16 : decode cX12_isOf 16 = .ok (.iload_n 2, 1) := by decide +kernel
theorem dX12_isOf_17 : decode cX12_isOf 17 = .ok (.iadd, 1) := by decide +kernel
theorem dX12_isOf_18 : decode cX12_isOf 18 = .ok (.iaload, 1) := by decide +kernel
theorem dX12_isOf_19 : decode cX12_isOf 19 = .ok (.iload_n 1, 1) := by decide +kernel
theorem dX12_isOf_20 : decode cX12_isOf 20 = .ok (.sipush 300, 3) := by decide +kernel
theorem dX12_isOf_23 : decode cX12_isOf 23 = .ok (.isub, 1) := by decide +kernel
theorem dX12_isOf_24 : decode cX12_isOf 24 = .ok (.if_icmp .ne 7, 3) := by decide +kernel
theorem dX12_isOf_27 : decode cX12_isOf 27 = .ok (.iconst 1, 1) := by decide +kernel
theorem dX12_isOf_28 : decode cX12_isOf 28 = .ok (.goto 17, 3) := by decide +kernel
theorem dX12_isOf_31 : decode cX12_isOf 31 = .ok (.iconst 0, 1) := by decide +kernel
theorem dX12_isOf_32 : decode cX12_isOf 32 = .ok (.goto 13, 3) := by decide +kernel
theorem dX12_isOf_35 : decode cX12_isOf 35 = .ok (.iload_n 1, 1) := by decide +kernel
theorem dX12_isOf_36 : decode cX12_isOf 36 = .ok (.iload_n 2, 1) := by decide +kernel
theorem dX12_isOf_37 : decode cX12_isOf 37 = .ok (.if_icmp .ne 7, 3) := by decide +kernel
theorem dX12_isOf_40 : decode cX12_isOf 40 = .ok (.iconst 1, 1) := by decide +kernel
theorem dX12_isOf_41 : decode cX12_isOf 41 = .ok (.goto 4, 3) := by decide +kernel
theorem dX12_isOf_44 : decode cX12_isOf 44 = .ok (.iconst 0, 1) := by decide +kernel
theorem dX12_isOf_45 : decode cX12_isOf 45 = .ok (.ireturn, 1) := by decide +kernel
theorem dX12_begins_0 : decode cX12_begins 0 = .ok (.aload_n 0, 1) := by decide +kernel
theorem dX12_begins_1 : decode cX12_begins 1 = .ok (.getfield 13, 3) := by decide +kernel
theorem dX12_begins_4 : decode cX12_begins 4 = .ok (.iload_n 1, 1) := by decide +kernel
theorem dX12_begins_5 : decode cX12_begins 5 = .ok (.iaload, 1) := by decide +kernel
theorem dX12_begins_6 : decode cX12_begins 6 = .ok (.iconst 4, 1) := by decide +kernel
theorem dX12_begins_7 : decode cX12_begins 7 = .ok (.if_icmp .eq 13, 3) := by decide +kernel
theorem dX12_begins_10 : decode cX12_begins 10 = .ok (.aload_n 0, 1) := by decide +kernel
theorem dX12_begins_11 : decode cX12_begins 11 = .ok (.getfield 13, 3) := by decide +kernel
theorem dX12_begins_14 : decode cX12_begins 14 = .ok (.iload_n 1, 1) := by decide +kernel
theorem dX12_begins_15 : decode cX12_begins 15 = .ok (.iaload, 1) := by decide +kernel
theorem dX12_begins_16 : decode cX12_begins 16 = .ok (.iconst 5, 1) := by decide +kernel
theorem dX12_begins_17 : decode cX12_begins 17 = .ok (.if_icmp .ne 7, 3) := by decide +kernel
theorem dX12_begins_20 : decode cX12_begins 20 = .ok (.iconst 1, 1) := by decide +kernel
theorem dX12_begins_21 : decode cX12_begins 21 = .ok (.goto 4, 3) := by decide +kernel
theorem dX12_begins_24 : decode cX12_begins 24 = .ok (.iconst 0, 1) := by decide +kernel
theorem dX12_begins_25 : decode cX12_begins 25 = .ok (.istore_n 3, 1) := by decide +kernel
theorem dX12_begins_26 : decode cX12_begins 26 = .ok (.iconst 0, 1) := by decide +kernel
theorem dX12_begins_27 : decode cX12_begins 27 = .ok (.istore 4, 2) := by decide +kernel
theorem dX12_begins_29 : decode cX12_begins 29 = .ok (.iconst 0, 1) := by decide +kernel
theorem dX12_begins_30 : decode cX12_begins 30 = .ok (.istore 5, 2) := by decide +kernel
theorem dX12_begins_32 : decode cX12_begins 32 = .ok (.iload 5, 2) := by decide +kernel
theorem dX12_begins_34 : decode cX12_begins 34 = .ok (.aload_n 0, 1) := by decide +kernel
theorem dX12_begins_35 : decode cX12_begins 35 = .ok (.getfield 28, 3) := by decide +kernel
theorem dX12_begins_38 : decode cX12_begins 38 = .ok (.iload_n 1, 1) := by decide +kernel
theorem dX12_begins_39 : decode cX12_begins 39 = .ok (.iaload, 1) := by decide +kernel
theorem dX12_begins_40 : decode cX12_begins 40 = .ok (.if_icmp .ge 51, 3) := by decide +kernel
theorem dX12_begins_43 : decode cX12_begins 43 = .ok (.iload 4, 2) := by decide +kernel
theorem dX12_begins_45 : decode cX12_begins 45 = .ok (.aload_n 0, 1) := by decide +kernel
theorem dX12_begins_46 : decode cX12_begins 46 = .ok (.aload_n 0, 1) := by decide +kernel
theorem dX12_begins_47 : decode cX12_begins 47 = .ok (.getfield 31, 3) := by decide +kernel
theorem dX12_begins_50 : decode cX12_begins 50 = .ok (.bipush 6, 2) := by decide +kernel
theorem dX12_begins_52 : decode cX12_begins 52 = .ok (.bipush 8, 2) := by decide +kernel
theorem dX12_begins_54 : decode cX12_begins 54 = .ok (.iload_n 1, 1) := by decide +kernel
theorem dX12_begins_55 : decode cX12_begins 55 = .ok (.imul, 1) := by decide +kernel
theorem dX12_begins_56 : decode cX12_begins 56 = .ok (.iload 5, 2) := by decide +kernel
theorem dX12_begins_58 : decode cX12_begins 58 = .ok (.iadd, 1) := by decide +kernel
theorem dX12_begins_59 : decode cX12_begins 59 = .ok (.imul, 1) := by decide +kernel
theorem dX12_begins_60 : decode cX12_begins 60 = .ok (.iload_n 3, 1) := by decide +kernel
theorem dX12_begins_61 : decode cX12_begins 61 = .ok (.iadd, 1) := by decide +kernel
theorem dX12_begins_62 : decode cX12_begins 62 = .ok (.iaload, 1) := by decide +kernel
theorem dX12_begins_63 : decode cX12_begins 63 = .ok (.iload_n 2, 1) := by decide +kernel
theorem dX12_begins_64 : decode cX12_begins 64 = .ok (.aload_n 0, 1) := by decide +kernel
theorem dX12_begins_65 : decode cX12_begins 65 = .ok (.getfield 169, 3) := by decide +kernel
theorem dX12_begins_68 : decode cX12_begins 68 = .ok (.invokevirtual 208, 3) := by decide +kernel
theorem dX12_begins_71 : decode cX12_begins 71 = .ok (.ifCond .eq 10, 3) := by decide +kernel
theorem dX12_begins_74 : decode cX12_begins 74 = .ok (.iconst 1, 1) := by decide +kernel
theorem dX12_begins_75 : decode cX12_begins 75 = .ok (.iload 5, 2) := by decide +kernel
theorem dX12_begins_77 : decode cX12_begins 77 = .ok (.ishl, 1) := by decide +kernel
theorem dX12_begins_78 : decode cX12_begins 78 = .ok (.goto 4, 3) := by decide +kernel
theorem dX12_begins_81 : decode cX12_begins 81 = .ok (.iconst 0, 1) := by decide +kernel
theorem dX12_begins_82 : decode cX12_begins 82 = .ok (.ior, 1) := by decide +kernel
theorem dX12_begins_83 : decode cX12_begins 83 = .ok (.istore 4, 2) := by decide +kernel
theorem dX12_begins_85 : decode cX12_begins 85 = .ok (.iinc 5 1, 3) := by decide +kernel
theorem dX12_begins_88 : decode cX12_begins 88 = .ok (.goto (-56), 3) := by decide +kernel
theorem dX12_begins_91 : decode cX12_begins 91 = .ok (.iload 4, 2) := by decide +kernel
theorem dX12_begins_93 : decode cX12_begins 93 = .ok (.ireturn, 1) := by decide +kernel
theorem dX12_count_0 : decode cX12_count 0 = .ok (.iconst 0, 1) := by decide +kernel
theorem dX12_count_1 : decode cX12_count 1 = .ok (.istore_n 1, 1) := by decide +kernel
theorem dX12_count_2 : decode cX12_count 2 = .ok (.iload_n 0, 1) := by decide +kernel
theorem dX12_count_3 : decode cX12_count 3 = .ok (.istore_n 2, 1) := by decide +kernel
theorem dX12_count_4 : decode cX12_count 4 = .ok (.iload_n 2, 1) := by decide +kernel
theorem dX12_count_5 : decode cX12_count 5 = .ok (.ifCond .le 16, 3) := by decide +kernel
theorem dX12_count_8 : decode cX12_count 8 = .ok (.iload_n 1, 1) := by decide +kernel
theorem dX12_count_9 : decode cX12_count 9 = .ok (.iload_n 2, 1) := by decide +kernel
theorem dX12_count_10 : decode cX12_count 10 = .ok (.iconst 2, 1) := by decide +kernel
theorem dX12_count_11 : decode cX12_count 11 = .ok (.irem, 1) := by decide +kernel
theorem dX12_count_12 : decode cX12_count 12 = .ok (.iadd, 1) := by decide +kernel
theorem dX12_count_13 : decode cX12_count 13 = .ok (.istore_n 1, 1) := by decide +kernel
theorem dX12_count_14 : decode cX12_count 14 = .ok (.iload_n 2, 1) := by decide +kernel
theorem dX12_count_15 : decode cX12_count 15 = .ok (.iconst 2, 1) := by decide +kernel
theorem dX12_count_16 : decode cX12_count 16 = .ok (.idiv, 1) := by decide +kernel
theorem dX12_count_17 : decode cX12_count 17 = .ok (.istore_n 2, 1) := by decide +kernel
theorem dX12_count_18 : decode cX12_count 18 = .ok (.goto (-14), 3) := by decide +kernel
theorem dX12_count_21 : decode cX12_count 21 = .ok (.iload_n 1, 1) := by decide +kernel
theorem dX12_count_22 : decode cX12_count 22 = .ok (.ireturn, 1) := by decide +kernel
theorem dX12_size_0 : decode cX12_size 0 = .ok (.aload_n 0, 1) := by decide +kernel
theorem dX12_size_1 : decode cX12_size 1 = .ok (.aload_n 0, 1) := by decide +kernel
theorem dX12_size_2 : decode cX12_size 2 = .ok (.iload_n 1, 1) := by decide +kernel
theorem dX12_size_3 : decode cX12_size 3 = .ok (.invokevirtual 194, 3) := by decide +kernel
theorem dX12_size_6 : decode cX12_size 6 = .ok (.ifCond .eq 7, 3) := by decide +kernel
theorem dX12_size_9 : decode cX12_size 9 = .ok (.iconst 0, 1) := by decide +kernel
theorem dX12_size_10 : decode cX12_size 10 = .ok (.goto 4, 3) := by decide +kernel
theorem dX12_size_13 : decode cX12_size 13 = .ok (.iconst 1, 1) := by decide +kernel
theorem dX12_size_14 : decode cX12_size 14 = .ok (.putfield 166, 3) := by decide +kernel
theorem dX12_size_17 : decode cX12_size 17 = .ok (.aload_n 0, 1) := by decide +kernel
theorem dX12_size_18 : decode cX12_size 18 = .ok (.getfield 166, 3) := by decide +kernel
theorem dX12_size_21 : decode cX12_size 21 = .ok (.ifCond .le 5, 3) := by decide +kernel
theorem dX12_size_24 : decode cX12_size 24 = .ok (.iconst 0, 1) := by decide +kernel
theorem dX12_size_25 : decode cX12_size 25 = .ok (.ireturn, 1) := by decide +kernel
theorem dX12_size_26 : decode cX12_size 26 = .ok (.iconst 0, 1) := by decide +kernel
theorem dX12_size_27 : decode cX12_size 27 = .ok (.istore_n 2, 1) := by decide +kernel
theorem dX12_size_28 : decode cX12_size 28 = .ok (.iload_n 2, 1) := by decide +kernel
theorem dX12_size_29 : decode cX12_size 29 = .ok (.sipush 256, 3) := by decide +kernel
theorem dX12_size_32 : decode cX12_size 32 = .ok (.if_icmp .ge 24, 3) := by decide +kernel
theorem dX12_size_35 : decode cX12_size 35 = .ok (.aload_n 0, 1) := by decide +kernel
theorem dX12_size_36 : decode cX12_size 36 = .ok (.getfield 156, 3) := by decide +kernel
theorem dX12_size_39 : decode cX12_size 39 = .ok (.iload_n 2, 1) := by decide +kernel
theorem dX12_size_40 : decode cX12_size 40 = .ok (.iload_n 2, 1) := by decide +kernel
theorem dX12_size_41 : decode cX12_size 41 = .ok (.ifCond .ne 7, 3) := by decide +kernel
theorem dX12_size_44 : decode cX12_size 44 = .ok (.iconst 1, 1) := by decide +kernel
theorem dX12_size_45 : decode cX12_size 45 = .ok (.goto 4, 3) := by decide +kernel
theorem dX12_size_48 : decode cX12_size 48 = .ok (.iconst 0, 1) := by decide +kernel
theorem dX12_size_49 : decode cX12_size 49 = .ok (.bastore, 1) := by decide +kernel
theorem dX12_size_50 : decode cX12_size 50 = .ok (.iinc 2 1, 3) := by decide +kernel
theorem dX12_size_53 : decode cX12_size 53 = .ok (.goto (-25), 3) := by decide +kernel
theorem dX12_size_56 : decode cX12_size 56 = .ok (.iconst 0, 1) := by decide +kernel
theorem dX12_size_57 : decode cX12_size 57 = .ok (.istore_n 2, 1) := by decide +kernel
theorem dX12_size_58 : decode cX12_size 58 = .ok (.iconst 0, 1) := by decide +kernel
theorem dX12_size_59 : decode cX12_size 59 = .ok (.istore_n 3, 1) := by decide +kernel
theorem dX12_size_60 : decode cX12_size 60 = .ok (.iload_n 3, 1) := by decide +kernel
theorem dX12_size_61 : decode cX12_size 61 = .ok (.sipush 256, 3) := by decide +kernel
theorem dX12_size_64 : decode cX12_size 64 = .ok (.if_icmp .ge 68, 3) := by decide +kernel
theorem dX12_size_67 : decode cX12_size 67 = .ok (.aload_n 0, 1) := by decide +kernel
theorem dX12_size_68 : decode cX12_size 68 = .ok (.bipush 12, 2) := by decide +kernel
theorem dX12_size_70 : decode cX12_size 70 = .ok (.aload_n 0, 1) := by decide +kernel
theorem dX12_size_71 : decode cX12_size 71 = .ok (.getfield 169, 3) := by decide +kernel
theorem dX12_size_74 : decode cX12_size 74 = .ok (.imul, 1) := by decide +kernel
theorem dX12_size_75 : decode cX12_size 75 = .ok (.iload_n 1, 1) := by decide +kernel
theorem dX12_size_76 : decode cX12_size 76 = .ok (.iadd, 1) := by decide +kernel
theorem dX12_size_77 : decode cX12_size 77 = .ok (.iload_n 3, 1) := by decide +kernel
theorem dX12_size_78 : decode cX12_size 78 = .ok (.invokevirtual 211, 3) := by decide +kernel
theorem dX12_size_81 : decode cX12_size 81 = .ok (.istore 4, 2) := by decide +kernel
theorem dX12_size_83 : decode cX12_size 83 = .ok (.iload_n 2, 1) := by decide +kernel
theorem dX12_size_84 : decode cX12_size 84 = .ok (.iload 4, 2) := by decide +kernel
theorem dX12_size_86 : decode cX12_size 86 = .ok (.ifCond .ne 7, 3) := by decide +kernel
theorem dX12_size_89 : decode cX12_size 89 = .ok (.iconst 0, 1) := by decide +kernel
theorem dX12_size_90 : decode cX12_size 90 = .ok (.goto 4, 3) := by decide +kernel
theorem dX12_size_93 : decode cX12_size 93 = .ok (.iconst 1, 1) := by decide +kernel
theorem dX12_size_94 : decode cX12_size 94 = .ok (.iadd, 1) := by decide +kernel
theorem dX12_size_95 : decode cX12_size 95 = .ok (.istore_n 2, 1) := by decide +kernel
theorem dX12_size_96 : decode cX12_size 96 = .ok (.iload_n 2, 1) := by decide +kernel
theorem dX12_size_97 : decode cX12_size 97 = .ok (.aload_n 0, 1) := by decide +kernel
theorem dX12_size_98 : decode cX12_size 98 = .ok (.getfield 156, 3) := by decide +kernel
theorem dX12_size_101 : decode cX12_size 101 = .ok (.iload 4, 2) := by decide +kernel
theorem dX12_size_103 : decode cX12_size 103 = .ok (.baload, 1) := by decide +kernel
theorem dX12_size_104 : decode cX12_size 104 = .ok (.ifCond .eq 7, 3) := by decide +kernel
theorem dX12_size_107 : decode cX12_size 107 = .ok (.iconst 0, 1) := by decide +kernel
theorem dX12_size_108 : decode cX12_size 108 = .ok (.goto 8, 3) := by decide +kernel
theorem dX12_size_111 : decode cX12_size 111 = .ok (.iload 4, 2) := by decide +kernel
theorem dX12_size_113 : decode cX12_size 113 = .ok (.invokestatic 215, 3) := by decide +kernel
theorem dX12_size_116 : decode cX12_size 116 = .ok (.iadd, 1) := by decide +kernel
theorem dX12_size_117 : decode cX12_size 117 = .ok (.istore_n 2, 1) := by decide +kernel
theorem dX12_size_118 : decode cX12_size 118 = .ok (.aload_n 0, 1) := by decide +kernel
theorem dX12_size_119 : decode cX12_size 119 = .ok (.getfield 156, 3) := by decide +kernel
theorem dX12_size_122 : decode cX12_size 122 = .ok (.iload 4, 2) := by decide +kernel
theorem dX12_size_124 : decode cX12_size 124 = .ok (.iconst 1, 1) := by decide +kernel
theorem dX12_size_125 : decode cX12_size 125 = .ok (.bastore, 1) := by decide +kernel
theorem dX12_size_126 : decode cX12_size 126 = .ok (.iinc 3 1, 3) := by decide +kernel
theorem dX12_size_129 : decode cX12_size 129 = .ok (.goto (-69), 3) := by decide +kernel
theorem dX12_size_132 : decode cX12_size 132 = .ok (.iload_n 2, 1) := by decide +kernel
theorem dX12_size_133 : decode cX12_size 133 = .ok (.ireturn, 1) := by decide +kernel
theorem dX12_isPlace_0 : decode cX12_isPlace 0 = .ok (.iload_n 1, 1) := by decide +kernel
theorem dX12_isPlace_1 : decode cX12_isPlace 1 = .ok (.iconst 0, 1) := by decide +kernel
theorem dX12_isPlace_2 : decode cX12_isPlace 2 = .ok (.aload_n 0, 1) := by decide +kernel
theorem dX12_isPlace_3 : decode cX12_isPlace 3 = .ok (.getfield 219, 3) := by decide +kernel
theorem dX12_isPlace_6 : decode cX12_isPlace 6 = .ok (.iconst 1, 1) := by decide +kernel
theorem dX12_isPlace_7 : decode cX12_isPlace 7 = .ok (.isub, 1) := by decide +kernel
theorem dX12_isPlace_8 : decode cX12_isPlace 8 = .ok (.invokestatic 162, 3) := by decide +kernel
theorem dX12_isPlace_11 : decode cX12_isPlace 11 = .ok (.ireturn, 1) := by decide +kernel
theorem dX12_insert_0 : decode cX12_insert 0 = .ok (.aload_n 0, 1) := by decide +kernel
theorem dX12_insert_1 : decode cX12_insert 1 = .ok (.iload_n 1, 1) := by decide +kernel
theorem dX12_insert_2 : decode cX12_insert 2 = .ok (.iconst 0, 1) := by decide +kernel
theorem dX12_insert_3 : decode cX12_insert 3 = .ok (.aload_n 0, 1) := by decide +kernel
theorem dX12_insert_4 : decode cX12_insert 4 = .ok (.getfield 219, 3) := by decide +kernel
theorem dX12_insert_7 : decode cX12_insert 7 = .ok (.invokestatic 162, 3) := by decide +kernel
theorem dX12_insert_10 : decode cX12_insert 10 = .ok (.ifCond .ne 7, 3) := by decide +kernel
theorem dX12_insert_13 : decode cX12_insert 13 = .ok (.iconst 1, 1) := by decide +kernel
theorem dX12_insert_14 : decode cX12_insert 14 = .ok (.goto 28, 3) := by decide +kernel
theorem dX12_insert_17 : decode cX12_insert 17 = .ok (.iload_n 2, 1) := by decide +kernel
theorem dX12_insert_18 : decode cX12_insert 18 = .ok (.invokestatic 205, 3) := by decide +kernel
theorem dX12_insert_21 : decode cX12_insert 21 = .ok (.ifCond .ne 7, 3) := by decide +kernel
theorem dX12_insert_24 : decode cX12_insert 24 = .ok (.iconst 2, 1) := by decide +kernel
theorem dX12_insert_25 : decode cX12_insert 25 = .ok (.goto 17, 3) := by decide +kernel
theorem dX12_insert_28 : decode cX12_insert 28 = .ok (.aload_n 0, 1) := by decide +kernel
theorem dX12_insert_29 : decode cX12_insert 29 = .ok (.getfield 219, 3) := by decide +kernel
theorem dX12_insert_32 : decode cX12_insert 32 = .ok (.bipush 16, 2) := by decide +kernel
theorem dX12_insert_34 : decode cX12_insert 34 = .ok (.if_icmp .ne 7, 3) := by decide +kernel
theorem dX12_insert_37 : decode cX12_insert 37 = .ok (.iconst 3, 1) := by decide +kernel
theorem dX12_insert_38 : decode cX12_insert 38 = .ok (.goto 4, 3) := by decide +kernel
theorem dX12_insert_41 : decode cX12_insert 41 = .ok (.iconst 0, 1) := by decide +kernel
theorem dX12_insert_42 : decode cX12_insert 42 = .ok (.putfield 166, 3) := by decide +kernel
theorem dX12_insert_45 : decode cX12_insert 45 = .ok (.aload_n 0, 1) := by decide +kernel
theorem dX12_insert_46 : decode cX12_insert 46 = .ok (.getfield 166, 3) := by decide +kernel
theorem dX12_insert_49 : decode cX12_insert 49 = .ok (.ifCond .le 5, 3) := by decide +kernel
theorem dX12_insert_52 : decode cX12_insert 52 = .ok (.iconst 0, 1) := by decide +kernel
theorem dX12_insert_53 : decode cX12_insert 53 = .ok (.ireturn, 1) := by decide +kernel
theorem dX12_insert_54 : decode cX12_insert 54 = .ok (.aload_n 0, 1) := by decide +kernel
theorem dX12_insert_55 : decode cX12_insert 55 = .ok (.getfield 219, 3) := by decide +kernel
theorem dX12_insert_58 : decode cX12_insert 58 = .ok (.istore_n 3, 1) := by decide +kernel
theorem dX12_insert_59 : decode cX12_insert 59 = .ok (.iload_n 3, 1) := by decide +kernel
theorem dX12_insert_60 : decode cX12_insert 60 = .ok (.iload_n 1, 1) := by decide +kernel
theorem dX12_insert_61 : decode cX12_insert 61 = .ok (.if_icmp .le 37, 3) := by decide +kernel
theorem dX12_insert_64 : decode cX12_insert 64 = .ok (.aload_n 0, 1) := by decide +kernel
theorem dX12_insert_65 : decode cX12_insert 65 = .ok (.getfield 47, 3) := by decide +kernel
theorem dX12_insert_68 : decode cX12_insert 68 = .ok (.iload_n 3, 1) := by decide +kernel
theorem dX12_insert_69 : decode cX12_insert 69 = .ok (.aload_n 0, 1) := by decide +kernel
theorem dX12_insert_70 : decode cX12_insert 70 = .ok (.getfield 47, 3) := by decide +kernel
theorem dX12_insert_73 : decode cX12_insert 73 = .ok (.iload_n 3, 1) := by decide +kernel
theorem dX12_insert_74 : decode cX12_insert 74 = .ok (.iconst 1, 1) := by decide +kernel
theorem dX12_insert_75 : decode cX12_insert 75 = .ok (.isub, 1) := by decide +kernel
theorem dX12_insert_76 : decode cX12_insert 76 = .ok (.iaload, 1) := by decide +kernel
theorem dX12_insert_77 : decode cX12_insert 77 = .ok (.iastore, 1) := by decide +kernel
theorem dX12_insert_78 : decode cX12_insert 78 = .ok (.aload_n 0, 1) := by decide +kernel
theorem dX12_insert_79 : decode cX12_insert 79 = .ok (.getfield 50, 3) := by decide +kernel
theorem dX12_insert_82 : decode cX12_insert 82 = .ok (.iload_n 3, 1) := by decide +kernel
theorem dX12_insert_83 : decode cX12_insert 83 = .ok (.aload_n 0, 1) := by decide +kernel
theorem dX12_insert_84 : decode cX12_insert 84 = .ok (.getfield 50, 3) := by decide +kernel
theorem dX12_insert_87 : decode cX12_insert 87 = .ok (.iload_n 3, 1) := by decide +kernel
theorem dX12_insert_88 : decode cX12_insert 88 = .ok (.iconst 1, 1) := by decide +kernel
theorem dX12_insert_89 : decode cX12_insert 89 = .ok (.isub, 1) := by decide +kernel
theorem dX12_insert_90 : decode cX12_insert 90 = .ok (.iaload, 1) := by decide +kernel
theorem dX12_insert_91 : decode cX12_insert 91 = .ok (.iastore, 1) := by decide +kernel
theorem dX12_insert_92 : decode cX12_insert 92 = .ok (.iinc 3 (-1), 3) := by decide +kernel
theorem dX12_insert_95 : decode cX12_insert 95 = .ok (.goto (-36), 3) := by decide +kernel
theorem dX12_insert_98 : decode cX12_insert 98 = .ok (.aload_n 0, 1) := by decide +kernel
theorem dX12_insert_99 : decode cX12_insert 99 = .ok (.getfield 47, 3) := by decide +kernel
theorem dX12_insert_102 : decode cX12_insert 102 = .ok (.iload_n 1, 1) := by decide +kernel
theorem dX12_insert_103 : decode cX12_insert 103 = .ok (.iload_n 2, 1) := by decide +kernel
theorem dX12_insert_104 : decode cX12_insert 104 = .ok (.iastore, 1) := by decide +kernel
theorem dX12_insert_105 : decode cX12_insert 105 = .ok (.aload_n 0, 1) := by decide +kernel
theorem dX12_insert_106 : decode cX12_insert 106 = .ok (.getfield 50, 3) := by decide +kernel
theorem dX12_insert_109 : decode cX12_insert 109 = .ok (.iload_n 1, 1) := by decide +kernel
theorem dX12_insert_110 : decode cX12_insert 110 = .ok (.iconst 0, 1) := by decide +kernel
theorem dX12_insert_111 : decode cX12_insert 111 = .ok (.iastore, 1) := by decide +kernel
theorem dX12_insert_112 : decode cX12_insert 112 = .ok (.aload_n 0, 1) := by decide +kernel
theorem dX12_insert_113 : decode cX12_insert 113 = .ok (.dup, 1) := by decide +kernel
theorem dX12_insert_114 : decode cX12_insert 114 = .ok (.getfield 219, 3) := by decide +kernel
theorem dX12_insert_117 : decode cX12_insert 117 = .ok (.iconst 1, 1) := by decide +kernel
theorem dX12_insert_118 : decode cX12_insert 118 = .ok (.iadd, 1) := by decide +kernel
theorem dX12_insert_119 : decode cX12_insert 119 = .ok (.putfield 219, 3) := by decide +kernel
theorem dX12_insert_122 : decode cX12_insert 122 = .ok (.aload_n 0, 1) := by decide +kernel
theorem dX12_insert_123 : decode cX12_insert 123 = .ok (.getfield 219, 3) := by decide +kernel
theorem dX12_insert_126 : decode cX12_insert 126 = .ok (.ireturn, 1) := by decide +kernel
theorem dX12_cut_0 : decode cX12_cut 0 = .ok (.aload_n 0, 1) := by decide +kernel
theorem dX12_cut_1 : decode cX12_cut 1 = .ok (.aload_n 0, 1) := by decide +kernel
theorem dX12_cut_2 : decode cX12_cut 2 = .ok (.iload_n 1, 1) := by decide +kernel
theorem dX12_cut_3 : decode cX12_cut 3 = .ok (.invokevirtual 222, 3) := by decide +kernel
theorem dX12_cut_6 : decode cX12_cut 6 = .ok (.ifCond .eq 7, 3) := by decide +kernel
theorem dX12_cut_9 : decode cX12_cut 9 = .ok (.iconst 0, 1) := by decide +kernel
theorem dX12_cut_10 : decode cX12_cut 10 = .ok (.goto 4, 3) := by decide +kernel
theorem dX12_cut_13 : decode cX12_cut 13 = .ok (.iconst 1, 1) := by decide +kernel
theorem dX12_cut_14 : decode cX12_cut 14 = .ok (.putfield 166, 3) := by decide +kernel
theorem dX12_cut_17 : decode cX12_cut 17 = .ok (.aload_n 0, 1) := by decide +kernel
theorem dX12_cut_18 : decode cX12_cut 18 = .ok (.getfield 166, 3) := by decide +kernel
theorem dX12_cut_21 : decode cX12_cut 21 = .ok (.ifCond .le 5, 3) := by decide +kernel
theorem dX12_cut_24 : decode cX12_cut 24 = .ok (.iconst 0, 1) := by decide +kernel
theorem dX12_cut_25 : decode cX12_cut 25 = .ok (.ireturn, 1) := by decide +kernel
theorem dX12_cut_26 : decode cX12_cut 26 = .ok (.aload_n 0, 1) := by decide +kernel
theorem dX12_cut_27 : decode cX12_cut 27 = .ok (.getfield 47, 3) := by decide +kernel
theorem dX12_cut_30 : decode cX12_cut 30 = .ok (.iload_n 1, 1) := by decide +kernel
theorem dX12_cut_31 : decode cX12_cut 31 = .ok (.iaload, 1) := by decide +kernel
theorem dX12_cut_32 : decode cX12_cut 32 = .ok (.istore_n 2, 1) := by decide +kernel
theorem dX12_cut_33 : decode cX12_cut 33 = .ok (.aload_n 0, 1) := by decide +kernel
theorem dX12_cut_34 : decode cX12_cut 34 = .ok (.dup, 1) := by decide +kernel
theorem dX12_cut_35 : decode cX12_cut 35 = .ok (.getfield 219, 3) := by decide +kernel
theorem dX12_cut_38 : decode cX12_cut 38 = .ok (.iconst 1, 1) := by decide +kernel
theorem dX12_cut_39 : decode cX12_cut 39 = .ok (.isub, 1) := by decide +kernel
theorem dX12_cut_40 : decode cX12_cut 40 = .ok (.putfield 219, 3) := by decide +kernel
theorem dX12_cut_43 : decode cX12_cut 43 = .ok (.iload_n 1, 1) := by decide +kernel
theorem dX12_cut_44 : decode cX12_cut 44 = .ok (.istore_n 3, 1) := by decide +kernel
theorem dX12_cut_45 : decode cX12_cut 45 = .ok (.iload_n 3, 1) := by decide +kernel
theorem dX12_cut_46 : decode cX12_cut 46 = .ok (.aload_n 0, 1) := by decide +kernel
theorem dX12_cut_47 : decode cX12_cut 47 = .ok (.getfield 219, 3) := by decide +kernel
theorem dX12_cut_50 : decode cX12_cut 50 = .ok (.if_icmp .ge 37, 3) := by decide +kernel
theorem dX12_cut_53 : decode cX12_cut 53 = .ok (.aload_n 0, 1) := by decide +kernel
theorem dX12_cut_54 : decode cX12_cut 54 = .ok (.getfield 47, 3) := by decide +kernel
theorem dX12_cut_57 : decode cX12_cut 57 = .ok (.iload_n 3, 1) := by decide +kernel
theorem dX12_cut_58 : decode cX12_cut 58 = .ok (.aload_n 0, 1) := by decide +kernel
theorem dX12_cut_59 : decode cX12_cut 59 = .ok (.getfield 47, 3) := by decide +kernel
theorem dX12_cut_62 : decode cX12_cut 62 = .ok (.iload_n 3, 1) := by decide +kernel
theorem dX12_cut_63 : decode cX12_cut 63 = .ok (.iconst 1, 1) := by decide +kernel
theorem dX12_cut_64 : decode cX12_cut 64 = .ok (.iadd, 1) := by decide +kernel
theorem dX12_cut_65 : decode cX12_cut 65 = .ok (.iaload, 1) := by decide +kernel
theorem dX12_cut_66 : decode cX12_cut 66 = .ok (.iastore, 1) := by decide +kernel
theorem dX12_cut_67 : decode cX12_cut 67 = .ok (.aload_n 0, 1) := by decide +kernel
theorem dX12_cut_68 : decode cX12_cut 68 = .ok (.getfield 50, 3) := by decide +kernel
theorem dX12_cut_71 : decode cX12_cut 71 = .ok (.iload_n 3, 1) := by decide +kernel
theorem dX12_cut_72 : decode cX12_cut 72 = .ok (.aload_n 0, 1) := by decide +kernel
theorem dX12_cut_73 : decode cX12_cut 73 = .ok (.getfield 50, 3) := by decide +kernel
theorem dX12_cut_76 : decode cX12_cut 76 = .ok (.iload_n 3, 1) := by decide +kernel
theorem dX12_cut_77 : decode cX12_cut 77 = .ok (.iconst 1, 1) := by decide +kernel
theorem dX12_cut_78 : decode cX12_cut 78 = .ok (.iadd, 1) := by decide +kernel
theorem dX12_cut_79 : decode cX12_cut 79 = .ok (.iaload, 1) := by decide +kernel
theorem dX12_cut_80 : decode cX12_cut 80 = .ok (.iastore, 1) := by decide +kernel
theorem dX12_cut_81 : decode cX12_cut 81 = .ok (.iinc 3 1, 3) := by decide +kernel
theorem dX12_cut_84 : decode cX12_cut 84 = .ok (.goto (-39), 3) := by decide +kernel
theorem dX12_cut_87 : decode cX12_cut 87 = .ok (.iload_n 2, 1) := by decide +kernel
theorem dX12_cut_88 : decode cX12_cut 88 = .ok (.ireturn, 1) := by decide +kernel
theorem dX12_setTongue_0 : decode cX12_setTongue 0 = .ok (.aload_n 0, 1) := by decide +kernel
theorem dX12_setTongue_1 : decode cX12_setTongue 1 = .ok (.iload_n 1, 1) := by decide +kernel
theorem dX12_setTongue_2 : decode cX12_setTongue 2 = .ok (.iconst 1, 1) := by decide +kernel
theorem dX12_setTongue_3 : decode cX12_setTongue 3 = .ok (.iconst 2, 1) := by decide +kernel
theorem dX12_setTongue_4 : decode cX12_setTongue 4 = .ok (.invokestatic 162, 3) := by decide +kernel
theorem dX12_setTongue_7 : decode cX12_setTongue 7 = .ok (.ifCond .eq 7, 3) := by decide +kernel
theorem dX12_setTongue_10 : decode cX12_setTongue 10 = .ok (.iconst 0, 1) := by decide +kernel
theorem dX12_setTongue_11 : decode cX12_setTongue 11 = .ok (.goto 4, 3) := by decide +kernel
theorem dX12_setTongue_14 : decode cX12_setTongue 14 = .ok (.iconst 1, 1) := by decide +kernel
theorem dX12_setTongue_15 : decode cX12_setTongue 15 = .ok (.putfield 166, 3) := by decide +kernel
theorem dX12_setTongue_18 : decode cX12_setTongue 18 = .ok (.aload_n 0, 1) := by decide +kernel
theorem dX12_setTongue_19 : decode cX12_setTongue 19 = .ok (.getfield 166, 3) := by decide +kernel
theorem dX12_setTongue_22 : decode cX12_setTongue 22 = .ok (.ifCond .le 5, 3) := by decide +kernel
theorem dX12_setTongue_25 : decode cX12_setTongue 25 = .ok (.iconst 0, 1) := by decide +kernel
theorem dX12_setTongue_26 : decode cX12_setTongue 26 = .ok (.ireturn, 1) := by decide +kernel
theorem dX12_setTongue_27 : decode cX12_setTongue 27 = .ok (.aload_n 0, 1) := by decide +kernel
theorem dX12_setTongue_28 : decode cX12_setTongue 28 = .ok (.getfield 53, 3) := by decide +kernel
theorem dX12_setTongue_31 : decode cX12_setTongue 31 = .ok (.istore_n 2, 1) := by decide +kernel
theorem dX12_setTongue_32 : decode cX12_setTongue 32 = .ok (.aload_n 0, 1) := by decide +kernel
theorem dX12_setTongue_33 : decode cX12_setTongue 33 = .ok (.iload_n 1, 1) := by decide +kernel
theorem dX12_setTongue_34 : decode cX12_setTongue 34 = .ok (.putfield 53, 3) := by decide +kernel
theorem dX12_setTongue_37 : decode cX12_setTongue 37 = .ok (.iload_n 2, 1) := by decide +kernel
theorem dX12_setTongue_38 : decode cX12_setTongue 38 = .ok (.ireturn, 1) := by decide +kernel
theorem dX12_setExtra_0 : decode cX12_setExtra 0 = .ok (.aload_n 0, 1) := by decide +kernel
theorem dX12_setExtra_1 : decode cX12_setExtra 1 = .ok (.aload_n 0, 1) := by decide +kernel
theorem dX12_setExtra_2 : decode cX12_setExtra 2 = .ok (.iload_n 1, 1) := by decide +kernel
theorem dX12_setExtra_3 : decode cX12_setExtra 3 = .ok (.invokevirtual 222, 3) := by decide +kernel
theorem dX12_setExtra_6 : decode cX12_setExtra 6 = .ok (.ifCond .eq 16, 3) := by decide +kernel
theorem dX12_setExtra_9 : decode cX12_setExtra 9 = .ok (.aload_n 0, 1) := by decide +kernel
theorem dX12_setExtra_10 : decode cX12_setExtra 10 = .ok (.iload_n 2, 1) := by decide +kernel
theorem dX12_setExtra_11 : decode cX12_setExtra 11 = .ok (.invokevirtual 222, 3) := by decide +kernel
theorem dX12_setExtra_14 : decode cX12_setExtra 14 = .ok (.ifCond .eq 8, 3) := by decide +kernel
theorem dX12_setExtra_17 : decode cX12_setExtra 17 = .ok (.iload_n 2, 1) := by decide +kernel
theorem dX12_setExtra_18 : decode cX12_setExtra 18 = .ok (.iload_n 1, 1) := by decide +kernel
theorem dX12_setExtra_19 : decode cX12_setExtra 19 = .ok (.if_icmp .ge 7, 3) := by decide +kernel
theorem dX12_setExtra_22 : decode cX12_setExtra 22 = .ok (.iconst 1, 1) := by decide +kernel
theorem dX12_setExtra_23 : decode cX12_setExtra 23 = .ok (.goto 17, 3) := by decide +kernel
theorem dX12_setExtra_26 : decode cX12_setExtra 26 = .ok (.iload_n 3, 1) := by decide +kernel
theorem dX12_setExtra_27 : decode cX12_setExtra 27 = .ok (.iconst 0, 1) := by decide +kernel
theorem dX12_setExtra_28 : decode cX12_setExtra 28 = .ok (.iconst 3, 1) := by decide +kernel
theorem dX12_setExtra_29 : decode cX12_setExtra 29 = .ok (.invokestatic 162, 3) := by decide +kernel
theorem dX12_setExtra_32 : decode cX12_setExtra 32 = .ok (.ifCond .eq 7, 3) := by decide +kernel
theorem dX12_setExtra_35 : decode cX12_setExtra 35 = .ok (.iconst 0, 1) := by decide +kernel
theorem dX12_setExtra_36 : decode cX12_setExtra 36 = .ok (.goto 4, 3) := by decide +kernel
theorem dX12_setExtra_39 : decode cX12_setExtra 39 = .ok (.iconst 2, 1) := by decide +kernel
theorem dX12_setExtra_40 : decode cX12_setExtra 40 = .ok (.putfield 166, 3) := by decide +kernel
theorem dX12_setExtra_43 : decode cX12_setExtra 43 = .ok (.iconst 0, 1) := by decide +kernel
theorem dX12_setExtra_44 : decode cX12_setExtra 44 = .ok (.istore 4, 2) := by decide +kernel
theorem dX12_setExtra_46 : decode cX12_setExtra 46 = .ok (.iload_n 1, 1) := by decide +kernel
theorem dX12_setExtra_47 : decode cX12_setExtra 47 = .ok (.istore 5, 2) := by decide +kernel
theorem dX12_setExtra_49 : decode cX12_setExtra 49 = .ok (.iload 5, 2) := by decide +kernel
theorem dX12_setExtra_51 : decode cX12_setExtra 51 = .ok (.iload_n 2, 1) := by decide +kernel
theorem dX12_setExtra_52 : decode cX12_setExtra 52 = .ok (.if_icmp .gt 45, 3) := by decide +kernel
theorem dX12_setExtra_55 : decode cX12_setExtra 55 = .ok (.aload_n 0, 1) := by decide +kernel
theorem dX12_setExtra_56 : decode cX12_setExtra 56 = .ok (.getfield 166, 3) := by decide +kernel
theorem dX12_setExtra_59 : decode cX12_setExtra 59 = .ok (.ifCond .ne 38, 3) := by decide +kernel
theorem dX12_setExtra_62 : decode cX12_setExtra 62 = .ok (.iload 4, 2) := by decide +kernel
theorem dX12_setExtra_64 : decode cX12_setExtra 64 = .ok (.aload_n 0, 1) := by decide +kernel
theorem dX12_setExtra_65 : decode cX12_setExtra 65 = .ok (.getfield 50, 3) := by decide +kernel
theorem dX12_setExtra_68 : decode cX12_setExtra 68 = .ok (.iload 5, 2) := by decide +kernel
theorem dX12_setExtra_70 : decode cX12_setExtra 70 = .ok (.iaload, 1) := by decide +kernel
theorem dX12_setExtra_71 : decode cX12_setExtra 71 = .ok (.iload_n 3, 1) := by decide +kernel
theorem dX12_setExtra_72 : decode cX12_setExtra 72 = .ok (.if_icmp .ne 7, 3) := by decide +kernel
theorem dX12_setExtra_75 : decode cX12_setExtra 75 = .ok (.iconst 0, 1) := by decide +kernel
theorem dX12_setExtra_76 : decode cX12_setExtra 76 = .ok (.goto 4, 3) := by decide +kernel
theorem dX12_setExtra_79 : decode cX12_setExtra 79 = .ok (.iconst 1, 1) := by decide +kernel
theorem dX12_setExtra_80 : decode cX12_setExtra 80 = .ok (.iadd, 1) := by decide +kernel
theorem dX12_setExtra_81 : decode cX12_setExtra 81 = .ok (.istore 4, 2) := by decide +kernel
theorem dX12_setExtra_83 : decode cX12_setExtra 83 = .ok (.aload_n 0, 1) := by decide +kernel
theorem dX12_setExtra_84 : decode cX12_setExtra 84 = .ok (.getfield 50, 3) := by decide +kernel
theorem dX12_setExtra_87 : decode cX12_setExtra 87 = .ok (.iload 5, 2) := by decide +kernel
theorem dX12_setExtra_89 : decode cX12_setExtra 89 = .ok (.iload_n 3, 1) := by decide +kernel
theorem dX12_setExtra_90 : decode cX12_setExtra 90 = .ok (.iastore, 1) := by decide +kernel
theorem dX12_setExtra_91 : decode cX12_setExtra 91 = .ok (.iinc 5 1, 3) := by decide +kernel
theorem dX12_setExtra_94 : decode cX12_setExtra 94 = .ok (.goto (-45), 3) := by decide +kernel
theorem dX12_setExtra_97 : decode cX12_setExtra 97 = .ok (.iload 4, 2) := by decide +kernel
theorem dX12_setExtra_99 : decode cX12_setExtra 99 = .ok (.ireturn, 1) := by decide +kernel
theorem dX12_isMarkSign_0 : decode cX12_isMarkSign 0 = .ok (.iload_n 0, 1) := by decide +kernel
theorem dX12_isMarkSign_1 : decode cX12_isMarkSign 1 = .ok (.bipush 21, 2) := by decide +kernel
theorem dX12_isMarkSign_3 : decode cX12_isMarkSign 3 = .ok (.bipush 23, 2) := by decide +kernel
theorem dX12_isMarkSign_5 : decode cX12_isMarkSign 5 = .ok (.invokestatic 162, 3) := by decide +kernel
theorem dX12_isMarkSign_8 : decode cX12_isMarkSign 8 = .ok (.ireturn, 1) := by decide +kernel
theorem dX12_laysScripts_0 : decode cX12_laysScripts 0 = .ok (.iconst 0, 1) := by decide +kernel
theorem dX12_laysScripts_1 : decode cX12_laysScripts 1 = .ok (.istore_n 3, 1) := by decide +kernel
theorem dX12_laysScripts_2 : decode cX12_laysScripts 2 = .ok (.iload_n 2, 1) := by decide +kernel
theorem dX12_laysScripts_3 : decode cX12_laysScripts 3 = .ok (.iconst 1, 1) := by decide +kernel
theorem dX12_laysScripts_4 : decode cX12_laysScripts 4 = .ok (.isub, 1) := by decide +kernel
theorem dX12_laysScripts_5 : decode cX12_laysScripts 5 = .ok (.istore 4, 2) := by decide +kernel
theorem dX12_laysScripts_7 : decode cX12_laysScripts 7 = .ok (.iload 4, 2) := by decide +kernel
theorem dX12_laysScripts_9 : decode cX12_laysScripts 9 = .ok (.iload_n 1, 1) := by decide +kernel
theorem dX12_laysScripts_10 : decode cX12_laysScripts 10 = .ok (.if_icmp .lt 43, 3) := by decide +kernel
theorem dX12_laysScripts_13 : decode cX12_laysScripts 13 = .ok (.aload_n 0, 1) := by decide +kernel
theorem dX12_laysScripts_14 : decode cX12_laysScripts 14 = .ok (.getfield 47, 3) := by decide +kernel
theorem dX12_laysScripts_17 : decode cX12_laysScripts 17 = .ok (.iload 4, 2) := by decide +kernel
theorem dX12_laysScripts_19 : decode cX12_laysScripts 19 = .ok (.iaload, 1) := by decide +kernel
theorem dX12_laysScripts_20 : decode cX12_laysScripts 20 = .ok (.bipush 30, 2) := by decide +kernel
theorem dX12_laysScripts_22 : decode cX12_laysScripts 22 = .ok (.if_icmp .lt 7, 3) := by decide +kernel
theorem dX12_laysScripts_25 : decode cX12_laysScripts 25 = .ok (.iconst 1, 1) := by decide +kernel
theorem dX12_laysScripts_26 : decode cX12_laysScripts 26 = .ok (.goto 20, 3) := by decide +kernel
theorem dX12_laysScripts_29 : decode cX12_laysScripts 29 = .ok (.aload_n 0, 1) := by decide +kernel
theorem dX12_laysScripts_30 : decode cX12_laysScripts 30 = .ok (.getfield 47, 3) := by decide +kernel
theorem dX12_laysScripts_33 : decode cX12_laysScripts 33 = .ok (.iload 4, 2) := by decide +kernel
theorem dX12_laysScripts_35 : decode cX12_laysScripts 35 = .ok (.iaload, 1) := by decide +kernel
theorem dX12_laysScripts_36 : decode cX12_laysScripts 36 = .ok (.bipush 10, 2) := by decide +kernel
theorem dX12_laysScripts_38 : decode cX12_laysScripts 38 = .ok (.if_icmp .lt 7, 3) := by decide +kernel
theorem dX12_laysScripts_41 : decode cX12_laysScripts 41 = .ok (.iconst 0, 1) := by decide +kernel
theorem dX12_laysScripts_42 : decode cX12_laysScripts 42 = .ok (.goto 4, 3) := by decide +kernel
theorem dX12_laysScripts_45 : decode cX12_laysScripts 45 = .ok (.iload_n 3, 1) := by decide +kernel
theorem dX12_laysScripts_46 : decode cX12_laysScripts 46 = .ok (.istore_n 3, 1) := by decide +kernel
theorem dX12_laysScripts_47 : decode cX12_laysScripts 47 = .ok (.iinc 4 (-1), 3) := by decide +kernel
theorem dX12_laysScripts_50 : decode cX12_laysScripts 50 = .ok (.goto (-43), 3) := by decide +kernel
theorem dX12_laysScripts_53 : decode cX12_laysScripts 53 = .ok (.iload_n 1, 1) := by decide +kernel
theorem dX12_laysScripts_54 : decode cX12_laysScripts 54 = .ok (.istore 4, 2) := by decide +kernel
theorem dX12_laysScripts_56 : decode cX12_laysScripts 56 = .ok (.iload 4, 2) := by decide +kernel
theorem dX12_laysScripts_58 : decode cX12_laysScripts 58 = .ok (.iload_n 2, 1) := by decide +kernel
theorem dX12_laysScripts_59 : decode cX12_laysScripts 59 = .ok (.if_icmp .ge 78, 3) := by decide +kernel
theorem dX12_laysScripts_62 : decode cX12_laysScripts 62 = .ok (.aload_n 0, 1) := by decide +kernel
theorem dX12_laysScripts_63 : decode cX12_laysScripts 63 = .ok (.getfield 47, 3) := by decide +kernel
theorem dX12_laysScripts_66 : decode cX12_laysScripts 66 = .ok (.iload 4, 2) := by decide +kernel
theorem dX12_laysScripts_68 : decode cX12_laysScripts 68 = .ok (.iaload, 1) := by decide +kernel
theorem dX12_laysScripts_69 : decode cX12_laysScripts 69 = .ok (.bipush 30, 2) := by decide +kernel
theorem dX12_laysScripts_71 : decode cX12_laysScripts 71 = .ok (.if_icmp .lt 7, 3) := by decide +kernel
theorem dX12_laysScripts_74 : decode cX12_laysScripts 74 = .ok (.iconst 1, 1) := by decide +kernel
theorem dX12_laysScripts_75 : decode cX12_laysScripts 75 = .ok (.goto 20, 3) := by decide +kernel
theorem dX12_laysScripts_78 : decode cX12_laysScripts 78 = .ok (.aload_n 0, 1) := by decide +kernel
theorem dX12_laysScripts_79 : decode cX12_laysScripts 79 = .ok (.getfield 47, 3) := by decide +kernel
theorem dX12_laysScripts_82 : decode cX12_laysScripts 82 = .ok (.iload 4, 2) := by decide +kernel
theorem dX12_laysScripts_84 : decode cX12_laysScripts 84 = .ok (.iaload, 1) := by decide +kernel
theorem dX12_laysScripts_85 : decode cX12_laysScripts 85 = .ok (.bipush 10, 2) := by decide +kernel
theorem dX12_laysScripts_87 : decode cX12_laysScripts 87 = .ok (.if_icmp .lt 7, 3) := by decide +kernel
theorem dX12_laysScripts_90 : decode cX12_laysScripts 90 = .ok (.iconst 0, 1) := by decide +kernel
theorem dX12_laysScripts_91 : decode cX12_laysScripts 91 = .ok (.goto 4, 3) := by decide +kernel
theorem dX12_laysScripts_94 : decode cX12_laysScripts 94 = .ok (.iload_n 3, 1) := by decide +kernel
theorem dX12_laysScripts_95 : decode cX12_laysScripts 95 = .ok (.istore_n 3, 1) := by decide +kernel
theorem dX12_laysScripts_96 : decode cX12_laysScripts 96 = .ok (.aload_n 0, 1) := by decide +kernel
theorem dX12_laysScripts_97 : decode cX12_laysScripts 97 = .ok (.getfield 57, 3) := by decide +kernel
theorem dX12_laysScripts_100 : decode cX12_laysScripts 100 = .ok (.iload 4, 2) := by decide +kernel
theorem dX12_laysScripts_102 : decode cX12_laysScripts 102 = .ok (.iload_n 3, 1) := by decide +kernel
theorem dX12_laysScripts_103 : decode cX12_laysScripts 103 = .ok (.iastore, 1) := by decide +kernel
theorem dX12_laysScripts_104 : decode cX12_laysScripts 104 = .ok (.aload_n 0, 1) := by decide +kernel
theorem dX12_laysScripts_105 : decode cX12_laysScripts 105 = .ok (.getfield 60, 3) := by decide +kernel
theorem dX12_laysScripts_108 : decode cX12_laysScripts 108 = .ok (.iload 4, 2) := by decide +kernel
theorem dX12_laysScripts_110 : decode cX12_laysScripts 110 = .ok (.aload_n 0, 1) := by decide +kernel
theorem dX12_laysScripts_111 : decode cX12_laysScripts 111 = .ok (.getfield 43, 3) := by decide +kernel
theorem dX12_laysScripts_114 : decode cX12_laysScripts 114 = .ok (.aload_n 0, 1) := by decide +kernel
theorem dX12_laysScripts_115 : decode cX12_laysScripts 115 = .ok (.getfield 47, 3) := by decide +kernel
theorem dX12_laysScripts_118 : decode cX12_laysScripts 118 = .ok (.iload 4, 2) := by decide +kernel
theorem dX12_laysScripts_120 : decode cX12_laysScripts 120 = .ok (.iaload, 1) := by decide +kernel
theorem dX12_laysScripts_121 : decode cX12_laysScripts 121 = .ok (.baload, 1) := by decide +kernel
theorem dX12_laysScripts_122 : decode cX12_laysScripts 122 = .ok (.ifCond .eq 7, 3) := by decide +kernel
theorem dX12_laysScripts_125 : decode cX12_laysScripts 125 = .ok (.iconst 1, 1) := by decide +kernel
theorem dX12_laysScripts_126 : decode cX12_laysScripts 126 = .ok (.goto 4, 3) := by decide +kernel
theorem dX12_laysScripts_129 : decode cX12_laysScripts 129 = .ok (.iconst 0, 1) := by decide +kernel
theorem dX12_laysScripts_130 : decode cX12_laysScripts 130 = .ok (.iastore, 1) := by decide +kernel
theorem dX12_laysScripts_131 : decode cX12_laysScripts 131 = .ok (.iinc 4 1, 3) := by decide +kernel
theorem dX12_laysScripts_134 : decode cX12_laysScripts 134 = .ok (.goto (-78), 3) := by decide +kernel
theorem dX12_laysScripts_137 : decode cX12_laysScripts 137 = .ok (.return_, 1) := by decide +kernel
theorem dX12_endOfRun_0 : decode cX12_endOfRun 0 = .ok (.iload_n 1, 1) := by decide +kernel
theorem dX12_endOfRun_1 : decode cX12_endOfRun 1 = .ok (.istore_n 3, 1) := by decide +kernel
theorem dX12_endOfRun_2 : decode cX12_endOfRun 2 = .ok (.iload_n 3, 1) := by decide +kernel
theorem dX12_endOfRun_3 : decode cX12_endOfRun 3 = .ok (.iload_n 2, 1) := by decide +kernel
theorem dX12_endOfRun_4 : decode cX12_endOfRun 4 = .ok (.if_icmp .ge 39, 3) := by decide +kernel
theorem dX12_endOfRun_7 : decode cX12_endOfRun 7 = .ok (.aload_n 0, 1) := by decide +kernel
theorem dX12_endOfRun_8 : decode cX12_endOfRun 8 = .ok (.getfield 57, 3) := by decide +kernel
theorem dX12_endOfRun_11 : decode cX12_endOfRun 11 = .ok (.iload_n 3, 1) := by decide +kernel
theorem dX12_endOfRun_12 : decode cX12_endOfRun 12 = .ok (.iaload, 1) := by decide +kernel
theorem dX12_endOfRun_13 : decode cX12_endOfRun 13 = .ok (.aload_n 0, 1) := by decide +kernel
theorem dX12_endOfRun_14 : decode cX12_endOfRun 14 = .ok (.getfield 57, 3) := by decide +kernel
theorem dX12_endOfRun_17 : decode cX12_endOfRun 17 = .ok (.iload_n 1, 1) := by decide +kernel
theorem dX12_endOfRun_18 : decode cX12_endOfRun 18 = .ok (.iaload, 1) := by decide +kernel
theorem dX12_endOfRun_19 : decode cX12_endOfRun 19 = .ok (.if_icmp .ne 24, 3) := by decide +kernel
theorem dX12_endOfRun_22 : decode cX12_endOfRun 22 = .ok (.aload_n 0, 1) := by decide +kernel
theorem dX12_endOfRun_23 : decode cX12_endOfRun 23 = .ok (.getfield 60, 3) := by decide +kernel
theorem dX12_endOfRun_26 : decode cX12_endOfRun 26 = .ok (.iload_n 3, 1) := by decide +kernel
theorem dX12_endOfRun_27 : decode cX12_endOfRun 27 = .ok (.iaload, 1) := by decide +kernel
theorem dX12_endOfRun_28 : decode cX12_endOfRun 28 = .ok (.aload_n 0, 1) := by decide +kernel
theorem dX12_endOfRun_29 : decode cX12_endOfRun 29 = .ok (.getfield 60, 3) := by decide +kernel
theorem dX12_endOfRun_32 : decode cX12_endOfRun 32 = .ok (.iload_n 1, 1) := by decide +kernel
theorem dX12_endOfRun_33 : decode cX12_endOfRun 33 = .ok (.iaload, 1) := by decide +kernel
theorem dX12_endOfRun_34 : decode cX12_endOfRun 34 = .ok (.if_icmp .ne 9, 3) := by decide +kernel
theorem dX12_endOfRun_37 : decode cX12_endOfRun 37 = .ok (.iinc 3 1, 3) := by decide +kernel
theorem dX12_endOfRun_40 : decode cX12_endOfRun 40 = .ok (.goto (-38), 3) := by decide +kernel
theorem dX12_endOfRun_43 : decode cX12_endOfRun 43 = .ok (.iload_n 3, 1) := by decide +kernel
theorem dX12_endOfRun_44 : decode cX12_endOfRun 44 = .ok (.ireturn, 1) := by decide +kernel
theorem dX12_joinsFrom_0 : decode cX12_joinsFrom 0 = .ok (.iload_n 2, 1) := by decide +kernel
theorem dX12_joinsFrom_1 : decode cX12_joinsFrom 1 = .ok (.iconst 1, 1) := by decide +kernel
theorem dX12_joinsFrom_2 : decode cX12_joinsFrom 2 = .ok (.isub, 1) := by decide +kernel
theorem dX12_joinsFrom_3 : decode cX12_joinsFrom 3 = .ok (.istore_n 3, 1) := by decide +kernel
theorem dX12_joinsFrom_4 : decode cX12_joinsFrom 4 = .ok (.iload_n 3, 1) := by decide +kernel
theorem dX12_joinsFrom_5 : decode cX12_joinsFrom 5 = .ok (.iload_n 1, 1) := by decide +kernel
theorem dX12_joinsFrom_6 : decode cX12_joinsFrom 6 = .ok (.if_icmp .lt 21, 3) := by decide +kernel
theorem dX12_joinsFrom_9 : decode cX12_joinsFrom 9 = .ok (.aload_n 0, 1) := by decide +kernel
theorem dX12_joinsFrom_10 : decode cX12_joinsFrom 10 = .ok (.getfield 47, 3) := by decide +kernel
theorem dX12_joinsFrom_13 : decode cX12_joinsFrom 13 = .ok (.iload_n 3, 1) := by decide +kernel
theorem dX12_joinsFrom_14 : decode cX12_joinsFrom 14 = .ok (.iaload, 1) := by decide +kernel
theorem dX12_joinsFrom_15 : decode cX12_joinsFrom 15 = .ok (.invokestatic 225, 3) := by decide +kernel
theorem dX12_joinsFrom_18 : decode cX12_joinsFrom 18 = .ok (.ifCond .eq 9, 3) := by decide +kernel
theorem dX12_joinsFrom_21 : decode cX12_joinsFrom 21 = .ok (.iinc 3 (-1), 3) := by decide +kernel
theorem dX12_joinsFrom_24 : decode cX12_joinsFrom 24 = .ok (.goto (-20), 3) := by decide +kernel
theorem dX12_joinsFrom_27 : decode cX12_joinsFrom 27 = .ok (.iload_n 3, 1) := by decide +kernel
theorem dX12_joinsFrom_28 : decode cX12_joinsFrom 28 = .ok (.iload_n 1, 1) := by decide +kernel
theorem dX12_joinsFrom_29 : decode cX12_joinsFrom 29 = .ok (.if_icmp .lt 44, 3) := by decide +kernel
theorem dX12_joinsFrom_32 : decode cX12_joinsFrom 32 = .ok (.aload_n 0, 1) := by decide +kernel
theorem dX12_joinsFrom_33 : decode cX12_joinsFrom 33 = .ok (.getfield 47, 3) := by decide +kernel
theorem dX12_joinsFrom_36 : decode cX12_joinsFrom 36 = .ok (.iload_n 3, 1) := by decide +kernel
theorem dX12_joinsFrom_37 : decode cX12_joinsFrom 37 = .ok (.iaload, 1) := by decide +kernel
theorem dX12_joinsFrom_38 : decode cX12_joinsFrom 38 = .ok (.bipush 10, 2) := by decide +kernel
theorem dX12_joinsFrom_40 : decode cX12_joinsFrom 40 = .ok (.bipush 15, 2) := by decide +kernel
theorem dX12_joinsFrom_42 : decode cX12_joinsFrom 42 = .ok (.invokestatic 162, 3) := by decide +kernel
theorem dX12_joinsFrom_45 : decode cX12_joinsFrom 45 = .ok (.ifCond .ne 24, 3) := by decide +kernel
theorem dX12_joinsFrom_48 : decode cX12_joinsFrom 48 = .ok (.aload_n 0, 1) := by decide +kernel
theorem dX12_joinsFrom_49 : decode cX12_joinsFrom 49 = .ok (.getfield 47, 3) := by decide +kernel
theorem dX12_joinsFrom_52 : decode cX12_joinsFrom 52 = .ok (.iload_n 3, 1) := by decide +kernel
theorem dX12_joinsFrom_53 : decode cX12_joinsFrom 53 = .ok (.iaload, 1) := by decide +kernel
theorem dX12_joinsFrom_54 : decode cX12_joinsFrom 54 = .ok (.bipush 20, 2) := by decide +kernel
theorem dX12_joinsFrom_56 : decode cX12_joinsFrom 56 = .ok (.if_icmp .eq 13, 3) := by decide +kernel
theorem dX12_joinsFrom_59 : decode cX12_joinsFrom 59 = .ok (.aload_n 0, 1) := by decide +kernel
theorem dX12_joinsFrom_60 : decode cX12_joinsFrom 60 = .ok (.getfield 47, 3) := by decide +kernel
theorem dX12_joinsFrom_63 : decode cX12_joinsFrom 63 = .ok (.iload_n 3, 1) := by decide +kernel
theorem dX12_joinsFrom_64 : decode cX12_joinsFrom 64 = .ok (.iaload, 1) := by decide +kernel
theorem dX12_joinsFrom_65 : decode cX12_joinsFrom 65 = .ok (.iconst 2, 1) := by decide +kernel
theorem dX12_joinsFrom_66 : decode cX12_joinsFrom 66 = .ok (.if_icmp .ne 7, 3) := by decide +kernel
theorem dX12_joinsFrom_69 : decode cX12_joinsFrom 69 = .ok (.iconst 1, 1) := by decide +kernel
theorem dX12_joinsFrom_70 : decode cX12_joinsFrom 70 = .ok (.goto 4, 3) := by decide +kernel
theorem dX12_joinsFrom_73 : decode cX12_joinsFrom 73 = .ok (.iconst 0, 1) := by decide +kernel
theorem dX12_joinsFrom_74 : decode cX12_joinsFrom 74 = .ok (.ireturn, 1) := by decide +kernel
theorem dX12_joinsOn_0 : decode cX12_joinsOn 0 = .ok (.iload_n 2, 1) := by decide +kernel
theorem dX12_joinsOn_1 : decode cX12_joinsOn 1 = .ok (.iconst 1, 1) := by decide +kernel
theorem dX12_joinsOn_2 : decode cX12_joinsOn 2 = .ok (.iadd, 1) := by decide +kernel
theorem dX12_joinsOn_3 : decode cX12_joinsOn 3 = .ok (.istore_n 3, 1) := by decide +kernel
theorem dX12_joinsOn_4 : decode cX12_joinsOn 4 = .ok (.iload_n 3, 1) := by decide +kernel
theorem dX12_joinsOn_5 : decode cX12_joinsOn 5 = .ok (.iload_n 1, 1) := by decide +kernel
theorem dX12_joinsOn_6 : decode cX12_joinsOn 6 = .ok (.if_icmp .ge 21, 3) := by decide +kernel
theorem dX12_joinsOn_9 : decode cX12_joinsOn 9 = .ok (.aload_n 0, 1) := by decide +kernel
theorem dX12_joinsOn_10 : decode cX12_joinsOn 10 = .ok (.getfield 47, 3) := by decide +kernel
theorem dX12_joinsOn_13 : decode cX12_joinsOn 13 = .ok (.iload_n 3, 1) := by decide +kernel
theorem dX12_joinsOn_14 : decode cX12_joinsOn 14 = .ok (.iaload, 1) := by decide +kernel
theorem dX12_joinsOn_15 : decode cX12_joinsOn 15 = .ok (.invokestatic 225, 3) := by decide +kernel
theorem dX12_joinsOn_18 : decode cX12_joinsOn 18 = .ok (.ifCond .eq 9, 3) := by decide +kernel
theorem dX12_joinsOn_21 : decode cX12_joinsOn 21 = .ok (.iinc 3 1, 3) := by decide +kernel
theorem dX12_joinsOn_24 : decode cX12_joinsOn 24 = .ok (.goto (-20), 3) := by decide +kernel
theorem dX12_joinsOn_27 : decode cX12_joinsOn 27 = .ok (.iload_n 3, 1) := by decide +kernel
theorem dX12_joinsOn_28 : decode cX12_joinsOn 28 = .ok (.iload_n 1, 1) := by decide +kernel
theorem dX12_joinsOn_29 : decode cX12_joinsOn 29 = .ok (.if_icmp .ge 44, 3) := by decide +kernel
theorem dX12_joinsOn_32 : decode cX12_joinsOn 32 = .ok (.aload_n 0, 1) := by decide +kernel
theorem dX12_joinsOn_33 : decode cX12_joinsOn 33 = .ok (.getfield 47, 3) := by decide +kernel
theorem dX12_joinsOn_36 : decode cX12_joinsOn 36 = .ok (.iload_n 3, 1) := by decide +kernel
theorem dX12_joinsOn_37 : decode cX12_joinsOn 37 = .ok (.iaload, 1) := by decide +kernel
theorem dX12_joinsOn_38 : decode cX12_joinsOn 38 = .ok (.bipush 10, 2) := by decide +kernel
theorem dX12_joinsOn_40 : decode cX12_joinsOn 40 = .ok (.bipush 18, 2) := by decide +kernel
theorem dX12_joinsOn_42 : decode cX12_joinsOn 42 = .ok (.invokestatic 162, 3) := by decide +kernel
theorem dX12_joinsOn_45 : decode cX12_joinsOn 45 = .ok (.ifCond .ne 24, 3) := by decide +kernel
theorem dX12_joinsOn_48 : decode cX12_joinsOn 48 = .ok (.aload_n 0, 1) := by decide +kernel
theorem dX12_joinsOn_49 : decode cX12_joinsOn 49 = .ok (.getfield 47, 3) := by decide +kernel
theorem dX12_joinsOn_52 : decode cX12_joinsOn 52 = .ok (.iload_n 3, 1) := by decide +kernel
theorem dX12_joinsOn_53 : decode cX12_joinsOn 53 = .ok (.iaload, 1) := by decide +kernel
theorem dX12_joinsOn_54 : decode cX12_joinsOn 54 = .ok (.bipush 20, 2) := by decide +kernel
theorem dX12_joinsOn_56 : decode cX12_joinsOn 56 = .ok (.if_icmp .eq 13, 3) := by decide +kernel
theorem dX12_joinsOn_59 : decode cX12_joinsOn 59 = .ok (.aload_n 0, 1) := by decide +kernel
theorem dX12_joinsOn_60 : decode cX12_joinsOn 60 = .ok (.getfield 47, 3) := by decide +kernel
theorem dX12_joinsOn_63 : decode cX12_joinsOn 63 = .ok (.iload_n 3, 1) := by decide +kernel
theorem dX12_joinsOn_64 : decode cX12_joinsOn 64 = .ok (.iaload, 1) := by decide +kernel
theorem dX12_joinsOn_65 : decode cX12_joinsOn 65 = .ok (.iconst 2, 1) := by decide +kernel
theorem dX12_joinsOn_66 : decode cX12_joinsOn 66 = .ok (.if_icmp .ne 7, 3) := by decide +kernel
theorem dX12_joinsOn_69 : decode cX12_joinsOn 69 = .ok (.iconst 1, 1) := by decide +kernel
theorem dX12_joinsOn_70 : decode cX12_joinsOn 70 = .ok (.goto 4, 3) := by decide +kernel
theorem dX12_joinsOn_73 : decode cX12_joinsOn 73 = .ok (.iconst 0, 1) := by decide +kernel
theorem dX12_joinsOn_74 : decode cX12_joinsOn 74 = .ok (.ireturn, 1) := by decide +kernel
theorem dX12_formOf_0 : decode cX12_formOf 0 = .ok (.aload_n 0, 1) := by decide +kernel
theorem dX12_formOf_1 : decode cX12_formOf 1 = .ok (.getfield 47, 3) := by decide +kernel
theorem dX12_formOf_4 : decode cX12_formOf 4 = .ok (.iload_n 3, 1) := by decide +kernel
theorem dX12_formOf_5 : decode cX12_formOf 5 = .ok (.iaload, 1) := by decide +kernel
theorem dX12_formOf_6 : decode cX12_formOf 6 = .ok (.istore 4, 2) := by decide +kernel
theorem dX12_formOf_8 : decode cX12_formOf 8 = .ok (.iload 4, 2) := by decide +kernel
theorem dX12_formOf_10 : decode cX12_formOf 10 = .ok (.bipush 10, 2) := by decide +kernel
theorem dX12_formOf_12 : decode cX12_formOf 12 = .ok (.bipush 20, 2) := by decide +kernel
theorem dX12_formOf_14 : decode cX12_formOf 14 = .ok (.invokestatic 162, 3) := by decide +kernel
theorem dX12_formOf_17 : decode cX12_formOf 17 = .ok (.ifCond .ne 6, 3) := by decide +kernel
theorem dX12_formOf_20 : decode cX12_formOf 20 = .ok (.bipush (-100), 2) := by decide +kernel
theorem dX12_formOf_22 : decode cX12_formOf 22 = .ok (.ireturn, 1) := by decide +kernel
theorem dX12_formOf_23 : decode cX12_formOf 23 = .ok (.iload 4, 2) := by decide +kernel
theorem dX12_formOf_25 : decode cX12_formOf 25 = .ok (.bipush 19, 2) := by decide +kernel
theorem dX12_formOf_27 : decode cX12_formOf 27 = .ok (.if_icmp .eq 16, 3) := by decide +kernel
theorem dX12_formOf_30 : decode cX12_formOf 30 = .ok (.aload_n 0, 1) := by decide +kernel
theorem dX12_formOf_31 : decode cX12_formOf 31 = .ok (.iload_n 1, 1) := by decide +kernel
theorem dX12_formOf_32 : decode cX12_formOf 32 = .ok (.iload_n 3, 1) := by decide +kernel
theorem dX12_formOf_33 : decode cX12_formOf 33 = .ok (.invokevirtual 228, 3) := by decide +kernel
theorem dX12_formOf_36 : decode cX12_formOf 36 = .ok (.ifCond .eq 7, 3) := by decide +kernel
theorem dX12_formOf_39 : decode cX12_formOf 39 = .ok (.iconst 1, 1) := by decide +kernel
theorem dX12_formOf_40 : decode cX12_formOf 40 = .ok (.goto 4, 3) := by decide +kernel
theorem dX12_formOf_43 : decode cX12_formOf 43 = .ok (.iconst 0, 1) := by decide +kernel
theorem dX12_formOf_44 : decode cX12_formOf 44 = .ok (.istore 5, 2) := by decide +kernel
theorem dX12_formOf_46 : decode cX12_formOf 46 = .ok (.iload 4, 2) := by decide +kernel
theorem dX12_formOf_48 : decode cX12_formOf 48 = .ok (.bipush 10, 2) := by decide +kernel
theorem dX12_formOf_50 : decode cX12_formOf 50 = .ok (.bipush 15, 2) := by decide +kernel
theorem dX12_formOf_52 : decode cX12_formOf 52 = .ok (.invokestatic 162, 3) := by decide +kernel
theorem dX12_formOf_55 : decode cX12_formOf 55 = .ok (.ifCond .ne 10, 3) := by decide +kernel
theorem dX12_formOf_58 : decode cX12_formOf 58 = .ok (.iload 4, 2) := by decide +kernel
theorem dX12_formOf_60 : decode cX12_formOf 60 = .ok (.bipush 20, 2) := by decide +kernel
theorem dX12_formOf_62 : decode cX12_formOf 62 = .ok (.if_icmp .ne 16, 3) := by decide +kernel
theorem dX12_formOf_65 : decode cX12_formOf 65 = .ok (.aload_n 0, 1) := by decide +kernel
theorem dX12_formOf_66 : decode cX12_formOf 66 = .ok (.iload_n 2, 1) := by decide +kernel
theorem dX12_formOf_67 : decode cX12_formOf 67 = .ok (.iload_n 3, 1) := by decide +kernel
theorem dX12_formOf_68 : decode cX12_formOf 68 = .ok (.invokevirtual 232, 3) := by decide +kernel
theorem dX12_formOf_71 : decode cX12_formOf 71 = .ok (.ifCond .eq 7, 3) := by decide +kernel
theorem dX12_formOf_74 : decode cX12_formOf 74 = .ok (.iconst 1, 1) := by decide +kernel
theorem dX12_formOf_75 : decode cX12_formOf 75 = .ok (.goto 4, 3) := by decide +kernel
theorem dX12_formOf_78 : decode cX12_formOf 78 = .ok (.iconst 0, 1) := by decide +kernel
theorem dX12_formOf_79 : decode cX12_formOf 79 = .ok (.istore 6, 2) := by decide +kernel
theorem dX12_formOf_81 : decode cX12_formOf 81 = .ok (.iload 5, 2) := by decide +kernel
theorem dX12_formOf_83 : decode cX12_formOf 83 = .ok (.ifCond .eq 16, 3) := by decide +kernel
theorem dX12_formOf_86 : decode cX12_formOf 86 = .ok (.iload 6, 2) := by decide +kernel
theorem dX12_formOf_88 : decode cX12_formOf 88 = .ok (.ifCond .eq 7, 3) := by decide +kernel
theorem dX12_formOf_91 : decode cX12_formOf 91 = .ok (.iconst 2, 1) := by decide +kernel
theorem dX12_formOf_92 : decode cX12_formOf 92 = .ok (.goto 17, 3) := by decide +kernel
theorem dX12_formOf_95 : decode cX12_formOf 95 = .ok (.iconst 3, 1) := by decide +kernel
theorem dX12_formOf_96 : decode cX12_formOf 96 = .ok (.goto 13, 3) := by decide +kernel
theorem dX12_formOf_99 : decode cX12_formOf 99 = .ok (.iload 6, 2) := by decide +kernel
theorem dX12_formOf_101 : decode cX12_formOf 101 = .ok (.ifCond .eq 7, 3) := by decide +kernel
theorem dX12_formOf_104 : decode cX12_formOf 104 = .ok (.iconst 1, 1) := by decide +kernel
theorem dX12_formOf_105 : decode cX12_formOf 105 = .ok (.goto 4, 3) := by decide +kernel
theorem dX12_formOf_108 : decode cX12_formOf 108 = .ok (.iconst 0, 1) := by decide +kernel
theorem dX12_formOf_109 : decode cX12_formOf 109 = .ok (.ireturn, 1) := by decide +kernel
theorem dX12_addsGlyph_0 : decode cX12_addsGlyph 0 = .ok (.aload_n 0, 1) := by decide +kernel
theorem dX12_addsGlyph_1 : decode cX12_addsGlyph 1 = .ok (.getfield 63, 3) := by decide +kernel
theorem dX12_addsGlyph_4 : decode cX12_addsGlyph 4 = .ok (.aload_n 0, 1) := by decide +kernel
theorem dX12_addsGlyph_5 : decode cX12_addsGlyph 5 = .ok (.getfield 235, 3) := by decide +kernel
theorem dX12_addsGlyph_8 : decode cX12_addsGlyph 8 = .ok (.iload_n 1, 1) := by decide +kernel
theorem dX12_addsGlyph_9 : decode cX12_addsGlyph 9 = .ok (.iastore, 1) := by decide +kernel
theorem dX12_addsGlyph_10 : decode cX12_addsGlyph 10 = .ok (.aload_n 0, 1) := by decide +kernel
theorem dX12_addsGlyph_11 : decode cX12_addsGlyph 11 = .ok (.getfield 66, 3) := by decide +kernel
theorem dX12_addsGlyph_14 : decode cX12_addsGlyph 14 = .ok (.aload_n 0, 1) := by decide +kernel
theorem dX12_addsGlyph_15 : decode cX12_addsGlyph 15 = .ok (.getfield 235, 3) := by decide +kernel
theorem dX12_addsGlyph_18 : decode cX12_addsGlyph 18 = .ok (.iload_n 2, 1) := by decide +kernel
theorem dX12_addsGlyph_19 : decode cX12_addsGlyph 19 = .ok (.iastore, 1) := by decide +kernel
theorem dX12_addsGlyph_20 : decode cX12_addsGlyph 20 = .ok (.aload_n 0, 1) := by decide +kernel
theorem dX12_addsGlyph_21 : decode cX12_addsGlyph 21 = .ok (.getfield 72, 3) := by decide +kernel
theorem dX12_addsGlyph_24 : decode cX12_addsGlyph 24 = .ok (.aload_n 0, 1) := by decide +kernel
theorem dX12_addsGlyph_25 : decode cX12_addsGlyph 25 = .ok (.getfield 235, 3) := by decide +kernel
theorem dX12_addsGlyph_28 : decode cX12_addsGlyph 28 = .ok (.iload_n 3, 1) := by decide +kernel
theorem dX12_addsGlyph_29 : decode cX12_addsGlyph 29 = .ok (.iastore, 1) := by decide +kernel
theorem dX12_addsGlyph_30 : decode cX12_addsGlyph 30 = .ok (.aload_n 0, 1) := by decide +kernel
theorem dX12_addsGlyph_31 : decode cX12_addsGlyph 31 = .ok (.getfield 69, 3) := by decide +kernel
theorem dX12_addsGlyph_34 : decode cX12_addsGlyph 34 = .ok (.aload_n 0, 1) := by decide +kernel
theorem dX12_addsGlyph_35 : decode cX12_addsGlyph 35 = .ok (.getfield 235, 3) := by decide +kernel
theorem dX12_addsGlyph_38 : decode cX12_addsGlyph 38 = .ok (.iload 4, 2) := by decide +kernel
theorem dX12_addsGlyph_40 : decode cX12_addsGlyph 40 = .ok (.iastore, 1) := by decide +kernel
theorem dX12_addsGlyph_41 : decode cX12_addsGlyph 41 = .ok (.aload_n 0, 1) := by decide +kernel
theorem dX12_addsGlyph_42 : decode cX12_addsGlyph 42 = .ok (.getfield 75, 3) := by decide +kernel
theorem dX12_addsGlyph_45 : decode cX12_addsGlyph 45 = .ok (.aload_n 0, 1) := by decide +kernel
theorem dX12_addsGlyph_46 : decode cX12_addsGlyph 46 = .ok (.getfield 235, 3) := by decide +kernel
theorem dX12_addsGlyph_49 : decode cX12_addsGlyph 49 = .ok (.bipush (-100), 2) := by decide +kernel
theorem dX12_addsGlyph_51 : decode cX12_addsGlyph 51 = .ok (.iastore, 1) := by decide +kernel
theorem dX12_addsGlyph_52 : decode cX12_addsGlyph 52 = .ok (.aload_n 0, 1) := by decide +kernel
theorem dX12_addsGlyph_53 : decode cX12_addsGlyph 53 = .ok (.getfield 78, 3) := by decide +kernel
theorem dX12_addsGlyph_56 : decode cX12_addsGlyph 56 = .ok (.aload_n 0, 1) := by decide +kernel
theorem dX12_addsGlyph_57 : decode cX12_addsGlyph 57 = .ok (.getfield 235, 3) := by decide +kernel
theorem dX12_addsGlyph_60 : decode cX12_addsGlyph 60 = .ok (.iconst 1, 1) := by decide +kernel
theorem dX12_addsGlyph_61 : decode cX12_addsGlyph 61 = .ok (.iastore, 1) := by decide +kernel
theorem dX12_addsGlyph_62 : decode cX12_addsGlyph 62 = .ok (.aload_n 0, 1) := by decide +kernel
theorem dX12_addsGlyph_63 : decode cX12_addsGlyph 63 = .ok (.getfield 81, 3) := by decide +kernel
theorem dX12_addsGlyph_66 : decode cX12_addsGlyph 66 = .ok (.aload_n 0, 1) := by decide +kernel
theorem dX12_addsGlyph_67 : decode cX12_addsGlyph 67 = .ok (.getfield 235, 3) := by decide +kernel
theorem dX12_addsGlyph_70 : decode cX12_addsGlyph 70 = .ok (.iload_n 1, 1) := by decide +kernel
theorem dX12_addsGlyph_71 : decode cX12_addsGlyph 71 = .ok (.iastore, 1) := by decide +kernel
theorem dX12_addsGlyph_72 : decode cX12_addsGlyph 72 = .ok (.aload_n 0, 1) := by decide +kernel
theorem dX12_addsGlyph_73 : decode cX12_addsGlyph 73 = .ok (.dup, 1) := by decide +kernel
theorem dX12_addsGlyph_74 : decode cX12_addsGlyph 74 = .ok (.getfield 235, 3) := by decide +kernel
theorem dX12_addsGlyph_77 : decode cX12_addsGlyph 77 = .ok (.iconst 1, 1) := by decide +kernel
theorem dX12_addsGlyph_78 : decode cX12_addsGlyph 78 = .ok (.iadd, 1) := by decide +kernel
theorem dX12_addsGlyph_79 : decode cX12_addsGlyph 79 = .ok (.putfield 235, 3) := by decide +kernel
theorem dX12_addsGlyph_82 : decode cX12_addsGlyph 82 = .ok (.return_, 1) := by decide +kernel
theorem dX12_laysJoined_0 : decode cX12_laysJoined 0 = .ok (.bipush (-100), 2) := by decide +kernel
theorem dX12_laysJoined_2 : decode cX12_laysJoined 2 = .ok (.istore_n 3, 1) := by decide +kernel
theorem dX12_laysJoined_3 : decode cX12_laysJoined 3 = .ok (.iload_n 1, 1) := by decide +kernel
theorem dX12_laysJoined_4 : decode cX12_laysJoined 4 = .ok (.istore 4, 2) := by decide +kernel
theorem dX12_laysJoined_6 : decode cX12_laysJoined 6 = .ok (.iload 4, 2) := by decide +kernel
theorem dX12_laysJoined_8 : decode cX12_laysJoined 8 = .ok (.iload_n 2, 1) := by decide +kernel
theorem dX12_laysJoined_9 : decode cX12_laysJoined 9 = .ok (.if_icmp .ge 67, 3) := by decide +kernel
theorem dX12_laysJoined_12 : decode cX12_laysJoined 12 = .ok (.aload_n 0, 1) := by decide +kernel
theorem dX12_laysJoined_13 : decode cX12_laysJoined 13 = .ok (.getfield 47, 3) := by decide +kernel
theorem dX12_laysJoined_16 : decode cX12_laysJoined 16 = .ok (.iload 4, 2) := by decide +kernel
theorem dX12_laysJoined_18 : decode cX12_laysJoined 18 = .ok (.iaload, 1) := by decide +kernel
theorem dX12_laysJoined_19 : decode cX12_laysJoined 19 = .ok (.invokestatic 225, 3) := by decide +kernel
theorem dX12_laysJoined_22 : decode cX12_laysJoined 22 = .ok (.ifCond .eq 7, 3) := by decide +kernel
theorem dX12_laysJoined_25 : decode cX12_laysJoined 25 = .ok (.iload_n 3, 1) := by decide +kernel
theorem dX12_laysJoined_26 : decode cX12_laysJoined 26 = .ok (.goto 5, 3) := by decide +kernel
