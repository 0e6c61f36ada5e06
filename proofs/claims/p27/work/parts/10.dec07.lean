theorem dL_formed_229 : decode cL_formed 229 = .ok (.iconst 0, 1) := by decide +kernel
theorem dL_formed_230 : decode cL_formed 230 = .ok (.ireturn, 1) := by decide +kernel
theorem dL_consonant_0 : decode cL_consonant 0 = .ok (.iload_n 0, 1) := by decide +kernel
theorem dL_consonant_1 : decode cL_consonant 1 = .ok (.bipush 29, 2) := by decide +kernel
theorem dL_consonant_3 : decode cL_consonant 3 = .ok (.if_icmp .le 13, 3) := by decide +kernel
theorem dL_consonant_6 : decode cL_consonant 6 = .ok (.iload_n 0, 1) := by decide +kernel
theorem dL_consonant_7 : decode cL_consonant 7 = .ok (.bipush 39, 2) := by decide +kernel
theorem dL_consonant_9 : decode cL_consonant 9 = .ok (.if_icmp .ge 7, 3) := by decide +kernel
theorem dL_consonant_12 : decode cL_consonant 12 = .ok (.iconst 1, 1) := by decide +kernel
theorem dL_consonant_13 : decode cL_consonant 13 = .ok (.goto 4, 3) := by decide +kernel
theorem dL_consonant_16 : decode cL_consonant 16 = .ok (.iconst 0, 1) := by decide +kernel
theorem dL_consonant_17 : decode cL_consonant 17 = .ok (.ireturn, 1) := by decide +kernel
theorem dL_behind_0 : decode cL_behind 0 = .ok (.iload_n 3, 1) := by decide +kernel
theorem dL_behind_1 : decode cL_behind 1 = .ok (.istore 4, 2) := by decide +kernel
theorem dL_behind_3 : decode cL_behind 3 = .ok (.iload_n 1, 1) := by decide +kernel
theorem dL_behind_4 : decode cL_behind 4 = .ok (.istore 5, 2) := by decide +kernel
theorem dL_behind_6 : decode cL_behind 6 = .ok (.iload 5, 2) := by decide +kernel
theorem dL_behind_8 : decode cL_behind 8 = .ok (.iload_n 2, 1) := by decide +kernel
theorem dL_behind_9 : decode cL_behind 9 = .ok (.if_icmp .ge 118, 3) := by decide +kernel
theorem dL_behind_12 : decode cL_behind 12 = .ok (.aload_n 0, 1) := by decide +kernel
theorem dL_behind_13 : decode cL_behind 13 = .ok (.iload 5, 2) := by decide +kernel
theorem dL_behind_15 : decode cL_behind 15 = .ok (.iaload, 1) := by decide +kernel
theorem dL_behind_16 : decode cL_behind 16 = .ok (.bipush 63, 2) := by decide +kernel
theorem dL_behind_18 : decode cL_behind 18 = .ok (.iand, 1) := by decide +kernel
theorem dL_behind_19 : decode cL_behind 19 = .ok (.istore 6, 2) := by decide +kernel
theorem dL_behind_21 : decode cL_behind 21 = .ok (.iload 6, 2) := by decide +kernel
theorem dL_behind_23 : decode cL_behind 23 = .ok (.bipush 39, 2) := by decide +kernel
theorem dL_behind_25 : decode cL_behind 25 = .ok (.if_icmp .le 10, 3) := by decide +kernel
theorem dL_behind_28 : decode cL_behind 28 = .ok (.iload 6, 2) := by decide +kernel
theorem dL_behind_30 : decode cL_behind 30 = .ok (.bipush 43, 2) := by decide +kernel
theorem dL_behind_32 : decode cL_behind 32 = .ok (.if_icmp .lt 10, 3) := by decide +kernel
theorem dL_behind_35 : decode cL_behind 35 = .ok (.iload 6, 2) := by decide +kernel
theorem dL_behind_37 : decode cL_behind 37 = .ok (.bipush 44, 2) := by decide +kernel
theorem dL_behind_39 : decode cL_behind 39 = .ok (.if_icmp .ne 9, 3) := by decide +kernel
theorem dL_behind_42 : decode cL_behind 42 = .ok (.iconst 3, 1) := by decide +kernel
theorem dL_behind_43 : decode cL_behind 43 = .ok (.istore 4, 2) := by decide +kernel
theorem dL_behind_45 : decode cL_behind 45 = .ok (.goto 76, 3) := by decide +kernel
theorem dL_behind_48 : decode cL_behind 48 = .ok (.iload 4, 2) := by decide +kernel
theorem dL_behind_50 : decode cL_behind 50 = .ok (.iconst 3, 1) := by decide +kernel
theorem dL_behind_51 : decode cL_behind 51 = .ok (.if_icmp .ne 6, 3) := by decide +kernel
theorem dL_behind_54 : decode cL_behind 54 = .ok (.iload 5, 2) := by decide +kernel
theorem dL_behind_56 : decode cL_behind 56 = .ok (.ireturn, 1) := by decide +kernel
theorem dL_behind_57 : decode cL_behind 57 = .ok (.iload 6, 2) := by decide +kernel
theorem dL_behind_59 : decode cL_behind 59 = .ok (.bipush 39, 2) := by decide +kernel
theorem dL_behind_61 : decode cL_behind 61 = .ok (.if_icmp .ne 14, 3) := by decide +kernel
theorem dL_behind_64 : decode cL_behind 64 = .ok (.iload 4, 2) := by decide +kernel
theorem dL_behind_66 : decode cL_behind 66 = .ok (.ifCond .ne 9, 3) := by decide +kernel
theorem dL_behind_69 : decode cL_behind 69 = .ok (.iconst 1, 1) := by decide +kernel
theorem dL_behind_70 : decode cL_behind 70 = .ok (.istore 4, 2) := by decide +kernel
theorem dL_behind_72 : decode cL_behind 72 = .ok (.goto 49, 3) := by decide +kernel
theorem dL_behind_75 : decode cL_behind 75 = .ok (.iload 6, 2) := by decide +kernel
theorem dL_behind_77 : decode cL_behind 77 = .ok (.iconst 2, 1) := by decide +kernel
theorem dL_behind_78 : decode cL_behind 78 = .ok (.if_icmp .eq 9, 3) := by decide +kernel
theorem dL_behind_81 : decode cL_behind 81 = .ok (.iload 6, 2) := by decide +kernel
theorem dL_behind_83 : decode cL_behind 83 = .ok (.iconst 3, 1) := by decide +kernel
theorem dL_behind_84 : decode cL_behind 84 = .ok (.if_icmp .ne 15, 3) := by decide +kernel
theorem dL_behind_87 : decode cL_behind 87 = .ok (.iload 4, 2) := by decide +kernel
theorem dL_behind_89 : decode cL_behind 89 = .ok (.iconst 1, 1) := by decide +kernel
theorem dL_behind_90 : decode cL_behind 90 = .ok (.if_icmp .ne 9, 3) := by decide +kernel
theorem dL_behind_93 : decode cL_behind 93 = .ok (.iconst 2, 1) := by decide +kernel
theorem dL_behind_94 : decode cL_behind 94 = .ok (.istore 4, 2) := by decide +kernel
theorem dL_behind_96 : decode cL_behind 96 = .ok (.goto 25, 3) := by decide +kernel
theorem dL_behind_99 : decode cL_behind 99 = .ok (.iload 6, 2) := by decide +kernel
theorem dL_behind_101 : decode cL_behind 101 = .ok (.invokestatic 178, 3) := by decide +kernel
theorem dL_behind_104 : decode cL_behind 104 = .ok (.ifCond .eq 14, 3) := by decide +kernel
theorem dL_behind_107 : decode cL_behind 107 = .ok (.iload 4, 2) := by decide +kernel
theorem dL_behind_109 : decode cL_behind 109 = .ok (.ifCond .le 9, 3) := by decide +kernel
theorem dL_behind_112 : decode cL_behind 112 = .ok (.iconst 0, 1) := by decide +kernel
theorem dL_behind_113 : decode cL_behind 113 = .ok (.istore 4, 2) := by decide +kernel
theorem dL_behind_115 : decode cL_behind 115 = .ok (.goto 6, 3) := by decide +kernel
theorem dL_behind_118 : decode cL_behind 118 = .ok (.iload 5, 2) := by decide +kernel
theorem dL_behind_120 : decode cL_behind 120 = .ok (.ireturn, 1) := by decide +kernel
theorem dL_behind_121 : decode cL_behind 121 = .ok (.iinc 5 1, 3) := by decide +kernel
theorem dL_behind_124 : decode cL_behind 124 = .ok (.goto (-118), 3) := by decide +kernel
theorem dL_behind_127 : decode cL_behind 127 = .ok (.iload_n 2, 1) := by decide +kernel
theorem dL_behind_128 : decode cL_behind 128 = .ok (.ireturn, 1) := by decide +kernel
theorem dL_syllables_0 : decode cL_syllables 0 = .ok (.iload_n 3, 1) := by decide +kernel
theorem dL_syllables_1 : decode cL_syllables 1 = .ok (.istore 5, 2) := by decide +kernel
theorem dL_syllables_3 : decode cL_syllables 3 = .ok (.iload 5, 2) := by decide +kernel
theorem dL_syllables_5 : decode cL_syllables 5 = .ok (.iload 4, 2) := by decide +kernel
theorem dL_syllables_7 : decode cL_syllables 7 = .ok (.if_icmp .ge 379, 3) := by decide +kernel
theorem dL_syllables_10 : decode cL_syllables 10 = .ok (.aload_n 1, 1) := by decide +kernel
theorem dL_syllables_11 : decode cL_syllables 11 = .ok (.iload 5, 2) := by decide +kernel
theorem dL_syllables_13 : decode cL_syllables 13 = .ok (.iaload, 1) := by decide +kernel
theorem dL_syllables_14 : decode cL_syllables 14 = .ok (.bipush 63, 2) := by decide +kernel
theorem dL_syllables_16 : decode cL_syllables 16 = .ok (.iand, 1) := by decide +kernel
theorem dL_syllables_17 : decode cL_syllables 17 = .ok (.istore 6, 2) := by decide +kernel
theorem dL_syllables_19 : decode cL_syllables 19 = .ok (.aload_n 2, 1) := by decide +kernel
theorem dL_syllables_20 : decode cL_syllables 20 = .ok (.iconst 5, 1) := by decide +kernel
theorem dL_syllables_21 : decode cL_syllables 21 = .ok (.iaload, 1) := by decide +kernel
theorem dL_syllables_22 : decode cL_syllables 22 = .ok (.istore 7, 2) := by decide +kernel
theorem dL_syllables_24 : decode cL_syllables 24 = .ok (.iload 6, 2) := by decide +kernel
theorem dL_syllables_26 : decode cL_syllables 26 = .ok (.invokestatic 178, 3) := by decide +kernel
theorem dL_syllables_29 : decode cL_syllables 29 = .ok (.ifCond .eq 17, 3) := by decide +kernel
theorem dL_syllables_32 : decode cL_syllables 32 = .ok (.aload_n 1, 1) := by decide +kernel
theorem dL_syllables_33 : decode cL_syllables 33 = .ok (.iload 5, 2) := by decide +kernel
theorem dL_syllables_35 : decode cL_syllables 35 = .ok (.iconst 1, 1) := by decide +kernel
theorem dL_syllables_36 : decode cL_syllables 36 = .ok (.iadd, 1) := by decide +kernel
theorem dL_syllables_37 : decode cL_syllables 37 = .ok (.iload 4, 2) := by decide +kernel
theorem dL_syllables_39 : decode cL_syllables 39 = .ok (.iconst 0, 1) := by decide +kernel
theorem dL_syllables_40 : decode cL_syllables 40 = .ok (.invokestatic 181, 3) := by decide +kernel
theorem dL_syllables_43 : decode cL_syllables 43 = .ok (.goto 47, 3) := by decide +kernel
theorem dL_syllables_46 : decode cL_syllables 46 = .ok (.iload 6, 2) := by decide +kernel
theorem dL_syllables_48 : decode cL_syllables 48 = .ok (.bipush 43, 2) := by decide +kernel
theorem dL_syllables_50 : decode cL_syllables 50 = .ok (.if_icmp .ne 17, 3) := by decide +kernel
theorem dL_syllables_53 : decode cL_syllables 53 = .ok (.aload_n 1, 1) := by decide +kernel
theorem dL_syllables_54 : decode cL_syllables 54 = .ok (.iload 5, 2) := by decide +kernel
theorem dL_syllables_56 : decode cL_syllables 56 = .ok (.iconst 1, 1) := by decide +kernel
theorem dL_syllables_57 : decode cL_syllables 57 = .ok (.iadd, 1) := by decide +kernel
theorem dL_syllables_58 : decode cL_syllables 58 = .ok (.iload 4, 2) := by decide +kernel
theorem dL_syllables_60 : decode cL_syllables 60 = .ok (.iconst 3, 1) := by decide +kernel
theorem dL_syllables_61 : decode cL_syllables 61 = .ok (.invokestatic 181, 3) := by decide +kernel
theorem dL_syllables_64 : decode cL_syllables 64 = .ok (.goto 26, 3) := by decide +kernel
theorem dL_syllables_67 : decode cL_syllables 67 = .ok (.iload 6, 2) := by decide +kernel
theorem dL_syllables_69 : decode cL_syllables 69 = .ok (.bipush 38, 2) := by decide +kernel
theorem dL_syllables_71 : decode cL_syllables 71 = .ok (.if_icmp .le 15, 3) := by decide +kernel
theorem dL_syllables_74 : decode cL_syllables 74 = .ok (.aload_n 1, 1) := by decide +kernel
theorem dL_syllables_75 : decode cL_syllables 75 = .ok (.iload 5, 2) := by decide +kernel
theorem dL_syllables_77 : decode cL_syllables 77 = .ok (.iload 4, 2) := by decide +kernel
theorem dL_syllables_79 : decode cL_syllables 79 = .ok (.iconst 0, 1) := by decide +kernel
theorem dL_syllables_80 : decode cL_syllables 80 = .ok (.invokestatic 181, 3) := by decide +kernel
theorem dL_syllables_83 : decode cL_syllables 83 = .ok (.goto 7, 3) := by decide +kernel
theorem dL_syllables_86 : decode cL_syllables 86 = .ok (.iload 5, 2) := by decide +kernel
theorem dL_syllables_88 : decode cL_syllables 88 = .ok (.iconst 1, 1) := by decide +kernel
theorem dL_syllables_89 : decode cL_syllables 89 = .ok (.iadd, 1) := by decide +kernel
theorem dL_syllables_90 : decode cL_syllables 90 = .ok (.istore 8, 2) := by decide +kernel
theorem dL_syllables_92 : decode cL_syllables 92 = .ok (.iload 6, 2) := by decide +kernel
theorem dL_syllables_94 : decode cL_syllables 94 = .ok (.bipush 38, 2) := by decide +kernel
theorem dL_syllables_96 : decode cL_syllables 96 = .ok (.if_icmp .le 27, 3) := by decide +kernel
theorem dL_syllables_99 : decode cL_syllables 99 = .ok (.iload 6, 2) := by decide +kernel
theorem dL_syllables_101 : decode cL_syllables 101 = .ok (.bipush 43, 2) := by decide +kernel
theorem dL_syllables_103 : decode cL_syllables 103 = .ok (.if_icmp .eq 20, 3) := by decide +kernel
theorem dL_syllables_106 : decode cL_syllables 106 = .ok (.aload_n 0, 1) := by decide +kernel
theorem dL_syllables_107 : decode cL_syllables 107 = .ok (.aload_n 2, 1) := by decide +kernel
theorem dL_syllables_108 : decode cL_syllables 108 = .ok (.aload_n 2, 1) := by decide +kernel
theorem dL_syllables_109 : decode cL_syllables 109 = .ok (.iconst 5, 1) := by decide +kernel
theorem dL_syllables_110 : decode cL_syllables 110 = .ok (.iaload, 1) := by decide +kernel
theorem dL_syllables_111 : decode cL_syllables 111 = .ok (.bipush 64, 2) := by decide +kernel
theorem dL_syllables_113 : decode cL_syllables 113 = .ok (.iload 5, 2) := by decide +kernel
theorem dL_syllables_115 : decode cL_syllables 115 = .ok (.iconst 4, 1) := by decide +kernel
theorem dL_syllables_116 : decode cL_syllables 116 = .ok (.iconst 0, 1) := by decide +kernel
theorem dL_syllables_117 : decode cL_syllables 117 = .ok (.invokestatic 185, 3) := by decide +kernel
theorem dL_syllables_120 : decode cL_syllables 120 = .ok (.invokestatic 136, 3) := by decide +kernel
theorem dL_syllables_123 : decode cL_syllables 123 = .ok (.iload 5, 2) := by decide +kernel
theorem dL_syllables_125 : decode cL_syllables 125 = .ok (.istore 9, 2) := by decide +kernel
theorem dL_syllables_127 : decode cL_syllables 127 = .ok (.iload 9, 2) := by decide +kernel
theorem dL_syllables_129 : decode cL_syllables 129 = .ok (.iload 8, 2) := by decide +kernel
theorem dL_syllables_131 : decode cL_syllables 131 = .ok (.if_icmp .ge 37, 3) := by decide +kernel
theorem dL_syllables_134 : decode cL_syllables 134 = .ok (.aload_n 0, 1) := by decide +kernel
theorem dL_syllables_135 : decode cL_syllables 135 = .ok (.aload_n 2, 1) := by decide +kernel
theorem dL_syllables_136 : decode cL_syllables 136 = .ok (.aload_n 2, 1) := by decide +kernel
theorem dL_syllables_137 : decode cL_syllables 137 = .ok (.iconst 5, 1) := by decide +kernel
theorem dL_syllables_138 : decode cL_syllables 138 = .ok (.iaload, 1) := by decide +kernel
theorem dL_syllables_139 : decode cL_syllables 139 = .ok (.aload_n 1, 1) := by decide +kernel
theorem dL_syllables_140 : decode cL_syllables 140 = .ok (.iload 9, 2) := by decide +kernel
theorem dL_syllables_142 : decode cL_syllables 142 = .ok (.iaload, 1) := by decide +kernel
theorem dL_syllables_143 : decode cL_syllables 143 = .ok (.bipush 63, 2) := by decide +kernel
theorem dL_syllables_145 : decode cL_syllables 145 = .ok (.iand, 1) := by decide +kernel
theorem dL_syllables_146 : decode cL_syllables 146 = .ok (.iload 5, 2) := by decide +kernel
theorem dL_syllables_148 : decode cL_syllables 148 = .ok (.iconst 4, 1) := by decide +kernel
theorem dL_syllables_149 : decode cL_syllables 149 = .ok (.aload_n 1, 1) := by decide +kernel
theorem dL_syllables_150 : decode cL_syllables 150 = .ok (.iload 9, 2) := by decide +kernel
theorem dL_syllables_152 : decode cL_syllables 152 = .ok (.iaload, 1) := by decide +kernel
theorem dL_syllables_153 : decode cL_syllables 153 = .ok (.bipush 6, 2) := by decide +kernel
theorem dL_syllables_155 : decode cL_syllables 155 = .ok (.ishr, 1) := by decide +kernel
theorem dL_syllables_156 : decode cL_syllables 156 = .ok (.invokestatic 185, 3) := by decide +kernel
theorem dL_syllables_159 : decode cL_syllables 159 = .ok (.invokestatic 136, 3) := by decide +kernel
theorem dL_syllables_162 : decode cL_syllables 162 = .ok (.iinc 9 1, 3) := by decide +kernel
theorem dL_syllables_165 : decode cL_syllables 165 = .ok (.goto (-38), 3) := by decide +kernel
theorem dL_syllables_168 : decode cL_syllables 168 = .ok (.iload 6, 2) := by decide +kernel
theorem dL_syllables_170 : decode cL_syllables 170 = .ok (.bipush 38, 2) := by decide +kernel
theorem dL_syllables_172 : decode cL_syllables 172 = .ok (.if_icmp .ne 153, 3) := by decide +kernel
theorem dL_syllables_175 : decode cL_syllables 175 = .ok (.iload 5, 2) := by decide +kernel
theorem dL_syllables_177 : decode cL_syllables 177 = .ok (.iconst 2, 1) := by decide +kernel
theorem dL_syllables_178 : decode cL_syllables 178 = .ok (.iadd, 1) := by decide +kernel
theorem dL_syllables_179 : decode cL_syllables 179 = .ok (.iload 8, 2) := by decide +kernel
theorem dL_syllables_181 : decode cL_syllables 181 = .ok (.if_icmp .ge 144, 3) := by decide +kernel
theorem dL_syllables_184 : decode cL_syllables 184 = .ok (.aload_n 1, 1) := by decide +kernel
theorem dL_syllables_185 : decode cL_syllables 185 = .ok (.iload 5, 2) := by decide +kernel
theorem dL_syllables_187 : decode cL_syllables 187 = .ok (.iconst 1, 1) := by decide +kernel
theorem dL_syllables_188 : decode cL_syllables 188 = .ok (.iadd, 1) := by decide +kernel
theorem dL_syllables_189 : decode cL_syllables 189 = .ok (.iaload, 1) := by decide +kernel
theorem dL_syllables_190 : decode cL_syllables 190 = .ok (.bipush 63, 2) := by decide +kernel
theorem dL_syllables_192 : decode cL_syllables 192 = .ok (.iand, 1) := by decide +kernel
theorem dL_syllables_193 : decode cL_syllables 193 = .ok (.bipush 39, 2) := by decide +kernel
theorem dL_syllables_195 : decode cL_syllables 195 = .ok (.if_icmp .ne 130, 3) := by decide +kernel
theorem dL_syllables_198 : decode cL_syllables 198 = .ok (.aload_n 1, 1) := by decide +kernel
theorem dL_syllables_199 : decode cL_syllables 199 = .ok (.iload 5, 2) := by decide +kernel
theorem dL_syllables_201 : decode cL_syllables 201 = .ok (.iconst 2, 1) := by decide +kernel
theorem dL_syllables_202 : decode cL_syllables 202 = .ok (.iadd, 1) := by decide +kernel
theorem dL_syllables_203 : decode cL_syllables 203 = .ok (.iaload, 1) := by decide +kernel
theorem dL_syllables_204 : decode cL_syllables 204 = .ok (.bipush 63, 2) := by decide +kernel
theorem dL_syllables_206 : decode cL_syllables 206 = .ok (.iand, 1) := by decide +kernel
theorem dL_syllables_207 : decode cL_syllables 207 = .ok (.invokestatic 178, 3) := by decide +kernel
theorem dL_syllables_210 : decode cL_syllables 210 = .ok (.ifCond .eq 115, 3) := by decide +kernel
theorem dL_syllables_213 : decode cL_syllables 213 = .ok (.aload_n 0, 1) := by decide +kernel
theorem dL_syllables_214 : decode cL_syllables 214 = .ok (.aload_n 2, 1) := by decide +kernel
theorem dL_syllables_215 : decode cL_syllables 215 = .ok (.iload 7, 2) := by decide +kernel
theorem dL_syllables_217 : decode cL_syllables 217 = .ok (.invokestatic 153, 3) := by decide +kernel
theorem dL_syllables_220 : decode cL_syllables 220 = .ok (.pop2, 1) := by decide +kernel
theorem dL_syllables_221 : decode cL_syllables 221 = .ok (.aload_n 0, 1) := by decide +kernel
theorem dL_syllables_222 : decode cL_syllables 222 = .ok (.aload_n 2, 1) := by decide +kernel
theorem dL_syllables_223 : decode cL_syllables 223 = .ok (.iload 7, 2) := by decide +kernel
theorem dL_syllables_225 : decode cL_syllables 225 = .ok (.invokestatic 153, 3) := by decide +kernel
theorem dL_syllables_228 : decode cL_syllables 228 = .ok (.pop2, 1) := by decide +kernel
theorem dL_syllables_229 : decode cL_syllables 229 = .ok (.aload_n 2, 1) := by decide +kernel
theorem dL_syllables_230 : decode cL_syllables 230 = .ok (.iconst 5, 1) := by decide +kernel
theorem dL_syllables_231 : decode cL_syllables 231 = .ok (.iaload, 1) := by decide +kernel
theorem dL_syllables_232 : decode cL_syllables 232 = .ok (.istore 9, 2) := by decide +kernel
theorem dL_syllables_234 : decode cL_syllables 234 = .ok (.aload_n 0, 1) := by decide +kernel
theorem dL_syllables_235 : decode cL_syllables 235 = .ok (.iload 9, 2) := by decide +kernel
theorem dL_syllables_237 : decode cL_syllables 237 = .ok (.iconst 1, 1) := by decide +kernel
theorem dL_syllables_238 : decode cL_syllables 238 = .ok (.isub, 1) := by decide +kernel
theorem dL_syllables_239 : decode cL_syllables 239 = .ok (.laload, 1) := by decide +kernel
theorem dL_syllables_240 : decode cL_syllables 240 = .ok (.invokestatic 108, 3) := by decide +kernel
theorem dL_syllables_243 : decode cL_syllables 243 = .ok (.invokestatic 178, 3) := by decide +kernel
theorem dL_syllables_246 : decode cL_syllables 246 = .ok (.ifCond .ne 9, 3) := by decide +kernel
theorem dL_syllables_249 : decode cL_syllables 249 = .ok (.iinc 9 (-1), 3) := by decide +kernel
theorem dL_syllables_252 : decode cL_syllables 252 = .ok (.goto (-18), 3) := by decide +kernel
theorem dL_syllables_255 : decode cL_syllables 255 = .ok (.iload 9, 2) := by decide +kernel
theorem dL_syllables_257 : decode cL_syllables 257 = .ok (.aload_n 2, 1) := by decide +kernel
theorem dL_syllables_258 : decode cL_syllables 258 = .ok (.iconst 5, 1) := by decide +kernel
theorem dL_syllables_259 : decode cL_syllables 259 = .ok (.iaload, 1) := by decide +kernel
theorem dL_syllables_260 : decode cL_syllables 260 = .ok (.if_icmp .ge 43, 3) := by decide +kernel
theorem dL_syllables_263 : decode cL_syllables 263 = .ok (.aload_n 0, 1) := by decide +kernel
theorem dL_syllables_264 : decode cL_syllables 264 = .ok (.iload 9, 2) := by decide +kernel
theorem dL_syllables_266 : decode cL_syllables 266 = .ok (.laload, 1) := by decide +kernel
theorem dL_syllables_267 : decode cL_syllables 267 = .ok (.invokestatic 108, 3) := by decide +kernel
theorem dL_syllables_270 : decode cL_syllables 270 = .ok (.bipush 39, 2) := by decide +kernel
theorem dL_syllables_272 : decode cL_syllables 272 = .ok (.if_icmp .eq 25, 3) := by decide +kernel
theorem dL_syllables_275 : decode cL_syllables 275 = .ok (.aload_n 0, 1) := by decide +kernel
theorem dL_syllables_276 : decode cL_syllables 276 = .ok (.iload 9, 2) := by decide +kernel
theorem dL_syllables_278 : decode cL_syllables 278 = .ok (.laload, 1) := by decide +kernel
theorem dL_syllables_279 : decode cL_syllables 279 = .ok (.invokestatic 108, 3) := by decide +kernel
theorem dL_syllables_282 : decode cL_syllables 282 = .ok (.iconst 2, 1) := by decide +kernel
theorem dL_syllables_283 : decode cL_syllables 283 = .ok (.if_icmp .eq 14, 3) := by decide +kernel
theorem dL_syllables_286 : decode cL_syllables 286 = .ok (.aload_n 0, 1) := by decide +kernel
theorem dL_syllables_287 : decode cL_syllables 287 = .ok (.iload 9, 2) := by decide +kernel
theorem dL_syllables_289 : decode cL_syllables 289 = .ok (.laload, 1) := by decide +kernel
theorem dL_syllables_290 : decode cL_syllables 290 = .ok (.invokestatic 108, 3) := by decide +kernel
theorem dL_syllables_293 : decode cL_syllables 293 = .ok (.iconst 3, 1) := by decide +kernel
theorem dL_syllables_294 : decode cL_syllables 294 = .ok (.if_icmp .ne 9, 3) := by decide +kernel
theorem dL_syllables_297 : decode cL_syllables 297 = .ok (.iinc 9 1, 3) := by decide +kernel
theorem dL_syllables_300 : decode cL_syllables 300 = .ok (.goto (-45), 3) := by decide +kernel
theorem dL_syllables_303 : decode cL_syllables 303 = .ok (.aload_n 0, 1) := by decide +kernel
theorem dL_syllables_304 : decode cL_syllables 304 = .ok (.aload_n 2, 1) := by decide +kernel
theorem dL_syllables_305 : decode cL_syllables 305 = .ok (.iload 9, 2) := by decide +kernel
theorem dL_syllables_307 : decode cL_syllables 307 = .ok (.bipush 65, 2) := by decide +kernel
theorem dL_syllables_309 : decode cL_syllables 309 = .ok (.iload 5, 2) := by decide +kernel
theorem dL_syllables_311 : decode cL_syllables 311 = .ok (.iconst 4, 1) := by decide +kernel
theorem dL_syllables_312 : decode cL_syllables 312 = .ok (.aload_n 1, 1) := by decide +kernel
theorem dL_syllables_313 : decode cL_syllables 313 = .ok (.iload 5, 2) := by decide +kernel
theorem dL_syllables_315 : decode cL_syllables 315 = .ok (.iaload, 1) := by decide +kernel
theorem dL_syllables_316 : decode cL_syllables 316 = .ok (.bipush 6, 2) := by decide +kernel
theorem dL_syllables_318 : decode cL_syllables 318 = .ok (.ishr, 1) := by decide +kernel
theorem dL_syllables_319 : decode cL_syllables 319 = .ok (.invokestatic 185, 3) := by decide +kernel
theorem dL_syllables_322 : decode cL_syllables 322 = .ok (.invokestatic 136, 3) := by decide +kernel
theorem dL_syllables_325 : decode cL_syllables 325 = .ok (.iload 7, 2) := by decide +kernel
theorem dL_syllables_327 : decode cL_syllables 327 = .ok (.istore 9, 2) := by decide +kernel
theorem dL_syllables_329 : decode cL_syllables 329 = .ok (.iload 7, 2) := by decide +kernel
theorem dL_syllables_331 : decode cL_syllables 331 = .ok (.istore 10, 2) := by decide +kernel
theorem dL_syllables_333 : decode cL_syllables 333 = .ok (.iload 10, 2) := by decide +kernel
theorem dL_syllables_335 : decode cL_syllables 335 = .ok (.aload_n 2, 1) := by decide +kernel
theorem dL_syllables_336 : decode cL_syllables 336 = .ok (.iconst 5, 1) := by decide +kernel
theorem dL_syllables_337 : decode cL_syllables 337 = .ok (.iaload, 1) := by decide +kernel
theorem dL_syllables_338 : decode cL_syllables 338 = .ok (.if_icmp .ge 41, 3) := by decide +kernel
theorem dL_syllables_341 : decode cL_syllables 341 = .ok (.aload_n 0, 1) := by decide +kernel
theorem dL_syllables_342 : decode cL_syllables 342 = .ok (.iload 10, 2) := by decide +kernel
theorem dL_syllables_344 : decode cL_syllables 344 = .ok (.laload, 1) := by decide +kernel
theorem dL_syllables_345 : decode cL_syllables 345 = .ok (.invokestatic 108, 3) := by decide +kernel
theorem dL_syllables_348 : decode cL_syllables 348 = .ok (.bipush 40, 2) := by decide +kernel
theorem dL_syllables_350 : decode cL_syllables 350 = .ok (.if_icmp .eq 6, 3) := by decide +kernel
theorem dL_syllables_353 : decode cL_syllables 353 = .ok (.goto 20, 3) := by decide +kernel
theorem dL_syllables_356 : decode cL_syllables 356 = .ok (.aload_n 0, 1) := by decide +kernel
theorem dL_syllables_357 : decode cL_syllables 357 = .ok (.aload_n 2, 1) := by decide +kernel
theorem dL_syllables_358 : decode cL_syllables 358 = .ok (.iload 9, 2) := by decide +kernel
theorem dL_syllables_360 : decode cL_syllables 360 = .ok (.aload_n 0, 1) := by decide +kernel
theorem dL_syllables_361 : decode cL_syllables 361 = .ok (.aload_n 2, 1) := by decide +kernel
theorem dL_syllables_362 : decode cL_syllables 362 = .ok (.iload 10, 2) := by decide +kernel
theorem dL_syllables_364 : decode cL_syllables 364 = .ok (.invokestatic 153, 3) := by decide +kernel
theorem dL_syllables_367 : decode cL_syllables 367 = .ok (.invokestatic 136, 3) := by decide +kernel
theorem dL_syllables_370 : decode cL_syllables 370 = .ok (.iinc 9 1, 3) := by decide +kernel
theorem dL_syllables_373 : decode cL_syllables 373 = .ok (.iinc 10 1, 3) := by decide +kernel
theorem dL_syllables_376 : decode cL_syllables 376 = .ok (.goto (-43), 3) := by decide +kernel
theorem dL_syllables_379 : decode cL_syllables 379 = .ok (.iload 8, 2) := by decide +kernel
theorem dL_syllables_381 : decode cL_syllables 381 = .ok (.istore 5, 2) := by decide +kernel
theorem dL_syllables_383 : decode cL_syllables 383 = .ok (.goto (-380), 3) := by decide +kernel
theorem dL_syllables_386 : decode cL_syllables 386 = .ok (.return_, 1) := by decide +kernel
theorem dL_move_0 : decode cL_move 0 = .ok (.iconst 0, 1) := by decide +kernel
theorem dL_move_1 : decode cL_move 1 = .ok (.istore_n 2, 1) := by decide +kernel
theorem dL_move_2 : decode cL_move 2 = .ok (.iload_n 2, 1) := by decide +kernel
theorem dL_move_3 : decode cL_move 3 = .ok (.aload_n 1, 1) := by decide +kernel
theorem dL_move_4 : decode cL_move 4 = .ok (.iconst 5, 1) := by decide +kernel
theorem dL_move_5 : decode cL_move 5 = .ok (.iaload, 1) := by decide +kernel
theorem dL_move_6 : decode cL_move 6 = .ok (.if_icmp .ge 227, 3) := by decide +kernel
theorem dL_move_9 : decode cL_move 9 = .ok (.iload_n 2, 1) := by decide +kernel
theorem dL_move_10 : decode cL_move 10 = .ok (.istore_n 3, 1) := by decide +kernel
theorem dL_move_11 : decode cL_move 11 = .ok (.iload_n 3, 1) := by decide +kernel
theorem dL_move_12 : decode cL_move 12 = .ok (.aload_n 1, 1) := by decide +kernel
theorem dL_move_13 : decode cL_move 13 = .ok (.iconst 5, 1) := by decide +kernel
theorem dL_move_14 : decode cL_move 14 = .ok (.iaload, 1) := by decide +kernel
theorem dL_move_15 : decode cL_move 15 = .ok (.if_icmp .ge 32, 3) := by decide +kernel
theorem dL_move_18 : decode cL_move 18 = .ok (.aload_n 0, 1) := by decide +kernel
theorem dL_move_19 : decode cL_move 19 = .ok (.iload_n 3, 1) := by decide +kernel
theorem dL_move_20 : decode cL_move 20 = .ok (.laload, 1) := by decide +kernel
theorem dL_move_21 : decode cL_move 21 = .ok (.bipush 8, 2) := by decide +kernel
theorem dL_move_23 : decode cL_move 23 = .ok (.bipush 15, 2) := by decide +kernel
theorem dL_move_25 : decode cL_move 25 = .ok (.invokestatic 116, 3) := by decide +kernel
theorem dL_move_28 : decode cL_move 28 = .ok (.aload_n 0, 1) := by decide +kernel
theorem dL_move_29 : decode cL_move 29 = .ok (.iload_n 2, 1) := by decide +kernel
theorem dL_move_30 : decode cL_move 30 = .ok (.laload, 1) := by decide +kernel
theorem dL_move_31 : decode cL_move 31 = .ok (.bipush 8, 2) := by decide +kernel
theorem dL_move_33 : decode cL_move 33 = .ok (.bipush 15, 2) := by decide +kernel
theorem dL_move_35 : decode cL_move 35 = .ok (.invokestatic 116, 3) := by decide +kernel
theorem dL_move_38 : decode cL_move 38 = .ok (.if_icmp .ne 9, 3) := by decide +kernel
theorem dL_move_41 : decode cL_move 41 = .ok (.iinc 3 1, 3) := by decide +kernel
theorem dL_move_44 : decode cL_move 44 = .ok (.goto (-33), 3) := by decide +kernel
theorem dL_move_47 : decode cL_move 47 = .ok (.iconst 0, 1) := by decide +kernel
theorem dL_move_48 : decode cL_move 48 = .ok (.istore 4, 2) := by decide +kernel
theorem dL_move_50 : decode cL_move 50 = .ok (.iload_n 2, 1) := by decide +kernel
theorem dL_move_51 : decode cL_move 51 = .ok (.iload 4, 2) := by decide +kernel
theorem dL_move_53 : decode cL_move 53 = .ok (.iadd, 1) := by decide +kernel
theorem dL_move_54 : decode cL_move 54 = .ok (.iload_n 3, 1) := by decide +kernel
theorem dL_move_55 : decode cL_move 55 = .ok (.if_icmp .ge 28, 3) := by decide +kernel
theorem dL_move_58 : decode cL_move 58 = .ok (.aload_n 0, 1) := by decide +kernel
theorem dL_move_59 : decode cL_move 59 = .ok (.iload_n 2, 1) := by decide +kernel
theorem dL_move_60 : decode cL_move 60 = .ok (.iload 4, 2) := by decide +kernel
theorem dL_move_62 : decode cL_move 62 = .ok (.iadd, 1) := by decide +kernel
theorem dL_move_63 : decode cL_move 63 = .ok (.laload, 1) := by decide +kernel
theorem dL_move_64 : decode cL_move 64 = .ok (.bipush 53, 2) := by decide +kernel
theorem dL_move_66 : decode cL_move 66 = .ok (.sipush 255, 3) := by decide +kernel
theorem dL_move_69 : decode cL_move 69 = .ok (.invokestatic 116, 3) := by decide +kernel
theorem dL_move_72 : decode cL_move 72 = .ok (.bipush 40, 2) := by decide +kernel
theorem dL_move_74 : decode cL_move 74 = .ok (.if_icmp .ne 9, 3) := by decide +kernel
theorem dL_move_77 : decode cL_move 77 = .ok (.iinc 4 1, 3) := by decide +kernel
theorem dL_move_80 : decode cL_move 80 = .ok (.goto (-30), 3) := by decide +kernel
theorem dL_move_83 : decode cL_move 83 = .ok (.iconst (-1), 1) := by decide +kernel
theorem dL_move_84 : decode cL_move 84 = .ok (.istore 5, 2) := by decide +kernel
theorem dL_move_86 : decode cL_move 86 = .ok (.iload_n 2, 1) := by decide +kernel
theorem dL_move_87 : decode cL_move 87 = .ok (.iload 4, 2) := by decide +kernel
theorem dL_move_89 : decode cL_move 89 = .ok (.iadd, 1) := by decide +kernel
theorem dL_move_90 : decode cL_move 90 = .ok (.istore 6, 2) := by decide +kernel
theorem dL_move_92 : decode cL_move 92 = .ok (.iload 6, 2) := by decide +kernel
theorem dL_move_94 : decode cL_move 94 = .ok (.iload_n 3, 1) := by decide +kernel
theorem dL_move_95 : decode cL_move 95 = .ok (.if_icmp .ge 99, 3) := by decide +kernel
theorem dL_move_98 : decode cL_move 98 = .ok (.aload_n 0, 1) := by decide +kernel
theorem dL_move_99 : decode cL_move 99 = .ok (.iload 6, 2) := by decide +kernel
theorem dL_move_101 : decode cL_move 101 = .ok (.laload, 1) := by decide +kernel
theorem dL_move_102 : decode cL_move 102 = .ok (.invokestatic 108, 3) := by decide +kernel
theorem dL_move_105 : decode cL_move 105 = .ok (.bipush 39, 2) := by decide +kernel
theorem dL_move_107 : decode cL_move 107 = .ok (.if_icmp .eq 6, 3) := by decide +kernel
theorem dL_move_110 : decode cL_move 110 = .ok (.goto 78, 3) := by decide +kernel
theorem dL_move_113 : decode cL_move 113 = .ok (.iconst 0, 1) := by decide +kernel
theorem dL_move_114 : decode cL_move 114 = .ok (.istore 7, 2) := by decide +kernel
theorem dL_move_116 : decode cL_move 116 = .ok (.iload 6, 2) := by decide +kernel
theorem dL_move_118 : decode cL_move 118 = .ok (.iconst 1, 1) := by decide +kernel
theorem dL_move_119 : decode cL_move 119 = .ok (.iadd, 1) := by decide +kernel
theorem dL_move_120 : decode cL_move 120 = .ok (.istore 8, 2) := by decide +kernel
theorem dL_move_122 : decode cL_move 122 = .ok (.iload 8, 2) := by decide +kernel
theorem dL_move_124 : decode cL_move 124 = .ok (.iload_n 3, 1) := by decide +kernel
theorem dL_move_125 : decode cL_move 125 = .ok (.if_icmp .ge 54, 3) := by decide +kernel
theorem dL_move_128 : decode cL_move 128 = .ok (.iload 7, 2) := by decide +kernel
theorem dL_move_130 : decode cL_move 130 = .ok (.aload_n 0, 1) := by decide +kernel
theorem dL_move_131 : decode cL_move 131 = .ok (.iload 8, 2) := by decide +kernel
theorem dL_move_133 : decode cL_move 133 = .ok (.laload, 1) := by decide +kernel
theorem dL_move_134 : decode cL_move 134 = .ok (.bipush 53, 2) := by decide +kernel
theorem dL_move_136 : decode cL_move 136 = .ok (.sipush 255, 3) := by decide +kernel
theorem dL_move_139 : decode cL_move 139 = .ok (.invokestatic 116, 3) := by decide +kernel
theorem dL_move_142 : decode cL_move 142 = .ok (.invokestatic 178, 3) := by decide +kernel
theorem dL_move_145 : decode cL_move 145 = .ok (.ifCond .ne 20, 3) := by decide +kernel
theorem dL_move_148 : decode cL_move 148 = .ok (.aload_n 0, 1) := by decide +kernel
theorem dL_move_149 : decode cL_move 149 = .ok (.iload 8, 2) := by decide +kernel
theorem dL_move_151 : decode cL_move 151 = .ok (.laload, 1) := by decide +kernel
theorem dL_move_152 : decode cL_move 152 = .ok (.bipush 53, 2) := by decide +kernel
theorem dL_move_154 : decode cL_move 154 = .ok (.sipush 255, 3) := by decide +kernel
theorem dL_move_157 : decode cL_move 157 = .ok (.invokestatic 116, 3) := by decide +kernel
theorem dL_move_160 : decode cL_move 160 = .ok (.bipush 64, 2) := by decide +kernel
theorem dL_move_162 : decode cL_move 162 = .ok (.if_icmp .ne 7, 3) := by decide +kernel
theorem dL_move_165 : decode cL_move 165 = .ok (.iconst 1, 1) := by decide +kernel
theorem dL_move_166 : decode cL_move 166 = .ok (.goto 4, 3) := by decide +kernel
theorem dL_move_169 : decode cL_move 169 = .ok (.iconst 0, 1) := by decide +kernel
theorem dL_move_170 : decode cL_move 170 = .ok (.ior, 1) := by decide +kernel
theorem dL_move_171 : decode cL_move 171 = .ok (.istore 7, 2) := by decide +kernel
theorem dL_move_173 : decode cL_move 173 = .ok (.iinc 8 1, 3) := by decide +kernel
theorem dL_move_176 : decode cL_move 176 = .ok (.goto (-54), 3) := by decide +kernel
theorem dL_move_179 : decode cL_move 179 = .ok (.iload 7, 2) := by decide +kernel
theorem dL_move_181 : decode cL_move 181 = .ok (.ifCond .eq 7, 3) := by decide +kernel
theorem dL_move_184 : decode cL_move 184 = .ok (.iload 6, 2) := by decide +kernel
theorem dL_move_186 : decode cL_move 186 = .ok (.istore 5, 2) := by decide +kernel
theorem dL_move_188 : decode cL_move 188 = .ok (.iinc 6 1, 3) := by decide +kernel
theorem dL_move_191 : decode cL_move 191 = .ok (.goto (-99), 3) := by decide +kernel
theorem dL_move_194 : decode cL_move 194 = .ok (.iconst 0, 1) := by decide +kernel
theorem dL_move_195 : decode cL_move 195 = .ok (.istore 6, 2) := by decide +kernel
theorem dL_move_197 : decode cL_move 197 = .ok (.iload 6, 2) := by decide +kernel
theorem dL_move_199 : decode cL_move 199 = .ok (.iload 4, 2) := by decide +kernel
theorem dL_move_201 : decode cL_move 201 = .ok (.if_icmp .ge 27, 3) := by decide +kernel
theorem dL_move_204 : decode cL_move 204 = .ok (.iload 5, 2) := by decide +kernel
theorem dL_move_206 : decode cL_move 206 = .ok (.ifCond .lt 22, 3) := by decide +kernel
theorem dL_move_209 : decode cL_move 209 = .ok (.aload_n 0, 1) := by decide +kernel
theorem dL_move_210 : decode cL_move 210 = .ok (.aload_n 1, 1) := by decide +kernel
theorem dL_move_211 : decode cL_move 211 = .ok (.iload 5, 2) := by decide +kernel
theorem dL_move_213 : decode cL_move 213 = .ok (.aload_n 0, 1) := by decide +kernel
theorem dL_move_214 : decode cL_move 214 = .ok (.aload_n 1, 1) := by decide +kernel
theorem dL_move_215 : decode cL_move 215 = .ok (.iload_n 2, 1) := by decide +kernel
theorem dL_move_216 : decode cL_move 216 = .ok (.invokestatic 153, 3) := by decide +kernel
theorem dL_move_219 : decode cL_move 219 = .ok (.invokestatic 136, 3) := by decide +kernel
theorem dL_move_222 : decode cL_move 222 = .ok (.iinc 6 1, 3) := by decide +kernel
theorem dL_move_225 : decode cL_move 225 = .ok (.goto (-28), 3) := by decide +kernel
theorem dL_move_228 : decode cL_move 228 = .ok (.iload_n 3, 1) := by decide +kernel
theorem dL_move_229 : decode cL_move 229 = .ok (.istore_n 2, 1) := by decide +kernel
theorem dL_move_230 : decode cL_move 230 = .ok (.goto (-228), 3) := by decide +kernel
theorem dL_move_233 : decode cL_move 233 = .ok (.return_, 1) := by decide +kernel
theorem dL_base_0 : decode cL_base 0 = .ok (.iload_n 3, 1) := by decide +kernel
theorem dL_base_1 : decode cL_base 1 = .ok (.iconst 1, 1) := by decide +kernel
theorem dL_base_2 : decode cL_base 2 = .ok (.isub, 1) := by decide +kernel
theorem dL_base_3 : decode cL_base 3 = .ok (.istore 4, 2) := by decide +kernel
theorem dL_base_5 : decode cL_base 5 = .ok (.iload 4, 2) := by decide +kernel
theorem dL_base_7 : decode cL_base 7 = .ok (.ifCond .lt 30, 3) := by decide +kernel
theorem dL_base_10 : decode cL_base 10 = .ok (.aload_n 1, 1) := by decide +kernel
theorem dL_base_11 : decode cL_base 11 = .ok (.aload_n 2, 1) := by decide +kernel
theorem dL_base_12 : decode cL_base 12 = .ok (.bipush 6, 2) := by decide +kernel
theorem dL_base_14 : decode cL_base 14 = .ok (.iaload, 1) := by decide +kernel
theorem dL_base_15 : decode cL_base 15 = .ok (.aload_n 0, 1) := by decide +kernel
theorem dL_base_16 : decode cL_base 16 = .ok (.iload 4, 2) := by decide +kernel
theorem dL_base_18 : decode cL_base 18 = .ok (.laload, 1) := by decide +kernel
theorem dL_base_19 : decode cL_base 19 = .ok (.invokestatic 108, 3) := by decide +kernel
theorem dL_base_22 : decode cL_base 22 = .ok (.invokestatic 112, 3) := by decide +kernel
theorem dL_base_25 : decode cL_base 25 = .ok (.ifCond .ge 6, 3) := by decide +kernel
theorem dL_base_28 : decode cL_base 28 = .ok (.iload 4, 2) := by decide +kernel
theorem dL_base_30 : decode cL_base 30 = .ok (.ireturn, 1) := by decide +kernel
theorem dL_base_31 : decode cL_base 31 = .ok (.iinc 4 (-1), 3) := by decide +kernel
theorem dL_base_34 : decode cL_base 34 = .ok (.goto (-29), 3) := by decide +kernel
theorem dL_base_37 : decode cL_base 37 = .ok (.iconst (-1), 1) := by decide +kernel
theorem dL_base_38 : decode cL_base 38 = .ok (.ireturn, 1) := by decide +kernel
theorem dL_first_0 : decode cL_first 0 = .ok (.aload_n 2, 1) := by decide +kernel
theorem dL_first_1 : decode cL_first 1 = .ok (.iload 5, 2) := by decide +kernel
theorem dL_first_3 : decode cL_first 3 = .ok (.iaload, 1) := by decide +kernel
theorem dL_first_4 : decode cL_first 4 = .ok (.bipush 15, 2) := by decide +kernel
theorem dL_first_6 : decode cL_first 6 = .ok (.iand, 1) := by decide +kernel
theorem dL_first_7 : decode cL_first 7 = .ok (.istore 8, 2) := by decide +kernel
theorem dL_first_9 : decode cL_first 9 = .ok (.iconst 0, 1) := by decide +kernel
theorem dL_first_10 : decode cL_first 10 = .ok (.istore 9, 2) := by decide +kernel
theorem dL_first_12 : decode cL_first 12 = .ok (.iload 9, 2) := by decide +kernel
theorem dL_first_14 : decode cL_first 14 = .ok (.aload_n 2, 1) := by decide +kernel
theorem dL_first_15 : decode cL_first 15 = .ok (.iload 5, 2) := by decide +kernel
theorem dL_first_17 : decode cL_first 17 = .ok (.iaload, 1) := by decide +kernel
theorem dL_first_18 : decode cL_first 18 = .ok (.bipush 13, 2) := by decide +kernel
theorem dL_first_20 : decode cL_first 20 = .ok (.ishr, 1) := by decide +kernel
theorem dL_first_21 : decode cL_first 21 = .ok (.if_icmp .ge 208, 3) := by decide +kernel
theorem dL_first_24 : decode cL_first 24 = .ok (.aload_n 3, 1) := by decide +kernel
theorem dL_first_25 : decode cL_first 25 = .ok (.aload 4, 2) := by decide +kernel
theorem dL_first_27 : decode cL_first 27 = .ok (.bipush 6, 2) := by decide +kernel
theorem dL_first_29 : decode cL_first 29 = .ok (.iaload, 1) := by decide +kernel
theorem dL_first_30 : decode cL_first 30 = .ok (.aload_n 1, 1) := by decide +kernel
theorem dL_first_31 : decode cL_first 31 = .ok (.iload 5, 2) := by decide +kernel
theorem dL_first_33 : decode cL_first 33 = .ok (.iload 9, 2) := by decide +kernel
theorem dL_first_35 : decode cL_first 35 = .ok (.iconst 0, 1) := by decide +kernel
theorem dL_first_36 : decode cL_first 36 = .ok (.invokestatic 124, 3) := by decide +kernel
theorem dL_first_39 : decode cL_first 39 = .ok (.aload_n 0, 1) := by decide +kernel
theorem dL_first_40 : decode cL_first 40 = .ok (.iload 6, 2) := by decide +kernel
theorem dL_first_42 : decode cL_first 42 = .ok (.laload, 1) := by decide +kernel
theorem dL_first_43 : decode cL_first 43 = .ok (.invokestatic 108, 3) := by decide +kernel
theorem dL_first_46 : decode cL_first 46 = .ok (.invokestatic 128, 3) := by decide +kernel
theorem dL_first_49 : decode cL_first 49 = .ok (.ifCond .ne 6, 3) := by decide +kernel
theorem dL_first_52 : decode cL_first 52 = .ok (.goto 171, 3) := by decide +kernel
theorem dL_first_55 : decode cL_first 55 = .ok (.aload_n 1, 1) := by decide +kernel
theorem dL_first_56 : decode cL_first 56 = .ok (.iload 5, 2) := by decide +kernel
theorem dL_first_58 : decode cL_first 58 = .ok (.iload 9, 2) := by decide +kernel
theorem dL_first_60 : decode cL_first 60 = .ok (.iconst 1, 1) := by decide +kernel
theorem dL_first_61 : decode cL_first 61 = .ok (.invokestatic 124, 3) := by decide +kernel
theorem dL_first_64 : decode cL_first 64 = .ok (.istore 10, 2) := by decide +kernel
theorem dL_first_66 : decode cL_first 66 = .ok (.iload 8, 2) := by decide +kernel
theorem dL_first_68 : decode cL_first 68 = .ok (.bipush 6, 2) := by decide +kernel
theorem dL_first_70 : decode cL_first 70 = .ok (.if_icmp .ne 27, 3) := by decide +kernel
theorem dL_first_73 : decode cL_first 73 = .ok (.aload_n 3, 1) := by decide +kernel
theorem dL_first_74 : decode cL_first 74 = .ok (.aload 4, 2) := by decide +kernel
theorem dL_first_76 : decode cL_first 76 = .ok (.bipush 6, 2) := by decide +kernel
theorem dL_first_78 : decode cL_first 78 = .ok (.iaload, 1) := by decide +kernel
theorem dL_first_79 : decode cL_first 79 = .ok (.iload 10, 2) := by decide +kernel
theorem dL_first_81 : decode cL_first 81 = .ok (.aload_n 0, 1) := by decide +kernel
theorem dL_first_82 : decode cL_first 82 = .ok (.iload 7, 2) := by decide +kernel
theorem dL_first_84 : decode cL_first 84 = .ok (.laload, 1) := by decide +kernel
theorem dL_first_85 : decode cL_first 85 = .ok (.invokestatic 108, 3) := by decide +kernel
theorem dL_first_88 : decode cL_first 88 = .ok (.invokestatic 128, 3) := by decide +kernel
theorem dL_first_91 : decode cL_first 91 = .ok (.ifCond .ne 6, 3) := by decide +kernel
theorem dL_first_94 : decode cL_first 94 = .ok (.goto 129, 3) := by decide +kernel
theorem dL_first_97 : decode cL_first 97 = .ok (.iload 8, 2) := by decide +kernel
theorem dL_first_99 : decode cL_first 99 = .ok (.bipush 8, 2) := by decide +kernel
theorem dL_first_101 : decode cL_first 101 = .ok (.if_icmp .ne 88, 3) := by decide +kernel
theorem dL_first_104 : decode cL_first 104 = .ok (.aload_n 0, 1) := by decide +kernel
theorem dL_first_105 : decode cL_first 105 = .ok (.iload 7, 2) := by decide +kernel
theorem dL_first_107 : decode cL_first 107 = .ok (.laload, 1) := by decide +kernel
theorem dL_first_108 : decode cL_first 108 = .ok (.bipush 17, 2) := by decide +kernel
theorem dL_first_110 : decode cL_first 110 = .ok (.ldc 144, 2) := by decide +kernel
theorem dL_first_112 : decode cL_first 112 = .ok (.invokestatic 116, 3) := by decide +kernel
theorem dL_first_115 : decode cL_first 115 = .ok (.iconst 1, 1) := by decide +kernel
theorem dL_first_116 : decode cL_first 116 = .ok (.isub, 1) := by decide +kernel
theorem dL_first_117 : decode cL_first 117 = .ok (.istore 11, 2) := by decide +kernel
theorem dL_first_119 : decode cL_first 119 = .ok (.iload 11, 2) := by decide +kernel
theorem dL_first_121 : decode cL_first 121 = .ok (.ifCond .ge 19, 3) := by decide +kernel
theorem dL_first_124 : decode cL_first 124 = .ok (.aload_n 0, 1) := by decide +kernel
theorem dL_first_125 : decode cL_first 125 = .ok (.iload 6, 2) := by decide +kernel
theorem dL_first_127 : decode cL_first 127 = .ok (.laload, 1) := by decide +kernel
theorem dL_first_128 : decode cL_first 128 = .ok (.bipush 35, 2) := by decide +kernel
theorem dL_first_130 : decode cL_first 130 = .ok (.ldc 144, 2) := by decide +kernel
theorem dL_first_132 : decode cL_first 132 = .ok (.invokestatic 116, 3) := by decide +kernel
theorem dL_first_135 : decode cL_first 135 = .ok (.iconst 1, 1) := by decide +kernel
theorem dL_first_136 : decode cL_first 136 = .ok (.isub, 1) := by decide +kernel
theorem dL_first_137 : decode cL_first 137 = .ok (.goto 5, 3) := by decide +kernel
theorem dL_first_140 : decode cL_first 140 = .ok (.iload 11, 2) := by decide +kernel
theorem dL_first_142 : decode cL_first 142 = .ok (.istore 12, 2) := by decide +kernel
theorem dL_first_144 : decode cL_first 144 = .ok (.iload 10, 2) := by decide +kernel
theorem dL_first_146 : decode cL_first 146 = .ok (.bipush (-100), 2) := by decide +kernel
theorem dL_first_148 : decode cL_first 148 = .ok (.if_icmp .eq 10, 3) := by decide +kernel
theorem dL_first_151 : decode cL_first 151 = .ok (.iload 10, 2) := by decide +kernel
theorem dL_first_153 : decode cL_first 153 = .ok (.iload 12, 2) := by decide +kernel
theorem dL_first_155 : decode cL_first 155 = .ok (.if_icmp .ne 68, 3) := by decide +kernel
theorem dL_first_158 : decode cL_first 158 = .ok (.aload_n 1, 1) := by decide +kernel
theorem dL_first_159 : decode cL_first 159 = .ok (.iload 5, 2) := by decide +kernel
theorem dL_first_161 : decode cL_first 161 = .ok (.iload 9, 2) := by decide +kernel
theorem dL_first_163 : decode cL_first 163 = .ok (.iconst 2, 1) := by decide +kernel
theorem dL_first_164 : decode cL_first 164 = .ok (.invokestatic 124, 3) := by decide +kernel
theorem dL_first_167 : decode cL_first 167 = .ok (.aload_n 3, 1) := by decide +kernel
theorem dL_first_168 : decode cL_first 168 = .ok (.aload 4, 2) := by decide +kernel
theorem dL_first_170 : decode cL_first 170 = .ok (.bipush 6, 2) := by decide +kernel
theorem dL_first_172 : decode cL_first 172 = .ok (.iaload, 1) := by decide +kernel
theorem dL_first_173 : decode cL_first 173 = .ok (.aload_n 0, 1) := by decide +kernel
theorem dL_first_174 : decode cL_first 174 = .ok (.iload 7, 2) := by decide +kernel
theorem dL_first_176 : decode cL_first 176 = .ok (.laload, 1) := by decide +kernel
theorem dL_first_177 : decode cL_first 177 = .ok (.invokestatic 108, 3) := by decide +kernel
theorem dL_first_180 : decode cL_first 180 = .ok (.invokestatic 112, 3) := by decide +kernel
theorem dL_first_183 : decode cL_first 183 = .ok (.if_icmp .eq 6, 3) := by decide +kernel
theorem dL_first_186 : decode cL_first 186 = .ok (.goto 37, 3) := by decide +kernel
theorem dL_first_189 : decode cL_first 189 = .ok (.iload 8, 2) := by decide +kernel
theorem dL_first_191 : decode cL_first 191 = .ok (.bipush 9, 2) := by decide +kernel
theorem dL_first_193 : decode cL_first 193 = .ok (.if_icmp .ne 27, 3) := by decide +kernel
theorem dL_first_196 : decode cL_first 196 = .ok (.iload 10, 2) := by decide +kernel
theorem dL_first_198 : decode cL_first 198 = .ok (.aload_n 3, 1) := by decide +kernel
theorem dL_first_199 : decode cL_first 199 = .ok (.aload 4, 2) := by decide +kernel
theorem dL_first_201 : decode cL_first 201 = .ok (.bipush 6, 2) := by decide +kernel
theorem dL_first_203 : decode cL_first 203 = .ok (.iaload, 1) := by decide +kernel
theorem dL_first_204 : decode cL_first 204 = .ok (.aload_n 0, 1) := by decide +kernel
theorem dL_first_205 : decode cL_first 205 = .ok (.iload 7, 2) := by decide +kernel
theorem dL_first_207 : decode cL_first 207 = .ok (.laload, 1) := by decide +kernel
theorem dL_first_208 : decode cL_first 208 = .ok (.invokestatic 108, 3) := by decide +kernel
theorem dL_first_211 : decode cL_first 211 = .ok (.invokestatic 112, 3) := by decide +kernel
theorem dL_first_214 : decode cL_first 214 = .ok (.if_icmp .eq 6, 3) := by decide +kernel
theorem dL_first_217 : decode cL_first 217 = .ok (.goto 6, 3) := by decide +kernel
theorem dL_first_220 : decode cL_first 220 = .ok (.iload 9, 2) := by decide +kernel
theorem dL_first_222 : decode cL_first 222 = .ok (.ireturn, 1) := by decide +kernel
theorem dL_first_223 : decode cL_first 223 = .ok (.iinc 9 1, 3) := by decide +kernel
theorem dL_first_226 : decode cL_first 226 = .ok (.goto (-214), 3) := by decide +kernel
theorem dL_first_229 : decode cL_first 229 = .ok (.iconst (-1), 1) := by decide +kernel
theorem dL_first_230 : decode cL_first 230 = .ok (.ireturn, 1) := by decide +kernel
theorem dL_placed_0 : decode cL_placed 0 = .ok (.aload_n 2, 1) := by decide +kernel
theorem dL_placed_1 : decode cL_placed 1 = .ok (.iload 8, 2) := by decide +kernel
theorem dL_placed_3 : decode cL_placed 3 = .ok (.iaload, 1) := by decide +kernel
theorem dL_placed_4 : decode cL_placed 4 = .ok (.bipush 15, 2) := by decide +kernel
theorem dL_placed_6 : decode cL_placed 6 = .ok (.iand, 1) := by decide +kernel
theorem dL_placed_7 : decode cL_placed 7 = .ok (.istore 9, 2) := by decide +kernel
theorem dL_placed_9 : decode cL_placed 9 = .ok (.iconst 0, 1) := by decide +kernel
theorem dL_placed_10 : decode cL_placed 10 = .ok (.istore 10, 2) := by decide +kernel
theorem dL_placed_12 : decode cL_placed 12 = .ok (.iload 10, 2) := by decide +kernel
theorem dL_placed_14 : decode cL_placed 14 = .ok (.aload 4, 2) := by decide +kernel
theorem dL_placed_16 : decode cL_placed 16 = .ok (.iconst 5, 1) := by decide +kernel
theorem dL_placed_17 : decode cL_placed 17 = .ok (.iaload, 1) := by decide +kernel
theorem dL_placed_18 : decode cL_placed 18 = .ok (.if_icmp .ge 446, 3) := by decide +kernel
theorem dL_placed_21 : decode cL_placed 21 = .ok (.aload_n 2, 1) := by decide +kernel
theorem dL_placed_22 : decode cL_placed 22 = .ok (.aload_n 3, 1) := by decide +kernel
theorem dL_placed_23 : decode cL_placed 23 = .ok (.aload 4, 2) := by decide +kernel
theorem dL_placed_25 : decode cL_placed 25 = .ok (.bipush 6, 2) := by decide +kernel
theorem dL_placed_27 : decode cL_placed 27 = .ok (.iaload, 1) := by decide +kernel
theorem dL_placed_28 : decode cL_placed 28 = .ok (.iload 8, 2) := by decide +kernel
theorem dL_placed_30 : decode cL_placed 30 = .ok (.aload_n 0, 1) := by decide +kernel
theorem dL_placed_31 : decode cL_placed 31 = .ok (.iload 10, 2) := by decide +kernel
theorem dL_placed_33 : decode cL_placed 33 = .ok (.laload, 1) := by decide +kernel
theorem dL_placed_34 : decode cL_placed 34 = .ok (.invokestatic 120, 3) := by decide +kernel
theorem dL_placed_37 : decode cL_placed 37 = .ok (.ifCond .eq 6, 3) := by decide +kernel
theorem dL_placed_40 : decode cL_placed 40 = .ok (.goto 418, 3) := by decide +kernel
theorem dL_placed_43 : decode cL_placed 43 = .ok (.aload_n 0, 1) := by decide +kernel
theorem dL_placed_44 : decode cL_placed 44 = .ok (.aload_n 2, 1) := by decide +kernel
theorem dL_placed_45 : decode cL_placed 45 = .ok (.aload_n 3, 1) := by decide +kernel
theorem dL_placed_46 : decode cL_placed 46 = .ok (.aload 4, 2) := by decide +kernel
theorem dL_placed_48 : decode cL_placed 48 = .ok (.iload 8, 2) := by decide +kernel
theorem dL_placed_50 : decode cL_placed 50 = .ok (.iload 10, 2) := by decide +kernel
theorem dL_placed_52 : decode cL_placed 52 = .ok (.iconst 1, 1) := by decide +kernel
theorem dL_placed_53 : decode cL_placed 53 = .ok (.invokestatic 145, 3) := by decide +kernel
theorem dL_placed_56 : decode cL_placed 56 = .ok (.istore 11, 2) := by decide +kernel
theorem dL_placed_58 : decode cL_placed 58 = .ok (.iload 9, 2) := by decide +kernel
theorem dL_placed_60 : decode cL_placed 60 = .ok (.bipush 6, 2) := by decide +kernel
theorem dL_placed_62 : decode cL_placed 62 = .ok (.if_icmp .ne 60, 3) := by decide +kernel
theorem dL_placed_65 : decode cL_placed 65 = .ok (.iload 11, 2) := by decide +kernel
theorem dL_placed_67 : decode cL_placed 67 = .ok (.ifCond .lt 55, 3) := by decide +kernel
theorem dL_placed_70 : decode cL_placed 70 = .ok (.aload_n 2, 1) := by decide +kernel
theorem dL_placed_71 : decode cL_placed 71 = .ok (.iload 8, 2) := by decide +kernel
theorem dL_placed_73 : decode cL_placed 73 = .ok (.aload_n 0, 1) := by decide +kernel
theorem dL_placed_74 : decode cL_placed 74 = .ok (.iload 10, 2) := by decide +kernel
theorem dL_placed_76 : decode cL_placed 76 = .ok (.laload, 1) := by decide +kernel
theorem dL_placed_77 : decode cL_placed 77 = .ok (.invokestatic 165, 3) := by decide +kernel
theorem dL_placed_80 : decode cL_placed 80 = .ok (.ifCond .eq 42, 3) := by decide +kernel
theorem dL_placed_83 : decode cL_placed 83 = .ok (.aload_n 0, 1) := by decide +kernel
theorem dL_placed_84 : decode cL_placed 84 = .ok (.aload_n 1, 1) := by decide +kernel
theorem dL_placed_85 : decode cL_placed 85 = .ok (.aload_n 2, 1) := by decide +kernel
theorem dL_placed_86 : decode cL_placed 86 = .ok (.aload_n 3, 1) := by decide +kernel
theorem dL_placed_87 : decode cL_placed 87 = .ok (.aload 4, 2) := by decide +kernel
theorem dL_placed_89 : decode cL_placed 89 = .ok (.iload 8, 2) := by decide +kernel
theorem dL_placed_91 : decode cL_placed 91 = .ok (.iload 10, 2) := by decide +kernel
theorem dL_placed_93 : decode cL_placed 93 = .ok (.iload 11, 2) := by decide +kernel
theorem dL_placed_95 : decode cL_placed 95 = .ok (.invokestatic 189, 3) := by decide +kernel
theorem dL_placed_98 : decode cL_placed 98 = .ok (.istore 12, 2) := by decide +kernel
theorem dL_placed_100 : decode cL_placed 100 = .ok (.iload 12, 2) := by decide +kernel
theorem dL_placed_102 : decode cL_placed 102 = .ok (.ifCond .lt 20, 3) := by decide +kernel
theorem dL_placed_105 : decode cL_placed 105 = .ok (.aload 5, 2) := by decide +kernel
theorem dL_placed_107 : decode cL_placed 107 = .ok (.iload 10, 2) := by decide +kernel
theorem dL_placed_109 : decode cL_placed 109 = .ok (.dup2, 1) := by decide +kernel
theorem dL_placed_110 : decode cL_placed 110 = .ok (.iaload, 1) := by decide +kernel
theorem dL_placed_111 : decode cL_placed 111 = .ok (.aload_n 1, 1) := by decide +kernel
theorem dL_placed_112 : decode cL_placed 112 = .ok (.iload 8, 2) := by decide +kernel
theorem dL_placed_114 : decode cL_placed 114 = .ok (.iload 12, 2) := by decide +kernel
theorem dL_placed_116 : decode cL_placed 116 = .ok (.iconst 2, 1) := by decide +kernel
theorem dL_placed_117 : decode cL_placed 117 = .ok (.invokestatic 124, 3) := by decide +kernel
theorem dL_placed_120 : decode cL_placed 120 = .ok (.iadd, 1) := by decide +kernel
theorem dL_placed_121 : decode cL_placed 121 = .ok (.iastore, 1) := by decide +kernel
theorem dL_placed_122 : decode cL_placed 122 = .ok (.iload 9, 2) := by decide +kernel
theorem dL_placed_124 : decode cL_placed 124 = .ok (.bipush 7, 2) := by decide +kernel
theorem dL_placed_126 : decode cL_placed 126 = .ok (.if_icmp .ne 136, 3) := by decide +kernel
theorem dL_placed_129 : decode cL_placed 129 = .ok (.iload 11, 2) := by decide +kernel
theorem dL_placed_131 : decode cL_placed 131 = .ok (.ifCond .lt 131, 3) := by decide +kernel
theorem dL_placed_134 : decode cL_placed 134 = .ok (.aload_n 2, 1) := by decide +kernel
theorem dL_placed_135 : decode cL_placed 135 = .ok (.iload 8, 2) := by decide +kernel
theorem dL_placed_137 : decode cL_placed 137 = .ok (.aload_n 0, 1) := by decide +kernel
theorem dL_placed_138 : decode cL_placed 138 = .ok (.iload 10, 2) := by decide +kernel
theorem dL_placed_140 : decode cL_placed 140 = .ok (.laload, 1) := by decide +kernel
theorem dL_placed_141 : decode cL_placed 141 = .ok (.invokestatic 165, 3) := by decide +kernel
theorem dL_placed_144 : decode cL_placed 144 = .ok (.ifCond .eq 118, 3) := by decide +kernel
theorem dL_placed_147 : decode cL_placed 147 = .ok (.aload_n 2, 1) := by decide +kernel
theorem dL_placed_148 : decode cL_placed 148 = .ok (.iload 8, 2) := by decide +kernel
theorem dL_placed_150 : decode cL_placed 150 = .ok (.aload_n 0, 1) := by decide +kernel
theorem dL_placed_151 : decode cL_placed 151 = .ok (.iload 11, 2) := by decide +kernel
theorem dL_placed_153 : decode cL_placed 153 = .ok (.laload, 1) := by decide +kernel
theorem dL_placed_154 : decode cL_placed 154 = .ok (.invokestatic 165, 3) := by decide +kernel
theorem dL_placed_157 : decode cL_placed 157 = .ok (.ifCond .eq 105, 3) := by decide +kernel
theorem dL_placed_160 : decode cL_placed 160 = .ok (.aload_n 0, 1) := by decide +kernel
theorem dL_placed_161 : decode cL_placed 161 = .ok (.aload_n 1, 1) := by decide +kernel
theorem dL_placed_162 : decode cL_placed 162 = .ok (.aload_n 2, 1) := by decide +kernel
theorem dL_placed_163 : decode cL_placed 163 = .ok (.aload_n 3, 1) := by decide +kernel
theorem dL_placed_164 : decode cL_placed 164 = .ok (.aload 4, 2) := by decide +kernel
theorem dL_placed_166 : decode cL_placed 166 = .ok (.iload 8, 2) := by decide +kernel
theorem dL_placed_168 : decode cL_placed 168 = .ok (.iload 10, 2) := by decide +kernel
theorem dL_placed_170 : decode cL_placed 170 = .ok (.iload 10, 2) := by decide +kernel
theorem dL_placed_172 : decode cL_placed 172 = .ok (.invokestatic 189, 3) := by decide +kernel
theorem dL_placed_175 : decode cL_placed 175 = .ok (.istore 12, 2) := by decide +kernel
theorem dL_placed_177 : decode cL_placed 177 = .ok (.aload_n 0, 1) := by decide +kernel
theorem dL_placed_178 : decode cL_placed 178 = .ok (.aload_n 1, 1) := by decide +kernel
theorem dL_placed_179 : decode cL_placed 179 = .ok (.aload_n 2, 1) := by decide +kernel
theorem dL_placed_180 : decode cL_placed 180 = .ok (.aload_n 3, 1) := by decide +kernel
theorem dL_placed_181 : decode cL_placed 181 = .ok (.aload 4, 2) := by decide +kernel
theorem dL_placed_183 : decode cL_placed 183 = .ok (.iload 8, 2) := by decide +kernel
theorem dL_placed_185 : decode cL_placed 185 = .ok (.iload 11, 2) := by decide +kernel
theorem dL_placed_187 : decode cL_placed 187 = .ok (.iload 11, 2) := by decide +kernel
theorem dL_placed_189 : decode cL_placed 189 = .ok (.invokestatic 189, 3) := by decide +kernel
theorem dL_placed_192 : decode cL_placed 192 = .ok (.istore 13, 2) := by decide +kernel
theorem dL_placed_194 : decode cL_placed 194 = .ok (.iload 12, 2) := by decide +kernel
theorem dL_placed_196 : decode cL_placed 196 = .ok (.ifCond .lt 66, 3) := by decide +kernel
theorem dL_placed_199 : decode cL_placed 199 = .ok (.iload 13, 2) := by decide +kernel
theorem dL_placed_201 : decode cL_placed 201 = .ok (.ifCond .lt 61, 3) := by decide +kernel
theorem dL_placed_204 : decode cL_placed 204 = .ok (.aload_n 1, 1) := by decide +kernel
theorem dL_placed_205 : decode cL_placed 205 = .ok (.iload 8, 2) := by decide +kernel
theorem dL_placed_207 : decode cL_placed 207 = .ok (.iload 12, 2) := by decide +kernel
theorem dL_placed_209 : decode cL_placed 209 = .ok (.iconst 2, 1) := by decide +kernel
theorem dL_placed_210 : decode cL_placed 210 = .ok (.invokestatic 124, 3) := by decide +kernel
theorem dL_placed_213 : decode cL_placed 213 = .ok (.bipush (-100), 2) := by decide +kernel
theorem dL_placed_215 : decode cL_placed 215 = .ok (.if_icmp .eq 47, 3) := by decide +kernel
theorem dL_placed_218 : decode cL_placed 218 = .ok (.aload_n 1, 1) := by decide +kernel
theorem dL_placed_219 : decode cL_placed 219 = .ok (.iload 8, 2) := by decide +kernel
theorem dL_placed_221 : decode cL_placed 221 = .ok (.iload 13, 2) := by decide +kernel
theorem dL_placed_223 : decode cL_placed 223 = .ok (.iconst 1, 1) := by decide +kernel
theorem dL_placed_224 : decode cL_placed 224 = .ok (.invokestatic 124, 3) := by decide +kernel
theorem dL_placed_227 : decode cL_placed 227 = .ok (.bipush (-100), 2) := by decide +kernel
theorem dL_placed_229 : decode cL_placed 229 = .ok (.if_icmp .eq 33, 3) := by decide +kernel
theorem dL_placed_232 : decode cL_placed 232 = .ok (.aload 6, 2) := by decide +kernel
theorem dL_placed_234 : decode cL_placed 234 = .ok (.iload 11, 2) := by decide +kernel
theorem dL_placed_236 : decode cL_placed 236 = .ok (.aload 6, 2) := by decide +kernel
theorem dL_placed_238 : decode cL_placed 238 = .ok (.iload 10, 2) := by decide +kernel
theorem dL_placed_240 : decode cL_placed 240 = .ok (.iaload, 1) := by decide +kernel
theorem dL_placed_241 : decode cL_placed 241 = .ok (.aload_n 1, 1) := by decide +kernel
theorem dL_placed_242 : decode cL_placed 242 = .ok (.iload 8, 2) := by decide +kernel
theorem dL_placed_244 : decode cL_placed 244 = .ok (.iload 12, 2) := by decide +kernel
theorem dL_placed_246 : decode cL_placed 246 = .ok (.iconst 2, 1) := by decide +kernel
theorem dL_placed_247 : decode cL_placed 247 = .ok (.invokestatic 124, 3) := by decide +kernel
theorem dL_placed_250 : decode cL_placed 250 = .ok (.iadd, 1) := by decide +kernel
theorem dL_placed_251 : decode cL_placed 251 = .ok (.aload_n 1, 1) := by decide +kernel
theorem dL_placed_252 : decode cL_placed 252 = .ok (.iload 8, 2) := by decide +kernel
theorem dL_placed_254 : decode cL_placed 254 = .ok (.iload 13, 2) := by decide +kernel
theorem dL_placed_256 : decode cL_placed 256 = .ok (.iconst 1, 1) := by decide +kernel
theorem dL_placed_257 : decode cL_placed 257 = .ok (.invokestatic 124, 3) := by decide +kernel
theorem dL_placed_260 : decode cL_placed 260 = .ok (.isub, 1) := by decide +kernel
theorem dL_placed_261 : decode cL_placed 261 = .ok (.iastore, 1) := by decide +kernel
theorem dL_placed_262 : decode cL_placed 262 = .ok (.iload 9, 2) := by decide +kernel
theorem dL_placed_264 : decode cL_placed 264 = .ok (.bipush 8, 2) := by decide +kernel
theorem dL_placed_266 : decode cL_placed 266 = .ok (.if_icmp .lt 192, 3) := by decide +kernel
theorem dL_placed_269 : decode cL_placed 269 = .ok (.aload_n 3, 1) := by decide +kernel
theorem dL_placed_270 : decode cL_placed 270 = .ok (.aload 4, 2) := by decide +kernel
theorem dL_placed_272 : decode cL_placed 272 = .ok (.bipush 6, 2) := by decide +kernel
theorem dL_placed_274 : decode cL_placed 274 = .ok (.iaload, 1) := by decide +kernel
theorem dL_placed_275 : decode cL_placed 275 = .ok (.aload_n 0, 1) := by decide +kernel
theorem dL_placed_276 : decode cL_placed 276 = .ok (.iload 10, 2) := by decide +kernel
theorem dL_placed_278 : decode cL_placed 278 = .ok (.laload, 1) := by decide +kernel
theorem dL_placed_279 : decode cL_placed 279 = .ok (.invokestatic 108, 3) := by decide +kernel
theorem dL_placed_282 : decode cL_placed 282 = .ok (.invokestatic 112, 3) := by decide +kernel
theorem dL_placed_285 : decode cL_placed 285 = .ok (.ifCond .lt 173, 3) := by decide +kernel
theorem dL_placed_288 : decode cL_placed 288 = .ok (.aload_n 2, 1) := by decide +kernel
theorem dL_placed_289 : decode cL_placed 289 = .ok (.iload 8, 2) := by decide +kernel
theorem dL_placed_291 : decode cL_placed 291 = .ok (.aload_n 0, 1) := by decide +kernel
theorem dL_placed_292 : decode cL_placed 292 = .ok (.iload 10, 2) := by decide +kernel
theorem dL_placed_294 : decode cL_placed 294 = .ok (.laload, 1) := by decide +kernel
theorem dL_placed_295 : decode cL_placed 295 = .ok (.invokestatic 165, 3) := by decide +kernel
theorem dL_placed_298 : decode cL_placed 298 = .ok (.ifCond .ne 6, 3) := by decide +kernel
theorem dL_placed_301 : decode cL_placed 301 = .ok (.goto 157, 3) := by decide +kernel
theorem dL_placed_304 : decode cL_placed 304 = .ok (.iload 9, 2) := by decide +kernel
theorem dL_placed_306 : decode cL_placed 306 = .ok (.bipush 8, 2) := by decide +kernel
theorem dL_placed_308 : decode cL_placed 308 = .ok (.if_icmp .ne 15, 3) := by decide +kernel
theorem dL_placed_311 : decode cL_placed 311 = .ok (.aload_n 0, 1) := by decide +kernel
theorem dL_placed_312 : decode cL_placed 312 = .ok (.aload_n 3, 1) := by decide +kernel
theorem dL_placed_313 : decode cL_placed 313 = .ok (.aload 4, 2) := by decide +kernel
theorem dL_placed_315 : decode cL_placed 315 = .ok (.iload 10, 2) := by decide +kernel
theorem dL_placed_317 : decode cL_placed 317 = .ok (.invokestatic 193, 3) := by decide +kernel
theorem dL_placed_320 : decode cL_placed 320 = .ok (.goto 16, 3) := by decide +kernel
theorem dL_placed_323 : decode cL_placed 323 = .ok (.aload_n 0, 1) := by decide +kernel
theorem dL_placed_324 : decode cL_placed 324 = .ok (.aload_n 2, 1) := by decide +kernel
theorem dL_placed_325 : decode cL_placed 325 = .ok (.aload_n 3, 1) := by decide +kernel
theorem dL_placed_326 : decode cL_placed 326 = .ok (.aload 4, 2) := by decide +kernel
theorem dL_placed_328 : decode cL_placed 328 = .ok (.iload 8, 2) := by decide +kernel
theorem dL_placed_330 : decode cL_placed 330 = .ok (.iload 10, 2) := by decide +kernel
theorem dL_placed_332 : decode cL_placed 332 = .ok (.iconst (-1), 1) := by decide +kernel
theorem dL_placed_333 : decode cL_placed 333 = .ok (.invokestatic 145, 3) := by decide +kernel
theorem dL_placed_336 : decode cL_placed 336 = .ok (.istore 12, 2) := by decide +kernel
theorem dL_placed_338 : decode cL_placed 338 = .ok (.iload 12, 2) := by decide +kernel
theorem dL_placed_340 : decode cL_placed 340 = .ok (.ifCond .lt 118, 3) := by decide +kernel
theorem dL_placed_343 : decode cL_placed 343 = .ok (.iload 9, 2) := by decide +kernel
theorem dL_placed_345 : decode cL_placed 345 = .ok (.bipush 9, 2) := by decide +kernel
theorem dL_placed_347 : decode cL_placed 347 = .ok (.if_icmp .ne 25, 3) := by decide +kernel
theorem dL_placed_350 : decode cL_placed 350 = .ok (.aload_n 3, 1) := by decide +kernel
theorem dL_placed_351 : decode cL_placed 351 = .ok (.aload 4, 2) := by decide +kernel
theorem dL_placed_353 : decode cL_placed 353 = .ok (.bipush 6, 2) := by decide +kernel
theorem dL_placed_355 : decode cL_placed 355 = .ok (.iaload, 1) := by decide +kernel
theorem dL_placed_356 : decode cL_placed 356 = .ok (.aload_n 0, 1) := by decide +kernel
theorem dL_placed_357 : decode cL_placed 357 = .ok (.iload 12, 2) := by decide +kernel
theorem dL_placed_359 : decode cL_placed 359 = .ok (.laload, 1) := by decide +kernel
theorem dL_placed_360 : decode cL_placed 360 = .ok (.invokestatic 108, 3) := by decide +kernel
theorem dL_placed_363 : decode cL_placed 363 = .ok (.invokestatic 112, 3) := by decide +kernel
theorem dL_placed_366 : decode cL_placed 366 = .ok (.ifCond .ge 6, 3) := by decide +kernel
theorem dL_placed_369 : decode cL_placed 369 = .ok (.goto 89, 3) := by decide +kernel
theorem dL_placed_372 : decode cL_placed 372 = .ok (.aload_n 0, 1) := by decide +kernel
theorem dL_placed_373 : decode cL_placed 373 = .ok (.aload_n 1, 1) := by decide +kernel
theorem dL_placed_374 : decode cL_placed 374 = .ok (.aload_n 2, 1) := by decide +kernel
theorem dL_placed_375 : decode cL_placed 375 = .ok (.aload_n 3, 1) := by decide +kernel
theorem dL_placed_376 : decode cL_placed 376 = .ok (.aload 4, 2) := by decide +kernel
theorem dL_placed_378 : decode cL_placed 378 = .ok (.iload 8, 2) := by decide +kernel
theorem dL_placed_380 : decode cL_placed 380 = .ok (.iload 12, 2) := by decide +kernel
theorem dL_placed_382 : decode cL_placed 382 = .ok (.iload 10, 2) := by decide +kernel
theorem dL_placed_384 : decode cL_placed 384 = .ok (.invokestatic 189, 3) := by decide +kernel
theorem dL_placed_387 : decode cL_placed 387 = .ok (.istore 13, 2) := by decide +kernel
theorem dL_placed_389 : decode cL_placed 389 = .ok (.iload 13, 2) := by decide +kernel
theorem dL_placed_391 : decode cL_placed 391 = .ok (.ifCond .lt 67, 3) := by decide +kernel
theorem dL_placed_394 : decode cL_placed 394 = .ok (.aload 7, 2) := by decide +kernel
theorem dL_placed_396 : decode cL_placed 396 = .ok (.iload 10, 2) := by decide +kernel
theorem dL_placed_398 : decode cL_placed 398 = .ok (.ldc 197, 2) := by decide +kernel
theorem dL_placed_400 : decode cL_placed 400 = .ok (.iload 12, 2) := by decide +kernel
theorem dL_placed_402 : decode cL_placed 402 = .ok (.iconst 1, 1) := by decide +kernel
theorem dL_placed_403 : decode cL_placed 403 = .ok (.iadd, 1) := by decide +kernel
theorem dL_placed_404 : decode cL_placed 404 = .ok (.imul, 1) := by decide +kernel
theorem dL_placed_405 : decode cL_placed 405 = .ok (.sipush 300, 3) := by decide +kernel
theorem dL_placed_408 : decode cL_placed 408 = .ok (.aload_n 1, 1) := by decide +kernel
theorem dL_placed_409 : decode cL_placed 409 = .ok (.iload 8, 2) := by decide +kernel
theorem dL_placed_411 : decode cL_placed 411 = .ok (.iload 13, 2) := by decide +kernel
theorem dL_placed_413 : decode cL_placed 413 = .ok (.iload 9, 2) := by decide +kernel
theorem dL_placed_415 : decode cL_placed 415 = .ok (.bipush 8, 2) := by decide +kernel
theorem dL_placed_417 : decode cL_placed 417 = .ok (.if_icmp .ne 7, 3) := by decide +kernel
theorem dL_placed_420 : decode cL_placed 420 = .ok (.iconst 3, 1) := by decide +kernel
theorem dL_placed_421 : decode cL_placed 421 = .ok (.goto 4, 3) := by decide +kernel
theorem dL_placed_424 : decode cL_placed 424 = .ok (.iconst 2, 1) := by decide +kernel
theorem dL_placed_425 : decode cL_placed 425 = .ok (.invokestatic 124, 3) := by decide +kernel
theorem dL_placed_428 : decode cL_placed 428 = .ok (.bipush 100, 2) := by decide +kernel
theorem dL_placed_430 : decode cL_placed 430 = .ok (.iadd, 1) := by decide +kernel
theorem dL_placed_431 : decode cL_placed 431 = .ok (.imul, 1) := by decide +kernel
theorem dL_placed_432 : decode cL_placed 432 = .ok (.iadd, 1) := by decide +kernel
theorem dL_placed_433 : decode cL_placed 433 = .ok (.aload_n 1, 1) := by decide +kernel
theorem dL_placed_434 : decode cL_placed 434 = .ok (.iload 8, 2) := by decide +kernel
theorem dL_placed_436 : decode cL_placed 436 = .ok (.iload 13, 2) := by decide +kernel
theorem dL_placed_438 : decode cL_placed 438 = .ok (.iload 9, 2) := by decide +kernel
theorem dL_placed_440 : decode cL_placed 440 = .ok (.bipush 8, 2) := by decide +kernel
theorem dL_placed_442 : decode cL_placed 442 = .ok (.if_icmp .ne 7, 3) := by decide +kernel
theorem dL_placed_445 : decode cL_placed 445 = .ok (.iconst 4, 1) := by decide +kernel
theorem dL_placed_446 : decode cL_placed 446 = .ok (.goto 4, 3) := by decide +kernel
theorem dL_placed_449 : decode cL_placed 449 = .ok (.iconst 3, 1) := by decide +kernel
theorem dL_placed_450 : decode cL_placed 450 = .ok (.invokestatic 124, 3) := by decide +kernel
theorem dL_placed_453 : decode cL_placed 453 = .ok (.iadd, 1) := by decide +kernel
theorem dL_placed_454 : decode cL_placed 454 = .ok (.bipush 100, 2) := by decide +kernel
theorem dL_placed_456 : decode cL_placed 456 = .ok (.iadd, 1) := by decide +kernel
theorem dL_placed_457 : decode cL_placed 457 = .ok (.iastore, 1) := by decide +kernel
theorem dL_placed_458 : decode cL_placed 458 = .ok (.iinc 10 1, 3) := by decide +kernel
theorem dL_placed_461 : decode cL_placed 461 = .ok (.goto (-449), 3) := by decide +kernel
theorem dL_placed_464 : decode cL_placed 464 = .ok (.return_, 1) := by decide +kernel
theorem dL_runs_0 : decode cL_runs 0 = .ok (.bipush 64, 2) := by decide +kernel
theorem dL_runs_2 : decode cL_runs 2 = .ok (.newarray .long, 2) := by decide +kernel
theorem dL_runs_4 : decode cL_runs 4 = .ok (.astore 16, 2) := by decide +kernel
theorem dL_runs_6 : decode cL_runs 6 = .ok (.bipush 64, 2) := by decide +kernel
theorem dL_runs_8 : decode cL_runs 8 = .ok (.newarray .int, 2) := by decide +kernel
theorem dL_runs_10 : decode cL_runs 10 = .ok (.astore 17, 2) := by decide +kernel
theorem dL_runs_12 : decode cL_runs 12 = .ok (.bipush 64, 2) := by decide +kernel
theorem dL_runs_14 : decode cL_runs 14 = .ok (.newarray .int, 2) := by decide +kernel
theorem dL_runs_16 : decode cL_runs 16 = .ok (.astore 18, 2) := by decide +kernel
theorem dL_runs_18 : decode cL_runs 18 = .ok (.bipush 64, 2) := by decide +kernel
theorem dL_runs_20 : decode cL_runs 20 = .ok (.newarray .int, 2) := by decide +kernel
theorem dL_runs_22 : decode cL_runs 22 = .ok (.astore 19, 2) := by decide +kernel
theorem dL_runs_24 : decode cL_runs 24 = .ok (.aload 4, 2) := by decide +kernel
theorem dL_runs_26 : decode cL_runs 26 = .ok (.iconst 5, 1) := by decide +kernel
theorem dL_runs_27 : decode cL_runs 27 = .ok (.iconst 0, 1) := by decide +kernel
theorem dL_runs_28 : decode cL_runs 28 = .ok (.iastore, 1) := by decide +kernel
theorem dL_runs_29 : decode cL_runs 29 = .ok (.aload 4, 2) := by decide +kernel
theorem dL_runs_31 : decode cL_runs 31 = .ok (.bipush 6, 2) := by decide +kernel
theorem dL_runs_33 : decode cL_runs 33 = .ok (.lload 5, 2) := by decide +kernel
theorem dL_runs_35 : decode cL_runs 35 = .ok (.aload_n 0, 1) := by decide +kernel
theorem dL_runs_36 : decode cL_runs 36 = .ok (.iload 7, 2) := by decide +kernel
theorem dL_runs_38 : decode cL_runs 38 = .ok (.iaload, 1) := by decide +kernel
theorem dL_runs_39 : decode cL_runs 39 = .ok (.bipush 63, 2) := by decide +kernel
theorem dL_runs_41 : decode cL_runs 41 = .ok (.iand, 1) := by decide +kernel
theorem dL_runs_42 : decode cL_runs 42 = .ok (.lshr, 1) := by decide +kernel
theorem dL_runs_43 : decode cL_runs 43 = .ok (.lconst 1, 1) := by decide +kernel
theorem dL_runs_44 : decode cL_runs 44 = .ok (.land, 1) := by decide +kernel
theorem dL_runs_45 : decode cL_runs 45 = .ok (.l2i, 1) := by decide +kernel
theorem dL_runs_46 : decode cL_runs 46 = .ok (.iastore, 1) := by decide +kernel
theorem dL_runs_47 : decode cL_runs 47 = .ok (.aload 4, 2) := by decide +kernel
theorem dL_runs_49 : decode cL_runs 49 = .ok (.bipush 7, 2) := by decide +kernel
theorem dL_runs_51 : decode cL_runs 51 = .ok (.iconst (-1), 1) := by decide +kernel
theorem dL_runs_52 : decode cL_runs 52 = .ok (.iastore, 1) := by decide +kernel
theorem dL_runs_53 : decode cL_runs 53 = .ok (.iconst (-1), 1) := by decide +kernel
theorem dL_runs_54 : decode cL_runs 54 = .ok (.istore 20, 2) := by decide +kernel
theorem dL_runs_56 : decode cL_runs 56 = .ok (.iload 7, 2) := by decide +kernel
theorem dL_runs_58 : decode cL_runs 58 = .ok (.istore 21, 2) := by decide +kernel
theorem dL_runs_60 : decode cL_runs 60 = .ok (.iload 21, 2) := by decide +kernel
theorem dL_runs_62 : decode cL_runs 62 = .ok (.iload 8, 2) := by decide +kernel
theorem dL_runs_64 : decode cL_runs 64 = .ok (.if_icmp .ge 81, 3) := by decide +kernel
theorem dL_runs_67 : decode cL_runs 67 = .ok (.iload 10, 2) := by decide +kernel
theorem dL_runs_69 : decode cL_runs 69 = .ok (.ifCond .eq 76, 3) := by decide +kernel
theorem dL_runs_72 : decode cL_runs 72 = .ok (.aload_n 0, 1) := by decide +kernel
theorem dL_runs_73 : decode cL_runs 73 = .ok (.iload 21, 2) := by decide +kernel
theorem dL_runs_75 : decode cL_runs 75 = .ok (.iaload, 1) := by decide +kernel
theorem dL_runs_76 : decode cL_runs 76 = .ok (.bipush 63, 2) := by decide +kernel
theorem dL_runs_78 : decode cL_runs 78 = .ok (.iand, 1) := by decide +kernel
theorem dL_runs_79 : decode cL_runs 79 = .ok (.invokestatic 172, 3) := by decide +kernel
theorem dL_runs_82 : decode cL_runs 82 = .ok (.ifCond .ne 7, 3) := by decide +kernel
theorem dL_runs_85 : decode cL_runs 85 = .ok (.iload 21, 2) := by decide +kernel
theorem dL_runs_87 : decode cL_runs 87 = .ok (.istore 20, 2) := by decide +kernel
theorem dL_runs_89 : decode cL_runs 89 = .ok (.aload 16, 2) := by decide +kernel
theorem dL_runs_91 : decode cL_runs 91 = .ok (.aload 4, 2) := by decide +kernel
theorem dL_runs_93 : decode cL_runs 93 = .ok (.aload 4, 2) := by decide +kernel
theorem dL_runs_95 : decode cL_runs 95 = .ok (.iconst 5, 1) := by decide +kernel
theorem dL_runs_96 : decode cL_runs 96 = .ok (.iaload, 1) := by decide +kernel
theorem dL_runs_97 : decode cL_runs 97 = .ok (.aload_n 0, 1) := by decide +kernel
theorem dL_runs_98 : decode cL_runs 98 = .ok (.iload 21, 2) := by decide +kernel
theorem dL_runs_100 : decode cL_runs 100 = .ok (.iaload, 1) := by decide +kernel
theorem dL_runs_101 : decode cL_runs 101 = .ok (.bipush 63, 2) := by decide +kernel
theorem dL_runs_103 : decode cL_runs 103 = .ok (.iand, 1) := by decide +kernel
theorem dL_runs_104 : decode cL_runs 104 = .ok (.iload 20, 2) := by decide +kernel
theorem dL_runs_106 : decode cL_runs 106 = .ok (.ifCond .ge 8, 3) := by decide +kernel
theorem dL_runs_109 : decode cL_runs 109 = .ok (.iload 21, 2) := by decide +kernel
theorem dL_runs_111 : decode cL_runs 111 = .ok (.goto 5, 3) := by decide +kernel
theorem dL_runs_114 : decode cL_runs 114 = .ok (.iload 20, 2) := by decide +kernel
theorem dL_runs_116 : decode cL_runs 116 = .ok (.aload_n 0, 1) := by decide +kernel
theorem dL_runs_117 : decode cL_runs 117 = .ok (.iload 7, 2) := by decide +kernel
theorem dL_runs_119 : decode cL_runs 119 = .ok (.iload 8, 2) := by decide +kernel
theorem dL_runs_121 : decode cL_runs 121 = .ok (.iload 21, 2) := by decide +kernel
theorem dL_runs_123 : decode cL_runs 123 = .ok (.invokestatic 198, 3) := by decide +kernel
theorem dL_runs_126 : decode cL_runs 126 = .ok (.aload_n 0, 1) := by decide +kernel
theorem dL_runs_127 : decode cL_runs 127 = .ok (.iload 21, 2) := by decide +kernel
theorem dL_runs_129 : decode cL_runs 129 = .ok (.iaload, 1) := by decide +kernel
theorem dL_runs_130 : decode cL_runs 130 = .ok (.bipush 6, 2) := by decide +kernel
theorem dL_runs_132 : decode cL_runs 132 = .ok (.ishr, 1) := by decide +kernel
theorem dL_runs_133 : decode cL_runs 133 = .ok (.invokestatic 185, 3) := by decide +kernel
theorem dL_runs_136 : decode cL_runs 136 = .ok (.invokestatic 136, 3) := by decide +kernel
theorem dL_runs_139 : decode cL_runs 139 = .ok (.iinc 21 1, 3) := by decide +kernel
theorem dL_runs_142 : decode cL_runs 142 = .ok (.goto (-82), 3) := by decide +kernel
theorem dL_runs_145 : decode cL_runs 145 = .ok (.iload 10, 2) := by decide +kernel
theorem dL_runs_147 : decode cL_runs 147 = .ok (.ifCond .ne 15, 3) := by decide +kernel
theorem dL_runs_150 : decode cL_runs 150 = .ok (.aload 16, 2) := by decide +kernel
theorem dL_runs_152 : decode cL_runs 152 = .ok (.aload_n 0, 1) := by decide +kernel
theorem dL_runs_153 : decode cL_runs 153 = .ok (.aload 4, 2) := by decide +kernel
theorem dL_runs_155 : decode cL_runs 155 = .ok (.iload 7, 2) := by decide +kernel
theorem dL_runs_157 : decode cL_runs 157 = .ok (.iload 8, 2) := by decide +kernel
theorem dL_runs_159 : decode cL_runs 159 = .ok (.invokestatic 201, 3) := by decide +kernel
theorem dL_runs_162 : decode cL_runs 162 = .ok (.aload 16, 2) := by decide +kernel
theorem dL_runs_164 : decode cL_runs 164 = .ok (.aload_n 1, 1) := by decide +kernel
theorem dL_runs_165 : decode cL_runs 165 = .ok (.aload_n 2, 1) := by decide +kernel
theorem dL_runs_166 : decode cL_runs 166 = .ok (.aload_n 3, 1) := by decide +kernel
theorem dL_runs_167 : decode cL_runs 167 = .ok (.aload 4, 2) := by decide +kernel
theorem dL_runs_169 : decode cL_runs 169 = .ok (.iconst 0, 1) := by decide +kernel
theorem dL_runs_170 : decode cL_runs 170 = .ok (.invokestatic 205, 3) := by decide +kernel
theorem dL_runs_173 : decode cL_runs 173 = .ok (.iload 10, 2) := by decide +kernel
theorem dL_runs_175 : decode cL_runs 175 = .ok (.ifCond .ne 10, 3) := by decide +kernel
theorem dL_runs_178 : decode cL_runs 178 = .ok (.aload 16, 2) := by decide +kernel
theorem dL_runs_180 : decode cL_runs 180 = .ok (.aload 4, 2) := by decide +kernel
theorem dL_runs_182 : decode cL_runs 182 = .ok (.invokestatic 209, 3) := by decide +kernel
theorem dL_runs_185 : decode cL_runs 185 = .ok (.aload 16, 2) := by decide +kernel
theorem dL_runs_187 : decode cL_runs 187 = .ok (.aload_n 1, 1) := by decide +kernel
theorem dL_runs_188 : decode cL_runs 188 = .ok (.aload_n 2, 1) := by decide +kernel
theorem dL_runs_189 : decode cL_runs 189 = .ok (.aload_n 3, 1) := by decide +kernel
theorem dL_runs_190 : decode cL_runs 190 = .ok (.aload 4, 2) := by decide +kernel
theorem dL_runs_192 : decode cL_runs 192 = .ok (.iconst 1, 1) := by decide +kernel
theorem dL_runs_193 : decode cL_runs 193 = .ok (.invokestatic 205, 3) := by decide +kernel
theorem dL_runs_196 : decode cL_runs 196 = .ok (.aload 4, 2) := by decide +kernel
theorem dL_runs_198 : decode cL_runs 198 = .ok (.iconst 5, 1) := by decide +kernel
theorem dL_runs_199 : decode cL_runs 199 = .ok (.iaload, 1) := by decide +kernel
theorem dL_runs_200 : decode cL_runs 200 = .ok (.iconst 1, 1) := by decide +kernel
theorem dL_runs_201 : decode cL_runs 201 = .ok (.isub, 1) := by decide +kernel
theorem dL_runs_202 : decode cL_runs 202 = .ok (.istore 21, 2) := by decide +kernel
theorem dL_runs_204 : decode cL_runs 204 = .ok (.iload 21, 2) := by decide +kernel
theorem dL_runs_206 : decode cL_runs 206 = .ok (.ifCond .lt 43, 3) := by decide +kernel
theorem dL_runs_209 : decode cL_runs 209 = .ok (.aload 16, 2) := by decide +kernel
theorem dL_runs_211 : decode cL_runs 211 = .ok (.iload 21, 2) := by decide +kernel
theorem dL_runs_213 : decode cL_runs 213 = .ok (.laload, 1) := by decide +kernel
theorem dL_runs_214 : decode cL_runs 214 = .ok (.invokestatic 108, 3) := by decide +kernel
theorem dL_runs_217 : decode cL_runs 217 = .ok (.iconst 2, 1) := by decide +kernel
theorem dL_runs_218 : decode cL_runs 218 = .ok (.if_icmp .eq 15, 3) := by decide +kernel
theorem dL_runs_221 : decode cL_runs 221 = .ok (.aload 16, 2) := by decide +kernel
theorem dL_runs_223 : decode cL_runs 223 = .ok (.iload 21, 2) := by decide +kernel
theorem dL_runs_225 : decode cL_runs 225 = .ok (.laload, 1) := by decide +kernel
theorem dL_runs_226 : decode cL_runs 226 = .ok (.invokestatic 108, 3) := by decide +kernel
theorem dL_runs_229 : decode cL_runs 229 = .ok (.iconst 3, 1) := by decide +kernel
theorem dL_runs_230 : decode cL_runs 230 = .ok (.if_icmp .ne 13, 3) := by decide +kernel
theorem dL_runs_233 : decode cL_runs 233 = .ok (.aload 16, 2) := by decide +kernel
theorem dL_runs_235 : decode cL_runs 235 = .ok (.aload 4, 2) := by decide +kernel
theorem dL_runs_237 : decode cL_runs 237 = .ok (.iload 21, 2) := by decide +kernel
theorem dL_runs_239 : decode cL_runs 239 = .ok (.invokestatic 153, 3) := by decide +kernel
theorem dL_runs_242 : decode cL_runs 242 = .ok (.pop2, 1) := by decide +kernel
theorem dL_runs_243 : decode cL_runs 243 = .ok (.iinc 21 (-1), 3) := by decide +kernel
theorem dL_runs_246 : decode cL_runs 246 = .ok (.goto (-42), 3) := by decide +kernel
theorem dL_runs_249 : decode cL_runs 249 = .ok (.iconst 0, 1) := by decide +kernel
theorem dL_runs_250 : decode cL_runs 250 = .ok (.istore 21, 2) := by decide +kernel
theorem dL_runs_252 : decode cL_runs 252 = .ok (.iload 21, 2) := by decide +kernel
theorem dL_runs_254 : decode cL_runs 254 = .ok (.aload 4, 2) := by decide +kernel
theorem dL_runs_256 : decode cL_runs 256 = .ok (.iconst 5, 1) := by decide +kernel
theorem dL_runs_257 : decode cL_runs 257 = .ok (.iaload, 1) := by decide +kernel
theorem dL_runs_258 : decode cL_runs 258 = .ok (.if_icmp .ge 42, 3) := by decide +kernel
theorem dL_runs_261 : decode cL_runs 261 = .ok (.aload 17, 2) := by decide +kernel
theorem dL_runs_263 : decode cL_runs 263 = .ok (.iload 21, 2) := by decide +kernel
theorem dL_runs_265 : decode cL_runs 265 = .ok (.aload_n 3, 1) := by decide +kernel
theorem dL_runs_266 : decode cL_runs 266 = .ok (.aload 16, 2) := by decide +kernel
theorem dL_runs_268 : decode cL_runs 268 = .ok (.iload 21, 2) := by decide +kernel
theorem dL_runs_270 : decode cL_runs 270 = .ok (.laload, 1) := by decide +kernel
theorem dL_runs_271 : decode cL_runs 271 = .ok (.invokestatic 108, 3) := by decide +kernel
theorem dL_runs_274 : decode cL_runs 274 = .ok (.invokestatic 91, 3) := by decide +kernel
theorem dL_runs_277 : decode cL_runs 277 = .ok (.iaload, 1) := by decide +kernel
theorem dL_runs_278 : decode cL_runs 278 = .ok (.bipush 13, 2) := by decide +kernel
theorem dL_runs_280 : decode cL_runs 280 = .ok (.aload 4, 2) := by decide +kernel
theorem dL_runs_282 : decode cL_runs 282 = .ok (.bipush 6, 2) := by decide +kernel
theorem dL_runs_284 : decode cL_runs 284 = .ok (.iaload, 1) := by decide +kernel
theorem dL_runs_285 : decode cL_runs 285 = .ok (.imul, 1) := by decide +kernel
theorem dL_runs_286 : decode cL_runs 286 = .ok (.bipush 6, 2) := by decide +kernel
theorem dL_runs_288 : decode cL_runs 288 = .ok (.iadd, 1) := by decide +kernel
theorem dL_runs_289 : decode cL_runs 289 = .ok (.ishr, 1) := by decide +kernel
theorem dL_runs_290 : decode cL_runs 290 = .ok (.bipush 127, 2) := by decide +kernel
theorem dL_runs_292 : decode cL_runs 292 = .ok (.iand, 1) := by decide +kernel
theorem dL_runs_293 : decode cL_runs 293 = .ok (.iastore, 1) := by decide +kernel
theorem dL_runs_294 : decode cL_runs 294 = .ok (.iinc 21 1, 3) := by decide +kernel
theorem dL_runs_297 : decode cL_runs 297 = .ok (.goto (-45), 3) := by decide +kernel
theorem dL_runs_300 : decode cL_runs 300 = .ok (.bipush 8, 2) := by decide +kernel
theorem dL_runs_302 : decode cL_runs 302 = .ok (.aload 4, 2) := by decide +kernel
theorem dL_runs_304 : decode cL_runs 304 = .ok (.bipush 6, 2) := by decide +kernel
theorem dL_runs_306 : decode cL_runs 306 = .ok (.iaload, 1) := by decide +kernel
theorem dL_runs_307 : decode cL_runs 307 = .ok (.imul, 1) := by decide +kernel
theorem dL_runs_308 : decode cL_runs 308 = .ok (.istore 21, 2) := by decide +kernel
theorem dL_runs_310 : decode cL_runs 310 = .ok (.iload 21, 2) := by decide +kernel
theorem dL_runs_312 : decode cL_runs 312 = .ok (.bipush 8, 2) := by decide +kernel
theorem dL_runs_314 : decode cL_runs 314 = .ok (.aload 4, 2) := by decide +kernel
theorem dL_runs_316 : decode cL_runs 316 = .ok (.bipush 6, 2) := by decide +kernel
theorem dL_runs_318 : decode cL_runs 318 = .ok (.iaload, 1) := by decide +kernel
theorem dL_runs_319 : decode cL_runs 319 = .ok (.imul, 1) := by decide +kernel
theorem dL_runs_320 : decode cL_runs 320 = .ok (.aload 4, 2) := by decide +kernel
theorem dL_runs_322 : decode cL_runs 322 = .ok (.iconst 3, 1) := by decide +kernel
theorem dL_runs_323 : decode cL_runs 323 = .ok (.aload 4, 2) := by decide +kernel
theorem dL_runs_325 : decode cL_runs 325 = .ok (.bipush 6, 2) := by decide +kernel
theorem dL_runs_327 : decode cL_runs 327 = .ok (.iaload, 1) := by decide +kernel
theorem dL_runs_328 : decode cL_runs 328 = .ok (.iadd, 1) := by decide +kernel
theorem dL_runs_329 : decode cL_runs 329 = .ok (.iaload, 1) := by decide +kernel
theorem dL_runs_330 : decode cL_runs 330 = .ok (.iadd, 1) := by decide +kernel
theorem dL_runs_331 : decode cL_runs 331 = .ok (.if_icmp .ge 63, 3) := by decide +kernel
theorem dL_runs_334 : decode cL_runs 334 = .ok (.aload_n 1, 1) := by decide +kernel
theorem dL_runs_335 : decode cL_runs 335 = .ok (.iload 21, 2) := by decide +kernel
theorem dL_runs_337 : decode cL_runs 337 = .ok (.iaload, 1) := by decide +kernel
theorem dL_runs_338 : decode cL_runs 338 = .ok (.bipush 8, 2) := by decide +kernel
theorem dL_runs_340 : decode cL_runs 340 = .ok (.ishr, 1) := by decide +kernel
theorem dL_runs_341 : decode cL_runs 341 = .ok (.iconst 3, 1) := by decide +kernel
theorem dL_runs_342 : decode cL_runs 342 = .ok (.iand, 1) := by decide +kernel
theorem dL_runs_343 : decode cL_runs 343 = .ok (.istore 22, 2) := by decide +kernel
theorem dL_runs_345 : decode cL_runs 345 = .ok (.aload_n 1, 1) := by decide +kernel
theorem dL_runs_346 : decode cL_runs 346 = .ok (.iload 21, 2) := by decide +kernel
theorem dL_runs_348 : decode cL_runs 348 = .ok (.iaload, 1) := by decide +kernel
theorem dL_runs_349 : decode cL_runs 349 = .ok (.bipush 15, 2) := by decide +kernel
