theorem dX11_isSafe_44 : decode cX11_isSafe 44 = .ok (.iload_n 1, 1) := by decide +kernel
theorem dX11_isSafe_45 : decode cX11_isSafe 45 = .ok (.iconst 1, 1) := by decide +kernel
theorem dX11_isSafe_46 : decode cX11_isSafe 46 = .ok (.invokevirtual 223, 3) := by decide +kernel
theorem dX11_isSafe_49 : decode cX11_isSafe 49 = .ok (.aload_n 0, 1) := by decide +kernel
theorem dX11_isSafe_50 : decode cX11_isSafe 50 = .ok (.aload_n 0, 1) := by decide +kernel
theorem dX11_isSafe_51 : decode cX11_isSafe 51 = .ok (.getfield 66, 3) := by decide +kernel
theorem dX11_isSafe_54 : decode cX11_isSafe 54 = .ok (.iload_n 1, 1) := by decide +kernel
theorem dX11_isSafe_55 : decode cX11_isSafe 55 = .ok (.aload_n 0, 1) := by decide +kernel
theorem dX11_isSafe_56 : decode cX11_isSafe 56 = .ok (.getfield 18, 3) := by decide +kernel
theorem dX11_isSafe_59 : decode cX11_isSafe 59 = .ok (.getfield 179, 3) := by decide +kernel
theorem dX11_isSafe_62 : decode cX11_isSafe 62 = .ok (.iconst 1, 1) := by decide +kernel
theorem dX11_isSafe_63 : decode cX11_isSafe 63 = .ok (.invokevirtual 223, 3) := by decide +kernel
theorem dX11_isSafe_66 : decode cX11_isSafe 66 = .ok (.aload_n 2, 1) := by decide +kernel
theorem dX11_isSafe_67 : decode cX11_isSafe 67 = .ok (.aload_n 0, 1) := by decide +kernel
theorem dX11_isSafe_68 : decode cX11_isSafe 68 = .ok (.getfield 66, 3) := by decide +kernel
theorem dX11_isSafe_71 : decode cX11_isSafe 71 = .ok (.invokevirtual 263, 3) := by decide +kernel
theorem dX11_isSafe_74 : decode cX11_isSafe 74 = .ok (.ireturn, 1) := by decide +kernel
theorem dX11_fill_0 : decode cX11_fill 0 = .ok (.iload_n 1, 1) := by decide +kernel
theorem dX11_fill_1 : decode cX11_fill 1 = .ok (.invokestatic 267, 3) := by decide +kernel
theorem dX11_fill_4 : decode cX11_fill 4 = .ok (.aload_n 0, 1) := by decide +kernel
theorem dX11_fill_5 : decode cX11_fill 5 = .ok (.getfield 55, 3) := by decide +kernel
theorem dX11_fill_8 : decode cX11_fill 8 = .ok (.aload_n 0, 1) := by decide +kernel
theorem dX11_fill_9 : decode cX11_fill 9 = .ok (.invokevirtual 208, 3) := by decide +kernel
theorem dX11_fill_12 : decode cX11_fill 12 = .ok (.aload_n 0, 1) := by decide +kernel
theorem dX11_fill_13 : decode cX11_fill 13 = .ok (.getfield 18, 3) := by decide +kernel
theorem dX11_fill_16 : decode cX11_fill 16 = .ok (.iload_n 1, 1) := by decide +kernel
theorem dX11_fill_17 : decode cX11_fill 17 = .ok (.aload_n 0, 1) := by decide +kernel
theorem dX11_fill_18 : decode cX11_fill 18 = .ok (.getfield 11, 3) := by decide +kernel
theorem dX11_fill_21 : decode cX11_fill 21 = .ok (.iconst 0, 1) := by decide +kernel
theorem dX11_fill_22 : decode cX11_fill 22 = .ok (.aaload, 1) := by decide +kernel
theorem dX11_fill_23 : decode cX11_fill 23 = .ok (.getfield 163, 3) := by decide +kernel
theorem dX11_fill_26 : decode cX11_fill 26 = .ok (.bipush 20, 2) := by decide +kernel
theorem dX11_fill_28 : decode cX11_fill 28 = .ok (.iaload, 1) := by decide +kernel
theorem dX11_fill_29 : decode cX11_fill 29 = .ok (.invokevirtual 270, 3) := by decide +kernel
theorem dX11_fill_32 : decode cX11_fill 32 = .ok (.aload_n 0, 1) := by decide +kernel
theorem dX11_fill_33 : decode cX11_fill 33 = .ok (.getfield 55, 3) := by decide +kernel
theorem dX11_fill_36 : decode cX11_fill 36 = .ok (.getfield 274, 3) := by decide +kernel
theorem dX11_fill_39 : decode cX11_fill 39 = .ok (.ifCond .eq 8, 3) := by decide +kernel
theorem dX11_fill_42 : decode cX11_fill 42 = .ok (.bipush (-100), 2) := by decide +kernel
theorem dX11_fill_44 : decode cX11_fill 44 = .ok (.goto 10, 3) := by decide +kernel
theorem dX11_fill_47 : decode cX11_fill 47 = .ok (.aload_n 0, 1) := by decide +kernel
theorem dX11_fill_48 : decode cX11_fill 48 = .ok (.getfield 55, 3) := by decide +kernel
theorem dX11_fill_51 : decode cX11_fill 51 = .ok (.getfield 277, 3) := by decide +kernel
theorem dX11_fill_54 : decode cX11_fill 54 = .ok (.ireturn, 1) := by decide +kernel
theorem dX11_filling_0 : decode cX11_filling 0 = .ok (.aload_n 0, 1) := by decide +kernel
theorem dX11_filling_1 : decode cX11_filling 1 = .ok (.iload_n 2, 1) := by decide +kernel
theorem dX11_filling_2 : decode cX11_filling 2 = .ok (.invokevirtual 189, 3) := by decide +kernel
theorem dX11_filling_5 : decode cX11_filling 5 = .ok (.iload_n 1, 1) := by decide +kernel
theorem dX11_filling_6 : decode cX11_filling 6 = .ok (.invokestatic 267, 3) := by decide +kernel
theorem dX11_filling_9 : decode cX11_filling 9 = .ok (.aload_n 0, 1) := by decide +kernel
theorem dX11_filling_10 : decode cX11_filling 10 = .ok (.getfield 55, 3) := by decide +kernel
theorem dX11_filling_13 : decode cX11_filling 13 = .ok (.aload_n 0, 1) := by decide +kernel
theorem dX11_filling_14 : decode cX11_filling 14 = .ok (.invokevirtual 208, 3) := by decide +kernel
theorem dX11_filling_17 : decode cX11_filling 17 = .ok (.aload_n 0, 1) := by decide +kernel
theorem dX11_filling_18 : decode cX11_filling 18 = .ok (.getfield 18, 3) := by decide +kernel
theorem dX11_filling_21 : decode cX11_filling 21 = .ok (.iload_n 1, 1) := by decide +kernel
theorem dX11_filling_22 : decode cX11_filling 22 = .ok (.aload_n 0, 1) := by decide +kernel
theorem dX11_filling_23 : decode cX11_filling 23 = .ok (.getfield 11, 3) := by decide +kernel
theorem dX11_filling_26 : decode cX11_filling 26 = .ok (.iconst 0, 1) := by decide +kernel
theorem dX11_filling_27 : decode cX11_filling 27 = .ok (.aaload, 1) := by decide +kernel
theorem dX11_filling_28 : decode cX11_filling 28 = .ok (.getfield 163, 3) := by decide +kernel
theorem dX11_filling_31 : decode cX11_filling 31 = .ok (.bipush 20, 2) := by decide +kernel
theorem dX11_filling_33 : decode cX11_filling 33 = .ok (.iaload, 1) := by decide +kernel
theorem dX11_filling_34 : decode cX11_filling 34 = .ok (.invokevirtual 270, 3) := by decide +kernel
theorem dX11_filling_37 : decode cX11_filling 37 = .ok (.aload_n 0, 1) := by decide +kernel
theorem dX11_filling_38 : decode cX11_filling 38 = .ok (.getfield 55, 3) := by decide +kernel
theorem dX11_filling_41 : decode cX11_filling 41 = .ok (.getfield 280, 3) := by decide +kernel
theorem dX11_filling_44 : decode cX11_filling 44 = .ok (.iload_n 2, 1) := by decide +kernel
theorem dX11_filling_45 : decode cX11_filling 45 = .ok (.iaload, 1) := by decide +kernel
theorem dX11_filling_46 : decode cX11_filling 46 = .ok (.ireturn, 1) := by decide +kernel
theorem dX11_needSign_0 : decode cX11_needSign 0 = .ok (.iload_n 1, 1) := by decide +kernel
theorem dX11_needSign_1 : decode cX11_needSign 1 = .ok (.ifCond .lt 14, 3) := by decide +kernel
theorem dX11_needSign_4 : decode cX11_needSign 4 = .ok (.iload_n 1, 1) := by decide +kernel
theorem dX11_needSign_5 : decode cX11_needSign 5 = .ok (.aload_n 0, 1) := by decide +kernel
theorem dX11_needSign_6 : decode cX11_needSign 6 = .ok (.getfield 18, 3) := by decide +kernel
theorem dX11_needSign_9 : decode cX11_needSign 9 = .ok (.getfield 179, 3) := by decide +kernel
theorem dX11_needSign_12 : decode cX11_needSign 12 = .ok (.if_icmp .lt 13, 3) := by decide +kernel
theorem dX11_needSign_15 : decode cX11_needSign 15 = .ok (.new 78, 3) := by decide +kernel
theorem dX11_needSign_18 : decode cX11_needSign 18 = .ok (.dup, 1) := by decide +kernel
theorem dX11_needSign_19 : decode cX11_needSign 19 = .ok (.ldc 182, 2) := by decide +kernel
theorem dX11_needSign_21 : decode cX11_needSign 21 = .ok (.invokespecial 82, 3) := by decide +kernel
theorem dX11_needSign_24 : decode cX11_needSign 24 = .ok (.athrow, 1) := by decide +kernel
theorem dX11_needSign_25 : decode cX11_needSign 25 = .ok (.return_, 1) := by decide +kernel
theorem dX11_needGlyph_0 : decode cX11_needGlyph 0 = .ok (.iload_n 1, 1) := by decide +kernel
theorem dX11_needGlyph_1 : decode cX11_needGlyph 1 = .ok (.ifCond .lt 11, 3) := by decide +kernel
theorem dX11_needGlyph_4 : decode cX11_needGlyph 4 = .ok (.iload_n 1, 1) := by decide +kernel
theorem dX11_needGlyph_5 : decode cX11_needGlyph 5 = .ok (.aload_n 0, 1) := by decide +kernel
theorem dX11_needGlyph_6 : decode cX11_needGlyph 6 = .ok (.getfield 212, 3) := by decide +kernel
theorem dX11_needGlyph_9 : decode cX11_needGlyph 9 = .ok (.if_icmp .lt 13, 3) := by decide +kernel
theorem dX11_needGlyph_12 : decode cX11_needGlyph 12 = .ok (.new 78, 3) := by decide +kernel
theorem dX11_needGlyph_15 : decode cX11_needGlyph 15 = .ok (.dup, 1) := by decide +kernel
theorem dX11_needGlyph_16 : decode cX11_needGlyph 16 = .ok (.ldc 144, 2) := by decide +kernel
theorem dX11_needGlyph_18 : decode cX11_needGlyph 18 = .ok (.invokespecial 82, 3) := by decide +kernel
theorem dX11_needGlyph_21 : decode cX11_needGlyph 21 = .ok (.athrow, 1) := by decide +kernel
theorem dX11_needGlyph_22 : decode cX11_needGlyph 22 = .ok (.return_, 1) := by decide +kernel
theorem dX11_needLine_0 : decode cX11_needLine 0 = .ok (.iload_n 0, 1) := by decide +kernel
theorem dX11_needLine_1 : decode cX11_needLine 1 = .ok (.ifCond .lt 10, 3) := by decide +kernel
theorem dX11_needLine_4 : decode cX11_needLine 4 = .ok (.iload_n 0, 1) := by decide +kernel
theorem dX11_needLine_5 : decode cX11_needLine 5 = .ok (.sipush 10000, 3) := by decide +kernel
theorem dX11_needLine_8 : decode cX11_needLine 8 = .ok (.if_icmp .le 13, 3) := by decide +kernel
theorem dX11_needLine_11 : decode cX11_needLine 11 = .ok (.new 89, 3) := by decide +kernel
theorem dX11_needLine_14 : decode cX11_needLine 14 = .ok (.dup, 1) := by decide +kernel
theorem dX11_needLine_15 : decode cX11_needLine 15 = .ok (.ldc 161, 2) := by decide +kernel
theorem dX11_needLine_17 : decode cX11_needLine 17 = .ok (.invokespecial 93, 3) := by decide +kernel
theorem dX11_needLine_20 : decode cX11_needLine 20 = .ok (.athrow, 1) := by decide +kernel
theorem dX11_needLine_21 : decode cX11_needLine 21 = .ok (.return_, 1) := by decide +kernel
theorem dX11_shaped_0 : decode cX11_shaped 0 = .ok (.aload_n 0, 1) := by decide +kernel
theorem dX11_shaped_1 : decode cX11_shaped 1 = .ok (.getfield 73, 3) := by decide +kernel
theorem dX11_shaped_4 : decode cX11_shaped 4 = .ok (.ifCond .eq 32, 3) := by decide +kernel
theorem dX11_shaped_7 : decode cX11_shaped 7 = .ok (.aload_n 0, 1) := by decide +kernel
theorem dX11_shaped_8 : decode cX11_shaped 8 = .ok (.getfield 62, 3) := by decide +kernel
theorem dX11_shaped_11 : decode cX11_shaped 11 = .ok (.invokevirtual 220, 3) := by decide +kernel
theorem dX11_shaped_14 : decode cX11_shaped 14 = .ok (.aload_n 0, 1) := by decide +kernel
theorem dX11_shaped_15 : decode cX11_shaped 15 = .ok (.aload_n 0, 1) := by decide +kernel
theorem dX11_shaped_16 : decode cX11_shaped 16 = .ok (.getfield 62, 3) := by decide +kernel
theorem dX11_shaped_19 : decode cX11_shaped 19 = .ok (.iconst 0, 1) := by decide +kernel
theorem dX11_shaped_20 : decode cX11_shaped 20 = .ok (.aload_n 0, 1) := by decide +kernel
theorem dX11_shaped_21 : decode cX11_shaped 21 = .ok (.getfield 18, 3) := by decide +kernel
theorem dX11_shaped_24 : decode cX11_shaped 24 = .ok (.getfield 179, 3) := by decide +kernel
theorem dX11_shaped_27 : decode cX11_shaped 27 = .ok (.iconst 1, 1) := by decide +kernel
theorem dX11_shaped_28 : decode cX11_shaped 28 = .ok (.invokevirtual 223, 3) := by decide +kernel
theorem dX11_shaped_31 : decode cX11_shaped 31 = .ok (.aload_n 0, 1) := by decide +kernel
theorem dX11_shaped_32 : decode cX11_shaped 32 = .ok (.iconst 0, 1) := by decide +kernel
theorem dX11_shaped_33 : decode cX11_shaped 33 = .ok (.putfield 73, 3) := by decide +kernel
theorem dX11_shaped_36 : decode cX11_shaped 36 = .ok (.aload_n 0, 1) := by decide +kernel
theorem dX11_shaped_37 : decode cX11_shaped 37 = .ok (.getfield 62, 3) := by decide +kernel
theorem dX11_shaped_40 : decode cX11_shaped 40 = .ok (.areturn, 1) := by decide +kernel
theorem dX11_shape_0 : decode cX11_shape 0 = .ok (.aload_n 1, 1) := by decide +kernel
theorem dX11_shape_1 : decode cX11_shape 1 = .ok (.getfield 241, 3) := by decide +kernel
theorem dX11_shape_4 : decode cX11_shape 4 = .ok (.astore 5, 2) := by decide +kernel
theorem dX11_shape_6 : decode cX11_shape 6 = .ok (.aload 5, 2) := by decide +kernel
theorem dX11_shape_8 : decode cX11_shape 8 = .ok (.getfield 283, 3) := by decide +kernel
theorem dX11_shape_11 : decode cX11_shape 11 = .ok (.istore 6, 2) := by decide +kernel
theorem dX11_shape_13 : decode cX11_shape 13 = .ok (.aload 5, 2) := by decide +kernel
theorem dX11_shape_15 : decode cX11_shape 15 = .ok (.aload_n 0, 1) := by decide +kernel
theorem dX11_shape_16 : decode cX11_shape 16 = .ok (.getfield 18, 3) := by decide +kernel
theorem dX11_shape_19 : decode cX11_shape 19 = .ok (.iload_n 2, 1) := by decide +kernel
theorem dX11_shape_20 : decode cX11_shape 20 = .ok (.iload_n 3, 1) := by decide +kernel
theorem dX11_shape_21 : decode cX11_shape 21 = .ok (.invokevirtual 284, 3) := by decide +kernel
theorem dX11_shape_24 : decode cX11_shape 24 = .ok (.iload 6, 2) := by decide +kernel
theorem dX11_shape_26 : decode cX11_shape 26 = .ok (.istore 7, 2) := by decide +kernel
theorem dX11_shape_28 : decode cX11_shape 28 = .ok (.iload 7, 2) := by decide +kernel
theorem dX11_shape_30 : decode cX11_shape 30 = .ok (.aload 5, 2) := by decide +kernel
theorem dX11_shape_32 : decode cX11_shape 32 = .ok (.getfield 283, 3) := by decide +kernel
theorem dX11_shape_35 : decode cX11_shape 35 = .ok (.if_icmp .ge 217, 3) := by decide +kernel
theorem dX11_shape_38 : decode cX11_shape 38 = .ok (.aload_n 0, 1) := by decide +kernel
theorem dX11_shape_39 : decode cX11_shape 39 = .ok (.getfield 11, 3) := by decide +kernel
theorem dX11_shape_42 : decode cX11_shape 42 = .ok (.aload 5, 2) := by decide +kernel
theorem dX11_shape_44 : decode cX11_shape 44 = .ok (.getfield 288, 3) := by decide +kernel
theorem dX11_shape_47 : decode cX11_shape 47 = .ok (.iload 7, 2) := by decide +kernel
theorem dX11_shape_49 : decode cX11_shape 49 = .ok (.iaload, 1) := by decide +kernel
theorem dX11_shape_50 : decode cX11_shape 50 = .ok (.ifCond .ne 7, 3) := by decide +kernel
theorem dX11_shape_53 : decode cX11_shape 53 = .ok (.iconst 0, 1) := by decide +kernel
theorem dX11_shape_54 : decode cX11_shape 54 = .ok (.goto 4, 3) := by decide +kernel
theorem dX11_shape_57 : decode cX11_shape 57 = .ok (.iconst 1, 1) := by decide +kernel
theorem dX11_shape_58 : decode cX11_shape 58 = .ok (.aaload, 1) := by decide +kernel
theorem dX11_shape_59 : decode cX11_shape 59 = .ok (.astore 8, 2) := by decide +kernel
theorem dX11_shape_61 : decode cX11_shape 61 = .ok (.aload_n 0, 1) := by decide +kernel
theorem dX11_shape_62 : decode cX11_shape 62 = .ok (.getfield 34, 3) := by decide +kernel
theorem dX11_shape_65 : decode cX11_shape 65 = .ok (.aload_n 0, 1) := by decide +kernel
theorem dX11_shape_66 : decode cX11_shape 66 = .ok (.getfield 18, 3) := by decide +kernel
theorem dX11_shape_69 : decode cX11_shape 69 = .ok (.aload 5, 2) := by decide +kernel
theorem dX11_shape_71 : decode cX11_shape 71 = .ok (.iload 7, 2) := by decide +kernel
theorem dX11_shape_73 : decode cX11_shape 73 = .ok (.invokevirtual 290, 3) := by decide +kernel
theorem dX11_shape_76 : decode cX11_shape 76 = .ok (.aload_n 0, 1) := by decide +kernel
theorem dX11_shape_77 : decode cX11_shape 77 = .ok (.getfield 41, 3) := by decide +kernel
theorem dX11_shape_80 : decode cX11_shape 80 = .ok (.aload 8, 2) := by decide +kernel
theorem dX11_shape_82 : decode cX11_shape 82 = .ok (.iload 4, 2) := by decide +kernel
theorem dX11_shape_84 : decode cX11_shape 84 = .ok (.invokevirtual 294, 3) := by decide +kernel
theorem dX11_shape_87 : decode cX11_shape 87 = .ok (.iconst 0, 1) := by decide +kernel
theorem dX11_shape_88 : decode cX11_shape 88 = .ok (.istore 9, 2) := by decide +kernel
theorem dX11_shape_90 : decode cX11_shape 90 = .ok (.iload 9, 2) := by decide +kernel
theorem dX11_shape_92 : decode cX11_shape 92 = .ok (.iconst 1, 1) := by decide +kernel
theorem dX11_shape_93 : decode cX11_shape 93 = .ok (.if_icmp .gt 91, 3) := by decide +kernel
theorem dX11_shape_96 : decode cX11_shape 96 = .ok (.iconst 0, 1) := by decide +kernel
theorem dX11_shape_97 : decode cX11_shape 97 = .ok (.istore 10, 2) := by decide +kernel
theorem dX11_shape_99 : decode cX11_shape 99 = .ok (.iload 10, 2) := by decide +kernel
theorem dX11_shape_101 : decode cX11_shape 101 = .ok (.aload 8, 2) := by decide +kernel
theorem dX11_shape_103 : decode cX11_shape 103 = .ok (.getfield 98, 3) := by decide +kernel
theorem dX11_shape_106 : decode cX11_shape 106 = .ok (.if_icmp .ge 49, 3) := by decide +kernel
theorem dX11_shape_109 : decode cX11_shape 109 = .ok (.aload 8, 2) := by decide +kernel
theorem dX11_shape_111 : decode cX11_shape 111 = .ok (.iload 10, 2) := by decide +kernel
theorem dX11_shape_113 : decode cX11_shape 113 = .ok (.invokevirtual 115, 3) := by decide +kernel
theorem dX11_shape_116 : decode cX11_shape 116 = .ok (.astore 11, 2) := by decide +kernel
theorem dX11_shape_118 : decode cX11_shape 118 = .ok (.aload 11, 2) := by decide +kernel
theorem dX11_shape_120 : decode cX11_shape 120 = .ok (.ifnull 29, 3) := by decide +kernel
theorem dX11_shape_123 : decode cX11_shape 123 = .ok (.aload 11, 2) := by decide +kernel
theorem dX11_shape_125 : decode cX11_shape 125 = .ok (.iload 9, 2) := by decide +kernel
theorem dX11_shape_127 : decode cX11_shape 127 = .ok (.aload_n 0, 1) := by decide +kernel
theorem dX11_shape_128 : decode cX11_shape 128 = .ok (.getfield 18, 3) := by decide +kernel
theorem dX11_shape_131 : decode cX11_shape 131 = .ok (.getfield 197, 3) := by decide +kernel
theorem dX11_shape_134 : decode cX11_shape 134 = .ok (.invokevirtual 298, 3) := by decide +kernel
theorem dX11_shape_137 : decode cX11_shape 137 = .ok (.ifCond .eq 12, 3) := by decide +kernel
theorem dX11_shape_140 : decode cX11_shape 140 = .ok (.aload_n 0, 1) := by decide +kernel
theorem dX11_shape_141 : decode cX11_shape 141 = .ok (.getfield 41, 3) := by decide +kernel
theorem dX11_shape_144 : decode cX11_shape 144 = .ok (.aload 11, 2) := by decide +kernel
theorem dX11_shape_146 : decode cX11_shape 146 = .ok (.invokevirtual 302, 3) := by decide +kernel
theorem dX11_shape_149 : decode cX11_shape 149 = .ok (.iinc 10 1, 3) := by decide +kernel
theorem dX11_shape_152 : decode cX11_shape 152 = .ok (.goto (-53), 3) := by decide +kernel
theorem dX11_shape_155 : decode cX11_shape 155 = .ok (.iload 9, 2) := by decide +kernel
theorem dX11_shape_157 : decode cX11_shape 157 = .ok (.ifCond .ne 21, 3) := by decide +kernel
theorem dX11_shape_160 : decode cX11_shape 160 = .ok (.aload 5, 2) := by decide +kernel
theorem dX11_shape_162 : decode cX11_shape 162 = .ok (.getfield 305, 3) := by decide +kernel
theorem dX11_shape_165 : decode cX11_shape 165 = .ok (.iload 7, 2) := by decide +kernel
theorem dX11_shape_167 : decode cX11_shape 167 = .ok (.baload, 1) := by decide +kernel
theorem dX11_shape_168 : decode cX11_shape 168 = .ok (.ifCond .eq 10, 3) := by decide +kernel
theorem dX11_shape_171 : decode cX11_shape 171 = .ok (.aload_n 0, 1) := by decide +kernel
theorem dX11_shape_172 : decode cX11_shape 172 = .ok (.getfield 34, 3) := by decide +kernel
theorem dX11_shape_175 : decode cX11_shape 175 = .ok (.invokevirtual 308, 3) := by decide +kernel
theorem dX11_shape_178 : decode cX11_shape 178 = .ok (.iinc 9 1, 3) := by decide +kernel
theorem dX11_shape_181 : decode cX11_shape 181 = .ok (.goto (-91), 3) := by decide +kernel
theorem dX11_shape_184 : decode cX11_shape 184 = .ok (.aload_n 0, 1) := by decide +kernel
theorem dX11_shape_185 : decode cX11_shape 185 = .ok (.getfield 25, 3) := by decide +kernel
theorem dX11_shape_188 : decode cX11_shape 188 = .ok (.invokevirtual 311, 3) := by decide +kernel
theorem dX11_shape_191 : decode cX11_shape 191 = .ok (.aload_n 0, 1) := by decide +kernel
theorem dX11_shape_192 : decode cX11_shape 192 = .ok (.getfield 48, 3) := by decide +kernel
theorem dX11_shape_195 : decode cX11_shape 195 = .ok (.aload 8, 2) := by decide +kernel
theorem dX11_shape_197 : decode cX11_shape 197 = .ok (.aload_n 0, 1) := by decide +kernel
theorem dX11_shape_198 : decode cX11_shape 198 = .ok (.getfield 18, 3) := by decide +kernel
theorem dX11_shape_201 : decode cX11_shape 201 = .ok (.getfield 197, 3) := by decide +kernel
theorem dX11_shape_204 : decode cX11_shape 204 = .ok (.iload 4, 2) := by decide +kernel
theorem dX11_shape_206 : decode cX11_shape 206 = .ok (.invokevirtual 314, 3) := by decide +kernel
theorem dX11_shape_209 : decode cX11_shape 209 = .ok (.aload_n 0, 1) := by decide +kernel
theorem dX11_shape_210 : decode cX11_shape 210 = .ok (.getfield 48, 3) := by decide +kernel
theorem dX11_shape_213 : decode cX11_shape 213 = .ok (.aload_n 1, 1) := by decide +kernel
theorem dX11_shape_214 : decode cX11_shape 214 = .ok (.getfield 318, 3) := by decide +kernel
theorem dX11_shape_217 : decode cX11_shape 217 = .ok (.aload 5, 2) := by decide +kernel
theorem dX11_shape_219 : decode cX11_shape 219 = .ok (.getfield 305, 3) := by decide +kernel
theorem dX11_shape_222 : decode cX11_shape 222 = .ok (.iload 7, 2) := by decide +kernel
theorem dX11_shape_224 : decode cX11_shape 224 = .ok (.baload, 1) := by decide +kernel
theorem dX11_shape_225 : decode cX11_shape 225 = .ok (.ifCond .ne 7, 3) := by decide +kernel
theorem dX11_shape_228 : decode cX11_shape 228 = .ok (.iconst 1, 1) := by decide +kernel
theorem dX11_shape_229 : decode cX11_shape 229 = .ok (.goto 4, 3) := by decide +kernel
theorem dX11_shape_232 : decode cX11_shape 232 = .ok (.iconst 0, 1) := by decide +kernel
theorem dX11_shape_233 : decode cX11_shape 233 = .ok (.invokevirtual 321, 3) := by decide +kernel
theorem dX11_shape_236 : decode cX11_shape 236 = .ok (.aload_n 1, 1) := by decide +kernel
theorem dX11_shape_237 : decode cX11_shape 237 = .ok (.aload_n 0, 1) := by decide +kernel
theorem dX11_shape_238 : decode cX11_shape 238 = .ok (.getfield 25, 3) := by decide +kernel
theorem dX11_shape_241 : decode cX11_shape 241 = .ok (.iload 7, 2) := by decide +kernel
theorem dX11_shape_243 : decode cX11_shape 243 = .ok (.invokevirtual 325, 3) := by decide +kernel
theorem dX11_shape_246 : decode cX11_shape 246 = .ok (.iinc 7 1, 3) := by decide +kernel
theorem dX11_shape_249 : decode cX11_shape 249 = .ok (.goto (-221), 3) := by decide +kernel
theorem dX11_shape_252 : decode cX11_shape 252 = .ok (.return_, 1) := by decide +kernel
theorem dX11_isGlyph_0 : decode cX11_isGlyph 0 = .ok (.iload_n 0, 1) := by decide +kernel
theorem dX11_isGlyph_1 : decode cX11_isGlyph 1 = .ok (.ifCond .lt 14, 3) := by decide +kernel
theorem dX11_isGlyph_4 : decode cX11_isGlyph 4 = .ok (.iload_n 0, 1) := by decide +kernel
theorem dX11_isGlyph_5 : decode cX11_isGlyph 5 = .ok (.sipush 256, 3) := by decide +kernel
theorem dX11_isGlyph_8 : decode cX11_isGlyph 8 = .ok (.if_icmp .ge 7, 3) := by decide +kernel
theorem dX11_isGlyph_11 : decode cX11_isGlyph 11 = .ok (.iconst 1, 1) := by decide +kernel
theorem dX11_isGlyph_12 : decode cX11_isGlyph 12 = .ok (.goto 4, 3) := by decide +kernel
theorem dX11_isGlyph_15 : decode cX11_isGlyph 15 = .ok (.iconst 0, 1) := by decide +kernel
theorem dX11_isGlyph_16 : decode cX11_isGlyph 16 = .ok (.ireturn, 1) := by decide +kernel
theorem dX11_isItem_0 : decode cX11_isItem 0 = .ok (.iload_n 0, 1) := by decide +kernel
theorem dX11_isItem_1 : decode cX11_isItem 1 = .ok (.invokestatic 140, 3) := by decide +kernel
theorem dX11_isItem_4 : decode cX11_isItem 4 = .ok (.ifCond .ne 17, 3) := by decide +kernel
theorem dX11_isItem_7 : decode cX11_isItem 7 = .ok (.iload_n 0, 1) := by decide +kernel
theorem dX11_isItem_8 : decode cX11_isItem 8 = .ok (.sipush 300, 3) := by decide +kernel
theorem dX11_isItem_11 : decode cX11_isItem 11 = .ok (.if_icmp .lt 14, 3) := by decide +kernel
theorem dX11_isItem_14 : decode cX11_isItem 14 = .ok (.iload_n 0, 1) := by decide +kernel
theorem dX11_isItem_15 : decode cX11_isItem 15 = .ok (.sipush 306, 3) := by decide +kernel
theorem dX11_isItem_18 : decode cX11_isItem 18 = .ok (.if_icmp .ge 7, 3) := by decide +kernel
theorem dX11_isItem_21 : decode cX11_isItem 21 = .ok (.iconst 1, 1) := by decide +kernel
theorem dX11_isItem_22 : decode cX11_isItem 22 = .ok (.goto 4, 3) := by decide +kernel
theorem dX11_isItem_25 : decode cX11_isItem 25 = .ok (.iconst 0, 1) := by decide +kernel
theorem dX11_isItem_26 : decode cX11_isItem 26 = .ok (.ireturn, 1) := by decide +kernel
theorem dX11_isSign_0 : decode cX11_isSign 0 = .ok (.iload_n 0, 1) := by decide +kernel
theorem dX11_isSign_1 : decode cX11_isSign 1 = .ok (.ifCond .lt 9, 3) := by decide +kernel
theorem dX11_isSign_4 : decode cX11_isSign 4 = .ok (.iload_n 0, 1) := by decide +kernel
theorem dX11_isSign_5 : decode cX11_isSign 5 = .ok (.bipush 23, 2) := by decide +kernel
theorem dX11_isSign_7 : decode cX11_isSign 7 = .ok (.if_icmp .le 15, 3) := by decide +kernel
theorem dX11_isSign_10 : decode cX11_isSign 10 = .ok (.iload_n 0, 1) := by decide +kernel
theorem dX11_isSign_11 : decode cX11_isSign 11 = .ok (.bipush 30, 2) := by decide +kernel
theorem dX11_isSign_13 : decode cX11_isSign 13 = .ok (.if_icmp .lt 13, 3) := by decide +kernel
theorem dX11_isSign_16 : decode cX11_isSign 16 = .ok (.iload_n 0, 1) := by decide +kernel
theorem dX11_isSign_17 : decode cX11_isSign 17 = .ok (.bipush 45, 2) := by decide +kernel
theorem dX11_isSign_19 : decode cX11_isSign 19 = .ok (.if_icmp .ge 7, 3) := by decide +kernel
theorem dX11_isSign_22 : decode cX11_isSign 22 = .ok (.iconst 1, 1) := by decide +kernel
theorem dX11_isSign_23 : decode cX11_isSign 23 = .ok (.goto 4, 3) := by decide +kernel
theorem dX11_isSign_26 : decode cX11_isSign 26 = .ok (.iconst 0, 1) := by decide +kernel
theorem dX11_isSign_27 : decode cX11_isSign 27 = .ok (.ireturn, 1) := by decide +kernel
theorem dX11_isJoinerOrParter_0 : decode cX11_isJoinerOrParter 0 = .ok (.iload_n 0, 1) := by decide +kernel
theorem dX11_isJoinerOrParter_1 : decode cX11_isJoinerOrParter 1 = .ok (.iconst 2, 1) := by decide +kernel
theorem dX11_isJoinerOrParter_2 : decode cX11_isJoinerOrParter 2 = .ok (.if_icmp .eq 8, 3) := by decide +kernel
theorem dX11_isJoinerOrParter_5 : decode cX11_isJoinerOrParter 5 = .ok (.iload_n 0, 1) := by decide +kernel
theorem dX11_isJoinerOrParter_6 : decode cX11_isJoinerOrParter 6 = .ok (.iconst 3, 1) := by decide +kernel
theorem dX11_isJoinerOrParter_7 : decode cX11_isJoinerOrParter 7 = .ok (.if_icmp .ne 7, 3) := by decide +kernel
theorem dX11_isJoinerOrParter_10 : decode cX11_isJoinerOrParter 10 = .ok (.iconst 1, 1) := by decide +kernel
theorem dX11_isJoinerOrParter_11 : decode cX11_isJoinerOrParter 11 = .ok (.goto 4, 3) := by decide +kernel
theorem dX11_isJoinerOrParter_14 : decode cX11_isJoinerOrParter 14 = .ok (.iconst 0, 1) := by decide +kernel
theorem dX11_isJoinerOrParter_15 : decode cX11_isJoinerOrParter 15 = .ok (.ireturn, 1) := by decide +kernel
theorem dX11_isMarkOfJ_0 : decode cX11_isMarkOfJ 0 = .ok (.iload_n 0, 1) := by decide +kernel
theorem dX11_isMarkOfJ_1 : decode cX11_isMarkOfJ 1 = .ok (.bipush 21, 2) := by decide +kernel
theorem dX11_isMarkOfJ_3 : decode cX11_isMarkOfJ 3 = .ok (.if_icmp .lt 13, 3) := by decide +kernel
theorem dX11_isMarkOfJ_6 : decode cX11_isMarkOfJ 6 = .ok (.iload_n 0, 1) := by decide +kernel
theorem dX11_isMarkOfJ_7 : decode cX11_isMarkOfJ 7 = .ok (.bipush 23, 2) := by decide +kernel
theorem dX11_isMarkOfJ_9 : decode cX11_isMarkOfJ 9 = .ok (.if_icmp .gt 7, 3) := by decide +kernel
theorem dX11_isMarkOfJ_12 : decode cX11_isMarkOfJ 12 = .ok (.iconst 1, 1) := by decide +kernel
theorem dX11_isMarkOfJ_13 : decode cX11_isMarkOfJ 13 = .ok (.goto 4, 3) := by decide +kernel
theorem dX11_isMarkOfJ_16 : decode cX11_isMarkOfJ 16 = .ok (.iconst 0, 1) := by decide +kernel
theorem dX11_isMarkOfJ_17 : decode cX11_isMarkOfJ 17 = .ok (.ireturn, 1) := by decide +kernel
theorem dX11_joinsOnBothSides_0 : decode cX11_joinsOnBothSides 0 = .ok (.iload_n 0, 1) := by decide +kernel
theorem dX11_joinsOnBothSides_1 : decode cX11_joinsOnBothSides 1 = .ok (.bipush 10, 2) := by decide +kernel
theorem dX11_joinsOnBothSides_3 : decode cX11_joinsOnBothSides 3 = .ok (.if_icmp .lt 9, 3) := by decide +kernel
theorem dX11_joinsOnBothSides_6 : decode cX11_joinsOnBothSides 6 = .ok (.iload_n 0, 1) := by decide +kernel
theorem dX11_joinsOnBothSides_7 : decode cX11_joinsOnBothSides 7 = .ok (.bipush 15, 2) := by decide +kernel
theorem dX11_joinsOnBothSides_9 : decode cX11_joinsOnBothSides 9 = .ok (.if_icmp .le 9, 3) := by decide +kernel
theorem dX11_joinsOnBothSides_12 : decode cX11_joinsOnBothSides 12 = .ok (.iload_n 0, 1) := by decide +kernel
theorem dX11_joinsOnBothSides_13 : decode cX11_joinsOnBothSides 13 = .ok (.bipush 20, 2) := by decide +kernel
theorem dX11_joinsOnBothSides_15 : decode cX11_joinsOnBothSides 15 = .ok (.if_icmp .ne 7, 3) := by decide +kernel
theorem dX11_joinsOnBothSides_18 : decode cX11_joinsOnBothSides 18 = .ok (.iconst 1, 1) := by decide +kernel
theorem dX11_joinsOnBothSides_19 : decode cX11_joinsOnBothSides 19 = .ok (.goto 4, 3) := by decide +kernel
theorem dX11_joinsOnBothSides_22 : decode cX11_joinsOnBothSides 22 = .ok (.iconst 0, 1) := by decide +kernel
theorem dX11_joinsOnBothSides_23 : decode cX11_joinsOnBothSides 23 = .ok (.ireturn, 1) := by decide +kernel
theorem dX11_isConsonant_0 : decode cX11_isConsonant 0 = .ok (.iload_n 0, 1) := by decide +kernel
theorem dX11_isConsonant_1 : decode cX11_isConsonant 1 = .ok (.bipush 30, 2) := by decide +kernel
theorem dX11_isConsonant_3 : decode cX11_isConsonant 3 = .ok (.if_icmp .lt 13, 3) := by decide +kernel
theorem dX11_isConsonant_6 : decode cX11_isConsonant 6 = .ok (.iload_n 0, 1) := by decide +kernel
theorem dX11_isConsonant_7 : decode cX11_isConsonant 7 = .ok (.bipush 38, 2) := by decide +kernel
theorem dX11_isConsonant_9 : decode cX11_isConsonant 9 = .ok (.if_icmp .gt 7, 3) := by decide +kernel
theorem dX11_isConsonant_12 : decode cX11_isConsonant 12 = .ok (.iconst 1, 1) := by decide +kernel
theorem dX11_isConsonant_13 : decode cX11_isConsonant 13 = .ok (.goto 4, 3) := by decide +kernel
theorem dX11_isConsonant_16 : decode cX11_isConsonant 16 = .ok (.iconst 0, 1) := by decide +kernel
theorem dX11_isConsonant_17 : decode cX11_isConsonant 17 = .ok (.ireturn, 1) := by decide +kernel
theorem dJ6_bitCount_0f7a4_0 : decode cJ6_bitCount_0f7a4 0 = .ok (.iload_n 0, 1) := by decide +kernel
theorem dJ6_bitCount_0f7a4_1 : decode cJ6_bitCount_0f7a4 1 = .ok (.iload_n 0, 1) := by decide +kernel
theorem dJ6_bitCount_0f7a4_2 : decode cJ6_bitCount_0f7a4 2 = .ok (.iconst 1, 1) := by decide +kernel
theorem dJ6_bitCount_0f7a4_3 : decode cJ6_bitCount_0f7a4 3 = .ok (.iushr, 1) := by decide +kernel
theorem dJ6_bitCount_0f7a4_4 : decode cJ6_bitCount_0f7a4 4 = .ok (.ldc_w 265, 3) := by decide +kernel
theorem dJ6_bitCount_0f7a4_7 : decode cJ6_bitCount_0f7a4 7 = .ok (.iand, 1) := by decide +kernel
theorem dJ6_bitCount_0f7a4_8 : decode cJ6_bitCount_0f7a4 8 = .ok (.isub, 1) := by decide +kernel
theorem dJ6_bitCount_0f7a4_9 : decode cJ6_bitCount_0f7a4 9 = .ok (.istore_n 0, 1) := by decide +kernel
theorem dJ6_bitCount_0f7a4_10 : decode cJ6_bitCount_0f7a4 10 = .ok (.iload_n 0, 1) := by decide +kernel
theorem dJ6_bitCount_0f7a4_11 : decode cJ6_bitCount_0f7a4 11 = .ok (.ldc_w 266, 3) := by decide +kernel
theorem dJ6_bitCount_0f7a4_14 : decode cJ6_bitCount_0f7a4 14 = .ok (.iand, 1) := by decide +kernel
theorem dJ6_bitCount_0f7a4_15 : decode cJ6_bitCount_0f7a4 15 = .ok (.iload_n 0, 1) := by decide +kernel
theorem dJ6_bitCount_0f7a4_16 : decode cJ6_bitCount_0f7a4 16 = .ok (.iconst 2, 1) := by decide +kernel
theorem dJ6_bitCount_0f7a4_17 : decode cJ6_bitCount_0f7a4 17 = .ok (.iushr, 1) := by decide +kernel
theorem dJ6_bitCount_0f7a4_18 : decode cJ6_bitCount_0f7a4 18 = .ok (.ldc_w 266, 3) := by decide +kernel
theorem dJ6_bitCount_0f7a4_21 : decode cJ6_bitCount_0f7a4 21 = .ok (.iand, 1) := by decide +kernel
theorem dJ6_bitCount_0f7a4_22 : decode cJ6_bitCount_0f7a4 22 = .ok (.iadd, 1) := by decide +kernel
theorem dJ6_bitCount_0f7a4_23 : decode cJ6_bitCount_0f7a4 23 = .ok (.istore_n 0, 1) := by decide +kernel
theorem dJ6_bitCount_0f7a4_24 : decode cJ6_bitCount_0f7a4 24 = .ok (.iload_n 0, 1) := by decide +kernel
theorem dJ6_bitCount_0f7a4_25 : decode cJ6_bitCount_0f7a4 25 = .ok (.iload_n 0, 1) := by decide +kernel
theorem dJ6_bitCount_0f7a4_26 : decode cJ6_bitCount_0f7a4 26 = .ok (.iconst 4, 1) := by decide +kernel
theorem dJ6_bitCount_0f7a4_27 : decode cJ6_bitCount_0f7a4 27 = .ok (.iushr, 1) := by decide +kernel
theorem dJ6_bitCount_0f7a4_28 : decode cJ6_bitCount_0f7a4 28 = .ok (.iadd, 1) := by decide +kernel
theorem dJ6_bitCount_0f7a4_29 : decode cJ6_bitCount_0f7a4 29 = .ok (.ldc_w 267, 3) := by decide +kernel
theorem dJ6_bitCount_0f7a4_32 : decode cJ6_bitCount_0f7a4 32 = .ok (.iand, 1) := by decide +kernel
theorem dJ6_bitCount_0f7a4_33 : decode cJ6_bitCount_0f7a4 33 = .ok (.istore_n 0, 1) := by decide +kernel
theorem dJ6_bitCount_0f7a4_34 : decode cJ6_bitCount_0f7a4 34 = .ok (.iload_n 0, 1) := by decide +kernel
theorem dJ6_bitCount_0f7a4_35 : decode cJ6_bitCount_0f7a4 35 = .ok (.iload_n 0, 1) := by decide +kernel
theorem dJ6_bitCount_0f7a4_36 : decode cJ6_bitCount_0f7a4 36 = .ok (.bipush 8, 2) := by decide +kernel
theorem dJ6_bitCount_0f7a4_38 : decode cJ6_bitCount_0f7a4 38 = .ok (.iushr, 1) := by decide +kernel
theorem dJ6_bitCount_0f7a4_39 : decode cJ6_bitCount_0f7a4 39 = .ok (.iadd, 1) := by decide +kernel
theorem dJ6_bitCount_0f7a4_40 : decode cJ6_bitCount_0f7a4 40 = .ok (.istore_n 0, 1) := by decide +kernel
theorem dJ6_bitCount_0f7a4_41 : decode cJ6_bitCount_0f7a4 41 = .ok (.iload_n 0, 1) := by decide +kernel
theorem dJ6_bitCount_0f7a4_42 : decode cJ6_bitCount_0f7a4 42 = .ok (.iload_n 0, 1) := by decide +kernel
theorem dJ6_bitCount_0f7a4_43 : decode cJ6_bitCount_0f7a4 43 = .ok (.bipush 16, 2) := by decide +kernel
theorem dJ6_bitCount_0f7a4_45 : decode cJ6_bitCount_0f7a4 45 = .ok (.iushr, 1) := by decide +kernel
theorem dJ6_bitCount_0f7a4_46 : decode cJ6_bitCount_0f7a4 46 = .ok (.iadd, 1) := by decide +kernel
theorem dJ6_bitCount_0f7a4_47 : decode cJ6_bitCount_0f7a4 47 = .ok (.istore_n 0, 1) := by decide +kernel
theorem dJ6_bitCount_0f7a4_48 : decode cJ6_bitCount_0f7a4 48 = .ok (.iload_n 0, 1) := by decide +kernel
theorem dJ6_bitCount_0f7a4_49 : decode cJ6_bitCount_0f7a4 49 = .ok (.bipush 63, 2) := by decide +kernel
theorem dJ6_bitCount_0f7a4_51 : decode cJ6_bitCount_0f7a4 51 = .ok (.iand, 1) := by decide +kernel
theorem dJ6_bitCount_0f7a4_52 : decode cJ6_bitCount_0f7a4 52 = .ok (.ireturn, 1) := by decide +kernel
theorem dL_cell_0 : decode cL_cell 0 = .ok (.iload_n 1, 1) := by decide +kernel
theorem dL_cell_1 : decode cL_cell 1 = .ok (.aload_n 0, 1) := by decide +kernel
theorem dL_cell_2 : decode cL_cell 2 = .ok (.arraylength, 1) := by decide +kernel
theorem dL_cell_3 : decode cL_cell 3 = .ok (.if_icmp .ge 9, 3) := by decide +kernel
theorem dL_cell_6 : decode cL_cell 6 = .ok (.aload_n 0, 1) := by decide +kernel
theorem dL_cell_7 : decode cL_cell 7 = .ok (.iload_n 1, 1) := by decide +kernel
theorem dL_cell_8 : decode cL_cell 8 = .ok (.iaload, 1) := by decide +kernel
theorem dL_cell_9 : decode cL_cell 9 = .ok (.goto 10, 3) := by decide +kernel
theorem dL_cell_12 : decode cL_cell 12 = .ok (.ldc 7, 2) := by decide +kernel
theorem dL_cell_14 : decode cL_cell 14 = .ok (.iload_n 1, 1) := by decide +kernel
theorem dL_cell_15 : decode cL_cell 15 = .ok (.bipush 9, 2) := by decide +kernel
theorem dL_cell_17 : decode cL_cell 17 = .ok (.iadd, 1) := by decide +kernel
theorem dL_cell_18 : decode cL_cell 18 = .ok (.imul, 1) := by decide +kernel
theorem dL_cell_19 : decode cL_cell 19 = .ok (.ireturn, 1) := by decide +kernel
theorem dL_low_0 : decode cL_low 0 = .ok (.iload_n 0, 1) := by decide +kernel
theorem dL_low_1 : decode cL_low 1 = .ok (.iconst 1, 1) := by decide +kernel
theorem dL_low_2 : decode cL_low 2 = .ok (.iushr, 1) := by decide +kernel
theorem dL_low_3 : decode cL_low 3 = .ok (.iload_n 1, 1) := by decide +kernel
theorem dL_low_4 : decode cL_low 4 = .ok (.irem, 1) := by decide +kernel
theorem dL_low_5 : decode cL_low 5 = .ok (.ireturn, 1) := by decide +kernel
theorem dL_useFace_0 : decode cL_useFace 0 = .ok (.aload_n 0, 1) := by decide +kernel
theorem dL_useFace_1 : decode cL_useFace 1 = .ok (.iload_n 1, 1) := by decide +kernel
theorem dL_useFace_2 : decode cL_useFace 2 = .ok (.invokevirtual 8, 3) := by decide +kernel
theorem dL_useFace_5 : decode cL_useFace 5 = .ok (.istore_n 2, 1) := by decide +kernel
theorem dL_useFace_6 : decode cL_useFace 6 = .ok (.goto 8, 3) := by decide +kernel
theorem dL_useFace_9 : decode cL_useFace 9 = .ok (.astore_n 3, 1) := by decide +kernel
theorem dL_useFace_10 : decode cL_useFace 10 = .ok (.sipush (-7100), 3) := by decide +kernel
theorem dL_useFace_13 : decode cL_useFace 13 = .ok (.ireturn, 1) := by decide +kernel
theorem dL_useFace_14 : decode cL_useFace 14 = .ok (.iload_n 2, 1) := by decide +kernel
theorem dL_useFace_15 : decode cL_useFace 15 = .ok (.ireturn, 1) := by decide +kernel
theorem dL_lookup_0 : decode cL_lookup 0 = .ok (.aload_n 0, 1) := by decide +kernel
theorem dL_lookup_1 : decode cL_lookup 1 = .ok (.iload_n 1, 1) := by decide +kernel
theorem dL_lookup_2 : decode cL_lookup 2 = .ok (.iload_n 2, 1) := by decide +kernel
theorem dL_lookup_3 : decode cL_lookup 3 = .ok (.iload_n 3, 1) := by decide +kernel
theorem dL_lookup_4 : decode cL_lookup 4 = .ok (.iload 4, 2) := by decide +kernel
theorem dL_lookup_6 : decode cL_lookup 6 = .ok (.iload 5, 2) := by decide +kernel
theorem dL_lookup_8 : decode cL_lookup 8 = .ok (.invokevirtual 16, 3) := by decide +kernel
theorem dL_lookup_11 : decode cL_lookup 11 = .ok (.istore 6, 2) := by decide +kernel
theorem dL_lookup_13 : decode cL_lookup 13 = .ok (.goto 21, 3) := by decide +kernel
theorem dL_lookup_16 : decode cL_lookup 16 = .ok (.astore 7, 2) := by decide +kernel
theorem dL_lookup_18 : decode cL_lookup 18 = .ok (.sipush (-7100), 3) := by decide +kernel
theorem dL_lookup_21 : decode cL_lookup 21 = .ok (.ireturn, 1) := by decide +kernel
theorem dL_lookup_22 : decode cL_lookup 22 = .ok (.astore 7, 2) := by decide +kernel
theorem dL_lookup_24 : decode cL_lookup 24 = .ok (.sipush (-7200), 3) := by decide +kernel
theorem dL_lookup_27 : decode cL_lookup 27 = .ok (.ireturn, 1) := by decide +kernel
theorem dL_lookup_28 : decode cL_lookup 28 = .ok (.astore 7, 2) := by decide +kernel
theorem dL_lookup_30 : decode cL_lookup 30 = .ok (.sipush (-7300), 3) := by decide +kernel
theorem dL_lookup_33 : decode cL_lookup 33 = .ok (.ireturn, 1) := by decide +kernel
theorem dL_lookup_34 : decode cL_lookup 34 = .ok (.iload 6, 2) := by decide +kernel
theorem dL_lookup_36 : decode cL_lookup 36 = .ok (.ireturn, 1) := by decide +kernel
theorem dL_rule_0 : decode cL_rule 0 = .ok (.aload_n 0, 1) := by decide +kernel
theorem dL_rule_1 : decode cL_rule 1 = .ok (.iload_n 1, 1) := by decide +kernel
theorem dL_rule_2 : decode cL_rule 2 = .ok (.iload_n 2, 1) := by decide +kernel
theorem dL_rule_3 : decode cL_rule 3 = .ok (.iload_n 3, 1) := by decide +kernel
theorem dL_rule_4 : decode cL_rule 4 = .ok (.iload 4, 2) := by decide +kernel
theorem dL_rule_6 : decode cL_rule 6 = .ok (.iload 5, 2) := by decide +kernel
theorem dL_rule_8 : decode cL_rule 8 = .ok (.iload 6, 2) := by decide +kernel
theorem dL_rule_10 : decode cL_rule 10 = .ok (.iload 7, 2) := by decide +kernel
theorem dL_rule_12 : decode cL_rule 12 = .ok (.invokevirtual 24, 3) := by decide +kernel
theorem dL_rule_15 : decode cL_rule 15 = .ok (.istore 8, 2) := by decide +kernel
theorem dL_rule_17 : decode cL_rule 17 = .ok (.goto 21, 3) := by decide +kernel
theorem dL_rule_20 : decode cL_rule 20 = .ok (.astore 9, 2) := by decide +kernel
theorem dL_rule_22 : decode cL_rule 22 = .ok (.sipush (-7100), 3) := by decide +kernel
theorem dL_rule_25 : decode cL_rule 25 = .ok (.ireturn, 1) := by decide +kernel
theorem dL_rule_26 : decode cL_rule 26 = .ok (.astore 9, 2) := by decide +kernel
theorem dL_rule_28 : decode cL_rule 28 = .ok (.sipush (-7200), 3) := by decide +kernel
theorem dL_rule_31 : decode cL_rule 31 = .ok (.ireturn, 1) := by decide +kernel
theorem dL_rule_32 : decode cL_rule 32 = .ok (.astore 9, 2) := by decide +kernel
theorem dL_rule_34 : decode cL_rule 34 = .ok (.sipush (-7300), 3) := by decide +kernel
theorem dL_rule_37 : decode cL_rule 37 = .ok (.ireturn, 1) := by decide +kernel
theorem dL_rule_38 : decode cL_rule 38 = .ok (.iload 8, 2) := by decide +kernel
theorem dL_rule_40 : decode cL_rule 40 = .ok (.ireturn, 1) := by decide +kernel
theorem dL_setMark_0 : decode cL_setMark 0 = .ok (.aload_n 0, 1) := by decide +kernel
theorem dL_setMark_1 : decode cL_setMark 1 = .ok (.iload_n 1, 1) := by decide +kernel
theorem dL_setMark_2 : decode cL_setMark 2 = .ok (.iload_n 2, 1) := by decide +kernel
theorem dL_setMark_3 : decode cL_setMark 3 = .ok (.invokevirtual 28, 3) := by decide +kernel
theorem dL_setMark_6 : decode cL_setMark 6 = .ok (.istore_n 3, 1) := by decide +kernel
theorem dL_setMark_7 : decode cL_setMark 7 = .ok (.goto 15, 3) := by decide +kernel
theorem dL_setMark_10 : decode cL_setMark 10 = .ok (.astore 4, 2) := by decide +kernel
theorem dL_setMark_12 : decode cL_setMark 12 = .ok (.sipush (-7100), 3) := by decide +kernel
theorem dL_setMark_15 : decode cL_setMark 15 = .ok (.ireturn, 1) := by decide +kernel
theorem dL_setMark_16 : decode cL_setMark 16 = .ok (.astore 4, 2) := by decide +kernel
theorem dL_setMark_18 : decode cL_setMark 18 = .ok (.sipush (-7200), 3) := by decide +kernel
theorem dL_setMark_21 : decode cL_setMark 21 = .ok (.ireturn, 1) := by decide +kernel
theorem dL_setMark_22 : decode cL_setMark 22 = .ok (.iload_n 3, 1) := by decide +kernel
theorem dL_setMark_23 : decode cL_setMark 23 = .ok (.ireturn, 1) := by decide +kernel
theorem dL_setGroup_0 : decode cL_setGroup 0 = .ok (.aload_n 0, 1) := by decide +kernel
theorem dL_setGroup_1 : decode cL_setGroup 1 = .ok (.iload_n 1, 1) := by decide +kernel
theorem dL_setGroup_2 : decode cL_setGroup 2 = .ok (.iload_n 2, 1) := by decide +kernel
theorem dL_setGroup_3 : decode cL_setGroup 3 = .ok (.invokevirtual 32, 3) := by decide +kernel
theorem dL_setGroup_6 : decode cL_setGroup 6 = .ok (.istore_n 3, 1) := by decide +kernel
theorem dL_setGroup_7 : decode cL_setGroup 7 = .ok (.goto 9, 3) := by decide +kernel
theorem dL_setGroup_10 : decode cL_setGroup 10 = .ok (.astore 4, 2) := by decide +kernel
theorem dL_setGroup_12 : decode cL_setGroup 12 = .ok (.sipush (-7100), 3) := by decide +kernel
theorem dL_setGroup_15 : decode cL_setGroup 15 = .ok (.ireturn, 1) := by decide +kernel
theorem dL_setGroup_16 : decode cL_setGroup 16 = .ok (.iload_n 3, 1) := by decide +kernel
theorem dL_setGroup_17 : decode cL_setGroup 17 = .ok (.ireturn, 1) := by decide +kernel
theorem dL_setWidth_0 : decode cL_setWidth 0 = .ok (.aload_n 0, 1) := by decide +kernel
theorem dL_setWidth_1 : decode cL_setWidth 1 = .ok (.iload_n 1, 1) := by decide +kernel
theorem dL_setWidth_2 : decode cL_setWidth 2 = .ok (.iload_n 2, 1) := by decide +kernel
theorem dL_setWidth_3 : decode cL_setWidth 3 = .ok (.invokevirtual 35, 3) := by decide +kernel
theorem dL_setWidth_6 : decode cL_setWidth 6 = .ok (.istore_n 3, 1) := by decide +kernel
theorem dL_setWidth_7 : decode cL_setWidth 7 = .ok (.goto 15, 3) := by decide +kernel
theorem dL_setWidth_10 : decode cL_setWidth 10 = .ok (.astore 4, 2) := by decide +kernel
theorem dL_setWidth_12 : decode cL_setWidth 12 = .ok (.sipush (-7100), 3) := by decide +kernel
theorem dL_setWidth_15 : decode cL_setWidth 15 = .ok (.ireturn, 1) := by decide +kernel
theorem dL_setWidth_16 : decode cL_setWidth 16 = .ok (.astore 4, 2) := by decide +kernel
theorem dL_setWidth_18 : decode cL_setWidth 18 = .ok (.sipush (-7200), 3) := by decide +kernel
theorem dL_setWidth_21 : decode cL_setWidth 21 = .ok (.ireturn, 1) := by decide +kernel
theorem dL_setWidth_22 : decode cL_setWidth 22 = .ok (.iload_n 3, 1) := by decide +kernel
theorem dL_setWidth_23 : decode cL_setWidth 23 = .ok (.ireturn, 1) := by decide +kernel
theorem dL_lack_0 : decode cL_lack 0 = .ok (.aload_n 0, 1) := by decide +kernel
theorem dL_lack_1 : decode cL_lack 1 = .ok (.iload_n 1, 1) := by decide +kernel
theorem dL_lack_2 : decode cL_lack 2 = .ok (.invokevirtual 38, 3) := by decide +kernel
theorem dL_lack_5 : decode cL_lack 5 = .ok (.istore_n 2, 1) := by decide +kernel
theorem dL_lack_6 : decode cL_lack 6 = .ok (.goto 8, 3) := by decide +kernel
theorem dL_lack_9 : decode cL_lack 9 = .ok (.astore_n 3, 1) := by decide +kernel
theorem dL_lack_10 : decode cL_lack 10 = .ok (.sipush (-7200), 3) := by decide +kernel
theorem dL_lack_13 : decode cL_lack 13 = .ok (.ireturn, 1) := by decide +kernel
theorem dL_lack_14 : decode cL_lack 14 = .ok (.iload_n 2, 1) := by decide +kernel
theorem dL_lack_15 : decode cL_lack 15 = .ok (.ifCond .eq 7, 3) := by decide +kernel
theorem dL_lack_18 : decode cL_lack 18 = .ok (.iconst 1, 1) := by decide +kernel
theorem dL_lack_19 : decode cL_lack 19 = .ok (.goto 4, 3) := by decide +kernel
theorem dL_lack_22 : decode cL_lack 22 = .ok (.iconst 0, 1) := by decide +kernel
theorem dL_lack_23 : decode cL_lack 23 = .ok (.ireturn, 1) := by decide +kernel
theorem dL_size_0 : decode cL_size 0 = .ok (.aload_n 0, 1) := by decide +kernel
theorem dL_size_1 : decode cL_size 1 = .ok (.iload_n 1, 1) := by decide +kernel
theorem dL_size_2 : decode cL_size 2 = .ok (.invokevirtual 42, 3) := by decide +kernel
theorem dL_size_5 : decode cL_size 5 = .ok (.istore_n 2, 1) := by decide +kernel
theorem dL_size_6 : decode cL_size 6 = .ok (.goto 8, 3) := by decide +kernel
theorem dL_size_9 : decode cL_size 9 = .ok (.astore_n 3, 1) := by decide +kernel
theorem dL_size_10 : decode cL_size 10 = .ok (.sipush (-7100), 3) := by decide +kernel
theorem dL_size_13 : decode cL_size 13 = .ok (.ireturn, 1) := by decide +kernel
theorem dL_size_14 : decode cL_size 14 = .ok (.iload_n 2, 1) := by decide +kernel
theorem dL_size_15 : decode cL_size 15 = .ok (.ireturn, 1) := by decide +kernel
theorem dL_insert_0 : decode cL_insert 0 = .ok (.aload_n 0, 1) := by decide +kernel
theorem dL_insert_1 : decode cL_insert 1 = .ok (.iload_n 1, 1) := by decide +kernel
theorem dL_insert_2 : decode cL_insert 2 = .ok (.iload_n 2, 1) := by decide +kernel
theorem dL_insert_3 : decode cL_insert 3 = .ok (.invokevirtual 45, 3) := by decide +kernel
theorem dL_insert_6 : decode cL_insert 6 = .ok (.istore_n 3, 1) := by decide +kernel
theorem dL_insert_7 : decode cL_insert 7 = .ok (.goto 21, 3) := by decide +kernel
theorem dL_insert_10 : decode cL_insert 10 = .ok (.astore 4, 2) := by decide +kernel
theorem dL_insert_12 : decode cL_insert 12 = .ok (.sipush (-7100), 3) := by decide +kernel
theorem dL_insert_15 : decode cL_insert 15 = .ok (.ireturn, 1) := by decide +kernel
theorem dL_insert_16 : decode cL_insert 16 = .ok (.astore 4, 2) := by decide +kernel
theorem dL_insert_18 : decode cL_insert 18 = .ok (.sipush (-7200), 3) := by decide +kernel
theorem dL_insert_21 : decode cL_insert 21 = .ok (.ireturn, 1) := by decide +kernel
theorem dL_insert_22 : decode cL_insert 22 = .ok (.astore 4, 2) := by decide +kernel
theorem dL_insert_24 : decode cL_insert 24 = .ok (.sipush (-7300), 3) := by decide +kernel
theorem dL_insert_27 : decode cL_insert 27 = .ok (.ireturn, 1) := by decide +kernel
theorem dL_insert_28 : decode cL_insert 28 = .ok (.iload_n 3, 1) := by decide +kernel
theorem dL_insert_29 : decode cL_insert 29 = .ok (.ireturn, 1) := by decide +kernel
theorem dL_cut_0 : decode cL_cut 0 = .ok (.aload_n 0, 1) := by decide +kernel
theorem dL_cut_1 : decode cL_cut 1 = .ok (.iload_n 1, 1) := by decide +kernel
theorem dL_cut_2 : decode cL_cut 2 = .ok (.invokevirtual 48, 3) := by decide +kernel
theorem dL_cut_5 : decode cL_cut 5 = .ok (.istore_n 2, 1) := by decide +kernel
theorem dL_cut_6 : decode cL_cut 6 = .ok (.goto 8, 3) := by decide +kernel
theorem dL_cut_9 : decode cL_cut 9 = .ok (.astore_n 3, 1) := by decide +kernel
theorem dL_cut_10 : decode cL_cut 10 = .ok (.sipush (-7100), 3) := by decide +kernel
theorem dL_cut_13 : decode cL_cut 13 = .ok (.ireturn, 1) := by decide +kernel
theorem dL_cut_14 : decode cL_cut 14 = .ok (.iload_n 2, 1) := by decide +kernel
theorem dL_cut_15 : decode cL_cut 15 = .ok (.ireturn, 1) := by decide +kernel
theorem dL_setTongue_0 : decode cL_setTongue 0 = .ok (.aload_n 0, 1) := by decide +kernel
theorem dL_setTongue_1 : decode cL_setTongue 1 = .ok (.iload_n 1, 1) := by decide +kernel
theorem dL_setTongue_2 : decode cL_setTongue 2 = .ok (.invokevirtual 51, 3) := by decide +kernel
theorem dL_setTongue_5 : decode cL_setTongue 5 = .ok (.istore_n 2, 1) := by decide +kernel
theorem dL_setTongue_6 : decode cL_setTongue 6 = .ok (.goto 8, 3) := by decide +kernel
theorem dL_setTongue_9 : decode cL_setTongue 9 = .ok (.astore_n 3, 1) := by decide +kernel
theorem dL_setTongue_10 : decode cL_setTongue 10 = .ok (.sipush (-7200), 3) := by decide +kernel
theorem dL_setTongue_13 : decode cL_setTongue 13 = .ok (.ireturn, 1) := by decide +kernel
theorem dL_setTongue_14 : decode cL_setTongue 14 = .ok (.iload_n 2, 1) := by decide +kernel
theorem dL_setTongue_15 : decode cL_setTongue 15 = .ok (.ireturn, 1) := by decide +kernel
theorem dL_setExtra_0 : decode cL_setExtra 0 = .ok (.aload_n 0, 1) := by decide +kernel
theorem dL_setExtra_1 : decode cL_setExtra 1 = .ok (.iload_n 1, 1) := by decide +kernel
theorem dL_setExtra_2 : decode cL_setExtra 2 = .ok (.iload_n 2, 1) := by decide +kernel
theorem dL_setExtra_3 : decode cL_setExtra 3 = .ok (.iload_n 3, 1) := by decide +kernel
theorem dL_setExtra_4 : decode cL_setExtra 4 = .ok (.invokevirtual 54, 3) := by decide +kernel
theorem dL_setExtra_7 : decode cL_setExtra 7 = .ok (.istore 4, 2) := by decide +kernel
theorem dL_setExtra_9 : decode cL_setExtra 9 = .ok (.goto 15, 3) := by decide +kernel
theorem dL_setExtra_12 : decode cL_setExtra 12 = .ok (.astore 5, 2) := by decide +kernel
theorem dL_setExtra_14 : decode cL_setExtra 14 = .ok (.sipush (-7100), 3) := by decide +kernel
theorem dL_setExtra_17 : decode cL_setExtra 17 = .ok (.ireturn, 1) := by decide +kernel
theorem dL_setExtra_18 : decode cL_setExtra 18 = .ok (.astore 5, 2) := by decide +kernel
theorem dL_setExtra_20 : decode cL_setExtra 20 = .ok (.sipush (-7200), 3) := by decide +kernel
theorem dL_setExtra_23 : decode cL_setExtra 23 = .ok (.ireturn, 1) := by decide +kernel
theorem dL_setExtra_24 : decode cL_setExtra 24 = .ok (.iload 4, 2) := by decide +kernel
theorem dL_setExtra_26 : decode cL_setExtra 26 = .ok (.ireturn, 1) := by decide +kernel
theorem dL_glyph_0 : decode cL_glyph 0 = .ok (.aload_n 0, 1) := by decide +kernel
theorem dL_glyph_1 : decode cL_glyph 1 = .ok (.iload_n 1, 1) := by decide +kernel
theorem dL_glyph_2 : decode cL_glyph 2 = .ok (.invokevirtual 58, 3) := by decide +kernel
theorem dL_glyph_5 : decode cL_glyph 5 = .ok (.istore_n 2, 1) := by decide +kernel
theorem dL_glyph_6 : decode cL_glyph 6 = .ok (.goto 8, 3) := by decide +kernel
theorem dL_glyph_9 : decode cL_glyph 9 = .ok (.astore_n 3, 1) := by decide +kernel
theorem dL_glyph_10 : decode cL_glyph 10 = .ok (.sipush (-7100), 3) := by decide +kernel
theorem dL_glyph_13 : decode cL_glyph 13 = .ok (.ireturn, 1) := by decide +kernel
theorem dL_glyph_14 : decode cL_glyph 14 = .ok (.iload_n 2, 1) := by decide +kernel
theorem dL_glyph_15 : decode cL_glyph 15 = .ok (.ireturn, 1) := by decide +kernel
theorem dL_glyphAnew_0 : decode cL_glyphAnew 0 = .ok (.aload_n 0, 1) := by decide +kernel
theorem dL_glyphAnew_1 : decode cL_glyphAnew 1 = .ok (.iload_n 1, 1) := by decide +kernel
theorem dL_glyphAnew_2 : decode cL_glyphAnew 2 = .ok (.invokevirtual 61, 3) := by decide +kernel
theorem dL_glyphAnew_5 : decode cL_glyphAnew 5 = .ok (.istore_n 2, 1) := by decide +kernel
theorem dL_glyphAnew_6 : decode cL_glyphAnew 6 = .ok (.goto 8, 3) := by decide +kernel
theorem dL_glyphAnew_9 : decode cL_glyphAnew 9 = .ok (.astore_n 3, 1) := by decide +kernel
theorem dL_glyphAnew_10 : decode cL_glyphAnew 10 = .ok (.sipush (-7100), 3) := by decide +kernel
theorem dL_glyphAnew_13 : decode cL_glyphAnew 13 = .ok (.ireturn, 1) := by decide +kernel
theorem dL_glyphAnew_14 : decode cL_glyphAnew 14 = .ok (.iload_n 2, 1) := by decide +kernel
theorem dL_glyphAnew_15 : decode cL_glyphAnew 15 = .ok (.ireturn, 1) := by decide +kernel
theorem dL_cluster_0 : decode cL_cluster 0 = .ok (.aload_n 0, 1) := by decide +kernel
theorem dL_cluster_1 : decode cL_cluster 1 = .ok (.iload_n 1, 1) := by decide +kernel
theorem dL_cluster_2 : decode cL_cluster 2 = .ok (.invokevirtual 64, 3) := by decide +kernel
theorem dL_cluster_5 : decode cL_cluster 5 = .ok (.istore_n 2, 1) := by decide +kernel
theorem dL_cluster_6 : decode cL_cluster 6 = .ok (.goto 8, 3) := by decide +kernel
theorem dL_cluster_9 : decode cL_cluster 9 = .ok (.astore_n 3, 1) := by decide +kernel
theorem dL_cluster_10 : decode cL_cluster 10 = .ok (.sipush (-7100), 3) := by decide +kernel
theorem dL_cluster_13 : decode cL_cluster 13 = .ok (.ireturn, 1) := by decide +kernel
theorem dL_cluster_14 : decode cL_cluster 14 = .ok (.iload_n 2, 1) := by decide +kernel
theorem dL_cluster_15 : decode cL_cluster 15 = .ok (.ireturn, 1) := by decide +kernel
theorem dL_place_0 : decode cL_place 0 = .ok (.aload_n 0, 1) := by decide +kernel
theorem dL_place_1 : decode cL_place 1 = .ok (.iload_n 1, 1) := by decide +kernel
theorem dL_place_2 : decode cL_place 2 = .ok (.iload_n 2, 1) := by decide +kernel
theorem dL_place_3 : decode cL_place 3 = .ok (.invokevirtual 67, 3) := by decide +kernel
theorem dL_place_6 : decode cL_place 6 = .ok (.istore_n 3, 1) := by decide +kernel
theorem dL_place_7 : decode cL_place 7 = .ok (.goto 15, 3) := by decide +kernel
theorem dL_place_10 : decode cL_place 10 = .ok (.astore 4, 2) := by decide +kernel
theorem dL_place_12 : decode cL_place 12 = .ok (.sipush (-7100), 3) := by decide +kernel
theorem dL_place_15 : decode cL_place 15 = .ok (.ireturn, 1) := by decide +kernel
theorem dL_place_16 : decode cL_place 16 = .ok (.astore 4, 2) := by decide +kernel
theorem dL_place_18 : decode cL_place 18 = .ok (.sipush (-7200), 3) := by decide +kernel
theorem dL_place_21 : decode cL_place 21 = .ok (.ireturn, 1) := by decide +kernel
theorem dL_place_22 : decode cL_place 22 = .ok (.iload_n 3, 1) := by decide +kernel
theorem dL_place_23 : decode cL_place 23 = .ok (.ireturn, 1) := by decide +kernel
theorem dL_form_0 : decode cL_form 0 = .ok (.aload_n 0, 1) := by decide +kernel
theorem dL_form_1 : decode cL_form 1 = .ok (.iload_n 1, 1) := by decide +kernel
theorem dL_form_2 : decode cL_form 2 = .ok (.invokevirtual 70, 3) := by decide +kernel
theorem dL_form_5 : decode cL_form 5 = .ok (.istore_n 2, 1) := by decide +kernel
theorem dL_form_6 : decode cL_form 6 = .ok (.goto 8, 3) := by decide +kernel
theorem dL_form_9 : decode cL_form 9 = .ok (.astore_n 3, 1) := by decide +kernel
theorem dL_form_10 : decode cL_form 10 = .ok (.sipush (-7100), 3) := by decide +kernel
theorem dL_form_13 : decode cL_form 13 = .ok (.ireturn, 1) := by decide +kernel
theorem dL_form_14 : decode cL_form 14 = .ok (.iload_n 2, 1) := by decide +kernel
theorem dL_form_15 : decode cL_form 15 = .ok (.ireturn, 1) := by decide +kernel
theorem dL_run_0 : decode cL_run 0 = .ok (.aload_n 0, 1) := by decide +kernel
theorem dL_run_1 : decode cL_run 1 = .ok (.iload_n 1, 1) := by decide +kernel
theorem dL_run_2 : decode cL_run 2 = .ok (.invokevirtual 73, 3) := by decide +kernel
theorem dL_run_5 : decode cL_run 5 = .ok (.istore_n 2, 1) := by decide +kernel
theorem dL_run_6 : decode cL_run 6 = .ok (.goto 8, 3) := by decide +kernel
theorem dL_run_9 : decode cL_run 9 = .ok (.astore_n 3, 1) := by decide +kernel
theorem dL_run_10 : decode cL_run 10 = .ok (.sipush (-7100), 3) := by decide +kernel
theorem dL_run_13 : decode cL_run 13 = .ok (.ireturn, 1) := by decide +kernel
theorem dL_run_14 : decode cL_run 14 = .ok (.iload_n 2, 1) := by decide +kernel
theorem dL_run_15 : decode cL_run 15 = .ok (.ireturn, 1) := by decide +kernel
theorem dL_caret_0 : decode cL_caret 0 = .ok (.aload_n 0, 1) := by decide +kernel
theorem dL_caret_1 : decode cL_caret 1 = .ok (.iload_n 1, 1) := by decide +kernel
theorem dL_caret_2 : decode cL_caret 2 = .ok (.invokevirtual 76, 3) := by decide +kernel
theorem dL_caret_5 : decode cL_caret 5 = .ok (.istore_n 2, 1) := by decide +kernel
theorem dL_caret_6 : decode cL_caret 6 = .ok (.goto 8, 3) := by decide +kernel
theorem dL_caret_9 : decode cL_caret 9 = .ok (.astore_n 3, 1) := by decide +kernel
theorem dL_caret_10 : decode cL_caret 10 = .ok (.sipush (-7100), 3) := by decide +kernel
theorem dL_caret_13 : decode cL_caret 13 = .ok (.ireturn, 1) := by decide +kernel
theorem dL_caret_14 : decode cL_caret 14 = .ok (.iload_n 2, 1) := by decide +kernel
theorem dL_caret_15 : decode cL_caret 15 = .ok (.ireturn, 1) := by decide +kernel
theorem dL_hit_0 : decode cL_hit 0 = .ok (.aload_n 0, 1) := by decide +kernel
theorem dL_hit_1 : decode cL_hit 1 = .ok (.iload_n 1, 1) := by decide +kernel
theorem dL_hit_2 : decode cL_hit 2 = .ok (.invokevirtual 79, 3) := by decide +kernel
theorem dL_hit_5 : decode cL_hit 5 = .ok (.istore_n 2, 1) := by decide +kernel
theorem dL_hit_6 : decode cL_hit 6 = .ok (.goto 8, 3) := by decide +kernel
theorem dL_hit_9 : decode cL_hit 9 = .ok (.astore_n 3, 1) := by decide +kernel
theorem dL_hit_10 : decode cL_hit 10 = .ok (.sipush (-7200), 3) := by decide +kernel
theorem dL_hit_13 : decode cL_hit 13 = .ok (.ireturn, 1) := by decide +kernel
theorem dL_hit_14 : decode cL_hit 14 = .ok (.iload_n 2, 1) := by decide +kernel
theorem dL_hit_15 : decode cL_hit 15 = .ok (.ireturn, 1) := by decide +kernel
theorem dL_isSafe_0 : decode cL_isSafe 0 = .ok (.aload_n 0, 1) := by decide +kernel
theorem dL_isSafe_1 : decode cL_isSafe 1 = .ok (.iload_n 1, 1) := by decide +kernel
theorem dL_isSafe_2 : decode cL_isSafe 2 = .ok (.invokevirtual 82, 3) := by decide +kernel
theorem dL_isSafe_5 : decode cL_isSafe 5 = .ok (.istore_n 2, 1) := by decide +kernel
theorem dL_isSafe_6 : decode cL_isSafe 6 = .ok (.goto 8, 3) := by decide +kernel
theorem dL_isSafe_9 : decode cL_isSafe 9 = .ok (.astore_n 3, 1) := by decide +kernel
theorem dL_isSafe_10 : decode cL_isSafe 10 = .ok (.sipush (-7100), 3) := by decide +kernel
theorem dL_isSafe_13 : decode cL_isSafe 13 = .ok (.ireturn, 1) := by decide +kernel
theorem dL_isSafe_14 : decode cL_isSafe 14 = .ok (.iload_n 2, 1) := by decide +kernel
theorem dL_isSafe_15 : decode cL_isSafe 15 = .ok (.ifCond .eq 7, 3) := by decide +kernel
theorem dL_isSafe_18 : decode cL_isSafe 18 = .ok (.iconst 1, 1) := by decide +kernel
theorem dL_isSafe_19 : decode cL_isSafe 19 = .ok (.goto 4, 3) := by decide +kernel
theorem dL_isSafe_22 : decode cL_isSafe 22 = .ok (.iconst 0, 1) := by decide +kernel
theorem dL_isSafe_23 : decode cL_isSafe 23 = .ok (.ireturn, 1) := by decide +kernel
theorem dL_fill_0 : decode cL_fill 0 = .ok (.aload_n 0, 1) := by decide +kernel
theorem dL_fill_1 : decode cL_fill 1 = .ok (.iload_n 1, 1) := by decide +kernel
theorem dL_fill_2 : decode cL_fill 2 = .ok (.invokevirtual 85, 3) := by decide +kernel
theorem dL_fill_5 : decode cL_fill 5 = .ok (.istore_n 2, 1) := by decide +kernel
theorem dL_fill_6 : decode cL_fill 6 = .ok (.goto 8, 3) := by decide +kernel
theorem dL_fill_9 : decode cL_fill 9 = .ok (.astore_n 3, 1) := by decide +kernel
theorem dL_fill_10 : decode cL_fill 10 = .ok (.sipush (-7200), 3) := by decide +kernel
theorem dL_fill_13 : decode cL_fill 13 = .ok (.ireturn, 1) := by decide +kernel
theorem dL_fill_14 : decode cL_fill 14 = .ok (.iload_n 2, 1) := by decide +kernel
theorem dL_fill_15 : decode cL_fill 15 = .ok (.ireturn, 1) := by decide +kernel
theorem dL_filling_0 : decode cL_filling 0 = .ok (.aload_n 0, 1) := by decide +kernel
theorem dL_filling_1 : decode cL_filling 1 = .ok (.iload_n 1, 1) := by decide +kernel
theorem dL_filling_2 : decode cL_filling 2 = .ok (.iload_n 2, 1) := by decide +kernel
theorem dL_filling_3 : decode cL_filling 3 = .ok (.invokevirtual 88, 3) := by decide +kernel
theorem dL_filling_6 : decode cL_filling 6 = .ok (.istore_n 3, 1) := by decide +kernel
theorem dL_filling_7 : decode cL_filling 7 = .ok (.goto 15, 3) := by decide +kernel
theorem dL_filling_10 : decode cL_filling 10 = .ok (.astore 4, 2) := by decide +kernel
theorem dL_filling_12 : decode cL_filling 12 = .ok (.sipush (-7100), 3) := by decide +kernel
theorem dL_filling_15 : decode cL_filling 15 = .ok (.ireturn, 1) := by decide +kernel
theorem dL_filling_16 : decode cL_filling 16 = .ok (.astore 4, 2) := by decide +kernel
theorem dL_filling_18 : decode cL_filling 18 = .ok (.sipush (-7200), 3) := by decide +kernel
theorem dL_filling_21 : decode cL_filling 21 = .ok (.ireturn, 1) := by decide +kernel
theorem dL_filling_22 : decode cL_filling 22 = .ok (.iload_n 3, 1) := by decide +kernel
theorem dL_filling_23 : decode cL_filling 23 = .ok (.ireturn, 1) := by decide +kernel
theorem dL_of_0 : decode cL_of 0 = .ok (.iload_n 0, 1) := by decide +kernel
theorem dL_of_1 : decode cL_of 1 = .ok (.bipush 45, 2) := by decide +kernel
theorem dL_of_3 : decode cL_of 3 = .ok (.if_icmp .ge 7, 3) := by decide +kernel
theorem dL_of_6 : decode cL_of 6 = .ok (.iload_n 0, 1) := by decide +kernel
theorem dL_of_7 : decode cL_of 7 = .ok (.goto 7, 3) := by decide +kernel
theorem dL_of_10 : decode cL_of 10 = .ok (.iload_n 0, 1) := by decide +kernel
theorem dL_of_11 : decode cL_of 11 = .ok (.bipush 19, 2) := by decide +kernel
theorem dL_of_13 : decode cL_of 13 = .ok (.isub, 1) := by decide +kernel
theorem dL_of_14 : decode cL_of 14 = .ok (.ireturn, 1) := by decide +kernel
theorem dL_mark_0 : decode cL_mark 0 = .ok (.aload_n 0, 1) := by decide +kernel
theorem dL_mark_1 : decode cL_mark 1 = .ok (.iload_n 2, 1) := by decide +kernel
theorem dL_mark_2 : decode cL_mark 2 = .ok (.invokestatic 91, 3) := by decide +kernel
theorem dL_mark_5 : decode cL_mark 5 = .ok (.iaload, 1) := by decide +kernel
theorem dL_mark_6 : decode cL_mark 6 = .ok (.bipush 13, 2) := by decide +kernel
theorem dL_mark_8 : decode cL_mark 8 = .ok (.iload_n 1, 1) := by decide +kernel
theorem dL_mark_9 : decode cL_mark 9 = .ok (.imul, 1) := by decide +kernel
theorem dL_mark_10 : decode cL_mark 10 = .ok (.ishr, 1) := by decide +kernel
theorem dL_mark_11 : decode cL_mark 11 = .ok (.bipush 7, 2) := by decide +kernel
theorem dL_mark_13 : decode cL_mark 13 = .ok (.iand, 1) := by decide +kernel
theorem dL_mark_14 : decode cL_mark 14 = .ok (.iconst 1, 1) := by decide +kernel
theorem dL_mark_15 : decode cL_mark 15 = .ok (.isub, 1) := by decide +kernel
theorem dL_mark_16 : decode cL_mark 16 = .ok (.ireturn, 1) := by decide +kernel
theorem dL_glyphOf_0 : decode cL_glyphOf 0 = .ok (.lload_n 0, 1) := by decide +kernel
theorem dL_glyphOf_1 : decode cL_glyphOf 1 = .ok (.ldc2_w 96, 3) := by decide +kernel
theorem dL_glyphOf_4 : decode cL_glyphOf 4 = .ok (.land, 1) := by decide +kernel
theorem dL_glyphOf_5 : decode cL_glyphOf 5 = .ok (.l2i, 1) := by decide +kernel
theorem dL_glyphOf_6 : decode cL_glyphOf 6 = .ok (.ireturn, 1) := by decide +kernel
theorem dL_part_0 : decode cL_part 0 = .ok (.lload_n 0, 1) := by decide +kernel
theorem dL_part_1 : decode cL_part 1 = .ok (.iload_n 2, 1) := by decide +kernel
theorem dL_part_2 : decode cL_part 2 = .ok (.lshr, 1) := by decide +kernel
theorem dL_part_3 : decode cL_part 3 = .ok (.l2i, 1) := by decide +kernel
theorem dL_part_4 : decode cL_part 4 = .ok (.iload_n 3, 1) := by decide +kernel
theorem dL_part_5 : decode cL_part 5 = .ok (.iand, 1) := by decide +kernel
theorem dL_part_6 : decode cL_part 6 = .ok (.ireturn, 1) := by decide +kernel
theorem dL_with_0 : decode cL_with 0 = .ok (.lload_n 0, 1) := by decide +kernel
theorem dL_with_1 : decode cL_with 1 = .ok (.iload_n 3, 1) := by decide +kernel
theorem dL_with_2 : decode cL_with 2 = .ok (.i2l, 1) := by decide +kernel
theorem dL_with_3 : decode cL_with 3 = .ok (.iload_n 2, 1) := by decide +kernel
theorem dL_with_4 : decode cL_with 4 = .ok (.lshl, 1) := by decide +kernel
theorem dL_with_5 : decode cL_with 5 = .ok (.ldc2_w 98, 3) := by decide +kernel
theorem dL_with_8 : decode cL_with 8 = .ok (.lxor, 1) := by decide +kernel
theorem dL_with_9 : decode cL_with 9 = .ok (.land, 1) := by decide +kernel
theorem dL_with_10 : decode cL_with 10 = .ok (.iload 4, 2) := by decide +kernel
theorem dL_with_12 : decode cL_with 12 = .ok (.i2l, 1) := by decide +kernel
theorem dL_with_13 : decode cL_with 13 = .ok (.iload_n 2, 1) := by decide +kernel
theorem dL_with_14 : decode cL_with 14 = .ok (.lshl, 1) := by decide +kernel
theorem dL_with_15 : decode cL_with 15 = .ok (.lor, 1) := by decide +kernel
theorem dL_with_16 : decode cL_with 16 = .ok (.lreturn, 1) := by decide +kernel
theorem dL_packed_0 : decode cL_packed 0 = .ok (.iload_n 0, 1) := by decide +kernel
theorem dL_packed_1 : decode cL_packed 1 = .ok (.i2l, 1) := by decide +kernel
theorem dL_packed_2 : decode cL_packed 2 = .ok (.ldc2_w 100, 3) := by decide +kernel
theorem dL_packed_5 : decode cL_packed 5 = .ok (.iload_n 1, 1) := by decide +kernel
theorem dL_packed_6 : decode cL_packed 6 = .ok (.i2l, 1) := by decide +kernel
theorem dL_packed_7 : decode cL_packed 7 = .ok (.lmul, 1) := by decide +kernel
theorem dL_packed_8 : decode cL_packed 8 = .ok (.ladd, 1) := by decide +kernel
theorem dL_packed_9 : decode cL_packed 9 = .ok (.ldc2_w 102, 3) := by decide +kernel
theorem dL_packed_12 : decode cL_packed 12 = .ok (.iload_n 2, 1) := by decide +kernel
theorem dL_packed_13 : decode cL_packed 13 = .ok (.i2l, 1) := by decide +kernel
theorem dL_packed_14 : decode cL_packed 14 = .ok (.lmul, 1) := by decide +kernel
theorem dL_packed_15 : decode cL_packed 15 = .ok (.ladd, 1) := by decide +kernel
theorem dL_packed_16 : decode cL_packed 16 = .ok (.iload_n 3, 1) := by decide +kernel
theorem dL_packed_17 : decode cL_packed 17 = .ok (.i2l, 1) := by decide +kernel
theorem dL_packed_18 : decode cL_packed 18 = .ok (.bipush 15, 2) := by decide +kernel
theorem dL_packed_20 : decode cL_packed 20 = .ok (.lshl, 1) := by decide +kernel
theorem dL_packed_21 : decode cL_packed 21 = .ok (.ladd, 1) := by decide +kernel
theorem dL_packed_22 : decode cL_packed 22 = .ok (.ldc2_w 104, 3) := by decide +kernel
theorem dL_packed_25 : decode cL_packed 25 = .ok (.ladd, 1) := by decide +kernel
theorem dL_packed_26 : decode cL_packed 26 = .ok (.iload_n 0, 1) := by decide +kernel
theorem dL_packed_27 : decode cL_packed 27 = .ok (.i2l, 1) := by decide +kernel
theorem dL_packed_28 : decode cL_packed 28 = .ok (.bipush 53, 2) := by decide +kernel
theorem dL_packed_30 : decode cL_packed 30 = .ok (.lshl, 1) := by decide +kernel
theorem dL_packed_31 : decode cL_packed 31 = .ok (.ladd, 1) := by decide +kernel
theorem dL_packed_32 : decode cL_packed 32 = .ok (.lreturn, 1) := by decide +kernel
theorem dL_number_0 : decode cL_number 0 = .ok (.aload_n 0, 1) := by decide +kernel
theorem dL_number_1 : decode cL_number 1 = .ok (.iconst 4, 1) := by decide +kernel
theorem dL_number_2 : decode cL_number 2 = .ok (.iload_n 1, 1) := by decide +kernel
theorem dL_number_3 : decode cL_number 3 = .ok (.imul, 1) := by decide +kernel
theorem dL_number_4 : decode cL_number 4 = .ok (.iload_n 2, 1) := by decide +kernel
theorem dL_number_5 : decode cL_number 5 = .ok (.iadd, 1) := by decide +kernel
theorem dL_number_6 : decode cL_number 6 = .ok (.laload, 1) := by decide +kernel
theorem dL_number_7 : decode cL_number 7 = .ok (.bipush 10, 2) := by decide +kernel
theorem dL_number_9 : decode cL_number 9 = .ok (.iload_n 3, 1) := by decide +kernel
theorem dL_number_10 : decode cL_number 10 = .ok (.imul, 1) := by decide +kernel
theorem dL_number_11 : decode cL_number 11 = .ok (.lshr, 1) := by decide +kernel
theorem dL_number_12 : decode cL_number 12 = .ok (.ldc2_w 106, 3) := by decide +kernel
theorem dL_number_15 : decode cL_number 15 = .ok (.land, 1) := by decide +kernel
theorem dL_number_16 : decode cL_number 16 = .ok (.l2i, 1) := by decide +kernel
theorem dL_number_17 : decode cL_number 17 = .ok (.bipush 100, 2) := by decide +kernel
theorem dL_number_19 : decode cL_number 19 = .ok (.isub, 1) := by decide +kernel
theorem dL_number_20 : decode cL_number 20 = .ok (.ireturn, 1) := by decide +kernel
theorem dL_is_0 : decode cL_is 0 = .ok (.iload_n 2, 1) := by decide +kernel
theorem dL_is_1 : decode cL_is 1 = .ok (.sipush 300, 3) := by decide +kernel
theorem dL_is_4 : decode cL_is 4 = .ok (.if_icmp .ge 16, 3) := by decide +kernel
theorem dL_is_7 : decode cL_is 7 = .ok (.iload_n 2, 1) := by decide +kernel
theorem dL_is_8 : decode cL_is 8 = .ok (.iload_n 3, 1) := by decide +kernel
theorem dL_is_9 : decode cL_is 9 = .ok (.if_icmp .ne 7, 3) := by decide +kernel
theorem dL_is_12 : decode cL_is 12 = .ok (.iconst 1, 1) := by decide +kernel
theorem dL_is_13 : decode cL_is 13 = .ok (.goto 36, 3) := by decide +kernel
theorem dL_is_16 : decode cL_is 16 = .ok (.iconst 0, 1) := by decide +kernel
theorem dL_is_17 : decode cL_is 17 = .ok (.goto 32, 3) := by decide +kernel
theorem dL_is_20 : decode cL_is 20 = .ok (.aload_n 0, 1) := by decide +kernel
theorem dL_is_21 : decode cL_is 21 = .ok (.iload_n 3, 1) := by decide +kernel
theorem dL_is_22 : decode cL_is 22 = .ok (.invokestatic 91, 3) := by decide +kernel
theorem dL_is_25 : decode cL_is 25 = .ok (.iaload, 1) := by decide +kernel
theorem dL_is_26 : decode cL_is 26 = .ok (.bipush 13, 2) := by decide +kernel
theorem dL_is_28 : decode cL_is 28 = .ok (.iload_n 1, 1) := by decide +kernel
theorem dL_is_29 : decode cL_is 29 = .ok (.imul, 1) := by decide +kernel
theorem dL_is_30 : decode cL_is 30 = .ok (.iconst 3, 1) := by decide +kernel
theorem dL_is_31 : decode cL_is 31 = .ok (.iadd, 1) := by decide +kernel
theorem dL_is_32 : decode cL_is 32 = .ok (.ishr, 1) := by decide +kernel
theorem dL_is_33 : decode cL_is 33 = .ok (.bipush 7, 2) := by decide +kernel
theorem dL_is_35 : decode cL_is 35 = .ok (.iand, 1) := by decide +kernel
theorem dL_is_36 : decode cL_is 36 = .ok (.iload_n 2, 1) := by decide +kernel
theorem dL_is_37 : decode cL_is 37 = .ok (.sipush 300, 3) := by decide +kernel
theorem dL_is_40 : decode cL_is 40 = .ok (.isub, 1) := by decide +kernel
theorem dL_is_41 : decode cL_is 41 = .ok (.if_icmp .ne 7, 3) := by decide +kernel
theorem dL_is_44 : decode cL_is 44 = .ok (.iconst 1, 1) := by decide +kernel
theorem dL_is_45 : decode cL_is 45 = .ok (.goto 4, 3) := by decide +kernel
theorem dL_is_48 : decode cL_is 48 = .ok (.iconst 0, 1) := by decide +kernel
theorem dL_is_49 : decode cL_is 49 = .ok (.ireturn, 1) := by decide +kernel
theorem dL_passed_0 : decode cL_passed 0 = .ok (.aload_n 1, 1) := by decide +kernel
theorem dL_passed_1 : decode cL_passed 1 = .ok (.iload_n 2, 1) := by decide +kernel
theorem dL_passed_2 : decode cL_passed 2 = .ok (.lload 4, 2) := by decide +kernel
theorem dL_passed_4 : decode cL_passed 4 = .ok (.invokestatic 108, 3) := by decide +kernel
theorem dL_passed_7 : decode cL_passed 7 = .ok (.invokestatic 112, 3) := by decide +kernel
theorem dL_passed_10 : decode cL_passed 10 = .ok (.istore 6, 2) := by decide +kernel
theorem dL_passed_12 : decode cL_passed 12 = .ok (.aload_n 0, 1) := by decide +kernel
theorem dL_passed_13 : decode cL_passed 13 = .ok (.iload_n 3, 1) := by decide +kernel
theorem dL_passed_14 : decode cL_passed 14 = .ok (.iaload, 1) := by decide +kernel
theorem dL_passed_15 : decode cL_passed 15 = .ok (.bipush 10, 2) := by decide +kernel
theorem dL_passed_17 : decode cL_passed 17 = .ok (.ishr, 1) := by decide +kernel
theorem dL_passed_18 : decode cL_passed 18 = .ok (.bipush 7, 2) := by decide +kernel
theorem dL_passed_20 : decode cL_passed 20 = .ok (.iand, 1) := by decide +kernel
theorem dL_passed_21 : decode cL_passed 21 = .ok (.istore 7, 2) := by decide +kernel
theorem dL_passed_23 : decode cL_passed 23 = .ok (.iload 6, 2) := by decide +kernel
theorem dL_passed_25 : decode cL_passed 25 = .ok (.ifCond .lt 28, 3) := by decide +kernel
theorem dL_passed_28 : decode cL_passed 28 = .ok (.iload 7, 2) := by decide +kernel
theorem dL_passed_30 : decode cL_passed 30 = .ok (.iconst 1, 1) := by decide +kernel
theorem dL_passed_31 : decode cL_passed 31 = .ok (.if_icmp .eq 18, 3) := by decide +kernel
theorem dL_passed_34 : decode cL_passed 34 = .ok (.iload 7, 2) := by decide +kernel
theorem dL_passed_36 : decode cL_passed 36 = .ok (.iconst 1, 1) := by decide +kernel
theorem dL_passed_37 : decode cL_passed 37 = .ok (.if_icmp .le 16, 3) := by decide +kernel
theorem dL_passed_40 : decode cL_passed 40 = .ok (.iload 6, 2) := by decide +kernel
theorem dL_passed_42 : decode cL_passed 42 = .ok (.iload 7, 2) := by decide +kernel
theorem dL_passed_44 : decode cL_passed 44 = .ok (.iconst 2, 1) := by decide +kernel
theorem dL_passed_45 : decode cL_passed 45 = .ok (.isub, 1) := by decide +kernel
theorem dL_passed_46 : decode cL_passed 46 = .ok (.if_icmp .eq 7, 3) := by decide +kernel
theorem dL_passed_49 : decode cL_passed 49 = .ok (.iconst 1, 1) := by decide +kernel
theorem dL_passed_50 : decode cL_passed 50 = .ok (.goto 4, 3) := by decide +kernel
theorem dL_passed_53 : decode cL_passed 53 = .ok (.iconst 0, 1) := by decide +kernel
theorem dL_passed_54 : decode cL_passed 54 = .ok (.ireturn, 1) := by decide +kernel
theorem dL_has_0 : decode cL_has 0 = .ok (.aload_n 0, 1) := by decide +kernel
theorem dL_has_1 : decode cL_has 1 = .ok (.iload_n 1, 1) := by decide +kernel
theorem dL_has_2 : decode cL_has 2 = .ok (.iaload, 1) := by decide +kernel
theorem dL_has_3 : decode cL_has 3 = .ok (.iconst 4, 1) := by decide +kernel
theorem dL_has_4 : decode cL_has 4 = .ok (.ishr, 1) := by decide +kernel
theorem dL_has_5 : decode cL_has 5 = .ok (.bipush 7, 2) := by decide +kernel
theorem dL_has_7 : decode cL_has 7 = .ok (.iand, 1) := by decide +kernel
theorem dL_has_8 : decode cL_has 8 = .ok (.istore 4, 2) := by decide +kernel
theorem dL_has_10 : decode cL_has 10 = .ok (.iload 4, 2) := by decide +kernel
theorem dL_has_12 : decode cL_has 12 = .ok (.ifCond .eq 40, 3) := by decide +kernel
theorem dL_has_15 : decode cL_has 15 = .ok (.iload 4, 2) := by decide +kernel
theorem dL_has_17 : decode cL_has 17 = .ok (.iconst 5, 1) := by decide +kernel
theorem dL_has_18 : decode cL_has 18 = .ok (.if_icmp .ge 18, 3) := by decide +kernel
theorem dL_has_21 : decode cL_has 21 = .ok (.lload_n 2, 1) := by decide +kernel
theorem dL_has_22 : decode cL_has 22 = .ok (.bipush 12, 2) := by decide +kernel
theorem dL_has_24 : decode cL_has 24 = .ok (.bipush 7, 2) := by decide +kernel
theorem dL_has_26 : decode cL_has 26 = .ok (.invokestatic 116, 3) := by decide +kernel
theorem dL_has_29 : decode cL_has 29 = .ok (.iload 4, 2) := by decide +kernel
theorem dL_has_31 : decode cL_has 31 = .ok (.iconst 1, 1) := by decide +kernel
theorem dL_has_32 : decode cL_has 32 = .ok (.isub, 1) := by decide +kernel
theorem dL_has_33 : decode cL_has 33 = .ok (.if_icmp .eq 19, 3) := by decide +kernel
theorem dL_has_36 : decode cL_has 36 = .ok (.iload 4, 2) := by decide +kernel
theorem dL_has_38 : decode cL_has 38 = .ok (.iconst 5, 1) := by decide +kernel
theorem dL_has_39 : decode cL_has 39 = .ok (.if_icmp .ne 17, 3) := by decide +kernel
theorem dL_has_42 : decode cL_has 42 = .ok (.lload_n 2, 1) := by decide +kernel
theorem dL_has_43 : decode cL_has 43 = .ok (.bipush 15, 2) := by decide +kernel
theorem dL_has_45 : decode cL_has 45 = .ok (.iconst 3, 1) := by decide +kernel
theorem dL_has_46 : decode cL_has 46 = .ok (.invokestatic 116, 3) := by decide +kernel
theorem dL_has_49 : decode cL_has 49 = .ok (.ifCond .le 7, 3) := by decide +kernel
theorem dL_has_52 : decode cL_has 52 = .ok (.iconst 1, 1) := by decide +kernel
theorem dL_has_53 : decode cL_has 53 = .ok (.goto 4, 3) := by decide +kernel
theorem dL_has_56 : decode cL_has 56 = .ok (.iconst 0, 1) := by decide +kernel
theorem dL_has_57 : decode cL_has 57 = .ok (.ireturn, 1) := by decide +kernel
theorem dL_next_0 : decode cL_next 0 = .ok (.iload 5, 2) := by decide +kernel
theorem dL_next_2 : decode cL_next 2 = .ok (.iload 6, 2) := by decide +kernel
theorem dL_next_4 : decode cL_next 4 = .ok (.iadd, 1) := by decide +kernel
theorem dL_next_5 : decode cL_next 5 = .ok (.istore 7, 2) := by decide +kernel
theorem dL_next_7 : decode cL_next 7 = .ok (.iload 7, 2) := by decide +kernel
theorem dL_next_9 : decode cL_next 9 = .ok (.ifCond .lt 42, 3) := by decide +kernel
theorem dL_next_12 : decode cL_next 12 = .ok (.iload 7, 2) := by decide +kernel
theorem dL_next_14 : decode cL_next 14 = .ok (.aload_n 3, 1) := by decide +kernel
theorem dL_next_15 : decode cL_next 15 = .ok (.iconst 5, 1) := by decide +kernel
theorem dL_next_16 : decode cL_next 16 = .ok (.iaload, 1) := by decide +kernel
theorem dL_next_17 : decode cL_next 17 = .ok (.if_icmp .ge 34, 3) := by decide +kernel
theorem dL_next_20 : decode cL_next 20 = .ok (.aload_n 1, 1) := by decide +kernel
theorem dL_next_21 : decode cL_next 21 = .ok (.aload_n 2, 1) := by decide +kernel
theorem dL_next_22 : decode cL_next 22 = .ok (.aload_n 3, 1) := by decide +kernel
theorem dL_next_23 : decode cL_next 23 = .ok (.bipush 6, 2) := by decide +kernel
theorem dL_next_25 : decode cL_next 25 = .ok (.iaload, 1) := by decide +kernel
theorem dL_next_26 : decode cL_next 26 = .ok (.iload 4, 2) := by decide +kernel
theorem dL_next_28 : decode cL_next 28 = .ok (.aload_n 0, 1) := by decide +kernel
theorem dL_next_29 : decode cL_next 29 = .ok (.iload 7, 2) := by decide +kernel
theorem dL_next_31 : decode cL_next 31 = .ok (.laload, 1) := by decide +kernel
theorem dL_next_32 : decode cL_next 32 = .ok (.invokestatic 120, 3) := by decide +kernel
theorem dL_next_35 : decode cL_next 35 = .ok (.ifCond .ne 6, 3) := by decide +kernel
theorem dL_next_38 : decode cL_next 38 = .ok (.iload 7, 2) := by decide +kernel
theorem dL_next_40 : decode cL_next 40 = .ok (.ireturn, 1) := by decide +kernel
theorem dL_next_41 : decode cL_next 41 = .ok (.iload 7, 2) := by decide +kernel
theorem dL_next_43 : decode cL_next 43 = .ok (.iload 6, 2) := by decide +kernel
theorem dL_next_45 : decode cL_next 45 = .ok (.iadd, 1) := by decide +kernel
theorem dL_next_46 : decode cL_next 46 = .ok (.istore 7, 2) := by decide +kernel
theorem dL_next_48 : decode cL_next 48 = .ok (.goto (-41), 3) := by decide +kernel
theorem dL_next_51 : decode cL_next 51 = .ok (.iconst (-1), 1) := by decide +kernel
theorem dL_next_52 : decode cL_next 52 = .ok (.ireturn, 1) := by decide +kernel
theorem dL_put_0 : decode cL_put 0 = .ok (.aload_n 1, 1) := by decide +kernel
theorem dL_put_1 : decode cL_put 1 = .ok (.iconst 5, 1) := by decide +kernel
theorem dL_put_2 : decode cL_put 2 = .ok (.iaload, 1) := by decide +kernel
theorem dL_put_3 : decode cL_put 3 = .ok (.istore 5, 2) := by decide +kernel
theorem dL_put_5 : decode cL_put 5 = .ok (.iload 5, 2) := by decide +kernel
theorem dL_put_7 : decode cL_put 7 = .ok (.iload_n 2, 1) := by decide +kernel
theorem dL_put_8 : decode cL_put 8 = .ok (.if_icmp .le 19, 3) := by decide +kernel
theorem dL_put_11 : decode cL_put 11 = .ok (.aload_n 0, 1) := by decide +kernel
theorem dL_put_12 : decode cL_put 12 = .ok (.iload 5, 2) := by decide +kernel
theorem dL_put_14 : decode cL_put 14 = .ok (.aload_n 0, 1) := by decide +kernel
theorem dL_put_15 : decode cL_put 15 = .ok (.iload 5, 2) := by decide +kernel
theorem dL_put_17 : decode cL_put 17 = .ok (.iconst 1, 1) := by decide +kernel
theorem dL_put_18 : decode cL_put 18 = .ok (.isub, 1) := by decide +kernel
theorem dL_put_19 : decode cL_put 19 = .ok (.laload, 1) := by decide +kernel
theorem dL_put_20 : decode cL_put 20 = .ok (.lastore, 1) := by decide +kernel
theorem dL_put_21 : decode cL_put 21 = .ok (.iinc 5 (-1), 3) := by decide +kernel
theorem dL_put_24 : decode cL_put 24 = .ok (.goto (-19), 3) := by decide +kernel
theorem dL_put_27 : decode cL_put 27 = .ok (.aload_n 0, 1) := by decide +kernel
theorem dL_put_28 : decode cL_put 28 = .ok (.iload_n 2, 1) := by decide +kernel
theorem dL_put_29 : decode cL_put 29 = .ok (.lload_n 3, 1) := by decide +kernel
theorem dL_put_30 : decode cL_put 30 = .ok (.lastore, 1) := by decide +kernel
theorem dL_put_31 : decode cL_put 31 = .ok (.aload_n 1, 1) := by decide +kernel
theorem dL_put_32 : decode cL_put 32 = .ok (.iconst 5, 1) := by decide +kernel
theorem dL_put_33 : decode cL_put 33 = .ok (.dup2, 1) := by decide +kernel
theorem dL_put_34 : decode cL_put 34 = .ok (.iaload, 1) := by decide +kernel
theorem dL_put_35 : decode cL_put 35 = .ok (.iconst 1, 1) := by decide +kernel
theorem dL_put_36 : decode cL_put 36 = .ok (.iadd, 1) := by decide +kernel
theorem dL_put_37 : decode cL_put 37 = .ok (.iastore, 1) := by decide +kernel
theorem dL_put_38 : decode cL_put 38 = .ok (.aload_n 1, 1) := by decide +kernel
theorem dL_put_39 : decode cL_put 39 = .ok (.bipush 7, 2) := by decide +kernel
theorem dL_put_41 : decode cL_put 41 = .ok (.iaload, 1) := by decide +kernel
theorem dL_put_42 : decode cL_put 42 = .ok (.iload_n 2, 1) := by decide +kernel
theorem dL_put_43 : decode cL_put 43 = .ok (.if_icmp .lt 11, 3) := by decide +kernel
theorem dL_put_46 : decode cL_put 46 = .ok (.aload_n 1, 1) := by decide +kernel
theorem dL_put_47 : decode cL_put 47 = .ok (.bipush 7, 2) := by decide +kernel
theorem dL_put_49 : decode cL_put 49 = .ok (.dup2, 1) := by decide +kernel
theorem dL_put_50 : decode cL_put 50 = .ok (.iaload, 1) := by decide +kernel
theorem dL_put_51 : decode cL_put 51 = .ok (.iconst 1, 1) := by decide +kernel
theorem dL_put_52 : decode cL_put 52 = .ok (.iadd, 1) := by decide +kernel
theorem dL_put_53 : decode cL_put 53 = .ok (.iastore, 1) := by decide +kernel
theorem dL_put_54 : decode cL_put 54 = .ok (.return_, 1) := by decide +kernel
theorem dL_take_0 : decode cL_take 0 = .ok (.aload_n 0, 1) := by decide +kernel
theorem dL_take_1 : decode cL_take 1 = .ok (.iload_n 2, 1) := by decide +kernel
theorem dL_take_2 : decode cL_take 2 = .ok (.laload, 1) := by decide +kernel
theorem dL_take_3 : decode cL_take 3 = .ok (.lstore_n 3, 1) := by decide +kernel
theorem dL_take_4 : decode cL_take 4 = .ok (.aload_n 1, 1) := by decide +kernel
theorem dL_take_5 : decode cL_take 5 = .ok (.iconst 5, 1) := by decide +kernel
theorem dL_take_6 : decode cL_take 6 = .ok (.dup2, 1) := by decide +kernel
theorem dL_take_7 : decode cL_take 7 = .ok (.iaload, 1) := by decide +kernel
theorem dL_take_8 : decode cL_take 8 = .ok (.iconst 1, 1) := by decide +kernel
theorem dL_take_9 : decode cL_take 9 = .ok (.isub, 1) := by decide +kernel
theorem dL_take_10 : decode cL_take 10 = .ok (.iastore, 1) := by decide +kernel
theorem dL_take_11 : decode cL_take 11 = .ok (.iload_n 2, 1) := by decide +kernel
theorem dL_take_12 : decode cL_take 12 = .ok (.istore 5, 2) := by decide +kernel
theorem dL_take_14 : decode cL_take 14 = .ok (.iload 5, 2) := by decide +kernel
theorem dL_take_16 : decode cL_take 16 = .ok (.aload_n 1, 1) := by decide +kernel
theorem dL_take_17 : decode cL_take 17 = .ok (.iconst 5, 1) := by decide +kernel
theorem dL_take_18 : decode cL_take 18 = .ok (.iaload, 1) := by decide +kernel
theorem dL_take_19 : decode cL_take 19 = .ok (.if_icmp .ge 19, 3) := by decide +kernel
theorem dL_take_22 : decode cL_take 22 = .ok (.aload_n 0, 1) := by decide +kernel
theorem dL_take_23 : decode cL_take 23 = .ok (.iload 5, 2) := by decide +kernel
theorem dL_take_25 : decode cL_take 25 = .ok (.aload_n 0, 1) := by decide +kernel
theorem dL_take_26 : decode cL_take 26 = .ok (.iload 5, 2) := by decide +kernel
theorem dL_take_28 : decode cL_take 28 = .ok (.iconst 1, 1) := by decide +kernel
theorem dL_take_29 : decode cL_take 29 = .ok (.iadd, 1) := by decide +kernel
theorem dL_take_30 : decode cL_take 30 = .ok (.laload, 1) := by decide +kernel
theorem dL_take_31 : decode cL_take 31 = .ok (.lastore, 1) := by decide +kernel
theorem dL_take_32 : decode cL_take 32 = .ok (.iinc 5 1, 3) := by decide +kernel
theorem dL_take_35 : decode cL_take 35 = .ok (.goto (-21), 3) := by decide +kernel
theorem dL_take_38 : decode cL_take 38 = .ok (.aload_n 1, 1) := by decide +kernel
theorem dL_take_39 : decode cL_take 39 = .ok (.bipush 7, 2) := by decide +kernel
theorem dL_take_41 : decode cL_take 41 = .ok (.iaload, 1) := by decide +kernel
theorem dL_take_42 : decode cL_take 42 = .ok (.iload_n 2, 1) := by decide +kernel
theorem dL_take_43 : decode cL_take 43 = .ok (.if_icmp .le 11, 3) := by decide +kernel
theorem dL_take_46 : decode cL_take 46 = .ok (.aload_n 1, 1) := by decide +kernel
theorem dL_take_47 : decode cL_take 47 = .ok (.bipush 7, 2) := by decide +kernel
theorem dL_take_49 : decode cL_take 49 = .ok (.dup2, 1) := by decide +kernel
theorem dL_take_50 : decode cL_take 50 = .ok (.iaload, 1) := by decide +kernel
theorem dL_take_51 : decode cL_take 51 = .ok (.iconst 1, 1) := by decide +kernel
theorem dL_take_52 : decode cL_take 52 = .ok (.isub, 1) := by decide +kernel
theorem dL_take_53 : decode cL_take 53 = .ok (.iastore, 1) := by decide +kernel
theorem dL_take_54 : decode cL_take 54 = .ok (.lload_n 3, 1) := by decide +kernel
theorem dL_take_55 : decode cL_take 55 = .ok (.lreturn, 1) := by decide +kernel
theorem dL_rules_0 : decode cL_rules 0 = .ok (.aload_n 1, 1) := by decide +kernel
theorem dL_rules_1 : decode cL_rules 1 = .ok (.iload 5, 2) := by decide +kernel
theorem dL_rules_3 : decode cL_rules 3 = .ok (.iaload, 1) := by decide +kernel
theorem dL_rules_4 : decode cL_rules 4 = .ok (.bipush 15, 2) := by decide +kernel
theorem dL_rules_6 : decode cL_rules 6 = .ok (.iand, 1) := by decide +kernel
theorem dL_rules_7 : decode cL_rules 7 = .ok (.istore 7, 2) := by decide +kernel
theorem dL_rules_9 : decode cL_rules 9 = .ok (.iconst 0, 1) := by decide +kernel
theorem dL_rules_10 : decode cL_rules 10 = .ok (.istore 8, 2) := by decide +kernel
theorem dL_rules_12 : decode cL_rules 12 = .ok (.iload 8, 2) := by decide +kernel
theorem dL_rules_14 : decode cL_rules 14 = .ok (.aload_n 1, 1) := by decide +kernel
theorem dL_rules_15 : decode cL_rules 15 = .ok (.iload 5, 2) := by decide +kernel
theorem dL_rules_17 : decode cL_rules 17 = .ok (.iaload, 1) := by decide +kernel
theorem dL_rules_18 : decode cL_rules 18 = .ok (.bipush 13, 2) := by decide +kernel
theorem dL_rules_20 : decode cL_rules 20 = .ok (.ishr, 1) := by decide +kernel
theorem dL_rules_21 : decode cL_rules 21 = .ok (.if_icmp .ge 352, 3) := by decide +kernel
theorem dL_rules_24 : decode cL_rules 24 = .ok (.aload_n 3, 1) := by decide +kernel
theorem dL_rules_25 : decode cL_rules 25 = .ok (.aload 4, 2) := by decide +kernel
theorem dL_rules_27 : decode cL_rules 27 = .ok (.bipush 6, 2) := by decide +kernel
theorem dL_rules_29 : decode cL_rules 29 = .ok (.iaload, 1) := by decide +kernel
theorem dL_rules_30 : decode cL_rules 30 = .ok (.aload_n 2, 1) := by decide +kernel
theorem dL_rules_31 : decode cL_rules 31 = .ok (.iload 5, 2) := by decide +kernel
theorem dL_rules_33 : decode cL_rules 33 = .ok (.iload 8, 2) := by decide +kernel
theorem dL_rules_35 : decode cL_rules 35 = .ok (.iconst 0, 1) := by decide +kernel
theorem dL_rules_36 : decode cL_rules 36 = .ok (.invokestatic 124, 3) := by decide +kernel
theorem dL_rules_39 : decode cL_rules 39 = .ok (.aload_n 0, 1) := by decide +kernel
theorem dL_rules_40 : decode cL_rules 40 = .ok (.iload 6, 2) := by decide +kernel
theorem dL_rules_42 : decode cL_rules 42 = .ok (.laload, 1) := by decide +kernel
theorem dL_rules_43 : decode cL_rules 43 = .ok (.invokestatic 108, 3) := by decide +kernel
