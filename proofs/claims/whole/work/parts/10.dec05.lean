theorem dX11_isSafe_44 : decode cX11_isSafe 44 = .ok (.iload_n 1, 1) := by decide +kernel
theorem dX11_isSafe_45 : decode cX11_isSafe 45 = .ok (.iconst 1, 1) := by decide +kernel
theorem dX11_isSafe_46 : decode cX11_isSafe 46 = .ok (.invokevirtual 223, 3) := by decide +kernel
theorem dX11_isSafe_49 : decode cX11_isSafe 49 = .ok (.aload_n 0, 1) := by decide +kernel
theorem dX11_isSafe_50 : decode cX11_isSafe 50 = .ok (.aload_n 0, 1) := by decide +kernel
theorem dX11_isSafe_51 : decode cX11_isSafe 51 = .ok (.getfield 66, 3) := by decide +kernel
theorem dX11_isSafe_54 : decode cX11_isSafe 54 = .ok (.iload_n 1, 1) := by decide +kernel
theorem dX11_isSafe_55 : decode cX11_isSafe 55 = .ok (.aload_n 0, 1) := by decide +kernel
theorem dX11_isSafe_56 : decode cX11_isSafe 56 = .ok (.getfield 18, 3) := by decide +kernel
theorem dX11_isSafe_59 : decode cX11_isSafe 59 = .ok (.getfield 179, 3) := by decide +kernel
theorem dX11_isSafe_62 : decode cX11_isSafe 62 = .ok (.iconst 1, 1) := by decide +kernel
theorem dX11_isSafe_63 : decode cX11_isSafe 63 = .ok (.invokevirtual 223, 3) := by decide +kernel
theorem dX11_isSafe_66 : decode cX11_isSafe 66 = .ok (.aload_n 2, 1) := by decide +kernel
theorem dX11_isSafe_67 : decode cX11_isSafe 67 = .ok (.aload_n 0, 1) := by decide +kernel
theorem dX11_isSafe_68 : decode cX11_isSafe 68 = .ok (.getfield 66, 3) := by decide +kernel
theorem dX11_isSafe_71 : decode cX11_isSafe 71 = .ok (.invokevirtual 263, 3) := by decide +kernel
theorem dX11_isSafe_74 : decode cX11_isSafe 74 = .ok (.ireturn, 1) := by decide +kernel
theorem dX11_fill_0 : decode cX11_fill 0 = .ok (.iload_n 1, 1) := by decide +kernel
theorem dX11_fill_1 : decode cX11_fill 1 = .ok (.invokestatic 267, 3) := by decide +kernel
theorem dX11_fill_4 : decode cX11_fill 4 = .ok (.aload_n 0, 1) := by decide +kernel
theorem dX11_fill_5 : decode cX11_fill 5 = .ok (.getfield 55, 3) := by decide +kernel
theorem dX11_fill_8 : decode cX11_fill 8 = .ok (.aload_n 0, 1) := by decide +kernel
theorem dX11_fill_9 : decode cX11_fill 9 = .ok (.invokevirtual 208, 3) := by decide +kernel
theorem dX11_fill_12 : decode cX11_fill 12 = .ok (.aload_n 0, 1) := by decide +kernel
theorem dX11_fill_13 : decode cX11_fill 13 = .ok (.getfield 18, 3) := by decide +kernel
theorem dX11_fill_16 : decode cX11_fill 16 = .ok (.iload_n 1, 1) := by decide +kernel
theorem dX11_fill_17 : decode cX11_fill 17 = .ok (.aload_n 0, 1) := by decide +kernel
theorem dX11_fill_18 : decode cX11_fill 18 = .ok (.getfield 11, 3) := by decide +kernel
theorem dX11_fill_21 : decode cX11_fill 21 = .ok (.iconst 0, 1) := by decide +kernel
theorem dX11_fill_22 : decode cX11_fill 22 = .ok (.aaload, 1) := by decide +kernel
theorem dX11_fill_23 : decode cX11_fill 23 = .ok (.getfield 163, 3) := by decide +kernel
theorem dX11_fill_26 : decode cX11_fill 26 = .ok (.bipush 20, 2) := by decide +kernel
theorem dX11_fill_28 : decode cX11_fill 28 = .ok (.iaload, 1) := by decide +kernel
theorem dX11_fill_29 : decode cX11_fill 29 = .ok (.invokevirtual 270, 3) := by decide +kernel
theorem dX11_fill_32 : decode cX11_fill 32 = .ok (.aload_n 0, 1) := by decide +kernel
theorem dX11_fill_33 : decode cX11_fill 33 = .ok (.getfield 55, 3) := by decide +kernel
theorem dX11_fill_36 : decode cX11_fill 36 = .ok (.getfield 274, 3) := by decide +kernel
theorem dX11_fill_39 : decode cX11_fill 39 = .ok (.ifCond .eq 8, 3) := by decide +kernel
theorem dX11_fill_42 : decode cX11_fill 42 = .ok (.bipush (-100), 2) := by decide +kernel
theorem dX11_fill_44 : decode cX11_fill 44 = .ok (.goto 10, 3) := by decide +kernel
theorem dX11_fill_47 : decode cX11_fill 47 = .ok (.aload_n 0, 1) := by decide +kernel
theorem dX11_fill_48 : decode cX11_fill 48 = .ok (.getfield 55, 3) := by decide +kernel
theorem dX11_fill_51 : decode cX11_fill 51 = .ok (.getfield 277, 3) := by decide +kernel
theorem dX11_fill_54 : decode cX11_fill 54 = .ok (.ireturn, 1) := by decide +kernel
theorem dX11_filling_0 : decode cX11_filling 0 = .ok (.aload_n 0, 1) := by decide +kernel
theorem dX11_filling_1 : decode cX11_filling 1 = .ok (.iload_n 2, 1) := by decide +kernel
theorem dX11_filling_2 : decode cX11_filling 2 = .ok (.invokevirtual 189, 3) := by decide +kernel
theorem dX11_filling_5 : decode cX11_filling 5 = .ok (.iload_n 1, 1) := by decide +kernel
theorem dX11_filling_6 : decode cX11_filling 6 = .ok (.invokestatic 267, 3) := by decide +kernel
theorem dX11_filling_9 : decode cX11_filling 9 = .ok (.aload_n 0, 1) := by decide +kernel
theorem dX11_filling_10 : decode cX11_filling 10 = .ok (.getfield 55, 3) := by decide +kernel
theorem dX11_filling_13 : decode cX11_filling 13 = .ok (.aload_n 0, 1) := by decide +kernel
theorem dX11_filling_14 : decode cX11_filling 14 = .ok (.invokevirtual 208, 3) := by decide +kernel
theorem dX11_filling_17 : decode cX11_filling 17 = .ok (.aload_n 0, 1) := by decide +kernel
theorem dX11_filling_18 : decode cX11_filling 18 = .ok (.getfield 18, 3) := by decide +kernel
theorem dX11_filling_21 : decode cX11_filling 21 = .ok (.iload_n 1, 1) := by decide +kernel
theorem dX11_filling_22 : decode cX11_filling 22 = .ok (.aload_n 0, 1) := by decide +kernel
theorem dX11_filling_23 : decode cX11_filling 23 = .ok (.getfield 11, 3) := by decide +kernel
theorem dX11_filling_26 : decode cX11_filling 26 = .ok (.iconst 0, 1) := by decide +kernel
theorem dX11_filling_27 : decode cX11_filling 27 = .ok (.aaload, 1) := by decide +kernel
theorem dX11_filling_28 : decode cX11_filling 28 = .ok (.getfield 163, 3) := by decide +kernel
theorem dX11_filling_31 : decode cX11_filling 31 = .ok (.bipush 20, 2) := by decide +kernel
theorem dX11_filling_33 : decode cX11_filling 33 = .ok (.iaload, 1) := by decide +kernel
theorem dX11_filling_34 : decode cX11_filling 34 = .ok (.invokevirtual 270, 3) := by decide +kernel
theorem dX11_filling_37 : decode cX11_filling 37 = .ok (.aload_n 0, 1) := by decide +kernel
theorem dX11_filling_38 : decode cX11_filling 38 = .ok (.getfield 55, 3) := by decide +kernel
theorem dX11_filling_41 : decode cX11_filling 41 = .ok (.getfield 280, 3) := by decide +kernel
theorem dX11_filling_44 : decode cX11_filling 44 = .ok (.iload_n 2, 1) := by decide +kernel
theorem dX11_filling_45 : decode cX11_filling 45 = .ok (.iaload, 1) := by decide +kernel
theorem dX11_filling_46 : decode cX11_filling 46 = .ok (.ireturn, 1) := by decide +kernel
theorem dX11_needSign_0 : decode cX11_needSign 0 = .ok (.iload_n 1, 1) := by decide +kernel
theorem dX11_needSign_1 : decode cX11_needSign 1 = .ok (.ifCond .lt 14, 3) := by decide +kernel
theorem dX11_needSign_4 : decode cX11_needSign 4 = .ok (.iload_n 1, 1) := by decide +kernel
theorem dX11_needSign_5 : decode cX11_needSign 5 = .ok (.aload_n 0, 1) := by decide +kernel
theorem dX11_needSign_6 : decode cX11_needSign 6 = .ok (.getfield 18, 3) := by decide +kernel
theorem dX11_needSign_9 : decode cX11_needSign 9 = .ok (.getfield 179, 3) := by decide +kernel
theorem dX11_needSign_12 : decode cX11_needSign 12 = .ok (.if_icmp .lt 13, 3) := by decide +kernel
theorem dX11_needSign_15 : decode cX11_needSign 15 = .ok (.new 78, 3) := by decide +kernel
theorem dX11_needSign_18 : decode cX11_needSign 18 = .ok (.dup, 1) := by decide +kernel
theorem dX11_needSign_19 : decode cX11_needSign 19 = .ok (.ldc 182, 2) := by decide +kernel
theorem dX11_needSign_21 : decode cX11_needSign 21 = .ok (.invokespecial 82, 3) := by decide +kernel
theorem dX11_needSign_24 : decode cX11_needSign 24 = .ok (.athrow, 1) := by decide +kernel
theorem dX11_needSign_25 : decode cX11_needSign 25 = .ok (.return_, 1) := by decide +kernel
theorem dX11_needGlyph_0 : decode cX11_needGlyph 0 = .ok (.iload_n 1, 1) := by decide +kernel
theorem dX11_needGlyph_1 : decode cX11_needGlyph 1 = .ok (.ifCond .lt 11, 3) := by decide +kernel
theorem dX11_needGlyph_4 : decode cX11_needGlyph 4 = .ok (.iload_n 1, 1) := by decide +kernel
theorem dX11_needGlyph_5 : decode cX11_needGlyph 5 = .ok (.aload_n 0, 1) := by decide +kernel
theorem dX11_needGlyph_6 : decode cX11_needGlyph 6 = .ok (.getfield 212, 3) := by decide +kernel
theorem dX11_needGlyph_9 : decode cX11_needGlyph 9 = .ok (.if_icmp .lt 13, 3) := by decide +kernel
theorem dX11_needGlyph_12 : decode cX11_needGlyph 12 = .ok (.new 78, 3) := by decide +kernel
theorem dX11_needGlyph_15 : decode cX11_needGlyph 15 = .ok (.dup, 1) := by decide +kernel
theorem dX11_needGlyph_16 : decode cX11_needGlyph 16 = .ok (.ldc 144, 2) := by decide +kernel
theorem dX11_needGlyph_18 : decode cX11_needGlyph 18 = .ok (.invokespecial 82, 3) := by decide +kernel
theorem dX11_needGlyph_21 : decode cX11_needGlyph 21 = .ok (.athrow, 1) := by decide +kernel
theorem dX11_needGlyph_22 : decode cX11_needGlyph 22 = .ok (.return_, 1) := by decide +kernel
theorem dX11_needLine_0 : decode cX11_needLine 0 = .ok (.iload_n 0, 1) := by decide +kernel
theorem dX11_needLine_1 : decode cX11_needLine 1 = .ok (.ifCond .lt 10, 3) := by decide +kernel
theorem dX11_needLine_4 : decode cX11_needLine 4 = .ok (.iload_n 0, 1) := by decide +kernel
theorem dX11_needLine_5 : decode cX11_needLine 5 = .ok (.sipush 10000, 3) := by decide +kernel
theorem dX11_needLine_8 : decode cX11_needLine 8 = .ok (.if_icmp .le 13, 3) := by decide +kernel
theorem dX11_needLine_11 : decode cX11_needLine 11 = .ok (.new 89, 3) := by decide +kernel
theorem dX11_needLine_14 : decode cX11_needLine 14 = .ok (.dup, 1) := by decide +kernel
theorem dX11_needLine_15 : decode cX11_needLine 15 = .ok (.ldc 161, 2) := by decide +kernel
theorem dX11_needLine_17 : decode cX11_needLine 17 = .ok (.invokespecial 93, 3) := by decide +kernel
theorem dX11_needLine_20 : decode cX11_needLine 20 = .ok (.athrow, 1) := by decide +kernel
theorem dX11_needLine_21 : decode cX11_needLine 21 = .ok (.return_, 1) := by decide +kernel
theorem dX11_shaped_0 : decode cX11_shaped 0 = .ok (.aload_n 0, 1) := by decide +kernel
theorem dX11_shaped_1 : decode cX11_shaped 1 = .ok (.getfield 73, 3) := by decide +kernel
theorem dX11_shaped_4 : decode cX11_shaped 4 = .ok (.ifCond .eq 32, 3) := by decide +kernel
theorem dX11_shaped_7 : decode cX11_shaped 7 = .ok (.aload_n 0, 1) := by decide +kernel
theorem dX11_shaped_8 : decode cX11_shaped 8 = .ok (.getfield 62, 3) := by decide +kernel
theorem dX11_shaped_11 : decode cX11_shaped 11 = .ok (.invokevirtual 220, 3) := by decide +kernel
theorem dX11_shaped_14 : decode cX11_shaped 14 = .ok (.aload_n 0, 1) := by decide +kernel
theorem dX11_shaped_15 : decode cX11_shaped 15 = .ok (.aload_n 0, 1) := by decide +kernel
theorem dX11_shaped_16 : decode cX11_shaped 16 = .ok (.getfield 62, 3) := by decide +kernel
theorem dX11_shaped_19 : decode cX11_shaped 19 = .ok (.iconst 0, 1) := by decide +kernel
theorem dX11_shaped_20 : decode cX11_shaped 20 = .ok (.aload_n 0, 1) := by decide +kernel
theorem dX11_shaped_21 : decode cX11_shaped 21 = .ok (.getfield 18, 3) := by decide +kernel
theorem dX11_shaped_24 : decode cX11_shaped 24 = .ok (.getfield 179, 3) := by decide +kernel
theorem dX11_shaped_27 : decode cX11_shaped 27 = .ok (.iconst 1, 1) := by decide +kernel
theorem dX11_shaped_28 : decode cX11_shaped 28 = .ok (.invokevirtual 223, 3) := by decide +kernel
theorem dX11_shaped_31 : decode cX11_shaped 31 = .ok (.aload_n 0, 1) := by decide +kernel
theorem dX11_shaped_32 : decode cX11_shaped 32 = .ok (.iconst 0, 1) := by decide +kernel
theorem dX11_shaped_33 : decode cX11_shaped 33 = .ok (.putfield 73, 3) := by decide +kernel
theorem dX11_shaped_36 : decode cX11_shaped 36 = .ok (.aload_n 0, 1) := by decide +kernel
theorem dX11_shaped_37 : decode cX11_shaped 37 = .ok (.getfield 62, 3) := by decide +kernel
theorem dX11_shaped_40 : decode cX11_shaped 40 = .ok (.areturn, 1) := by decide +kernel
theorem dX11_shape_0 : decode cX11_shape 0 = .ok (.aload_n 1, 1) := by decide +kernel
theorem dX11_shape_1 : decode cX11_shape 1 = .ok (.getfield 241, 3) := by decide +kernel
theorem dX11_shape_4 : decode cX11_shape 4 = .ok (.astore 5, 2) := by decide +kernel
theorem dX11_shape_6 : decode cX11_shape 6 = .ok (.aload 5, 2) := by decide +kernel
theorem dX11_shape_8 : decode cX11_shape 8 = .ok (.getfield 283, 3) := by decide +kernel
theorem dX11_shape_11 : decode cX11_shape 11 = .ok (.istore 6, 2) := by decide +kernel
theorem dX11_shape_13 : decode cX11_shape 13 = .ok (.aload 5, 2) := by decide +kernel
theorem dX11_shape_15 : decode cX11_shape 15 = .ok (.aload_n 0, 1) := by decide +kernel
theorem dX11_shape_16 : decode cX11_shape 16 = .ok (.getfield 18, 3) := by decide +kernel
theorem dX11_shape_19 : decode cX11_shape 19 = .ok (.iload_n 2, 1) := by decide +kernel
theorem dX11_shape_20 : decode cX11_shape 20 = .ok (.iload_n 3, 1) := by decide +kernel
theorem dX11_shape_21 : decode cX11_shape 21 = .ok (.invokevirtual 284, 3) := by decide +kernel
theorem dX11_shape_24 : decode cX11_shape 24 = .ok (.iload 6, 2) := by decide +kernel
theorem dX11_shape_26 : decode cX11_shape 26 = .ok (.istore 7, 2) := by decide +kernel
theorem dX11_shape_28 : decode cX11_shape 28 = .ok (.iload 7, 2) := by decide +kernel
theorem dX11_shape_30 : decode cX11_shape 30 = .ok (.aload 5, 2) := by decide +kernel
theorem dX11_shape_32 : decode cX11_shape 32 = .ok (.getfield 283, 3) := by decide +kernel
theorem dX11_shape_35 : decode cX11_shape 35 = .ok (.if_icmp .ge 217, 3) := by decide +kernel
theorem dX11_shape_38 : decode cX11_shape 38 = .ok (.aload_n 0, 1) := by decide +kernel
theorem dX11_shape_39 : decode cX11_shape 39 = .ok (.getfield 11, 3) := by decide +kernel
theorem dX11_shape_42 : decode cX11_shape 42 = .ok (.aload 5, 2) := by decide +kernel
theorem dX11_shape_44 : decode cX11_shape 44 = .ok (.getfield 288, 3) := by decide +kernel
theorem dX11_shape_47 : decode cX11_shape 47 = .ok (.iload 7, 2) := by decide +kernel
theorem dX11_shape_49 : decode cX11_shape 49 = .ok (.iaload, 1) := by decide +kernel
theorem dX11_shape_50 : decode cX11_shape 50 = .ok (.ifCond .ne 7, 3) := by decide +kernel
theorem dX11_shape_53 : decode cX11_shape 53 = .ok (.iconst 0, 1) := by decide +kernel
theorem dX11_shape_54 : decode cX11_shape 54 = .ok (.goto 4, 3) := by decide +kernel
theorem dX11_shape_57 : decode cX11_shape 57 = .ok (.iconst 1, 1) := by decide +kernel
theorem dX11_shape_58 : decode cX11_shape 58 = .ok (.aaload, 1) := by decide +kernel
theorem dX11_shape_59 : decode cX11_shape 59 = .ok (.astore 8, 2) := by decide +kernel
theorem dX11_shape_61 : decode cX11_shape 61 = .ok (.aload_n 0, 1) := by decide +kernel
theorem dX11_shape_62 : decode cX11_shape 62 = .ok (.getfield 34, 3) := by decide +kernel
theorem dX11_shape_65 : decode cX11_shape 65 = .ok (.aload_n 0, 1) := by decide +kernel
theorem dX11_shape_66 : decode cX11_shape 66 = .ok (.getfield 18, 3) := by decide +kernel
theorem dX11_shape_69 : decode cX11_shape 69 = .ok (.aload 5, 2) := by decide +kernel
theorem dX11_shape_71 : decode cX11_shape 71 = .ok (.iload 7, 2) := by decide +kernel
theorem dX11_shape_73 : decode cX11_shape 73 = .ok (.invokevirtual 290, 3) := by decide +kernel
theorem dX11_shape_76 : decode cX11_shape 76 = .ok (.aload_n 0, 1) := by decide +kernel
theorem dX11_shape_77 : decode cX11_shape 77 = .ok (.getfield 41, 3) := by decide +kernel
theorem dX11_shape_80 : decode cX11_shape 80 = .ok (.aload 8, 2) := by decide +kernel
theorem dX11_shape_82 : decode cX11_shape 82 = .ok (.iload 4, 2) := by decide +kernel
theorem dX11_shape_84 : decode cX11_shape 84 = .ok (.invokevirtual 294, 3) := by decide +kernel
theorem dX11_shape_87 : decode cX11_shape 87 = .ok (.iconst 0, 1) := by decide +kernel
theorem dX11_shape_88 : decode cX11_shape 88 = .ok (.istore 9, 2) := by decide +kernel
theorem dX11_shape_90 : decode cX11_shape 90 = .ok (.iload 9, 2) := by decide +kernel
theorem dX11_shape_92 : decode cX11_shape 92 = .ok (.iconst 1, 1) := by decide +kernel
theorem dX11_shape_93 : decode cX11_shape 93 = .ok (.if_icmp .gt 91, 3) := by decide +kernel
theorem dX11_shape_96 : decode cX11_shape 96 = .ok (.iconst 0, 1) := by decide +kernel
theorem dX11_shape_97 : decode cX11_shape 97 = .ok (.istore 10, 2) := by decide +kernel
theorem dX11_shape_99 : decode cX11_shape 99 = .ok (.iload 10, 2) := by decide +kernel
theorem dX11_shape_101 : decode cX11_shape 101 = .ok (.aload 8, 2) := by decide +kernel
theorem dX11_shape_103 : decode cX11_shape 103 = .ok (.getfield 98, 3) := by decide +kernel
theorem dX11_shape_106 : decode cX11_shape 106 = .ok (.if_icmp .ge 49, 3) := by decide +kernel
theorem dX11_shape_109 : decode cX11_shape 109 = .ok (.aload 8, 2) := by decide +kernel
theorem dX11_shape_111 : decode cX11_shape 111 = .ok (.iload 10, 2) := by decide +kernel
theorem dX11_shape_113 : decode cX11_shape 113 = .ok (.invokevirtual 115, 3) := by decide +kernel
theorem dX11_shape_116 : decode cX11_shape 116 = .ok (.astore 11, 2) := by decide +kernel
theorem dX11_shape_118 : decode cX11_shape 118 = .ok (.aload 11, 2) := by decide +kernel
theorem dX11_shape_120 : decode cX11_shape 120 = .ok (.ifnull 29, 3) := by decide +kernel
theorem dX11_shape_123 : decode cX11_shape 123 = .ok (.aload 11, 2) := by decide +kernel
theorem dX11_shape_125 : decode cX11_shape 125 = .ok (.iload 9, 2) := by decide +kernel
theorem dX11_shape_127 : decode cX11_shape 127 = .ok (.aload_n 0, 1) := by decide +kernel
theorem dX11_shape_128 : decode cX11_shape 128 = .ok (.getfield 18, 3) := by decide +kernel
theorem dX11_shape_131 : decode cX11_shape 131 = .ok (.getfield 197, 3) := by decide +kernel
theorem dX11_shape_134 : decode cX11_shape 134 = .ok (.invokevirtual 298, 3) := by decide +kernel
theorem dX11_shape_137 : decode cX11_shape 137 = .ok (.ifCond .eq 12, 3) := by decide +kernel
theorem dX11_shape_140 : decode cX11_shape 140 = .ok (.aload_n 0, 1) := by decide +kernel
theorem dX11_shape_141 : decode cX11_shape 141 = .ok (.getfield 41, 3) := by decide +kernel
theorem dX11_shape_144 : decode cX11_shape 144 = .ok (.aload 11, 2) := by decide +kernel
theorem dX11_shape_146 : decode cX11_shape 146 = .ok (.invokevirtual 302, 3) := by decide +kernel
theorem dX11_shape_149 : decode cX11_shape 149 = .ok (.iinc 10 1, 3) := by decide +kernel
theorem dX11_shape_152 : decode cX11_shape 152 = .ok (.goto (-53), 3) := by decide +kernel
theorem dX11_shape_155 : decode cX11_shape 155 = .ok (.iload 9, 2) := by decide +kernel
theorem dX11_shape_157 : decode cX11_shape 157 = .ok (.ifCond .ne 21, 3) := by decide +kernel
theorem dX11_shape_160 : decode cX11_shape 160 = .ok (.aload 5, 2) := by decide +kernel
theorem dX11_shape_162 : decode cX11_shape 162 = .ok (.getfield 305, 3) := by decide +kernel
theorem dX11_shape_165 : decode cX11_shape 165 = .ok (.iload 7, 2) := by decide +kernel
theorem dX11_shape_167 : decode cX11_shape 167 = .ok (.baload, 1) := by decide +kernel
theorem dX11_shape_168 : decode cX11_shape 168 = .ok (.ifCond .eq 10, 3) := by decide +kernel
theorem dX11_shape_171 : decode cX11_shape 171 = .ok (.aload_n 0, 1) := by decide +kernel
theorem dX11_shape_172 : decode cX11_shape 172 = .ok (.getfield 34, 3) := by decide +kernel
theorem dX11_shape_175 : decode cX11_shape 175 = .ok (.invokevirtual 308, 3) := by decide +kernel
theorem dX11_shape_178 : decode cX11_shape 178 = .ok (.iinc 9 1, 3) := by decide +kernel
theorem dX11_shape_181 : decode cX11_shape 181 = .ok (.goto (-91), 3) := by decide +kernel
theorem dX11_shape_184 : decode cX11_shape 184 = .ok (.aload_n 0, 1) := by decide +kernel
theorem dX11_shape_185 : decode cX11_shape 185 = .ok (.getfield 25, 3) := by decide +kernel
theorem dX11_shape_188 : decode cX11_shape 188 = .ok (.invokevirtual 311, 3) := by decide +kernel
theorem dX11_shape_191 : decode cX11_shape 191 = .ok (.aload_n 0, 1) := by decide +kernel
theorem dX11_shape_192 : decode cX11_shape 192 = .ok (.getfield 48, 3) := by decide +kernel
theorem dX11_shape_195 : decode cX11_shape 195 = .ok (.aload 8, 2) := by decide +kernel
theorem dX11_shape_197 : decode cX11_shape 197 = .ok (.aload_n 0, 1) := by decide +kernel
theorem dX11_shape_198 : decode cX11_shape 198 = .ok (.getfield 18, 3) := by decide +kernel
theorem dX11_shape_201 : decode cX11_shape 201 = .ok (.getfield 197, 3) := by decide +kernel
theorem dX11_shape_204 : decode cX11_shape 204 = .ok (.iload 4, 2) := by decide +kernel
theorem dX11_shape_206 : decode cX11_shape 206 = .ok (.invokevirtual 314, 3) := by decide +kernel
theorem dX11_shape_209 : decode cX11_shape 209 = .ok (.aload_n 0, 1) := by decide +kernel
theorem dX11_shape_210 : decode cX11_shape 210 = .ok (.getfield 48, 3) := by decide +kernel
theorem dX11_shape_213 : decode cX11_shape 213 = .ok (.aload_n 1, 1) := by decide +kernel
theorem dX11_shape_214 : decode cX11_shape 214 = .ok (.getfield 318, 3) := by decide +kernel
theorem dX11_shape_217 : decode cX11_shape 217 = .ok (.aload 5, 2) := by decide +kernel
theorem dX11_shape_219 : decode cX11_shape 219 = .ok (.getfield 305, 3) := by decide +kernel
theorem dX11_shape_222 : decode cX11_shape 222 = .ok (.iload 7, 2) := by decide +kernel
theorem dX11_shape_224 : decode cX11_shape 224 = .ok (.baload, 1) := by decide +kernel
theorem dX11_shape_225 : decode cX11_shape 225 = .ok (.ifCond .ne 7, 3) := by decide +kernel
theorem dX11_shape_228 : decode cX11_shape 228 = .ok (.iconst 1, 1) := by decide +kernel
theorem dX11_shape_229 : decode cX11_shape 229 = .ok (.goto 4, 3) := by decide +kernel
theorem dX11_shape_232 : decode cX11_shape 232 = .ok (.iconst 0, 1) := by decide +kernel
theorem dX11_shape_233 : decode cX11_shape 233 = .ok (.invokevirtual 321, 3) := by decide +kernel
theorem dX11_shape_236 : decode cX11_shape 236 = .ok (.aload_n 1, 1) := by decide +kernel
theorem dX11_shape_237 : decode cX11_shape 237 = .ok (.aload_n 0, 1) := by decide +kernel
theorem dX11_shape_238 : decode cX11_shape 238 = .ok (.getfield 25, 3) := by decide +kernel
theorem dX11_shape_241 : decode cX11_shape 241 = .ok (.iload 7, 2) := by decide +kernel
theorem dX11_shape_243 : decode cX11_shape 243 = .ok (.invokevirtual 325, 3) := by decide +kernel
theorem dX11_shape_246 : decode cX11_shape 246 = .ok (.iinc 7 1, 3) := by decide +kernel
theorem dX11_shape_249 : decode cX11_shape 249 = .ok (.goto (-221), 3) := by decide +kernel
theorem dX11_shape_252 : decode cX11_shape 252 = .ok (.return_, 1) := by decide +kernel
theorem dX11_isGlyph_0 : decode cX11_isGlyph 0 = .ok (.iload_n 0, 1) := by decide +kernel
theorem dX11_isGlyph_1 : decode cX11_isGlyph 1 = .ok (.ifCond .lt 14, 3) := by decide +kernel
theorem dX11_isGlyph_4 : decode cX11_isGlyph 4 = .ok (.iload_n 0, 1) := by decide +kernel
theorem dX11_isGlyph_5 : decode cX11_isGlyph 5 = .ok (.sipush 256, 3) := by decide +kernel
theorem dX11_isGlyph_8 : decode cX11_isGlyph 8 = .ok (.if_icmp .ge 7, 3) := by decide +kernel
theorem dX11_isGlyph_11 : decode cX11_isGlyph 11 = .ok (.iconst 1, 1) := by decide +kernel
theorem dX11_isGlyph_12 : decode cX11_isGlyph 12 = .ok (.goto 4, 3) := by decide +kernel
theorem dX11_isGlyph_15 : decode cX11_isGlyph 15 = .ok (.iconst 0, 1) := by decide +kernel
theorem dX11_isGlyph_16 : decode cX11_isGlyph 16 = .ok (.ireturn, 1) := by decide +kernel
theorem dX11_isItem_0 : decode cX11_isItem 0 = .ok (.iload_n 0, 1) := by decide +kernel
theorem dX11_isItem_1 : decode cX11_isItem 1 = .ok (.invokestatic 140, 3) := by decide +kernel
theorem dX11_isItem_4 : decode cX11_isItem 4 = .ok (.ifCond .ne 17, 3) := by decide +kernel
theorem dX11_isItem_7 : decode cX11_isItem 7 = .ok (.iload_n 0, 1) := by decide +kernel
theorem dX11_isItem_8 : decode cX11_isItem 8 = .ok (.sipush 300, 3) := by decide +kernel
theorem dX11_isItem_11 : decode cX11_isItem 11 = .ok (.if_icmp .lt 14, 3) := by decide +kernel
theorem dX11_isItem_14 : decode cX11_isItem 14 = .ok (.iload_n 0, 1) := by decide +kernel
theorem dX11_isItem_15 : decode cX11_isItem 15 = .ok (.sipush 306, 3) := by decide +kernel
theorem dX11_isItem_18 : decode cX11_isItem 18 = .ok (.if_icmp .ge 7, 3) := by decide +kernel
theorem dX11_isItem_21 : decode cX11_isItem 21 = .ok (.iconst 1, 1) := by decide +kernel
theorem dX11_isItem_22 : decode cX11_isItem 22 = .ok (.goto 4, 3) := by decide +kernel
theorem dX11_isItem_25 : decode cX11_isItem 25 = .ok (.iconst 0, 1) := by decide +kernel
theorem dX11_isItem_26 : decode cX11_isItem 26 = .ok (.ireturn, 1) := by decide +kernel
theorem dX11_isSign_0 : decode cX11_isSign 0 = .ok (.iload_n 0, 1) := by decide +kernel
theorem dX11_isSign_1 : decode cX11_isSign 1 = .ok (.ifCond .lt 9, 3) := by decide +kernel
theorem dX11_isSign_4 : decode cX11_isSign 4 = .ok (.iload_n 0, 1) := by decide +kernel
theorem dX11_isSign_5 : decode cX11_isSign 5 = .ok (.bipush 23, 2) := by decide +kernel
theorem dX11_isSign_7 : decode cX11_isSign 7 = .ok (.if_icmp .le 15, 3) := by decide +kernel
theorem dX11_isSign_10 : decode cX11_isSign 10 = .ok (.iload_n 0, 1) := by decide +kernel
theorem dX11_isSign_11 : decode cX11_isSign 11 = .ok (.bipush 30, 2) := by decide +kernel
theorem dX11_isSign_13 : decode cX11_isSign 13 = .ok (.if_icmp .lt 13, 3) := by decide +kernel
theorem dX11_isSign_16 : decode cX11_isSign 16 = .ok (.iload_n 0, 1) := by decide +kernel
theorem dX11_isSign_17 : decode cX11_isSign 17 = .ok (.bipush 45, 2) := by decide +kernel
theorem dX11_isSign_19 : decode cX11_isSign 19 = .ok (.if_icmp .ge 7, 3) := by decide +kernel
theorem dX11_isSign_22 : decode cX11_isSign 22 = .ok (.iconst 1, 1) := by decide +kernel
theorem dX11_isSign_23 : decode cX11_isSign 23 = .ok (.goto 4, 3) := by decide +kernel
theorem dX11_isSign_26 : decode cX11_isSign 26 = .ok (.iconst 0, 1) := by decide +kernel
theorem dX11_isSign_27 : decode cX11_isSign 27 = .ok (.ireturn, 1) := by decide +kernel
theorem dX11_isJoinerOrParter_0 : decode cX11_isJoinerOrParter 0 = .ok (.iload_n 0, 1) := by decide +kernel
theorem dX11_isJoinerOrParter_1 : decode cX11_isJoinerOrParter 1 = .ok (.iconst 2, 1) := by decide +kernel
theorem dX11_isJoinerOrParter_2 : decode cX11_isJoinerOrParter 2 = .ok (.if_icmp .eq 8, 3) := by decide +kernel
theorem dX11_isJoinerOrParter_5 : decode cX11_isJoinerOrParter 5 = .ok (.iload_n 0, 1) := by decide +kernel
theorem dX11_isJoinerOrParter_6 : decode cX11_isJoinerOrParter 6 = .ok (.iconst 3, 1) := by decide +kernel
theorem dX11_isJoinerOrParter_7 : decode cX11_isJoinerOrParter 7 = .ok (.if_icmp .ne 7, 3) := by decide +kernel
theorem dX11_isJoinerOrParter_10 : decode cX11_isJoinerOrParter 10 = .ok (.iconst 1, 1) := by decide +kernel
theorem dX11_isJoinerOrParter_11 : decode cX11_isJoinerOrParter 11 = .ok (.goto 4, 3) := by decide +kernel
theorem dX11_isJoinerOrParter_14 : decode cX11_isJoinerOrParter 14 = .ok (.iconst 0, 1) := by decide +kernel
theorem dX11_isJoinerOrParter_15 : decode cX11_isJoinerOrParter 15 = .ok (.ireturn, 1) := by decide +kernel
theorem dX11_isMarkOfJ_0 : decode cX11_isMarkOfJ 0 = .ok (.iload_n 0, 1) := by decide +kernel
theorem dX11_isMarkOfJ_1 : decode cX11_isMarkOfJ 1 = .ok (.bipush 21, 2) := by decide +kernel
theorem dX11_isMarkOfJ_3 : decode cX11_isMarkOfJ 3 = .ok (.if_icmp .lt 13, 3) := by decide +kernel
theorem dX11_isMarkOfJ_6 : decode cX11_isMarkOfJ 6 = .ok (.iload_n 0, 1) := by decide +kernel
theorem dX11_isMarkOfJ_7 : decode cX11_isMarkOfJ 7 = .ok (.bipush 23, 2) := by decide +kernel
theorem dX11_isMarkOfJ_9 : decode cX11_isMarkOfJ 9 = .ok (.if_icmp .gt 7, 3) := by decide +kernel
theorem dX11_isMarkOfJ_12 : decode cX11_isMarkOfJ 12 = .ok (.iconst 1, 1) := by decide +kernel
theorem dX11_isMarkOfJ_13 : decode cX11_isMarkOfJ 13 = .ok (.goto 4, 3) := by decide +kernel
theorem dX11_isMarkOfJ_16 : decode cX11_isMarkOfJ 16 = .ok (.iconst 0, 1) := by decide +kernel
theorem dX11_isMarkOfJ_17 : decode cX11_isMarkOfJ 17 = .ok (.ireturn, 1) := by decide +kernel
theorem dX11_joinsOnBothSides_0 : decode cX11_joinsOnBothSides 0 = .ok (.iload_n 0, 1) := by decide +kernel
theorem dX11_joinsOnBothSides_1 : decode cX11_joinsOnBothSides 1 = .ok (.bipush 10, 2) := by decide +kernel
theorem dX11_joinsOnBothSides_3 : decode cX11_joinsOnBothSides 3 = .ok (.if_icmp .lt 9, 3) := by decide +kernel
theorem dX11_joinsOnBothSides_6 : decode cX11_joinsOnBothSides 6 = .ok (.iload_n 0, 1) := by decide +kernel
theorem dX11_joinsOnBothSides_7 : decode cX11_joinsOnBothSides 7 = .ok (.bipush 15, 2) := by decide +kernel
theorem dX11_joinsOnBothSides_9 : decode cX11_joinsOnBothSides 9 = .ok (.if_icmp .le 9, 3) := by decide +kernel
theorem dX11_joinsOnBothSides_12 : decode cX11_joinsOnBothSides 12 = .ok (.iload_n 0, 1) := by decide +kernel
theorem dX11_joinsOnBothSides_13 : decode cX11_joinsOnBothSides 13 = .ok (.bipush 20, 2) := by decide +kernel
theorem dX11_joinsOnBothSides_15 : decode cX11_joinsOnBothSides 15 = .ok (.if_icmp .ne 7, 3) := by decide +kernel
theorem dX11_joinsOnBothSides_18 : decode cX11_joinsOnBothSides 18 = .ok (.iconst 1, 1) := by decide +kernel
theorem dX11_joinsOnBothSides_19 : decode cX11_joinsOnBothSides 19 = .ok (.goto 4, 3) := by decide +kernel
theorem dX11_joinsOnBothSides_22 : decode cX11_joinsOnBothSides 22 = .ok (.iconst 0, 1) := by decide +kernel
theorem dX11_joinsOnBothSides_23 : decode cX11_joinsOnBothSides 23 = .ok (.ireturn, 1) := by decide +kernel
theorem dX11_isConsonant_0 : decode cX11_isConsonant 0 = .ok (.iload_n 0, 1) := by decide +kernel
theorem dX11_isConsonant_1 : decode cX11_isConsonant 1 = .ok (.bipush 30, 2) := by decide +kernel
theorem dX11_isConsonant_3 : decode cX11_isConsonant 3 = .ok (.if_icmp .lt 13, 3) := by decide +kernel
theorem dX11_isConsonant_6 : decode cX11_isConsonant 6 = .ok (.iload_n 0, 1) := by decide +kernel
theorem dX11_isConsonant_7 : decode cX11_isConsonant 7 = .ok (.bipush 38, 2) := by decide +kernel
theorem dX11_isConsonant_9 : decode cX11_isConsonant 9 = .ok (.if_icmp .gt 7, 3) := by decide +kernel
theorem dX11_isConsonant_12 : decode cX11_isConsonant 12 = .ok (.iconst 1, 1) := by decide +kernel
theorem dX11_isConsonant_13 : decode cX11_isConsonant 13 = .ok (.goto 4, 3) := by decide +kernel
theorem dX11_isConsonant_16 : decode cX11_isConsonant 16 = .ok (.iconst 0, 1) := by decide +kernel
theorem dX11_isConsonant_17 : decode cX11_isConsonant 17 = .ok (.ireturn, 1) := by decide +kernel
theorem dX12_init_0 : decode cX12_init 0 = .ok (.aload_n 0, 1) := by decide +kernel
theorem dX12_init_1 : decode cX12_init 1 = .ok (.invokespecial 1, 3) := by decide +kernel
theorem dX12_init_4 : decode cX12_init 4 = .ok (.aload_n 0, 1) := by decide +kernel
theorem dX12_init_5 : decode cX12_init 5 = .ok (.iconst 2, 1) := by decide +kernel
theorem dX12_init_6 : decode cX12_init 6 = .ok (.newarray .int, 2) := by decide +kernel
theorem dX12_init_8 : decode cX12_init 8 = .ok (.putfield 7, 3) := by decide +kernel
theorem dX12_init_11 : decode cX12_init 11 = .ok (.aload_n 0, 1) := by decide +kernel
theorem dX12_init_12 : decode cX12_init 12 = .ok (.bipush 24, 2) := by decide +kernel
theorem dX12_init_14 : decode cX12_init 14 = .ok (.newarray .int, 2) := by decide +kernel
theorem dX12_init_16 : decode cX12_init 16 = .ok (.putfield 13, 3) := by decide +kernel
theorem dX12_init_19 : decode cX12_init 19 = .ok (.aload_n 0, 1) := by decide +kernel
theorem dX12_init_20 : decode cX12_init 20 = .ok (.bipush 24, 2) := by decide +kernel
theorem dX12_init_22 : decode cX12_init 22 = .ok (.newarray .int, 2) := by decide +kernel
theorem dX12_init_24 : decode cX12_init 24 = .ok (.putfield 16, 3) := by decide +kernel
theorem dX12_init_27 : decode cX12_init 27 = .ok (.aload_n 0, 1) := by decide +kernel
theorem dX12_init_28 : decode cX12_init 28 = .ok (.bipush 24, 2) := by decide +kernel
theorem dX12_init_30 : decode cX12_init 30 = .ok (.newarray .int, 2) := by decide +kernel
theorem dX12_init_32 : decode cX12_init 32 = .ok (.putfield 19, 3) := by decide +kernel
theorem dX12_init_35 : decode cX12_init 35 = .ok (.aload_n 0, 1) := by decide +kernel
theorem dX12_init_36 : decode cX12_init 36 = .ok (.bipush 24, 2) := by decide +kernel
theorem dX12_init_38 : decode cX12_init 38 = .ok (.newarray .int, 2) := by decide +kernel
theorem dX12_init_40 : decode cX12_init 40 = .ok (.putfield 22, 3) := by decide +kernel
theorem dX12_init_43 : decode cX12_init 43 = .ok (.aload_n 0, 1) := by decide +kernel
theorem dX12_init_44 : decode cX12_init 44 = .ok (.bipush 24, 2) := by decide +kernel
theorem dX12_init_46 : decode cX12_init 46 = .ok (.newarray .int, 2) := by decide +kernel
theorem dX12_init_48 : decode cX12_init 48 = .ok (.putfield 25, 3) := by decide +kernel
theorem dX12_init_51 : decode cX12_init 51 = .ok (.aload_n 0, 1) := by decide +kernel
theorem dX12_init_52 : decode cX12_init 52 = .ok (.bipush 24, 2) := by decide +kernel
theorem dX12_init_54 : decode cX12_init 54 = .ok (.newarray .int, 2) := by decide +kernel
theorem dX12_init_56 : decode cX12_init 56 = .ok (.putfield 28, 3) := by decide +kernel
theorem dX12_init_59 : decode cX12_init 59 = .ok (.aload_n 0, 1) := by decide +kernel
theorem dX12_init_60 : decode cX12_init 60 = .ok (.sipush 1152, 3) := by decide +kernel
theorem dX12_init_63 : decode cX12_init 63 = .ok (.newarray .int, 2) := by decide +kernel
theorem dX12_init_65 : decode cX12_init 65 = .ok (.putfield 31, 3) := by decide +kernel
theorem dX12_init_68 : decode cX12_init 68 = .ok (.aload_n 0, 1) := by decide +kernel
theorem dX12_init_69 : decode cX12_init 69 = .ok (.sipush 512, 3) := by decide +kernel
theorem dX12_init_72 : decode cX12_init 72 = .ok (.newarray .int, 2) := by decide +kernel
theorem dX12_init_74 : decode cX12_init 74 = .ok (.putfield 34, 3) := by decide +kernel
theorem dX12_init_77 : decode cX12_init 77 = .ok (.aload_n 0, 1) := by decide +kernel
theorem dX12_init_78 : decode cX12_init 78 = .ok (.sipush 512, 3) := by decide +kernel
theorem dX12_init_81 : decode cX12_init 81 = .ok (.newarray .int, 2) := by decide +kernel
theorem dX12_init_83 : decode cX12_init 83 = .ok (.putfield 37, 3) := by decide +kernel
theorem dX12_init_86 : decode cX12_init 86 = .ok (.aload_n 0, 1) := by decide +kernel
theorem dX12_init_87 : decode cX12_init 87 = .ok (.sipush 512, 3) := by decide +kernel
theorem dX12_init_90 : decode cX12_init 90 = .ok (.newarray .int, 2) := by decide +kernel
theorem dX12_init_92 : decode cX12_init 92 = .ok (.putfield 40, 3) := by decide +kernel
theorem dX12_init_95 : decode cX12_init 95 = .ok (.aload_n 0, 1) := by decide +kernel
theorem dX12_init_96 : decode cX12_init 96 = .ok (.bipush 45, 2) := by decide +kernel
theorem dX12_init_98 : decode cX12_init 98 = .ok (.newarray .boolean, 2) := by decide +kernel
theorem dX12_init_100 : decode cX12_init 100 = .ok (.putfield 43, 3) := by decide +kernel
theorem dX12_init_103 : decode cX12_init 103 = .ok (.aload_n 0, 1) := by decide +kernel
theorem dX12_init_104 : decode cX12_init 104 = .ok (.bipush 16, 2) := by decide +kernel
theorem dX12_init_106 : decode cX12_init 106 = .ok (.newarray .int, 2) := by decide +kernel
theorem dX12_init_108 : decode cX12_init 108 = .ok (.putfield 47, 3) := by decide +kernel
theorem dX12_init_111 : decode cX12_init 111 = .ok (.aload_n 0, 1) := by decide +kernel
theorem dX12_init_112 : decode cX12_init 112 = .ok (.bipush 16, 2) := by decide +kernel
theorem dX12_init_114 : decode cX12_init 114 = .ok (.newarray .int, 2) := by decide +kernel
theorem dX12_init_116 : decode cX12_init 116 = .ok (.putfield 50, 3) := by decide +kernel
theorem dX12_init_119 : decode cX12_init 119 = .ok (.aload_n 0, 1) := by decide +kernel
theorem dX12_init_120 : decode cX12_init 120 = .ok (.iconst 1, 1) := by decide +kernel
theorem dX12_init_121 : decode cX12_init 121 = .ok (.putfield 53, 3) := by decide +kernel
theorem dX12_init_124 : decode cX12_init 124 = .ok (.aload_n 0, 1) := by decide +kernel
theorem dX12_init_125 : decode cX12_init 125 = .ok (.bipush 16, 2) := by decide +kernel
theorem dX12_init_127 : decode cX12_init 127 = .ok (.newarray .int, 2) := by decide +kernel
theorem dX12_init_129 : decode cX12_init 129 = .ok (.putfield 57, 3) := by decide +kernel
theorem dX12_init_132 : decode cX12_init 132 = .ok (.aload_n 0, 1) := by decide +kernel
theorem dX12_init_133 : decode cX12_init 133 = .ok (.bipush 16, 2) := by decide +kernel
theorem dX12_init_135 : decode cX12_init 135 = .ok (.newarray .int, 2) := by decide +kernel
theorem dX12_init_137 : decode cX12_init 137 = .ok (.putfield 60, 3) := by decide +kernel
theorem dX12_init_140 : decode cX12_init 140 = .ok (.aload_n 0, 1) := by decide +kernel
theorem dX12_init_141 : decode cX12_init 141 = .ok (.bipush 72, 2) := by decide +kernel
theorem dX12_init_143 : decode cX12_init 143 = .ok (.newarray .int, 2) := by decide +kernel
theorem dX12_init_145 : decode cX12_init 145 = .ok (.putfield 63, 3) := by decide +kernel
theorem dX12_init_148 : decode cX12_init 148 = .ok (.aload_n 0, 1) := by decide +kernel
theorem dX12_init_149 : decode cX12_init 149 = .ok (.bipush 72, 2) := by decide +kernel
theorem dX12_init_151 : decode cX12_init 151 = .ok (.newarray .int, 2) := by decide +kernel
theorem dX12_init_153 : decode cX12_init 153 = .ok (.putfield 66, 3) := by decide +kernel
theorem dX12_init_156 : decode cX12_init 156 = .ok (.aload_n 0, 1) := by decide +kernel
theorem dX12_init_157 : decode cX12_init 157 = .ok (.bipush 72, 2) := by decide +kernel
theorem dX12_init_159 : decode cX12_init 159 = .ok (.newarray .int, 2) := by decide +kernel
theorem dX12_init_161 : decode cX12_init 161 = .ok (.putfield 69, 3) := by decide +kernel
theorem dX12_init_164 : decode cX12_init 164 = .ok (.aload_n 0, 1) := by decide +kernel
theorem dX12_init_165 : decode cX12_init 165 = .ok (.bipush 72, 2) := by decide +kernel
theorem dX12_init_167 : decode cX12_init 167 = .ok (.newarray .int, 2) := by decide +kernel
theorem dX12_init_169 : decode cX12_init 169 = .ok (.putfield 72, 3) := by decide +kernel
theorem dX12_init_172 : decode cX12_init 172 = .ok (.aload_n 0, 1) := by decide +kernel
theorem dX12_init_173 : decode cX12_init 173 = .ok (.bipush 72, 2) := by decide +kernel
theorem dX12_init_175 : decode cX12_init 175 = .ok (.newarray .int, 2) := by decide +kernel
theorem dX12_init_177 : decode cX12_init 177 = .ok (.putfield 75, 3) := by decide +kernel
theorem dX12_init_180 : decode cX12_init 180 = .ok (.aload_n 0, 1) := by decide +kernel
theorem dX12_init_181 : decode cX12_init 181 = .ok (.bipush 72, 2) := by decide +kernel
theorem dX12_init_183 : decode cX12_init 183 = .ok (.newarray .int, 2) := by decide +kernel
theorem dX12_init_185 : decode cX12_init 185 = .ok (.putfield 78, 3) := by decide +kernel
theorem dX12_init_188 : decode cX12_init 188 = .ok (.aload_n 0, 1) := by decide +kernel
theorem dX12_init_189 : decode cX12_init 189 = .ok (.bipush 72, 2) := by decide +kernel
theorem dX12_init_191 : decode cX12_init 191 = .ok (.newarray .int, 2) := by decide +kernel
theorem dX12_init_193 : decode cX12_init 193 = .ok (.putfield 81, 3) := by decide +kernel
theorem dX12_init_196 : decode cX12_init 196 = .ok (.aload_n 0, 1) := by decide +kernel
theorem dX12_init_197 : decode cX12_init 197 = .ok (.bipush 72, 2) := by decide +kernel
theorem dX12_init_199 : decode cX12_init 199 = .ok (.newarray .int, 2) := by decide +kernel
theorem dX12_init_201 : decode cX12_init 201 = .ok (.putfield 84, 3) := by decide +kernel
theorem dX12_init_204 : decode cX12_init 204 = .ok (.aload_n 0, 1) := by decide +kernel
theorem dX12_init_205 : decode cX12_init 205 = .ok (.bipush 72, 2) := by decide +kernel
theorem dX12_init_207 : decode cX12_init 207 = .ok (.newarray .int, 2) := by decide +kernel
theorem dX12_init_209 : decode cX12_init 209 = .ok (.putfield 87, 3) := by decide +kernel
theorem dX12_init_212 : decode cX12_init 212 = .ok (.aload_n 0, 1) := by decide +kernel
theorem dX12_init_213 : decode cX12_init 213 = .ok (.bipush 72, 2) := by decide +kernel
theorem dX12_init_215 : decode cX12_init 215 = .ok (.newarray .int, 2) := by decide +kernel
theorem dX12_init_217 : decode cX12_init 217 = .ok (.putfield 90, 3) := by decide +kernel
theorem dX12_init_220 : decode cX12_init 220 = .ok (.aload_n 0, 1) := by decide +kernel
theorem dX12_init_221 : decode cX12_init 221 = .ok (.bipush 72, 2) := by decide +kernel
theorem dX12_init_223 : decode cX12_init 223 = .ok (.newarray .int, 2) := by decide +kernel
theorem dX12_init_225 : decode cX12_init 225 = .ok (.putfield 93, 3) := by decide +kernel
theorem dX12_init_228 : decode cX12_init 228 = .ok (.aload_n 0, 1) := by decide +kernel
theorem dX12_init_229 : decode cX12_init 229 = .ok (.bipush 72, 2) := by decide +kernel
theorem dX12_init_231 : decode cX12_init 231 = .ok (.newarray .int, 2) := by decide +kernel
theorem dX12_init_233 : decode cX12_init 233 = .ok (.putfield 96, 3) := by decide +kernel
theorem dX12_init_236 : decode cX12_init 236 = .ok (.aload_n 0, 1) := by decide +kernel
theorem dX12_init_237 : decode cX12_init 237 = .ok (.bipush 72, 2) := by decide +kernel
theorem dX12_init_239 : decode cX12_init 239 = .ok (.newarray .int, 2) := by decide +kernel
theorem dX12_init_241 : decode cX12_init 241 = .ok (.putfield 99, 3) := by decide +kernel
theorem dX12_init_244 : decode cX12_init 244 = .ok (.aload_n 0, 1) := by decide +kernel
theorem dX12_init_245 : decode cX12_init 245 = .ok (.sipush 1024, 3) := by decide +kernel
theorem dX12_init_248 : decode cX12_init 248 = .ok (.newarray .int, 2) := by decide +kernel
theorem dX12_init_250 : decode cX12_init 250 = .ok (.putfield 102, 3) := by decide +kernel
theorem dX12_init_253 : decode cX12_init 253 = .ok (.aload_n 0, 1) := by decide +kernel
theorem dX12_init_254 : decode cX12_init 254 = .ok (.sipush 1024, 3) := by decide +kernel
theorem dX12_init_257 : decode cX12_init 257 = .ok (.newarray .int, 2) := by decide +kernel
theorem dX12_init_259 : decode cX12_init 259 = .ok (.putfield 105, 3) := by decide +kernel
theorem dX12_init_262 : decode cX12_init 262 = .ok (.aload_n 0, 1) := by decide +kernel
theorem dX12_init_263 : decode cX12_init 263 = .ok (.sipush 1024, 3) := by decide +kernel
theorem dX12_init_266 : decode cX12_init 266 = .ok (.newarray .int, 2) := by decide +kernel
theorem dX12_init_268 : decode cX12_init 268 = .ok (.putfield 108, 3) := by decide +kernel
theorem dX12_init_271 : decode cX12_init 271 = .ok (.aload_n 0, 1) := by decide +kernel
theorem dX12_init_272 : decode cX12_init 272 = .ok (.sipush 1024, 3) := by decide +kernel
theorem dX12_init_275 : decode cX12_init 275 = .ok (.newarray .int, 2) := by decide +kernel
theorem dX12_init_277 : decode cX12_init 277 = .ok (.putfield 111, 3) := by decide +kernel
theorem dX12_init_280 : decode cX12_init 280 = .ok (.aload_n 0, 1) := by decide +kernel
theorem dX12_init_281 : decode cX12_init 281 = .ok (.sipush 1024, 3) := by decide +kernel
theorem dX12_init_284 : decode cX12_init 284 = .ok (.newarray .int, 2) := by decide +kernel
theorem dX12_init_286 : decode cX12_init 286 = .ok (.putfield 114, 3) := by decide +kernel
theorem dX12_init_289 : decode cX12_init 289 = .ok (.aload_n 0, 1) := by decide +kernel
theorem dX12_init_290 : decode cX12_init 290 = .ok (.sipush 1024, 3) := by decide +kernel
theorem dX12_init_293 : decode cX12_init 293 = .ok (.newarray .int, 2) := by decide +kernel
theorem dX12_init_295 : decode cX12_init 295 = .ok (.putfield 117, 3) := by decide +kernel
theorem dX12_init_298 : decode cX12_init 298 = .ok (.aload_n 0, 1) := by decide +kernel
theorem dX12_init_299 : decode cX12_init 299 = .ok (.sipush 1024, 3) := by decide +kernel
theorem dX12_init_302 : decode cX12_init 302 = .ok (.newarray .int, 2) := by decide +kernel
theorem dX12_init_304 : decode cX12_init 304 = .ok (.putfield 120, 3) := by decide +kernel
theorem dX12_init_307 : decode cX12_init 307 = .ok (.aload_n 0, 1) := by decide +kernel
theorem dX12_init_308 : decode cX12_init 308 = .ok (.sipush 1024, 3) := by decide +kernel
theorem dX12_init_311 : decode cX12_init 311 = .ok (.newarray .int, 2) := by decide +kernel
theorem dX12_init_313 : decode cX12_init 313 = .ok (.putfield 123, 3) := by decide +kernel
theorem dX12_init_316 : decode cX12_init 316 = .ok (.aload_n 0, 1) := by decide +kernel
theorem dX12_init_317 : decode cX12_init 317 = .ok (.bipush 17, 2) := by decide +kernel
theorem dX12_init_319 : decode cX12_init 319 = .ok (.newarray .int, 2) := by decide +kernel
theorem dX12_init_321 : decode cX12_init 321 = .ok (.putfield 126, 3) := by decide +kernel
theorem dX12_init_324 : decode cX12_init 324 = .ok (.aload_n 0, 1) := by decide +kernel
theorem dX12_init_325 : decode cX12_init 325 = .ok (.bipush 17, 2) := by decide +kernel
theorem dX12_init_327 : decode cX12_init 327 = .ok (.newarray .int, 2) := by decide +kernel
theorem dX12_init_329 : decode cX12_init 329 = .ok (.putfield 129, 3) := by decide +kernel
theorem dX12_init_332 : decode cX12_init 332 = .ok (.aload_n 0, 1) := by decide +kernel
theorem dX12_init_333 : decode cX12_init 333 = .ok (.bipush 17, 2) := by decide +kernel
theorem dX12_init_335 : decode cX12_init 335 = .ok (.newarray .int, 2) := by decide +kernel
theorem dX12_init_337 : decode cX12_init 337 = .ok (.putfield 132, 3) := by decide +kernel
theorem dX12_init_340 : decode cX12_init 340 = .ok (.aload_n 0, 1) := by decide +kernel
theorem dX12_init_341 : decode cX12_init 341 = .ok (.sipush 1024, 3) := by decide +kernel
theorem dX12_init_344 : decode cX12_init 344 = .ok (.newarray .int, 2) := by decide +kernel
theorem dX12_init_346 : decode cX12_init 346 = .ok (.putfield 135, 3) := by decide +kernel
theorem dX12_init_349 : decode cX12_init 349 = .ok (.aload_n 0, 1) := by decide +kernel
theorem dX12_init_350 : decode cX12_init 350 = .ok (.sipush 1024, 3) := by decide +kernel
theorem dX12_init_353 : decode cX12_init 353 = .ok (.newarray .int, 2) := by decide +kernel
theorem dX12_init_355 : decode cX12_init 355 = .ok (.putfield 138, 3) := by decide +kernel
theorem dX12_init_358 : decode cX12_init 358 = .ok (.aload_n 0, 1) := by decide +kernel
theorem dX12_init_359 : decode cX12_init 359 = .ok (.sipush 1024, 3) := by decide +kernel
theorem dX12_init_362 : decode cX12_init 362 = .ok (.newarray .int, 2) := by decide +kernel
theorem dX12_init_364 : decode cX12_init 364 = .ok (.putfield 141, 3) := by decide +kernel
theorem dX12_init_367 : decode cX12_init 367 = .ok (.aload_n 0, 1) := by decide +kernel
theorem dX12_init_368 : decode cX12_init 368 = .ok (.sipush 1024, 3) := by decide +kernel
theorem dX12_init_371 : decode cX12_init 371 = .ok (.newarray .int, 2) := by decide +kernel
theorem dX12_init_373 : decode cX12_init 373 = .ok (.putfield 144, 3) := by decide +kernel
theorem dX12_init_376 : decode cX12_init 376 = .ok (.aload_n 0, 1) := by decide +kernel
theorem dX12_init_377 : decode cX12_init 377 = .ok (.sipush 1024, 3) := by decide +kernel
theorem dX12_init_380 : decode cX12_init 380 = .ok (.newarray .int, 2) := by decide +kernel
theorem dX12_init_382 : decode cX12_init 382 = .ok (.putfield 147, 3) := by decide +kernel
theorem dX12_init_385 : decode cX12_init 385 = .ok (.aload_n 0, 1) := by decide +kernel
theorem dX12_init_386 : decode cX12_init 386 = .ok (.sipush 1024, 3) := by decide +kernel
theorem dX12_init_389 : decode cX12_init 389 = .ok (.newarray .int, 2) := by decide +kernel
theorem dX12_init_391 : decode cX12_init 391 = .ok (.putfield 150, 3) := by decide +kernel
theorem dX12_init_394 : decode cX12_init 394 = .ok (.aload_n 0, 1) := by decide +kernel
theorem dX12_init_395 : decode cX12_init 395 = .ok (.sipush 1024, 3) := by decide +kernel
theorem dX12_init_398 : decode cX12_init 398 = .ok (.newarray .int, 2) := by decide +kernel
theorem dX12_init_400 : decode cX12_init 400 = .ok (.putfield 153, 3) := by decide +kernel
theorem dX12_init_403 : decode cX12_init 403 = .ok (.aload_n 0, 1) := by decide +kernel
theorem dX12_init_404 : decode cX12_init 404 = .ok (.sipush 256, 3) := by decide +kernel
theorem dX12_init_407 : decode cX12_init 407 = .ok (.newarray .boolean, 2) := by decide +kernel
theorem dX12_init_409 : decode cX12_init 409 = .ok (.putfield 156, 3) := by decide +kernel
theorem dX12_init_412 : decode cX12_init 412 = .ok (.aload_n 0, 1) := by decide +kernel
theorem dX12_init_413 : decode cX12_init 413 = .ok (.bipush 16, 2) := by decide +kernel
theorem dX12_init_415 : decode cX12_init 415 = .ok (.newarray .int, 2) := by decide +kernel
theorem dX12_init_417 : decode cX12_init 417 = .ok (.putfield 159, 3) := by decide +kernel
theorem dX12_init_420 : decode cX12_init 420 = .ok (.iconst 0, 1) := by decide +kernel
theorem dX12_init_421 : decode cX12_init 421 = .ok (.istore_n 1, 1) := by decide +kernel
theorem dX12_init_422 : decode cX12_init 422 = .ok (.iload_n 1, 1) := by decide +kernel
theorem dX12_init_423 : decode cX12_init 423 = .ok (.sipush 512, 3) := by decide +kernel
theorem dX12_init_426 : decode cX12_init 426 = .ok (.if_icmp .ge 85, 3) := by decide +kernel
theorem dX12_init_429 : decode cX12_init 429 = .ok (.iload_n 1, 1) := by decide +kernel
theorem dX12_init_430 : decode cX12_init 430 = .ok (.sipush 256, 3) := by decide +kernel
theorem dX12_init_433 : decode cX12_init 433 = .ok (.irem, 1) := by decide +kernel
theorem dX12_init_434 : decode cX12_init 434 = .ok (.istore_n 2, 1) := by decide +kernel
theorem dX12_init_435 : decode cX12_init 435 = .ok (.iload_n 2, 1) := by decide +kernel
theorem dX12_init_436 : decode cX12_init 436 = .ok (.bipush 21, 2) := by decide +kernel
theorem dX12_init_438 : decode cX12_init 438 = .ok (.bipush 23, 2) := by decide +kernel
theorem dX12_init_440 : decode cX12_init 440 = .ok (.invokestatic 162, 3) := by decide +kernel
theorem dX12_init_443 : decode cX12_init 443 = .ok (.ifCond .ne 15, 3) := by decide +kernel
theorem dX12_init_446 : decode cX12_init 446 = .ok (.iload_n 2, 1) := by decide +kernel
theorem dX12_init_447 : decode cX12_init 447 = .ok (.bipush 44, 2) := by decide +kernel
theorem dX12_init_449 : decode cX12_init 449 = .ok (.if_icmp .eq 9, 3) := by decide +kernel
theorem dX12_init_452 : decode cX12_init 452 = .ok (.iload_n 2, 1) := by decide +kernel
theorem dX12_init_453 : decode cX12_init 453 = .ok (.bipush 65, 2) := by decide +kernel
theorem dX12_init_455 : decode cX12_init 455 = .ok (.if_icmp .ne 7, 3) := by decide +kernel
theorem dX12_init_458 : decode cX12_init 458 = .ok (.iconst 1, 1) := by decide +kernel
theorem dX12_init_459 : decode cX12_init 459 = .ok (.goto 4, 3) := by decide +kernel
theorem dX12_init_462 : decode cX12_init 462 = .ok (.iconst 0, 1) := by decide +kernel
theorem dX12_init_463 : decode cX12_init 463 = .ok (.istore_n 3, 1) := by decide +kernel
theorem dX12_init_464 : decode cX12_init 464 = .ok (.aload_n 0, 1) := by decide +kernel
theorem dX12_init_465 : decode cX12_init 465 = .ok (.getfield 34, 3) := by decide +kernel
theorem dX12_init_468 : decode cX12_init 468 = .ok (.iload_n 1, 1) := by decide +kernel
theorem dX12_init_469 : decode cX12_init 469 = .ok (.iload_n 3, 1) := by decide +kernel
theorem dX12_init_470 : decode cX12_init 470 = .ok (.ifCond .eq 7, 3) := by decide +kernel
theorem dX12_init_473 : decode cX12_init 473 = .ok (.iconst 1, 1) := by decide +kernel
theorem dX12_init_474 : decode cX12_init 474 = .ok (.goto 4, 3) := by decide +kernel
theorem dX12_init_477 : decode cX12_init 477 = .ok (.iconst 0, 1) := by decide +kernel
theorem dX12_init_478 : decode cX12_init 478 = .ok (.iastore, 1) := by decide +kernel
theorem dX12_init_479 : decode cX12_init 479 = .ok (.aload_n 0, 1) := by decide +kernel
theorem dX12_init_480 : decode cX12_init 480 = .ok (.getfield 40, 3) := by decide +kernel
theorem dX12_init_483 : decode cX12_init 483 = .ok (.iload_n 1, 1) := by decide +kernel
theorem dX12_init_484 : decode cX12_init 484 = .ok (.iload_n 3, 1) := by decide +kernel
theorem dX12_init_485 : decode cX12_init 485 = .ok (.ifCond .ne 13, 3) := by decide +kernel
theorem dX12_init_488 : decode cX12_init 488 = .ok (.iload_n 2, 1) := by decide +kernel
theorem dX12_init_489 : decode cX12_init 489 = .ok (.iconst 2, 1) := by decide +kernel
theorem dX12_init_490 : decode cX12_init 490 = .ok (.if_icmp .eq 8, 3) := by decide +kernel
theorem dX12_init_493 : decode cX12_init 493 = .ok (.iload_n 2, 1) := by decide +kernel
theorem dX12_init_494 : decode cX12_init 494 = .ok (.iconst 3, 1) := by decide +kernel
theorem dX12_init_495 : decode cX12_init 495 = .ok (.if_icmp .ne 7, 3) := by decide +kernel
theorem dX12_init_498 : decode cX12_init 498 = .ok (.iconst 0, 1) := by decide +kernel
theorem dX12_init_499 : decode cX12_init 499 = .ok (.goto 5, 3) := by decide +kernel
theorem dX12_init_502 : decode cX12_init 502 = .ok (.bipush 10, 2) := by decide +kernel
theorem dX12_init_504 : decode cX12_init 504 = .ok (.iastore, 1) := by decide +kernel
theorem dX12_init_505 : decode cX12_init 505 = .ok (.iinc 1 1, 3) := by decide +kernel
theorem dX12_init_508 : decode cX12_init 508 = .ok (.goto (-86), 3) := by decide +kernel
theorem dX12_init_511 : decode cX12_init 511 = .ok (.return_, 1) := by decide +kernel
theorem dX12_thrown_0 : decode cX12_thrown 0 = .ok (.aload_n 0, 1) := by decide +kernel
theorem dX12_thrown_1 : decode cX12_thrown 1 = .ok (.getfield 166, 3) := by decide +kernel
theorem dX12_thrown_4 : decode cX12_thrown 4 = .ok (.ireturn, 1) := by decide +kernel
theorem dX12_in_0 : decode cX12_in 0 = .ok (.iload_n 0, 1) := by decide +kernel
theorem dX12_in_1 : decode cX12_in 1 = .ok (.iload_n 1, 1) := by decide +kernel
theorem dX12_in_2 : decode cX12_in 2 = .ok (.if_icmp .lt 12, 3) := by decide +kernel
theorem dX12_in_5 : decode cX12_in 5 = .ok (.iload_n 0, 1) := by decide +kernel
theorem dX12_in_6 : decode cX12_in 6 = .ok (.iload_n 2, 1) := by decide +kernel
theorem dX12_in_7 : decode cX12_in 7 = .ok (.if_icmp .gt 7, 3) := by decide +kernel
theorem dX12_in_10 : decode cX12_in 10 = .ok (.iconst 1, 1) := by decide +kernel
theorem dX12_in_11 : decode cX12_in 11 = .ok (.goto 4, 3) := by decide +kernel
theorem dX12_in_14 : decode cX12_in 14 = .ok (.iconst 0, 1) := by decide +kernel
theorem dX12_in_15 : decode cX12_in 15 = .ok (.ireturn, 1) := by decide +kernel
theorem dX12_isSign_0 : decode cX12_isSign 0 = .ok (.iload_n 0, 1) := by decide +kernel
theorem dX12_isSign_1 : decode cX12_isSign 1 = .ok (.iconst 0, 1) := by decide +kernel
theorem dX12_isSign_2 : decode cX12_isSign 2 = .ok (.bipush 23, 2) := by decide +kernel
theorem dX12_isSign_4 : decode cX12_isSign 4 = .ok (.invokestatic 162, 3) := by decide +kernel
theorem dX12_isSign_7 : decode cX12_isSign 7 = .ok (.ifCond .ne 14, 3) := by decide +kernel
theorem dX12_isSign_10 : decode cX12_isSign 10 = .ok (.iload_n 0, 1) := by decide +kernel
theorem dX12_isSign_11 : decode cX12_isSign 11 = .ok (.bipush 30, 2) := by decide +kernel
theorem dX12_isSign_13 : decode cX12_isSign 13 = .ok (.bipush 44, 2) := by decide +kernel
theorem dX12_isSign_15 : decode cX12_isSign 15 = .ok (.invokestatic 162, 3) := by decide +kernel
theorem dX12_isSign_18 : decode cX12_isSign 18 = .ok (.ifCond .eq 7, 3) := by decide +kernel
theorem dX12_isSign_21 : decode cX12_isSign 21 = .ok (.iconst 1, 1) := by decide +kernel
theorem dX12_isSign_22 : decode cX12_isSign 22 = .ok (.goto 4, 3) := by decide +kernel
theorem dX12_isSign_25 : decode cX12_isSign 25 = .ok (.iconst 0, 1) := by decide +kernel
theorem dX12_isSign_26 : decode cX12_isSign 26 = .ok (.ireturn, 1) := by decide +kernel
theorem dX12_isGlyph_0 : decode cX12_isGlyph 0 = .ok (.iload_n 0, 1) := by decide +kernel
theorem dX12_isGlyph_1 : decode cX12_isGlyph 1 = .ok (.iconst 0, 1) := by decide +kernel
theorem dX12_isGlyph_2 : decode cX12_isGlyph 2 = .ok (.sipush 255, 3) := by decide +kernel
theorem dX12_isGlyph_5 : decode cX12_isGlyph 5 = .ok (.invokestatic 162, 3) := by decide +kernel
theorem dX12_isGlyph_8 : decode cX12_isGlyph 8 = .ok (.ireturn, 1) := by decide +kernel
theorem dX12_useFace_0 : decode cX12_useFace 0 = .ok (.aload_n 0, 1) := by decide +kernel
theorem dX12_useFace_1 : decode cX12_useFace 1 = .ok (.iload_n 1, 1) := by decide +kernel
theorem dX12_useFace_2 : decode cX12_useFace 2 = .ok (.iconst 0, 1) := by decide +kernel
theorem dX12_useFace_3 : decode cX12_useFace 3 = .ok (.iconst 1, 1) := by decide +kernel
theorem dX12_useFace_4 : decode cX12_useFace 4 = .ok (.invokestatic 162, 3) := by decide +kernel
theorem dX12_useFace_7 : decode cX12_useFace 7 = .ok (.ifCond .eq 7, 3) := by decide +kernel
theorem dX12_useFace_10 : decode cX12_useFace 10 = .ok (.iconst 0, 1) := by decide +kernel
theorem dX12_useFace_11 : decode cX12_useFace 11 = .ok (.goto 4, 3) := by decide +kernel
theorem dX12_useFace_14 : decode cX12_useFace 14 = .ok (.iconst 1, 1) := by decide +kernel
theorem dX12_useFace_15 : decode cX12_useFace 15 = .ok (.putfield 166, 3) := by decide +kernel
theorem dX12_useFace_18 : decode cX12_useFace 18 = .ok (.aload_n 0, 1) := by decide +kernel
theorem dX12_useFace_19 : decode cX12_useFace 19 = .ok (.getfield 166, 3) := by decide +kernel
theorem dX12_useFace_22 : decode cX12_useFace 22 = .ok (.ifCond .le 5, 3) := by decide +kernel
theorem dX12_useFace_25 : decode cX12_useFace 25 = .ok (.iconst 0, 1) := by decide +kernel
theorem dX12_useFace_26 : decode cX12_useFace 26 = .ok (.ireturn, 1) := by decide +kernel
theorem dX12_useFace_27 : decode cX12_useFace 27 = .ok (.aload_n 0, 1) := by decide +kernel
theorem dX12_useFace_28 : decode cX12_useFace 28 = .ok (.getfield 169, 3) := by decide +kernel
theorem dX12_useFace_31 : decode cX12_useFace 31 = .ok (.istore_n 2, 1) := by decide +kernel
theorem dX12_useFace_32 : decode cX12_useFace 32 = .ok (.aload_n 0, 1) := by decide +kernel
theorem dX12_useFace_33 : decode cX12_useFace 33 = .ok (.iload_n 1, 1) := by decide +kernel
theorem dX12_useFace_34 : decode cX12_useFace 34 = .ok (.putfield 169, 3) := by decide +kernel
theorem dX12_useFace_37 : decode cX12_useFace 37 = .ok (.iload_n 2, 1) := by decide +kernel
theorem dX12_useFace_38 : decode cX12_useFace 38 = .ok (.ireturn, 1) := by decide +kernel
theorem dX12_lookup_0 : decode cX12_lookup 0 = .ok (.iload_n 3, 1) := by decide +kernel
theorem dX12_lookup_1 : decode cX12_lookup 1 = .ok (.iconst 0, 1) := by decide +kernel
theorem dX12_lookup_2 : decode cX12_lookup 2 = .ok (.iconst 1, 1) := by decide +kernel
theorem dX12_lookup_3 : decode cX12_lookup 3 = .ok (.invokestatic 162, 3) := by decide +kernel
theorem dX12_lookup_6 : decode cX12_lookup 6 = .ok (.ifCond .eq 27, 3) := by decide +kernel
theorem dX12_lookup_9 : decode cX12_lookup 9 = .ok (.iload 4, 2) := by decide +kernel
theorem dX12_lookup_11 : decode cX12_lookup 11 = .ok (.iconst 0, 1) := by decide +kernel
theorem dX12_lookup_12 : decode cX12_lookup 12 = .ok (.iconst 2, 1) := by decide +kernel
theorem dX12_lookup_13 : decode cX12_lookup 13 = .ok (.invokestatic 162, 3) := by decide +kernel
theorem dX12_lookup_16 : decode cX12_lookup 16 = .ok (.ifCond .eq 17, 3) := by decide +kernel
theorem dX12_lookup_19 : decode cX12_lookup 19 = .ok (.iload 5, 2) := by decide +kernel
theorem dX12_lookup_21 : decode cX12_lookup 21 = .ok (.iconst 0, 1) := by decide +kernel
theorem dX12_lookup_22 : decode cX12_lookup 22 = .ok (.iconst 5, 1) := by decide +kernel
theorem dX12_lookup_23 : decode cX12_lookup 23 = .ok (.invokestatic 162, 3) := by decide +kernel
theorem dX12_lookup_26 : decode cX12_lookup 26 = .ok (.ifCond .eq 7, 3) := by decide +kernel
theorem dX12_lookup_29 : decode cX12_lookup 29 = .ok (.iconst 1, 1) := by decide +kernel
theorem dX12_lookup_30 : decode cX12_lookup 30 = .ok (.goto 4, 3) := by decide +kernel
theorem dX12_lookup_33 : decode cX12_lookup 33 = .ok (.iconst 0, 1) := by decide +kernel
theorem dX12_lookup_34 : decode cX12_lookup 34 = .ok (.istore 6, 2) := by decide +kernel
theorem dX12_lookup_36 : decode cX12_lookup 36 = .ok (.aload_n 0, 1) := by decide +kernel
theorem dX12_lookup_37 : decode cX12_lookup 37 = .ok (.iload_n 1, 1) := by decide +kernel
theorem dX12_lookup_38 : decode cX12_lookup 38 = .ok (.iconst 0, 1) := by decide +kernel
theorem dX12_lookup_39 : decode cX12_lookup 39 = .ok (.bipush 9, 2) := by decide +kernel
theorem dX12_lookup_41 : decode cX12_lookup 41 = .ok (.invokestatic 162, 3) := by decide +kernel
theorem dX12_lookup_44 : decode cX12_lookup 44 = .ok (.ifCond .eq 13, 3) := by decide +kernel
theorem dX12_lookup_47 : decode cX12_lookup 47 = .ok (.iload_n 2, 1) := by decide +kernel
theorem dX12_lookup_48 : decode cX12_lookup 48 = .ok (.iconst 0, 1) := by decide +kernel
theorem dX12_lookup_49 : decode cX12_lookup 49 = .ok (.bipush 6, 2) := by decide +kernel
theorem dX12_lookup_51 : decode cX12_lookup 51 = .ok (.invokestatic 162, 3) := by decide +kernel
theorem dX12_lookup_54 : decode cX12_lookup 54 = .ok (.ifCond .ne 7, 3) := by decide +kernel
theorem dX12_lookup_57 : decode cX12_lookup 57 = .ok (.iconst 1, 1) := by decide +kernel
theorem dX12_lookup_58 : decode cX12_lookup 58 = .ok (.goto 31, 3) := by decide +kernel
theorem dX12_lookup_61 : decode cX12_lookup 61 = .ok (.iload 6, 2) := by decide +kernel
theorem dX12_lookup_63 : decode cX12_lookup 63 = .ok (.ifCond .ne 7, 3) := by decide +kernel
theorem dX12_lookup_66 : decode cX12_lookup 66 = .ok (.iconst 2, 1) := by decide +kernel
theorem dX12_lookup_67 : decode cX12_lookup 67 = .ok (.goto 22, 3) := by decide +kernel
theorem dX12_lookup_70 : decode cX12_lookup 70 = .ok (.aload_n 0, 1) := by decide +kernel
theorem dX12_lookup_71 : decode cX12_lookup 71 = .ok (.getfield 7, 3) := by decide +kernel
theorem dX12_lookup_74 : decode cX12_lookup 74 = .ok (.aload_n 0, 1) := by decide +kernel
theorem dX12_lookup_75 : decode cX12_lookup 75 = .ok (.getfield 169, 3) := by decide +kernel
theorem dX12_lookup_78 : decode cX12_lookup 78 = .ok (.iaload, 1) := by decide +kernel
theorem dX12_lookup_79 : decode cX12_lookup 79 = .ok (.bipush 12, 2) := by decide +kernel
theorem dX12_lookup_81 : decode cX12_lookup 81 = .ok (.if_icmp .ne 7, 3) := by decide +kernel
theorem dX12_lookup_84 : decode cX12_lookup 84 = .ok (.iconst 3, 1) := by decide +kernel
theorem dX12_lookup_85 : decode cX12_lookup 85 = .ok (.goto 4, 3) := by decide +kernel
theorem dX12_lookup_88 : decode cX12_lookup 88 = .ok (.iconst 0, 1) := by decide +kernel
theorem dX12_lookup_89 : decode cX12_lookup 89 = .ok (.putfield 166, 3) := by decide +kernel
theorem dX12_lookup_92 : decode cX12_lookup 92 = .ok (.aload_n 0, 1) := by decide +kernel
theorem dX12_lookup_93 : decode cX12_lookup 93 = .ok (.getfield 166, 3) := by decide +kernel
theorem dX12_lookup_96 : decode cX12_lookup 96 = .ok (.ifCond .le 5, 3) := by decide +kernel
theorem dX12_lookup_99 : decode cX12_lookup 99 = .ok (.iconst 0, 1) := by decide +kernel
theorem dX12_lookup_100 : decode cX12_lookup 100 = .ok (.ireturn, 1) := by decide +kernel
theorem dX12_lookup_101 : decode cX12_lookup 101 = .ok (.bipush 12, 2) := by decide +kernel
theorem dX12_lookup_103 : decode cX12_lookup 103 = .ok (.aload_n 0, 1) := by decide +kernel
theorem dX12_lookup_104 : decode cX12_lookup 104 = .ok (.getfield 169, 3) := by decide +kernel
theorem dX12_lookup_107 : decode cX12_lookup 107 = .ok (.imul, 1) := by decide +kernel
theorem dX12_lookup_108 : decode cX12_lookup 108 = .ok (.aload_n 0, 1) := by decide +kernel
theorem dX12_lookup_109 : decode cX12_lookup 109 = .ok (.getfield 7, 3) := by decide +kernel
theorem dX12_lookup_112 : decode cX12_lookup 112 = .ok (.aload_n 0, 1) := by decide +kernel
theorem dX12_lookup_113 : decode cX12_lookup 113 = .ok (.getfield 169, 3) := by decide +kernel
theorem dX12_lookup_116 : decode cX12_lookup 116 = .ok (.iaload, 1) := by decide +kernel
theorem dX12_lookup_117 : decode cX12_lookup 117 = .ok (.iadd, 1) := by decide +kernel
theorem dX12_lookup_118 : decode cX12_lookup 118 = .ok (.istore 7, 2) := by decide +kernel
theorem dX12_lookup_120 : decode cX12_lookup 120 = .ok (.aload_n 0, 1) := by decide +kernel
theorem dX12_lookup_121 : decode cX12_lookup 121 = .ok (.getfield 13, 3) := by decide +kernel
theorem dX12_lookup_124 : decode cX12_lookup 124 = .ok (.iload 7, 2) := by decide +kernel
theorem dX12_lookup_126 : decode cX12_lookup 126 = .ok (.iload_n 1, 1) := by decide +kernel
theorem dX12_lookup_127 : decode cX12_lookup 127 = .ok (.iastore, 1) := by decide +kernel
theorem dX12_lookup_128 : decode cX12_lookup 128 = .ok (.aload_n 0, 1) := by decide +kernel
theorem dX12_lookup_129 : decode cX12_lookup 129 = .ok (.getfield 16, 3) := by decide +kernel
theorem dX12_lookup_132 : decode cX12_lookup 132 = .ok (.iload 7, 2) := by decide +kernel
theorem dX12_lookup_134 : decode cX12_lookup 134 = .ok (.iload_n 2, 1) := by decide +kernel
theorem dX12_lookup_135 : decode cX12_lookup 135 = .ok (.iastore, 1) := by decide +kernel
theorem dX12_lookup_136 : decode cX12_lookup 136 = .ok (.aload_n 0, 1) := by decide +kernel
theorem dX12_lookup_137 : decode cX12_lookup 137 = .ok (.getfield 19, 3) := by decide +kernel
theorem dX12_lookup_140 : decode cX12_lookup 140 = .ok (.iload 7, 2) := by decide +kernel
theorem dX12_lookup_142 : decode cX12_lookup 142 = .ok (.iload_n 3, 1) := by decide +kernel
theorem dX12_lookup_143 : decode cX12_lookup 143 = .ok (.iastore, 1) := by decide +kernel
theorem dX12_lookup_144 : decode cX12_lookup 144 = .ok (.aload_n 0, 1) := by decide +kernel
theorem dX12_lookup_145 : decode cX12_lookup 145 = .ok (.getfield 22, 3) := by decide +kernel
theorem dX12_lookup_148 : decode cX12_lookup 148 = .ok (.iload 7, 2) := by decide +kernel
theorem dX12_lookup_150 : decode cX12_lookup 150 = .ok (.iload 4, 2) := by decide +kernel
theorem dX12_lookup_152 : decode cX12_lookup 152 = .ok (.iastore, 1) := by decide +kernel
theorem dX12_lookup_153 : decode cX12_lookup 153 = .ok (.aload_n 0, 1) := by decide +kernel
theorem dX12_lookup_154 : decode cX12_lookup 154 = .ok (.getfield 25, 3) := by decide +kernel
theorem dX12_lookup_157 : decode cX12_lookup 157 = .ok (.iload 7, 2) := by decide +kernel
theorem dX12_lookup_159 : decode cX12_lookup 159 = .ok (.iload 5, 2) := by decide +kernel
theorem dX12_lookup_161 : decode cX12_lookup 161 = .ok (.iastore, 1) := by decide +kernel
theorem dX12_lookup_162 : decode cX12_lookup 162 = .ok (.aload_n 0, 1) := by decide +kernel
theorem dX12_lookup_163 : decode cX12_lookup 163 = .ok (.getfield 28, 3) := by decide +kernel
theorem dX12_lookup_166 : decode cX12_lookup 166 = .ok (.iload 7, 2) := by decide +kernel
theorem dX12_lookup_168 : decode cX12_lookup 168 = .ok (.iconst 0, 1) := by decide +kernel
theorem dX12_lookup_169 : decode cX12_lookup 169 = .ok (.iastore, 1) := by decide +kernel
theorem dX12_lookup_170 : decode cX12_lookup 170 = .ok (.aload_n 0, 1) := by decide +kernel
theorem dX12_lookup_171 : decode cX12_lookup 171 = .ok (.getfield 7, 3) := by decide +kernel
theorem dX12_lookup_174 : decode cX12_lookup 174 = .ok (.aload_n 0, 1) := by decide +kernel
theorem dX12_lookup_175 : decode cX12_lookup 175 = .ok (.getfield 169, 3) := by decide +kernel
theorem dX12_lookup_178 : decode cX12_lookup 178 = .ok (.dup2, 1) := by decide +kernel
theorem dX12_lookup_179 : decode cX12_lookup 179 = .ok (.iaload, 1) := by decide +kernel
theorem dX12_lookup_180 : decode cX12_lookup 180 = .ok (.iconst 1, 1) := by decide +kernel
theorem dX12_lookup_181 : decode cX12_lookup 181 = .ok (.iadd, 1) := by decide +kernel
theorem dX12_lookup_182 : decode cX12_lookup 182 = .ok (.iastore, 1) := by decide +kernel
theorem dX12_lookup_183 : decode cX12_lookup 183 = .ok (.aload_n 0, 1) := by decide +kernel
theorem dX12_lookup_184 : decode cX12_lookup 184 = .ok (.getfield 7, 3) := by decide +kernel
theorem dX12_lookup_187 : decode cX12_lookup 187 = .ok (.aload_n 0, 1) := by decide +kernel
theorem dX12_lookup_188 : decode cX12_lookup 188 = .ok (.getfield 169, 3) := by decide +kernel
theorem dX12_lookup_191 : decode cX12_lookup 191 = .ok (.iaload, 1) := by decide +kernel
theorem dX12_lookup_192 : decode cX12_lookup 192 = .ok (.iconst 1, 1) := by decide +kernel
theorem dX12_lookup_193 : decode cX12_lookup 193 = .ok (.isub, 1) := by decide +kernel
theorem dX12_lookup_194 : decode cX12_lookup 194 = .ok (.ireturn, 1) := by decide +kernel
theorem dX12_isItem_0 : decode cX12_isItem 0 = .ok (.iload_n 0, 1) := by decide +kernel
theorem dX12_isItem_1 : decode cX12_isItem 1 = .ok (.invokestatic 172, 3) := by decide +kernel
theorem dX12_isItem_4 : decode cX12_isItem 4 = .ok (.ifCond .ne 16, 3) := by decide +kernel
theorem dX12_isItem_7 : decode cX12_isItem 7 = .ok (.iload_n 0, 1) := by decide +kernel
theorem dX12_isItem_8 : decode cX12_isItem 8 = .ok (.sipush 300, 3) := by decide +kernel
theorem dX12_isItem_11 : decode cX12_isItem 11 = .ok (.sipush 305, 3) := by decide +kernel
theorem dX12_isItem_14 : decode cX12_isItem 14 = .ok (.invokestatic 162, 3) := by decide +kernel
theorem dX12_isItem_17 : decode cX12_isItem 17 = .ok (.ifCond .eq 7, 3) := by decide +kernel
theorem dX12_isItem_20 : decode cX12_isItem 20 = .ok (.iconst 1, 1) := by decide +kernel
theorem dX12_isItem_21 : decode cX12_isItem 21 = .ok (.goto 4, 3) := by decide +kernel
theorem dX12_isItem_24 : decode cX12_isItem 24 = .ok (.iconst 0, 1) := by decide +kernel
theorem dX12_isItem_25 : decode cX12_isItem 25 = .ok (.ireturn, 1) := by decide +kernel
theorem dX12_isItemOrNone_0 : decode cX12_isItemOrNone 0 = .ok (.iload_n 0, 1) := by decide +kernel
theorem dX12_isItemOrNone_1 : decode cX12_isItemOrNone 1 = .ok (.bipush (-100), 2) := by decide +kernel
theorem dX12_isItemOrNone_3 : decode cX12_isItemOrNone 3 = .ok (.if_icmp .eq 10, 3) := by decide +kernel
theorem dX12_isItemOrNone_6 : decode cX12_isItemOrNone 6 = .ok (.iload_n 0, 1) := by decide +kernel
theorem dX12_isItemOrNone_7 : decode cX12_isItemOrNone 7 = .ok (.invokestatic 176, 3) := by decide +kernel
theorem dX12_isItemOrNone_10 : decode cX12_isItemOrNone 10 = .ok (.ifCond .eq 7, 3) := by decide +kernel
theorem dX12_isItemOrNone_13 : decode cX12_isItemOrNone 13 = .ok (.iconst 1, 1) := by decide +kernel
theorem dX12_isItemOrNone_14 : decode cX12_isItemOrNone 14 = .ok (.goto 4, 3) := by decide +kernel
theorem dX12_isItemOrNone_17 : decode cX12_isItemOrNone 17 = .ok (.iconst 0, 1) := by decide +kernel
theorem dX12_isItemOrNone_18 : decode cX12_isItemOrNone 18 = .ok (.ireturn, 1) := by decide +kernel
theorem dX12_isGlyphOrNone_0 : decode cX12_isGlyphOrNone 0 = .ok (.iload_n 0, 1) := by decide +kernel
theorem dX12_isGlyphOrNone_1 : decode cX12_isGlyphOrNone 1 = .ok (.bipush (-100), 2) := by decide +kernel
theorem dX12_isGlyphOrNone_3 : decode cX12_isGlyphOrNone 3 = .ok (.if_icmp .eq 10, 3) := by decide +kernel
theorem dX12_isGlyphOrNone_6 : decode cX12_isGlyphOrNone 6 = .ok (.iload_n 0, 1) := by decide +kernel
theorem dX12_isGlyphOrNone_7 : decode cX12_isGlyphOrNone 7 = .ok (.invokestatic 172, 3) := by decide +kernel
theorem dX12_isGlyphOrNone_10 : decode cX12_isGlyphOrNone 10 = .ok (.ifCond .eq 7, 3) := by decide +kernel
theorem dX12_isGlyphOrNone_13 : decode cX12_isGlyphOrNone 13 = .ok (.iconst 1, 1) := by decide +kernel
theorem dX12_isGlyphOrNone_14 : decode cX12_isGlyphOrNone 14 = .ok (.goto 4, 3) := by decide +kernel
theorem dX12_isGlyphOrNone_17 : decode cX12_isGlyphOrNone 17 = .ok (.iconst 0, 1) := by decide +kernel
theorem dX12_isGlyphOrNone_18 : decode cX12_isGlyphOrNone 18 = .ok (.ireturn, 1) := by decide +kernel
theorem dX12_isFar_0 : decode cX12_isFar 0 = .ok (.iload_n 0, 1) := by decide +kernel
theorem dX12_isFar_1 : decode cX12_isFar 1 = .ok (.bipush (-50), 2) := by decide +kernel
theorem dX12_isFar_3 : decode cX12_isFar 3 = .ok (.bipush 50, 2) := by decide +kernel
theorem dX12_isFar_5 : decode cX12_isFar 5 = .ok (.invokestatic 162, 3) := by decide +kernel
theorem dX12_isFar_8 : decode cX12_isFar 8 = .ok (.ireturn, 1) := by decide +kernel
theorem dX12_isFarOrNone_0 : decode cX12_isFarOrNone 0 = .ok (.iload_n 0, 1) := by decide +kernel
theorem dX12_isFarOrNone_1 : decode cX12_isFarOrNone 1 = .ok (.bipush (-100), 2) := by decide +kernel
theorem dX12_isFarOrNone_3 : decode cX12_isFarOrNone 3 = .ok (.if_icmp .eq 10, 3) := by decide +kernel
theorem dX12_isFarOrNone_6 : decode cX12_isFarOrNone 6 = .ok (.iload_n 0, 1) := by decide +kernel
theorem dX12_isFarOrNone_7 : decode cX12_isFarOrNone 7 = .ok (.invokestatic 179, 3) := by decide +kernel
theorem dX12_isFarOrNone_10 : decode cX12_isFarOrNone 10 = .ok (.ifCond .eq 7, 3) := by decide +kernel
theorem dX12_isFarOrNone_13 : decode cX12_isFarOrNone 13 = .ok (.iconst 1, 1) := by decide +kernel
theorem dX12_isFarOrNone_14 : decode cX12_isFarOrNone 14 = .ok (.goto 4, 3) := by decide +kernel
theorem dX12_isFarOrNone_17 : decode cX12_isFarOrNone 17 = .ok (.iconst 0, 1) := by decide +kernel
theorem dX12_isFarOrNone_18 : decode cX12_isFarOrNone 18 = .ok (.ireturn, 1) := by decide +kernel
theorem dX12_isClass_0 : decode cX12_isClass 0 = .ok (.iload_n 0, 1) := by decide +kernel
theorem dX12_isClass_1 : decode cX12_isClass 1 = .ok (.iconst 0, 1) := by decide +kernel
theorem dX12_isClass_2 : decode cX12_isClass 2 = .ok (.iconst 3, 1) := by decide +kernel
theorem dX12_isClass_3 : decode cX12_isClass 3 = .ok (.invokestatic 162, 3) := by decide +kernel
theorem dX12_isClass_6 : decode cX12_isClass 6 = .ok (.ireturn, 1) := by decide +kernel
theorem dX12_areFour_0 : decode cX12_areFour 0 = .ok (.iload_n 0, 1) := by decide +kernel
theorem dX12_areFour_1 : decode cX12_areFour 1 = .ok (.tableswitch 362 0 8 #[51, 80, 115, 150, 185, 220, 255, 287, 319], 51) := by decide +kernel
theorem dX12_areFour_52 : decode cX12_areFour 52 = .ok (.iload_n 1, 1) := by decide +kernel
theorem dX12_areFour_53 : decode cX12_areFour 53 = .ok (.invokestatic 176, 3) := by decide +kernel
theorem dX12_areFour_56 : decode cX12_areFour 56 = .ok (.ifCond .eq 23, 3) := by decide +kernel
theorem dX12_areFour_59 : decode cX12_areFour 59 = .ok (.iload_n 2, 1) := by decide +kernel
theorem dX12_areFour_60 : decode cX12_areFour 60 = .ok (.invokestatic 172, 3) := by decide +kernel
theorem dX12_areFour_63 : decode cX12_areFour 63 = .ok (.ifCond .eq 16, 3) := by decide +kernel
theorem dX12_areFour_66 : decode cX12_areFour 66 = .ok (.iload_n 3, 1) := by decide +kernel
theorem dX12_areFour_67 : decode cX12_areFour 67 = .ok (.ifCond .ne 12, 3) := by decide +kernel
theorem dX12_areFour_70 : decode cX12_areFour 70 = .ok (.iload 4, 2) := by decide +kernel
theorem dX12_areFour_72 : decode cX12_areFour 72 = .ok (.ifCond .ne 7, 3) := by decide +kernel
theorem dX12_areFour_75 : decode cX12_areFour 75 = .ok (.iconst 1, 1) := by decide +kernel
theorem dX12_areFour_76 : decode cX12_areFour 76 = .ok (.goto 4, 3) := by decide +kernel
theorem dX12_areFour_79 : decode cX12_areFour 79 = .ok (.iconst 0, 1) := by decide +kernel
theorem dX12_areFour_80 : decode cX12_areFour 80 = .ok (.ireturn, 1) := by decide +kernel
theorem dX12_areFour_81 : decode cX12_areFour 81 = .ok (.iload_n 1, 1) := by decide +kernel
theorem dX12_areFour_82 : decode cX12_areFour 82 = .ok (.invokestatic 176, 3) := by decide +kernel
theorem dX12_areFour_85 : decode cX12_areFour 85 = .ok (.ifCond .eq 29, 3) := by decide +kernel
theorem dX12_areFour_88 : decode cX12_areFour 88 = .ok (.iload_n 2, 1) := by decide +kernel
theorem dX12_areFour_89 : decode cX12_areFour 89 = .ok (.invokestatic 172, 3) := by decide +kernel
theorem dX12_areFour_92 : decode cX12_areFour 92 = .ok (.ifCond .eq 22, 3) := by decide +kernel
theorem dX12_areFour_95 : decode cX12_areFour 95 = .ok (.iload_n 3, 1) := by decide +kernel
theorem dX12_areFour_96 : decode cX12_areFour 96 = .ok (.invokestatic 172, 3) := by decide +kernel
theorem dX12_areFour_99 : decode cX12_areFour 99 = .ok (.ifCond .eq 15, 3) := by decide +kernel
theorem dX12_areFour_102 : decode cX12_areFour 102 = .ok (.iload 4, 2) := by decide +kernel
theorem dX12_areFour_104 : decode cX12_areFour 104 = .ok (.invokestatic 182, 3) := by decide +kernel
theorem dX12_areFour_107 : decode cX12_areFour 107 = .ok (.ifCond .eq 7, 3) := by decide +kernel
theorem dX12_areFour_110 : decode cX12_areFour 110 = .ok (.iconst 1, 1) := by decide +kernel
theorem dX12_areFour_111 : decode cX12_areFour 111 = .ok (.goto 4, 3) := by decide +kernel
theorem dX12_areFour_114 : decode cX12_areFour 114 = .ok (.iconst 0, 1) := by decide +kernel
theorem dX12_areFour_115 : decode cX12_areFour 115 = .ok (.ireturn, 1) := by decide +kernel
theorem dX12_areFour_116 : decode cX12_areFour 116 = .ok (.iload_n 1, 1) := by decide +kernel
theorem dX12_areFour_117 : decode cX12_areFour 117 = .ok (.invokestatic 176, 3) := by decide +kernel
theorem dX12_areFour_120 : decode cX12_areFour 120 = .ok (.ifCond .eq 29, 3) := by decide +kernel
theorem dX12_areFour_123 : decode cX12_areFour 123 = .ok (.iload_n 2, 1) := by decide +kernel
theorem dX12_areFour_124 : decode cX12_areFour 124 = .ok (.invokestatic 172, 3) := by decide +kernel
theorem dX12_areFour_127 : decode cX12_areFour 127 = .ok (.ifCond .eq 22, 3) := by decide +kernel
theorem dX12_areFour_130 : decode cX12_areFour 130 = .ok (.iload_n 3, 1) := by decide +kernel
theorem dX12_areFour_131 : decode cX12_areFour 131 = .ok (.invokestatic 172, 3) := by decide +kernel
theorem dX12_areFour_134 : decode cX12_areFour 134 = .ok (.ifCond .eq 15, 3) := by decide +kernel
theorem dX12_areFour_137 : decode cX12_areFour 137 = .ok (.iload 4, 2) := by decide +kernel
theorem dX12_areFour_139 : decode cX12_areFour 139 = .ok (.invokestatic 172, 3) := by decide +kernel
theorem dX12_areFour_142 : decode cX12_areFour 142 = .ok (.ifCond .eq 7, 3) := by decide +kernel
theorem dX12_areFour_145 : decode cX12_areFour 145 = .ok (.iconst 1, 1) := by decide +kernel
theorem dX12_areFour_146 : decode cX12_areFour 146 = .ok (.goto 4, 3) := by decide +kernel
theorem dX12_areFour_149 : decode cX12_areFour 149 = .ok (.iconst 0, 1) := by decide +kernel
theorem dX12_areFour_150 : decode cX12_areFour 150 = .ok (.ireturn, 1) := by decide +kernel
theorem dX12_areFour_151 : decode cX12_areFour 151 = .ok (.iload_n 1, 1) := by decide +kernel
theorem dX12_areFour_152 : decode cX12_areFour 152 = .ok (.invokestatic 176, 3) := by decide +kernel
theorem dX12_areFour_155 : decode cX12_areFour 155 = .ok (.ifCond .eq 29, 3) := by decide +kernel
theorem dX12_areFour_158 : decode cX12_areFour 158 = .ok (.iload_n 2, 1) := by decide +kernel
theorem dX12_areFour_159 : decode cX12_areFour 159 = .ok (.invokestatic 176, 3) := by decide +kernel
theorem dX12_areFour_162 : decode cX12_areFour 162 = .ok (.ifCond .eq 22, 3) := by decide +kernel
theorem dX12_areFour_165 : decode cX12_areFour 165 = .ok (.iload_n 3, 1) := by decide +kernel
theorem dX12_areFour_166 : decode cX12_areFour 166 = .ok (.invokestatic 185, 3) := by decide +kernel
theorem dX12_areFour_169 : decode cX12_areFour 169 = .ok (.ifCond .eq 15, 3) := by decide +kernel
theorem dX12_areFour_172 : decode cX12_areFour 172 = .ok (.iload 4, 2) := by decide +kernel
theorem dX12_areFour_174 : decode cX12_areFour 174 = .ok (.invokestatic 172, 3) := by decide +kernel
theorem dX12_areFour_177 : decode cX12_areFour 177 = .ok (.ifCond .eq 7, 3) := by decide +kernel
theorem dX12_areFour_180 : decode cX12_areFour 180 = .ok (.iconst 1, 1) := by decide +kernel
theorem dX12_areFour_181 : decode cX12_areFour 181 = .ok (.goto 4, 3) := by decide +kernel
theorem dX12_areFour_184 : decode cX12_areFour 184 = .ok (.iconst 0, 1) := by decide +kernel
theorem dX12_areFour_185 : decode cX12_areFour 185 = .ok (.ireturn, 1) := by decide +kernel
theorem dX12_areFour_186 : decode cX12_areFour 186 = .ok (.iload_n 1, 1) := by decide +kernel
theorem dX12_areFour_187 : decode cX12_areFour 187 = .ok (.invokestatic 185, 3) := by decide +kernel
theorem dX12_areFour_190 : decode cX12_areFour 190 = .ok (.ifCond .eq 29, 3) := by decide +kernel
theorem dX12_areFour_193 : decode cX12_areFour 193 = .ok (.iload_n 2, 1) := by decide +kernel
theorem dX12_areFour_194 : decode cX12_areFour 194 = .ok (.invokestatic 176, 3) := by decide +kernel
theorem dX12_areFour_197 : decode cX12_areFour 197 = .ok (.ifCond .eq 22, 3) := by decide +kernel
theorem dX12_areFour_200 : decode cX12_areFour 200 = .ok (.iload_n 3, 1) := by decide +kernel
theorem dX12_areFour_201 : decode cX12_areFour 201 = .ok (.invokestatic 185, 3) := by decide +kernel
theorem dX12_areFour_204 : decode cX12_areFour 204 = .ok (.ifCond .eq 15, 3) := by decide +kernel
theorem dX12_areFour_207 : decode cX12_areFour 207 = .ok (.iload 4, 2) := by decide +kernel
theorem dX12_areFour_209 : decode cX12_areFour 209 = .ok (.invokestatic 185, 3) := by decide +kernel
theorem dX12_areFour_212 : decode cX12_areFour 212 = .ok (.ifCond .eq 7, 3) := by decide +kernel
theorem dX12_areFour_215 : decode cX12_areFour 215 = .ok (.iconst 1, 1) := by decide +kernel
theorem dX12_areFour_216 : decode cX12_areFour 216 = .ok (.goto 4, 3) := by decide +kernel
theorem dX12_areFour_219 : decode cX12_areFour 219 = .ok (.iconst 0, 1) := by decide +kernel
theorem dX12_areFour_220 : decode cX12_areFour 220 = .ok (.ireturn, 1) := by decide +kernel
theorem dX12_areFour_221 : decode cX12_areFour 221 = .ok (.iload_n 1, 1) := by decide +kernel
theorem dX12_areFour_222 : decode cX12_areFour 222 = .ok (.invokestatic 185, 3) := by decide +kernel
theorem dX12_areFour_225 : decode cX12_areFour 225 = .ok (.ifCond .eq 29, 3) := by decide +kernel
theorem dX12_areFour_228 : decode cX12_areFour 228 = .ok (.iload_n 2, 1) := by decide +kernel
theorem dX12_areFour_229 : decode cX12_areFour 229 = .ok (.invokestatic 176, 3) := by decide +kernel
theorem dX12_areFour_232 : decode cX12_areFour 232 = .ok (.ifCond .eq 22, 3) := by decide +kernel
theorem dX12_areFour_235 : decode cX12_areFour 235 = .ok (.iload_n 3, 1) := by decide +kernel
theorem dX12_areFour_236 : decode cX12_areFour 236 = .ok (.invokestatic 185, 3) := by decide +kernel
theorem dX12_areFour_239 : decode cX12_areFour 239 = .ok (.ifCond .eq 15, 3) := by decide +kernel
theorem dX12_areFour_242 : decode cX12_areFour 242 = .ok (.iload 4, 2) := by decide +kernel
theorem dX12_areFour_244 : decode cX12_areFour 244 = .ok (.invokestatic 172, 3) := by decide +kernel
theorem dX12_areFour_247 : decode cX12_areFour 247 = .ok (.ifCond .eq 7, 3) := by decide +kernel
theorem dX12_areFour_250 : decode cX12_areFour 250 = .ok (.iconst 1, 1) := by decide +kernel
theorem dX12_areFour_251 : decode cX12_areFour 251 = .ok (.goto 4, 3) := by decide +kernel
theorem dX12_areFour_254 : decode cX12_areFour 254 = .ok (.iconst 0, 1) := by decide +kernel
theorem dX12_areFour_255 : decode cX12_areFour 255 = .ok (.ireturn, 1) := by decide +kernel
theorem dX12_areFour_256 : decode cX12_areFour 256 = .ok (.iload_n 1, 1) := by decide +kernel
theorem dX12_areFour_257 : decode cX12_areFour 257 = .ok (.invokestatic 176, 3) := by decide +kernel
theorem dX12_areFour_260 : decode cX12_areFour 260 = .ok (.ifCond .eq 26, 3) := by decide +kernel
theorem dX12_areFour_263 : decode cX12_areFour 263 = .ok (.iload_n 2, 1) := by decide +kernel
theorem dX12_areFour_264 : decode cX12_areFour 264 = .ok (.invokestatic 176, 3) := by decide +kernel
theorem dX12_areFour_267 : decode cX12_areFour 267 = .ok (.ifCond .eq 19, 3) := by decide +kernel
theorem dX12_areFour_270 : decode cX12_areFour 270 = .ok (.iload_n 3, 1) := by decide +kernel
theorem dX12_areFour_271 : decode cX12_areFour 271 = .ok (.invokestatic 179, 3) := by decide +kernel
theorem dX12_areFour_274 : decode cX12_areFour 274 = .ok (.ifCond .eq 12, 3) := by decide +kernel
theorem dX12_areFour_277 : decode cX12_areFour 277 = .ok (.iload 4, 2) := by decide +kernel
theorem dX12_areFour_279 : decode cX12_areFour 279 = .ok (.ifCond .ne 7, 3) := by decide +kernel
theorem dX12_areFour_282 : decode cX12_areFour 282 = .ok (.iconst 1, 1) := by decide +kernel
theorem dX12_areFour_283 : decode cX12_areFour 283 = .ok (.goto 4, 3) := by decide +kernel
theorem dX12_areFour_286 : decode cX12_areFour 286 = .ok (.iconst 0, 1) := by decide +kernel
theorem dX12_areFour_287 : decode cX12_areFour 287 = .ok (.ireturn, 1) := by decide +kernel
theorem dX12_areFour_288 : decode cX12_areFour 288 = .ok (.iload_n 1, 1) := by decide +kernel
theorem dX12_areFour_289 : decode cX12_areFour 289 = .ok (.invokestatic 176, 3) := by decide +kernel
theorem dX12_areFour_292 : decode cX12_areFour 292 = .ok (.ifCond .eq 26, 3) := by decide +kernel
theorem dX12_areFour_295 : decode cX12_areFour 295 = .ok (.iload_n 2, 1) := by decide +kernel
theorem dX12_areFour_296 : decode cX12_areFour 296 = .ok (.invokestatic 188, 3) := by decide +kernel
theorem dX12_areFour_299 : decode cX12_areFour 299 = .ok (.ifCond .eq 19, 3) := by decide +kernel
theorem dX12_areFour_302 : decode cX12_areFour 302 = .ok (.iload_n 3, 1) := by decide +kernel
theorem dX12_areFour_303 : decode cX12_areFour 303 = .ok (.invokestatic 188, 3) := by decide +kernel
theorem dX12_areFour_306 : decode cX12_areFour 306 = .ok (.ifCond .eq 12, 3) := by decide +kernel
theorem dX12_areFour_309 : decode cX12_areFour 309 = .ok (.iload 4, 2) := by decide +kernel
theorem dX12_areFour_311 : decode cX12_areFour 311 = .ok (.ifCond .ne 7, 3) := by decide +kernel
theorem dX12_areFour_314 : decode cX12_areFour 314 = .ok (.iconst 1, 1) := by decide +kernel
theorem dX12_areFour_315 : decode cX12_areFour 315 = .ok (.goto 4, 3) := by decide +kernel
theorem dX12_areFour_318 : decode cX12_areFour 318 = .ok (.iconst 0, 1) := by decide +kernel
theorem dX12_areFour_319 : decode cX12_areFour 319 = .ok (.ireturn, 1) := by decide +kernel
theorem dX12_areFour_320 : decode cX12_areFour 320 = .ok (.iload_n 1, 1) := by decide +kernel
theorem dX12_areFour_321 : decode cX12_areFour 321 = .ok (.invokestatic 176, 3) := by decide +kernel
theorem dX12_areFour_324 : decode cX12_areFour 324 = .ok (.ifCond .eq 37, 3) := by decide +kernel
theorem dX12_areFour_327 : decode cX12_areFour 327 = .ok (.iload_n 2, 1) := by decide +kernel
theorem dX12_areFour_328 : decode cX12_areFour 328 = .ok (.bipush (-100), 2) := by decide +kernel
theorem dX12_areFour_330 : decode cX12_areFour 330 = .ok (.if_icmp .eq 12, 3) := by decide +kernel
theorem dX12_areFour_333 : decode cX12_areFour 333 = .ok (.iload_n 2, 1) := by decide +kernel
theorem dX12_areFour_334 : decode cX12_areFour 334 = .ok (.iconst 0, 1) := by decide +kernel
theorem dX12_areFour_335 : decode cX12_areFour 335 = .ok (.iconst 2, 1) := by decide +kernel
theorem dX12_areFour_336 : decode cX12_areFour 336 = .ok (.invokestatic 162, 3) := by decide +kernel
theorem dX12_areFour_339 : decode cX12_areFour 339 = .ok (.ifCond .eq 22, 3) := by decide +kernel
theorem dX12_areFour_342 : decode cX12_areFour 342 = .ok (.iload_n 3, 1) := by decide +kernel
theorem dX12_areFour_343 : decode cX12_areFour 343 = .ok (.invokestatic 191, 3) := by decide +kernel
theorem dX12_areFour_346 : decode cX12_areFour 346 = .ok (.ifCond .eq 15, 3) := by decide +kernel
theorem dX12_areFour_349 : decode cX12_areFour 349 = .ok (.iload 4, 2) := by decide +kernel
theorem dX12_areFour_351 : decode cX12_areFour 351 = .ok (.invokestatic 179, 3) := by decide +kernel
theorem dX12_areFour_354 : decode cX12_areFour 354 = .ok (.ifCond .eq 7, 3) := by decide +kernel
theorem dX12_areFour_357 : decode cX12_areFour 357 = .ok (.iconst 1, 1) := by decide +kernel
theorem dX12_areFour_358 : decode cX12_areFour 358 = .ok (.goto 4, 3) := by decide +kernel
theorem dX12_areFour_361 : decode cX12_areFour 361 = .ok (.iconst 0, 1) := by decide +kernel
theorem dX12_areFour_362 : decode cX12_areFour 362 = .ok (.ireturn, 1) := by decide +kernel
theorem dX12_areFour_363 : decode cX12_areFour 363 = .ok (.iload_n 1, 1) := by decide +kernel
theorem dX12_areFour_364 : decode cX12_areFour 364 = .ok (.invokestatic 176, 3) := by decide +kernel
theorem dX12_areFour_367 : decode cX12_areFour 367 = .ok (.ifCond .eq 29, 3) := by decide +kernel
theorem dX12_areFour_370 : decode cX12_areFour 370 = .ok (.iload_n 2, 1) := by decide +kernel
theorem dX12_areFour_371 : decode cX12_areFour 371 = .ok (.invokestatic 191, 3) := by decide +kernel
theorem dX12_areFour_374 : decode cX12_areFour 374 = .ok (.ifCond .eq 22, 3) := by decide +kernel
theorem dX12_areFour_377 : decode cX12_areFour 377 = .ok (.iload_n 3, 1) := by decide +kernel
theorem dX12_areFour_378 : decode cX12_areFour 378 = .ok (.invokestatic 179, 3) := by decide +kernel
theorem dX12_areFour_381 : decode cX12_areFour 381 = .ok (.ifCond .eq 15, 3) := by decide +kernel
theorem dX12_areFour_384 : decode cX12_areFour 384 = .ok (.iload 4, 2) := by decide +kernel
theorem dX12_areFour_386 : decode cX12_areFour 386 = .ok (.invokestatic 179, 3) := by decide +kernel
theorem dX12_areFour_389 : decode cX12_areFour 389 = .ok (.ifCond .eq 7, 3) := by decide +kernel
theorem dX12_areFour_392 : decode cX12_areFour 392 = .ok (.iconst 1, 1) := by decide +kernel
theorem dX12_areFour_393 : decode cX12_areFour 393 = .ok (.goto 4, 3) := by decide +kernel
theorem dX12_areFour_396 : decode cX12_areFour 396 = .ok (.iconst 0, 1) := by decide +kernel
theorem dX12_areFour_397 : decode cX12_areFour 397 = .ok (.ireturn, 1) := by decide +kernel
theorem dX12_areLast_0 : decode cX12_areLast 0 = .ok (.iload_n 0, 1) := by decide +kernel
theorem dX12_areLast_1 : decode cX12_areLast 1 = .ok (.iconst 4, 1) := by decide +kernel
theorem dX12_areLast_2 : decode cX12_areLast 2 = .ok (.if_icmp .ne 34, 3) := by decide +kernel
theorem dX12_areLast_5 : decode cX12_areLast 5 = .ok (.iload_n 2, 1) := by decide +kernel
theorem dX12_areLast_6 : decode cX12_areLast 6 = .ok (.ifCond .eq 14, 3) := by decide +kernel
theorem dX12_areLast_9 : decode cX12_areLast 9 = .ok (.iload_n 2, 1) := by decide +kernel
theorem dX12_areLast_10 : decode cX12_areLast 10 = .ok (.iconst 1, 1) := by decide +kernel
theorem dX12_areLast_11 : decode cX12_areLast 11 = .ok (.if_icmp .ne 23, 3) := by decide +kernel
theorem dX12_areLast_14 : decode cX12_areLast 14 = .ok (.iload_n 1, 1) := by decide +kernel
theorem dX12_areLast_15 : decode cX12_areLast 15 = .ok (.bipush (-100), 2) := by decide +kernel
theorem dX12_areLast_17 : decode cX12_areLast 17 = .ok (.if_icmp .eq 17, 3) := by decide +kernel
theorem dX12_areLast_20 : decode cX12_areLast 20 = .ok (.iload_n 3, 1) := by decide +kernel
theorem dX12_areLast_21 : decode cX12_areLast 21 = .ok (.iconst 0, 1) := by decide +kernel
theorem dX12_areLast_22 : decode cX12_areLast 22 = .ok (.bipush 11, 2) := by decide +kernel
theorem dX12_areLast_24 : decode cX12_areLast 24 = .ok (.invokestatic 162, 3) := by decide +kernel
theorem dX12_areLast_27 : decode cX12_areLast 27 = .ok (.ifCond .eq 7, 3) := by decide +kernel
theorem dX12_areLast_30 : decode cX12_areLast 30 = .ok (.iconst 1, 1) := by decide +kernel
theorem dX12_areLast_31 : decode cX12_areLast 31 = .ok (.goto 4, 3) := by decide +kernel
theorem dX12_areLast_34 : decode cX12_areLast 34 = .ok (.iconst 0, 1) := by decide +kernel
theorem dX12_areLast_35 : decode cX12_areLast 35 = .ok (.ireturn, 1) := by decide +kernel
theorem dX12_areLast_36 : decode cX12_areLast 36 = .ok (.iload_n 0, 1) := by decide +kernel
theorem dX12_areLast_37 : decode cX12_areLast 37 = .ok (.bipush 8, 2) := by decide +kernel
theorem dX12_areLast_39 : decode cX12_areLast 39 = .ok (.if_icmp .ne 13, 3) := by decide +kernel
theorem dX12_areLast_42 : decode cX12_areLast 42 = .ok (.iload_n 2, 1) := by decide +kernel
theorem dX12_areLast_43 : decode cX12_areLast 43 = .ok (.invokestatic 179, 3) := by decide +kernel
theorem dX12_areLast_46 : decode cX12_areLast 46 = .ok (.ifCond .eq 18, 3) := by decide +kernel
theorem dX12_areLast_49 : decode cX12_areLast 49 = .ok (.goto 7, 3) := by decide +kernel
theorem dX12_areLast_52 : decode cX12_areLast 52 = .ok (.iload_n 2, 1) := by decide +kernel
theorem dX12_areLast_53 : decode cX12_areLast 53 = .ok (.ifCond .ne 11, 3) := by decide +kernel
theorem dX12_areLast_56 : decode cX12_areLast 56 = .ok (.iload_n 3, 1) := by decide +kernel
theorem dX12_areLast_57 : decode cX12_areLast 57 = .ok (.ifCond .ne 7, 3) := by decide +kernel
theorem dX12_areLast_60 : decode cX12_areLast 60 = .ok (.iconst 1, 1) := by decide +kernel
theorem dX12_areLast_61 : decode cX12_areLast 61 = .ok (.goto 4, 3) := by decide +kernel
theorem dX12_areLast_64 : decode cX12_areLast 64 = .ok (.iconst 0, 1) := by decide +kernel
theorem dX12_areLast_65 : decode cX12_areLast 65 = .ok (.ireturn, 1) := by decide +kernel
theorem dX12_isLookup_0 : decode cX12_isLookup 0 = .ok (.iload_n 1, 1) := by decide +kernel
theorem dX12_isLookup_1 : decode cX12_isLookup 1 = .ok (.iconst 0, 1) := by decide +kernel
theorem dX12_isLookup_2 : decode cX12_isLookup 2 = .ok (.aload_n 0, 1) := by decide +kernel
theorem dX12_isLookup_3 : decode cX12_isLookup 3 = .ok (.getfield 7, 3) := by decide +kernel
theorem dX12_isLookup_6 : decode cX12_isLookup 6 = .ok (.aload_n 0, 1) := by decide +kernel
theorem dX12_isLookup_7 : decode cX12_isLookup 7 = .ok (.getfield 169, 3) := by decide +kernel
theorem dX12_isLookup_10 : decode cX12_isLookup 10 = .ok (.iaload, 1) := by decide +kernel
theorem dX12_isLookup_11 : decode cX12_isLookup 11 = .ok (.iconst 1, 1) := by decide +kernel
theorem dX12_isLookup_12 : decode cX12_isLookup 12 = .ok (.isub, 1) := by decide +kernel
theorem dX12_isLookup_13 : decode cX12_isLookup 13 = .ok (.invokestatic 162, 3) := by decide +kernel
