theorem dX7_addToPairs_131 : decode cX7_addToPairs 131 = .ok (.return_, 1) := by decide +kernel
theorem dX7_pairRule_0 : decode cX7_pairRule 0 = .ok (.aload_n 0, 1) := by decide +kernel
theorem dX7_pairRule_1 : decode cX7_pairRule 1 = .ok (.getfield 9, 3) := by decide +kernel
theorem dX7_pairRule_4 : decode cX7_pairRule 4 = .ok (.aload_n 1, 1) := by decide +kernel
theorem dX7_pairRule_5 : decode cX7_pairRule 5 = .ok (.aload_n 0, 1) := by decide +kernel
theorem dX7_pairRule_6 : decode cX7_pairRule 6 = .ok (.getfield 19, 3) := by decide +kernel
theorem dX7_pairRule_9 : decode cX7_pairRule 9 = .ok (.getfield 29, 3) := by decide +kernel
theorem dX7_pairRule_12 : decode cX7_pairRule 12 = .ok (.iload_n 2, 1) := by decide +kernel
theorem dX7_pairRule_13 : decode cX7_pairRule 13 = .ok (.aaload, 1) := by decide +kernel
theorem dX7_pairRule_14 : decode cX7_pairRule 14 = .ok (.getfield 33, 3) := by decide +kernel
theorem dX7_pairRule_17 : decode cX7_pairRule 17 = .ok (.aload_n 0, 1) := by decide +kernel
theorem dX7_pairRule_18 : decode cX7_pairRule 18 = .ok (.getfield 15, 3) := by decide +kernel
theorem dX7_pairRule_21 : decode cX7_pairRule 21 = .ok (.invokevirtual 99, 3) := by decide +kernel
theorem dX7_pairRule_24 : decode cX7_pairRule 24 = .ok (.istore 4, 2) := by decide +kernel
theorem dX7_pairRule_26 : decode cX7_pairRule 26 = .ok (.iconst 0, 1) := by decide +kernel
theorem dX7_pairRule_27 : decode cX7_pairRule 27 = .ok (.istore 5, 2) := by decide +kernel
theorem dX7_pairRule_29 : decode cX7_pairRule 29 = .ok (.iload 5, 2) := by decide +kernel
theorem dX7_pairRule_31 : decode cX7_pairRule 31 = .ok (.aload_n 1, 1) := by decide +kernel
theorem dX7_pairRule_32 : decode cX7_pairRule 32 = .ok (.getfield 103, 3) := by decide +kernel
theorem dX7_pairRule_35 : decode cX7_pairRule 35 = .ok (.if_icmp .ge 53, 3) := by decide +kernel
theorem dX7_pairRule_38 : decode cX7_pairRule 38 = .ok (.iload 4, 2) := by decide +kernel
theorem dX7_pairRule_40 : decode cX7_pairRule 40 = .ok (.iload 5, 2) := by decide +kernel
theorem dX7_pairRule_42 : decode cX7_pairRule 42 = .ok (.ishr, 1) := by decide +kernel
theorem dX7_pairRule_43 : decode cX7_pairRule 43 = .ok (.iconst 1, 1) := by decide +kernel
theorem dX7_pairRule_44 : decode cX7_pairRule 44 = .ok (.iand, 1) := by decide +kernel
theorem dX7_pairRule_45 : decode cX7_pairRule 45 = .ok (.ifCond .eq 37, 3) := by decide +kernel
theorem dX7_pairRule_48 : decode cX7_pairRule 48 = .ok (.aload_n 0, 1) := by decide +kernel
theorem dX7_pairRule_49 : decode cX7_pairRule 49 = .ok (.getfield 9, 3) := by decide +kernel
theorem dX7_pairRule_52 : decode cX7_pairRule 52 = .ok (.aload_n 1, 1) := by decide +kernel
theorem dX7_pairRule_53 : decode cX7_pairRule 53 = .ok (.getfield 95, 3) := by decide +kernel
theorem dX7_pairRule_56 : decode cX7_pairRule 56 = .ok (.iload 5, 2) := by decide +kernel
theorem dX7_pairRule_58 : decode cX7_pairRule 58 = .ok (.aaload, 1) := by decide +kernel
theorem dX7_pairRule_59 : decode cX7_pairRule 59 = .ok (.iconst 1, 1) := by decide +kernel
theorem dX7_pairRule_60 : decode cX7_pairRule 60 = .ok (.iaload, 1) := by decide +kernel
theorem dX7_pairRule_61 : decode cX7_pairRule 61 = .ok (.aload_n 0, 1) := by decide +kernel
theorem dX7_pairRule_62 : decode cX7_pairRule 62 = .ok (.getfield 19, 3) := by decide +kernel
theorem dX7_pairRule_65 : decode cX7_pairRule 65 = .ok (.getfield 29, 3) := by decide +kernel
theorem dX7_pairRule_68 : decode cX7_pairRule 68 = .ok (.iload_n 3, 1) := by decide +kernel
theorem dX7_pairRule_69 : decode cX7_pairRule 69 = .ok (.aaload, 1) := by decide +kernel
theorem dX7_pairRule_70 : decode cX7_pairRule 70 = .ok (.getfield 33, 3) := by decide +kernel
theorem dX7_pairRule_73 : decode cX7_pairRule 73 = .ok (.invokevirtual 106, 3) := by decide +kernel
theorem dX7_pairRule_76 : decode cX7_pairRule 76 = .ok (.ifCond .eq 6, 3) := by decide +kernel
theorem dX7_pairRule_79 : decode cX7_pairRule 79 = .ok (.iload 5, 2) := by decide +kernel
theorem dX7_pairRule_81 : decode cX7_pairRule 81 = .ok (.ireturn, 1) := by decide +kernel
theorem dX7_pairRule_82 : decode cX7_pairRule 82 = .ok (.iinc 5 1, 3) := by decide +kernel
theorem dX7_pairRule_85 : decode cX7_pairRule 85 = .ok (.goto (-56), 3) := by decide +kernel
theorem dX7_pairRule_88 : decode cX7_pairRule 88 = .ok (.bipush (-100), 2) := by decide +kernel
theorem dX7_pairRule_90 : decode cX7_pairRule 90 = .ok (.ireturn, 1) := by decide +kernel
theorem dX7_linkHeights_0 : decode cX7_linkHeights 0 = .ok (.aconst_null, 1) := by decide +kernel
theorem dX7_linkHeights_1 : decode cX7_linkHeights 1 = .ok (.astore_n 2, 1) := by decide +kernel
theorem dX7_linkHeights_2 : decode cX7_linkHeights 2 = .ok (.bipush (-100), 2) := by decide +kernel
theorem dX7_linkHeights_4 : decode cX7_linkHeights 4 = .ok (.istore_n 3, 1) := by decide +kernel
theorem dX7_linkHeights_5 : decode cX7_linkHeights 5 = .ok (.iconst 0, 1) := by decide +kernel
theorem dX7_linkHeights_6 : decode cX7_linkHeights 6 = .ok (.istore 4, 2) := by decide +kernel
theorem dX7_linkHeights_8 : decode cX7_linkHeights 8 = .ok (.iload 4, 2) := by decide +kernel
theorem dX7_linkHeights_10 : decode cX7_linkHeights 10 = .ok (.aload_n 0, 1) := by decide +kernel
theorem dX7_linkHeights_11 : decode cX7_linkHeights 11 = .ok (.getfield 19, 3) := by decide +kernel
theorem dX7_linkHeights_14 : decode cX7_linkHeights 14 = .ok (.getfield 23, 3) := by decide +kernel
theorem dX7_linkHeights_17 : decode cX7_linkHeights 17 = .ok (.if_icmp .ge 159, 3) := by decide +kernel
theorem dX7_linkHeights_20 : decode cX7_linkHeights 20 = .ok (.aload_n 0, 1) := by decide +kernel
theorem dX7_linkHeights_21 : decode cX7_linkHeights 21 = .ok (.getfield 19, 3) := by decide +kernel
theorem dX7_linkHeights_24 : decode cX7_linkHeights 24 = .ok (.getfield 29, 3) := by decide +kernel
theorem dX7_linkHeights_27 : decode cX7_linkHeights 27 = .ok (.iload 4, 2) := by decide +kernel
theorem dX7_linkHeights_29 : decode cX7_linkHeights 29 = .ok (.aaload, 1) := by decide +kernel
theorem dX7_linkHeights_30 : decode cX7_linkHeights 30 = .ok (.astore 5, 2) := by decide +kernel
theorem dX7_linkHeights_32 : decode cX7_linkHeights 32 = .ok (.aload_n 0, 1) := by decide +kernel
theorem dX7_linkHeights_33 : decode cX7_linkHeights 33 = .ok (.getfield 9, 3) := by decide +kernel
theorem dX7_linkHeights_36 : decode cX7_linkHeights 36 = .ok (.aload_n 1, 1) := by decide +kernel
theorem dX7_linkHeights_37 : decode cX7_linkHeights 37 = .ok (.aload 5, 2) := by decide +kernel
theorem dX7_linkHeights_39 : decode cX7_linkHeights 39 = .ok (.getfield 33, 3) := by decide +kernel
theorem dX7_linkHeights_42 : decode cX7_linkHeights 42 = .ok (.invokevirtual 110, 3) := by decide +kernel
theorem dX7_linkHeights_45 : decode cX7_linkHeights 45 = .ok (.ifCond .eq 6, 3) := by decide +kernel
theorem dX7_linkHeights_48 : decode cX7_linkHeights 48 = .ok (.goto 122, 3) := by decide +kernel
theorem dX7_linkHeights_51 : decode cX7_linkHeights 51 = .ok (.aload_n 1, 1) := by decide +kernel
theorem dX7_linkHeights_52 : decode cX7_linkHeights 52 = .ok (.aload 5, 2) := by decide +kernel
theorem dX7_linkHeights_54 : decode cX7_linkHeights 54 = .ok (.invokevirtual 114, 3) := by decide +kernel
theorem dX7_linkHeights_57 : decode cX7_linkHeights 57 = .ok (.ifCond .eq 23, 3) := by decide +kernel
theorem dX7_linkHeights_60 : decode cX7_linkHeights 60 = .ok (.aload_n 0, 1) := by decide +kernel
theorem dX7_linkHeights_61 : decode cX7_linkHeights 61 = .ok (.getfield 9, 3) := by decide +kernel
theorem dX7_linkHeights_64 : decode cX7_linkHeights 64 = .ok (.aload_n 1, 1) := by decide +kernel
theorem dX7_linkHeights_65 : decode cX7_linkHeights 65 = .ok (.aload 5, 2) := by decide +kernel
theorem dX7_linkHeights_67 : decode cX7_linkHeights 67 = .ok (.getfield 33, 3) := by decide +kernel
theorem dX7_linkHeights_70 : decode cX7_linkHeights 70 = .ok (.aload_n 0, 1) := by decide +kernel
theorem dX7_linkHeights_71 : decode cX7_linkHeights 71 = .ok (.getfield 15, 3) := by decide +kernel
theorem dX7_linkHeights_74 : decode cX7_linkHeights 74 = .ok (.invokevirtual 99, 3) := by decide +kernel
theorem dX7_linkHeights_77 : decode cX7_linkHeights 77 = .ok (.goto 4, 3) := by decide +kernel
theorem dX7_linkHeights_80 : decode cX7_linkHeights 80 = .ok (.iconst 0, 1) := by decide +kernel
theorem dX7_linkHeights_81 : decode cX7_linkHeights 81 = .ok (.istore 6, 2) := by decide +kernel
theorem dX7_linkHeights_83 : decode cX7_linkHeights 83 = .ok (.aload_n 1, 1) := by decide +kernel
theorem dX7_linkHeights_84 : decode cX7_linkHeights 84 = .ok (.iload 6, 2) := by decide +kernel
theorem dX7_linkHeights_86 : decode cX7_linkHeights 86 = .ok (.invokevirtual 118, 3) := by decide +kernel
theorem dX7_linkHeights_89 : decode cX7_linkHeights 89 = .ok (.istore 7, 2) := by decide +kernel
theorem dX7_linkHeights_91 : decode cX7_linkHeights 91 = .ok (.iload 7, 2) := by decide +kernel
theorem dX7_linkHeights_93 : decode cX7_linkHeights 93 = .ok (.bipush (-100), 2) := by decide +kernel
theorem dX7_linkHeights_95 : decode cX7_linkHeights 95 = .ok (.if_icmp .ne 8, 3) := by decide +kernel
theorem dX7_linkHeights_98 : decode cX7_linkHeights 98 = .ok (.bipush (-100), 2) := by decide +kernel
theorem dX7_linkHeights_100 : decode cX7_linkHeights 100 = .ok (.goto 12, 3) := by decide +kernel
theorem dX7_linkHeights_103 : decode cX7_linkHeights 103 = .ok (.aload_n 1, 1) := by decide +kernel
theorem dX7_linkHeights_104 : decode cX7_linkHeights 104 = .ok (.getfield 95, 3) := by decide +kernel
theorem dX7_linkHeights_107 : decode cX7_linkHeights 107 = .ok (.iload 7, 2) := by decide +kernel
theorem dX7_linkHeights_109 : decode cX7_linkHeights 109 = .ok (.aaload, 1) := by decide +kernel
theorem dX7_linkHeights_110 : decode cX7_linkHeights 110 = .ok (.iconst 1, 1) := by decide +kernel
theorem dX7_linkHeights_111 : decode cX7_linkHeights 111 = .ok (.iaload, 1) := by decide +kernel
theorem dX7_linkHeights_112 : decode cX7_linkHeights 112 = .ok (.istore 8, 2) := by decide +kernel
theorem dX7_linkHeights_114 : decode cX7_linkHeights 114 = .ok (.aload_n 2, 1) := by decide +kernel
theorem dX7_linkHeights_115 : decode cX7_linkHeights 115 = .ok (.ifnull 30, 3) := by decide +kernel
theorem dX7_linkHeights_118 : decode cX7_linkHeights 118 = .ok (.iload_n 3, 1) := by decide +kernel
theorem dX7_linkHeights_119 : decode cX7_linkHeights 119 = .ok (.bipush (-100), 2) := by decide +kernel
theorem dX7_linkHeights_121 : decode cX7_linkHeights 121 = .ok (.if_icmp .eq 24, 3) := by decide +kernel
theorem dX7_linkHeights_124 : decode cX7_linkHeights 124 = .ok (.iload 8, 2) := by decide +kernel
theorem dX7_linkHeights_126 : decode cX7_linkHeights 126 = .ok (.bipush (-100), 2) := by decide +kernel
theorem dX7_linkHeights_128 : decode cX7_linkHeights 128 = .ok (.if_icmp .eq 17, 3) := by decide +kernel
theorem dX7_linkHeights_131 : decode cX7_linkHeights 131 = .ok (.aload 5, 2) := by decide +kernel
theorem dX7_linkHeights_133 : decode cX7_linkHeights 133 = .ok (.aload_n 2, 1) := by decide +kernel
theorem dX7_linkHeights_134 : decode cX7_linkHeights 134 = .ok (.getfield 51, 3) := by decide +kernel
theorem dX7_linkHeights_137 : decode cX7_linkHeights 137 = .ok (.iload_n 3, 1) := by decide +kernel
theorem dX7_linkHeights_138 : decode cX7_linkHeights 138 = .ok (.iadd, 1) := by decide +kernel
theorem dX7_linkHeights_139 : decode cX7_linkHeights 139 = .ok (.iload 8, 2) := by decide +kernel
theorem dX7_linkHeights_141 : decode cX7_linkHeights 141 = .ok (.isub, 1) := by decide +kernel
theorem dX7_linkHeights_142 : decode cX7_linkHeights 142 = .ok (.putfield 51, 3) := by decide +kernel
theorem dX7_linkHeights_145 : decode cX7_linkHeights 145 = .ok (.aload 5, 2) := by decide +kernel
theorem dX7_linkHeights_147 : decode cX7_linkHeights 147 = .ok (.astore_n 2, 1) := by decide +kernel
theorem dX7_linkHeights_148 : decode cX7_linkHeights 148 = .ok (.iload 7, 2) := by decide +kernel
theorem dX7_linkHeights_150 : decode cX7_linkHeights 150 = .ok (.bipush (-100), 2) := by decide +kernel
theorem dX7_linkHeights_152 : decode cX7_linkHeights 152 = .ok (.if_icmp .ne 8, 3) := by decide +kernel
theorem dX7_linkHeights_155 : decode cX7_linkHeights 155 = .ok (.bipush (-100), 2) := by decide +kernel
theorem dX7_linkHeights_157 : decode cX7_linkHeights 157 = .ok (.goto 12, 3) := by decide +kernel
theorem dX7_linkHeights_160 : decode cX7_linkHeights 160 = .ok (.aload_n 1, 1) := by decide +kernel
theorem dX7_linkHeights_161 : decode cX7_linkHeights 161 = .ok (.getfield 95, 3) := by decide +kernel
theorem dX7_linkHeights_164 : decode cX7_linkHeights 164 = .ok (.iload 7, 2) := by decide +kernel
theorem dX7_linkHeights_166 : decode cX7_linkHeights 166 = .ok (.aaload, 1) := by decide +kernel
theorem dX7_linkHeights_167 : decode cX7_linkHeights 167 = .ok (.iconst 2, 1) := by decide +kernel
theorem dX7_linkHeights_168 : decode cX7_linkHeights 168 = .ok (.iaload, 1) := by decide +kernel
theorem dX7_linkHeights_169 : decode cX7_linkHeights 169 = .ok (.istore_n 3, 1) := by decide +kernel
theorem dX7_linkHeights_170 : decode cX7_linkHeights 170 = .ok (.iinc 4 1, 3) := by decide +kernel
theorem dX7_linkHeights_173 : decode cX7_linkHeights 173 = .ok (.goto (-165), 3) := by decide +kernel
theorem dX7_linkHeights_176 : decode cX7_linkHeights 176 = .ok (.return_, 1) := by decide +kernel
theorem dX7_setMarks_0 : decode cX7_setMarks 0 = .ok (.iconst 0, 1) := by decide +kernel
theorem dX7_setMarks_1 : decode cX7_setMarks 1 = .ok (.istore_n 2, 1) := by decide +kernel
theorem dX7_setMarks_2 : decode cX7_setMarks 2 = .ok (.iload_n 2, 1) := by decide +kernel
theorem dX7_setMarks_3 : decode cX7_setMarks 3 = .ok (.aload_n 0, 1) := by decide +kernel
theorem dX7_setMarks_4 : decode cX7_setMarks 4 = .ok (.getfield 19, 3) := by decide +kernel
theorem dX7_setMarks_7 : decode cX7_setMarks 7 = .ok (.getfield 23, 3) := by decide +kernel
theorem dX7_setMarks_10 : decode cX7_setMarks 10 = .ok (.if_icmp .ge 74, 3) := by decide +kernel
theorem dX7_setMarks_13 : decode cX7_setMarks 13 = .ok (.aload_n 0, 1) := by decide +kernel
theorem dX7_setMarks_14 : decode cX7_setMarks 14 = .ok (.getfield 19, 3) := by decide +kernel
theorem dX7_setMarks_17 : decode cX7_setMarks 17 = .ok (.getfield 29, 3) := by decide +kernel
theorem dX7_setMarks_20 : decode cX7_setMarks 20 = .ok (.iload_n 2, 1) := by decide +kernel
theorem dX7_setMarks_21 : decode cX7_setMarks 21 = .ok (.aaload, 1) := by decide +kernel
theorem dX7_setMarks_22 : decode cX7_setMarks 22 = .ok (.astore_n 3, 1) := by decide +kernel
theorem dX7_setMarks_23 : decode cX7_setMarks 23 = .ok (.aload_n 0, 1) := by decide +kernel
theorem dX7_setMarks_24 : decode cX7_setMarks 24 = .ok (.getfield 9, 3) := by decide +kernel
theorem dX7_setMarks_27 : decode cX7_setMarks 27 = .ok (.aload_n 3, 1) := by decide +kernel
theorem dX7_setMarks_28 : decode cX7_setMarks 28 = .ok (.getfield 33, 3) := by decide +kernel
theorem dX7_setMarks_31 : decode cX7_setMarks 31 = .ok (.invokevirtual 122, 3) := by decide +kernel
theorem dX7_setMarks_34 : decode cX7_setMarks 34 = .ok (.ifCond .eq 44, 3) := by decide +kernel
theorem dX7_setMarks_37 : decode cX7_setMarks 37 = .ok (.aload_n 0, 1) := by decide +kernel
theorem dX7_setMarks_38 : decode cX7_setMarks 38 = .ok (.getfield 9, 3) := by decide +kernel
theorem dX7_setMarks_41 : decode cX7_setMarks 41 = .ok (.aload_n 1, 1) := by decide +kernel
theorem dX7_setMarks_42 : decode cX7_setMarks 42 = .ok (.aload_n 3, 1) := by decide +kernel
theorem dX7_setMarks_43 : decode cX7_setMarks 43 = .ok (.invokevirtual 83, 3) := by decide +kernel
theorem dX7_setMarks_46 : decode cX7_setMarks 46 = .ok (.ifCond .ne 6, 3) := by decide +kernel
theorem dX7_setMarks_49 : decode cX7_setMarks 49 = .ok (.goto 29, 3) := by decide +kernel
theorem dX7_setMarks_52 : decode cX7_setMarks 52 = .ok (.aload_n 1, 1) := by decide +kernel
theorem dX7_setMarks_53 : decode cX7_setMarks 53 = .ok (.getfield 70, 3) := by decide +kernel
theorem dX7_setMarks_56 : decode cX7_setMarks 56 = .ok (.bipush 8, 2) := by decide +kernel
theorem dX7_setMarks_58 : decode cX7_setMarks 58 = .ok (.if_icmp .ne 13, 3) := by decide +kernel
theorem dX7_setMarks_61 : decode cX7_setMarks 61 = .ok (.aload_n 0, 1) := by decide +kernel
theorem dX7_setMarks_62 : decode cX7_setMarks 62 = .ok (.aload_n 1, 1) := by decide +kernel
theorem dX7_setMarks_63 : decode cX7_setMarks 63 = .ok (.aload_n 3, 1) := by decide +kernel
theorem dX7_setMarks_64 : decode cX7_setMarks 64 = .ok (.iload_n 2, 1) := by decide +kernel
theorem dX7_setMarks_65 : decode cX7_setMarks 65 = .ok (.invokevirtual 125, 3) := by decide +kernel
theorem dX7_setMarks_68 : decode cX7_setMarks 68 = .ok (.goto 10, 3) := by decide +kernel
theorem dX7_setMarks_71 : decode cX7_setMarks 71 = .ok (.aload_n 0, 1) := by decide +kernel
theorem dX7_setMarks_72 : decode cX7_setMarks 72 = .ok (.aload_n 1, 1) := by decide +kernel
theorem dX7_setMarks_73 : decode cX7_setMarks 73 = .ok (.aload_n 3, 1) := by decide +kernel
theorem dX7_setMarks_74 : decode cX7_setMarks 74 = .ok (.iload_n 2, 1) := by decide +kernel
theorem dX7_setMarks_75 : decode cX7_setMarks 75 = .ok (.invokevirtual 129, 3) := by decide +kernel
theorem dX7_setMarks_78 : decode cX7_setMarks 78 = .ok (.iinc 2 1, 3) := by decide +kernel
theorem dX7_setMarks_81 : decode cX7_setMarks 81 = .ok (.goto (-79), 3) := by decide +kernel
theorem dX7_setMarks_84 : decode cX7_setMarks 84 = .ok (.return_, 1) := by decide +kernel
theorem dX7_setOnBase_0 : decode cX7_setOnBase 0 = .ok (.iload_n 3, 1) := by decide +kernel
theorem dX7_setOnBase_1 : decode cX7_setOnBase 1 = .ok (.iconst 1, 1) := by decide +kernel
theorem dX7_setOnBase_2 : decode cX7_setOnBase 2 = .ok (.isub, 1) := by decide +kernel
theorem dX7_setOnBase_3 : decode cX7_setOnBase 3 = .ok (.istore 4, 2) := by decide +kernel
theorem dX7_setOnBase_5 : decode cX7_setOnBase 5 = .ok (.iload 4, 2) := by decide +kernel
theorem dX7_setOnBase_7 : decode cX7_setOnBase 7 = .ok (.ifCond .lt 32, 3) := by decide +kernel
theorem dX7_setOnBase_10 : decode cX7_setOnBase 10 = .ok (.aload_n 0, 1) := by decide +kernel
theorem dX7_setOnBase_11 : decode cX7_setOnBase 11 = .ok (.getfield 9, 3) := by decide +kernel
theorem dX7_setOnBase_14 : decode cX7_setOnBase 14 = .ok (.aload_n 0, 1) := by decide +kernel
theorem dX7_setOnBase_15 : decode cX7_setOnBase 15 = .ok (.getfield 19, 3) := by decide +kernel
theorem dX7_setOnBase_18 : decode cX7_setOnBase 18 = .ok (.getfield 29, 3) := by decide +kernel
theorem dX7_setOnBase_21 : decode cX7_setOnBase 21 = .ok (.iload 4, 2) := by decide +kernel
theorem dX7_setOnBase_23 : decode cX7_setOnBase 23 = .ok (.aaload, 1) := by decide +kernel
theorem dX7_setOnBase_24 : decode cX7_setOnBase 24 = .ok (.getfield 33, 3) := by decide +kernel
theorem dX7_setOnBase_27 : decode cX7_setOnBase 27 = .ok (.invokevirtual 122, 3) := by decide +kernel
theorem dX7_setOnBase_30 : decode cX7_setOnBase 30 = .ok (.ifCond .eq 9, 3) := by decide +kernel
theorem dX7_setOnBase_33 : decode cX7_setOnBase 33 = .ok (.iinc 4 (-1), 3) := by decide +kernel
theorem dX7_setOnBase_36 : decode cX7_setOnBase 36 = .ok (.goto (-31), 3) := by decide +kernel
theorem dX7_setOnBase_39 : decode cX7_setOnBase 39 = .ok (.iload 4, 2) := by decide +kernel
theorem dX7_setOnBase_41 : decode cX7_setOnBase 41 = .ok (.ifCond .lt 13, 3) := by decide +kernel
theorem dX7_setOnBase_44 : decode cX7_setOnBase 44 = .ok (.aload_n 2, 1) := by decide +kernel
theorem dX7_setOnBase_45 : decode cX7_setOnBase 45 = .ok (.getfield 33, 3) := by decide +kernel
theorem dX7_setOnBase_48 : decode cX7_setOnBase 48 = .ok (.invokestatic 38, 3) := by decide +kernel
theorem dX7_setOnBase_51 : decode cX7_setOnBase 51 = .ok (.ifCond .ne 4, 3) := by decide +kernel
theorem dX7_setOnBase_54 : decode cX7_setOnBase 54 = .ok (.return_, 1) := by decide +kernel
theorem dX7_setOnBase_55 : decode cX7_setOnBase 55 = .ok (.aload_n 2, 1) := by decide +kernel
theorem dX7_setOnBase_56 : decode cX7_setOnBase 56 = .ok (.getfield 132, 3) := by decide +kernel
theorem dX7_setOnBase_59 : decode cX7_setOnBase 59 = .ok (.bipush (-100), 2) := by decide +kernel
theorem dX7_setOnBase_61 : decode cX7_setOnBase 61 = .ok (.if_icmp .ne 21, 3) := by decide +kernel
theorem dX7_setOnBase_64 : decode cX7_setOnBase 64 = .ok (.aload_n 0, 1) := by decide +kernel
theorem dX7_setOnBase_65 : decode cX7_setOnBase 65 = .ok (.getfield 19, 3) := by decide +kernel
theorem dX7_setOnBase_68 : decode cX7_setOnBase 68 = .ok (.getfield 29, 3) := by decide +kernel
theorem dX7_setOnBase_71 : decode cX7_setOnBase 71 = .ok (.iload 4, 2) := by decide +kernel
theorem dX7_setOnBase_73 : decode cX7_setOnBase 73 = .ok (.aaload, 1) := by decide +kernel
theorem dX7_setOnBase_74 : decode cX7_setOnBase 74 = .ok (.getfield 135, 3) := by decide +kernel
theorem dX7_setOnBase_77 : decode cX7_setOnBase 77 = .ok (.iconst 1, 1) := by decide +kernel
theorem dX7_setOnBase_78 : decode cX7_setOnBase 78 = .ok (.isub, 1) := by decide +kernel
theorem dX7_setOnBase_79 : decode cX7_setOnBase 79 = .ok (.goto 7, 3) := by decide +kernel
theorem dX7_setOnBase_82 : decode cX7_setOnBase 82 = .ok (.aload_n 2, 1) := by decide +kernel
theorem dX7_setOnBase_83 : decode cX7_setOnBase 83 = .ok (.getfield 132, 3) := by decide +kernel
theorem dX7_setOnBase_86 : decode cX7_setOnBase 86 = .ok (.istore 5, 2) := by decide +kernel
theorem dX7_setOnBase_88 : decode cX7_setOnBase 88 = .ok (.aload_n 0, 1) := by decide +kernel
theorem dX7_setOnBase_89 : decode cX7_setOnBase 89 = .ok (.getfield 9, 3) := by decide +kernel
theorem dX7_setOnBase_92 : decode cX7_setOnBase 92 = .ok (.aload_n 1, 1) := by decide +kernel
theorem dX7_setOnBase_93 : decode cX7_setOnBase 93 = .ok (.aload_n 0, 1) := by decide +kernel
theorem dX7_setOnBase_94 : decode cX7_setOnBase 94 = .ok (.getfield 19, 3) := by decide +kernel
theorem dX7_setOnBase_97 : decode cX7_setOnBase 97 = .ok (.getfield 29, 3) := by decide +kernel
theorem dX7_setOnBase_100 : decode cX7_setOnBase 100 = .ok (.iload 4, 2) := by decide +kernel
theorem dX7_setOnBase_102 : decode cX7_setOnBase 102 = .ok (.aaload, 1) := by decide +kernel
theorem dX7_setOnBase_103 : decode cX7_setOnBase 103 = .ok (.getfield 33, 3) := by decide +kernel
theorem dX7_setOnBase_106 : decode cX7_setOnBase 106 = .ok (.aload_n 0, 1) := by decide +kernel
theorem dX7_setOnBase_107 : decode cX7_setOnBase 107 = .ok (.getfield 15, 3) := by decide +kernel
theorem dX7_setOnBase_110 : decode cX7_setOnBase 110 = .ok (.invokevirtual 99, 3) := by decide +kernel
theorem dX7_setOnBase_113 : decode cX7_setOnBase 113 = .ok (.istore 6, 2) := by decide +kernel
theorem dX7_setOnBase_115 : decode cX7_setOnBase 115 = .ok (.iconst 0, 1) := by decide +kernel
theorem dX7_setOnBase_116 : decode cX7_setOnBase 116 = .ok (.istore 7, 2) := by decide +kernel
theorem dX7_setOnBase_118 : decode cX7_setOnBase 118 = .ok (.iload 7, 2) := by decide +kernel
theorem dX7_setOnBase_120 : decode cX7_setOnBase 120 = .ok (.aload_n 1, 1) := by decide +kernel
theorem dX7_setOnBase_121 : decode cX7_setOnBase 121 = .ok (.getfield 103, 3) := by decide +kernel
theorem dX7_setOnBase_124 : decode cX7_setOnBase 124 = .ok (.if_icmp .ge 92, 3) := by decide +kernel
theorem dX7_setOnBase_127 : decode cX7_setOnBase 127 = .ok (.aload_n 1, 1) := by decide +kernel
theorem dX7_setOnBase_128 : decode cX7_setOnBase 128 = .ok (.getfield 95, 3) := by decide +kernel
theorem dX7_setOnBase_131 : decode cX7_setOnBase 131 = .ok (.iload 7, 2) := by decide +kernel
theorem dX7_setOnBase_133 : decode cX7_setOnBase 133 = .ok (.aaload, 1) := by decide +kernel
theorem dX7_setOnBase_134 : decode cX7_setOnBase 134 = .ok (.astore 8, 2) := by decide +kernel
theorem dX7_setOnBase_136 : decode cX7_setOnBase 136 = .ok (.aload 8, 2) := by decide +kernel
theorem dX7_setOnBase_138 : decode cX7_setOnBase 138 = .ok (.iconst 1, 1) := by decide +kernel
theorem dX7_setOnBase_139 : decode cX7_setOnBase 139 = .ok (.iaload, 1) := by decide +kernel
theorem dX7_setOnBase_140 : decode cX7_setOnBase 140 = .ok (.bipush (-100), 2) := by decide +kernel
theorem dX7_setOnBase_142 : decode cX7_setOnBase 142 = .ok (.if_icmp .eq 12, 3) := by decide +kernel
theorem dX7_setOnBase_145 : decode cX7_setOnBase 145 = .ok (.aload 8, 2) := by decide +kernel
theorem dX7_setOnBase_147 : decode cX7_setOnBase 147 = .ok (.iconst 1, 1) := by decide +kernel
theorem dX7_setOnBase_148 : decode cX7_setOnBase 148 = .ok (.iaload, 1) := by decide +kernel
theorem dX7_setOnBase_149 : decode cX7_setOnBase 149 = .ok (.iload 5, 2) := by decide +kernel
theorem dX7_setOnBase_151 : decode cX7_setOnBase 151 = .ok (.if_icmp .ne 7, 3) := by decide +kernel
theorem dX7_setOnBase_154 : decode cX7_setOnBase 154 = .ok (.iconst 1, 1) := by decide +kernel
theorem dX7_setOnBase_155 : decode cX7_setOnBase 155 = .ok (.goto 4, 3) := by decide +kernel
theorem dX7_setOnBase_158 : decode cX7_setOnBase 158 = .ok (.iconst 0, 1) := by decide +kernel
theorem dX7_setOnBase_159 : decode cX7_setOnBase 159 = .ok (.istore 9, 2) := by decide +kernel
theorem dX7_setOnBase_161 : decode cX7_setOnBase 161 = .ok (.iload 6, 2) := by decide +kernel
theorem dX7_setOnBase_163 : decode cX7_setOnBase 163 = .ok (.iload 7, 2) := by decide +kernel
theorem dX7_setOnBase_165 : decode cX7_setOnBase 165 = .ok (.ishr, 1) := by decide +kernel
theorem dX7_setOnBase_166 : decode cX7_setOnBase 166 = .ok (.iconst 1, 1) := by decide +kernel
theorem dX7_setOnBase_167 : decode cX7_setOnBase 167 = .ok (.iand, 1) := by decide +kernel
theorem dX7_setOnBase_168 : decode cX7_setOnBase 168 = .ok (.ifCond .eq 42, 3) := by decide +kernel
theorem dX7_setOnBase_171 : decode cX7_setOnBase 171 = .ok (.iload 9, 2) := by decide +kernel
theorem dX7_setOnBase_173 : decode cX7_setOnBase 173 = .ok (.ifCond .eq 37, 3) := by decide +kernel
theorem dX7_setOnBase_176 : decode cX7_setOnBase 176 = .ok (.aload 8, 2) := by decide +kernel
theorem dX7_setOnBase_178 : decode cX7_setOnBase 178 = .ok (.iconst 2, 1) := by decide +kernel
theorem dX7_setOnBase_179 : decode cX7_setOnBase 179 = .ok (.iaload, 1) := by decide +kernel
theorem dX7_setOnBase_180 : decode cX7_setOnBase 180 = .ok (.aload_n 0, 1) := by decide +kernel
theorem dX7_setOnBase_181 : decode cX7_setOnBase 181 = .ok (.getfield 9, 3) := by decide +kernel
theorem dX7_setOnBase_184 : decode cX7_setOnBase 184 = .ok (.getfield 138, 3) := by decide +kernel
theorem dX7_setOnBase_187 : decode cX7_setOnBase 187 = .ok (.aload_n 2, 1) := by decide +kernel
theorem dX7_setOnBase_188 : decode cX7_setOnBase 188 = .ok (.getfield 33, 3) := by decide +kernel
theorem dX7_setOnBase_191 : decode cX7_setOnBase 191 = .ok (.iaload, 1) := by decide +kernel
theorem dX7_setOnBase_192 : decode cX7_setOnBase 192 = .ok (.if_icmp .ne 18, 3) := by decide +kernel
theorem dX7_setOnBase_195 : decode cX7_setOnBase 195 = .ok (.aload_n 2, 1) := by decide +kernel
theorem dX7_setOnBase_196 : decode cX7_setOnBase 196 = .ok (.iload 4, 2) := by decide +kernel
theorem dX7_setOnBase_198 : decode cX7_setOnBase 198 = .ok (.aload 8, 2) := by decide +kernel
theorem dX7_setOnBase_200 : decode cX7_setOnBase 200 = .ok (.iconst 3, 1) := by decide +kernel
theorem dX7_setOnBase_201 : decode cX7_setOnBase 201 = .ok (.iaload, 1) := by decide +kernel
theorem dX7_setOnBase_202 : decode cX7_setOnBase 202 = .ok (.aload 8, 2) := by decide +kernel
theorem dX7_setOnBase_204 : decode cX7_setOnBase 204 = .ok (.iconst 4, 1) := by decide +kernel
theorem dX7_setOnBase_205 : decode cX7_setOnBase 205 = .ok (.iaload, 1) := by decide +kernel
theorem dX7_setOnBase_206 : decode cX7_setOnBase 206 = .ok (.invokevirtual 54, 3) := by decide +kernel
theorem dX7_setOnBase_209 : decode cX7_setOnBase 209 = .ok (.return_, 1) := by decide +kernel
theorem dX7_setOnBase_210 : decode cX7_setOnBase 210 = .ok (.iinc 7 1, 3) := by decide +kernel
theorem dX7_setOnBase_213 : decode cX7_setOnBase 213 = .ok (.goto (-95), 3) := by decide +kernel
theorem dX7_setOnBase_216 : decode cX7_setOnBase 216 = .ok (.return_, 1) := by decide +kernel
theorem dX7_setOnMark_0 : decode cX7_setOnMark 0 = .ok (.aload_n 0, 1) := by decide +kernel
theorem dX7_setOnMark_1 : decode cX7_setOnMark 1 = .ok (.getfield 19, 3) := by decide +kernel
theorem dX7_setOnMark_4 : decode cX7_setOnMark 4 = .ok (.aload_n 0, 1) := by decide +kernel
theorem dX7_setOnMark_5 : decode cX7_setOnMark 5 = .ok (.getfield 9, 3) := by decide +kernel
theorem dX7_setOnMark_8 : decode cX7_setOnMark 8 = .ok (.aload_n 1, 1) := by decide +kernel
theorem dX7_setOnMark_9 : decode cX7_setOnMark 9 = .ok (.iload_n 3, 1) := by decide +kernel
theorem dX7_setOnMark_10 : decode cX7_setOnMark 10 = .ok (.invokevirtual 141, 3) := by decide +kernel
theorem dX7_setOnMark_13 : decode cX7_setOnMark 13 = .ok (.istore 4, 2) := by decide +kernel
theorem dX7_setOnMark_15 : decode cX7_setOnMark 15 = .ok (.iload 4, 2) := by decide +kernel
theorem dX7_setOnMark_17 : decode cX7_setOnMark 17 = .ok (.bipush (-100), 2) := by decide +kernel
theorem dX7_setOnMark_19 : decode cX7_setOnMark 19 = .ok (.if_icmp .eq 36, 3) := by decide +kernel
theorem dX7_setOnMark_22 : decode cX7_setOnMark 22 = .ok (.aload_n 0, 1) := by decide +kernel
theorem dX7_setOnMark_23 : decode cX7_setOnMark 23 = .ok (.getfield 9, 3) := by decide +kernel
theorem dX7_setOnMark_26 : decode cX7_setOnMark 26 = .ok (.aload_n 0, 1) := by decide +kernel
theorem dX7_setOnMark_27 : decode cX7_setOnMark 27 = .ok (.getfield 19, 3) := by decide +kernel
theorem dX7_setOnMark_30 : decode cX7_setOnMark 30 = .ok (.getfield 29, 3) := by decide +kernel
theorem dX7_setOnMark_33 : decode cX7_setOnMark 33 = .ok (.iload 4, 2) := by decide +kernel
theorem dX7_setOnMark_35 : decode cX7_setOnMark 35 = .ok (.aaload, 1) := by decide +kernel
theorem dX7_setOnMark_36 : decode cX7_setOnMark 36 = .ok (.getfield 33, 3) := by decide +kernel
theorem dX7_setOnMark_39 : decode cX7_setOnMark 39 = .ok (.invokevirtual 122, 3) := by decide +kernel
theorem dX7_setOnMark_42 : decode cX7_setOnMark 42 = .ok (.ifCond .eq 13, 3) := by decide +kernel
theorem dX7_setOnMark_45 : decode cX7_setOnMark 45 = .ok (.aload_n 2, 1) := by decide +kernel
theorem dX7_setOnMark_46 : decode cX7_setOnMark 46 = .ok (.getfield 33, 3) := by decide +kernel
theorem dX7_setOnMark_49 : decode cX7_setOnMark 49 = .ok (.invokestatic 38, 3) := by decide +kernel
theorem dX7_setOnMark_52 : decode cX7_setOnMark 52 = .ok (.ifCond .ne 4, 3) := by decide +kernel
theorem dX7_setOnMark_55 : decode cX7_setOnMark 55 = .ok (.return_, 1) := by decide +kernel
theorem dX7_setOnMark_56 : decode cX7_setOnMark 56 = .ok (.aload_n 0, 1) := by decide +kernel
theorem dX7_setOnMark_57 : decode cX7_setOnMark 57 = .ok (.getfield 9, 3) := by decide +kernel
theorem dX7_setOnMark_60 : decode cX7_setOnMark 60 = .ok (.aload_n 1, 1) := by decide +kernel
theorem dX7_setOnMark_61 : decode cX7_setOnMark 61 = .ok (.aload_n 0, 1) := by decide +kernel
theorem dX7_setOnMark_62 : decode cX7_setOnMark 62 = .ok (.getfield 19, 3) := by decide +kernel
theorem dX7_setOnMark_65 : decode cX7_setOnMark 65 = .ok (.getfield 29, 3) := by decide +kernel
theorem dX7_setOnMark_68 : decode cX7_setOnMark 68 = .ok (.iload 4, 2) := by decide +kernel
theorem dX7_setOnMark_70 : decode cX7_setOnMark 70 = .ok (.aaload, 1) := by decide +kernel
theorem dX7_setOnMark_71 : decode cX7_setOnMark 71 = .ok (.getfield 33, 3) := by decide +kernel
theorem dX7_setOnMark_74 : decode cX7_setOnMark 74 = .ok (.aload_n 0, 1) := by decide +kernel
theorem dX7_setOnMark_75 : decode cX7_setOnMark 75 = .ok (.getfield 15, 3) := by decide +kernel
theorem dX7_setOnMark_78 : decode cX7_setOnMark 78 = .ok (.invokevirtual 99, 3) := by decide +kernel
theorem dX7_setOnMark_81 : decode cX7_setOnMark 81 = .ok (.istore 5, 2) := by decide +kernel
theorem dX7_setOnMark_83 : decode cX7_setOnMark 83 = .ok (.iconst 0, 1) := by decide +kernel
theorem dX7_setOnMark_84 : decode cX7_setOnMark 84 = .ok (.istore 6, 2) := by decide +kernel
theorem dX7_setOnMark_86 : decode cX7_setOnMark 86 = .ok (.iload 6, 2) := by decide +kernel
theorem dX7_setOnMark_88 : decode cX7_setOnMark 88 = .ok (.aload_n 1, 1) := by decide +kernel
theorem dX7_setOnMark_89 : decode cX7_setOnMark 89 = .ok (.getfield 103, 3) := by decide +kernel
theorem dX7_setOnMark_92 : decode cX7_setOnMark 92 = .ok (.if_icmp .ge 62, 3) := by decide +kernel
theorem dX7_setOnMark_95 : decode cX7_setOnMark 95 = .ok (.aload_n 1, 1) := by decide +kernel
theorem dX7_setOnMark_96 : decode cX7_setOnMark 96 = .ok (.getfield 95, 3) := by decide +kernel
theorem dX7_setOnMark_99 : decode cX7_setOnMark 99 = .ok (.iload 6, 2) := by decide +kernel
theorem dX7_setOnMark_101 : decode cX7_setOnMark 101 = .ok (.aaload, 1) := by decide +kernel
theorem dX7_setOnMark_102 : decode cX7_setOnMark 102 = .ok (.astore 7, 2) := by decide +kernel
theorem dX7_setOnMark_104 : decode cX7_setOnMark 104 = .ok (.iload 5, 2) := by decide +kernel
theorem dX7_setOnMark_106 : decode cX7_setOnMark 106 = .ok (.iload 6, 2) := by decide +kernel
theorem dX7_setOnMark_108 : decode cX7_setOnMark 108 = .ok (.ishr, 1) := by decide +kernel
theorem dX7_setOnMark_109 : decode cX7_setOnMark 109 = .ok (.iconst 1, 1) := by decide +kernel
theorem dX7_setOnMark_110 : decode cX7_setOnMark 110 = .ok (.iand, 1) := by decide +kernel
theorem dX7_setOnMark_111 : decode cX7_setOnMark 111 = .ok (.ifCond .eq 37, 3) := by decide +kernel
theorem dX7_setOnMark_114 : decode cX7_setOnMark 114 = .ok (.aload 7, 2) := by decide +kernel
theorem dX7_setOnMark_116 : decode cX7_setOnMark 116 = .ok (.iconst 1, 1) := by decide +kernel
theorem dX7_setOnMark_117 : decode cX7_setOnMark 117 = .ok (.iaload, 1) := by decide +kernel
theorem dX7_setOnMark_118 : decode cX7_setOnMark 118 = .ok (.aload_n 0, 1) := by decide +kernel
theorem dX7_setOnMark_119 : decode cX7_setOnMark 119 = .ok (.getfield 9, 3) := by decide +kernel
theorem dX7_setOnMark_122 : decode cX7_setOnMark 122 = .ok (.getfield 138, 3) := by decide +kernel
theorem dX7_setOnMark_125 : decode cX7_setOnMark 125 = .ok (.aload_n 2, 1) := by decide +kernel
theorem dX7_setOnMark_126 : decode cX7_setOnMark 126 = .ok (.getfield 33, 3) := by decide +kernel
theorem dX7_setOnMark_129 : decode cX7_setOnMark 129 = .ok (.iaload, 1) := by decide +kernel
theorem dX7_setOnMark_130 : decode cX7_setOnMark 130 = .ok (.if_icmp .ne 18, 3) := by decide +kernel
theorem dX7_setOnMark_133 : decode cX7_setOnMark 133 = .ok (.aload_n 2, 1) := by decide +kernel
theorem dX7_setOnMark_134 : decode cX7_setOnMark 134 = .ok (.iload 4, 2) := by decide +kernel
theorem dX7_setOnMark_136 : decode cX7_setOnMark 136 = .ok (.aload 7, 2) := by decide +kernel
theorem dX7_setOnMark_138 : decode cX7_setOnMark 138 = .ok (.iconst 2, 1) := by decide +kernel
theorem dX7_setOnMark_139 : decode cX7_setOnMark 139 = .ok (.iaload, 1) := by decide +kernel
theorem dX7_setOnMark_140 : decode cX7_setOnMark 140 = .ok (.aload 7, 2) := by decide +kernel
theorem dX7_setOnMark_142 : decode cX7_setOnMark 142 = .ok (.iconst 3, 1) := by decide +kernel
theorem dX7_setOnMark_143 : decode cX7_setOnMark 143 = .ok (.iaload, 1) := by decide +kernel
theorem dX7_setOnMark_144 : decode cX7_setOnMark 144 = .ok (.invokevirtual 54, 3) := by decide +kernel
theorem dX7_setOnMark_147 : decode cX7_setOnMark 147 = .ok (.return_, 1) := by decide +kernel
theorem dX7_setOnMark_148 : decode cX7_setOnMark 148 = .ok (.iinc 6 1, 3) := by decide +kernel
theorem dX7_setOnMark_151 : decode cX7_setOnMark 151 = .ok (.goto (-65), 3) := by decide +kernel
theorem dX7_setOnMark_154 : decode cX7_setOnMark 154 = .ok (.return_, 1) := by decide +kernel
theorem dX7_settle_0 : decode cX7_settle 0 = .ok (.iload_n 1, 1) := by decide +kernel
theorem dX7_settle_1 : decode cX7_settle 1 = .ok (.istore_n 3, 1) := by decide +kernel
theorem dX7_settle_2 : decode cX7_settle 2 = .ok (.iconst 0, 1) := by decide +kernel
theorem dX7_settle_3 : decode cX7_settle 3 = .ok (.istore 4, 2) := by decide +kernel
theorem dX7_settle_5 : decode cX7_settle 5 = .ok (.iload 4, 2) := by decide +kernel
theorem dX7_settle_7 : decode cX7_settle 7 = .ok (.aload_n 0, 1) := by decide +kernel
theorem dX7_settle_8 : decode cX7_settle 8 = .ok (.getfield 19, 3) := by decide +kernel
theorem dX7_settle_11 : decode cX7_settle 11 = .ok (.getfield 23, 3) := by decide +kernel
theorem dX7_settle_14 : decode cX7_settle 14 = .ok (.if_icmp .ge 25, 3) := by decide +kernel
theorem dX7_settle_17 : decode cX7_settle 17 = .ok (.iload_n 3, 1) := by decide +kernel
theorem dX7_settle_18 : decode cX7_settle 18 = .ok (.aload_n 0, 1) := by decide +kernel
theorem dX7_settle_19 : decode cX7_settle 19 = .ok (.getfield 19, 3) := by decide +kernel
theorem dX7_settle_22 : decode cX7_settle 22 = .ok (.getfield 29, 3) := by decide +kernel
theorem dX7_settle_25 : decode cX7_settle 25 = .ok (.iload 4, 2) := by decide +kernel
theorem dX7_settle_27 : decode cX7_settle 27 = .ok (.aaload, 1) := by decide +kernel
theorem dX7_settle_28 : decode cX7_settle 28 = .ok (.getfield 48, 3) := by decide +kernel
theorem dX7_settle_31 : decode cX7_settle 31 = .ok (.iadd, 1) := by decide +kernel
theorem dX7_settle_32 : decode cX7_settle 32 = .ok (.istore_n 3, 1) := by decide +kernel
theorem dX7_settle_33 : decode cX7_settle 33 = .ok (.iinc 4 1, 3) := by decide +kernel
theorem dX7_settle_36 : decode cX7_settle 36 = .ok (.goto (-31), 3) := by decide +kernel
theorem dX7_settle_39 : decode cX7_settle 39 = .ok (.iconst 0, 1) := by decide +kernel
theorem dX7_settle_40 : decode cX7_settle 40 = .ok (.istore 4, 2) := by decide +kernel
theorem dX7_settle_42 : decode cX7_settle 42 = .ok (.iconst 0, 1) := by decide +kernel
theorem dX7_settle_43 : decode cX7_settle 43 = .ok (.istore 5, 2) := by decide +kernel
theorem dX7_settle_45 : decode cX7_settle 45 = .ok (.iload 5, 2) := by decide +kernel
theorem dX7_settle_47 : decode cX7_settle 47 = .ok (.aload_n 0, 1) := by decide +kernel
theorem dX7_settle_48 : decode cX7_settle 48 = .ok (.getfield 19, 3) := by decide +kernel
theorem dX7_settle_51 : decode cX7_settle 51 = .ok (.getfield 23, 3) := by decide +kernel
theorem dX7_settle_54 : decode cX7_settle 54 = .ok (.if_icmp .ge 129, 3) := by decide +kernel
theorem dX7_settle_57 : decode cX7_settle 57 = .ok (.aload_n 0, 1) := by decide +kernel
theorem dX7_settle_58 : decode cX7_settle 58 = .ok (.getfield 19, 3) := by decide +kernel
theorem dX7_settle_61 : decode cX7_settle 61 = .ok (.getfield 29, 3) := by decide +kernel
theorem dX7_settle_64 : decode cX7_settle 64 = .ok (.iload 5, 2) := by decide +kernel
theorem dX7_settle_66 : decode cX7_settle 66 = .ok (.aaload, 1) := by decide +kernel
theorem dX7_settle_67 : decode cX7_settle 67 = .ok (.astore 6, 2) := by decide +kernel
theorem dX7_settle_69 : decode cX7_settle 69 = .ok (.aload 6, 2) := by decide +kernel
theorem dX7_settle_71 : decode cX7_settle 71 = .ok (.iload_n 2, 1) := by decide +kernel
theorem dX7_settle_72 : decode cX7_settle 72 = .ok (.ifCond .eq 16, 3) := by decide +kernel
theorem dX7_settle_75 : decode cX7_settle 75 = .ok (.iload_n 3, 1) := by decide +kernel
theorem dX7_settle_76 : decode cX7_settle 76 = .ok (.iload 4, 2) := by decide +kernel
theorem dX7_settle_78 : decode cX7_settle 78 = .ok (.isub, 1) := by decide +kernel
theorem dX7_settle_79 : decode cX7_settle 79 = .ok (.aload 6, 2) := by decide +kernel
theorem dX7_settle_81 : decode cX7_settle 81 = .ok (.getfield 48, 3) := by decide +kernel
theorem dX7_settle_84 : decode cX7_settle 84 = .ok (.isub, 1) := by decide +kernel
theorem dX7_settle_85 : decode cX7_settle 85 = .ok (.goto 7, 3) := by decide +kernel
theorem dX7_settle_88 : decode cX7_settle 88 = .ok (.iload_n 1, 1) := by decide +kernel
theorem dX7_settle_89 : decode cX7_settle 89 = .ok (.iload 4, 2) := by decide +kernel
theorem dX7_settle_91 : decode cX7_settle 91 = .ok (.iadd, 1) := by decide +kernel
theorem dX7_settle_92 : decode cX7_settle 92 = .ok (.putfield 144, 3) := by decide +kernel
theorem dX7_settle_95 : decode cX7_settle 95 = .ok (.iload 4, 2) := by decide +kernel
theorem dX7_settle_97 : decode cX7_settle 97 = .ok (.aload 6, 2) := by decide +kernel
theorem dX7_settle_99 : decode cX7_settle 99 = .ok (.getfield 48, 3) := by decide +kernel
theorem dX7_settle_102 : decode cX7_settle 102 = .ok (.iadd, 1) := by decide +kernel
theorem dX7_settle_103 : decode cX7_settle 103 = .ok (.istore 4, 2) := by decide +kernel
theorem dX7_settle_105 : decode cX7_settle 105 = .ok (.aload 6, 2) := by decide +kernel
theorem dX7_settle_107 : decode cX7_settle 107 = .ok (.getfield 147, 3) := by decide +kernel
theorem dX7_settle_110 : decode cX7_settle 110 = .ok (.ifCond .lt 67, 3) := by decide +kernel
theorem dX7_settle_113 : decode cX7_settle 113 = .ok (.aload 6, 2) := by decide +kernel
theorem dX7_settle_115 : decode cX7_settle 115 = .ok (.getfield 147, 3) := by decide +kernel
theorem dX7_settle_118 : decode cX7_settle 118 = .ok (.iload 5, 2) := by decide +kernel
theorem dX7_settle_120 : decode cX7_settle 120 = .ok (.if_icmp .ge 57, 3) := by decide +kernel
theorem dX7_settle_123 : decode cX7_settle 123 = .ok (.aload 6, 2) := by decide +kernel
theorem dX7_settle_125 : decode cX7_settle 125 = .ok (.aload_n 0, 1) := by decide +kernel
theorem dX7_settle_126 : decode cX7_settle 126 = .ok (.getfield 19, 3) := by decide +kernel
theorem dX7_settle_129 : decode cX7_settle 129 = .ok (.getfield 29, 3) := by decide +kernel
theorem dX7_settle_132 : decode cX7_settle 132 = .ok (.aload 6, 2) := by decide +kernel
theorem dX7_settle_134 : decode cX7_settle 134 = .ok (.getfield 147, 3) := by decide +kernel
theorem dX7_settle_137 : decode cX7_settle 137 = .ok (.aaload, 1) := by decide +kernel
theorem dX7_settle_138 : decode cX7_settle 138 = .ok (.getfield 144, 3) := by decide +kernel
theorem dX7_settle_141 : decode cX7_settle 141 = .ok (.aload 6, 2) := by decide +kernel
theorem dX7_settle_143 : decode cX7_settle 143 = .ok (.getfield 150, 3) := by decide +kernel
theorem dX7_settle_146 : decode cX7_settle 146 = .ok (.iadd, 1) := by decide +kernel
theorem dX7_settle_147 : decode cX7_settle 147 = .ok (.putfield 144, 3) := by decide +kernel
theorem dX7_settle_150 : decode cX7_settle 150 = .ok (.aload 6, 2) := by decide +kernel
theorem dX7_settle_152 : decode cX7_settle 152 = .ok (.aload_n 0, 1) := by decide +kernel
theorem dX7_settle_153 : decode cX7_settle 153 = .ok (.getfield 19, 3) := by decide +kernel
theorem dX7_settle_156 : decode cX7_settle 156 = .ok (.getfield 29, 3) := by decide +kernel
theorem dX7_settle_159 : decode cX7_settle 159 = .ok (.aload 6, 2) := by decide +kernel
theorem dX7_settle_161 : decode cX7_settle 161 = .ok (.getfield 147, 3) := by decide +kernel
theorem dX7_settle_164 : decode cX7_settle 164 = .ok (.aaload, 1) := by decide +kernel
theorem dX7_settle_165 : decode cX7_settle 165 = .ok (.getfield 51, 3) := by decide +kernel
theorem dX7_settle_168 : decode cX7_settle 168 = .ok (.aload 6, 2) := by decide +kernel
theorem dX7_settle_170 : decode cX7_settle 170 = .ok (.getfield 153, 3) := by decide +kernel
theorem dX7_settle_173 : decode cX7_settle 173 = .ok (.iadd, 1) := by decide +kernel
theorem dX7_settle_174 : decode cX7_settle 174 = .ok (.putfield 51, 3) := by decide +kernel
theorem dX7_settle_177 : decode cX7_settle 177 = .ok (.iinc 5 1, 3) := by decide +kernel
theorem dX7_settle_180 : decode cX7_settle 180 = .ok (.goto (-135), 3) := by decide +kernel
theorem dX7_settle_183 : decode cX7_settle 183 = .ok (.return_, 1) := by decide +kernel
theorem dX8_init_0 : decode cX8_init 0 = .ok (.aload_n 0, 1) := by decide +kernel
theorem dX8_init_1 : decode cX8_init 1 = .ok (.invokespecial 3, 3) := by decide +kernel
theorem dX8_init_4 : decode cX8_init 4 = .ok (.aload_n 0, 1) := by decide +kernel
theorem dX8_init_5 : decode cX8_init 5 = .ok (.bipush 64, 2) := by decide +kernel
theorem dX8_init_7 : decode cX8_init 7 = .ok (.anewarray 9, 3) := by decide +kernel
theorem dX8_init_10 : decode cX8_init 10 = .ok (.putfield 11, 3) := by decide +kernel
theorem dX8_init_13 : decode cX8_init 13 = .ok (.aload_n 0, 1) := by decide +kernel
theorem dX8_init_14 : decode cX8_init 14 = .ok (.iconst 0, 1) := by decide +kernel
theorem dX8_init_15 : decode cX8_init 15 = .ok (.putfield 17, 3) := by decide +kernel
theorem dX8_init_18 : decode cX8_init 18 = .ok (.iconst 0, 1) := by decide +kernel
theorem dX8_init_19 : decode cX8_init 19 = .ok (.istore_n 1, 1) := by decide +kernel
theorem dX8_init_20 : decode cX8_init 20 = .ok (.iload_n 1, 1) := by decide +kernel
theorem dX8_init_21 : decode cX8_init 21 = .ok (.bipush 64, 2) := by decide +kernel
theorem dX8_init_23 : decode cX8_init 23 = .ok (.if_icmp .ge 22, 3) := by decide +kernel
theorem dX8_init_26 : decode cX8_init 26 = .ok (.aload_n 0, 1) := by decide +kernel
theorem dX8_init_27 : decode cX8_init 27 = .ok (.getfield 11, 3) := by decide +kernel
theorem dX8_init_30 : decode cX8_init 30 = .ok (.iload_n 1, 1) := by decide +kernel
theorem dX8_init_31 : decode cX8_init 31 = .ok (.new 9, 3) := by decide +kernel
theorem dX8_init_34 : decode cX8_init 34 = .ok (.dup, 1) := by decide +kernel
theorem dX8_init_35 : decode cX8_init 35 = .ok (.invokespecial 21, 3) := by decide +kernel
theorem dX8_init_38 : decode cX8_init 38 = .ok (.aastore, 1) := by decide +kernel
theorem dX8_init_39 : decode cX8_init 39 = .ok (.iinc 1 1, 3) := by decide +kernel
theorem dX8_init_42 : decode cX8_init 42 = .ok (.goto (-22), 3) := by decide +kernel
theorem dX8_init_45 : decode cX8_init 45 = .ok (.return_, 1) := by decide +kernel
theorem dX8_add_0 : decode cX8_add 0 = .ok (.aload_n 0, 1) := by decide +kernel
theorem dX8_add_1 : decode cX8_add 1 = .ok (.getfield 17, 3) := by decide +kernel
theorem dX8_add_4 : decode cX8_add 4 = .ok (.bipush 63, 2) := by decide +kernel
theorem dX8_add_6 : decode cX8_add 6 = .ok (.invokestatic 22, 3) := by decide +kernel
theorem dX8_add_9 : decode cX8_add 9 = .ok (.istore_n 1, 1) := by decide +kernel
theorem dX8_add_10 : decode cX8_add 10 = .ok (.aload_n 0, 1) := by decide +kernel
theorem dX8_add_11 : decode cX8_add 11 = .ok (.iload_n 1, 1) := by decide +kernel
theorem dX8_add_12 : decode cX8_add 12 = .ok (.iconst 1, 1) := by decide +kernel
theorem dX8_add_13 : decode cX8_add 13 = .ok (.iadd, 1) := by decide +kernel
theorem dX8_add_14 : decode cX8_add 14 = .ok (.putfield 17, 3) := by decide +kernel
theorem dX8_add_17 : decode cX8_add 17 = .ok (.aload_n 0, 1) := by decide +kernel
theorem dX8_add_18 : decode cX8_add 18 = .ok (.getfield 11, 3) := by decide +kernel
theorem dX8_add_21 : decode cX8_add 21 = .ok (.iload_n 1, 1) := by decide +kernel
theorem dX8_add_22 : decode cX8_add 22 = .ok (.aaload, 1) := by decide +kernel
theorem dX8_add_23 : decode cX8_add 23 = .ok (.areturn, 1) := by decide +kernel
theorem dX8_has_0 : decode cX8_has 0 = .ok (.iload_n 1, 1) := by decide +kernel
theorem dX8_has_1 : decode cX8_has 1 = .ok (.ifCond .lt 15, 3) := by decide +kernel
theorem dX8_has_4 : decode cX8_has 4 = .ok (.iload_n 1, 1) := by decide +kernel
theorem dX8_has_5 : decode cX8_has 5 = .ok (.aload_n 0, 1) := by decide +kernel
theorem dX8_has_6 : decode cX8_has 6 = .ok (.getfield 17, 3) := by decide +kernel
theorem dX8_has_9 : decode cX8_has 9 = .ok (.if_icmp .ge 7, 3) := by decide +kernel
theorem dX8_has_12 : decode cX8_has 12 = .ok (.iconst 1, 1) := by decide +kernel
theorem dX8_has_13 : decode cX8_has 13 = .ok (.goto 4, 3) := by decide +kernel
theorem dX8_has_16 : decode cX8_has 16 = .ok (.iconst 0, 1) := by decide +kernel
theorem dX8_has_17 : decode cX8_has 17 = .ok (.ireturn, 1) := by decide +kernel
theorem dX8_move_0 : decode cX8_move 0 = .ok (.aload_n 0, 1) := by decide +kernel
theorem dX8_move_1 : decode cX8_move 1 = .ok (.iload_n 1, 1) := by decide +kernel
theorem dX8_move_2 : decode cX8_move 2 = .ok (.invokevirtual 28, 3) := by decide +kernel
theorem dX8_move_5 : decode cX8_move 5 = .ok (.ifCond .eq 11, 3) := by decide +kernel
theorem dX8_move_8 : decode cX8_move 8 = .ok (.aload_n 0, 1) := by decide +kernel
theorem dX8_move_9 : decode cX8_move 9 = .ok (.iload_n 2, 1) := by decide +kernel
theorem dX8_move_10 : decode cX8_move 10 = .ok (.invokevirtual 28, 3) := by decide +kernel
theorem dX8_move_13 : decode cX8_move 13 = .ok (.ifCond .ne 4, 3) := by decide +kernel
theorem dX8_move_16 : decode cX8_move 16 = .ok (.return_, 1) := by decide +kernel
theorem dX8_move_17 : decode cX8_move 17 = .ok (.aload_n 0, 1) := by decide +kernel
theorem dX8_move_18 : decode cX8_move 18 = .ok (.getfield 11, 3) := by decide +kernel
theorem dX8_move_21 : decode cX8_move 21 = .ok (.iload_n 1, 1) := by decide +kernel
theorem dX8_move_22 : decode cX8_move 22 = .ok (.aaload, 1) := by decide +kernel
theorem dX8_move_23 : decode cX8_move 23 = .ok (.astore_n 3, 1) := by decide +kernel
theorem dX8_move_24 : decode cX8_move 24 = .ok (.iload_n 1, 1) := by decide +kernel
theorem dX8_move_25 : decode cX8_move 25 = .ok (.istore 4, 2) := by decide +kernel
theorem dX8_move_27 : decode cX8_move 27 = .ok (.iload 4, 2) := by decide +kernel
theorem dX8_move_29 : decode cX8_move 29 = .ok (.iload_n 2, 1) := by decide +kernel
theorem dX8_move_30 : decode cX8_move 30 = .ok (.if_icmp .ge 25, 3) := by decide +kernel
theorem dX8_move_33 : decode cX8_move 33 = .ok (.aload_n 0, 1) := by decide +kernel
theorem dX8_move_34 : decode cX8_move 34 = .ok (.getfield 11, 3) := by decide +kernel
theorem dX8_move_37 : decode cX8_move 37 = .ok (.iload 4, 2) := by decide +kernel
theorem dX8_move_39 : decode cX8_move 39 = .ok (.aload_n 0, 1) := by decide +kernel
theorem dX8_move_40 : decode cX8_move 40 = .ok (.getfield 11, 3) := by decide +kernel
theorem dX8_move_43 : decode cX8_move 43 = .ok (.iload 4, 2) := by decide +kernel
theorem dX8_move_45 : decode cX8_move 45 = .ok (.iconst 1, 1) := by decide +kernel
theorem dX8_move_46 : decode cX8_move 46 = .ok (.iadd, 1) := by decide +kernel
theorem dX8_move_47 : decode cX8_move 47 = .ok (.aaload, 1) := by decide +kernel
theorem dX8_move_48 : decode cX8_move 48 = .ok (.aastore, 1) := by decide +kernel
theorem dX8_move_49 : decode cX8_move 49 = .ok (.iinc 4 1, 3) := by decide +kernel
theorem dX8_move_52 : decode cX8_move 52 = .ok (.goto (-25), 3) := by decide +kernel
theorem dX8_move_55 : decode cX8_move 55 = .ok (.iload_n 1, 1) := by decide +kernel
theorem dX8_move_56 : decode cX8_move 56 = .ok (.istore 4, 2) := by decide +kernel
theorem dX8_move_58 : decode cX8_move 58 = .ok (.iload 4, 2) := by decide +kernel
theorem dX8_move_60 : decode cX8_move 60 = .ok (.iload_n 2, 1) := by decide +kernel
theorem dX8_move_61 : decode cX8_move 61 = .ok (.if_icmp .le 25, 3) := by decide +kernel
theorem dX8_move_64 : decode cX8_move 64 = .ok (.aload_n 0, 1) := by decide +kernel
theorem dX8_move_65 : decode cX8_move 65 = .ok (.getfield 11, 3) := by decide +kernel
theorem dX8_move_68 : decode cX8_move 68 = .ok (.iload 4, 2) := by decide +kernel
theorem dX8_move_70 : decode cX8_move 70 = .ok (.aload_n 0, 1) := by decide +kernel
theorem dX8_move_71 : decode cX8_move 71 = .ok (.getfield 11, 3) := by decide +kernel
theorem dX8_move_74 : decode cX8_move 74 = .ok (.iload 4, 2) := by decide +kernel
theorem dX8_move_76 : decode cX8_move 76 = .ok (.iconst 1, 1) := by decide +kernel
theorem dX8_move_77 : decode cX8_move 77 = .ok (.isub, 1) := by decide +kernel
theorem dX8_move_78 : decode cX8_move 78 = .ok (.aaload, 1) := by decide +kernel
theorem dX8_move_79 : decode cX8_move 79 = .ok (.aastore, 1) := by decide +kernel
theorem dX8_move_80 : decode cX8_move 80 = .ok (.iinc 4 (-1), 3) := by decide +kernel
theorem dX8_move_83 : decode cX8_move 83 = .ok (.goto (-25), 3) := by decide +kernel
theorem dX8_move_86 : decode cX8_move 86 = .ok (.aload_n 0, 1) := by decide +kernel
theorem dX8_move_87 : decode cX8_move 87 = .ok (.getfield 11, 3) := by decide +kernel
theorem dX8_move_90 : decode cX8_move 90 = .ok (.iload_n 2, 1) := by decide +kernel
theorem dX8_move_91 : decode cX8_move 91 = .ok (.aload_n 3, 1) := by decide +kernel
theorem dX8_move_92 : decode cX8_move 92 = .ok (.aastore, 1) := by decide +kernel
theorem dX8_move_93 : decode cX8_move 93 = .ok (.return_, 1) := by decide +kernel
theorem dX8_takeOut_0 : decode cX8_takeOut 0 = .ok (.iload_n 1, 1) := by decide +kernel
theorem dX8_takeOut_1 : decode cX8_takeOut 1 = .ok (.ifCond .lt 11, 3) := by decide +kernel
theorem dX8_takeOut_4 : decode cX8_takeOut 4 = .ok (.iload_n 1, 1) := by decide +kernel
theorem dX8_takeOut_5 : decode cX8_takeOut 5 = .ok (.aload_n 0, 1) := by decide +kernel
theorem dX8_takeOut_6 : decode cX8_takeOut 6 = .ok (.getfield 17, 3) := by decide +kernel
theorem dX8_takeOut_9 : decode cX8_takeOut 9 = .ok (.if_icmp .lt 4, 3) := by decide +kernel
theorem dX8_takeOut_12 : decode cX8_takeOut 12 = .ok (.return_, 1) := by decide +kernel
theorem dX8_takeOut_13 : decode cX8_takeOut 13 = .ok (.aload_n 0, 1) := by decide +kernel
theorem dX8_takeOut_14 : decode cX8_takeOut 14 = .ok (.getfield 11, 3) := by decide +kernel
theorem dX8_takeOut_17 : decode cX8_takeOut 17 = .ok (.iload_n 1, 1) := by decide +kernel
theorem dX8_takeOut_18 : decode cX8_takeOut 18 = .ok (.aaload, 1) := by decide +kernel
theorem dX8_takeOut_19 : decode cX8_takeOut 19 = .ok (.astore_n 2, 1) := by decide +kernel
theorem dX8_takeOut_20 : decode cX8_takeOut 20 = .ok (.iload_n 1, 1) := by decide +kernel
theorem dX8_takeOut_21 : decode cX8_takeOut 21 = .ok (.istore_n 3, 1) := by decide +kernel
theorem dX8_takeOut_22 : decode cX8_takeOut 22 = .ok (.iload_n 3, 1) := by decide +kernel
theorem dX8_takeOut_23 : decode cX8_takeOut 23 = .ok (.aload_n 0, 1) := by decide +kernel
theorem dX8_takeOut_24 : decode cX8_takeOut 24 = .ok (.getfield 17, 3) := by decide +kernel
theorem dX8_takeOut_27 : decode cX8_takeOut 27 = .ok (.iconst 1, 1) := by decide +kernel
theorem dX8_takeOut_28 : decode cX8_takeOut 28 = .ok (.isub, 1) := by decide +kernel
theorem dX8_takeOut_29 : decode cX8_takeOut 29 = .ok (.if_icmp .ge 23, 3) := by decide +kernel
theorem dX8_takeOut_32 : decode cX8_takeOut 32 = .ok (.aload_n 0, 1) := by decide +kernel
theorem dX8_takeOut_33 : decode cX8_takeOut 33 = .ok (.getfield 11, 3) := by decide +kernel
theorem dX8_takeOut_36 : decode cX8_takeOut 36 = .ok (.iload_n 3, 1) := by decide +kernel
theorem dX8_takeOut_37 : decode cX8_takeOut 37 = .ok (.aload_n 0, 1) := by decide +kernel
theorem dX8_takeOut_38 : decode cX8_takeOut 38 = .ok (.getfield 11, 3) := by decide +kernel
theorem dX8_takeOut_41 : decode cX8_takeOut 41 = .ok (.iload_n 3, 1) := by decide +kernel
theorem dX8_takeOut_42 : decode cX8_takeOut 42 = .ok (.iconst 1, 1) := by decide +kernel
theorem dX8_takeOut_43 : decode cX8_takeOut 43 = .ok (.iadd, 1) := by decide +kernel
theorem dX8_takeOut_44 : decode cX8_takeOut 44 = .ok (.aaload, 1) := by decide +kernel
theorem dX8_takeOut_45 : decode cX8_takeOut 45 = .ok (.aastore, 1) := by decide +kernel
theorem dX8_takeOut_46 : decode cX8_takeOut 46 = .ok (.iinc 3 1, 3) := by decide +kernel
theorem dX8_takeOut_49 : decode cX8_takeOut 49 = .ok (.goto (-27), 3) := by decide +kernel
theorem dX8_takeOut_52 : decode cX8_takeOut 52 = .ok (.aload_n 0, 1) := by decide +kernel
theorem dX8_takeOut_53 : decode cX8_takeOut 53 = .ok (.dup, 1) := by decide +kernel
theorem dX8_takeOut_54 : decode cX8_takeOut 54 = .ok (.getfield 17, 3) := by decide +kernel
theorem dX8_takeOut_57 : decode cX8_takeOut 57 = .ok (.iconst 1, 1) := by decide +kernel
theorem dX8_takeOut_58 : decode cX8_takeOut 58 = .ok (.isub, 1) := by decide +kernel
theorem dX8_takeOut_59 : decode cX8_takeOut 59 = .ok (.putfield 17, 3) := by decide +kernel
theorem dX8_takeOut_62 : decode cX8_takeOut 62 = .ok (.aload_n 0, 1) := by decide +kernel
theorem dX8_takeOut_63 : decode cX8_takeOut 63 = .ok (.getfield 11, 3) := by decide +kernel
theorem dX8_takeOut_66 : decode cX8_takeOut 66 = .ok (.aload_n 0, 1) := by decide +kernel
theorem dX8_takeOut_67 : decode cX8_takeOut 67 = .ok (.getfield 17, 3) := by decide +kernel
theorem dX8_takeOut_70 : decode cX8_takeOut 70 = .ok (.aload_n 2, 1) := by decide +kernel
theorem dX8_takeOut_71 : decode cX8_takeOut 71 = .ok (.aastore, 1) := by decide +kernel
theorem dX8_takeOut_72 : decode cX8_takeOut 72 = .ok (.return_, 1) := by decide +kernel
theorem dX8_putBehind_0 : decode cX8_putBehind 0 = .ok (.iload_n 1, 1) := by decide +kernel
theorem dX8_putBehind_1 : decode cX8_putBehind 1 = .ok (.ifCond .lt 20, 3) := by decide +kernel
theorem dX8_putBehind_4 : decode cX8_putBehind 4 = .ok (.iload_n 1, 1) := by decide +kernel
theorem dX8_putBehind_5 : decode cX8_putBehind 5 = .ok (.aload_n 0, 1) := by decide +kernel
theorem dX8_putBehind_6 : decode cX8_putBehind 6 = .ok (.getfield 17, 3) := by decide +kernel
theorem dX8_putBehind_9 : decode cX8_putBehind 9 = .ok (.if_icmp .ge 12, 3) := by decide +kernel
theorem dX8_putBehind_12 : decode cX8_putBehind 12 = .ok (.aload_n 0, 1) := by decide +kernel
theorem dX8_putBehind_13 : decode cX8_putBehind 13 = .ok (.getfield 17, 3) := by decide +kernel
theorem dX8_putBehind_16 : decode cX8_putBehind 16 = .ok (.bipush 64, 2) := by decide +kernel
theorem dX8_putBehind_18 : decode cX8_putBehind 18 = .ok (.if_icmp .lt 4, 3) := by decide +kernel
theorem dX8_putBehind_21 : decode cX8_putBehind 21 = .ok (.return_, 1) := by decide +kernel
theorem dX8_putBehind_22 : decode cX8_putBehind 22 = .ok (.aload_n 0, 1) := by decide +kernel
theorem dX8_putBehind_23 : decode cX8_putBehind 23 = .ok (.getfield 11, 3) := by decide +kernel
theorem dX8_putBehind_26 : decode cX8_putBehind 26 = .ok (.aload_n 0, 1) := by decide +kernel
theorem dX8_putBehind_27 : decode cX8_putBehind 27 = .ok (.getfield 17, 3) := by decide +kernel
theorem dX8_putBehind_30 : decode cX8_putBehind 30 = .ok (.aaload, 1) := by decide +kernel
theorem dX8_putBehind_31 : decode cX8_putBehind 31 = .ok (.astore_n 3, 1) := by decide +kernel
theorem dX8_putBehind_32 : decode cX8_putBehind 32 = .ok (.aload_n 0, 1) := by decide +kernel
theorem dX8_putBehind_33 : decode cX8_putBehind 33 = .ok (.getfield 17, 3) := by decide +kernel
theorem dX8_putBehind_36 : decode cX8_putBehind 36 = .ok (.istore 4, 2) := by decide +kernel
theorem dX8_putBehind_38 : decode cX8_putBehind 38 = .ok (.iload 4, 2) := by decide +kernel
theorem dX8_putBehind_40 : decode cX8_putBehind 40 = .ok (.iload_n 1, 1) := by decide +kernel
theorem dX8_putBehind_41 : decode cX8_putBehind 41 = .ok (.iconst 1, 1) := by decide +kernel
theorem dX8_putBehind_42 : decode cX8_putBehind 42 = .ok (.iadd, 1) := by decide +kernel
theorem dX8_putBehind_43 : decode cX8_putBehind 43 = .ok (.if_icmp .le 25, 3) := by decide +kernel
theorem dX8_putBehind_46 : decode cX8_putBehind 46 = .ok (.aload_n 0, 1) := by decide +kernel
theorem dX8_putBehind_47 : decode cX8_putBehind 47 = .ok (.getfield 11, 3) := by decide +kernel
theorem dX8_putBehind_50 : decode cX8_putBehind 50 = .ok (.iload 4, 2) := by decide +kernel
theorem dX8_putBehind_52 : decode cX8_putBehind 52 = .ok (.aload_n 0, 1) := by decide +kernel
theorem dX8_putBehind_53 : decode cX8_putBehind 53 = .ok (.getfield 11, 3) := by decide +kernel
theorem dX8_putBehind_56 : decode cX8_putBehind 56 = .ok (.iload 4, 2) := by decide +kernel
theorem dX8_putBehind_58 : decode cX8_putBehind 58 = .ok (.iconst 1, 1) := by decide +kernel
theorem dX8_putBehind_59 : decode cX8_putBehind 59 = .ok (.isub, 1) := by decide +kernel
theorem dX8_putBehind_60 : decode cX8_putBehind 60 = .ok (.aaload, 1) := by decide +kernel
theorem dX8_putBehind_61 : decode cX8_putBehind 61 = .ok (.aastore, 1) := by decide +kernel
theorem dX8_putBehind_62 : decode cX8_putBehind 62 = .ok (.iinc 4 (-1), 3) := by decide +kernel
theorem dX8_putBehind_65 : decode cX8_putBehind 65 = .ok (.goto (-27), 3) := by decide +kernel
theorem dX8_putBehind_68 : decode cX8_putBehind 68 = .ok (.aload_n 0, 1) := by decide +kernel
theorem dX8_putBehind_69 : decode cX8_putBehind 69 = .ok (.getfield 11, 3) := by decide +kernel
theorem dX8_putBehind_72 : decode cX8_putBehind 72 = .ok (.iload_n 1, 1) := by decide +kernel
theorem dX8_putBehind_73 : decode cX8_putBehind 73 = .ok (.iconst 1, 1) := by decide +kernel
theorem dX8_putBehind_74 : decode cX8_putBehind 74 = .ok (.iadd, 1) := by decide +kernel
theorem dX8_putBehind_75 : decode cX8_putBehind 75 = .ok (.aload_n 3, 1) := by decide +kernel
theorem dX8_putBehind_76 : decode cX8_putBehind 76 = .ok (.aastore, 1) := by decide +kernel
theorem dX8_putBehind_77 : decode cX8_putBehind 77 = .ok (.aload_n 0, 1) := by decide +kernel
theorem dX8_putBehind_78 : decode cX8_putBehind 78 = .ok (.dup, 1) := by decide +kernel
theorem dX8_putBehind_79 : decode cX8_putBehind 79 = .ok (.getfield 17, 3) := by decide +kernel
theorem dX8_putBehind_82 : decode cX8_putBehind 82 = .ok (.iconst 1, 1) := by decide +kernel
theorem dX8_putBehind_83 : decode cX8_putBehind 83 = .ok (.iadd, 1) := by decide +kernel
theorem dX8_putBehind_84 : decode cX8_putBehind 84 = .ok (.putfield 17, 3) := by decide +kernel
theorem dX8_putBehind_87 : decode cX8_putBehind 87 = .ok (.aload_n 3, 1) := by decide +kernel
theorem dX8_putBehind_88 : decode cX8_putBehind 88 = .ok (.aload_n 0, 1) := by decide +kernel
theorem dX8_putBehind_89 : decode cX8_putBehind 89 = .ok (.getfield 11, 3) := by decide +kernel
theorem dX8_putBehind_92 : decode cX8_putBehind 92 = .ok (.iload_n 1, 1) := by decide +kernel
theorem dX8_putBehind_93 : decode cX8_putBehind 93 = .ok (.aaload, 1) := by decide +kernel
theorem dX8_putBehind_94 : decode cX8_putBehind 94 = .ok (.invokevirtual 32, 3) := by decide +kernel
theorem dX8_putBehind_97 : decode cX8_putBehind 97 = .ok (.aload_n 3, 1) := by decide +kernel
theorem dX8_putBehind_98 : decode cX8_putBehind 98 = .ok (.iload_n 2, 1) := by decide +kernel
theorem dX8_putBehind_99 : decode cX8_putBehind 99 = .ok (.putfield 36, 3) := by decide +kernel
theorem dX8_putBehind_102 : decode cX8_putBehind 102 = .ok (.return_, 1) := by decide +kernel
theorem dX8_numberAt_0 : decode cX8_numberAt 0 = .ok (.iload_n 1, 1) := by decide +kernel
theorem dX8_numberAt_1 : decode cX8_numberAt 1 = .ok (.ifCond .lt 23, 3) := by decide +kernel
theorem dX8_numberAt_4 : decode cX8_numberAt 4 = .ok (.iload_n 1, 1) := by decide +kernel
theorem dX8_numberAt_5 : decode cX8_numberAt 5 = .ok (.aload_n 0, 1) := by decide +kernel
theorem dX8_numberAt_6 : decode cX8_numberAt 6 = .ok (.getfield 17, 3) := by decide +kernel
theorem dX8_numberAt_9 : decode cX8_numberAt 9 = .ok (.if_icmp .ge 15, 3) := by decide +kernel
theorem dX8_numberAt_12 : decode cX8_numberAt 12 = .ok (.aload_n 0, 1) := by decide +kernel
theorem dX8_numberAt_13 : decode cX8_numberAt 13 = .ok (.getfield 11, 3) := by decide +kernel
theorem dX8_numberAt_16 : decode cX8_numberAt 16 = .ok (.iload_n 1, 1) := by decide +kernel
theorem dX8_numberAt_17 : decode cX8_numberAt 17 = .ok (.aaload, 1) := by decide +kernel
theorem dX8_numberAt_18 : decode cX8_numberAt 18 = .ok (.getfield 36, 3) := by decide +kernel
theorem dX8_numberAt_21 : decode cX8_numberAt 21 = .ok (.goto 5, 3) := by decide +kernel
theorem dX8_numberAt_24 : decode cX8_numberAt 24 = .ok (.bipush (-100), 2) := by decide +kernel
theorem dX8_numberAt_26 : decode cX8_numberAt 26 = .ok (.ireturn, 1) := by decide +kernel
theorem dX8_indexOf_0 : decode cX8_indexOf 0 = .ok (.iconst 0, 1) := by decide +kernel
theorem dX8_indexOf_1 : decode cX8_indexOf 1 = .ok (.istore_n 2, 1) := by decide +kernel
theorem dX8_indexOf_2 : decode cX8_indexOf 2 = .ok (.iload_n 2, 1) := by decide +kernel
theorem dX8_indexOf_3 : decode cX8_indexOf 3 = .ok (.aload_n 0, 1) := by decide +kernel
theorem dX8_indexOf_4 : decode cX8_indexOf 4 = .ok (.getfield 17, 3) := by decide +kernel
theorem dX8_indexOf_7 : decode cX8_indexOf 7 = .ok (.if_icmp .ge 21, 3) := by decide +kernel
theorem dX8_indexOf_10 : decode cX8_indexOf 10 = .ok (.aload_n 0, 1) := by decide +kernel
theorem dX8_indexOf_11 : decode cX8_indexOf 11 = .ok (.getfield 11, 3) := by decide +kernel
theorem dX8_indexOf_14 : decode cX8_indexOf 14 = .ok (.iload_n 2, 1) := by decide +kernel
theorem dX8_indexOf_15 : decode cX8_indexOf 15 = .ok (.aaload, 1) := by decide +kernel
theorem dX8_indexOf_16 : decode cX8_indexOf 16 = .ok (.aload_n 1, 1) := by decide +kernel
theorem dX8_indexOf_17 : decode cX8_indexOf 17 = .ok (.if_acmp .ne 5, 3) := by decide +kernel
theorem dX8_indexOf_20 : decode cX8_indexOf 20 = .ok (.iload_n 2, 1) := by decide +kernel
theorem dX8_indexOf_21 : decode cX8_indexOf 21 = .ok (.ireturn, 1) := by decide +kernel
theorem dX8_indexOf_22 : decode cX8_indexOf 22 = .ok (.iinc 2 1, 3) := by decide +kernel
theorem dX8_indexOf_25 : decode cX8_indexOf 25 = .ok (.goto (-23), 3) := by decide +kernel
theorem dX8_indexOf_28 : decode cX8_indexOf 28 = .ok (.bipush (-100), 2) := by decide +kernel
theorem dX8_indexOf_30 : decode cX8_indexOf 30 = .ok (.ireturn, 1) := by decide +kernel
theorem dX8_ahead_0 : decode cX8_ahead 0 = .ok (.iload_n 3, 1) := by decide +kernel
theorem dX8_ahead_1 : decode cX8_ahead 1 = .ok (.aload_n 0, 1) := by decide +kernel
theorem dX8_ahead_2 : decode cX8_ahead 2 = .ok (.getfield 17, 3) := by decide +kernel
theorem dX8_ahead_5 : decode cX8_ahead 5 = .ok (.invokestatic 22, 3) := by decide +kernel
theorem dX8_ahead_8 : decode cX8_ahead 8 = .ok (.iconst 1, 1) := by decide +kernel
theorem dX8_ahead_9 : decode cX8_ahead 9 = .ok (.isub, 1) := by decide +kernel
theorem dX8_ahead_10 : decode cX8_ahead 10 = .ok (.istore 4, 2) := by decide +kernel
theorem dX8_ahead_12 : decode cX8_ahead 12 = .ok (.iload 4, 2) := by decide +kernel
theorem dX8_ahead_14 : decode cX8_ahead 14 = .ok (.ifCond .lt 30, 3) := by decide +kernel
theorem dX8_ahead_17 : decode cX8_ahead 17 = .ok (.aload_n 1, 1) := by decide +kernel
theorem dX8_ahead_18 : decode cX8_ahead 18 = .ok (.aload_n 2, 1) := by decide +kernel
theorem dX8_ahead_19 : decode cX8_ahead 19 = .ok (.aload_n 0, 1) := by decide +kernel
theorem dX8_ahead_20 : decode cX8_ahead 20 = .ok (.getfield 11, 3) := by decide +kernel
theorem dX8_ahead_23 : decode cX8_ahead 23 = .ok (.iload 4, 2) := by decide +kernel
theorem dX8_ahead_25 : decode cX8_ahead 25 = .ok (.aaload, 1) := by decide +kernel
theorem dX8_ahead_26 : decode cX8_ahead 26 = .ok (.getfield 36, 3) := by decide +kernel
theorem dX8_ahead_29 : decode cX8_ahead 29 = .ok (.invokevirtual 39, 3) := by decide +kernel
theorem dX8_ahead_32 : decode cX8_ahead 32 = .ok (.ifCond .ne 6, 3) := by decide +kernel
theorem dX8_ahead_35 : decode cX8_ahead 35 = .ok (.iload 4, 2) := by decide +kernel
theorem dX8_ahead_37 : decode cX8_ahead 37 = .ok (.ireturn, 1) := by decide +kernel
theorem dX8_ahead_38 : decode cX8_ahead 38 = .ok (.iinc 4 (-1), 3) := by decide +kernel
theorem dX8_ahead_41 : decode cX8_ahead 41 = .ok (.goto (-29), 3) := by decide +kernel
theorem dX8_ahead_44 : decode cX8_ahead 44 = .ok (.bipush (-100), 2) := by decide +kernel
theorem dX8_ahead_46 : decode cX8_ahead 46 = .ok (.ireturn, 1) := by decide +kernel
theorem dX8_behind_0 : decode cX8_behind 0 = .ok (.iload_n 3, 1) := by decide +kernel
theorem dX8_behind_1 : decode cX8_behind 1 = .ok (.iconst (-1), 1) := by decide +kernel
theorem dX8_behind_2 : decode cX8_behind 2 = .ok (.invokestatic 45, 3) := by decide +kernel
theorem dX8_behind_5 : decode cX8_behind 5 = .ok (.iconst 1, 1) := by decide +kernel
theorem dX8_behind_6 : decode cX8_behind 6 = .ok (.iadd, 1) := by decide +kernel
theorem dX8_behind_7 : decode cX8_behind 7 = .ok (.istore 4, 2) := by decide +kernel
theorem dX8_behind_9 : decode cX8_behind 9 = .ok (.iload 4, 2) := by decide +kernel
theorem dX8_behind_11 : decode cX8_behind 11 = .ok (.aload_n 0, 1) := by decide +kernel
theorem dX8_behind_12 : decode cX8_behind 12 = .ok (.getfield 17, 3) := by decide +kernel
theorem dX8_behind_15 : decode cX8_behind 15 = .ok (.if_icmp .ge 30, 3) := by decide +kernel
theorem dX8_behind_18 : decode cX8_behind 18 = .ok (.aload_n 1, 1) := by decide +kernel
theorem dX8_behind_19 : decode cX8_behind 19 = .ok (.aload_n 2, 1) := by decide +kernel
theorem dX8_behind_20 : decode cX8_behind 20 = .ok (.aload_n 0, 1) := by decide +kernel
theorem dX8_behind_21 : decode cX8_behind 21 = .ok (.getfield 11, 3) := by decide +kernel
theorem dX8_behind_24 : decode cX8_behind 24 = .ok (.iload 4, 2) := by decide +kernel
theorem dX8_behind_26 : decode cX8_behind 26 = .ok (.aaload, 1) := by decide +kernel
theorem dX8_behind_27 : decode cX8_behind 27 = .ok (.getfield 36, 3) := by decide +kernel
theorem dX8_behind_30 : decode cX8_behind 30 = .ok (.invokevirtual 39, 3) := by decide +kernel
theorem dX8_behind_33 : decode cX8_behind 33 = .ok (.ifCond .ne 6, 3) := by decide +kernel
theorem dX8_behind_36 : decode cX8_behind 36 = .ok (.iload 4, 2) := by decide +kernel
theorem dX8_behind_38 : decode cX8_behind 38 = .ok (.ireturn, 1) := by decide +kernel
theorem dX8_behind_39 : decode cX8_behind 39 = .ok (.iinc 4 1, 3) := by decide +kernel
theorem dX8_behind_42 : decode cX8_behind 42 = .ok (.goto (-33), 3) := by decide +kernel
theorem dX8_behind_45 : decode cX8_behind 45 = .ok (.bipush (-100), 2) := by decide +kernel
theorem dX8_behind_47 : decode cX8_behind 47 = .ok (.ireturn, 1) := by decide +kernel
theorem dX8_dropJoiners_0 : decode cX8_dropJoiners 0 = .ok (.aload_n 0, 1) := by decide +kernel
theorem dX8_dropJoiners_1 : decode cX8_dropJoiners 1 = .ok (.getfield 17, 3) := by decide +kernel
theorem dX8_dropJoiners_4 : decode cX8_dropJoiners 4 = .ok (.iconst 1, 1) := by decide +kernel
theorem dX8_dropJoiners_5 : decode cX8_dropJoiners 5 = .ok (.isub, 1) := by decide +kernel
theorem dX8_dropJoiners_6 : decode cX8_dropJoiners 6 = .ok (.istore_n 1, 1) := by decide +kernel
theorem dX8_dropJoiners_7 : decode cX8_dropJoiners 7 = .ok (.iload_n 1, 1) := by decide +kernel
theorem dX8_dropJoiners_8 : decode cX8_dropJoiners 8 = .ok (.ifCond .lt 29, 3) := by decide +kernel
theorem dX8_dropJoiners_11 : decode cX8_dropJoiners 11 = .ok (.aload_n 0, 1) := by decide +kernel
theorem dX8_dropJoiners_12 : decode cX8_dropJoiners 12 = .ok (.getfield 11, 3) := by decide +kernel
theorem dX8_dropJoiners_15 : decode cX8_dropJoiners 15 = .ok (.iload_n 1, 1) := by decide +kernel
theorem dX8_dropJoiners_16 : decode cX8_dropJoiners 16 = .ok (.aaload, 1) := by decide +kernel
theorem dX8_dropJoiners_17 : decode cX8_dropJoiners 17 = .ok (.getfield 36, 3) := by decide +kernel
theorem dX8_dropJoiners_20 : decode cX8_dropJoiners 20 = .ok (.invokestatic 48, 3) := by decide +kernel
theorem dX8_dropJoiners_23 : decode cX8_dropJoiners 23 = .ok (.ifCond .eq 8, 3) := by decide +kernel
theorem dX8_dropJoiners_26 : decode cX8_dropJoiners 26 = .ok (.aload_n 0, 1) := by decide +kernel
theorem dX8_dropJoiners_27 : decode cX8_dropJoiners 27 = .ok (.iload_n 1, 1) := by decide +kernel
theorem dX8_dropJoiners_28 : decode cX8_dropJoiners 28 = .ok (.invokevirtual 51, 3) := by decide +kernel
theorem dX8_dropJoiners_31 : decode cX8_dropJoiners 31 = .ok (.iinc 1 (-1), 3) := by decide +kernel
theorem dX8_dropJoiners_34 : decode cX8_dropJoiners 34 = .ok (.goto (-27), 3) := by decide +kernel
theorem dX8_dropJoiners_37 : decode cX8_dropJoiners 37 = .ok (.return_, 1) := by decide +kernel
theorem dX9_init_0 : decode cX9_init 0 = .ok (.aload_n 0, 1) := by decide +kernel
theorem dX9_init_1 : decode cX9_init 1 = .ok (.invokespecial 3, 3) := by decide +kernel
theorem dX9_init_4 : decode cX9_init 4 = .ok (.aload_n 0, 1) := by decide +kernel
theorem dX9_init_5 : decode cX9_init 5 = .ok (.bipush 16, 2) := by decide +kernel
theorem dX9_init_7 : decode cX9_init 7 = .ok (.newarray .int, 2) := by decide +kernel
theorem dX9_init_9 : decode cX9_init 9 = .ok (.putfield 9, 3) := by decide +kernel
theorem dX9_init_12 : decode cX9_init 12 = .ok (.aload_n 0, 1) := by decide +kernel
theorem dX9_init_13 : decode cX9_init 13 = .ok (.bipush 16, 2) := by decide +kernel
theorem dX9_init_15 : decode cX9_init 15 = .ok (.newarray .int, 2) := by decide +kernel
theorem dX9_init_17 : decode cX9_init 17 = .ok (.putfield 15, 3) := by decide +kernel
theorem dX9_init_20 : decode cX9_init 20 = .ok (.aload_n 0, 1) := by decide +kernel
theorem dX9_init_21 : decode cX9_init 21 = .ok (.bipush 16, 2) := by decide +kernel
theorem dX9_init_23 : decode cX9_init 23 = .ok (.newarray .boolean, 2) := by decide +kernel
theorem dX9_init_25 : decode cX9_init 25 = .ok (.putfield 18, 3) := by decide +kernel
theorem dX9_init_28 : decode cX9_init 28 = .ok (.aload_n 0, 1) := by decide +kernel
theorem dX9_init_29 : decode cX9_init 29 = .ok (.bipush 16, 2) := by decide +kernel
theorem dX9_init_31 : decode cX9_init 31 = .ok (.newarray .int, 2) := by decide +kernel
theorem dX9_init_33 : decode cX9_init 33 = .ok (.putfield 22, 3) := by decide +kernel
theorem dX9_init_36 : decode cX9_init 36 = .ok (.aload_n 0, 1) := by decide +kernel
theorem dX9_init_37 : decode cX9_init 37 = .ok (.bipush 16, 2) := by decide +kernel
theorem dX9_init_39 : decode cX9_init 39 = .ok (.newarray .int, 2) := by decide +kernel
theorem dX9_init_41 : decode cX9_init 41 = .ok (.putfield 25, 3) := by decide +kernel
theorem dX9_init_44 : decode cX9_init 44 = .ok (.aload_n 0, 1) := by decide +kernel
theorem dX9_init_45 : decode cX9_init 45 = .ok (.bipush 16, 2) := by decide +kernel
theorem dX9_init_47 : decode cX9_init 47 = .ok (.newarray .int, 2) := by decide +kernel
theorem dX9_init_49 : decode cX9_init 49 = .ok (.putfield 28, 3) := by decide +kernel
theorem dX9_init_52 : decode cX9_init 52 = .ok (.aload_n 0, 1) := by decide +kernel
theorem dX9_init_53 : decode cX9_init 53 = .ok (.bipush 16, 2) := by decide +kernel
theorem dX9_init_55 : decode cX9_init 55 = .ok (.newarray .int, 2) := by decide +kernel
theorem dX9_init_57 : decode cX9_init 57 = .ok (.putfield 31, 3) := by decide +kernel
theorem dX9_init_60 : decode cX9_init 60 = .ok (.aload_n 0, 1) := by decide +kernel
theorem dX9_init_61 : decode cX9_init 61 = .ok (.bipush 16, 2) := by decide +kernel
theorem dX9_init_63 : decode cX9_init 63 = .ok (.newarray .int, 2) := by decide +kernel
theorem dX9_init_65 : decode cX9_init 65 = .ok (.putfield 34, 3) := by decide +kernel
theorem dX9_init_68 : decode cX9_init 68 = .ok (.aload_n 0, 1) := by decide +kernel
theorem dX9_init_69 : decode cX9_init 69 = .ok (.bipush 16, 2) := by decide +kernel
theorem dX9_init_71 : decode cX9_init 71 = .ok (.newarray .int, 2) := by decide +kernel
theorem dX9_init_73 : decode cX9_init 73 = .ok (.putfield 37, 3) := by decide +kernel
theorem dX9_init_76 : decode cX9_init 76 = .ok (.aload_n 0, 1) := by decide +kernel
theorem dX9_init_77 : decode cX9_init 77 = .ok (.bipush 16, 2) := by decide +kernel
theorem dX9_init_79 : decode cX9_init 79 = .ok (.newarray .int, 2) := by decide +kernel
theorem dX9_init_81 : decode cX9_init 81 = .ok (.putfield 40, 3) := by decide +kernel
theorem dX9_init_84 : decode cX9_init 84 = .ok (.aload_n 0, 1) := by decide +kernel
theorem dX9_init_85 : decode cX9_init 85 = .ok (.iconst 0, 1) := by decide +kernel
theorem dX9_init_86 : decode cX9_init 86 = .ok (.putfield 43, 3) := by decide +kernel
theorem dX9_init_89 : decode cX9_init 89 = .ok (.return_, 1) := by decide +kernel
theorem dX9_part_0 : decode cX9_part 0 = .ok (.aload_n 1, 1) := by decide +kernel
theorem dX9_part_1 : decode cX9_part 1 = .ok (.iload_n 2, 1) := by decide +kernel
theorem dX9_part_2 : decode cX9_part 2 = .ok (.iload_n 3, 1) := by decide +kernel
theorem dX9_part_3 : decode cX9_part 3 = .ok (.invokestatic 47, 3) := by decide +kernel
theorem dX9_part_6 : decode cX9_part 6 = .ok (.istore 4, 2) := by decide +kernel
theorem dX9_part_8 : decode cX9_part 8 = .ok (.iload_n 2, 1) := by decide +kernel
theorem dX9_part_9 : decode cX9_part 9 = .ok (.istore 5, 2) := by decide +kernel
theorem dX9_part_11 : decode cX9_part 11 = .ok (.iload 5, 2) := by decide +kernel
theorem dX9_part_13 : decode cX9_part 13 = .ok (.iload_n 3, 1) := by decide +kernel
theorem dX9_part_14 : decode cX9_part 14 = .ok (.if_icmp .ge 151, 3) := by decide +kernel
theorem dX9_part_17 : decode cX9_part 17 = .ok (.iload 5, 2) := by decide +kernel
theorem dX9_part_19 : decode cX9_part 19 = .ok (.bipush 16, 2) := by decide +kernel
theorem dX9_part_21 : decode cX9_part 21 = .ok (.if_icmp .ge 144, 3) := by decide +kernel
theorem dX9_part_24 : decode cX9_part 24 = .ok (.aload_n 1, 1) := by decide +kernel
theorem dX9_part_25 : decode cX9_part 25 = .ok (.getfield 51, 3) := by decide +kernel
theorem dX9_part_28 : decode cX9_part 28 = .ok (.iload 5, 2) := by decide +kernel
theorem dX9_part_30 : decode cX9_part 30 = .ok (.iaload, 1) := by decide +kernel
theorem dX9_part_31 : decode cX9_part 31 = .ok (.istore 6, 2) := by decide +kernel
theorem dX9_part_33 : decode cX9_part 33 = .ok (.iload 6, 2) := by decide +kernel
theorem dX9_part_35 : decode cX9_part 35 = .ok (.bipush 9, 2) := by decide +kernel
theorem dX9_part_37 : decode cX9_part 37 = .ok (.if_icmp .le 17, 3) := by decide +kernel
theorem dX9_part_40 : decode cX9_part 40 = .ok (.iload 6, 2) := by decide +kernel
theorem dX9_part_42 : decode cX9_part 42 = .ok (.bipush 30, 2) := by decide +kernel
theorem dX9_part_44 : decode cX9_part 44 = .ok (.if_icmp .lt 7, 3) := by decide +kernel
theorem dX9_part_47 : decode cX9_part 47 = .ok (.iconst 1, 1) := by decide +kernel
theorem dX9_part_48 : decode cX9_part 48 = .ok (.goto 4, 3) := by decide +kernel
theorem dX9_part_51 : decode cX9_part 51 = .ok (.iconst 0, 1) := by decide +kernel
theorem dX9_part_52 : decode cX9_part 52 = .ok (.istore 4, 2) := by decide +kernel
theorem dX9_part_54 : decode cX9_part 54 = .ok (.iload 6, 2) := by decide +kernel
theorem dX9_part_56 : decode cX9_part 56 = .ok (.bipush 45, 2) := by decide +kernel
theorem dX9_part_58 : decode cX9_part 58 = .ok (.if_icmp .ge 17, 3) := by decide +kernel
theorem dX9_part_61 : decode cX9_part 61 = .ok (.aload_n 1, 1) := by decide +kernel
theorem dX9_part_62 : decode cX9_part 62 = .ok (.getfield 56, 3) := by decide +kernel
theorem dX9_part_65 : decode cX9_part 65 = .ok (.iload 6, 2) := by decide +kernel
theorem dX9_part_67 : decode cX9_part 67 = .ok (.baload, 1) := by decide +kernel
theorem dX9_part_68 : decode cX9_part 68 = .ok (.ifCond .eq 7, 3) := by decide +kernel
theorem dX9_part_71 : decode cX9_part 71 = .ok (.iconst 1, 1) := by decide +kernel
theorem dX9_part_72 : decode cX9_part 72 = .ok (.goto 4, 3) := by decide +kernel
theorem dX9_part_75 : decode cX9_part 75 = .ok (.iconst 0, 1) := by decide +kernel
theorem dX9_part_76 : decode cX9_part 76 = .ok (.istore 7, 2) := by decide +kernel
theorem dX9_part_78 : decode cX9_part 78 = .ok (.aload_n 0, 1) := by decide +kernel
theorem dX9_part_79 : decode cX9_part 79 = .ok (.getfield 43, 3) := by decide +kernel
theorem dX9_part_82 : decode cX9_part 82 = .ok (.iconst 1, 1) := by decide +kernel
theorem dX9_part_83 : decode cX9_part 83 = .ok (.isub, 1) := by decide +kernel
theorem dX9_part_84 : decode cX9_part 84 = .ok (.istore 8, 2) := by decide +kernel
theorem dX9_part_86 : decode cX9_part 86 = .ok (.iload 5, 2) := by decide +kernel
theorem dX9_part_88 : decode cX9_part 88 = .ok (.iload_n 2, 1) := by decide +kernel
theorem dX9_part_89 : decode cX9_part 89 = .ok (.if_icmp .eq 32, 3) := by decide +kernel
theorem dX9_part_92 : decode cX9_part 92 = .ok (.iload 8, 2) := by decide +kernel
theorem dX9_part_94 : decode cX9_part 94 = .ok (.ifCond .lt 27, 3) := by decide +kernel
theorem dX9_part_97 : decode cX9_part 97 = .ok (.aload_n 0, 1) := by decide +kernel
theorem dX9_part_98 : decode cX9_part 98 = .ok (.getfield 18, 3) := by decide +kernel
theorem dX9_part_101 : decode cX9_part 101 = .ok (.iload 8, 2) := by decide +kernel
theorem dX9_part_103 : decode cX9_part 103 = .ok (.baload, 1) := by decide +kernel
theorem dX9_part_104 : decode cX9_part 104 = .ok (.iload 4, 2) := by decide +kernel
theorem dX9_part_106 : decode cX9_part 106 = .ok (.if_icmp .ne 15, 3) := by decide +kernel
theorem dX9_part_109 : decode cX9_part 109 = .ok (.aload_n 0, 1) := by decide +kernel
theorem dX9_part_110 : decode cX9_part 110 = .ok (.getfield 22, 3) := by decide +kernel
theorem dX9_part_113 : decode cX9_part 113 = .ok (.iload 8, 2) := by decide +kernel
theorem dX9_part_115 : decode cX9_part 115 = .ok (.iaload, 1) := by decide +kernel
theorem dX9_part_116 : decode cX9_part 116 = .ok (.iload 7, 2) := by decide +kernel
theorem dX9_part_118 : decode cX9_part 118 = .ok (.if_icmp .eq 13, 3) := by decide +kernel
theorem dX9_part_121 : decode cX9_part 121 = .ok (.aload_n 0, 1) := by decide +kernel
theorem dX9_part_122 : decode cX9_part 122 = .ok (.iload 5, 2) := by decide +kernel
theorem dX9_part_124 : decode cX9_part 124 = .ok (.iload 4, 2) := by decide +kernel
theorem dX9_part_126 : decode cX9_part 126 = .ok (.iload 7, 2) := by decide +kernel
theorem dX9_part_128 : decode cX9_part 128 = .ok (.invokevirtual 59, 3) := by decide +kernel
theorem dX9_part_131 : decode cX9_part 131 = .ok (.aload_n 0, 1) := by decide +kernel
theorem dX9_part_132 : decode cX9_part 132 = .ok (.getfield 9, 3) := by decide +kernel
theorem dX9_part_135 : decode cX9_part 135 = .ok (.iload 5, 2) := by decide +kernel
theorem dX9_part_137 : decode cX9_part 137 = .ok (.aload_n 0, 1) := by decide +kernel
theorem dX9_part_138 : decode cX9_part 138 = .ok (.getfield 43, 3) := by decide +kernel
theorem dX9_part_141 : decode cX9_part 141 = .ok (.iconst 1, 1) := by decide +kernel
theorem dX9_part_142 : decode cX9_part 142 = .ok (.isub, 1) := by decide +kernel
theorem dX9_part_143 : decode cX9_part 143 = .ok (.iastore, 1) := by decide +kernel
theorem dX9_part_144 : decode cX9_part 144 = .ok (.aload_n 0, 1) := by decide +kernel
theorem dX9_part_145 : decode cX9_part 145 = .ok (.getfield 28, 3) := by decide +kernel
theorem dX9_part_148 : decode cX9_part 148 = .ok (.aload_n 0, 1) := by decide +kernel
theorem dX9_part_149 : decode cX9_part 149 = .ok (.getfield 43, 3) := by decide +kernel
theorem dX9_part_152 : decode cX9_part 152 = .ok (.iconst 1, 1) := by decide +kernel
theorem dX9_part_153 : decode cX9_part 153 = .ok (.isub, 1) := by decide +kernel
theorem dX9_part_154 : decode cX9_part 154 = .ok (.iload 5, 2) := by decide +kernel
theorem dX9_part_156 : decode cX9_part 156 = .ok (.iconst 1, 1) := by decide +kernel
theorem dX9_part_157 : decode cX9_part 157 = .ok (.iadd, 1) := by decide +kernel
theorem dX9_part_158 : decode cX9_part 158 = .ok (.iastore, 1) := by decide +kernel
theorem dX9_part_159 : decode cX9_part 159 = .ok (.iinc 5 1, 3) := by decide +kernel
theorem dX9_part_162 : decode cX9_part 162 = .ok (.goto (-151), 3) := by decide +kernel
theorem dX9_part_165 : decode cX9_part 165 = .ok (.iload_n 2, 1) := by decide +kernel
theorem dX9_part_166 : decode cX9_part 166 = .ok (.istore 5, 2) := by decide +kernel
theorem dX9_part_168 : decode cX9_part 168 = .ok (.iload 5, 2) := by decide +kernel
theorem dX9_part_170 : decode cX9_part 170 = .ok (.iload_n 3, 1) := by decide +kernel
theorem dX9_part_171 : decode cX9_part 171 = .ok (.if_icmp .ge 30, 3) := by decide +kernel
theorem dX9_part_174 : decode cX9_part 174 = .ok (.iload 5, 2) := by decide +kernel
theorem dX9_part_176 : decode cX9_part 176 = .ok (.bipush 16, 2) := by decide +kernel
theorem dX9_part_178 : decode cX9_part 178 = .ok (.if_icmp .ge 23, 3) := by decide +kernel
theorem dX9_part_181 : decode cX9_part 181 = .ok (.aload_n 0, 1) := by decide +kernel
theorem dX9_part_182 : decode cX9_part 182 = .ok (.getfield 15, 3) := by decide +kernel
theorem dX9_part_185 : decode cX9_part 185 = .ok (.iload 5, 2) := by decide +kernel
theorem dX9_part_187 : decode cX9_part 187 = .ok (.aload_n 0, 1) := by decide +kernel
theorem dX9_part_188 : decode cX9_part 188 = .ok (.aload_n 1, 1) := by decide +kernel
theorem dX9_part_189 : decode cX9_part 189 = .ok (.iload 5, 2) := by decide +kernel
theorem dX9_part_191 : decode cX9_part 191 = .ok (.invokevirtual 63, 3) := by decide +kernel
theorem dX9_part_194 : decode cX9_part 194 = .ok (.iastore, 1) := by decide +kernel
theorem dX9_part_195 : decode cX9_part 195 = .ok (.iinc 5 1, 3) := by decide +kernel
theorem dX9_part_198 : decode cX9_part 198 = .ok (.goto (-30), 3) := by decide +kernel
theorem dX9_part_201 : decode cX9_part 201 = .ok (.return_, 1) := by decide +kernel
theorem dX9_beginsWithS_0 : decode cX9_beginsWithS 0 = .ok (.iload_n 1, 1) := by decide +kernel
theorem dX9_beginsWithS_1 : decode cX9_beginsWithS 1 = .ok (.istore_n 3, 1) := by decide +kernel
theorem dX9_beginsWithS_2 : decode cX9_beginsWithS 2 = .ok (.iload_n 3, 1) := by decide +kernel
theorem dX9_beginsWithS_3 : decode cX9_beginsWithS 3 = .ok (.iload_n 2, 1) := by decide +kernel
theorem dX9_beginsWithS_4 : decode cX9_beginsWithS 4 = .ok (.if_icmp .ge 43, 3) := by decide +kernel
theorem dX9_beginsWithS_7 : decode cX9_beginsWithS 7 = .ok (.iload_n 3, 1) := by decide +kernel
theorem dX9_beginsWithS_8 : decode cX9_beginsWithS 8 = .ok (.bipush 16, 2) := by decide +kernel
theorem dX9_beginsWithS_10 : decode cX9_beginsWithS 10 = .ok (.if_icmp .ge 37, 3) := by decide +kernel
theorem dX9_beginsWithS_13 : decode cX9_beginsWithS 13 = .ok (.aload_n 0, 1) := by decide +kernel
theorem dX9_beginsWithS_14 : decode cX9_beginsWithS 14 = .ok (.getfield 51, 3) := by decide +kernel
theorem dX9_beginsWithS_17 : decode cX9_beginsWithS 17 = .ok (.iload_n 3, 1) := by decide +kernel
theorem dX9_beginsWithS_18 : decode cX9_beginsWithS 18 = .ok (.iaload, 1) := by decide +kernel
theorem dX9_beginsWithS_19 : decode cX9_beginsWithS 19 = .ok (.bipush 9, 2) := by decide +kernel
theorem dX9_beginsWithS_21 : decode cX9_beginsWithS 21 = .ok (.if_icmp .le 20, 3) := by decide +kernel
theorem dX9_beginsWithS_24 : decode cX9_beginsWithS 24 = .ok (.aload_n 0, 1) := by decide +kernel
theorem dX9_beginsWithS_25 : decode cX9_beginsWithS 25 = .ok (.getfield 51, 3) := by decide +kernel
theorem dX9_beginsWithS_28 : decode cX9_beginsWithS 28 = .ok (.iload_n 3, 1) := by decide +kernel
theorem dX9_beginsWithS_29 : decode cX9_beginsWithS 29 = .ok (.iaload, 1) := by decide +kernel
theorem dX9_beginsWithS_30 : decode cX9_beginsWithS 30 = .ok (.bipush 30, 2) := by decide +kernel
theorem dX9_beginsWithS_32 : decode cX9_beginsWithS 32 = .ok (.if_icmp .lt 7, 3) := by decide +kernel
theorem dX9_beginsWithS_35 : decode cX9_beginsWithS 35 = .ok (.iconst 1, 1) := by decide +kernel
theorem dX9_beginsWithS_36 : decode cX9_beginsWithS 36 = .ok (.goto 4, 3) := by decide +kernel
theorem dX9_beginsWithS_39 : decode cX9_beginsWithS 39 = .ok (.iconst 0, 1) := by decide +kernel
theorem dX9_beginsWithS_40 : decode cX9_beginsWithS 40 = .ok (.ireturn, 1) := by decide +kernel
theorem dX9_beginsWithS_41 : decode cX9_beginsWithS 41 = .ok (.iinc 3 1, 3) := by decide +kernel
theorem dX9_beginsWithS_44 : decode cX9_beginsWithS 44 = .ok (.goto (-42), 3) := by decide +kernel
theorem dX9_beginsWithS_47 : decode cX9_beginsWithS 47 = .ok (.iconst 0, 1) := by decide +kernel
theorem dX9_beginsWithS_48 : decode cX9_beginsWithS 48 = .ok (.ireturn, 1) := by decide +kernel
theorem dX9_open_0 : decode cX9_open 0 = .ok (.aload_n 0, 1) := by decide +kernel
theorem dX9_open_1 : decode cX9_open 1 = .ok (.getfield 43, 3) := by decide +kernel
theorem dX9_open_4 : decode cX9_open 4 = .ok (.bipush 16, 2) := by decide +kernel
theorem dX9_open_6 : decode cX9_open 6 = .ok (.if_icmp .lt 4, 3) := by decide +kernel
theorem dX9_open_9 : decode cX9_open 9 = .ok (.return_, 1) := by decide +kernel
theorem dX9_open_10 : decode cX9_open 10 = .ok (.aload_n 0, 1) := by decide +kernel
theorem dX9_open_11 : decode cX9_open 11 = .ok (.getfield 25, 3) := by decide +kernel
theorem dX9_open_14 : decode cX9_open 14 = .ok (.aload_n 0, 1) := by decide +kernel
theorem dX9_open_15 : decode cX9_open 15 = .ok (.getfield 43, 3) := by decide +kernel
theorem dX9_open_18 : decode cX9_open 18 = .ok (.iload_n 1, 1) := by decide +kernel
theorem dX9_open_19 : decode cX9_open 19 = .ok (.iastore, 1) := by decide +kernel
theorem dX9_open_20 : decode cX9_open 20 = .ok (.aload_n 0, 1) := by decide +kernel
theorem dX9_open_21 : decode cX9_open 21 = .ok (.getfield 18, 3) := by decide +kernel
theorem dX9_open_24 : decode cX9_open 24 = .ok (.aload_n 0, 1) := by decide +kernel
theorem dX9_open_25 : decode cX9_open 25 = .ok (.getfield 43, 3) := by decide +kernel
theorem dX9_open_28 : decode cX9_open 28 = .ok (.iload_n 2, 1) := by decide +kernel
theorem dX9_open_29 : decode cX9_open 29 = .ok (.bastore, 1) := by decide +kernel
theorem dX9_open_30 : decode cX9_open 30 = .ok (.aload_n 0, 1) := by decide +kernel
theorem dX9_open_31 : decode cX9_open 31 = .ok (.getfield 22, 3) := by decide +kernel
theorem dX9_open_34 : decode cX9_open 34 = .ok (.aload_n 0, 1) := by decide +kernel
theorem dX9_open_35 : decode cX9_open 35 = .ok (.getfield 43, 3) := by decide +kernel
theorem dX9_open_38 : decode cX9_open 38 = .ok (.iload_n 3, 1) := by decide +kernel
theorem dX9_open_39 : decode cX9_open 39 = .ok (.iastore, 1) := by decide +kernel
theorem dX9_open_40 : decode cX9_open 40 = .ok (.aload_n 0, 1) := by decide +kernel
theorem dX9_open_41 : decode cX9_open 41 = .ok (.dup, 1) := by decide +kernel
theorem dX9_open_42 : decode cX9_open 42 = .ok (.getfield 43, 3) := by decide +kernel
theorem dX9_open_45 : decode cX9_open 45 = .ok (.iconst 1, 1) := by decide +kernel
theorem dX9_open_46 : decode cX9_open 46 = .ok (.iadd, 1) := by decide +kernel
theorem dX9_open_47 : decode cX9_open 47 = .ok (.putfield 43, 3) := by decide +kernel
theorem dX9_open_50 : decode cX9_open 50 = .ok (.return_, 1) := by decide +kernel
theorem dX9_formOf_0 : decode cX9_formOf 0 = .ok (.aload_n 1, 1) := by decide +kernel
theorem dX9_formOf_1 : decode cX9_formOf 1 = .ok (.getfield 51, 3) := by decide +kernel
theorem dX9_formOf_4 : decode cX9_formOf 4 = .ok (.iload_n 2, 1) := by decide +kernel
theorem dX9_formOf_5 : decode cX9_formOf 5 = .ok (.iaload, 1) := by decide +kernel
theorem dX9_formOf_6 : decode cX9_formOf 6 = .ok (.istore_n 3, 1) := by decide +kernel
theorem dX9_formOf_7 : decode cX9_formOf 7 = .ok (.iload_n 3, 1) := by decide +kernel
theorem dX9_formOf_8 : decode cX9_formOf 8 = .ok (.bipush 10, 2) := by decide +kernel
theorem dX9_formOf_10 : decode cX9_formOf 10 = .ok (.if_icmp .lt 9, 3) := by decide +kernel
theorem dX9_formOf_13 : decode cX9_formOf 13 = .ok (.iload_n 3, 1) := by decide +kernel
theorem dX9_formOf_14 : decode cX9_formOf 14 = .ok (.bipush 20, 2) := by decide +kernel
theorem dX9_formOf_16 : decode cX9_formOf 16 = .ok (.if_icmp .le 6, 3) := by decide +kernel
theorem dX9_formOf_19 : decode cX9_formOf 19 = .ok (.bipush (-100), 2) := by decide +kernel
theorem dX9_formOf_21 : decode cX9_formOf 21 = .ok (.ireturn, 1) := by decide +kernel
theorem dX9_formOf_22 : decode cX9_formOf 22 = .ok (.iload_n 3, 1) := by decide +kernel
theorem dX9_formOf_23 : decode cX9_formOf 23 = .ok (.bipush 19, 2) := by decide +kernel
theorem dX9_formOf_25 : decode cX9_formOf 25 = .ok (.if_icmp .eq 16, 3) := by decide +kernel
theorem dX9_formOf_28 : decode cX9_formOf 28 = .ok (.aload_n 0, 1) := by decide +kernel
theorem dX9_formOf_29 : decode cX9_formOf 29 = .ok (.aload_n 1, 1) := by decide +kernel
theorem dX9_formOf_30 : decode cX9_formOf 30 = .ok (.iload_n 2, 1) := by decide +kernel
theorem dX9_formOf_31 : decode cX9_formOf 31 = .ok (.invokevirtual 67, 3) := by decide +kernel
theorem dX9_formOf_34 : decode cX9_formOf 34 = .ok (.ifCond .eq 7, 3) := by decide +kernel
theorem dX9_formOf_37 : decode cX9_formOf 37 = .ok (.iconst 1, 1) := by decide +kernel
theorem dX9_formOf_38 : decode cX9_formOf 38 = .ok (.goto 4, 3) := by decide +kernel
