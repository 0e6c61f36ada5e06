theorem dX12_areSame_30 : decode cX12_areSame 30 = .ok (.iaload, 1) := by decide +kernel
theorem dX12_areSame_31 : decode cX12_areSame 31 = .ok (.aload_n 0, 1) := by decide +kernel
theorem dX12_areSame_32 : decode cX12_areSame 32 = .ok (.getfield 135, 3) := by decide +kernel
theorem dX12_areSame_35 : decode cX12_areSame 35 = .ok (.iload_n 3, 1) := by decide +kernel
theorem dX12_areSame_36 : decode cX12_areSame 36 = .ok (.iaload, 1) := by decide +kernel
theorem dX12_areSame_37 : decode cX12_areSame 37 = .ok (.if_icmp .ne 52, 3) := by decide +kernel
theorem dX12_areSame_40 : decode cX12_areSame 40 = .ok (.aload_n 0, 1) := by decide +kernel
theorem dX12_areSame_41 : decode cX12_areSame 41 = .ok (.getfield 105, 3) := by decide +kernel
theorem dX12_areSame_44 : decode cX12_areSame 44 = .ok (.iload_n 3, 1) := by decide +kernel
theorem dX12_areSame_45 : decode cX12_areSame 45 = .ok (.iaload, 1) := by decide +kernel
theorem dX12_areSame_46 : decode cX12_areSame 46 = .ok (.aload_n 0, 1) := by decide +kernel
theorem dX12_areSame_47 : decode cX12_areSame 47 = .ok (.getfield 138, 3) := by decide +kernel
theorem dX12_areSame_50 : decode cX12_areSame 50 = .ok (.iload_n 3, 1) := by decide +kernel
theorem dX12_areSame_51 : decode cX12_areSame 51 = .ok (.iaload, 1) := by decide +kernel
theorem dX12_areSame_52 : decode cX12_areSame 52 = .ok (.if_icmp .ne 37, 3) := by decide +kernel
theorem dX12_areSame_55 : decode cX12_areSame 55 = .ok (.aload_n 0, 1) := by decide +kernel
theorem dX12_areSame_56 : decode cX12_areSame 56 = .ok (.getfield 108, 3) := by decide +kernel
theorem dX12_areSame_59 : decode cX12_areSame 59 = .ok (.iload_n 3, 1) := by decide +kernel
theorem dX12_areSame_60 : decode cX12_areSame 60 = .ok (.iaload, 1) := by decide +kernel
theorem dX12_areSame_61 : decode cX12_areSame 61 = .ok (.aload_n 0, 1) := by decide +kernel
theorem dX12_areSame_62 : decode cX12_areSame 62 = .ok (.getfield 141, 3) := by decide +kernel
theorem dX12_areSame_65 : decode cX12_areSame 65 = .ok (.iload_n 3, 1) := by decide +kernel
theorem dX12_areSame_66 : decode cX12_areSame 66 = .ok (.iaload, 1) := by decide +kernel
theorem dX12_areSame_67 : decode cX12_areSame 67 = .ok (.if_icmp .ne 22, 3) := by decide +kernel
theorem dX12_areSame_70 : decode cX12_areSame 70 = .ok (.aload_n 0, 1) := by decide +kernel
theorem dX12_areSame_71 : decode cX12_areSame 71 = .ok (.getfield 111, 3) := by decide +kernel
theorem dX12_areSame_74 : decode cX12_areSame 74 = .ok (.iload_n 3, 1) := by decide +kernel
theorem dX12_areSame_75 : decode cX12_areSame 75 = .ok (.iaload, 1) := by decide +kernel
theorem dX12_areSame_76 : decode cX12_areSame 76 = .ok (.aload_n 0, 1) := by decide +kernel
theorem dX12_areSame_77 : decode cX12_areSame 77 = .ok (.getfield 144, 3) := by decide +kernel
theorem dX12_areSame_80 : decode cX12_areSame 80 = .ok (.iload_n 3, 1) := by decide +kernel
theorem dX12_areSame_81 : decode cX12_areSame 81 = .ok (.iaload, 1) := by decide +kernel
theorem dX12_areSame_82 : decode cX12_areSame 82 = .ok (.if_icmp .ne 7, 3) := by decide +kernel
theorem dX12_areSame_85 : decode cX12_areSame 85 = .ok (.iconst 1, 1) := by decide +kernel
theorem dX12_areSame_86 : decode cX12_areSame 86 = .ok (.goto 4, 3) := by decide +kernel
theorem dX12_areSame_89 : decode cX12_areSame 89 = .ok (.iconst 0, 1) := by decide +kernel
theorem dX12_areSame_90 : decode cX12_areSame 90 = .ok (.istore_n 2, 1) := by decide +kernel
theorem dX12_areSame_91 : decode cX12_areSame 91 = .ok (.iload_n 2, 1) := by decide +kernel
theorem dX12_areSame_92 : decode cX12_areSame 92 = .ok (.ifCond .eq 52, 3) := by decide +kernel
theorem dX12_areSame_95 : decode cX12_areSame 95 = .ok (.aload_n 0, 1) := by decide +kernel
theorem dX12_areSame_96 : decode cX12_areSame 96 = .ok (.getfield 117, 3) := by decide +kernel
theorem dX12_areSame_99 : decode cX12_areSame 99 = .ok (.iload_n 3, 1) := by decide +kernel
theorem dX12_areSame_100 : decode cX12_areSame 100 = .ok (.iaload, 1) := by decide +kernel
theorem dX12_areSame_101 : decode cX12_areSame 101 = .ok (.aload_n 0, 1) := by decide +kernel
theorem dX12_areSame_102 : decode cX12_areSame 102 = .ok (.getfield 147, 3) := by decide +kernel
theorem dX12_areSame_105 : decode cX12_areSame 105 = .ok (.iload_n 3, 1) := by decide +kernel
theorem dX12_areSame_106 : decode cX12_areSame 106 = .ok (.iaload, 1) := by decide +kernel
theorem dX12_areSame_107 : decode cX12_areSame 107 = .ok (.if_icmp .ne 37, 3) := by decide +kernel
theorem dX12_areSame_110 : decode cX12_areSame 110 = .ok (.aload_n 0, 1) := by decide +kernel
theorem dX12_areSame_111 : decode cX12_areSame 111 = .ok (.getfield 120, 3) := by decide +kernel
theorem dX12_areSame_114 : decode cX12_areSame 114 = .ok (.iload_n 3, 1) := by decide +kernel
theorem dX12_areSame_115 : decode cX12_areSame 115 = .ok (.iaload, 1) := by decide +kernel
theorem dX12_areSame_116 : decode cX12_areSame 116 = .ok (.aload_n 0, 1) := by decide +kernel
theorem dX12_areSame_117 : decode cX12_areSame 117 = .ok (.getfield 150, 3) := by decide +kernel
theorem dX12_areSame_120 : decode cX12_areSame 120 = .ok (.iload_n 3, 1) := by decide +kernel
theorem dX12_areSame_121 : decode cX12_areSame 121 = .ok (.iaload, 1) := by decide +kernel
theorem dX12_areSame_122 : decode cX12_areSame 122 = .ok (.if_icmp .ne 22, 3) := by decide +kernel
theorem dX12_areSame_125 : decode cX12_areSame 125 = .ok (.aload_n 0, 1) := by decide +kernel
theorem dX12_areSame_126 : decode cX12_areSame 126 = .ok (.getfield 123, 3) := by decide +kernel
theorem dX12_areSame_129 : decode cX12_areSame 129 = .ok (.iload_n 3, 1) := by decide +kernel
theorem dX12_areSame_130 : decode cX12_areSame 130 = .ok (.iaload, 1) := by decide +kernel
theorem dX12_areSame_131 : decode cX12_areSame 131 = .ok (.aload_n 0, 1) := by decide +kernel
theorem dX12_areSame_132 : decode cX12_areSame 132 = .ok (.getfield 153, 3) := by decide +kernel
theorem dX12_areSame_135 : decode cX12_areSame 135 = .ok (.iload_n 3, 1) := by decide +kernel
theorem dX12_areSame_136 : decode cX12_areSame 136 = .ok (.iaload, 1) := by decide +kernel
theorem dX12_areSame_137 : decode cX12_areSame 137 = .ok (.if_icmp .ne 7, 3) := by decide +kernel
theorem dX12_areSame_140 : decode cX12_areSame 140 = .ok (.iconst 1, 1) := by decide +kernel
theorem dX12_areSame_141 : decode cX12_areSame 141 = .ok (.goto 4, 3) := by decide +kernel
theorem dX12_areSame_144 : decode cX12_areSame 144 = .ok (.iconst 0, 1) := by decide +kernel
theorem dX12_areSame_145 : decode cX12_areSame 145 = .ok (.istore_n 2, 1) := by decide +kernel
theorem dX12_areSame_146 : decode cX12_areSame 146 = .ok (.iinc 3 1, 3) := by decide +kernel
theorem dX12_areSame_149 : decode cX12_areSame 149 = .ok (.goto (-133), 3) := by decide +kernel
theorem dX12_areSame_152 : decode cX12_areSame 152 = .ok (.iload_n 2, 1) := by decide +kernel
theorem dX12_areSame_153 : decode cX12_areSame 153 = .ok (.ireturn, 1) := by decide +kernel
theorem dX12_isSafe_0 : decode cX12_isSafe 0 = .ok (.aload_n 0, 1) := by decide +kernel
theorem dX12_isSafe_1 : decode cX12_isSafe 1 = .ok (.iload_n 1, 1) := by decide +kernel
theorem dX12_isSafe_2 : decode cX12_isSafe 2 = .ok (.iconst 1, 1) := by decide +kernel
theorem dX12_isSafe_3 : decode cX12_isSafe 3 = .ok (.aload_n 0, 1) := by decide +kernel
theorem dX12_isSafe_4 : decode cX12_isSafe 4 = .ok (.getfield 219, 3) := by decide +kernel
theorem dX12_isSafe_7 : decode cX12_isSafe 7 = .ok (.iconst 1, 1) := by decide +kernel
theorem dX12_isSafe_8 : decode cX12_isSafe 8 = .ok (.isub, 1) := by decide +kernel
theorem dX12_isSafe_9 : decode cX12_isSafe 9 = .ok (.invokestatic 162, 3) := by decide +kernel
theorem dX12_isSafe_12 : decode cX12_isSafe 12 = .ok (.ifCond .eq 7, 3) := by decide +kernel
theorem dX12_isSafe_15 : decode cX12_isSafe 15 = .ok (.iconst 0, 1) := by decide +kernel
theorem dX12_isSafe_16 : decode cX12_isSafe 16 = .ok (.goto 4, 3) := by decide +kernel
theorem dX12_isSafe_19 : decode cX12_isSafe 19 = .ok (.iconst 1, 1) := by decide +kernel
theorem dX12_isSafe_20 : decode cX12_isSafe 20 = .ok (.putfield 166, 3) := by decide +kernel
theorem dX12_isSafe_23 : decode cX12_isSafe 23 = .ok (.aload_n 0, 1) := by decide +kernel
theorem dX12_isSafe_24 : decode cX12_isSafe 24 = .ok (.getfield 166, 3) := by decide +kernel
theorem dX12_isSafe_27 : decode cX12_isSafe 27 = .ok (.ifCond .le 5, 3) := by decide +kernel
theorem dX12_isSafe_30 : decode cX12_isSafe 30 = .ok (.iconst 0, 1) := by decide +kernel
theorem dX12_isSafe_31 : decode cX12_isSafe 31 = .ok (.ireturn, 1) := by decide +kernel
theorem dX12_isSafe_32 : decode cX12_isSafe 32 = .ok (.aload_n 0, 1) := by decide +kernel
theorem dX12_isSafe_33 : decode cX12_isSafe 33 = .ok (.invokevirtual 424, 3) := by decide +kernel
theorem dX12_isSafe_36 : decode cX12_isSafe 36 = .ok (.aload_n 0, 1) := by decide +kernel
theorem dX12_isSafe_37 : decode cX12_isSafe 37 = .ok (.getfield 406, 3) := by decide +kernel
theorem dX12_isSafe_40 : decode cX12_isSafe 40 = .ok (.istore_n 2, 1) := by decide +kernel
theorem dX12_isSafe_41 : decode cX12_isSafe 41 = .ok (.iconst 0, 1) := by decide +kernel
theorem dX12_isSafe_42 : decode cX12_isSafe 42 = .ok (.istore_n 3, 1) := by decide +kernel
theorem dX12_isSafe_43 : decode cX12_isSafe 43 = .ok (.iload_n 3, 1) := by decide +kernel
theorem dX12_isSafe_44 : decode cX12_isSafe 44 = .ok (.iload_n 2, 1) := by decide +kernel
theorem dX12_isSafe_45 : decode cX12_isSafe 45 = .ok (.if_icmp .ge 93, 3) := by decide +kernel
theorem dX12_isSafe_48 : decode cX12_isSafe 48 = .ok (.aload_n 0, 1) := by decide +kernel
theorem dX12_isSafe_49 : decode cX12_isSafe 49 = .ok (.getfield 135, 3) := by decide +kernel
theorem dX12_isSafe_52 : decode cX12_isSafe 52 = .ok (.iload_n 3, 1) := by decide +kernel
theorem dX12_isSafe_53 : decode cX12_isSafe 53 = .ok (.aload_n 0, 1) := by decide +kernel
theorem dX12_isSafe_54 : decode cX12_isSafe 54 = .ok (.getfield 102, 3) := by decide +kernel
theorem dX12_isSafe_57 : decode cX12_isSafe 57 = .ok (.iload_n 3, 1) := by decide +kernel
theorem dX12_isSafe_58 : decode cX12_isSafe 58 = .ok (.iaload, 1) := by decide +kernel
theorem dX12_isSafe_59 : decode cX12_isSafe 59 = .ok (.iastore, 1) := by decide +kernel
theorem dX12_isSafe_60 : decode cX12_isSafe 60 = .ok (.aload_n 0, 1) := by decide +kernel
theorem dX12_isSafe_61 : decode cX12_isSafe 61 = .ok (.getfield 138, 3) := by decide +kernel
theorem dX12_isSafe_64 : decode cX12_isSafe 64 = .ok (.iload_n 3, 1) := by decide +kernel
theorem dX12_isSafe_65 : decode cX12_isSafe 65 = .ok (.aload_n 0, 1) := by decide +kernel
theorem dX12_isSafe_66 : decode cX12_isSafe 66 = .ok (.getfield 105, 3) := by decide +kernel
theorem dX12_isSafe_69 : decode cX12_isSafe 69 = .ok (.iload_n 3, 1) := by decide +kernel
theorem dX12_isSafe_70 : decode cX12_isSafe 70 = .ok (.iaload, 1) := by decide +kernel
theorem dX12_isSafe_71 : decode cX12_isSafe 71 = .ok (.iastore, 1) := by decide +kernel
theorem dX12_isSafe_72 : decode cX12_isSafe 72 = .ok (.aload_n 0, 1) := by decide +kernel
theorem dX12_isSafe_73 : decode cX12_isSafe 73 = .ok (.getfield 141, 3) := by decide +kernel
theorem dX12_isSafe_76 : decode cX12_isSafe 76 = .ok (.iload_n 3, 1) := by decide +kernel
theorem dX12_isSafe_77 : decode cX12_isSafe 77 = .ok (.aload_n 0, 1) := by decide +kernel
theorem dX12_isSafe_78 : decode cX12_isSafe 78 = .ok (.getfield 108, 3) := by decide +kernel
theorem dX12_isSafe_81 : decode cX12_isSafe 81 = .ok (.iload_n 3, 1) := by decide +kernel
theorem dX12_isSafe_82 : decode cX12_isSafe 82 = .ok (.iaload, 1) := by decide +kernel
theorem dX12_isSafe_83 : decode cX12_isSafe 83 = .ok (.iastore, 1) := by decide +kernel
theorem dX12_isSafe_84 : decode cX12_isSafe 84 = .ok (.aload_n 0, 1) := by decide +kernel
theorem dX12_isSafe_85 : decode cX12_isSafe 85 = .ok (.getfield 144, 3) := by decide +kernel
theorem dX12_isSafe_88 : decode cX12_isSafe 88 = .ok (.iload_n 3, 1) := by decide +kernel
theorem dX12_isSafe_89 : decode cX12_isSafe 89 = .ok (.aload_n 0, 1) := by decide +kernel
theorem dX12_isSafe_90 : decode cX12_isSafe 90 = .ok (.getfield 111, 3) := by decide +kernel
theorem dX12_isSafe_93 : decode cX12_isSafe 93 = .ok (.iload_n 3, 1) := by decide +kernel
theorem dX12_isSafe_94 : decode cX12_isSafe 94 = .ok (.iaload, 1) := by decide +kernel
theorem dX12_isSafe_95 : decode cX12_isSafe 95 = .ok (.iastore, 1) := by decide +kernel
theorem dX12_isSafe_96 : decode cX12_isSafe 96 = .ok (.aload_n 0, 1) := by decide +kernel
theorem dX12_isSafe_97 : decode cX12_isSafe 97 = .ok (.getfield 147, 3) := by decide +kernel
theorem dX12_isSafe_100 : decode cX12_isSafe 100 = .ok (.iload_n 3, 1) := by decide +kernel
theorem dX12_isSafe_101 : decode cX12_isSafe 101 = .ok (.aload_n 0, 1) := by decide +kernel
theorem dX12_isSafe_102 : decode cX12_isSafe 102 = .ok (.getfield 117, 3) := by decide +kernel
theorem dX12_isSafe_105 : decode cX12_isSafe 105 = .ok (.iload_n 3, 1) := by decide +kernel
theorem dX12_isSafe_106 : decode cX12_isSafe 106 = .ok (.iaload, 1) := by decide +kernel
theorem dX12_isSafe_107 : decode cX12_isSafe 107 = .ok (.iastore, 1) := by decide +kernel
theorem dX12_isSafe_108 : decode cX12_isSafe 108 = .ok (.aload_n 0, 1) := by decide +kernel
theorem dX12_isSafe_109 : decode cX12_isSafe 109 = .ok (.getfield 150, 3) := by decide +kernel
theorem dX12_isSafe_112 : decode cX12_isSafe 112 = .ok (.iload_n 3, 1) := by decide +kernel
theorem dX12_isSafe_113 : decode cX12_isSafe 113 = .ok (.aload_n 0, 1) := by decide +kernel
theorem dX12_isSafe_114 : decode cX12_isSafe 114 = .ok (.getfield 120, 3) := by decide +kernel
theorem dX12_isSafe_117 : decode cX12_isSafe 117 = .ok (.iload_n 3, 1) := by decide +kernel
theorem dX12_isSafe_118 : decode cX12_isSafe 118 = .ok (.iaload, 1) := by decide +kernel
theorem dX12_isSafe_119 : decode cX12_isSafe 119 = .ok (.iastore, 1) := by decide +kernel
theorem dX12_isSafe_120 : decode cX12_isSafe 120 = .ok (.aload_n 0, 1) := by decide +kernel
theorem dX12_isSafe_121 : decode cX12_isSafe 121 = .ok (.getfield 153, 3) := by decide +kernel
theorem dX12_isSafe_124 : decode cX12_isSafe 124 = .ok (.iload_n 3, 1) := by decide +kernel
theorem dX12_isSafe_125 : decode cX12_isSafe 125 = .ok (.aload_n 0, 1) := by decide +kernel
theorem dX12_isSafe_126 : decode cX12_isSafe 126 = .ok (.getfield 123, 3) := by decide +kernel
theorem dX12_isSafe_129 : decode cX12_isSafe 129 = .ok (.iload_n 3, 1) := by decide +kernel
theorem dX12_isSafe_130 : decode cX12_isSafe 130 = .ok (.iaload, 1) := by decide +kernel
theorem dX12_isSafe_131 : decode cX12_isSafe 131 = .ok (.iastore, 1) := by decide +kernel
theorem dX12_isSafe_132 : decode cX12_isSafe 132 = .ok (.iinc 3 1, 3) := by decide +kernel
theorem dX12_isSafe_135 : decode cX12_isSafe 135 = .ok (.goto (-92), 3) := by decide +kernel
theorem dX12_isSafe_138 : decode cX12_isSafe 138 = .ok (.aload_n 0, 1) := by decide +kernel
theorem dX12_isSafe_139 : decode cX12_isSafe 139 = .ok (.iconst 0, 1) := by decide +kernel
theorem dX12_isSafe_140 : decode cX12_isSafe 140 = .ok (.putfield 406, 3) := by decide +kernel
theorem dX12_isSafe_143 : decode cX12_isSafe 143 = .ok (.aload_n 0, 1) := by decide +kernel
theorem dX12_isSafe_144 : decode cX12_isSafe 144 = .ok (.iconst 0, 1) := by decide +kernel
theorem dX12_isSafe_145 : decode cX12_isSafe 145 = .ok (.putfield 412, 3) := by decide +kernel
theorem dX12_isSafe_148 : decode cX12_isSafe 148 = .ok (.aload_n 0, 1) := by decide +kernel
theorem dX12_isSafe_149 : decode cX12_isSafe 149 = .ok (.iconst 0, 1) := by decide +kernel
theorem dX12_isSafe_150 : decode cX12_isSafe 150 = .ok (.iload_n 1, 1) := by decide +kernel
theorem dX12_isSafe_151 : decode cX12_isSafe 151 = .ok (.invokevirtual 421, 3) := by decide +kernel
theorem dX12_isSafe_154 : decode cX12_isSafe 154 = .ok (.aload_n 0, 1) := by decide +kernel
theorem dX12_isSafe_155 : decode cX12_isSafe 155 = .ok (.iload_n 1, 1) := by decide +kernel
theorem dX12_isSafe_156 : decode cX12_isSafe 156 = .ok (.aload_n 0, 1) := by decide +kernel
theorem dX12_isSafe_157 : decode cX12_isSafe 157 = .ok (.getfield 219, 3) := by decide +kernel
theorem dX12_isSafe_160 : decode cX12_isSafe 160 = .ok (.invokevirtual 421, 3) := by decide +kernel
theorem dX12_isSafe_163 : decode cX12_isSafe 163 = .ok (.aload_n 0, 1) := by decide +kernel
theorem dX12_isSafe_164 : decode cX12_isSafe 164 = .ok (.iload_n 2, 1) := by decide +kernel
theorem dX12_isSafe_165 : decode cX12_isSafe 165 = .ok (.invokevirtual 446, 3) := by decide +kernel
theorem dX12_isSafe_168 : decode cX12_isSafe 168 = .ok (.ireturn, 1) := by decide +kernel
theorem dX12_mayStand_0 : decode cX12_mayStand 0 = .ok (.aload_n 0, 1) := by decide +kernel
theorem dX12_mayStand_1 : decode cX12_mayStand 1 = .ok (.iload_n 1, 1) := by decide +kernel
theorem dX12_mayStand_2 : decode cX12_mayStand 2 = .ok (.invokevirtual 430, 3) := by decide +kernel
theorem dX12_mayStand_5 : decode cX12_mayStand 5 = .ok (.istore_n 2, 1) := by decide +kernel
theorem dX12_mayStand_6 : decode cX12_mayStand 6 = .ok (.aload_n 0, 1) := by decide +kernel
theorem dX12_mayStand_7 : decode cX12_mayStand 7 = .ok (.aload_n 0, 1) := by decide +kernel
theorem dX12_mayStand_8 : decode cX12_mayStand 8 = .ok (.getfield 126, 3) := by decide +kernel
theorem dX12_mayStand_11 : decode cX12_mayStand 11 = .ok (.iload_n 2, 1) := by decide +kernel
theorem dX12_mayStand_12 : decode cX12_mayStand 12 = .ok (.iaload, 1) := by decide +kernel
theorem dX12_mayStand_13 : decode cX12_mayStand 13 = .ok (.aload_n 0, 1) := by decide +kernel
theorem dX12_mayStand_14 : decode cX12_mayStand 14 = .ok (.getfield 126, 3) := by decide +kernel
theorem dX12_mayStand_17 : decode cX12_mayStand 17 = .ok (.iload_n 2, 1) := by decide +kernel
theorem dX12_mayStand_18 : decode cX12_mayStand 18 = .ok (.iconst 1, 1) := by decide +kernel
theorem dX12_mayStand_19 : decode cX12_mayStand 19 = .ok (.iadd, 1) := by decide +kernel
theorem dX12_mayStand_20 : decode cX12_mayStand 20 = .ok (.iaload, 1) := by decide +kernel
theorem dX12_mayStand_21 : decode cX12_mayStand 21 = .ok (.iload_n 1, 1) := by decide +kernel
theorem dX12_mayStand_22 : decode cX12_mayStand 22 = .ok (.invokevirtual 238, 3) := by decide +kernel
theorem dX12_mayStand_25 : decode cX12_mayStand 25 = .ok (.istore_n 3, 1) := by decide +kernel
theorem dX12_mayStand_26 : decode cX12_mayStand 26 = .ok (.aload_n 0, 1) := by decide +kernel
theorem dX12_mayStand_27 : decode cX12_mayStand 27 = .ok (.getfield 47, 3) := by decide +kernel
theorem dX12_mayStand_30 : decode cX12_mayStand 30 = .ok (.iload_n 1, 1) := by decide +kernel
theorem dX12_mayStand_31 : decode cX12_mayStand 31 = .ok (.iaload, 1) := by decide +kernel
theorem dX12_mayStand_32 : decode cX12_mayStand 32 = .ok (.bipush 10, 2) := by decide +kernel
theorem dX12_mayStand_34 : decode cX12_mayStand 34 = .ok (.bipush 15, 2) := by decide +kernel
theorem dX12_mayStand_36 : decode cX12_mayStand 36 = .ok (.invokestatic 162, 3) := by decide +kernel
theorem dX12_mayStand_39 : decode cX12_mayStand 39 = .ok (.ifCond .ne 14, 3) := by decide +kernel
theorem dX12_mayStand_42 : decode cX12_mayStand 42 = .ok (.aload_n 0, 1) := by decide +kernel
theorem dX12_mayStand_43 : decode cX12_mayStand 43 = .ok (.getfield 47, 3) := by decide +kernel
theorem dX12_mayStand_46 : decode cX12_mayStand 46 = .ok (.iload_n 1, 1) := by decide +kernel
theorem dX12_mayStand_47 : decode cX12_mayStand 47 = .ok (.iaload, 1) := by decide +kernel
theorem dX12_mayStand_48 : decode cX12_mayStand 48 = .ok (.bipush 20, 2) := by decide +kernel
theorem dX12_mayStand_50 : decode cX12_mayStand 50 = .ok (.if_icmp .ne 17, 3) := by decide +kernel
theorem dX12_mayStand_53 : decode cX12_mayStand 53 = .ok (.iload_n 3, 1) := by decide +kernel
theorem dX12_mayStand_54 : decode cX12_mayStand 54 = .ok (.iconst 1, 1) := by decide +kernel
theorem dX12_mayStand_55 : decode cX12_mayStand 55 = .ok (.if_icmp .eq 8, 3) := by decide +kernel
theorem dX12_mayStand_58 : decode cX12_mayStand 58 = .ok (.iload_n 3, 1) := by decide +kernel
theorem dX12_mayStand_59 : decode cX12_mayStand 59 = .ok (.iconst 2, 1) := by decide +kernel
theorem dX12_mayStand_60 : decode cX12_mayStand 60 = .ok (.if_icmp .ne 7, 3) := by decide +kernel
theorem dX12_mayStand_63 : decode cX12_mayStand 63 = .ok (.iconst 1, 1) := by decide +kernel
theorem dX12_mayStand_64 : decode cX12_mayStand 64 = .ok (.goto 4, 3) := by decide +kernel
theorem dX12_mayStand_67 : decode cX12_mayStand 67 = .ok (.iconst 0, 1) := by decide +kernel
theorem dX12_mayStand_68 : decode cX12_mayStand 68 = .ok (.istore 4, 2) := by decide +kernel
theorem dX12_mayStand_70 : decode cX12_mayStand 70 = .ok (.iload_n 1, 1) := by decide +kernel
theorem dX12_mayStand_71 : decode cX12_mayStand 71 = .ok (.iconst 1, 1) := by decide +kernel
theorem dX12_mayStand_72 : decode cX12_mayStand 72 = .ok (.iadd, 1) := by decide +kernel
theorem dX12_mayStand_73 : decode cX12_mayStand 73 = .ok (.istore 5, 2) := by decide +kernel
theorem dX12_mayStand_75 : decode cX12_mayStand 75 = .ok (.iload 5, 2) := by decide +kernel
theorem dX12_mayStand_77 : decode cX12_mayStand 77 = .ok (.aload_n 0, 1) := by decide +kernel
theorem dX12_mayStand_78 : decode cX12_mayStand 78 = .ok (.getfield 126, 3) := by decide +kernel
theorem dX12_mayStand_81 : decode cX12_mayStand 81 = .ok (.iload_n 2, 1) := by decide +kernel
theorem dX12_mayStand_82 : decode cX12_mayStand 82 = .ok (.iconst 1, 1) := by decide +kernel
theorem dX12_mayStand_83 : decode cX12_mayStand 83 = .ok (.iadd, 1) := by decide +kernel
theorem dX12_mayStand_84 : decode cX12_mayStand 84 = .ok (.iaload, 1) := by decide +kernel
theorem dX12_mayStand_85 : decode cX12_mayStand 85 = .ok (.if_icmp .ge 22, 3) := by decide +kernel
theorem dX12_mayStand_88 : decode cX12_mayStand 88 = .ok (.aload_n 0, 1) := by decide +kernel
theorem dX12_mayStand_89 : decode cX12_mayStand 89 = .ok (.getfield 47, 3) := by decide +kernel
theorem dX12_mayStand_92 : decode cX12_mayStand 92 = .ok (.iload 5, 2) := by decide +kernel
theorem dX12_mayStand_94 : decode cX12_mayStand 94 = .ok (.iaload, 1) := by decide +kernel
theorem dX12_mayStand_95 : decode cX12_mayStand 95 = .ok (.invokestatic 225, 3) := by decide +kernel
theorem dX12_mayStand_98 : decode cX12_mayStand 98 = .ok (.ifCond .eq 9, 3) := by decide +kernel
theorem dX12_mayStand_101 : decode cX12_mayStand 101 = .ok (.iinc 5 1, 3) := by decide +kernel
theorem dX12_mayStand_104 : decode cX12_mayStand 104 = .ok (.goto (-29), 3) := by decide +kernel
theorem dX12_mayStand_107 : decode cX12_mayStand 107 = .ok (.iload 4, 2) := by decide +kernel
theorem dX12_mayStand_109 : decode cX12_mayStand 109 = .ok (.ifCond .eq 36, 3) := by decide +kernel
theorem dX12_mayStand_112 : decode cX12_mayStand 112 = .ok (.iload 5, 2) := by decide +kernel
theorem dX12_mayStand_114 : decode cX12_mayStand 114 = .ok (.aload_n 0, 1) := by decide +kernel
theorem dX12_mayStand_115 : decode cX12_mayStand 115 = .ok (.getfield 126, 3) := by decide +kernel
theorem dX12_mayStand_118 : decode cX12_mayStand 118 = .ok (.iload_n 2, 1) := by decide +kernel
theorem dX12_mayStand_119 : decode cX12_mayStand 119 = .ok (.iconst 1, 1) := by decide +kernel
theorem dX12_mayStand_120 : decode cX12_mayStand 120 = .ok (.iadd, 1) := by decide +kernel
theorem dX12_mayStand_121 : decode cX12_mayStand 121 = .ok (.iaload, 1) := by decide +kernel
theorem dX12_mayStand_122 : decode cX12_mayStand 122 = .ok (.if_icmp .ge 23, 3) := by decide +kernel
theorem dX12_mayStand_125 : decode cX12_mayStand 125 = .ok (.aload_n 0, 1) := by decide +kernel
theorem dX12_mayStand_126 : decode cX12_mayStand 126 = .ok (.iload_n 2, 1) := by decide +kernel
theorem dX12_mayStand_127 : decode cX12_mayStand 127 = .ok (.iload_n 1, 1) := by decide +kernel
theorem dX12_mayStand_128 : decode cX12_mayStand 128 = .ok (.invokevirtual 433, 3) := by decide +kernel
theorem dX12_mayStand_131 : decode cX12_mayStand 131 = .ok (.aload_n 0, 1) := by decide +kernel
theorem dX12_mayStand_132 : decode cX12_mayStand 132 = .ok (.iload_n 2, 1) := by decide +kernel
theorem dX12_mayStand_133 : decode cX12_mayStand 133 = .ok (.iload 5, 2) := by decide +kernel
theorem dX12_mayStand_135 : decode cX12_mayStand 135 = .ok (.invokevirtual 433, 3) := by decide +kernel
theorem dX12_mayStand_138 : decode cX12_mayStand 138 = .ok (.if_icmp .eq 7, 3) := by decide +kernel
theorem dX12_mayStand_141 : decode cX12_mayStand 141 = .ok (.iconst 1, 1) := by decide +kernel
theorem dX12_mayStand_142 : decode cX12_mayStand 142 = .ok (.goto 4, 3) := by decide +kernel
theorem dX12_mayStand_145 : decode cX12_mayStand 145 = .ok (.iconst 0, 1) := by decide +kernel
theorem dX12_mayStand_146 : decode cX12_mayStand 146 = .ok (.ireturn, 1) := by decide +kernel
theorem dX12_laysStrokes_0 : decode cX12_laysStrokes 0 = .ok (.aload_n 0, 1) := by decide +kernel
theorem dX12_laysStrokes_1 : decode cX12_laysStrokes 1 = .ok (.getfield 40, 3) := by decide +kernel
theorem dX12_laysStrokes_4 : decode cX12_laysStrokes 4 = .ok (.bipush 20, 2) := by decide +kernel
theorem dX12_laysStrokes_6 : decode cX12_laysStrokes 6 = .ok (.iaload, 1) := by decide +kernel
theorem dX12_laysStrokes_7 : decode cX12_laysStrokes 7 = .ok (.ifCond .ne 7, 3) := by decide +kernel
theorem dX12_laysStrokes_10 : decode cX12_laysStrokes 10 = .ok (.iconst 0, 1) := by decide +kernel
theorem dX12_laysStrokes_11 : decode cX12_laysStrokes 11 = .ok (.goto 12, 3) := by decide +kernel
theorem dX12_laysStrokes_14 : decode cX12_laysStrokes 14 = .ok (.iload_n 1, 1) := by decide +kernel
theorem dX12_laysStrokes_15 : decode cX12_laysStrokes 15 = .ok (.aload_n 0, 1) := by decide +kernel
theorem dX12_laysStrokes_16 : decode cX12_laysStrokes 16 = .ok (.getfield 40, 3) := by decide +kernel
theorem dX12_laysStrokes_19 : decode cX12_laysStrokes 19 = .ok (.bipush 20, 2) := by decide +kernel
theorem dX12_laysStrokes_21 : decode cX12_laysStrokes 21 = .ok (.iaload, 1) := by decide +kernel
theorem dX12_laysStrokes_22 : decode cX12_laysStrokes 22 = .ok (.idiv, 1) := by decide +kernel
theorem dX12_laysStrokes_23 : decode cX12_laysStrokes 23 = .ok (.istore_n 2, 1) := by decide +kernel
theorem dX12_laysStrokes_24 : decode cX12_laysStrokes 24 = .ok (.iconst 0, 1) := by decide +kernel
theorem dX12_laysStrokes_25 : decode cX12_laysStrokes 25 = .ok (.istore_n 3, 1) := by decide +kernel
theorem dX12_laysStrokes_26 : decode cX12_laysStrokes 26 = .ok (.iconst 0, 1) := by decide +kernel
theorem dX12_laysStrokes_27 : decode cX12_laysStrokes 27 = .ok (.istore 4, 2) := by decide +kernel
theorem dX12_laysStrokes_29 : decode cX12_laysStrokes 29 = .ok (.iload 4, 2) := by decide +kernel
theorem dX12_laysStrokes_31 : decode cX12_laysStrokes 31 = .ok (.aload_n 0, 1) := by decide +kernel
theorem dX12_laysStrokes_32 : decode cX12_laysStrokes 32 = .ok (.getfield 219, 3) := by decide +kernel
theorem dX12_laysStrokes_35 : decode cX12_laysStrokes 35 = .ok (.if_icmp .ge 49, 3) := by decide +kernel
theorem dX12_laysStrokes_38 : decode cX12_laysStrokes 38 = .ok (.aload_n 0, 1) := by decide +kernel
theorem dX12_laysStrokes_39 : decode cX12_laysStrokes 39 = .ok (.getfield 159, 3) := by decide +kernel
theorem dX12_laysStrokes_42 : decode cX12_laysStrokes 42 = .ok (.iload 4, 2) := by decide +kernel
theorem dX12_laysStrokes_44 : decode cX12_laysStrokes 44 = .ok (.aload_n 0, 1) := by decide +kernel
theorem dX12_laysStrokes_45 : decode cX12_laysStrokes 45 = .ok (.iload 4, 2) := by decide +kernel
theorem dX12_laysStrokes_47 : decode cX12_laysStrokes 47 = .ok (.invokevirtual 449, 3) := by decide +kernel
theorem dX12_laysStrokes_50 : decode cX12_laysStrokes 50 = .ok (.ifCond .eq 7, 3) := by decide +kernel
theorem dX12_laysStrokes_53 : decode cX12_laysStrokes 53 = .ok (.iconst 0, 1) := by decide +kernel
theorem dX12_laysStrokes_54 : decode cX12_laysStrokes 54 = .ok (.goto 5, 3) := by decide +kernel
theorem dX12_laysStrokes_57 : decode cX12_laysStrokes 57 = .ok (.bipush (-100), 2) := by decide +kernel
theorem dX12_laysStrokes_59 : decode cX12_laysStrokes 59 = .ok (.iastore, 1) := by decide +kernel
theorem dX12_laysStrokes_60 : decode cX12_laysStrokes 60 = .ok (.iload_n 3, 1) := by decide +kernel
theorem dX12_laysStrokes_61 : decode cX12_laysStrokes 61 = .ok (.aload_n 0, 1) := by decide +kernel
theorem dX12_laysStrokes_62 : decode cX12_laysStrokes 62 = .ok (.getfield 159, 3) := by decide +kernel
theorem dX12_laysStrokes_65 : decode cX12_laysStrokes 65 = .ok (.iload 4, 2) := by decide +kernel
theorem dX12_laysStrokes_67 : decode cX12_laysStrokes 67 = .ok (.iaload, 1) := by decide +kernel
theorem dX12_laysStrokes_68 : decode cX12_laysStrokes 68 = .ok (.ifCond .ne 7, 3) := by decide +kernel
theorem dX12_laysStrokes_71 : decode cX12_laysStrokes 71 = .ok (.iconst 1, 1) := by decide +kernel
theorem dX12_laysStrokes_72 : decode cX12_laysStrokes 72 = .ok (.goto 4, 3) := by decide +kernel
theorem dX12_laysStrokes_75 : decode cX12_laysStrokes 75 = .ok (.iconst 0, 1) := by decide +kernel
theorem dX12_laysStrokes_76 : decode cX12_laysStrokes 76 = .ok (.iadd, 1) := by decide +kernel
theorem dX12_laysStrokes_77 : decode cX12_laysStrokes 77 = .ok (.istore_n 3, 1) := by decide +kernel
theorem dX12_laysStrokes_78 : decode cX12_laysStrokes 78 = .ok (.iinc 4 1, 3) := by decide +kernel
theorem dX12_laysStrokes_81 : decode cX12_laysStrokes 81 = .ok (.goto (-52), 3) := by decide +kernel
theorem dX12_laysStrokes_84 : decode cX12_laysStrokes 84 = .ok (.iload_n 3, 1) := by decide +kernel
theorem dX12_laysStrokes_85 : decode cX12_laysStrokes 85 = .ok (.ifCond .ne 5, 3) := by decide +kernel
theorem dX12_laysStrokes_88 : decode cX12_laysStrokes 88 = .ok (.iload_n 1, 1) := by decide +kernel
theorem dX12_laysStrokes_89 : decode cX12_laysStrokes 89 = .ok (.ireturn, 1) := by decide +kernel
theorem dX12_laysStrokes_90 : decode cX12_laysStrokes 90 = .ok (.iconst 0, 1) := by decide +kernel
theorem dX12_laysStrokes_91 : decode cX12_laysStrokes 91 = .ok (.istore 4, 2) := by decide +kernel
theorem dX12_laysStrokes_93 : decode cX12_laysStrokes 93 = .ok (.aload_n 0, 1) := by decide +kernel
theorem dX12_laysStrokes_94 : decode cX12_laysStrokes 94 = .ok (.getfield 219, 3) := by decide +kernel
theorem dX12_laysStrokes_97 : decode cX12_laysStrokes 97 = .ok (.iconst 1, 1) := by decide +kernel
theorem dX12_laysStrokes_98 : decode cX12_laysStrokes 98 = .ok (.isub, 1) := by decide +kernel
theorem dX12_laysStrokes_99 : decode cX12_laysStrokes 99 = .ok (.istore 5, 2) := by decide +kernel
theorem dX12_laysStrokes_101 : decode cX12_laysStrokes 101 = .ok (.iload 5, 2) := by decide +kernel
theorem dX12_laysStrokes_103 : decode cX12_laysStrokes 103 = .ok (.ifCond .lt 46, 3) := by decide +kernel
theorem dX12_laysStrokes_106 : decode cX12_laysStrokes 106 = .ok (.aload_n 0, 1) := by decide +kernel
theorem dX12_laysStrokes_107 : decode cX12_laysStrokes 107 = .ok (.getfield 159, 3) := by decide +kernel
theorem dX12_laysStrokes_110 : decode cX12_laysStrokes 110 = .ok (.iload 5, 2) := by decide +kernel
theorem dX12_laysStrokes_112 : decode cX12_laysStrokes 112 = .ok (.iaload, 1) := by decide +kernel
theorem dX12_laysStrokes_113 : decode cX12_laysStrokes 113 = .ok (.ifCond .ne 30, 3) := by decide +kernel
theorem dX12_laysStrokes_116 : decode cX12_laysStrokes 116 = .ok (.aload_n 0, 1) := by decide +kernel
theorem dX12_laysStrokes_117 : decode cX12_laysStrokes 117 = .ok (.getfield 159, 3) := by decide +kernel
theorem dX12_laysStrokes_120 : decode cX12_laysStrokes 120 = .ok (.iload 5, 2) := by decide +kernel
theorem dX12_laysStrokes_122 : decode cX12_laysStrokes 122 = .ok (.iload_n 2, 1) := by decide +kernel
theorem dX12_laysStrokes_123 : decode cX12_laysStrokes 123 = .ok (.iload_n 3, 1) := by decide +kernel
theorem dX12_laysStrokes_124 : decode cX12_laysStrokes 124 = .ok (.idiv, 1) := by decide +kernel
theorem dX12_laysStrokes_125 : decode cX12_laysStrokes 125 = .ok (.iload 4, 2) := by decide +kernel
theorem dX12_laysStrokes_127 : decode cX12_laysStrokes 127 = .ok (.iload_n 2, 1) := by decide +kernel
theorem dX12_laysStrokes_128 : decode cX12_laysStrokes 128 = .ok (.iload_n 3, 1) := by decide +kernel
theorem dX12_laysStrokes_129 : decode cX12_laysStrokes 129 = .ok (.irem, 1) := by decide +kernel
theorem dX12_laysStrokes_130 : decode cX12_laysStrokes 130 = .ok (.if_icmp .ge 7, 3) := by decide +kernel
theorem dX12_laysStrokes_133 : decode cX12_laysStrokes 133 = .ok (.iconst 1, 1) := by decide +kernel
theorem dX12_laysStrokes_134 : decode cX12_laysStrokes 134 = .ok (.goto 4, 3) := by decide +kernel
theorem dX12_laysStrokes_137 : decode cX12_laysStrokes 137 = .ok (.iconst 0, 1) := by decide +kernel
theorem dX12_laysStrokes_138 : decode cX12_laysStrokes 138 = .ok (.iadd, 1) := by decide +kernel
theorem dX12_laysStrokes_139 : decode cX12_laysStrokes 139 = .ok (.iastore, 1) := by decide +kernel
theorem dX12_laysStrokes_140 : decode cX12_laysStrokes 140 = .ok (.iinc 4 1, 3) := by decide +kernel
theorem dX12_laysStrokes_143 : decode cX12_laysStrokes 143 = .ok (.iinc 5 (-1), 3) := by decide +kernel
theorem dX12_laysStrokes_146 : decode cX12_laysStrokes 146 = .ok (.goto (-45), 3) := by decide +kernel
theorem dX12_laysStrokes_149 : decode cX12_laysStrokes 149 = .ok (.iload_n 1, 1) := by decide +kernel
theorem dX12_laysStrokes_150 : decode cX12_laysStrokes 150 = .ok (.iload_n 2, 1) := by decide +kernel
theorem dX12_laysStrokes_151 : decode cX12_laysStrokes 151 = .ok (.aload_n 0, 1) := by decide +kernel
theorem dX12_laysStrokes_152 : decode cX12_laysStrokes 152 = .ok (.getfield 40, 3) := by decide +kernel
theorem dX12_laysStrokes_155 : decode cX12_laysStrokes 155 = .ok (.bipush 20, 2) := by decide +kernel
theorem dX12_laysStrokes_157 : decode cX12_laysStrokes 157 = .ok (.iaload, 1) := by decide +kernel
theorem dX12_laysStrokes_158 : decode cX12_laysStrokes 158 = .ok (.imul, 1) := by decide +kernel
theorem dX12_laysStrokes_159 : decode cX12_laysStrokes 159 = .ok (.isub, 1) := by decide +kernel
theorem dX12_laysStrokes_160 : decode cX12_laysStrokes 160 = .ok (.ireturn, 1) := by decide +kernel
theorem dX12_blanks_0 : decode cX12_blanks 0 = .ok (.iconst 0, 1) := by decide +kernel
theorem dX12_blanks_1 : decode cX12_blanks 1 = .ok (.istore_n 2, 1) := by decide +kernel
theorem dX12_blanks_2 : decode cX12_blanks 2 = .ok (.iconst 0, 1) := by decide +kernel
theorem dX12_blanks_3 : decode cX12_blanks 3 = .ok (.istore_n 3, 1) := by decide +kernel
theorem dX12_blanks_4 : decode cX12_blanks 4 = .ok (.iload_n 3, 1) := by decide +kernel
theorem dX12_blanks_5 : decode cX12_blanks 5 = .ok (.iload_n 1, 1) := by decide +kernel
theorem dX12_blanks_6 : decode cX12_blanks 6 = .ok (.if_icmp .ge 26, 3) := by decide +kernel
theorem dX12_blanks_9 : decode cX12_blanks 9 = .ok (.iload_n 2, 1) := by decide +kernel
theorem dX12_blanks_10 : decode cX12_blanks 10 = .ok (.aload_n 0, 1) := by decide +kernel
theorem dX12_blanks_11 : decode cX12_blanks 11 = .ok (.getfield 47, 3) := by decide +kernel
theorem dX12_blanks_14 : decode cX12_blanks 14 = .ok (.iload_n 3, 1) := by decide +kernel
theorem dX12_blanks_15 : decode cX12_blanks 15 = .ok (.iaload, 1) := by decide +kernel
theorem dX12_blanks_16 : decode cX12_blanks 16 = .ok (.ifCond .ne 7, 3) := by decide +kernel
theorem dX12_blanks_19 : decode cX12_blanks 19 = .ok (.iconst 1, 1) := by decide +kernel
theorem dX12_blanks_20 : decode cX12_blanks 20 = .ok (.goto 4, 3) := by decide +kernel
theorem dX12_blanks_23 : decode cX12_blanks 23 = .ok (.iconst 0, 1) := by decide +kernel
theorem dX12_blanks_24 : decode cX12_blanks 24 = .ok (.iadd, 1) := by decide +kernel
theorem dX12_blanks_25 : decode cX12_blanks 25 = .ok (.istore_n 2, 1) := by decide +kernel
theorem dX12_blanks_26 : decode cX12_blanks 26 = .ok (.iinc 3 1, 3) := by decide +kernel
theorem dX12_blanks_29 : decode cX12_blanks 29 = .ok (.goto (-25), 3) := by decide +kernel
theorem dX12_blanks_32 : decode cX12_blanks 32 = .ok (.iload_n 2, 1) := by decide +kernel
theorem dX12_blanks_33 : decode cX12_blanks 33 = .ok (.ireturn, 1) := by decide +kernel
theorem dX12_fill_0 : decode cX12_fill 0 = .ok (.aload_n 0, 1) := by decide +kernel
theorem dX12_fill_1 : decode cX12_fill 1 = .ok (.iload_n 1, 1) := by decide +kernel
theorem dX12_fill_2 : decode cX12_fill 2 = .ok (.iconst 0, 1) := by decide +kernel
theorem dX12_fill_3 : decode cX12_fill 3 = .ok (.sipush 10000, 3) := by decide +kernel
theorem dX12_fill_6 : decode cX12_fill 6 = .ok (.invokestatic 162, 3) := by decide +kernel
theorem dX12_fill_9 : decode cX12_fill 9 = .ok (.ifCond .eq 7, 3) := by decide +kernel
theorem dX12_fill_12 : decode cX12_fill 12 = .ok (.iconst 0, 1) := by decide +kernel
theorem dX12_fill_13 : decode cX12_fill 13 = .ok (.goto 4, 3) := by decide +kernel
theorem dX12_fill_16 : decode cX12_fill 16 = .ok (.iconst 1, 1) := by decide +kernel
theorem dX12_fill_17 : decode cX12_fill 17 = .ok (.putfield 166, 3) := by decide +kernel
theorem dX12_fill_20 : decode cX12_fill 20 = .ok (.aload_n 0, 1) := by decide +kernel
theorem dX12_fill_21 : decode cX12_fill 21 = .ok (.getfield 166, 3) := by decide +kernel
theorem dX12_fill_24 : decode cX12_fill 24 = .ok (.ifCond .le 5, 3) := by decide +kernel
theorem dX12_fill_27 : decode cX12_fill 27 = .ok (.iconst 0, 1) := by decide +kernel
theorem dX12_fill_28 : decode cX12_fill 28 = .ok (.ireturn, 1) := by decide +kernel
theorem dX12_fill_29 : decode cX12_fill 29 = .ok (.aload_n 0, 1) := by decide +kernel
theorem dX12_fill_30 : decode cX12_fill 30 = .ok (.invokevirtual 424, 3) := by decide +kernel
theorem dX12_fill_33 : decode cX12_fill 33 = .ok (.iload_n 1, 1) := by decide +kernel
theorem dX12_fill_34 : decode cX12_fill 34 = .ok (.aload_n 0, 1) := by decide +kernel
theorem dX12_fill_35 : decode cX12_fill 35 = .ok (.getfield 132, 3) := by decide +kernel
theorem dX12_fill_38 : decode cX12_fill 38 = .ok (.aload_n 0, 1) := by decide +kernel
theorem dX12_fill_39 : decode cX12_fill 39 = .ok (.getfield 412, 3) := by decide +kernel
theorem dX12_fill_42 : decode cX12_fill 42 = .ok (.iaload, 1) := by decide +kernel
theorem dX12_fill_43 : decode cX12_fill 43 = .ok (.isub, 1) := by decide +kernel
theorem dX12_fill_44 : decode cX12_fill 44 = .ok (.istore_n 2, 1) := by decide +kernel
theorem dX12_fill_45 : decode cX12_fill 45 = .ok (.iload_n 2, 1) := by decide +kernel
theorem dX12_fill_46 : decode cX12_fill 46 = .ok (.ifCond .ge 6, 3) := by decide +kernel
theorem dX12_fill_49 : decode cX12_fill 49 = .ok (.bipush (-100), 2) := by decide +kernel
theorem dX12_fill_51 : decode cX12_fill 51 = .ok (.ireturn, 1) := by decide +kernel
theorem dX12_fill_52 : decode cX12_fill 52 = .ok (.aload_n 0, 1) := by decide +kernel
theorem dX12_fill_53 : decode cX12_fill 53 = .ok (.iload_n 2, 1) := by decide +kernel
theorem dX12_fill_54 : decode cX12_fill 54 = .ok (.invokevirtual 452, 3) := by decide +kernel
theorem dX12_fill_57 : decode cX12_fill 57 = .ok (.istore_n 3, 1) := by decide +kernel
theorem dX12_fill_58 : decode cX12_fill 58 = .ok (.aload_n 0, 1) := by decide +kernel
theorem dX12_fill_59 : decode cX12_fill 59 = .ok (.aload_n 0, 1) := by decide +kernel
theorem dX12_fill_60 : decode cX12_fill 60 = .ok (.getfield 219, 3) := by decide +kernel
theorem dX12_fill_63 : decode cX12_fill 63 = .ok (.invokevirtual 455, 3) := by decide +kernel
theorem dX12_fill_66 : decode cX12_fill 66 = .ok (.ifCond .ne 7, 3) := by decide +kernel
theorem dX12_fill_69 : decode cX12_fill 69 = .ok (.iload_n 3, 1) := by decide +kernel
theorem dX12_fill_70 : decode cX12_fill 70 = .ok (.goto 4, 3) := by decide +kernel
theorem dX12_fill_73 : decode cX12_fill 73 = .ok (.iconst 0, 1) := by decide +kernel
theorem dX12_fill_74 : decode cX12_fill 74 = .ok (.ireturn, 1) := by decide +kernel
theorem dX12_filling_0 : decode cX12_filling 0 = .ok (.aload_n 0, 1) := by decide +kernel
theorem dX12_filling_1 : decode cX12_filling 1 = .ok (.aload_n 0, 1) := by decide +kernel
theorem dX12_filling_2 : decode cX12_filling 2 = .ok (.iload_n 2, 1) := by decide +kernel
theorem dX12_filling_3 : decode cX12_filling 3 = .ok (.invokevirtual 222, 3) := by decide +kernel
theorem dX12_filling_6 : decode cX12_filling 6 = .ok (.ifCond .ne 7, 3) := by decide +kernel
theorem dX12_filling_9 : decode cX12_filling 9 = .ok (.iconst 1, 1) := by decide +kernel
theorem dX12_filling_10 : decode cX12_filling 10 = .ok (.goto 19, 3) := by decide +kernel
theorem dX12_filling_13 : decode cX12_filling 13 = .ok (.iload_n 1, 1) := by decide +kernel
theorem dX12_filling_14 : decode cX12_filling 14 = .ok (.iconst 0, 1) := by decide +kernel
theorem dX12_filling_15 : decode cX12_filling 15 = .ok (.sipush 10000, 3) := by decide +kernel
theorem dX12_filling_18 : decode cX12_filling 18 = .ok (.invokestatic 162, 3) := by decide +kernel
theorem dX12_filling_21 : decode cX12_filling 21 = .ok (.ifCond .eq 7, 3) := by decide +kernel
theorem dX12_filling_24 : decode cX12_filling 24 = .ok (.iconst 0, 1) := by decide +kernel
theorem dX12_filling_25 : decode cX12_filling 25 = .ok (.goto 4, 3) := by decide +kernel
theorem dX12_filling_28 : decode cX12_filling 28 = .ok (.iconst 2, 1) := by decide +kernel
theorem dX12_filling_29 : decode cX12_filling 29 = .ok (.putfield 166, 3) := by decide +kernel
theorem dX12_filling_32 : decode cX12_filling 32 = .ok (.aload_n 0, 1) := by decide +kernel
theorem dX12_filling_33 : decode cX12_filling 33 = .ok (.getfield 166, 3) := by decide +kernel
theorem dX12_filling_36 : decode cX12_filling 36 = .ok (.ifCond .le 5, 3) := by decide +kernel
theorem dX12_filling_39 : decode cX12_filling 39 = .ok (.iconst 0, 1) := by decide +kernel
theorem dX12_filling_40 : decode cX12_filling 40 = .ok (.ireturn, 1) := by decide +kernel
theorem dX12_filling_41 : decode cX12_filling 41 = .ok (.aload_n 0, 1) := by decide +kernel
theorem dX12_filling_42 : decode cX12_filling 42 = .ok (.invokevirtual 424, 3) := by decide +kernel
theorem dX12_filling_45 : decode cX12_filling 45 = .ok (.iload_n 1, 1) := by decide +kernel
theorem dX12_filling_46 : decode cX12_filling 46 = .ok (.aload_n 0, 1) := by decide +kernel
theorem dX12_filling_47 : decode cX12_filling 47 = .ok (.getfield 132, 3) := by decide +kernel
theorem dX12_filling_50 : decode cX12_filling 50 = .ok (.aload_n 0, 1) := by decide +kernel
theorem dX12_filling_51 : decode cX12_filling 51 = .ok (.getfield 412, 3) := by decide +kernel
theorem dX12_filling_54 : decode cX12_filling 54 = .ok (.iaload, 1) := by decide +kernel
theorem dX12_filling_55 : decode cX12_filling 55 = .ok (.isub, 1) := by decide +kernel
theorem dX12_filling_56 : decode cX12_filling 56 = .ok (.istore_n 3, 1) := by decide +kernel
theorem dX12_filling_57 : decode cX12_filling 57 = .ok (.iload_n 3, 1) := by decide +kernel
theorem dX12_filling_58 : decode cX12_filling 58 = .ok (.ifCond .ge 5, 3) := by decide +kernel
theorem dX12_filling_61 : decode cX12_filling 61 = .ok (.iconst 0, 1) := by decide +kernel
theorem dX12_filling_62 : decode cX12_filling 62 = .ok (.ireturn, 1) := by decide +kernel
theorem dX12_filling_63 : decode cX12_filling 63 = .ok (.aload_n 0, 1) := by decide +kernel
theorem dX12_filling_64 : decode cX12_filling 64 = .ok (.iload_n 3, 1) := by decide +kernel
theorem dX12_filling_65 : decode cX12_filling 65 = .ok (.invokevirtual 452, 3) := by decide +kernel
theorem dX12_filling_68 : decode cX12_filling 68 = .ok (.istore 4, 2) := by decide +kernel
theorem dX12_filling_70 : decode cX12_filling 70 = .ok (.aload_n 0, 1) := by decide +kernel
theorem dX12_filling_71 : decode cX12_filling 71 = .ok (.aload_n 0, 1) := by decide +kernel
theorem dX12_filling_72 : decode cX12_filling 72 = .ok (.getfield 219, 3) := by decide +kernel
theorem dX12_filling_75 : decode cX12_filling 75 = .ok (.invokevirtual 455, 3) := by decide +kernel
theorem dX12_filling_78 : decode cX12_filling 78 = .ok (.istore 5, 2) := by decide +kernel
theorem dX12_filling_80 : decode cX12_filling 80 = .ok (.aload_n 0, 1) := by decide +kernel
theorem dX12_filling_81 : decode cX12_filling 81 = .ok (.getfield 47, 3) := by decide +kernel
theorem dX12_filling_84 : decode cX12_filling 84 = .ok (.iload_n 2, 1) := by decide +kernel
theorem dX12_filling_85 : decode cX12_filling 85 = .ok (.iaload, 1) := by decide +kernel
theorem dX12_filling_86 : decode cX12_filling 86 = .ok (.ifCond .ne 28, 3) := by decide +kernel
theorem dX12_filling_89 : decode cX12_filling 89 = .ok (.iload 4, 2) := by decide +kernel
theorem dX12_filling_91 : decode cX12_filling 91 = .ok (.iload 5, 2) := by decide +kernel
theorem dX12_filling_93 : decode cX12_filling 93 = .ok (.idiv, 1) := by decide +kernel
theorem dX12_filling_94 : decode cX12_filling 94 = .ok (.aload_n 0, 1) := by decide +kernel
theorem dX12_filling_95 : decode cX12_filling 95 = .ok (.iload_n 2, 1) := by decide +kernel
theorem dX12_filling_96 : decode cX12_filling 96 = .ok (.invokevirtual 455, 3) := by decide +kernel
theorem dX12_filling_99 : decode cX12_filling 99 = .ok (.iload 4, 2) := by decide +kernel
theorem dX12_filling_101 : decode cX12_filling 101 = .ok (.iload 5, 2) := by decide +kernel
theorem dX12_filling_103 : decode cX12_filling 103 = .ok (.irem, 1) := by decide +kernel
theorem dX12_filling_104 : decode cX12_filling 104 = .ok (.if_icmp .ge 7, 3) := by decide +kernel
theorem dX12_filling_107 : decode cX12_filling 107 = .ok (.iconst 1, 1) := by decide +kernel
theorem dX12_filling_108 : decode cX12_filling 108 = .ok (.goto 4, 3) := by decide +kernel
theorem dX12_filling_111 : decode cX12_filling 111 = .ok (.iconst 0, 1) := by decide +kernel
theorem dX12_filling_112 : decode cX12_filling 112 = .ok (.iadd, 1) := by decide +kernel
theorem dX12_filling_113 : decode cX12_filling 113 = .ok (.ireturn, 1) := by decide +kernel
theorem dX12_filling_114 : decode cX12_filling 114 = .ok (.aload_n 0, 1) := by decide +kernel
theorem dX12_filling_115 : decode cX12_filling 115 = .ok (.getfield 159, 3) := by decide +kernel
theorem dX12_filling_118 : decode cX12_filling 118 = .ok (.iload_n 2, 1) := by decide +kernel
theorem dX12_filling_119 : decode cX12_filling 119 = .ok (.iaload, 1) := by decide +kernel
theorem dX12_filling_120 : decode cX12_filling 120 = .ok (.bipush (-100), 2) := by decide +kernel
theorem dX12_filling_122 : decode cX12_filling 122 = .ok (.if_icmp .ne 7, 3) := by decide +kernel
theorem dX12_filling_125 : decode cX12_filling 125 = .ok (.iconst 0, 1) := by decide +kernel
theorem dX12_filling_126 : decode cX12_filling 126 = .ok (.goto 9, 3) := by decide +kernel
theorem dX12_filling_129 : decode cX12_filling 129 = .ok (.aload_n 0, 1) := by decide +kernel
theorem dX12_filling_130 : decode cX12_filling 130 = .ok (.getfield 159, 3) := by decide +kernel
theorem dX12_filling_133 : decode cX12_filling 133 = .ok (.iload_n 2, 1) := by decide +kernel
theorem dX12_filling_134 : decode cX12_filling 134 = .ok (.iaload, 1) := by decide +kernel
theorem dX12_filling_135 : decode cX12_filling 135 = .ok (.ireturn, 1) := by decide +kernel
theorem dJ6_bitCount_0f7a4_0 : decode cJ6_bitCount_0f7a4 0 = .ok (.iload_n 0, 1) := by decide +kernel
theorem dJ6_bitCount_0f7a4_1 : decode cJ6_bitCount_0f7a4 1 = .ok (.iload_n 0, 1) := by decide +kernel
theorem dJ6_bitCount_0f7a4_2 : decode cJ6_bitCount_0f7a4 2 = .ok (.iconst 1, 1) := by decide +kernel
theorem dJ6_bitCount_0f7a4_3 : decode cJ6_bitCount_0f7a4 3 = .ok (.iushr, 1) := by decide +kernel
theorem dJ6_bitCount_0f7a4_4 : decode cJ6_bitCount_0f7a4 4 = .ok (.ldc_w 265, 3) := by decide +kernel
theorem dJ6_bitCount_0f7a4_7 : decode cJ6_bitCount_0f7a4 7 = .ok (.iand, 1) := by decide +kernel
theorem dJ6_bitCount_0f7a4_8 : decode cJ6_bitCount_0f7a4 8 = .ok (.isub, 1) := by decide +kernel
theorem dJ6_bitCount_0f7a4_9 : decode cJ6_bitCount_0f7a4 9 = .ok (.istore_n 0, 1) := by decide +kernel
theorem dJ6_bitCount_0f7a4_10 : decode cJ6_bitCount_0f7a4 10 = .ok (.iload_n 0, 1) := by decide +kernel
theorem dJ6_bitCount_0f7a4_11 : decode cJ6_bitCount_0f7a4 11 = .ok (.ldc_w 266, 3) := by decide +kernel
theorem dJ6_bitCount_0f7a4_14 : decode cJ6_bitCount_0f7a4 14 = .ok (.iand, 1) := by decide +kernel
theorem dJ6_bitCount_0f7a4_15 : decode cJ6_bitCount_0f7a4 15 = .ok (.iload_n 0, 1) := by decide +kernel
theorem dJ6_bitCount_0f7a4_16 : decode cJ6_bitCount_0f7a4 16 = .ok (.iconst 2, 1) := by decide +kernel
theorem dJ6_bitCount_0f7a4_17 : decode cJ6_bitCount_0f7a4 17 = .ok (.iushr, 1) := by decide +kernel
theorem dJ6_bitCount_0f7a4_18 : decode cJ6_bitCount_0f7a4 18 = .ok (.ldc_w 266, 3) := by decide +kernel
theorem dJ6_bitCount_0f7a4_21 : decode cJ6_bitCount_0f7a4 21 = .ok (.iand, 1) := by decide +kernel
theorem dJ6_bitCount_0f7a4_22 : decode cJ6_bitCount_0f7a4 22 = .ok (.iadd, 1) := by decide +kernel
theorem dJ6_bitCount_0f7a4_23 : decode cJ6_bitCount_0f7a4 23 = .ok (.istore_n 0, 1) := by decide +kernel
theorem dJ6_bitCount_0f7a4_24 : decode cJ6_bitCount_0f7a4 24 = .ok (.iload_n 0, 1) := by decide +kernel
theorem dJ6_bitCount_0f7a4_25 : decode cJ6_bitCount_0f7a4 25 = .ok (.iload_n 0, 1) := by decide +kernel
theorem dJ6_bitCount_0f7a4_26 : decode cJ6_bitCount_0f7a4 26 = .ok (.iconst 4, 1) := by decide +kernel
theorem dJ6_bitCount_0f7a4_27 : decode cJ6_bitCount_0f7a4 27 = .ok (.iushr, 1) := by decide +kernel
theorem dJ6_bitCount_0f7a4_28 : decode cJ6_bitCount_0f7a4 28 = .ok (.iadd, 1) := by decide +kernel
theorem dJ6_bitCount_0f7a4_29 : decode cJ6_bitCount_0f7a4 29 = .ok (.ldc_w 267, 3) := by decide +kernel
theorem dJ6_bitCount_0f7a4_32 : decode cJ6_bitCount_0f7a4 32 = .ok (.iand, 1) := by decide +kernel
theorem dJ6_bitCount_0f7a4_33 : decode cJ6_bitCount_0f7a4 33 = .ok (.istore_n 0, 1) := by decide +kernel
theorem dJ6_bitCount_0f7a4_34 : decode cJ6_bitCount_0f7a4 34 = .ok (.iload_n 0, 1) := by decide +kernel
theorem dJ6_bitCount_0f7a4_35 : decode cJ6_bitCount_0f7a4 35 = .ok (.iload_n 0, 1) := by decide +kernel
theorem dJ6_bitCount_0f7a4_36 : decode cJ6_bitCount_0f7a4 36 = .ok (.bipush 8, 2) := by decide +kernel
theorem dJ6_bitCount_0f7a4_38 : decode cJ6_bitCount_0f7a4 38 = .ok (.iushr, 1) := by decide +kernel
theorem dJ6_bitCount_0f7a4_39 : decode cJ6_bitCount_0f7a4 39 = .ok (.iadd, 1) := by decide +kernel
theorem dJ6_bitCount_0f7a4_40 : decode cJ6_bitCount_0f7a4 40 = .ok (.istore_n 0, 1) := by decide +kernel
theorem dJ6_bitCount_0f7a4_41 : decode cJ6_bitCount_0f7a4 41 = .ok (.iload_n 0, 1) := by decide +kernel
theorem dJ6_bitCount_0f7a4_42 : decode cJ6_bitCount_0f7a4 42 = .ok (.iload_n 0, 1) := by decide +kernel
theorem dJ6_bitCount_0f7a4_43 : decode cJ6_bitCount_0f7a4 43 = .ok (.bipush 16, 2) := by decide +kernel
theorem dJ6_bitCount_0f7a4_45 : decode cJ6_bitCount_0f7a4 45 = .ok (.iushr, 1) := by decide +kernel
theorem dJ6_bitCount_0f7a4_46 : decode cJ6_bitCount_0f7a4 46 = .ok (.iadd, 1) := by decide +kernel
theorem dJ6_bitCount_0f7a4_47 : decode cJ6_bitCount_0f7a4 47 = .ok (.istore_n 0, 1) := by decide +kernel
theorem dJ6_bitCount_0f7a4_48 : decode cJ6_bitCount_0f7a4 48 = .ok (.iload_n 0, 1) := by decide +kernel
theorem dJ6_bitCount_0f7a4_49 : decode cJ6_bitCount_0f7a4 49 = .ok (.bipush 63, 2) := by decide +kernel
theorem dJ6_bitCount_0f7a4_51 : decode cJ6_bitCount_0f7a4 51 = .ok (.iand, 1) := by decide +kernel
theorem dJ6_bitCount_0f7a4_52 : decode cJ6_bitCount_0f7a4 52 = .ok (.ireturn, 1) := by decide +kernel
theorem dL_useFace_0 : decode cL_useFace 0 = .ok (.aload_n 2, 1) := by decide +kernel
theorem dL_useFace_1 : decode cL_useFace 1 = .ok (.iconst 0, 1) := by decide +kernel
theorem dL_useFace_2 : decode cL_useFace 2 = .ok (.aload_n 0, 1) := by decide +kernel
theorem dL_useFace_3 : decode cL_useFace 3 = .ok (.iload_n 1, 1) := by decide +kernel
theorem dL_useFace_4 : decode cL_useFace 4 = .ok (.invokevirtual 7, 3) := by decide +kernel
theorem dL_useFace_7 : decode cL_useFace 7 = .ok (.i2l, 1) := by decide +kernel
theorem dL_useFace_8 : decode cL_useFace 8 = .ok (.lastore, 1) := by decide +kernel
theorem dL_useFace_9 : decode cL_useFace 9 = .ok (.goto 6, 3) := by decide +kernel
theorem dL_useFace_12 : decode cL_useFace 12 = .ok (.astore_n 3, 1) := by decide +kernel
theorem dL_useFace_13 : decode cL_useFace 13 = .ok (.iconst 1, 1) := by decide +kernel
theorem dL_useFace_14 : decode cL_useFace 14 = .ok (.ireturn, 1) := by decide +kernel
theorem dL_useFace_15 : decode cL_useFace 15 = .ok (.iconst 0, 1) := by decide +kernel
theorem dL_useFace_16 : decode cL_useFace 16 = .ok (.ireturn, 1) := by decide +kernel
theorem dL_lookup_0 : decode cL_lookup 0 = .ok (.aload 6, 2) := by decide +kernel
theorem dL_lookup_2 : decode cL_lookup 2 = .ok (.iconst 0, 1) := by decide +kernel
theorem dL_lookup_3 : decode cL_lookup 3 = .ok (.aload_n 0, 1) := by decide +kernel
theorem dL_lookup_4 : decode cL_lookup 4 = .ok (.iload_n 1, 1) := by decide +kernel
theorem dL_lookup_5 : decode cL_lookup 5 = .ok (.iload_n 2, 1) := by decide +kernel
theorem dL_lookup_6 : decode cL_lookup 6 = .ok (.iload_n 3, 1) := by decide +kernel
theorem dL_lookup_7 : decode cL_lookup 7 = .ok (.iload 4, 2) := by decide +kernel
theorem dL_lookup_9 : decode cL_lookup 9 = .ok (.iload 5, 2) := by decide +kernel
theorem dL_lookup_11 : decode cL_lookup 11 = .ok (.invokevirtual 15, 3) := by decide +kernel
theorem dL_lookup_14 : decode cL_lookup 14 = .ok (.i2l, 1) := by decide +kernel
theorem dL_lookup_15 : decode cL_lookup 15 = .ok (.lastore, 1) := by decide +kernel
theorem dL_lookup_16 : decode cL_lookup 16 = .ok (.goto 15, 3) := by decide +kernel
theorem dL_lookup_19 : decode cL_lookup 19 = .ok (.astore 7, 2) := by decide +kernel
theorem dL_lookup_21 : decode cL_lookup 21 = .ok (.iconst 1, 1) := by decide +kernel
theorem dL_lookup_22 : decode cL_lookup 22 = .ok (.ireturn, 1) := by decide +kernel
theorem dL_lookup_23 : decode cL_lookup 23 = .ok (.astore 7, 2) := by decide +kernel
theorem dL_lookup_25 : decode cL_lookup 25 = .ok (.iconst 2, 1) := by decide +kernel
theorem dL_lookup_26 : decode cL_lookup 26 = .ok (.ireturn, 1) := by decide +kernel
theorem dL_lookup_27 : decode cL_lookup 27 = .ok (.astore 7, 2) := by decide +kernel
theorem dL_lookup_29 : decode cL_lookup 29 = .ok (.iconst 3, 1) := by decide +kernel
theorem dL_lookup_30 : decode cL_lookup 30 = .ok (.ireturn, 1) := by decide +kernel
theorem dL_lookup_31 : decode cL_lookup 31 = .ok (.iconst 0, 1) := by decide +kernel
theorem dL_lookup_32 : decode cL_lookup 32 = .ok (.ireturn, 1) := by decide +kernel
theorem dL_rule_0 : decode cL_rule 0 = .ok (.aload 8, 2) := by decide +kernel
theorem dL_rule_2 : decode cL_rule 2 = .ok (.iconst 0, 1) := by decide +kernel
theorem dL_rule_3 : decode cL_rule 3 = .ok (.aload_n 0, 1) := by decide +kernel
theorem dL_rule_4 : decode cL_rule 4 = .ok (.iload_n 1, 1) := by decide +kernel
theorem dL_rule_5 : decode cL_rule 5 = .ok (.iload_n 2, 1) := by decide +kernel
theorem dL_rule_6 : decode cL_rule 6 = .ok (.iload_n 3, 1) := by decide +kernel
theorem dL_rule_7 : decode cL_rule 7 = .ok (.iload 4, 2) := by decide +kernel
theorem dL_rule_9 : decode cL_rule 9 = .ok (.iload 5, 2) := by decide +kernel
theorem dL_rule_11 : decode cL_rule 11 = .ok (.iload 6, 2) := by decide +kernel
theorem dL_rule_13 : decode cL_rule 13 = .ok (.iload 7, 2) := by decide +kernel
theorem dL_rule_15 : decode cL_rule 15 = .ok (.invokevirtual 23, 3) := by decide +kernel
theorem dL_rule_18 : decode cL_rule 18 = .ok (.i2l, 1) := by decide +kernel
theorem dL_rule_19 : decode cL_rule 19 = .ok (.lastore, 1) := by decide +kernel
theorem dL_rule_20 : decode cL_rule 20 = .ok (.goto 15, 3) := by decide +kernel
theorem dL_rule_23 : decode cL_rule 23 = .ok (.astore 9, 2) := by decide +kernel
theorem dL_rule_25 : decode cL_rule 25 = .ok (.iconst 1, 1) := by decide +kernel
theorem dL_rule_26 : decode cL_rule 26 = .ok (.ireturn, 1) := by decide +kernel
theorem dL_rule_27 : decode cL_rule 27 = .ok (.astore 9, 2) := by decide +kernel
theorem dL_rule_29 : decode cL_rule 29 = .ok (.iconst 2, 1) := by decide +kernel
theorem dL_rule_30 : decode cL_rule 30 = .ok (.ireturn, 1) := by decide +kernel
theorem dL_rule_31 : decode cL_rule 31 = .ok (.astore 9, 2) := by decide +kernel
theorem dL_rule_33 : decode cL_rule 33 = .ok (.iconst 3, 1) := by decide +kernel
theorem dL_rule_34 : decode cL_rule 34 = .ok (.ireturn, 1) := by decide +kernel
theorem dL_rule_35 : decode cL_rule 35 = .ok (.iconst 0, 1) := by decide +kernel
theorem dL_rule_36 : decode cL_rule 36 = .ok (.ireturn, 1) := by decide +kernel
theorem dL_setMark_0 : decode cL_setMark 0 = .ok (.aload_n 3, 1) := by decide +kernel
theorem dL_setMark_1 : decode cL_setMark 1 = .ok (.iconst 0, 1) := by decide +kernel
theorem dL_setMark_2 : decode cL_setMark 2 = .ok (.aload_n 0, 1) := by decide +kernel
theorem dL_setMark_3 : decode cL_setMark 3 = .ok (.iload_n 1, 1) := by decide +kernel
theorem dL_setMark_4 : decode cL_setMark 4 = .ok (.iload_n 2, 1) := by decide +kernel
theorem dL_setMark_5 : decode cL_setMark 5 = .ok (.invokevirtual 27, 3) := by decide +kernel
theorem dL_setMark_8 : decode cL_setMark 8 = .ok (.i2l, 1) := by decide +kernel
theorem dL_setMark_9 : decode cL_setMark 9 = .ok (.lastore, 1) := by decide +kernel
theorem dL_setMark_10 : decode cL_setMark 10 = .ok (.goto 11, 3) := by decide +kernel
theorem dL_setMark_13 : decode cL_setMark 13 = .ok (.astore 4, 2) := by decide +kernel
theorem dL_setMark_15 : decode cL_setMark 15 = .ok (.iconst 1, 1) := by decide +kernel
theorem dL_setMark_16 : decode cL_setMark 16 = .ok (.ireturn, 1) := by decide +kernel
theorem dL_setMark_17 : decode cL_setMark 17 = .ok (.astore 4, 2) := by decide +kernel
theorem dL_setMark_19 : decode cL_setMark 19 = .ok (.iconst 2, 1) := by decide +kernel
theorem dL_setMark_20 : decode cL_setMark 20 = .ok (.ireturn, 1) := by decide +kernel
theorem dL_setMark_21 : decode cL_setMark 21 = .ok (.iconst 0, 1) := by decide +kernel
theorem dL_setMark_22 : decode cL_setMark 22 = .ok (.ireturn, 1) := by decide +kernel
theorem dL_setGroup_0 : decode cL_setGroup 0 = .ok (.aload_n 3, 1) := by decide +kernel
theorem dL_setGroup_1 : decode cL_setGroup 1 = .ok (.iconst 0, 1) := by decide +kernel
theorem dL_setGroup_2 : decode cL_setGroup 2 = .ok (.aload_n 0, 1) := by decide +kernel
theorem dL_setGroup_3 : decode cL_setGroup 3 = .ok (.iload_n 1, 1) := by decide +kernel
theorem dL_setGroup_4 : decode cL_setGroup 4 = .ok (.iload_n 2, 1) := by decide +kernel
theorem dL_setGroup_5 : decode cL_setGroup 5 = .ok (.invokevirtual 31, 3) := by decide +kernel
theorem dL_setGroup_8 : decode cL_setGroup 8 = .ok (.i2l, 1) := by decide +kernel
theorem dL_setGroup_9 : decode cL_setGroup 9 = .ok (.lastore, 1) := by decide +kernel
theorem dL_setGroup_10 : decode cL_setGroup 10 = .ok (.goto 7, 3) := by decide +kernel
theorem dL_setGroup_13 : decode cL_setGroup 13 = .ok (.astore 4, 2) := by decide +kernel
theorem dL_setGroup_15 : decode cL_setGroup 15 = .ok (.iconst 1, 1) := by decide +kernel
theorem dL_setGroup_16 : decode cL_setGroup 16 = .ok (.ireturn, 1) := by decide +kernel
theorem dL_setGroup_17 : decode cL_setGroup 17 = .ok (.iconst 0, 1) := by decide +kernel
theorem dL_setGroup_18 : decode cL_setGroup 18 = .ok (.ireturn, 1) := by decide +kernel
theorem dL_setWidth_0 : decode cL_setWidth 0 = .ok (.aload_n 3, 1) := by decide +kernel
theorem dL_setWidth_1 : decode cL_setWidth 1 = .ok (.iconst 0, 1) := by decide +kernel
theorem dL_setWidth_2 : decode cL_setWidth 2 = .ok (.aload_n 0, 1) := by decide +kernel
theorem dL_setWidth_3 : decode cL_setWidth 3 = .ok (.iload_n 1, 1) := by decide +kernel
theorem dL_setWidth_4 : decode cL_setWidth 4 = .ok (.iload_n 2, 1) := by decide +kernel
theorem dL_setWidth_5 : decode cL_setWidth 5 = .ok (.invokevirtual 34, 3) := by decide +kernel
theorem dL_setWidth_8 : decode cL_setWidth 8 = .ok (.i2l, 1) := by decide +kernel
theorem dL_setWidth_9 : decode cL_setWidth 9 = .ok (.lastore, 1) := by decide +kernel
theorem dL_setWidth_10 : decode cL_setWidth 10 = .ok (.goto 11, 3) := by decide +kernel
theorem dL_setWidth_13 : decode cL_setWidth 13 = .ok (.astore 4, 2) := by decide +kernel
theorem dL_setWidth_15 : decode cL_setWidth 15 = .ok (.iconst 1, 1) := by decide +kernel
theorem dL_setWidth_16 : decode cL_setWidth 16 = .ok (.ireturn, 1) := by decide +kernel
theorem dL_setWidth_17 : decode cL_setWidth 17 = .ok (.astore 4, 2) := by decide +kernel
theorem dL_setWidth_19 : decode cL_setWidth 19 = .ok (.iconst 2, 1) := by decide +kernel
theorem dL_setWidth_20 : decode cL_setWidth 20 = .ok (.ireturn, 1) := by decide +kernel
theorem dL_setWidth_21 : decode cL_setWidth 21 = .ok (.iconst 0, 1) := by decide +kernel
theorem dL_setWidth_22 : decode cL_setWidth 22 = .ok (.ireturn, 1) := by decide +kernel
theorem dL_lack_0 : decode cL_lack 0 = .ok (.aload_n 2, 1) := by decide +kernel
theorem dL_lack_1 : decode cL_lack 1 = .ok (.iconst 0, 1) := by decide +kernel
theorem dL_lack_2 : decode cL_lack 2 = .ok (.aload_n 0, 1) := by decide +kernel
theorem dL_lack_3 : decode cL_lack 3 = .ok (.iload_n 1, 1) := by decide +kernel
theorem dL_lack_4 : decode cL_lack 4 = .ok (.invokevirtual 37, 3) := by decide +kernel
theorem dL_lack_7 : decode cL_lack 7 = .ok (.ifCond .eq 7, 3) := by decide +kernel
theorem dL_lack_10 : decode cL_lack 10 = .ok (.lconst 1, 1) := by decide +kernel
theorem dL_lack_11 : decode cL_lack 11 = .ok (.goto 4, 3) := by decide +kernel
theorem dL_lack_14 : decode cL_lack 14 = .ok (.lconst 0, 1) := by decide +kernel
theorem dL_lack_15 : decode cL_lack 15 = .ok (.lastore, 1) := by decide +kernel
theorem dL_lack_16 : decode cL_lack 16 = .ok (.goto 6, 3) := by decide +kernel
theorem dL_lack_19 : decode cL_lack 19 = .ok (.astore_n 3, 1) := by decide +kernel
theorem dL_lack_20 : decode cL_lack 20 = .ok (.iconst 1, 1) := by decide +kernel
theorem dL_lack_21 : decode cL_lack 21 = .ok (.ireturn, 1) := by decide +kernel
theorem dL_lack_22 : decode cL_lack 22 = .ok (.iconst 0, 1) := by decide +kernel
theorem dL_lack_23 : decode cL_lack 23 = .ok (.ireturn, 1) := by decide +kernel
theorem dL_size_0 : decode cL_size 0 = .ok (.aload_n 2, 1) := by decide +kernel
theorem dL_size_1 : decode cL_size 1 = .ok (.iconst 0, 1) := by decide +kernel
theorem dL_size_2 : decode cL_size 2 = .ok (.aload_n 0, 1) := by decide +kernel
theorem dL_size_3 : decode cL_size 3 = .ok (.iload_n 1, 1) := by decide +kernel
theorem dL_size_4 : decode cL_size 4 = .ok (.invokevirtual 41, 3) := by decide +kernel
theorem dL_size_7 : decode cL_size 7 = .ok (.i2l, 1) := by decide +kernel
theorem dL_size_8 : decode cL_size 8 = .ok (.lastore, 1) := by decide +kernel
theorem dL_size_9 : decode cL_size 9 = .ok (.goto 6, 3) := by decide +kernel
theorem dL_size_12 : decode cL_size 12 = .ok (.astore_n 3, 1) := by decide +kernel
theorem dL_size_13 : decode cL_size 13 = .ok (.iconst 1, 1) := by decide +kernel
theorem dL_size_14 : decode cL_size 14 = .ok (.ireturn, 1) := by decide +kernel
theorem dL_size_15 : decode cL_size 15 = .ok (.iconst 0, 1) := by decide +kernel
theorem dL_size_16 : decode cL_size 16 = .ok (.ireturn, 1) := by decide +kernel
theorem dL_insert_0 : decode cL_insert 0 = .ok (.aload_n 3, 1) := by decide +kernel
theorem dL_insert_1 : decode cL_insert 1 = .ok (.iconst 0, 1) := by decide +kernel
theorem dL_insert_2 : decode cL_insert 2 = .ok (.aload_n 0, 1) := by decide +kernel
theorem dL_insert_3 : decode cL_insert 3 = .ok (.iload_n 1, 1) := by decide +kernel
theorem dL_insert_4 : decode cL_insert 4 = .ok (.iload_n 2, 1) := by decide +kernel
theorem dL_insert_5 : decode cL_insert 5 = .ok (.invokevirtual 44, 3) := by decide +kernel
theorem dL_insert_8 : decode cL_insert 8 = .ok (.i2l, 1) := by decide +kernel
theorem dL_insert_9 : decode cL_insert 9 = .ok (.lastore, 1) := by decide +kernel
theorem dL_insert_10 : decode cL_insert 10 = .ok (.goto 15, 3) := by decide +kernel
theorem dL_insert_13 : decode cL_insert 13 = .ok (.astore 4, 2) := by decide +kernel
theorem dL_insert_15 : decode cL_insert 15 = .ok (.iconst 1, 1) := by decide +kernel
theorem dL_insert_16 : decode cL_insert 16 = .ok (.ireturn, 1) := by decide +kernel
theorem dL_insert_17 : decode cL_insert 17 = .ok (.astore 4, 2) := by decide +kernel
theorem dL_insert_19 : decode cL_insert 19 = .ok (.iconst 2, 1) := by decide +kernel
theorem dL_insert_20 : decode cL_insert 20 = .ok (.ireturn, 1) := by decide +kernel
theorem dL_insert_21 : decode cL_insert 21 = .ok (.astore 4, 2) := by decide +kernel
theorem dL_insert_23 : decode cL_insert 23 = .ok (.iconst 3, 1) := by decide +kernel
theorem dL_insert_24 : decode cL_insert 24 = .ok (.ireturn, 1) := by decide +kernel
theorem dL_insert_25 : decode cL_insert 25 = .ok (.iconst 0, 1) := by decide +kernel
theorem dL_insert_26 : decode cL_insert 26 = .ok (.ireturn, 1) := by decide +kernel
theorem dL_cut_0 : decode cL_cut 0 = .ok (.aload_n 2, 1) := by decide +kernel
theorem dL_cut_1 : decode cL_cut 1 = .ok (.iconst 0, 1) := by decide +kernel
theorem dL_cut_2 : decode cL_cut 2 = .ok (.aload_n 0, 1) := by decide +kernel
theorem dL_cut_3 : decode cL_cut 3 = .ok (.iload_n 1, 1) := by decide +kernel
theorem dL_cut_4 : decode cL_cut 4 = .ok (.invokevirtual 47, 3) := by decide +kernel
theorem dL_cut_7 : decode cL_cut 7 = .ok (.i2l, 1) := by decide +kernel
theorem dL_cut_8 : decode cL_cut 8 = .ok (.lastore, 1) := by decide +kernel
theorem dL_cut_9 : decode cL_cut 9 = .ok (.goto 6, 3) := by decide +kernel
theorem dL_cut_12 : decode cL_cut 12 = .ok (.astore_n 3, 1) := by decide +kernel
theorem dL_cut_13 : decode cL_cut 13 = .ok (.iconst 1, 1) := by decide +kernel
theorem dL_cut_14 : decode cL_cut 14 = .ok (.ireturn, 1) := by decide +kernel
theorem dL_cut_15 : decode cL_cut 15 = .ok (.iconst 0, 1) := by decide +kernel
theorem dL_cut_16 : decode cL_cut 16 = .ok (.ireturn, 1) := by decide +kernel
theorem dL_setTongue_0 : decode cL_setTongue 0 = .ok (.aload_n 2, 1) := by decide +kernel
theorem dL_setTongue_1 : decode cL_setTongue 1 = .ok (.iconst 0, 1) := by decide +kernel
theorem dL_setTongue_2 : decode cL_setTongue 2 = .ok (.aload_n 0, 1) := by decide +kernel
theorem dL_setTongue_3 : decode cL_setTongue 3 = .ok (.iload_n 1, 1) := by decide +kernel
theorem dL_setTongue_4 : decode cL_setTongue 4 = .ok (.invokevirtual 50, 3) := by decide +kernel
theorem dL_setTongue_7 : decode cL_setTongue 7 = .ok (.i2l, 1) := by decide +kernel
theorem dL_setTongue_8 : decode cL_setTongue 8 = .ok (.lastore, 1) := by decide +kernel
theorem dL_setTongue_9 : decode cL_setTongue 9 = .ok (.goto 6, 3) := by decide +kernel
theorem dL_setTongue_12 : decode cL_setTongue 12 = .ok (.astore_n 3, 1) := by decide +kernel
theorem dL_setTongue_13 : decode cL_setTongue 13 = .ok (.iconst 1, 1) := by decide +kernel
theorem dL_setTongue_14 : decode cL_setTongue 14 = .ok (.ireturn, 1) := by decide +kernel
theorem dL_setTongue_15 : decode cL_setTongue 15 = .ok (.iconst 0, 1) := by decide +kernel
theorem dL_setTongue_16 : decode cL_setTongue 16 = .ok (.ireturn, 1) := by decide +kernel
theorem dL_setExtra_0 : decode cL_setExtra 0 = .ok (.aload 4, 2) := by decide +kernel
theorem dL_setExtra_2 : decode cL_setExtra 2 = .ok (.iconst 0, 1) := by decide +kernel
theorem dL_setExtra_3 : decode cL_setExtra 3 = .ok (.aload_n 0, 1) := by decide +kernel
theorem dL_setExtra_4 : decode cL_setExtra 4 = .ok (.iload_n 1, 1) := by decide +kernel
theorem dL_setExtra_5 : decode cL_setExtra 5 = .ok (.iload_n 2, 1) := by decide +kernel
theorem dL_setExtra_6 : decode cL_setExtra 6 = .ok (.iload_n 3, 1) := by decide +kernel
theorem dL_setExtra_7 : decode cL_setExtra 7 = .ok (.invokevirtual 53, 3) := by decide +kernel
theorem dL_setExtra_10 : decode cL_setExtra 10 = .ok (.i2l, 1) := by decide +kernel
theorem dL_setExtra_11 : decode cL_setExtra 11 = .ok (.lastore, 1) := by decide +kernel
theorem dL_setExtra_12 : decode cL_setExtra 12 = .ok (.goto 11, 3) := by decide +kernel
theorem dL_setExtra_15 : decode cL_setExtra 15 = .ok (.astore 5, 2) := by decide +kernel
theorem dL_setExtra_17 : decode cL_setExtra 17 = .ok (.iconst 1, 1) := by decide +kernel
theorem dL_setExtra_18 : decode cL_setExtra 18 = .ok (.ireturn, 1) := by decide +kernel
theorem dL_setExtra_19 : decode cL_setExtra 19 = .ok (.astore 5, 2) := by decide +kernel
theorem dL_setExtra_21 : decode cL_setExtra 21 = .ok (.iconst 2, 1) := by decide +kernel
theorem dL_setExtra_22 : decode cL_setExtra 22 = .ok (.ireturn, 1) := by decide +kernel
theorem dL_setExtra_23 : decode cL_setExtra 23 = .ok (.iconst 0, 1) := by decide +kernel
theorem dL_setExtra_24 : decode cL_setExtra 24 = .ok (.ireturn, 1) := by decide +kernel
theorem dL_glyph_0 : decode cL_glyph 0 = .ok (.aload_n 2, 1) := by decide +kernel
theorem dL_glyph_1 : decode cL_glyph 1 = .ok (.iconst 0, 1) := by decide +kernel
theorem dL_glyph_2 : decode cL_glyph 2 = .ok (.aload_n 0, 1) := by decide +kernel
theorem dL_glyph_3 : decode cL_glyph 3 = .ok (.iload_n 1, 1) := by decide +kernel
theorem dL_glyph_4 : decode cL_glyph 4 = .ok (.invokevirtual 57, 3) := by decide +kernel
theorem dL_glyph_7 : decode cL_glyph 7 = .ok (.i2l, 1) := by decide +kernel
theorem dL_glyph_8 : decode cL_glyph 8 = .ok (.lastore, 1) := by decide +kernel
theorem dL_glyph_9 : decode cL_glyph 9 = .ok (.goto 6, 3) := by decide +kernel
theorem dL_glyph_12 : decode cL_glyph 12 = .ok (.astore_n 3, 1) := by decide +kernel
theorem dL_glyph_13 : decode cL_glyph 13 = .ok (.iconst 1, 1) := by decide +kernel
theorem dL_glyph_14 : decode cL_glyph 14 = .ok (.ireturn, 1) := by decide +kernel
theorem dL_glyph_15 : decode cL_glyph 15 = .ok (.iconst 0, 1) := by decide +kernel
theorem dL_glyph_16 : decode cL_glyph 16 = .ok (.ireturn, 1) := by decide +kernel
theorem dL_glyphAnew_0 : decode cL_glyphAnew 0 = .ok (.aload_n 2, 1) := by decide +kernel
theorem dL_glyphAnew_1 : decode cL_glyphAnew 1 = .ok (.iconst 0, 1) := by decide +kernel
theorem dL_glyphAnew_2 : decode cL_glyphAnew 2 = .ok (.aload_n 0, 1) := by decide +kernel
theorem dL_glyphAnew_3 : decode cL_glyphAnew 3 = .ok (.iload_n 1, 1) := by decide +kernel
theorem dL_glyphAnew_4 : decode cL_glyphAnew 4 = .ok (.invokevirtual 60, 3) := by decide +kernel
theorem dL_glyphAnew_7 : decode cL_glyphAnew 7 = .ok (.i2l, 1) := by decide +kernel
theorem dL_glyphAnew_8 : decode cL_glyphAnew 8 = .ok (.lastore, 1) := by decide +kernel
theorem dL_glyphAnew_9 : decode cL_glyphAnew 9 = .ok (.goto 6, 3) := by decide +kernel
theorem dL_glyphAnew_12 : decode cL_glyphAnew 12 = .ok (.astore_n 3, 1) := by decide +kernel
theorem dL_glyphAnew_13 : decode cL_glyphAnew 13 = .ok (.iconst 1, 1) := by decide +kernel
theorem dL_glyphAnew_14 : decode cL_glyphAnew 14 = .ok (.ireturn, 1) := by decide +kernel
theorem dL_glyphAnew_15 : decode cL_glyphAnew 15 = .ok (.iconst 0, 1) := by decide +kernel
theorem dL_glyphAnew_16 : decode cL_glyphAnew 16 = .ok (.ireturn, 1) := by decide +kernel
theorem dL_cluster_0 : decode cL_cluster 0 = .ok (.aload_n 2, 1) := by decide +kernel
theorem dL_cluster_1 : decode cL_cluster 1 = .ok (.iconst 0, 1) := by decide +kernel
theorem dL_cluster_2 : decode cL_cluster 2 = .ok (.aload_n 0, 1) := by decide +kernel
theorem dL_cluster_3 : decode cL_cluster 3 = .ok (.iload_n 1, 1) := by decide +kernel
theorem dL_cluster_4 : decode cL_cluster 4 = .ok (.invokevirtual 63, 3) := by decide +kernel
theorem dL_cluster_7 : decode cL_cluster 7 = .ok (.i2l, 1) := by decide +kernel
theorem dL_cluster_8 : decode cL_cluster 8 = .ok (.lastore, 1) := by decide +kernel
theorem dL_cluster_9 : decode cL_cluster 9 = .ok (.goto 6, 3) := by decide +kernel
theorem dL_cluster_12 : decode cL_cluster 12 = .ok (.astore_n 3, 1) := by decide +kernel
theorem dL_cluster_13 : decode cL_cluster 13 = .ok (.iconst 1, 1) := by decide +kernel
theorem dL_cluster_14 : decode cL_cluster 14 = .ok (.ireturn, 1) := by decide +kernel
theorem dL_cluster_15 : decode cL_cluster 15 = .ok (.iconst 0, 1) := by decide +kernel
theorem dL_cluster_16 : decode cL_cluster 16 = .ok (.ireturn, 1) := by decide +kernel
theorem dL_place_0 : decode cL_place 0 = .ok (.aload_n 3, 1) := by decide +kernel
theorem dL_place_1 : decode cL_place 1 = .ok (.iconst 0, 1) := by decide +kernel
theorem dL_place_2 : decode cL_place 2 = .ok (.aload_n 0, 1) := by decide +kernel
theorem dL_place_3 : decode cL_place 3 = .ok (.iload_n 1, 1) := by decide +kernel
theorem dL_place_4 : decode cL_place 4 = .ok (.iload_n 2, 1) := by decide +kernel
theorem dL_place_5 : decode cL_place 5 = .ok (.invokevirtual 66, 3) := by decide +kernel
theorem dL_place_8 : decode cL_place 8 = .ok (.i2l, 1) := by decide +kernel
theorem dL_place_9 : decode cL_place 9 = .ok (.lastore, 1) := by decide +kernel
theorem dL_place_10 : decode cL_place 10 = .ok (.goto 11, 3) := by decide +kernel
theorem dL_place_13 : decode cL_place 13 = .ok (.astore 4, 2) := by decide +kernel
theorem dL_place_15 : decode cL_place 15 = .ok (.iconst 1, 1) := by decide +kernel
theorem dL_place_16 : decode cL_place 16 = .ok (.ireturn, 1) := by decide +kernel
theorem dL_place_17 : decode cL_place 17 = .ok (.astore 4, 2) := by decide +kernel
theorem dL_place_19 : decode cL_place 19 = .ok (.iconst 2, 1) := by decide +kernel
theorem dL_place_20 : decode cL_place 20 = .ok (.ireturn, 1) := by decide +kernel
theorem dL_place_21 : decode cL_place 21 = .ok (.iconst 0, 1) := by decide +kernel
theorem dL_place_22 : decode cL_place 22 = .ok (.ireturn, 1) := by decide +kernel
theorem dL_form_0 : decode cL_form 0 = .ok (.aload_n 2, 1) := by decide +kernel
theorem dL_form_1 : decode cL_form 1 = .ok (.iconst 0, 1) := by decide +kernel
theorem dL_form_2 : decode cL_form 2 = .ok (.aload_n 0, 1) := by decide +kernel
theorem dL_form_3 : decode cL_form 3 = .ok (.iload_n 1, 1) := by decide +kernel
theorem dL_form_4 : decode cL_form 4 = .ok (.invokevirtual 69, 3) := by decide +kernel
theorem dL_form_7 : decode cL_form 7 = .ok (.i2l, 1) := by decide +kernel
theorem dL_form_8 : decode cL_form 8 = .ok (.lastore, 1) := by decide +kernel
theorem dL_form_9 : decode cL_form 9 = .ok (.goto 6, 3) := by decide +kernel
theorem dL_form_12 : decode cL_form 12 = .ok (.astore_n 3, 1) := by decide +kernel
theorem dL_form_13 : decode cL_form 13 = .ok (.iconst 1, 1) := by decide +kernel
theorem dL_form_14 : decode cL_form 14 = .ok (.ireturn, 1) := by decide +kernel
theorem dL_form_15 : decode cL_form 15 = .ok (.iconst 0, 1) := by decide +kernel
theorem dL_form_16 : decode cL_form 16 = .ok (.ireturn, 1) := by decide +kernel
theorem dL_run_0 : decode cL_run 0 = .ok (.aload_n 2, 1) := by decide +kernel
theorem dL_run_1 : decode cL_run 1 = .ok (.iconst 0, 1) := by decide +kernel
theorem dL_run_2 : decode cL_run 2 = .ok (.aload_n 0, 1) := by decide +kernel
theorem dL_run_3 : decode cL_run 3 = .ok (.iload_n 1, 1) := by decide +kernel
theorem dL_run_4 : decode cL_run 4 = .ok (.invokevirtual 72, 3) := by decide +kernel
theorem dL_run_7 : decode cL_run 7 = .ok (.i2l, 1) := by decide +kernel
theorem dL_run_8 : decode cL_run 8 = .ok (.lastore, 1) := by decide +kernel
theorem dL_run_9 : decode cL_run 9 = .ok (.goto 6, 3) := by decide +kernel
theorem dL_run_12 : decode cL_run 12 = .ok (.astore_n 3, 1) := by decide +kernel
theorem dL_run_13 : decode cL_run 13 = .ok (.iconst 1, 1) := by decide +kernel
theorem dL_run_14 : decode cL_run 14 = .ok (.ireturn, 1) := by decide +kernel
theorem dL_run_15 : decode cL_run 15 = .ok (.iconst 0, 1) := by decide +kernel
theorem dL_run_16 : decode cL_run 16 = .ok (.ireturn, 1) := by decide +kernel
theorem dL_caret_0 : decode cL_caret 0 = .ok (.aload_n 2, 1) := by decide +kernel
theorem dL_caret_1 : decode cL_caret 1 = .ok (.iconst 0, 1) := by decide +kernel
theorem dL_caret_2 : decode cL_caret 2 = .ok (.aload_n 0, 1) := by decide +kernel
theorem dL_caret_3 : decode cL_caret 3 = .ok (.iload_n 1, 1) := by decide +kernel
theorem dL_caret_4 : decode cL_caret 4 = .ok (.invokevirtual 75, 3) := by decide +kernel
theorem dL_caret_7 : decode cL_caret 7 = .ok (.i2l, 1) := by decide +kernel
theorem dL_caret_8 : decode cL_caret 8 = .ok (.lastore, 1) := by decide +kernel
theorem dL_caret_9 : decode cL_caret 9 = .ok (.goto 6, 3) := by decide +kernel
theorem dL_caret_12 : decode cL_caret 12 = .ok (.astore_n 3, 1) := by decide +kernel
theorem dL_caret_13 : decode cL_caret 13 = .ok (.iconst 1, 1) := by decide +kernel
theorem dL_caret_14 : decode cL_caret 14 = .ok (.ireturn, 1) := by decide +kernel
theorem dL_caret_15 : decode cL_caret 15 = .ok (.iconst 0, 1) := by decide +kernel
theorem dL_caret_16 : decode cL_caret 16 = .ok (.ireturn, 1) := by decide +kernel
theorem dL_hit_0 : decode cL_hit 0 = .ok (.aload_n 2, 1) := by decide +kernel
theorem dL_hit_1 : decode cL_hit 1 = .ok (.iconst 0, 1) := by decide +kernel
theorem dL_hit_2 : decode cL_hit 2 = .ok (.aload_n 0, 1) := by decide +kernel
theorem dL_hit_3 : decode cL_hit 3 = .ok (.iload_n 1, 1) := by decide +kernel
theorem dL_hit_4 : decode cL_hit 4 = .ok (.invokevirtual 78, 3) := by decide +kernel
theorem dL_hit_7 : decode cL_hit 7 = .ok (.i2l, 1) := by decide +kernel
theorem dL_hit_8 : decode cL_hit 8 = .ok (.lastore, 1) := by decide +kernel
theorem dL_hit_9 : decode cL_hit 9 = .ok (.goto 6, 3) := by decide +kernel
theorem dL_hit_12 : decode cL_hit 12 = .ok (.astore_n 3, 1) := by decide +kernel
theorem dL_hit_13 : decode cL_hit 13 = .ok (.iconst 1, 1) := by decide +kernel
theorem dL_hit_14 : decode cL_hit 14 = .ok (.ireturn, 1) := by decide +kernel
theorem dL_hit_15 : decode cL_hit 15 = .ok (.iconst 0, 1) := by decide +kernel
theorem dL_hit_16 : decode cL_hit 16 = .ok (.ireturn, 1) := by decide +kernel
theorem dL_isSafe_0 : decode cL_isSafe 0 = .ok (.aload_n 2, 1) := by decide +kernel
theorem dL_isSafe_1 : decode cL_isSafe 1 = .ok (.iconst 0, 1) := by decide +kernel
theorem dL_isSafe_2 : decode cL_isSafe 2 = .ok (.aload_n 0, 1) := by decide +kernel
theorem dL_isSafe_3 : decode cL_isSafe 3 = .ok (.iload_n 1, 1) := by decide +kernel
theorem dL_isSafe_4 : decode cL_isSafe 4 = .ok (.invokevirtual 81, 3) := by decide +kernel
theorem dL_isSafe_7 : decode cL_isSafe 7 = .ok (.ifCond .eq 7, 3) := by decide +kernel
theorem dL_isSafe_10 : decode cL_isSafe 10 = .ok (.lconst 1, 1) := by decide +kernel
theorem dL_isSafe_11 : decode cL_isSafe 11 = .ok (.goto 4, 3) := by decide +kernel
theorem dL_isSafe_14 : decode cL_isSafe 14 = .ok (.lconst 0, 1) := by decide +kernel
theorem dL_isSafe_15 : decode cL_isSafe 15 = .ok (.lastore, 1) := by decide +kernel
theorem dL_isSafe_16 : decode cL_isSafe 16 = .ok (.goto 6, 3) := by decide +kernel
theorem dL_isSafe_19 : decode cL_isSafe 19 = .ok (.astore_n 3, 1) := by decide +kernel
theorem dL_isSafe_20 : decode cL_isSafe 20 = .ok (.iconst 1, 1) := by decide +kernel
theorem dL_isSafe_21 : decode cL_isSafe 21 = .ok (.ireturn, 1) := by decide +kernel
theorem dL_isSafe_22 : decode cL_isSafe 22 = .ok (.iconst 0, 1) := by decide +kernel
theorem dL_isSafe_23 : decode cL_isSafe 23 = .ok (.ireturn, 1) := by decide +kernel
theorem dL_fill_0 : decode cL_fill 0 = .ok (.aload_n 2, 1) := by decide +kernel
theorem dL_fill_1 : decode cL_fill 1 = .ok (.iconst 0, 1) := by decide +kernel
theorem dL_fill_2 : decode cL_fill 2 = .ok (.aload_n 0, 1) := by decide +kernel
theorem dL_fill_3 : decode cL_fill 3 = .ok (.iload_n 1, 1) := by decide +kernel
theorem dL_fill_4 : decode cL_fill 4 = .ok (.invokevirtual 84, 3) := by decide +kernel
theorem dL_fill_7 : decode cL_fill 7 = .ok (.i2l, 1) := by decide +kernel
theorem dL_fill_8 : decode cL_fill 8 = .ok (.lastore, 1) := by decide +kernel
theorem dL_fill_9 : decode cL_fill 9 = .ok (.goto 6, 3) := by decide +kernel
theorem dL_fill_12 : decode cL_fill 12 = .ok (.astore_n 3, 1) := by decide +kernel
theorem dL_fill_13 : decode cL_fill 13 = .ok (.iconst 1, 1) := by decide +kernel
theorem dL_fill_14 : decode cL_fill 14 = .ok (.ireturn, 1) := by decide +kernel
theorem dL_fill_15 : decode cL_fill 15 = .ok (.iconst 0, 1) := by decide +kernel
theorem dL_fill_16 : decode cL_fill 16 = .ok (.ireturn, 1) := by decide +kernel
theorem dL_filling_0 : decode cL_filling 0 = .ok (.aload_n 3, 1) := by decide +kernel
theorem dL_filling_1 : decode cL_filling 1 = .ok (.iconst 0, 1) := by decide +kernel
theorem dL_filling_2 : decode cL_filling 2 = .ok (.aload_n 0, 1) := by decide +kernel
theorem dL_filling_3 : decode cL_filling 3 = .ok (.iload_n 1, 1) := by decide +kernel
theorem dL_filling_4 : decode cL_filling 4 = .ok (.iload_n 2, 1) := by decide +kernel
theorem dL_filling_5 : decode cL_filling 5 = .ok (.invokevirtual 87, 3) := by decide +kernel
theorem dL_filling_8 : decode cL_filling 8 = .ok (.i2l, 1) := by decide +kernel
theorem dL_filling_9 : decode cL_filling 9 = .ok (.lastore, 1) := by decide +kernel
theorem dL_filling_10 : decode cL_filling 10 = .ok (.goto 11, 3) := by decide +kernel
theorem dL_filling_13 : decode cL_filling 13 = .ok (.astore 4, 2) := by decide +kernel
theorem dL_filling_15 : decode cL_filling 15 = .ok (.iconst 1, 1) := by decide +kernel
theorem dL_filling_16 : decode cL_filling 16 = .ok (.ireturn, 1) := by decide +kernel
theorem dL_filling_17 : decode cL_filling 17 = .ok (.astore 4, 2) := by decide +kernel
theorem dL_filling_19 : decode cL_filling 19 = .ok (.iconst 2, 1) := by decide +kernel
theorem dL_filling_20 : decode cL_filling 20 = .ok (.ireturn, 1) := by decide +kernel
theorem dL_filling_21 : decode cL_filling 21 = .ok (.iconst 0, 1) := by decide +kernel
theorem dL_filling_22 : decode cL_filling 22 = .ok (.ireturn, 1) := by decide +kernel
theorem dL_law_0 : decode cL_law 0 = .ok (.new 8, 3) := by decide +kernel
theorem dL_law_3 : decode cL_law 3 = .ok (.dup, 1) := by decide +kernel
theorem dL_law_4 : decode cL_law 4 = .ok (.invokespecial 90, 3) := by decide +kernel
theorem dL_law_7 : decode cL_law 7 = .ok (.astore_n 1, 1) := by decide +kernel
theorem dL_law_8 : decode cL_law 8 = .ok (.new 91, 3) := by decide +kernel
theorem dL_law_11 : decode cL_law 11 = .ok (.dup, 1) := by decide +kernel
theorem dL_law_12 : decode cL_law 12 = .ok (.invokespecial 93, 3) := by decide +kernel
theorem dL_law_15 : decode cL_law 15 = .ok (.astore_n 2, 1) := by decide +kernel
theorem dL_law_16 : decode cL_law 16 = .ok (.iconst 1, 1) := by decide +kernel
theorem dL_law_17 : decode cL_law 17 = .ok (.newarray .long, 2) := by decide +kernel
theorem dL_law_19 : decode cL_law 19 = .ok (.astore_n 3, 1) := by decide +kernel
theorem dL_law_20 : decode cL_law 20 = .ok (.iconst 0, 1) := by decide +kernel
theorem dL_law_21 : decode cL_law 21 = .ok (.istore 4, 2) := by decide +kernel
theorem dL_law_23 : decode cL_law 23 = .ok (.iload 4, 2) := by decide +kernel
theorem dL_law_25 : decode cL_law 25 = .ok (.aload_n 0, 1) := by decide +kernel
theorem dL_law_26 : decode cL_law 26 = .ok (.arraylength, 1) := by decide +kernel
theorem dL_law_27 : decode cL_law 27 = .ok (.bipush 8, 2) := by decide +kernel
theorem dL_law_29 : decode cL_law 29 = .ok (.isub, 1) := by decide +kernel
theorem dL_law_30 : decode cL_law 30 = .ok (.if_icmp .gt 1663, 3) := by decide +kernel
theorem dL_law_33 : decode cL_law 33 = .ok (.aload_n 0, 1) := by decide +kernel
theorem dL_law_34 : decode cL_law 34 = .ok (.iload 4, 2) := by decide +kernel
theorem dL_law_36 : decode cL_law 36 = .ok (.iaload, 1) := by decide +kernel
theorem dL_law_37 : decode cL_law 37 = .ok (.bipush 31, 2) := by decide +kernel
theorem dL_law_39 : decode cL_law 39 = .ok (.iand, 1) := by decide +kernel
theorem dL_law_40 : decode cL_law 40 = .ok (.tableswitch 1647 0 23 #[112, 168, 272, 404, 472, 540, 608, 671, 727, 795, 851, 907, 987, 1000, 1056, 1112, 1168, 1236, 1292, 1348, 1404, 1460, 1523, 1579], 112) := by decide +kernel
theorem dL_law_152 : decode cL_law 152 = .ok (.aload_n 1, 1) := by decide +kernel
theorem dL_law_153 : decode cL_law 153 = .ok (.aload_n 0, 1) := by decide +kernel
theorem dL_law_154 : decode cL_law 154 = .ok (.iload 4, 2) := by decide +kernel
theorem dL_law_156 : decode cL_law 156 = .ok (.iconst 1, 1) := by decide +kernel
theorem dL_law_157 : decode cL_law 157 = .ok (.iadd, 1) := by decide +kernel
theorem dL_law_158 : decode cL_law 158 = .ok (.iaload, 1) := by decide +kernel
theorem dL_law_159 : decode cL_law 159 = .ok (.aload_n 3, 1) := by decide +kernel
theorem dL_law_160 : decode cL_law 160 = .ok (.invokestatic 94, 3) := by decide +kernel
theorem dL_law_163 : decode cL_law 163 = .ok (.istore 5, 2) := by decide +kernel
theorem dL_law_165 : decode cL_law 165 = .ok (.aload_n 2, 1) := by decide +kernel
theorem dL_law_166 : decode cL_law 166 = .ok (.aload_n 0, 1) := by decide +kernel
theorem dL_law_167 : decode cL_law 167 = .ok (.iload 4, 2) := by decide +kernel
theorem dL_law_169 : decode cL_law 169 = .ok (.iconst 1, 1) := by decide +kernel
theorem dL_law_170 : decode cL_law 170 = .ok (.iadd, 1) := by decide +kernel
theorem dL_law_171 : decode cL_law 171 = .ok (.iaload, 1) := by decide +kernel
theorem dL_law_172 : decode cL_law 172 = .ok (.invokevirtual 99, 3) := by decide +kernel
theorem dL_law_175 : decode cL_law 175 = .ok (.istore 6, 2) := by decide +kernel
theorem dL_law_177 : decode cL_law 177 = .ok (.aload_n 2, 1) := by decide +kernel
theorem dL_law_178 : decode cL_law 178 = .ok (.invokevirtual 100, 3) := by decide +kernel
theorem dL_law_181 : decode cL_law 181 = .ok (.iload 5, 2) := by decide +kernel
theorem dL_law_183 : decode cL_law 183 = .ok (.if_icmp .eq 5, 3) := by decide +kernel
theorem dL_law_186 : decode cL_law 186 = .ok (.iconst 0, 1) := by decide +kernel
theorem dL_law_187 : decode cL_law 187 = .ok (.ireturn, 1) := by decide +kernel
theorem dL_law_188 : decode cL_law 188 = .ok (.iload 5, 2) := by decide +kernel
theorem dL_law_190 : decode cL_law 190 = .ok (.ifCond .ne 15, 3) := by decide +kernel
theorem dL_law_193 : decode cL_law 193 = .ok (.aload_n 3, 1) := by decide +kernel
theorem dL_law_194 : decode cL_law 194 = .ok (.iconst 0, 1) := by decide +kernel
theorem dL_law_195 : decode cL_law 195 = .ok (.laload, 1) := by decide +kernel
theorem dL_law_196 : decode cL_law 196 = .ok (.iload 6, 2) := by decide +kernel
theorem dL_law_198 : decode cL_law 198 = .ok (.i2l, 1) := by decide +kernel
theorem dL_law_199 : decode cL_law 199 = .ok (.lcmp, 1) := by decide +kernel
theorem dL_law_200 : decode cL_law 200 = .ok (.ifCond .eq 5, 3) := by decide +kernel
theorem dL_law_203 : decode cL_law 203 = .ok (.iconst 0, 1) := by decide +kernel
theorem dL_law_204 : decode cL_law 204 = .ok (.ireturn, 1) := by decide +kernel
theorem dL_law_205 : decode cL_law 205 = .ok (.goto 1482, 3) := by decide +kernel
theorem dL_law_208 : decode cL_law 208 = .ok (.aload_n 1, 1) := by decide +kernel
theorem dL_law_209 : decode cL_law 209 = .ok (.aload_n 0, 1) := by decide +kernel
theorem dL_law_210 : decode cL_law 210 = .ok (.iload 4, 2) := by decide +kernel
theorem dL_law_212 : decode cL_law 212 = .ok (.iconst 1, 1) := by decide +kernel
theorem dL_law_213 : decode cL_law 213 = .ok (.iadd, 1) := by decide +kernel
theorem dL_law_214 : decode cL_law 214 = .ok (.iaload, 1) := by decide +kernel
theorem dL_law_215 : decode cL_law 215 = .ok (.aload_n 0, 1) := by decide +kernel
theorem dL_law_216 : decode cL_law 216 = .ok (.iload 4, 2) := by decide +kernel
theorem dL_law_218 : decode cL_law 218 = .ok (.iconst 2, 1) := by decide +kernel
theorem dL_law_219 : decode cL_law 219 = .ok (.iadd, 1) := by decide +kernel
theorem dL_law_220 : decode cL_law 220 = .ok (.iaload, 1) := by decide +kernel
theorem dL_law_221 : decode cL_law 221 = .ok (.aload_n 0, 1) := by decide +kernel
theorem dL_law_222 : decode cL_law 222 = .ok (.iload 4, 2) := by decide +kernel
theorem dL_law_224 : decode cL_law 224 = .ok (.iconst 3, 1) := by decide +kernel
theorem dL_law_225 : decode cL_law 225 = .ok (.iadd, 1) := by decide +kernel
theorem dL_law_226 : decode cL_law 226 = .ok (.iaload, 1) := by decide +kernel
theorem dL_law_227 : decode cL_law 227 = .ok (.aload_n 0, 1) := by decide +kernel
theorem dL_law_228 : decode cL_law 228 = .ok (.iload 4, 2) := by decide +kernel
theorem dL_law_230 : decode cL_law 230 = .ok (.iconst 4, 1) := by decide +kernel
theorem dL_law_231 : decode cL_law 231 = .ok (.iadd, 1) := by decide +kernel
theorem dL_law_232 : decode cL_law 232 = .ok (.iaload, 1) := by decide +kernel
theorem dL_law_233 : decode cL_law 233 = .ok (.aload_n 0, 1) := by decide +kernel
theorem dL_law_234 : decode cL_law 234 = .ok (.iload 4, 2) := by decide +kernel
theorem dL_law_236 : decode cL_law 236 = .ok (.iconst 5, 1) := by decide +kernel
theorem dL_law_237 : decode cL_law 237 = .ok (.iadd, 1) := by decide +kernel
theorem dL_law_238 : decode cL_law 238 = .ok (.iaload, 1) := by decide +kernel
theorem dL_law_239 : decode cL_law 239 = .ok (.aload_n 3, 1) := by decide +kernel
theorem dL_law_240 : decode cL_law 240 = .ok (.invokestatic 104, 3) := by decide +kernel
theorem dL_law_243 : decode cL_law 243 = .ok (.istore 5, 2) := by decide +kernel
theorem dL_law_245 : decode cL_law 245 = .ok (.aload_n 2, 1) := by decide +kernel
theorem dL_law_246 : decode cL_law 246 = .ok (.aload_n 0, 1) := by decide +kernel
theorem dL_law_247 : decode cL_law 247 = .ok (.iload 4, 2) := by decide +kernel
theorem dL_law_249 : decode cL_law 249 = .ok (.iconst 1, 1) := by decide +kernel
theorem dL_law_250 : decode cL_law 250 = .ok (.iadd, 1) := by decide +kernel
theorem dL_law_251 : decode cL_law 251 = .ok (.iaload, 1) := by decide +kernel
theorem dL_law_252 : decode cL_law 252 = .ok (.aload_n 0, 1) := by decide +kernel
theorem dL_law_253 : decode cL_law 253 = .ok (.iload 4, 2) := by decide +kernel
theorem dL_law_255 : decode cL_law 255 = .ok (.iconst 2, 1) := by decide +kernel
theorem dL_law_256 : decode cL_law 256 = .ok (.iadd, 1) := by decide +kernel
theorem dL_law_257 : decode cL_law 257 = .ok (.iaload, 1) := by decide +kernel
theorem dL_law_258 : decode cL_law 258 = .ok (.aload_n 0, 1) := by decide +kernel
theorem dL_law_259 : decode cL_law 259 = .ok (.iload 4, 2) := by decide +kernel
theorem dL_law_261 : decode cL_law 261 = .ok (.iconst 3, 1) := by decide +kernel
theorem dL_law_262 : decode cL_law 262 = .ok (.iadd, 1) := by decide +kernel
theorem dL_law_263 : decode cL_law 263 = .ok (.iaload, 1) := by decide +kernel
