theorem dX12_does_127 : decode cX12_does 127 = .ok (.iconst 1, 1) := by decide +kernel
theorem dX12_does_128 : decode cX12_does 128 = .ok (.iadd, 1) := by decide +kernel
theorem dX12_does_129 : decode cX12_does 129 = .ok (.ireturn, 1) := by decide +kernel
theorem dX12_does_130 : decode cX12_does 130 = .ok (.aload_n 0, 1) := by decide +kernel
theorem dX12_does_131 : decode cX12_does 131 = .ok (.getfield 13, 3) := by decide +kernel
theorem dX12_does_134 : decode cX12_does 134 = .ok (.iload_n 1, 1) := by decide +kernel
theorem dX12_does_135 : decode cX12_does 135 = .ok (.iaload, 1) := by decide +kernel
theorem dX12_does_136 : decode cX12_does 136 = .ok (.iconst 1, 1) := by decide +kernel
theorem dX12_does_137 : decode cX12_does 137 = .ok (.if_icmp .ne 17, 3) := by decide +kernel
theorem dX12_does_140 : decode cX12_does 140 = .ok (.aload_n 0, 1) := by decide +kernel
theorem dX12_does_141 : decode cX12_does 141 = .ok (.iload_n 3, 1) := by decide +kernel
theorem dX12_does_142 : decode cX12_does 142 = .ok (.iload 4, 2) := by decide +kernel
theorem dX12_does_144 : decode cX12_does 144 = .ok (.iload 5, 2) := by decide +kernel
theorem dX12_does_146 : decode cX12_does 146 = .ok (.iload 6, 2) := by decide +kernel
theorem dX12_does_148 : decode cX12_does 148 = .ok (.invokevirtual 309, 3) := by decide +kernel
theorem dX12_does_151 : decode cX12_does 151 = .ok (.goto 15, 3) := by decide +kernel
theorem dX12_does_154 : decode cX12_does 154 = .ok (.aload_n 0, 1) := by decide +kernel
theorem dX12_does_155 : decode cX12_does 155 = .ok (.iload_n 1, 1) := by decide +kernel
theorem dX12_does_156 : decode cX12_does 156 = .ok (.iload_n 3, 1) := by decide +kernel
theorem dX12_does_157 : decode cX12_does 157 = .ok (.iload 4, 2) := by decide +kernel
theorem dX12_does_159 : decode cX12_does 159 = .ok (.iload 5, 2) := by decide +kernel
theorem dX12_does_161 : decode cX12_does 161 = .ok (.iload 6, 2) := by decide +kernel
theorem dX12_does_163 : decode cX12_does 163 = .ok (.invokevirtual 313, 3) := by decide +kernel
theorem dX12_does_166 : decode cX12_does 166 = .ok (.ireturn, 1) := by decide +kernel
theorem dX12_puts_0 : decode cX12_puts 0 = .ok (.iload 4, 2) := by decide +kernel
theorem dX12_puts_2 : decode cX12_puts 2 = .ok (.bipush (-100), 2) := by decide +kernel
theorem dX12_puts_4 : decode cX12_puts 4 = .ok (.if_icmp .ne 7, 3) := by decide +kernel
theorem dX12_puts_7 : decode cX12_puts 7 = .ok (.iconst 1, 1) := by decide +kernel
theorem dX12_puts_8 : decode cX12_puts 8 = .ok (.goto 4, 3) := by decide +kernel
theorem dX12_puts_11 : decode cX12_puts 11 = .ok (.iconst 2, 1) := by decide +kernel
theorem dX12_puts_12 : decode cX12_puts 12 = .ok (.istore 5, 2) := by decide +kernel
theorem dX12_puts_14 : decode cX12_puts 14 = .ok (.aload_n 0, 1) := by decide +kernel
theorem dX12_puts_15 : decode cX12_puts 15 = .ok (.getfield 235, 3) := by decide +kernel
theorem dX12_puts_18 : decode cX12_puts 18 = .ok (.iload 5, 2) := by decide +kernel
theorem dX12_puts_20 : decode cX12_puts 20 = .ok (.iadd, 1) := by decide +kernel
theorem dX12_puts_21 : decode cX12_puts 21 = .ok (.bipush 64, 2) := by decide +kernel
theorem dX12_puts_23 : decode cX12_puts 23 = .ok (.if_icmp .le 6, 3) := by decide +kernel
theorem dX12_puts_26 : decode cX12_puts 26 = .ok (.bipush (-100), 2) := by decide +kernel
theorem dX12_puts_28 : decode cX12_puts 28 = .ok (.ireturn, 1) := by decide +kernel
theorem dX12_puts_29 : decode cX12_puts 29 = .ok (.aload_n 0, 1) := by decide +kernel
theorem dX12_puts_30 : decode cX12_puts 30 = .ok (.iload_n 1, 1) := by decide +kernel
theorem dX12_puts_31 : decode cX12_puts 31 = .ok (.iload 5, 2) := by decide +kernel
theorem dX12_puts_33 : decode cX12_puts 33 = .ok (.invokevirtual 317, 3) := by decide +kernel
theorem dX12_puts_36 : decode cX12_puts 36 = .ok (.aload_n 0, 1) := by decide +kernel
theorem dX12_puts_37 : decode cX12_puts 37 = .ok (.getfield 63, 3) := by decide +kernel
theorem dX12_puts_40 : decode cX12_puts 40 = .ok (.iload_n 1, 1) := by decide +kernel
theorem dX12_puts_41 : decode cX12_puts 41 = .ok (.iload_n 2, 1) := by decide +kernel
theorem dX12_puts_42 : decode cX12_puts 42 = .ok (.iastore, 1) := by decide +kernel
theorem dX12_puts_43 : decode cX12_puts 43 = .ok (.aload_n 0, 1) := by decide +kernel
theorem dX12_puts_44 : decode cX12_puts 44 = .ok (.getfield 63, 3) := by decide +kernel
theorem dX12_puts_47 : decode cX12_puts 47 = .ok (.iload_n 1, 1) := by decide +kernel
theorem dX12_puts_48 : decode cX12_puts 48 = .ok (.iconst 1, 1) := by decide +kernel
theorem dX12_puts_49 : decode cX12_puts 49 = .ok (.iadd, 1) := by decide +kernel
theorem dX12_puts_50 : decode cX12_puts 50 = .ok (.iload_n 3, 1) := by decide +kernel
theorem dX12_puts_51 : decode cX12_puts 51 = .ok (.iastore, 1) := by decide +kernel
theorem dX12_puts_52 : decode cX12_puts 52 = .ok (.aload_n 0, 1) := by decide +kernel
theorem dX12_puts_53 : decode cX12_puts 53 = .ok (.getfield 63, 3) := by decide +kernel
theorem dX12_puts_56 : decode cX12_puts 56 = .ok (.iload_n 1, 1) := by decide +kernel
theorem dX12_puts_57 : decode cX12_puts 57 = .ok (.iload 5, 2) := by decide +kernel
theorem dX12_puts_59 : decode cX12_puts 59 = .ok (.iadd, 1) := by decide +kernel
theorem dX12_puts_60 : decode cX12_puts 60 = .ok (.iload 4, 2) := by decide +kernel
theorem dX12_puts_62 : decode cX12_puts 62 = .ok (.bipush (-100), 2) := by decide +kernel
theorem dX12_puts_64 : decode cX12_puts 64 = .ok (.if_icmp .ne 7, 3) := by decide +kernel
theorem dX12_puts_67 : decode cX12_puts 67 = .ok (.iload_n 3, 1) := by decide +kernel
theorem dX12_puts_68 : decode cX12_puts 68 = .ok (.goto 5, 3) := by decide +kernel
theorem dX12_puts_71 : decode cX12_puts 71 = .ok (.iload 4, 2) := by decide +kernel
theorem dX12_puts_73 : decode cX12_puts 73 = .ok (.iastore, 1) := by decide +kernel
theorem dX12_puts_74 : decode cX12_puts 74 = .ok (.aload_n 0, 1) := by decide +kernel
theorem dX12_puts_75 : decode cX12_puts 75 = .ok (.dup, 1) := by decide +kernel
theorem dX12_puts_76 : decode cX12_puts 76 = .ok (.getfield 303, 3) := by decide +kernel
theorem dX12_puts_79 : decode cX12_puts 79 = .ok (.aload_n 0, 1) := by decide +kernel
theorem dX12_puts_80 : decode cX12_puts 80 = .ok (.getfield 303, 3) := by decide +kernel
theorem dX12_puts_83 : decode cX12_puts 83 = .ok (.iload_n 1, 1) := by decide +kernel
theorem dX12_puts_84 : decode cX12_puts 84 = .ok (.if_icmp .lt 8, 3) := by decide +kernel
theorem dX12_puts_87 : decode cX12_puts 87 = .ok (.iload 5, 2) := by decide +kernel
theorem dX12_puts_89 : decode cX12_puts 89 = .ok (.goto 4, 3) := by decide +kernel
theorem dX12_puts_92 : decode cX12_puts 92 = .ok (.iconst 0, 1) := by decide +kernel
theorem dX12_puts_93 : decode cX12_puts 93 = .ok (.iadd, 1) := by decide +kernel
theorem dX12_puts_94 : decode cX12_puts 94 = .ok (.putfield 303, 3) := by decide +kernel
theorem dX12_puts_97 : decode cX12_puts 97 = .ok (.iload_n 1, 1) := by decide +kernel
theorem dX12_puts_98 : decode cX12_puts 98 = .ok (.iload 5, 2) := by decide +kernel
theorem dX12_puts_100 : decode cX12_puts 100 = .ok (.iadd, 1) := by decide +kernel
theorem dX12_puts_101 : decode cX12_puts 101 = .ok (.iconst 1, 1) := by decide +kernel
theorem dX12_puts_102 : decode cX12_puts 102 = .ok (.iadd, 1) := by decide +kernel
theorem dX12_puts_103 : decode cX12_puts 103 = .ok (.ireturn, 1) := by decide +kernel
theorem dX12_ligates_0 : decode cX12_ligates 0 = .ok (.aload_n 0, 1) := by decide +kernel
theorem dX12_ligates_1 : decode cX12_ligates 1 = .ok (.iload_n 1, 1) := by decide +kernel
theorem dX12_ligates_2 : decode cX12_ligates 2 = .ok (.iload_n 2, 1) := by decide +kernel
theorem dX12_ligates_3 : decode cX12_ligates 3 = .ok (.invokevirtual 320, 3) := by decide +kernel
theorem dX12_ligates_6 : decode cX12_ligates 6 = .ok (.istore 6, 2) := by decide +kernel
theorem dX12_ligates_8 : decode cX12_ligates 8 = .ok (.iload 6, 2) := by decide +kernel
theorem dX12_ligates_10 : decode cX12_ligates 10 = .ok (.aload_n 0, 1) := by decide +kernel
theorem dX12_ligates_11 : decode cX12_ligates 11 = .ok (.getfield 235, 3) := by decide +kernel
theorem dX12_ligates_14 : decode cX12_ligates 14 = .ok (.if_icmp .ge 13, 3) := by decide +kernel
theorem dX12_ligates_17 : decode cX12_ligates 17 = .ok (.aload_n 0, 1) := by decide +kernel
theorem dX12_ligates_18 : decode cX12_ligates 18 = .ok (.iload_n 3, 1) := by decide +kernel
theorem dX12_ligates_19 : decode cX12_ligates 19 = .ok (.iload 6, 2) := by decide +kernel
theorem dX12_ligates_21 : decode cX12_ligates 21 = .ok (.invokevirtual 288, 3) := by decide +kernel
theorem dX12_ligates_24 : decode cX12_ligates 24 = .ok (.ifCond .ne 6, 3) := by decide +kernel
theorem dX12_ligates_27 : decode cX12_ligates 27 = .ok (.bipush (-100), 2) := by decide +kernel
theorem dX12_ligates_29 : decode cX12_ligates 29 = .ok (.ireturn, 1) := by decide +kernel
theorem dX12_ligates_30 : decode cX12_ligates 30 = .ok (.iload 4, 2) := by decide +kernel
theorem dX12_ligates_32 : decode cX12_ligates 32 = .ok (.bipush (-100), 2) := by decide +kernel
theorem dX12_ligates_34 : decode cX12_ligates 34 = .ok (.if_icmp .ne 8, 3) := by decide +kernel
theorem dX12_ligates_37 : decode cX12_ligates 37 = .ok (.bipush (-100), 2) := by decide +kernel
theorem dX12_ligates_39 : decode cX12_ligates 39 = .ok (.goto 10, 3) := by decide +kernel
theorem dX12_ligates_42 : decode cX12_ligates 42 = .ok (.aload_n 0, 1) := by decide +kernel
theorem dX12_ligates_43 : decode cX12_ligates 43 = .ok (.iload_n 1, 1) := by decide +kernel
theorem dX12_ligates_44 : decode cX12_ligates 44 = .ok (.iload 6, 2) := by decide +kernel
theorem dX12_ligates_46 : decode cX12_ligates 46 = .ok (.invokevirtual 320, 3) := by decide +kernel
theorem dX12_ligates_49 : decode cX12_ligates 49 = .ok (.istore 7, 2) := by decide +kernel
theorem dX12_ligates_51 : decode cX12_ligates 51 = .ok (.iload 4, 2) := by decide +kernel
theorem dX12_ligates_53 : decode cX12_ligates 53 = .ok (.bipush (-100), 2) := by decide +kernel
theorem dX12_ligates_55 : decode cX12_ligates 55 = .ok (.if_icmp .eq 26, 3) := by decide +kernel
theorem dX12_ligates_58 : decode cX12_ligates 58 = .ok (.iload 7, 2) := by decide +kernel
theorem dX12_ligates_60 : decode cX12_ligates 60 = .ok (.aload_n 0, 1) := by decide +kernel
theorem dX12_ligates_61 : decode cX12_ligates 61 = .ok (.getfield 235, 3) := by decide +kernel
theorem dX12_ligates_64 : decode cX12_ligates 64 = .ok (.if_icmp .ge 14, 3) := by decide +kernel
theorem dX12_ligates_67 : decode cX12_ligates 67 = .ok (.aload_n 0, 1) := by decide +kernel
theorem dX12_ligates_68 : decode cX12_ligates 68 = .ok (.iload 4, 2) := by decide +kernel
theorem dX12_ligates_70 : decode cX12_ligates 70 = .ok (.iload 7, 2) := by decide +kernel
theorem dX12_ligates_72 : decode cX12_ligates 72 = .ok (.invokevirtual 288, 3) := by decide +kernel
theorem dX12_ligates_75 : decode cX12_ligates 75 = .ok (.ifCond .ne 6, 3) := by decide +kernel
theorem dX12_ligates_78 : decode cX12_ligates 78 = .ok (.bipush (-100), 2) := by decide +kernel
theorem dX12_ligates_80 : decode cX12_ligates 80 = .ok (.ireturn, 1) := by decide +kernel
theorem dX12_ligates_81 : decode cX12_ligates 81 = .ok (.aload_n 0, 1) := by decide +kernel
theorem dX12_ligates_82 : decode cX12_ligates 82 = .ok (.iload_n 2, 1) := by decide +kernel
theorem dX12_ligates_83 : decode cX12_ligates 83 = .ok (.iload 6, 2) := by decide +kernel
theorem dX12_ligates_85 : decode cX12_ligates 85 = .ok (.iload 7, 2) := by decide +kernel
theorem dX12_ligates_87 : decode cX12_ligates 87 = .ok (.iload 5, 2) := by decide +kernel
theorem dX12_ligates_89 : decode cX12_ligates 89 = .ok (.invokevirtual 323, 3) := by decide +kernel
theorem dX12_ligates_92 : decode cX12_ligates 92 = .ok (.iload_n 2, 1) := by decide +kernel
theorem dX12_ligates_93 : decode cX12_ligates 93 = .ok (.iconst 1, 1) := by decide +kernel
theorem dX12_ligates_94 : decode cX12_ligates 94 = .ok (.iadd, 1) := by decide +kernel
theorem dX12_ligates_95 : decode cX12_ligates 95 = .ok (.ireturn, 1) := by decide +kernel
theorem dX12_doesFirst_0 : decode cX12_doesFirst 0 = .ok (.bipush (-100), 2) := by decide +kernel
theorem dX12_doesFirst_2 : decode cX12_doesFirst 2 = .ok (.istore_n 3, 1) := by decide +kernel
theorem dX12_doesFirst_3 : decode cX12_doesFirst 3 = .ok (.iconst 0, 1) := by decide +kernel
theorem dX12_doesFirst_4 : decode cX12_doesFirst 4 = .ok (.istore 4, 2) := by decide +kernel
theorem dX12_doesFirst_6 : decode cX12_doesFirst 6 = .ok (.iload 4, 2) := by decide +kernel
theorem dX12_doesFirst_8 : decode cX12_doesFirst 8 = .ok (.aload_n 0, 1) := by decide +kernel
theorem dX12_doesFirst_9 : decode cX12_doesFirst 9 = .ok (.getfield 28, 3) := by decide +kernel
theorem dX12_doesFirst_12 : decode cX12_doesFirst 12 = .ok (.iload_n 1, 1) := by decide +kernel
theorem dX12_doesFirst_13 : decode cX12_doesFirst 13 = .ok (.iaload, 1) := by decide +kernel
theorem dX12_doesFirst_14 : decode cX12_doesFirst 14 = .ok (.if_icmp .ge 24, 3) := by decide +kernel
theorem dX12_doesFirst_17 : decode cX12_doesFirst 17 = .ok (.iload_n 3, 1) := by decide +kernel
theorem dX12_doesFirst_18 : decode cX12_doesFirst 18 = .ok (.bipush (-100), 2) := by decide +kernel
theorem dX12_doesFirst_20 : decode cX12_doesFirst 20 = .ok (.if_icmp .ne 18, 3) := by decide +kernel
theorem dX12_doesFirst_23 : decode cX12_doesFirst 23 = .ok (.aload_n 0, 1) := by decide +kernel
theorem dX12_doesFirst_24 : decode cX12_doesFirst 24 = .ok (.iload_n 1, 1) := by decide +kernel
theorem dX12_doesFirst_25 : decode cX12_doesFirst 25 = .ok (.iload 4, 2) := by decide +kernel
theorem dX12_doesFirst_27 : decode cX12_doesFirst 27 = .ok (.iload_n 2, 1) := by decide +kernel
theorem dX12_doesFirst_28 : decode cX12_doesFirst 28 = .ok (.invokevirtual 326, 3) := by decide +kernel
theorem dX12_doesFirst_31 : decode cX12_doesFirst 31 = .ok (.istore_n 3, 1) := by decide +kernel
theorem dX12_doesFirst_32 : decode cX12_doesFirst 32 = .ok (.iinc 4 1, 3) := by decide +kernel
theorem dX12_doesFirst_35 : decode cX12_doesFirst 35 = .ok (.goto (-29), 3) := by decide +kernel
theorem dX12_doesFirst_38 : decode cX12_doesFirst 38 = .ok (.iload_n 3, 1) := by decide +kernel
theorem dX12_doesFirst_39 : decode cX12_doesFirst 39 = .ok (.ireturn, 1) := by decide +kernel
theorem dX12_calls_0 : decode cX12_calls 0 = .ok (.bipush 12, 2) := by decide +kernel
theorem dX12_calls_2 : decode cX12_calls 2 = .ok (.aload_n 0, 1) := by decide +kernel
theorem dX12_calls_3 : decode cX12_calls 3 = .ok (.getfield 279, 3) := by decide +kernel
theorem dX12_calls_6 : decode cX12_calls 6 = .ok (.imul, 1) := by decide +kernel
theorem dX12_calls_7 : decode cX12_calls 7 = .ok (.iload_n 1, 1) := by decide +kernel
theorem dX12_calls_8 : decode cX12_calls 8 = .ok (.iadd, 1) := by decide +kernel
theorem dX12_calls_9 : decode cX12_calls 9 = .ok (.istore_n 3, 1) := by decide +kernel
theorem dX12_calls_10 : decode cX12_calls 10 = .ok (.iload_n 1, 1) := by decide +kernel
theorem dX12_calls_11 : decode cX12_calls 11 = .ok (.aload_n 0, 1) := by decide +kernel
theorem dX12_calls_12 : decode cX12_calls 12 = .ok (.getfield 7, 3) := by decide +kernel
theorem dX12_calls_15 : decode cX12_calls 15 = .ok (.aload_n 0, 1) := by decide +kernel
theorem dX12_calls_16 : decode cX12_calls 16 = .ok (.getfield 279, 3) := by decide +kernel
theorem dX12_calls_19 : decode cX12_calls 19 = .ok (.iaload, 1) := by decide +kernel
theorem dX12_calls_20 : decode cX12_calls 20 = .ok (.if_icmp .ge 29, 3) := by decide +kernel
theorem dX12_calls_23 : decode cX12_calls 23 = .ok (.aload_n 0, 1) := by decide +kernel
theorem dX12_calls_24 : decode cX12_calls 24 = .ok (.getfield 13, 3) := by decide +kernel
theorem dX12_calls_27 : decode cX12_calls 27 = .ok (.iload_n 3, 1) := by decide +kernel
theorem dX12_calls_28 : decode cX12_calls 28 = .ok (.iaload, 1) := by decide +kernel
theorem dX12_calls_29 : decode cX12_calls 29 = .ok (.iconst 3, 1) := by decide +kernel
theorem dX12_calls_30 : decode cX12_calls 30 = .ok (.if_icmp .gt 19, 3) := by decide +kernel
theorem dX12_calls_33 : decode cX12_calls 33 = .ok (.aload_n 0, 1) := by decide +kernel
theorem dX12_calls_34 : decode cX12_calls 34 = .ok (.iload_n 3, 1) := by decide +kernel
theorem dX12_calls_35 : decode cX12_calls 35 = .ok (.iload_n 2, 1) := by decide +kernel
theorem dX12_calls_36 : decode cX12_calls 36 = .ok (.invokevirtual 285, 3) := by decide +kernel
theorem dX12_calls_39 : decode cX12_calls 39 = .ok (.ifCond .ne 10, 3) := by decide +kernel
theorem dX12_calls_42 : decode cX12_calls 42 = .ok (.aload_n 0, 1) := by decide +kernel
theorem dX12_calls_43 : decode cX12_calls 43 = .ok (.iload_n 3, 1) := by decide +kernel
theorem dX12_calls_44 : decode cX12_calls 44 = .ok (.iload_n 2, 1) := by decide +kernel
theorem dX12_calls_45 : decode cX12_calls 45 = .ok (.invokevirtual 329, 3) := by decide +kernel
theorem dX12_calls_48 : decode cX12_calls 48 = .ok (.pop, 1) := by decide +kernel
theorem dX12_calls_49 : decode cX12_calls 49 = .ok (.return_, 1) := by decide +kernel
theorem dX12_doesContext_0 : decode cX12_doesContext 0 = .ok (.aload_n 0, 1) := by decide +kernel
theorem dX12_doesContext_1 : decode cX12_doesContext 1 = .ok (.iload_n 1, 1) := by decide +kernel
theorem dX12_doesContext_2 : decode cX12_doesContext 2 = .ok (.iload_n 2, 1) := by decide +kernel
theorem dX12_doesContext_3 : decode cX12_doesContext 3 = .ok (.iconst 2, 1) := by decide +kernel
theorem dX12_doesContext_4 : decode cX12_doesContext 4 = .ok (.invokevirtual 306, 3) := by decide +kernel
theorem dX12_doesContext_7 : decode cX12_doesContext 7 = .ok (.istore 4, 2) := by decide +kernel
theorem dX12_doesContext_9 : decode cX12_doesContext 9 = .ok (.iload 4, 2) := by decide +kernel
theorem dX12_doesContext_11 : decode cX12_doesContext 11 = .ok (.bipush (-100), 2) := by decide +kernel
theorem dX12_doesContext_13 : decode cX12_doesContext 13 = .ok (.if_icmp .ne 7, 3) := by decide +kernel
theorem dX12_doesContext_16 : decode cX12_doesContext 16 = .ok (.iload_n 3, 1) := by decide +kernel
theorem dX12_doesContext_17 : decode cX12_doesContext 17 = .ok (.goto 9, 3) := by decide +kernel
theorem dX12_doesContext_20 : decode cX12_doesContext 20 = .ok (.aload_n 0, 1) := by decide +kernel
theorem dX12_doesContext_21 : decode cX12_doesContext 21 = .ok (.iload_n 1, 1) := by decide +kernel
theorem dX12_doesContext_22 : decode cX12_doesContext 22 = .ok (.iload_n 3, 1) := by decide +kernel
theorem dX12_doesContext_23 : decode cX12_doesContext 23 = .ok (.invokevirtual 320, 3) := by decide +kernel
theorem dX12_doesContext_26 : decode cX12_doesContext 26 = .ok (.istore 5, 2) := by decide +kernel
theorem dX12_doesContext_28 : decode cX12_doesContext 28 = .ok (.aload_n 0, 1) := by decide +kernel
theorem dX12_doesContext_29 : decode cX12_doesContext 29 = .ok (.aload_n 0, 1) := by decide +kernel
theorem dX12_doesContext_30 : decode cX12_doesContext 30 = .ok (.iload_n 1, 1) := by decide +kernel
theorem dX12_doesContext_31 : decode cX12_doesContext 31 = .ok (.iload_n 2, 1) := by decide +kernel
theorem dX12_doesContext_32 : decode cX12_doesContext 32 = .ok (.iconst 1, 1) := by decide +kernel
theorem dX12_doesContext_33 : decode cX12_doesContext 33 = .ok (.invokevirtual 306, 3) := by decide +kernel
theorem dX12_doesContext_36 : decode cX12_doesContext 36 = .ok (.iload_n 3, 1) := by decide +kernel
theorem dX12_doesContext_37 : decode cX12_doesContext 37 = .ok (.invokevirtual 288, 3) := by decide +kernel
theorem dX12_doesContext_40 : decode cX12_doesContext 40 = .ok (.ifCond .eq 34, 3) := by decide +kernel
theorem dX12_doesContext_43 : decode cX12_doesContext 43 = .ok (.aload_n 0, 1) := by decide +kernel
theorem dX12_doesContext_44 : decode cX12_doesContext 44 = .ok (.iload 4, 2) := by decide +kernel
theorem dX12_doesContext_46 : decode cX12_doesContext 46 = .ok (.iload 5, 2) := by decide +kernel
theorem dX12_doesContext_48 : decode cX12_doesContext 48 = .ok (.invokevirtual 332, 3) := by decide +kernel
theorem dX12_doesContext_51 : decode cX12_doesContext 51 = .ok (.ifCond .eq 23, 3) := by decide +kernel
theorem dX12_doesContext_54 : decode cX12_doesContext 54 = .ok (.aload_n 0, 1) := by decide +kernel
theorem dX12_doesContext_55 : decode cX12_doesContext 55 = .ok (.aload_n 0, 1) := by decide +kernel
theorem dX12_doesContext_56 : decode cX12_doesContext 56 = .ok (.iload_n 1, 1) := by decide +kernel
theorem dX12_doesContext_57 : decode cX12_doesContext 57 = .ok (.iload_n 2, 1) := by decide +kernel
theorem dX12_doesContext_58 : decode cX12_doesContext 58 = .ok (.iconst 0, 1) := by decide +kernel
theorem dX12_doesContext_59 : decode cX12_doesContext 59 = .ok (.invokevirtual 306, 3) := by decide +kernel
theorem dX12_doesContext_62 : decode cX12_doesContext 62 = .ok (.aload_n 0, 1) := by decide +kernel
theorem dX12_doesContext_63 : decode cX12_doesContext 63 = .ok (.iload_n 1, 1) := by decide +kernel
theorem dX12_doesContext_64 : decode cX12_doesContext 64 = .ok (.iload_n 3, 1) := by decide +kernel
theorem dX12_doesContext_65 : decode cX12_doesContext 65 = .ok (.invokevirtual 335, 3) := by decide +kernel
theorem dX12_doesContext_68 : decode cX12_doesContext 68 = .ok (.invokevirtual 332, 3) := by decide +kernel
theorem dX12_doesContext_71 : decode cX12_doesContext 71 = .ok (.ifCond .ne 6, 3) := by decide +kernel
theorem dX12_doesContext_74 : decode cX12_doesContext 74 = .ok (.bipush (-100), 2) := by decide +kernel
theorem dX12_doesContext_76 : decode cX12_doesContext 76 = .ok (.ireturn, 1) := by decide +kernel
theorem dX12_doesContext_77 : decode cX12_doesContext 77 = .ok (.aload_n 0, 1) := by decide +kernel
theorem dX12_doesContext_78 : decode cX12_doesContext 78 = .ok (.aload_n 0, 1) := by decide +kernel
theorem dX12_doesContext_79 : decode cX12_doesContext 79 = .ok (.iload_n 1, 1) := by decide +kernel
theorem dX12_doesContext_80 : decode cX12_doesContext 80 = .ok (.iload_n 2, 1) := by decide +kernel
theorem dX12_doesContext_81 : decode cX12_doesContext 81 = .ok (.iconst 3, 1) := by decide +kernel
theorem dX12_doesContext_82 : decode cX12_doesContext 82 = .ok (.invokevirtual 306, 3) := by decide +kernel
theorem dX12_doesContext_85 : decode cX12_doesContext 85 = .ok (.aload_n 0, 1) := by decide +kernel
theorem dX12_doesContext_86 : decode cX12_doesContext 86 = .ok (.iload_n 1, 1) := by decide +kernel
theorem dX12_doesContext_87 : decode cX12_doesContext 87 = .ok (.iload 5, 2) := by decide +kernel
theorem dX12_doesContext_89 : decode cX12_doesContext 89 = .ok (.invokevirtual 320, 3) := by decide +kernel
theorem dX12_doesContext_92 : decode cX12_doesContext 92 = .ok (.invokevirtual 332, 3) := by decide +kernel
theorem dX12_doesContext_95 : decode cX12_doesContext 95 = .ok (.ifCond .ne 6, 3) := by decide +kernel
theorem dX12_doesContext_98 : decode cX12_doesContext 98 = .ok (.bipush (-100), 2) := by decide +kernel
theorem dX12_doesContext_100 : decode cX12_doesContext 100 = .ok (.ireturn, 1) := by decide +kernel
theorem dX12_doesContext_101 : decode cX12_doesContext 101 = .ok (.aload_n 0, 1) := by decide +kernel
theorem dX12_doesContext_102 : decode cX12_doesContext 102 = .ok (.iload 5, 2) := by decide +kernel
theorem dX12_doesContext_104 : decode cX12_doesContext 104 = .ok (.putfield 303, 3) := by decide +kernel
theorem dX12_doesContext_107 : decode cX12_doesContext 107 = .ok (.aload_n 0, 1) := by decide +kernel
theorem dX12_doesContext_108 : decode cX12_doesContext 108 = .ok (.aload_n 0, 1) := by decide +kernel
theorem dX12_doesContext_109 : decode cX12_doesContext 109 = .ok (.iload_n 1, 1) := by decide +kernel
theorem dX12_doesContext_110 : decode cX12_doesContext 110 = .ok (.iload_n 2, 1) := by decide +kernel
theorem dX12_doesContext_111 : decode cX12_doesContext 111 = .ok (.iconst 5, 1) := by decide +kernel
theorem dX12_doesContext_112 : decode cX12_doesContext 112 = .ok (.invokevirtual 306, 3) := by decide +kernel
theorem dX12_doesContext_115 : decode cX12_doesContext 115 = .ok (.aload_n 0, 1) := by decide +kernel
theorem dX12_doesContext_116 : decode cX12_doesContext 116 = .ok (.iload_n 1, 1) := by decide +kernel
theorem dX12_doesContext_117 : decode cX12_doesContext 117 = .ok (.iload_n 2, 1) := by decide +kernel
theorem dX12_doesContext_118 : decode cX12_doesContext 118 = .ok (.iconst 4, 1) := by decide +kernel
theorem dX12_doesContext_119 : decode cX12_doesContext 119 = .ok (.invokevirtual 306, 3) := by decide +kernel
theorem dX12_doesContext_122 : decode cX12_doesContext 122 = .ok (.ifCond .ne 7, 3) := by decide +kernel
theorem dX12_doesContext_125 : decode cX12_doesContext 125 = .ok (.iload_n 3, 1) := by decide +kernel
theorem dX12_doesContext_126 : decode cX12_doesContext 126 = .ok (.goto 5, 3) := by decide +kernel
theorem dX12_doesContext_129 : decode cX12_doesContext 129 = .ok (.iload 5, 2) := by decide +kernel
theorem dX12_doesContext_131 : decode cX12_doesContext 131 = .ok (.invokevirtual 338, 3) := by decide +kernel
theorem dX12_doesContext_134 : decode cX12_doesContext 134 = .ok (.aload_n 0, 1) := by decide +kernel
theorem dX12_doesContext_135 : decode cX12_doesContext 135 = .ok (.getfield 303, 3) := by decide +kernel
theorem dX12_doesContext_138 : decode cX12_doesContext 138 = .ok (.iload_n 3, 1) := by decide +kernel
theorem dX12_doesContext_139 : decode cX12_doesContext 139 = .ok (.if_icmp .ge 9, 3) := by decide +kernel
theorem dX12_doesContext_142 : decode cX12_doesContext 142 = .ok (.iload_n 3, 1) := by decide +kernel
theorem dX12_doesContext_143 : decode cX12_doesContext 143 = .ok (.iconst 1, 1) := by decide +kernel
theorem dX12_doesContext_144 : decode cX12_doesContext 144 = .ok (.iadd, 1) := by decide +kernel
theorem dX12_doesContext_145 : decode cX12_doesContext 145 = .ok (.goto 9, 3) := by decide +kernel
theorem dX12_doesContext_148 : decode cX12_doesContext 148 = .ok (.aload_n 0, 1) := by decide +kernel
theorem dX12_doesContext_149 : decode cX12_doesContext 149 = .ok (.getfield 303, 3) := by decide +kernel
theorem dX12_doesContext_152 : decode cX12_doesContext 152 = .ok (.iconst 1, 1) := by decide +kernel
theorem dX12_doesContext_153 : decode cX12_doesContext 153 = .ok (.iadd, 1) := by decide +kernel
theorem dX12_doesContext_154 : decode cX12_doesContext 154 = .ok (.ireturn, 1) := by decide +kernel
theorem dX12_contexts_0 : decode cX12_contexts 0 = .ok (.bipush (-100), 2) := by decide +kernel
theorem dX12_contexts_2 : decode cX12_contexts 2 = .ok (.istore_n 3, 1) := by decide +kernel
theorem dX12_contexts_3 : decode cX12_contexts 3 = .ok (.iconst 0, 1) := by decide +kernel
theorem dX12_contexts_4 : decode cX12_contexts 4 = .ok (.istore 4, 2) := by decide +kernel
theorem dX12_contexts_6 : decode cX12_contexts 6 = .ok (.iload 4, 2) := by decide +kernel
theorem dX12_contexts_8 : decode cX12_contexts 8 = .ok (.aload_n 0, 1) := by decide +kernel
theorem dX12_contexts_9 : decode cX12_contexts 9 = .ok (.getfield 28, 3) := by decide +kernel
theorem dX12_contexts_12 : decode cX12_contexts 12 = .ok (.iload_n 1, 1) := by decide +kernel
theorem dX12_contexts_13 : decode cX12_contexts 13 = .ok (.iaload, 1) := by decide +kernel
theorem dX12_contexts_14 : decode cX12_contexts 14 = .ok (.if_icmp .ge 24, 3) := by decide +kernel
theorem dX12_contexts_17 : decode cX12_contexts 17 = .ok (.iload_n 3, 1) := by decide +kernel
theorem dX12_contexts_18 : decode cX12_contexts 18 = .ok (.bipush (-100), 2) := by decide +kernel
theorem dX12_contexts_20 : decode cX12_contexts 20 = .ok (.if_icmp .ne 18, 3) := by decide +kernel
theorem dX12_contexts_23 : decode cX12_contexts 23 = .ok (.aload_n 0, 1) := by decide +kernel
theorem dX12_contexts_24 : decode cX12_contexts 24 = .ok (.iload_n 1, 1) := by decide +kernel
theorem dX12_contexts_25 : decode cX12_contexts 25 = .ok (.iload 4, 2) := by decide +kernel
theorem dX12_contexts_27 : decode cX12_contexts 27 = .ok (.iload_n 2, 1) := by decide +kernel
theorem dX12_contexts_28 : decode cX12_contexts 28 = .ok (.invokevirtual 341, 3) := by decide +kernel
theorem dX12_contexts_31 : decode cX12_contexts 31 = .ok (.istore_n 3, 1) := by decide +kernel
theorem dX12_contexts_32 : decode cX12_contexts 32 = .ok (.iinc 4 1, 3) := by decide +kernel
theorem dX12_contexts_35 : decode cX12_contexts 35 = .ok (.goto (-29), 3) := by decide +kernel
theorem dX12_contexts_38 : decode cX12_contexts 38 = .ok (.iload_n 3, 1) := by decide +kernel
theorem dX12_contexts_39 : decode cX12_contexts 39 = .ok (.ireturn, 1) := by decide +kernel
theorem dX12_goesBack_0 : decode cX12_goesBack 0 = .ok (.aload_n 0, 1) := by decide +kernel
theorem dX12_goesBack_1 : decode cX12_goesBack 1 = .ok (.getfield 235, 3) := by decide +kernel
theorem dX12_goesBack_4 : decode cX12_goesBack 4 = .ok (.iconst 1, 1) := by decide +kernel
theorem dX12_goesBack_5 : decode cX12_goesBack 5 = .ok (.isub, 1) := by decide +kernel
theorem dX12_goesBack_6 : decode cX12_goesBack 6 = .ok (.istore_n 2, 1) := by decide +kernel
theorem dX12_goesBack_7 : decode cX12_goesBack 7 = .ok (.iload_n 2, 1) := by decide +kernel
theorem dX12_goesBack_8 : decode cX12_goesBack 8 = .ok (.ifCond .lt 153, 3) := by decide +kernel
theorem dX12_goesBack_11 : decode cX12_goesBack 11 = .ok (.aload_n 0, 1) := by decide +kernel
theorem dX12_goesBack_12 : decode cX12_goesBack 12 = .ok (.iload_n 1, 1) := by decide +kernel
theorem dX12_goesBack_13 : decode cX12_goesBack 13 = .ok (.iload_n 2, 1) := by decide +kernel
theorem dX12_goesBack_14 : decode cX12_goesBack 14 = .ok (.invokevirtual 285, 3) := by decide +kernel
theorem dX12_goesBack_17 : decode cX12_goesBack 17 = .ok (.ifCond .ne 12, 3) := by decide +kernel
theorem dX12_goesBack_20 : decode cX12_goesBack 20 = .ok (.aload_n 0, 1) := by decide +kernel
theorem dX12_goesBack_21 : decode cX12_goesBack 21 = .ok (.iload_n 1, 1) := by decide +kernel
theorem dX12_goesBack_22 : decode cX12_goesBack 22 = .ok (.iload_n 2, 1) := by decide +kernel
theorem dX12_goesBack_23 : decode cX12_goesBack 23 = .ok (.invokevirtual 344, 3) := by decide +kernel
theorem dX12_goesBack_26 : decode cX12_goesBack 26 = .ok (.ifCond .ne 7, 3) := by decide +kernel
theorem dX12_goesBack_29 : decode cX12_goesBack 29 = .ok (.iconst 1, 1) := by decide +kernel
theorem dX12_goesBack_30 : decode cX12_goesBack 30 = .ok (.goto 4, 3) := by decide +kernel
theorem dX12_goesBack_33 : decode cX12_goesBack 33 = .ok (.iconst 0, 1) := by decide +kernel
theorem dX12_goesBack_34 : decode cX12_goesBack 34 = .ok (.istore_n 3, 1) := by decide +kernel
theorem dX12_goesBack_35 : decode cX12_goesBack 35 = .ok (.iconst 0, 1) := by decide +kernel
theorem dX12_goesBack_36 : decode cX12_goesBack 36 = .ok (.istore 4, 2) := by decide +kernel
theorem dX12_goesBack_38 : decode cX12_goesBack 38 = .ok (.iload 4, 2) := by decide +kernel
theorem dX12_goesBack_40 : decode cX12_goesBack 40 = .ok (.aload_n 0, 1) := by decide +kernel
theorem dX12_goesBack_41 : decode cX12_goesBack 41 = .ok (.getfield 28, 3) := by decide +kernel
theorem dX12_goesBack_44 : decode cX12_goesBack 44 = .ok (.iload_n 1, 1) := by decide +kernel
theorem dX12_goesBack_45 : decode cX12_goesBack 45 = .ok (.iaload, 1) := by decide +kernel
theorem dX12_goesBack_46 : decode cX12_goesBack 46 = .ok (.if_icmp .ge 109, 3) := by decide +kernel
theorem dX12_goesBack_49 : decode cX12_goesBack 49 = .ok (.iload_n 3, 1) := by decide +kernel
theorem dX12_goesBack_50 : decode cX12_goesBack 50 = .ok (.ifCond .ne 105, 3) := by decide +kernel
theorem dX12_goesBack_53 : decode cX12_goesBack 53 = .ok (.aload_n 0, 1) := by decide +kernel
theorem dX12_goesBack_54 : decode cX12_goesBack 54 = .ok (.aload_n 0, 1) := by decide +kernel
theorem dX12_goesBack_55 : decode cX12_goesBack 55 = .ok (.iload_n 1, 1) := by decide +kernel
theorem dX12_goesBack_56 : decode cX12_goesBack 56 = .ok (.iload 4, 2) := by decide +kernel
theorem dX12_goesBack_58 : decode cX12_goesBack 58 = .ok (.iconst 1, 1) := by decide +kernel
theorem dX12_goesBack_59 : decode cX12_goesBack 59 = .ok (.invokevirtual 306, 3) := by decide +kernel
theorem dX12_goesBack_62 : decode cX12_goesBack 62 = .ok (.iload_n 2, 1) := by decide +kernel
theorem dX12_goesBack_63 : decode cX12_goesBack 63 = .ok (.invokevirtual 288, 3) := by decide +kernel
theorem dX12_goesBack_66 : decode cX12_goesBack 66 = .ok (.ifCond .eq 49, 3) := by decide +kernel
theorem dX12_goesBack_69 : decode cX12_goesBack 69 = .ok (.aload_n 0, 1) := by decide +kernel
theorem dX12_goesBack_70 : decode cX12_goesBack 70 = .ok (.aload_n 0, 1) := by decide +kernel
theorem dX12_goesBack_71 : decode cX12_goesBack 71 = .ok (.iload_n 1, 1) := by decide +kernel
theorem dX12_goesBack_72 : decode cX12_goesBack 72 = .ok (.iload 4, 2) := by decide +kernel
theorem dX12_goesBack_74 : decode cX12_goesBack 74 = .ok (.iconst 0, 1) := by decide +kernel
theorem dX12_goesBack_75 : decode cX12_goesBack 75 = .ok (.invokevirtual 306, 3) := by decide +kernel
theorem dX12_goesBack_78 : decode cX12_goesBack 78 = .ok (.aload_n 0, 1) := by decide +kernel
theorem dX12_goesBack_79 : decode cX12_goesBack 79 = .ok (.iload_n 1, 1) := by decide +kernel
theorem dX12_goesBack_80 : decode cX12_goesBack 80 = .ok (.iload_n 2, 1) := by decide +kernel
theorem dX12_goesBack_81 : decode cX12_goesBack 81 = .ok (.invokevirtual 335, 3) := by decide +kernel
theorem dX12_goesBack_84 : decode cX12_goesBack 84 = .ok (.invokevirtual 332, 3) := by decide +kernel
theorem dX12_goesBack_87 : decode cX12_goesBack 87 = .ok (.ifCond .eq 28, 3) := by decide +kernel
theorem dX12_goesBack_90 : decode cX12_goesBack 90 = .ok (.aload_n 0, 1) := by decide +kernel
theorem dX12_goesBack_91 : decode cX12_goesBack 91 = .ok (.aload_n 0, 1) := by decide +kernel
theorem dX12_goesBack_92 : decode cX12_goesBack 92 = .ok (.iload_n 1, 1) := by decide +kernel
theorem dX12_goesBack_93 : decode cX12_goesBack 93 = .ok (.iload 4, 2) := by decide +kernel
theorem dX12_goesBack_95 : decode cX12_goesBack 95 = .ok (.iconst 2, 1) := by decide +kernel
theorem dX12_goesBack_96 : decode cX12_goesBack 96 = .ok (.invokevirtual 306, 3) := by decide +kernel
theorem dX12_goesBack_99 : decode cX12_goesBack 99 = .ok (.aload_n 0, 1) := by decide +kernel
theorem dX12_goesBack_100 : decode cX12_goesBack 100 = .ok (.iload_n 1, 1) := by decide +kernel
theorem dX12_goesBack_101 : decode cX12_goesBack 101 = .ok (.iload_n 2, 1) := by decide +kernel
theorem dX12_goesBack_102 : decode cX12_goesBack 102 = .ok (.invokevirtual 320, 3) := by decide +kernel
theorem dX12_goesBack_105 : decode cX12_goesBack 105 = .ok (.invokevirtual 332, 3) := by decide +kernel
theorem dX12_goesBack_108 : decode cX12_goesBack 108 = .ok (.ifCond .eq 7, 3) := by decide +kernel
theorem dX12_goesBack_111 : decode cX12_goesBack 111 = .ok (.iconst 1, 1) := by decide +kernel
theorem dX12_goesBack_112 : decode cX12_goesBack 112 = .ok (.goto 4, 3) := by decide +kernel
theorem dX12_goesBack_115 : decode cX12_goesBack 115 = .ok (.iconst 0, 1) := by decide +kernel
theorem dX12_goesBack_116 : decode cX12_goesBack 116 = .ok (.istore 5, 2) := by decide +kernel
theorem dX12_goesBack_118 : decode cX12_goesBack 118 = .ok (.aload_n 0, 1) := by decide +kernel
theorem dX12_goesBack_119 : decode cX12_goesBack 119 = .ok (.getfield 63, 3) := by decide +kernel
theorem dX12_goesBack_122 : decode cX12_goesBack 122 = .ok (.iload_n 2, 1) := by decide +kernel
theorem dX12_goesBack_123 : decode cX12_goesBack 123 = .ok (.iload 5, 2) := by decide +kernel
theorem dX12_goesBack_125 : decode cX12_goesBack 125 = .ok (.ifCond .eq 14, 3) := by decide +kernel
theorem dX12_goesBack_128 : decode cX12_goesBack 128 = .ok (.aload_n 0, 1) := by decide +kernel
theorem dX12_goesBack_129 : decode cX12_goesBack 129 = .ok (.iload_n 1, 1) := by decide +kernel
theorem dX12_goesBack_130 : decode cX12_goesBack 130 = .ok (.iload 4, 2) := by decide +kernel
theorem dX12_goesBack_132 : decode cX12_goesBack 132 = .ok (.iconst 3, 1) := by decide +kernel
theorem dX12_goesBack_133 : decode cX12_goesBack 133 = .ok (.invokevirtual 306, 3) := by decide +kernel
theorem dX12_goesBack_136 : decode cX12_goesBack 136 = .ok (.goto 9, 3) := by decide +kernel
theorem dX12_goesBack_139 : decode cX12_goesBack 139 = .ok (.aload_n 0, 1) := by decide +kernel
theorem dX12_goesBack_140 : decode cX12_goesBack 140 = .ok (.getfield 63, 3) := by decide +kernel
theorem dX12_goesBack_143 : decode cX12_goesBack 143 = .ok (.iload_n 2, 1) := by decide +kernel
theorem dX12_goesBack_144 : decode cX12_goesBack 144 = .ok (.iaload, 1) := by decide +kernel
theorem dX12_goesBack_145 : decode cX12_goesBack 145 = .ok (.iastore, 1) := by decide +kernel
theorem dX12_goesBack_146 : decode cX12_goesBack 146 = .ok (.iload 5, 2) := by decide +kernel
theorem dX12_goesBack_148 : decode cX12_goesBack 148 = .ok (.istore_n 3, 1) := by decide +kernel
theorem dX12_goesBack_149 : decode cX12_goesBack 149 = .ok (.iinc 4 1, 3) := by decide +kernel
theorem dX12_goesBack_152 : decode cX12_goesBack 152 = .ok (.goto (-114), 3) := by decide +kernel
theorem dX12_goesBack_155 : decode cX12_goesBack 155 = .ok (.iinc 2 (-1), 3) := by decide +kernel
theorem dX12_goesBack_158 : decode cX12_goesBack 158 = .ok (.goto (-151), 3) := by decide +kernel
theorem dX12_goesBack_161 : decode cX12_goesBack 161 = .ok (.return_, 1) := by decide +kernel
theorem dX12_goesThrough_0 : decode cX12_goesThrough 0 = .ok (.iconst 0, 1) := by decide +kernel
theorem dX12_goesThrough_1 : decode cX12_goesThrough 1 = .ok (.istore_n 2, 1) := by decide +kernel
theorem dX12_goesThrough_2 : decode cX12_goesThrough 2 = .ok (.iload_n 2, 1) := by decide +kernel
theorem dX12_goesThrough_3 : decode cX12_goesThrough 3 = .ok (.aload_n 0, 1) := by decide +kernel
theorem dX12_goesThrough_4 : decode cX12_goesThrough 4 = .ok (.getfield 235, 3) := by decide +kernel
theorem dX12_goesThrough_7 : decode cX12_goesThrough 7 = .ok (.if_icmp .ge 67, 3) := by decide +kernel
theorem dX12_goesThrough_10 : decode cX12_goesThrough 10 = .ok (.bipush (-100), 2) := by decide +kernel
theorem dX12_goesThrough_12 : decode cX12_goesThrough 12 = .ok (.istore_n 3, 1) := by decide +kernel
theorem dX12_goesThrough_13 : decode cX12_goesThrough 13 = .ok (.aload_n 0, 1) := by decide +kernel
theorem dX12_goesThrough_14 : decode cX12_goesThrough 14 = .ok (.iload_n 1, 1) := by decide +kernel
theorem dX12_goesThrough_15 : decode cX12_goesThrough 15 = .ok (.iload_n 2, 1) := by decide +kernel
theorem dX12_goesThrough_16 : decode cX12_goesThrough 16 = .ok (.invokevirtual 285, 3) := by decide +kernel
theorem dX12_goesThrough_19 : decode cX12_goesThrough 19 = .ok (.ifCond .ne 38, 3) := by decide +kernel
theorem dX12_goesThrough_22 : decode cX12_goesThrough 22 = .ok (.aload_n 0, 1) := by decide +kernel
theorem dX12_goesThrough_23 : decode cX12_goesThrough 23 = .ok (.iload_n 1, 1) := by decide +kernel
theorem dX12_goesThrough_24 : decode cX12_goesThrough 24 = .ok (.iload_n 2, 1) := by decide +kernel
theorem dX12_goesThrough_25 : decode cX12_goesThrough 25 = .ok (.invokevirtual 344, 3) := by decide +kernel
theorem dX12_goesThrough_28 : decode cX12_goesThrough 28 = .ok (.ifCond .eq 29, 3) := by decide +kernel
theorem dX12_goesThrough_31 : decode cX12_goesThrough 31 = .ok (.aload_n 0, 1) := by decide +kernel
theorem dX12_goesThrough_32 : decode cX12_goesThrough 32 = .ok (.getfield 13, 3) := by decide +kernel
theorem dX12_goesThrough_35 : decode cX12_goesThrough 35 = .ok (.iload_n 1, 1) := by decide +kernel
theorem dX12_goesThrough_36 : decode cX12_goesThrough 36 = .ok (.iaload, 1) := by decide +kernel
theorem dX12_goesThrough_37 : decode cX12_goesThrough 37 = .ok (.iconst 4, 1) := by decide +kernel
theorem dX12_goesThrough_38 : decode cX12_goesThrough 38 = .ok (.if_icmp .ne 12, 3) := by decide +kernel
theorem dX12_goesThrough_41 : decode cX12_goesThrough 41 = .ok (.aload_n 0, 1) := by decide +kernel
theorem dX12_goesThrough_42 : decode cX12_goesThrough 42 = .ok (.iload_n 1, 1) := by decide +kernel
theorem dX12_goesThrough_43 : decode cX12_goesThrough 43 = .ok (.iload_n 2, 1) := by decide +kernel
theorem dX12_goesThrough_44 : decode cX12_goesThrough 44 = .ok (.invokevirtual 347, 3) := by decide +kernel
theorem dX12_goesThrough_47 : decode cX12_goesThrough 47 = .ok (.goto 9, 3) := by decide +kernel
theorem dX12_goesThrough_50 : decode cX12_goesThrough 50 = .ok (.aload_n 0, 1) := by decide +kernel
theorem dX12_goesThrough_51 : decode cX12_goesThrough 51 = .ok (.iload_n 1, 1) := by decide +kernel
theorem dX12_goesThrough_52 : decode cX12_goesThrough 52 = .ok (.iload_n 2, 1) := by decide +kernel
theorem dX12_goesThrough_53 : decode cX12_goesThrough 53 = .ok (.invokevirtual 329, 3) := by decide +kernel
theorem dX12_goesThrough_56 : decode cX12_goesThrough 56 = .ok (.istore_n 3, 1) := by decide +kernel
theorem dX12_goesThrough_57 : decode cX12_goesThrough 57 = .ok (.iload_n 3, 1) := by decide +kernel
theorem dX12_goesThrough_58 : decode cX12_goesThrough 58 = .ok (.bipush (-100), 2) := by decide +kernel
theorem dX12_goesThrough_60 : decode cX12_goesThrough 60 = .ok (.if_icmp .ne 9, 3) := by decide +kernel
theorem dX12_goesThrough_63 : decode cX12_goesThrough 63 = .ok (.iload_n 2, 1) := by decide +kernel
theorem dX12_goesThrough_64 : decode cX12_goesThrough 64 = .ok (.iconst 1, 1) := by decide +kernel
theorem dX12_goesThrough_65 : decode cX12_goesThrough 65 = .ok (.iadd, 1) := by decide +kernel
theorem dX12_goesThrough_66 : decode cX12_goesThrough 66 = .ok (.goto 4, 3) := by decide +kernel
theorem dX12_goesThrough_69 : decode cX12_goesThrough 69 = .ok (.iload_n 3, 1) := by decide +kernel
theorem dX12_goesThrough_70 : decode cX12_goesThrough 70 = .ok (.istore_n 2, 1) := by decide +kernel
theorem dX12_goesThrough_71 : decode cX12_goesThrough 71 = .ok (.goto (-69), 3) := by decide +kernel
theorem dX12_goesThrough_74 : decode cX12_goesThrough 74 = .ok (.return_, 1) := by decide +kernel
theorem dX12_isForTongue_0 : decode cX12_isForTongue 0 = .ok (.aload_n 0, 1) := by decide +kernel
theorem dX12_isForTongue_1 : decode cX12_isForTongue 1 = .ok (.getfield 22, 3) := by decide +kernel
theorem dX12_isForTongue_4 : decode cX12_isForTongue 4 = .ok (.iload_n 1, 1) := by decide +kernel
theorem dX12_isForTongue_5 : decode cX12_isForTongue 5 = .ok (.iaload, 1) := by decide +kernel
theorem dX12_isForTongue_6 : decode cX12_isForTongue 6 = .ok (.ifCond .eq 16, 3) := by decide +kernel
theorem dX12_isForTongue_9 : decode cX12_isForTongue 9 = .ok (.aload_n 0, 1) := by decide +kernel
theorem dX12_isForTongue_10 : decode cX12_isForTongue 10 = .ok (.getfield 22, 3) := by decide +kernel
theorem dX12_isForTongue_13 : decode cX12_isForTongue 13 = .ok (.iload_n 1, 1) := by decide +kernel
theorem dX12_isForTongue_14 : decode cX12_isForTongue 14 = .ok (.iaload, 1) := by decide +kernel
theorem dX12_isForTongue_15 : decode cX12_isForTongue 15 = .ok (.aload_n 0, 1) := by decide +kernel
theorem dX12_isForTongue_16 : decode cX12_isForTongue 16 = .ok (.getfield 53, 3) := by decide +kernel
theorem dX12_isForTongue_19 : decode cX12_isForTongue 19 = .ok (.if_icmp .ne 7, 3) := by decide +kernel
theorem dX12_isForTongue_22 : decode cX12_isForTongue 22 = .ok (.iconst 1, 1) := by decide +kernel
theorem dX12_isForTongue_23 : decode cX12_isForTongue 23 = .ok (.goto 4, 3) := by decide +kernel
theorem dX12_isForTongue_26 : decode cX12_isForTongue 26 = .ok (.iconst 0, 1) := by decide +kernel
theorem dX12_isForTongue_27 : decode cX12_isForTongue 27 = .ok (.ireturn, 1) := by decide +kernel
theorem dX12_doesStage_0 : decode cX12_doesStage 0 = .ok (.bipush 12, 2) := by decide +kernel
theorem dX12_doesStage_2 : decode cX12_doesStage 2 = .ok (.aload_n 0, 1) := by decide +kernel
theorem dX12_doesStage_3 : decode cX12_doesStage 3 = .ok (.getfield 279, 3) := by decide +kernel
theorem dX12_doesStage_6 : decode cX12_doesStage 6 = .ok (.imul, 1) := by decide +kernel
theorem dX12_doesStage_7 : decode cX12_doesStage 7 = .ok (.istore_n 2, 1) := by decide +kernel
theorem dX12_doesStage_8 : decode cX12_doesStage 8 = .ok (.iload_n 2, 1) := by decide +kernel
theorem dX12_doesStage_9 : decode cX12_doesStage 9 = .ok (.bipush 12, 2) := by decide +kernel
theorem dX12_doesStage_11 : decode cX12_doesStage 11 = .ok (.aload_n 0, 1) := by decide +kernel
theorem dX12_doesStage_12 : decode cX12_doesStage 12 = .ok (.getfield 279, 3) := by decide +kernel
theorem dX12_doesStage_15 : decode cX12_doesStage 15 = .ok (.imul, 1) := by decide +kernel
theorem dX12_doesStage_16 : decode cX12_doesStage 16 = .ok (.aload_n 0, 1) := by decide +kernel
theorem dX12_doesStage_17 : decode cX12_doesStage 17 = .ok (.getfield 7, 3) := by decide +kernel
theorem dX12_doesStage_20 : decode cX12_doesStage 20 = .ok (.aload_n 0, 1) := by decide +kernel
theorem dX12_doesStage_21 : decode cX12_doesStage 21 = .ok (.getfield 279, 3) := by decide +kernel
theorem dX12_doesStage_24 : decode cX12_doesStage 24 = .ok (.iaload, 1) := by decide +kernel
theorem dX12_doesStage_25 : decode cX12_doesStage 25 = .ok (.iadd, 1) := by decide +kernel
theorem dX12_doesStage_26 : decode cX12_doesStage 26 = .ok (.if_icmp .ge 60, 3) := by decide +kernel
theorem dX12_doesStage_29 : decode cX12_doesStage 29 = .ok (.aload_n 0, 1) := by decide +kernel
theorem dX12_doesStage_30 : decode cX12_doesStage 30 = .ok (.getfield 13, 3) := by decide +kernel
theorem dX12_doesStage_33 : decode cX12_doesStage 33 = .ok (.iload_n 2, 1) := by decide +kernel
theorem dX12_doesStage_34 : decode cX12_doesStage 34 = .ok (.iaload, 1) := by decide +kernel
theorem dX12_doesStage_35 : decode cX12_doesStage 35 = .ok (.iconst 5, 1) := by decide +kernel
theorem dX12_doesStage_36 : decode cX12_doesStage 36 = .ok (.if_icmp .gt 44, 3) := by decide +kernel
theorem dX12_doesStage_39 : decode cX12_doesStage 39 = .ok (.aload_n 0, 1) := by decide +kernel
theorem dX12_doesStage_40 : decode cX12_doesStage 40 = .ok (.getfield 19, 3) := by decide +kernel
theorem dX12_doesStage_43 : decode cX12_doesStage 43 = .ok (.iload_n 2, 1) := by decide +kernel
theorem dX12_doesStage_44 : decode cX12_doesStage 44 = .ok (.iaload, 1) := by decide +kernel
theorem dX12_doesStage_45 : decode cX12_doesStage 45 = .ok (.iload_n 1, 1) := by decide +kernel
theorem dX12_doesStage_46 : decode cX12_doesStage 46 = .ok (.if_icmp .ne 34, 3) := by decide +kernel
theorem dX12_doesStage_49 : decode cX12_doesStage 49 = .ok (.aload_n 0, 1) := by decide +kernel
theorem dX12_doesStage_50 : decode cX12_doesStage 50 = .ok (.iload_n 2, 1) := by decide +kernel
theorem dX12_doesStage_51 : decode cX12_doesStage 51 = .ok (.invokevirtual 350, 3) := by decide +kernel
theorem dX12_doesStage_54 : decode cX12_doesStage 54 = .ok (.ifCond .eq 26, 3) := by decide +kernel
theorem dX12_doesStage_57 : decode cX12_doesStage 57 = .ok (.aload_n 0, 1) := by decide +kernel
theorem dX12_doesStage_58 : decode cX12_doesStage 58 = .ok (.getfield 13, 3) := by decide +kernel
theorem dX12_doesStage_61 : decode cX12_doesStage 61 = .ok (.iload_n 2, 1) := by decide +kernel
theorem dX12_doesStage_62 : decode cX12_doesStage 62 = .ok (.iaload, 1) := by decide +kernel
theorem dX12_doesStage_63 : decode cX12_doesStage 63 = .ok (.iconst 5, 1) := by decide +kernel
theorem dX12_doesStage_64 : decode cX12_doesStage 64 = .ok (.if_icmp .ne 11, 3) := by decide +kernel
theorem dX12_doesStage_67 : decode cX12_doesStage 67 = .ok (.aload_n 0, 1) := by decide +kernel
theorem dX12_doesStage_68 : decode cX12_doesStage 68 = .ok (.iload_n 2, 1) := by decide +kernel
theorem dX12_doesStage_69 : decode cX12_doesStage 69 = .ok (.invokevirtual 353, 3) := by decide +kernel
theorem dX12_doesStage_72 : decode cX12_doesStage 72 = .ok (.goto 8, 3) := by decide +kernel
theorem dX12_doesStage_75 : decode cX12_doesStage 75 = .ok (.aload_n 0, 1) := by decide +kernel
theorem dX12_doesStage_76 : decode cX12_doesStage 76 = .ok (.iload_n 2, 1) := by decide +kernel
theorem dX12_doesStage_77 : decode cX12_doesStage 77 = .ok (.invokevirtual 356, 3) := by decide +kernel
theorem dX12_doesStage_80 : decode cX12_doesStage 80 = .ok (.iinc 2 1, 3) := by decide +kernel
theorem dX12_doesStage_83 : decode cX12_doesStage 83 = .ok (.goto (-75), 3) := by decide +kernel
theorem dX12_doesStage_86 : decode cX12_doesStage 86 = .ok (.return_, 1) := by decide +kernel
theorem dX12_behindCluster_0 : decode cX12_behindCluster 0 = .ok (.iload_n 1, 1) := by decide +kernel
theorem dX12_behindCluster_1 : decode cX12_behindCluster 1 = .ok (.istore_n 2, 1) := by decide +kernel
theorem dX12_behindCluster_2 : decode cX12_behindCluster 2 = .ok (.iload_n 2, 1) := by decide +kernel
theorem dX12_behindCluster_3 : decode cX12_behindCluster 3 = .ok (.aload_n 0, 1) := by decide +kernel
theorem dX12_behindCluster_4 : decode cX12_behindCluster 4 = .ok (.getfield 235, 3) := by decide +kernel
theorem dX12_behindCluster_7 : decode cX12_behindCluster 7 = .ok (.if_icmp .ge 24, 3) := by decide +kernel
theorem dX12_behindCluster_10 : decode cX12_behindCluster 10 = .ok (.aload_n 0, 1) := by decide +kernel
theorem dX12_behindCluster_11 : decode cX12_behindCluster 11 = .ok (.getfield 66, 3) := by decide +kernel
theorem dX12_behindCluster_14 : decode cX12_behindCluster 14 = .ok (.iload_n 2, 1) := by decide +kernel
theorem dX12_behindCluster_15 : decode cX12_behindCluster 15 = .ok (.iaload, 1) := by decide +kernel
theorem dX12_behindCluster_16 : decode cX12_behindCluster 16 = .ok (.aload_n 0, 1) := by decide +kernel
theorem dX12_behindCluster_17 : decode cX12_behindCluster 17 = .ok (.getfield 66, 3) := by decide +kernel
theorem dX12_behindCluster_20 : decode cX12_behindCluster 20 = .ok (.iload_n 1, 1) := by decide +kernel
theorem dX12_behindCluster_21 : decode cX12_behindCluster 21 = .ok (.iaload, 1) := by decide +kernel
theorem dX12_behindCluster_22 : decode cX12_behindCluster 22 = .ok (.if_icmp .ne 9, 3) := by decide +kernel
theorem dX12_behindCluster_25 : decode cX12_behindCluster 25 = .ok (.iinc 2 1, 3) := by decide +kernel
theorem dX12_behindCluster_28 : decode cX12_behindCluster 28 = .ok (.goto (-26), 3) := by decide +kernel
theorem dX12_behindCluster_31 : decode cX12_behindCluster 31 = .ok (.iload_n 2, 1) := by decide +kernel
theorem dX12_behindCluster_32 : decode cX12_behindCluster 32 = .ok (.ireturn, 1) := by decide +kernel
theorem dX12_movesBack_0 : decode cX12_movesBack 0 = .ok (.iconst 0, 1) := by decide +kernel
theorem dX12_movesBack_1 : decode cX12_movesBack 1 = .ok (.istore_n 1, 1) := by decide +kernel
theorem dX12_movesBack_2 : decode cX12_movesBack 2 = .ok (.iload_n 1, 1) := by decide +kernel
theorem dX12_movesBack_3 : decode cX12_movesBack 3 = .ok (.aload_n 0, 1) := by decide +kernel
theorem dX12_movesBack_4 : decode cX12_movesBack 4 = .ok (.getfield 235, 3) := by decide +kernel
theorem dX12_movesBack_7 : decode cX12_movesBack 7 = .ok (.if_icmp .ge 153, 3) := by decide +kernel
theorem dX12_movesBack_10 : decode cX12_movesBack 10 = .ok (.aload_n 0, 1) := by decide +kernel
theorem dX12_movesBack_11 : decode cX12_movesBack 11 = .ok (.iload_n 1, 1) := by decide +kernel
theorem dX12_movesBack_12 : decode cX12_movesBack 12 = .ok (.invokevirtual 359, 3) := by decide +kernel
theorem dX12_movesBack_15 : decode cX12_movesBack 15 = .ok (.istore_n 2, 1) := by decide +kernel
theorem dX12_movesBack_16 : decode cX12_movesBack 16 = .ok (.iload_n 1, 1) := by decide +kernel
theorem dX12_movesBack_17 : decode cX12_movesBack 17 = .ok (.istore_n 3, 1) := by decide +kernel
theorem dX12_movesBack_18 : decode cX12_movesBack 18 = .ok (.iload_n 3, 1) := by decide +kernel
theorem dX12_movesBack_19 : decode cX12_movesBack 19 = .ok (.iload_n 2, 1) := by decide +kernel
theorem dX12_movesBack_20 : decode cX12_movesBack 20 = .ok (.if_icmp .ge 20, 3) := by decide +kernel
theorem dX12_movesBack_23 : decode cX12_movesBack 23 = .ok (.aload_n 0, 1) := by decide +kernel
theorem dX12_movesBack_24 : decode cX12_movesBack 24 = .ok (.getfield 81, 3) := by decide +kernel
theorem dX12_movesBack_27 : decode cX12_movesBack 27 = .ok (.iload_n 3, 1) := by decide +kernel
theorem dX12_movesBack_28 : decode cX12_movesBack 28 = .ok (.iaload, 1) := by decide +kernel
theorem dX12_movesBack_29 : decode cX12_movesBack 29 = .ok (.bipush 40, 2) := by decide +kernel
theorem dX12_movesBack_31 : decode cX12_movesBack 31 = .ok (.if_icmp .ne 9, 3) := by decide +kernel
theorem dX12_movesBack_34 : decode cX12_movesBack 34 = .ok (.iinc 3 1, 3) := by decide +kernel
theorem dX12_movesBack_37 : decode cX12_movesBack 37 = .ok (.goto (-19), 3) := by decide +kernel
theorem dX12_movesBack_40 : decode cX12_movesBack 40 = .ok (.iconst 0, 1) := by decide +kernel
theorem dX12_movesBack_41 : decode cX12_movesBack 41 = .ok (.istore 4, 2) := by decide +kernel
theorem dX12_movesBack_43 : decode cX12_movesBack 43 = .ok (.bipush (-100), 2) := by decide +kernel
theorem dX12_movesBack_45 : decode cX12_movesBack 45 = .ok (.istore 5, 2) := by decide +kernel
theorem dX12_movesBack_47 : decode cX12_movesBack 47 = .ok (.iload_n 2, 1) := by decide +kernel
theorem dX12_movesBack_48 : decode cX12_movesBack 48 = .ok (.iconst 1, 1) := by decide +kernel
theorem dX12_movesBack_49 : decode cX12_movesBack 49 = .ok (.isub, 1) := by decide +kernel
theorem dX12_movesBack_50 : decode cX12_movesBack 50 = .ok (.istore 6, 2) := by decide +kernel
theorem dX12_movesBack_52 : decode cX12_movesBack 52 = .ok (.iload 6, 2) := by decide +kernel
theorem dX12_movesBack_54 : decode cX12_movesBack 54 = .ok (.iload_n 3, 1) := by decide +kernel
theorem dX12_movesBack_55 : decode cX12_movesBack 55 = .ok (.if_icmp .lt 79, 3) := by decide +kernel
theorem dX12_movesBack_58 : decode cX12_movesBack 58 = .ok (.iload 5, 2) := by decide +kernel
theorem dX12_movesBack_60 : decode cX12_movesBack 60 = .ok (.bipush (-100), 2) := by decide +kernel
theorem dX12_movesBack_62 : decode cX12_movesBack 62 = .ok (.if_icmp .ne 25, 3) := by decide +kernel
theorem dX12_movesBack_65 : decode cX12_movesBack 65 = .ok (.aload_n 0, 1) := by decide +kernel
theorem dX12_movesBack_66 : decode cX12_movesBack 66 = .ok (.getfield 63, 3) := by decide +kernel
theorem dX12_movesBack_69 : decode cX12_movesBack 69 = .ok (.iload 6, 2) := by decide +kernel
theorem dX12_movesBack_71 : decode cX12_movesBack 71 = .ok (.iaload, 1) := by decide +kernel
theorem dX12_movesBack_72 : decode cX12_movesBack 72 = .ok (.bipush 39, 2) := by decide +kernel
theorem dX12_movesBack_74 : decode cX12_movesBack 74 = .ok (.if_icmp .ne 13, 3) := by decide +kernel
theorem dX12_movesBack_77 : decode cX12_movesBack 77 = .ok (.iload 4, 2) := by decide +kernel
theorem dX12_movesBack_79 : decode cX12_movesBack 79 = .ok (.ifCond .eq 8, 3) := by decide +kernel
theorem dX12_movesBack_82 : decode cX12_movesBack 82 = .ok (.iload 6, 2) := by decide +kernel
theorem dX12_movesBack_84 : decode cX12_movesBack 84 = .ok (.goto 5, 3) := by decide +kernel
theorem dX12_movesBack_87 : decode cX12_movesBack 87 = .ok (.iload 5, 2) := by decide +kernel
theorem dX12_movesBack_89 : decode cX12_movesBack 89 = .ok (.istore 5, 2) := by decide +kernel
theorem dX12_movesBack_91 : decode cX12_movesBack 91 = .ok (.iload 4, 2) := by decide +kernel
theorem dX12_movesBack_93 : decode cX12_movesBack 93 = .ok (.ifCond .ne 28, 3) := by decide +kernel
theorem dX12_movesBack_96 : decode cX12_movesBack 96 = .ok (.aload_n 0, 1) := by decide +kernel
theorem dX12_movesBack_97 : decode cX12_movesBack 97 = .ok (.getfield 81, 3) := by decide +kernel
theorem dX12_movesBack_100 : decode cX12_movesBack 100 = .ok (.iload 6, 2) := by decide +kernel
theorem dX12_movesBack_102 : decode cX12_movesBack 102 = .ok (.iaload, 1) := by decide +kernel
theorem dX12_movesBack_103 : decode cX12_movesBack 103 = .ok (.invokestatic 252, 3) := by decide +kernel
theorem dX12_movesBack_106 : decode cX12_movesBack 106 = .ok (.ifCond .ne 15, 3) := by decide +kernel
theorem dX12_movesBack_109 : decode cX12_movesBack 109 = .ok (.aload_n 0, 1) := by decide +kernel
theorem dX12_movesBack_110 : decode cX12_movesBack 110 = .ok (.getfield 81, 3) := by decide +kernel
theorem dX12_movesBack_113 : decode cX12_movesBack 113 = .ok (.iload 6, 2) := by decide +kernel
theorem dX12_movesBack_115 : decode cX12_movesBack 115 = .ok (.iaload, 1) := by decide +kernel
theorem dX12_movesBack_116 : decode cX12_movesBack 116 = .ok (.bipush 64, 2) := by decide +kernel
theorem dX12_movesBack_118 : decode cX12_movesBack 118 = .ok (.if_icmp .ne 7, 3) := by decide +kernel
theorem dX12_movesBack_121 : decode cX12_movesBack 121 = .ok (.iconst 1, 1) := by decide +kernel
theorem dX12_movesBack_122 : decode cX12_movesBack 122 = .ok (.goto 4, 3) := by decide +kernel
theorem dX12_movesBack_125 : decode cX12_movesBack 125 = .ok (.iconst 0, 1) := by decide +kernel
theorem dX12_movesBack_126 : decode cX12_movesBack 126 = .ok (.istore 4, 2) := by decide +kernel
theorem dX12_movesBack_128 : decode cX12_movesBack 128 = .ok (.iinc 6 (-1), 3) := by decide +kernel
theorem dX12_movesBack_131 : decode cX12_movesBack 131 = .ok (.goto (-79), 3) := by decide +kernel
theorem dX12_movesBack_134 : decode cX12_movesBack 134 = .ok (.iload 5, 2) := by decide +kernel
theorem dX12_movesBack_136 : decode cX12_movesBack 136 = .ok (.bipush (-100), 2) := by decide +kernel
theorem dX12_movesBack_138 : decode cX12_movesBack 138 = .ok (.if_icmp .eq 13, 3) := by decide +kernel
theorem dX12_movesBack_141 : decode cX12_movesBack 141 = .ok (.aload_n 0, 1) := by decide +kernel
theorem dX12_movesBack_142 : decode cX12_movesBack 142 = .ok (.iload_n 1, 1) := by decide +kernel
theorem dX12_movesBack_143 : decode cX12_movesBack 143 = .ok (.iload_n 3, 1) := by decide +kernel
theorem dX12_movesBack_144 : decode cX12_movesBack 144 = .ok (.iload 5, 2) := by decide +kernel
theorem dX12_movesBack_146 : decode cX12_movesBack 146 = .ok (.iconst 1, 1) := by decide +kernel
theorem dX12_movesBack_147 : decode cX12_movesBack 147 = .ok (.iadd, 1) := by decide +kernel
theorem dX12_movesBack_148 : decode cX12_movesBack 148 = .ok (.invokevirtual 266, 3) := by decide +kernel
theorem dX12_movesBack_151 : decode cX12_movesBack 151 = .ok (.aload_n 0, 1) := by decide +kernel
theorem dX12_movesBack_152 : decode cX12_movesBack 152 = .ok (.iload_n 1, 1) := by decide +kernel
theorem dX12_movesBack_153 : decode cX12_movesBack 153 = .ok (.invokevirtual 359, 3) := by decide +kernel
theorem dX12_movesBack_156 : decode cX12_movesBack 156 = .ok (.istore_n 1, 1) := by decide +kernel
theorem dX12_movesBack_157 : decode cX12_movesBack 157 = .ok (.goto (-155), 3) := by decide +kernel
theorem dX12_movesBack_160 : decode cX12_movesBack 160 = .ok (.return_, 1) := by decide +kernel
theorem dX12_takesOut_0 : decode cX12_takesOut 0 = .ok (.aload_n 0, 1) := by decide +kernel
theorem dX12_takesOut_1 : decode cX12_takesOut 1 = .ok (.getfield 235, 3) := by decide +kernel
theorem dX12_takesOut_4 : decode cX12_takesOut 4 = .ok (.iconst 1, 1) := by decide +kernel
theorem dX12_takesOut_5 : decode cX12_takesOut 5 = .ok (.isub, 1) := by decide +kernel
theorem dX12_takesOut_6 : decode cX12_takesOut 6 = .ok (.istore_n 1, 1) := by decide +kernel
theorem dX12_takesOut_7 : decode cX12_takesOut 7 = .ok (.iload_n 1, 1) := by decide +kernel
theorem dX12_takesOut_8 : decode cX12_takesOut 8 = .ok (.ifCond .lt 34, 3) := by decide +kernel
theorem dX12_takesOut_11 : decode cX12_takesOut 11 = .ok (.aload_n 0, 1) := by decide +kernel
theorem dX12_takesOut_12 : decode cX12_takesOut 12 = .ok (.getfield 63, 3) := by decide +kernel
theorem dX12_takesOut_15 : decode cX12_takesOut 15 = .ok (.iload_n 1, 1) := by decide +kernel
theorem dX12_takesOut_16 : decode cX12_takesOut 16 = .ok (.iaload, 1) := by decide +kernel
theorem dX12_takesOut_17 : decode cX12_takesOut 17 = .ok (.iconst 2, 1) := by decide +kernel
theorem dX12_takesOut_18 : decode cX12_takesOut 18 = .ok (.if_icmp .eq 13, 3) := by decide +kernel
theorem dX12_takesOut_21 : decode cX12_takesOut 21 = .ok (.aload_n 0, 1) := by decide +kernel
theorem dX12_takesOut_22 : decode cX12_takesOut 22 = .ok (.getfield 63, 3) := by decide +kernel
theorem dX12_takesOut_25 : decode cX12_takesOut 25 = .ok (.iload_n 1, 1) := by decide +kernel
theorem dX12_takesOut_26 : decode cX12_takesOut 26 = .ok (.iaload, 1) := by decide +kernel
theorem dX12_takesOut_27 : decode cX12_takesOut 27 = .ok (.iconst 3, 1) := by decide +kernel
theorem dX12_takesOut_28 : decode cX12_takesOut 28 = .ok (.if_icmp .ne 8, 3) := by decide +kernel
theorem dX12_takesOut_31 : decode cX12_takesOut 31 = .ok (.aload_n 0, 1) := by decide +kernel
theorem dX12_takesOut_32 : decode cX12_takesOut 32 = .ok (.iload_n 1, 1) := by decide +kernel
theorem dX12_takesOut_33 : decode cX12_takesOut 33 = .ok (.invokevirtual 262, 3) := by decide +kernel
theorem dX12_takesOut_36 : decode cX12_takesOut 36 = .ok (.iinc 1 (-1), 3) := by decide +kernel
theorem dX12_takesOut_39 : decode cX12_takesOut 39 = .ok (.goto (-32), 3) := by decide +kernel
theorem dX12_takesOut_42 : decode cX12_takesOut 42 = .ok (.return_, 1) := by decide +kernel
theorem dX12_pairs_0 : decode cX12_pairs 0 = .ok (.iconst 0, 1) := by decide +kernel
theorem dX12_pairs_1 : decode cX12_pairs 1 = .ok (.istore_n 2, 1) := by decide +kernel
theorem dX12_pairs_2 : decode cX12_pairs 2 = .ok (.iload_n 2, 1) := by decide +kernel
theorem dX12_pairs_3 : decode cX12_pairs 3 = .ok (.aload_n 0, 1) := by decide +kernel
theorem dX12_pairs_4 : decode cX12_pairs 4 = .ok (.getfield 235, 3) := by decide +kernel
theorem dX12_pairs_7 : decode cX12_pairs 7 = .ok (.if_icmp .ge 157, 3) := by decide +kernel
theorem dX12_pairs_10 : decode cX12_pairs 10 = .ok (.iload_n 2, 1) := by decide +kernel
theorem dX12_pairs_11 : decode cX12_pairs 11 = .ok (.iconst 1, 1) := by decide +kernel
theorem dX12_pairs_12 : decode cX12_pairs 12 = .ok (.iadd, 1) := by decide +kernel
theorem dX12_pairs_13 : decode cX12_pairs 13 = .ok (.istore_n 3, 1) := by decide +kernel
theorem dX12_pairs_14 : decode cX12_pairs 14 = .ok (.aload_n 0, 1) := by decide +kernel
theorem dX12_pairs_15 : decode cX12_pairs 15 = .ok (.iload_n 1, 1) := by decide +kernel
theorem dX12_pairs_16 : decode cX12_pairs 16 = .ok (.iload_n 2, 1) := by decide +kernel
theorem dX12_pairs_17 : decode cX12_pairs 17 = .ok (.invokevirtual 320, 3) := by decide +kernel
theorem dX12_pairs_20 : decode cX12_pairs 20 = .ok (.istore 4, 2) := by decide +kernel
theorem dX12_pairs_22 : decode cX12_pairs 22 = .ok (.aload_n 0, 1) := by decide +kernel
theorem dX12_pairs_23 : decode cX12_pairs 23 = .ok (.iload_n 1, 1) := by decide +kernel
theorem dX12_pairs_24 : decode cX12_pairs 24 = .ok (.iload_n 2, 1) := by decide +kernel
theorem dX12_pairs_25 : decode cX12_pairs 25 = .ok (.invokevirtual 285, 3) := by decide +kernel
theorem dX12_pairs_28 : decode cX12_pairs 28 = .ok (.ifCond .ne 21, 3) := by decide +kernel
theorem dX12_pairs_31 : decode cX12_pairs 31 = .ok (.aload_n 0, 1) := by decide +kernel
theorem dX12_pairs_32 : decode cX12_pairs 32 = .ok (.iload_n 1, 1) := by decide +kernel
theorem dX12_pairs_33 : decode cX12_pairs 33 = .ok (.iload_n 2, 1) := by decide +kernel
theorem dX12_pairs_34 : decode cX12_pairs 34 = .ok (.invokevirtual 344, 3) := by decide +kernel
theorem dX12_pairs_37 : decode cX12_pairs 37 = .ok (.ifCond .eq 12, 3) := by decide +kernel
theorem dX12_pairs_40 : decode cX12_pairs 40 = .ok (.iload 4, 2) := by decide +kernel
theorem dX12_pairs_42 : decode cX12_pairs 42 = .ok (.aload_n 0, 1) := by decide +kernel
theorem dX12_pairs_43 : decode cX12_pairs 43 = .ok (.getfield 235, 3) := by decide +kernel
theorem dX12_pairs_46 : decode cX12_pairs 46 = .ok (.if_icmp .lt 7, 3) := by decide +kernel
theorem dX12_pairs_49 : decode cX12_pairs 49 = .ok (.iconst 1, 1) := by decide +kernel
theorem dX12_pairs_50 : decode cX12_pairs 50 = .ok (.goto 4, 3) := by decide +kernel
theorem dX12_pairs_53 : decode cX12_pairs 53 = .ok (.iconst 0, 1) := by decide +kernel
theorem dX12_pairs_54 : decode cX12_pairs 54 = .ok (.istore 5, 2) := by decide +kernel
theorem dX12_pairs_56 : decode cX12_pairs 56 = .ok (.iconst 0, 1) := by decide +kernel
theorem dX12_pairs_57 : decode cX12_pairs 57 = .ok (.istore 6, 2) := by decide +kernel
theorem dX12_pairs_59 : decode cX12_pairs 59 = .ok (.iload 6, 2) := by decide +kernel
theorem dX12_pairs_61 : decode cX12_pairs 61 = .ok (.aload_n 0, 1) := by decide +kernel
theorem dX12_pairs_62 : decode cX12_pairs 62 = .ok (.getfield 28, 3) := by decide +kernel
theorem dX12_pairs_65 : decode cX12_pairs 65 = .ok (.iload_n 1, 1) := by decide +kernel
theorem dX12_pairs_66 : decode cX12_pairs 66 = .ok (.iaload, 1) := by decide +kernel
theorem dX12_pairs_67 : decode cX12_pairs 67 = .ok (.if_icmp .ge 92, 3) := by decide +kernel
theorem dX12_pairs_70 : decode cX12_pairs 70 = .ok (.iload 5, 2) := by decide +kernel
theorem dX12_pairs_72 : decode cX12_pairs 72 = .ok (.ifCond .ne 87, 3) := by decide +kernel
theorem dX12_pairs_75 : decode cX12_pairs 75 = .ok (.aload_n 0, 1) := by decide +kernel
theorem dX12_pairs_76 : decode cX12_pairs 76 = .ok (.aload_n 0, 1) := by decide +kernel
theorem dX12_pairs_77 : decode cX12_pairs 77 = .ok (.iload_n 1, 1) := by decide +kernel
theorem dX12_pairs_78 : decode cX12_pairs 78 = .ok (.iload 6, 2) := by decide +kernel
theorem dX12_pairs_80 : decode cX12_pairs 80 = .ok (.iconst 0, 1) := by decide +kernel
theorem dX12_pairs_81 : decode cX12_pairs 81 = .ok (.invokevirtual 306, 3) := by decide +kernel
theorem dX12_pairs_84 : decode cX12_pairs 84 = .ok (.iload_n 2, 1) := by decide +kernel
theorem dX12_pairs_85 : decode cX12_pairs 85 = .ok (.invokevirtual 288, 3) := by decide +kernel
theorem dX12_pairs_88 : decode cX12_pairs 88 = .ok (.ifCond .eq 24, 3) := by decide +kernel
theorem dX12_pairs_91 : decode cX12_pairs 91 = .ok (.aload_n 0, 1) := by decide +kernel
theorem dX12_pairs_92 : decode cX12_pairs 92 = .ok (.aload_n 0, 1) := by decide +kernel
theorem dX12_pairs_93 : decode cX12_pairs 93 = .ok (.iload_n 1, 1) := by decide +kernel
theorem dX12_pairs_94 : decode cX12_pairs 94 = .ok (.iload 6, 2) := by decide +kernel
theorem dX12_pairs_96 : decode cX12_pairs 96 = .ok (.iconst 1, 1) := by decide +kernel
theorem dX12_pairs_97 : decode cX12_pairs 97 = .ok (.invokevirtual 306, 3) := by decide +kernel
theorem dX12_pairs_100 : decode cX12_pairs 100 = .ok (.iload 4, 2) := by decide +kernel
theorem dX12_pairs_102 : decode cX12_pairs 102 = .ok (.invokevirtual 288, 3) := by decide +kernel
theorem dX12_pairs_105 : decode cX12_pairs 105 = .ok (.ifCond .eq 7, 3) := by decide +kernel
theorem dX12_pairs_108 : decode cX12_pairs 108 = .ok (.iconst 1, 1) := by decide +kernel
theorem dX12_pairs_109 : decode cX12_pairs 109 = .ok (.goto 4, 3) := by decide +kernel
theorem dX12_pairs_112 : decode cX12_pairs 112 = .ok (.iconst 0, 1) := by decide +kernel
theorem dX12_pairs_113 : decode cX12_pairs 113 = .ok (.istore 5, 2) := by decide +kernel
theorem dX12_pairs_115 : decode cX12_pairs 115 = .ok (.aload_n 0, 1) := by decide +kernel
theorem dX12_pairs_116 : decode cX12_pairs 116 = .ok (.getfield 84, 3) := by decide +kernel
theorem dX12_pairs_119 : decode cX12_pairs 119 = .ok (.iload_n 2, 1) := by decide +kernel
theorem dX12_pairs_120 : decode cX12_pairs 120 = .ok (.dup2, 1) := by decide +kernel
theorem dX12_pairs_121 : decode cX12_pairs 121 = .ok (.iaload, 1) := by decide +kernel
theorem dX12_pairs_122 : decode cX12_pairs 122 = .ok (.iload 5, 2) := by decide +kernel
theorem dX12_pairs_124 : decode cX12_pairs 124 = .ok (.ifCond .eq 14, 3) := by decide +kernel
theorem dX12_pairs_127 : decode cX12_pairs 127 = .ok (.aload_n 0, 1) := by decide +kernel
theorem dX12_pairs_128 : decode cX12_pairs 128 = .ok (.iload_n 1, 1) := by decide +kernel
theorem dX12_pairs_129 : decode cX12_pairs 129 = .ok (.iload 6, 2) := by decide +kernel
theorem dX12_pairs_131 : decode cX12_pairs 131 = .ok (.iconst 2, 1) := by decide +kernel
theorem dX12_pairs_132 : decode cX12_pairs 132 = .ok (.invokevirtual 306, 3) := by decide +kernel
theorem dX12_pairs_135 : decode cX12_pairs 135 = .ok (.goto 4, 3) := by decide +kernel
theorem dX12_pairs_138 : decode cX12_pairs 138 = .ok (.iconst 0, 1) := by decide +kernel
theorem dX12_pairs_139 : decode cX12_pairs 139 = .ok (.iadd, 1) := by decide +kernel
theorem dX12_pairs_140 : decode cX12_pairs 140 = .ok (.iastore, 1) := by decide +kernel
theorem dX12_pairs_141 : decode cX12_pairs 141 = .ok (.iload 5, 2) := by decide +kernel
theorem dX12_pairs_143 : decode cX12_pairs 143 = .ok (.ifCond .eq 8, 3) := by decide +kernel
theorem dX12_pairs_146 : decode cX12_pairs 146 = .ok (.iload 4, 2) := by decide +kernel
theorem dX12_pairs_148 : decode cX12_pairs 148 = .ok (.goto 4, 3) := by decide +kernel
theorem dX12_pairs_151 : decode cX12_pairs 151 = .ok (.iload_n 3, 1) := by decide +kernel
theorem dX12_pairs_152 : decode cX12_pairs 152 = .ok (.istore_n 3, 1) := by decide +kernel
theorem dX12_pairs_153 : decode cX12_pairs 153 = .ok (.iinc 6 1, 3) := by decide +kernel
theorem dX12_pairs_156 : decode cX12_pairs 156 = .ok (.goto (-97), 3) := by decide +kernel
theorem dX12_pairs_159 : decode cX12_pairs 159 = .ok (.iload_n 3, 1) := by decide +kernel
theorem dX12_pairs_160 : decode cX12_pairs 160 = .ok (.istore_n 2, 1) := by decide +kernel
theorem dX12_pairs_161 : decode cX12_pairs 161 = .ok (.goto (-159), 3) := by decide +kernel
theorem dX12_pairs_164 : decode cX12_pairs 164 = .ok (.return_, 1) := by decide +kernel
theorem dX12_ruleFor_0 : decode cX12_ruleFor 0 = .ok (.bipush (-100), 2) := by decide +kernel
theorem dX12_ruleFor_2 : decode cX12_ruleFor 2 = .ok (.istore_n 3, 1) := by decide +kernel
theorem dX12_ruleFor_3 : decode cX12_ruleFor 3 = .ok (.aload_n 0, 1) := by decide +kernel
theorem dX12_ruleFor_4 : decode cX12_ruleFor 4 = .ok (.getfield 28, 3) := by decide +kernel
theorem dX12_ruleFor_7 : decode cX12_ruleFor 7 = .ok (.iload_n 1, 1) := by decide +kernel
theorem dX12_ruleFor_8 : decode cX12_ruleFor 8 = .ok (.iaload, 1) := by decide +kernel
theorem dX12_ruleFor_9 : decode cX12_ruleFor 9 = .ok (.iconst 1, 1) := by decide +kernel
theorem dX12_ruleFor_10 : decode cX12_ruleFor 10 = .ok (.isub, 1) := by decide +kernel
theorem dX12_ruleFor_11 : decode cX12_ruleFor 11 = .ok (.istore 4, 2) := by decide +kernel
theorem dX12_ruleFor_13 : decode cX12_ruleFor 13 = .ok (.iload 4, 2) := by decide +kernel
theorem dX12_ruleFor_15 : decode cX12_ruleFor 15 = .ok (.ifCond .lt 32, 3) := by decide +kernel
theorem dX12_ruleFor_18 : decode cX12_ruleFor 18 = .ok (.aload_n 0, 1) := by decide +kernel
theorem dX12_ruleFor_19 : decode cX12_ruleFor 19 = .ok (.aload_n 0, 1) := by decide +kernel
theorem dX12_ruleFor_20 : decode cX12_ruleFor 20 = .ok (.iload_n 1, 1) := by decide +kernel
theorem dX12_ruleFor_21 : decode cX12_ruleFor 21 = .ok (.iload 4, 2) := by decide +kernel
theorem dX12_ruleFor_23 : decode cX12_ruleFor 23 = .ok (.iconst 0, 1) := by decide +kernel
theorem dX12_ruleFor_24 : decode cX12_ruleFor 24 = .ok (.invokevirtual 306, 3) := by decide +kernel
theorem dX12_ruleFor_27 : decode cX12_ruleFor 27 = .ok (.iload_n 2, 1) := by decide +kernel
theorem dX12_ruleFor_28 : decode cX12_ruleFor 28 = .ok (.invokevirtual 288, 3) := by decide +kernel
theorem dX12_ruleFor_31 : decode cX12_ruleFor 31 = .ok (.ifCond .eq 8, 3) := by decide +kernel
theorem dX12_ruleFor_34 : decode cX12_ruleFor 34 = .ok (.iload 4, 2) := by decide +kernel
theorem dX12_ruleFor_36 : decode cX12_ruleFor 36 = .ok (.goto 4, 3) := by decide +kernel
theorem dX12_ruleFor_39 : decode cX12_ruleFor 39 = .ok (.iload_n 3, 1) := by decide +kernel
theorem dX12_ruleFor_40 : decode cX12_ruleFor 40 = .ok (.istore_n 3, 1) := by decide +kernel
theorem dX12_ruleFor_41 : decode cX12_ruleFor 41 = .ok (.iinc 4 (-1), 3) := by decide +kernel
theorem dX12_ruleFor_44 : decode cX12_ruleFor 44 = .ok (.goto (-31), 3) := by decide +kernel
theorem dX12_ruleFor_47 : decode cX12_ruleFor 47 = .ok (.iload_n 3, 1) := by decide +kernel
theorem dX12_ruleFor_48 : decode cX12_ruleFor 48 = .ok (.ireturn, 1) := by decide +kernel
theorem dX12_curves_0 : decode cX12_curves 0 = .ok (.iconst 0, 1) := by decide +kernel
theorem dX12_curves_1 : decode cX12_curves 1 = .ok (.istore_n 2, 1) := by decide +kernel
theorem dX12_curves_2 : decode cX12_curves 2 = .ok (.iload_n 2, 1) := by decide +kernel
theorem dX12_curves_3 : decode cX12_curves 3 = .ok (.aload_n 0, 1) := by decide +kernel
theorem dX12_curves_4 : decode cX12_curves 4 = .ok (.getfield 235, 3) := by decide +kernel
theorem dX12_curves_7 : decode cX12_curves 7 = .ok (.if_icmp .ge 158, 3) := by decide +kernel
theorem dX12_curves_10 : decode cX12_curves 10 = .ok (.aload_n 0, 1) := by decide +kernel
theorem dX12_curves_11 : decode cX12_curves 11 = .ok (.iload_n 1, 1) := by decide +kernel
theorem dX12_curves_12 : decode cX12_curves 12 = .ok (.iload_n 2, 1) := by decide +kernel
theorem dX12_curves_13 : decode cX12_curves 13 = .ok (.invokevirtual 320, 3) := by decide +kernel
theorem dX12_curves_16 : decode cX12_curves 16 = .ok (.istore_n 3, 1) := by decide +kernel
theorem dX12_curves_17 : decode cX12_curves 17 = .ok (.aload_n 0, 1) := by decide +kernel
theorem dX12_curves_18 : decode cX12_curves 18 = .ok (.iload_n 1, 1) := by decide +kernel
theorem dX12_curves_19 : decode cX12_curves 19 = .ok (.iload_n 2, 1) := by decide +kernel
theorem dX12_curves_20 : decode cX12_curves 20 = .ok (.invokevirtual 285, 3) := by decide +kernel
theorem dX12_curves_23 : decode cX12_curves 23 = .ok (.ifCond .ne 136, 3) := by decide +kernel
theorem dX12_curves_26 : decode cX12_curves 26 = .ok (.iload_n 3, 1) := by decide +kernel
theorem dX12_curves_27 : decode cX12_curves 27 = .ok (.aload_n 0, 1) := by decide +kernel
theorem dX12_curves_28 : decode cX12_curves 28 = .ok (.getfield 235, 3) := by decide +kernel
theorem dX12_curves_31 : decode cX12_curves 31 = .ok (.if_icmp .ge 128, 3) := by decide +kernel
theorem dX12_curves_34 : decode cX12_curves 34 = .ok (.aload_n 0, 1) := by decide +kernel
theorem dX12_curves_35 : decode cX12_curves 35 = .ok (.iload_n 1, 1) := by decide +kernel
theorem dX12_curves_36 : decode cX12_curves 36 = .ok (.iload_n 2, 1) := by decide +kernel
theorem dX12_curves_37 : decode cX12_curves 37 = .ok (.invokevirtual 344, 3) := by decide +kernel
theorem dX12_curves_40 : decode cX12_curves 40 = .ok (.ifCond .eq 119, 3) := by decide +kernel
theorem dX12_curves_43 : decode cX12_curves 43 = .ok (.aload_n 0, 1) := by decide +kernel
theorem dX12_curves_44 : decode cX12_curves 44 = .ok (.iload_n 1, 1) := by decide +kernel
theorem dX12_curves_45 : decode cX12_curves 45 = .ok (.iload_n 3, 1) := by decide +kernel
theorem dX12_curves_46 : decode cX12_curves 46 = .ok (.invokevirtual 344, 3) := by decide +kernel
theorem dX12_curves_49 : decode cX12_curves 49 = .ok (.ifCond .eq 110, 3) := by decide +kernel
theorem dX12_curves_52 : decode cX12_curves 52 = .ok (.aload_n 0, 1) := by decide +kernel
theorem dX12_curves_53 : decode cX12_curves 53 = .ok (.iload_n 1, 1) := by decide +kernel
theorem dX12_curves_54 : decode cX12_curves 54 = .ok (.iload_n 2, 1) := by decide +kernel
theorem dX12_curves_55 : decode cX12_curves 55 = .ok (.invokevirtual 362, 3) := by decide +kernel
theorem dX12_curves_58 : decode cX12_curves 58 = .ok (.istore 4, 2) := by decide +kernel
theorem dX12_curves_60 : decode cX12_curves 60 = .ok (.aload_n 0, 1) := by decide +kernel
theorem dX12_curves_61 : decode cX12_curves 61 = .ok (.iload_n 1, 1) := by decide +kernel
theorem dX12_curves_62 : decode cX12_curves 62 = .ok (.iload_n 3, 1) := by decide +kernel
theorem dX12_curves_63 : decode cX12_curves 63 = .ok (.invokevirtual 362, 3) := by decide +kernel
theorem dX12_curves_66 : decode cX12_curves 66 = .ok (.istore 5, 2) := by decide +kernel
theorem dX12_curves_68 : decode cX12_curves 68 = .ok (.iload 4, 2) := by decide +kernel
theorem dX12_curves_70 : decode cX12_curves 70 = .ok (.bipush (-100), 2) := by decide +kernel
theorem dX12_curves_72 : decode cX12_curves 72 = .ok (.if_icmp .eq 40, 3) := by decide +kernel
theorem dX12_curves_75 : decode cX12_curves 75 = .ok (.iload 5, 2) := by decide +kernel
theorem dX12_curves_77 : decode cX12_curves 77 = .ok (.bipush (-100), 2) := by decide +kernel
theorem dX12_curves_79 : decode cX12_curves 79 = .ok (.if_icmp .eq 33, 3) := by decide +kernel
theorem dX12_curves_82 : decode cX12_curves 82 = .ok (.aload_n 0, 1) := by decide +kernel
theorem dX12_curves_83 : decode cX12_curves 83 = .ok (.iload_n 1, 1) := by decide +kernel
theorem dX12_curves_84 : decode cX12_curves 84 = .ok (.iload 4, 2) := by decide +kernel
theorem dX12_curves_86 : decode cX12_curves 86 = .ok (.iconst 2, 1) := by decide +kernel
theorem dX12_curves_87 : decode cX12_curves 87 = .ok (.invokevirtual 306, 3) := by decide +kernel
theorem dX12_curves_90 : decode cX12_curves 90 = .ok (.bipush (-100), 2) := by decide +kernel
theorem dX12_curves_92 : decode cX12_curves 92 = .ok (.if_icmp .eq 20, 3) := by decide +kernel
theorem dX12_curves_95 : decode cX12_curves 95 = .ok (.aload_n 0, 1) := by decide +kernel
theorem dX12_curves_96 : decode cX12_curves 96 = .ok (.iload_n 1, 1) := by decide +kernel
theorem dX12_curves_97 : decode cX12_curves 97 = .ok (.iload 5, 2) := by decide +kernel
theorem dX12_curves_99 : decode cX12_curves 99 = .ok (.iconst 1, 1) := by decide +kernel
theorem dX12_curves_100 : decode cX12_curves 100 = .ok (.invokevirtual 306, 3) := by decide +kernel
theorem dX12_curves_103 : decode cX12_curves 103 = .ok (.bipush (-100), 2) := by decide +kernel
theorem dX12_curves_105 : decode cX12_curves 105 = .ok (.if_icmp .eq 7, 3) := by decide +kernel
theorem dX12_curves_108 : decode cX12_curves 108 = .ok (.iconst 1, 1) := by decide +kernel
theorem dX12_curves_109 : decode cX12_curves 109 = .ok (.goto 4, 3) := by decide +kernel
theorem dX12_curves_112 : decode cX12_curves 112 = .ok (.iconst 0, 1) := by decide +kernel
theorem dX12_curves_113 : decode cX12_curves 113 = .ok (.istore 6, 2) := by decide +kernel
theorem dX12_curves_115 : decode cX12_curves 115 = .ok (.aload_n 0, 1) := by decide +kernel
theorem dX12_curves_116 : decode cX12_curves 116 = .ok (.getfield 87, 3) := by decide +kernel
theorem dX12_curves_119 : decode cX12_curves 119 = .ok (.iload_n 3, 1) := by decide +kernel
theorem dX12_curves_120 : decode cX12_curves 120 = .ok (.iload 6, 2) := by decide +kernel
theorem dX12_curves_122 : decode cX12_curves 122 = .ok (.ifCond .eq 30, 3) := by decide +kernel
theorem dX12_curves_125 : decode cX12_curves 125 = .ok (.aload_n 0, 1) := by decide +kernel
theorem dX12_curves_126 : decode cX12_curves 126 = .ok (.getfield 87, 3) := by decide +kernel
theorem dX12_curves_129 : decode cX12_curves 129 = .ok (.iload_n 2, 1) := by decide +kernel
theorem dX12_curves_130 : decode cX12_curves 130 = .ok (.iaload, 1) := by decide +kernel
theorem dX12_curves_131 : decode cX12_curves 131 = .ok (.aload_n 0, 1) := by decide +kernel
theorem dX12_curves_132 : decode cX12_curves 132 = .ok (.iload_n 1, 1) := by decide +kernel
theorem dX12_curves_133 : decode cX12_curves 133 = .ok (.iload 4, 2) := by decide +kernel
theorem dX12_curves_135 : decode cX12_curves 135 = .ok (.iconst 2, 1) := by decide +kernel
theorem dX12_curves_136 : decode cX12_curves 136 = .ok (.invokevirtual 306, 3) := by decide +kernel
theorem dX12_curves_139 : decode cX12_curves 139 = .ok (.iadd, 1) := by decide +kernel
theorem dX12_curves_140 : decode cX12_curves 140 = .ok (.aload_n 0, 1) := by decide +kernel
theorem dX12_curves_141 : decode cX12_curves 141 = .ok (.iload_n 1, 1) := by decide +kernel
theorem dX12_curves_142 : decode cX12_curves 142 = .ok (.iload 5, 2) := by decide +kernel
theorem dX12_curves_144 : decode cX12_curves 144 = .ok (.iconst 1, 1) := by decide +kernel
theorem dX12_curves_145 : decode cX12_curves 145 = .ok (.invokevirtual 306, 3) := by decide +kernel
theorem dX12_curves_148 : decode cX12_curves 148 = .ok (.isub, 1) := by decide +kernel
theorem dX12_curves_149 : decode cX12_curves 149 = .ok (.goto 9, 3) := by decide +kernel
theorem dX12_curves_152 : decode cX12_curves 152 = .ok (.aload_n 0, 1) := by decide +kernel
theorem dX12_curves_153 : decode cX12_curves 153 = .ok (.getfield 87, 3) := by decide +kernel
theorem dX12_curves_156 : decode cX12_curves 156 = .ok (.iload_n 3, 1) := by decide +kernel
theorem dX12_curves_157 : decode cX12_curves 157 = .ok (.iaload, 1) := by decide +kernel
theorem dX12_curves_158 : decode cX12_curves 158 = .ok (.iastore, 1) := by decide +kernel
theorem dX12_curves_159 : decode cX12_curves 159 = .ok (.iinc 2 1, 3) := by decide +kernel
theorem dX12_curves_162 : decode cX12_curves 162 = .ok (.goto (-160), 3) := by decide +kernel
theorem dX12_curves_165 : decode cX12_curves 165 = .ok (.return_, 1) := by decide +kernel
theorem dX12_sets_0 : decode cX12_sets 0 = .ok (.aload_n 0, 1) := by decide +kernel
theorem dX12_sets_1 : decode cX12_sets 1 = .ok (.getfield 90, 3) := by decide +kernel
theorem dX12_sets_4 : decode cX12_sets 4 = .ok (.iload_n 1, 1) := by decide +kernel
theorem dX12_sets_5 : decode cX12_sets 5 = .ok (.iload_n 2, 1) := by decide +kernel
theorem dX12_sets_6 : decode cX12_sets 6 = .ok (.iastore, 1) := by decide +kernel
theorem dX12_sets_7 : decode cX12_sets 7 = .ok (.aload_n 0, 1) := by decide +kernel
theorem dX12_sets_8 : decode cX12_sets 8 = .ok (.getfield 93, 3) := by decide +kernel
theorem dX12_sets_11 : decode cX12_sets 11 = .ok (.iload_n 1, 1) := by decide +kernel
theorem dX12_sets_12 : decode cX12_sets 12 = .ok (.iload_n 3, 1) := by decide +kernel
theorem dX12_sets_13 : decode cX12_sets 13 = .ok (.iastore, 1) := by decide +kernel
theorem dX12_sets_14 : decode cX12_sets 14 = .ok (.aload_n 0, 1) := by decide +kernel
theorem dX12_sets_15 : decode cX12_sets 15 = .ok (.getfield 96, 3) := by decide +kernel
theorem dX12_sets_18 : decode cX12_sets 18 = .ok (.iload_n 1, 1) := by decide +kernel
theorem dX12_sets_19 : decode cX12_sets 19 = .ok (.iload 4, 2) := by decide +kernel
theorem dX12_sets_21 : decode cX12_sets 21 = .ok (.iastore, 1) := by decide +kernel
theorem dX12_sets_22 : decode cX12_sets 22 = .ok (.return_, 1) := by decide +kernel
theorem dX12_setsOnBases_0 : decode cX12_setsOnBases 0 = .ok (.iconst 0, 1) := by decide +kernel
theorem dX12_setsOnBases_1 : decode cX12_setsOnBases 1 = .ok (.istore_n 2, 1) := by decide +kernel
theorem dX12_setsOnBases_2 : decode cX12_setsOnBases 2 = .ok (.iload_n 2, 1) := by decide +kernel
theorem dX12_setsOnBases_3 : decode cX12_setsOnBases 3 = .ok (.aload_n 0, 1) := by decide +kernel
theorem dX12_setsOnBases_4 : decode cX12_setsOnBases 4 = .ok (.getfield 235, 3) := by decide +kernel
theorem dX12_setsOnBases_7 : decode cX12_setsOnBases 7 = .ok (.if_icmp .ge 213, 3) := by decide +kernel
theorem dX12_setsOnBases_10 : decode cX12_setsOnBases 10 = .ok (.iload_n 2, 1) := by decide +kernel
theorem dX12_setsOnBases_11 : decode cX12_setsOnBases 11 = .ok (.iconst 1, 1) := by decide +kernel
theorem dX12_setsOnBases_12 : decode cX12_setsOnBases 12 = .ok (.isub, 1) := by decide +kernel
theorem dX12_setsOnBases_13 : decode cX12_setsOnBases 13 = .ok (.istore_n 3, 1) := by decide +kernel
theorem dX12_setsOnBases_14 : decode cX12_setsOnBases 14 = .ok (.iload_n 3, 1) := by decide +kernel
theorem dX12_setsOnBases_15 : decode cX12_setsOnBases 15 = .ok (.ifCond .lt 17, 3) := by decide +kernel
theorem dX12_setsOnBases_18 : decode cX12_setsOnBases 18 = .ok (.aload_n 0, 1) := by decide +kernel
theorem dX12_setsOnBases_19 : decode cX12_setsOnBases 19 = .ok (.iload_n 3, 1) := by decide +kernel
theorem dX12_setsOnBases_20 : decode cX12_setsOnBases 20 = .ok (.invokevirtual 282, 3) := by decide +kernel
theorem dX12_setsOnBases_23 : decode cX12_setsOnBases 23 = .ok (.ifCond .lt 9, 3) := by decide +kernel
theorem dX12_setsOnBases_26 : decode cX12_setsOnBases 26 = .ok (.iinc 3 (-1), 3) := by decide +kernel
theorem dX12_setsOnBases_29 : decode cX12_setsOnBases 29 = .ok (.goto (-15), 3) := by decide +kernel
theorem dX12_setsOnBases_32 : decode cX12_setsOnBases 32 = .ok (.aload_n 0, 1) := by decide +kernel
theorem dX12_setsOnBases_33 : decode cX12_setsOnBases 33 = .ok (.iload_n 2, 1) := by decide +kernel
theorem dX12_setsOnBases_34 : decode cX12_setsOnBases 34 = .ok (.invokevirtual 282, 3) := by decide +kernel
theorem dX12_setsOnBases_37 : decode cX12_setsOnBases 37 = .ok (.ifCond .lt 25, 3) := by decide +kernel
theorem dX12_setsOnBases_40 : decode cX12_setsOnBases 40 = .ok (.aload_n 0, 1) := by decide +kernel
theorem dX12_setsOnBases_41 : decode cX12_setsOnBases 41 = .ok (.iload_n 1, 1) := by decide +kernel
theorem dX12_setsOnBases_42 : decode cX12_setsOnBases 42 = .ok (.iload_n 2, 1) := by decide +kernel
theorem dX12_setsOnBases_43 : decode cX12_setsOnBases 43 = .ok (.invokevirtual 285, 3) := by decide +kernel
theorem dX12_setsOnBases_46 : decode cX12_setsOnBases 46 = .ok (.ifCond .ne 16, 3) := by decide +kernel
theorem dX12_setsOnBases_49 : decode cX12_setsOnBases 49 = .ok (.aload_n 0, 1) := by decide +kernel
theorem dX12_setsOnBases_50 : decode cX12_setsOnBases 50 = .ok (.iload_n 1, 1) := by decide +kernel
theorem dX12_setsOnBases_51 : decode cX12_setsOnBases 51 = .ok (.iload_n 2, 1) := by decide +kernel
theorem dX12_setsOnBases_52 : decode cX12_setsOnBases 52 = .ok (.invokevirtual 344, 3) := by decide +kernel
theorem dX12_setsOnBases_55 : decode cX12_setsOnBases 55 = .ok (.ifCond .eq 7, 3) := by decide +kernel
theorem dX12_setsOnBases_58 : decode cX12_setsOnBases 58 = .ok (.iload_n 3, 1) := by decide +kernel
theorem dX12_setsOnBases_59 : decode cX12_setsOnBases 59 = .ok (.ifCond .ge 7, 3) := by decide +kernel
theorem dX12_setsOnBases_62 : decode cX12_setsOnBases 62 = .ok (.iconst 1, 1) := by decide +kernel
theorem dX12_setsOnBases_63 : decode cX12_setsOnBases 63 = .ok (.goto 4, 3) := by decide +kernel
theorem dX12_setsOnBases_66 : decode cX12_setsOnBases 66 = .ok (.iconst 0, 1) := by decide +kernel
theorem dX12_setsOnBases_67 : decode cX12_setsOnBases 67 = .ok (.istore 4, 2) := by decide +kernel
theorem dX12_setsOnBases_69 : decode cX12_setsOnBases 69 = .ok (.iconst 0, 1) := by decide +kernel
theorem dX12_setsOnBases_70 : decode cX12_setsOnBases 70 = .ok (.istore 5, 2) := by decide +kernel
theorem dX12_setsOnBases_72 : decode cX12_setsOnBases 72 = .ok (.iload 5, 2) := by decide +kernel
theorem dX12_setsOnBases_74 : decode cX12_setsOnBases 74 = .ok (.aload_n 0, 1) := by decide +kernel
theorem dX12_setsOnBases_75 : decode cX12_setsOnBases 75 = .ok (.getfield 28, 3) := by decide +kernel
theorem dX12_setsOnBases_78 : decode cX12_setsOnBases 78 = .ok (.iload_n 1, 1) := by decide +kernel
theorem dX12_setsOnBases_79 : decode cX12_setsOnBases 79 = .ok (.iaload, 1) := by decide +kernel
theorem dX12_setsOnBases_80 : decode cX12_setsOnBases 80 = .ok (.if_icmp .ge 134, 3) := by decide +kernel
theorem dX12_setsOnBases_83 : decode cX12_setsOnBases 83 = .ok (.iload 4, 2) := by decide +kernel
theorem dX12_setsOnBases_85 : decode cX12_setsOnBases 85 = .ok (.ifCond .ne 129, 3) := by decide +kernel
theorem dX12_setsOnBases_88 : decode cX12_setsOnBases 88 = .ok (.aload_n 0, 1) := by decide +kernel
theorem dX12_setsOnBases_89 : decode cX12_setsOnBases 89 = .ok (.getfield 75, 3) := by decide +kernel
theorem dX12_setsOnBases_92 : decode cX12_setsOnBases 92 = .ok (.iload_n 2, 1) := by decide +kernel
theorem dX12_setsOnBases_93 : decode cX12_setsOnBases 93 = .ok (.iaload, 1) := by decide +kernel
theorem dX12_setsOnBases_94 : decode cX12_setsOnBases 94 = .ok (.bipush (-100), 2) := by decide +kernel
theorem dX12_setsOnBases_96 : decode cX12_setsOnBases 96 = .ok (.if_icmp .ne 14, 3) := by decide +kernel
theorem dX12_setsOnBases_99 : decode cX12_setsOnBases 99 = .ok (.aload_n 0, 1) := by decide +kernel
theorem dX12_setsOnBases_100 : decode cX12_setsOnBases 100 = .ok (.getfield 78, 3) := by decide +kernel
theorem dX12_setsOnBases_103 : decode cX12_setsOnBases 103 = .ok (.iload_n 3, 1) := by decide +kernel
theorem dX12_setsOnBases_104 : decode cX12_setsOnBases 104 = .ok (.iaload, 1) := by decide +kernel
theorem dX12_setsOnBases_105 : decode cX12_setsOnBases 105 = .ok (.iconst 1, 1) := by decide +kernel
theorem dX12_setsOnBases_106 : decode cX12_setsOnBases 106 = .ok (.isub, 1) := by decide +kernel
theorem dX12_setsOnBases_107 : decode cX12_setsOnBases 107 = .ok (.goto 9, 3) := by decide +kernel
theorem dX12_setsOnBases_110 : decode cX12_setsOnBases 110 = .ok (.aload_n 0, 1) := by decide +kernel
theorem dX12_setsOnBases_111 : decode cX12_setsOnBases 111 = .ok (.getfield 75, 3) := by decide +kernel
theorem dX12_setsOnBases_114 : decode cX12_setsOnBases 114 = .ok (.iload_n 2, 1) := by decide +kernel
theorem dX12_setsOnBases_115 : decode cX12_setsOnBases 115 = .ok (.iaload, 1) := by decide +kernel
theorem dX12_setsOnBases_116 : decode cX12_setsOnBases 116 = .ok (.istore 6, 2) := by decide +kernel
theorem dX12_setsOnBases_118 : decode cX12_setsOnBases 118 = .ok (.aload_n 0, 1) := by decide +kernel
theorem dX12_setsOnBases_119 : decode cX12_setsOnBases 119 = .ok (.iload_n 1, 1) := by decide +kernel
theorem dX12_setsOnBases_120 : decode cX12_setsOnBases 120 = .ok (.iload 5, 2) := by decide +kernel
theorem dX12_setsOnBases_122 : decode cX12_setsOnBases 122 = .ok (.iconst 1, 1) := by decide +kernel
theorem dX12_setsOnBases_123 : decode cX12_setsOnBases 123 = .ok (.invokevirtual 306, 3) := by decide +kernel
theorem dX12_setsOnBases_126 : decode cX12_setsOnBases 126 = .ok (.istore 7, 2) := by decide +kernel
theorem dX12_setsOnBases_128 : decode cX12_setsOnBases 128 = .ok (.aload_n 0, 1) := by decide +kernel
theorem dX12_setsOnBases_129 : decode cX12_setsOnBases 129 = .ok (.aload_n 0, 1) := by decide +kernel
theorem dX12_setsOnBases_130 : decode cX12_setsOnBases 130 = .ok (.iload_n 1, 1) := by decide +kernel
theorem dX12_setsOnBases_131 : decode cX12_setsOnBases 131 = .ok (.iload 5, 2) := by decide +kernel
theorem dX12_setsOnBases_133 : decode cX12_setsOnBases 133 = .ok (.iconst 0, 1) := by decide +kernel
theorem dX12_setsOnBases_134 : decode cX12_setsOnBases 134 = .ok (.invokevirtual 306, 3) := by decide +kernel
theorem dX12_setsOnBases_137 : decode cX12_setsOnBases 137 = .ok (.iload_n 3, 1) := by decide +kernel
theorem dX12_setsOnBases_138 : decode cX12_setsOnBases 138 = .ok (.invokevirtual 288, 3) := by decide +kernel
theorem dX12_setsOnBases_141 : decode cX12_setsOnBases 141 = .ok (.ifCond .eq 37, 3) := by decide +kernel
theorem dX12_setsOnBases_144 : decode cX12_setsOnBases 144 = .ok (.iload 7, 2) := by decide +kernel
theorem dX12_setsOnBases_146 : decode cX12_setsOnBases 146 = .ok (.bipush (-100), 2) := by decide +kernel
theorem dX12_setsOnBases_148 : decode cX12_setsOnBases 148 = .ok (.if_icmp .eq 10, 3) := by decide +kernel
theorem dX12_setsOnBases_151 : decode cX12_setsOnBases 151 = .ok (.iload 7, 2) := by decide +kernel
theorem dX12_setsOnBases_153 : decode cX12_setsOnBases 153 = .ok (.iload 6, 2) := by decide +kernel
theorem dX12_setsOnBases_155 : decode cX12_setsOnBases 155 = .ok (.if_icmp .ne 23, 3) := by decide +kernel
theorem dX12_setsOnBases_158 : decode cX12_setsOnBases 158 = .ok (.aload_n 0, 1) := by decide +kernel
theorem dX12_setsOnBases_159 : decode cX12_setsOnBases 159 = .ok (.iload_n 1, 1) := by decide +kernel
theorem dX12_setsOnBases_160 : decode cX12_setsOnBases 160 = .ok (.iload 5, 2) := by decide +kernel
theorem dX12_setsOnBases_162 : decode cX12_setsOnBases 162 = .ok (.iconst 2, 1) := by decide +kernel
theorem dX12_setsOnBases_163 : decode cX12_setsOnBases 163 = .ok (.invokevirtual 306, 3) := by decide +kernel
theorem dX12_setsOnBases_166 : decode cX12_setsOnBases 166 = .ok (.aload_n 0, 1) := by decide +kernel
theorem dX12_setsOnBases_167 : decode cX12_setsOnBases 167 = .ok (.iload_n 2, 1) := by decide +kernel
theorem dX12_setsOnBases_168 : decode cX12_setsOnBases 168 = .ok (.invokevirtual 282, 3) := by decide +kernel
theorem dX12_setsOnBases_171 : decode cX12_setsOnBases 171 = .ok (.if_icmp .ne 7, 3) := by decide +kernel
theorem dX12_setsOnBases_174 : decode cX12_setsOnBases 174 = .ok (.iconst 1, 1) := by decide +kernel
theorem dX12_setsOnBases_175 : decode cX12_setsOnBases 175 = .ok (.goto 4, 3) := by decide +kernel
theorem dX12_setsOnBases_178 : decode cX12_setsOnBases 178 = .ok (.iconst 0, 1) := by decide +kernel
theorem dX12_setsOnBases_179 : decode cX12_setsOnBases 179 = .ok (.istore 4, 2) := by decide +kernel
theorem dX12_setsOnBases_181 : decode cX12_setsOnBases 181 = .ok (.iload 4, 2) := by decide +kernel
theorem dX12_setsOnBases_183 : decode cX12_setsOnBases 183 = .ok (.ifCond .eq 25, 3) := by decide +kernel
theorem dX12_setsOnBases_186 : decode cX12_setsOnBases 186 = .ok (.aload_n 0, 1) := by decide +kernel
theorem dX12_setsOnBases_187 : decode cX12_setsOnBases 187 = .ok (.iload_n 2, 1) := by decide +kernel
theorem dX12_setsOnBases_188 : decode cX12_setsOnBases 188 = .ok (.iload_n 3, 1) := by decide +kernel
theorem dX12_setsOnBases_189 : decode cX12_setsOnBases 189 = .ok (.aload_n 0, 1) := by decide +kernel
theorem dX12_setsOnBases_190 : decode cX12_setsOnBases 190 = .ok (.iload_n 1, 1) := by decide +kernel
theorem dX12_setsOnBases_191 : decode cX12_setsOnBases 191 = .ok (.iload 5, 2) := by decide +kernel
theorem dX12_setsOnBases_193 : decode cX12_setsOnBases 193 = .ok (.iconst 3, 1) := by decide +kernel
theorem dX12_setsOnBases_194 : decode cX12_setsOnBases 194 = .ok (.invokevirtual 306, 3) := by decide +kernel
theorem dX12_setsOnBases_197 : decode cX12_setsOnBases 197 = .ok (.aload_n 0, 1) := by decide +kernel
theorem dX12_setsOnBases_198 : decode cX12_setsOnBases 198 = .ok (.iload_n 1, 1) := by decide +kernel
theorem dX12_setsOnBases_199 : decode cX12_setsOnBases 199 = .ok (.iload 5, 2) := by decide +kernel
theorem dX12_setsOnBases_201 : decode cX12_setsOnBases 201 = .ok (.iconst 4, 1) := by decide +kernel
theorem dX12_setsOnBases_202 : decode cX12_setsOnBases 202 = .ok (.invokevirtual 306, 3) := by decide +kernel
theorem dX12_setsOnBases_205 : decode cX12_setsOnBases 205 = .ok (.invokevirtual 365, 3) := by decide +kernel
theorem dX12_setsOnBases_208 : decode cX12_setsOnBases 208 = .ok (.iinc 5 1, 3) := by decide +kernel
theorem dX12_setsOnBases_211 : decode cX12_setsOnBases 211 = .ok (.goto (-139), 3) := by decide +kernel
theorem dX12_setsOnBases_214 : decode cX12_setsOnBases 214 = .ok (.iinc 2 1, 3) := by decide +kernel
theorem dX12_setsOnBases_217 : decode cX12_setsOnBases 217 = .ok (.goto (-215), 3) := by decide +kernel
theorem dX12_setsOnBases_220 : decode cX12_setsOnBases 220 = .ok (.return_, 1) := by decide +kernel
theorem dX12_setsOnMarks_0 : decode cX12_setsOnMarks 0 = .ok (.iconst 0, 1) := by decide +kernel
theorem dX12_setsOnMarks_1 : decode cX12_setsOnMarks 1 = .ok (.istore_n 2, 1) := by decide +kernel
theorem dX12_setsOnMarks_2 : decode cX12_setsOnMarks 2 = .ok (.iload_n 2, 1) := by decide +kernel
theorem dX12_setsOnMarks_3 : decode cX12_setsOnMarks 3 = .ok (.aload_n 0, 1) := by decide +kernel
theorem dX12_setsOnMarks_4 : decode cX12_setsOnMarks 4 = .ok (.getfield 235, 3) := by decide +kernel
theorem dX12_setsOnMarks_7 : decode cX12_setsOnMarks 7 = .ok (.if_icmp .ge 152, 3) := by decide +kernel
theorem dX12_setsOnMarks_10 : decode cX12_setsOnMarks 10 = .ok (.aload_n 0, 1) := by decide +kernel
theorem dX12_setsOnMarks_11 : decode cX12_setsOnMarks 11 = .ok (.iload_n 1, 1) := by decide +kernel
theorem dX12_setsOnMarks_12 : decode cX12_setsOnMarks 12 = .ok (.iload_n 2, 1) := by decide +kernel
theorem dX12_setsOnMarks_13 : decode cX12_setsOnMarks 13 = .ok (.invokevirtual 335, 3) := by decide +kernel
theorem dX12_setsOnMarks_16 : decode cX12_setsOnMarks 16 = .ok (.istore_n 3, 1) := by decide +kernel
theorem dX12_setsOnMarks_17 : decode cX12_setsOnMarks 17 = .ok (.aload_n 0, 1) := by decide +kernel
theorem dX12_setsOnMarks_18 : decode cX12_setsOnMarks 18 = .ok (.iload_n 2, 1) := by decide +kernel
theorem dX12_setsOnMarks_19 : decode cX12_setsOnMarks 19 = .ok (.invokevirtual 282, 3) := by decide +kernel
theorem dX12_setsOnMarks_22 : decode cX12_setsOnMarks 22 = .ok (.ifCond .lt 33, 3) := by decide +kernel
theorem dX12_setsOnMarks_25 : decode cX12_setsOnMarks 25 = .ok (.aload_n 0, 1) := by decide +kernel
