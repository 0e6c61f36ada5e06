theorem dX12_laysJoined_29 : decode cX12_laysJoined 29 = .ok (.iload 4, 2) := by decide +kernel
theorem dX12_laysJoined_31 : decode cX12_laysJoined 31 = .ok (.istore_n 3, 1) := by decide +kernel
theorem dX12_laysJoined_32 : decode cX12_laysJoined 32 = .ok (.aload_n 0, 1) := by decide +kernel
theorem dX12_laysJoined_33 : decode cX12_laysJoined 33 = .ok (.aload_n 0, 1) := by decide +kernel
theorem dX12_laysJoined_34 : decode cX12_laysJoined 34 = .ok (.getfield 47, 3) := by decide +kernel
theorem dX12_laysJoined_37 : decode cX12_laysJoined 37 = .ok (.iload 4, 2) := by decide +kernel
theorem dX12_laysJoined_39 : decode cX12_laysJoined 39 = .ok (.iaload, 1) := by decide +kernel
theorem dX12_laysJoined_40 : decode cX12_laysJoined 40 = .ok (.iload_n 3, 1) := by decide +kernel
theorem dX12_laysJoined_41 : decode cX12_laysJoined 41 = .ok (.bipush (-100), 2) := by decide +kernel
theorem dX12_laysJoined_43 : decode cX12_laysJoined 43 = .ok (.if_icmp .ne 8, 3) := by decide +kernel
theorem dX12_laysJoined_46 : decode cX12_laysJoined 46 = .ok (.iload 4, 2) := by decide +kernel
theorem dX12_laysJoined_48 : decode cX12_laysJoined 48 = .ok (.goto 4, 3) := by decide +kernel
theorem dX12_laysJoined_51 : decode cX12_laysJoined 51 = .ok (.iload_n 3, 1) := by decide +kernel
theorem dX12_laysJoined_52 : decode cX12_laysJoined 52 = .ok (.aload_n 0, 1) := by decide +kernel
theorem dX12_laysJoined_53 : decode cX12_laysJoined 53 = .ok (.getfield 50, 3) := by decide +kernel
theorem dX12_laysJoined_56 : decode cX12_laysJoined 56 = .ok (.iload 4, 2) := by decide +kernel
theorem dX12_laysJoined_58 : decode cX12_laysJoined 58 = .ok (.iaload, 1) := by decide +kernel
theorem dX12_laysJoined_59 : decode cX12_laysJoined 59 = .ok (.aload_n 0, 1) := by decide +kernel
theorem dX12_laysJoined_60 : decode cX12_laysJoined 60 = .ok (.iload_n 1, 1) := by decide +kernel
theorem dX12_laysJoined_61 : decode cX12_laysJoined 61 = .ok (.iload_n 2, 1) := by decide +kernel
theorem dX12_laysJoined_62 : decode cX12_laysJoined 62 = .ok (.iload 4, 2) := by decide +kernel
theorem dX12_laysJoined_64 : decode cX12_laysJoined 64 = .ok (.invokevirtual 238, 3) := by decide +kernel
theorem dX12_laysJoined_67 : decode cX12_laysJoined 67 = .ok (.invokevirtual 242, 3) := by decide +kernel
theorem dX12_laysJoined_70 : decode cX12_laysJoined 70 = .ok (.iinc 4 1, 3) := by decide +kernel
theorem dX12_laysJoined_73 : decode cX12_laysJoined 73 = .ok (.goto (-67), 3) := by decide +kernel
theorem dX12_laysJoined_76 : decode cX12_laysJoined 76 = .ok (.return_, 1) := by decide +kernel
theorem dX12_isConsonant_0 : decode cX12_isConsonant 0 = .ok (.iload_n 0, 1) := by decide +kernel
theorem dX12_isConsonant_1 : decode cX12_isConsonant 1 = .ok (.bipush 30, 2) := by decide +kernel
theorem dX12_isConsonant_3 : decode cX12_isConsonant 3 = .ok (.bipush 38, 2) := by decide +kernel
theorem dX12_isConsonant_5 : decode cX12_isConsonant 5 = .ok (.invokestatic 162, 3) := by decide +kernel
theorem dX12_isConsonant_8 : decode cX12_isConsonant 8 = .ok (.ireturn, 1) := by decide +kernel
theorem dX12_isVowel_0 : decode cX12_isVowel 0 = .ok (.iload_n 0, 1) := by decide +kernel
theorem dX12_isVowel_1 : decode cX12_isVowel 1 = .ok (.bipush 40, 2) := by decide +kernel
theorem dX12_isVowel_3 : decode cX12_isVowel 3 = .ok (.bipush 42, 2) := by decide +kernel
theorem dX12_isVowel_5 : decode cX12_isVowel 5 = .ok (.invokestatic 162, 3) := by decide +kernel
theorem dX12_isVowel_8 : decode cX12_isVowel 8 = .ok (.ifCond .ne 9, 3) := by decide +kernel
theorem dX12_isVowel_11 : decode cX12_isVowel 11 = .ok (.iload_n 0, 1) := by decide +kernel
theorem dX12_isVowel_12 : decode cX12_isVowel 12 = .ok (.bipush 44, 2) := by decide +kernel
theorem dX12_isVowel_14 : decode cX12_isVowel 14 = .ok (.if_icmp .ne 7, 3) := by decide +kernel
theorem dX12_isVowel_17 : decode cX12_isVowel 17 = .ok (.iconst 1, 1) := by decide +kernel
theorem dX12_isVowel_18 : decode cX12_isVowel 18 = .ok (.goto 4, 3) := by decide +kernel
theorem dX12_isVowel_21 : decode cX12_isVowel 21 = .ok (.iconst 0, 1) := by decide +kernel
theorem dX12_isVowel_22 : decode cX12_isVowel 22 = .ok (.ireturn, 1) := by decide +kernel
theorem dX12_behindKiller_0 : decode cX12_behindKiller 0 = .ok (.iload_n 2, 1) := by decide +kernel
theorem dX12_behindKiller_1 : decode cX12_behindKiller 1 = .ok (.iconst 1, 1) := by decide +kernel
theorem dX12_behindKiller_2 : decode cX12_behindKiller 2 = .ok (.iadd, 1) := by decide +kernel
theorem dX12_behindKiller_3 : decode cX12_behindKiller 3 = .ok (.iload_n 1, 1) := by decide +kernel
theorem dX12_behindKiller_4 : decode cX12_behindKiller 4 = .ok (.if_icmp .ge 33, 3) := by decide +kernel
theorem dX12_behindKiller_7 : decode cX12_behindKiller 7 = .ok (.aload_n 0, 1) := by decide +kernel
theorem dX12_behindKiller_8 : decode cX12_behindKiller 8 = .ok (.getfield 47, 3) := by decide +kernel
theorem dX12_behindKiller_11 : decode cX12_behindKiller 11 = .ok (.iload_n 2, 1) := by decide +kernel
theorem dX12_behindKiller_12 : decode cX12_behindKiller 12 = .ok (.iconst 1, 1) := by decide +kernel
theorem dX12_behindKiller_13 : decode cX12_behindKiller 13 = .ok (.iadd, 1) := by decide +kernel
theorem dX12_behindKiller_14 : decode cX12_behindKiller 14 = .ok (.iaload, 1) := by decide +kernel
theorem dX12_behindKiller_15 : decode cX12_behindKiller 15 = .ok (.iconst 2, 1) := by decide +kernel
theorem dX12_behindKiller_16 : decode cX12_behindKiller 16 = .ok (.if_icmp .eq 15, 3) := by decide +kernel
theorem dX12_behindKiller_19 : decode cX12_behindKiller 19 = .ok (.aload_n 0, 1) := by decide +kernel
theorem dX12_behindKiller_20 : decode cX12_behindKiller 20 = .ok (.getfield 47, 3) := by decide +kernel
theorem dX12_behindKiller_23 : decode cX12_behindKiller 23 = .ok (.iload_n 2, 1) := by decide +kernel
theorem dX12_behindKiller_24 : decode cX12_behindKiller 24 = .ok (.iconst 1, 1) := by decide +kernel
theorem dX12_behindKiller_25 : decode cX12_behindKiller 25 = .ok (.iadd, 1) := by decide +kernel
theorem dX12_behindKiller_26 : decode cX12_behindKiller 26 = .ok (.iaload, 1) := by decide +kernel
theorem dX12_behindKiller_27 : decode cX12_behindKiller 27 = .ok (.iconst 3, 1) := by decide +kernel
theorem dX12_behindKiller_28 : decode cX12_behindKiller 28 = .ok (.if_icmp .ne 9, 3) := by decide +kernel
theorem dX12_behindKiller_31 : decode cX12_behindKiller 31 = .ok (.iload_n 2, 1) := by decide +kernel
theorem dX12_behindKiller_32 : decode cX12_behindKiller 32 = .ok (.iconst 2, 1) := by decide +kernel
theorem dX12_behindKiller_33 : decode cX12_behindKiller 33 = .ok (.iadd, 1) := by decide +kernel
theorem dX12_behindKiller_34 : decode cX12_behindKiller 34 = .ok (.goto 6, 3) := by decide +kernel
theorem dX12_behindKiller_37 : decode cX12_behindKiller 37 = .ok (.iload_n 2, 1) := by decide +kernel
theorem dX12_behindKiller_38 : decode cX12_behindKiller 38 = .ok (.iconst 1, 1) := by decide +kernel
theorem dX12_behindKiller_39 : decode cX12_behindKiller 39 = .ok (.iadd, 1) := by decide +kernel
theorem dX12_behindKiller_40 : decode cX12_behindKiller 40 = .ok (.ireturn, 1) := by decide +kernel
theorem dX12_behindVowels_0 : decode cX12_behindVowels 0 = .ok (.iload_n 2, 1) := by decide +kernel
theorem dX12_behindVowels_1 : decode cX12_behindVowels 1 = .ok (.istore_n 3, 1) := by decide +kernel
theorem dX12_behindVowels_2 : decode cX12_behindVowels 2 = .ok (.iload_n 3, 1) := by decide +kernel
theorem dX12_behindVowels_3 : decode cX12_behindVowels 3 = .ok (.iload_n 1, 1) := by decide +kernel
theorem dX12_behindVowels_4 : decode cX12_behindVowels 4 = .ok (.if_icmp .ge 21, 3) := by decide +kernel
theorem dX12_behindVowels_7 : decode cX12_behindVowels 7 = .ok (.aload_n 0, 1) := by decide +kernel
theorem dX12_behindVowels_8 : decode cX12_behindVowels 8 = .ok (.getfield 47, 3) := by decide +kernel
theorem dX12_behindVowels_11 : decode cX12_behindVowels 11 = .ok (.iload_n 3, 1) := by decide +kernel
theorem dX12_behindVowels_12 : decode cX12_behindVowels 12 = .ok (.iaload, 1) := by decide +kernel
theorem dX12_behindVowels_13 : decode cX12_behindVowels 13 = .ok (.invokestatic 246, 3) := by decide +kernel
theorem dX12_behindVowels_16 : decode cX12_behindVowels 16 = .ok (.ifCond .eq 9, 3) := by decide +kernel
theorem dX12_behindVowels_19 : decode cX12_behindVowels 19 = .ok (.iinc 3 1, 3) := by decide +kernel
theorem dX12_behindVowels_22 : decode cX12_behindVowels 22 = .ok (.goto (-20), 3) := by decide +kernel
theorem dX12_behindVowels_25 : decode cX12_behindVowels 25 = .ok (.iload_n 3, 1) := by decide +kernel
theorem dX12_behindVowels_26 : decode cX12_behindVowels 26 = .ok (.ireturn, 1) := by decide +kernel
theorem dX12_behindConsonants_0 : decode cX12_behindConsonants 0 = .ok (.iload_n 2, 1) := by decide +kernel
theorem dX12_behindConsonants_1 : decode cX12_behindConsonants 1 = .ok (.istore_n 3, 1) := by decide +kernel
theorem dX12_behindConsonants_2 : decode cX12_behindConsonants 2 = .ok (.iconst 1, 1) := by decide +kernel
theorem dX12_behindConsonants_3 : decode cX12_behindConsonants 3 = .ok (.istore 4, 2) := by decide +kernel
theorem dX12_behindConsonants_5 : decode cX12_behindConsonants 5 = .ok (.iload 4, 2) := by decide +kernel
theorem dX12_behindConsonants_7 : decode cX12_behindConsonants 7 = .ok (.ifCond .eq 74, 3) := by decide +kernel
theorem dX12_behindConsonants_10 : decode cX12_behindConsonants 10 = .ok (.iload_n 3, 1) := by decide +kernel
theorem dX12_behindConsonants_11 : decode cX12_behindConsonants 11 = .ok (.iload_n 1, 1) := by decide +kernel
theorem dX12_behindConsonants_12 : decode cX12_behindConsonants 12 = .ok (.if_icmp .ge 23, 3) := by decide +kernel
theorem dX12_behindConsonants_15 : decode cX12_behindConsonants 15 = .ok (.aload_n 0, 1) := by decide +kernel
theorem dX12_behindConsonants_16 : decode cX12_behindConsonants 16 = .ok (.getfield 47, 3) := by decide +kernel
theorem dX12_behindConsonants_19 : decode cX12_behindConsonants 19 = .ok (.iload_n 3, 1) := by decide +kernel
theorem dX12_behindConsonants_20 : decode cX12_behindConsonants 20 = .ok (.iaload, 1) := by decide +kernel
theorem dX12_behindConsonants_21 : decode cX12_behindConsonants 21 = .ok (.bipush 39, 2) := by decide +kernel
theorem dX12_behindConsonants_23 : decode cX12_behindConsonants 23 = .ok (.if_icmp .ne 12, 3) := by decide +kernel
theorem dX12_behindConsonants_26 : decode cX12_behindConsonants 26 = .ok (.aload_n 0, 1) := by decide +kernel
theorem dX12_behindConsonants_27 : decode cX12_behindConsonants 27 = .ok (.iload_n 1, 1) := by decide +kernel
theorem dX12_behindConsonants_28 : decode cX12_behindConsonants 28 = .ok (.iload_n 3, 1) := by decide +kernel
theorem dX12_behindConsonants_29 : decode cX12_behindConsonants 29 = .ok (.invokevirtual 249, 3) := by decide +kernel
theorem dX12_behindConsonants_32 : decode cX12_behindConsonants 32 = .ok (.goto 4, 3) := by decide +kernel
theorem dX12_behindConsonants_35 : decode cX12_behindConsonants 35 = .ok (.iload_n 1, 1) := by decide +kernel
theorem dX12_behindConsonants_36 : decode cX12_behindConsonants 36 = .ok (.istore 5, 2) := by decide +kernel
theorem dX12_behindConsonants_38 : decode cX12_behindConsonants 38 = .ok (.iload 5, 2) := by decide +kernel
theorem dX12_behindConsonants_40 : decode cX12_behindConsonants 40 = .ok (.iload_n 1, 1) := by decide +kernel
theorem dX12_behindConsonants_41 : decode cX12_behindConsonants 41 = .ok (.if_icmp .ge 20, 3) := by decide +kernel
theorem dX12_behindConsonants_44 : decode cX12_behindConsonants 44 = .ok (.aload_n 0, 1) := by decide +kernel
theorem dX12_behindConsonants_45 : decode cX12_behindConsonants 45 = .ok (.getfield 47, 3) := by decide +kernel
theorem dX12_behindConsonants_48 : decode cX12_behindConsonants 48 = .ok (.iload 5, 2) := by decide +kernel
theorem dX12_behindConsonants_50 : decode cX12_behindConsonants 50 = .ok (.iaload, 1) := by decide +kernel
theorem dX12_behindConsonants_51 : decode cX12_behindConsonants 51 = .ok (.invokestatic 252, 3) := by decide +kernel
theorem dX12_behindConsonants_54 : decode cX12_behindConsonants 54 = .ok (.ifCond .eq 7, 3) := by decide +kernel
theorem dX12_behindConsonants_57 : decode cX12_behindConsonants 57 = .ok (.iconst 1, 1) := by decide +kernel
theorem dX12_behindConsonants_58 : decode cX12_behindConsonants 58 = .ok (.goto 4, 3) := by decide +kernel
theorem dX12_behindConsonants_61 : decode cX12_behindConsonants 61 = .ok (.iconst 0, 1) := by decide +kernel
theorem dX12_behindConsonants_62 : decode cX12_behindConsonants 62 = .ok (.istore 4, 2) := by decide +kernel
theorem dX12_behindConsonants_64 : decode cX12_behindConsonants 64 = .ok (.iload 4, 2) := by decide +kernel
theorem dX12_behindConsonants_66 : decode cX12_behindConsonants 66 = .ok (.ifCond .eq 10, 3) := by decide +kernel
theorem dX12_behindConsonants_69 : decode cX12_behindConsonants 69 = .ok (.iload 5, 2) := by decide +kernel
theorem dX12_behindConsonants_71 : decode cX12_behindConsonants 71 = .ok (.iconst 1, 1) := by decide +kernel
theorem dX12_behindConsonants_72 : decode cX12_behindConsonants 72 = .ok (.iadd, 1) := by decide +kernel
theorem dX12_behindConsonants_73 : decode cX12_behindConsonants 73 = .ok (.goto 4, 3) := by decide +kernel
theorem dX12_behindConsonants_76 : decode cX12_behindConsonants 76 = .ok (.iload_n 3, 1) := by decide +kernel
theorem dX12_behindConsonants_77 : decode cX12_behindConsonants 77 = .ok (.istore_n 3, 1) := by decide +kernel
theorem dX12_behindConsonants_78 : decode cX12_behindConsonants 78 = .ok (.goto (-73), 3) := by decide +kernel
theorem dX12_behindConsonants_81 : decode cX12_behindConsonants 81 = .ok (.iload_n 3, 1) := by decide +kernel
theorem dX12_behindConsonants_82 : decode cX12_behindConsonants 82 = .ok (.iload_n 1, 1) := by decide +kernel
theorem dX12_behindConsonants_83 : decode cX12_behindConsonants 83 = .ok (.if_icmp .ge 23, 3) := by decide +kernel
theorem dX12_behindConsonants_86 : decode cX12_behindConsonants 86 = .ok (.aload_n 0, 1) := by decide +kernel
theorem dX12_behindConsonants_87 : decode cX12_behindConsonants 87 = .ok (.getfield 47, 3) := by decide +kernel
theorem dX12_behindConsonants_90 : decode cX12_behindConsonants 90 = .ok (.iload_n 3, 1) := by decide +kernel
theorem dX12_behindConsonants_91 : decode cX12_behindConsonants 91 = .ok (.iaload, 1) := by decide +kernel
theorem dX12_behindConsonants_92 : decode cX12_behindConsonants 92 = .ok (.bipush 39, 2) := by decide +kernel
theorem dX12_behindConsonants_94 : decode cX12_behindConsonants 94 = .ok (.if_icmp .ne 12, 3) := by decide +kernel
theorem dX12_behindConsonants_97 : decode cX12_behindConsonants 97 = .ok (.aload_n 0, 1) := by decide +kernel
theorem dX12_behindConsonants_98 : decode cX12_behindConsonants 98 = .ok (.iload_n 1, 1) := by decide +kernel
theorem dX12_behindConsonants_99 : decode cX12_behindConsonants 99 = .ok (.iload_n 3, 1) := by decide +kernel
theorem dX12_behindConsonants_100 : decode cX12_behindConsonants 100 = .ok (.invokevirtual 249, 3) := by decide +kernel
theorem dX12_behindConsonants_103 : decode cX12_behindConsonants 103 = .ok (.goto 4, 3) := by decide +kernel
theorem dX12_behindConsonants_106 : decode cX12_behindConsonants 106 = .ok (.iload_n 3, 1) := by decide +kernel
theorem dX12_behindConsonants_107 : decode cX12_behindConsonants 107 = .ok (.istore_n 3, 1) := by decide +kernel
theorem dX12_behindConsonants_108 : decode cX12_behindConsonants 108 = .ok (.aload_n 0, 1) := by decide +kernel
theorem dX12_behindConsonants_109 : decode cX12_behindConsonants 109 = .ok (.iload_n 1, 1) := by decide +kernel
theorem dX12_behindConsonants_110 : decode cX12_behindConsonants 110 = .ok (.iload_n 3, 1) := by decide +kernel
theorem dX12_behindConsonants_111 : decode cX12_behindConsonants 111 = .ok (.invokevirtual 255, 3) := by decide +kernel
theorem dX12_behindConsonants_114 : decode cX12_behindConsonants 114 = .ok (.ireturn, 1) := by decide +kernel
theorem dX12_copies_0 : decode cX12_copies 0 = .ok (.aload_n 0, 1) := by decide +kernel
theorem dX12_copies_1 : decode cX12_copies 1 = .ok (.getfield 63, 3) := by decide +kernel
theorem dX12_copies_4 : decode cX12_copies 4 = .ok (.iload_n 2, 1) := by decide +kernel
theorem dX12_copies_5 : decode cX12_copies 5 = .ok (.aload_n 0, 1) := by decide +kernel
theorem dX12_copies_6 : decode cX12_copies 6 = .ok (.getfield 63, 3) := by decide +kernel
theorem dX12_copies_9 : decode cX12_copies 9 = .ok (.iload_n 1, 1) := by decide +kernel
theorem dX12_copies_10 : decode cX12_copies 10 = .ok (.iaload, 1) := by decide +kernel
theorem dX12_copies_11 : decode cX12_copies 11 = .ok (.iastore, 1) := by decide +kernel
theorem dX12_copies_12 : decode cX12_copies 12 = .ok (.aload_n 0, 1) := by decide +kernel
theorem dX12_copies_13 : decode cX12_copies 13 = .ok (.getfield 66, 3) := by decide +kernel
theorem dX12_copies_16 : decode cX12_copies 16 = .ok (.iload_n 2, 1) := by decide +kernel
theorem dX12_copies_17 : decode cX12_copies 17 = .ok (.aload_n 0, 1) := by decide +kernel
theorem dX12_copies_18 : decode cX12_copies 18 = .ok (.getfield 66, 3) := by decide +kernel
theorem dX12_copies_21 : decode cX12_copies 21 = .ok (.iload_n 1, 1) := by decide +kernel
theorem dX12_copies_22 : decode cX12_copies 22 = .ok (.iaload, 1) := by decide +kernel
theorem dX12_copies_23 : decode cX12_copies 23 = .ok (.iastore, 1) := by decide +kernel
theorem dX12_copies_24 : decode cX12_copies 24 = .ok (.aload_n 0, 1) := by decide +kernel
theorem dX12_copies_25 : decode cX12_copies 25 = .ok (.getfield 72, 3) := by decide +kernel
theorem dX12_copies_28 : decode cX12_copies 28 = .ok (.iload_n 2, 1) := by decide +kernel
theorem dX12_copies_29 : decode cX12_copies 29 = .ok (.aload_n 0, 1) := by decide +kernel
theorem dX12_copies_30 : decode cX12_copies 30 = .ok (.getfield 72, 3) := by decide +kernel
theorem dX12_copies_33 : decode cX12_copies 33 = .ok (.iload_n 1, 1) := by decide +kernel
theorem dX12_copies_34 : decode cX12_copies 34 = .ok (.iaload, 1) := by decide +kernel
theorem dX12_copies_35 : decode cX12_copies 35 = .ok (.iastore, 1) := by decide +kernel
theorem dX12_copies_36 : decode cX12_copies 36 = .ok (.aload_n 0, 1) := by decide +kernel
theorem dX12_copies_37 : decode cX12_copies 37 = .ok (.getfield 69, 3) := by decide +kernel
theorem dX12_copies_40 : decode cX12_copies 40 = .ok (.iload_n 2, 1) := by decide +kernel
theorem dX12_copies_41 : decode cX12_copies 41 = .ok (.aload_n 0, 1) := by decide +kernel
theorem dX12_copies_42 : decode cX12_copies 42 = .ok (.getfield 69, 3) := by decide +kernel
theorem dX12_copies_45 : decode cX12_copies 45 = .ok (.iload_n 1, 1) := by decide +kernel
theorem dX12_copies_46 : decode cX12_copies 46 = .ok (.iaload, 1) := by decide +kernel
theorem dX12_copies_47 : decode cX12_copies 47 = .ok (.iastore, 1) := by decide +kernel
theorem dX12_copies_48 : decode cX12_copies 48 = .ok (.aload_n 0, 1) := by decide +kernel
theorem dX12_copies_49 : decode cX12_copies 49 = .ok (.getfield 75, 3) := by decide +kernel
theorem dX12_copies_52 : decode cX12_copies 52 = .ok (.iload_n 2, 1) := by decide +kernel
theorem dX12_copies_53 : decode cX12_copies 53 = .ok (.aload_n 0, 1) := by decide +kernel
theorem dX12_copies_54 : decode cX12_copies 54 = .ok (.getfield 75, 3) := by decide +kernel
theorem dX12_copies_57 : decode cX12_copies 57 = .ok (.iload_n 1, 1) := by decide +kernel
theorem dX12_copies_58 : decode cX12_copies 58 = .ok (.iaload, 1) := by decide +kernel
theorem dX12_copies_59 : decode cX12_copies 59 = .ok (.iastore, 1) := by decide +kernel
theorem dX12_copies_60 : decode cX12_copies 60 = .ok (.aload_n 0, 1) := by decide +kernel
theorem dX12_copies_61 : decode cX12_copies 61 = .ok (.getfield 78, 3) := by decide +kernel
theorem dX12_copies_64 : decode cX12_copies 64 = .ok (.iload_n 2, 1) := by decide +kernel
theorem dX12_copies_65 : decode cX12_copies 65 = .ok (.aload_n 0, 1) := by decide +kernel
theorem dX12_copies_66 : decode cX12_copies 66 = .ok (.getfield 78, 3) := by decide +kernel
theorem dX12_copies_69 : decode cX12_copies 69 = .ok (.iload_n 1, 1) := by decide +kernel
theorem dX12_copies_70 : decode cX12_copies 70 = .ok (.iaload, 1) := by decide +kernel
theorem dX12_copies_71 : decode cX12_copies 71 = .ok (.iastore, 1) := by decide +kernel
theorem dX12_copies_72 : decode cX12_copies 72 = .ok (.aload_n 0, 1) := by decide +kernel
theorem dX12_copies_73 : decode cX12_copies 73 = .ok (.getfield 81, 3) := by decide +kernel
theorem dX12_copies_76 : decode cX12_copies 76 = .ok (.iload_n 2, 1) := by decide +kernel
theorem dX12_copies_77 : decode cX12_copies 77 = .ok (.aload_n 0, 1) := by decide +kernel
theorem dX12_copies_78 : decode cX12_copies 78 = .ok (.getfield 81, 3) := by decide +kernel
theorem dX12_copies_81 : decode cX12_copies 81 = .ok (.iload_n 1, 1) := by decide +kernel
theorem dX12_copies_82 : decode cX12_copies 82 = .ok (.iaload, 1) := by decide +kernel
theorem dX12_copies_83 : decode cX12_copies 83 = .ok (.iastore, 1) := by decide +kernel
theorem dX12_copies_84 : decode cX12_copies 84 = .ok (.return_, 1) := by decide +kernel
theorem dX12_opens_0 : decode cX12_opens 0 = .ok (.aload_n 0, 1) := by decide +kernel
theorem dX12_opens_1 : decode cX12_opens 1 = .ok (.getfield 235, 3) := by decide +kernel
theorem dX12_opens_4 : decode cX12_opens 4 = .ok (.iconst 1, 1) := by decide +kernel
theorem dX12_opens_5 : decode cX12_opens 5 = .ok (.isub, 1) := by decide +kernel
theorem dX12_opens_6 : decode cX12_opens 6 = .ok (.istore_n 3, 1) := by decide +kernel
theorem dX12_opens_7 : decode cX12_opens 7 = .ok (.iload_n 3, 1) := by decide +kernel
theorem dX12_opens_8 : decode cX12_opens 8 = .ok (.iload_n 1, 1) := by decide +kernel
theorem dX12_opens_9 : decode cX12_opens 9 = .ok (.if_icmp .lt 17, 3) := by decide +kernel
theorem dX12_opens_12 : decode cX12_opens 12 = .ok (.aload_n 0, 1) := by decide +kernel
theorem dX12_opens_13 : decode cX12_opens 13 = .ok (.iload_n 3, 1) := by decide +kernel
theorem dX12_opens_14 : decode cX12_opens 14 = .ok (.iload_n 3, 1) := by decide +kernel
theorem dX12_opens_15 : decode cX12_opens 15 = .ok (.iload_n 2, 1) := by decide +kernel
theorem dX12_opens_16 : decode cX12_opens 16 = .ok (.iadd, 1) := by decide +kernel
theorem dX12_opens_17 : decode cX12_opens 17 = .ok (.invokevirtual 258, 3) := by decide +kernel
theorem dX12_opens_20 : decode cX12_opens 20 = .ok (.iinc 3 (-1), 3) := by decide +kernel
theorem dX12_opens_23 : decode cX12_opens 23 = .ok (.goto (-16), 3) := by decide +kernel
theorem dX12_opens_26 : decode cX12_opens 26 = .ok (.aload_n 0, 1) := by decide +kernel
theorem dX12_opens_27 : decode cX12_opens 27 = .ok (.dup, 1) := by decide +kernel
theorem dX12_opens_28 : decode cX12_opens 28 = .ok (.getfield 235, 3) := by decide +kernel
theorem dX12_opens_31 : decode cX12_opens 31 = .ok (.iload_n 2, 1) := by decide +kernel
theorem dX12_opens_32 : decode cX12_opens 32 = .ok (.iadd, 1) := by decide +kernel
theorem dX12_opens_33 : decode cX12_opens 33 = .ok (.putfield 235, 3) := by decide +kernel
theorem dX12_opens_36 : decode cX12_opens 36 = .ok (.iload_n 1, 1) := by decide +kernel
theorem dX12_opens_37 : decode cX12_opens 37 = .ok (.istore_n 3, 1) := by decide +kernel
theorem dX12_opens_38 : decode cX12_opens 38 = .ok (.iload_n 3, 1) := by decide +kernel
theorem dX12_opens_39 : decode cX12_opens 39 = .ok (.iload_n 1, 1) := by decide +kernel
theorem dX12_opens_40 : decode cX12_opens 40 = .ok (.iload_n 2, 1) := by decide +kernel
theorem dX12_opens_41 : decode cX12_opens 41 = .ok (.iadd, 1) := by decide +kernel
theorem dX12_opens_42 : decode cX12_opens 42 = .ok (.if_icmp .ge 17, 3) := by decide +kernel
theorem dX12_opens_45 : decode cX12_opens 45 = .ok (.aload_n 0, 1) := by decide +kernel
theorem dX12_opens_46 : decode cX12_opens 46 = .ok (.iload_n 1, 1) := by decide +kernel
theorem dX12_opens_47 : decode cX12_opens 47 = .ok (.iload_n 2, 1) := by decide +kernel
theorem dX12_opens_48 : decode cX12_opens 48 = .ok (.iadd, 1) := by decide +kernel
theorem dX12_opens_49 : decode cX12_opens 49 = .ok (.iload_n 3, 1) := by decide +kernel
theorem dX12_opens_50 : decode cX12_opens 50 = .ok (.invokevirtual 258, 3) := by decide +kernel
theorem dX12_opens_53 : decode cX12_opens 53 = .ok (.iinc 3 1, 3) := by decide +kernel
theorem dX12_opens_56 : decode cX12_opens 56 = .ok (.goto (-18), 3) := by decide +kernel
theorem dX12_opens_59 : decode cX12_opens 59 = .ok (.return_, 1) := by decide +kernel
theorem dX12_closes_0 : decode cX12_closes 0 = .ok (.aload_n 0, 1) := by decide +kernel
theorem dX12_closes_1 : decode cX12_closes 1 = .ok (.dup, 1) := by decide +kernel
theorem dX12_closes_2 : decode cX12_closes 2 = .ok (.getfield 235, 3) := by decide +kernel
theorem dX12_closes_5 : decode cX12_closes 5 = .ok (.iconst 1, 1) := by decide +kernel
theorem dX12_closes_6 : decode cX12_closes 6 = .ok (.isub, 1) := by decide +kernel
theorem dX12_closes_7 : decode cX12_closes 7 = .ok (.putfield 235, 3) := by decide +kernel
theorem dX12_closes_10 : decode cX12_closes 10 = .ok (.iload_n 1, 1) := by decide +kernel
theorem dX12_closes_11 : decode cX12_closes 11 = .ok (.istore_n 2, 1) := by decide +kernel
theorem dX12_closes_12 : decode cX12_closes 12 = .ok (.iload_n 2, 1) := by decide +kernel
theorem dX12_closes_13 : decode cX12_closes 13 = .ok (.aload_n 0, 1) := by decide +kernel
theorem dX12_closes_14 : decode cX12_closes 14 = .ok (.getfield 235, 3) := by decide +kernel
theorem dX12_closes_17 : decode cX12_closes 17 = .ok (.if_icmp .ge 17, 3) := by decide +kernel
theorem dX12_closes_20 : decode cX12_closes 20 = .ok (.aload_n 0, 1) := by decide +kernel
theorem dX12_closes_21 : decode cX12_closes 21 = .ok (.iload_n 2, 1) := by decide +kernel
theorem dX12_closes_22 : decode cX12_closes 22 = .ok (.iconst 1, 1) := by decide +kernel
theorem dX12_closes_23 : decode cX12_closes 23 = .ok (.iadd, 1) := by decide +kernel
theorem dX12_closes_24 : decode cX12_closes 24 = .ok (.iload_n 2, 1) := by decide +kernel
theorem dX12_closes_25 : decode cX12_closes 25 = .ok (.invokevirtual 258, 3) := by decide +kernel
theorem dX12_closes_28 : decode cX12_closes 28 = .ok (.iinc 2 1, 3) := by decide +kernel
theorem dX12_closes_31 : decode cX12_closes 31 = .ok (.goto (-19), 3) := by decide +kernel
theorem dX12_closes_34 : decode cX12_closes 34 = .ok (.return_, 1) := by decide +kernel
theorem dX12_climbs_0 : decode cX12_climbs 0 = .ok (.aload_n 0, 1) := by decide +kernel
theorem dX12_climbs_1 : decode cX12_climbs 1 = .ok (.iload_n 1, 1) := by decide +kernel
theorem dX12_climbs_2 : decode cX12_climbs 2 = .ok (.invokevirtual 262, 3) := by decide +kernel
theorem dX12_climbs_5 : decode cX12_climbs 5 = .ok (.aload_n 0, 1) := by decide +kernel
theorem dX12_climbs_6 : decode cX12_climbs 6 = .ok (.iload_n 1, 1) := by decide +kernel
theorem dX12_climbs_7 : decode cX12_climbs 7 = .ok (.invokevirtual 262, 3) := by decide +kernel
theorem dX12_climbs_10 : decode cX12_climbs 10 = .ok (.iload_n 1, 1) := by decide +kernel
theorem dX12_climbs_11 : decode cX12_climbs 11 = .ok (.istore 4, 2) := by decide +kernel
theorem dX12_climbs_13 : decode cX12_climbs 13 = .ok (.iload_n 1, 1) := by decide +kernel
theorem dX12_climbs_14 : decode cX12_climbs 14 = .ok (.istore 5, 2) := by decide +kernel
theorem dX12_climbs_16 : decode cX12_climbs 16 = .ok (.iload 5, 2) := by decide +kernel
theorem dX12_climbs_18 : decode cX12_climbs 18 = .ok (.aload_n 0, 1) := by decide +kernel
theorem dX12_climbs_19 : decode cX12_climbs 19 = .ok (.getfield 235, 3) := by decide +kernel
theorem dX12_climbs_22 : decode cX12_climbs 22 = .ok (.if_icmp .ge 33, 3) := by decide +kernel
theorem dX12_climbs_25 : decode cX12_climbs 25 = .ok (.aload_n 0, 1) := by decide +kernel
theorem dX12_climbs_26 : decode cX12_climbs 26 = .ok (.getfield 63, 3) := by decide +kernel
theorem dX12_climbs_29 : decode cX12_climbs 29 = .ok (.iload 5, 2) := by decide +kernel
theorem dX12_climbs_31 : decode cX12_climbs 31 = .ok (.iaload, 1) := by decide +kernel
theorem dX12_climbs_32 : decode cX12_climbs 32 = .ok (.invokestatic 252, 3) := by decide +kernel
theorem dX12_climbs_35 : decode cX12_climbs 35 = .ok (.ifCond .eq 10, 3) := by decide +kernel
theorem dX12_climbs_38 : decode cX12_climbs 38 = .ok (.iload 5, 2) := by decide +kernel
theorem dX12_climbs_40 : decode cX12_climbs 40 = .ok (.iconst 1, 1) := by decide +kernel
theorem dX12_climbs_41 : decode cX12_climbs 41 = .ok (.iadd, 1) := by decide +kernel
theorem dX12_climbs_42 : decode cX12_climbs 42 = .ok (.goto 5, 3) := by decide +kernel
theorem dX12_climbs_45 : decode cX12_climbs 45 = .ok (.iload 4, 2) := by decide +kernel
theorem dX12_climbs_47 : decode cX12_climbs 47 = .ok (.istore 4, 2) := by decide +kernel
theorem dX12_climbs_49 : decode cX12_climbs 49 = .ok (.iinc 5 1, 3) := by decide +kernel
theorem dX12_climbs_52 : decode cX12_climbs 52 = .ok (.goto (-36), 3) := by decide +kernel
theorem dX12_climbs_55 : decode cX12_climbs 55 = .ok (.iload 4, 2) := by decide +kernel
theorem dX12_climbs_57 : decode cX12_climbs 57 = .ok (.aload_n 0, 1) := by decide +kernel
theorem dX12_climbs_58 : decode cX12_climbs 58 = .ok (.getfield 235, 3) := by decide +kernel
theorem dX12_climbs_61 : decode cX12_climbs 61 = .ok (.if_icmp .ge 43, 3) := by decide +kernel
theorem dX12_climbs_64 : decode cX12_climbs 64 = .ok (.aload_n 0, 1) := by decide +kernel
theorem dX12_climbs_65 : decode cX12_climbs 65 = .ok (.getfield 63, 3) := by decide +kernel
theorem dX12_climbs_68 : decode cX12_climbs 68 = .ok (.iload 4, 2) := by decide +kernel
theorem dX12_climbs_70 : decode cX12_climbs 70 = .ok (.iaload, 1) := by decide +kernel
theorem dX12_climbs_71 : decode cX12_climbs 71 = .ok (.bipush 39, 2) := by decide +kernel
theorem dX12_climbs_73 : decode cX12_climbs 73 = .ok (.if_icmp .eq 25, 3) := by decide +kernel
theorem dX12_climbs_76 : decode cX12_climbs 76 = .ok (.aload_n 0, 1) := by decide +kernel
theorem dX12_climbs_77 : decode cX12_climbs 77 = .ok (.getfield 63, 3) := by decide +kernel
theorem dX12_climbs_80 : decode cX12_climbs 80 = .ok (.iload 4, 2) := by decide +kernel
theorem dX12_climbs_82 : decode cX12_climbs 82 = .ok (.iaload, 1) := by decide +kernel
theorem dX12_climbs_83 : decode cX12_climbs 83 = .ok (.iconst 2, 1) := by decide +kernel
theorem dX12_climbs_84 : decode cX12_climbs 84 = .ok (.if_icmp .eq 14, 3) := by decide +kernel
theorem dX12_climbs_87 : decode cX12_climbs 87 = .ok (.aload_n 0, 1) := by decide +kernel
theorem dX12_climbs_88 : decode cX12_climbs 88 = .ok (.getfield 63, 3) := by decide +kernel
theorem dX12_climbs_91 : decode cX12_climbs 91 = .ok (.iload 4, 2) := by decide +kernel
theorem dX12_climbs_93 : decode cX12_climbs 93 = .ok (.iaload, 1) := by decide +kernel
theorem dX12_climbs_94 : decode cX12_climbs 94 = .ok (.iconst 3, 1) := by decide +kernel
theorem dX12_climbs_95 : decode cX12_climbs 95 = .ok (.if_icmp .ne 9, 3) := by decide +kernel
theorem dX12_climbs_98 : decode cX12_climbs 98 = .ok (.iinc 4 1, 3) := by decide +kernel
theorem dX12_climbs_101 : decode cX12_climbs 101 = .ok (.goto (-46), 3) := by decide +kernel
theorem dX12_climbs_104 : decode cX12_climbs 104 = .ok (.aload_n 0, 1) := by decide +kernel
theorem dX12_climbs_105 : decode cX12_climbs 105 = .ok (.getfield 235, 3) := by decide +kernel
theorem dX12_climbs_108 : decode cX12_climbs 108 = .ok (.istore 5, 2) := by decide +kernel
theorem dX12_climbs_110 : decode cX12_climbs 110 = .ok (.aload_n 0, 1) := by decide +kernel
theorem dX12_climbs_111 : decode cX12_climbs 111 = .ok (.bipush 65, 2) := by decide +kernel
theorem dX12_climbs_113 : decode cX12_climbs 113 = .ok (.iload_n 2, 1) := by decide +kernel
theorem dX12_climbs_114 : decode cX12_climbs 114 = .ok (.iload_n 3, 1) := by decide +kernel
theorem dX12_climbs_115 : decode cX12_climbs 115 = .ok (.bipush (-100), 2) := by decide +kernel
theorem dX12_climbs_117 : decode cX12_climbs 117 = .ok (.invokevirtual 242, 3) := by decide +kernel
theorem dX12_climbs_120 : decode cX12_climbs 120 = .ok (.aload_n 0, 1) := by decide +kernel
theorem dX12_climbs_121 : decode cX12_climbs 121 = .ok (.iload 4, 2) := by decide +kernel
theorem dX12_climbs_123 : decode cX12_climbs 123 = .ok (.iload 5, 2) := by decide +kernel
theorem dX12_climbs_125 : decode cX12_climbs 125 = .ok (.iload 5, 2) := by decide +kernel
theorem dX12_climbs_127 : decode cX12_climbs 127 = .ok (.iconst 1, 1) := by decide +kernel
theorem dX12_climbs_128 : decode cX12_climbs 128 = .ok (.iadd, 1) := by decide +kernel
theorem dX12_climbs_129 : decode cX12_climbs 129 = .ok (.invokevirtual 266, 3) := by decide +kernel
theorem dX12_climbs_132 : decode cX12_climbs 132 = .ok (.return_, 1) := by decide +kernel
theorem dX12_turns_0 : decode cX12_turns 0 = .ok (.iload_n 2, 1) := by decide +kernel
theorem dX12_turns_1 : decode cX12_turns 1 = .ok (.istore 4, 2) := by decide +kernel
theorem dX12_turns_3 : decode cX12_turns 3 = .ok (.iload 4, 2) := by decide +kernel
theorem dX12_turns_5 : decode cX12_turns 5 = .ok (.iload_n 3, 1) := by decide +kernel
theorem dX12_turns_6 : decode cX12_turns 6 = .ok (.if_icmp .ge 60, 3) := by decide +kernel
theorem dX12_turns_9 : decode cX12_turns 9 = .ok (.aload_n 0, 1) := by decide +kernel
theorem dX12_turns_10 : decode cX12_turns 10 = .ok (.iload 4, 2) := by decide +kernel
theorem dX12_turns_12 : decode cX12_turns 12 = .ok (.bipush 68, 2) := by decide +kernel
theorem dX12_turns_14 : decode cX12_turns 14 = .ok (.invokevirtual 258, 3) := by decide +kernel
theorem dX12_turns_17 : decode cX12_turns 17 = .ok (.iload_n 1, 1) := by decide +kernel
theorem dX12_turns_18 : decode cX12_turns 18 = .ok (.iload 4, 2) := by decide +kernel
theorem dX12_turns_20 : decode cX12_turns 20 = .ok (.iadd, 1) := by decide +kernel
theorem dX12_turns_21 : decode cX12_turns 21 = .ok (.iload_n 2, 1) := by decide +kernel
theorem dX12_turns_22 : decode cX12_turns 22 = .ok (.isub, 1) := by decide +kernel
theorem dX12_turns_23 : decode cX12_turns 23 = .ok (.istore 5, 2) := by decide +kernel
theorem dX12_turns_25 : decode cX12_turns 25 = .ok (.iload 4, 2) := by decide +kernel
theorem dX12_turns_27 : decode cX12_turns 27 = .ok (.istore 6, 2) := by decide +kernel
theorem dX12_turns_29 : decode cX12_turns 29 = .ok (.iload 6, 2) := by decide +kernel
theorem dX12_turns_31 : decode cX12_turns 31 = .ok (.iload 5, 2) := by decide +kernel
theorem dX12_turns_33 : decode cX12_turns 33 = .ok (.if_icmp .le 19, 3) := by decide +kernel
theorem dX12_turns_36 : decode cX12_turns 36 = .ok (.aload_n 0, 1) := by decide +kernel
theorem dX12_turns_37 : decode cX12_turns 37 = .ok (.iload 6, 2) := by decide +kernel
theorem dX12_turns_39 : decode cX12_turns 39 = .ok (.iconst 1, 1) := by decide +kernel
theorem dX12_turns_40 : decode cX12_turns 40 = .ok (.isub, 1) := by decide +kernel
theorem dX12_turns_41 : decode cX12_turns 41 = .ok (.iload 6, 2) := by decide +kernel
theorem dX12_turns_43 : decode cX12_turns 43 = .ok (.invokevirtual 258, 3) := by decide +kernel
theorem dX12_turns_46 : decode cX12_turns 46 = .ok (.iinc 6 (-1), 3) := by decide +kernel
theorem dX12_turns_49 : decode cX12_turns 49 = .ok (.goto (-20), 3) := by decide +kernel
theorem dX12_turns_52 : decode cX12_turns 52 = .ok (.aload_n 0, 1) := by decide +kernel
theorem dX12_turns_53 : decode cX12_turns 53 = .ok (.bipush 68, 2) := by decide +kernel
theorem dX12_turns_55 : decode cX12_turns 55 = .ok (.iload 5, 2) := by decide +kernel
theorem dX12_turns_57 : decode cX12_turns 57 = .ok (.invokevirtual 258, 3) := by decide +kernel
theorem dX12_turns_60 : decode cX12_turns 60 = .ok (.iinc 4 1, 3) := by decide +kernel
theorem dX12_turns_63 : decode cX12_turns 63 = .ok (.goto (-60), 3) := by decide +kernel
theorem dX12_turns_66 : decode cX12_turns 66 = .ok (.return_, 1) := by decide +kernel
theorem dX12_setsAhead_0 : decode cX12_setsAhead 0 = .ok (.iload_n 1, 1) := by decide +kernel
theorem dX12_setsAhead_1 : decode cX12_setsAhead 1 = .ok (.istore_n 2, 1) := by decide +kernel
theorem dX12_setsAhead_2 : decode cX12_setsAhead 2 = .ok (.iload_n 1, 1) := by decide +kernel
theorem dX12_setsAhead_3 : decode cX12_setsAhead 3 = .ok (.istore_n 3, 1) := by decide +kernel
theorem dX12_setsAhead_4 : decode cX12_setsAhead 4 = .ok (.iload_n 3, 1) := by decide +kernel
theorem dX12_setsAhead_5 : decode cX12_setsAhead 5 = .ok (.aload_n 0, 1) := by decide +kernel
theorem dX12_setsAhead_6 : decode cX12_setsAhead 6 = .ok (.getfield 235, 3) := by decide +kernel
theorem dX12_setsAhead_9 : decode cX12_setsAhead 9 = .ok (.if_icmp .ge 32, 3) := by decide +kernel
theorem dX12_setsAhead_12 : decode cX12_setsAhead 12 = .ok (.aload_n 0, 1) := by decide +kernel
theorem dX12_setsAhead_13 : decode cX12_setsAhead 13 = .ok (.getfield 63, 3) := by decide +kernel
theorem dX12_setsAhead_16 : decode cX12_setsAhead 16 = .ok (.iload_n 3, 1) := by decide +kernel
theorem dX12_setsAhead_17 : decode cX12_setsAhead 17 = .ok (.iaload, 1) := by decide +kernel
theorem dX12_setsAhead_18 : decode cX12_setsAhead 18 = .ok (.bipush 40, 2) := by decide +kernel
theorem dX12_setsAhead_20 : decode cX12_setsAhead 20 = .ok (.if_icmp .ne 15, 3) := by decide +kernel
theorem dX12_setsAhead_23 : decode cX12_setsAhead 23 = .ok (.aload_n 0, 1) := by decide +kernel
theorem dX12_setsAhead_24 : decode cX12_setsAhead 24 = .ok (.iload_n 2, 1) := by decide +kernel
theorem dX12_setsAhead_25 : decode cX12_setsAhead 25 = .ok (.iload_n 3, 1) := by decide +kernel
theorem dX12_setsAhead_26 : decode cX12_setsAhead 26 = .ok (.iload_n 3, 1) := by decide +kernel
theorem dX12_setsAhead_27 : decode cX12_setsAhead 27 = .ok (.iconst 1, 1) := by decide +kernel
theorem dX12_setsAhead_28 : decode cX12_setsAhead 28 = .ok (.iadd, 1) := by decide +kernel
theorem dX12_setsAhead_29 : decode cX12_setsAhead 29 = .ok (.invokevirtual 266, 3) := by decide +kernel
theorem dX12_setsAhead_32 : decode cX12_setsAhead 32 = .ok (.iinc 2 1, 3) := by decide +kernel
theorem dX12_setsAhead_35 : decode cX12_setsAhead 35 = .ok (.iinc 3 1, 3) := by decide +kernel
theorem dX12_setsAhead_38 : decode cX12_setsAhead 38 = .ok (.goto (-34), 3) := by decide +kernel
theorem dX12_setsAhead_41 : decode cX12_setsAhead 41 = .ok (.return_, 1) := by decide +kernel
theorem dX12_laysSyllables_0 : decode cX12_laysSyllables 0 = .ok (.iload_n 1, 1) := by decide +kernel
theorem dX12_laysSyllables_1 : decode cX12_laysSyllables 1 = .ok (.istore_n 3, 1) := by decide +kernel
theorem dX12_laysSyllables_2 : decode cX12_laysSyllables 2 = .ok (.iload_n 3, 1) := by decide +kernel
theorem dX12_laysSyllables_3 : decode cX12_laysSyllables 3 = .ok (.iload_n 2, 1) := by decide +kernel
theorem dX12_laysSyllables_4 : decode cX12_laysSyllables 4 = .ok (.if_icmp .ge 213, 3) := by decide +kernel
theorem dX12_laysSyllables_7 : decode cX12_laysSyllables 7 = .ok (.aload_n 0, 1) := by decide +kernel
theorem dX12_laysSyllables_8 : decode cX12_laysSyllables 8 = .ok (.getfield 235, 3) := by decide +kernel
theorem dX12_laysSyllables_11 : decode cX12_laysSyllables 11 = .ok (.istore 4, 2) := by decide +kernel
theorem dX12_laysSyllables_13 : decode cX12_laysSyllables 13 = .ok (.aload_n 0, 1) := by decide +kernel
theorem dX12_laysSyllables_14 : decode cX12_laysSyllables 14 = .ok (.getfield 47, 3) := by decide +kernel
theorem dX12_laysSyllables_17 : decode cX12_laysSyllables 17 = .ok (.iload_n 3, 1) := by decide +kernel
theorem dX12_laysSyllables_18 : decode cX12_laysSyllables 18 = .ok (.iaload, 1) := by decide +kernel
theorem dX12_laysSyllables_19 : decode cX12_laysSyllables 19 = .ok (.istore 5, 2) := by decide +kernel
theorem dX12_laysSyllables_21 : decode cX12_laysSyllables 21 = .ok (.iload 5, 2) := by decide +kernel
theorem dX12_laysSyllables_23 : decode cX12_laysSyllables 23 = .ok (.bipush 39, 2) := by decide +kernel
theorem dX12_laysSyllables_25 : decode cX12_laysSyllables 25 = .ok (.if_icmp .lt 14, 3) := by decide +kernel
theorem dX12_laysSyllables_28 : decode cX12_laysSyllables 28 = .ok (.iload 5, 2) := by decide +kernel
theorem dX12_laysSyllables_30 : decode cX12_laysSyllables 30 = .ok (.bipush 43, 2) := by decide +kernel
theorem dX12_laysSyllables_32 : decode cX12_laysSyllables 32 = .ok (.if_icmp .eq 7, 3) := by decide +kernel
theorem dX12_laysSyllables_35 : decode cX12_laysSyllables 35 = .ok (.iconst 1, 1) := by decide +kernel
theorem dX12_laysSyllables_36 : decode cX12_laysSyllables 36 = .ok (.goto 4, 3) := by decide +kernel
theorem dX12_laysSyllables_39 : decode cX12_laysSyllables 39 = .ok (.iconst 0, 1) := by decide +kernel
theorem dX12_laysSyllables_40 : decode cX12_laysSyllables 40 = .ok (.istore 6, 2) := by decide +kernel
theorem dX12_laysSyllables_42 : decode cX12_laysSyllables 42 = .ok (.iload 5, 2) := by decide +kernel
theorem dX12_laysSyllables_44 : decode cX12_laysSyllables 44 = .ok (.invokestatic 252, 3) := by decide +kernel
theorem dX12_laysSyllables_47 : decode cX12_laysSyllables 47 = .ok (.ifCond .eq 14, 3) := by decide +kernel
theorem dX12_laysSyllables_50 : decode cX12_laysSyllables 50 = .ok (.aload_n 0, 1) := by decide +kernel
theorem dX12_laysSyllables_51 : decode cX12_laysSyllables 51 = .ok (.iload_n 2, 1) := by decide +kernel
theorem dX12_laysSyllables_52 : decode cX12_laysSyllables 52 = .ok (.iload_n 3, 1) := by decide +kernel
theorem dX12_laysSyllables_53 : decode cX12_laysSyllables 53 = .ok (.iconst 1, 1) := by decide +kernel
theorem dX12_laysSyllables_54 : decode cX12_laysSyllables 54 = .ok (.iadd, 1) := by decide +kernel
theorem dX12_laysSyllables_55 : decode cX12_laysSyllables 55 = .ok (.invokevirtual 270, 3) := by decide +kernel
theorem dX12_laysSyllables_58 : decode cX12_laysSyllables 58 = .ok (.goto 38, 3) := by decide +kernel
theorem dX12_laysSyllables_61 : decode cX12_laysSyllables 61 = .ok (.iload 5, 2) := by decide +kernel
theorem dX12_laysSyllables_63 : decode cX12_laysSyllables 63 = .ok (.bipush 43, 2) := by decide +kernel
theorem dX12_laysSyllables_65 : decode cX12_laysSyllables 65 = .ok (.if_icmp .ne 14, 3) := by decide +kernel
theorem dX12_laysSyllables_68 : decode cX12_laysSyllables 68 = .ok (.aload_n 0, 1) := by decide +kernel
theorem dX12_laysSyllables_69 : decode cX12_laysSyllables 69 = .ok (.iload_n 2, 1) := by decide +kernel
theorem dX12_laysSyllables_70 : decode cX12_laysSyllables 70 = .ok (.iload_n 3, 1) := by decide +kernel
theorem dX12_laysSyllables_71 : decode cX12_laysSyllables 71 = .ok (.iconst 1, 1) := by decide +kernel
theorem dX12_laysSyllables_72 : decode cX12_laysSyllables 72 = .ok (.iadd, 1) := by decide +kernel
theorem dX12_laysSyllables_73 : decode cX12_laysSyllables 73 = .ok (.invokevirtual 255, 3) := by decide +kernel
theorem dX12_laysSyllables_76 : decode cX12_laysSyllables 76 = .ok (.goto 20, 3) := by decide +kernel
theorem dX12_laysSyllables_79 : decode cX12_laysSyllables 79 = .ok (.iload 6, 2) := by decide +kernel
theorem dX12_laysSyllables_81 : decode cX12_laysSyllables 81 = .ok (.ifCond .eq 12, 3) := by decide +kernel
theorem dX12_laysSyllables_84 : decode cX12_laysSyllables 84 = .ok (.aload_n 0, 1) := by decide +kernel
theorem dX12_laysSyllables_85 : decode cX12_laysSyllables 85 = .ok (.iload_n 2, 1) := by decide +kernel
theorem dX12_laysSyllables_86 : decode cX12_laysSyllables 86 = .ok (.iload_n 3, 1) := by decide +kernel
theorem dX12_laysSyllables_87 : decode cX12_laysSyllables 87 = .ok (.invokevirtual 270, 3) := by decide +kernel
theorem dX12_laysSyllables_90 : decode cX12_laysSyllables 90 = .ok (.goto 6, 3) := by decide +kernel
theorem dX12_laysSyllables_93 : decode cX12_laysSyllables 93 = .ok (.iload_n 3, 1) := by decide +kernel
theorem dX12_laysSyllables_94 : decode cX12_laysSyllables 94 = .ok (.iconst 1, 1) := by decide +kernel
theorem dX12_laysSyllables_95 : decode cX12_laysSyllables 95 = .ok (.iadd, 1) := by decide +kernel
theorem dX12_laysSyllables_96 : decode cX12_laysSyllables 96 = .ok (.istore 7, 2) := by decide +kernel
theorem dX12_laysSyllables_98 : decode cX12_laysSyllables 98 = .ok (.iload 6, 2) := by decide +kernel
theorem dX12_laysSyllables_100 : decode cX12_laysSyllables 100 = .ok (.ifCond .eq 13, 3) := by decide +kernel
theorem dX12_laysSyllables_103 : decode cX12_laysSyllables 103 = .ok (.aload_n 0, 1) := by decide +kernel
theorem dX12_laysSyllables_104 : decode cX12_laysSyllables 104 = .ok (.bipush 64, 2) := by decide +kernel
theorem dX12_laysSyllables_106 : decode cX12_laysSyllables 106 = .ok (.iload_n 3, 1) := by decide +kernel
theorem dX12_laysSyllables_107 : decode cX12_laysSyllables 107 = .ok (.iconst 0, 1) := by decide +kernel
theorem dX12_laysSyllables_108 : decode cX12_laysSyllables 108 = .ok (.bipush (-100), 2) := by decide +kernel
theorem dX12_laysSyllables_110 : decode cX12_laysSyllables 110 = .ok (.invokevirtual 242, 3) := by decide +kernel
theorem dX12_laysSyllables_113 : decode cX12_laysSyllables 113 = .ok (.iload_n 3, 1) := by decide +kernel
theorem dX12_laysSyllables_114 : decode cX12_laysSyllables 114 = .ok (.istore 8, 2) := by decide +kernel
theorem dX12_laysSyllables_116 : decode cX12_laysSyllables 116 = .ok (.iload 8, 2) := by decide +kernel
theorem dX12_laysSyllables_118 : decode cX12_laysSyllables 118 = .ok (.iload 7, 2) := by decide +kernel
theorem dX12_laysSyllables_120 : decode cX12_laysSyllables 120 = .ok (.if_icmp .ge 30, 3) := by decide +kernel
theorem dX12_laysSyllables_123 : decode cX12_laysSyllables 123 = .ok (.aload_n 0, 1) := by decide +kernel
theorem dX12_laysSyllables_124 : decode cX12_laysSyllables 124 = .ok (.aload_n 0, 1) := by decide +kernel
theorem dX12_laysSyllables_125 : decode cX12_laysSyllables 125 = .ok (.getfield 47, 3) := by decide +kernel
theorem dX12_laysSyllables_128 : decode cX12_laysSyllables 128 = .ok (.iload 8, 2) := by decide +kernel
theorem dX12_laysSyllables_130 : decode cX12_laysSyllables 130 = .ok (.iaload, 1) := by decide +kernel
theorem dX12_laysSyllables_131 : decode cX12_laysSyllables 131 = .ok (.iload_n 3, 1) := by decide +kernel
theorem dX12_laysSyllables_132 : decode cX12_laysSyllables 132 = .ok (.aload_n 0, 1) := by decide +kernel
theorem dX12_laysSyllables_133 : decode cX12_laysSyllables 133 = .ok (.getfield 50, 3) := by decide +kernel
theorem dX12_laysSyllables_136 : decode cX12_laysSyllables 136 = .ok (.iload 8, 2) := by decide +kernel
theorem dX12_laysSyllables_138 : decode cX12_laysSyllables 138 = .ok (.iaload, 1) := by decide +kernel
theorem dX12_laysSyllables_139 : decode cX12_laysSyllables 139 = .ok (.bipush (-100), 2) := by decide +kernel
theorem dX12_laysSyllables_141 : decode cX12_laysSyllables 141 = .ok (.invokevirtual 242, 3) := by decide +kernel
theorem dX12_laysSyllables_144 : decode cX12_laysSyllables 144 = .ok (.iinc 8 1, 3) := by decide +kernel
theorem dX12_laysSyllables_147 : decode cX12_laysSyllables 147 = .ok (.goto (-31), 3) := by decide +kernel
theorem dX12_laysSyllables_150 : decode cX12_laysSyllables 150 = .ok (.iload 5, 2) := by decide +kernel
theorem dX12_laysSyllables_152 : decode cX12_laysSyllables 152 = .ok (.bipush 38, 2) := by decide +kernel
theorem dX12_laysSyllables_154 : decode cX12_laysSyllables 154 = .ok (.if_icmp .ne 51, 3) := by decide +kernel
theorem dX12_laysSyllables_157 : decode cX12_laysSyllables 157 = .ok (.iload_n 3, 1) := by decide +kernel
theorem dX12_laysSyllables_158 : decode cX12_laysSyllables 158 = .ok (.iconst 2, 1) := by decide +kernel
theorem dX12_laysSyllables_159 : decode cX12_laysSyllables 159 = .ok (.iadd, 1) := by decide +kernel
theorem dX12_laysSyllables_160 : decode cX12_laysSyllables 160 = .ok (.iload 7, 2) := by decide +kernel
theorem dX12_laysSyllables_162 : decode cX12_laysSyllables 162 = .ok (.if_icmp .ge 43, 3) := by decide +kernel
theorem dX12_laysSyllables_165 : decode cX12_laysSyllables 165 = .ok (.aload_n 0, 1) := by decide +kernel
theorem dX12_laysSyllables_166 : decode cX12_laysSyllables 166 = .ok (.getfield 47, 3) := by decide +kernel
theorem dX12_laysSyllables_169 : decode cX12_laysSyllables 169 = .ok (.iload_n 3, 1) := by decide +kernel
theorem dX12_laysSyllables_170 : decode cX12_laysSyllables 170 = .ok (.iconst 1, 1) := by decide +kernel
theorem dX12_laysSyllables_171 : decode cX12_laysSyllables 171 = .ok (.iadd, 1) := by decide +kernel
theorem dX12_laysSyllables_172 : decode cX12_laysSyllables 172 = .ok (.iaload, 1) := by decide +kernel
theorem dX12_laysSyllables_173 : decode cX12_laysSyllables 173 = .ok (.bipush 39, 2) := by decide +kernel
theorem dX12_laysSyllables_175 : decode cX12_laysSyllables 175 = .ok (.if_icmp .ne 30, 3) := by decide +kernel
theorem dX12_laysSyllables_178 : decode cX12_laysSyllables 178 = .ok (.aload_n 0, 1) := by decide +kernel
theorem dX12_laysSyllables_179 : decode cX12_laysSyllables 179 = .ok (.getfield 47, 3) := by decide +kernel
theorem dX12_laysSyllables_182 : decode cX12_laysSyllables 182 = .ok (.iload_n 3, 1) := by decide +kernel
theorem dX12_laysSyllables_183 : decode cX12_laysSyllables 183 = .ok (.iconst 2, 1) := by decide +kernel
theorem dX12_laysSyllables_184 : decode cX12_laysSyllables 184 = .ok (.iadd, 1) := by decide +kernel
theorem dX12_laysSyllables_185 : decode cX12_laysSyllables 185 = .ok (.iaload, 1) := by decide +kernel
theorem dX12_laysSyllables_186 : decode cX12_laysSyllables 186 = .ok (.invokestatic 252, 3) := by decide +kernel
theorem dX12_laysSyllables_189 : decode cX12_laysSyllables 189 = .ok (.ifCond .eq 16, 3) := by decide +kernel
theorem dX12_laysSyllables_192 : decode cX12_laysSyllables 192 = .ok (.aload_n 0, 1) := by decide +kernel
theorem dX12_laysSyllables_193 : decode cX12_laysSyllables 193 = .ok (.iload 4, 2) := by decide +kernel
theorem dX12_laysSyllables_195 : decode cX12_laysSyllables 195 = .ok (.iload_n 3, 1) := by decide +kernel
theorem dX12_laysSyllables_196 : decode cX12_laysSyllables 196 = .ok (.aload_n 0, 1) := by decide +kernel
theorem dX12_laysSyllables_197 : decode cX12_laysSyllables 197 = .ok (.getfield 50, 3) := by decide +kernel
theorem dX12_laysSyllables_200 : decode cX12_laysSyllables 200 = .ok (.iload_n 3, 1) := by decide +kernel
theorem dX12_laysSyllables_201 : decode cX12_laysSyllables 201 = .ok (.iaload, 1) := by decide +kernel
theorem dX12_laysSyllables_202 : decode cX12_laysSyllables 202 = .ok (.invokevirtual 273, 3) := by decide +kernel
theorem dX12_laysSyllables_205 : decode cX12_laysSyllables 205 = .ok (.aload_n 0, 1) := by decide +kernel
theorem dX12_laysSyllables_206 : decode cX12_laysSyllables 206 = .ok (.iload 4, 2) := by decide +kernel
theorem dX12_laysSyllables_208 : decode cX12_laysSyllables 208 = .ok (.invokevirtual 276, 3) := by decide +kernel
theorem dX12_laysSyllables_211 : decode cX12_laysSyllables 211 = .ok (.iload 7, 2) := by decide +kernel
theorem dX12_laysSyllables_213 : decode cX12_laysSyllables 213 = .ok (.istore_n 3, 1) := by decide +kernel
theorem dX12_laysSyllables_214 : decode cX12_laysSyllables 214 = .ok (.goto (-212), 3) := by decide +kernel
theorem dX12_laysSyllables_217 : decode cX12_laysSyllables 217 = .ok (.return_, 1) := by decide +kernel
theorem dX12_markAt_0 : decode cX12_markAt 0 = .ok (.aload_n 0, 1) := by decide +kernel
theorem dX12_markAt_1 : decode cX12_markAt 1 = .ok (.getfield 34, 3) := by decide +kernel
theorem dX12_markAt_4 : decode cX12_markAt 4 = .ok (.sipush 256, 3) := by decide +kernel
theorem dX12_markAt_7 : decode cX12_markAt 7 = .ok (.aload_n 0, 1) := by decide +kernel
theorem dX12_markAt_8 : decode cX12_markAt 8 = .ok (.getfield 279, 3) := by decide +kernel
theorem dX12_markAt_11 : decode cX12_markAt 11 = .ok (.imul, 1) := by decide +kernel
theorem dX12_markAt_12 : decode cX12_markAt 12 = .ok (.aload_n 0, 1) := by decide +kernel
theorem dX12_markAt_13 : decode cX12_markAt 13 = .ok (.getfield 63, 3) := by decide +kernel
theorem dX12_markAt_16 : decode cX12_markAt 16 = .ok (.iload_n 1, 1) := by decide +kernel
theorem dX12_markAt_17 : decode cX12_markAt 17 = .ok (.iaload, 1) := by decide +kernel
theorem dX12_markAt_18 : decode cX12_markAt 18 = .ok (.iadd, 1) := by decide +kernel
theorem dX12_markAt_19 : decode cX12_markAt 19 = .ok (.iaload, 1) := by decide +kernel
theorem dX12_markAt_20 : decode cX12_markAt 20 = .ok (.iconst 1, 1) := by decide +kernel
theorem dX12_markAt_21 : decode cX12_markAt 21 = .ok (.isub, 1) := by decide +kernel
theorem dX12_markAt_22 : decode cX12_markAt 22 = .ok (.ireturn, 1) := by decide +kernel
theorem dX12_skips_0 : decode cX12_skips 0 = .ok (.aload_n 0, 1) := by decide +kernel
theorem dX12_skips_1 : decode cX12_skips 1 = .ok (.iload_n 2, 1) := by decide +kernel
theorem dX12_skips_2 : decode cX12_skips 2 = .ok (.invokevirtual 282, 3) := by decide +kernel
theorem dX12_skips_5 : decode cX12_skips 5 = .ok (.istore_n 3, 1) := by decide +kernel
theorem dX12_skips_6 : decode cX12_skips 6 = .ok (.iload_n 3, 1) := by decide +kernel
theorem dX12_skips_7 : decode cX12_skips 7 = .ok (.ifCond .lt 28, 3) := by decide +kernel
theorem dX12_skips_10 : decode cX12_skips 10 = .ok (.aload_n 0, 1) := by decide +kernel
theorem dX12_skips_11 : decode cX12_skips 11 = .ok (.getfield 25, 3) := by decide +kernel
theorem dX12_skips_14 : decode cX12_skips 14 = .ok (.iload_n 1, 1) := by decide +kernel
theorem dX12_skips_15 : decode cX12_skips 15 = .ok (.iaload, 1) := by decide +kernel
theorem dX12_skips_16 : decode cX12_skips 16 = .ok (.ifCond .le 19, 3) := by decide +kernel
theorem dX12_skips_19 : decode cX12_skips 19 = .ok (.iload_n 3, 1) := by decide +kernel
theorem dX12_skips_20 : decode cX12_skips 20 = .ok (.aload_n 0, 1) := by decide +kernel
theorem dX12_skips_21 : decode cX12_skips 21 = .ok (.getfield 25, 3) := by decide +kernel
theorem dX12_skips_24 : decode cX12_skips 24 = .ok (.iload_n 1, 1) := by decide +kernel
theorem dX12_skips_25 : decode cX12_skips 25 = .ok (.iaload, 1) := by decide +kernel
theorem dX12_skips_26 : decode cX12_skips 26 = .ok (.iconst 2, 1) := by decide +kernel
theorem dX12_skips_27 : decode cX12_skips 27 = .ok (.isub, 1) := by decide +kernel
theorem dX12_skips_28 : decode cX12_skips 28 = .ok (.if_icmp .eq 7, 3) := by decide +kernel
theorem dX12_skips_31 : decode cX12_skips 31 = .ok (.iconst 1, 1) := by decide +kernel
theorem dX12_skips_32 : decode cX12_skips 32 = .ok (.goto 4, 3) := by decide +kernel
theorem dX12_skips_35 : decode cX12_skips 35 = .ok (.iconst 0, 1) := by decide +kernel
theorem dX12_skips_36 : decode cX12_skips 36 = .ok (.ireturn, 1) := by decide +kernel
theorem dX12_is_0 : decode cX12_is 0 = .ok (.aload_n 0, 1) := by decide +kernel
theorem dX12_is_1 : decode cX12_is 1 = .ok (.iload_n 1, 1) := by decide +kernel
theorem dX12_is_2 : decode cX12_is 2 = .ok (.aload_n 0, 1) := by decide +kernel
theorem dX12_is_3 : decode cX12_is 3 = .ok (.getfield 63, 3) := by decide +kernel
theorem dX12_is_6 : decode cX12_is 6 = .ok (.iload_n 2, 1) := by decide +kernel
theorem dX12_is_7 : decode cX12_is 7 = .ok (.iaload, 1) := by decide +kernel
theorem dX12_is_8 : decode cX12_is 8 = .ok (.aload_n 0, 1) := by decide +kernel
theorem dX12_is_9 : decode cX12_is 9 = .ok (.getfield 279, 3) := by decide +kernel
theorem dX12_is_12 : decode cX12_is 12 = .ok (.invokevirtual 208, 3) := by decide +kernel
theorem dX12_is_15 : decode cX12_is 15 = .ok (.ireturn, 1) := by decide +kernel
theorem dX12_has_0 : decode cX12_has 0 = .ok (.aload_n 0, 1) := by decide +kernel
theorem dX12_has_1 : decode cX12_has 1 = .ok (.getfield 16, 3) := by decide +kernel
theorem dX12_has_4 : decode cX12_has 4 = .ok (.iload_n 1, 1) := by decide +kernel
theorem dX12_has_5 : decode cX12_has 5 = .ok (.iaload, 1) := by decide +kernel
theorem dX12_has_6 : decode cX12_has 6 = .ok (.istore_n 3, 1) := by decide +kernel
theorem dX12_has_7 : decode cX12_has 7 = .ok (.iload_n 3, 1) := by decide +kernel
theorem dX12_has_8 : decode cX12_has 8 = .ok (.ifCond .eq 34, 3) := by decide +kernel
theorem dX12_has_11 : decode cX12_has 11 = .ok (.iload_n 3, 1) := by decide +kernel
theorem dX12_has_12 : decode cX12_has 12 = .ok (.iconst 5, 1) := by decide +kernel
theorem dX12_has_13 : decode cX12_has 13 = .ok (.if_icmp .ge 15, 3) := by decide +kernel
theorem dX12_has_16 : decode cX12_has 16 = .ok (.aload_n 0, 1) := by decide +kernel
theorem dX12_has_17 : decode cX12_has 17 = .ok (.getfield 69, 3) := by decide +kernel
theorem dX12_has_20 : decode cX12_has 20 = .ok (.iload_n 2, 1) := by decide +kernel
theorem dX12_has_21 : decode cX12_has 21 = .ok (.iaload, 1) := by decide +kernel
theorem dX12_has_22 : decode cX12_has 22 = .ok (.iload_n 3, 1) := by decide +kernel
theorem dX12_has_23 : decode cX12_has 23 = .ok (.iconst 1, 1) := by decide +kernel
theorem dX12_has_24 : decode cX12_has 24 = .ok (.isub, 1) := by decide +kernel
theorem dX12_has_25 : decode cX12_has 25 = .ok (.if_icmp .eq 17, 3) := by decide +kernel
theorem dX12_has_28 : decode cX12_has 28 = .ok (.iload_n 3, 1) := by decide +kernel
theorem dX12_has_29 : decode cX12_has 29 = .ok (.iconst 5, 1) := by decide +kernel
theorem dX12_has_30 : decode cX12_has 30 = .ok (.if_icmp .ne 16, 3) := by decide +kernel
theorem dX12_has_33 : decode cX12_has 33 = .ok (.aload_n 0, 1) := by decide +kernel
theorem dX12_has_34 : decode cX12_has 34 = .ok (.getfield 72, 3) := by decide +kernel
theorem dX12_has_37 : decode cX12_has 37 = .ok (.iload_n 2, 1) := by decide +kernel
theorem dX12_has_38 : decode cX12_has 38 = .ok (.iaload, 1) := by decide +kernel
theorem dX12_has_39 : decode cX12_has 39 = .ok (.ifCond .le 7, 3) := by decide +kernel
theorem dX12_has_42 : decode cX12_has 42 = .ok (.iconst 1, 1) := by decide +kernel
theorem dX12_has_43 : decode cX12_has 43 = .ok (.goto 4, 3) := by decide +kernel
theorem dX12_has_46 : decode cX12_has 46 = .ok (.iconst 0, 1) := by decide +kernel
theorem dX12_has_47 : decode cX12_has 47 = .ok (.ireturn, 1) := by decide +kernel
theorem dX12_after_0 : decode cX12_after 0 = .ok (.iload_n 2, 1) := by decide +kernel
theorem dX12_after_1 : decode cX12_after 1 = .ok (.iconst 1, 1) := by decide +kernel
theorem dX12_after_2 : decode cX12_after 2 = .ok (.iadd, 1) := by decide +kernel
theorem dX12_after_3 : decode cX12_after 3 = .ok (.istore_n 3, 1) := by decide +kernel
theorem dX12_after_4 : decode cX12_after 4 = .ok (.iload_n 3, 1) := by decide +kernel
theorem dX12_after_5 : decode cX12_after 5 = .ok (.aload_n 0, 1) := by decide +kernel
theorem dX12_after_6 : decode cX12_after 6 = .ok (.getfield 235, 3) := by decide +kernel
theorem dX12_after_9 : decode cX12_after 9 = .ok (.if_icmp .ge 18, 3) := by decide +kernel
theorem dX12_after_12 : decode cX12_after 12 = .ok (.aload_n 0, 1) := by decide +kernel
theorem dX12_after_13 : decode cX12_after 13 = .ok (.iload_n 1, 1) := by decide +kernel
theorem dX12_after_14 : decode cX12_after 14 = .ok (.iload_n 3, 1) := by decide +kernel
theorem dX12_after_15 : decode cX12_after 15 = .ok (.invokevirtual 285, 3) := by decide +kernel
theorem dX12_after_18 : decode cX12_after 18 = .ok (.ifCond .eq 9, 3) := by decide +kernel
theorem dX12_after_21 : decode cX12_after 21 = .ok (.iinc 3 1, 3) := by decide +kernel
theorem dX12_after_24 : decode cX12_after 24 = .ok (.goto (-20), 3) := by decide +kernel
theorem dX12_after_27 : decode cX12_after 27 = .ok (.iload_n 3, 1) := by decide +kernel
theorem dX12_after_28 : decode cX12_after 28 = .ok (.ireturn, 1) := by decide +kernel
theorem dX12_ahead_0 : decode cX12_ahead 0 = .ok (.iload_n 2, 1) := by decide +kernel
theorem dX12_ahead_1 : decode cX12_ahead 1 = .ok (.iconst 1, 1) := by decide +kernel
theorem dX12_ahead_2 : decode cX12_ahead 2 = .ok (.isub, 1) := by decide +kernel
theorem dX12_ahead_3 : decode cX12_ahead 3 = .ok (.istore_n 3, 1) := by decide +kernel
theorem dX12_ahead_4 : decode cX12_ahead 4 = .ok (.iload_n 3, 1) := by decide +kernel
theorem dX12_ahead_5 : decode cX12_ahead 5 = .ok (.ifCond .lt 18, 3) := by decide +kernel
theorem dX12_ahead_8 : decode cX12_ahead 8 = .ok (.aload_n 0, 1) := by decide +kernel
theorem dX12_ahead_9 : decode cX12_ahead 9 = .ok (.iload_n 1, 1) := by decide +kernel
theorem dX12_ahead_10 : decode cX12_ahead 10 = .ok (.iload_n 3, 1) := by decide +kernel
theorem dX12_ahead_11 : decode cX12_ahead 11 = .ok (.invokevirtual 285, 3) := by decide +kernel
theorem dX12_ahead_14 : decode cX12_ahead 14 = .ok (.ifCond .eq 9, 3) := by decide +kernel
theorem dX12_ahead_17 : decode cX12_ahead 17 = .ok (.iinc 3 (-1), 3) := by decide +kernel
theorem dX12_ahead_20 : decode cX12_ahead 20 = .ok (.goto (-16), 3) := by decide +kernel
theorem dX12_ahead_23 : decode cX12_ahead 23 = .ok (.iload_n 3, 1) := by decide +kernel
theorem dX12_ahead_24 : decode cX12_ahead 24 = .ok (.ireturn, 1) := by decide +kernel
theorem dX12_isThere_0 : decode cX12_isThere 0 = .ok (.iload_n 1, 1) := by decide +kernel
theorem dX12_isThere_1 : decode cX12_isThere 1 = .ok (.bipush (-100), 2) := by decide +kernel
theorem dX12_isThere_3 : decode cX12_isThere 3 = .ok (.if_icmp .eq 26, 3) := by decide +kernel
theorem dX12_isThere_6 : decode cX12_isThere 6 = .ok (.iload_n 2, 1) := by decide +kernel
theorem dX12_isThere_7 : decode cX12_isThere 7 = .ok (.iconst 0, 1) := by decide +kernel
theorem dX12_isThere_8 : decode cX12_isThere 8 = .ok (.aload_n 0, 1) := by decide +kernel
theorem dX12_isThere_9 : decode cX12_isThere 9 = .ok (.getfield 235, 3) := by decide +kernel
theorem dX12_isThere_12 : decode cX12_isThere 12 = .ok (.iconst 1, 1) := by decide +kernel
theorem dX12_isThere_13 : decode cX12_isThere 13 = .ok (.isub, 1) := by decide +kernel
theorem dX12_isThere_14 : decode cX12_isThere 14 = .ok (.invokestatic 162, 3) := by decide +kernel
theorem dX12_isThere_17 : decode cX12_isThere 17 = .ok (.ifCond .eq 16, 3) := by decide +kernel
theorem dX12_isThere_20 : decode cX12_isThere 20 = .ok (.aload_n 0, 1) := by decide +kernel
theorem dX12_isThere_21 : decode cX12_isThere 21 = .ok (.iload_n 1, 1) := by decide +kernel
theorem dX12_isThere_22 : decode cX12_isThere 22 = .ok (.iload_n 2, 1) := by decide +kernel
theorem dX12_isThere_23 : decode cX12_isThere 23 = .ok (.invokevirtual 288, 3) := by decide +kernel
theorem dX12_isThere_26 : decode cX12_isThere 26 = .ok (.ifCond .eq 7, 3) := by decide +kernel
theorem dX12_isThere_29 : decode cX12_isThere 29 = .ok (.iconst 1, 1) := by decide +kernel
theorem dX12_isThere_30 : decode cX12_isThere 30 = .ok (.goto 4, 3) := by decide +kernel
theorem dX12_isThere_33 : decode cX12_isThere 33 = .ok (.iconst 0, 1) := by decide +kernel
theorem dX12_isThere_34 : decode cX12_isThere 34 = .ok (.ireturn, 1) := by decide +kernel
theorem dX12_partsOf_0 : decode cX12_partsOf 0 = .ok (.iload_n 1, 1) := by decide +kernel
theorem dX12_partsOf_1 : decode cX12_partsOf 1 = .ok (.istore 5, 2) := by decide +kernel
theorem dX12_partsOf_3 : decode cX12_partsOf 3 = .ok (.iload 5, 2) := by decide +kernel
theorem dX12_partsOf_5 : decode cX12_partsOf 5 = .ok (.iload_n 2, 1) := by decide +kernel
theorem dX12_partsOf_6 : decode cX12_partsOf 6 = .ok (.if_icmp .ge 53, 3) := by decide +kernel
theorem dX12_partsOf_9 : decode cX12_partsOf 9 = .ok (.aload_n 0, 1) := by decide +kernel
theorem dX12_partsOf_10 : decode cX12_partsOf 10 = .ok (.iload 5, 2) := by decide +kernel
theorem dX12_partsOf_12 : decode cX12_partsOf 12 = .ok (.invokevirtual 282, 3) := by decide +kernel
theorem dX12_partsOf_15 : decode cX12_partsOf 15 = .ok (.ifCond .lt 38, 3) := by decide +kernel
theorem dX12_partsOf_18 : decode cX12_partsOf 18 = .ok (.aload_n 0, 1) := by decide +kernel
theorem dX12_partsOf_19 : decode cX12_partsOf 19 = .ok (.getfield 75, 3) := by decide +kernel
theorem dX12_partsOf_22 : decode cX12_partsOf 22 = .ok (.iload 5, 2) := by decide +kernel
theorem dX12_partsOf_24 : decode cX12_partsOf 24 = .ok (.iload_n 3, 1) := by decide +kernel
theorem dX12_partsOf_25 : decode cX12_partsOf 25 = .ok (.aload_n 0, 1) := by decide +kernel
theorem dX12_partsOf_26 : decode cX12_partsOf 26 = .ok (.getfield 75, 3) := by decide +kernel
theorem dX12_partsOf_29 : decode cX12_partsOf 29 = .ok (.iload 5, 2) := by decide +kernel
theorem dX12_partsOf_31 : decode cX12_partsOf 31 = .ok (.iaload, 1) := by decide +kernel
theorem dX12_partsOf_32 : decode cX12_partsOf 32 = .ok (.bipush (-100), 2) := by decide +kernel
theorem dX12_partsOf_34 : decode cX12_partsOf 34 = .ok (.if_icmp .ne 10, 3) := by decide +kernel
theorem dX12_partsOf_37 : decode cX12_partsOf 37 = .ok (.iload 4, 2) := by decide +kernel
theorem dX12_partsOf_39 : decode cX12_partsOf 39 = .ok (.iconst 1, 1) := by decide +kernel
theorem dX12_partsOf_40 : decode cX12_partsOf 40 = .ok (.isub, 1) := by decide +kernel
theorem dX12_partsOf_41 : decode cX12_partsOf 41 = .ok (.goto 10, 3) := by decide +kernel
theorem dX12_partsOf_44 : decode cX12_partsOf 44 = .ok (.aload_n 0, 1) := by decide +kernel
theorem dX12_partsOf_45 : decode cX12_partsOf 45 = .ok (.getfield 75, 3) := by decide +kernel
theorem dX12_partsOf_48 : decode cX12_partsOf 48 = .ok (.iload 5, 2) := by decide +kernel
theorem dX12_partsOf_50 : decode cX12_partsOf 50 = .ok (.iaload, 1) := by decide +kernel
theorem dX12_partsOf_51 : decode cX12_partsOf 51 = .ok (.iadd, 1) := by decide +kernel
theorem dX12_partsOf_52 : decode cX12_partsOf 52 = .ok (.iastore, 1) := by decide +kernel
theorem dX12_partsOf_53 : decode cX12_partsOf 53 = .ok (.iinc 5 1, 3) := by decide +kernel
theorem dX12_partsOf_56 : decode cX12_partsOf 56 = .ok (.goto (-53), 3) := by decide +kernel
theorem dX12_partsOf_59 : decode cX12_partsOf 59 = .ok (.return_, 1) := by decide +kernel
theorem dX12_behindMarks_0 : decode cX12_behindMarks 0 = .ok (.iload_n 1, 1) := by decide +kernel
theorem dX12_behindMarks_1 : decode cX12_behindMarks 1 = .ok (.istore_n 2, 1) := by decide +kernel
theorem dX12_behindMarks_2 : decode cX12_behindMarks 2 = .ok (.iload_n 2, 1) := by decide +kernel
theorem dX12_behindMarks_3 : decode cX12_behindMarks 3 = .ok (.aload_n 0, 1) := by decide +kernel
theorem dX12_behindMarks_4 : decode cX12_behindMarks 4 = .ok (.getfield 235, 3) := by decide +kernel
theorem dX12_behindMarks_7 : decode cX12_behindMarks 7 = .ok (.if_icmp .ge 17, 3) := by decide +kernel
theorem dX12_behindMarks_10 : decode cX12_behindMarks 10 = .ok (.aload_n 0, 1) := by decide +kernel
theorem dX12_behindMarks_11 : decode cX12_behindMarks 11 = .ok (.iload_n 2, 1) := by decide +kernel
theorem dX12_behindMarks_12 : decode cX12_behindMarks 12 = .ok (.invokevirtual 282, 3) := by decide +kernel
theorem dX12_behindMarks_15 : decode cX12_behindMarks 15 = .ok (.ifCond .lt 9, 3) := by decide +kernel
theorem dX12_behindMarks_18 : decode cX12_behindMarks 18 = .ok (.iinc 2 1, 3) := by decide +kernel
theorem dX12_behindMarks_21 : decode cX12_behindMarks 21 = .ok (.goto (-19), 3) := by decide +kernel
theorem dX12_behindMarks_24 : decode cX12_behindMarks 24 = .ok (.iload_n 2, 1) := by decide +kernel
theorem dX12_behindMarks_25 : decode cX12_behindMarks 25 = .ok (.ireturn, 1) := by decide +kernel
theorem dX12_merges_0 : decode cX12_merges 0 = .ok (.iconst 0, 1) := by decide +kernel
theorem dX12_merges_1 : decode cX12_merges 1 = .ok (.istore_n 3, 1) := by decide +kernel
theorem dX12_merges_2 : decode cX12_merges 2 = .ok (.iload_n 3, 1) := by decide +kernel
theorem dX12_merges_3 : decode cX12_merges 3 = .ok (.aload_n 0, 1) := by decide +kernel
theorem dX12_merges_4 : decode cX12_merges 4 = .ok (.getfield 235, 3) := by decide +kernel
theorem dX12_merges_7 : decode cX12_merges 7 = .ok (.if_icmp .ge 39, 3) := by decide +kernel
theorem dX12_merges_10 : decode cX12_merges 10 = .ok (.aload_n 0, 1) := by decide +kernel
theorem dX12_merges_11 : decode cX12_merges 11 = .ok (.getfield 66, 3) := by decide +kernel
theorem dX12_merges_14 : decode cX12_merges 14 = .ok (.iload_n 3, 1) := by decide +kernel
theorem dX12_merges_15 : decode cX12_merges 15 = .ok (.aload_n 0, 1) := by decide +kernel
theorem dX12_merges_16 : decode cX12_merges 16 = .ok (.getfield 66, 3) := by decide +kernel
theorem dX12_merges_19 : decode cX12_merges 19 = .ok (.iload_n 3, 1) := by decide +kernel
theorem dX12_merges_20 : decode cX12_merges 20 = .ok (.iaload, 1) := by decide +kernel
theorem dX12_merges_21 : decode cX12_merges 21 = .ok (.iload_n 1, 1) := by decide +kernel
theorem dX12_merges_22 : decode cX12_merges 22 = .ok (.iload_n 2, 1) := by decide +kernel
theorem dX12_merges_23 : decode cX12_merges 23 = .ok (.invokestatic 162, 3) := by decide +kernel
theorem dX12_merges_26 : decode cX12_merges 26 = .ok (.ifCond .eq 7, 3) := by decide +kernel
theorem dX12_merges_29 : decode cX12_merges 29 = .ok (.iload_n 1, 1) := by decide +kernel
theorem dX12_merges_30 : decode cX12_merges 30 = .ok (.goto 9, 3) := by decide +kernel
theorem dX12_merges_33 : decode cX12_merges 33 = .ok (.aload_n 0, 1) := by decide +kernel
theorem dX12_merges_34 : decode cX12_merges 34 = .ok (.getfield 66, 3) := by decide +kernel
theorem dX12_merges_37 : decode cX12_merges 37 = .ok (.iload_n 3, 1) := by decide +kernel
theorem dX12_merges_38 : decode cX12_merges 38 = .ok (.iaload, 1) := by decide +kernel
theorem dX12_merges_39 : decode cX12_merges 39 = .ok (.iastore, 1) := by decide +kernel
theorem dX12_merges_40 : decode cX12_merges 40 = .ok (.iinc 3 1, 3) := by decide +kernel
theorem dX12_merges_43 : decode cX12_merges 43 = .ok (.goto (-41), 3) := by decide +kernel
theorem dX12_merges_46 : decode cX12_merges 46 = .ok (.return_, 1) := by decide +kernel
theorem dX12_joins_0 : decode cX12_joins 0 = .ok (.iload_n 3, 1) := by decide +kernel
theorem dX12_joins_1 : decode cX12_joins 1 = .ok (.bipush (-100), 2) := by decide +kernel
theorem dX12_joins_3 : decode cX12_joins 3 = .ok (.if_icmp .ne 7, 3) := by decide +kernel
theorem dX12_joins_6 : decode cX12_joins 6 = .ok (.iload_n 2, 1) := by decide +kernel
theorem dX12_joins_7 : decode cX12_joins 7 = .ok (.goto 4, 3) := by decide +kernel
theorem dX12_joins_10 : decode cX12_joins 10 = .ok (.iload_n 3, 1) := by decide +kernel
theorem dX12_joins_11 : decode cX12_joins 11 = .ok (.istore 5, 2) := by decide +kernel
theorem dX12_joins_13 : decode cX12_joins 13 = .ok (.aload_n 0, 1) := by decide +kernel
theorem dX12_joins_14 : decode cX12_joins 14 = .ok (.getfield 78, 3) := by decide +kernel
theorem dX12_joins_17 : decode cX12_joins 17 = .ok (.iload_n 1, 1) := by decide +kernel
theorem dX12_joins_18 : decode cX12_joins 18 = .ok (.iaload, 1) := by decide +kernel
theorem dX12_joins_19 : decode cX12_joins 19 = .ok (.aload_n 0, 1) := by decide +kernel
theorem dX12_joins_20 : decode cX12_joins 20 = .ok (.getfield 78, 3) := by decide +kernel
theorem dX12_joins_23 : decode cX12_joins 23 = .ok (.iload_n 2, 1) := by decide +kernel
theorem dX12_joins_24 : decode cX12_joins 24 = .ok (.iaload, 1) := by decide +kernel
theorem dX12_joins_25 : decode cX12_joins 25 = .ok (.iadd, 1) := by decide +kernel
theorem dX12_joins_26 : decode cX12_joins 26 = .ok (.iload_n 3, 1) := by decide +kernel
theorem dX12_joins_27 : decode cX12_joins 27 = .ok (.bipush (-100), 2) := by decide +kernel
theorem dX12_joins_29 : decode cX12_joins 29 = .ok (.if_icmp .ne 7, 3) := by decide +kernel
theorem dX12_joins_32 : decode cX12_joins 32 = .ok (.iconst 0, 1) := by decide +kernel
theorem dX12_joins_33 : decode cX12_joins 33 = .ok (.goto 9, 3) := by decide +kernel
theorem dX12_joins_36 : decode cX12_joins 36 = .ok (.aload_n 0, 1) := by decide +kernel
theorem dX12_joins_37 : decode cX12_joins 37 = .ok (.getfield 78, 3) := by decide +kernel
theorem dX12_joins_40 : decode cX12_joins 40 = .ok (.iload_n 3, 1) := by decide +kernel
theorem dX12_joins_41 : decode cX12_joins 41 = .ok (.iaload, 1) := by decide +kernel
theorem dX12_joins_42 : decode cX12_joins 42 = .ok (.iadd, 1) := by decide +kernel
theorem dX12_joins_43 : decode cX12_joins 43 = .ok (.istore 6, 2) := by decide +kernel
theorem dX12_joins_45 : decode cX12_joins 45 = .ok (.aload_n 0, 1) := by decide +kernel
theorem dX12_joins_46 : decode cX12_joins 46 = .ok (.iload_n 1, 1) := by decide +kernel
theorem dX12_joins_47 : decode cX12_joins 47 = .ok (.iconst 1, 1) := by decide +kernel
theorem dX12_joins_48 : decode cX12_joins 48 = .ok (.iadd, 1) := by decide +kernel
theorem dX12_joins_49 : decode cX12_joins 49 = .ok (.iload_n 2, 1) := by decide +kernel
theorem dX12_joins_50 : decode cX12_joins 50 = .ok (.iconst 0, 1) := by decide +kernel
theorem dX12_joins_51 : decode cX12_joins 51 = .ok (.aload_n 0, 1) := by decide +kernel
theorem dX12_joins_52 : decode cX12_joins 52 = .ok (.getfield 78, 3) := by decide +kernel
theorem dX12_joins_55 : decode cX12_joins 55 = .ok (.iload_n 1, 1) := by decide +kernel
theorem dX12_joins_56 : decode cX12_joins 56 = .ok (.iaload, 1) := by decide +kernel
theorem dX12_joins_57 : decode cX12_joins 57 = .ok (.invokevirtual 291, 3) := by decide +kernel
theorem dX12_joins_60 : decode cX12_joins 60 = .ok (.iload_n 3, 1) := by decide +kernel
theorem dX12_joins_61 : decode cX12_joins 61 = .ok (.bipush (-100), 2) := by decide +kernel
theorem dX12_joins_63 : decode cX12_joins 63 = .ok (.if_icmp .eq 23, 3) := by decide +kernel
theorem dX12_joins_66 : decode cX12_joins 66 = .ok (.aload_n 0, 1) := by decide +kernel
theorem dX12_joins_67 : decode cX12_joins 67 = .ok (.iload_n 2, 1) := by decide +kernel
theorem dX12_joins_68 : decode cX12_joins 68 = .ok (.iconst 1, 1) := by decide +kernel
theorem dX12_joins_69 : decode cX12_joins 69 = .ok (.iadd, 1) := by decide +kernel
theorem dX12_joins_70 : decode cX12_joins 70 = .ok (.iload_n 3, 1) := by decide +kernel
theorem dX12_joins_71 : decode cX12_joins 71 = .ok (.aload_n 0, 1) := by decide +kernel
theorem dX12_joins_72 : decode cX12_joins 72 = .ok (.getfield 78, 3) := by decide +kernel
theorem dX12_joins_75 : decode cX12_joins 75 = .ok (.iload_n 1, 1) := by decide +kernel
theorem dX12_joins_76 : decode cX12_joins 76 = .ok (.iaload, 1) := by decide +kernel
theorem dX12_joins_77 : decode cX12_joins 77 = .ok (.aload_n 0, 1) := by decide +kernel
theorem dX12_joins_78 : decode cX12_joins 78 = .ok (.getfield 78, 3) := by decide +kernel
theorem dX12_joins_81 : decode cX12_joins 81 = .ok (.iload_n 2, 1) := by decide +kernel
theorem dX12_joins_82 : decode cX12_joins 82 = .ok (.iaload, 1) := by decide +kernel
theorem dX12_joins_83 : decode cX12_joins 83 = .ok (.invokevirtual 291, 3) := by decide +kernel
theorem dX12_joins_86 : decode cX12_joins 86 = .ok (.aload_n 0, 1) := by decide +kernel
theorem dX12_joins_87 : decode cX12_joins 87 = .ok (.iload 5, 2) := by decide +kernel
theorem dX12_joins_89 : decode cX12_joins 89 = .ok (.iconst 1, 1) := by decide +kernel
theorem dX12_joins_90 : decode cX12_joins 90 = .ok (.iadd, 1) := by decide +kernel
theorem dX12_joins_91 : decode cX12_joins 91 = .ok (.aload_n 0, 1) := by decide +kernel
theorem dX12_joins_92 : decode cX12_joins 92 = .ok (.iload 5, 2) := by decide +kernel
theorem dX12_joins_94 : decode cX12_joins 94 = .ok (.iconst 1, 1) := by decide +kernel
theorem dX12_joins_95 : decode cX12_joins 95 = .ok (.iadd, 1) := by decide +kernel
theorem dX12_joins_96 : decode cX12_joins 96 = .ok (.invokevirtual 294, 3) := by decide +kernel
theorem dX12_joins_99 : decode cX12_joins 99 = .ok (.iload 6, 2) := by decide +kernel
theorem dX12_joins_101 : decode cX12_joins 101 = .ok (.aload_n 0, 1) := by decide +kernel
theorem dX12_joins_102 : decode cX12_joins 102 = .ok (.getfield 78, 3) := by decide +kernel
theorem dX12_joins_105 : decode cX12_joins 105 = .ok (.iload 5, 2) := by decide +kernel
theorem dX12_joins_107 : decode cX12_joins 107 = .ok (.iaload, 1) := by decide +kernel
theorem dX12_joins_108 : decode cX12_joins 108 = .ok (.isub, 1) := by decide +kernel
theorem dX12_joins_109 : decode cX12_joins 109 = .ok (.aload_n 0, 1) := by decide +kernel
theorem dX12_joins_110 : decode cX12_joins 110 = .ok (.getfield 78, 3) := by decide +kernel
theorem dX12_joins_113 : decode cX12_joins 113 = .ok (.iload 5, 2) := by decide +kernel
theorem dX12_joins_115 : decode cX12_joins 115 = .ok (.iaload, 1) := by decide +kernel
theorem dX12_joins_116 : decode cX12_joins 116 = .ok (.invokevirtual 291, 3) := by decide +kernel
theorem dX12_joins_119 : decode cX12_joins 119 = .ok (.aload_n 0, 1) := by decide +kernel
theorem dX12_joins_120 : decode cX12_joins 120 = .ok (.getfield 66, 3) := by decide +kernel
theorem dX12_joins_123 : decode cX12_joins 123 = .ok (.iload_n 1, 1) := by decide +kernel
theorem dX12_joins_124 : decode cX12_joins 124 = .ok (.iaload, 1) := by decide +kernel
theorem dX12_joins_125 : decode cX12_joins 125 = .ok (.aload_n 0, 1) := by decide +kernel
theorem dX12_joins_126 : decode cX12_joins 126 = .ok (.getfield 66, 3) := by decide +kernel
theorem dX12_joins_129 : decode cX12_joins 129 = .ok (.iload_n 2, 1) := by decide +kernel
theorem dX12_joins_130 : decode cX12_joins 130 = .ok (.iaload, 1) := by decide +kernel
theorem dX12_joins_131 : decode cX12_joins 131 = .ok (.if_icmp .ge 12, 3) := by decide +kernel
theorem dX12_joins_134 : decode cX12_joins 134 = .ok (.aload_n 0, 1) := by decide +kernel
theorem dX12_joins_135 : decode cX12_joins 135 = .ok (.getfield 66, 3) := by decide +kernel
theorem dX12_joins_138 : decode cX12_joins 138 = .ok (.iload_n 1, 1) := by decide +kernel
theorem dX12_joins_139 : decode cX12_joins 139 = .ok (.iaload, 1) := by decide +kernel
theorem dX12_joins_140 : decode cX12_joins 140 = .ok (.goto 9, 3) := by decide +kernel
theorem dX12_joins_143 : decode cX12_joins 143 = .ok (.aload_n 0, 1) := by decide +kernel
theorem dX12_joins_144 : decode cX12_joins 144 = .ok (.getfield 66, 3) := by decide +kernel
theorem dX12_joins_147 : decode cX12_joins 147 = .ok (.iload_n 2, 1) := by decide +kernel
theorem dX12_joins_148 : decode cX12_joins 148 = .ok (.iaload, 1) := by decide +kernel
theorem dX12_joins_149 : decode cX12_joins 149 = .ok (.istore 7, 2) := by decide +kernel
theorem dX12_joins_151 : decode cX12_joins 151 = .ok (.aload_n 0, 1) := by decide +kernel
theorem dX12_joins_152 : decode cX12_joins 152 = .ok (.getfield 66, 3) := by decide +kernel
theorem dX12_joins_155 : decode cX12_joins 155 = .ok (.iload_n 1, 1) := by decide +kernel
theorem dX12_joins_156 : decode cX12_joins 156 = .ok (.iaload, 1) := by decide +kernel
theorem dX12_joins_157 : decode cX12_joins 157 = .ok (.aload_n 0, 1) := by decide +kernel
theorem dX12_joins_158 : decode cX12_joins 158 = .ok (.getfield 66, 3) := by decide +kernel
theorem dX12_joins_161 : decode cX12_joins 161 = .ok (.iload_n 2, 1) := by decide +kernel
theorem dX12_joins_162 : decode cX12_joins 162 = .ok (.iaload, 1) := by decide +kernel
theorem dX12_joins_163 : decode cX12_joins 163 = .ok (.if_icmp .ge 12, 3) := by decide +kernel
theorem dX12_joins_166 : decode cX12_joins 166 = .ok (.aload_n 0, 1) := by decide +kernel
theorem dX12_joins_167 : decode cX12_joins 167 = .ok (.getfield 66, 3) := by decide +kernel
theorem dX12_joins_170 : decode cX12_joins 170 = .ok (.iload_n 2, 1) := by decide +kernel
theorem dX12_joins_171 : decode cX12_joins 171 = .ok (.iaload, 1) := by decide +kernel
theorem dX12_joins_172 : decode cX12_joins 172 = .ok (.goto 9, 3) := by decide +kernel
theorem dX12_joins_175 : decode cX12_joins 175 = .ok (.aload_n 0, 1) := by decide +kernel
theorem dX12_joins_176 : decode cX12_joins 176 = .ok (.getfield 66, 3) := by decide +kernel
theorem dX12_joins_179 : decode cX12_joins 179 = .ok (.iload_n 1, 1) := by decide +kernel
theorem dX12_joins_180 : decode cX12_joins 180 = .ok (.iaload, 1) := by decide +kernel
theorem dX12_joins_181 : decode cX12_joins 181 = .ok (.istore 8, 2) := by decide +kernel
theorem dX12_joins_183 : decode cX12_joins 183 = .ok (.aload_n 0, 1) := by decide +kernel
theorem dX12_joins_184 : decode cX12_joins 184 = .ok (.getfield 66, 3) := by decide +kernel
theorem dX12_joins_187 : decode cX12_joins 187 = .ok (.iload 5, 2) := by decide +kernel
theorem dX12_joins_189 : decode cX12_joins 189 = .ok (.iaload, 1) := by decide +kernel
theorem dX12_joins_190 : decode cX12_joins 190 = .ok (.iload 7, 2) := by decide +kernel
theorem dX12_joins_192 : decode cX12_joins 192 = .ok (.if_icmp .ge 13, 3) := by decide +kernel
theorem dX12_joins_195 : decode cX12_joins 195 = .ok (.aload_n 0, 1) := by decide +kernel
theorem dX12_joins_196 : decode cX12_joins 196 = .ok (.getfield 66, 3) := by decide +kernel
theorem dX12_joins_199 : decode cX12_joins 199 = .ok (.iload 5, 2) := by decide +kernel
theorem dX12_joins_201 : decode cX12_joins 201 = .ok (.iaload, 1) := by decide +kernel
theorem dX12_joins_202 : decode cX12_joins 202 = .ok (.goto 5, 3) := by decide +kernel
theorem dX12_joins_205 : decode cX12_joins 205 = .ok (.iload 7, 2) := by decide +kernel
theorem dX12_joins_207 : decode cX12_joins 207 = .ok (.istore 7, 2) := by decide +kernel
theorem dX12_joins_209 : decode cX12_joins 209 = .ok (.aload_n 0, 1) := by decide +kernel
theorem dX12_joins_210 : decode cX12_joins 210 = .ok (.getfield 66, 3) := by decide +kernel
theorem dX12_joins_213 : decode cX12_joins 213 = .ok (.iload 5, 2) := by decide +kernel
theorem dX12_joins_215 : decode cX12_joins 215 = .ok (.iaload, 1) := by decide +kernel
theorem dX12_joins_216 : decode cX12_joins 216 = .ok (.iload 8, 2) := by decide +kernel
theorem dX12_joins_218 : decode cX12_joins 218 = .ok (.if_icmp .le 13, 3) := by decide +kernel
theorem dX12_joins_221 : decode cX12_joins 221 = .ok (.aload_n 0, 1) := by decide +kernel
theorem dX12_joins_222 : decode cX12_joins 222 = .ok (.getfield 66, 3) := by decide +kernel
theorem dX12_joins_225 : decode cX12_joins 225 = .ok (.iload 5, 2) := by decide +kernel
theorem dX12_joins_227 : decode cX12_joins 227 = .ok (.iaload, 1) := by decide +kernel
theorem dX12_joins_228 : decode cX12_joins 228 = .ok (.goto 5, 3) := by decide +kernel
theorem dX12_joins_231 : decode cX12_joins 231 = .ok (.iload 8, 2) := by decide +kernel
theorem dX12_joins_233 : decode cX12_joins 233 = .ok (.istore 8, 2) := by decide +kernel
theorem dX12_joins_235 : decode cX12_joins 235 = .ok (.aload_n 0, 1) := by decide +kernel
theorem dX12_joins_236 : decode cX12_joins 236 = .ok (.iload 7, 2) := by decide +kernel
theorem dX12_joins_238 : decode cX12_joins 238 = .ok (.iload 8, 2) := by decide +kernel
theorem dX12_joins_240 : decode cX12_joins 240 = .ok (.invokevirtual 297, 3) := by decide +kernel
theorem dX12_joins_243 : decode cX12_joins 243 = .ok (.aload_n 0, 1) := by decide +kernel
theorem dX12_joins_244 : decode cX12_joins 244 = .ok (.getfield 63, 3) := by decide +kernel
theorem dX12_joins_247 : decode cX12_joins 247 = .ok (.iload_n 1, 1) := by decide +kernel
theorem dX12_joins_248 : decode cX12_joins 248 = .ok (.iload 4, 2) := by decide +kernel
theorem dX12_joins_250 : decode cX12_joins 250 = .ok (.iastore, 1) := by decide +kernel
theorem dX12_joins_251 : decode cX12_joins 251 = .ok (.aload_n 0, 1) := by decide +kernel
theorem dX12_joins_252 : decode cX12_joins 252 = .ok (.getfield 78, 3) := by decide +kernel
theorem dX12_joins_255 : decode cX12_joins 255 = .ok (.iload_n 1, 1) := by decide +kernel
theorem dX12_joins_256 : decode cX12_joins 256 = .ok (.iload 6, 2) := by decide +kernel
theorem dX12_joins_258 : decode cX12_joins 258 = .ok (.iastore, 1) := by decide +kernel
theorem dX12_joins_259 : decode cX12_joins 259 = .ok (.aload_n 0, 1) := by decide +kernel
theorem dX12_joins_260 : decode cX12_joins 260 = .ok (.iload 5, 2) := by decide +kernel
theorem dX12_joins_262 : decode cX12_joins 262 = .ok (.iload_n 1, 1) := by decide +kernel
theorem dX12_joins_263 : decode cX12_joins 263 = .ok (.invokevirtual 300, 3) := by decide +kernel
theorem dX12_joins_266 : decode cX12_joins 266 = .ok (.iload_n 3, 1) := by decide +kernel
theorem dX12_joins_267 : decode cX12_joins 267 = .ok (.bipush (-100), 2) := by decide +kernel
theorem dX12_joins_269 : decode cX12_joins 269 = .ok (.if_icmp .eq 9, 3) := by decide +kernel
theorem dX12_joins_272 : decode cX12_joins 272 = .ok (.aload_n 0, 1) := by decide +kernel
theorem dX12_joins_273 : decode cX12_joins 273 = .ok (.iload_n 2, 1) := by decide +kernel
theorem dX12_joins_274 : decode cX12_joins 274 = .ok (.iload_n 1, 1) := by decide +kernel
theorem dX12_joins_275 : decode cX12_joins 275 = .ok (.invokevirtual 300, 3) := by decide +kernel
theorem dX12_joins_278 : decode cX12_joins 278 = .ok (.return_, 1) := by decide +kernel
theorem dX12_takesIn_0 : decode cX12_takesIn 0 = .ok (.aload_n 0, 1) := by decide +kernel
theorem dX12_takesIn_1 : decode cX12_takesIn 1 = .ok (.iload_n 1, 1) := by decide +kernel
theorem dX12_takesIn_2 : decode cX12_takesIn 2 = .ok (.invokevirtual 262, 3) := by decide +kernel
theorem dX12_takesIn_5 : decode cX12_takesIn 5 = .ok (.aload_n 0, 1) := by decide +kernel
theorem dX12_takesIn_6 : decode cX12_takesIn 6 = .ok (.aload_n 0, 1) := by decide +kernel
theorem dX12_takesIn_7 : decode cX12_takesIn 7 = .ok (.getfield 303, 3) := by decide +kernel
theorem dX12_takesIn_10 : decode cX12_takesIn 10 = .ok (.iload_n 1, 1) := by decide +kernel
theorem dX12_takesIn_11 : decode cX12_takesIn 11 = .ok (.if_icmp .ne 7, 3) := by decide +kernel
theorem dX12_takesIn_14 : decode cX12_takesIn 14 = .ok (.iload_n 2, 1) := by decide +kernel
theorem dX12_takesIn_15 : decode cX12_takesIn 15 = .ok (.goto 24, 3) := by decide +kernel
theorem dX12_takesIn_18 : decode cX12_takesIn 18 = .ok (.aload_n 0, 1) := by decide +kernel
theorem dX12_takesIn_19 : decode cX12_takesIn 19 = .ok (.getfield 303, 3) := by decide +kernel
theorem dX12_takesIn_22 : decode cX12_takesIn 22 = .ok (.iload_n 1, 1) := by decide +kernel
theorem dX12_takesIn_23 : decode cX12_takesIn 23 = .ok (.if_icmp .le 12, 3) := by decide +kernel
theorem dX12_takesIn_26 : decode cX12_takesIn 26 = .ok (.aload_n 0, 1) := by decide +kernel
theorem dX12_takesIn_27 : decode cX12_takesIn 27 = .ok (.getfield 303, 3) := by decide +kernel
theorem dX12_takesIn_30 : decode cX12_takesIn 30 = .ok (.iconst 1, 1) := by decide +kernel
theorem dX12_takesIn_31 : decode cX12_takesIn 31 = .ok (.isub, 1) := by decide +kernel
theorem dX12_takesIn_32 : decode cX12_takesIn 32 = .ok (.goto 7, 3) := by decide +kernel
theorem dX12_takesIn_35 : decode cX12_takesIn 35 = .ok (.aload_n 0, 1) := by decide +kernel
theorem dX12_takesIn_36 : decode cX12_takesIn 36 = .ok (.getfield 303, 3) := by decide +kernel
theorem dX12_takesIn_39 : decode cX12_takesIn 39 = .ok (.putfield 303, 3) := by decide +kernel
theorem dX12_takesIn_42 : decode cX12_takesIn 42 = .ok (.return_, 1) := by decide +kernel
theorem dX12_numberOf_0 : decode cX12_numberOf 0 = .ok (.aload_n 0, 1) := by decide +kernel
theorem dX12_numberOf_1 : decode cX12_numberOf 1 = .ok (.getfield 31, 3) := by decide +kernel
theorem dX12_numberOf_4 : decode cX12_numberOf 4 = .ok (.bipush 6, 2) := by decide +kernel
theorem dX12_numberOf_6 : decode cX12_numberOf 6 = .ok (.bipush 8, 2) := by decide +kernel
theorem dX12_numberOf_8 : decode cX12_numberOf 8 = .ok (.iload_n 1, 1) := by decide +kernel
theorem dX12_numberOf_9 : decode cX12_numberOf 9 = .ok (.imul, 1) := by decide +kernel
theorem dX12_numberOf_10 : decode cX12_numberOf 10 = .ok (.iload_n 2, 1) := by decide +kernel
theorem dX12_numberOf_11 : decode cX12_numberOf 11 = .ok (.iadd, 1) := by decide +kernel
theorem dX12_numberOf_12 : decode cX12_numberOf 12 = .ok (.imul, 1) := by decide +kernel
theorem dX12_numberOf_13 : decode cX12_numberOf 13 = .ok (.iload_n 3, 1) := by decide +kernel
theorem dX12_numberOf_14 : decode cX12_numberOf 14 = .ok (.iadd, 1) := by decide +kernel
theorem dX12_numberOf_15 : decode cX12_numberOf 15 = .ok (.iaload, 1) := by decide +kernel
theorem dX12_numberOf_16 : decode cX12_numberOf 16 = .ok (.ireturn, 1) := by decide +kernel
theorem dX12_does_0 : decode cX12_does 0 = .ok (.aload_n 0, 1) := by decide +kernel
theorem dX12_does_1 : decode cX12_does 1 = .ok (.iload_n 1, 1) := by decide +kernel
theorem dX12_does_2 : decode cX12_does 2 = .ok (.iload_n 2, 1) := by decide +kernel
theorem dX12_does_3 : decode cX12_does 3 = .ok (.iconst 1, 1) := by decide +kernel
theorem dX12_does_4 : decode cX12_does 4 = .ok (.invokevirtual 306, 3) := by decide +kernel
theorem dX12_does_7 : decode cX12_does 7 = .ok (.istore 4, 2) := by decide +kernel
theorem dX12_does_9 : decode cX12_does 9 = .ok (.aload_n 0, 1) := by decide +kernel
theorem dX12_does_10 : decode cX12_does 10 = .ok (.iload_n 1, 1) := by decide +kernel
theorem dX12_does_11 : decode cX12_does 11 = .ok (.iload_n 2, 1) := by decide +kernel
theorem dX12_does_12 : decode cX12_does 12 = .ok (.iconst 2, 1) := by decide +kernel
theorem dX12_does_13 : decode cX12_does 13 = .ok (.invokevirtual 306, 3) := by decide +kernel
theorem dX12_does_16 : decode cX12_does 16 = .ok (.istore 5, 2) := by decide +kernel
theorem dX12_does_18 : decode cX12_does 18 = .ok (.aload_n 0, 1) := by decide +kernel
theorem dX12_does_19 : decode cX12_does 19 = .ok (.iload_n 1, 1) := by decide +kernel
theorem dX12_does_20 : decode cX12_does 20 = .ok (.iload_n 2, 1) := by decide +kernel
theorem dX12_does_21 : decode cX12_does 21 = .ok (.iconst 3, 1) := by decide +kernel
theorem dX12_does_22 : decode cX12_does 22 = .ok (.invokevirtual 306, 3) := by decide +kernel
theorem dX12_does_25 : decode cX12_does 25 = .ok (.istore 6, 2) := by decide +kernel
theorem dX12_does_27 : decode cX12_does 27 = .ok (.aload_n 0, 1) := by decide +kernel
theorem dX12_does_28 : decode cX12_does 28 = .ok (.aload_n 0, 1) := by decide +kernel
theorem dX12_does_29 : decode cX12_does 29 = .ok (.iload_n 1, 1) := by decide +kernel
theorem dX12_does_30 : decode cX12_does 30 = .ok (.iload_n 2, 1) := by decide +kernel
theorem dX12_does_31 : decode cX12_does 31 = .ok (.iconst 0, 1) := by decide +kernel
theorem dX12_does_32 : decode cX12_does 32 = .ok (.invokevirtual 306, 3) := by decide +kernel
theorem dX12_does_35 : decode cX12_does 35 = .ok (.iload_n 3, 1) := by decide +kernel
theorem dX12_does_36 : decode cX12_does 36 = .ok (.invokevirtual 288, 3) := by decide +kernel
theorem dX12_does_39 : decode cX12_does 39 = .ok (.ifCond .ne 6, 3) := by decide +kernel
theorem dX12_does_42 : decode cX12_does 42 = .ok (.bipush (-100), 2) := by decide +kernel
theorem dX12_does_44 : decode cX12_does 44 = .ok (.ireturn, 1) := by decide +kernel
theorem dX12_does_45 : decode cX12_does 45 = .ok (.aload_n 0, 1) := by decide +kernel
theorem dX12_does_46 : decode cX12_does 46 = .ok (.getfield 13, 3) := by decide +kernel
theorem dX12_does_49 : decode cX12_does 49 = .ok (.iload_n 1, 1) := by decide +kernel
theorem dX12_does_50 : decode cX12_does 50 = .ok (.iaload, 1) := by decide +kernel
theorem dX12_does_51 : decode cX12_does 51 = .ok (.ifCond .ne 15, 3) := by decide +kernel
theorem dX12_does_54 : decode cX12_does 54 = .ok (.aload_n 0, 1) := by decide +kernel
theorem dX12_does_55 : decode cX12_does 55 = .ok (.getfield 63, 3) := by decide +kernel
theorem dX12_does_58 : decode cX12_does 58 = .ok (.iload_n 3, 1) := by decide +kernel
theorem dX12_does_59 : decode cX12_does 59 = .ok (.iload 4, 2) := by decide +kernel
theorem dX12_does_61 : decode cX12_does 61 = .ok (.iastore, 1) := by decide +kernel
theorem dX12_does_62 : decode cX12_does 62 = .ok (.iload_n 3, 1) := by decide +kernel
theorem dX12_does_63 : decode cX12_does 63 = .ok (.iconst 1, 1) := by decide +kernel
theorem dX12_does_64 : decode cX12_does 64 = .ok (.iadd, 1) := by decide +kernel
theorem dX12_does_65 : decode cX12_does 65 = .ok (.ireturn, 1) := by decide +kernel
theorem dX12_does_66 : decode cX12_does 66 = .ok (.aload_n 0, 1) := by decide +kernel
theorem dX12_does_67 : decode cX12_does 67 = .ok (.getfield 13, 3) := by decide +kernel
theorem dX12_does_70 : decode cX12_does 70 = .ok (.iload_n 1, 1) := by decide +kernel
theorem dX12_does_71 : decode cX12_does 71 = .ok (.iaload, 1) := by decide +kernel
theorem dX12_does_72 : decode cX12_does 72 = .ok (.iconst 2, 1) := by decide +kernel
theorem dX12_does_73 : decode cX12_does 73 = .ok (.if_icmp .ne 57, 3) := by decide +kernel
theorem dX12_does_76 : decode cX12_does 76 = .ok (.aload_n 0, 1) := by decide +kernel
theorem dX12_does_77 : decode cX12_does 77 = .ok (.getfield 63, 3) := by decide +kernel
theorem dX12_does_80 : decode cX12_does 80 = .ok (.iload_n 3, 1) := by decide +kernel
theorem dX12_does_81 : decode cX12_does 81 = .ok (.aload_n 0, 1) := by decide +kernel
theorem dX12_does_82 : decode cX12_does 82 = .ok (.getfield 72, 3) := by decide +kernel
theorem dX12_does_85 : decode cX12_does 85 = .ok (.iload_n 3, 1) := by decide +kernel
theorem dX12_does_86 : decode cX12_does 86 = .ok (.iaload, 1) := by decide +kernel
theorem dX12_does_87 : decode cX12_does 87 = .ok (.ifCond .ne 12, 3) := by decide +kernel
theorem dX12_does_90 : decode cX12_does 90 = .ok (.aload_n 0, 1) := by decide +kernel
theorem dX12_does_91 : decode cX12_does 91 = .ok (.getfield 63, 3) := by decide +kernel
theorem dX12_does_94 : decode cX12_does 94 = .ok (.iload_n 3, 1) := by decide +kernel
theorem dX12_does_95 : decode cX12_does 95 = .ok (.iaload, 1) := by decide +kernel
theorem dX12_does_96 : decode cX12_does 96 = .ok (.goto 15, 3) := by decide +kernel
theorem dX12_does_99 : decode cX12_does 99 = .ok (.aload_n 0, 1) := by decide +kernel
theorem dX12_does_100 : decode cX12_does 100 = .ok (.iload_n 1, 1) := by decide +kernel
theorem dX12_does_101 : decode cX12_does 101 = .ok (.iload_n 2, 1) := by decide +kernel
theorem dX12_does_102 : decode cX12_does 102 = .ok (.aload_n 0, 1) := by decide +kernel
theorem dX12_does_103 : decode cX12_does 103 = .ok (.getfield 72, 3) := by decide +kernel
theorem dX12_does_106 : decode cX12_does 106 = .ok (.iload_n 3, 1) := by decide +kernel
theorem dX12_does_107 : decode cX12_does 107 = .ok (.iaload, 1) := by decide +kernel
theorem dX12_does_108 : decode cX12_does 108 = .ok (.invokevirtual 306, 3) := by decide +kernel
theorem dX12_does_111 : decode cX12_does 111 = .ok (.iastore, 1) := by decide +kernel
theorem dX12_does_112 : decode cX12_does 112 = .ok (.aload_n 0, 1) := by decide +kernel
theorem dX12_does_113 : decode cX12_does 113 = .ok (.getfield 72, 3) := by decide +kernel
theorem dX12_does_116 : decode cX12_does 116 = .ok (.iload_n 3, 1) := by decide +kernel
theorem dX12_does_117 : decode cX12_does 117 = .ok (.iaload, 1) := by decide +kernel
theorem dX12_does_118 : decode cX12_does 118 = .ok (.ifCond .ne 8, 3) := by decide +kernel
theorem dX12_does_121 : decode cX12_does 121 = .ok (.bipush (-100), 2) := by decide +kernel
theorem dX12_does_123 : decode cX12_does 123 = .ok (.goto 6, 3) := by decide +kernel
theorem dX12_does_126 : decode cX12_does 126 = .ok (.iload_n 3, 1) := by decide +kernel
