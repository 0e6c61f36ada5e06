theorem dX5_stackEnd_1 : decode cX5_stackEnd 1 = .ok (.istore_n 3, 1) := by decide +kernel
theorem dX5_stackEnd_2 : decode cX5_stackEnd 2 = .ok (.iconst 0, 1) := by decide +kernel
theorem dX5_stackEnd_3 : decode cX5_stackEnd 3 = .ok (.istore 4, 2) := by decide +kernel
theorem dX5_stackEnd_5 : decode cX5_stackEnd 5 = .ok (.iload_n 3, 1) := by decide +kernel
theorem dX5_stackEnd_6 : decode cX5_stackEnd 6 = .ok (.iload_n 2, 1) := by decide +kernel
theorem dX5_stackEnd_7 : decode cX5_stackEnd 7 = .ok (.if_icmp .ge 86, 3) := by decide +kernel
theorem dX5_stackEnd_10 : decode cX5_stackEnd 10 = .ok (.aload_n 0, 1) := by decide +kernel
theorem dX5_stackEnd_11 : decode cX5_stackEnd 11 = .ok (.getfield 52, 3) := by decide +kernel
theorem dX5_stackEnd_14 : decode cX5_stackEnd 14 = .ok (.iload_n 3, 1) := by decide +kernel
theorem dX5_stackEnd_15 : decode cX5_stackEnd 15 = .ok (.iaload, 1) := by decide +kernel
theorem dX5_stackEnd_16 : decode cX5_stackEnd 16 = .ok (.bipush 39, 2) := by decide +kernel
theorem dX5_stackEnd_18 : decode cX5_stackEnd 18 = .ok (.if_icmp .ne 75, 3) := by decide +kernel
theorem dX5_stackEnd_21 : decode cX5_stackEnd 21 = .ok (.iload 4, 2) := by decide +kernel
theorem dX5_stackEnd_23 : decode cX5_stackEnd 23 = .ok (.bipush 16, 2) := by decide +kernel
theorem dX5_stackEnd_25 : decode cX5_stackEnd 25 = .ok (.if_icmp .ge 68, 3) := by decide +kernel
theorem dX5_stackEnd_28 : decode cX5_stackEnd 28 = .ok (.iload_n 3, 1) := by decide +kernel
theorem dX5_stackEnd_29 : decode cX5_stackEnd 29 = .ok (.iconst 1, 1) := by decide +kernel
theorem dX5_stackEnd_30 : decode cX5_stackEnd 30 = .ok (.iadd, 1) := by decide +kernel
theorem dX5_stackEnd_31 : decode cX5_stackEnd 31 = .ok (.istore 5, 2) := by decide +kernel
theorem dX5_stackEnd_33 : decode cX5_stackEnd 33 = .ok (.iload 5, 2) := by decide +kernel
theorem dX5_stackEnd_35 : decode cX5_stackEnd 35 = .ok (.iload_n 2, 1) := by decide +kernel
theorem dX5_stackEnd_36 : decode cX5_stackEnd 36 = .ok (.if_icmp .ge 19, 3) := by decide +kernel
theorem dX5_stackEnd_39 : decode cX5_stackEnd 39 = .ok (.aload_n 0, 1) := by decide +kernel
theorem dX5_stackEnd_40 : decode cX5_stackEnd 40 = .ok (.getfield 52, 3) := by decide +kernel
theorem dX5_stackEnd_43 : decode cX5_stackEnd 43 = .ok (.iload 5, 2) := by decide +kernel
theorem dX5_stackEnd_45 : decode cX5_stackEnd 45 = .ok (.iaload, 1) := by decide +kernel
theorem dX5_stackEnd_46 : decode cX5_stackEnd 46 = .ok (.invokestatic 89, 3) := by decide +kernel
theorem dX5_stackEnd_49 : decode cX5_stackEnd 49 = .ok (.ifCond .eq 6, 3) := by decide +kernel
theorem dX5_stackEnd_52 : decode cX5_stackEnd 52 = .ok (.iinc 5 1, 3) := by decide +kernel
theorem dX5_stackEnd_55 : decode cX5_stackEnd 55 = .ok (.iload 5, 2) := by decide +kernel
theorem dX5_stackEnd_57 : decode cX5_stackEnd 57 = .ok (.iload_n 2, 1) := by decide +kernel
theorem dX5_stackEnd_58 : decode cX5_stackEnd 58 = .ok (.if_icmp .ge 16, 3) := by decide +kernel
theorem dX5_stackEnd_61 : decode cX5_stackEnd 61 = .ok (.aload_n 0, 1) := by decide +kernel
theorem dX5_stackEnd_62 : decode cX5_stackEnd 62 = .ok (.getfield 52, 3) := by decide +kernel
theorem dX5_stackEnd_65 : decode cX5_stackEnd 65 = .ok (.iload 5, 2) := by decide +kernel
theorem dX5_stackEnd_67 : decode cX5_stackEnd 67 = .ok (.iaload, 1) := by decide +kernel
theorem dX5_stackEnd_68 : decode cX5_stackEnd 68 = .ok (.invokestatic 77, 3) := by decide +kernel
theorem dX5_stackEnd_71 : decode cX5_stackEnd 71 = .ok (.ifCond .ne 11, 3) := by decide +kernel
theorem dX5_stackEnd_74 : decode cX5_stackEnd 74 = .ok (.aload_n 0, 1) := by decide +kernel
theorem dX5_stackEnd_75 : decode cX5_stackEnd 75 = .ok (.iload 5, 2) := by decide +kernel
theorem dX5_stackEnd_77 : decode cX5_stackEnd 77 = .ok (.iload_n 2, 1) := by decide +kernel
theorem dX5_stackEnd_78 : decode cX5_stackEnd 78 = .ok (.invokestatic 83, 3) := by decide +kernel
theorem dX5_stackEnd_81 : decode cX5_stackEnd 81 = .ok (.ireturn, 1) := by decide +kernel
theorem dX5_stackEnd_82 : decode cX5_stackEnd 82 = .ok (.iload 5, 2) := by decide +kernel
theorem dX5_stackEnd_84 : decode cX5_stackEnd 84 = .ok (.iconst 1, 1) := by decide +kernel
theorem dX5_stackEnd_85 : decode cX5_stackEnd 85 = .ok (.iadd, 1) := by decide +kernel
theorem dX5_stackEnd_86 : decode cX5_stackEnd 86 = .ok (.istore_n 3, 1) := by decide +kernel
theorem dX5_stackEnd_87 : decode cX5_stackEnd 87 = .ok (.iinc 4 1, 3) := by decide +kernel
theorem dX5_stackEnd_90 : decode cX5_stackEnd 90 = .ok (.goto (-85), 3) := by decide +kernel
theorem dX5_stackEnd_93 : decode cX5_stackEnd 93 = .ok (.aload_n 0, 1) := by decide +kernel
theorem dX5_stackEnd_94 : decode cX5_stackEnd 94 = .ok (.iload_n 3, 1) := by decide +kernel
theorem dX5_stackEnd_95 : decode cX5_stackEnd 95 = .ok (.iload_n 2, 1) := by decide +kernel
theorem dX5_stackEnd_96 : decode cX5_stackEnd 96 = .ok (.invokestatic 83, 3) := by decide +kernel
theorem dX5_stackEnd_99 : decode cX5_stackEnd 99 = .ok (.ireturn, 1) := by decide +kernel
theorem dX5_vowelsEnd_0 : decode cX5_vowelsEnd 0 = .ok (.iload_n 1, 1) := by decide +kernel
theorem dX5_vowelsEnd_1 : decode cX5_vowelsEnd 1 = .ok (.istore_n 3, 1) := by decide +kernel
theorem dX5_vowelsEnd_2 : decode cX5_vowelsEnd 2 = .ok (.iload_n 3, 1) := by decide +kernel
theorem dX5_vowelsEnd_3 : decode cX5_vowelsEnd 3 = .ok (.iload_n 2, 1) := by decide +kernel
theorem dX5_vowelsEnd_4 : decode cX5_vowelsEnd 4 = .ok (.if_icmp .ge 21, 3) := by decide +kernel
theorem dX5_vowelsEnd_7 : decode cX5_vowelsEnd 7 = .ok (.aload_n 0, 1) := by decide +kernel
theorem dX5_vowelsEnd_8 : decode cX5_vowelsEnd 8 = .ok (.getfield 52, 3) := by decide +kernel
theorem dX5_vowelsEnd_11 : decode cX5_vowelsEnd 11 = .ok (.iload_n 3, 1) := by decide +kernel
theorem dX5_vowelsEnd_12 : decode cX5_vowelsEnd 12 = .ok (.iaload, 1) := by decide +kernel
theorem dX5_vowelsEnd_13 : decode cX5_vowelsEnd 13 = .ok (.invokestatic 92, 3) := by decide +kernel
theorem dX5_vowelsEnd_16 : decode cX5_vowelsEnd 16 = .ok (.ifCond .eq 9, 3) := by decide +kernel
theorem dX5_vowelsEnd_19 : decode cX5_vowelsEnd 19 = .ok (.iinc 3 1, 3) := by decide +kernel
theorem dX5_vowelsEnd_22 : decode cX5_vowelsEnd 22 = .ok (.goto (-20), 3) := by decide +kernel
theorem dX5_vowelsEnd_25 : decode cX5_vowelsEnd 25 = .ok (.iload_n 3, 1) := by decide +kernel
theorem dX5_vowelsEnd_26 : decode cX5_vowelsEnd 26 = .ok (.ireturn, 1) := by decide +kernel
theorem dX5_needsCarrier_0 : decode cX5_needsCarrier 0 = .ok (.iload_n 0, 1) := by decide +kernel
theorem dX5_needsCarrier_1 : decode cX5_needsCarrier 1 = .ok (.bipush 39, 2) := by decide +kernel
theorem dX5_needsCarrier_3 : decode cX5_needsCarrier 3 = .ok (.if_icmp .eq 10, 3) := by decide +kernel
theorem dX5_needsCarrier_6 : decode cX5_needsCarrier 6 = .ok (.iload_n 0, 1) := by decide +kernel
theorem dX5_needsCarrier_7 : decode cX5_needsCarrier 7 = .ok (.invokestatic 92, 3) := by decide +kernel
theorem dX5_needsCarrier_10 : decode cX5_needsCarrier 10 = .ok (.ifCond .eq 7, 3) := by decide +kernel
theorem dX5_needsCarrier_13 : decode cX5_needsCarrier 13 = .ok (.iconst 1, 1) := by decide +kernel
theorem dX5_needsCarrier_14 : decode cX5_needsCarrier 14 = .ok (.goto 4, 3) := by decide +kernel
theorem dX5_needsCarrier_17 : decode cX5_needsCarrier 17 = .ok (.iconst 0, 1) := by decide +kernel
theorem dX5_needsCarrier_18 : decode cX5_needsCarrier 18 = .ok (.ireturn, 1) := by decide +kernel
theorem dX5_isVowelOrMark_0 : decode cX5_isVowelOrMark 0 = .ok (.iload_n 0, 1) := by decide +kernel
theorem dX5_isVowelOrMark_1 : decode cX5_isVowelOrMark 1 = .ok (.bipush 40, 2) := by decide +kernel
theorem dX5_isVowelOrMark_3 : decode cX5_isVowelOrMark 3 = .ok (.if_icmp .lt 9, 3) := by decide +kernel
theorem dX5_isVowelOrMark_6 : decode cX5_isVowelOrMark 6 = .ok (.iload_n 0, 1) := by decide +kernel
theorem dX5_isVowelOrMark_7 : decode cX5_isVowelOrMark 7 = .ok (.bipush 42, 2) := by decide +kernel
theorem dX5_isVowelOrMark_9 : decode cX5_isVowelOrMark 9 = .ok (.if_icmp .le 9, 3) := by decide +kernel
theorem dX5_isVowelOrMark_12 : decode cX5_isVowelOrMark 12 = .ok (.iload_n 0, 1) := by decide +kernel
theorem dX5_isVowelOrMark_13 : decode cX5_isVowelOrMark 13 = .ok (.bipush 44, 2) := by decide +kernel
theorem dX5_isVowelOrMark_15 : decode cX5_isVowelOrMark 15 = .ok (.if_icmp .ne 7, 3) := by decide +kernel
theorem dX5_isVowelOrMark_18 : decode cX5_isVowelOrMark 18 = .ok (.iconst 1, 1) := by decide +kernel
theorem dX5_isVowelOrMark_19 : decode cX5_isVowelOrMark 19 = .ok (.goto 4, 3) := by decide +kernel
theorem dX5_isVowelOrMark_22 : decode cX5_isVowelOrMark 22 = .ok (.iconst 0, 1) := by decide +kernel
theorem dX5_isVowelOrMark_23 : decode cX5_isVowelOrMark 23 = .ok (.ireturn, 1) := by decide +kernel
theorem dX5_addSyllable_0 : decode cX5_addSyllable 0 = .ok (.aload_n 0, 1) := by decide +kernel
theorem dX5_addSyllable_1 : decode cX5_addSyllable 1 = .ok (.getfield 9, 3) := by decide +kernel
theorem dX5_addSyllable_4 : decode cX5_addSyllable 4 = .ok (.getfield 15, 3) := by decide +kernel
theorem dX5_addSyllable_7 : decode cX5_addSyllable 7 = .ok (.istore 4, 2) := by decide +kernel
theorem dX5_addSyllable_9 : decode cX5_addSyllable 9 = .ok (.aload_n 1, 1) := by decide +kernel
theorem dX5_addSyllable_10 : decode cX5_addSyllable 10 = .ok (.getfield 52, 3) := by decide +kernel
theorem dX5_addSyllable_13 : decode cX5_addSyllable 13 = .ok (.iload_n 2, 1) := by decide +kernel
theorem dX5_addSyllable_14 : decode cX5_addSyllable 14 = .ok (.iaload, 1) := by decide +kernel
theorem dX5_addSyllable_15 : decode cX5_addSyllable 15 = .ok (.invokestatic 86, 3) := by decide +kernel
theorem dX5_addSyllable_18 : decode cX5_addSyllable 18 = .ok (.ifCond .eq 19, 3) := by decide +kernel
theorem dX5_addSyllable_21 : decode cX5_addSyllable 21 = .ok (.aload_n 0, 1) := by decide +kernel
theorem dX5_addSyllable_22 : decode cX5_addSyllable 22 = .ok (.getfield 9, 3) := by decide +kernel
theorem dX5_addSyllable_25 : decode cX5_addSyllable 25 = .ok (.invokevirtual 61, 3) := by decide +kernel
theorem dX5_addSyllable_28 : decode cX5_addSyllable 28 = .ok (.bipush 64, 2) := by decide +kernel
theorem dX5_addSyllable_30 : decode cX5_addSyllable 30 = .ok (.iload_n 2, 1) := by decide +kernel
theorem dX5_addSyllable_31 : decode cX5_addSyllable 31 = .ok (.iconst 0, 1) := by decide +kernel
theorem dX5_addSyllable_32 : decode cX5_addSyllable 32 = .ok (.bipush (-100), 2) := by decide +kernel
theorem dX5_addSyllable_34 : decode cX5_addSyllable 34 = .ok (.invokevirtual 71, 3) := by decide +kernel
theorem dX5_addSyllable_37 : decode cX5_addSyllable 37 = .ok (.iload_n 2, 1) := by decide +kernel
theorem dX5_addSyllable_38 : decode cX5_addSyllable 38 = .ok (.istore 5, 2) := by decide +kernel
theorem dX5_addSyllable_40 : decode cX5_addSyllable 40 = .ok (.iload 5, 2) := by decide +kernel
theorem dX5_addSyllable_42 : decode cX5_addSyllable 42 = .ok (.iload_n 3, 1) := by decide +kernel
theorem dX5_addSyllable_43 : decode cX5_addSyllable 43 = .ok (.if_icmp .ge 36, 3) := by decide +kernel
theorem dX5_addSyllable_46 : decode cX5_addSyllable 46 = .ok (.aload_n 0, 1) := by decide +kernel
theorem dX5_addSyllable_47 : decode cX5_addSyllable 47 = .ok (.getfield 9, 3) := by decide +kernel
theorem dX5_addSyllable_50 : decode cX5_addSyllable 50 = .ok (.invokevirtual 61, 3) := by decide +kernel
theorem dX5_addSyllable_53 : decode cX5_addSyllable 53 = .ok (.aload_n 1, 1) := by decide +kernel
theorem dX5_addSyllable_54 : decode cX5_addSyllable 54 = .ok (.getfield 52, 3) := by decide +kernel
theorem dX5_addSyllable_57 : decode cX5_addSyllable 57 = .ok (.iload 5, 2) := by decide +kernel
theorem dX5_addSyllable_59 : decode cX5_addSyllable 59 = .ok (.iaload, 1) := by decide +kernel
theorem dX5_addSyllable_60 : decode cX5_addSyllable 60 = .ok (.iload_n 2, 1) := by decide +kernel
theorem dX5_addSyllable_61 : decode cX5_addSyllable 61 = .ok (.aload_n 1, 1) := by decide +kernel
theorem dX5_addSyllable_62 : decode cX5_addSyllable 62 = .ok (.getfield 65, 3) := by decide +kernel
theorem dX5_addSyllable_65 : decode cX5_addSyllable 65 = .ok (.iload 5, 2) := by decide +kernel
theorem dX5_addSyllable_67 : decode cX5_addSyllable 67 = .ok (.iaload, 1) := by decide +kernel
theorem dX5_addSyllable_68 : decode cX5_addSyllable 68 = .ok (.bipush (-100), 2) := by decide +kernel
theorem dX5_addSyllable_70 : decode cX5_addSyllable 70 = .ok (.invokevirtual 71, 3) := by decide +kernel
theorem dX5_addSyllable_73 : decode cX5_addSyllable 73 = .ok (.iinc 5 1, 3) := by decide +kernel
theorem dX5_addSyllable_76 : decode cX5_addSyllable 76 = .ok (.goto (-36), 3) := by decide +kernel
theorem dX5_addSyllable_79 : decode cX5_addSyllable 79 = .ok (.aload_n 0, 1) := by decide +kernel
theorem dX5_addSyllable_80 : decode cX5_addSyllable 80 = .ok (.iload 4, 2) := by decide +kernel
theorem dX5_addSyllable_82 : decode cX5_addSyllable 82 = .ok (.invokevirtual 95, 3) := by decide +kernel
theorem dX5_addSyllable_85 : decode cX5_addSyllable 85 = .ok (.aload_n 0, 1) := by decide +kernel
theorem dX5_addSyllable_86 : decode cX5_addSyllable 86 = .ok (.iload 4, 2) := by decide +kernel
theorem dX5_addSyllable_88 : decode cX5_addSyllable 88 = .ok (.invokevirtual 99, 3) := by decide +kernel
theorem dX5_addSyllable_91 : decode cX5_addSyllable 91 = .ok (.return_, 1) := by decide +kernel
theorem dX5_climb_0 : decode cX5_climb 0 = .ok (.iload_n 1, 1) := by decide +kernel
theorem dX5_climb_1 : decode cX5_climb 1 = .ok (.iconst 2, 1) := by decide +kernel
theorem dX5_climb_2 : decode cX5_climb 2 = .ok (.iadd, 1) := by decide +kernel
theorem dX5_climb_3 : decode cX5_climb 3 = .ok (.aload_n 0, 1) := by decide +kernel
theorem dX5_climb_4 : decode cX5_climb 4 = .ok (.getfield 9, 3) := by decide +kernel
theorem dX5_climb_7 : decode cX5_climb 7 = .ok (.getfield 15, 3) := by decide +kernel
theorem dX5_climb_10 : decode cX5_climb 10 = .ok (.if_icmp .lt 4, 3) := by decide +kernel
theorem dX5_climb_13 : decode cX5_climb 13 = .ok (.return_, 1) := by decide +kernel
theorem dX5_climb_14 : decode cX5_climb 14 = .ok (.aload_n 0, 1) := by decide +kernel
theorem dX5_climb_15 : decode cX5_climb 15 = .ok (.getfield 9, 3) := by decide +kernel
theorem dX5_climb_18 : decode cX5_climb 18 = .ok (.getfield 102, 3) := by decide +kernel
theorem dX5_climb_21 : decode cX5_climb 21 = .ok (.iload_n 1, 1) := by decide +kernel
theorem dX5_climb_22 : decode cX5_climb 22 = .ok (.aaload, 1) := by decide +kernel
theorem dX5_climb_23 : decode cX5_climb 23 = .ok (.astore_n 2, 1) := by decide +kernel
theorem dX5_climb_24 : decode cX5_climb 24 = .ok (.aload_n 2, 1) := by decide +kernel
theorem dX5_climb_25 : decode cX5_climb 25 = .ok (.getfield 106, 3) := by decide +kernel
theorem dX5_climb_28 : decode cX5_climb 28 = .ok (.bipush 38, 2) := by decide +kernel
theorem dX5_climb_30 : decode cX5_climb 30 = .ok (.if_icmp .ne 22, 3) := by decide +kernel
theorem dX5_climb_33 : decode cX5_climb 33 = .ok (.aload_n 0, 1) := by decide +kernel
theorem dX5_climb_34 : decode cX5_climb 34 = .ok (.getfield 9, 3) := by decide +kernel
theorem dX5_climb_37 : decode cX5_climb 37 = .ok (.getfield 102, 3) := by decide +kernel
theorem dX5_climb_40 : decode cX5_climb 40 = .ok (.iload_n 1, 1) := by decide +kernel
theorem dX5_climb_41 : decode cX5_climb 41 = .ok (.iconst 1, 1) := by decide +kernel
theorem dX5_climb_42 : decode cX5_climb 42 = .ok (.iadd, 1) := by decide +kernel
theorem dX5_climb_43 : decode cX5_climb 43 = .ok (.aaload, 1) := by decide +kernel
theorem dX5_climb_44 : decode cX5_climb 44 = .ok (.getfield 106, 3) := by decide +kernel
theorem dX5_climb_47 : decode cX5_climb 47 = .ok (.bipush 39, 2) := by decide +kernel
theorem dX5_climb_49 : decode cX5_climb 49 = .ok (.if_icmp .eq 4, 3) := by decide +kernel
theorem dX5_climb_52 : decode cX5_climb 52 = .ok (.return_, 1) := by decide +kernel
theorem dX5_climb_53 : decode cX5_climb 53 = .ok (.aload_n 0, 1) := by decide +kernel
theorem dX5_climb_54 : decode cX5_climb 54 = .ok (.getfield 9, 3) := by decide +kernel
theorem dX5_climb_57 : decode cX5_climb 57 = .ok (.getfield 102, 3) := by decide +kernel
theorem dX5_climb_60 : decode cX5_climb 60 = .ok (.iload_n 1, 1) := by decide +kernel
theorem dX5_climb_61 : decode cX5_climb 61 = .ok (.iconst 2, 1) := by decide +kernel
theorem dX5_climb_62 : decode cX5_climb 62 = .ok (.iadd, 1) := by decide +kernel
theorem dX5_climb_63 : decode cX5_climb 63 = .ok (.aaload, 1) := by decide +kernel
theorem dX5_climb_64 : decode cX5_climb 64 = .ok (.getfield 106, 3) := by decide +kernel
theorem dX5_climb_67 : decode cX5_climb 67 = .ok (.invokestatic 77, 3) := by decide +kernel
theorem dX5_climb_70 : decode cX5_climb 70 = .ok (.ifCond .ne 4, 3) := by decide +kernel
theorem dX5_climb_73 : decode cX5_climb 73 = .ok (.return_, 1) := by decide +kernel
theorem dX5_climb_74 : decode cX5_climb 74 = .ok (.iload_n 1, 1) := by decide +kernel
theorem dX5_climb_75 : decode cX5_climb 75 = .ok (.iconst 2, 1) := by decide +kernel
theorem dX5_climb_76 : decode cX5_climb 76 = .ok (.iadd, 1) := by decide +kernel
theorem dX5_climb_77 : decode cX5_climb 77 = .ok (.istore_n 3, 1) := by decide +kernel
theorem dX5_climb_78 : decode cX5_climb 78 = .ok (.iload_n 3, 1) := by decide +kernel
theorem dX5_climb_79 : decode cX5_climb 79 = .ok (.istore 4, 2) := by decide +kernel
theorem dX5_climb_81 : decode cX5_climb 81 = .ok (.iload 4, 2) := by decide +kernel
theorem dX5_climb_83 : decode cX5_climb 83 = .ok (.aload_n 0, 1) := by decide +kernel
theorem dX5_climb_84 : decode cX5_climb 84 = .ok (.getfield 9, 3) := by decide +kernel
theorem dX5_climb_87 : decode cX5_climb 87 = .ok (.getfield 15, 3) := by decide +kernel
theorem dX5_climb_90 : decode cX5_climb 90 = .ok (.if_icmp .ge 31, 3) := by decide +kernel
theorem dX5_climb_93 : decode cX5_climb 93 = .ok (.aload_n 0, 1) := by decide +kernel
theorem dX5_climb_94 : decode cX5_climb 94 = .ok (.getfield 9, 3) := by decide +kernel
theorem dX5_climb_97 : decode cX5_climb 97 = .ok (.getfield 102, 3) := by decide +kernel
theorem dX5_climb_100 : decode cX5_climb 100 = .ok (.iload 4, 2) := by decide +kernel
theorem dX5_climb_102 : decode cX5_climb 102 = .ok (.aaload, 1) := by decide +kernel
theorem dX5_climb_103 : decode cX5_climb 103 = .ok (.getfield 106, 3) := by decide +kernel
theorem dX5_climb_106 : decode cX5_climb 106 = .ok (.invokestatic 77, 3) := by decide +kernel
theorem dX5_climb_109 : decode cX5_climb 109 = .ok (.ifCond .eq 6, 3) := by decide +kernel
theorem dX5_climb_112 : decode cX5_climb 112 = .ok (.iload 4, 2) := by decide +kernel
theorem dX5_climb_114 : decode cX5_climb 114 = .ok (.istore_n 3, 1) := by decide +kernel
theorem dX5_climb_115 : decode cX5_climb 115 = .ok (.iinc 4 1, 3) := by decide +kernel
theorem dX5_climb_118 : decode cX5_climb 118 = .ok (.goto (-37), 3) := by decide +kernel
theorem dX5_climb_121 : decode cX5_climb 121 = .ok (.iload_n 3, 1) := by decide +kernel
theorem dX5_climb_122 : decode cX5_climb 122 = .ok (.iconst 1, 1) := by decide +kernel
theorem dX5_climb_123 : decode cX5_climb 123 = .ok (.iadd, 1) := by decide +kernel
theorem dX5_climb_124 : decode cX5_climb 124 = .ok (.aload_n 0, 1) := by decide +kernel
theorem dX5_climb_125 : decode cX5_climb 125 = .ok (.getfield 9, 3) := by decide +kernel
theorem dX5_climb_128 : decode cX5_climb 128 = .ok (.getfield 15, 3) := by decide +kernel
theorem dX5_climb_131 : decode cX5_climb 131 = .ok (.if_icmp .ge 29, 3) := by decide +kernel
theorem dX5_climb_134 : decode cX5_climb 134 = .ok (.aload_n 0, 1) := by decide +kernel
theorem dX5_climb_135 : decode cX5_climb 135 = .ok (.getfield 9, 3) := by decide +kernel
theorem dX5_climb_138 : decode cX5_climb 138 = .ok (.getfield 102, 3) := by decide +kernel
theorem dX5_climb_141 : decode cX5_climb 141 = .ok (.iload_n 3, 1) := by decide +kernel
theorem dX5_climb_142 : decode cX5_climb 142 = .ok (.iconst 1, 1) := by decide +kernel
theorem dX5_climb_143 : decode cX5_climb 143 = .ok (.iadd, 1) := by decide +kernel
theorem dX5_climb_144 : decode cX5_climb 144 = .ok (.aaload, 1) := by decide +kernel
theorem dX5_climb_145 : decode cX5_climb 145 = .ok (.getfield 106, 3) := by decide +kernel
theorem dX5_climb_148 : decode cX5_climb 148 = .ok (.invokestatic 109, 3) := by decide +kernel
theorem dX5_climb_151 : decode cX5_climb 151 = .ok (.ifCond .eq 9, 3) := by decide +kernel
theorem dX5_climb_154 : decode cX5_climb 154 = .ok (.iinc 3 1, 3) := by decide +kernel
theorem dX5_climb_157 : decode cX5_climb 157 = .ok (.goto (-36), 3) := by decide +kernel
theorem dX5_climb_160 : decode cX5_climb 160 = .ok (.aload_n 2, 1) := by decide +kernel
theorem dX5_climb_161 : decode cX5_climb 161 = .ok (.bipush 65, 2) := by decide +kernel
theorem dX5_climb_163 : decode cX5_climb 163 = .ok (.putfield 106, 3) := by decide +kernel
theorem dX5_climb_166 : decode cX5_climb 166 = .ok (.aload_n 2, 1) := by decide +kernel
theorem dX5_climb_167 : decode cX5_climb 167 = .ok (.bipush (-100), 2) := by decide +kernel
theorem dX5_climb_169 : decode cX5_climb 169 = .ok (.putfield 112, 3) := by decide +kernel
theorem dX5_climb_172 : decode cX5_climb 172 = .ok (.aload_n 0, 1) := by decide +kernel
theorem dX5_climb_173 : decode cX5_climb 173 = .ok (.getfield 9, 3) := by decide +kernel
theorem dX5_climb_176 : decode cX5_climb 176 = .ok (.iload_n 1, 1) := by decide +kernel
theorem dX5_climb_177 : decode cX5_climb 177 = .ok (.iload_n 3, 1) := by decide +kernel
theorem dX5_climb_178 : decode cX5_climb 178 = .ok (.invokevirtual 115, 3) := by decide +kernel
theorem dX5_climb_181 : decode cX5_climb 181 = .ok (.aload_n 0, 1) := by decide +kernel
theorem dX5_climb_182 : decode cX5_climb 182 = .ok (.getfield 9, 3) := by decide +kernel
theorem dX5_climb_185 : decode cX5_climb 185 = .ok (.iload_n 1, 1) := by decide +kernel
theorem dX5_climb_186 : decode cX5_climb 186 = .ok (.invokevirtual 119, 3) := by decide +kernel
theorem dX5_climb_189 : decode cX5_climb 189 = .ok (.return_, 1) := by decide +kernel
theorem dX5_followsConsonant_0 : decode cX5_followsConsonant 0 = .ok (.iload_n 0, 1) := by decide +kernel
theorem dX5_followsConsonant_1 : decode cX5_followsConsonant 1 = .ok (.bipush 39, 2) := by decide +kernel
theorem dX5_followsConsonant_3 : decode cX5_followsConsonant 3 = .ok (.if_icmp .eq 10, 3) := by decide +kernel
theorem dX5_followsConsonant_6 : decode cX5_followsConsonant 6 = .ok (.iload_n 0, 1) := by decide +kernel
theorem dX5_followsConsonant_7 : decode cX5_followsConsonant 7 = .ok (.invokestatic 89, 3) := by decide +kernel
theorem dX5_followsConsonant_10 : decode cX5_followsConsonant 10 = .ok (.ifCond .eq 7, 3) := by decide +kernel
theorem dX5_followsConsonant_13 : decode cX5_followsConsonant 13 = .ok (.iconst 1, 1) := by decide +kernel
theorem dX5_followsConsonant_14 : decode cX5_followsConsonant 14 = .ok (.goto 4, 3) := by decide +kernel
theorem dX5_followsConsonant_17 : decode cX5_followsConsonant 17 = .ok (.iconst 0, 1) := by decide +kernel
theorem dX5_followsConsonant_18 : decode cX5_followsConsonant 18 = .ok (.ireturn, 1) := by decide +kernel
theorem dX5_setAhead_0 : decode cX5_setAhead 0 = .ok (.iload_n 1, 1) := by decide +kernel
theorem dX5_setAhead_1 : decode cX5_setAhead 1 = .ok (.istore_n 2, 1) := by decide +kernel
theorem dX5_setAhead_2 : decode cX5_setAhead 2 = .ok (.iload_n 1, 1) := by decide +kernel
theorem dX5_setAhead_3 : decode cX5_setAhead 3 = .ok (.istore_n 3, 1) := by decide +kernel
theorem dX5_setAhead_4 : decode cX5_setAhead 4 = .ok (.iload_n 3, 1) := by decide +kernel
theorem dX5_setAhead_5 : decode cX5_setAhead 5 = .ok (.aload_n 0, 1) := by decide +kernel
theorem dX5_setAhead_6 : decode cX5_setAhead 6 = .ok (.getfield 9, 3) := by decide +kernel
theorem dX5_setAhead_9 : decode cX5_setAhead 9 = .ok (.getfield 15, 3) := by decide +kernel
theorem dX5_setAhead_12 : decode cX5_setAhead 12 = .ok (.if_icmp .ge 38, 3) := by decide +kernel
theorem dX5_setAhead_15 : decode cX5_setAhead 15 = .ok (.aload_n 0, 1) := by decide +kernel
theorem dX5_setAhead_16 : decode cX5_setAhead 16 = .ok (.getfield 9, 3) := by decide +kernel
theorem dX5_setAhead_19 : decode cX5_setAhead 19 = .ok (.getfield 102, 3) := by decide +kernel
theorem dX5_setAhead_22 : decode cX5_setAhead 22 = .ok (.iload_n 3, 1) := by decide +kernel
theorem dX5_setAhead_23 : decode cX5_setAhead 23 = .ok (.aaload, 1) := by decide +kernel
theorem dX5_setAhead_24 : decode cX5_setAhead 24 = .ok (.getfield 106, 3) := by decide +kernel
theorem dX5_setAhead_27 : decode cX5_setAhead 27 = .ok (.bipush 40, 2) := by decide +kernel
theorem dX5_setAhead_29 : decode cX5_setAhead 29 = .ok (.if_icmp .ne 15, 3) := by decide +kernel
theorem dX5_setAhead_32 : decode cX5_setAhead 32 = .ok (.aload_n 0, 1) := by decide +kernel
theorem dX5_setAhead_33 : decode cX5_setAhead 33 = .ok (.getfield 9, 3) := by decide +kernel
theorem dX5_setAhead_36 : decode cX5_setAhead 36 = .ok (.iload_n 3, 1) := by decide +kernel
theorem dX5_setAhead_37 : decode cX5_setAhead 37 = .ok (.iload_n 2, 1) := by decide +kernel
theorem dX5_setAhead_38 : decode cX5_setAhead 38 = .ok (.invokevirtual 115, 3) := by decide +kernel
theorem dX5_setAhead_41 : decode cX5_setAhead 41 = .ok (.iinc 2 1, 3) := by decide +kernel
theorem dX5_setAhead_44 : decode cX5_setAhead 44 = .ok (.iinc 3 1, 3) := by decide +kernel
theorem dX5_setAhead_47 : decode cX5_setAhead 47 = .ok (.goto (-43), 3) := by decide +kernel
theorem dX5_setAhead_50 : decode cX5_setAhead 50 = .ok (.return_, 1) := by decide +kernel
theorem dX5_setBack_0 : decode cX5_setBack 0 = .ok (.iconst 0, 1) := by decide +kernel
theorem dX5_setBack_1 : decode cX5_setBack 1 = .ok (.istore_n 1, 1) := by decide +kernel
theorem dX5_setBack_2 : decode cX5_setBack 2 = .ok (.iconst 0, 1) := by decide +kernel
theorem dX5_setBack_3 : decode cX5_setBack 3 = .ok (.istore_n 2, 1) := by decide +kernel
theorem dX5_setBack_4 : decode cX5_setBack 4 = .ok (.iload_n 1, 1) := by decide +kernel
theorem dX5_setBack_5 : decode cX5_setBack 5 = .ok (.aload_n 0, 1) := by decide +kernel
theorem dX5_setBack_6 : decode cX5_setBack 6 = .ok (.getfield 9, 3) := by decide +kernel
theorem dX5_setBack_9 : decode cX5_setBack 9 = .ok (.getfield 15, 3) := by decide +kernel
theorem dX5_setBack_12 : decode cX5_setBack 12 = .ok (.if_icmp .ge 140, 3) := by decide +kernel
theorem dX5_setBack_15 : decode cX5_setBack 15 = .ok (.iload_n 2, 1) := by decide +kernel
theorem dX5_setBack_16 : decode cX5_setBack 16 = .ok (.bipush 64, 2) := by decide +kernel
theorem dX5_setBack_18 : decode cX5_setBack 18 = .ok (.if_icmp .ge 134, 3) := by decide +kernel
theorem dX5_setBack_21 : decode cX5_setBack 21 = .ok (.iload_n 1, 1) := by decide +kernel
theorem dX5_setBack_22 : decode cX5_setBack 22 = .ok (.iconst 1, 1) := by decide +kernel
theorem dX5_setBack_23 : decode cX5_setBack 23 = .ok (.iadd, 1) := by decide +kernel
theorem dX5_setBack_24 : decode cX5_setBack 24 = .ok (.istore_n 3, 1) := by decide +kernel
theorem dX5_setBack_25 : decode cX5_setBack 25 = .ok (.iload_n 3, 1) := by decide +kernel
theorem dX5_setBack_26 : decode cX5_setBack 26 = .ok (.aload_n 0, 1) := by decide +kernel
theorem dX5_setBack_27 : decode cX5_setBack 27 = .ok (.getfield 9, 3) := by decide +kernel
theorem dX5_setBack_30 : decode cX5_setBack 30 = .ok (.getfield 15, 3) := by decide +kernel
theorem dX5_setBack_33 : decode cX5_setBack 33 = .ok (.if_icmp .ge 36, 3) := by decide +kernel
theorem dX5_setBack_36 : decode cX5_setBack 36 = .ok (.aload_n 0, 1) := by decide +kernel
theorem dX5_setBack_37 : decode cX5_setBack 37 = .ok (.getfield 9, 3) := by decide +kernel
theorem dX5_setBack_40 : decode cX5_setBack 40 = .ok (.getfield 102, 3) := by decide +kernel
theorem dX5_setBack_43 : decode cX5_setBack 43 = .ok (.iload_n 3, 1) := by decide +kernel
theorem dX5_setBack_44 : decode cX5_setBack 44 = .ok (.aaload, 1) := by decide +kernel
theorem dX5_setBack_45 : decode cX5_setBack 45 = .ok (.getfield 122, 3) := by decide +kernel
theorem dX5_setBack_48 : decode cX5_setBack 48 = .ok (.aload_n 0, 1) := by decide +kernel
theorem dX5_setBack_49 : decode cX5_setBack 49 = .ok (.getfield 9, 3) := by decide +kernel
theorem dX5_setBack_52 : decode cX5_setBack 52 = .ok (.getfield 102, 3) := by decide +kernel
theorem dX5_setBack_55 : decode cX5_setBack 55 = .ok (.iload_n 1, 1) := by decide +kernel
theorem dX5_setBack_56 : decode cX5_setBack 56 = .ok (.aaload, 1) := by decide +kernel
theorem dX5_setBack_57 : decode cX5_setBack 57 = .ok (.getfield 122, 3) := by decide +kernel
theorem dX5_setBack_60 : decode cX5_setBack 60 = .ok (.if_icmp .ne 9, 3) := by decide +kernel
theorem dX5_setBack_63 : decode cX5_setBack 63 = .ok (.iinc 3 1, 3) := by decide +kernel
theorem dX5_setBack_66 : decode cX5_setBack 66 = .ok (.goto (-41), 3) := by decide +kernel
theorem dX5_setBack_69 : decode cX5_setBack 69 = .ok (.iload_n 1, 1) := by decide +kernel
theorem dX5_setBack_70 : decode cX5_setBack 70 = .ok (.istore 4, 2) := by decide +kernel
theorem dX5_setBack_72 : decode cX5_setBack 72 = .ok (.iload 4, 2) := by decide +kernel
theorem dX5_setBack_74 : decode cX5_setBack 74 = .ok (.iload_n 3, 1) := by decide +kernel
theorem dX5_setBack_75 : decode cX5_setBack 75 = .ok (.if_icmp .ge 27, 3) := by decide +kernel
theorem dX5_setBack_78 : decode cX5_setBack 78 = .ok (.aload_n 0, 1) := by decide +kernel
theorem dX5_setBack_79 : decode cX5_setBack 79 = .ok (.getfield 9, 3) := by decide +kernel
theorem dX5_setBack_82 : decode cX5_setBack 82 = .ok (.getfield 102, 3) := by decide +kernel
theorem dX5_setBack_85 : decode cX5_setBack 85 = .ok (.iload 4, 2) := by decide +kernel
theorem dX5_setBack_87 : decode cX5_setBack 87 = .ok (.aaload, 1) := by decide +kernel
theorem dX5_setBack_88 : decode cX5_setBack 88 = .ok (.getfield 112, 3) := by decide +kernel
theorem dX5_setBack_91 : decode cX5_setBack 91 = .ok (.bipush 40, 2) := by decide +kernel
theorem dX5_setBack_93 : decode cX5_setBack 93 = .ok (.if_icmp .ne 9, 3) := by decide +kernel
theorem dX5_setBack_96 : decode cX5_setBack 96 = .ok (.iinc 4 1, 3) := by decide +kernel
theorem dX5_setBack_99 : decode cX5_setBack 99 = .ok (.goto (-27), 3) := by decide +kernel
theorem dX5_setBack_102 : decode cX5_setBack 102 = .ok (.aload_n 0, 1) := by decide +kernel
theorem dX5_setBack_103 : decode cX5_setBack 103 = .ok (.iload 4, 2) := by decide +kernel
theorem dX5_setBack_105 : decode cX5_setBack 105 = .ok (.iload_n 3, 1) := by decide +kernel
theorem dX5_setBack_106 : decode cX5_setBack 106 = .ok (.invokevirtual 125, 3) := by decide +kernel
theorem dX5_setBack_109 : decode cX5_setBack 109 = .ok (.istore 5, 2) := by decide +kernel
theorem dX5_setBack_111 : decode cX5_setBack 111 = .ok (.iload_n 1, 1) := by decide +kernel
theorem dX5_setBack_112 : decode cX5_setBack 112 = .ok (.istore 6, 2) := by decide +kernel
theorem dX5_setBack_114 : decode cX5_setBack 114 = .ok (.iload 6, 2) := by decide +kernel
theorem dX5_setBack_116 : decode cX5_setBack 116 = .ok (.iload 4, 2) := by decide +kernel
theorem dX5_setBack_118 : decode cX5_setBack 118 = .ok (.if_icmp .ge 26, 3) := by decide +kernel
theorem dX5_setBack_121 : decode cX5_setBack 121 = .ok (.iload 5, 2) := by decide +kernel
theorem dX5_setBack_123 : decode cX5_setBack 123 = .ok (.bipush (-100), 2) := by decide +kernel
theorem dX5_setBack_125 : decode cX5_setBack 125 = .ok (.if_icmp .eq 19, 3) := by decide +kernel
theorem dX5_setBack_128 : decode cX5_setBack 128 = .ok (.aload_n 0, 1) := by decide +kernel
theorem dX5_setBack_129 : decode cX5_setBack 129 = .ok (.getfield 9, 3) := by decide +kernel
theorem dX5_setBack_132 : decode cX5_setBack 132 = .ok (.iload_n 1, 1) := by decide +kernel
theorem dX5_setBack_133 : decode cX5_setBack 133 = .ok (.iload 5, 2) := by decide +kernel
theorem dX5_setBack_135 : decode cX5_setBack 135 = .ok (.invokevirtual 115, 3) := by decide +kernel
theorem dX5_setBack_138 : decode cX5_setBack 138 = .ok (.iinc 6 1, 3) := by decide +kernel
theorem dX5_setBack_141 : decode cX5_setBack 141 = .ok (.goto (-27), 3) := by decide +kernel
theorem dX5_setBack_144 : decode cX5_setBack 144 = .ok (.iload_n 3, 1) := by decide +kernel
theorem dX5_setBack_145 : decode cX5_setBack 145 = .ok (.istore_n 1, 1) := by decide +kernel
theorem dX5_setBack_146 : decode cX5_setBack 146 = .ok (.iinc 2 1, 3) := by decide +kernel
theorem dX5_setBack_149 : decode cX5_setBack 149 = .ok (.goto (-145), 3) := by decide +kernel
theorem dX5_setBack_152 : decode cX5_setBack 152 = .ok (.return_, 1) := by decide +kernel
theorem dX5_lastKiller_0 : decode cX5_lastKiller 0 = .ok (.iconst 0, 1) := by decide +kernel
theorem dX5_lastKiller_1 : decode cX5_lastKiller 1 = .ok (.istore_n 3, 1) := by decide +kernel
theorem dX5_lastKiller_2 : decode cX5_lastKiller 2 = .ok (.iload_n 2, 1) := by decide +kernel
theorem dX5_lastKiller_3 : decode cX5_lastKiller 3 = .ok (.aload_n 0, 1) := by decide +kernel
theorem dX5_lastKiller_4 : decode cX5_lastKiller 4 = .ok (.getfield 9, 3) := by decide +kernel
theorem dX5_lastKiller_7 : decode cX5_lastKiller 7 = .ok (.getfield 15, 3) := by decide +kernel
theorem dX5_lastKiller_10 : decode cX5_lastKiller 10 = .ok (.invokestatic 27, 3) := by decide +kernel
theorem dX5_lastKiller_13 : decode cX5_lastKiller 13 = .ok (.iconst 1, 1) := by decide +kernel
theorem dX5_lastKiller_14 : decode cX5_lastKiller 14 = .ok (.isub, 1) := by decide +kernel
theorem dX5_lastKiller_15 : decode cX5_lastKiller 15 = .ok (.istore 4, 2) := by decide +kernel
theorem dX5_lastKiller_17 : decode cX5_lastKiller 17 = .ok (.iload 4, 2) := by decide +kernel
theorem dX5_lastKiller_19 : decode cX5_lastKiller 19 = .ok (.iload_n 1, 1) := by decide +kernel
theorem dX5_lastKiller_20 : decode cX5_lastKiller 20 = .ok (.if_icmp .lt 66, 3) := by decide +kernel
theorem dX5_lastKiller_23 : decode cX5_lastKiller 23 = .ok (.iload_n 3, 1) := by decide +kernel
theorem dX5_lastKiller_24 : decode cX5_lastKiller 24 = .ok (.ifCond .eq 24, 3) := by decide +kernel
theorem dX5_lastKiller_27 : decode cX5_lastKiller 27 = .ok (.aload_n 0, 1) := by decide +kernel
theorem dX5_lastKiller_28 : decode cX5_lastKiller 28 = .ok (.getfield 9, 3) := by decide +kernel
theorem dX5_lastKiller_31 : decode cX5_lastKiller 31 = .ok (.getfield 102, 3) := by decide +kernel
theorem dX5_lastKiller_34 : decode cX5_lastKiller 34 = .ok (.iload 4, 2) := by decide +kernel
theorem dX5_lastKiller_36 : decode cX5_lastKiller 36 = .ok (.aaload, 1) := by decide +kernel
theorem dX5_lastKiller_37 : decode cX5_lastKiller 37 = .ok (.getfield 106, 3) := by decide +kernel
theorem dX5_lastKiller_40 : decode cX5_lastKiller 40 = .ok (.bipush 39, 2) := by decide +kernel
theorem dX5_lastKiller_42 : decode cX5_lastKiller 42 = .ok (.if_icmp .ne 6, 3) := by decide +kernel
theorem dX5_lastKiller_45 : decode cX5_lastKiller 45 = .ok (.iload 4, 2) := by decide +kernel
theorem dX5_lastKiller_47 : decode cX5_lastKiller 47 = .ok (.ireturn, 1) := by decide +kernel
theorem dX5_lastKiller_48 : decode cX5_lastKiller 48 = .ok (.aload_n 0, 1) := by decide +kernel
theorem dX5_lastKiller_49 : decode cX5_lastKiller 49 = .ok (.getfield 9, 3) := by decide +kernel
theorem dX5_lastKiller_52 : decode cX5_lastKiller 52 = .ok (.getfield 102, 3) := by decide +kernel
theorem dX5_lastKiller_55 : decode cX5_lastKiller 55 = .ok (.iload 4, 2) := by decide +kernel
theorem dX5_lastKiller_57 : decode cX5_lastKiller 57 = .ok (.aaload, 1) := by decide +kernel
theorem dX5_lastKiller_58 : decode cX5_lastKiller 58 = .ok (.getfield 112, 3) := by decide +kernel
theorem dX5_lastKiller_61 : decode cX5_lastKiller 61 = .ok (.istore 5, 2) := by decide +kernel
theorem dX5_lastKiller_63 : decode cX5_lastKiller 63 = .ok (.iload 5, 2) := by decide +kernel
theorem dX5_lastKiller_65 : decode cX5_lastKiller 65 = .ok (.invokestatic 77, 3) := by decide +kernel
theorem dX5_lastKiller_68 : decode cX5_lastKiller 68 = .ok (.ifCond .ne 10, 3) := by decide +kernel
theorem dX5_lastKiller_71 : decode cX5_lastKiller 71 = .ok (.iload 5, 2) := by decide +kernel
theorem dX5_lastKiller_73 : decode cX5_lastKiller 73 = .ok (.bipush 64, 2) := by decide +kernel
theorem dX5_lastKiller_75 : decode cX5_lastKiller 75 = .ok (.if_icmp .ne 5, 3) := by decide +kernel
theorem dX5_lastKiller_78 : decode cX5_lastKiller 78 = .ok (.iconst 1, 1) := by decide +kernel
theorem dX5_lastKiller_79 : decode cX5_lastKiller 79 = .ok (.istore_n 3, 1) := by decide +kernel
theorem dX5_lastKiller_80 : decode cX5_lastKiller 80 = .ok (.iinc 4 (-1), 3) := by decide +kernel
theorem dX5_lastKiller_83 : decode cX5_lastKiller 83 = .ok (.goto (-66), 3) := by decide +kernel
theorem dX5_lastKiller_86 : decode cX5_lastKiller 86 = .ok (.bipush (-100), 2) := by decide +kernel
theorem dX5_lastKiller_88 : decode cX5_lastKiller 88 = .ok (.ireturn, 1) := by decide +kernel
theorem dX6_init_0 : decode cX6_init 0 = .ok (.aload_n 0, 1) := by decide +kernel
theorem dX6_init_1 : decode cX6_init 1 = .ok (.invokespecial 3, 3) := by decide +kernel
theorem dX6_init_4 : decode cX6_init 4 = .ok (.aload_n 0, 1) := by decide +kernel
theorem dX6_init_5 : decode cX6_init 5 = .ok (.new 9, 3) := by decide +kernel
theorem dX6_init_8 : decode cX6_init 8 = .ok (.dup, 1) := by decide +kernel
theorem dX6_init_9 : decode cX6_init 9 = .ok (.invokespecial 11, 3) := by decide +kernel
theorem dX6_init_12 : decode cX6_init 12 = .ok (.putfield 12, 3) := by decide +kernel
theorem dX6_init_15 : decode cX6_init 15 = .ok (.aload_n 0, 1) := by decide +kernel
theorem dX6_init_16 : decode cX6_init 16 = .ok (.sipush 1024, 3) := by decide +kernel
theorem dX6_init_19 : decode cX6_init 19 = .ok (.newarray .int, 2) := by decide +kernel
theorem dX6_init_21 : decode cX6_init 21 = .ok (.putfield 18, 3) := by decide +kernel
theorem dX6_init_24 : decode cX6_init 24 = .ok (.aload_n 0, 1) := by decide +kernel
theorem dX6_init_25 : decode cX6_init 25 = .ok (.sipush 1024, 3) := by decide +kernel
theorem dX6_init_28 : decode cX6_init 28 = .ok (.newarray .int, 2) := by decide +kernel
theorem dX6_init_30 : decode cX6_init 30 = .ok (.putfield 22, 3) := by decide +kernel
theorem dX6_init_33 : decode cX6_init 33 = .ok (.aload_n 0, 1) := by decide +kernel
theorem dX6_init_34 : decode cX6_init 34 = .ok (.sipush 1024, 3) := by decide +kernel
theorem dX6_init_37 : decode cX6_init 37 = .ok (.newarray .int, 2) := by decide +kernel
theorem dX6_init_39 : decode cX6_init 39 = .ok (.putfield 25, 3) := by decide +kernel
theorem dX6_init_42 : decode cX6_init 42 = .ok (.aload_n 0, 1) := by decide +kernel
theorem dX6_init_43 : decode cX6_init 43 = .ok (.sipush 1024, 3) := by decide +kernel
theorem dX6_init_46 : decode cX6_init 46 = .ok (.newarray .int, 2) := by decide +kernel
theorem dX6_init_48 : decode cX6_init 48 = .ok (.putfield 28, 3) := by decide +kernel
theorem dX6_init_51 : decode cX6_init 51 = .ok (.aload_n 0, 1) := by decide +kernel
theorem dX6_init_52 : decode cX6_init 52 = .ok (.sipush 1024, 3) := by decide +kernel
theorem dX6_init_55 : decode cX6_init 55 = .ok (.newarray .int, 2) := by decide +kernel
theorem dX6_init_57 : decode cX6_init 57 = .ok (.putfield 31, 3) := by decide +kernel
theorem dX6_init_60 : decode cX6_init 60 = .ok (.aload_n 0, 1) := by decide +kernel
theorem dX6_init_61 : decode cX6_init 61 = .ok (.sipush 1024, 3) := by decide +kernel
theorem dX6_init_64 : decode cX6_init 64 = .ok (.newarray .int, 2) := by decide +kernel
theorem dX6_init_66 : decode cX6_init 66 = .ok (.putfield 34, 3) := by decide +kernel
theorem dX6_init_69 : decode cX6_init 69 = .ok (.aload_n 0, 1) := by decide +kernel
theorem dX6_init_70 : decode cX6_init 70 = .ok (.sipush 1024, 3) := by decide +kernel
theorem dX6_init_73 : decode cX6_init 73 = .ok (.newarray .int, 2) := by decide +kernel
theorem dX6_init_75 : decode cX6_init 75 = .ok (.putfield 37, 3) := by decide +kernel
theorem dX6_init_78 : decode cX6_init 78 = .ok (.aload_n 0, 1) := by decide +kernel
theorem dX6_init_79 : decode cX6_init 79 = .ok (.sipush 1024, 3) := by decide +kernel
theorem dX6_init_82 : decode cX6_init 82 = .ok (.newarray .int, 2) := by decide +kernel
theorem dX6_init_84 : decode cX6_init 84 = .ok (.putfield 40, 3) := by decide +kernel
theorem dX6_init_87 : decode cX6_init 87 = .ok (.aload_n 0, 1) := by decide +kernel
theorem dX6_init_88 : decode cX6_init 88 = .ok (.iconst 0, 1) := by decide +kernel
theorem dX6_init_89 : decode cX6_init 89 = .ok (.putfield 43, 3) := by decide +kernel
theorem dX6_init_92 : decode cX6_init 92 = .ok (.aload_n 0, 1) := by decide +kernel
theorem dX6_init_93 : decode cX6_init 93 = .ok (.iconst 0, 1) := by decide +kernel
theorem dX6_init_94 : decode cX6_init 94 = .ok (.putfield 47, 3) := by decide +kernel
theorem dX6_init_97 : decode cX6_init 97 = .ok (.return_, 1) := by decide +kernel
theorem dX6_clear_0 : decode cX6_clear 0 = .ok (.aload_n 0, 1) := by decide +kernel
theorem dX6_clear_1 : decode cX6_clear 1 = .ok (.iconst 0, 1) := by decide +kernel
theorem dX6_clear_2 : decode cX6_clear 2 = .ok (.putfield 43, 3) := by decide +kernel
theorem dX6_clear_5 : decode cX6_clear 5 = .ok (.aload_n 0, 1) := by decide +kernel
theorem dX6_clear_6 : decode cX6_clear 6 = .ok (.iconst 0, 1) := by decide +kernel
theorem dX6_clear_7 : decode cX6_clear 7 = .ok (.putfield 47, 3) := by decide +kernel
theorem dX6_clear_10 : decode cX6_clear 10 = .ok (.aload_n 0, 1) := by decide +kernel
theorem dX6_clear_11 : decode cX6_clear 11 = .ok (.getfield 12, 3) := by decide +kernel
theorem dX6_clear_14 : decode cX6_clear 14 = .ok (.iconst 0, 1) := by decide +kernel
theorem dX6_clear_15 : decode cX6_clear 15 = .ok (.putfield 50, 3) := by decide +kernel
theorem dX6_clear_18 : decode cX6_clear 18 = .ok (.return_, 1) := by decide +kernel
theorem dX6_append_0 : decode cX6_append 0 = .ok (.aload_n 0, 1) := by decide +kernel
theorem dX6_append_1 : decode cX6_append 1 = .ok (.getfield 43, 3) := by decide +kernel
theorem dX6_append_4 : decode cX6_append 4 = .ok (.istore_n 3, 1) := by decide +kernel
theorem dX6_append_5 : decode cX6_append 5 = .ok (.aload_n 0, 1) := by decide +kernel
theorem dX6_append_6 : decode cX6_append 6 = .ok (.getfield 47, 3) := by decide +kernel
theorem dX6_append_9 : decode cX6_append 9 = .ok (.istore 4, 2) := by decide +kernel
theorem dX6_append_11 : decode cX6_append 11 = .ok (.iconst 0, 1) := by decide +kernel
theorem dX6_append_12 : decode cX6_append 12 = .ok (.istore 5, 2) := by decide +kernel
theorem dX6_append_14 : decode cX6_append 14 = .ok (.iload 5, 2) := by decide +kernel
theorem dX6_append_16 : decode cX6_append 16 = .ok (.aload_n 1, 1) := by decide +kernel
theorem dX6_append_17 : decode cX6_append 17 = .ok (.getfield 53, 3) := by decide +kernel
theorem dX6_append_20 : decode cX6_append 20 = .ok (.if_icmp .ge 181, 3) := by decide +kernel
theorem dX6_append_23 : decode cX6_append 23 = .ok (.aload_n 0, 1) := by decide +kernel
theorem dX6_append_24 : decode cX6_append 24 = .ok (.getfield 43, 3) := by decide +kernel
theorem dX6_append_27 : decode cX6_append 27 = .ok (.sipush 1024, 3) := by decide +kernel
theorem dX6_append_30 : decode cX6_append 30 = .ok (.if_icmp .ge 171, 3) := by decide +kernel
theorem dX6_append_33 : decode cX6_append 33 = .ok (.aload_n 1, 1) := by decide +kernel
theorem dX6_append_34 : decode cX6_append 34 = .ok (.getfield 56, 3) := by decide +kernel
theorem dX6_append_37 : decode cX6_append 37 = .ok (.iload 5, 2) := by decide +kernel
theorem dX6_append_39 : decode cX6_append 39 = .ok (.aaload, 1) := by decide +kernel
theorem dX6_append_40 : decode cX6_append 40 = .ok (.astore 6, 2) := by decide +kernel
theorem dX6_append_42 : decode cX6_append 42 = .ok (.aload_n 0, 1) := by decide +kernel
theorem dX6_append_43 : decode cX6_append 43 = .ok (.getfield 18, 3) := by decide +kernel
theorem dX6_append_46 : decode cX6_append 46 = .ok (.aload_n 0, 1) := by decide +kernel
theorem dX6_append_47 : decode cX6_append 47 = .ok (.getfield 43, 3) := by decide +kernel
theorem dX6_append_50 : decode cX6_append 50 = .ok (.aload 6, 2) := by decide +kernel
theorem dX6_append_52 : decode cX6_append 52 = .ok (.getfield 60, 3) := by decide +kernel
theorem dX6_append_55 : decode cX6_append 55 = .ok (.iastore, 1) := by decide +kernel
theorem dX6_append_56 : decode cX6_append 56 = .ok (.aload_n 0, 1) := by decide +kernel
theorem dX6_append_57 : decode cX6_append 57 = .ok (.getfield 22, 3) := by decide +kernel
theorem dX6_append_60 : decode cX6_append 60 = .ok (.aload_n 0, 1) := by decide +kernel
theorem dX6_append_61 : decode cX6_append 61 = .ok (.getfield 43, 3) := by decide +kernel
theorem dX6_append_64 : decode cX6_append 64 = .ok (.aload 6, 2) := by decide +kernel
theorem dX6_append_66 : decode cX6_append 66 = .ok (.getfield 65, 3) := by decide +kernel
theorem dX6_append_69 : decode cX6_append 69 = .ok (.iastore, 1) := by decide +kernel
theorem dX6_append_70 : decode cX6_append 70 = .ok (.aload_n 0, 1) := by decide +kernel
theorem dX6_append_71 : decode cX6_append 71 = .ok (.getfield 25, 3) := by decide +kernel
theorem dX6_append_74 : decode cX6_append 74 = .ok (.aload_n 0, 1) := by decide +kernel
theorem dX6_append_75 : decode cX6_append 75 = .ok (.getfield 43, 3) := by decide +kernel
theorem dX6_append_78 : decode cX6_append 78 = .ok (.aload 6, 2) := by decide +kernel
theorem dX6_append_80 : decode cX6_append 80 = .ok (.getfield 68, 3) := by decide +kernel
theorem dX6_append_83 : decode cX6_append 83 = .ok (.iastore, 1) := by decide +kernel
theorem dX6_append_84 : decode cX6_append 84 = .ok (.aload_n 0, 1) := by decide +kernel
theorem dX6_append_85 : decode cX6_append 85 = .ok (.getfield 28, 3) := by decide +kernel
theorem dX6_append_88 : decode cX6_append 88 = .ok (.aload_n 0, 1) := by decide +kernel
theorem dX6_append_89 : decode cX6_append 89 = .ok (.getfield 43, 3) := by decide +kernel
theorem dX6_append_92 : decode cX6_append 92 = .ok (.aload 6, 2) := by decide +kernel
theorem dX6_append_94 : decode cX6_append 94 = .ok (.getfield 71, 3) := by decide +kernel
theorem dX6_append_97 : decode cX6_append 97 = .ok (.iastore, 1) := by decide +kernel
theorem dX6_append_98 : decode cX6_append 98 = .ok (.aload_n 0, 1) := by decide +kernel
theorem dX6_append_99 : decode cX6_append 99 = .ok (.getfield 31, 3) := by decide +kernel
theorem dX6_append_102 : decode cX6_append 102 = .ok (.aload_n 0, 1) := by decide +kernel
theorem dX6_append_103 : decode cX6_append 103 = .ok (.getfield 43, 3) := by decide +kernel
theorem dX6_append_106 : decode cX6_append 106 = .ok (.aload 6, 2) := by decide +kernel
theorem dX6_append_108 : decode cX6_append 108 = .ok (.getfield 74, 3) := by decide +kernel
theorem dX6_append_111 : decode cX6_append 111 = .ok (.iastore, 1) := by decide +kernel
theorem dX6_append_112 : decode cX6_append 112 = .ok (.aload_n 0, 1) := by decide +kernel
theorem dX6_append_113 : decode cX6_append 113 = .ok (.getfield 34, 3) := by decide +kernel
theorem dX6_append_116 : decode cX6_append 116 = .ok (.aload_n 0, 1) := by decide +kernel
theorem dX6_append_117 : decode cX6_append 117 = .ok (.getfield 43, 3) := by decide +kernel
theorem dX6_append_120 : decode cX6_append 120 = .ok (.aload 6, 2) := by decide +kernel
theorem dX6_append_122 : decode cX6_append 122 = .ok (.getfield 77, 3) := by decide +kernel
theorem dX6_append_125 : decode cX6_append 125 = .ok (.bipush (-100), 2) := by decide +kernel
theorem dX6_append_127 : decode cX6_append 127 = .ok (.if_icmp .ne 8, 3) := by decide +kernel
theorem dX6_append_130 : decode cX6_append 130 = .ok (.bipush (-100), 2) := by decide +kernel
theorem dX6_append_132 : decode cX6_append 132 = .ok (.goto 10, 3) := by decide +kernel
theorem dX6_append_135 : decode cX6_append 135 = .ok (.iload_n 3, 1) := by decide +kernel
theorem dX6_append_136 : decode cX6_append 136 = .ok (.aload 6, 2) := by decide +kernel
theorem dX6_append_138 : decode cX6_append 138 = .ok (.getfield 77, 3) := by decide +kernel
theorem dX6_append_141 : decode cX6_append 141 = .ok (.iadd, 1) := by decide +kernel
theorem dX6_append_142 : decode cX6_append 142 = .ok (.iastore, 1) := by decide +kernel
theorem dX6_append_143 : decode cX6_append 143 = .ok (.aload_n 0, 1) := by decide +kernel
theorem dX6_append_144 : decode cX6_append 144 = .ok (.getfield 37, 3) := by decide +kernel
theorem dX6_append_147 : decode cX6_append 147 = .ok (.aload_n 0, 1) := by decide +kernel
theorem dX6_append_148 : decode cX6_append 148 = .ok (.getfield 43, 3) := by decide +kernel
theorem dX6_append_151 : decode cX6_append 151 = .ok (.aload 6, 2) := by decide +kernel
theorem dX6_append_153 : decode cX6_append 153 = .ok (.getfield 80, 3) := by decide +kernel
theorem dX6_append_156 : decode cX6_append 156 = .ok (.iastore, 1) := by decide +kernel
theorem dX6_append_157 : decode cX6_append 157 = .ok (.aload_n 0, 1) := by decide +kernel
theorem dX6_append_158 : decode cX6_append 158 = .ok (.getfield 40, 3) := by decide +kernel
theorem dX6_append_161 : decode cX6_append 161 = .ok (.aload_n 0, 1) := by decide +kernel
theorem dX6_append_162 : decode cX6_append 162 = .ok (.getfield 43, 3) := by decide +kernel
theorem dX6_append_165 : decode cX6_append 165 = .ok (.aload 6, 2) := by decide +kernel
theorem dX6_append_167 : decode cX6_append 167 = .ok (.getfield 83, 3) := by decide +kernel
theorem dX6_append_170 : decode cX6_append 170 = .ok (.iastore, 1) := by decide +kernel
theorem dX6_append_171 : decode cX6_append 171 = .ok (.aload_n 0, 1) := by decide +kernel
theorem dX6_append_172 : decode cX6_append 172 = .ok (.dup, 1) := by decide +kernel
theorem dX6_append_173 : decode cX6_append 173 = .ok (.getfield 43, 3) := by decide +kernel
theorem dX6_append_176 : decode cX6_append 176 = .ok (.iconst 1, 1) := by decide +kernel
theorem dX6_append_177 : decode cX6_append 177 = .ok (.iadd, 1) := by decide +kernel
theorem dX6_append_178 : decode cX6_append 178 = .ok (.putfield 43, 3) := by decide +kernel
theorem dX6_append_181 : decode cX6_append 181 = .ok (.aload_n 0, 1) := by decide +kernel
theorem dX6_append_182 : decode cX6_append 182 = .ok (.dup, 1) := by decide +kernel
theorem dX6_append_183 : decode cX6_append 183 = .ok (.getfield 47, 3) := by decide +kernel
theorem dX6_append_186 : decode cX6_append 186 = .ok (.aload 6, 2) := by decide +kernel
theorem dX6_append_188 : decode cX6_append 188 = .ok (.getfield 68, 3) := by decide +kernel
theorem dX6_append_191 : decode cX6_append 191 = .ok (.iadd, 1) := by decide +kernel
theorem dX6_append_192 : decode cX6_append 192 = .ok (.putfield 47, 3) := by decide +kernel
theorem dX6_append_195 : decode cX6_append 195 = .ok (.iinc 5 1, 3) := by decide +kernel
theorem dX6_append_198 : decode cX6_append 198 = .ok (.goto (-184), 3) := by decide +kernel
theorem dX6_append_201 : decode cX6_append 201 = .ok (.aload_n 0, 1) := by decide +kernel
theorem dX6_append_202 : decode cX6_append 202 = .ok (.getfield 12, 3) := by decide +kernel
theorem dX6_append_205 : decode cX6_append 205 = .ok (.getfield 86, 3) := by decide +kernel
theorem dX6_append_208 : decode cX6_append 208 = .ok (.iload_n 2, 1) := by decide +kernel
theorem dX6_append_209 : decode cX6_append 209 = .ok (.iload_n 3, 1) := by decide +kernel
theorem dX6_append_210 : decode cX6_append 210 = .ok (.iastore, 1) := by decide +kernel
theorem dX6_append_211 : decode cX6_append 211 = .ok (.aload_n 0, 1) := by decide +kernel
theorem dX6_append_212 : decode cX6_append 212 = .ok (.getfield 12, 3) := by decide +kernel
theorem dX6_append_215 : decode cX6_append 215 = .ok (.getfield 89, 3) := by decide +kernel
theorem dX6_append_218 : decode cX6_append 218 = .ok (.iload_n 2, 1) := by decide +kernel
theorem dX6_append_219 : decode cX6_append 219 = .ok (.aload_n 0, 1) := by decide +kernel
theorem dX6_append_220 : decode cX6_append 220 = .ok (.getfield 43, 3) := by decide +kernel
theorem dX6_append_223 : decode cX6_append 223 = .ok (.iastore, 1) := by decide +kernel
theorem dX6_append_224 : decode cX6_append 224 = .ok (.aload_n 0, 1) := by decide +kernel
theorem dX6_append_225 : decode cX6_append 225 = .ok (.getfield 12, 3) := by decide +kernel
theorem dX6_append_228 : decode cX6_append 228 = .ok (.getfield 92, 3) := by decide +kernel
theorem dX6_append_231 : decode cX6_append 231 = .ok (.iload_n 2, 1) := by decide +kernel
theorem dX6_append_232 : decode cX6_append 232 = .ok (.iload 4, 2) := by decide +kernel
theorem dX6_append_234 : decode cX6_append 234 = .ok (.iastore, 1) := by decide +kernel
theorem dX6_append_235 : decode cX6_append 235 = .ok (.aload_n 0, 1) := by decide +kernel
theorem dX6_append_236 : decode cX6_append 236 = .ok (.getfield 12, 3) := by decide +kernel
theorem dX6_append_239 : decode cX6_append 239 = .ok (.getfield 93, 3) := by decide +kernel
theorem dX6_append_242 : decode cX6_append 242 = .ok (.iload_n 2, 1) := by decide +kernel
theorem dX6_append_243 : decode cX6_append 243 = .ok (.aload_n 0, 1) := by decide +kernel
theorem dX6_append_244 : decode cX6_append 244 = .ok (.getfield 47, 3) := by decide +kernel
theorem dX6_append_247 : decode cX6_append 247 = .ok (.iload 4, 2) := by decide +kernel
theorem dX6_append_249 : decode cX6_append 249 = .ok (.isub, 1) := by decide +kernel
theorem dX6_append_250 : decode cX6_append 250 = .ok (.iastore, 1) := by decide +kernel
theorem dX6_append_251 : decode cX6_append 251 = .ok (.return_, 1) := by decide +kernel
theorem dX6_isLike_0 : decode cX6_isLike 0 = .ok (.aload_n 0, 1) := by decide +kernel
theorem dX6_isLike_1 : decode cX6_isLike 1 = .ok (.getfield 43, 3) := by decide +kernel
theorem dX6_isLike_4 : decode cX6_isLike 4 = .ok (.aload_n 1, 1) := by decide +kernel
theorem dX6_isLike_5 : decode cX6_isLike 5 = .ok (.getfield 43, 3) := by decide +kernel
theorem dX6_isLike_8 : decode cX6_isLike 8 = .ok (.if_icmp .eq 5, 3) := by decide +kernel
theorem dX6_isLike_11 : decode cX6_isLike 11 = .ok (.iconst 0, 1) := by decide +kernel
theorem dX6_isLike_12 : decode cX6_isLike 12 = .ok (.ireturn, 1) := by decide +kernel
theorem dX6_isLike_13 : decode cX6_isLike 13 = .ok (.iconst 0, 1) := by decide +kernel
theorem dX6_isLike_14 : decode cX6_isLike 14 = .ok (.istore_n 2, 1) := by decide +kernel
theorem dX6_isLike_15 : decode cX6_isLike 15 = .ok (.iload_n 2, 1) := by decide +kernel
theorem dX6_isLike_16 : decode cX6_isLike 16 = .ok (.aload_n 0, 1) := by decide +kernel
theorem dX6_isLike_17 : decode cX6_isLike 17 = .ok (.getfield 43, 3) := by decide +kernel
theorem dX6_isLike_20 : decode cX6_isLike 20 = .ok (.if_icmp .ge 120, 3) := by decide +kernel
theorem dX6_isLike_23 : decode cX6_isLike 23 = .ok (.aload_n 0, 1) := by decide +kernel
theorem dX6_isLike_24 : decode cX6_isLike 24 = .ok (.getfield 18, 3) := by decide +kernel
theorem dX6_isLike_27 : decode cX6_isLike 27 = .ok (.iload_n 2, 1) := by decide +kernel
theorem dX6_isLike_28 : decode cX6_isLike 28 = .ok (.iaload, 1) := by decide +kernel
theorem dX6_isLike_29 : decode cX6_isLike 29 = .ok (.aload_n 1, 1) := by decide +kernel
theorem dX6_isLike_30 : decode cX6_isLike 30 = .ok (.getfield 18, 3) := by decide +kernel
theorem dX6_isLike_33 : decode cX6_isLike 33 = .ok (.iload_n 2, 1) := by decide +kernel
theorem dX6_isLike_34 : decode cX6_isLike 34 = .ok (.iaload, 1) := by decide +kernel
theorem dX6_isLike_35 : decode cX6_isLike 35 = .ok (.if_icmp .ne 18, 3) := by decide +kernel
theorem dX6_isLike_38 : decode cX6_isLike 38 = .ok (.aload_n 0, 1) := by decide +kernel
theorem dX6_isLike_39 : decode cX6_isLike 39 = .ok (.getfield 22, 3) := by decide +kernel
theorem dX6_isLike_42 : decode cX6_isLike 42 = .ok (.iload_n 2, 1) := by decide +kernel
theorem dX6_isLike_43 : decode cX6_isLike 43 = .ok (.iaload, 1) := by decide +kernel
theorem dX6_isLike_44 : decode cX6_isLike 44 = .ok (.aload_n 1, 1) := by decide +kernel
theorem dX6_isLike_45 : decode cX6_isLike 45 = .ok (.getfield 22, 3) := by decide +kernel
theorem dX6_isLike_48 : decode cX6_isLike 48 = .ok (.iload_n 2, 1) := by decide +kernel
theorem dX6_isLike_49 : decode cX6_isLike 49 = .ok (.iaload, 1) := by decide +kernel
theorem dX6_isLike_50 : decode cX6_isLike 50 = .ok (.if_icmp .eq 5, 3) := by decide +kernel
theorem dX6_isLike_53 : decode cX6_isLike 53 = .ok (.iconst 0, 1) := by decide +kernel
theorem dX6_isLike_54 : decode cX6_isLike 54 = .ok (.ireturn, 1) := by decide +kernel
theorem dX6_isLike_55 : decode cX6_isLike 55 = .ok (.aload_n 0, 1) := by decide +kernel
theorem dX6_isLike_56 : decode cX6_isLike 56 = .ok (.getfield 25, 3) := by decide +kernel
theorem dX6_isLike_59 : decode cX6_isLike 59 = .ok (.iload_n 2, 1) := by decide +kernel
theorem dX6_isLike_60 : decode cX6_isLike 60 = .ok (.iaload, 1) := by decide +kernel
theorem dX6_isLike_61 : decode cX6_isLike 61 = .ok (.aload_n 1, 1) := by decide +kernel
theorem dX6_isLike_62 : decode cX6_isLike 62 = .ok (.getfield 25, 3) := by decide +kernel
theorem dX6_isLike_65 : decode cX6_isLike 65 = .ok (.iload_n 2, 1) := by decide +kernel
theorem dX6_isLike_66 : decode cX6_isLike 66 = .ok (.iaload, 1) := by decide +kernel
theorem dX6_isLike_67 : decode cX6_isLike 67 = .ok (.if_icmp .ne 18, 3) := by decide +kernel
theorem dX6_isLike_70 : decode cX6_isLike 70 = .ok (.aload_n 0, 1) := by decide +kernel
theorem dX6_isLike_71 : decode cX6_isLike 71 = .ok (.getfield 28, 3) := by decide +kernel
theorem dX6_isLike_74 : decode cX6_isLike 74 = .ok (.iload_n 2, 1) := by decide +kernel
theorem dX6_isLike_75 : decode cX6_isLike 75 = .ok (.iaload, 1) := by decide +kernel
theorem dX6_isLike_76 : decode cX6_isLike 76 = .ok (.aload_n 1, 1) := by decide +kernel
theorem dX6_isLike_77 : decode cX6_isLike 77 = .ok (.getfield 28, 3) := by decide +kernel
theorem dX6_isLike_80 : decode cX6_isLike 80 = .ok (.iload_n 2, 1) := by decide +kernel
theorem dX6_isLike_81 : decode cX6_isLike 81 = .ok (.iaload, 1) := by decide +kernel
theorem dX6_isLike_82 : decode cX6_isLike 82 = .ok (.if_icmp .eq 5, 3) := by decide +kernel
theorem dX6_isLike_85 : decode cX6_isLike 85 = .ok (.iconst 0, 1) := by decide +kernel
theorem dX6_isLike_86 : decode cX6_isLike 86 = .ok (.ireturn, 1) := by decide +kernel
theorem dX6_isLike_87 : decode cX6_isLike 87 = .ok (.aload_n 0, 1) := by decide +kernel
theorem dX6_isLike_88 : decode cX6_isLike 88 = .ok (.getfield 34, 3) := by decide +kernel
theorem dX6_isLike_91 : decode cX6_isLike 91 = .ok (.iload_n 2, 1) := by decide +kernel
theorem dX6_isLike_92 : decode cX6_isLike 92 = .ok (.iaload, 1) := by decide +kernel
theorem dX6_isLike_93 : decode cX6_isLike 93 = .ok (.aload_n 1, 1) := by decide +kernel
theorem dX6_isLike_94 : decode cX6_isLike 94 = .ok (.getfield 34, 3) := by decide +kernel
theorem dX6_isLike_97 : decode cX6_isLike 97 = .ok (.iload_n 2, 1) := by decide +kernel
theorem dX6_isLike_98 : decode cX6_isLike 98 = .ok (.iaload, 1) := by decide +kernel
theorem dX6_isLike_99 : decode cX6_isLike 99 = .ok (.if_icmp .ne 33, 3) := by decide +kernel
theorem dX6_isLike_102 : decode cX6_isLike 102 = .ok (.aload_n 0, 1) := by decide +kernel
theorem dX6_isLike_103 : decode cX6_isLike 103 = .ok (.getfield 37, 3) := by decide +kernel
theorem dX6_isLike_106 : decode cX6_isLike 106 = .ok (.iload_n 2, 1) := by decide +kernel
theorem dX6_isLike_107 : decode cX6_isLike 107 = .ok (.iaload, 1) := by decide +kernel
theorem dX6_isLike_108 : decode cX6_isLike 108 = .ok (.aload_n 1, 1) := by decide +kernel
theorem dX6_isLike_109 : decode cX6_isLike 109 = .ok (.getfield 37, 3) := by decide +kernel
theorem dX6_isLike_112 : decode cX6_isLike 112 = .ok (.iload_n 2, 1) := by decide +kernel
theorem dX6_isLike_113 : decode cX6_isLike 113 = .ok (.iaload, 1) := by decide +kernel
theorem dX6_isLike_114 : decode cX6_isLike 114 = .ok (.if_icmp .ne 18, 3) := by decide +kernel
theorem dX6_isLike_117 : decode cX6_isLike 117 = .ok (.aload_n 0, 1) := by decide +kernel
theorem dX6_isLike_118 : decode cX6_isLike 118 = .ok (.getfield 40, 3) := by decide +kernel
theorem dX6_isLike_121 : decode cX6_isLike 121 = .ok (.iload_n 2, 1) := by decide +kernel
theorem dX6_isLike_122 : decode cX6_isLike 122 = .ok (.iaload, 1) := by decide +kernel
theorem dX6_isLike_123 : decode cX6_isLike 123 = .ok (.aload_n 1, 1) := by decide +kernel
theorem dX6_isLike_124 : decode cX6_isLike 124 = .ok (.getfield 40, 3) := by decide +kernel
theorem dX6_isLike_127 : decode cX6_isLike 127 = .ok (.iload_n 2, 1) := by decide +kernel
theorem dX6_isLike_128 : decode cX6_isLike 128 = .ok (.iaload, 1) := by decide +kernel
theorem dX6_isLike_129 : decode cX6_isLike 129 = .ok (.if_icmp .eq 5, 3) := by decide +kernel
theorem dX6_isLike_132 : decode cX6_isLike 132 = .ok (.iconst 0, 1) := by decide +kernel
theorem dX6_isLike_133 : decode cX6_isLike 133 = .ok (.ireturn, 1) := by decide +kernel
theorem dX6_isLike_134 : decode cX6_isLike 134 = .ok (.iinc 2 1, 3) := by decide +kernel
theorem dX6_isLike_137 : decode cX6_isLike 137 = .ok (.goto (-122), 3) := by decide +kernel
theorem dX6_isLike_140 : decode cX6_isLike 140 = .ok (.iconst 1, 1) := by decide +kernel
theorem dX6_isLike_141 : decode cX6_isLike 141 = .ok (.ireturn, 1) := by decide +kernel
theorem dX6_ownerOf_0 : decode cX6_ownerOf 0 = .ok (.aload_n 0, 1) := by decide +kernel
theorem dX6_ownerOf_1 : decode cX6_ownerOf 1 = .ok (.getfield 12, 3) := by decide +kernel
theorem dX6_ownerOf_4 : decode cX6_ownerOf 4 = .ok (.getfield 96, 3) := by decide +kernel
theorem dX6_ownerOf_7 : decode cX6_ownerOf 7 = .ok (.iload_n 1, 1) := by decide +kernel
theorem dX6_ownerOf_8 : decode cX6_ownerOf 8 = .ok (.iaload, 1) := by decide +kernel
theorem dX6_ownerOf_9 : decode cX6_ownerOf 9 = .ok (.istore_n 2, 1) := by decide +kernel
theorem dX6_ownerOf_10 : decode cX6_ownerOf 10 = .ok (.bipush (-100), 2) := by decide +kernel
theorem dX6_ownerOf_12 : decode cX6_ownerOf 12 = .ok (.istore_n 3, 1) := by decide +kernel
theorem dX6_ownerOf_13 : decode cX6_ownerOf 13 = .ok (.aload_n 0, 1) := by decide +kernel
theorem dX6_ownerOf_14 : decode cX6_ownerOf 14 = .ok (.getfield 12, 3) := by decide +kernel
theorem dX6_ownerOf_17 : decode cX6_ownerOf 17 = .ok (.getfield 86, 3) := by decide +kernel
theorem dX6_ownerOf_20 : decode cX6_ownerOf 20 = .ok (.iload_n 2, 1) := by decide +kernel
theorem dX6_ownerOf_21 : decode cX6_ownerOf 21 = .ok (.iaload, 1) := by decide +kernel
theorem dX6_ownerOf_22 : decode cX6_ownerOf 22 = .ok (.istore 4, 2) := by decide +kernel
theorem dX6_ownerOf_24 : decode cX6_ownerOf 24 = .ok (.iload 4, 2) := by decide +kernel
theorem dX6_ownerOf_26 : decode cX6_ownerOf 26 = .ok (.aload_n 0, 1) := by decide +kernel
theorem dX6_ownerOf_27 : decode cX6_ownerOf 27 = .ok (.getfield 12, 3) := by decide +kernel
theorem dX6_ownerOf_30 : decode cX6_ownerOf 30 = .ok (.getfield 89, 3) := by decide +kernel
theorem dX6_ownerOf_33 : decode cX6_ownerOf 33 = .ok (.iload_n 2, 1) := by decide +kernel
theorem dX6_ownerOf_34 : decode cX6_ownerOf 34 = .ok (.iaload, 1) := by decide +kernel
theorem dX6_ownerOf_35 : decode cX6_ownerOf 35 = .ok (.if_icmp .ge 39, 3) := by decide +kernel
theorem dX6_ownerOf_38 : decode cX6_ownerOf 38 = .ok (.aload_n 0, 1) := by decide +kernel
theorem dX6_ownerOf_39 : decode cX6_ownerOf 39 = .ok (.getfield 22, 3) := by decide +kernel
theorem dX6_ownerOf_42 : decode cX6_ownerOf 42 = .ok (.iload 4, 2) := by decide +kernel
theorem dX6_ownerOf_44 : decode cX6_ownerOf 44 = .ok (.iaload, 1) := by decide +kernel
theorem dX6_ownerOf_45 : decode cX6_ownerOf 45 = .ok (.iload_n 1, 1) := by decide +kernel
theorem dX6_ownerOf_46 : decode cX6_ownerOf 46 = .ok (.if_icmp .gt 22, 3) := by decide +kernel
theorem dX6_ownerOf_49 : decode cX6_ownerOf 49 = .ok (.aload_n 0, 1) := by decide +kernel
theorem dX6_ownerOf_50 : decode cX6_ownerOf 50 = .ok (.getfield 22, 3) := by decide +kernel
theorem dX6_ownerOf_53 : decode cX6_ownerOf 53 = .ok (.iload 4, 2) := by decide +kernel
theorem dX6_ownerOf_55 : decode cX6_ownerOf 55 = .ok (.iaload, 1) := by decide +kernel
theorem dX6_ownerOf_56 : decode cX6_ownerOf 56 = .ok (.iload_n 3, 1) := by decide +kernel
theorem dX6_ownerOf_57 : decode cX6_ownerOf 57 = .ok (.if_icmp .le 11, 3) := by decide +kernel
theorem dX6_ownerOf_60 : decode cX6_ownerOf 60 = .ok (.aload_n 0, 1) := by decide +kernel
theorem dX6_ownerOf_61 : decode cX6_ownerOf 61 = .ok (.getfield 22, 3) := by decide +kernel
theorem dX6_ownerOf_64 : decode cX6_ownerOf 64 = .ok (.iload 4, 2) := by decide +kernel
theorem dX6_ownerOf_66 : decode cX6_ownerOf 66 = .ok (.iaload, 1) := by decide +kernel
theorem dX6_ownerOf_67 : decode cX6_ownerOf 67 = .ok (.istore_n 3, 1) := by decide +kernel
theorem dX6_ownerOf_68 : decode cX6_ownerOf 68 = .ok (.iinc 4 1, 3) := by decide +kernel
theorem dX6_ownerOf_71 : decode cX6_ownerOf 71 = .ok (.goto (-47), 3) := by decide +kernel
theorem dX6_ownerOf_74 : decode cX6_ownerOf 74 = .ok (.iload_n 3, 1) := by decide +kernel
theorem dX6_ownerOf_75 : decode cX6_ownerOf 75 = .ok (.ireturn, 1) := by decide +kernel
theorem dX6_caretOf_0 : decode cX6_caretOf 0 = .ok (.aload_n 0, 1) := by decide +kernel
theorem dX6_caretOf_1 : decode cX6_caretOf 1 = .ok (.getfield 12, 3) := by decide +kernel
theorem dX6_caretOf_4 : decode cX6_caretOf 4 = .ok (.getfield 96, 3) := by decide +kernel
theorem dX6_caretOf_7 : decode cX6_caretOf 7 = .ok (.iload_n 1, 1) := by decide +kernel
theorem dX6_caretOf_8 : decode cX6_caretOf 8 = .ok (.iaload, 1) := by decide +kernel
theorem dX6_caretOf_9 : decode cX6_caretOf 9 = .ok (.istore_n 2, 1) := by decide +kernel
theorem dX6_caretOf_10 : decode cX6_caretOf 10 = .ok (.aload_n 0, 1) := by decide +kernel
theorem dX6_caretOf_11 : decode cX6_caretOf 11 = .ok (.iload_n 1, 1) := by decide +kernel
theorem dX6_caretOf_12 : decode cX6_caretOf 12 = .ok (.iload_n 2, 1) := by decide +kernel
theorem dX6_caretOf_13 : decode cX6_caretOf 13 = .ok (.invokevirtual 99, 3) := by decide +kernel
theorem dX6_caretOf_16 : decode cX6_caretOf 16 = .ok (.istore_n 3, 1) := by decide +kernel
theorem dX6_caretOf_17 : decode cX6_caretOf 17 = .ok (.aload_n 0, 1) := by decide +kernel
theorem dX6_caretOf_18 : decode cX6_caretOf 18 = .ok (.getfield 12, 3) := by decide +kernel
theorem dX6_caretOf_21 : decode cX6_caretOf 21 = .ok (.getfield 103, 3) := by decide +kernel
theorem dX6_caretOf_24 : decode cX6_caretOf 24 = .ok (.iload_n 2, 1) := by decide +kernel
theorem dX6_caretOf_25 : decode cX6_caretOf 25 = .ok (.baload, 1) := by decide +kernel
theorem dX6_caretOf_26 : decode cX6_caretOf 26 = .ok (.ifCond .eq 17, 3) := by decide +kernel
theorem dX6_caretOf_29 : decode cX6_caretOf 29 = .ok (.aload_n 0, 1) := by decide +kernel
theorem dX6_caretOf_30 : decode cX6_caretOf 30 = .ok (.getfield 12, 3) := by decide +kernel
theorem dX6_caretOf_33 : decode cX6_caretOf 33 = .ok (.getfield 92, 3) := by decide +kernel
theorem dX6_caretOf_36 : decode cX6_caretOf 36 = .ok (.iload_n 2, 1) := by decide +kernel
theorem dX6_caretOf_37 : decode cX6_caretOf 37 = .ok (.iaload, 1) := by decide +kernel
theorem dX6_caretOf_38 : decode cX6_caretOf 38 = .ok (.iload_n 3, 1) := by decide +kernel
theorem dX6_caretOf_39 : decode cX6_caretOf 39 = .ok (.iadd, 1) := by decide +kernel
theorem dX6_caretOf_40 : decode cX6_caretOf 40 = .ok (.goto 24, 3) := by decide +kernel
theorem dX6_caretOf_43 : decode cX6_caretOf 43 = .ok (.aload_n 0, 1) := by decide +kernel
theorem dX6_caretOf_44 : decode cX6_caretOf 44 = .ok (.getfield 12, 3) := by decide +kernel
theorem dX6_caretOf_47 : decode cX6_caretOf 47 = .ok (.getfield 92, 3) := by decide +kernel
theorem dX6_caretOf_50 : decode cX6_caretOf 50 = .ok (.iload_n 2, 1) := by decide +kernel
theorem dX6_caretOf_51 : decode cX6_caretOf 51 = .ok (.iaload, 1) := by decide +kernel
theorem dX6_caretOf_52 : decode cX6_caretOf 52 = .ok (.aload_n 0, 1) := by decide +kernel
theorem dX6_caretOf_53 : decode cX6_caretOf 53 = .ok (.getfield 12, 3) := by decide +kernel
theorem dX6_caretOf_56 : decode cX6_caretOf 56 = .ok (.getfield 93, 3) := by decide +kernel
theorem dX6_caretOf_59 : decode cX6_caretOf 59 = .ok (.iload_n 2, 1) := by decide +kernel
theorem dX6_caretOf_60 : decode cX6_caretOf 60 = .ok (.iaload, 1) := by decide +kernel
theorem dX6_caretOf_61 : decode cX6_caretOf 61 = .ok (.iadd, 1) := by decide +kernel
theorem dX6_caretOf_62 : decode cX6_caretOf 62 = .ok (.iload_n 3, 1) := by decide +kernel
theorem dX6_caretOf_63 : decode cX6_caretOf 63 = .ok (.isub, 1) := by decide +kernel
theorem dX6_caretOf_64 : decode cX6_caretOf 64 = .ok (.ireturn, 1) := by decide +kernel
theorem dX6_fromBeginning_0 : decode cX6_fromBeginning 0 = .ok (.aload_n 0, 1) := by decide +kernel
theorem dX6_fromBeginning_1 : decode cX6_fromBeginning 1 = .ok (.iload_n 1, 1) := by decide +kernel
theorem dX6_fromBeginning_2 : decode cX6_fromBeginning 2 = .ok (.invokevirtual 107, 3) := by decide +kernel
theorem dX6_fromBeginning_5 : decode cX6_fromBeginning 5 = .ok (.istore_n 3, 1) := by decide +kernel
theorem dX6_fromBeginning_6 : decode cX6_fromBeginning 6 = .ok (.iload_n 3, 1) := by decide +kernel
theorem dX6_fromBeginning_7 : decode cX6_fromBeginning 7 = .ok (.bipush (-100), 2) := by decide +kernel
theorem dX6_fromBeginning_9 : decode cX6_fromBeginning 9 = .ok (.if_icmp .ne 5, 3) := by decide +kernel
theorem dX6_fromBeginning_12 : decode cX6_fromBeginning 12 = .ok (.iconst 0, 1) := by decide +kernel
theorem dX6_fromBeginning_13 : decode cX6_fromBeginning 13 = .ok (.ireturn, 1) := by decide +kernel
theorem dX6_fromBeginning_14 : decode cX6_fromBeginning 14 = .ok (.aload_n 0, 1) := by decide +kernel
theorem dX6_fromBeginning_15 : decode cX6_fromBeginning 15 = .ok (.getfield 12, 3) := by decide +kernel
theorem dX6_fromBeginning_18 : decode cX6_fromBeginning 18 = .ok (.getfield 111, 3) := by decide +kernel
theorem dX6_fromBeginning_21 : decode cX6_fromBeginning 21 = .ok (.iload_n 2, 1) := by decide +kernel
theorem dX6_fromBeginning_22 : decode cX6_fromBeginning 22 = .ok (.iaload, 1) := by decide +kernel
theorem dX6_fromBeginning_23 : decode cX6_fromBeginning 23 = .ok (.istore 4, 2) := by decide +kernel
theorem dX6_fromBeginning_25 : decode cX6_fromBeginning 25 = .ok (.iconst 0, 1) := by decide +kernel
theorem dX6_fromBeginning_26 : decode cX6_fromBeginning 26 = .ok (.istore 5, 2) := by decide +kernel
theorem dX6_fromBeginning_28 : decode cX6_fromBeginning 28 = .ok (.iconst 0, 1) := by decide +kernel
theorem dX6_fromBeginning_29 : decode cX6_fromBeginning 29 = .ok (.istore 6, 2) := by decide +kernel
theorem dX6_fromBeginning_31 : decode cX6_fromBeginning 31 = .ok (.aload_n 0, 1) := by decide +kernel
theorem dX6_fromBeginning_32 : decode cX6_fromBeginning 32 = .ok (.getfield 12, 3) := by decide +kernel
theorem dX6_fromBeginning_35 : decode cX6_fromBeginning 35 = .ok (.getfield 86, 3) := by decide +kernel
theorem dX6_fromBeginning_38 : decode cX6_fromBeginning 38 = .ok (.iload_n 2, 1) := by decide +kernel
theorem dX6_fromBeginning_39 : decode cX6_fromBeginning 39 = .ok (.iaload, 1) := by decide +kernel
theorem dX6_fromBeginning_40 : decode cX6_fromBeginning 40 = .ok (.istore 7, 2) := by decide +kernel
theorem dX6_fromBeginning_42 : decode cX6_fromBeginning 42 = .ok (.iload 7, 2) := by decide +kernel
theorem dX6_fromBeginning_44 : decode cX6_fromBeginning 44 = .ok (.aload_n 0, 1) := by decide +kernel
theorem dX6_fromBeginning_45 : decode cX6_fromBeginning 45 = .ok (.getfield 12, 3) := by decide +kernel
theorem dX6_fromBeginning_48 : decode cX6_fromBeginning 48 = .ok (.getfield 89, 3) := by decide +kernel
theorem dX6_fromBeginning_51 : decode cX6_fromBeginning 51 = .ok (.iload_n 2, 1) := by decide +kernel
theorem dX6_fromBeginning_52 : decode cX6_fromBeginning 52 = .ok (.iaload, 1) := by decide +kernel
theorem dX6_fromBeginning_53 : decode cX6_fromBeginning 53 = .ok (.if_icmp .ge 75, 3) := by decide +kernel
theorem dX6_fromBeginning_56 : decode cX6_fromBeginning 56 = .ok (.aload_n 0, 1) := by decide +kernel
theorem dX6_fromBeginning_57 : decode cX6_fromBeginning 57 = .ok (.getfield 22, 3) := by decide +kernel
theorem dX6_fromBeginning_60 : decode cX6_fromBeginning 60 = .ok (.iload 7, 2) := by decide +kernel
theorem dX6_fromBeginning_62 : decode cX6_fromBeginning 62 = .ok (.iaload, 1) := by decide +kernel
theorem dX6_fromBeginning_63 : decode cX6_fromBeginning 63 = .ok (.iload_n 3, 1) := by decide +kernel
theorem dX6_fromBeginning_64 : decode cX6_fromBeginning 64 = .ok (.if_icmp .ge 18, 3) := by decide +kernel
theorem dX6_fromBeginning_67 : decode cX6_fromBeginning 67 = .ok (.iload 5, 2) := by decide +kernel
theorem dX6_fromBeginning_69 : decode cX6_fromBeginning 69 = .ok (.aload_n 0, 1) := by decide +kernel
theorem dX6_fromBeginning_70 : decode cX6_fromBeginning 70 = .ok (.getfield 25, 3) := by decide +kernel
theorem dX6_fromBeginning_73 : decode cX6_fromBeginning 73 = .ok (.iload 7, 2) := by decide +kernel
theorem dX6_fromBeginning_75 : decode cX6_fromBeginning 75 = .ok (.iaload, 1) := by decide +kernel
theorem dX6_fromBeginning_76 : decode cX6_fromBeginning 76 = .ok (.iadd, 1) := by decide +kernel
theorem dX6_fromBeginning_77 : decode cX6_fromBeginning 77 = .ok (.istore 5, 2) := by decide +kernel
theorem dX6_fromBeginning_79 : decode cX6_fromBeginning 79 = .ok (.goto 43, 3) := by decide +kernel
theorem dX6_fromBeginning_82 : decode cX6_fromBeginning 82 = .ok (.aload_n 0, 1) := by decide +kernel
theorem dX6_fromBeginning_83 : decode cX6_fromBeginning 83 = .ok (.getfield 22, 3) := by decide +kernel
theorem dX6_fromBeginning_86 : decode cX6_fromBeginning 86 = .ok (.iload 7, 2) := by decide +kernel
theorem dX6_fromBeginning_88 : decode cX6_fromBeginning 88 = .ok (.iaload, 1) := by decide +kernel
theorem dX6_fromBeginning_89 : decode cX6_fromBeginning 89 = .ok (.iload_n 3, 1) := by decide +kernel
theorem dX6_fromBeginning_90 : decode cX6_fromBeginning 90 = .ok (.if_icmp .ne 18, 3) := by decide +kernel
theorem dX6_fromBeginning_93 : decode cX6_fromBeginning 93 = .ok (.iload 6, 2) := by decide +kernel
theorem dX6_fromBeginning_95 : decode cX6_fromBeginning 95 = .ok (.aload_n 0, 1) := by decide +kernel
theorem dX6_fromBeginning_96 : decode cX6_fromBeginning 96 = .ok (.getfield 25, 3) := by decide +kernel
theorem dX6_fromBeginning_99 : decode cX6_fromBeginning 99 = .ok (.iload 7, 2) := by decide +kernel
theorem dX6_fromBeginning_101 : decode cX6_fromBeginning 101 = .ok (.iaload, 1) := by decide +kernel
theorem dX6_fromBeginning_102 : decode cX6_fromBeginning 102 = .ok (.iadd, 1) := by decide +kernel
theorem dX6_fromBeginning_103 : decode cX6_fromBeginning 103 = .ok (.istore 6, 2) := by decide +kernel
theorem dX6_fromBeginning_105 : decode cX6_fromBeginning 105 = .ok (.goto 17, 3) := by decide +kernel
theorem dX6_fromBeginning_108 : decode cX6_fromBeginning 108 = .ok (.iload 4, 2) := by decide +kernel
theorem dX6_fromBeginning_110 : decode cX6_fromBeginning 110 = .ok (.aload_n 0, 1) := by decide +kernel
theorem dX6_fromBeginning_111 : decode cX6_fromBeginning 111 = .ok (.getfield 22, 3) := by decide +kernel
theorem dX6_fromBeginning_114 : decode cX6_fromBeginning 114 = .ok (.iload 7, 2) := by decide +kernel
theorem dX6_fromBeginning_116 : decode cX6_fromBeginning 116 = .ok (.iaload, 1) := by decide +kernel
theorem dX6_fromBeginning_117 : decode cX6_fromBeginning 117 = .ok (.invokestatic 114, 3) := by decide +kernel
theorem dX6_fromBeginning_120 : decode cX6_fromBeginning 120 = .ok (.istore 4, 2) := by decide +kernel
theorem dX6_fromBeginning_122 : decode cX6_fromBeginning 122 = .ok (.iinc 7 1, 3) := by decide +kernel
theorem dX6_fromBeginning_125 : decode cX6_fromBeginning 125 = .ok (.goto (-83), 3) := by decide +kernel
theorem dX6_fromBeginning_128 : decode cX6_fromBeginning 128 = .ok (.iload 4, 2) := by decide +kernel
theorem dX6_fromBeginning_130 : decode cX6_fromBeginning 130 = .ok (.iload_n 3, 1) := by decide +kernel
theorem dX6_fromBeginning_131 : decode cX6_fromBeginning 131 = .ok (.isub, 1) := by decide +kernel
theorem dX6_fromBeginning_132 : decode cX6_fromBeginning 132 = .ok (.istore 7, 2) := by decide +kernel
theorem dX6_fromBeginning_134 : decode cX6_fromBeginning 134 = .ok (.iload 7, 2) := by decide +kernel
theorem dX6_fromBeginning_136 : decode cX6_fromBeginning 136 = .ok (.ifCond .le 20, 3) := by decide +kernel
theorem dX6_fromBeginning_139 : decode cX6_fromBeginning 139 = .ok (.iload 5, 2) := by decide +kernel
theorem dX6_fromBeginning_141 : decode cX6_fromBeginning 141 = .ok (.iload 6, 2) := by decide +kernel
theorem dX6_fromBeginning_143 : decode cX6_fromBeginning 143 = .ok (.iload_n 1, 1) := by decide +kernel
theorem dX6_fromBeginning_144 : decode cX6_fromBeginning 144 = .ok (.iload_n 3, 1) := by decide +kernel
theorem dX6_fromBeginning_145 : decode cX6_fromBeginning 145 = .ok (.isub, 1) := by decide +kernel
theorem dX6_fromBeginning_146 : decode cX6_fromBeginning 146 = .ok (.imul, 1) := by decide +kernel
theorem dX6_fromBeginning_147 : decode cX6_fromBeginning 147 = .ok (.iload 7, 2) := by decide +kernel
theorem dX6_fromBeginning_149 : decode cX6_fromBeginning 149 = .ok (.invokestatic 119, 3) := by decide +kernel
theorem dX6_fromBeginning_152 : decode cX6_fromBeginning 152 = .ok (.iadd, 1) := by decide +kernel
theorem dX6_fromBeginning_153 : decode cX6_fromBeginning 153 = .ok (.goto 5, 3) := by decide +kernel
theorem dX6_fromBeginning_156 : decode cX6_fromBeginning 156 = .ok (.iload 5, 2) := by decide +kernel
theorem dX6_fromBeginning_158 : decode cX6_fromBeginning 158 = .ok (.ireturn, 1) := by decide +kernel
theorem dX7_init_0 : decode cX7_init 0 = .ok (.aload_n 0, 1) := by decide +kernel
theorem dX7_init_1 : decode cX7_init 1 = .ok (.invokespecial 3, 3) := by decide +kernel
theorem dX7_init_4 : decode cX7_init 4 = .ok (.aload_n 0, 1) := by decide +kernel
theorem dX7_init_5 : decode cX7_init 5 = .ok (.aconst_null, 1) := by decide +kernel
theorem dX7_init_6 : decode cX7_init 6 = .ok (.putfield 9, 3) := by decide +kernel
theorem dX7_init_9 : decode cX7_init 9 = .ok (.aload_n 0, 1) := by decide +kernel
theorem dX7_init_10 : decode cX7_init 10 = .ok (.iconst 1, 1) := by decide +kernel
theorem dX7_init_11 : decode cX7_init 11 = .ok (.putfield 15, 3) := by decide +kernel
theorem dX7_init_14 : decode cX7_init 14 = .ok (.aload_n 0, 1) := by decide +kernel
theorem dX7_init_15 : decode cX7_init 15 = .ok (.aload_n 1, 1) := by decide +kernel
theorem dX7_init_16 : decode cX7_init 16 = .ok (.putfield 19, 3) := by decide +kernel
theorem dX7_init_19 : decode cX7_init 19 = .ok (.return_, 1) := by decide +kernel
theorem dX7_set_0 : decode cX7_set 0 = .ok (.aload_n 0, 1) := by decide +kernel
theorem dX7_set_1 : decode cX7_set 1 = .ok (.aload_n 1, 1) := by decide +kernel
theorem dX7_set_2 : decode cX7_set 2 = .ok (.putfield 9, 3) := by decide +kernel
theorem dX7_set_5 : decode cX7_set 5 = .ok (.aload_n 0, 1) := by decide +kernel
theorem dX7_set_6 : decode cX7_set 6 = .ok (.iload_n 3, 1) := by decide +kernel
theorem dX7_set_7 : decode cX7_set 7 = .ok (.putfield 15, 3) := by decide +kernel
theorem dX7_set_10 : decode cX7_set 10 = .ok (.iconst 0, 1) := by decide +kernel
theorem dX7_set_11 : decode cX7_set 11 = .ok (.istore 4, 2) := by decide +kernel
theorem dX7_set_13 : decode cX7_set 13 = .ok (.iload 4, 2) := by decide +kernel
theorem dX7_set_15 : decode cX7_set 15 = .ok (.aload_n 0, 1) := by decide +kernel
theorem dX7_set_16 : decode cX7_set 16 = .ok (.getfield 19, 3) := by decide +kernel
theorem dX7_set_19 : decode cX7_set 19 = .ok (.getfield 23, 3) := by decide +kernel
theorem dX7_set_22 : decode cX7_set 22 = .ok (.if_icmp .ge 66, 3) := by decide +kernel
theorem dX7_set_25 : decode cX7_set 25 = .ok (.aload_n 0, 1) := by decide +kernel
theorem dX7_set_26 : decode cX7_set 26 = .ok (.getfield 19, 3) := by decide +kernel
theorem dX7_set_29 : decode cX7_set 29 = .ok (.getfield 29, 3) := by decide +kernel
theorem dX7_set_32 : decode cX7_set 32 = .ok (.iload 4, 2) := by decide +kernel
theorem dX7_set_34 : decode cX7_set 34 = .ok (.aaload, 1) := by decide +kernel
theorem dX7_set_35 : decode cX7_set 35 = .ok (.astore 5, 2) := by decide +kernel
theorem dX7_set_37 : decode cX7_set 37 = .ok (.aload 5, 2) := by decide +kernel
theorem dX7_set_39 : decode cX7_set 39 = .ok (.aload 5, 2) := by decide +kernel
theorem dX7_set_41 : decode cX7_set 41 = .ok (.getfield 33, 3) := by decide +kernel
theorem dX7_set_44 : decode cX7_set 44 = .ok (.invokestatic 38, 3) := by decide +kernel
theorem dX7_set_47 : decode cX7_set 47 = .ok (.ifCond .eq 16, 3) := by decide +kernel
theorem dX7_set_50 : decode cX7_set 50 = .ok (.aload_n 1, 1) := by decide +kernel
theorem dX7_set_51 : decode cX7_set 51 = .ok (.getfield 42, 3) := by decide +kernel
theorem dX7_set_54 : decode cX7_set 54 = .ok (.aload 5, 2) := by decide +kernel
theorem dX7_set_56 : decode cX7_set 56 = .ok (.getfield 33, 3) := by decide +kernel
theorem dX7_set_59 : decode cX7_set 59 = .ok (.iaload, 1) := by decide +kernel
theorem dX7_set_60 : decode cX7_set 60 = .ok (.goto 4, 3) := by decide +kernel
theorem dX7_set_63 : decode cX7_set 63 = .ok (.iconst 0, 1) := by decide +kernel
theorem dX7_set_64 : decode cX7_set 64 = .ok (.putfield 48, 3) := by decide +kernel
theorem dX7_set_67 : decode cX7_set 67 = .ok (.aload 5, 2) := by decide +kernel
theorem dX7_set_69 : decode cX7_set 69 = .ok (.iconst 0, 1) := by decide +kernel
theorem dX7_set_70 : decode cX7_set 70 = .ok (.putfield 51, 3) := by decide +kernel
theorem dX7_set_73 : decode cX7_set 73 = .ok (.aload 5, 2) := by decide +kernel
theorem dX7_set_75 : decode cX7_set 75 = .ok (.bipush (-100), 2) := by decide +kernel
theorem dX7_set_77 : decode cX7_set 77 = .ok (.iconst 0, 1) := by decide +kernel
theorem dX7_set_78 : decode cX7_set 78 = .ok (.iconst 0, 1) := by decide +kernel
theorem dX7_set_79 : decode cX7_set 79 = .ok (.invokevirtual 54, 3) := by decide +kernel
theorem dX7_set_82 : decode cX7_set 82 = .ok (.iinc 4 1, 3) := by decide +kernel
theorem dX7_set_85 : decode cX7_set 85 = .ok (.goto (-72), 3) := by decide +kernel
theorem dX7_set_88 : decode cX7_set 88 = .ok (.iconst 0, 1) := by decide +kernel
theorem dX7_set_89 : decode cX7_set 89 = .ok (.istore 4, 2) := by decide +kernel
theorem dX7_set_91 : decode cX7_set 91 = .ok (.iload 4, 2) := by decide +kernel
theorem dX7_set_93 : decode cX7_set 93 = .ok (.aload_n 1, 1) := by decide +kernel
theorem dX7_set_94 : decode cX7_set 94 = .ok (.getfield 58, 3) := by decide +kernel
theorem dX7_set_97 : decode cX7_set 97 = .ok (.if_icmp .ge 98, 3) := by decide +kernel
theorem dX7_set_100 : decode cX7_set 100 = .ok (.aload_n 1, 1) := by decide +kernel
theorem dX7_set_101 : decode cX7_set 101 = .ok (.iload 4, 2) := by decide +kernel
theorem dX7_set_103 : decode cX7_set 103 = .ok (.invokevirtual 61, 3) := by decide +kernel
theorem dX7_set_106 : decode cX7_set 106 = .ok (.astore 5, 2) := by decide +kernel
theorem dX7_set_108 : decode cX7_set 108 = .ok (.aload 5, 2) := by decide +kernel
theorem dX7_set_110 : decode cX7_set 110 = .ok (.ifnull 79, 3) := by decide +kernel
theorem dX7_set_113 : decode cX7_set 113 = .ok (.aload 5, 2) := by decide +kernel
theorem dX7_set_115 : decode cX7_set 115 = .ok (.iload_n 2, 1) := by decide +kernel
theorem dX7_set_116 : decode cX7_set 116 = .ok (.invokevirtual 65, 3) := by decide +kernel
theorem dX7_set_119 : decode cX7_set 119 = .ok (.ifCond .ne 6, 3) := by decide +kernel
theorem dX7_set_122 : decode cX7_set 122 = .ok (.goto 67, 3) := by decide +kernel
theorem dX7_set_125 : decode cX7_set 125 = .ok (.aload 5, 2) := by decide +kernel
theorem dX7_set_127 : decode cX7_set 127 = .ok (.getfield 70, 3) := by decide +kernel
theorem dX7_set_130 : decode cX7_set 130 = .ok (.bipush 6, 2) := by decide +kernel
theorem dX7_set_132 : decode cX7_set 132 = .ok (.if_icmp .ne 12, 3) := by decide +kernel
theorem dX7_set_135 : decode cX7_set 135 = .ok (.aload_n 0, 1) := by decide +kernel
theorem dX7_set_136 : decode cX7_set 136 = .ok (.aload 5, 2) := by decide +kernel
theorem dX7_set_138 : decode cX7_set 138 = .ok (.invokevirtual 73, 3) := by decide +kernel
theorem dX7_set_141 : decode cX7_set 141 = .ok (.goto 48, 3) := by decide +kernel
theorem dX7_set_144 : decode cX7_set 144 = .ok (.aload 5, 2) := by decide +kernel
theorem dX7_set_146 : decode cX7_set 146 = .ok (.getfield 70, 3) := by decide +kernel
theorem dX7_set_149 : decode cX7_set 149 = .ok (.bipush 7, 2) := by decide +kernel
theorem dX7_set_151 : decode cX7_set 151 = .ok (.if_icmp .ne 12, 3) := by decide +kernel
theorem dX7_set_154 : decode cX7_set 154 = .ok (.aload_n 0, 1) := by decide +kernel
theorem dX7_set_155 : decode cX7_set 155 = .ok (.aload 5, 2) := by decide +kernel
theorem dX7_set_157 : decode cX7_set 157 = .ok (.invokevirtual 77, 3) := by decide +kernel
theorem dX7_set_160 : decode cX7_set 160 = .ok (.goto 29, 3) := by decide +kernel
theorem dX7_set_163 : decode cX7_set 163 = .ok (.aload 5, 2) := by decide +kernel
theorem dX7_set_165 : decode cX7_set 165 = .ok (.getfield 70, 3) := by decide +kernel
theorem dX7_set_168 : decode cX7_set 168 = .ok (.bipush 8, 2) := by decide +kernel
theorem dX7_set_170 : decode cX7_set 170 = .ok (.if_icmp .eq 13, 3) := by decide +kernel
theorem dX7_set_173 : decode cX7_set 173 = .ok (.aload 5, 2) := by decide +kernel
theorem dX7_set_175 : decode cX7_set 175 = .ok (.getfield 70, 3) := by decide +kernel
theorem dX7_set_178 : decode cX7_set 178 = .ok (.bipush 9, 2) := by decide +kernel
theorem dX7_set_180 : decode cX7_set 180 = .ok (.if_icmp .ne 9, 3) := by decide +kernel
theorem dX7_set_183 : decode cX7_set 183 = .ok (.aload_n 0, 1) := by decide +kernel
theorem dX7_set_184 : decode cX7_set 184 = .ok (.aload 5, 2) := by decide +kernel
theorem dX7_set_186 : decode cX7_set 186 = .ok (.invokevirtual 80, 3) := by decide +kernel
theorem dX7_set_189 : decode cX7_set 189 = .ok (.iinc 4 1, 3) := by decide +kernel
theorem dX7_set_192 : decode cX7_set 192 = .ok (.goto (-101), 3) := by decide +kernel
theorem dX7_set_195 : decode cX7_set 195 = .ok (.return_, 1) := by decide +kernel
theorem dX7_addToPairs_0 : decode cX7_addToPairs 0 = .ok (.iconst 0, 1) := by decide +kernel
theorem dX7_addToPairs_1 : decode cX7_addToPairs 1 = .ok (.istore_n 2, 1) := by decide +kernel
theorem dX7_addToPairs_2 : decode cX7_addToPairs 2 = .ok (.iconst 0, 1) := by decide +kernel
theorem dX7_addToPairs_3 : decode cX7_addToPairs 3 = .ok (.istore_n 3, 1) := by decide +kernel
theorem dX7_addToPairs_4 : decode cX7_addToPairs 4 = .ok (.iload_n 2, 1) := by decide +kernel
theorem dX7_addToPairs_5 : decode cX7_addToPairs 5 = .ok (.aload_n 0, 1) := by decide +kernel
theorem dX7_addToPairs_6 : decode cX7_addToPairs 6 = .ok (.getfield 19, 3) := by decide +kernel
theorem dX7_addToPairs_9 : decode cX7_addToPairs 9 = .ok (.getfield 23, 3) := by decide +kernel
theorem dX7_addToPairs_12 : decode cX7_addToPairs 12 = .ok (.if_icmp .ge 119, 3) := by decide +kernel
theorem dX7_addToPairs_15 : decode cX7_addToPairs 15 = .ok (.iload_n 3, 1) := by decide +kernel
theorem dX7_addToPairs_16 : decode cX7_addToPairs 16 = .ok (.bipush 64, 2) := by decide +kernel
theorem dX7_addToPairs_18 : decode cX7_addToPairs 18 = .ok (.if_icmp .ge 113, 3) := by decide +kernel
theorem dX7_addToPairs_21 : decode cX7_addToPairs 21 = .ok (.aload_n 0, 1) := by decide +kernel
theorem dX7_addToPairs_22 : decode cX7_addToPairs 22 = .ok (.getfield 9, 3) := by decide +kernel
theorem dX7_addToPairs_25 : decode cX7_addToPairs 25 = .ok (.aload_n 1, 1) := by decide +kernel
theorem dX7_addToPairs_26 : decode cX7_addToPairs 26 = .ok (.aload_n 0, 1) := by decide +kernel
theorem dX7_addToPairs_27 : decode cX7_addToPairs 27 = .ok (.getfield 19, 3) := by decide +kernel
theorem dX7_addToPairs_30 : decode cX7_addToPairs 30 = .ok (.getfield 29, 3) := by decide +kernel
theorem dX7_addToPairs_33 : decode cX7_addToPairs 33 = .ok (.iload_n 2, 1) := by decide +kernel
theorem dX7_addToPairs_34 : decode cX7_addToPairs 34 = .ok (.aaload, 1) := by decide +kernel
theorem dX7_addToPairs_35 : decode cX7_addToPairs 35 = .ok (.invokevirtual 83, 3) := by decide +kernel
theorem dX7_addToPairs_38 : decode cX7_addToPairs 38 = .ok (.ifCond .eq 19, 3) := by decide +kernel
theorem dX7_addToPairs_41 : decode cX7_addToPairs 41 = .ok (.aload_n 0, 1) := by decide +kernel
theorem dX7_addToPairs_42 : decode cX7_addToPairs 42 = .ok (.getfield 19, 3) := by decide +kernel
theorem dX7_addToPairs_45 : decode cX7_addToPairs 45 = .ok (.aload_n 0, 1) := by decide +kernel
theorem dX7_addToPairs_46 : decode cX7_addToPairs 46 = .ok (.getfield 9, 3) := by decide +kernel
theorem dX7_addToPairs_49 : decode cX7_addToPairs 49 = .ok (.aload_n 1, 1) := by decide +kernel
theorem dX7_addToPairs_50 : decode cX7_addToPairs 50 = .ok (.iload_n 2, 1) := by decide +kernel
theorem dX7_addToPairs_51 : decode cX7_addToPairs 51 = .ok (.invokevirtual 87, 3) := by decide +kernel
theorem dX7_addToPairs_54 : decode cX7_addToPairs 54 = .ok (.goto 5, 3) := by decide +kernel
theorem dX7_addToPairs_57 : decode cX7_addToPairs 57 = .ok (.bipush (-100), 2) := by decide +kernel
theorem dX7_addToPairs_59 : decode cX7_addToPairs 59 = .ok (.istore 4, 2) := by decide +kernel
theorem dX7_addToPairs_61 : decode cX7_addToPairs 61 = .ok (.iload 4, 2) := by decide +kernel
theorem dX7_addToPairs_63 : decode cX7_addToPairs 63 = .ok (.bipush (-100), 2) := by decide +kernel
theorem dX7_addToPairs_65 : decode cX7_addToPairs 65 = .ok (.if_icmp .ne 8, 3) := by decide +kernel
theorem dX7_addToPairs_68 : decode cX7_addToPairs 68 = .ok (.bipush (-100), 2) := by decide +kernel
theorem dX7_addToPairs_70 : decode cX7_addToPairs 70 = .ok (.goto 11, 3) := by decide +kernel
theorem dX7_addToPairs_73 : decode cX7_addToPairs 73 = .ok (.aload_n 0, 1) := by decide +kernel
theorem dX7_addToPairs_74 : decode cX7_addToPairs 74 = .ok (.aload_n 1, 1) := by decide +kernel
theorem dX7_addToPairs_75 : decode cX7_addToPairs 75 = .ok (.iload_n 2, 1) := by decide +kernel
theorem dX7_addToPairs_76 : decode cX7_addToPairs 76 = .ok (.iload 4, 2) := by decide +kernel
theorem dX7_addToPairs_78 : decode cX7_addToPairs 78 = .ok (.invokevirtual 91, 3) := by decide +kernel
theorem dX7_addToPairs_81 : decode cX7_addToPairs 81 = .ok (.istore 5, 2) := by decide +kernel
theorem dX7_addToPairs_83 : decode cX7_addToPairs 83 = .ok (.iload 5, 2) := by decide +kernel
theorem dX7_addToPairs_85 : decode cX7_addToPairs 85 = .ok (.bipush (-100), 2) := by decide +kernel
theorem dX7_addToPairs_87 : decode cX7_addToPairs 87 = .ok (.if_icmp .ne 9, 3) := by decide +kernel
theorem dX7_addToPairs_90 : decode cX7_addToPairs 90 = .ok (.iinc 2 1, 3) := by decide +kernel
theorem dX7_addToPairs_93 : decode cX7_addToPairs 93 = .ok (.goto 32, 3) := by decide +kernel
theorem dX7_addToPairs_96 : decode cX7_addToPairs 96 = .ok (.aload_n 0, 1) := by decide +kernel
theorem dX7_addToPairs_97 : decode cX7_addToPairs 97 = .ok (.getfield 19, 3) := by decide +kernel
theorem dX7_addToPairs_100 : decode cX7_addToPairs 100 = .ok (.getfield 29, 3) := by decide +kernel
theorem dX7_addToPairs_103 : decode cX7_addToPairs 103 = .ok (.iload_n 2, 1) := by decide +kernel
theorem dX7_addToPairs_104 : decode cX7_addToPairs 104 = .ok (.aaload, 1) := by decide +kernel
theorem dX7_addToPairs_105 : decode cX7_addToPairs 105 = .ok (.dup, 1) := by decide +kernel
theorem dX7_addToPairs_106 : decode cX7_addToPairs 106 = .ok (.getfield 48, 3) := by decide +kernel
theorem dX7_addToPairs_109 : decode cX7_addToPairs 109 = .ok (.aload_n 1, 1) := by decide +kernel
theorem dX7_addToPairs_110 : decode cX7_addToPairs 110 = .ok (.getfield 95, 3) := by decide +kernel
theorem dX7_addToPairs_113 : decode cX7_addToPairs 113 = .ok (.iload 5, 2) := by decide +kernel
theorem dX7_addToPairs_115 : decode cX7_addToPairs 115 = .ok (.aaload, 1) := by decide +kernel
theorem dX7_addToPairs_116 : decode cX7_addToPairs 116 = .ok (.iconst 2, 1) := by decide +kernel
theorem dX7_addToPairs_117 : decode cX7_addToPairs 117 = .ok (.iaload, 1) := by decide +kernel
theorem dX7_addToPairs_118 : decode cX7_addToPairs 118 = .ok (.iadd, 1) := by decide +kernel
theorem dX7_addToPairs_119 : decode cX7_addToPairs 119 = .ok (.putfield 48, 3) := by decide +kernel
theorem dX7_addToPairs_122 : decode cX7_addToPairs 122 = .ok (.iload 4, 2) := by decide +kernel
theorem dX7_addToPairs_124 : decode cX7_addToPairs 124 = .ok (.istore_n 2, 1) := by decide +kernel
theorem dX7_addToPairs_125 : decode cX7_addToPairs 125 = .ok (.iinc 3 1, 3) := by decide +kernel
theorem dX7_addToPairs_128 : decode cX7_addToPairs 128 = .ok (.goto (-124), 3) := by decide +kernel
