theorem dX9_formOf_41 : decode cX9_formOf 41 = .ok (.iconst 0, 1) := by decide +kernel
theorem dX9_formOf_42 : decode cX9_formOf 42 = .ok (.istore 4, 2) := by decide +kernel
theorem dX9_formOf_44 : decode cX9_formOf 44 = .ok (.iload_n 3, 1) := by decide +kernel
theorem dX9_formOf_45 : decode cX9_formOf 45 = .ok (.invokestatic 71, 3) := by decide +kernel
theorem dX9_formOf_48 : decode cX9_formOf 48 = .ok (.ifCond .eq 16, 3) := by decide +kernel
theorem dX9_formOf_51 : decode cX9_formOf 51 = .ok (.aload_n 0, 1) := by decide +kernel
theorem dX9_formOf_52 : decode cX9_formOf 52 = .ok (.aload_n 1, 1) := by decide +kernel
theorem dX9_formOf_53 : decode cX9_formOf 53 = .ok (.iload_n 2, 1) := by decide +kernel
theorem dX9_formOf_54 : decode cX9_formOf 54 = .ok (.invokevirtual 75, 3) := by decide +kernel
theorem dX9_formOf_57 : decode cX9_formOf 57 = .ok (.ifCond .eq 7, 3) := by decide +kernel
theorem dX9_formOf_60 : decode cX9_formOf 60 = .ok (.iconst 1, 1) := by decide +kernel
theorem dX9_formOf_61 : decode cX9_formOf 61 = .ok (.goto 4, 3) := by decide +kernel
theorem dX9_formOf_64 : decode cX9_formOf 64 = .ok (.iconst 0, 1) := by decide +kernel
theorem dX9_formOf_65 : decode cX9_formOf 65 = .ok (.istore 5, 2) := by decide +kernel
theorem dX9_formOf_67 : decode cX9_formOf 67 = .ok (.iload 4, 2) := by decide +kernel
theorem dX9_formOf_69 : decode cX9_formOf 69 = .ok (.ifCond .eq 14, 3) := by decide +kernel
theorem dX9_formOf_72 : decode cX9_formOf 72 = .ok (.iload 5, 2) := by decide +kernel
theorem dX9_formOf_74 : decode cX9_formOf 74 = .ok (.ifCond .eq 7, 3) := by decide +kernel
theorem dX9_formOf_77 : decode cX9_formOf 77 = .ok (.iconst 2, 1) := by decide +kernel
theorem dX9_formOf_78 : decode cX9_formOf 78 = .ok (.goto 4, 3) := by decide +kernel
theorem dX9_formOf_81 : decode cX9_formOf 81 = .ok (.iconst 3, 1) := by decide +kernel
theorem dX9_formOf_82 : decode cX9_formOf 82 = .ok (.ireturn, 1) := by decide +kernel
theorem dX9_formOf_83 : decode cX9_formOf 83 = .ok (.iload 5, 2) := by decide +kernel
theorem dX9_formOf_85 : decode cX9_formOf 85 = .ok (.ifCond .eq 7, 3) := by decide +kernel
theorem dX9_formOf_88 : decode cX9_formOf 88 = .ok (.iconst 1, 1) := by decide +kernel
theorem dX9_formOf_89 : decode cX9_formOf 89 = .ok (.goto 4, 3) := by decide +kernel
theorem dX9_formOf_92 : decode cX9_formOf 92 = .ok (.iconst 0, 1) := by decide +kernel
theorem dX9_formOf_93 : decode cX9_formOf 93 = .ok (.ireturn, 1) := by decide +kernel
theorem dX9_canReachBack_0 : decode cX9_canReachBack 0 = .ok (.iload_n 2, 1) := by decide +kernel
theorem dX9_canReachBack_1 : decode cX9_canReachBack 1 = .ok (.iconst 1, 1) := by decide +kernel
theorem dX9_canReachBack_2 : decode cX9_canReachBack 2 = .ok (.isub, 1) := by decide +kernel
theorem dX9_canReachBack_3 : decode cX9_canReachBack 3 = .ok (.istore_n 3, 1) := by decide +kernel
theorem dX9_canReachBack_4 : decode cX9_canReachBack 4 = .ok (.iload_n 3, 1) := by decide +kernel
theorem dX9_canReachBack_5 : decode cX9_canReachBack 5 = .ok (.aload_n 0, 1) := by decide +kernel
theorem dX9_canReachBack_6 : decode cX9_canReachBack 6 = .ok (.getfield 25, 3) := by decide +kernel
theorem dX9_canReachBack_9 : decode cX9_canReachBack 9 = .ok (.aload_n 0, 1) := by decide +kernel
theorem dX9_canReachBack_10 : decode cX9_canReachBack 10 = .ok (.getfield 9, 3) := by decide +kernel
theorem dX9_canReachBack_13 : decode cX9_canReachBack 13 = .ok (.iload_n 2, 1) := by decide +kernel
theorem dX9_canReachBack_14 : decode cX9_canReachBack 14 = .ok (.iaload, 1) := by decide +kernel
theorem dX9_canReachBack_15 : decode cX9_canReachBack 15 = .ok (.iaload, 1) := by decide +kernel
theorem dX9_canReachBack_16 : decode cX9_canReachBack 16 = .ok (.if_icmp .lt 45, 3) := by decide +kernel
theorem dX9_canReachBack_19 : decode cX9_canReachBack 19 = .ok (.aload_n 1, 1) := by decide +kernel
theorem dX9_canReachBack_20 : decode cX9_canReachBack 20 = .ok (.getfield 51, 3) := by decide +kernel
theorem dX9_canReachBack_23 : decode cX9_canReachBack 23 = .ok (.iload_n 3, 1) := by decide +kernel
theorem dX9_canReachBack_24 : decode cX9_canReachBack 24 = .ok (.iaload, 1) := by decide +kernel
theorem dX9_canReachBack_25 : decode cX9_canReachBack 25 = .ok (.istore 4, 2) := by decide +kernel
theorem dX9_canReachBack_27 : decode cX9_canReachBack 27 = .ok (.iload 4, 2) := by decide +kernel
theorem dX9_canReachBack_29 : decode cX9_canReachBack 29 = .ok (.invokestatic 78, 3) := by decide +kernel
theorem dX9_canReachBack_32 : decode cX9_canReachBack 32 = .ok (.ifCond .ne 23, 3) := by decide +kernel
theorem dX9_canReachBack_35 : decode cX9_canReachBack 35 = .ok (.iload 4, 2) := by decide +kernel
theorem dX9_canReachBack_37 : decode cX9_canReachBack 37 = .ok (.invokestatic 71, 3) := by decide +kernel
theorem dX9_canReachBack_40 : decode cX9_canReachBack 40 = .ok (.ifCond .ne 9, 3) := by decide +kernel
theorem dX9_canReachBack_43 : decode cX9_canReachBack 43 = .ok (.iload 4, 2) := by decide +kernel
theorem dX9_canReachBack_45 : decode cX9_canReachBack 45 = .ok (.iconst 2, 1) := by decide +kernel
theorem dX9_canReachBack_46 : decode cX9_canReachBack 46 = .ok (.if_icmp .ne 7, 3) := by decide +kernel
theorem dX9_canReachBack_49 : decode cX9_canReachBack 49 = .ok (.iconst 1, 1) := by decide +kernel
theorem dX9_canReachBack_50 : decode cX9_canReachBack 50 = .ok (.goto 4, 3) := by decide +kernel
theorem dX9_canReachBack_53 : decode cX9_canReachBack 53 = .ok (.iconst 0, 1) := by decide +kernel
theorem dX9_canReachBack_54 : decode cX9_canReachBack 54 = .ok (.ireturn, 1) := by decide +kernel
theorem dX9_canReachBack_55 : decode cX9_canReachBack 55 = .ok (.iinc 3 (-1), 3) := by decide +kernel
theorem dX9_canReachBack_58 : decode cX9_canReachBack 58 = .ok (.goto (-54), 3) := by decide +kernel
theorem dX9_canReachBack_61 : decode cX9_canReachBack 61 = .ok (.iconst 0, 1) := by decide +kernel
theorem dX9_canReachBack_62 : decode cX9_canReachBack 62 = .ok (.ireturn, 1) := by decide +kernel
theorem dX9_canReachOn_0 : decode cX9_canReachOn 0 = .ok (.aload_n 0, 1) := by decide +kernel
theorem dX9_canReachOn_1 : decode cX9_canReachOn 1 = .ok (.aload_n 1, 1) := by decide +kernel
theorem dX9_canReachOn_2 : decode cX9_canReachOn 2 = .ok (.iload_n 2, 1) := by decide +kernel
theorem dX9_canReachOn_3 : decode cX9_canReachOn 3 = .ok (.invokevirtual 81, 3) := by decide +kernel
theorem dX9_canReachOn_6 : decode cX9_canReachOn 6 = .ok (.istore_n 3, 1) := by decide +kernel
theorem dX9_canReachOn_7 : decode cX9_canReachOn 7 = .ok (.iload_n 3, 1) := by decide +kernel
theorem dX9_canReachOn_8 : decode cX9_canReachOn 8 = .ok (.bipush (-100), 2) := by decide +kernel
theorem dX9_canReachOn_10 : decode cX9_canReachOn 10 = .ok (.if_icmp .ne 5, 3) := by decide +kernel
theorem dX9_canReachOn_13 : decode cX9_canReachOn 13 = .ok (.iconst 0, 1) := by decide +kernel
theorem dX9_canReachOn_14 : decode cX9_canReachOn 14 = .ok (.ireturn, 1) := by decide +kernel
theorem dX9_canReachOn_15 : decode cX9_canReachOn 15 = .ok (.aload_n 1, 1) := by decide +kernel
theorem dX9_canReachOn_16 : decode cX9_canReachOn 16 = .ok (.getfield 51, 3) := by decide +kernel
theorem dX9_canReachOn_19 : decode cX9_canReachOn 19 = .ok (.iload_n 3, 1) := by decide +kernel
theorem dX9_canReachOn_20 : decode cX9_canReachOn 20 = .ok (.iaload, 1) := by decide +kernel
theorem dX9_canReachOn_21 : decode cX9_canReachOn 21 = .ok (.istore 4, 2) := by decide +kernel
theorem dX9_canReachOn_23 : decode cX9_canReachOn 23 = .ok (.iload 4, 2) := by decide +kernel
theorem dX9_canReachOn_25 : decode cX9_canReachOn 25 = .ok (.bipush 10, 2) := by decide +kernel
theorem dX9_canReachOn_27 : decode cX9_canReachOn 27 = .ok (.if_icmp .lt 10, 3) := by decide +kernel
theorem dX9_canReachOn_30 : decode cX9_canReachOn 30 = .ok (.iload 4, 2) := by decide +kernel
theorem dX9_canReachOn_32 : decode cX9_canReachOn 32 = .ok (.bipush 18, 2) := by decide +kernel
theorem dX9_canReachOn_34 : decode cX9_canReachOn 34 = .ok (.if_icmp .le 16, 3) := by decide +kernel
theorem dX9_canReachOn_37 : decode cX9_canReachOn 37 = .ok (.iload 4, 2) := by decide +kernel
theorem dX9_canReachOn_39 : decode cX9_canReachOn 39 = .ok (.bipush 20, 2) := by decide +kernel
theorem dX9_canReachOn_41 : decode cX9_canReachOn 41 = .ok (.if_icmp .eq 9, 3) := by decide +kernel
theorem dX9_canReachOn_44 : decode cX9_canReachOn 44 = .ok (.iload 4, 2) := by decide +kernel
theorem dX9_canReachOn_46 : decode cX9_canReachOn 46 = .ok (.iconst 2, 1) := by decide +kernel
theorem dX9_canReachOn_47 : decode cX9_canReachOn 47 = .ok (.if_icmp .ne 7, 3) := by decide +kernel
theorem dX9_canReachOn_50 : decode cX9_canReachOn 50 = .ok (.iconst 1, 1) := by decide +kernel
theorem dX9_canReachOn_51 : decode cX9_canReachOn 51 = .ok (.goto 4, 3) := by decide +kernel
theorem dX9_canReachOn_54 : decode cX9_canReachOn 54 = .ok (.iconst 0, 1) := by decide +kernel
theorem dX9_canReachOn_55 : decode cX9_canReachOn 55 = .ok (.ireturn, 1) := by decide +kernel
theorem dX9_nextLetter_0 : decode cX9_nextLetter 0 = .ok (.iload_n 2, 1) := by decide +kernel
theorem dX9_nextLetter_1 : decode cX9_nextLetter 1 = .ok (.iconst 1, 1) := by decide +kernel
theorem dX9_nextLetter_2 : decode cX9_nextLetter 2 = .ok (.iadd, 1) := by decide +kernel
theorem dX9_nextLetter_3 : decode cX9_nextLetter 3 = .ok (.istore_n 3, 1) := by decide +kernel
theorem dX9_nextLetter_4 : decode cX9_nextLetter 4 = .ok (.iload_n 3, 1) := by decide +kernel
theorem dX9_nextLetter_5 : decode cX9_nextLetter 5 = .ok (.aload_n 0, 1) := by decide +kernel
theorem dX9_nextLetter_6 : decode cX9_nextLetter 6 = .ok (.getfield 28, 3) := by decide +kernel
theorem dX9_nextLetter_9 : decode cX9_nextLetter 9 = .ok (.aload_n 0, 1) := by decide +kernel
theorem dX9_nextLetter_10 : decode cX9_nextLetter 10 = .ok (.getfield 9, 3) := by decide +kernel
theorem dX9_nextLetter_13 : decode cX9_nextLetter 13 = .ok (.iload_n 2, 1) := by decide +kernel
theorem dX9_nextLetter_14 : decode cX9_nextLetter 14 = .ok (.iaload, 1) := by decide +kernel
theorem dX9_nextLetter_15 : decode cX9_nextLetter 15 = .ok (.iaload, 1) := by decide +kernel
theorem dX9_nextLetter_16 : decode cX9_nextLetter 16 = .ok (.if_icmp .ge 23, 3) := by decide +kernel
theorem dX9_nextLetter_19 : decode cX9_nextLetter 19 = .ok (.aload_n 1, 1) := by decide +kernel
theorem dX9_nextLetter_20 : decode cX9_nextLetter 20 = .ok (.getfield 51, 3) := by decide +kernel
theorem dX9_nextLetter_23 : decode cX9_nextLetter 23 = .ok (.iload_n 3, 1) := by decide +kernel
theorem dX9_nextLetter_24 : decode cX9_nextLetter 24 = .ok (.iaload, 1) := by decide +kernel
theorem dX9_nextLetter_25 : decode cX9_nextLetter 25 = .ok (.invokestatic 78, 3) := by decide +kernel
theorem dX9_nextLetter_28 : decode cX9_nextLetter 28 = .ok (.ifCond .ne 5, 3) := by decide +kernel
theorem dX9_nextLetter_31 : decode cX9_nextLetter 31 = .ok (.iload_n 3, 1) := by decide +kernel
theorem dX9_nextLetter_32 : decode cX9_nextLetter 32 = .ok (.ireturn, 1) := by decide +kernel
theorem dX9_nextLetter_33 : decode cX9_nextLetter 33 = .ok (.iinc 3 1, 3) := by decide +kernel
theorem dX9_nextLetter_36 : decode cX9_nextLetter 36 = .ok (.goto (-32), 3) := by decide +kernel
theorem dX9_nextLetter_39 : decode cX9_nextLetter 39 = .ok (.bipush (-100), 2) := by decide +kernel
theorem dX9_nextLetter_41 : decode cX9_nextLetter 41 = .ok (.ireturn, 1) := by decide +kernel
theorem dX9_codeOf_0 : decode cX9_codeOf 0 = .ok (.aload_n 0, 1) := by decide +kernel
theorem dX9_codeOf_1 : decode cX9_codeOf 1 = .ok (.getfield 9, 3) := by decide +kernel
theorem dX9_codeOf_4 : decode cX9_codeOf 4 = .ok (.iload_n 1, 1) := by decide +kernel
theorem dX9_codeOf_5 : decode cX9_codeOf 5 = .ok (.iaload, 1) := by decide +kernel
theorem dX9_codeOf_6 : decode cX9_codeOf 6 = .ok (.istore_n 2, 1) := by decide +kernel
theorem dX9_codeOf_7 : decode cX9_codeOf 7 = .ok (.bipush 100, 2) := by decide +kernel
theorem dX9_codeOf_9 : decode cX9_codeOf 9 = .ok (.iload_n 2, 1) := by decide +kernel
theorem dX9_codeOf_10 : decode cX9_codeOf 10 = .ok (.imul, 1) := by decide +kernel
theorem dX9_codeOf_11 : decode cX9_codeOf 11 = .ok (.aload_n 0, 1) := by decide +kernel
theorem dX9_codeOf_12 : decode cX9_codeOf 12 = .ok (.getfield 18, 3) := by decide +kernel
theorem dX9_codeOf_15 : decode cX9_codeOf 15 = .ok (.iload_n 2, 1) := by decide +kernel
theorem dX9_codeOf_16 : decode cX9_codeOf 16 = .ok (.baload, 1) := by decide +kernel
theorem dX9_codeOf_17 : decode cX9_codeOf 17 = .ok (.ifCond .eq 8, 3) := by decide +kernel
theorem dX9_codeOf_20 : decode cX9_codeOf 20 = .ok (.bipush 10, 2) := by decide +kernel
theorem dX9_codeOf_22 : decode cX9_codeOf 22 = .ok (.goto 4, 3) := by decide +kernel
theorem dX9_codeOf_25 : decode cX9_codeOf 25 = .ok (.iconst 0, 1) := by decide +kernel
theorem dX9_codeOf_26 : decode cX9_codeOf 26 = .ok (.iadd, 1) := by decide +kernel
theorem dX9_codeOf_27 : decode cX9_codeOf 27 = .ok (.aload_n 0, 1) := by decide +kernel
theorem dX9_codeOf_28 : decode cX9_codeOf 28 = .ok (.getfield 22, 3) := by decide +kernel
theorem dX9_codeOf_31 : decode cX9_codeOf 31 = .ok (.iload_n 2, 1) := by decide +kernel
theorem dX9_codeOf_32 : decode cX9_codeOf 32 = .ok (.iaload, 1) := by decide +kernel
theorem dX9_codeOf_33 : decode cX9_codeOf 33 = .ok (.iadd, 1) := by decide +kernel
theorem dX9_codeOf_34 : decode cX9_codeOf 34 = .ok (.ireturn, 1) := by decide +kernel
theorem dX10_init_0 : decode cX10_init 0 = .ok (.aload_n 0, 1) := by decide +kernel
theorem dX10_init_1 : decode cX10_init 1 = .ok (.invokespecial 3, 3) := by decide +kernel
theorem dX10_init_4 : decode cX10_init 4 = .ok (.aload_n 0, 1) := by decide +kernel
theorem dX10_init_5 : decode cX10_init 5 = .ok (.bipush 16, 2) := by decide +kernel
theorem dX10_init_7 : decode cX10_init 7 = .ok (.newarray .int, 2) := by decide +kernel
theorem dX10_init_9 : decode cX10_init 9 = .ok (.putfield 9, 3) := by decide +kernel
theorem dX10_init_12 : decode cX10_init 12 = .ok (.aload_n 0, 1) := by decide +kernel
theorem dX10_init_13 : decode cX10_init 13 = .ok (.bipush 16, 2) := by decide +kernel
theorem dX10_init_15 : decode cX10_init 15 = .ok (.newarray .int, 2) := by decide +kernel
theorem dX10_init_17 : decode cX10_init 17 = .ok (.putfield 15, 3) := by decide +kernel
theorem dX10_init_20 : decode cX10_init 20 = .ok (.aload_n 0, 1) := by decide +kernel
theorem dX10_init_21 : decode cX10_init 21 = .ok (.bipush 45, 2) := by decide +kernel
theorem dX10_init_23 : decode cX10_init 23 = .ok (.newarray .boolean, 2) := by decide +kernel
theorem dX10_init_25 : decode cX10_init 25 = .ok (.putfield 18, 3) := by decide +kernel
theorem dX10_init_28 : decode cX10_init 28 = .ok (.aload_n 0, 1) := by decide +kernel
theorem dX10_init_29 : decode cX10_init 29 = .ok (.iconst 0, 1) := by decide +kernel
theorem dX10_init_30 : decode cX10_init 30 = .ok (.putfield 22, 3) := by decide +kernel
theorem dX10_init_33 : decode cX10_init 33 = .ok (.aload_n 0, 1) := by decide +kernel
theorem dX10_init_34 : decode cX10_init 34 = .ok (.iconst 1, 1) := by decide +kernel
theorem dX10_init_35 : decode cX10_init 35 = .ok (.putfield 26, 3) := by decide +kernel
theorem dX10_init_38 : decode cX10_init 38 = .ok (.return_, 1) := by decide +kernel
theorem dX10_putIn_0 : decode cX10_putIn 0 = .ok (.iload_n 1, 1) := by decide +kernel
theorem dX10_putIn_1 : decode cX10_putIn 1 = .ok (.ifCond .lt 20, 3) := by decide +kernel
theorem dX10_putIn_4 : decode cX10_putIn 4 = .ok (.iload_n 1, 1) := by decide +kernel
theorem dX10_putIn_5 : decode cX10_putIn 5 = .ok (.aload_n 0, 1) := by decide +kernel
theorem dX10_putIn_6 : decode cX10_putIn 6 = .ok (.getfield 22, 3) := by decide +kernel
theorem dX10_putIn_9 : decode cX10_putIn 9 = .ok (.if_icmp .gt 12, 3) := by decide +kernel
theorem dX10_putIn_12 : decode cX10_putIn 12 = .ok (.aload_n 0, 1) := by decide +kernel
theorem dX10_putIn_13 : decode cX10_putIn 13 = .ok (.getfield 22, 3) := by decide +kernel
theorem dX10_putIn_16 : decode cX10_putIn 16 = .ok (.bipush 16, 2) := by decide +kernel
theorem dX10_putIn_18 : decode cX10_putIn 18 = .ok (.if_icmp .lt 4, 3) := by decide +kernel
theorem dX10_putIn_21 : decode cX10_putIn 21 = .ok (.return_, 1) := by decide +kernel
theorem dX10_putIn_22 : decode cX10_putIn 22 = .ok (.aload_n 0, 1) := by decide +kernel
theorem dX10_putIn_23 : decode cX10_putIn 23 = .ok (.getfield 22, 3) := by decide +kernel
theorem dX10_putIn_26 : decode cX10_putIn 26 = .ok (.istore_n 3, 1) := by decide +kernel
theorem dX10_putIn_27 : decode cX10_putIn 27 = .ok (.iload_n 3, 1) := by decide +kernel
theorem dX10_putIn_28 : decode cX10_putIn 28 = .ok (.iload_n 1, 1) := by decide +kernel
theorem dX10_putIn_29 : decode cX10_putIn 29 = .ok (.if_icmp .le 37, 3) := by decide +kernel
theorem dX10_putIn_32 : decode cX10_putIn 32 = .ok (.aload_n 0, 1) := by decide +kernel
theorem dX10_putIn_33 : decode cX10_putIn 33 = .ok (.getfield 9, 3) := by decide +kernel
theorem dX10_putIn_36 : decode cX10_putIn 36 = .ok (.iload_n 3, 1) := by decide +kernel
theorem dX10_putIn_37 : decode cX10_putIn 37 = .ok (.aload_n 0, 1) := by decide +kernel
theorem dX10_putIn_38 : decode cX10_putIn 38 = .ok (.getfield 9, 3) := by decide +kernel
theorem dX10_putIn_41 : decode cX10_putIn 41 = .ok (.iload_n 3, 1) := by decide +kernel
theorem dX10_putIn_42 : decode cX10_putIn 42 = .ok (.iconst 1, 1) := by decide +kernel
theorem dX10_putIn_43 : decode cX10_putIn 43 = .ok (.isub, 1) := by decide +kernel
theorem dX10_putIn_44 : decode cX10_putIn 44 = .ok (.iaload, 1) := by decide +kernel
theorem dX10_putIn_45 : decode cX10_putIn 45 = .ok (.iastore, 1) := by decide +kernel
theorem dX10_putIn_46 : decode cX10_putIn 46 = .ok (.aload_n 0, 1) := by decide +kernel
theorem dX10_putIn_47 : decode cX10_putIn 47 = .ok (.getfield 15, 3) := by decide +kernel
theorem dX10_putIn_50 : decode cX10_putIn 50 = .ok (.iload_n 3, 1) := by decide +kernel
theorem dX10_putIn_51 : decode cX10_putIn 51 = .ok (.aload_n 0, 1) := by decide +kernel
theorem dX10_putIn_52 : decode cX10_putIn 52 = .ok (.getfield 15, 3) := by decide +kernel
theorem dX10_putIn_55 : decode cX10_putIn 55 = .ok (.iload_n 3, 1) := by decide +kernel
theorem dX10_putIn_56 : decode cX10_putIn 56 = .ok (.iconst 1, 1) := by decide +kernel
theorem dX10_putIn_57 : decode cX10_putIn 57 = .ok (.isub, 1) := by decide +kernel
theorem dX10_putIn_58 : decode cX10_putIn 58 = .ok (.iaload, 1) := by decide +kernel
theorem dX10_putIn_59 : decode cX10_putIn 59 = .ok (.iastore, 1) := by decide +kernel
theorem dX10_putIn_60 : decode cX10_putIn 60 = .ok (.iinc 3 (-1), 3) := by decide +kernel
theorem dX10_putIn_63 : decode cX10_putIn 63 = .ok (.goto (-36), 3) := by decide +kernel
theorem dX10_putIn_66 : decode cX10_putIn 66 = .ok (.aload_n 0, 1) := by decide +kernel
theorem dX10_putIn_67 : decode cX10_putIn 67 = .ok (.getfield 9, 3) := by decide +kernel
theorem dX10_putIn_70 : decode cX10_putIn 70 = .ok (.iload_n 1, 1) := by decide +kernel
theorem dX10_putIn_71 : decode cX10_putIn 71 = .ok (.iload_n 2, 1) := by decide +kernel
theorem dX10_putIn_72 : decode cX10_putIn 72 = .ok (.iastore, 1) := by decide +kernel
theorem dX10_putIn_73 : decode cX10_putIn 73 = .ok (.aload_n 0, 1) := by decide +kernel
theorem dX10_putIn_74 : decode cX10_putIn 74 = .ok (.getfield 15, 3) := by decide +kernel
theorem dX10_putIn_77 : decode cX10_putIn 77 = .ok (.iload_n 1, 1) := by decide +kernel
theorem dX10_putIn_78 : decode cX10_putIn 78 = .ok (.iconst 0, 1) := by decide +kernel
theorem dX10_putIn_79 : decode cX10_putIn 79 = .ok (.iastore, 1) := by decide +kernel
theorem dX10_putIn_80 : decode cX10_putIn 80 = .ok (.aload_n 0, 1) := by decide +kernel
theorem dX10_putIn_81 : decode cX10_putIn 81 = .ok (.dup, 1) := by decide +kernel
theorem dX10_putIn_82 : decode cX10_putIn 82 = .ok (.getfield 22, 3) := by decide +kernel
theorem dX10_putIn_85 : decode cX10_putIn 85 = .ok (.iconst 1, 1) := by decide +kernel
theorem dX10_putIn_86 : decode cX10_putIn 86 = .ok (.iadd, 1) := by decide +kernel
theorem dX10_putIn_87 : decode cX10_putIn 87 = .ok (.putfield 22, 3) := by decide +kernel
theorem dX10_putIn_90 : decode cX10_putIn 90 = .ok (.return_, 1) := by decide +kernel
theorem dX10_takeOut_0 : decode cX10_takeOut 0 = .ok (.iload_n 1, 1) := by decide +kernel
theorem dX10_takeOut_1 : decode cX10_takeOut 1 = .ok (.ifCond .lt 11, 3) := by decide +kernel
theorem dX10_takeOut_4 : decode cX10_takeOut 4 = .ok (.iload_n 1, 1) := by decide +kernel
theorem dX10_takeOut_5 : decode cX10_takeOut 5 = .ok (.aload_n 0, 1) := by decide +kernel
theorem dX10_takeOut_6 : decode cX10_takeOut 6 = .ok (.getfield 22, 3) := by decide +kernel
theorem dX10_takeOut_9 : decode cX10_takeOut 9 = .ok (.if_icmp .lt 6, 3) := by decide +kernel
theorem dX10_takeOut_12 : decode cX10_takeOut 12 = .ok (.bipush (-100), 2) := by decide +kernel
theorem dX10_takeOut_14 : decode cX10_takeOut 14 = .ok (.ireturn, 1) := by decide +kernel
theorem dX10_takeOut_15 : decode cX10_takeOut 15 = .ok (.aload_n 0, 1) := by decide +kernel
theorem dX10_takeOut_16 : decode cX10_takeOut 16 = .ok (.getfield 9, 3) := by decide +kernel
theorem dX10_takeOut_19 : decode cX10_takeOut 19 = .ok (.iload_n 1, 1) := by decide +kernel
theorem dX10_takeOut_20 : decode cX10_takeOut 20 = .ok (.iaload, 1) := by decide +kernel
theorem dX10_takeOut_21 : decode cX10_takeOut 21 = .ok (.istore_n 2, 1) := by decide +kernel
theorem dX10_takeOut_22 : decode cX10_takeOut 22 = .ok (.iload_n 1, 1) := by decide +kernel
theorem dX10_takeOut_23 : decode cX10_takeOut 23 = .ok (.istore_n 3, 1) := by decide +kernel
theorem dX10_takeOut_24 : decode cX10_takeOut 24 = .ok (.iload_n 3, 1) := by decide +kernel
theorem dX10_takeOut_25 : decode cX10_takeOut 25 = .ok (.aload_n 0, 1) := by decide +kernel
theorem dX10_takeOut_26 : decode cX10_takeOut 26 = .ok (.getfield 22, 3) := by decide +kernel
theorem dX10_takeOut_29 : decode cX10_takeOut 29 = .ok (.iconst 1, 1) := by decide +kernel
theorem dX10_takeOut_30 : decode cX10_takeOut 30 = .ok (.isub, 1) := by decide +kernel
theorem dX10_takeOut_31 : decode cX10_takeOut 31 = .ok (.if_icmp .ge 37, 3) := by decide +kernel
theorem dX10_takeOut_34 : decode cX10_takeOut 34 = .ok (.aload_n 0, 1) := by decide +kernel
theorem dX10_takeOut_35 : decode cX10_takeOut 35 = .ok (.getfield 9, 3) := by decide +kernel
theorem dX10_takeOut_38 : decode cX10_takeOut 38 = .ok (.iload_n 3, 1) := by decide +kernel
theorem dX10_takeOut_39 : decode cX10_takeOut 39 = .ok (.aload_n 0, 1) := by decide +kernel
theorem dX10_takeOut_40 : decode cX10_takeOut 40 = .ok (.getfield 9, 3) := by decide +kernel
theorem dX10_takeOut_43 : decode cX10_takeOut 43 = .ok (.iload_n 3, 1) := by decide +kernel
theorem dX10_takeOut_44 : decode cX10_takeOut 44 = .ok (.iconst 1, 1) := by decide +kernel
theorem dX10_takeOut_45 : decode cX10_takeOut 45 = .ok (.iadd, 1) := by decide +kernel
theorem dX10_takeOut_46 : decode cX10_takeOut 46 = .ok (.iaload, 1) := by decide +kernel
theorem dX10_takeOut_47 : decode cX10_takeOut 47 = .ok (.iastore, 1) := by decide +kernel
theorem dX10_takeOut_48 : decode cX10_takeOut 48 = .ok (.aload_n 0, 1) := by decide +kernel
theorem dX10_takeOut_49 : decode cX10_takeOut 49 = .ok (.getfield 15, 3) := by decide +kernel
theorem dX10_takeOut_52 : decode cX10_takeOut 52 = .ok (.iload_n 3, 1) := by decide +kernel
theorem dX10_takeOut_53 : decode cX10_takeOut 53 = .ok (.aload_n 0, 1) := by decide +kernel
theorem dX10_takeOut_54 : decode cX10_takeOut 54 = .ok (.getfield 15, 3) := by decide +kernel
theorem dX10_takeOut_57 : decode cX10_takeOut 57 = .ok (.iload_n 3, 1) := by decide +kernel
theorem dX10_takeOut_58 : decode cX10_takeOut 58 = .ok (.iconst 1, 1) := by decide +kernel
theorem dX10_takeOut_59 : decode cX10_takeOut 59 = .ok (.iadd, 1) := by decide +kernel
theorem dX10_takeOut_60 : decode cX10_takeOut 60 = .ok (.iaload, 1) := by decide +kernel
theorem dX10_takeOut_61 : decode cX10_takeOut 61 = .ok (.iastore, 1) := by decide +kernel
theorem dX10_takeOut_62 : decode cX10_takeOut 62 = .ok (.iinc 3 1, 3) := by decide +kernel
theorem dX10_takeOut_65 : decode cX10_takeOut 65 = .ok (.goto (-41), 3) := by decide +kernel
theorem dX10_takeOut_68 : decode cX10_takeOut 68 = .ok (.aload_n 0, 1) := by decide +kernel
theorem dX10_takeOut_69 : decode cX10_takeOut 69 = .ok (.dup, 1) := by decide +kernel
theorem dX10_takeOut_70 : decode cX10_takeOut 70 = .ok (.getfield 22, 3) := by decide +kernel
theorem dX10_takeOut_73 : decode cX10_takeOut 73 = .ok (.iconst 1, 1) := by decide +kernel
theorem dX10_takeOut_74 : decode cX10_takeOut 74 = .ok (.isub, 1) := by decide +kernel
theorem dX10_takeOut_75 : decode cX10_takeOut 75 = .ok (.putfield 22, 3) := by decide +kernel
theorem dX10_takeOut_78 : decode cX10_takeOut 78 = .ok (.iload_n 2, 1) := by decide +kernel
theorem dX10_takeOut_79 : decode cX10_takeOut 79 = .ok (.ireturn, 1) := by decide +kernel
theorem dX10_giveExtra_0 : decode cX10_giveExtra 0 = .ok (.iconst 0, 1) := by decide +kernel
theorem dX10_giveExtra_1 : decode cX10_giveExtra 1 = .ok (.istore 4, 2) := by decide +kernel
theorem dX10_giveExtra_3 : decode cX10_giveExtra 3 = .ok (.iload_n 1, 1) := by decide +kernel
theorem dX10_giveExtra_4 : decode cX10_giveExtra 4 = .ok (.iconst 0, 1) := by decide +kernel
theorem dX10_giveExtra_5 : decode cX10_giveExtra 5 = .ok (.invokestatic 29, 3) := by decide +kernel
theorem dX10_giveExtra_8 : decode cX10_giveExtra 8 = .ok (.istore 5, 2) := by decide +kernel
theorem dX10_giveExtra_10 : decode cX10_giveExtra 10 = .ok (.iload 5, 2) := by decide +kernel
theorem dX10_giveExtra_12 : decode cX10_giveExtra 12 = .ok (.iload_n 2, 1) := by decide +kernel
theorem dX10_giveExtra_13 : decode cX10_giveExtra 13 = .ok (.if_icmp .gt 40, 3) := by decide +kernel
theorem dX10_giveExtra_16 : decode cX10_giveExtra 16 = .ok (.iload 5, 2) := by decide +kernel
theorem dX10_giveExtra_18 : decode cX10_giveExtra 18 = .ok (.aload_n 0, 1) := by decide +kernel
theorem dX10_giveExtra_19 : decode cX10_giveExtra 19 = .ok (.getfield 22, 3) := by decide +kernel
theorem dX10_giveExtra_22 : decode cX10_giveExtra 22 = .ok (.if_icmp .ge 31, 3) := by decide +kernel
theorem dX10_giveExtra_25 : decode cX10_giveExtra 25 = .ok (.aload_n 0, 1) := by decide +kernel
theorem dX10_giveExtra_26 : decode cX10_giveExtra 26 = .ok (.getfield 15, 3) := by decide +kernel
theorem dX10_giveExtra_29 : decode cX10_giveExtra 29 = .ok (.iload 5, 2) := by decide +kernel
theorem dX10_giveExtra_31 : decode cX10_giveExtra 31 = .ok (.iaload, 1) := by decide +kernel
theorem dX10_giveExtra_32 : decode cX10_giveExtra 32 = .ok (.iload_n 3, 1) := by decide +kernel
theorem dX10_giveExtra_33 : decode cX10_giveExtra 33 = .ok (.if_icmp .eq 6, 3) := by decide +kernel
theorem dX10_giveExtra_36 : decode cX10_giveExtra 36 = .ok (.iinc 4 1, 3) := by decide +kernel
theorem dX10_giveExtra_39 : decode cX10_giveExtra 39 = .ok (.aload_n 0, 1) := by decide +kernel
theorem dX10_giveExtra_40 : decode cX10_giveExtra 40 = .ok (.getfield 15, 3) := by decide +kernel
theorem dX10_giveExtra_43 : decode cX10_giveExtra 43 = .ok (.iload 5, 2) := by decide +kernel
theorem dX10_giveExtra_45 : decode cX10_giveExtra 45 = .ok (.iload_n 3, 1) := by decide +kernel
theorem dX10_giveExtra_46 : decode cX10_giveExtra 46 = .ok (.iastore, 1) := by decide +kernel
theorem dX10_giveExtra_47 : decode cX10_giveExtra 47 = .ok (.iinc 5 1, 3) := by decide +kernel
theorem dX10_giveExtra_50 : decode cX10_giveExtra 50 = .ok (.goto (-40), 3) := by decide +kernel
theorem dX10_giveExtra_53 : decode cX10_giveExtra 53 = .ok (.iload 4, 2) := by decide +kernel
theorem dX10_giveExtra_55 : decode cX10_giveExtra 55 = .ok (.ireturn, 1) := by decide +kernel
theorem dX11_init_0 : decode cX11_init 0 = .ok (.aload_n 0, 1) := by decide +kernel
theorem dX11_init_1 : decode cX11_init 1 = .ok (.invokespecial 3, 3) := by decide +kernel
theorem dX11_init_4 : decode cX11_init 4 = .ok (.aload_n 0, 1) := by decide +kernel
theorem dX11_init_5 : decode cX11_init 5 = .ok (.iconst 2, 1) := by decide +kernel
theorem dX11_init_6 : decode cX11_init 6 = .ok (.anewarray 9, 3) := by decide +kernel
theorem dX11_init_9 : decode cX11_init 9 = .ok (.putfield 11, 3) := by decide +kernel
theorem dX11_init_12 : decode cX11_init 12 = .ok (.aload_n 0, 1) := by decide +kernel
theorem dX11_init_13 : decode cX11_init 13 = .ok (.new 15, 3) := by decide +kernel
theorem dX11_init_16 : decode cX11_init 16 = .ok (.dup, 1) := by decide +kernel
theorem dX11_init_17 : decode cX11_init 17 = .ok (.invokespecial 17, 3) := by decide +kernel
theorem dX11_init_20 : decode cX11_init 20 = .ok (.putfield 18, 3) := by decide +kernel
theorem dX11_init_23 : decode cX11_init 23 = .ok (.aload_n 0, 1) := by decide +kernel
theorem dX11_init_24 : decode cX11_init 24 = .ok (.new 22, 3) := by decide +kernel
theorem dX11_init_27 : decode cX11_init 27 = .ok (.dup, 1) := by decide +kernel
theorem dX11_init_28 : decode cX11_init 28 = .ok (.invokespecial 24, 3) := by decide +kernel
theorem dX11_init_31 : decode cX11_init 31 = .ok (.putfield 25, 3) := by decide +kernel
theorem dX11_init_34 : decode cX11_init 34 = .ok (.aload_n 0, 1) := by decide +kernel
theorem dX11_init_35 : decode cX11_init 35 = .ok (.new 29, 3) := by decide +kernel
theorem dX11_init_38 : decode cX11_init 38 = .ok (.dup, 1) := by decide +kernel
theorem dX11_init_39 : decode cX11_init 39 = .ok (.aload_n 0, 1) := by decide +kernel
theorem dX11_init_40 : decode cX11_init 40 = .ok (.getfield 25, 3) := by decide +kernel
theorem dX11_init_43 : decode cX11_init 43 = .ok (.invokespecial 31, 3) := by decide +kernel
theorem dX11_init_46 : decode cX11_init 46 = .ok (.putfield 34, 3) := by decide +kernel
theorem dX11_init_49 : decode cX11_init 49 = .ok (.aload_n 0, 1) := by decide +kernel
theorem dX11_init_50 : decode cX11_init 50 = .ok (.new 38, 3) := by decide +kernel
theorem dX11_init_53 : decode cX11_init 53 = .ok (.dup, 1) := by decide +kernel
theorem dX11_init_54 : decode cX11_init 54 = .ok (.aload_n 0, 1) := by decide +kernel
theorem dX11_init_55 : decode cX11_init 55 = .ok (.getfield 25, 3) := by decide +kernel
theorem dX11_init_58 : decode cX11_init 58 = .ok (.invokespecial 40, 3) := by decide +kernel
theorem dX11_init_61 : decode cX11_init 61 = .ok (.putfield 41, 3) := by decide +kernel
theorem dX11_init_64 : decode cX11_init 64 = .ok (.aload_n 0, 1) := by decide +kernel
theorem dX11_init_65 : decode cX11_init 65 = .ok (.new 45, 3) := by decide +kernel
theorem dX11_init_68 : decode cX11_init 68 = .ok (.dup, 1) := by decide +kernel
theorem dX11_init_69 : decode cX11_init 69 = .ok (.aload_n 0, 1) := by decide +kernel
theorem dX11_init_70 : decode cX11_init 70 = .ok (.getfield 25, 3) := by decide +kernel
theorem dX11_init_73 : decode cX11_init 73 = .ok (.invokespecial 47, 3) := by decide +kernel
theorem dX11_init_76 : decode cX11_init 76 = .ok (.putfield 48, 3) := by decide +kernel
theorem dX11_init_79 : decode cX11_init 79 = .ok (.aload_n 0, 1) := by decide +kernel
theorem dX11_init_80 : decode cX11_init 80 = .ok (.new 52, 3) := by decide +kernel
theorem dX11_init_83 : decode cX11_init 83 = .ok (.dup, 1) := by decide +kernel
theorem dX11_init_84 : decode cX11_init 84 = .ok (.invokespecial 54, 3) := by decide +kernel
theorem dX11_init_87 : decode cX11_init 87 = .ok (.putfield 55, 3) := by decide +kernel
theorem dX11_init_90 : decode cX11_init 90 = .ok (.aload_n 0, 1) := by decide +kernel
theorem dX11_init_91 : decode cX11_init 91 = .ok (.new 59, 3) := by decide +kernel
theorem dX11_init_94 : decode cX11_init 94 = .ok (.dup, 1) := by decide +kernel
theorem dX11_init_95 : decode cX11_init 95 = .ok (.invokespecial 61, 3) := by decide +kernel
theorem dX11_init_98 : decode cX11_init 98 = .ok (.putfield 62, 3) := by decide +kernel
theorem dX11_init_101 : decode cX11_init 101 = .ok (.aload_n 0, 1) := by decide +kernel
theorem dX11_init_102 : decode cX11_init 102 = .ok (.new 59, 3) := by decide +kernel
theorem dX11_init_105 : decode cX11_init 105 = .ok (.dup, 1) := by decide +kernel
theorem dX11_init_106 : decode cX11_init 106 = .ok (.invokespecial 61, 3) := by decide +kernel
theorem dX11_init_109 : decode cX11_init 109 = .ok (.putfield 66, 3) := by decide +kernel
theorem dX11_init_112 : decode cX11_init 112 = .ok (.aload_n 0, 1) := by decide +kernel
theorem dX11_init_113 : decode cX11_init 113 = .ok (.iconst 0, 1) := by decide +kernel
theorem dX11_init_114 : decode cX11_init 114 = .ok (.putfield 69, 3) := by decide +kernel
theorem dX11_init_117 : decode cX11_init 117 = .ok (.aload_n 0, 1) := by decide +kernel
theorem dX11_init_118 : decode cX11_init 118 = .ok (.iconst 1, 1) := by decide +kernel
theorem dX11_init_119 : decode cX11_init 119 = .ok (.putfield 73, 3) := by decide +kernel
theorem dX11_init_122 : decode cX11_init 122 = .ok (.aload_n 0, 1) := by decide +kernel
theorem dX11_init_123 : decode cX11_init 123 = .ok (.getfield 11, 3) := by decide +kernel
theorem dX11_init_126 : decode cX11_init 126 = .ok (.iconst 0, 1) := by decide +kernel
theorem dX11_init_127 : decode cX11_init 127 = .ok (.new 9, 3) := by decide +kernel
theorem dX11_init_130 : decode cX11_init 130 = .ok (.dup, 1) := by decide +kernel
theorem dX11_init_131 : decode cX11_init 131 = .ok (.invokespecial 77, 3) := by decide +kernel
theorem dX11_init_134 : decode cX11_init 134 = .ok (.aastore, 1) := by decide +kernel
theorem dX11_init_135 : decode cX11_init 135 = .ok (.aload_n 0, 1) := by decide +kernel
theorem dX11_init_136 : decode cX11_init 136 = .ok (.getfield 11, 3) := by decide +kernel
theorem dX11_init_139 : decode cX11_init 139 = .ok (.iconst 1, 1) := by decide +kernel
theorem dX11_init_140 : decode cX11_init 140 = .ok (.new 9, 3) := by decide +kernel
theorem dX11_init_143 : decode cX11_init 143 = .ok (.dup, 1) := by decide +kernel
theorem dX11_init_144 : decode cX11_init 144 = .ok (.invokespecial 77, 3) := by decide +kernel
theorem dX11_init_147 : decode cX11_init 147 = .ok (.aastore, 1) := by decide +kernel
theorem dX11_init_148 : decode cX11_init 148 = .ok (.return_, 1) := by decide +kernel
theorem dX11_useFace_0 : decode cX11_useFace 0 = .ok (.iload_n 1, 1) := by decide +kernel
theorem dX11_useFace_1 : decode cX11_useFace 1 = .ok (.ifCond .lt 8, 3) := by decide +kernel
theorem dX11_useFace_4 : decode cX11_useFace 4 = .ok (.iload_n 1, 1) := by decide +kernel
theorem dX11_useFace_5 : decode cX11_useFace 5 = .ok (.iconst 2, 1) := by decide +kernel
theorem dX11_useFace_6 : decode cX11_useFace 6 = .ok (.if_icmp .lt 13, 3) := by decide +kernel
theorem dX11_useFace_9 : decode cX11_useFace 9 = .ok (.new 78, 3) := by decide +kernel
theorem dX11_useFace_12 : decode cX11_useFace 12 = .ok (.dup, 1) := by decide +kernel
theorem dX11_useFace_13 : decode cX11_useFace 13 = .ok (.ldc 80, 2) := by decide +kernel
theorem dX11_useFace_15 : decode cX11_useFace 15 = .ok (.invokespecial 82, 3) := by decide +kernel
theorem dX11_useFace_18 : decode cX11_useFace 18 = .ok (.athrow, 1) := by decide +kernel
theorem dX11_useFace_19 : decode cX11_useFace 19 = .ok (.aload_n 0, 1) := by decide +kernel
theorem dX11_useFace_20 : decode cX11_useFace 20 = .ok (.getfield 69, 3) := by decide +kernel
theorem dX11_useFace_23 : decode cX11_useFace 23 = .ok (.istore_n 2, 1) := by decide +kernel
theorem dX11_useFace_24 : decode cX11_useFace 24 = .ok (.aload_n 0, 1) := by decide +kernel
theorem dX11_useFace_25 : decode cX11_useFace 25 = .ok (.iload_n 1, 1) := by decide +kernel
theorem dX11_useFace_26 : decode cX11_useFace 26 = .ok (.putfield 69, 3) := by decide +kernel
theorem dX11_useFace_29 : decode cX11_useFace 29 = .ok (.iload_n 2, 1) := by decide +kernel
theorem dX11_useFace_30 : decode cX11_useFace 30 = .ok (.ireturn, 1) := by decide +kernel
theorem dX11_lookup_0 : decode cX11_lookup 0 = .ok (.iload_n 1, 1) := by decide +kernel
theorem dX11_lookup_1 : decode cX11_lookup 1 = .ok (.ifCond .lt 9, 3) := by decide +kernel
theorem dX11_lookup_4 : decode cX11_lookup 4 = .ok (.iload_n 1, 1) := by decide +kernel
theorem dX11_lookup_5 : decode cX11_lookup 5 = .ok (.bipush 9, 2) := by decide +kernel
theorem dX11_lookup_7 : decode cX11_lookup 7 = .ok (.if_icmp .le 13, 3) := by decide +kernel
theorem dX11_lookup_10 : decode cX11_lookup 10 = .ok (.new 78, 3) := by decide +kernel
theorem dX11_lookup_13 : decode cX11_lookup 13 = .ok (.dup, 1) := by decide +kernel
theorem dX11_lookup_14 : decode cX11_lookup 14 = .ok (.ldc 85, 2) := by decide +kernel
theorem dX11_lookup_16 : decode cX11_lookup 16 = .ok (.invokespecial 82, 3) := by decide +kernel
theorem dX11_lookup_19 : decode cX11_lookup 19 = .ok (.athrow, 1) := by decide +kernel
theorem dX11_lookup_20 : decode cX11_lookup 20 = .ok (.iload_n 2, 1) := by decide +kernel
theorem dX11_lookup_21 : decode cX11_lookup 21 = .ok (.ifCond .lt 9, 3) := by decide +kernel
theorem dX11_lookup_24 : decode cX11_lookup 24 = .ok (.iload_n 2, 1) := by decide +kernel
theorem dX11_lookup_25 : decode cX11_lookup 25 = .ok (.bipush 6, 2) := by decide +kernel
theorem dX11_lookup_27 : decode cX11_lookup 27 = .ok (.if_icmp .le 13, 3) := by decide +kernel
theorem dX11_lookup_30 : decode cX11_lookup 30 = .ok (.new 78, 3) := by decide +kernel
theorem dX11_lookup_33 : decode cX11_lookup 33 = .ok (.dup, 1) := by decide +kernel
theorem dX11_lookup_34 : decode cX11_lookup 34 = .ok (.ldc 87, 2) := by decide +kernel
theorem dX11_lookup_36 : decode cX11_lookup 36 = .ok (.invokespecial 82, 3) := by decide +kernel
theorem dX11_lookup_39 : decode cX11_lookup 39 = .ok (.athrow, 1) := by decide +kernel
theorem dX11_lookup_40 : decode cX11_lookup 40 = .ok (.iload_n 3, 1) := by decide +kernel
theorem dX11_lookup_41 : decode cX11_lookup 41 = .ok (.ifCond .lt 8, 3) := by decide +kernel
theorem dX11_lookup_44 : decode cX11_lookup 44 = .ok (.iload_n 3, 1) := by decide +kernel
theorem dX11_lookup_45 : decode cX11_lookup 45 = .ok (.iconst 1, 1) := by decide +kernel
theorem dX11_lookup_46 : decode cX11_lookup 46 = .ok (.if_icmp .le 13, 3) := by decide +kernel
theorem dX11_lookup_49 : decode cX11_lookup 49 = .ok (.new 89, 3) := by decide +kernel
theorem dX11_lookup_52 : decode cX11_lookup 52 = .ok (.dup, 1) := by decide +kernel
theorem dX11_lookup_53 : decode cX11_lookup 53 = .ok (.ldc 91, 2) := by decide +kernel
theorem dX11_lookup_55 : decode cX11_lookup 55 = .ok (.invokespecial 93, 3) := by decide +kernel
theorem dX11_lookup_58 : decode cX11_lookup 58 = .ok (.athrow, 1) := by decide +kernel
theorem dX11_lookup_59 : decode cX11_lookup 59 = .ok (.iload 4, 2) := by decide +kernel
theorem dX11_lookup_61 : decode cX11_lookup 61 = .ok (.ifCond .lt 9, 3) := by decide +kernel
theorem dX11_lookup_64 : decode cX11_lookup 64 = .ok (.iload 4, 2) := by decide +kernel
theorem dX11_lookup_66 : decode cX11_lookup 66 = .ok (.iconst 2, 1) := by decide +kernel
theorem dX11_lookup_67 : decode cX11_lookup 67 = .ok (.if_icmp .le 13, 3) := by decide +kernel
theorem dX11_lookup_70 : decode cX11_lookup 70 = .ok (.new 89, 3) := by decide +kernel
theorem dX11_lookup_73 : decode cX11_lookup 73 = .ok (.dup, 1) := by decide +kernel
theorem dX11_lookup_74 : decode cX11_lookup 74 = .ok (.ldc 94, 2) := by decide +kernel
theorem dX11_lookup_76 : decode cX11_lookup 76 = .ok (.invokespecial 93, 3) := by decide +kernel
theorem dX11_lookup_79 : decode cX11_lookup 79 = .ok (.athrow, 1) := by decide +kernel
theorem dX11_lookup_80 : decode cX11_lookup 80 = .ok (.iload 5, 2) := by decide +kernel
theorem dX11_lookup_82 : decode cX11_lookup 82 = .ok (.ifCond .lt 9, 3) := by decide +kernel
theorem dX11_lookup_85 : decode cX11_lookup 85 = .ok (.iload 5, 2) := by decide +kernel
theorem dX11_lookup_87 : decode cX11_lookup 87 = .ok (.iconst 5, 1) := by decide +kernel
theorem dX11_lookup_88 : decode cX11_lookup 88 = .ok (.if_icmp .le 13, 3) := by decide +kernel
theorem dX11_lookup_91 : decode cX11_lookup 91 = .ok (.new 89, 3) := by decide +kernel
theorem dX11_lookup_94 : decode cX11_lookup 94 = .ok (.dup, 1) := by decide +kernel
theorem dX11_lookup_95 : decode cX11_lookup 95 = .ok (.ldc 96, 2) := by decide +kernel
theorem dX11_lookup_97 : decode cX11_lookup 97 = .ok (.invokespecial 93, 3) := by decide +kernel
theorem dX11_lookup_100 : decode cX11_lookup 100 = .ok (.athrow, 1) := by decide +kernel
theorem dX11_lookup_101 : decode cX11_lookup 101 = .ok (.aload_n 0, 1) := by decide +kernel
theorem dX11_lookup_102 : decode cX11_lookup 102 = .ok (.getfield 11, 3) := by decide +kernel
theorem dX11_lookup_105 : decode cX11_lookup 105 = .ok (.aload_n 0, 1) := by decide +kernel
theorem dX11_lookup_106 : decode cX11_lookup 106 = .ok (.getfield 69, 3) := by decide +kernel
theorem dX11_lookup_109 : decode cX11_lookup 109 = .ok (.aaload, 1) := by decide +kernel
theorem dX11_lookup_110 : decode cX11_lookup 110 = .ok (.astore 6, 2) := by decide +kernel
theorem dX11_lookup_112 : decode cX11_lookup 112 = .ok (.aload 6, 2) := by decide +kernel
theorem dX11_lookup_114 : decode cX11_lookup 114 = .ok (.getfield 98, 3) := by decide +kernel
theorem dX11_lookup_117 : decode cX11_lookup 117 = .ok (.bipush 12, 2) := by decide +kernel
theorem dX11_lookup_119 : decode cX11_lookup 119 = .ok (.if_icmp .lt 13, 3) := by decide +kernel
theorem dX11_lookup_122 : decode cX11_lookup 122 = .ok (.new 101, 3) := by decide +kernel
theorem dX11_lookup_125 : decode cX11_lookup 125 = .ok (.dup, 1) := by decide +kernel
theorem dX11_lookup_126 : decode cX11_lookup 126 = .ok (.ldc 103, 2) := by decide +kernel
theorem dX11_lookup_128 : decode cX11_lookup 128 = .ok (.invokespecial 105, 3) := by decide +kernel
theorem dX11_lookup_131 : decode cX11_lookup 131 = .ok (.athrow, 1) := by decide +kernel
theorem dX11_lookup_132 : decode cX11_lookup 132 = .ok (.aload 6, 2) := by decide +kernel
theorem dX11_lookup_134 : decode cX11_lookup 134 = .ok (.getfield 106, 3) := by decide +kernel
theorem dX11_lookup_137 : decode cX11_lookup 137 = .ok (.aload 6, 2) := by decide +kernel
theorem dX11_lookup_139 : decode cX11_lookup 139 = .ok (.getfield 98, 3) := by decide +kernel
theorem dX11_lookup_142 : decode cX11_lookup 142 = .ok (.new 110, 3) := by decide +kernel
theorem dX11_lookup_145 : decode cX11_lookup 145 = .ok (.dup, 1) := by decide +kernel
theorem dX11_lookup_146 : decode cX11_lookup 146 = .ok (.iload_n 1, 1) := by decide +kernel
theorem dX11_lookup_147 : decode cX11_lookup 147 = .ok (.iload_n 2, 1) := by decide +kernel
theorem dX11_lookup_148 : decode cX11_lookup 148 = .ok (.iload_n 3, 1) := by decide +kernel
theorem dX11_lookup_149 : decode cX11_lookup 149 = .ok (.iload 4, 2) := by decide +kernel
theorem dX11_lookup_151 : decode cX11_lookup 151 = .ok (.iload 5, 2) := by decide +kernel
theorem dX11_lookup_153 : decode cX11_lookup 153 = .ok (.invokespecial 112, 3) := by decide +kernel
theorem dX11_lookup_156 : decode cX11_lookup 156 = .ok (.aastore, 1) := by decide +kernel
theorem dX11_lookup_157 : decode cX11_lookup 157 = .ok (.aload 6, 2) := by decide +kernel
theorem dX11_lookup_159 : decode cX11_lookup 159 = .ok (.dup, 1) := by decide +kernel
theorem dX11_lookup_160 : decode cX11_lookup 160 = .ok (.getfield 98, 3) := by decide +kernel
theorem dX11_lookup_163 : decode cX11_lookup 163 = .ok (.iconst 1, 1) := by decide +kernel
theorem dX11_lookup_164 : decode cX11_lookup 164 = .ok (.iadd, 1) := by decide +kernel
theorem dX11_lookup_165 : decode cX11_lookup 165 = .ok (.putfield 98, 3) := by decide +kernel
theorem dX11_lookup_168 : decode cX11_lookup 168 = .ok (.aload_n 0, 1) := by decide +kernel
theorem dX11_lookup_169 : decode cX11_lookup 169 = .ok (.iconst 1, 1) := by decide +kernel
theorem dX11_lookup_170 : decode cX11_lookup 170 = .ok (.putfield 73, 3) := by decide +kernel
theorem dX11_lookup_173 : decode cX11_lookup 173 = .ok (.aload 6, 2) := by decide +kernel
theorem dX11_lookup_175 : decode cX11_lookup 175 = .ok (.getfield 98, 3) := by decide +kernel
theorem dX11_lookup_178 : decode cX11_lookup 178 = .ok (.iconst 1, 1) := by decide +kernel
theorem dX11_lookup_179 : decode cX11_lookup 179 = .ok (.isub, 1) := by decide +kernel
theorem dX11_lookup_180 : decode cX11_lookup 180 = .ok (.ireturn, 1) := by decide +kernel
theorem dX11_rule_0 : decode cX11_rule 0 = .ok (.aload_n 0, 1) := by decide +kernel
theorem dX11_rule_1 : decode cX11_rule 1 = .ok (.getfield 11, 3) := by decide +kernel
theorem dX11_rule_4 : decode cX11_rule 4 = .ok (.aload_n 0, 1) := by decide +kernel
theorem dX11_rule_5 : decode cX11_rule 5 = .ok (.getfield 69, 3) := by decide +kernel
theorem dX11_rule_8 : decode cX11_rule 8 = .ok (.aaload, 1) := by decide +kernel
theorem dX11_rule_9 : decode cX11_rule 9 = .ok (.iload_n 1, 1) := by decide +kernel
theorem dX11_rule_10 : decode cX11_rule 10 = .ok (.invokevirtual 115, 3) := by decide +kernel
theorem dX11_rule_13 : decode cX11_rule 13 = .ok (.astore 8, 2) := by decide +kernel
theorem dX11_rule_15 : decode cX11_rule 15 = .ok (.aload 8, 2) := by decide +kernel
theorem dX11_rule_17 : decode cX11_rule 17 = .ok (.ifnonnull 13, 3) := by decide +kernel
theorem dX11_rule_20 : decode cX11_rule 20 = .ok (.new 78, 3) := by decide +kernel
theorem dX11_rule_23 : decode cX11_rule 23 = .ok (.dup, 1) := by decide +kernel
theorem dX11_rule_24 : decode cX11_rule 24 = .ok (.ldc 119, 2) := by decide +kernel
theorem dX11_rule_26 : decode cX11_rule 26 = .ok (.invokespecial 82, 3) := by decide +kernel
theorem dX11_rule_29 : decode cX11_rule 29 = .ok (.athrow, 1) := by decide +kernel
theorem dX11_rule_30 : decode cX11_rule 30 = .ok (.aload 8, 2) := by decide +kernel
theorem dX11_rule_32 : decode cX11_rule 32 = .ok (.iload_n 2, 1) := by decide +kernel
theorem dX11_rule_33 : decode cX11_rule 33 = .ok (.iload_n 3, 1) := by decide +kernel
theorem dX11_rule_34 : decode cX11_rule 34 = .ok (.iload 4, 2) := by decide +kernel
theorem dX11_rule_36 : decode cX11_rule 36 = .ok (.iload 5, 2) := by decide +kernel
theorem dX11_rule_38 : decode cX11_rule 38 = .ok (.iload 6, 2) := by decide +kernel
theorem dX11_rule_40 : decode cX11_rule 40 = .ok (.iload 7, 2) := by decide +kernel
theorem dX11_rule_42 : decode cX11_rule 42 = .ok (.invokevirtual 121, 3) := by decide +kernel
theorem dX11_rule_45 : decode cX11_rule 45 = .ok (.ifCond .ne 13, 3) := by decide +kernel
theorem dX11_rule_48 : decode cX11_rule 48 = .ok (.new 89, 3) := by decide +kernel
theorem dX11_rule_51 : decode cX11_rule 51 = .ok (.dup, 1) := by decide +kernel
theorem dX11_rule_52 : decode cX11_rule 52 = .ok (.ldc 125, 2) := by decide +kernel
theorem dX11_rule_54 : decode cX11_rule 54 = .ok (.invokespecial 93, 3) := by decide +kernel
theorem dX11_rule_57 : decode cX11_rule 57 = .ok (.athrow, 1) := by decide +kernel
theorem dX11_rule_58 : decode cX11_rule 58 = .ok (.aload 8, 2) := by decide +kernel
theorem dX11_rule_60 : decode cX11_rule 60 = .ok (.getfield 127, 3) := by decide +kernel
theorem dX11_rule_63 : decode cX11_rule 63 = .ok (.bipush 8, 2) := by decide +kernel
theorem dX11_rule_65 : decode cX11_rule 65 = .ok (.if_icmp .lt 13, 3) := by decide +kernel
theorem dX11_rule_68 : decode cX11_rule 68 = .ok (.new 101, 3) := by decide +kernel
theorem dX11_rule_71 : decode cX11_rule 71 = .ok (.dup, 1) := by decide +kernel
theorem dX11_rule_72 : decode cX11_rule 72 = .ok (.ldc 130, 2) := by decide +kernel
theorem dX11_rule_74 : decode cX11_rule 74 = .ok (.invokespecial 105, 3) := by decide +kernel
theorem dX11_rule_77 : decode cX11_rule 77 = .ok (.athrow, 1) := by decide +kernel
theorem dX11_rule_78 : decode cX11_rule 78 = .ok (.aload 8, 2) := by decide +kernel
theorem dX11_rule_80 : decode cX11_rule 80 = .ok (.iload_n 2, 1) := by decide +kernel
theorem dX11_rule_81 : decode cX11_rule 81 = .ok (.iload_n 3, 1) := by decide +kernel
theorem dX11_rule_82 : decode cX11_rule 82 = .ok (.iload 4, 2) := by decide +kernel
theorem dX11_rule_84 : decode cX11_rule 84 = .ok (.iload 5, 2) := by decide +kernel
theorem dX11_rule_86 : decode cX11_rule 86 = .ok (.iload 6, 2) := by decide +kernel
theorem dX11_rule_88 : decode cX11_rule 88 = .ok (.iload 7, 2) := by decide +kernel
theorem dX11_rule_90 : decode cX11_rule 90 = .ok (.invokevirtual 132, 3) := by decide +kernel
theorem dX11_rule_93 : decode cX11_rule 93 = .ok (.aload_n 0, 1) := by decide +kernel
theorem dX11_rule_94 : decode cX11_rule 94 = .ok (.getfield 11, 3) := by decide +kernel
theorem dX11_rule_97 : decode cX11_rule 97 = .ok (.aload_n 0, 1) := by decide +kernel
theorem dX11_rule_98 : decode cX11_rule 98 = .ok (.getfield 69, 3) := by decide +kernel
theorem dX11_rule_101 : decode cX11_rule 101 = .ok (.aaload, 1) := by decide +kernel
theorem dX11_rule_102 : decode cX11_rule 102 = .ok (.aload 8, 2) := by decide +kernel
theorem dX11_rule_104 : decode cX11_rule 104 = .ok (.invokevirtual 136, 3) := by decide +kernel
theorem dX11_rule_107 : decode cX11_rule 107 = .ok (.aload_n 0, 1) := by decide +kernel
theorem dX11_rule_108 : decode cX11_rule 108 = .ok (.iconst 1, 1) := by decide +kernel
theorem dX11_rule_109 : decode cX11_rule 109 = .ok (.putfield 73, 3) := by decide +kernel
theorem dX11_rule_112 : decode cX11_rule 112 = .ok (.aload 8, 2) := by decide +kernel
theorem dX11_rule_114 : decode cX11_rule 114 = .ok (.getfield 127, 3) := by decide +kernel
theorem dX11_rule_117 : decode cX11_rule 117 = .ok (.ireturn, 1) := by decide +kernel
theorem dX11_setMark_0 : decode cX11_setMark 0 = .ok (.iload_n 1, 1) := by decide +kernel
theorem dX11_setMark_1 : decode cX11_setMark 1 = .ok (.invokestatic 140, 3) := by decide +kernel
theorem dX11_setMark_4 : decode cX11_setMark 4 = .ok (.ifCond .ne 13, 3) := by decide +kernel
theorem dX11_setMark_7 : decode cX11_setMark 7 = .ok (.new 78, 3) := by decide +kernel
theorem dX11_setMark_10 : decode cX11_setMark 10 = .ok (.dup, 1) := by decide +kernel
theorem dX11_setMark_11 : decode cX11_setMark 11 = .ok (.ldc 144, 2) := by decide +kernel
theorem dX11_setMark_13 : decode cX11_setMark 13 = .ok (.invokespecial 82, 3) := by decide +kernel
theorem dX11_setMark_16 : decode cX11_setMark 16 = .ok (.athrow, 1) := by decide +kernel
theorem dX11_setMark_17 : decode cX11_setMark 17 = .ok (.iload_n 2, 1) := by decide +kernel
theorem dX11_setMark_18 : decode cX11_setMark 18 = .ok (.bipush (-100), 2) := by decide +kernel
theorem dX11_setMark_20 : decode cX11_setMark 20 = .ok (.if_icmp .eq 22, 3) := by decide +kernel
theorem dX11_setMark_23 : decode cX11_setMark 23 = .ok (.iload_n 2, 1) := by decide +kernel
theorem dX11_setMark_24 : decode cX11_setMark 24 = .ok (.ifCond .lt 8, 3) := by decide +kernel
theorem dX11_setMark_27 : decode cX11_setMark 27 = .ok (.iload_n 2, 1) := by decide +kernel
theorem dX11_setMark_28 : decode cX11_setMark 28 = .ok (.iconst 4, 1) := by decide +kernel
theorem dX11_setMark_29 : decode cX11_setMark 29 = .ok (.if_icmp .lt 13, 3) := by decide +kernel
theorem dX11_setMark_32 : decode cX11_setMark 32 = .ok (.new 89, 3) := by decide +kernel
theorem dX11_setMark_35 : decode cX11_setMark 35 = .ok (.dup, 1) := by decide +kernel
theorem dX11_setMark_36 : decode cX11_setMark 36 = .ok (.ldc 146, 2) := by decide +kernel
theorem dX11_setMark_38 : decode cX11_setMark 38 = .ok (.invokespecial 93, 3) := by decide +kernel
theorem dX11_setMark_41 : decode cX11_setMark 41 = .ok (.athrow, 1) := by decide +kernel
theorem dX11_setMark_42 : decode cX11_setMark 42 = .ok (.aload_n 0, 1) := by decide +kernel
theorem dX11_setMark_43 : decode cX11_setMark 43 = .ok (.getfield 11, 3) := by decide +kernel
theorem dX11_setMark_46 : decode cX11_setMark 46 = .ok (.aload_n 0, 1) := by decide +kernel
theorem dX11_setMark_47 : decode cX11_setMark 47 = .ok (.getfield 69, 3) := by decide +kernel
theorem dX11_setMark_50 : decode cX11_setMark 50 = .ok (.aaload, 1) := by decide +kernel
theorem dX11_setMark_51 : decode cX11_setMark 51 = .ok (.getfield 148, 3) := by decide +kernel
theorem dX11_setMark_54 : decode cX11_setMark 54 = .ok (.iload_n 1, 1) := by decide +kernel
theorem dX11_setMark_55 : decode cX11_setMark 55 = .ok (.iaload, 1) := by decide +kernel
theorem dX11_setMark_56 : decode cX11_setMark 56 = .ok (.istore_n 3, 1) := by decide +kernel
theorem dX11_setMark_57 : decode cX11_setMark 57 = .ok (.aload_n 0, 1) := by decide +kernel
theorem dX11_setMark_58 : decode cX11_setMark 58 = .ok (.getfield 11, 3) := by decide +kernel
theorem dX11_setMark_61 : decode cX11_setMark 61 = .ok (.aload_n 0, 1) := by decide +kernel
theorem dX11_setMark_62 : decode cX11_setMark 62 = .ok (.getfield 69, 3) := by decide +kernel
theorem dX11_setMark_65 : decode cX11_setMark 65 = .ok (.aaload, 1) := by decide +kernel
theorem dX11_setMark_66 : decode cX11_setMark 66 = .ok (.getfield 148, 3) := by decide +kernel
theorem dX11_setMark_69 : decode cX11_setMark 69 = .ok (.iload_n 1, 1) := by decide +kernel
theorem dX11_setMark_70 : decode cX11_setMark 70 = .ok (.iload_n 2, 1) := by decide +kernel
theorem dX11_setMark_71 : decode cX11_setMark 71 = .ok (.iastore, 1) := by decide +kernel
theorem dX11_setMark_72 : decode cX11_setMark 72 = .ok (.aload_n 0, 1) := by decide +kernel
theorem dX11_setMark_73 : decode cX11_setMark 73 = .ok (.iconst 1, 1) := by decide +kernel
theorem dX11_setMark_74 : decode cX11_setMark 74 = .ok (.putfield 73, 3) := by decide +kernel
theorem dX11_setMark_77 : decode cX11_setMark 77 = .ok (.iload_n 3, 1) := by decide +kernel
theorem dX11_setMark_78 : decode cX11_setMark 78 = .ok (.ireturn, 1) := by decide +kernel
theorem dX11_setGroup_0 : decode cX11_setGroup 0 = .ok (.iload_n 1, 1) := by decide +kernel
theorem dX11_setGroup_1 : decode cX11_setGroup 1 = .ok (.invokestatic 140, 3) := by decide +kernel
theorem dX11_setGroup_4 : decode cX11_setGroup 4 = .ok (.ifCond .ne 13, 3) := by decide +kernel
theorem dX11_setGroup_7 : decode cX11_setGroup 7 = .ok (.new 78, 3) := by decide +kernel
theorem dX11_setGroup_10 : decode cX11_setGroup 10 = .ok (.dup, 1) := by decide +kernel
theorem dX11_setGroup_11 : decode cX11_setGroup 11 = .ok (.ldc 144, 2) := by decide +kernel
theorem dX11_setGroup_13 : decode cX11_setGroup 13 = .ok (.invokespecial 82, 3) := by decide +kernel
theorem dX11_setGroup_16 : decode cX11_setGroup 16 = .ok (.athrow, 1) := by decide +kernel
theorem dX11_setGroup_17 : decode cX11_setGroup 17 = .ok (.iload_n 2, 1) := by decide +kernel
theorem dX11_setGroup_18 : decode cX11_setGroup 18 = .ok (.ifCond .lt 9, 3) := by decide +kernel
theorem dX11_setGroup_21 : decode cX11_setGroup 21 = .ok (.iload_n 2, 1) := by decide +kernel
theorem dX11_setGroup_22 : decode cX11_setGroup 22 = .ok (.bipush 6, 2) := by decide +kernel
theorem dX11_setGroup_24 : decode cX11_setGroup 24 = .ok (.if_icmp .lt 13, 3) := by decide +kernel
theorem dX11_setGroup_27 : decode cX11_setGroup 27 = .ok (.new 78, 3) := by decide +kernel
theorem dX11_setGroup_30 : decode cX11_setGroup 30 = .ok (.dup, 1) := by decide +kernel
theorem dX11_setGroup_31 : decode cX11_setGroup 31 = .ok (.ldc 152, 2) := by decide +kernel
theorem dX11_setGroup_33 : decode cX11_setGroup 33 = .ok (.invokespecial 82, 3) := by decide +kernel
theorem dX11_setGroup_36 : decode cX11_setGroup 36 = .ok (.athrow, 1) := by decide +kernel
theorem dX11_setGroup_37 : decode cX11_setGroup 37 = .ok (.aload_n 0, 1) := by decide +kernel
theorem dX11_setGroup_38 : decode cX11_setGroup 38 = .ok (.getfield 11, 3) := by decide +kernel
theorem dX11_setGroup_41 : decode cX11_setGroup 41 = .ok (.aload_n 0, 1) := by decide +kernel
theorem dX11_setGroup_42 : decode cX11_setGroup 42 = .ok (.getfield 69, 3) := by decide +kernel
theorem dX11_setGroup_45 : decode cX11_setGroup 45 = .ok (.aaload, 1) := by decide +kernel
theorem dX11_setGroup_46 : decode cX11_setGroup 46 = .ok (.getfield 154, 3) := by decide +kernel
theorem dX11_setGroup_49 : decode cX11_setGroup 49 = .ok (.iload_n 1, 1) := by decide +kernel
theorem dX11_setGroup_50 : decode cX11_setGroup 50 = .ok (.iaload, 1) := by decide +kernel
theorem dX11_setGroup_51 : decode cX11_setGroup 51 = .ok (.istore_n 3, 1) := by decide +kernel
theorem dX11_setGroup_52 : decode cX11_setGroup 52 = .ok (.aload_n 0, 1) := by decide +kernel
theorem dX11_setGroup_53 : decode cX11_setGroup 53 = .ok (.getfield 11, 3) := by decide +kernel
theorem dX11_setGroup_56 : decode cX11_setGroup 56 = .ok (.aload_n 0, 1) := by decide +kernel
theorem dX11_setGroup_57 : decode cX11_setGroup 57 = .ok (.getfield 69, 3) := by decide +kernel
theorem dX11_setGroup_60 : decode cX11_setGroup 60 = .ok (.aaload, 1) := by decide +kernel
theorem dX11_setGroup_61 : decode cX11_setGroup 61 = .ok (.iload_n 1, 1) := by decide +kernel
theorem dX11_setGroup_62 : decode cX11_setGroup 62 = .ok (.iload_n 2, 1) := by decide +kernel
theorem dX11_setGroup_63 : decode cX11_setGroup 63 = .ok (.invokevirtual 157, 3) := by decide +kernel
theorem dX11_setGroup_66 : decode cX11_setGroup 66 = .ok (.aload_n 0, 1) := by decide +kernel
theorem dX11_setGroup_67 : decode cX11_setGroup 67 = .ok (.iconst 1, 1) := by decide +kernel
theorem dX11_setGroup_68 : decode cX11_setGroup 68 = .ok (.putfield 73, 3) := by decide +kernel
theorem dX11_setGroup_71 : decode cX11_setGroup 71 = .ok (.iload_n 3, 1) := by decide +kernel
theorem dX11_setGroup_72 : decode cX11_setGroup 72 = .ok (.ireturn, 1) := by decide +kernel
theorem dX11_setWidth_0 : decode cX11_setWidth 0 = .ok (.iload_n 1, 1) := by decide +kernel
theorem dX11_setWidth_1 : decode cX11_setWidth 1 = .ok (.invokestatic 140, 3) := by decide +kernel
theorem dX11_setWidth_4 : decode cX11_setWidth 4 = .ok (.ifCond .ne 13, 3) := by decide +kernel
theorem dX11_setWidth_7 : decode cX11_setWidth 7 = .ok (.new 78, 3) := by decide +kernel
theorem dX11_setWidth_10 : decode cX11_setWidth 10 = .ok (.dup, 1) := by decide +kernel
theorem dX11_setWidth_11 : decode cX11_setWidth 11 = .ok (.ldc 144, 2) := by decide +kernel
theorem dX11_setWidth_13 : decode cX11_setWidth 13 = .ok (.invokespecial 82, 3) := by decide +kernel
theorem dX11_setWidth_16 : decode cX11_setWidth 16 = .ok (.athrow, 1) := by decide +kernel
theorem dX11_setWidth_17 : decode cX11_setWidth 17 = .ok (.iload_n 2, 1) := by decide +kernel
theorem dX11_setWidth_18 : decode cX11_setWidth 18 = .ok (.ifCond .lt 9, 3) := by decide +kernel
theorem dX11_setWidth_21 : decode cX11_setWidth 21 = .ok (.iload_n 2, 1) := by decide +kernel
theorem dX11_setWidth_22 : decode cX11_setWidth 22 = .ok (.bipush 100, 2) := by decide +kernel
theorem dX11_setWidth_24 : decode cX11_setWidth 24 = .ok (.if_icmp .le 13, 3) := by decide +kernel
theorem dX11_setWidth_27 : decode cX11_setWidth 27 = .ok (.new 89, 3) := by decide +kernel
theorem dX11_setWidth_30 : decode cX11_setWidth 30 = .ok (.dup, 1) := by decide +kernel
theorem dX11_setWidth_31 : decode cX11_setWidth 31 = .ok (.ldc 161, 2) := by decide +kernel
theorem dX11_setWidth_33 : decode cX11_setWidth 33 = .ok (.invokespecial 93, 3) := by decide +kernel
theorem dX11_setWidth_36 : decode cX11_setWidth 36 = .ok (.athrow, 1) := by decide +kernel
theorem dX11_setWidth_37 : decode cX11_setWidth 37 = .ok (.aload_n 0, 1) := by decide +kernel
theorem dX11_setWidth_38 : decode cX11_setWidth 38 = .ok (.getfield 11, 3) := by decide +kernel
theorem dX11_setWidth_41 : decode cX11_setWidth 41 = .ok (.aload_n 0, 1) := by decide +kernel
theorem dX11_setWidth_42 : decode cX11_setWidth 42 = .ok (.getfield 69, 3) := by decide +kernel
theorem dX11_setWidth_45 : decode cX11_setWidth 45 = .ok (.aaload, 1) := by decide +kernel
theorem dX11_setWidth_46 : decode cX11_setWidth 46 = .ok (.getfield 163, 3) := by decide +kernel
theorem dX11_setWidth_49 : decode cX11_setWidth 49 = .ok (.iload_n 1, 1) := by decide +kernel
theorem dX11_setWidth_50 : decode cX11_setWidth 50 = .ok (.iaload, 1) := by decide +kernel
theorem dX11_setWidth_51 : decode cX11_setWidth 51 = .ok (.istore_n 3, 1) := by decide +kernel
theorem dX11_setWidth_52 : decode cX11_setWidth 52 = .ok (.aload_n 0, 1) := by decide +kernel
theorem dX11_setWidth_53 : decode cX11_setWidth 53 = .ok (.getfield 11, 3) := by decide +kernel
theorem dX11_setWidth_56 : decode cX11_setWidth 56 = .ok (.aload_n 0, 1) := by decide +kernel
theorem dX11_setWidth_57 : decode cX11_setWidth 57 = .ok (.getfield 69, 3) := by decide +kernel
theorem dX11_setWidth_60 : decode cX11_setWidth 60 = .ok (.aaload, 1) := by decide +kernel
theorem dX11_setWidth_61 : decode cX11_setWidth 61 = .ok (.getfield 163, 3) := by decide +kernel
theorem dX11_setWidth_64 : decode cX11_setWidth 64 = .ok (.iload_n 1, 1) := by decide +kernel
theorem dX11_setWidth_65 : decode cX11_setWidth 65 = .ok (.iload_n 2, 1) := by decide +kernel
theorem dX11_setWidth_66 : decode cX11_setWidth 66 = .ok (.iastore, 1) := by decide +kernel
theorem dX11_setWidth_67 : decode cX11_setWidth 67 = .ok (.aload_n 0, 1) := by decide +kernel
theorem dX11_setWidth_68 : decode cX11_setWidth 68 = .ok (.iconst 1, 1) := by decide +kernel
theorem dX11_setWidth_69 : decode cX11_setWidth 69 = .ok (.putfield 73, 3) := by decide +kernel
theorem dX11_setWidth_72 : decode cX11_setWidth 72 = .ok (.iload_n 3, 1) := by decide +kernel
theorem dX11_setWidth_73 : decode cX11_setWidth 73 = .ok (.ireturn, 1) := by decide +kernel
theorem dX11_lack_0 : decode cX11_lack 0 = .ok (.iload_n 1, 1) := by decide +kernel
theorem dX11_lack_1 : decode cX11_lack 1 = .ok (.invokestatic 166, 3) := by decide +kernel
theorem dX11_lack_4 : decode cX11_lack 4 = .ok (.ifCond .ne 13, 3) := by decide +kernel
theorem dX11_lack_7 : decode cX11_lack 7 = .ok (.new 89, 3) := by decide +kernel
theorem dX11_lack_10 : decode cX11_lack 10 = .ok (.dup, 1) := by decide +kernel
theorem dX11_lack_11 : decode cX11_lack 11 = .ok (.ldc 169, 2) := by decide +kernel
theorem dX11_lack_13 : decode cX11_lack 13 = .ok (.invokespecial 93, 3) := by decide +kernel
theorem dX11_lack_16 : decode cX11_lack 16 = .ok (.athrow, 1) := by decide +kernel
theorem dX11_lack_17 : decode cX11_lack 17 = .ok (.aload_n 0, 1) := by decide +kernel
theorem dX11_lack_18 : decode cX11_lack 18 = .ok (.getfield 18, 3) := by decide +kernel
theorem dX11_lack_21 : decode cX11_lack 21 = .ok (.getfield 171, 3) := by decide +kernel
theorem dX11_lack_24 : decode cX11_lack 24 = .ok (.iload_n 1, 1) := by decide +kernel
theorem dX11_lack_25 : decode cX11_lack 25 = .ok (.aload_n 0, 1) := by decide +kernel
theorem dX11_lack_26 : decode cX11_lack 26 = .ok (.getfield 18, 3) := by decide +kernel
theorem dX11_lack_29 : decode cX11_lack 29 = .ok (.getfield 171, 3) := by decide +kernel
theorem dX11_lack_32 : decode cX11_lack 32 = .ok (.iload_n 1, 1) := by decide +kernel
theorem dX11_lack_33 : decode cX11_lack 33 = .ok (.baload, 1) := by decide +kernel
theorem dX11_lack_34 : decode cX11_lack 34 = .ok (.ifCond .ne 7, 3) := by decide +kernel
theorem dX11_lack_37 : decode cX11_lack 37 = .ok (.iconst 1, 1) := by decide +kernel
theorem dX11_lack_38 : decode cX11_lack 38 = .ok (.goto 4, 3) := by decide +kernel
theorem dX11_lack_41 : decode cX11_lack 41 = .ok (.iconst 0, 1) := by decide +kernel
theorem dX11_lack_42 : decode cX11_lack 42 = .ok (.bastore, 1) := by decide +kernel
theorem dX11_lack_43 : decode cX11_lack 43 = .ok (.aload_n 0, 1) := by decide +kernel
theorem dX11_lack_44 : decode cX11_lack 44 = .ok (.iconst 1, 1) := by decide +kernel
theorem dX11_lack_45 : decode cX11_lack 45 = .ok (.putfield 73, 3) := by decide +kernel
theorem dX11_lack_48 : decode cX11_lack 48 = .ok (.aload_n 0, 1) := by decide +kernel
theorem dX11_lack_49 : decode cX11_lack 49 = .ok (.getfield 18, 3) := by decide +kernel
theorem dX11_lack_52 : decode cX11_lack 52 = .ok (.getfield 171, 3) := by decide +kernel
theorem dX11_lack_55 : decode cX11_lack 55 = .ok (.iload_n 1, 1) := by decide +kernel
theorem dX11_lack_56 : decode cX11_lack 56 = .ok (.baload, 1) := by decide +kernel
theorem dX11_lack_57 : decode cX11_lack 57 = .ok (.ireturn, 1) := by decide +kernel
theorem dX11_size_0 : decode cX11_size 0 = .ok (.aload_n 0, 1) := by decide +kernel
theorem dX11_size_1 : decode cX11_size 1 = .ok (.getfield 11, 3) := by decide +kernel
theorem dX11_size_4 : decode cX11_size 4 = .ok (.aload_n 0, 1) := by decide +kernel
theorem dX11_size_5 : decode cX11_size 5 = .ok (.getfield 69, 3) := by decide +kernel
theorem dX11_size_8 : decode cX11_size 8 = .ok (.aaload, 1) := by decide +kernel
theorem dX11_size_9 : decode cX11_size 9 = .ok (.iload_n 1, 1) := by decide +kernel
theorem dX11_size_10 : decode cX11_size 10 = .ok (.invokevirtual 115, 3) := by decide +kernel
theorem dX11_size_13 : decode cX11_size 13 = .ok (.astore_n 2, 1) := by decide +kernel
theorem dX11_size_14 : decode cX11_size 14 = .ok (.aload_n 2, 1) := by decide +kernel
theorem dX11_size_15 : decode cX11_size 15 = .ok (.ifnonnull 13, 3) := by decide +kernel
theorem dX11_size_18 : decode cX11_size 18 = .ok (.new 78, 3) := by decide +kernel
theorem dX11_size_21 : decode cX11_size 21 = .ok (.dup, 1) := by decide +kernel
theorem dX11_size_22 : decode cX11_size 22 = .ok (.ldc 119, 2) := by decide +kernel
theorem dX11_size_24 : decode cX11_size 24 = .ok (.invokespecial 82, 3) := by decide +kernel
theorem dX11_size_27 : decode cX11_size 27 = .ok (.athrow, 1) := by decide +kernel
theorem dX11_size_28 : decode cX11_size 28 = .ok (.aload_n 2, 1) := by decide +kernel
theorem dX11_size_29 : decode cX11_size 29 = .ok (.invokevirtual 175, 3) := by decide +kernel
theorem dX11_size_32 : decode cX11_size 32 = .ok (.ireturn, 1) := by decide +kernel
theorem dX11_insert_0 : decode cX11_insert 0 = .ok (.iload_n 1, 1) := by decide +kernel
theorem dX11_insert_1 : decode cX11_insert 1 = .ok (.ifCond .lt 14, 3) := by decide +kernel
theorem dX11_insert_4 : decode cX11_insert 4 = .ok (.iload_n 1, 1) := by decide +kernel
theorem dX11_insert_5 : decode cX11_insert 5 = .ok (.aload_n 0, 1) := by decide +kernel
theorem dX11_insert_6 : decode cX11_insert 6 = .ok (.getfield 18, 3) := by decide +kernel
theorem dX11_insert_9 : decode cX11_insert 9 = .ok (.getfield 179, 3) := by decide +kernel
theorem dX11_insert_12 : decode cX11_insert 12 = .ok (.if_icmp .le 13, 3) := by decide +kernel
theorem dX11_insert_15 : decode cX11_insert 15 = .ok (.new 78, 3) := by decide +kernel
theorem dX11_insert_18 : decode cX11_insert 18 = .ok (.dup, 1) := by decide +kernel
theorem dX11_insert_19 : decode cX11_insert 19 = .ok (.ldc 182, 2) := by decide +kernel
theorem dX11_insert_21 : decode cX11_insert 21 = .ok (.invokespecial 82, 3) := by decide +kernel
theorem dX11_insert_24 : decode cX11_insert 24 = .ok (.athrow, 1) := by decide +kernel
theorem dX11_insert_25 : decode cX11_insert 25 = .ok (.iload_n 2, 1) := by decide +kernel
theorem dX11_insert_26 : decode cX11_insert 26 = .ok (.invokestatic 166, 3) := by decide +kernel
theorem dX11_insert_29 : decode cX11_insert 29 = .ok (.ifCond .ne 13, 3) := by decide +kernel
theorem dX11_insert_32 : decode cX11_insert 32 = .ok (.new 89, 3) := by decide +kernel
theorem dX11_insert_35 : decode cX11_insert 35 = .ok (.dup, 1) := by decide +kernel
theorem dX11_insert_36 : decode cX11_insert 36 = .ok (.ldc 169, 2) := by decide +kernel
theorem dX11_insert_38 : decode cX11_insert 38 = .ok (.invokespecial 93, 3) := by decide +kernel
theorem dX11_insert_41 : decode cX11_insert 41 = .ok (.athrow, 1) := by decide +kernel
theorem dX11_insert_42 : decode cX11_insert 42 = .ok (.aload_n 0, 1) := by decide +kernel
theorem dX11_insert_43 : decode cX11_insert 43 = .ok (.getfield 18, 3) := by decide +kernel
theorem dX11_insert_46 : decode cX11_insert 46 = .ok (.getfield 179, 3) := by decide +kernel
theorem dX11_insert_49 : decode cX11_insert 49 = .ok (.bipush 16, 2) := by decide +kernel
theorem dX11_insert_51 : decode cX11_insert 51 = .ok (.if_icmp .lt 13, 3) := by decide +kernel
theorem dX11_insert_54 : decode cX11_insert 54 = .ok (.new 101, 3) := by decide +kernel
theorem dX11_insert_57 : decode cX11_insert 57 = .ok (.dup, 1) := by decide +kernel
theorem dX11_insert_58 : decode cX11_insert 58 = .ok (.ldc 184, 2) := by decide +kernel
theorem dX11_insert_60 : decode cX11_insert 60 = .ok (.invokespecial 105, 3) := by decide +kernel
theorem dX11_insert_63 : decode cX11_insert 63 = .ok (.athrow, 1) := by decide +kernel
theorem dX11_insert_64 : decode cX11_insert 64 = .ok (.aload_n 0, 1) := by decide +kernel
theorem dX11_insert_65 : decode cX11_insert 65 = .ok (.getfield 18, 3) := by decide +kernel
theorem dX11_insert_68 : decode cX11_insert 68 = .ok (.iload_n 1, 1) := by decide +kernel
theorem dX11_insert_69 : decode cX11_insert 69 = .ok (.iload_n 2, 1) := by decide +kernel
theorem dX11_insert_70 : decode cX11_insert 70 = .ok (.invokevirtual 186, 3) := by decide +kernel
theorem dX11_insert_73 : decode cX11_insert 73 = .ok (.aload_n 0, 1) := by decide +kernel
theorem dX11_insert_74 : decode cX11_insert 74 = .ok (.iconst 1, 1) := by decide +kernel
theorem dX11_insert_75 : decode cX11_insert 75 = .ok (.putfield 73, 3) := by decide +kernel
theorem dX11_insert_78 : decode cX11_insert 78 = .ok (.aload_n 0, 1) := by decide +kernel
theorem dX11_insert_79 : decode cX11_insert 79 = .ok (.getfield 18, 3) := by decide +kernel
theorem dX11_insert_82 : decode cX11_insert 82 = .ok (.getfield 179, 3) := by decide +kernel
theorem dX11_insert_85 : decode cX11_insert 85 = .ok (.ireturn, 1) := by decide +kernel
theorem dX11_cut_0 : decode cX11_cut 0 = .ok (.aload_n 0, 1) := by decide +kernel
theorem dX11_cut_1 : decode cX11_cut 1 = .ok (.iload_n 1, 1) := by decide +kernel
theorem dX11_cut_2 : decode cX11_cut 2 = .ok (.invokevirtual 189, 3) := by decide +kernel
theorem dX11_cut_5 : decode cX11_cut 5 = .ok (.aload_n 0, 1) := by decide +kernel
theorem dX11_cut_6 : decode cX11_cut 6 = .ok (.getfield 18, 3) := by decide +kernel
theorem dX11_cut_9 : decode cX11_cut 9 = .ok (.iload_n 1, 1) := by decide +kernel
theorem dX11_cut_10 : decode cX11_cut 10 = .ok (.invokevirtual 193, 3) := by decide +kernel
theorem dX11_cut_13 : decode cX11_cut 13 = .ok (.istore_n 2, 1) := by decide +kernel
theorem dX11_cut_14 : decode cX11_cut 14 = .ok (.aload_n 0, 1) := by decide +kernel
theorem dX11_cut_15 : decode cX11_cut 15 = .ok (.iconst 1, 1) := by decide +kernel
theorem dX11_cut_16 : decode cX11_cut 16 = .ok (.putfield 73, 3) := by decide +kernel
theorem dX11_cut_19 : decode cX11_cut 19 = .ok (.iload_n 2, 1) := by decide +kernel
theorem dX11_cut_20 : decode cX11_cut 20 = .ok (.ireturn, 1) := by decide +kernel
theorem dX11_setTongue_0 : decode cX11_setTongue 0 = .ok (.iload_n 1, 1) := by decide +kernel
theorem dX11_setTongue_1 : decode cX11_setTongue 1 = .ok (.iconst 1, 1) := by decide +kernel
theorem dX11_setTongue_2 : decode cX11_setTongue 2 = .ok (.if_icmp .lt 8, 3) := by decide +kernel
theorem dX11_setTongue_5 : decode cX11_setTongue 5 = .ok (.iload_n 1, 1) := by decide +kernel
theorem dX11_setTongue_6 : decode cX11_setTongue 6 = .ok (.iconst 2, 1) := by decide +kernel
theorem dX11_setTongue_7 : decode cX11_setTongue 7 = .ok (.if_icmp .le 13, 3) := by decide +kernel
theorem dX11_setTongue_10 : decode cX11_setTongue 10 = .ok (.new 89, 3) := by decide +kernel
theorem dX11_setTongue_13 : decode cX11_setTongue 13 = .ok (.dup, 1) := by decide +kernel
theorem dX11_setTongue_14 : decode cX11_setTongue 14 = .ok (.ldc 94, 2) := by decide +kernel
theorem dX11_setTongue_16 : decode cX11_setTongue 16 = .ok (.invokespecial 93, 3) := by decide +kernel
theorem dX11_setTongue_19 : decode cX11_setTongue 19 = .ok (.athrow, 1) := by decide +kernel
theorem dX11_setTongue_20 : decode cX11_setTongue 20 = .ok (.aload_n 0, 1) := by decide +kernel
theorem dX11_setTongue_21 : decode cX11_setTongue 21 = .ok (.getfield 18, 3) := by decide +kernel
theorem dX11_setTongue_24 : decode cX11_setTongue 24 = .ok (.getfield 197, 3) := by decide +kernel
theorem dX11_setTongue_27 : decode cX11_setTongue 27 = .ok (.istore_n 2, 1) := by decide +kernel
theorem dX11_setTongue_28 : decode cX11_setTongue 28 = .ok (.aload_n 0, 1) := by decide +kernel
theorem dX11_setTongue_29 : decode cX11_setTongue 29 = .ok (.getfield 18, 3) := by decide +kernel
theorem dX11_setTongue_32 : decode cX11_setTongue 32 = .ok (.iload_n 1, 1) := by decide +kernel
theorem dX11_setTongue_33 : decode cX11_setTongue 33 = .ok (.putfield 197, 3) := by decide +kernel
theorem dX11_setTongue_36 : decode cX11_setTongue 36 = .ok (.aload_n 0, 1) := by decide +kernel
theorem dX11_setTongue_37 : decode cX11_setTongue 37 = .ok (.iconst 1, 1) := by decide +kernel
theorem dX11_setTongue_38 : decode cX11_setTongue 38 = .ok (.putfield 73, 3) := by decide +kernel
theorem dX11_setTongue_41 : decode cX11_setTongue 41 = .ok (.iload_n 2, 1) := by decide +kernel
theorem dX11_setTongue_42 : decode cX11_setTongue 42 = .ok (.ireturn, 1) := by decide +kernel
theorem dX11_setExtra_0 : decode cX11_setExtra 0 = .ok (.aload_n 0, 1) := by decide +kernel
theorem dX11_setExtra_1 : decode cX11_setExtra 1 = .ok (.iload_n 1, 1) := by decide +kernel
theorem dX11_setExtra_2 : decode cX11_setExtra 2 = .ok (.invokevirtual 189, 3) := by decide +kernel
theorem dX11_setExtra_5 : decode cX11_setExtra 5 = .ok (.aload_n 0, 1) := by decide +kernel
theorem dX11_setExtra_6 : decode cX11_setExtra 6 = .ok (.iload_n 2, 1) := by decide +kernel
theorem dX11_setExtra_7 : decode cX11_setExtra 7 = .ok (.invokevirtual 189, 3) := by decide +kernel
theorem dX11_setExtra_10 : decode cX11_setExtra 10 = .ok (.iload_n 2, 1) := by decide +kernel
theorem dX11_setExtra_11 : decode cX11_setExtra 11 = .ok (.iload_n 1, 1) := by decide +kernel
theorem dX11_setExtra_12 : decode cX11_setExtra 12 = .ok (.if_icmp .ge 13, 3) := by decide +kernel
theorem dX11_setExtra_15 : decode cX11_setExtra 15 = .ok (.new 78, 3) := by decide +kernel
theorem dX11_setExtra_18 : decode cX11_setExtra 18 = .ok (.dup, 1) := by decide +kernel
theorem dX11_setExtra_19 : decode cX11_setExtra 19 = .ok (.ldc 200, 2) := by decide +kernel
theorem dX11_setExtra_21 : decode cX11_setExtra 21 = .ok (.invokespecial 82, 3) := by decide +kernel
theorem dX11_setExtra_24 : decode cX11_setExtra 24 = .ok (.athrow, 1) := by decide +kernel
theorem dX11_setExtra_25 : decode cX11_setExtra 25 = .ok (.iload_n 3, 1) := by decide +kernel
theorem dX11_setExtra_26 : decode cX11_setExtra 26 = .ok (.ifCond .lt 8, 3) := by decide +kernel
theorem dX11_setExtra_29 : decode cX11_setExtra 29 = .ok (.iload_n 3, 1) := by decide +kernel
theorem dX11_setExtra_30 : decode cX11_setExtra 30 = .ok (.iconst 3, 1) := by decide +kernel
theorem dX11_setExtra_31 : decode cX11_setExtra 31 = .ok (.if_icmp .le 13, 3) := by decide +kernel
theorem dX11_setExtra_34 : decode cX11_setExtra 34 = .ok (.new 89, 3) := by decide +kernel
theorem dX11_setExtra_37 : decode cX11_setExtra 37 = .ok (.dup, 1) := by decide +kernel
theorem dX11_setExtra_38 : decode cX11_setExtra 38 = .ok (.ldc 202, 2) := by decide +kernel
theorem dX11_setExtra_40 : decode cX11_setExtra 40 = .ok (.invokespecial 93, 3) := by decide +kernel
theorem dX11_setExtra_43 : decode cX11_setExtra 43 = .ok (.athrow, 1) := by decide +kernel
theorem dX11_setExtra_44 : decode cX11_setExtra 44 = .ok (.aload_n 0, 1) := by decide +kernel
theorem dX11_setExtra_45 : decode cX11_setExtra 45 = .ok (.iconst 1, 1) := by decide +kernel
theorem dX11_setExtra_46 : decode cX11_setExtra 46 = .ok (.putfield 73, 3) := by decide +kernel
theorem dX11_setExtra_49 : decode cX11_setExtra 49 = .ok (.aload_n 0, 1) := by decide +kernel
theorem dX11_setExtra_50 : decode cX11_setExtra 50 = .ok (.getfield 18, 3) := by decide +kernel
theorem dX11_setExtra_53 : decode cX11_setExtra 53 = .ok (.iload_n 1, 1) := by decide +kernel
theorem dX11_setExtra_54 : decode cX11_setExtra 54 = .ok (.iload_n 2, 1) := by decide +kernel
theorem dX11_setExtra_55 : decode cX11_setExtra 55 = .ok (.iload_n 3, 1) := by decide +kernel
theorem dX11_setExtra_56 : decode cX11_setExtra 56 = .ok (.invokevirtual 204, 3) := by decide +kernel
theorem dX11_setExtra_59 : decode cX11_setExtra 59 = .ok (.ireturn, 1) := by decide +kernel
theorem dX11_glyphs_0 : decode cX11_glyphs 0 = .ok (.aload_n 0, 1) := by decide +kernel
theorem dX11_glyphs_1 : decode cX11_glyphs 1 = .ok (.invokevirtual 208, 3) := by decide +kernel
theorem dX11_glyphs_4 : decode cX11_glyphs 4 = .ok (.getfield 212, 3) := by decide +kernel
theorem dX11_glyphs_7 : decode cX11_glyphs 7 = .ok (.ireturn, 1) := by decide +kernel
theorem dX11_glyph_0 : decode cX11_glyph 0 = .ok (.aload_n 0, 1) := by decide +kernel
theorem dX11_glyph_1 : decode cX11_glyph 1 = .ok (.invokevirtual 208, 3) := by decide +kernel
theorem dX11_glyph_4 : decode cX11_glyph 4 = .ok (.astore_n 2, 1) := by decide +kernel
theorem dX11_glyph_5 : decode cX11_glyph 5 = .ok (.aload_n 2, 1) := by decide +kernel
theorem dX11_glyph_6 : decode cX11_glyph 6 = .ok (.iload_n 1, 1) := by decide +kernel
theorem dX11_glyph_7 : decode cX11_glyph 7 = .ok (.invokestatic 213, 3) := by decide +kernel
theorem dX11_glyph_10 : decode cX11_glyph 10 = .ok (.aload_n 2, 1) := by decide +kernel
theorem dX11_glyph_11 : decode cX11_glyph 11 = .ok (.getfield 217, 3) := by decide +kernel
theorem dX11_glyph_14 : decode cX11_glyph 14 = .ok (.iload_n 1, 1) := by decide +kernel
theorem dX11_glyph_15 : decode cX11_glyph 15 = .ok (.iaload, 1) := by decide +kernel
theorem dX11_glyph_16 : decode cX11_glyph 16 = .ok (.ireturn, 1) := by decide +kernel
theorem dX11_glyphAnew_0 : decode cX11_glyphAnew 0 = .ok (.aload_n 0, 1) := by decide +kernel
theorem dX11_glyphAnew_1 : decode cX11_glyphAnew 1 = .ok (.getfield 66, 3) := by decide +kernel
theorem dX11_glyphAnew_4 : decode cX11_glyphAnew 4 = .ok (.invokevirtual 220, 3) := by decide +kernel
theorem dX11_glyphAnew_7 : decode cX11_glyphAnew 7 = .ok (.aload_n 0, 1) := by decide +kernel
theorem dX11_glyphAnew_8 : decode cX11_glyphAnew 8 = .ok (.aload_n 0, 1) := by decide +kernel
theorem dX11_glyphAnew_9 : decode cX11_glyphAnew 9 = .ok (.getfield 66, 3) := by decide +kernel
theorem dX11_glyphAnew_12 : decode cX11_glyphAnew 12 = .ok (.iconst 0, 1) := by decide +kernel
theorem dX11_glyphAnew_13 : decode cX11_glyphAnew 13 = .ok (.aload_n 0, 1) := by decide +kernel
theorem dX11_glyphAnew_14 : decode cX11_glyphAnew 14 = .ok (.getfield 18, 3) := by decide +kernel
theorem dX11_glyphAnew_17 : decode cX11_glyphAnew 17 = .ok (.getfield 179, 3) := by decide +kernel
theorem dX11_glyphAnew_20 : decode cX11_glyphAnew 20 = .ok (.iconst 0, 1) := by decide +kernel
theorem dX11_glyphAnew_21 : decode cX11_glyphAnew 21 = .ok (.invokevirtual 223, 3) := by decide +kernel
theorem dX11_glyphAnew_24 : decode cX11_glyphAnew 24 = .ok (.aload_n 0, 1) := by decide +kernel
theorem dX11_glyphAnew_25 : decode cX11_glyphAnew 25 = .ok (.getfield 66, 3) := by decide +kernel
theorem dX11_glyphAnew_28 : decode cX11_glyphAnew 28 = .ok (.iload_n 1, 1) := by decide +kernel
theorem dX11_glyphAnew_29 : decode cX11_glyphAnew 29 = .ok (.invokestatic 213, 3) := by decide +kernel
theorem dX11_glyphAnew_32 : decode cX11_glyphAnew 32 = .ok (.aload_n 0, 1) := by decide +kernel
theorem dX11_glyphAnew_33 : decode cX11_glyphAnew 33 = .ok (.getfield 66, 3) := by decide +kernel
theorem dX11_glyphAnew_36 : decode cX11_glyphAnew 36 = .ok (.getfield 217, 3) := by decide +kernel
theorem dX11_glyphAnew_39 : decode cX11_glyphAnew 39 = .ok (.iload_n 1, 1) := by decide +kernel
theorem dX11_glyphAnew_40 : decode cX11_glyphAnew 40 = .ok (.iaload, 1) := by decide +kernel
theorem dX11_glyphAnew_41 : decode cX11_glyphAnew 41 = .ok (.ireturn, 1) := by decide +kernel
theorem dX11_cluster_0 : decode cX11_cluster 0 = .ok (.aload_n 0, 1) := by decide +kernel
theorem dX11_cluster_1 : decode cX11_cluster 1 = .ok (.invokevirtual 208, 3) := by decide +kernel
theorem dX11_cluster_4 : decode cX11_cluster 4 = .ok (.astore_n 2, 1) := by decide +kernel
theorem dX11_cluster_5 : decode cX11_cluster 5 = .ok (.aload_n 2, 1) := by decide +kernel
theorem dX11_cluster_6 : decode cX11_cluster 6 = .ok (.iload_n 1, 1) := by decide +kernel
theorem dX11_cluster_7 : decode cX11_cluster 7 = .ok (.invokestatic 213, 3) := by decide +kernel
theorem dX11_cluster_10 : decode cX11_cluster 10 = .ok (.aload_n 2, 1) := by decide +kernel
theorem dX11_cluster_11 : decode cX11_cluster 11 = .ok (.getfield 227, 3) := by decide +kernel
theorem dX11_cluster_14 : decode cX11_cluster 14 = .ok (.iload_n 1, 1) := by decide +kernel
theorem dX11_cluster_15 : decode cX11_cluster 15 = .ok (.iaload, 1) := by decide +kernel
theorem dX11_cluster_16 : decode cX11_cluster 16 = .ok (.ireturn, 1) := by decide +kernel
theorem dX11_place_0 : decode cX11_place 0 = .ok (.aload_n 0, 1) := by decide +kernel
theorem dX11_place_1 : decode cX11_place 1 = .ok (.invokevirtual 208, 3) := by decide +kernel
theorem dX11_place_4 : decode cX11_place 4 = .ok (.astore_n 3, 1) := by decide +kernel
theorem dX11_place_5 : decode cX11_place 5 = .ok (.aload_n 3, 1) := by decide +kernel
theorem dX11_place_6 : decode cX11_place 6 = .ok (.iload_n 1, 1) := by decide +kernel
theorem dX11_place_7 : decode cX11_place 7 = .ok (.invokestatic 213, 3) := by decide +kernel
theorem dX11_place_10 : decode cX11_place 10 = .ok (.iload_n 2, 1) := by decide +kernel
theorem dX11_place_11 : decode cX11_place 11 = .ok (.tableswitch 46 0 2 #[25, 32, 39], 25) := by decide +kernel
theorem dX11_place_36 : decode cX11_place 36 = .ok (.aload_n 3, 1) := by decide +kernel
theorem dX11_place_37 : decode cX11_place 37 = .ok (.getfield 230, 3) := by decide +kernel
theorem dX11_place_40 : decode cX11_place 40 = .ok (.iload_n 1, 1) := by decide +kernel
theorem dX11_place_41 : decode cX11_place 41 = .ok (.iaload, 1) := by decide +kernel
theorem dX11_place_42 : decode cX11_place 42 = .ok (.ireturn, 1) := by decide +kernel
theorem dX11_place_43 : decode cX11_place 43 = .ok (.aload_n 3, 1) := by decide +kernel
theorem dX11_place_44 : decode cX11_place 44 = .ok (.getfield 233, 3) := by decide +kernel
theorem dX11_place_47 : decode cX11_place 47 = .ok (.iload_n 1, 1) := by decide +kernel
theorem dX11_place_48 : decode cX11_place 48 = .ok (.iaload, 1) := by decide +kernel
theorem dX11_place_49 : decode cX11_place 49 = .ok (.ireturn, 1) := by decide +kernel
theorem dX11_place_50 : decode cX11_place 50 = .ok (.aload_n 3, 1) := by decide +kernel
theorem dX11_place_51 : decode cX11_place 51 = .ok (.getfield 236, 3) := by decide +kernel
theorem dX11_place_54 : decode cX11_place 54 = .ok (.iload_n 1, 1) := by decide +kernel
theorem dX11_place_55 : decode cX11_place 55 = .ok (.iaload, 1) := by decide +kernel
theorem dX11_place_56 : decode cX11_place 56 = .ok (.ireturn, 1) := by decide +kernel
theorem dX11_place_57 : decode cX11_place 57 = .ok (.new 89, 3) := by decide +kernel
theorem dX11_place_60 : decode cX11_place 60 = .ok (.dup, 1) := by decide +kernel
theorem dX11_place_61 : decode cX11_place 61 = .ok (.ldc 239, 2) := by decide +kernel
theorem dX11_place_63 : decode cX11_place 63 = .ok (.invokespecial 93, 3) := by decide +kernel
theorem dX11_place_66 : decode cX11_place 66 = .ok (.athrow, 1) := by decide +kernel
theorem dX11_form_0 : decode cX11_form 0 = .ok (.aload_n 0, 1) := by decide +kernel
theorem dX11_form_1 : decode cX11_form 1 = .ok (.iload_n 1, 1) := by decide +kernel
theorem dX11_form_2 : decode cX11_form 2 = .ok (.invokevirtual 189, 3) := by decide +kernel
theorem dX11_form_5 : decode cX11_form 5 = .ok (.aload_n 0, 1) := by decide +kernel
theorem dX11_form_6 : decode cX11_form 6 = .ok (.invokevirtual 208, 3) := by decide +kernel
theorem dX11_form_9 : decode cX11_form 9 = .ok (.getfield 241, 3) := by decide +kernel
theorem dX11_form_12 : decode cX11_form 12 = .ok (.getfield 245, 3) := by decide +kernel
theorem dX11_form_15 : decode cX11_form 15 = .ok (.iload_n 1, 1) := by decide +kernel
theorem dX11_form_16 : decode cX11_form 16 = .ok (.iaload, 1) := by decide +kernel
theorem dX11_form_17 : decode cX11_form 17 = .ok (.ireturn, 1) := by decide +kernel
theorem dX11_run_0 : decode cX11_run 0 = .ok (.aload_n 0, 1) := by decide +kernel
theorem dX11_run_1 : decode cX11_run 1 = .ok (.iload_n 1, 1) := by decide +kernel
theorem dX11_run_2 : decode cX11_run 2 = .ok (.invokevirtual 189, 3) := by decide +kernel
theorem dX11_run_5 : decode cX11_run 5 = .ok (.aload_n 0, 1) := by decide +kernel
theorem dX11_run_6 : decode cX11_run 6 = .ok (.invokevirtual 208, 3) := by decide +kernel
theorem dX11_run_9 : decode cX11_run 9 = .ok (.getfield 241, 3) := by decide +kernel
theorem dX11_run_12 : decode cX11_run 12 = .ok (.iload_n 1, 1) := by decide +kernel
theorem dX11_run_13 : decode cX11_run 13 = .ok (.invokevirtual 250, 3) := by decide +kernel
theorem dX11_run_16 : decode cX11_run 16 = .ok (.ireturn, 1) := by decide +kernel
theorem dX11_caret_0 : decode cX11_caret 0 = .ok (.aload_n 0, 1) := by decide +kernel
theorem dX11_caret_1 : decode cX11_caret 1 = .ok (.iload_n 1, 1) := by decide +kernel
theorem dX11_caret_2 : decode cX11_caret 2 = .ok (.invokevirtual 189, 3) := by decide +kernel
theorem dX11_caret_5 : decode cX11_caret 5 = .ok (.aload_n 0, 1) := by decide +kernel
theorem dX11_caret_6 : decode cX11_caret 6 = .ok (.invokevirtual 208, 3) := by decide +kernel
theorem dX11_caret_9 : decode cX11_caret 9 = .ok (.iload_n 1, 1) := by decide +kernel
theorem dX11_caret_10 : decode cX11_caret 10 = .ok (.invokevirtual 253, 3) := by decide +kernel
theorem dX11_caret_13 : decode cX11_caret 13 = .ok (.ireturn, 1) := by decide +kernel
theorem dX11_hit_0 : decode cX11_hit 0 = .ok (.iload_n 1, 1) := by decide +kernel
theorem dX11_hit_1 : decode cX11_hit 1 = .ok (.sipush (-1000), 3) := by decide +kernel
theorem dX11_hit_4 : decode cX11_hit 4 = .ok (.if_icmp .lt 10, 3) := by decide +kernel
theorem dX11_hit_7 : decode cX11_hit 7 = .ok (.iload_n 1, 1) := by decide +kernel
theorem dX11_hit_8 : decode cX11_hit 8 = .ok (.sipush 10000, 3) := by decide +kernel
theorem dX11_hit_11 : decode cX11_hit 11 = .ok (.if_icmp .le 14, 3) := by decide +kernel
theorem dX11_hit_14 : decode cX11_hit 14 = .ok (.new 89, 3) := by decide +kernel
theorem dX11_hit_17 : decode cX11_hit 17 = .ok (.dup, 1) := by decide +kernel
theorem dX11_hit_18 : decode cX11_hit 18 = .ok (.ldc_w 256, 3) := by decide +kernel
theorem dX11_hit_21 : decode cX11_hit 21 = .ok (.invokespecial 93, 3) := by decide +kernel
theorem dX11_hit_24 : decode cX11_hit 24 = .ok (.athrow, 1) := by decide +kernel
theorem dX11_hit_25 : decode cX11_hit 25 = .ok (.aload_n 0, 1) := by decide +kernel
theorem dX11_hit_26 : decode cX11_hit 26 = .ok (.invokevirtual 208, 3) := by decide +kernel
theorem dX11_hit_29 : decode cX11_hit 29 = .ok (.astore_n 2, 1) := by decide +kernel
theorem dX11_hit_30 : decode cX11_hit 30 = .ok (.bipush (-100), 2) := by decide +kernel
theorem dX11_hit_32 : decode cX11_hit 32 = .ok (.istore_n 3, 1) := by decide +kernel
theorem dX11_hit_33 : decode cX11_hit 33 = .ok (.iconst 0, 1) := by decide +kernel
theorem dX11_hit_34 : decode cX11_hit 34 = .ok (.istore 4, 2) := by decide +kernel
theorem dX11_hit_36 : decode cX11_hit 36 = .ok (.iconst 0, 1) := by decide +kernel
theorem dX11_hit_37 : decode cX11_hit 37 = .ok (.istore 5, 2) := by decide +kernel
theorem dX11_hit_39 : decode cX11_hit 39 = .ok (.iload 5, 2) := by decide +kernel
theorem dX11_hit_41 : decode cX11_hit 41 = .ok (.aload_n 0, 1) := by decide +kernel
theorem dX11_hit_42 : decode cX11_hit 42 = .ok (.getfield 18, 3) := by decide +kernel
theorem dX11_hit_45 : decode cX11_hit 45 = .ok (.getfield 179, 3) := by decide +kernel
theorem dX11_hit_48 : decode cX11_hit 48 = .ok (.if_icmp .ge 42, 3) := by decide +kernel
theorem dX11_hit_51 : decode cX11_hit 51 = .ok (.aload_n 2, 1) := by decide +kernel
theorem dX11_hit_52 : decode cX11_hit 52 = .ok (.iload 5, 2) := by decide +kernel
theorem dX11_hit_54 : decode cX11_hit 54 = .ok (.invokevirtual 253, 3) := by decide +kernel
theorem dX11_hit_57 : decode cX11_hit 57 = .ok (.iload_n 1, 1) := by decide +kernel
theorem dX11_hit_58 : decode cX11_hit 58 = .ok (.isub, 1) := by decide +kernel
theorem dX11_hit_59 : decode cX11_hit 59 = .ok (.invokestatic 258, 3) := by decide +kernel
theorem dX11_hit_62 : decode cX11_hit 62 = .ok (.istore 6, 2) := by decide +kernel
theorem dX11_hit_64 : decode cX11_hit 64 = .ok (.iload_n 3, 1) := by decide +kernel
theorem dX11_hit_65 : decode cX11_hit 65 = .ok (.bipush (-100), 2) := by decide +kernel
theorem dX11_hit_67 : decode cX11_hit 67 = .ok (.if_icmp .eq 10, 3) := by decide +kernel
theorem dX11_hit_70 : decode cX11_hit 70 = .ok (.iload 6, 2) := by decide +kernel
theorem dX11_hit_72 : decode cX11_hit 72 = .ok (.iload 4, 2) := by decide +kernel
theorem dX11_hit_74 : decode cX11_hit 74 = .ok (.if_icmp .ge 10, 3) := by decide +kernel
theorem dX11_hit_77 : decode cX11_hit 77 = .ok (.iload 5, 2) := by decide +kernel
theorem dX11_hit_79 : decode cX11_hit 79 = .ok (.istore_n 3, 1) := by decide +kernel
theorem dX11_hit_80 : decode cX11_hit 80 = .ok (.iload 6, 2) := by decide +kernel
theorem dX11_hit_82 : decode cX11_hit 82 = .ok (.istore 4, 2) := by decide +kernel
theorem dX11_hit_84 : decode cX11_hit 84 = .ok (.iinc 5 1, 3) := by decide +kernel
theorem dX11_hit_87 : decode cX11_hit 87 = .ok (.goto (-48), 3) := by decide +kernel
theorem dX11_hit_90 : decode cX11_hit 90 = .ok (.iload_n 3, 1) := by decide +kernel
theorem dX11_hit_91 : decode cX11_hit 91 = .ok (.ireturn, 1) := by decide +kernel
theorem dX11_isSafe_0 : decode cX11_isSafe 0 = .ok (.iload_n 1, 1) := by decide +kernel
theorem dX11_isSafe_1 : decode cX11_isSafe 1 = .ok (.iconst 1, 1) := by decide +kernel
theorem dX11_isSafe_2 : decode cX11_isSafe 2 = .ok (.if_icmp .lt 14, 3) := by decide +kernel
theorem dX11_isSafe_5 : decode cX11_isSafe 5 = .ok (.iload_n 1, 1) := by decide +kernel
theorem dX11_isSafe_6 : decode cX11_isSafe 6 = .ok (.aload_n 0, 1) := by decide +kernel
theorem dX11_isSafe_7 : decode cX11_isSafe 7 = .ok (.getfield 18, 3) := by decide +kernel
theorem dX11_isSafe_10 : decode cX11_isSafe 10 = .ok (.getfield 179, 3) := by decide +kernel
theorem dX11_isSafe_13 : decode cX11_isSafe 13 = .ok (.if_icmp .lt 13, 3) := by decide +kernel
theorem dX11_isSafe_16 : decode cX11_isSafe 16 = .ok (.new 78, 3) := by decide +kernel
theorem dX11_isSafe_19 : decode cX11_isSafe 19 = .ok (.dup, 1) := by decide +kernel
theorem dX11_isSafe_20 : decode cX11_isSafe 20 = .ok (.ldc 182, 2) := by decide +kernel
theorem dX11_isSafe_22 : decode cX11_isSafe 22 = .ok (.invokespecial 82, 3) := by decide +kernel
theorem dX11_isSafe_25 : decode cX11_isSafe 25 = .ok (.athrow, 1) := by decide +kernel
theorem dX11_isSafe_26 : decode cX11_isSafe 26 = .ok (.aload_n 0, 1) := by decide +kernel
theorem dX11_isSafe_27 : decode cX11_isSafe 27 = .ok (.invokevirtual 208, 3) := by decide +kernel
theorem dX11_isSafe_30 : decode cX11_isSafe 30 = .ok (.astore_n 2, 1) := by decide +kernel
theorem dX11_isSafe_31 : decode cX11_isSafe 31 = .ok (.aload_n 0, 1) := by decide +kernel
theorem dX11_isSafe_32 : decode cX11_isSafe 32 = .ok (.getfield 66, 3) := by decide +kernel
theorem dX11_isSafe_35 : decode cX11_isSafe 35 = .ok (.invokevirtual 220, 3) := by decide +kernel
theorem dX11_isSafe_38 : decode cX11_isSafe 38 = .ok (.aload_n 0, 1) := by decide +kernel
theorem dX11_isSafe_39 : decode cX11_isSafe 39 = .ok (.aload_n 0, 1) := by decide +kernel
theorem dX11_isSafe_40 : decode cX11_isSafe 40 = .ok (.getfield 66, 3) := by decide +kernel
theorem dX11_isSafe_43 : decode cX11_isSafe 43 = .ok (.iconst 0, 1) := by decide +kernel
