theorem dX0_init_0 : decode cX0_init 0 = .ok (.aload_n 0, 1) := by decide +kernel
theorem dX0_init_1 : decode cX0_init 1 = .ok (.invokespecial 3, 3) := by decide +kernel
theorem dX0_init_4 : decode cX0_init 4 = .ok (.aload_n 0, 1) := by decide +kernel
theorem dX0_init_5 : decode cX0_init 5 = .ok (.iconst 3, 1) := by decide +kernel
theorem dX0_init_6 : decode cX0_init 6 = .ok (.newarray .int, 2) := by decide +kernel
theorem dX0_init_8 : decode cX0_init 8 = .ok (.putfield 9, 3) := by decide +kernel
theorem dX0_init_11 : decode cX0_init 11 = .ok (.aload_n 0, 1) := by decide +kernel
theorem dX0_init_12 : decode cX0_init 12 = .ok (.aconst_null, 1) := by decide +kernel
theorem dX0_init_13 : decode cX0_init 13 = .ok (.putfield 15, 3) := by decide +kernel
theorem dX0_init_16 : decode cX0_init 16 = .ok (.aload_n 0, 1) := by decide +kernel
theorem dX0_init_17 : decode cX0_init 17 = .ok (.iconst 1, 1) := by decide +kernel
theorem dX0_init_18 : decode cX0_init 18 = .ok (.putfield 19, 3) := by decide +kernel
theorem dX0_init_21 : decode cX0_init 21 = .ok (.aload_n 0, 1) := by decide +kernel
theorem dX0_init_22 : decode cX0_init 22 = .ok (.bipush (-100), 2) := by decide +kernel
theorem dX0_init_24 : decode cX0_init 24 = .ok (.putfield 23, 3) := by decide +kernel
theorem dX0_init_27 : decode cX0_init 27 = .ok (.aload_n 0, 1) := by decide +kernel
theorem dX0_init_28 : decode cX0_init 28 = .ok (.bipush (-100), 2) := by decide +kernel
theorem dX0_init_30 : decode cX0_init 30 = .ok (.putfield 27, 3) := by decide +kernel
theorem dX0_init_33 : decode cX0_init 33 = .ok (.aload_n 0, 1) := by decide +kernel
theorem dX0_init_34 : decode cX0_init 34 = .ok (.bipush (-100), 2) := by decide +kernel
theorem dX0_init_36 : decode cX0_init 36 = .ok (.putfield 30, 3) := by decide +kernel
theorem dX0_init_39 : decode cX0_init 39 = .ok (.aload_n 0, 1) := by decide +kernel
theorem dX0_init_40 : decode cX0_init 40 = .ok (.bipush (-100), 2) := by decide +kernel
theorem dX0_init_42 : decode cX0_init 42 = .ok (.putfield 33, 3) := by decide +kernel
theorem dX0_init_45 : decode cX0_init 45 = .ok (.aload_n 0, 1) := by decide +kernel
theorem dX0_init_46 : decode cX0_init 46 = .ok (.bipush (-100), 2) := by decide +kernel
theorem dX0_init_48 : decode cX0_init 48 = .ok (.putfield 36, 3) := by decide +kernel
theorem dX0_init_51 : decode cX0_init 51 = .ok (.aload_n 0, 1) := by decide +kernel
theorem dX0_init_52 : decode cX0_init 52 = .ok (.aload_n 1, 1) := by decide +kernel
theorem dX0_init_53 : decode cX0_init 53 = .ok (.putfield 39, 3) := by decide +kernel
theorem dX0_init_56 : decode cX0_init 56 = .ok (.return_, 1) := by decide +kernel
theorem dX0_use_0 : decode cX0_use 0 = .ok (.aload_n 0, 1) := by decide +kernel
theorem dX0_use_1 : decode cX0_use 1 = .ok (.aload_n 1, 1) := by decide +kernel
theorem dX0_use_2 : decode cX0_use 2 = .ok (.putfield 15, 3) := by decide +kernel
theorem dX0_use_5 : decode cX0_use 5 = .ok (.aload_n 0, 1) := by decide +kernel
theorem dX0_use_6 : decode cX0_use 6 = .ok (.iload_n 2, 1) := by decide +kernel
theorem dX0_use_7 : decode cX0_use 7 = .ok (.putfield 19, 3) := by decide +kernel
theorem dX0_use_10 : decode cX0_use 10 = .ok (.return_, 1) := by decide +kernel
theorem dX0_go_0 : decode cX0_go 0 = .ok (.aload_n 0, 1) := by decide +kernel
theorem dX0_go_1 : decode cX0_go 1 = .ok (.getfield 15, 3) := by decide +kernel
theorem dX0_go_4 : decode cX0_go 4 = .ok (.ifnonnull 4, 3) := by decide +kernel
theorem dX0_go_7 : decode cX0_go 7 = .ok (.return_, 1) := by decide +kernel
theorem dX0_go_8 : decode cX0_go 8 = .ok (.aload_n 1, 1) := by decide +kernel
theorem dX0_go_9 : decode cX0_go 9 = .ok (.getfield 43, 3) := by decide +kernel
theorem dX0_go_12 : decode cX0_go 12 = .ok (.iconst 5, 1) := by decide +kernel
theorem dX0_go_13 : decode cX0_go 13 = .ok (.if_icmp .ne 9, 3) := by decide +kernel
theorem dX0_go_16 : decode cX0_go 16 = .ok (.aload_n 0, 1) := by decide +kernel
theorem dX0_go_17 : decode cX0_go 17 = .ok (.aload_n 1, 1) := by decide +kernel
theorem dX0_go_18 : decode cX0_go 18 = .ok (.invokevirtual 48, 3) := by decide +kernel
theorem dX0_go_21 : decode cX0_go 21 = .ok (.return_, 1) := by decide +kernel
theorem dX0_go_22 : decode cX0_go 22 = .ok (.iconst 0, 1) := by decide +kernel
theorem dX0_go_23 : decode cX0_go 23 = .ok (.istore_n 2, 1) := by decide +kernel
theorem dX0_go_24 : decode cX0_go 24 = .ok (.iconst 0, 1) := by decide +kernel
theorem dX0_go_25 : decode cX0_go 25 = .ok (.istore_n 3, 1) := by decide +kernel
theorem dX0_go_26 : decode cX0_go 26 = .ok (.iload_n 2, 1) := by decide +kernel
theorem dX0_go_27 : decode cX0_go 27 = .ok (.aload_n 0, 1) := by decide +kernel
theorem dX0_go_28 : decode cX0_go 28 = .ok (.getfield 39, 3) := by decide +kernel
theorem dX0_go_31 : decode cX0_go 31 = .ok (.getfield 52, 3) := by decide +kernel
theorem dX0_go_34 : decode cX0_go 34 = .ok (.if_icmp .ge 102, 3) := by decide +kernel
theorem dX0_go_37 : decode cX0_go 37 = .ok (.iload_n 3, 1) := by decide +kernel
theorem dX0_go_38 : decode cX0_go 38 = .ok (.ldc 57, 2) := by decide +kernel
theorem dX0_go_40 : decode cX0_go 40 = .ok (.if_icmp .ge 96, 3) := by decide +kernel
theorem dX0_go_43 : decode cX0_go 43 = .ok (.aload_n 0, 1) := by decide +kernel
theorem dX0_go_44 : decode cX0_go 44 = .ok (.getfield 15, 3) := by decide +kernel
theorem dX0_go_47 : decode cX0_go 47 = .ok (.aload_n 1, 1) := by decide +kernel
theorem dX0_go_48 : decode cX0_go 48 = .ok (.aload_n 0, 1) := by decide +kernel
theorem dX0_go_49 : decode cX0_go 49 = .ok (.getfield 39, 3) := by decide +kernel
theorem dX0_go_52 : decode cX0_go 52 = .ok (.getfield 58, 3) := by decide +kernel
theorem dX0_go_55 : decode cX0_go 55 = .ok (.iload_n 2, 1) := by decide +kernel
theorem dX0_go_56 : decode cX0_go 56 = .ok (.aaload, 1) := by decide +kernel
theorem dX0_go_57 : decode cX0_go 57 = .ok (.invokevirtual 62, 3) := by decide +kernel
theorem dX0_go_60 : decode cX0_go 60 = .ok (.ifCond .eq 12, 3) := by decide +kernel
theorem dX0_go_63 : decode cX0_go 63 = .ok (.aload_n 0, 1) := by decide +kernel
theorem dX0_go_64 : decode cX0_go 64 = .ok (.aload_n 1, 1) := by decide +kernel
theorem dX0_go_65 : decode cX0_go 65 = .ok (.iload_n 2, 1) := by decide +kernel
theorem dX0_go_66 : decode cX0_go 66 = .ok (.invokevirtual 68, 3) := by decide +kernel
theorem dX0_go_69 : decode cX0_go 69 = .ok (.goto 5, 3) := by decide +kernel
theorem dX0_go_72 : decode cX0_go 72 = .ok (.bipush (-100), 2) := by decide +kernel
theorem dX0_go_74 : decode cX0_go 74 = .ok (.istore 4, 2) := by decide +kernel
theorem dX0_go_76 : decode cX0_go 76 = .ok (.iload 4, 2) := by decide +kernel
theorem dX0_go_78 : decode cX0_go 78 = .ok (.bipush (-100), 2) := by decide +kernel
theorem dX0_go_80 : decode cX0_go 80 = .ok (.if_icmp .ne 9, 3) := by decide +kernel
theorem dX0_go_83 : decode cX0_go 83 = .ok (.iinc 2 1, 3) := by decide +kernel
theorem dX0_go_86 : decode cX0_go 86 = .ok (.goto 44, 3) := by decide +kernel
theorem dX0_go_89 : decode cX0_go 89 = .ok (.aload_n 1, 1) := by decide +kernel
theorem dX0_go_90 : decode cX0_go 90 = .ok (.getfield 43, 3) := by decide +kernel
theorem dX0_go_93 : decode cX0_go 93 = .ok (.iconst 4, 1) := by decide +kernel
theorem dX0_go_94 : decode cX0_go 94 = .ok (.if_icmp .ne 19, 3) := by decide +kernel
theorem dX0_go_97 : decode cX0_go 97 = .ok (.aload_n 0, 1) := by decide +kernel
theorem dX0_go_98 : decode cX0_go 98 = .ok (.aload_n 1, 1) := by decide +kernel
theorem dX0_go_99 : decode cX0_go 99 = .ok (.getfield 72, 3) := by decide +kernel
theorem dX0_go_102 : decode cX0_go 102 = .ok (.iload 4, 2) := by decide +kernel
theorem dX0_go_104 : decode cX0_go 104 = .ok (.aaload, 1) := by decide +kernel
theorem dX0_go_105 : decode cX0_go 105 = .ok (.iload_n 2, 1) := by decide +kernel
theorem dX0_go_106 : decode cX0_go 106 = .ok (.invokevirtual 76, 3) := by decide +kernel
theorem dX0_go_109 : decode cX0_go 109 = .ok (.istore_n 2, 1) := by decide +kernel
theorem dX0_go_110 : decode cX0_go 110 = .ok (.goto 20, 3) := by decide +kernel
theorem dX0_go_113 : decode cX0_go 113 = .ok (.aload_n 0, 1) := by decide +kernel
theorem dX0_go_114 : decode cX0_go 114 = .ok (.aload_n 1, 1) := by decide +kernel
theorem dX0_go_115 : decode cX0_go 115 = .ok (.getfield 43, 3) := by decide +kernel
theorem dX0_go_118 : decode cX0_go 118 = .ok (.aload_n 1, 1) := by decide +kernel
theorem dX0_go_119 : decode cX0_go 119 = .ok (.getfield 72, 3) := by decide +kernel
theorem dX0_go_122 : decode cX0_go 122 = .ok (.iload 4, 2) := by decide +kernel
theorem dX0_go_124 : decode cX0_go 124 = .ok (.aaload, 1) := by decide +kernel
theorem dX0_go_125 : decode cX0_go 125 = .ok (.iload_n 2, 1) := by decide +kernel
theorem dX0_go_126 : decode cX0_go 126 = .ok (.invokevirtual 80, 3) := by decide +kernel
theorem dX0_go_129 : decode cX0_go 129 = .ok (.istore_n 2, 1) := by decide +kernel
theorem dX0_go_130 : decode cX0_go 130 = .ok (.iinc 3 1, 3) := by decide +kernel
theorem dX0_go_133 : decode cX0_go 133 = .ok (.goto (-107), 3) := by decide +kernel
theorem dX0_go_136 : decode cX0_go 136 = .ok (.return_, 1) := by decide +kernel
theorem dX0_goBack_0 : decode cX0_goBack 0 = .ok (.aload_n 0, 1) := by decide +kernel
theorem dX0_goBack_1 : decode cX0_goBack 1 = .ok (.getfield 39, 3) := by decide +kernel
theorem dX0_goBack_4 : decode cX0_goBack 4 = .ok (.getfield 52, 3) := by decide +kernel
theorem dX0_goBack_7 : decode cX0_goBack 7 = .ok (.iconst 1, 1) := by decide +kernel
theorem dX0_goBack_8 : decode cX0_goBack 8 = .ok (.isub, 1) := by decide +kernel
theorem dX0_goBack_9 : decode cX0_goBack 9 = .ok (.istore_n 2, 1) := by decide +kernel
theorem dX0_goBack_10 : decode cX0_goBack 10 = .ok (.iload_n 2, 1) := by decide +kernel
theorem dX0_goBack_11 : decode cX0_goBack 11 = .ok (.ifCond .lt 67, 3) := by decide +kernel
theorem dX0_goBack_14 : decode cX0_goBack 14 = .ok (.aload_n 0, 1) := by decide +kernel
theorem dX0_goBack_15 : decode cX0_goBack 15 = .ok (.getfield 15, 3) := by decide +kernel
theorem dX0_goBack_18 : decode cX0_goBack 18 = .ok (.aload_n 1, 1) := by decide +kernel
theorem dX0_goBack_19 : decode cX0_goBack 19 = .ok (.aload_n 0, 1) := by decide +kernel
theorem dX0_goBack_20 : decode cX0_goBack 20 = .ok (.getfield 39, 3) := by decide +kernel
theorem dX0_goBack_23 : decode cX0_goBack 23 = .ok (.getfield 58, 3) := by decide +kernel
theorem dX0_goBack_26 : decode cX0_goBack 26 = .ok (.iload_n 2, 1) := by decide +kernel
theorem dX0_goBack_27 : decode cX0_goBack 27 = .ok (.aaload, 1) := by decide +kernel
theorem dX0_goBack_28 : decode cX0_goBack 28 = .ok (.invokevirtual 62, 3) := by decide +kernel
theorem dX0_goBack_31 : decode cX0_goBack 31 = .ok (.ifCond .eq 12, 3) := by decide +kernel
theorem dX0_goBack_34 : decode cX0_goBack 34 = .ok (.aload_n 0, 1) := by decide +kernel
theorem dX0_goBack_35 : decode cX0_goBack 35 = .ok (.aload_n 1, 1) := by decide +kernel
theorem dX0_goBack_36 : decode cX0_goBack 36 = .ok (.iload_n 2, 1) := by decide +kernel
theorem dX0_goBack_37 : decode cX0_goBack 37 = .ok (.invokevirtual 68, 3) := by decide +kernel
theorem dX0_goBack_40 : decode cX0_goBack 40 = .ok (.goto 5, 3) := by decide +kernel
theorem dX0_goBack_43 : decode cX0_goBack 43 = .ok (.bipush (-100), 2) := by decide +kernel
theorem dX0_goBack_45 : decode cX0_goBack 45 = .ok (.istore_n 3, 1) := by decide +kernel
theorem dX0_goBack_46 : decode cX0_goBack 46 = .ok (.iload_n 3, 1) := by decide +kernel
theorem dX0_goBack_47 : decode cX0_goBack 47 = .ok (.bipush (-100), 2) := by decide +kernel
theorem dX0_goBack_49 : decode cX0_goBack 49 = .ok (.if_icmp .eq 23, 3) := by decide +kernel
theorem dX0_goBack_52 : decode cX0_goBack 52 = .ok (.aload_n 0, 1) := by decide +kernel
theorem dX0_goBack_53 : decode cX0_goBack 53 = .ok (.getfield 39, 3) := by decide +kernel
theorem dX0_goBack_56 : decode cX0_goBack 56 = .ok (.getfield 58, 3) := by decide +kernel
theorem dX0_goBack_59 : decode cX0_goBack 59 = .ok (.iload_n 2, 1) := by decide +kernel
theorem dX0_goBack_60 : decode cX0_goBack 60 = .ok (.aaload, 1) := by decide +kernel
theorem dX0_goBack_61 : decode cX0_goBack 61 = .ok (.aload_n 1, 1) := by decide +kernel
theorem dX0_goBack_62 : decode cX0_goBack 62 = .ok (.getfield 72, 3) := by decide +kernel
theorem dX0_goBack_65 : decode cX0_goBack 65 = .ok (.iload_n 3, 1) := by decide +kernel
theorem dX0_goBack_66 : decode cX0_goBack 66 = .ok (.aaload, 1) := by decide +kernel
theorem dX0_goBack_67 : decode cX0_goBack 67 = .ok (.iconst 3, 1) := by decide +kernel
theorem dX0_goBack_68 : decode cX0_goBack 68 = .ok (.iaload, 1) := by decide +kernel
theorem dX0_goBack_69 : decode cX0_goBack 69 = .ok (.putfield 84, 3) := by decide +kernel
theorem dX0_goBack_72 : decode cX0_goBack 72 = .ok (.iinc 2 (-1), 3) := by decide +kernel
theorem dX0_goBack_75 : decode cX0_goBack 75 = .ok (.goto (-65), 3) := by decide +kernel
theorem dX0_goBack_78 : decode cX0_goBack 78 = .ok (.return_, 1) := by decide +kernel
theorem dX0_firstFit_0 : decode cX0_firstFit 0 = .ok (.aload_n 0, 1) := by decide +kernel
theorem dX0_firstFit_1 : decode cX0_firstFit 1 = .ok (.getfield 15, 3) := by decide +kernel
theorem dX0_firstFit_4 : decode cX0_firstFit 4 = .ok (.aload_n 1, 1) := by decide +kernel
theorem dX0_firstFit_5 : decode cX0_firstFit 5 = .ok (.aload_n 0, 1) := by decide +kernel
theorem dX0_firstFit_6 : decode cX0_firstFit 6 = .ok (.getfield 39, 3) := by decide +kernel
theorem dX0_firstFit_9 : decode cX0_firstFit 9 = .ok (.getfield 58, 3) := by decide +kernel
theorem dX0_firstFit_12 : decode cX0_firstFit 12 = .ok (.iload_n 2, 1) := by decide +kernel
theorem dX0_firstFit_13 : decode cX0_firstFit 13 = .ok (.aaload, 1) := by decide +kernel
theorem dX0_firstFit_14 : decode cX0_firstFit 14 = .ok (.getfield 84, 3) := by decide +kernel
theorem dX0_firstFit_17 : decode cX0_firstFit 17 = .ok (.aload_n 0, 1) := by decide +kernel
theorem dX0_firstFit_18 : decode cX0_firstFit 18 = .ok (.getfield 19, 3) := by decide +kernel
theorem dX0_firstFit_21 : decode cX0_firstFit 21 = .ok (.invokevirtual 89, 3) := by decide +kernel
theorem dX0_firstFit_24 : decode cX0_firstFit 24 = .ok (.istore_n 3, 1) := by decide +kernel
theorem dX0_firstFit_25 : decode cX0_firstFit 25 = .ok (.iload_n 3, 1) := by decide +kernel
theorem dX0_firstFit_26 : decode cX0_firstFit 26 = .ok (.ifCond .ne 6, 3) := by decide +kernel
theorem dX0_firstFit_29 : decode cX0_firstFit 29 = .ok (.bipush (-100), 2) := by decide +kernel
theorem dX0_firstFit_31 : decode cX0_firstFit 31 = .ok (.ireturn, 1) := by decide +kernel
theorem dX0_firstFit_32 : decode cX0_firstFit 32 = .ok (.aload_n 0, 1) := by decide +kernel
theorem dX0_firstFit_33 : decode cX0_firstFit 33 = .ok (.aload_n 0, 1) := by decide +kernel
theorem dX0_firstFit_34 : decode cX0_firstFit 34 = .ok (.getfield 39, 3) := by decide +kernel
theorem dX0_firstFit_37 : decode cX0_firstFit 37 = .ok (.aload_n 0, 1) := by decide +kernel
theorem dX0_firstFit_38 : decode cX0_firstFit 38 = .ok (.getfield 15, 3) := by decide +kernel
theorem dX0_firstFit_41 : decode cX0_firstFit 41 = .ok (.aload_n 1, 1) := by decide +kernel
theorem dX0_firstFit_42 : decode cX0_firstFit 42 = .ok (.iload_n 2, 1) := by decide +kernel
theorem dX0_firstFit_43 : decode cX0_firstFit 43 = .ok (.invokevirtual 93, 3) := by decide +kernel
theorem dX0_firstFit_46 : decode cX0_firstFit 46 = .ok (.putfield 23, 3) := by decide +kernel
theorem dX0_firstFit_49 : decode cX0_firstFit 49 = .ok (.aload_n 0, 1) := by decide +kernel
theorem dX0_firstFit_50 : decode cX0_firstFit 50 = .ok (.aload_n 0, 1) := by decide +kernel
theorem dX0_firstFit_51 : decode cX0_firstFit 51 = .ok (.getfield 23, 3) := by decide +kernel
theorem dX0_firstFit_54 : decode cX0_firstFit 54 = .ok (.bipush (-100), 2) := by decide +kernel
theorem dX0_firstFit_56 : decode cX0_firstFit 56 = .ok (.if_icmp .ne 8, 3) := by decide +kernel
theorem dX0_firstFit_59 : decode cX0_firstFit 59 = .ok (.bipush (-100), 2) := by decide +kernel
theorem dX0_firstFit_61 : decode cX0_firstFit 61 = .ok (.goto 19, 3) := by decide +kernel
theorem dX0_firstFit_64 : decode cX0_firstFit 64 = .ok (.aload_n 0, 1) := by decide +kernel
theorem dX0_firstFit_65 : decode cX0_firstFit 65 = .ok (.getfield 39, 3) := by decide +kernel
theorem dX0_firstFit_68 : decode cX0_firstFit 68 = .ok (.aload_n 0, 1) := by decide +kernel
theorem dX0_firstFit_69 : decode cX0_firstFit 69 = .ok (.getfield 15, 3) := by decide +kernel
theorem dX0_firstFit_72 : decode cX0_firstFit 72 = .ok (.aload_n 1, 1) := by decide +kernel
theorem dX0_firstFit_73 : decode cX0_firstFit 73 = .ok (.aload_n 0, 1) := by decide +kernel
theorem dX0_firstFit_74 : decode cX0_firstFit 74 = .ok (.getfield 23, 3) := by decide +kernel
theorem dX0_firstFit_77 : decode cX0_firstFit 77 = .ok (.invokevirtual 93, 3) := by decide +kernel
theorem dX0_firstFit_80 : decode cX0_firstFit 80 = .ok (.putfield 27, 3) := by decide +kernel
theorem dX0_firstFit_83 : decode cX0_firstFit 83 = .ok (.aload_n 0, 1) := by decide +kernel
theorem dX0_firstFit_84 : decode cX0_firstFit 84 = .ok (.aload_n 0, 1) := by decide +kernel
theorem dX0_firstFit_85 : decode cX0_firstFit 85 = .ok (.getfield 39, 3) := by decide +kernel
theorem dX0_firstFit_88 : decode cX0_firstFit 88 = .ok (.aload_n 0, 1) := by decide +kernel
theorem dX0_firstFit_89 : decode cX0_firstFit 89 = .ok (.getfield 39, 3) := by decide +kernel
theorem dX0_firstFit_92 : decode cX0_firstFit 92 = .ok (.aload_n 0, 1) := by decide +kernel
theorem dX0_firstFit_93 : decode cX0_firstFit 93 = .ok (.getfield 15, 3) := by decide +kernel
theorem dX0_firstFit_96 : decode cX0_firstFit 96 = .ok (.aload_n 1, 1) := by decide +kernel
theorem dX0_firstFit_97 : decode cX0_firstFit 97 = .ok (.iload_n 2, 1) := by decide +kernel
theorem dX0_firstFit_98 : decode cX0_firstFit 98 = .ok (.invokevirtual 97, 3) := by decide +kernel
theorem dX0_firstFit_101 : decode cX0_firstFit 101 = .ok (.invokevirtual 100, 3) := by decide +kernel
theorem dX0_firstFit_104 : decode cX0_firstFit 104 = .ok (.putfield 30, 3) := by decide +kernel
theorem dX0_firstFit_107 : decode cX0_firstFit 107 = .ok (.aload_n 0, 1) := by decide +kernel
theorem dX0_firstFit_108 : decode cX0_firstFit 108 = .ok (.aload_n 0, 1) := by decide +kernel
theorem dX0_firstFit_109 : decode cX0_firstFit 109 = .ok (.getfield 39, 3) := by decide +kernel
theorem dX0_firstFit_112 : decode cX0_firstFit 112 = .ok (.aload_n 0, 1) := by decide +kernel
theorem dX0_firstFit_113 : decode cX0_firstFit 113 = .ok (.getfield 23, 3) := by decide +kernel
theorem dX0_firstFit_116 : decode cX0_firstFit 116 = .ok (.invokevirtual 100, 3) := by decide +kernel
theorem dX0_firstFit_119 : decode cX0_firstFit 119 = .ok (.putfield 33, 3) := by decide +kernel
theorem dX0_firstFit_122 : decode cX0_firstFit 122 = .ok (.aload_n 0, 1) := by decide +kernel
theorem dX0_firstFit_123 : decode cX0_firstFit 123 = .ok (.aload_n 0, 1) := by decide +kernel
theorem dX0_firstFit_124 : decode cX0_firstFit 124 = .ok (.getfield 39, 3) := by decide +kernel
theorem dX0_firstFit_127 : decode cX0_firstFit 127 = .ok (.aload_n 0, 1) := by decide +kernel
theorem dX0_firstFit_128 : decode cX0_firstFit 128 = .ok (.getfield 27, 3) := by decide +kernel
theorem dX0_firstFit_131 : decode cX0_firstFit 131 = .ok (.invokevirtual 100, 3) := by decide +kernel
theorem dX0_firstFit_134 : decode cX0_firstFit 134 = .ok (.putfield 36, 3) := by decide +kernel
theorem dX0_firstFit_137 : decode cX0_firstFit 137 = .ok (.iconst 0, 1) := by decide +kernel
theorem dX0_firstFit_138 : decode cX0_firstFit 138 = .ok (.istore 4, 2) := by decide +kernel
theorem dX0_firstFit_140 : decode cX0_firstFit 140 = .ok (.iload 4, 2) := by decide +kernel
theorem dX0_firstFit_142 : decode cX0_firstFit 142 = .ok (.aload_n 1, 1) := by decide +kernel
theorem dX0_firstFit_143 : decode cX0_firstFit 143 = .ok (.getfield 104, 3) := by decide +kernel
theorem dX0_firstFit_146 : decode cX0_firstFit 146 = .ok (.if_icmp .ge 48, 3) := by decide +kernel
theorem dX0_firstFit_149 : decode cX0_firstFit 149 = .ok (.iload_n 3, 1) := by decide +kernel
theorem dX0_firstFit_150 : decode cX0_firstFit 150 = .ok (.iload 4, 2) := by decide +kernel
theorem dX0_firstFit_152 : decode cX0_firstFit 152 = .ok (.ishr, 1) := by decide +kernel
theorem dX0_firstFit_153 : decode cX0_firstFit 153 = .ok (.iconst 1, 1) := by decide +kernel
theorem dX0_firstFit_154 : decode cX0_firstFit 154 = .ok (.iand, 1) := by decide +kernel
theorem dX0_firstFit_155 : decode cX0_firstFit 155 = .ok (.ifCond .eq 33, 3) := by decide +kernel
theorem dX0_firstFit_158 : decode cX0_firstFit 158 = .ok (.aload_n 0, 1) := by decide +kernel
theorem dX0_firstFit_159 : decode cX0_firstFit 159 = .ok (.aload_n 1, 1) := by decide +kernel
theorem dX0_firstFit_160 : decode cX0_firstFit 160 = .ok (.getfield 43, 3) := by decide +kernel
theorem dX0_firstFit_163 : decode cX0_firstFit 163 = .ok (.aload_n 1, 1) := by decide +kernel
theorem dX0_firstFit_164 : decode cX0_firstFit 164 = .ok (.getfield 72, 3) := by decide +kernel
theorem dX0_firstFit_167 : decode cX0_firstFit 167 = .ok (.iload 4, 2) := by decide +kernel
theorem dX0_firstFit_169 : decode cX0_firstFit 169 = .ok (.aaload, 1) := by decide +kernel
theorem dX0_firstFit_170 : decode cX0_firstFit 170 = .ok (.aload_n 0, 1) := by decide +kernel
theorem dX0_firstFit_171 : decode cX0_firstFit 171 = .ok (.getfield 39, 3) := by decide +kernel
theorem dX0_firstFit_174 : decode cX0_firstFit 174 = .ok (.getfield 58, 3) := by decide +kernel
theorem dX0_firstFit_177 : decode cX0_firstFit 177 = .ok (.iload_n 2, 1) := by decide +kernel
theorem dX0_firstFit_178 : decode cX0_firstFit 178 = .ok (.aaload, 1) := by decide +kernel
theorem dX0_firstFit_179 : decode cX0_firstFit 179 = .ok (.invokevirtual 107, 3) := by decide +kernel
theorem dX0_firstFit_182 : decode cX0_firstFit 182 = .ok (.ifCond .eq 6, 3) := by decide +kernel
theorem dX0_firstFit_185 : decode cX0_firstFit 185 = .ok (.iload 4, 2) := by decide +kernel
theorem dX0_firstFit_187 : decode cX0_firstFit 187 = .ok (.ireturn, 1) := by decide +kernel
theorem dX0_firstFit_188 : decode cX0_firstFit 188 = .ok (.iinc 4 1, 3) := by decide +kernel
theorem dX0_firstFit_191 : decode cX0_firstFit 191 = .ok (.goto (-51), 3) := by decide +kernel
theorem dX0_firstFit_194 : decode cX0_firstFit 194 = .ok (.bipush (-100), 2) := by decide +kernel
theorem dX0_firstFit_196 : decode cX0_firstFit 196 = .ok (.ireturn, 1) := by decide +kernel
theorem dX0_fits_0 : decode cX0_fits 0 = .ok (.iload_n 1, 1) := by decide +kernel
theorem dX0_fits_1 : decode cX0_fits 1 = .ok (.tableswitch 242 1 5 #[35, 67, 80, 120, 202], 35) := by decide +kernel
theorem dX0_fits_36 : decode cX0_fits 36 = .ok (.aload_n 0, 1) := by decide +kernel
theorem dX0_fits_37 : decode cX0_fits 37 = .ok (.getfield 39, 3) := by decide +kernel
theorem dX0_fits_40 : decode cX0_fits 40 = .ok (.getfield 52, 3) := by decide +kernel
theorem dX0_fits_43 : decode cX0_fits 43 = .ok (.aload_n 2, 1) := by decide +kernel
theorem dX0_fits_44 : decode cX0_fits 44 = .ok (.iconst 3, 1) := by decide +kernel
theorem dX0_fits_45 : decode cX0_fits 45 = .ok (.iaload, 1) := by decide +kernel
theorem dX0_fits_46 : decode cX0_fits 46 = .ok (.bipush (-100), 2) := by decide +kernel
theorem dX0_fits_48 : decode cX0_fits 48 = .ok (.if_icmp .ne 7, 3) := by decide +kernel
theorem dX0_fits_51 : decode cX0_fits 51 = .ok (.iconst 1, 1) := by decide +kernel
theorem dX0_fits_52 : decode cX0_fits 52 = .ok (.goto 4, 3) := by decide +kernel
theorem dX0_fits_55 : decode cX0_fits 55 = .ok (.iconst 2, 1) := by decide +kernel
theorem dX0_fits_56 : decode cX0_fits 56 = .ok (.iadd, 1) := by decide +kernel
theorem dX0_fits_57 : decode cX0_fits 57 = .ok (.bipush 64, 2) := by decide +kernel
theorem dX0_fits_59 : decode cX0_fits 59 = .ok (.if_icmp .gt 7, 3) := by decide +kernel
theorem dX0_fits_62 : decode cX0_fits 62 = .ok (.iconst 1, 1) := by decide +kernel
theorem dX0_fits_63 : decode cX0_fits 63 = .ok (.goto 4, 3) := by decide +kernel
theorem dX0_fits_66 : decode cX0_fits 66 = .ok (.iconst 0, 1) := by decide +kernel
theorem dX0_fits_67 : decode cX0_fits 67 = .ok (.ireturn, 1) := by decide +kernel
theorem dX0_fits_68 : decode cX0_fits 68 = .ok (.aload_n 3, 1) := by decide +kernel
theorem dX0_fits_69 : decode cX0_fits 69 = .ok (.getfield 111, 3) := by decide +kernel
theorem dX0_fits_72 : decode cX0_fits 72 = .ok (.ifCond .le 7, 3) := by decide +kernel
theorem dX0_fits_75 : decode cX0_fits 75 = .ok (.iconst 1, 1) := by decide +kernel
theorem dX0_fits_76 : decode cX0_fits 76 = .ok (.goto 4, 3) := by decide +kernel
theorem dX0_fits_79 : decode cX0_fits 79 = .ok (.iconst 0, 1) := by decide +kernel
theorem dX0_fits_80 : decode cX0_fits 80 = .ok (.ireturn, 1) := by decide +kernel
theorem dX0_fits_81 : decode cX0_fits 81 = .ok (.aload_n 0, 1) := by decide +kernel
theorem dX0_fits_82 : decode cX0_fits 82 = .ok (.getfield 15, 3) := by decide +kernel
theorem dX0_fits_85 : decode cX0_fits 85 = .ok (.aload_n 2, 1) := by decide +kernel
theorem dX0_fits_86 : decode cX0_fits 86 = .ok (.iconst 1, 1) := by decide +kernel
theorem dX0_fits_87 : decode cX0_fits 87 = .ok (.iaload, 1) := by decide +kernel
theorem dX0_fits_88 : decode cX0_fits 88 = .ok (.aload_n 0, 1) := by decide +kernel
theorem dX0_fits_89 : decode cX0_fits 89 = .ok (.getfield 33, 3) := by decide +kernel
theorem dX0_fits_92 : decode cX0_fits 92 = .ok (.invokevirtual 114, 3) := by decide +kernel
theorem dX0_fits_95 : decode cX0_fits 95 = .ok (.ifCond .eq 24, 3) := by decide +kernel
theorem dX0_fits_98 : decode cX0_fits 98 = .ok (.aload_n 0, 1) := by decide +kernel
theorem dX0_fits_99 : decode cX0_fits 99 = .ok (.getfield 15, 3) := by decide +kernel
theorem dX0_fits_102 : decode cX0_fits 102 = .ok (.aload_n 2, 1) := by decide +kernel
theorem dX0_fits_103 : decode cX0_fits 103 = .ok (.iconst 2, 1) := by decide +kernel
theorem dX0_fits_104 : decode cX0_fits 104 = .ok (.iaload, 1) := by decide +kernel
theorem dX0_fits_105 : decode cX0_fits 105 = .ok (.aload_n 0, 1) := by decide +kernel
theorem dX0_fits_106 : decode cX0_fits 106 = .ok (.getfield 36, 3) := by decide +kernel
theorem dX0_fits_109 : decode cX0_fits 109 = .ok (.invokevirtual 114, 3) := by decide +kernel
theorem dX0_fits_112 : decode cX0_fits 112 = .ok (.ifCond .eq 7, 3) := by decide +kernel
theorem dX0_fits_115 : decode cX0_fits 115 = .ok (.iconst 1, 1) := by decide +kernel
theorem dX0_fits_116 : decode cX0_fits 116 = .ok (.goto 4, 3) := by decide +kernel
theorem dX0_fits_119 : decode cX0_fits 119 = .ok (.iconst 0, 1) := by decide +kernel
theorem dX0_fits_120 : decode cX0_fits 120 = .ok (.ireturn, 1) := by decide +kernel
theorem dX0_fits_121 : decode cX0_fits 121 = .ok (.aload_n 0, 1) := by decide +kernel
theorem dX0_fits_122 : decode cX0_fits 122 = .ok (.getfield 15, 3) := by decide +kernel
theorem dX0_fits_125 : decode cX0_fits 125 = .ok (.aload_n 2, 1) := by decide +kernel
theorem dX0_fits_126 : decode cX0_fits 126 = .ok (.iconst 0, 1) := by decide +kernel
theorem dX0_fits_127 : decode cX0_fits 127 = .ok (.iaload, 1) := by decide +kernel
theorem dX0_fits_128 : decode cX0_fits 128 = .ok (.aload_n 0, 1) := by decide +kernel
theorem dX0_fits_129 : decode cX0_fits 129 = .ok (.getfield 30, 3) := by decide +kernel
theorem dX0_fits_132 : decode cX0_fits 132 = .ok (.invokevirtual 114, 3) := by decide +kernel
theorem dX0_fits_135 : decode cX0_fits 135 = .ok (.ifCond .ne 5, 3) := by decide +kernel
theorem dX0_fits_138 : decode cX0_fits 138 = .ok (.iconst 0, 1) := by decide +kernel
theorem dX0_fits_139 : decode cX0_fits 139 = .ok (.ireturn, 1) := by decide +kernel
theorem dX0_fits_140 : decode cX0_fits 140 = .ok (.aload_n 2, 1) := by decide +kernel
theorem dX0_fits_141 : decode cX0_fits 141 = .ok (.iconst 2, 1) := by decide +kernel
theorem dX0_fits_142 : decode cX0_fits 142 = .ok (.iaload, 1) := by decide +kernel
theorem dX0_fits_143 : decode cX0_fits 143 = .ok (.bipush (-100), 2) := by decide +kernel
theorem dX0_fits_145 : decode cX0_fits 145 = .ok (.if_icmp .ne 18, 3) := by decide +kernel
theorem dX0_fits_148 : decode cX0_fits 148 = .ok (.aload_n 0, 1) := by decide +kernel
theorem dX0_fits_149 : decode cX0_fits 149 = .ok (.getfield 15, 3) := by decide +kernel
theorem dX0_fits_152 : decode cX0_fits 152 = .ok (.aload_n 2, 1) := by decide +kernel
theorem dX0_fits_153 : decode cX0_fits 153 = .ok (.iconst 3, 1) := by decide +kernel
theorem dX0_fits_154 : decode cX0_fits 154 = .ok (.iaload, 1) := by decide +kernel
theorem dX0_fits_155 : decode cX0_fits 155 = .ok (.aload_n 0, 1) := by decide +kernel
theorem dX0_fits_156 : decode cX0_fits 156 = .ok (.getfield 33, 3) := by decide +kernel
theorem dX0_fits_159 : decode cX0_fits 159 = .ok (.invokevirtual 114, 3) := by decide +kernel
theorem dX0_fits_162 : decode cX0_fits 162 = .ok (.ireturn, 1) := by decide +kernel
theorem dX0_fits_163 : decode cX0_fits 163 = .ok (.aload_n 0, 1) := by decide +kernel
theorem dX0_fits_164 : decode cX0_fits 164 = .ok (.getfield 15, 3) := by decide +kernel
theorem dX0_fits_167 : decode cX0_fits 167 = .ok (.aload_n 2, 1) := by decide +kernel
theorem dX0_fits_168 : decode cX0_fits 168 = .ok (.iconst 2, 1) := by decide +kernel
theorem dX0_fits_169 : decode cX0_fits 169 = .ok (.iaload, 1) := by decide +kernel
theorem dX0_fits_170 : decode cX0_fits 170 = .ok (.aload_n 0, 1) := by decide +kernel
theorem dX0_fits_171 : decode cX0_fits 171 = .ok (.getfield 33, 3) := by decide +kernel
theorem dX0_fits_174 : decode cX0_fits 174 = .ok (.invokevirtual 114, 3) := by decide +kernel
theorem dX0_fits_177 : decode cX0_fits 177 = .ok (.ifCond .eq 24, 3) := by decide +kernel
theorem dX0_fits_180 : decode cX0_fits 180 = .ok (.aload_n 0, 1) := by decide +kernel
theorem dX0_fits_181 : decode cX0_fits 181 = .ok (.getfield 15, 3) := by decide +kernel
theorem dX0_fits_184 : decode cX0_fits 184 = .ok (.aload_n 2, 1) := by decide +kernel
theorem dX0_fits_185 : decode cX0_fits 185 = .ok (.iconst 3, 1) := by decide +kernel
theorem dX0_fits_186 : decode cX0_fits 186 = .ok (.iaload, 1) := by decide +kernel
theorem dX0_fits_187 : decode cX0_fits 187 = .ok (.aload_n 0, 1) := by decide +kernel
theorem dX0_fits_188 : decode cX0_fits 188 = .ok (.getfield 36, 3) := by decide +kernel
theorem dX0_fits_191 : decode cX0_fits 191 = .ok (.invokevirtual 114, 3) := by decide +kernel
theorem dX0_fits_194 : decode cX0_fits 194 = .ok (.ifCond .eq 7, 3) := by decide +kernel
theorem dX0_fits_197 : decode cX0_fits 197 = .ok (.iconst 1, 1) := by decide +kernel
theorem dX0_fits_198 : decode cX0_fits 198 = .ok (.goto 4, 3) := by decide +kernel
theorem dX0_fits_201 : decode cX0_fits 201 = .ok (.iconst 0, 1) := by decide +kernel
theorem dX0_fits_202 : decode cX0_fits 202 = .ok (.ireturn, 1) := by decide +kernel
theorem dX0_fits_203 : decode cX0_fits 203 = .ok (.aload_n 0, 1) := by decide +kernel
theorem dX0_fits_204 : decode cX0_fits 204 = .ok (.getfield 15, 3) := by decide +kernel
theorem dX0_fits_207 : decode cX0_fits 207 = .ok (.aload_n 2, 1) := by decide +kernel
theorem dX0_fits_208 : decode cX0_fits 208 = .ok (.iconst 0, 1) := by decide +kernel
theorem dX0_fits_209 : decode cX0_fits 209 = .ok (.iaload, 1) := by decide +kernel
theorem dX0_fits_210 : decode cX0_fits 210 = .ok (.aload_n 0, 1) := by decide +kernel
theorem dX0_fits_211 : decode cX0_fits 211 = .ok (.getfield 30, 3) := by decide +kernel
theorem dX0_fits_214 : decode cX0_fits 214 = .ok (.invokevirtual 114, 3) := by decide +kernel
theorem dX0_fits_217 : decode cX0_fits 217 = .ok (.ifCond .eq 24, 3) := by decide +kernel
theorem dX0_fits_220 : decode cX0_fits 220 = .ok (.aload_n 0, 1) := by decide +kernel
theorem dX0_fits_221 : decode cX0_fits 221 = .ok (.getfield 15, 3) := by decide +kernel
theorem dX0_fits_224 : decode cX0_fits 224 = .ok (.aload_n 2, 1) := by decide +kernel
theorem dX0_fits_225 : decode cX0_fits 225 = .ok (.iconst 2, 1) := by decide +kernel
theorem dX0_fits_226 : decode cX0_fits 226 = .ok (.iaload, 1) := by decide +kernel
theorem dX0_fits_227 : decode cX0_fits 227 = .ok (.aload_n 0, 1) := by decide +kernel
theorem dX0_fits_228 : decode cX0_fits 228 = .ok (.getfield 33, 3) := by decide +kernel
theorem dX0_fits_231 : decode cX0_fits 231 = .ok (.invokevirtual 114, 3) := by decide +kernel
theorem dX0_fits_234 : decode cX0_fits 234 = .ok (.ifCond .eq 7, 3) := by decide +kernel
theorem dX0_fits_237 : decode cX0_fits 237 = .ok (.iconst 1, 1) := by decide +kernel
theorem dX0_fits_238 : decode cX0_fits 238 = .ok (.goto 4, 3) := by decide +kernel
theorem dX0_fits_241 : decode cX0_fits 241 = .ok (.iconst 0, 1) := by decide +kernel
theorem dX0_fits_242 : decode cX0_fits 242 = .ok (.ireturn, 1) := by decide +kernel
theorem dX0_fits_243 : decode cX0_fits 243 = .ok (.iconst 1, 1) := by decide +kernel
theorem dX0_fits_244 : decode cX0_fits 244 = .ok (.ireturn, 1) := by decide +kernel
theorem dX0_change_0 : decode cX0_change 0 = .ok (.aload_n 0, 1) := by decide +kernel
theorem dX0_change_1 : decode cX0_change 1 = .ok (.getfield 39, 3) := by decide +kernel
theorem dX0_change_4 : decode cX0_change 4 = .ok (.getfield 58, 3) := by decide +kernel
theorem dX0_change_7 : decode cX0_change 7 = .ok (.iload_n 3, 1) := by decide +kernel
theorem dX0_change_8 : decode cX0_change 8 = .ok (.aaload, 1) := by decide +kernel
theorem dX0_change_9 : decode cX0_change 9 = .ok (.astore 4, 2) := by decide +kernel
theorem dX0_change_11 : decode cX0_change 11 = .ok (.iload_n 1, 1) := by decide +kernel
theorem dX0_change_12 : decode cX0_change 12 = .ok (.tableswitch 230 0 3 #[32, 44, 92, 125], 32) := by decide +kernel
theorem dX0_change_44 : decode cX0_change 44 = .ok (.aload 4, 2) := by decide +kernel
theorem dX0_change_46 : decode cX0_change 46 = .ok (.aload_n 2, 1) := by decide +kernel
theorem dX0_change_47 : decode cX0_change 47 = .ok (.iconst 1, 1) := by decide +kernel
theorem dX0_change_48 : decode cX0_change 48 = .ok (.iaload, 1) := by decide +kernel
theorem dX0_change_49 : decode cX0_change 49 = .ok (.putfield 84, 3) := by decide +kernel
theorem dX0_change_52 : decode cX0_change 52 = .ok (.iload_n 3, 1) := by decide +kernel
theorem dX0_change_53 : decode cX0_change 53 = .ok (.iconst 1, 1) := by decide +kernel
theorem dX0_change_54 : decode cX0_change 54 = .ok (.iadd, 1) := by decide +kernel
theorem dX0_change_55 : decode cX0_change 55 = .ok (.ireturn, 1) := by decide +kernel
theorem dX0_change_56 : decode cX0_change 56 = .ok (.aload 4, 2) := by decide +kernel
theorem dX0_change_58 : decode cX0_change 58 = .ok (.aload_n 2, 1) := by decide +kernel
theorem dX0_change_59 : decode cX0_change 59 = .ok (.iconst 1, 1) := by decide +kernel
theorem dX0_change_60 : decode cX0_change 60 = .ok (.iaload, 1) := by decide +kernel
theorem dX0_change_61 : decode cX0_change 61 = .ok (.putfield 84, 3) := by decide +kernel
theorem dX0_change_64 : decode cX0_change 64 = .ok (.aload_n 0, 1) := by decide +kernel
theorem dX0_change_65 : decode cX0_change 65 = .ok (.getfield 39, 3) := by decide +kernel
theorem dX0_change_68 : decode cX0_change 68 = .ok (.iload_n 3, 1) := by decide +kernel
theorem dX0_change_69 : decode cX0_change 69 = .ok (.aload_n 2, 1) := by decide +kernel
theorem dX0_change_70 : decode cX0_change 70 = .ok (.iconst 2, 1) := by decide +kernel
theorem dX0_change_71 : decode cX0_change 71 = .ok (.iaload, 1) := by decide +kernel
theorem dX0_change_72 : decode cX0_change 72 = .ok (.invokevirtual 118, 3) := by decide +kernel
theorem dX0_change_75 : decode cX0_change 75 = .ok (.aload_n 2, 1) := by decide +kernel
theorem dX0_change_76 : decode cX0_change 76 = .ok (.iconst 3, 1) := by decide +kernel
theorem dX0_change_77 : decode cX0_change 77 = .ok (.iaload, 1) := by decide +kernel
theorem dX0_change_78 : decode cX0_change 78 = .ok (.bipush (-100), 2) := by decide +kernel
theorem dX0_change_80 : decode cX0_change 80 = .ok (.if_icmp .ne 7, 3) := by decide +kernel
theorem dX0_change_83 : decode cX0_change 83 = .ok (.iload_n 3, 1) := by decide +kernel
theorem dX0_change_84 : decode cX0_change 84 = .ok (.iconst 2, 1) := by decide +kernel
theorem dX0_change_85 : decode cX0_change 85 = .ok (.iadd, 1) := by decide +kernel
theorem dX0_change_86 : decode cX0_change 86 = .ok (.ireturn, 1) := by decide +kernel
theorem dX0_change_87 : decode cX0_change 87 = .ok (.aload_n 0, 1) := by decide +kernel
theorem dX0_change_88 : decode cX0_change 88 = .ok (.getfield 39, 3) := by decide +kernel
theorem dX0_change_91 : decode cX0_change 91 = .ok (.iload_n 3, 1) := by decide +kernel
theorem dX0_change_92 : decode cX0_change 92 = .ok (.iconst 1, 1) := by decide +kernel
theorem dX0_change_93 : decode cX0_change 93 = .ok (.iadd, 1) := by decide +kernel
theorem dX0_change_94 : decode cX0_change 94 = .ok (.aload_n 2, 1) := by decide +kernel
theorem dX0_change_95 : decode cX0_change 95 = .ok (.iconst 3, 1) := by decide +kernel
theorem dX0_change_96 : decode cX0_change 96 = .ok (.iaload, 1) := by decide +kernel
theorem dX0_change_97 : decode cX0_change 97 = .ok (.invokevirtual 118, 3) := by decide +kernel
theorem dX0_change_100 : decode cX0_change 100 = .ok (.iload_n 3, 1) := by decide +kernel
theorem dX0_change_101 : decode cX0_change 101 = .ok (.iconst 3, 1) := by decide +kernel
theorem dX0_change_102 : decode cX0_change 102 = .ok (.iadd, 1) := by decide +kernel
theorem dX0_change_103 : decode cX0_change 103 = .ok (.ireturn, 1) := by decide +kernel
theorem dX0_change_104 : decode cX0_change 104 = .ok (.aload 4, 2) := by decide +kernel
theorem dX0_change_106 : decode cX0_change 106 = .ok (.getfield 111, 3) := by decide +kernel
theorem dX0_change_109 : decode cX0_change 109 = .ok (.ifCond .le 24, 3) := by decide +kernel
theorem dX0_change_112 : decode cX0_change 112 = .ok (.aload 4, 2) := by decide +kernel
theorem dX0_change_114 : decode cX0_change 114 = .ok (.getfield 111, 3) := by decide +kernel
theorem dX0_change_117 : decode cX0_change 117 = .ok (.iconst 3, 1) := by decide +kernel
theorem dX0_change_118 : decode cX0_change 118 = .ok (.if_icmp .gt 15, 3) := by decide +kernel
theorem dX0_change_121 : decode cX0_change 121 = .ok (.aload 4, 2) := by decide +kernel
theorem dX0_change_123 : decode cX0_change 123 = .ok (.aload_n 2, 1) := by decide +kernel
theorem dX0_change_124 : decode cX0_change 124 = .ok (.aload 4, 2) := by decide +kernel
theorem dX0_change_126 : decode cX0_change 126 = .ok (.getfield 111, 3) := by decide +kernel
theorem dX0_change_129 : decode cX0_change 129 = .ok (.iaload, 1) := by decide +kernel
theorem dX0_change_130 : decode cX0_change 130 = .ok (.putfield 84, 3) := by decide +kernel
theorem dX0_change_133 : decode cX0_change 133 = .ok (.iload_n 3, 1) := by decide +kernel
theorem dX0_change_134 : decode cX0_change 134 = .ok (.iconst 1, 1) := by decide +kernel
theorem dX0_change_135 : decode cX0_change 135 = .ok (.iadd, 1) := by decide +kernel
theorem dX0_change_136 : decode cX0_change 136 = .ok (.ireturn, 1) := by decide +kernel
theorem dX0_change_137 : decode cX0_change 137 = .ok (.aload_n 2, 1) := by decide +kernel
theorem dX0_change_138 : decode cX0_change 138 = .ok (.iconst 2, 1) := by decide +kernel
theorem dX0_change_139 : decode cX0_change 139 = .ok (.iaload, 1) := by decide +kernel
theorem dX0_change_140 : decode cX0_change 140 = .ok (.bipush (-100), 2) := by decide +kernel
theorem dX0_change_142 : decode cX0_change 142 = .ok (.if_icmp .ne 7, 3) := by decide +kernel
theorem dX0_change_145 : decode cX0_change 145 = .ok (.iconst 2, 1) := by decide +kernel
theorem dX0_change_146 : decode cX0_change 146 = .ok (.goto 4, 3) := by decide +kernel
theorem dX0_change_149 : decode cX0_change 149 = .ok (.iconst 3, 1) := by decide +kernel
theorem dX0_change_150 : decode cX0_change 150 = .ok (.istore 5, 2) := by decide +kernel
theorem dX0_change_152 : decode cX0_change 152 = .ok (.aload_n 0, 1) := by decide +kernel
theorem dX0_change_153 : decode cX0_change 153 = .ok (.getfield 39, 3) := by decide +kernel
theorem dX0_change_156 : decode cX0_change 156 = .ok (.aload_n 0, 1) := by decide +kernel
theorem dX0_change_157 : decode cX0_change 157 = .ok (.getfield 23, 3) := by decide +kernel
theorem dX0_change_160 : decode cX0_change 160 = .ok (.invokevirtual 122, 3) := by decide +kernel
theorem dX0_change_163 : decode cX0_change 163 = .ok (.ifCond .eq 23, 3) := by decide +kernel
theorem dX0_change_166 : decode cX0_change 166 = .ok (.iload 5, 2) := by decide +kernel
theorem dX0_change_168 : decode cX0_change 168 = .ok (.iconst 3, 1) := by decide +kernel
theorem dX0_change_169 : decode cX0_change 169 = .ok (.if_icmp .ne 21, 3) := by decide +kernel
theorem dX0_change_172 : decode cX0_change 172 = .ok (.aload_n 0, 1) := by decide +kernel
theorem dX0_change_173 : decode cX0_change 173 = .ok (.getfield 39, 3) := by decide +kernel
theorem dX0_change_176 : decode cX0_change 176 = .ok (.aload_n 0, 1) := by decide +kernel
theorem dX0_change_177 : decode cX0_change 177 = .ok (.getfield 27, 3) := by decide +kernel
theorem dX0_change_180 : decode cX0_change 180 = .ok (.invokevirtual 122, 3) := by decide +kernel
theorem dX0_change_183 : decode cX0_change 183 = .ok (.ifCond .ne 7, 3) := by decide +kernel
theorem dX0_change_186 : decode cX0_change 186 = .ok (.iload_n 3, 1) := by decide +kernel
theorem dX0_change_187 : decode cX0_change 187 = .ok (.iconst 1, 1) := by decide +kernel
theorem dX0_change_188 : decode cX0_change 188 = .ok (.iadd, 1) := by decide +kernel
theorem dX0_change_189 : decode cX0_change 189 = .ok (.ireturn, 1) := by decide +kernel
theorem dX0_change_190 : decode cX0_change 190 = .ok (.aload_n 0, 1) := by decide +kernel
theorem dX0_change_191 : decode cX0_change 191 = .ok (.getfield 9, 3) := by decide +kernel
theorem dX0_change_194 : decode cX0_change 194 = .ok (.iconst 0, 1) := by decide +kernel
theorem dX0_change_195 : decode cX0_change 195 = .ok (.iload_n 3, 1) := by decide +kernel
theorem dX0_change_196 : decode cX0_change 196 = .ok (.iastore, 1) := by decide +kernel
theorem dX0_change_197 : decode cX0_change 197 = .ok (.aload_n 0, 1) := by decide +kernel
theorem dX0_change_198 : decode cX0_change 198 = .ok (.getfield 9, 3) := by decide +kernel
theorem dX0_change_201 : decode cX0_change 201 = .ok (.iconst 1, 1) := by decide +kernel
theorem dX0_change_202 : decode cX0_change 202 = .ok (.aload_n 0, 1) := by decide +kernel
theorem dX0_change_203 : decode cX0_change 203 = .ok (.getfield 23, 3) := by decide +kernel
theorem dX0_change_206 : decode cX0_change 206 = .ok (.iastore, 1) := by decide +kernel
theorem dX0_change_207 : decode cX0_change 207 = .ok (.aload_n 0, 1) := by decide +kernel
theorem dX0_change_208 : decode cX0_change 208 = .ok (.getfield 9, 3) := by decide +kernel
theorem dX0_change_211 : decode cX0_change 211 = .ok (.iconst 2, 1) := by decide +kernel
theorem dX0_change_212 : decode cX0_change 212 = .ok (.aload_n 0, 1) := by decide +kernel
theorem dX0_change_213 : decode cX0_change 213 = .ok (.getfield 27, 3) := by decide +kernel
theorem dX0_change_216 : decode cX0_change 216 = .ok (.iastore, 1) := by decide +kernel
theorem dX0_change_217 : decode cX0_change 217 = .ok (.aload_n 0, 1) := by decide +kernel
theorem dX0_change_218 : decode cX0_change 218 = .ok (.iload 5, 2) := by decide +kernel
theorem dX0_change_220 : decode cX0_change 220 = .ok (.invokevirtual 126, 3) := by decide +kernel
theorem dX0_change_223 : decode cX0_change 223 = .ok (.aload_n 0, 1) := by decide +kernel
theorem dX0_change_224 : decode cX0_change 224 = .ok (.iload 5, 2) := by decide +kernel
theorem dX0_change_226 : decode cX0_change 226 = .ok (.invokevirtual 130, 3) := by decide +kernel
theorem dX0_change_229 : decode cX0_change 229 = .ok (.aload_n 0, 1) := by decide +kernel
theorem dX0_change_230 : decode cX0_change 230 = .ok (.iload 5, 2) := by decide +kernel
theorem dX0_change_232 : decode cX0_change 232 = .ok (.aload_n 2, 1) := by decide +kernel
theorem dX0_change_233 : decode cX0_change 233 = .ok (.iconst 3, 1) := by decide +kernel
theorem dX0_change_234 : decode cX0_change 234 = .ok (.iaload, 1) := by decide +kernel
theorem dX0_change_235 : decode cX0_change 235 = .ok (.invokevirtual 133, 3) := by decide +kernel
theorem dX0_change_238 : decode cX0_change 238 = .ok (.iload_n 3, 1) := by decide +kernel
theorem dX0_change_239 : decode cX0_change 239 = .ok (.iconst 1, 1) := by decide +kernel
theorem dX0_change_240 : decode cX0_change 240 = .ok (.iadd, 1) := by decide +kernel
theorem dX0_change_241 : decode cX0_change 241 = .ok (.ireturn, 1) := by decide +kernel
theorem dX0_change_242 : decode cX0_change 242 = .ok (.iload_n 3, 1) := by decide +kernel
theorem dX0_change_243 : decode cX0_change 243 = .ok (.iconst 1, 1) := by decide +kernel
theorem dX0_change_244 : decode cX0_change 244 = .ok (.iadd, 1) := by decide +kernel
theorem dX0_change_245 : decode cX0_change 245 = .ok (.ireturn, 1) := by decide +kernel
theorem dX0_giveParts_0 : decode cX0_giveParts 0 = .ok (.iconst 0, 1) := by decide +kernel
theorem dX0_giveParts_1 : decode cX0_giveParts 1 = .ok (.istore_n 2, 1) := by decide +kernel
theorem dX0_giveParts_2 : decode cX0_giveParts 2 = .ok (.iconst 0, 1) := by decide +kernel
theorem dX0_giveParts_3 : decode cX0_giveParts 3 = .ok (.istore_n 3, 1) := by decide +kernel
theorem dX0_giveParts_4 : decode cX0_giveParts 4 = .ok (.iload_n 3, 1) := by decide +kernel
theorem dX0_giveParts_5 : decode cX0_giveParts 5 = .ok (.iload_n 1, 1) := by decide +kernel
theorem dX0_giveParts_6 : decode cX0_giveParts 6 = .ok (.if_icmp .ge 147, 3) := by decide +kernel
theorem dX0_giveParts_9 : decode cX0_giveParts 9 = .ok (.aload_n 0, 1) := by decide +kernel
theorem dX0_giveParts_10 : decode cX0_giveParts 10 = .ok (.getfield 39, 3) := by decide +kernel
theorem dX0_giveParts_13 : decode cX0_giveParts 13 = .ok (.getfield 58, 3) := by decide +kernel
theorem dX0_giveParts_16 : decode cX0_giveParts 16 = .ok (.aload_n 0, 1) := by decide +kernel
theorem dX0_giveParts_17 : decode cX0_giveParts 17 = .ok (.getfield 9, 3) := by decide +kernel
theorem dX0_giveParts_20 : decode cX0_giveParts 20 = .ok (.iload_n 3, 1) := by decide +kernel
theorem dX0_giveParts_21 : decode cX0_giveParts 21 = .ok (.iaload, 1) := by decide +kernel
theorem dX0_giveParts_22 : decode cX0_giveParts 22 = .ok (.aaload, 1) := by decide +kernel
theorem dX0_giveParts_23 : decode cX0_giveParts 23 = .ok (.getfield 136, 3) := by decide +kernel
theorem dX0_giveParts_26 : decode cX0_giveParts 26 = .ok (.istore 4, 2) := by decide +kernel
theorem dX0_giveParts_28 : decode cX0_giveParts 28 = .ok (.iload_n 3, 1) := by decide +kernel
theorem dX0_giveParts_29 : decode cX0_giveParts 29 = .ok (.iconst 1, 1) := by decide +kernel
theorem dX0_giveParts_30 : decode cX0_giveParts 30 = .ok (.iadd, 1) := by decide +kernel
theorem dX0_giveParts_31 : decode cX0_giveParts 31 = .ok (.iload_n 1, 1) := by decide +kernel
theorem dX0_giveParts_32 : decode cX0_giveParts 32 = .ok (.if_icmp .ge 14, 3) := by decide +kernel
theorem dX0_giveParts_35 : decode cX0_giveParts 35 = .ok (.aload_n 0, 1) := by decide +kernel
theorem dX0_giveParts_36 : decode cX0_giveParts 36 = .ok (.getfield 9, 3) := by decide +kernel
theorem dX0_giveParts_39 : decode cX0_giveParts 39 = .ok (.iload_n 3, 1) := by decide +kernel
theorem dX0_giveParts_40 : decode cX0_giveParts 40 = .ok (.iconst 1, 1) := by decide +kernel
theorem dX0_giveParts_41 : decode cX0_giveParts 41 = .ok (.iadd, 1) := by decide +kernel
theorem dX0_giveParts_42 : decode cX0_giveParts 42 = .ok (.iaload, 1) := by decide +kernel
theorem dX0_giveParts_43 : decode cX0_giveParts 43 = .ok (.goto 10, 3) := by decide +kernel
theorem dX0_giveParts_46 : decode cX0_giveParts 46 = .ok (.aload_n 0, 1) := by decide +kernel
theorem dX0_giveParts_47 : decode cX0_giveParts 47 = .ok (.getfield 39, 3) := by decide +kernel
theorem dX0_giveParts_50 : decode cX0_giveParts 50 = .ok (.getfield 52, 3) := by decide +kernel
theorem dX0_giveParts_53 : decode cX0_giveParts 53 = .ok (.istore 5, 2) := by decide +kernel
theorem dX0_giveParts_55 : decode cX0_giveParts 55 = .ok (.aload_n 0, 1) := by decide +kernel
theorem dX0_giveParts_56 : decode cX0_giveParts 56 = .ok (.getfield 9, 3) := by decide +kernel
theorem dX0_giveParts_59 : decode cX0_giveParts 59 = .ok (.iload_n 3, 1) := by decide +kernel
theorem dX0_giveParts_60 : decode cX0_giveParts 60 = .ok (.iaload, 1) := by decide +kernel
theorem dX0_giveParts_61 : decode cX0_giveParts 61 = .ok (.iconst 1, 1) := by decide +kernel
theorem dX0_giveParts_62 : decode cX0_giveParts 62 = .ok (.iadd, 1) := by decide +kernel
theorem dX0_giveParts_63 : decode cX0_giveParts 63 = .ok (.istore 6, 2) := by decide +kernel
theorem dX0_giveParts_65 : decode cX0_giveParts 65 = .ok (.iload 6, 2) := by decide +kernel
theorem dX0_giveParts_67 : decode cX0_giveParts 67 = .ok (.iload 5, 2) := by decide +kernel
theorem dX0_giveParts_69 : decode cX0_giveParts 69 = .ok (.if_icmp .ge 73, 3) := by decide +kernel
theorem dX0_giveParts_72 : decode cX0_giveParts 72 = .ok (.aload_n 0, 1) := by decide +kernel
theorem dX0_giveParts_73 : decode cX0_giveParts 73 = .ok (.getfield 15, 3) := by decide +kernel
theorem dX0_giveParts_76 : decode cX0_giveParts 76 = .ok (.aload_n 0, 1) := by decide +kernel
theorem dX0_giveParts_77 : decode cX0_giveParts 77 = .ok (.getfield 39, 3) := by decide +kernel
theorem dX0_giveParts_80 : decode cX0_giveParts 80 = .ok (.getfield 58, 3) := by decide +kernel
theorem dX0_giveParts_83 : decode cX0_giveParts 83 = .ok (.iload 6, 2) := by decide +kernel
theorem dX0_giveParts_85 : decode cX0_giveParts 85 = .ok (.aaload, 1) := by decide +kernel
theorem dX0_giveParts_86 : decode cX0_giveParts 86 = .ok (.getfield 84, 3) := by decide +kernel
theorem dX0_giveParts_89 : decode cX0_giveParts 89 = .ok (.invokevirtual 139, 3) := by decide +kernel
theorem dX0_giveParts_92 : decode cX0_giveParts 92 = .ok (.ifCond .eq 50, 3) := by decide +kernel
theorem dX0_giveParts_95 : decode cX0_giveParts 95 = .ok (.aload_n 0, 1) := by decide +kernel
theorem dX0_giveParts_96 : decode cX0_giveParts 96 = .ok (.getfield 39, 3) := by decide +kernel
theorem dX0_giveParts_99 : decode cX0_giveParts 99 = .ok (.getfield 58, 3) := by decide +kernel
theorem dX0_giveParts_102 : decode cX0_giveParts 102 = .ok (.iload 6, 2) := by decide +kernel
theorem dX0_giveParts_104 : decode cX0_giveParts 104 = .ok (.aaload, 1) := by decide +kernel
theorem dX0_giveParts_105 : decode cX0_giveParts 105 = .ok (.astore 7, 2) := by decide +kernel
theorem dX0_giveParts_107 : decode cX0_giveParts 107 = .ok (.aload 7, 2) := by decide +kernel
theorem dX0_giveParts_109 : decode cX0_giveParts 109 = .ok (.iload_n 2, 1) := by decide +kernel
theorem dX0_giveParts_110 : decode cX0_giveParts 110 = .ok (.aload 7, 2) := by decide +kernel
theorem dX0_giveParts_112 : decode cX0_giveParts 112 = .ok (.getfield 142, 3) := by decide +kernel
theorem dX0_giveParts_115 : decode cX0_giveParts 115 = .ok (.bipush (-100), 2) := by decide +kernel
theorem dX0_giveParts_117 : decode cX0_giveParts 117 = .ok (.if_icmp .ne 10, 3) := by decide +kernel
theorem dX0_giveParts_120 : decode cX0_giveParts 120 = .ok (.iload 4, 2) := by decide +kernel
theorem dX0_giveParts_122 : decode cX0_giveParts 122 = .ok (.iconst 1, 1) := by decide +kernel
theorem dX0_giveParts_123 : decode cX0_giveParts 123 = .ok (.isub, 1) := by decide +kernel
theorem dX0_giveParts_124 : decode cX0_giveParts 124 = .ok (.goto 8, 3) := by decide +kernel
theorem dX0_giveParts_127 : decode cX0_giveParts 127 = .ok (.aload 7, 2) := by decide +kernel
theorem dX0_giveParts_129 : decode cX0_giveParts 129 = .ok (.getfield 142, 3) := by decide +kernel
theorem dX0_giveParts_132 : decode cX0_giveParts 132 = .ok (.iadd, 1) := by decide +kernel
theorem dX0_giveParts_133 : decode cX0_giveParts 133 = .ok (.putfield 142, 3) := by decide +kernel
theorem dX0_giveParts_136 : decode cX0_giveParts 136 = .ok (.iinc 6 1, 3) := by decide +kernel
theorem dX0_giveParts_139 : decode cX0_giveParts 139 = .ok (.goto (-74), 3) := by decide +kernel
theorem dX0_giveParts_142 : decode cX0_giveParts 142 = .ok (.iload_n 2, 1) := by decide +kernel
theorem dX0_giveParts_143 : decode cX0_giveParts 143 = .ok (.iload 4, 2) := by decide +kernel
theorem dX0_giveParts_145 : decode cX0_giveParts 145 = .ok (.iadd, 1) := by decide +kernel
theorem dX0_giveParts_146 : decode cX0_giveParts 146 = .ok (.istore_n 2, 1) := by decide +kernel
theorem dX0_giveParts_147 : decode cX0_giveParts 147 = .ok (.iinc 3 1, 3) := by decide +kernel
theorem dX0_giveParts_150 : decode cX0_giveParts 150 = .ok (.goto (-146), 3) := by decide +kernel
theorem dX0_giveParts_153 : decode cX0_giveParts 153 = .ok (.return_, 1) := by decide +kernel
theorem dX0_mergeClusters_0 : decode cX0_mergeClusters 0 = .ok (.aload_n 0, 1) := by decide +kernel
theorem dX0_mergeClusters_1 : decode cX0_mergeClusters 1 = .ok (.getfield 39, 3) := by decide +kernel
theorem dX0_mergeClusters_4 : decode cX0_mergeClusters 4 = .ok (.getfield 58, 3) := by decide +kernel
theorem dX0_mergeClusters_7 : decode cX0_mergeClusters 7 = .ok (.aload_n 0, 1) := by decide +kernel
theorem dX0_mergeClusters_8 : decode cX0_mergeClusters 8 = .ok (.getfield 9, 3) := by decide +kernel
theorem dX0_mergeClusters_11 : decode cX0_mergeClusters 11 = .ok (.iconst 0, 1) := by decide +kernel
theorem dX0_mergeClusters_12 : decode cX0_mergeClusters 12 = .ok (.iaload, 1) := by decide +kernel
theorem dX0_mergeClusters_13 : decode cX0_mergeClusters 13 = .ok (.aaload, 1) := by decide +kernel
theorem dX0_mergeClusters_14 : decode cX0_mergeClusters 14 = .ok (.getfield 145, 3) := by decide +kernel
theorem dX0_mergeClusters_17 : decode cX0_mergeClusters 17 = .ok (.istore_n 2, 1) := by decide +kernel
theorem dX0_mergeClusters_18 : decode cX0_mergeClusters 18 = .ok (.iload_n 2, 1) := by decide +kernel
theorem dX0_mergeClusters_19 : decode cX0_mergeClusters 19 = .ok (.istore_n 3, 1) := by decide +kernel
theorem dX0_mergeClusters_20 : decode cX0_mergeClusters 20 = .ok (.iconst 1, 1) := by decide +kernel
theorem dX0_mergeClusters_21 : decode cX0_mergeClusters 21 = .ok (.istore 4, 2) := by decide +kernel
theorem dX0_mergeClusters_23 : decode cX0_mergeClusters 23 = .ok (.iload 4, 2) := by decide +kernel
theorem dX0_mergeClusters_25 : decode cX0_mergeClusters 25 = .ok (.iload_n 1, 1) := by decide +kernel
theorem dX0_mergeClusters_26 : decode cX0_mergeClusters 26 = .ok (.if_icmp .ge 43, 3) := by decide +kernel
theorem dX0_mergeClusters_29 : decode cX0_mergeClusters 29 = .ok (.aload_n 0, 1) := by decide +kernel
theorem dX0_mergeClusters_30 : decode cX0_mergeClusters 30 = .ok (.getfield 39, 3) := by decide +kernel
theorem dX0_mergeClusters_33 : decode cX0_mergeClusters 33 = .ok (.getfield 58, 3) := by decide +kernel
theorem dX0_mergeClusters_36 : decode cX0_mergeClusters 36 = .ok (.aload_n 0, 1) := by decide +kernel
theorem dX0_mergeClusters_37 : decode cX0_mergeClusters 37 = .ok (.getfield 9, 3) := by decide +kernel
theorem dX0_mergeClusters_40 : decode cX0_mergeClusters 40 = .ok (.iload 4, 2) := by decide +kernel
theorem dX0_mergeClusters_42 : decode cX0_mergeClusters 42 = .ok (.iaload, 1) := by decide +kernel
theorem dX0_mergeClusters_43 : decode cX0_mergeClusters 43 = .ok (.aaload, 1) := by decide +kernel
theorem dX0_mergeClusters_44 : decode cX0_mergeClusters 44 = .ok (.getfield 145, 3) := by decide +kernel
theorem dX0_mergeClusters_47 : decode cX0_mergeClusters 47 = .ok (.istore 5, 2) := by decide +kernel
theorem dX0_mergeClusters_49 : decode cX0_mergeClusters 49 = .ok (.iload_n 2, 1) := by decide +kernel
theorem dX0_mergeClusters_50 : decode cX0_mergeClusters 50 = .ok (.iload 5, 2) := by decide +kernel
theorem dX0_mergeClusters_52 : decode cX0_mergeClusters 52 = .ok (.invokestatic 148, 3) := by decide +kernel
theorem dX0_mergeClusters_55 : decode cX0_mergeClusters 55 = .ok (.istore_n 2, 1) := by decide +kernel
theorem dX0_mergeClusters_56 : decode cX0_mergeClusters 56 = .ok (.iload_n 3, 1) := by decide +kernel
theorem dX0_mergeClusters_57 : decode cX0_mergeClusters 57 = .ok (.iload 5, 2) := by decide +kernel
theorem dX0_mergeClusters_59 : decode cX0_mergeClusters 59 = .ok (.invokestatic 154, 3) := by decide +kernel
theorem dX0_mergeClusters_62 : decode cX0_mergeClusters 62 = .ok (.istore_n 3, 1) := by decide +kernel
theorem dX0_mergeClusters_63 : decode cX0_mergeClusters 63 = .ok (.iinc 4 1, 3) := by decide +kernel
theorem dX0_mergeClusters_66 : decode cX0_mergeClusters 66 = .ok (.goto (-43), 3) := by decide +kernel
theorem dX0_mergeClusters_69 : decode cX0_mergeClusters 69 = .ok (.iconst 0, 1) := by decide +kernel
theorem dX0_mergeClusters_70 : decode cX0_mergeClusters 70 = .ok (.istore 4, 2) := by decide +kernel
theorem dX0_mergeClusters_72 : decode cX0_mergeClusters 72 = .ok (.iload 4, 2) := by decide +kernel
theorem dX0_mergeClusters_74 : decode cX0_mergeClusters 74 = .ok (.aload_n 0, 1) := by decide +kernel
theorem dX0_mergeClusters_75 : decode cX0_mergeClusters 75 = .ok (.getfield 39, 3) := by decide +kernel
theorem dX0_mergeClusters_78 : decode cX0_mergeClusters 78 = .ok (.getfield 52, 3) := by decide +kernel
theorem dX0_mergeClusters_81 : decode cX0_mergeClusters 81 = .ok (.if_icmp .ge 45, 3) := by decide +kernel
theorem dX0_mergeClusters_84 : decode cX0_mergeClusters 84 = .ok (.aload_n 0, 1) := by decide +kernel
theorem dX0_mergeClusters_85 : decode cX0_mergeClusters 85 = .ok (.getfield 39, 3) := by decide +kernel
theorem dX0_mergeClusters_88 : decode cX0_mergeClusters 88 = .ok (.getfield 58, 3) := by decide +kernel
theorem dX0_mergeClusters_91 : decode cX0_mergeClusters 91 = .ok (.iload 4, 2) := by decide +kernel
theorem dX0_mergeClusters_93 : decode cX0_mergeClusters 93 = .ok (.aaload, 1) := by decide +kernel
theorem dX0_mergeClusters_94 : decode cX0_mergeClusters 94 = .ok (.astore 5, 2) := by decide +kernel
theorem dX0_mergeClusters_96 : decode cX0_mergeClusters 96 = .ok (.aload 5, 2) := by decide +kernel
theorem dX0_mergeClusters_98 : decode cX0_mergeClusters 98 = .ok (.getfield 145, 3) := by decide +kernel
theorem dX0_mergeClusters_101 : decode cX0_mergeClusters 101 = .ok (.iload_n 2, 1) := by decide +kernel
theorem dX0_mergeClusters_102 : decode cX0_mergeClusters 102 = .ok (.if_icmp .le 18, 3) := by decide +kernel
theorem dX0_mergeClusters_105 : decode cX0_mergeClusters 105 = .ok (.aload 5, 2) := by decide +kernel
theorem dX0_mergeClusters_107 : decode cX0_mergeClusters 107 = .ok (.getfield 145, 3) := by decide +kernel
theorem dX0_mergeClusters_110 : decode cX0_mergeClusters 110 = .ok (.iload_n 3, 1) := by decide +kernel
theorem dX0_mergeClusters_111 : decode cX0_mergeClusters 111 = .ok (.if_icmp .gt 9, 3) := by decide +kernel
theorem dX0_mergeClusters_114 : decode cX0_mergeClusters 114 = .ok (.aload 5, 2) := by decide +kernel
theorem dX0_mergeClusters_116 : decode cX0_mergeClusters 116 = .ok (.iload_n 2, 1) := by decide +kernel
theorem dX0_mergeClusters_117 : decode cX0_mergeClusters 117 = .ok (.putfield 145, 3) := by decide +kernel
theorem dX0_mergeClusters_120 : decode cX0_mergeClusters 120 = .ok (.iinc 4 1, 3) := by decide +kernel
theorem dX0_mergeClusters_123 : decode cX0_mergeClusters 123 = .ok (.goto (-51), 3) := by decide +kernel
theorem dX0_mergeClusters_126 : decode cX0_mergeClusters 126 = .ok (.return_, 1) := by decide +kernel
theorem dX0_fuse_0 : decode cX0_fuse 0 = .ok (.aload_n 0, 1) := by decide +kernel
theorem dX0_fuse_1 : decode cX0_fuse 1 = .ok (.getfield 39, 3) := by decide +kernel
theorem dX0_fuse_4 : decode cX0_fuse 4 = .ok (.getfield 58, 3) := by decide +kernel
theorem dX0_fuse_7 : decode cX0_fuse 7 = .ok (.aload_n 0, 1) := by decide +kernel
theorem dX0_fuse_8 : decode cX0_fuse 8 = .ok (.getfield 9, 3) := by decide +kernel
theorem dX0_fuse_11 : decode cX0_fuse 11 = .ok (.iconst 0, 1) := by decide +kernel
theorem dX0_fuse_12 : decode cX0_fuse 12 = .ok (.iaload, 1) := by decide +kernel
theorem dX0_fuse_13 : decode cX0_fuse 13 = .ok (.aaload, 1) := by decide +kernel
theorem dX0_fuse_14 : decode cX0_fuse 14 = .ok (.astore_n 3, 1) := by decide +kernel
theorem dX0_fuse_15 : decode cX0_fuse 15 = .ok (.aload_n 3, 1) := by decide +kernel
theorem dX0_fuse_16 : decode cX0_fuse 16 = .ok (.iload_n 2, 1) := by decide +kernel
theorem dX0_fuse_17 : decode cX0_fuse 17 = .ok (.putfield 84, 3) := by decide +kernel
theorem dX0_fuse_20 : decode cX0_fuse 20 = .ok (.iconst 1, 1) := by decide +kernel
theorem dX0_fuse_21 : decode cX0_fuse 21 = .ok (.istore 4, 2) := by decide +kernel
theorem dX0_fuse_23 : decode cX0_fuse 23 = .ok (.iload 4, 2) := by decide +kernel
theorem dX0_fuse_25 : decode cX0_fuse 25 = .ok (.iload_n 1, 1) := by decide +kernel
theorem dX0_fuse_26 : decode cX0_fuse 26 = .ok (.if_icmp .ge 36, 3) := by decide +kernel
theorem dX0_fuse_29 : decode cX0_fuse 29 = .ok (.aload_n 3, 1) := by decide +kernel
theorem dX0_fuse_30 : decode cX0_fuse 30 = .ok (.dup, 1) := by decide +kernel
theorem dX0_fuse_31 : decode cX0_fuse 31 = .ok (.getfield 136, 3) := by decide +kernel
theorem dX0_fuse_34 : decode cX0_fuse 34 = .ok (.aload_n 0, 1) := by decide +kernel
theorem dX0_fuse_35 : decode cX0_fuse 35 = .ok (.getfield 39, 3) := by decide +kernel
theorem dX0_fuse_38 : decode cX0_fuse 38 = .ok (.getfield 58, 3) := by decide +kernel
theorem dX0_fuse_41 : decode cX0_fuse 41 = .ok (.aload_n 0, 1) := by decide +kernel
theorem dX0_fuse_42 : decode cX0_fuse 42 = .ok (.getfield 9, 3) := by decide +kernel
theorem dX0_fuse_45 : decode cX0_fuse 45 = .ok (.iload 4, 2) := by decide +kernel
theorem dX0_fuse_47 : decode cX0_fuse 47 = .ok (.iaload, 1) := by decide +kernel
theorem dX0_fuse_48 : decode cX0_fuse 48 = .ok (.aaload, 1) := by decide +kernel
theorem dX0_fuse_49 : decode cX0_fuse 49 = .ok (.getfield 136, 3) := by decide +kernel
theorem dX0_fuse_52 : decode cX0_fuse 52 = .ok (.iadd, 1) := by decide +kernel
theorem dX0_fuse_53 : decode cX0_fuse 53 = .ok (.putfield 136, 3) := by decide +kernel
theorem dX0_fuse_56 : decode cX0_fuse 56 = .ok (.iinc 4 1, 3) := by decide +kernel
theorem dX0_fuse_59 : decode cX0_fuse 59 = .ok (.goto (-36), 3) := by decide +kernel
theorem dX0_fuse_62 : decode cX0_fuse 62 = .ok (.iload_n 1, 1) := by decide +kernel
theorem dX0_fuse_63 : decode cX0_fuse 63 = .ok (.iconst 1, 1) := by decide +kernel
theorem dX0_fuse_64 : decode cX0_fuse 64 = .ok (.isub, 1) := by decide +kernel
theorem dX0_fuse_65 : decode cX0_fuse 65 = .ok (.istore 4, 2) := by decide +kernel
theorem dX0_fuse_67 : decode cX0_fuse 67 = .ok (.iload 4, 2) := by decide +kernel
theorem dX0_fuse_69 : decode cX0_fuse 69 = .ok (.ifCond .le 23, 3) := by decide +kernel
theorem dX0_fuse_72 : decode cX0_fuse 72 = .ok (.aload_n 0, 1) := by decide +kernel
theorem dX0_fuse_73 : decode cX0_fuse 73 = .ok (.getfield 39, 3) := by decide +kernel
theorem dX0_fuse_76 : decode cX0_fuse 76 = .ok (.aload_n 0, 1) := by decide +kernel
theorem dX0_fuse_77 : decode cX0_fuse 77 = .ok (.getfield 9, 3) := by decide +kernel
theorem dX0_fuse_80 : decode cX0_fuse 80 = .ok (.iload 4, 2) := by decide +kernel
theorem dX0_fuse_82 : decode cX0_fuse 82 = .ok (.iaload, 1) := by decide +kernel
theorem dX0_fuse_83 : decode cX0_fuse 83 = .ok (.invokevirtual 157, 3) := by decide +kernel
theorem dX0_fuse_86 : decode cX0_fuse 86 = .ok (.iinc 4 (-1), 3) := by decide +kernel
theorem dX0_fuse_89 : decode cX0_fuse 89 = .ok (.goto (-22), 3) := by decide +kernel
theorem dX0_fuse_92 : decode cX0_fuse 92 = .ok (.return_, 1) := by decide +kernel
theorem dX0_call_0 : decode cX0_call 0 = .ok (.aload_n 1, 1) := by decide +kernel
theorem dX0_call_1 : decode cX0_call 1 = .ok (.iconst 2, 1) := by decide +kernel
theorem dX0_call_2 : decode cX0_call 2 = .ok (.iaload, 1) := by decide +kernel
theorem dX0_call_3 : decode cX0_call 3 = .ok (.bipush (-100), 2) := by decide +kernel
theorem dX0_call_5 : decode cX0_call 5 = .ok (.if_icmp .ne 7, 3) := by decide +kernel
theorem dX0_call_8 : decode cX0_call 8 = .ok (.iload_n 2, 1) := by decide +kernel
theorem dX0_call_9 : decode cX0_call 9 = .ok (.goto 7, 3) := by decide +kernel
theorem dX0_call_12 : decode cX0_call 12 = .ok (.aload_n 0, 1) := by decide +kernel
theorem dX0_call_13 : decode cX0_call 13 = .ok (.getfield 23, 3) := by decide +kernel
theorem dX0_call_16 : decode cX0_call 16 = .ok (.istore_n 3, 1) := by decide +kernel
theorem dX0_call_17 : decode cX0_call 17 = .ok (.aload_n 1, 1) := by decide +kernel
theorem dX0_call_18 : decode cX0_call 18 = .ok (.iconst 4, 1) := by decide +kernel
theorem dX0_call_19 : decode cX0_call 19 = .ok (.iaload, 1) := by decide +kernel
theorem dX0_call_20 : decode cX0_call 20 = .ok (.ifCond .ne 7, 3) := by decide +kernel
theorem dX0_call_23 : decode cX0_call 23 = .ok (.iload_n 2, 1) := by decide +kernel
theorem dX0_call_24 : decode cX0_call 24 = .ok (.goto 7, 3) := by decide +kernel
theorem dX0_call_27 : decode cX0_call 27 = .ok (.aload_n 0, 1) := by decide +kernel
theorem dX0_call_28 : decode cX0_call 28 = .ok (.getfield 23, 3) := by decide +kernel
theorem dX0_call_31 : decode cX0_call 31 = .ok (.istore 4, 2) := by decide +kernel
theorem dX0_call_33 : decode cX0_call 33 = .ok (.aload_n 0, 1) := by decide +kernel
theorem dX0_call_34 : decode cX0_call 34 = .ok (.getfield 15, 3) := by decide +kernel
theorem dX0_call_37 : decode cX0_call 37 = .ok (.aload_n 1, 1) := by decide +kernel
theorem dX0_call_38 : decode cX0_call 38 = .ok (.iconst 5, 1) := by decide +kernel
theorem dX0_call_39 : decode cX0_call 39 = .ok (.iaload, 1) := by decide +kernel
theorem dX0_call_40 : decode cX0_call 40 = .ok (.invokevirtual 160, 3) := by decide +kernel
theorem dX0_call_43 : decode cX0_call 43 = .ok (.astore 5, 2) := by decide +kernel
theorem dX0_call_45 : decode cX0_call 45 = .ok (.aload 5, 2) := by decide +kernel
theorem dX0_call_47 : decode cX0_call 47 = .ok (.ifnull 35, 3) := by decide +kernel
theorem dX0_call_50 : decode cX0_call 50 = .ok (.aload 5, 2) := by decide +kernel
theorem dX0_call_52 : decode cX0_call 52 = .ok (.getfield 43, 3) := by decide +kernel
theorem dX0_call_55 : decode cX0_call 55 = .ok (.iconst 3, 1) := by decide +kernel
theorem dX0_call_56 : decode cX0_call 56 = .ok (.if_icmp .gt 26, 3) := by decide +kernel
theorem dX0_call_59 : decode cX0_call 59 = .ok (.aload_n 0, 1) := by decide +kernel
theorem dX0_call_60 : decode cX0_call 60 = .ok (.getfield 39, 3) := by decide +kernel
theorem dX0_call_63 : decode cX0_call 63 = .ok (.iload_n 3, 1) := by decide +kernel
theorem dX0_call_64 : decode cX0_call 64 = .ok (.invokevirtual 122, 3) := by decide +kernel
theorem dX0_call_67 : decode cX0_call 67 = .ok (.ifCond .eq 15, 3) := by decide +kernel
theorem dX0_call_70 : decode cX0_call 70 = .ok (.aload_n 0, 1) := by decide +kernel
theorem dX0_call_71 : decode cX0_call 71 = .ok (.getfield 39, 3) := by decide +kernel
theorem dX0_call_74 : decode cX0_call 74 = .ok (.iload 4, 2) := by decide +kernel
theorem dX0_call_76 : decode cX0_call 76 = .ok (.invokevirtual 122, 3) := by decide +kernel
theorem dX0_call_79 : decode cX0_call 79 = .ok (.ifCond .ne 11, 3) := by decide +kernel
theorem dX0_call_82 : decode cX0_call 82 = .ok (.iload_n 2, 1) := by decide +kernel
theorem dX0_call_83 : decode cX0_call 83 = .ok (.iload_n 3, 1) := by decide +kernel
theorem dX0_call_84 : decode cX0_call 84 = .ok (.invokestatic 154, 3) := by decide +kernel
theorem dX0_call_87 : decode cX0_call 87 = .ok (.iconst 1, 1) := by decide +kernel
theorem dX0_call_88 : decode cX0_call 88 = .ok (.iadd, 1) := by decide +kernel
theorem dX0_call_89 : decode cX0_call 89 = .ok (.ireturn, 1) := by decide +kernel
theorem dX0_call_90 : decode cX0_call 90 = .ok (.aload_n 0, 1) := by decide +kernel
theorem dX0_call_91 : decode cX0_call 91 = .ok (.getfield 39, 3) := by decide +kernel
theorem dX0_call_94 : decode cX0_call 94 = .ok (.getfield 58, 3) := by decide +kernel
theorem dX0_call_97 : decode cX0_call 97 = .ok (.iload_n 3, 1) := by decide +kernel
theorem dX0_call_98 : decode cX0_call 98 = .ok (.aaload, 1) := by decide +kernel
theorem dX0_call_99 : decode cX0_call 99 = .ok (.astore 6, 2) := by decide +kernel
theorem dX0_call_101 : decode cX0_call 101 = .ok (.aload_n 0, 1) := by decide +kernel
theorem dX0_call_102 : decode cX0_call 102 = .ok (.getfield 15, 3) := by decide +kernel
theorem dX0_call_105 : decode cX0_call 105 = .ok (.aload 5, 2) := by decide +kernel
theorem dX0_call_107 : decode cX0_call 107 = .ok (.aload_n 0, 1) := by decide +kernel
theorem dX0_call_108 : decode cX0_call 108 = .ok (.getfield 39, 3) := by decide +kernel
theorem dX0_call_111 : decode cX0_call 111 = .ok (.getfield 58, 3) := by decide +kernel
theorem dX0_call_114 : decode cX0_call 114 = .ok (.iload 4, 2) := by decide +kernel
theorem dX0_call_116 : decode cX0_call 116 = .ok (.aaload, 1) := by decide +kernel
theorem dX0_call_117 : decode cX0_call 117 = .ok (.getfield 84, 3) := by decide +kernel
theorem dX0_call_120 : decode cX0_call 120 = .ok (.invokevirtual 164, 3) := by decide +kernel
theorem dX0_call_123 : decode cX0_call 123 = .ok (.ifCond .eq 7, 3) := by decide +kernel
theorem dX0_call_126 : decode cX0_call 126 = .ok (.iload_n 3, 1) := by decide +kernel
theorem dX0_call_127 : decode cX0_call 127 = .ok (.iconst 1, 1) := by decide +kernel
theorem dX0_call_128 : decode cX0_call 128 = .ok (.iadd, 1) := by decide +kernel
theorem dX0_call_129 : decode cX0_call 129 = .ok (.ireturn, 1) := by decide +kernel
theorem dX0_call_130 : decode cX0_call 130 = .ok (.aload_n 0, 1) := by decide +kernel
theorem dX0_call_131 : decode cX0_call 131 = .ok (.aload 5, 2) := by decide +kernel
theorem dX0_call_133 : decode cX0_call 133 = .ok (.iload 4, 2) := by decide +kernel
theorem dX0_call_135 : decode cX0_call 135 = .ok (.invokevirtual 68, 3) := by decide +kernel
theorem dX0_call_138 : decode cX0_call 138 = .ok (.istore 7, 2) := by decide +kernel
theorem dX0_call_140 : decode cX0_call 140 = .ok (.iload 7, 2) := by decide +kernel
theorem dX0_call_142 : decode cX0_call 142 = .ok (.bipush (-100), 2) := by decide +kernel
theorem dX0_call_144 : decode cX0_call 144 = .ok (.if_icmp .ne 7, 3) := by decide +kernel
theorem dX0_call_147 : decode cX0_call 147 = .ok (.iload_n 3, 1) := by decide +kernel
theorem dX0_call_148 : decode cX0_call 148 = .ok (.iconst 1, 1) := by decide +kernel
theorem dX0_call_149 : decode cX0_call 149 = .ok (.iadd, 1) := by decide +kernel
theorem dX0_call_150 : decode cX0_call 150 = .ok (.ireturn, 1) := by decide +kernel
theorem dX0_call_151 : decode cX0_call 151 = .ok (.aload_n 0, 1) := by decide +kernel
theorem dX0_call_152 : decode cX0_call 152 = .ok (.aload 5, 2) := by decide +kernel
theorem dX0_call_154 : decode cX0_call 154 = .ok (.getfield 43, 3) := by decide +kernel
theorem dX0_call_157 : decode cX0_call 157 = .ok (.aload 5, 2) := by decide +kernel
theorem dX0_call_159 : decode cX0_call 159 = .ok (.getfield 72, 3) := by decide +kernel
theorem dX0_call_162 : decode cX0_call 162 = .ok (.iload 7, 2) := by decide +kernel
theorem dX0_call_164 : decode cX0_call 164 = .ok (.aaload, 1) := by decide +kernel
theorem dX0_call_165 : decode cX0_call 165 = .ok (.iload 4, 2) := by decide +kernel
theorem dX0_call_167 : decode cX0_call 167 = .ok (.invokevirtual 80, 3) := by decide +kernel
theorem dX0_call_170 : decode cX0_call 170 = .ok (.istore 8, 2) := by decide +kernel
theorem dX0_call_172 : decode cX0_call 172 = .ok (.iload 4, 2) := by decide +kernel
theorem dX0_call_174 : decode cX0_call 174 = .ok (.iload_n 3, 1) := by decide +kernel
theorem dX0_call_175 : decode cX0_call 175 = .ok (.if_icmp .ne 6, 3) := by decide +kernel
theorem dX0_call_178 : decode cX0_call 178 = .ok (.iload 8, 2) := by decide +kernel
theorem dX0_call_180 : decode cX0_call 180 = .ok (.ireturn, 1) := by decide +kernel
theorem dX0_call_181 : decode cX0_call 181 = .ok (.aload_n 0, 1) := by decide +kernel
theorem dX0_call_182 : decode cX0_call 182 = .ok (.getfield 39, 3) := by decide +kernel
theorem dX0_call_185 : decode cX0_call 185 = .ok (.aload 6, 2) := by decide +kernel
theorem dX0_call_187 : decode cX0_call 187 = .ok (.invokevirtual 168, 3) := by decide +kernel
theorem dX0_call_190 : decode cX0_call 190 = .ok (.istore 9, 2) := by decide +kernel
theorem dX0_call_192 : decode cX0_call 192 = .ok (.iload_n 2, 1) := by decide +kernel
theorem dX0_call_193 : decode cX0_call 193 = .ok (.iload 9, 2) := by decide +kernel
theorem dX0_call_195 : decode cX0_call 195 = .ok (.bipush (-100), 2) := by decide +kernel
theorem dX0_call_197 : decode cX0_call 197 = .ok (.if_icmp .ne 10, 3) := by decide +kernel
theorem dX0_call_200 : decode cX0_call 200 = .ok (.iload 8, 2) := by decide +kernel
theorem dX0_call_202 : decode cX0_call 202 = .ok (.iconst 1, 1) := by decide +kernel
theorem dX0_call_203 : decode cX0_call 203 = .ok (.isub, 1) := by decide +kernel
theorem dX0_call_204 : decode cX0_call 204 = .ok (.goto 5, 3) := by decide +kernel
theorem dX0_call_207 : decode cX0_call 207 = .ok (.iload 9, 2) := by decide +kernel
theorem dX0_call_209 : decode cX0_call 209 = .ok (.invokestatic 154, 3) := by decide +kernel
theorem dX0_call_212 : decode cX0_call 212 = .ok (.iconst 1, 1) := by decide +kernel
theorem dX0_call_213 : decode cX0_call 213 = .ok (.iadd, 1) := by decide +kernel
theorem dX0_call_214 : decode cX0_call 214 = .ok (.ireturn, 1) := by decide +kernel
theorem dX1_init_0 : decode cX1_init 0 = .ok (.aload_n 0, 1) := by decide +kernel
theorem dX1_init_1 : decode cX1_init 1 = .ok (.invokespecial 3, 3) := by decide +kernel
theorem dX1_init_4 : decode cX1_init 4 = .ok (.aload_n 0, 1) := by decide +kernel
theorem dX1_init_5 : decode cX1_init 5 = .ok (.bipush 12, 2) := by decide +kernel
theorem dX1_init_7 : decode cX1_init 7 = .ok (.anewarray 9, 3) := by decide +kernel
theorem dX1_init_10 : decode cX1_init 10 = .ok (.putfield 11, 3) := by decide +kernel
theorem dX1_init_13 : decode cX1_init 13 = .ok (.aload_n 0, 1) := by decide +kernel
theorem dX1_init_14 : decode cX1_init 14 = .ok (.sipush 256, 3) := by decide +kernel
theorem dX1_init_17 : decode cX1_init 17 = .ok (.newarray .int, 2) := by decide +kernel
theorem dX1_init_19 : decode cX1_init 19 = .ok (.putfield 17, 3) := by decide +kernel
theorem dX1_init_22 : decode cX1_init 22 = .ok (.aload_n 0, 1) := by decide +kernel
theorem dX1_init_23 : decode cX1_init 23 = .ok (.sipush 256, 3) := by decide +kernel
theorem dX1_init_26 : decode cX1_init 26 = .ok (.newarray .int, 2) := by decide +kernel
theorem dX1_init_28 : decode cX1_init 28 = .ok (.putfield 21, 3) := by decide +kernel
theorem dX1_init_31 : decode cX1_init 31 = .ok (.aload_n 0, 1) := by decide +kernel
theorem dX1_init_32 : decode cX1_init 32 = .ok (.sipush 256, 3) := by decide +kernel
theorem dX1_init_35 : decode cX1_init 35 = .ok (.newarray .int, 2) := by decide +kernel
theorem dX1_init_37 : decode cX1_init 37 = .ok (.putfield 24, 3) := by decide +kernel
theorem dX1_init_40 : decode cX1_init 40 = .ok (.aload_n 0, 1) := by decide +kernel
theorem dX1_init_41 : decode cX1_init 41 = .ok (.iconst 0, 1) := by decide +kernel
theorem dX1_init_42 : decode cX1_init 42 = .ok (.putfield 27, 3) := by decide +kernel
theorem dX1_init_45 : decode cX1_init 45 = .ok (.iconst 0, 1) := by decide +kernel
theorem dX1_init_46 : decode cX1_init 46 = .ok (.istore_n 1, 1) := by decide +kernel
theorem dX1_init_47 : decode cX1_init 47 = .ok (.iload_n 1, 1) := by decide +kernel
theorem dX1_init_48 : decode cX1_init 48 = .ok (.sipush 256, 3) := by decide +kernel
theorem dX1_init_51 : decode cX1_init 51 = .ok (.if_icmp .ge 73, 3) := by decide +kernel
theorem dX1_init_54 : decode cX1_init 54 = .ok (.iload_n 1, 1) := by decide +kernel
theorem dX1_init_55 : decode cX1_init 55 = .ok (.invokestatic 31, 3) := by decide +kernel
theorem dX1_init_58 : decode cX1_init 58 = .ok (.ifCond .ne 15, 3) := by decide +kernel
theorem dX1_init_61 : decode cX1_init 61 = .ok (.iload_n 1, 1) := by decide +kernel
theorem dX1_init_62 : decode cX1_init 62 = .ok (.bipush 44, 2) := by decide +kernel
theorem dX1_init_64 : decode cX1_init 64 = .ok (.if_icmp .eq 9, 3) := by decide +kernel
theorem dX1_init_67 : decode cX1_init 67 = .ok (.iload_n 1, 1) := by decide +kernel
theorem dX1_init_68 : decode cX1_init 68 = .ok (.bipush 65, 2) := by decide +kernel
theorem dX1_init_70 : decode cX1_init 70 = .ok (.if_icmp .ne 7, 3) := by decide +kernel
theorem dX1_init_73 : decode cX1_init 73 = .ok (.iconst 1, 1) := by decide +kernel
theorem dX1_init_74 : decode cX1_init 74 = .ok (.goto 4, 3) := by decide +kernel
theorem dX1_init_77 : decode cX1_init 77 = .ok (.iconst 0, 1) := by decide +kernel
theorem dX1_init_78 : decode cX1_init 78 = .ok (.istore_n 2, 1) := by decide +kernel
theorem dX1_init_79 : decode cX1_init 79 = .ok (.aload_n 0, 1) := by decide +kernel
theorem dX1_init_80 : decode cX1_init 80 = .ok (.getfield 17, 3) := by decide +kernel
theorem dX1_init_83 : decode cX1_init 83 = .ok (.iload_n 1, 1) := by decide +kernel
theorem dX1_init_84 : decode cX1_init 84 = .ok (.iload_n 2, 1) := by decide +kernel
theorem dX1_init_85 : decode cX1_init 85 = .ok (.ifCond .eq 7, 3) := by decide +kernel
theorem dX1_init_88 : decode cX1_init 88 = .ok (.iconst 0, 1) := by decide +kernel
theorem dX1_init_89 : decode cX1_init 89 = .ok (.goto 5, 3) := by decide +kernel
theorem dX1_init_92 : decode cX1_init 92 = .ok (.bipush (-100), 2) := by decide +kernel
theorem dX1_init_94 : decode cX1_init 94 = .ok (.iastore, 1) := by decide +kernel
theorem dX1_init_95 : decode cX1_init 95 = .ok (.aload_n 0, 1) := by decide +kernel
theorem dX1_init_96 : decode cX1_init 96 = .ok (.getfield 24, 3) := by decide +kernel
theorem dX1_init_99 : decode cX1_init 99 = .ok (.iload_n 1, 1) := by decide +kernel
theorem dX1_init_100 : decode cX1_init 100 = .ok (.iload_n 2, 1) := by decide +kernel
theorem dX1_init_101 : decode cX1_init 101 = .ok (.ifCond .ne 10, 3) := by decide +kernel
theorem dX1_init_104 : decode cX1_init 104 = .ok (.iload_n 1, 1) := by decide +kernel
theorem dX1_init_105 : decode cX1_init 105 = .ok (.invokestatic 35, 3) := by decide +kernel
theorem dX1_init_108 : decode cX1_init 108 = .ok (.ifCond .eq 7, 3) := by decide +kernel
theorem dX1_init_111 : decode cX1_init 111 = .ok (.iconst 0, 1) := by decide +kernel
theorem dX1_init_112 : decode cX1_init 112 = .ok (.goto 5, 3) := by decide +kernel
theorem dX1_init_115 : decode cX1_init 115 = .ok (.bipush 10, 2) := by decide +kernel
theorem dX1_init_117 : decode cX1_init 117 = .ok (.iastore, 1) := by decide +kernel
theorem dX1_init_118 : decode cX1_init 118 = .ok (.iinc 1 1, 3) := by decide +kernel
theorem dX1_init_121 : decode cX1_init 121 = .ok (.goto (-74), 3) := by decide +kernel
theorem dX1_init_124 : decode cX1_init 124 = .ok (.return_, 1) := by decide +kernel
theorem dX1_lookupAt_0 : decode cX1_lookupAt 0 = .ok (.iload_n 1, 1) := by decide +kernel
theorem dX1_lookupAt_1 : decode cX1_lookupAt 1 = .ok (.ifCond .lt 20, 3) := by decide +kernel
theorem dX1_lookupAt_4 : decode cX1_lookupAt 4 = .ok (.iload_n 1, 1) := by decide +kernel
theorem dX1_lookupAt_5 : decode cX1_lookupAt 5 = .ok (.aload_n 0, 1) := by decide +kernel
theorem dX1_lookupAt_6 : decode cX1_lookupAt 6 = .ok (.getfield 27, 3) := by decide +kernel
theorem dX1_lookupAt_9 : decode cX1_lookupAt 9 = .ok (.if_icmp .ge 12, 3) := by decide +kernel
theorem dX1_lookupAt_12 : decode cX1_lookupAt 12 = .ok (.aload_n 0, 1) := by decide +kernel
theorem dX1_lookupAt_13 : decode cX1_lookupAt 13 = .ok (.getfield 11, 3) := by decide +kernel
theorem dX1_lookupAt_16 : decode cX1_lookupAt 16 = .ok (.iload_n 1, 1) := by decide +kernel
theorem dX1_lookupAt_17 : decode cX1_lookupAt 17 = .ok (.aaload, 1) := by decide +kernel
theorem dX1_lookupAt_18 : decode cX1_lookupAt 18 = .ok (.goto 4, 3) := by decide +kernel
theorem dX1_lookupAt_21 : decode cX1_lookupAt 21 = .ok (.aconst_null, 1) := by decide +kernel
theorem dX1_lookupAt_22 : decode cX1_lookupAt 22 = .ok (.areturn, 1) := by decide +kernel
theorem dX1_tabulate_0 : decode cX1_tabulate 0 = .ok (.iconst 0, 1) := by decide +kernel
theorem dX1_tabulate_1 : decode cX1_tabulate 1 = .ok (.istore_n 2, 1) := by decide +kernel
theorem dX1_tabulate_2 : decode cX1_tabulate 2 = .ok (.iload_n 2, 1) := by decide +kernel
theorem dX1_tabulate_3 : decode cX1_tabulate 3 = .ok (.sipush 256, 3) := by decide +kernel
theorem dX1_tabulate_6 : decode cX1_tabulate 6 = .ok (.if_icmp .ge 26, 3) := by decide +kernel
theorem dX1_tabulate_9 : decode cX1_tabulate 9 = .ok (.aload_n 1, 1) := by decide +kernel
theorem dX1_tabulate_10 : decode cX1_tabulate 10 = .ok (.getfield 38, 3) := by decide +kernel
theorem dX1_tabulate_13 : decode cX1_tabulate 13 = .ok (.iload_n 2, 1) := by decide +kernel
theorem dX1_tabulate_14 : decode cX1_tabulate 14 = .ok (.aload_n 1, 1) := by decide +kernel
theorem dX1_tabulate_15 : decode cX1_tabulate 15 = .ok (.iload_n 2, 1) := by decide +kernel
theorem dX1_tabulate_16 : decode cX1_tabulate 16 = .ok (.aload_n 0, 1) := by decide +kernel
theorem dX1_tabulate_17 : decode cX1_tabulate 17 = .ok (.getfield 21, 3) := by decide +kernel
theorem dX1_tabulate_20 : decode cX1_tabulate 20 = .ok (.iload_n 2, 1) := by decide +kernel
theorem dX1_tabulate_21 : decode cX1_tabulate 21 = .ok (.iaload, 1) := by decide +kernel
theorem dX1_tabulate_22 : decode cX1_tabulate 22 = .ok (.invokevirtual 41, 3) := by decide +kernel
theorem dX1_tabulate_25 : decode cX1_tabulate 25 = .ok (.iastore, 1) := by decide +kernel
theorem dX1_tabulate_26 : decode cX1_tabulate 26 = .ok (.iinc 2 1, 3) := by decide +kernel
theorem dX1_tabulate_29 : decode cX1_tabulate 29 = .ok (.goto (-27), 3) := by decide +kernel
theorem dX1_tabulate_32 : decode cX1_tabulate 32 = .ok (.return_, 1) := by decide +kernel
theorem dX1_regroup_0 : decode cX1_regroup 0 = .ok (.iload_n 1, 1) := by decide +kernel
theorem dX1_regroup_1 : decode cX1_regroup 1 = .ok (.invokestatic 45, 3) := by decide +kernel
theorem dX1_regroup_4 : decode cX1_regroup 4 = .ok (.ifCond .ne 4, 3) := by decide +kernel
theorem dX1_regroup_7 : decode cX1_regroup 7 = .ok (.return_, 1) := by decide +kernel
theorem dX1_regroup_8 : decode cX1_regroup 8 = .ok (.aload_n 0, 1) := by decide +kernel
theorem dX1_regroup_9 : decode cX1_regroup 9 = .ok (.getfield 21, 3) := by decide +kernel
theorem dX1_regroup_12 : decode cX1_regroup 12 = .ok (.iload_n 1, 1) := by decide +kernel
theorem dX1_regroup_13 : decode cX1_regroup 13 = .ok (.iload_n 2, 1) := by decide +kernel
theorem dX1_regroup_14 : decode cX1_regroup 14 = .ok (.iastore, 1) := by decide +kernel
theorem dX1_regroup_15 : decode cX1_regroup 15 = .ok (.iconst 0, 1) := by decide +kernel
theorem dX1_regroup_16 : decode cX1_regroup 16 = .ok (.istore_n 3, 1) := by decide +kernel
theorem dX1_regroup_17 : decode cX1_regroup 17 = .ok (.iload_n 3, 1) := by decide +kernel
theorem dX1_regroup_18 : decode cX1_regroup 18 = .ok (.aload_n 0, 1) := by decide +kernel
theorem dX1_regroup_19 : decode cX1_regroup 19 = .ok (.getfield 27, 3) := by decide +kernel
theorem dX1_regroup_22 : decode cX1_regroup 22 = .ok (.if_icmp .ge 36, 3) := by decide +kernel
theorem dX1_regroup_25 : decode cX1_regroup 25 = .ok (.aload_n 0, 1) := by decide +kernel
theorem dX1_regroup_26 : decode cX1_regroup 26 = .ok (.getfield 11, 3) := by decide +kernel
theorem dX1_regroup_29 : decode cX1_regroup 29 = .ok (.iload_n 3, 1) := by decide +kernel
theorem dX1_regroup_30 : decode cX1_regroup 30 = .ok (.aaload, 1) := by decide +kernel
theorem dX1_regroup_31 : decode cX1_regroup 31 = .ok (.astore 4, 2) := by decide +kernel
theorem dX1_regroup_33 : decode cX1_regroup 33 = .ok (.aload 4, 2) := by decide +kernel
theorem dX1_regroup_35 : decode cX1_regroup 35 = .ok (.ifnull 17, 3) := by decide +kernel
theorem dX1_regroup_38 : decode cX1_regroup 38 = .ok (.aload 4, 2) := by decide +kernel
theorem dX1_regroup_40 : decode cX1_regroup 40 = .ok (.getfield 38, 3) := by decide +kernel
theorem dX1_regroup_43 : decode cX1_regroup 43 = .ok (.iload_n 1, 1) := by decide +kernel
theorem dX1_regroup_44 : decode cX1_regroup 44 = .ok (.aload 4, 2) := by decide +kernel
theorem dX1_regroup_46 : decode cX1_regroup 46 = .ok (.iload_n 1, 1) := by decide +kernel
theorem dX1_regroup_47 : decode cX1_regroup 47 = .ok (.iload_n 2, 1) := by decide +kernel
theorem dX1_regroup_48 : decode cX1_regroup 48 = .ok (.invokevirtual 41, 3) := by decide +kernel
theorem dX1_regroup_51 : decode cX1_regroup 51 = .ok (.iastore, 1) := by decide +kernel
theorem dX1_regroup_52 : decode cX1_regroup 52 = .ok (.iinc 3 1, 3) := by decide +kernel
theorem dX1_regroup_55 : decode cX1_regroup 55 = .ok (.goto (-38), 3) := by decide +kernel
theorem dX1_regroup_58 : decode cX1_regroup 58 = .ok (.return_, 1) := by decide +kernel
theorem dX1_isMark_0 : decode cX1_isMark 0 = .ok (.iload_n 1, 1) := by decide +kernel
theorem dX1_isMark_1 : decode cX1_isMark 1 = .ok (.ifCond .lt 25, 3) := by decide +kernel
theorem dX1_isMark_4 : decode cX1_isMark 4 = .ok (.iload_n 1, 1) := by decide +kernel
theorem dX1_isMark_5 : decode cX1_isMark 5 = .ok (.sipush 256, 3) := by decide +kernel
theorem dX1_isMark_8 : decode cX1_isMark 8 = .ok (.if_icmp .ge 18, 3) := by decide +kernel
theorem dX1_isMark_11 : decode cX1_isMark 11 = .ok (.aload_n 0, 1) := by decide +kernel
theorem dX1_isMark_12 : decode cX1_isMark 12 = .ok (.getfield 17, 3) := by decide +kernel
theorem dX1_isMark_15 : decode cX1_isMark 15 = .ok (.iload_n 1, 1) := by decide +kernel
theorem dX1_isMark_16 : decode cX1_isMark 16 = .ok (.iaload, 1) := by decide +kernel
theorem dX1_isMark_17 : decode cX1_isMark 17 = .ok (.bipush (-100), 2) := by decide +kernel
theorem dX1_isMark_19 : decode cX1_isMark 19 = .ok (.if_icmp .eq 7, 3) := by decide +kernel
theorem dX1_isMark_22 : decode cX1_isMark 22 = .ok (.iconst 1, 1) := by decide +kernel
theorem dX1_isMark_23 : decode cX1_isMark 23 = .ok (.goto 4, 3) := by decide +kernel
theorem dX1_isMark_26 : decode cX1_isMark 26 = .ok (.iconst 0, 1) := by decide +kernel
theorem dX1_isMark_27 : decode cX1_isMark 27 = .ok (.ireturn, 1) := by decide +kernel
theorem dX1_skips_0 : decode cX1_skips 0 = .ok (.iload_n 2, 1) := by decide +kernel
theorem dX1_skips_1 : decode cX1_skips 1 = .ok (.ifCond .lt 19, 3) := by decide +kernel
theorem dX1_skips_4 : decode cX1_skips 4 = .ok (.iload_n 2, 1) := by decide +kernel
theorem dX1_skips_5 : decode cX1_skips 5 = .ok (.sipush 256, 3) := by decide +kernel
theorem dX1_skips_8 : decode cX1_skips 8 = .ok (.if_icmp .ge 12, 3) := by decide +kernel
theorem dX1_skips_11 : decode cX1_skips 11 = .ok (.aload_n 0, 1) := by decide +kernel
theorem dX1_skips_12 : decode cX1_skips 12 = .ok (.getfield 17, 3) := by decide +kernel
theorem dX1_skips_15 : decode cX1_skips 15 = .ok (.iload_n 2, 1) := by decide +kernel
theorem dX1_skips_16 : decode cX1_skips 16 = .ok (.iaload, 1) := by decide +kernel
theorem dX1_skips_17 : decode cX1_skips 17 = .ok (.goto 5, 3) := by decide +kernel
theorem dX1_skips_20 : decode cX1_skips 20 = .ok (.bipush (-100), 2) := by decide +kernel
theorem dX1_skips_22 : decode cX1_skips 22 = .ok (.istore_n 3, 1) := by decide +kernel
theorem dX1_skips_23 : decode cX1_skips 23 = .ok (.iload_n 3, 1) := by decide +kernel
theorem dX1_skips_24 : decode cX1_skips 24 = .ok (.bipush (-100), 2) := by decide +kernel
theorem dX1_skips_26 : decode cX1_skips 26 = .ok (.if_icmp .eq 11, 3) := by decide +kernel
theorem dX1_skips_29 : decode cX1_skips 29 = .ok (.aload_n 1, 1) := by decide +kernel
theorem dX1_skips_30 : decode cX1_skips 30 = .ok (.getfield 48, 3) := by decide +kernel
theorem dX1_skips_33 : decode cX1_skips 33 = .ok (.iconst 1, 1) := by decide +kernel
theorem dX1_skips_34 : decode cX1_skips 34 = .ok (.if_icmp .ge 5, 3) := by decide +kernel
theorem dX1_skips_37 : decode cX1_skips 37 = .ok (.iconst 0, 1) := by decide +kernel
theorem dX1_skips_38 : decode cX1_skips 38 = .ok (.ireturn, 1) := by decide +kernel
theorem dX1_skips_39 : decode cX1_skips 39 = .ok (.aload_n 1, 1) := by decide +kernel
theorem dX1_skips_40 : decode cX1_skips 40 = .ok (.getfield 48, 3) := by decide +kernel
theorem dX1_skips_43 : decode cX1_skips 43 = .ok (.iconst 1, 1) := by decide +kernel
theorem dX1_skips_44 : decode cX1_skips 44 = .ok (.if_icmp .eq 13, 3) := by decide +kernel
theorem dX1_skips_47 : decode cX1_skips 47 = .ok (.iload_n 3, 1) := by decide +kernel
theorem dX1_skips_48 : decode cX1_skips 48 = .ok (.aload_n 1, 1) := by decide +kernel
theorem dX1_skips_49 : decode cX1_skips 49 = .ok (.getfield 48, 3) := by decide +kernel
theorem dX1_skips_52 : decode cX1_skips 52 = .ok (.iconst 2, 1) := by decide +kernel
theorem dX1_skips_53 : decode cX1_skips 53 = .ok (.isub, 1) := by decide +kernel
theorem dX1_skips_54 : decode cX1_skips 54 = .ok (.if_icmp .eq 7, 3) := by decide +kernel
theorem dX1_skips_57 : decode cX1_skips 57 = .ok (.iconst 1, 1) := by decide +kernel
theorem dX1_skips_58 : decode cX1_skips 58 = .ok (.goto 4, 3) := by decide +kernel
theorem dX1_skips_61 : decode cX1_skips 61 = .ok (.iconst 0, 1) := by decide +kernel
theorem dX1_skips_62 : decode cX1_skips 62 = .ok (.ireturn, 1) := by decide +kernel
theorem dX1_hasTurn_0 : decode cX1_hasTurn 0 = .ok (.aload_n 1, 1) := by decide +kernel
theorem dX1_hasTurn_1 : decode cX1_hasTurn 1 = .ok (.aload_n 2, 1) := by decide +kernel
theorem dX1_hasTurn_2 : decode cX1_hasTurn 2 = .ok (.invokevirtual 51, 3) := by decide +kernel
theorem dX1_hasTurn_5 : decode cX1_hasTurn 5 = .ok (.ifCond .eq 19, 3) := by decide +kernel
theorem dX1_hasTurn_8 : decode cX1_hasTurn 8 = .ok (.aload_n 0, 1) := by decide +kernel
theorem dX1_hasTurn_9 : decode cX1_hasTurn 9 = .ok (.aload_n 1, 1) := by decide +kernel
theorem dX1_hasTurn_10 : decode cX1_hasTurn 10 = .ok (.aload_n 2, 1) := by decide +kernel
