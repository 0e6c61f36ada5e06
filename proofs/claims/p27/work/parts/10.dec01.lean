theorem dX1_hasTurn_11 : decode cX1_hasTurn 11 = .ok (.getfield 55, 3) := by decide +kernel
theorem dX1_hasTurn_14 : decode cX1_hasTurn 14 = .ok (.invokevirtual 60, 3) := by decide +kernel
theorem dX1_hasTurn_17 : decode cX1_hasTurn 17 = .ok (.ifCond .ne 7, 3) := by decide +kernel
theorem dX1_hasTurn_20 : decode cX1_hasTurn 20 = .ok (.iconst 1, 1) := by decide +kernel
theorem dX1_hasTurn_21 : decode cX1_hasTurn 21 = .ok (.goto 4, 3) := by decide +kernel
theorem dX1_hasTurn_24 : decode cX1_hasTurn 24 = .ok (.iconst 0, 1) := by decide +kernel
theorem dX1_hasTurn_25 : decode cX1_hasTurn 25 = .ok (.ireturn, 1) := by decide +kernel
theorem dX1_suits_0 : decode cX1_suits 0 = .ok (.iload_n 1, 1) := by decide +kernel
theorem dX1_suits_1 : decode cX1_suits 1 = .ok (.bipush (-100), 2) := by decide +kernel
theorem dX1_suits_3 : decode cX1_suits 3 = .ok (.if_icmp .ne 5, 3) := by decide +kernel
theorem dX1_suits_6 : decode cX1_suits 6 = .ok (.iconst 1, 1) := by decide +kernel
theorem dX1_suits_7 : decode cX1_suits 7 = .ok (.ireturn, 1) := by decide +kernel
theorem dX1_suits_8 : decode cX1_suits 8 = .ok (.iload_n 2, 1) := by decide +kernel
theorem dX1_suits_9 : decode cX1_suits 9 = .ok (.ifCond .lt 10, 3) := by decide +kernel
theorem dX1_suits_12 : decode cX1_suits 12 = .ok (.iload_n 2, 1) := by decide +kernel
theorem dX1_suits_13 : decode cX1_suits 13 = .ok (.sipush 256, 3) := by decide +kernel
theorem dX1_suits_16 : decode cX1_suits 16 = .ok (.if_icmp .lt 5, 3) := by decide +kernel
theorem dX1_suits_19 : decode cX1_suits 19 = .ok (.iconst 0, 1) := by decide +kernel
theorem dX1_suits_20 : decode cX1_suits 20 = .ok (.ireturn, 1) := by decide +kernel
theorem dX1_suits_21 : decode cX1_suits 21 = .ok (.iload_n 1, 1) := by decide +kernel
theorem dX1_suits_22 : decode cX1_suits 22 = .ok (.sipush 300, 3) := by decide +kernel
theorem dX1_suits_25 : decode cX1_suits 25 = .ok (.if_icmp .lt 25, 3) := by decide +kernel
theorem dX1_suits_28 : decode cX1_suits 28 = .ok (.aload_n 0, 1) := by decide +kernel
theorem dX1_suits_29 : decode cX1_suits 29 = .ok (.getfield 21, 3) := by decide +kernel
theorem dX1_suits_32 : decode cX1_suits 32 = .ok (.iload_n 2, 1) := by decide +kernel
theorem dX1_suits_33 : decode cX1_suits 33 = .ok (.iaload, 1) := by decide +kernel
theorem dX1_suits_34 : decode cX1_suits 34 = .ok (.iload_n 1, 1) := by decide +kernel
theorem dX1_suits_35 : decode cX1_suits 35 = .ok (.sipush 300, 3) := by decide +kernel
theorem dX1_suits_38 : decode cX1_suits 38 = .ok (.isub, 1) := by decide +kernel
theorem dX1_suits_39 : decode cX1_suits 39 = .ok (.if_icmp .ne 7, 3) := by decide +kernel
theorem dX1_suits_42 : decode cX1_suits 42 = .ok (.iconst 1, 1) := by decide +kernel
theorem dX1_suits_43 : decode cX1_suits 43 = .ok (.goto 17, 3) := by decide +kernel
theorem dX1_suits_46 : decode cX1_suits 46 = .ok (.iconst 0, 1) := by decide +kernel
theorem dX1_suits_47 : decode cX1_suits 47 = .ok (.goto 13, 3) := by decide +kernel
theorem dX1_suits_50 : decode cX1_suits 50 = .ok (.iload_n 2, 1) := by decide +kernel
theorem dX1_suits_51 : decode cX1_suits 51 = .ok (.iload_n 1, 1) := by decide +kernel
theorem dX1_suits_52 : decode cX1_suits 52 = .ok (.if_icmp .ne 7, 3) := by decide +kernel
theorem dX1_suits_55 : decode cX1_suits 55 = .ok (.iconst 1, 1) := by decide +kernel
theorem dX1_suits_56 : decode cX1_suits 56 = .ok (.goto 4, 3) := by decide +kernel
theorem dX1_suits_59 : decode cX1_suits 59 = .ok (.iconst 0, 1) := by decide +kernel
theorem dX1_suits_60 : decode cX1_suits 60 = .ok (.ireturn, 1) := by decide +kernel
theorem dX1_beginning_0 : decode cX1_beginning 0 = .ok (.iload_n 2, 1) := by decide +kernel
theorem dX1_beginning_1 : decode cX1_beginning 1 = .ok (.ifCond .lt 10, 3) := by decide +kernel
theorem dX1_beginning_4 : decode cX1_beginning 4 = .ok (.iload_n 2, 1) := by decide +kernel
theorem dX1_beginning_5 : decode cX1_beginning 5 = .ok (.sipush 256, 3) := by decide +kernel
theorem dX1_beginning_8 : decode cX1_beginning 8 = .ok (.if_icmp .lt 5, 3) := by decide +kernel
theorem dX1_beginning_11 : decode cX1_beginning 11 = .ok (.iconst 0, 1) := by decide +kernel
theorem dX1_beginning_12 : decode cX1_beginning 12 = .ok (.ireturn, 1) := by decide +kernel
theorem dX1_beginning_13 : decode cX1_beginning 13 = .ok (.iload_n 3, 1) := by decide +kernel
theorem dX1_beginning_14 : decode cX1_beginning 14 = .ok (.ifCond .eq 12, 3) := by decide +kernel
theorem dX1_beginning_17 : decode cX1_beginning 17 = .ok (.aload_n 1, 1) := by decide +kernel
theorem dX1_beginning_18 : decode cX1_beginning 18 = .ok (.getfield 38, 3) := by decide +kernel
theorem dX1_beginning_21 : decode cX1_beginning 21 = .ok (.iload_n 2, 1) := by decide +kernel
theorem dX1_beginning_22 : decode cX1_beginning 22 = .ok (.iaload, 1) := by decide +kernel
theorem dX1_beginning_23 : decode cX1_beginning 23 = .ok (.goto 14, 3) := by decide +kernel
theorem dX1_beginning_26 : decode cX1_beginning 26 = .ok (.aload_n 1, 1) := by decide +kernel
theorem dX1_beginning_27 : decode cX1_beginning 27 = .ok (.iload_n 2, 1) := by decide +kernel
theorem dX1_beginning_28 : decode cX1_beginning 28 = .ok (.aload_n 0, 1) := by decide +kernel
theorem dX1_beginning_29 : decode cX1_beginning 29 = .ok (.getfield 21, 3) := by decide +kernel
theorem dX1_beginning_32 : decode cX1_beginning 32 = .ok (.iload_n 2, 1) := by decide +kernel
theorem dX1_beginning_33 : decode cX1_beginning 33 = .ok (.iaload, 1) := by decide +kernel
theorem dX1_beginning_34 : decode cX1_beginning 34 = .ok (.invokevirtual 41, 3) := by decide +kernel
theorem dX1_beginning_37 : decode cX1_beginning 37 = .ok (.ireturn, 1) := by decide +kernel
theorem dX2_init_0 : decode cX2_init 0 = .ok (.aload_n 0, 1) := by decide +kernel
theorem dX2_init_1 : decode cX2_init 1 = .ok (.invokespecial 3, 3) := by decide +kernel
theorem dX2_init_4 : decode cX2_init 4 = .ok (.return_, 1) := by decide +kernel
theorem dX2_start_0 : decode cX2_start 0 = .ok (.aload_n 0, 1) := by decide +kernel
theorem dX2_start_1 : decode cX2_start 1 = .ok (.iload_n 1, 1) := by decide +kernel
theorem dX2_start_2 : decode cX2_start 2 = .ok (.putfield 9, 3) := by decide +kernel
theorem dX2_start_5 : decode cX2_start 5 = .ok (.aload_n 0, 1) := by decide +kernel
theorem dX2_start_6 : decode cX2_start 6 = .ok (.iload_n 1, 1) := by decide +kernel
theorem dX2_start_7 : decode cX2_start 7 = .ok (.putfield 15, 3) := by decide +kernel
theorem dX2_start_10 : decode cX2_start 10 = .ok (.aload_n 0, 1) := by decide +kernel
theorem dX2_start_11 : decode cX2_start 11 = .ok (.iload_n 2, 1) := by decide +kernel
theorem dX2_start_12 : decode cX2_start 12 = .ok (.putfield 18, 3) := by decide +kernel
theorem dX2_start_15 : decode cX2_start 15 = .ok (.aload_n 0, 1) := by decide +kernel
theorem dX2_start_16 : decode cX2_start 16 = .ok (.iload_n 3, 1) := by decide +kernel
theorem dX2_start_17 : decode cX2_start 17 = .ok (.putfield 21, 3) := by decide +kernel
theorem dX2_start_20 : decode cX2_start 20 = .ok (.aload_n 0, 1) := by decide +kernel
theorem dX2_start_21 : decode cX2_start 21 = .ok (.iload 4, 2) := by decide +kernel
theorem dX2_start_23 : decode cX2_start 23 = .ok (.putfield 24, 3) := by decide +kernel
theorem dX2_start_26 : decode cX2_start 26 = .ok (.aload_n 0, 1) := by decide +kernel
theorem dX2_start_27 : decode cX2_start 27 = .ok (.bipush (-100), 2) := by decide +kernel
theorem dX2_start_29 : decode cX2_start 29 = .ok (.putfield 27, 3) := by decide +kernel
theorem dX2_start_32 : decode cX2_start 32 = .ok (.aload_n 0, 1) := by decide +kernel
theorem dX2_start_33 : decode cX2_start 33 = .ok (.iconst 1, 1) := by decide +kernel
theorem dX2_start_34 : decode cX2_start 34 = .ok (.putfield 30, 3) := by decide +kernel
theorem dX2_start_37 : decode cX2_start 37 = .ok (.return_, 1) := by decide +kernel
theorem dX2_takeOver_0 : decode cX2_takeOver 0 = .ok (.aload_n 0, 1) := by decide +kernel
theorem dX2_takeOver_1 : decode cX2_takeOver 1 = .ok (.aload_n 1, 1) := by decide +kernel
theorem dX2_takeOver_2 : decode cX2_takeOver 2 = .ok (.getfield 18, 3) := by decide +kernel
theorem dX2_takeOver_5 : decode cX2_takeOver 5 = .ok (.putfield 18, 3) := by decide +kernel
theorem dX2_takeOver_8 : decode cX2_takeOver 8 = .ok (.aload_n 0, 1) := by decide +kernel
theorem dX2_takeOver_9 : decode cX2_takeOver 9 = .ok (.aload_n 1, 1) := by decide +kernel
theorem dX2_takeOver_10 : decode cX2_takeOver 10 = .ok (.getfield 21, 3) := by decide +kernel
theorem dX2_takeOver_13 : decode cX2_takeOver 13 = .ok (.putfield 21, 3) := by decide +kernel
theorem dX2_takeOver_16 : decode cX2_takeOver 16 = .ok (.aload_n 0, 1) := by decide +kernel
theorem dX2_takeOver_17 : decode cX2_takeOver 17 = .ok (.aload_n 1, 1) := by decide +kernel
theorem dX2_takeOver_18 : decode cX2_takeOver 18 = .ok (.getfield 24, 3) := by decide +kernel
theorem dX2_takeOver_21 : decode cX2_takeOver 21 = .ok (.putfield 24, 3) := by decide +kernel
theorem dX2_takeOver_24 : decode cX2_takeOver 24 = .ok (.aload_n 0, 1) := by decide +kernel
theorem dX2_takeOver_25 : decode cX2_takeOver 25 = .ok (.aload_n 1, 1) := by decide +kernel
theorem dX2_takeOver_26 : decode cX2_takeOver 26 = .ok (.getfield 15, 3) := by decide +kernel
theorem dX2_takeOver_29 : decode cX2_takeOver 29 = .ok (.putfield 15, 3) := by decide +kernel
theorem dX2_takeOver_32 : decode cX2_takeOver 32 = .ok (.aload_n 0, 1) := by decide +kernel
theorem dX2_takeOver_33 : decode cX2_takeOver 33 = .ok (.aload_n 1, 1) := by decide +kernel
theorem dX2_takeOver_34 : decode cX2_takeOver 34 = .ok (.getfield 27, 3) := by decide +kernel
theorem dX2_takeOver_37 : decode cX2_takeOver 37 = .ok (.putfield 27, 3) := by decide +kernel
theorem dX2_takeOver_40 : decode cX2_takeOver 40 = .ok (.aload_n 0, 1) := by decide +kernel
theorem dX2_takeOver_41 : decode cX2_takeOver 41 = .ok (.aload_n 1, 1) := by decide +kernel
theorem dX2_takeOver_42 : decode cX2_takeOver 42 = .ok (.getfield 30, 3) := by decide +kernel
theorem dX2_takeOver_45 : decode cX2_takeOver 45 = .ok (.putfield 30, 3) := by decide +kernel
theorem dX2_takeOver_48 : decode cX2_takeOver 48 = .ok (.return_, 1) := by decide +kernel
theorem dX2_setOn_0 : decode cX2_setOn 0 = .ok (.aload_n 0, 1) := by decide +kernel
theorem dX2_setOn_1 : decode cX2_setOn 1 = .ok (.iload_n 1, 1) := by decide +kernel
theorem dX2_setOn_2 : decode cX2_setOn 2 = .ok (.putfield 33, 3) := by decide +kernel
theorem dX2_setOn_5 : decode cX2_setOn 5 = .ok (.aload_n 0, 1) := by decide +kernel
theorem dX2_setOn_6 : decode cX2_setOn 6 = .ok (.iload_n 2, 1) := by decide +kernel
theorem dX2_setOn_7 : decode cX2_setOn 7 = .ok (.putfield 36, 3) := by decide +kernel
theorem dX2_setOn_10 : decode cX2_setOn 10 = .ok (.aload_n 0, 1) := by decide +kernel
theorem dX2_setOn_11 : decode cX2_setOn 11 = .ok (.iload_n 3, 1) := by decide +kernel
theorem dX2_setOn_12 : decode cX2_setOn 12 = .ok (.putfield 39, 3) := by decide +kernel
theorem dX2_setOn_15 : decode cX2_setOn 15 = .ok (.return_, 1) := by decide +kernel
theorem dX3_init_0 : decode cX3_init 0 = .ok (.aload_n 0, 1) := by decide +kernel
theorem dX3_init_1 : decode cX3_init 1 = .ok (.invokespecial 3, 3) := by decide +kernel
theorem dX3_init_4 : decode cX3_init 4 = .ok (.aload_n 0, 1) := by decide +kernel
theorem dX3_init_5 : decode cX3_init 5 = .ok (.bipush 16, 2) := by decide +kernel
theorem dX3_init_7 : decode cX3_init 7 = .ok (.newarray .int, 2) := by decide +kernel
theorem dX3_init_9 : decode cX3_init 9 = .ok (.putfield 9, 3) := by decide +kernel
theorem dX3_init_12 : decode cX3_init 12 = .ok (.aload_n 0, 1) := by decide +kernel
theorem dX3_init_13 : decode cX3_init 13 = .ok (.iconst 0, 1) := by decide +kernel
theorem dX3_init_14 : decode cX3_init 14 = .ok (.putfield 15, 3) := by decide +kernel
theorem dX3_init_17 : decode cX3_init 17 = .ok (.aload_n 0, 1) := by decide +kernel
theorem dX3_init_18 : decode cX3_init 18 = .ok (.iconst 0, 1) := by decide +kernel
theorem dX3_init_19 : decode cX3_init 19 = .ok (.putfield 19, 3) := by decide +kernel
theorem dX3_init_22 : decode cX3_init 22 = .ok (.return_, 1) := by decide +kernel
theorem dX3_reckon_0 : decode cX3_reckon 0 = .ok (.iconst 0, 1) := by decide +kernel
theorem dX3_reckon_1 : decode cX3_reckon 1 = .ok (.istore 5, 2) := by decide +kernel
theorem dX3_reckon_3 : decode cX3_reckon 3 = .ok (.iload 5, 2) := by decide +kernel
theorem dX3_reckon_5 : decode cX3_reckon 5 = .ok (.bipush 16, 2) := by decide +kernel
theorem dX3_reckon_7 : decode cX3_reckon 7 = .ok (.if_icmp .ge 17, 3) := by decide +kernel
theorem dX3_reckon_10 : decode cX3_reckon 10 = .ok (.aload_n 0, 1) := by decide +kernel
theorem dX3_reckon_11 : decode cX3_reckon 11 = .ok (.getfield 9, 3) := by decide +kernel
theorem dX3_reckon_14 : decode cX3_reckon 14 = .ok (.iload 5, 2) := by decide +kernel
theorem dX3_reckon_16 : decode cX3_reckon 16 = .ok (.iconst 0, 1) := by decide +kernel
theorem dX3_reckon_17 : decode cX3_reckon 17 = .ok (.iastore, 1) := by decide +kernel
theorem dX3_reckon_18 : decode cX3_reckon 18 = .ok (.iinc 5 1, 3) := by decide +kernel
theorem dX3_reckon_21 : decode cX3_reckon 21 = .ok (.goto (-18), 3) := by decide +kernel
theorem dX3_reckon_24 : decode cX3_reckon 24 = .ok (.aload_n 0, 1) := by decide +kernel
theorem dX3_reckon_25 : decode cX3_reckon 25 = .ok (.aload_n 1, 1) := by decide +kernel
theorem dX3_reckon_26 : decode cX3_reckon 26 = .ok (.getfield 23, 3) := by decide +kernel
theorem dX3_reckon_29 : decode cX3_reckon 29 = .ok (.iload_n 3, 1) := by decide +kernel
theorem dX3_reckon_30 : decode cX3_reckon 30 = .ok (.if_icmp .le 7, 3) := by decide +kernel
theorem dX3_reckon_33 : decode cX3_reckon 33 = .ok (.iconst 1, 1) := by decide +kernel
theorem dX3_reckon_34 : decode cX3_reckon 34 = .ok (.goto 4, 3) := by decide +kernel
theorem dX3_reckon_37 : decode cX3_reckon 37 = .ok (.iconst 0, 1) := by decide +kernel
theorem dX3_reckon_38 : decode cX3_reckon 38 = .ok (.putfield 15, 3) := by decide +kernel
theorem dX3_reckon_41 : decode cX3_reckon 41 = .ok (.aload_n 0, 1) := by decide +kernel
theorem dX3_reckon_42 : decode cX3_reckon 42 = .ok (.aload_n 0, 1) := by decide +kernel
theorem dX3_reckon_43 : decode cX3_reckon 43 = .ok (.getfield 15, 3) := by decide +kernel
theorem dX3_reckon_46 : decode cX3_reckon 46 = .ok (.ifCond .eq 7, 3) := by decide +kernel
theorem dX3_reckon_49 : decode cX3_reckon 49 = .ok (.iconst 0, 1) := by decide +kernel
theorem dX3_reckon_50 : decode cX3_reckon 50 = .ok (.goto 9, 3) := by decide +kernel
theorem dX3_reckon_53 : decode cX3_reckon 53 = .ok (.iload_n 3, 1) := by decide +kernel
theorem dX3_reckon_54 : decode cX3_reckon 54 = .ok (.aload_n 1, 1) := by decide +kernel
theorem dX3_reckon_55 : decode cX3_reckon 55 = .ok (.getfield 23, 3) := by decide +kernel
theorem dX3_reckon_58 : decode cX3_reckon 58 = .ok (.isub, 1) := by decide +kernel
theorem dX3_reckon_59 : decode cX3_reckon 59 = .ok (.putfield 19, 3) := by decide +kernel
theorem dX3_reckon_62 : decode cX3_reckon 62 = .ok (.aload_n 0, 1) := by decide +kernel
theorem dX3_reckon_63 : decode cX3_reckon 63 = .ok (.getfield 15, 3) := by decide +kernel
theorem dX3_reckon_66 : decode cX3_reckon 66 = .ok (.ifCond .eq 4, 3) := by decide +kernel
theorem dX3_reckon_69 : decode cX3_reckon 69 = .ok (.return_, 1) := by decide +kernel
theorem dX3_reckon_70 : decode cX3_reckon 70 = .ok (.aload_n 0, 1) := by decide +kernel
theorem dX3_reckon_71 : decode cX3_reckon 71 = .ok (.aload_n 1, 1) := by decide +kernel
theorem dX3_reckon_72 : decode cX3_reckon 72 = .ok (.aload_n 2, 1) := by decide +kernel
theorem dX3_reckon_73 : decode cX3_reckon 73 = .ok (.iload 4, 2) := by decide +kernel
theorem dX3_reckon_75 : decode cX3_reckon 75 = .ok (.invokevirtual 28, 3) := by decide +kernel
theorem dX3_reckon_78 : decode cX3_reckon 78 = .ok (.aload_n 0, 1) := by decide +kernel
theorem dX3_reckon_79 : decode cX3_reckon 79 = .ok (.aload_n 2, 1) := by decide +kernel
theorem dX3_reckon_80 : decode cX3_reckon 80 = .ok (.invokevirtual 32, 3) := by decide +kernel
theorem dX3_reckon_83 : decode cX3_reckon 83 = .ok (.return_, 1) := by decide +kernel
theorem dX3_setStrokes_0 : decode cX3_setStrokes 0 = .ok (.iconst 0, 1) := by decide +kernel
theorem dX3_setStrokes_1 : decode cX3_setStrokes 1 = .ok (.istore 4, 2) := by decide +kernel
theorem dX3_setStrokes_3 : decode cX3_setStrokes 3 = .ok (.iconst 0, 1) := by decide +kernel
theorem dX3_setStrokes_4 : decode cX3_setStrokes 4 = .ok (.istore 5, 2) := by decide +kernel
theorem dX3_setStrokes_6 : decode cX3_setStrokes 6 = .ok (.iload 5, 2) := by decide +kernel
theorem dX3_setStrokes_8 : decode cX3_setStrokes 8 = .ok (.aload_n 2, 1) := by decide +kernel
theorem dX3_setStrokes_9 : decode cX3_setStrokes 9 = .ok (.getfield 36, 3) := by decide +kernel
theorem dX3_setStrokes_12 : decode cX3_setStrokes 12 = .ok (.if_icmp .ge 22, 3) := by decide +kernel
theorem dX3_setStrokes_15 : decode cX3_setStrokes 15 = .ok (.aload_n 1, 1) := by decide +kernel
theorem dX3_setStrokes_16 : decode cX3_setStrokes 16 = .ok (.aload_n 2, 1) := by decide +kernel
theorem dX3_setStrokes_17 : decode cX3_setStrokes 17 = .ok (.iload 5, 2) := by decide +kernel
theorem dX3_setStrokes_19 : decode cX3_setStrokes 19 = .ok (.invokestatic 41, 3) := by decide +kernel
theorem dX3_setStrokes_22 : decode cX3_setStrokes 22 = .ok (.ifCond .eq 6, 3) := by decide +kernel
theorem dX3_setStrokes_25 : decode cX3_setStrokes 25 = .ok (.iinc 4 1, 3) := by decide +kernel
theorem dX3_setStrokes_28 : decode cX3_setStrokes 28 = .ok (.iinc 5 1, 3) := by decide +kernel
theorem dX3_setStrokes_31 : decode cX3_setStrokes 31 = .ok (.goto (-25), 3) := by decide +kernel
theorem dX3_setStrokes_34 : decode cX3_setStrokes 34 = .ok (.iload 4, 2) := by decide +kernel
theorem dX3_setStrokes_36 : decode cX3_setStrokes 36 = .ok (.ifCond .eq 7, 3) := by decide +kernel
theorem dX3_setStrokes_39 : decode cX3_setStrokes 39 = .ok (.iload_n 3, 1) := by decide +kernel
theorem dX3_setStrokes_40 : decode cX3_setStrokes 40 = .ok (.ifCond .gt 4, 3) := by decide +kernel
theorem dX3_setStrokes_43 : decode cX3_setStrokes 43 = .ok (.return_, 1) := by decide +kernel
theorem dX3_setStrokes_44 : decode cX3_setStrokes 44 = .ok (.aload_n 0, 1) := by decide +kernel
theorem dX3_setStrokes_45 : decode cX3_setStrokes 45 = .ok (.getfield 19, 3) := by decide +kernel
theorem dX3_setStrokes_48 : decode cX3_setStrokes 48 = .ok (.iload_n 3, 1) := by decide +kernel
theorem dX3_setStrokes_49 : decode cX3_setStrokes 49 = .ok (.idiv, 1) := by decide +kernel
theorem dX3_setStrokes_50 : decode cX3_setStrokes 50 = .ok (.istore 5, 2) := by decide +kernel
theorem dX3_setStrokes_52 : decode cX3_setStrokes 52 = .ok (.aload_n 0, 1) := by decide +kernel
theorem dX3_setStrokes_53 : decode cX3_setStrokes 53 = .ok (.dup, 1) := by decide +kernel
theorem dX3_setStrokes_54 : decode cX3_setStrokes 54 = .ok (.getfield 19, 3) := by decide +kernel
theorem dX3_setStrokes_57 : decode cX3_setStrokes 57 = .ok (.iload 5, 2) := by decide +kernel
theorem dX3_setStrokes_59 : decode cX3_setStrokes 59 = .ok (.iload_n 3, 1) := by decide +kernel
theorem dX3_setStrokes_60 : decode cX3_setStrokes 60 = .ok (.imul, 1) := by decide +kernel
theorem dX3_setStrokes_61 : decode cX3_setStrokes 61 = .ok (.isub, 1) := by decide +kernel
theorem dX3_setStrokes_62 : decode cX3_setStrokes 62 = .ok (.putfield 19, 3) := by decide +kernel
theorem dX3_setStrokes_65 : decode cX3_setStrokes 65 = .ok (.iload 5, 2) := by decide +kernel
theorem dX3_setStrokes_67 : decode cX3_setStrokes 67 = .ok (.iload 4, 2) := by decide +kernel
theorem dX3_setStrokes_69 : decode cX3_setStrokes 69 = .ok (.irem, 1) := by decide +kernel
theorem dX3_setStrokes_70 : decode cX3_setStrokes 70 = .ok (.istore 6, 2) := by decide +kernel
theorem dX3_setStrokes_72 : decode cX3_setStrokes 72 = .ok (.aload_n 2, 1) := by decide +kernel
theorem dX3_setStrokes_73 : decode cX3_setStrokes 73 = .ok (.getfield 36, 3) := by decide +kernel
theorem dX3_setStrokes_76 : decode cX3_setStrokes 76 = .ok (.iconst 1, 1) := by decide +kernel
theorem dX3_setStrokes_77 : decode cX3_setStrokes 77 = .ok (.isub, 1) := by decide +kernel
theorem dX3_setStrokes_78 : decode cX3_setStrokes 78 = .ok (.istore 7, 2) := by decide +kernel
theorem dX3_setStrokes_80 : decode cX3_setStrokes 80 = .ok (.iload 7, 2) := by decide +kernel
theorem dX3_setStrokes_82 : decode cX3_setStrokes 82 = .ok (.ifCond .lt 48, 3) := by decide +kernel
theorem dX3_setStrokes_85 : decode cX3_setStrokes 85 = .ok (.aload_n 1, 1) := by decide +kernel
theorem dX3_setStrokes_86 : decode cX3_setStrokes 86 = .ok (.aload_n 2, 1) := by decide +kernel
theorem dX3_setStrokes_87 : decode cX3_setStrokes 87 = .ok (.iload 7, 2) := by decide +kernel
theorem dX3_setStrokes_89 : decode cX3_setStrokes 89 = .ok (.invokestatic 41, 3) := by decide +kernel
theorem dX3_setStrokes_92 : decode cX3_setStrokes 92 = .ok (.ifCond .ne 6, 3) := by decide +kernel
theorem dX3_setStrokes_95 : decode cX3_setStrokes 95 = .ok (.goto 29, 3) := by decide +kernel
theorem dX3_setStrokes_98 : decode cX3_setStrokes 98 = .ok (.aload_n 0, 1) := by decide +kernel
theorem dX3_setStrokes_99 : decode cX3_setStrokes 99 = .ok (.getfield 9, 3) := by decide +kernel
theorem dX3_setStrokes_102 : decode cX3_setStrokes 102 = .ok (.iload 7, 2) := by decide +kernel
theorem dX3_setStrokes_104 : decode cX3_setStrokes 104 = .ok (.iload 5, 2) := by decide +kernel
theorem dX3_setStrokes_106 : decode cX3_setStrokes 106 = .ok (.iload 4, 2) := by decide +kernel
theorem dX3_setStrokes_108 : decode cX3_setStrokes 108 = .ok (.idiv, 1) := by decide +kernel
theorem dX3_setStrokes_109 : decode cX3_setStrokes 109 = .ok (.iload 6, 2) := by decide +kernel
theorem dX3_setStrokes_111 : decode cX3_setStrokes 111 = .ok (.ifCond .le 7, 3) := by decide +kernel
theorem dX3_setStrokes_114 : decode cX3_setStrokes 114 = .ok (.iconst 1, 1) := by decide +kernel
theorem dX3_setStrokes_115 : decode cX3_setStrokes 115 = .ok (.goto 4, 3) := by decide +kernel
theorem dX3_setStrokes_118 : decode cX3_setStrokes 118 = .ok (.iconst 0, 1) := by decide +kernel
theorem dX3_setStrokes_119 : decode cX3_setStrokes 119 = .ok (.iadd, 1) := by decide +kernel
theorem dX3_setStrokes_120 : decode cX3_setStrokes 120 = .ok (.iastore, 1) := by decide +kernel
theorem dX3_setStrokes_121 : decode cX3_setStrokes 121 = .ok (.iinc 6 (-1), 3) := by decide +kernel
theorem dX3_setStrokes_124 : decode cX3_setStrokes 124 = .ok (.iinc 7 (-1), 3) := by decide +kernel
theorem dX3_setStrokes_127 : decode cX3_setStrokes 127 = .ok (.goto (-47), 3) := by decide +kernel
theorem dX3_setStrokes_130 : decode cX3_setStrokes 130 = .ok (.return_, 1) := by decide +kernel
theorem dX3_takesStroke_0 : decode cX3_takesStroke 0 = .ok (.aload_n 0, 1) := by decide +kernel
theorem dX3_takesStroke_1 : decode cX3_takesStroke 1 = .ok (.getfield 45, 3) := by decide +kernel
theorem dX3_takesStroke_4 : decode cX3_takesStroke 4 = .ok (.getfield 49, 3) := by decide +kernel
theorem dX3_takesStroke_7 : decode cX3_takesStroke 7 = .ok (.iload_n 2, 1) := by decide +kernel
theorem dX3_takesStroke_8 : decode cX3_takesStroke 8 = .ok (.iaload, 1) := by decide +kernel
theorem dX3_takesStroke_9 : decode cX3_takesStroke 9 = .ok (.istore_n 3, 1) := by decide +kernel
theorem dX3_takesStroke_10 : decode cX3_takesStroke 10 = .ok (.aload_n 1, 1) := by decide +kernel
theorem dX3_takesStroke_11 : decode cX3_takesStroke 11 = .ok (.getfield 54, 3) := by decide +kernel
theorem dX3_takesStroke_14 : decode cX3_takesStroke 14 = .ok (.iload_n 2, 1) := by decide +kernel
theorem dX3_takesStroke_15 : decode cX3_takesStroke 15 = .ok (.iaload, 1) := by decide +kernel
theorem dX3_takesStroke_16 : decode cX3_takesStroke 16 = .ok (.invokestatic 57, 3) := by decide +kernel
theorem dX3_takesStroke_19 : decode cX3_takesStroke 19 = .ok (.ifCond .eq 13, 3) := by decide +kernel
theorem dX3_takesStroke_22 : decode cX3_takesStroke 22 = .ok (.iload_n 3, 1) := by decide +kernel
theorem dX3_takesStroke_23 : decode cX3_takesStroke 23 = .ok (.iconst 1, 1) := by decide +kernel
theorem dX3_takesStroke_24 : decode cX3_takesStroke 24 = .ok (.if_icmp .eq 10, 3) := by decide +kernel
theorem dX3_takesStroke_27 : decode cX3_takesStroke 27 = .ok (.iload_n 3, 1) := by decide +kernel
theorem dX3_takesStroke_28 : decode cX3_takesStroke 28 = .ok (.iconst 2, 1) := by decide +kernel
theorem dX3_takesStroke_29 : decode cX3_takesStroke 29 = .ok (.if_icmp .eq 5, 3) := by decide +kernel
theorem dX3_takesStroke_32 : decode cX3_takesStroke 32 = .ok (.iconst 0, 1) := by decide +kernel
theorem dX3_takesStroke_33 : decode cX3_takesStroke 33 = .ok (.ireturn, 1) := by decide +kernel
theorem dX3_takesStroke_34 : decode cX3_takesStroke 34 = .ok (.aload_n 0, 1) := by decide +kernel
theorem dX3_takesStroke_35 : decode cX3_takesStroke 35 = .ok (.getfield 45, 3) := by decide +kernel
theorem dX3_takesStroke_38 : decode cX3_takesStroke 38 = .ok (.aload_n 1, 1) := by decide +kernel
theorem dX3_takesStroke_39 : decode cX3_takesStroke 39 = .ok (.iload_n 2, 1) := by decide +kernel
theorem dX3_takesStroke_40 : decode cX3_takesStroke 40 = .ok (.invokevirtual 61, 3) := by decide +kernel
theorem dX3_takesStroke_43 : decode cX3_takesStroke 43 = .ok (.istore 4, 2) := by decide +kernel
theorem dX3_takesStroke_45 : decode cX3_takesStroke 45 = .ok (.iload 4, 2) := by decide +kernel
theorem dX3_takesStroke_47 : decode cX3_takesStroke 47 = .ok (.bipush (-100), 2) := by decide +kernel
theorem dX3_takesStroke_49 : decode cX3_takesStroke 49 = .ok (.if_icmp .eq 21, 3) := by decide +kernel
theorem dX3_takesStroke_52 : decode cX3_takesStroke 52 = .ok (.aload_n 0, 1) := by decide +kernel
theorem dX3_takesStroke_53 : decode cX3_takesStroke 53 = .ok (.iload_n 2, 1) := by decide +kernel
theorem dX3_takesStroke_54 : decode cX3_takesStroke 54 = .ok (.invokevirtual 65, 3) := by decide +kernel
theorem dX3_takesStroke_57 : decode cX3_takesStroke 57 = .ok (.aload_n 0, 1) := by decide +kernel
theorem dX3_takesStroke_58 : decode cX3_takesStroke 58 = .ok (.iload 4, 2) := by decide +kernel
theorem dX3_takesStroke_60 : decode cX3_takesStroke 60 = .ok (.invokevirtual 65, 3) := by decide +kernel
theorem dX3_takesStroke_63 : decode cX3_takesStroke 63 = .ok (.if_icmp .eq 7, 3) := by decide +kernel
theorem dX3_takesStroke_66 : decode cX3_takesStroke 66 = .ok (.iconst 1, 1) := by decide +kernel
theorem dX3_takesStroke_67 : decode cX3_takesStroke 67 = .ok (.goto 4, 3) := by decide +kernel
theorem dX3_takesStroke_70 : decode cX3_takesStroke 70 = .ok (.iconst 0, 1) := by decide +kernel
theorem dX3_takesStroke_71 : decode cX3_takesStroke 71 = .ok (.ireturn, 1) := by decide +kernel
theorem dX3_widenBlanks_0 : decode cX3_widenBlanks 0 = .ok (.iconst 0, 1) := by decide +kernel
theorem dX3_widenBlanks_1 : decode cX3_widenBlanks 1 = .ok (.istore_n 2, 1) := by decide +kernel
theorem dX3_widenBlanks_2 : decode cX3_widenBlanks 2 = .ok (.iconst 0, 1) := by decide +kernel
theorem dX3_widenBlanks_3 : decode cX3_widenBlanks 3 = .ok (.istore_n 3, 1) := by decide +kernel
theorem dX3_widenBlanks_4 : decode cX3_widenBlanks 4 = .ok (.iload_n 3, 1) := by decide +kernel
theorem dX3_widenBlanks_5 : decode cX3_widenBlanks 5 = .ok (.aload_n 1, 1) := by decide +kernel
theorem dX3_widenBlanks_6 : decode cX3_widenBlanks 6 = .ok (.getfield 36, 3) := by decide +kernel
theorem dX3_widenBlanks_9 : decode cX3_widenBlanks 9 = .ok (.if_icmp .ge 21, 3) := by decide +kernel
theorem dX3_widenBlanks_12 : decode cX3_widenBlanks 12 = .ok (.aload_n 1, 1) := by decide +kernel
theorem dX3_widenBlanks_13 : decode cX3_widenBlanks 13 = .ok (.getfield 54, 3) := by decide +kernel
theorem dX3_widenBlanks_16 : decode cX3_widenBlanks 16 = .ok (.iload_n 3, 1) := by decide +kernel
theorem dX3_widenBlanks_17 : decode cX3_widenBlanks 17 = .ok (.iaload, 1) := by decide +kernel
theorem dX3_widenBlanks_18 : decode cX3_widenBlanks 18 = .ok (.ifCond .ne 6, 3) := by decide +kernel
theorem dX3_widenBlanks_21 : decode cX3_widenBlanks 21 = .ok (.iinc 2 1, 3) := by decide +kernel
theorem dX3_widenBlanks_24 : decode cX3_widenBlanks 24 = .ok (.iinc 3 1, 3) := by decide +kernel
theorem dX3_widenBlanks_27 : decode cX3_widenBlanks 27 = .ok (.goto (-23), 3) := by decide +kernel
theorem dX3_widenBlanks_30 : decode cX3_widenBlanks 30 = .ok (.iload_n 2, 1) := by decide +kernel
theorem dX3_widenBlanks_31 : decode cX3_widenBlanks 31 = .ok (.ifCond .ne 4, 3) := by decide +kernel
theorem dX3_widenBlanks_34 : decode cX3_widenBlanks 34 = .ok (.return_, 1) := by decide +kernel
theorem dX3_widenBlanks_35 : decode cX3_widenBlanks 35 = .ok (.aload_n 0, 1) := by decide +kernel
theorem dX3_widenBlanks_36 : decode cX3_widenBlanks 36 = .ok (.getfield 19, 3) := by decide +kernel
theorem dX3_widenBlanks_39 : decode cX3_widenBlanks 39 = .ok (.iload_n 2, 1) := by decide +kernel
theorem dX3_widenBlanks_40 : decode cX3_widenBlanks 40 = .ok (.irem, 1) := by decide +kernel
theorem dX3_widenBlanks_41 : decode cX3_widenBlanks 41 = .ok (.istore_n 3, 1) := by decide +kernel
theorem dX3_widenBlanks_42 : decode cX3_widenBlanks 42 = .ok (.iconst 0, 1) := by decide +kernel
theorem dX3_widenBlanks_43 : decode cX3_widenBlanks 43 = .ok (.istore 4, 2) := by decide +kernel
theorem dX3_widenBlanks_45 : decode cX3_widenBlanks 45 = .ok (.iload 4, 2) := by decide +kernel
theorem dX3_widenBlanks_47 : decode cX3_widenBlanks 47 = .ok (.aload_n 1, 1) := by decide +kernel
theorem dX3_widenBlanks_48 : decode cX3_widenBlanks 48 = .ok (.getfield 36, 3) := by decide +kernel
theorem dX3_widenBlanks_51 : decode cX3_widenBlanks 51 = .ok (.if_icmp .ge 48, 3) := by decide +kernel
theorem dX3_widenBlanks_54 : decode cX3_widenBlanks 54 = .ok (.aload_n 1, 1) := by decide +kernel
theorem dX3_widenBlanks_55 : decode cX3_widenBlanks 55 = .ok (.getfield 54, 3) := by decide +kernel
theorem dX3_widenBlanks_58 : decode cX3_widenBlanks 58 = .ok (.iload 4, 2) := by decide +kernel
theorem dX3_widenBlanks_60 : decode cX3_widenBlanks 60 = .ok (.iaload, 1) := by decide +kernel
theorem dX3_widenBlanks_61 : decode cX3_widenBlanks 61 = .ok (.ifCond .eq 6, 3) := by decide +kernel
theorem dX3_widenBlanks_64 : decode cX3_widenBlanks 64 = .ok (.goto 29, 3) := by decide +kernel
theorem dX3_widenBlanks_67 : decode cX3_widenBlanks 67 = .ok (.aload_n 0, 1) := by decide +kernel
theorem dX3_widenBlanks_68 : decode cX3_widenBlanks 68 = .ok (.getfield 9, 3) := by decide +kernel
theorem dX3_widenBlanks_71 : decode cX3_widenBlanks 71 = .ok (.iload 4, 2) := by decide +kernel
theorem dX3_widenBlanks_73 : decode cX3_widenBlanks 73 = .ok (.aload_n 0, 1) := by decide +kernel
theorem dX3_widenBlanks_74 : decode cX3_widenBlanks 74 = .ok (.getfield 19, 3) := by decide +kernel
theorem dX3_widenBlanks_77 : decode cX3_widenBlanks 77 = .ok (.iload_n 2, 1) := by decide +kernel
theorem dX3_widenBlanks_78 : decode cX3_widenBlanks 78 = .ok (.idiv, 1) := by decide +kernel
theorem dX3_widenBlanks_79 : decode cX3_widenBlanks 79 = .ok (.iload_n 3, 1) := by decide +kernel
theorem dX3_widenBlanks_80 : decode cX3_widenBlanks 80 = .ok (.ifCond .le 7, 3) := by decide +kernel
theorem dX3_widenBlanks_83 : decode cX3_widenBlanks 83 = .ok (.iconst 1, 1) := by decide +kernel
theorem dX3_widenBlanks_84 : decode cX3_widenBlanks 84 = .ok (.goto 4, 3) := by decide +kernel
theorem dX3_widenBlanks_87 : decode cX3_widenBlanks 87 = .ok (.iconst 0, 1) := by decide +kernel
theorem dX3_widenBlanks_88 : decode cX3_widenBlanks 88 = .ok (.iadd, 1) := by decide +kernel
theorem dX3_widenBlanks_89 : decode cX3_widenBlanks 89 = .ok (.iastore, 1) := by decide +kernel
theorem dX3_widenBlanks_90 : decode cX3_widenBlanks 90 = .ok (.iinc 3 (-1), 3) := by decide +kernel
theorem dX3_widenBlanks_93 : decode cX3_widenBlanks 93 = .ok (.iinc 4 1, 3) := by decide +kernel
theorem dX3_widenBlanks_96 : decode cX3_widenBlanks 96 = .ok (.goto (-51), 3) := by decide +kernel
theorem dX3_widenBlanks_99 : decode cX3_widenBlanks 99 = .ok (.aload_n 0, 1) := by decide +kernel
theorem dX3_widenBlanks_100 : decode cX3_widenBlanks 100 = .ok (.iconst 0, 1) := by decide +kernel
theorem dX3_widenBlanks_101 : decode cX3_widenBlanks 101 = .ok (.putfield 19, 3) := by decide +kernel
theorem dX3_widenBlanks_104 : decode cX3_widenBlanks 104 = .ok (.return_, 1) := by decide +kernel
theorem dX4_init_0 : decode cX4_init 0 = .ok (.aload_n 0, 1) := by decide +kernel
theorem dX4_init_1 : decode cX4_init 1 = .ok (.invokespecial 3, 3) := by decide +kernel
theorem dX4_init_4 : decode cX4_init 4 = .ok (.aload_n 0, 1) := by decide +kernel
theorem dX4_init_5 : decode cX4_init 5 = .ok (.bipush 8, 2) := by decide +kernel
theorem dX4_init_7 : decode cX4_init 7 = .ok (.bipush 6, 2) := by decide +kernel
theorem dX4_init_9 : decode cX4_init 9 = .ok (.multianewarray 9 2, 4) := by decide +kernel
theorem dX4_init_13 : decode cX4_init 13 = .ok (.putfield 11, 3) := by decide +kernel
theorem dX4_init_16 : decode cX4_init 16 = .ok (.aload_n 0, 1) := by decide +kernel
theorem dX4_init_17 : decode cX4_init 17 = .ok (.sipush 256, 3) := by decide +kernel
theorem dX4_init_20 : decode cX4_init 20 = .ok (.newarray .int, 2) := by decide +kernel
theorem dX4_init_22 : decode cX4_init 22 = .ok (.putfield 16, 3) := by decide +kernel
theorem dX4_init_25 : decode cX4_init 25 = .ok (.aload_n 0, 1) := by decide +kernel
theorem dX4_init_26 : decode cX4_init 26 = .ok (.iconst 0, 1) := by decide +kernel
theorem dX4_init_27 : decode cX4_init 27 = .ok (.putfield 20, 3) := by decide +kernel
theorem dX4_init_30 : decode cX4_init 30 = .ok (.aload_n 0, 1) := by decide +kernel
theorem dX4_init_31 : decode cX4_init 31 = .ok (.iload_n 1, 1) := by decide +kernel
theorem dX4_init_32 : decode cX4_init 32 = .ok (.putfield 24, 3) := by decide +kernel
theorem dX4_init_35 : decode cX4_init 35 = .ok (.aload_n 0, 1) := by decide +kernel
theorem dX4_init_36 : decode cX4_init 36 = .ok (.iload_n 2, 1) := by decide +kernel
theorem dX4_init_37 : decode cX4_init 37 = .ok (.putfield 27, 3) := by decide +kernel
theorem dX4_init_40 : decode cX4_init 40 = .ok (.aload_n 0, 1) := by decide +kernel
theorem dX4_init_41 : decode cX4_init 41 = .ok (.iload_n 3, 1) := by decide +kernel
theorem dX4_init_42 : decode cX4_init 42 = .ok (.putfield 30, 3) := by decide +kernel
theorem dX4_init_45 : decode cX4_init 45 = .ok (.aload_n 0, 1) := by decide +kernel
theorem dX4_init_46 : decode cX4_init 46 = .ok (.iload 4, 2) := by decide +kernel
theorem dX4_init_48 : decode cX4_init 48 = .ok (.putfield 33, 3) := by decide +kernel
theorem dX4_init_51 : decode cX4_init 51 = .ok (.aload_n 0, 1) := by decide +kernel
theorem dX4_init_52 : decode cX4_init 52 = .ok (.iload 5, 2) := by decide +kernel
theorem dX4_init_54 : decode cX4_init 54 = .ok (.putfield 36, 3) := by decide +kernel
theorem dX4_init_57 : decode cX4_init 57 = .ok (.aload_n 0, 1) := by decide +kernel
theorem dX4_init_58 : decode cX4_init 58 = .ok (.iload_n 1, 1) := by decide +kernel
theorem dX4_init_59 : decode cX4_init 59 = .ok (.iconst 4, 1) := by decide +kernel
theorem dX4_init_60 : decode cX4_init 60 = .ok (.if_icmp .eq 8, 3) := by decide +kernel
theorem dX4_init_63 : decode cX4_init 63 = .ok (.iload_n 1, 1) := by decide +kernel
theorem dX4_init_64 : decode cX4_init 64 = .ok (.iconst 5, 1) := by decide +kernel
theorem dX4_init_65 : decode cX4_init 65 = .ok (.if_icmp .ne 7, 3) := by decide +kernel
theorem dX4_init_68 : decode cX4_init 68 = .ok (.iconst 1, 1) := by decide +kernel
theorem dX4_init_69 : decode cX4_init 69 = .ok (.goto 4, 3) := by decide +kernel
theorem dX4_init_72 : decode cX4_init 72 = .ok (.iconst 0, 1) := by decide +kernel
theorem dX4_init_73 : decode cX4_init 73 = .ok (.putfield 39, 3) := by decide +kernel
theorem dX4_init_76 : decode cX4_init 76 = .ok (.return_, 1) := by decide +kernel
theorem dX4_accepts_0 : decode cX4_accepts 0 = .ok (.aload_n 0, 1) := by decide +kernel
theorem dX4_accepts_1 : decode cX4_accepts 1 = .ok (.getfield 24, 3) := by decide +kernel
theorem dX4_accepts_4 : decode cX4_accepts 4 = .ok (.tableswitch 494 0 8 #[52, 91, 143, 188, 233, 297, 342, 384, 438], 52) := by decide +kernel
theorem dX4_accepts_56 : decode cX4_accepts 56 = .ok (.iload_n 1, 1) := by decide +kernel
theorem dX4_accepts_57 : decode cX4_accepts 57 = .ok (.invokestatic 42, 3) := by decide +kernel
theorem dX4_accepts_60 : decode cX4_accepts 60 = .ok (.ifCond .eq 33, 3) := by decide +kernel
theorem dX4_accepts_63 : decode cX4_accepts 63 = .ok (.iload_n 2, 1) := by decide +kernel
theorem dX4_accepts_64 : decode cX4_accepts 64 = .ok (.invokestatic 46, 3) := by decide +kernel
theorem dX4_accepts_67 : decode cX4_accepts 67 = .ok (.ifCond .eq 26, 3) := by decide +kernel
theorem dX4_accepts_70 : decode cX4_accepts 70 = .ok (.iload_n 3, 1) := by decide +kernel
theorem dX4_accepts_71 : decode cX4_accepts 71 = .ok (.ifCond .ne 22, 3) := by decide +kernel
theorem dX4_accepts_74 : decode cX4_accepts 74 = .ok (.iload 4, 2) := by decide +kernel
theorem dX4_accepts_76 : decode cX4_accepts 76 = .ok (.ifCond .ne 17, 3) := by decide +kernel
theorem dX4_accepts_79 : decode cX4_accepts 79 = .ok (.iload 5, 2) := by decide +kernel
theorem dX4_accepts_81 : decode cX4_accepts 81 = .ok (.ifCond .ne 12, 3) := by decide +kernel
theorem dX4_accepts_84 : decode cX4_accepts 84 = .ok (.iload 6, 2) := by decide +kernel
theorem dX4_accepts_86 : decode cX4_accepts 86 = .ok (.ifCond .ne 7, 3) := by decide +kernel
theorem dX4_accepts_89 : decode cX4_accepts 89 = .ok (.iconst 1, 1) := by decide +kernel
theorem dX4_accepts_90 : decode cX4_accepts 90 = .ok (.goto 4, 3) := by decide +kernel
theorem dX4_accepts_93 : decode cX4_accepts 93 = .ok (.iconst 0, 1) := by decide +kernel
theorem dX4_accepts_94 : decode cX4_accepts 94 = .ok (.ireturn, 1) := by decide +kernel
theorem dX4_accepts_95 : decode cX4_accepts 95 = .ok (.iload_n 1, 1) := by decide +kernel
theorem dX4_accepts_96 : decode cX4_accepts 96 = .ok (.invokestatic 42, 3) := by decide +kernel
theorem dX4_accepts_99 : decode cX4_accepts 99 = .ok (.ifCond .eq 46, 3) := by decide +kernel
theorem dX4_accepts_102 : decode cX4_accepts 102 = .ok (.iload_n 2, 1) := by decide +kernel
theorem dX4_accepts_103 : decode cX4_accepts 103 = .ok (.invokestatic 46, 3) := by decide +kernel
theorem dX4_accepts_106 : decode cX4_accepts 106 = .ok (.ifCond .eq 39, 3) := by decide +kernel
theorem dX4_accepts_109 : decode cX4_accepts 109 = .ok (.iload_n 3, 1) := by decide +kernel
theorem dX4_accepts_110 : decode cX4_accepts 110 = .ok (.invokestatic 46, 3) := by decide +kernel
theorem dX4_accepts_113 : decode cX4_accepts 113 = .ok (.ifCond .eq 32, 3) := by decide +kernel
theorem dX4_accepts_116 : decode cX4_accepts 116 = .ok (.iload 4, 2) := by decide +kernel
theorem dX4_accepts_118 : decode cX4_accepts 118 = .ok (.bipush (-100), 2) := by decide +kernel
theorem dX4_accepts_120 : decode cX4_accepts 120 = .ok (.if_icmp .eq 11, 3) := by decide +kernel
theorem dX4_accepts_123 : decode cX4_accepts 123 = .ok (.iload 4, 2) := by decide +kernel
theorem dX4_accepts_125 : decode cX4_accepts 125 = .ok (.invokestatic 46, 3) := by decide +kernel
theorem dX4_accepts_128 : decode cX4_accepts 128 = .ok (.ifCond .eq 17, 3) := by decide +kernel
theorem dX4_accepts_131 : decode cX4_accepts 131 = .ok (.iload 5, 2) := by decide +kernel
theorem dX4_accepts_133 : decode cX4_accepts 133 = .ok (.ifCond .ne 12, 3) := by decide +kernel
theorem dX4_accepts_136 : decode cX4_accepts 136 = .ok (.iload 6, 2) := by decide +kernel
theorem dX4_accepts_138 : decode cX4_accepts 138 = .ok (.ifCond .ne 7, 3) := by decide +kernel
theorem dX4_accepts_141 : decode cX4_accepts 141 = .ok (.iconst 1, 1) := by decide +kernel
theorem dX4_accepts_142 : decode cX4_accepts 142 = .ok (.goto 4, 3) := by decide +kernel
theorem dX4_accepts_145 : decode cX4_accepts 145 = .ok (.iconst 0, 1) := by decide +kernel
theorem dX4_accepts_146 : decode cX4_accepts 146 = .ok (.ireturn, 1) := by decide +kernel
theorem dX4_accepts_147 : decode cX4_accepts 147 = .ok (.iload_n 1, 1) := by decide +kernel
theorem dX4_accepts_148 : decode cX4_accepts 148 = .ok (.invokestatic 42, 3) := by decide +kernel
theorem dX4_accepts_151 : decode cX4_accepts 151 = .ok (.ifCond .eq 39, 3) := by decide +kernel
theorem dX4_accepts_154 : decode cX4_accepts 154 = .ok (.iload_n 2, 1) := by decide +kernel
theorem dX4_accepts_155 : decode cX4_accepts 155 = .ok (.invokestatic 46, 3) := by decide +kernel
theorem dX4_accepts_158 : decode cX4_accepts 158 = .ok (.ifCond .eq 32, 3) := by decide +kernel
theorem dX4_accepts_161 : decode cX4_accepts 161 = .ok (.iload_n 3, 1) := by decide +kernel
theorem dX4_accepts_162 : decode cX4_accepts 162 = .ok (.invokestatic 46, 3) := by decide +kernel
theorem dX4_accepts_165 : decode cX4_accepts 165 = .ok (.ifCond .eq 25, 3) := by decide +kernel
theorem dX4_accepts_168 : decode cX4_accepts 168 = .ok (.iload 4, 2) := by decide +kernel
theorem dX4_accepts_170 : decode cX4_accepts 170 = .ok (.invokestatic 46, 3) := by decide +kernel
theorem dX4_accepts_173 : decode cX4_accepts 173 = .ok (.ifCond .eq 17, 3) := by decide +kernel
theorem dX4_accepts_176 : decode cX4_accepts 176 = .ok (.iload 5, 2) := by decide +kernel
theorem dX4_accepts_178 : decode cX4_accepts 178 = .ok (.ifCond .ne 12, 3) := by decide +kernel
theorem dX4_accepts_181 : decode cX4_accepts 181 = .ok (.iload 6, 2) := by decide +kernel
theorem dX4_accepts_183 : decode cX4_accepts 183 = .ok (.ifCond .ne 7, 3) := by decide +kernel
theorem dX4_accepts_186 : decode cX4_accepts 186 = .ok (.iconst 1, 1) := by decide +kernel
theorem dX4_accepts_187 : decode cX4_accepts 187 = .ok (.goto 4, 3) := by decide +kernel
theorem dX4_accepts_190 : decode cX4_accepts 190 = .ok (.iconst 0, 1) := by decide +kernel
theorem dX4_accepts_191 : decode cX4_accepts 191 = .ok (.ireturn, 1) := by decide +kernel
theorem dX4_accepts_192 : decode cX4_accepts 192 = .ok (.iload_n 1, 1) := by decide +kernel
theorem dX4_accepts_193 : decode cX4_accepts 193 = .ok (.invokestatic 42, 3) := by decide +kernel
theorem dX4_accepts_196 : decode cX4_accepts 196 = .ok (.ifCond .eq 39, 3) := by decide +kernel
theorem dX4_accepts_199 : decode cX4_accepts 199 = .ok (.iload_n 2, 1) := by decide +kernel
theorem dX4_accepts_200 : decode cX4_accepts 200 = .ok (.invokestatic 42, 3) := by decide +kernel
theorem dX4_accepts_203 : decode cX4_accepts 203 = .ok (.ifCond .eq 32, 3) := by decide +kernel
theorem dX4_accepts_206 : decode cX4_accepts 206 = .ok (.iload_n 3, 1) := by decide +kernel
theorem dX4_accepts_207 : decode cX4_accepts 207 = .ok (.invokestatic 49, 3) := by decide +kernel
theorem dX4_accepts_210 : decode cX4_accepts 210 = .ok (.ifCond .eq 25, 3) := by decide +kernel
theorem dX4_accepts_213 : decode cX4_accepts 213 = .ok (.iload 4, 2) := by decide +kernel
theorem dX4_accepts_215 : decode cX4_accepts 215 = .ok (.invokestatic 46, 3) := by decide +kernel
theorem dX4_accepts_218 : decode cX4_accepts 218 = .ok (.ifCond .eq 17, 3) := by decide +kernel
theorem dX4_accepts_221 : decode cX4_accepts 221 = .ok (.iload 5, 2) := by decide +kernel
theorem dX4_accepts_223 : decode cX4_accepts 223 = .ok (.ifCond .ne 12, 3) := by decide +kernel
theorem dX4_accepts_226 : decode cX4_accepts 226 = .ok (.iload 6, 2) := by decide +kernel
theorem dX4_accepts_228 : decode cX4_accepts 228 = .ok (.ifCond .ne 7, 3) := by decide +kernel
theorem dX4_accepts_231 : decode cX4_accepts 231 = .ok (.iconst 1, 1) := by decide +kernel
theorem dX4_accepts_232 : decode cX4_accepts 232 = .ok (.goto 4, 3) := by decide +kernel
theorem dX4_accepts_235 : decode cX4_accepts 235 = .ok (.iconst 0, 1) := by decide +kernel
theorem dX4_accepts_236 : decode cX4_accepts 236 = .ok (.ireturn, 1) := by decide +kernel
theorem dX4_accepts_237 : decode cX4_accepts 237 = .ok (.iload_n 1, 1) := by decide +kernel
theorem dX4_accepts_238 : decode cX4_accepts 238 = .ok (.invokestatic 49, 3) := by decide +kernel
theorem dX4_accepts_241 : decode cX4_accepts 241 = .ok (.ifCond .eq 58, 3) := by decide +kernel
theorem dX4_accepts_244 : decode cX4_accepts 244 = .ok (.iload_n 2, 1) := by decide +kernel
theorem dX4_accepts_245 : decode cX4_accepts 245 = .ok (.invokestatic 42, 3) := by decide +kernel
theorem dX4_accepts_248 : decode cX4_accepts 248 = .ok (.ifCond .eq 51, 3) := by decide +kernel
theorem dX4_accepts_251 : decode cX4_accepts 251 = .ok (.iload_n 3, 1) := by decide +kernel
theorem dX4_accepts_252 : decode cX4_accepts 252 = .ok (.invokestatic 49, 3) := by decide +kernel
theorem dX4_accepts_255 : decode cX4_accepts 255 = .ok (.ifCond .eq 44, 3) := by decide +kernel
theorem dX4_accepts_258 : decode cX4_accepts 258 = .ok (.iload 4, 2) := by decide +kernel
theorem dX4_accepts_260 : decode cX4_accepts 260 = .ok (.invokestatic 49, 3) := by decide +kernel
theorem dX4_accepts_263 : decode cX4_accepts 263 = .ok (.ifCond .eq 36, 3) := by decide +kernel
theorem dX4_accepts_266 : decode cX4_accepts 266 = .ok (.iload 5, 2) := by decide +kernel
theorem dX4_accepts_268 : decode cX4_accepts 268 = .ok (.ifCond .eq 15, 3) := by decide +kernel
theorem dX4_accepts_271 : decode cX4_accepts 271 = .ok (.iload 5, 2) := by decide +kernel
theorem dX4_accepts_273 : decode cX4_accepts 273 = .ok (.iconst 1, 1) := by decide +kernel
theorem dX4_accepts_274 : decode cX4_accepts 274 = .ok (.if_icmp .ne 25, 3) := by decide +kernel
theorem dX4_accepts_277 : decode cX4_accepts 277 = .ok (.iload_n 3, 1) := by decide +kernel
theorem dX4_accepts_278 : decode cX4_accepts 278 = .ok (.bipush (-100), 2) := by decide +kernel
theorem dX4_accepts_280 : decode cX4_accepts 280 = .ok (.if_icmp .eq 19, 3) := by decide +kernel
theorem dX4_accepts_283 : decode cX4_accepts 283 = .ok (.iload 6, 2) := by decide +kernel
theorem dX4_accepts_285 : decode cX4_accepts 285 = .ok (.ifCond .lt 14, 3) := by decide +kernel
theorem dX4_accepts_288 : decode cX4_accepts 288 = .ok (.iload 6, 2) := by decide +kernel
theorem dX4_accepts_290 : decode cX4_accepts 290 = .ok (.bipush 12, 2) := by decide +kernel
theorem dX4_accepts_292 : decode cX4_accepts 292 = .ok (.if_icmp .ge 7, 3) := by decide +kernel
theorem dX4_accepts_295 : decode cX4_accepts 295 = .ok (.iconst 1, 1) := by decide +kernel
theorem dX4_accepts_296 : decode cX4_accepts 296 = .ok (.goto 4, 3) := by decide +kernel
theorem dX4_accepts_299 : decode cX4_accepts 299 = .ok (.iconst 0, 1) := by decide +kernel
theorem dX4_accepts_300 : decode cX4_accepts 300 = .ok (.ireturn, 1) := by decide +kernel
theorem dX4_accepts_301 : decode cX4_accepts 301 = .ok (.iload_n 1, 1) := by decide +kernel
theorem dX4_accepts_302 : decode cX4_accepts 302 = .ok (.invokestatic 49, 3) := by decide +kernel
theorem dX4_accepts_305 : decode cX4_accepts 305 = .ok (.ifCond .eq 39, 3) := by decide +kernel
theorem dX4_accepts_308 : decode cX4_accepts 308 = .ok (.iload_n 2, 1) := by decide +kernel
theorem dX4_accepts_309 : decode cX4_accepts 309 = .ok (.invokestatic 42, 3) := by decide +kernel
theorem dX4_accepts_312 : decode cX4_accepts 312 = .ok (.ifCond .eq 32, 3) := by decide +kernel
theorem dX4_accepts_315 : decode cX4_accepts 315 = .ok (.iload_n 3, 1) := by decide +kernel
theorem dX4_accepts_316 : decode cX4_accepts 316 = .ok (.invokestatic 49, 3) := by decide +kernel
theorem dX4_accepts_319 : decode cX4_accepts 319 = .ok (.ifCond .eq 25, 3) := by decide +kernel
theorem dX4_accepts_322 : decode cX4_accepts 322 = .ok (.iload 4, 2) := by decide +kernel
theorem dX4_accepts_324 : decode cX4_accepts 324 = .ok (.invokestatic 46, 3) := by decide +kernel
theorem dX4_accepts_327 : decode cX4_accepts 327 = .ok (.ifCond .eq 17, 3) := by decide +kernel
theorem dX4_accepts_330 : decode cX4_accepts 330 = .ok (.iload 5, 2) := by decide +kernel
theorem dX4_accepts_332 : decode cX4_accepts 332 = .ok (.ifCond .ne 12, 3) := by decide +kernel
theorem dX4_accepts_335 : decode cX4_accepts 335 = .ok (.iload 6, 2) := by decide +kernel
theorem dX4_accepts_337 : decode cX4_accepts 337 = .ok (.ifCond .ne 7, 3) := by decide +kernel
theorem dX4_accepts_340 : decode cX4_accepts 340 = .ok (.iconst 1, 1) := by decide +kernel
theorem dX4_accepts_341 : decode cX4_accepts 341 = .ok (.goto 4, 3) := by decide +kernel
theorem dX4_accepts_344 : decode cX4_accepts 344 = .ok (.iconst 0, 1) := by decide +kernel
theorem dX4_accepts_345 : decode cX4_accepts 345 = .ok (.ireturn, 1) := by decide +kernel
theorem dX4_accepts_346 : decode cX4_accepts 346 = .ok (.iload_n 1, 1) := by decide +kernel
theorem dX4_accepts_347 : decode cX4_accepts 347 = .ok (.invokestatic 42, 3) := by decide +kernel
theorem dX4_accepts_350 : decode cX4_accepts 350 = .ok (.ifCond .eq 36, 3) := by decide +kernel
theorem dX4_accepts_353 : decode cX4_accepts 353 = .ok (.iload_n 2, 1) := by decide +kernel
theorem dX4_accepts_354 : decode cX4_accepts 354 = .ok (.invokestatic 42, 3) := by decide +kernel
theorem dX4_accepts_357 : decode cX4_accepts 357 = .ok (.ifCond .eq 29, 3) := by decide +kernel
theorem dX4_accepts_360 : decode cX4_accepts 360 = .ok (.iload_n 3, 1) := by decide +kernel
theorem dX4_accepts_361 : decode cX4_accepts 361 = .ok (.invokestatic 52, 3) := by decide +kernel
theorem dX4_accepts_364 : decode cX4_accepts 364 = .ok (.ifCond .eq 22, 3) := by decide +kernel
theorem dX4_accepts_367 : decode cX4_accepts 367 = .ok (.iload 4, 2) := by decide +kernel
theorem dX4_accepts_369 : decode cX4_accepts 369 = .ok (.ifCond .ne 17, 3) := by decide +kernel
theorem dX4_accepts_372 : decode cX4_accepts 372 = .ok (.iload 5, 2) := by decide +kernel
theorem dX4_accepts_374 : decode cX4_accepts 374 = .ok (.ifCond .ne 12, 3) := by decide +kernel
theorem dX4_accepts_377 : decode cX4_accepts 377 = .ok (.iload 6, 2) := by decide +kernel
theorem dX4_accepts_379 : decode cX4_accepts 379 = .ok (.ifCond .ne 7, 3) := by decide +kernel
theorem dX4_accepts_382 : decode cX4_accepts 382 = .ok (.iconst 1, 1) := by decide +kernel
theorem dX4_accepts_383 : decode cX4_accepts 383 = .ok (.goto 4, 3) := by decide +kernel
theorem dX4_accepts_386 : decode cX4_accepts 386 = .ok (.iconst 0, 1) := by decide +kernel
theorem dX4_accepts_387 : decode cX4_accepts 387 = .ok (.ireturn, 1) := by decide +kernel
theorem dX4_accepts_388 : decode cX4_accepts 388 = .ok (.iload_n 1, 1) := by decide +kernel
theorem dX4_accepts_389 : decode cX4_accepts 389 = .ok (.invokestatic 42, 3) := by decide +kernel
theorem dX4_accepts_392 : decode cX4_accepts 392 = .ok (.ifCond .eq 48, 3) := by decide +kernel
theorem dX4_accepts_395 : decode cX4_accepts 395 = .ok (.iload_n 2, 1) := by decide +kernel
theorem dX4_accepts_396 : decode cX4_accepts 396 = .ok (.bipush (-100), 2) := by decide +kernel
theorem dX4_accepts_398 : decode cX4_accepts 398 = .ok (.if_icmp .eq 10, 3) := by decide +kernel
theorem dX4_accepts_401 : decode cX4_accepts 401 = .ok (.iload_n 2, 1) := by decide +kernel
theorem dX4_accepts_402 : decode cX4_accepts 402 = .ok (.invokestatic 52, 3) := by decide +kernel
theorem dX4_accepts_405 : decode cX4_accepts 405 = .ok (.ifCond .eq 35, 3) := by decide +kernel
theorem dX4_accepts_408 : decode cX4_accepts 408 = .ok (.iload_n 3, 1) := by decide +kernel
theorem dX4_accepts_409 : decode cX4_accepts 409 = .ok (.bipush (-100), 2) := by decide +kernel
theorem dX4_accepts_411 : decode cX4_accepts 411 = .ok (.if_icmp .eq 10, 3) := by decide +kernel
theorem dX4_accepts_414 : decode cX4_accepts 414 = .ok (.iload_n 3, 1) := by decide +kernel
theorem dX4_accepts_415 : decode cX4_accepts 415 = .ok (.invokestatic 52, 3) := by decide +kernel
theorem dX4_accepts_418 : decode cX4_accepts 418 = .ok (.ifCond .eq 22, 3) := by decide +kernel
theorem dX4_accepts_421 : decode cX4_accepts 421 = .ok (.iload 4, 2) := by decide +kernel
theorem dX4_accepts_423 : decode cX4_accepts 423 = .ok (.ifCond .ne 17, 3) := by decide +kernel
theorem dX4_accepts_426 : decode cX4_accepts 426 = .ok (.iload 5, 2) := by decide +kernel
theorem dX4_accepts_428 : decode cX4_accepts 428 = .ok (.ifCond .ne 12, 3) := by decide +kernel
theorem dX4_accepts_431 : decode cX4_accepts 431 = .ok (.iload 6, 2) := by decide +kernel
theorem dX4_accepts_433 : decode cX4_accepts 433 = .ok (.ifCond .ne 7, 3) := by decide +kernel
theorem dX4_accepts_436 : decode cX4_accepts 436 = .ok (.iconst 1, 1) := by decide +kernel
theorem dX4_accepts_437 : decode cX4_accepts 437 = .ok (.goto 4, 3) := by decide +kernel
theorem dX4_accepts_440 : decode cX4_accepts 440 = .ok (.iconst 0, 1) := by decide +kernel
theorem dX4_accepts_441 : decode cX4_accepts 441 = .ok (.ireturn, 1) := by decide +kernel
theorem dX4_accepts_442 : decode cX4_accepts 442 = .ok (.iload_n 1, 1) := by decide +kernel
theorem dX4_accepts_443 : decode cX4_accepts 443 = .ok (.invokestatic 42, 3) := by decide +kernel
theorem dX4_accepts_446 : decode cX4_accepts 446 = .ok (.ifCond .eq 50, 3) := by decide +kernel
theorem dX4_accepts_449 : decode cX4_accepts 449 = .ok (.iload_n 2, 1) := by decide +kernel
theorem dX4_accepts_450 : decode cX4_accepts 450 = .ok (.bipush (-100), 2) := by decide +kernel
theorem dX4_accepts_452 : decode cX4_accepts 452 = .ok (.if_icmp .eq 12, 3) := by decide +kernel
theorem dX4_accepts_455 : decode cX4_accepts 455 = .ok (.iload_n 2, 1) := by decide +kernel
theorem dX4_accepts_456 : decode cX4_accepts 456 = .ok (.ifCond .lt 40, 3) := by decide +kernel
theorem dX4_accepts_459 : decode cX4_accepts 459 = .ok (.iload_n 2, 1) := by decide +kernel
theorem dX4_accepts_460 : decode cX4_accepts 460 = .ok (.iconst 3, 1) := by decide +kernel
theorem dX4_accepts_461 : decode cX4_accepts 461 = .ok (.if_icmp .ge 35, 3) := by decide +kernel
theorem dX4_accepts_464 : decode cX4_accepts 464 = .ok (.iload_n 3, 1) := by decide +kernel
theorem dX4_accepts_465 : decode cX4_accepts 465 = .ok (.invokestatic 55, 3) := by decide +kernel
theorem dX4_accepts_468 : decode cX4_accepts 468 = .ok (.ifCond .eq 28, 3) := by decide +kernel
theorem dX4_accepts_471 : decode cX4_accepts 471 = .ok (.iload 4, 2) := by decide +kernel
theorem dX4_accepts_473 : decode cX4_accepts 473 = .ok (.invokestatic 52, 3) := by decide +kernel
theorem dX4_accepts_476 : decode cX4_accepts 476 = .ok (.ifCond .eq 20, 3) := by decide +kernel
theorem dX4_accepts_479 : decode cX4_accepts 479 = .ok (.iload 5, 2) := by decide +kernel
theorem dX4_accepts_481 : decode cX4_accepts 481 = .ok (.invokestatic 52, 3) := by decide +kernel
theorem dX4_accepts_484 : decode cX4_accepts 484 = .ok (.ifCond .eq 12, 3) := by decide +kernel
theorem dX4_accepts_487 : decode cX4_accepts 487 = .ok (.iload 6, 2) := by decide +kernel
theorem dX4_accepts_489 : decode cX4_accepts 489 = .ok (.ifCond .ne 7, 3) := by decide +kernel
theorem dX4_accepts_492 : decode cX4_accepts 492 = .ok (.iconst 1, 1) := by decide +kernel
theorem dX4_accepts_493 : decode cX4_accepts 493 = .ok (.goto 4, 3) := by decide +kernel
theorem dX4_accepts_496 : decode cX4_accepts 496 = .ok (.iconst 0, 1) := by decide +kernel
theorem dX4_accepts_497 : decode cX4_accepts 497 = .ok (.ireturn, 1) := by decide +kernel
theorem dX4_accepts_498 : decode cX4_accepts 498 = .ok (.iload_n 1, 1) := by decide +kernel
theorem dX4_accepts_499 : decode cX4_accepts 499 = .ok (.invokestatic 42, 3) := by decide +kernel
theorem dX4_accepts_502 : decode cX4_accepts 502 = .ok (.ifCond .eq 39, 3) := by decide +kernel
theorem dX4_accepts_505 : decode cX4_accepts 505 = .ok (.iload_n 2, 1) := by decide +kernel
theorem dX4_accepts_506 : decode cX4_accepts 506 = .ok (.invokestatic 55, 3) := by decide +kernel
theorem dX4_accepts_509 : decode cX4_accepts 509 = .ok (.ifCond .eq 32, 3) := by decide +kernel
theorem dX4_accepts_512 : decode cX4_accepts 512 = .ok (.iload_n 3, 1) := by decide +kernel
theorem dX4_accepts_513 : decode cX4_accepts 513 = .ok (.invokestatic 52, 3) := by decide +kernel
theorem dX4_accepts_516 : decode cX4_accepts 516 = .ok (.ifCond .eq 25, 3) := by decide +kernel
theorem dX4_accepts_519 : decode cX4_accepts 519 = .ok (.iload 4, 2) := by decide +kernel
theorem dX4_accepts_521 : decode cX4_accepts 521 = .ok (.invokestatic 52, 3) := by decide +kernel
theorem dX4_accepts_524 : decode cX4_accepts 524 = .ok (.ifCond .eq 17, 3) := by decide +kernel
theorem dX4_accepts_527 : decode cX4_accepts 527 = .ok (.iload 5, 2) := by decide +kernel
theorem dX4_accepts_529 : decode cX4_accepts 529 = .ok (.ifCond .ne 12, 3) := by decide +kernel
theorem dX4_accepts_532 : decode cX4_accepts 532 = .ok (.iload 6, 2) := by decide +kernel
theorem dX4_accepts_534 : decode cX4_accepts 534 = .ok (.ifCond .ne 7, 3) := by decide +kernel
theorem dX4_accepts_537 : decode cX4_accepts 537 = .ok (.iconst 1, 1) := by decide +kernel
theorem dX4_accepts_538 : decode cX4_accepts 538 = .ok (.goto 4, 3) := by decide +kernel
theorem dX4_accepts_541 : decode cX4_accepts 541 = .ok (.iconst 0, 1) := by decide +kernel
theorem dX4_accepts_542 : decode cX4_accepts 542 = .ok (.ireturn, 1) := by decide +kernel
theorem dX4_isItemOrNone_0 : decode cX4_isItemOrNone 0 = .ok (.iload_n 0, 1) := by decide +kernel
theorem dX4_isItemOrNone_1 : decode cX4_isItemOrNone 1 = .ok (.bipush (-100), 2) := by decide +kernel
theorem dX4_isItemOrNone_3 : decode cX4_isItemOrNone 3 = .ok (.if_icmp .eq 10, 3) := by decide +kernel
theorem dX4_isItemOrNone_6 : decode cX4_isItemOrNone 6 = .ok (.iload_n 0, 1) := by decide +kernel
theorem dX4_isItemOrNone_7 : decode cX4_isItemOrNone 7 = .ok (.invokestatic 42, 3) := by decide +kernel
theorem dX4_isItemOrNone_10 : decode cX4_isItemOrNone 10 = .ok (.ifCond .eq 7, 3) := by decide +kernel
theorem dX4_isItemOrNone_13 : decode cX4_isItemOrNone 13 = .ok (.iconst 1, 1) := by decide +kernel
theorem dX4_isItemOrNone_14 : decode cX4_isItemOrNone 14 = .ok (.goto 4, 3) := by decide +kernel
theorem dX4_isItemOrNone_17 : decode cX4_isItemOrNone 17 = .ok (.iconst 0, 1) := by decide +kernel
theorem dX4_isItemOrNone_18 : decode cX4_isItemOrNone 18 = .ok (.ireturn, 1) := by decide +kernel
theorem dX4_isStep_0 : decode cX4_isStep 0 = .ok (.iload_n 0, 1) := by decide +kernel
theorem dX4_isStep_1 : decode cX4_isStep 1 = .ok (.bipush (-50), 2) := by decide +kernel
theorem dX4_isStep_3 : decode cX4_isStep 3 = .ok (.if_icmp .lt 13, 3) := by decide +kernel
theorem dX4_isStep_6 : decode cX4_isStep 6 = .ok (.iload_n 0, 1) := by decide +kernel
theorem dX4_isStep_7 : decode cX4_isStep 7 = .ok (.bipush 50, 2) := by decide +kernel
theorem dX4_isStep_9 : decode cX4_isStep 9 = .ok (.if_icmp .gt 7, 3) := by decide +kernel
theorem dX4_isStep_12 : decode cX4_isStep 12 = .ok (.iconst 1, 1) := by decide +kernel
theorem dX4_isStep_13 : decode cX4_isStep 13 = .ok (.goto 4, 3) := by decide +kernel
theorem dX4_isStep_16 : decode cX4_isStep 16 = .ok (.iconst 0, 1) := by decide +kernel
theorem dX4_isStep_17 : decode cX4_isStep 17 = .ok (.ireturn, 1) := by decide +kernel
theorem dX4_isClass_0 : decode cX4_isClass 0 = .ok (.iload_n 0, 1) := by decide +kernel
theorem dX4_isClass_1 : decode cX4_isClass 1 = .ok (.ifCond .lt 12, 3) := by decide +kernel
theorem dX4_isClass_4 : decode cX4_isClass 4 = .ok (.iload_n 0, 1) := by decide +kernel
theorem dX4_isClass_5 : decode cX4_isClass 5 = .ok (.iconst 4, 1) := by decide +kernel
theorem dX4_isClass_6 : decode cX4_isClass 6 = .ok (.if_icmp .ge 7, 3) := by decide +kernel
theorem dX4_isClass_9 : decode cX4_isClass 9 = .ok (.iconst 1, 1) := by decide +kernel
theorem dX4_isClass_10 : decode cX4_isClass 10 = .ok (.goto 4, 3) := by decide +kernel
theorem dX4_isClass_13 : decode cX4_isClass 13 = .ok (.iconst 0, 1) := by decide +kernel
theorem dX4_isClass_14 : decode cX4_isClass 14 = .ok (.ireturn, 1) := by decide +kernel
theorem dX4_tell_0 : decode cX4_tell 0 = .ok (.aload_n 0, 1) := by decide +kernel
theorem dX4_tell_1 : decode cX4_tell 1 = .ok (.getfield 20, 3) := by decide +kernel
theorem dX4_tell_4 : decode cX4_tell 4 = .ok (.bipush 8, 2) := by decide +kernel
theorem dX4_tell_6 : decode cX4_tell 6 = .ok (.if_icmp .lt 4, 3) := by decide +kernel
theorem dX4_tell_9 : decode cX4_tell 9 = .ok (.return_, 1) := by decide +kernel
theorem dX4_tell_10 : decode cX4_tell 10 = .ok (.aload_n 0, 1) := by decide +kernel
theorem dX4_tell_11 : decode cX4_tell 11 = .ok (.getfield 11, 3) := by decide +kernel
theorem dX4_tell_14 : decode cX4_tell 14 = .ok (.aload_n 0, 1) := by decide +kernel
theorem dX4_tell_15 : decode cX4_tell 15 = .ok (.getfield 20, 3) := by decide +kernel
theorem dX4_tell_18 : decode cX4_tell 18 = .ok (.aaload, 1) := by decide +kernel
theorem dX4_tell_19 : decode cX4_tell 19 = .ok (.astore 7, 2) := by decide +kernel
theorem dX4_tell_21 : decode cX4_tell 21 = .ok (.aload 7, 2) := by decide +kernel
theorem dX4_tell_23 : decode cX4_tell 23 = .ok (.iconst 0, 1) := by decide +kernel
theorem dX4_tell_24 : decode cX4_tell 24 = .ok (.iload_n 1, 1) := by decide +kernel
theorem dX4_tell_25 : decode cX4_tell 25 = .ok (.iastore, 1) := by decide +kernel
theorem dX4_tell_26 : decode cX4_tell 26 = .ok (.aload 7, 2) := by decide +kernel
theorem dX4_tell_28 : decode cX4_tell 28 = .ok (.iconst 1, 1) := by decide +kernel
theorem dX4_tell_29 : decode cX4_tell 29 = .ok (.iload_n 2, 1) := by decide +kernel
theorem dX4_tell_30 : decode cX4_tell 30 = .ok (.iastore, 1) := by decide +kernel
theorem dX4_tell_31 : decode cX4_tell 31 = .ok (.aload 7, 2) := by decide +kernel
theorem dX4_tell_33 : decode cX4_tell 33 = .ok (.iconst 2, 1) := by decide +kernel
theorem dX4_tell_34 : decode cX4_tell 34 = .ok (.iload_n 3, 1) := by decide +kernel
theorem dX4_tell_35 : decode cX4_tell 35 = .ok (.iastore, 1) := by decide +kernel
theorem dX4_tell_36 : decode cX4_tell 36 = .ok (.aload 7, 2) := by decide +kernel
theorem dX4_tell_38 : decode cX4_tell 38 = .ok (.iconst 3, 1) := by decide +kernel
theorem dX4_tell_39 : decode cX4_tell 39 = .ok (.iload 4, 2) := by decide +kernel
theorem dX4_tell_41 : decode cX4_tell 41 = .ok (.iastore, 1) := by decide +kernel
theorem dX4_tell_42 : decode cX4_tell 42 = .ok (.aload 7, 2) := by decide +kernel
theorem dX4_tell_44 : decode cX4_tell 44 = .ok (.iconst 4, 1) := by decide +kernel
theorem dX4_tell_45 : decode cX4_tell 45 = .ok (.iload 5, 2) := by decide +kernel
theorem dX4_tell_47 : decode cX4_tell 47 = .ok (.iastore, 1) := by decide +kernel
theorem dX4_tell_48 : decode cX4_tell 48 = .ok (.aload 7, 2) := by decide +kernel
theorem dX4_tell_50 : decode cX4_tell 50 = .ok (.iconst 5, 1) := by decide +kernel
theorem dX4_tell_51 : decode cX4_tell 51 = .ok (.iload 6, 2) := by decide +kernel
theorem dX4_tell_53 : decode cX4_tell 53 = .ok (.iastore, 1) := by decide +kernel
theorem dX4_tell_54 : decode cX4_tell 54 = .ok (.aload_n 0, 1) := by decide +kernel
theorem dX4_tell_55 : decode cX4_tell 55 = .ok (.dup, 1) := by decide +kernel
theorem dX4_tell_56 : decode cX4_tell 56 = .ok (.getfield 20, 3) := by decide +kernel
theorem dX4_tell_59 : decode cX4_tell 59 = .ok (.iconst 1, 1) := by decide +kernel
theorem dX4_tell_60 : decode cX4_tell 60 = .ok (.iadd, 1) := by decide +kernel
theorem dX4_tell_61 : decode cX4_tell 61 = .ok (.putfield 20, 3) := by decide +kernel
theorem dX4_tell_64 : decode cX4_tell 64 = .ok (.return_, 1) := by decide +kernel
theorem dX4_begins_0 : decode cX4_begins 0 = .ok (.iconst 0, 1) := by decide +kernel
theorem dX4_begins_1 : decode cX4_begins 1 = .ok (.istore_n 3, 1) := by decide +kernel
theorem dX4_begins_2 : decode cX4_begins 2 = .ok (.iconst 0, 1) := by decide +kernel
theorem dX4_begins_3 : decode cX4_begins 3 = .ok (.istore 4, 2) := by decide +kernel
theorem dX4_begins_5 : decode cX4_begins 5 = .ok (.iload 4, 2) := by decide +kernel
theorem dX4_begins_7 : decode cX4_begins 7 = .ok (.aload_n 0, 1) := by decide +kernel
theorem dX4_begins_8 : decode cX4_begins 8 = .ok (.getfield 20, 3) := by decide +kernel
theorem dX4_begins_11 : decode cX4_begins 11 = .ok (.if_icmp .ge 57, 3) := by decide +kernel
theorem dX4_begins_14 : decode cX4_begins 14 = .ok (.aload_n 0, 1) := by decide +kernel
theorem dX4_begins_15 : decode cX4_begins 15 = .ok (.getfield 11, 3) := by decide +kernel
theorem dX4_begins_18 : decode cX4_begins 18 = .ok (.iload 4, 2) := by decide +kernel
theorem dX4_begins_20 : decode cX4_begins 20 = .ok (.aaload, 1) := by decide +kernel
theorem dX4_begins_21 : decode cX4_begins 21 = .ok (.aload_n 0, 1) := by decide +kernel
theorem dX4_begins_22 : decode cX4_begins 22 = .ok (.getfield 39, 3) := by decide +kernel
theorem dX4_begins_25 : decode cX4_begins 25 = .ok (.iaload, 1) := by decide +kernel
theorem dX4_begins_26 : decode cX4_begins 26 = .ok (.istore 5, 2) := by decide +kernel
theorem dX4_begins_28 : decode cX4_begins 28 = .ok (.iload 5, 2) := by decide +kernel
theorem dX4_begins_30 : decode cX4_begins 30 = .ok (.sipush 300, 3) := by decide +kernel
theorem dX4_begins_33 : decode cX4_begins 33 = .ok (.if_icmp .lt 16, 3) := by decide +kernel
theorem dX4_begins_36 : decode cX4_begins 36 = .ok (.iload 5, 2) := by decide +kernel
theorem dX4_begins_38 : decode cX4_begins 38 = .ok (.sipush 300, 3) := by decide +kernel
theorem dX4_begins_41 : decode cX4_begins 41 = .ok (.isub, 1) := by decide +kernel
theorem dX4_begins_42 : decode cX4_begins 42 = .ok (.iload_n 2, 1) := by decide +kernel
theorem dX4_begins_43 : decode cX4_begins 43 = .ok (.if_icmp .ne 19, 3) := by decide +kernel
theorem dX4_begins_46 : decode cX4_begins 46 = .ok (.goto 9, 3) := by decide +kernel
theorem dX4_begins_49 : decode cX4_begins 49 = .ok (.iload 5, 2) := by decide +kernel
theorem dX4_begins_51 : decode cX4_begins 51 = .ok (.iload_n 1, 1) := by decide +kernel
theorem dX4_begins_52 : decode cX4_begins 52 = .ok (.if_icmp .ne 10, 3) := by decide +kernel
theorem dX4_begins_55 : decode cX4_begins 55 = .ok (.iload_n 3, 1) := by decide +kernel
theorem dX4_begins_56 : decode cX4_begins 56 = .ok (.iconst 1, 1) := by decide +kernel
theorem dX4_begins_57 : decode cX4_begins 57 = .ok (.iload 4, 2) := by decide +kernel
theorem dX4_begins_59 : decode cX4_begins 59 = .ok (.ishl, 1) := by decide +kernel
theorem dX4_begins_60 : decode cX4_begins 60 = .ok (.ior, 1) := by decide +kernel
theorem dX4_begins_61 : decode cX4_begins 61 = .ok (.istore_n 3, 1) := by decide +kernel
theorem dX4_begins_62 : decode cX4_begins 62 = .ok (.iinc 4 1, 3) := by decide +kernel
theorem dX4_begins_65 : decode cX4_begins 65 = .ok (.goto (-60), 3) := by decide +kernel
theorem dX4_begins_68 : decode cX4_begins 68 = .ok (.iload_n 3, 1) := by decide +kernel
theorem dX4_begins_69 : decode cX4_begins 69 = .ok (.ireturn, 1) := by decide +kernel
theorem dX4_tableSize_0 : decode cX4_tableSize 0 = .ok (.iconst 4, 1) := by decide +kernel
theorem dX4_tableSize_1 : decode cX4_tableSize 1 = .ok (.newarray .long, 2) := by decide +kernel
theorem dX4_tableSize_3 : decode cX4_tableSize 3 = .ok (.astore_n 1, 1) := by decide +kernel
theorem dX4_tableSize_4 : decode cX4_tableSize 4 = .ok (.iconst 0, 1) := by decide +kernel
theorem dX4_tableSize_5 : decode cX4_tableSize 5 = .ok (.istore_n 2, 1) := by decide +kernel
theorem dX4_tableSize_6 : decode cX4_tableSize 6 = .ok (.iconst 0, 1) := by decide +kernel
theorem dX4_tableSize_7 : decode cX4_tableSize 7 = .ok (.istore_n 3, 1) := by decide +kernel
theorem dX4_tableSize_8 : decode cX4_tableSize 8 = .ok (.iload_n 3, 1) := by decide +kernel
theorem dX4_tableSize_9 : decode cX4_tableSize 9 = .ok (.sipush 256, 3) := by decide +kernel
theorem dX4_tableSize_12 : decode cX4_tableSize 12 = .ok (.if_icmp .ge 77, 3) := by decide +kernel
theorem dX4_tableSize_15 : decode cX4_tableSize 15 = .ok (.aload_n 0, 1) := by decide +kernel
theorem dX4_tableSize_16 : decode cX4_tableSize 16 = .ok (.getfield 16, 3) := by decide +kernel
theorem dX4_tableSize_19 : decode cX4_tableSize 19 = .ok (.iload_n 3, 1) := by decide +kernel
theorem dX4_tableSize_20 : decode cX4_tableSize 20 = .ok (.iaload, 1) := by decide +kernel
theorem dX4_tableSize_21 : decode cX4_tableSize 21 = .ok (.sipush 255, 3) := by decide +kernel
theorem dX4_tableSize_24 : decode cX4_tableSize 24 = .ok (.iand, 1) := by decide +kernel
theorem dX4_tableSize_25 : decode cX4_tableSize 25 = .ok (.istore 4, 2) := by decide +kernel
theorem dX4_tableSize_27 : decode cX4_tableSize 27 = .ok (.iload 4, 2) := by decide +kernel
theorem dX4_tableSize_29 : decode cX4_tableSize 29 = .ok (.ifCond .ne 6, 3) := by decide +kernel
theorem dX4_tableSize_32 : decode cX4_tableSize 32 = .ok (.goto 51, 3) := by decide +kernel
theorem dX4_tableSize_35 : decode cX4_tableSize 35 = .ok (.iinc 2 1, 3) := by decide +kernel
theorem dX4_tableSize_38 : decode cX4_tableSize 38 = .ok (.iload 4, 2) := by decide +kernel
theorem dX4_tableSize_40 : decode cX4_tableSize 40 = .ok (.bipush 64, 2) := by decide +kernel
theorem dX4_tableSize_42 : decode cX4_tableSize 42 = .ok (.idiv, 1) := by decide +kernel
theorem dX4_tableSize_43 : decode cX4_tableSize 43 = .ok (.istore 5, 2) := by decide +kernel
theorem dX4_tableSize_45 : decode cX4_tableSize 45 = .ok (.lconst 1, 1) := by decide +kernel
theorem dX4_tableSize_46 : decode cX4_tableSize 46 = .ok (.iload 4, 2) := by decide +kernel
theorem dX4_tableSize_48 : decode cX4_tableSize 48 = .ok (.bipush 64, 2) := by decide +kernel
theorem dX4_tableSize_50 : decode cX4_tableSize 50 = .ok (.irem, 1) := by decide +kernel
theorem dX4_tableSize_51 : decode cX4_tableSize 51 = .ok (.lshl, 1) := by decide +kernel
theorem dX4_tableSize_52 : decode cX4_tableSize 52 = .ok (.lstore 6, 2) := by decide +kernel
theorem dX4_tableSize_54 : decode cX4_tableSize 54 = .ok (.aload_n 1, 1) := by decide +kernel
theorem dX4_tableSize_55 : decode cX4_tableSize 55 = .ok (.iload 5, 2) := by decide +kernel
theorem dX4_tableSize_57 : decode cX4_tableSize 57 = .ok (.laload, 1) := by decide +kernel
theorem dX4_tableSize_58 : decode cX4_tableSize 58 = .ok (.lload 6, 2) := by decide +kernel
theorem dX4_tableSize_60 : decode cX4_tableSize 60 = .ok (.land, 1) := by decide +kernel
theorem dX4_tableSize_61 : decode cX4_tableSize 61 = .ok (.lconst 0, 1) := by decide +kernel
theorem dX4_tableSize_62 : decode cX4_tableSize 62 = .ok (.lcmp, 1) := by decide +kernel
theorem dX4_tableSize_63 : decode cX4_tableSize 63 = .ok (.ifCond .ne 11, 3) := by decide +kernel
theorem dX4_tableSize_66 : decode cX4_tableSize 66 = .ok (.iload_n 2, 1) := by decide +kernel
theorem dX4_tableSize_67 : decode cX4_tableSize 67 = .ok (.iload 4, 2) := by decide +kernel
theorem dX4_tableSize_69 : decode cX4_tableSize 69 = .ok (.invokestatic 58, 3) := by decide +kernel
theorem dX4_tableSize_72 : decode cX4_tableSize 72 = .ok (.iadd, 1) := by decide +kernel
theorem dX4_tableSize_73 : decode cX4_tableSize 73 = .ok (.istore_n 2, 1) := by decide +kernel
theorem dX4_tableSize_74 : decode cX4_tableSize 74 = .ok (.aload_n 1, 1) := by decide +kernel
theorem dX4_tableSize_75 : decode cX4_tableSize 75 = .ok (.iload 5, 2) := by decide +kernel
theorem dX4_tableSize_77 : decode cX4_tableSize 77 = .ok (.dup2, 1) := by decide +kernel
theorem dX4_tableSize_78 : decode cX4_tableSize 78 = .ok (.laload, 1) := by decide +kernel
theorem dX4_tableSize_79 : decode cX4_tableSize 79 = .ok (.lload 6, 2) := by decide +kernel
theorem dX4_tableSize_81 : decode cX4_tableSize 81 = .ok (.lor, 1) := by decide +kernel
theorem dX4_tableSize_82 : decode cX4_tableSize 82 = .ok (.lastore, 1) := by decide +kernel
theorem dX4_tableSize_83 : decode cX4_tableSize 83 = .ok (.iinc 3 1, 3) := by decide +kernel
theorem dX4_tableSize_86 : decode cX4_tableSize 86 = .ok (.goto (-78), 3) := by decide +kernel
theorem dX4_tableSize_89 : decode cX4_tableSize 89 = .ok (.iload_n 2, 1) := by decide +kernel
theorem dX4_tableSize_90 : decode cX4_tableSize 90 = .ok (.ireturn, 1) := by decide +kernel
theorem dX4_isOf_0 : decode cX4_isOf 0 = .ok (.aload_n 0, 1) := by decide +kernel
theorem dX4_isOf_1 : decode cX4_isOf 1 = .ok (.getfield 33, 3) := by decide +kernel
theorem dX4_isOf_4 : decode cX4_isOf 4 = .ok (.ifCond .eq 11, 3) := by decide +kernel
theorem dX4_isOf_7 : decode cX4_isOf 7 = .ok (.aload_n 0, 1) := by decide +kernel
theorem dX4_isOf_8 : decode cX4_isOf 8 = .ok (.getfield 33, 3) := by decide +kernel
theorem dX4_isOf_11 : decode cX4_isOf 11 = .ok (.iload_n 1, 1) := by decide +kernel
theorem dX4_isOf_12 : decode cX4_isOf 12 = .ok (.if_icmp .ne 7, 3) := by decide +kernel
theorem dX4_isOf_15 : decode cX4_isOf 15 = .ok (.iconst 1, 1) := by decide +kernel
theorem dX4_isOf_16 : decode cX4_isOf 16 = .ok (.goto 4, 3) := by decide +kernel
theorem dX4_isOf_19 : decode cX4_isOf 19 = .ok (.iconst 0, 1) := by decide +kernel
theorem dX4_isOf_20 : decode cX4_isOf 20 = .ok (.ireturn, 1) := by decide +kernel
theorem dX4_isDue_0 : decode cX4_isDue 0 = .ok (.aload_n 0, 1) := by decide +kernel
theorem dX4_isDue_1 : decode cX4_isDue 1 = .ok (.getfield 24, 3) := by decide +kernel
theorem dX4_isDue_4 : decode cX4_isDue 4 = .ok (.iconst 5, 1) := by decide +kernel
theorem dX4_isDue_5 : decode cX4_isDue 5 = .ok (.if_icmp .gt 23, 3) := by decide +kernel
theorem dX4_isDue_8 : decode cX4_isDue 8 = .ok (.aload_n 0, 1) := by decide +kernel
theorem dX4_isDue_9 : decode cX4_isDue 9 = .ok (.getfield 30, 3) := by decide +kernel
theorem dX4_isDue_12 : decode cX4_isDue 12 = .ok (.iload_n 1, 1) := by decide +kernel
theorem dX4_isDue_13 : decode cX4_isDue 13 = .ok (.if_icmp .ne 15, 3) := by decide +kernel
theorem dX4_isDue_16 : decode cX4_isDue 16 = .ok (.aload_n 0, 1) := by decide +kernel
theorem dX4_isDue_17 : decode cX4_isDue 17 = .ok (.iload_n 2, 1) := by decide +kernel
theorem dX4_isDue_18 : decode cX4_isDue 18 = .ok (.invokevirtual 64, 3) := by decide +kernel
theorem dX4_isDue_21 : decode cX4_isDue 21 = .ok (.ifCond .eq 7, 3) := by decide +kernel
theorem dX4_isDue_24 : decode cX4_isDue 24 = .ok (.iconst 1, 1) := by decide +kernel
theorem dX4_isDue_25 : decode cX4_isDue 25 = .ok (.goto 4, 3) := by decide +kernel
theorem dX4_isDue_28 : decode cX4_isDue 28 = .ok (.iconst 0, 1) := by decide +kernel
theorem dX4_isDue_29 : decode cX4_isDue 29 = .ok (.ireturn, 1) := by decide +kernel
theorem dX4_firstOf_0 : decode cX4_firstOf 0 = .ok (.iconst 0, 1) := by decide +kernel
theorem dX4_firstOf_1 : decode cX4_firstOf 1 = .ok (.istore_n 2, 1) := by decide +kernel
theorem dX4_firstOf_2 : decode cX4_firstOf 2 = .ok (.iload_n 2, 1) := by decide +kernel
theorem dX4_firstOf_3 : decode cX4_firstOf 3 = .ok (.aload_n 0, 1) := by decide +kernel
theorem dX4_firstOf_4 : decode cX4_firstOf 4 = .ok (.getfield 20, 3) := by decide +kernel
theorem dX4_firstOf_7 : decode cX4_firstOf 7 = .ok (.if_icmp .ge 19, 3) := by decide +kernel
theorem dX4_firstOf_10 : decode cX4_firstOf 10 = .ok (.iload_n 1, 1) := by decide +kernel
theorem dX4_firstOf_11 : decode cX4_firstOf 11 = .ok (.iload_n 2, 1) := by decide +kernel
theorem dX4_firstOf_12 : decode cX4_firstOf 12 = .ok (.ishr, 1) := by decide +kernel
theorem dX4_firstOf_13 : decode cX4_firstOf 13 = .ok (.iconst 1, 1) := by decide +kernel
theorem dX4_firstOf_14 : decode cX4_firstOf 14 = .ok (.iand, 1) := by decide +kernel
theorem dX4_firstOf_15 : decode cX4_firstOf 15 = .ok (.ifCond .eq 5, 3) := by decide +kernel
theorem dX4_firstOf_18 : decode cX4_firstOf 18 = .ok (.iload_n 2, 1) := by decide +kernel
theorem dX4_firstOf_19 : decode cX4_firstOf 19 = .ok (.ireturn, 1) := by decide +kernel
theorem dX4_firstOf_20 : decode cX4_firstOf 20 = .ok (.iinc 2 1, 3) := by decide +kernel
theorem dX4_firstOf_23 : decode cX4_firstOf 23 = .ok (.goto (-21), 3) := by decide +kernel
theorem dX4_firstOf_26 : decode cX4_firstOf 26 = .ok (.bipush (-100), 2) := by decide +kernel
theorem dX4_firstOf_28 : decode cX4_firstOf 28 = .ok (.ireturn, 1) := by decide +kernel
theorem dX4_isFor_0 : decode cX4_isFor 0 = .ok (.aload_n 0, 1) := by decide +kernel
theorem dX4_isFor_1 : decode cX4_isFor 1 = .ok (.getfield 27, 3) := by decide +kernel
theorem dX4_isFor_4 : decode cX4_isFor 4 = .ok (.ifCond .ne 5, 3) := by decide +kernel
theorem dX4_isFor_7 : decode cX4_isFor 7 = .ok (.iconst 1, 1) := by decide +kernel
theorem dX4_isFor_8 : decode cX4_isFor 8 = .ok (.ireturn, 1) := by decide +kernel
theorem dX4_isFor_9 : decode cX4_isFor 9 = .ok (.aload_n 0, 1) := by decide +kernel
theorem dX4_isFor_10 : decode cX4_isFor 10 = .ok (.getfield 27, 3) := by decide +kernel
theorem dX4_isFor_13 : decode cX4_isFor 13 = .ok (.bipush 6, 2) := by decide +kernel
theorem dX4_isFor_15 : decode cX4_isFor 15 = .ok (.if_icmp .ne 5, 3) := by decide +kernel
theorem dX4_isFor_18 : decode cX4_isFor 18 = .ok (.iconst 0, 1) := by decide +kernel
theorem dX4_isFor_19 : decode cX4_isFor 19 = .ok (.ireturn, 1) := by decide +kernel
theorem dX4_isFor_20 : decode cX4_isFor 20 = .ok (.aload_n 0, 1) := by decide +kernel
theorem dX4_isFor_21 : decode cX4_isFor 21 = .ok (.getfield 27, 3) := by decide +kernel
theorem dX4_isFor_24 : decode cX4_isFor 24 = .ok (.iconst 5, 1) := by decide +kernel
theorem dX4_isFor_25 : decode cX4_isFor 25 = .ok (.if_icmp .ne 16, 3) := by decide +kernel
theorem dX4_isFor_28 : decode cX4_isFor 28 = .ok (.aload_n 1, 1) := by decide +kernel
theorem dX4_isFor_29 : decode cX4_isFor 29 = .ok (.getfield 67, 3) := by decide +kernel
theorem dX4_isFor_32 : decode cX4_isFor 32 = .ok (.ifCond .le 7, 3) := by decide +kernel
theorem dX4_isFor_35 : decode cX4_isFor 35 = .ok (.iconst 1, 1) := by decide +kernel
theorem dX4_isFor_36 : decode cX4_isFor 36 = .ok (.goto 4, 3) := by decide +kernel
theorem dX4_isFor_39 : decode cX4_isFor 39 = .ok (.iconst 0, 1) := by decide +kernel
theorem dX4_isFor_40 : decode cX4_isFor 40 = .ok (.ireturn, 1) := by decide +kernel
theorem dX4_isFor_41 : decode cX4_isFor 41 = .ok (.aload_n 1, 1) := by decide +kernel
theorem dX4_isFor_42 : decode cX4_isFor 42 = .ok (.getfield 72, 3) := by decide +kernel
theorem dX4_isFor_45 : decode cX4_isFor 45 = .ok (.aload_n 0, 1) := by decide +kernel
theorem dX4_isFor_46 : decode cX4_isFor 46 = .ok (.getfield 27, 3) := by decide +kernel
theorem dX4_isFor_49 : decode cX4_isFor 49 = .ok (.iconst 1, 1) := by decide +kernel
theorem dX4_isFor_50 : decode cX4_isFor 50 = .ok (.isub, 1) := by decide +kernel
theorem dX4_isFor_51 : decode cX4_isFor 51 = .ok (.if_icmp .ne 7, 3) := by decide +kernel
theorem dX4_isFor_54 : decode cX4_isFor 54 = .ok (.iconst 1, 1) := by decide +kernel
theorem dX4_isFor_55 : decode cX4_isFor 55 = .ok (.goto 4, 3) := by decide +kernel
theorem dX4_isFor_58 : decode cX4_isFor 58 = .ok (.iconst 0, 1) := by decide +kernel
theorem dX4_isFor_59 : decode cX4_isFor 59 = .ok (.ireturn, 1) := by decide +kernel
theorem dX5_init_0 : decode cX5_init 0 = .ok (.aload_n 0, 1) := by decide +kernel
theorem dX5_init_1 : decode cX5_init 1 = .ok (.invokespecial 3, 3) := by decide +kernel
theorem dX5_init_4 : decode cX5_init 4 = .ok (.aload_n 0, 1) := by decide +kernel
theorem dX5_init_5 : decode cX5_init 5 = .ok (.aload_n 1, 1) := by decide +kernel
theorem dX5_init_6 : decode cX5_init 6 = .ok (.putfield 9, 3) := by decide +kernel
theorem dX5_init_9 : decode cX5_init 9 = .ok (.return_, 1) := by decide +kernel
theorem dX5_begin_0 : decode cX5_begin 0 = .ok (.aload_n 0, 1) := by decide +kernel
theorem dX5_begin_1 : decode cX5_begin 1 = .ok (.getfield 9, 3) := by decide +kernel
theorem dX5_begin_4 : decode cX5_begin 4 = .ok (.iconst 0, 1) := by decide +kernel
theorem dX5_begin_5 : decode cX5_begin 5 = .ok (.putfield 15, 3) := by decide +kernel
theorem dX5_begin_8 : decode cX5_begin 8 = .ok (.iload_n 3, 1) := by decide +kernel
theorem dX5_begin_9 : decode cX5_begin 9 = .ok (.ifCond .lt 9, 3) := by decide +kernel
theorem dX5_begin_12 : decode cX5_begin 12 = .ok (.iload_n 3, 1) := by decide +kernel
theorem dX5_begin_13 : decode cX5_begin 13 = .ok (.bipush 16, 2) := by decide +kernel
theorem dX5_begin_15 : decode cX5_begin 15 = .ok (.if_icmp .lt 4, 3) := by decide +kernel
theorem dX5_begin_18 : decode cX5_begin 18 = .ok (.return_, 1) := by decide +kernel
theorem dX5_begin_19 : decode cX5_begin 19 = .ok (.aload_n 2, 1) := by decide +kernel
theorem dX5_begin_20 : decode cX5_begin 20 = .ok (.getfield 21, 3) := by decide +kernel
theorem dX5_begin_23 : decode cX5_begin 23 = .ok (.iload_n 3, 1) := by decide +kernel
theorem dX5_begin_24 : decode cX5_begin 24 = .ok (.iaload, 1) := by decide +kernel
theorem dX5_begin_25 : decode cX5_begin 25 = .ok (.bipush 16, 2) := by decide +kernel
theorem dX5_begin_27 : decode cX5_begin 27 = .ok (.invokestatic 27, 3) := by decide +kernel
theorem dX5_begin_30 : decode cX5_begin 30 = .ok (.istore 4, 2) := by decide +kernel
theorem dX5_begin_32 : decode cX5_begin 32 = .ok (.aload_n 2, 1) := by decide +kernel
theorem dX5_begin_33 : decode cX5_begin 33 = .ok (.getfield 33, 3) := by decide +kernel
theorem dX5_begin_36 : decode cX5_begin 36 = .ok (.iload_n 3, 1) := by decide +kernel
theorem dX5_begin_37 : decode cX5_begin 37 = .ok (.baload, 1) := by decide +kernel
theorem dX5_begin_38 : decode cX5_begin 38 = .ok (.ifCond .ne 18, 3) := by decide +kernel
theorem dX5_begin_41 : decode cX5_begin 41 = .ok (.aload_n 0, 1) := by decide +kernel
theorem dX5_begin_42 : decode cX5_begin 42 = .ok (.aload_n 1, 1) := by decide +kernel
theorem dX5_begin_43 : decode cX5_begin 43 = .ok (.aload_n 2, 1) := by decide +kernel
theorem dX5_begin_44 : decode cX5_begin 44 = .ok (.aload_n 2, 1) := by decide +kernel
theorem dX5_begin_45 : decode cX5_begin 45 = .ok (.getfield 37, 3) := by decide +kernel
theorem dX5_begin_48 : decode cX5_begin 48 = .ok (.iload_n 3, 1) := by decide +kernel
theorem dX5_begin_49 : decode cX5_begin 49 = .ok (.iaload, 1) := by decide +kernel
theorem dX5_begin_50 : decode cX5_begin 50 = .ok (.iload 4, 2) := by decide +kernel
theorem dX5_begin_52 : decode cX5_begin 52 = .ok (.invokevirtual 40, 3) := by decide +kernel
theorem dX5_begin_55 : decode cX5_begin 55 = .ok (.return_, 1) := by decide +kernel
theorem dX5_begin_56 : decode cX5_begin 56 = .ok (.aload_n 2, 1) := by decide +kernel
theorem dX5_begin_57 : decode cX5_begin 57 = .ok (.getfield 37, 3) := by decide +kernel
theorem dX5_begin_60 : decode cX5_begin 60 = .ok (.iload_n 3, 1) := by decide +kernel
theorem dX5_begin_61 : decode cX5_begin 61 = .ok (.iaload, 1) := by decide +kernel
theorem dX5_begin_62 : decode cX5_begin 62 = .ok (.istore 5, 2) := by decide +kernel
theorem dX5_begin_64 : decode cX5_begin 64 = .ok (.iconst 0, 1) := by decide +kernel
theorem dX5_begin_65 : decode cX5_begin 65 = .ok (.istore 6, 2) := by decide +kernel
theorem dX5_begin_67 : decode cX5_begin 67 = .ok (.iload 5, 2) := by decide +kernel
theorem dX5_begin_69 : decode cX5_begin 69 = .ok (.iload 4, 2) := by decide +kernel
theorem dX5_begin_71 : decode cX5_begin 71 = .ok (.if_icmp .ge 39, 3) := by decide +kernel
theorem dX5_begin_74 : decode cX5_begin 74 = .ok (.iload 6, 2) := by decide +kernel
theorem dX5_begin_76 : decode cX5_begin 76 = .ok (.bipush 16, 2) := by decide +kernel
theorem dX5_begin_78 : decode cX5_begin 78 = .ok (.if_icmp .ge 32, 3) := by decide +kernel
theorem dX5_begin_81 : decode cX5_begin 81 = .ok (.aload_n 1, 1) := by decide +kernel
theorem dX5_begin_82 : decode cX5_begin 82 = .ok (.iload 5, 2) := by decide +kernel
theorem dX5_begin_84 : decode cX5_begin 84 = .ok (.iload 4, 2) := by decide +kernel
theorem dX5_begin_86 : decode cX5_begin 86 = .ok (.invokestatic 44, 3) := by decide +kernel
theorem dX5_begin_89 : decode cX5_begin 89 = .ok (.istore 7, 2) := by decide +kernel
theorem dX5_begin_91 : decode cX5_begin 91 = .ok (.aload_n 0, 1) := by decide +kernel
theorem dX5_begin_92 : decode cX5_begin 92 = .ok (.aload_n 1, 1) := by decide +kernel
theorem dX5_begin_93 : decode cX5_begin 93 = .ok (.iload 5, 2) := by decide +kernel
theorem dX5_begin_95 : decode cX5_begin 95 = .ok (.iload 7, 2) := by decide +kernel
theorem dX5_begin_97 : decode cX5_begin 97 = .ok (.invokevirtual 48, 3) := by decide +kernel
theorem dX5_begin_100 : decode cX5_begin 100 = .ok (.iload 7, 2) := by decide +kernel
theorem dX5_begin_102 : decode cX5_begin 102 = .ok (.istore 5, 2) := by decide +kernel
theorem dX5_begin_104 : decode cX5_begin 104 = .ok (.iinc 6 1, 3) := by decide +kernel
theorem dX5_begin_107 : decode cX5_begin 107 = .ok (.goto (-40), 3) := by decide +kernel
theorem dX5_begin_110 : decode cX5_begin 110 = .ok (.return_, 1) := by decide +kernel
theorem dX5_beginJ_0 : decode cX5_beginJ 0 = .ok (.bipush (-100), 2) := by decide +kernel
theorem dX5_beginJ_2 : decode cX5_beginJ 2 = .ok (.istore 5, 2) := by decide +kernel
theorem dX5_beginJ_4 : decode cX5_beginJ 4 = .ok (.iload_n 3, 1) := by decide +kernel
theorem dX5_beginJ_5 : decode cX5_beginJ 5 = .ok (.istore 6, 2) := by decide +kernel
theorem dX5_beginJ_7 : decode cX5_beginJ 7 = .ok (.iload 6, 2) := by decide +kernel
theorem dX5_beginJ_9 : decode cX5_beginJ 9 = .ok (.iload 4, 2) := by decide +kernel
theorem dX5_beginJ_11 : decode cX5_beginJ 11 = .ok (.if_icmp .ge 80, 3) := by decide +kernel
theorem dX5_beginJ_14 : decode cX5_beginJ 14 = .ok (.aload_n 1, 1) := by decide +kernel
theorem dX5_beginJ_15 : decode cX5_beginJ 15 = .ok (.getfield 52, 3) := by decide +kernel
theorem dX5_beginJ_18 : decode cX5_beginJ 18 = .ok (.iload 6, 2) := by decide +kernel
theorem dX5_beginJ_20 : decode cX5_beginJ 20 = .ok (.iaload, 1) := by decide +kernel
theorem dX5_beginJ_21 : decode cX5_beginJ 21 = .ok (.invokestatic 57, 3) := by decide +kernel
theorem dX5_beginJ_24 : decode cX5_beginJ 24 = .ok (.istore 7, 2) := by decide +kernel
theorem dX5_beginJ_26 : decode cX5_beginJ 26 = .ok (.iload 7, 2) := by decide +kernel
theorem dX5_beginJ_28 : decode cX5_beginJ 28 = .ok (.ifCond .ne 7, 3) := by decide +kernel
theorem dX5_beginJ_31 : decode cX5_beginJ 31 = .ok (.iload 6, 2) := by decide +kernel
theorem dX5_beginJ_33 : decode cX5_beginJ 33 = .ok (.istore 5, 2) := by decide +kernel
theorem dX5_beginJ_35 : decode cX5_beginJ 35 = .ok (.aload_n 0, 1) := by decide +kernel
theorem dX5_beginJ_36 : decode cX5_beginJ 36 = .ok (.getfield 9, 3) := by decide +kernel
theorem dX5_beginJ_39 : decode cX5_beginJ 39 = .ok (.invokevirtual 61, 3) := by decide +kernel
theorem dX5_beginJ_42 : decode cX5_beginJ 42 = .ok (.aload_n 1, 1) := by decide +kernel
theorem dX5_beginJ_43 : decode cX5_beginJ 43 = .ok (.getfield 52, 3) := by decide +kernel
theorem dX5_beginJ_46 : decode cX5_beginJ 46 = .ok (.iload 6, 2) := by decide +kernel
theorem dX5_beginJ_48 : decode cX5_beginJ 48 = .ok (.iaload, 1) := by decide +kernel
theorem dX5_beginJ_49 : decode cX5_beginJ 49 = .ok (.iload 7, 2) := by decide +kernel
theorem dX5_beginJ_51 : decode cX5_beginJ 51 = .ok (.ifCond .eq 15, 3) := by decide +kernel
theorem dX5_beginJ_54 : decode cX5_beginJ 54 = .ok (.iload 5, 2) := by decide +kernel
theorem dX5_beginJ_56 : decode cX5_beginJ 56 = .ok (.bipush (-100), 2) := by decide +kernel
theorem dX5_beginJ_58 : decode cX5_beginJ 58 = .ok (.if_icmp .eq 8, 3) := by decide +kernel
theorem dX5_beginJ_61 : decode cX5_beginJ 61 = .ok (.iload 5, 2) := by decide +kernel
theorem dX5_beginJ_63 : decode cX5_beginJ 63 = .ok (.goto 5, 3) := by decide +kernel
theorem dX5_beginJ_66 : decode cX5_beginJ 66 = .ok (.iload 6, 2) := by decide +kernel
theorem dX5_beginJ_68 : decode cX5_beginJ 68 = .ok (.aload_n 1, 1) := by decide +kernel
theorem dX5_beginJ_69 : decode cX5_beginJ 69 = .ok (.getfield 65, 3) := by decide +kernel
theorem dX5_beginJ_72 : decode cX5_beginJ 72 = .ok (.iload 6, 2) := by decide +kernel
theorem dX5_beginJ_74 : decode cX5_beginJ 74 = .ok (.iaload, 1) := by decide +kernel
theorem dX5_beginJ_75 : decode cX5_beginJ 75 = .ok (.aload_n 2, 1) := by decide +kernel
theorem dX5_beginJ_76 : decode cX5_beginJ 76 = .ok (.getfield 68, 3) := by decide +kernel
theorem dX5_beginJ_79 : decode cX5_beginJ 79 = .ok (.iload 6, 2) := by decide +kernel
theorem dX5_beginJ_81 : decode cX5_beginJ 81 = .ok (.iaload, 1) := by decide +kernel
theorem dX5_beginJ_82 : decode cX5_beginJ 82 = .ok (.invokevirtual 71, 3) := by decide +kernel
theorem dX5_beginJ_85 : decode cX5_beginJ 85 = .ok (.iinc 6 1, 3) := by decide +kernel
theorem dX5_beginJ_88 : decode cX5_beginJ 88 = .ok (.goto (-81), 3) := by decide +kernel
theorem dX5_beginJ_91 : decode cX5_beginJ 91 = .ok (.return_, 1) := by decide +kernel
theorem dX5_syllableEnd_0 : decode cX5_syllableEnd 0 = .ok (.aload_n 0, 1) := by decide +kernel
theorem dX5_syllableEnd_1 : decode cX5_syllableEnd 1 = .ok (.getfield 52, 3) := by decide +kernel
theorem dX5_syllableEnd_4 : decode cX5_syllableEnd 4 = .ok (.iload_n 1, 1) := by decide +kernel
theorem dX5_syllableEnd_5 : decode cX5_syllableEnd 5 = .ok (.iaload, 1) := by decide +kernel
theorem dX5_syllableEnd_6 : decode cX5_syllableEnd 6 = .ok (.istore_n 3, 1) := by decide +kernel
theorem dX5_syllableEnd_7 : decode cX5_syllableEnd 7 = .ok (.iload_n 3, 1) := by decide +kernel
theorem dX5_syllableEnd_8 : decode cX5_syllableEnd 8 = .ok (.invokestatic 77, 3) := by decide +kernel
theorem dX5_syllableEnd_11 : decode cX5_syllableEnd 11 = .ok (.ifCond .eq 12, 3) := by decide +kernel
theorem dX5_syllableEnd_14 : decode cX5_syllableEnd 14 = .ok (.aload_n 0, 1) := by decide +kernel
theorem dX5_syllableEnd_15 : decode cX5_syllableEnd 15 = .ok (.iload_n 1, 1) := by decide +kernel
theorem dX5_syllableEnd_16 : decode cX5_syllableEnd 16 = .ok (.iconst 1, 1) := by decide +kernel
theorem dX5_syllableEnd_17 : decode cX5_syllableEnd 17 = .ok (.iadd, 1) := by decide +kernel
theorem dX5_syllableEnd_18 : decode cX5_syllableEnd 18 = .ok (.iload_n 2, 1) := by decide +kernel
theorem dX5_syllableEnd_19 : decode cX5_syllableEnd 19 = .ok (.invokestatic 80, 3) := by decide +kernel
theorem dX5_syllableEnd_22 : decode cX5_syllableEnd 22 = .ok (.ireturn, 1) := by decide +kernel
theorem dX5_syllableEnd_23 : decode cX5_syllableEnd 23 = .ok (.iload_n 3, 1) := by decide +kernel
theorem dX5_syllableEnd_24 : decode cX5_syllableEnd 24 = .ok (.bipush 43, 2) := by decide +kernel
theorem dX5_syllableEnd_26 : decode cX5_syllableEnd 26 = .ok (.if_icmp .ne 12, 3) := by decide +kernel
theorem dX5_syllableEnd_29 : decode cX5_syllableEnd 29 = .ok (.aload_n 0, 1) := by decide +kernel
theorem dX5_syllableEnd_30 : decode cX5_syllableEnd 30 = .ok (.iload_n 1, 1) := by decide +kernel
theorem dX5_syllableEnd_31 : decode cX5_syllableEnd 31 = .ok (.iconst 1, 1) := by decide +kernel
theorem dX5_syllableEnd_32 : decode cX5_syllableEnd 32 = .ok (.iadd, 1) := by decide +kernel
theorem dX5_syllableEnd_33 : decode cX5_syllableEnd 33 = .ok (.iload_n 2, 1) := by decide +kernel
theorem dX5_syllableEnd_34 : decode cX5_syllableEnd 34 = .ok (.invokestatic 83, 3) := by decide +kernel
theorem dX5_syllableEnd_37 : decode cX5_syllableEnd 37 = .ok (.ireturn, 1) := by decide +kernel
theorem dX5_syllableEnd_38 : decode cX5_syllableEnd 38 = .ok (.iload_n 3, 1) := by decide +kernel
theorem dX5_syllableEnd_39 : decode cX5_syllableEnd 39 = .ok (.invokestatic 86, 3) := by decide +kernel
theorem dX5_syllableEnd_42 : decode cX5_syllableEnd 42 = .ok (.ifCond .eq 10, 3) := by decide +kernel
theorem dX5_syllableEnd_45 : decode cX5_syllableEnd 45 = .ok (.aload_n 0, 1) := by decide +kernel
theorem dX5_syllableEnd_46 : decode cX5_syllableEnd 46 = .ok (.iload_n 1, 1) := by decide +kernel
theorem dX5_syllableEnd_47 : decode cX5_syllableEnd 47 = .ok (.iload_n 2, 1) := by decide +kernel
theorem dX5_syllableEnd_48 : decode cX5_syllableEnd 48 = .ok (.invokestatic 80, 3) := by decide +kernel
theorem dX5_syllableEnd_51 : decode cX5_syllableEnd 51 = .ok (.ireturn, 1) := by decide +kernel
theorem dX5_syllableEnd_52 : decode cX5_syllableEnd 52 = .ok (.iload_n 1, 1) := by decide +kernel
theorem dX5_syllableEnd_53 : decode cX5_syllableEnd 53 = .ok (.iconst 1, 1) := by decide +kernel
theorem dX5_syllableEnd_54 : decode cX5_syllableEnd 54 = .ok (.iadd, 1) := by decide +kernel
theorem dX5_syllableEnd_55 : decode cX5_syllableEnd 55 = .ok (.ireturn, 1) := by decide +kernel
theorem dX5_stackEnd_0 : decode cX5_stackEnd 0 = .ok (.iload_n 1, 1) := by decide +kernel
